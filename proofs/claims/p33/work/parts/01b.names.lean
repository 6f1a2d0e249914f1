def RX0 : String := "Koebehall$Disk"
def TX0 : u_T := fun k => match k with
  | 0 => ("Koebehall$Disk", "x", "J", true)
  | 1 => ("Koebehall$Disk", "y", "J", true)
  | _ => ("Koebehall$Disk", "radius", "J", true)
def tyX0 : Nat → FieldType := fun k => match k with
  | 0 => .long
  | 1 => .long
  | _ => .long
abbrev wsX00 : List Cond := u_ws RX0 TX0 3
theorem nmX0 : ∀ a, a < 3 → ∀ b, b < 3 → a ≠ b → (TX0 a).2.1 ≠ (TX0 b).2.1 := by decide +kernel
theorem tyX0_ok : ∀ k, k < 3 → parseFieldDescriptor (TX0 k).2.2.1 = some (tyX0 k) := by decide +kernel
abbrev cX0_init : ByteArray := prog_2_method_1_code
def yX0_init : MethodName := ⟨RX0, "<init>", "(JJJ)V"⟩
abbrev cX0_howItLies : ByteArray := prog_2_method_2_code
def yX0_howItLies : MethodName := ⟨RX0, "howItLies", "(LKoebehall$Disk;)I"⟩
def RX1 : String := "Koebehall$Fractions"
def TX1 : u_T := fun k => match k with
  | _ => ("", "", "", false)
def tyX1 : Nat → FieldType := fun k => match k with
  | _ => .int
abbrev wsX10 : List Cond := u_ws RX1 TX1 0
theorem nmX1 : ∀ a, a < 0 → ∀ b, b < 0 → a ≠ b → (TX1 a).2.1 ≠ (TX1 b).2.1 := by decide +kernel
theorem tyX1_ok : ∀ k, k < 0 → parseFieldDescriptor (TX1 k).2.2.1 = some (tyX1 k) := by decide +kernel
abbrev cX1_isLowest : ByteArray := prog_3_method_2_code
def yX1_isLowest : MethodName := ⟨RX1, "isLowest", "(JJ)Z"⟩
abbrev cX1_crossed : ByteArray := prog_3_method_3_code
def yX1_crossed : MethodName := ⟨RX1, "crossed", "(JJJJ)J"⟩
abbrev cX1_simplest : ByteArray := prog_3_method_4_code
def yX1_simplest : MethodName := ⟨RX1, "simplest", "(JJJJZ)J"⟩
def RX2 : String := "Koebehall$Gasket"
def TX2 : u_T := fun k => match k with
  | 0 => ("Koebehall$Gasket", "four", "[J", true)
  | 1 => ("Koebehall$Gasket", "least", "[J", true)
  | _ => ("Koebehall$Gasket", "walked", "[J", true)
def tyX2 : Nat → FieldType := fun k => match k with
  | 0 => .array .long
  | 1 => .array .long
  | _ => .array .long
abbrev wsX20 : List Cond := u_ws RX2 TX2 3
theorem nmX2 : ∀ a, a < 3 → ∀ b, b < 3 → a ≠ b → (TX2 a).2.1 ≠ (TX2 b).2.1 := by decide +kernel
theorem tyX2_ok : ∀ k, k < 3 → parseFieldDescriptor (TX2 k).2.2.1 = some (tyX2 k) := by decide +kernel
abbrev cX2_init : ByteArray := prog_4_method_1_code
def yX2_init : MethodName := ⟨RX2, "<init>", "(JJJJ)V"⟩
abbrev cX2_rowOf : ByteArray := prog_4_method_2_code
def yX2_rowOf : MethodName := ⟨RX2, "rowOf", "(JJJJ)[J"⟩
abbrev cX2_rootOf : ByteArray := prog_4_method_3_code
def yX2_rootOf : MethodName := ⟨RX2, "rootOf", "(JJJJ)[J"⟩
abbrev cX2_areOfGasket : ByteArray := prog_4_method_4_code
def yX2_areOfGasket : MethodName := ⟨RX2, "areOfGasket", "(JJJJ)Z"⟩
abbrev cX2_turnedAt : ByteArray := prog_4_method_5_code
def yX2_turnedAt : MethodName := ⟨RX2, "turnedAt", "([JI)J"⟩
abbrev cX2_bringToRoot : ByteArray := prog_4_method_6_code
def yX2_bringToRoot : MethodName := ⟨RX2, "bringToRoot", "([J)V"⟩
abbrev cX2_greatestPlace : ByteArray := prog_4_method_7_code
def yX2_greatestPlace : MethodName := ⟨RX2, "greatestPlace", "([J)I"⟩
abbrev cX2_putInOrder : ByteArray := prog_4_method_8_code
def yX2_putInOrder : MethodName := ⟨RX2, "putInOrder", "([J)V"⟩
abbrev cX2_circlesByTurns : ByteArray := prog_4_method_9_code
def yX2_circlesByTurns : MethodName := ⟨RX2, "circlesByTurns", "(I)I"⟩
abbrev cX2_circlesOfRoot : ByteArray := prog_4_method_10_code
def yX2_circlesOfRoot : MethodName := ⟨RX2, "circlesOfRoot", "(I)I"⟩
abbrev cX2_circlesOfRows : ByteArray := prog_4_method_11_code
def yX2_circlesOfRows : MethodName := ⟨RX2, "circlesOfRows", "([JIII)I"⟩
abbrev cX2_circlesByThrees : ByteArray := prog_4_method_12_code
def yX2_circlesByThrees : MethodName := ⟨RX2, "circlesByThrees", "(I)I"⟩
abbrev cX2_circlesAmong : ByteArray := prog_4_method_13_code
def yX2_circlesAmong : MethodName := ⟨RX2, "circlesAmong", "(JJJII)I"⟩
abbrev cX2_wholeRoot : ByteArray := prog_4_method_14_code
def yX2_wholeRoot : MethodName := ⟨RX2, "wholeRoot", "(J)J"⟩
def RX3 : String := "Koebehall$Net"
def TX3 : u_T := fun k => match k with
  | 0 => ("Koebehall$Net", "named", "[I", true)
  | 1 => ("Koebehall$Net", "thirds", "[I", true)
  | 2 => ("Koebehall$Net", "cornerCount", "I", false)
  | _ => ("Koebehall$Net", "faceCount", "I", false)
def tyX3 : Nat → FieldType := fun k => match k with
  | 0 => .array .int
  | 1 => .array .int
  | 2 => .int
  | _ => .int
abbrev wsX30 : List Cond := u_ws RX3 TX3 4
theorem nmX3 : ∀ a, a < 4 → ∀ b, b < 4 → a ≠ b → (TX3 a).2.1 ≠ (TX3 b).2.1 := by decide +kernel
theorem tyX3_ok : ∀ k, k < 4 → parseFieldDescriptor (TX3 k).2.2.1 = some (tyX3 k) := by decide +kernel
abbrev cX3_init : ByteArray := prog_5_method_1_code
def yX3_init : MethodName := ⟨RX3, "<init>", "()V"⟩
abbrev cX3_hasFace : ByteArray := prog_5_method_2_code
def yX3_hasFace : MethodName := ⟨RX3, "hasFace", "(I)Z"⟩
abbrev cX3_hasCorner : ByteArray := prog_5_method_3_code
def yX3_hasCorner : MethodName := ⟨RX3, "hasCorner", "(I)Z"⟩
abbrev cX3_isFull : ByteArray := prog_5_method_4_code
def yX3_isFull : MethodName := ⟨RX3, "isFull", "()Z"⟩
abbrev cX3_cornerOf : ByteArray := prog_5_method_5_code
def yX3_cornerOf : MethodName := ⟨RX3, "cornerOf", "(II)I"⟩
abbrev cX3_splitFace : ByteArray := prog_5_method_6_code
def yX3_splitFace : MethodName := ⟨RX3, "splitFace", "(I)I"⟩
abbrev cX3_putFace : ByteArray := prog_5_method_7_code
def yX3_putFace : MethodName := ⟨RX3, "putFace", "(IIII)V"⟩
abbrev cX3_putCorners : ByteArray := prog_5_method_8_code
def yX3_putCorners : MethodName := ⟨RX3, "putCorners", "(IIII)V"⟩
abbrev cX3_putThird : ByteArray := prog_5_method_9_code
def yX3_putThird : MethodName := ⟨RX3, "putThird", "(III)V"⟩
abbrev cX3_thirdOf : ByteArray := prog_5_method_10_code
def yX3_thirdOf : MethodName := ⟨RX3, "thirdOf", "(II)I"⟩
abbrev cX3_areNeighbours : ByteArray := prog_5_method_11_code
def yX3_areNeighbours : MethodName := ⟨RX3, "areNeighbours", "(II)Z"⟩
abbrev cX3_canFlip : ByteArray := prog_5_method_12_code
def yX3_canFlip : MethodName := ⟨RX3, "canFlip", "(II)Z"⟩
abbrev cX3_flipEdge : ByteArray := prog_5_method_13_code
def yX3_flipEdge : MethodName := ⟨RX3, "flipEdge", "(II)I"⟩
abbrev cX3_faceWith : ByteArray := prog_5_method_14_code
def yX3_faceWith : MethodName := ⟨RX3, "faceWith", "(II)I"⟩
abbrev cX3_neighbourAt : ByteArray := prog_5_method_15_code
def yX3_neighbourAt : MethodName := ⟨RX3, "neighbourAt", "(II)I"⟩
abbrev cX3_lowestNeighbour : ByteArray := prog_5_method_16_code
def yX3_lowestNeighbour : MethodName := ⟨RX3, "lowestNeighbour", "(I)I"⟩
abbrev cX3_edgeCount : ByteArray := prog_5_method_17_code
def yX3_edgeCount : MethodName := ⟨RX3, "edgeCount", "()I"⟩
abbrev cX3_flippableCount : ByteArray := prog_5_method_18_code
def yX3_flippableCount : MethodName := ⟨RX3, "flippableCount", "()I"⟩
abbrev cX3_mostNeighbours : ByteArray := prog_5_method_19_code
def yX3_mostNeighbours : MethodName := ⟨RX3, "mostNeighbours", "()I"⟩
abbrev cX3_facesAt : ByteArray := prog_5_method_20_code
def yX3_facesAt : MethodName := ⟨RX3, "facesAt", "(I)I"⟩
def RX4 : String := "Koebehall$Network"
def TX4 : u_T := fun k => match k with
  | 0 => ("Koebehall$Network", "wires", "Ljava/util/ArrayList;", true)
  | 1 => ("Koebehall$Network", "rows", "[[J", true)
  | _ => ("Koebehall$Network", "nodeCount", "I", false)
def tyX4 : Nat → FieldType := fun k => match k with
  | 0 => .object "java/util/ArrayList"
  | 1 => .array (.array .long)
  | _ => .int
abbrev wsX40 : List Cond := u_ws RX4 TX4 3
theorem nmX4 : ∀ a, a < 3 → ∀ b, b < 3 → a ≠ b → (TX4 a).2.1 ≠ (TX4 b).2.1 := by decide +kernel
theorem tyX4_ok : ∀ k, k < 3 → parseFieldDescriptor (TX4 k).2.2.1 = some (tyX4 k) := by decide +kernel
abbrev cX4_init : ByteArray := prog_6_method_1_code
def yX4_init : MethodName := ⟨RX4, "<init>", "()V"⟩
abbrev cX4_beginAnew : ByteArray := prog_6_method_2_code
def yX4_beginAnew : MethodName := ⟨RX4, "beginAnew", "(I)I"⟩
abbrev cX4_hasNode : ByteArray := prog_6_method_3_code
def yX4_hasNode : MethodName := ⟨RX4, "hasNode", "(I)Z"⟩
abbrev cX4_hasWire : ByteArray := prog_6_method_4_code
def yX4_hasWire : MethodName := ⟨RX4, "hasWire", "(I)Z"⟩
abbrev cX4_treesByTable : ByteArray := prog_6_method_5_code
def yX4_treesByTable : MethodName := ⟨RX4, "treesByTable", "()J"⟩
abbrev cX4_fillTable : ByteArray := prog_6_method_6_code
def yX4_fillTable : MethodName := ⟨RX4, "fillTable", "(I)V"⟩
abbrev cX4_lineOf : ByteArray := prog_6_method_7_code
def yX4_lineOf : MethodName := ⟨RX4, "lineOf", "(II)I"⟩
abbrev cX4_addToTable : ByteArray := prog_6_method_8_code
def yX4_addToTable : MethodName := ⟨RX4, "addToTable", "(IIJ)V"⟩
abbrev cX4_determinant : ByteArray := prog_6_method_9_code
def yX4_determinant : MethodName := ⟨RX4, "determinant", "(I)J"⟩
abbrev cX4_pivotRow : ByteArray := prog_6_method_10_code
def yX4_pivotRow : MethodName := ⟨RX4, "pivotRow", "(II)I"⟩
abbrev cX4_swapRows : ByteArray := prog_6_method_11_code
def yX4_swapRows : MethodName := ⟨RX4, "swapRows", "(II)V"⟩
abbrev cX4_reduceBelow : ByteArray := prog_6_method_12_code
def yX4_reduceBelow : MethodName := ⟨RX4, "reduceBelow", "(IIJ)V"⟩
abbrev cX4_treesBySets : ByteArray := prog_6_method_13_code
def yX4_treesBySets : MethodName := ⟨RX4, "treesBySets", "()I"⟩
abbrev cX4_hangsTogether : ByteArray := prog_6_method_14_code
def yX4_hangsTogether : MethodName := ⟨RX4, "hangsTogether", "(I)Z"⟩
abbrev cX4_heightOf : ByteArray := prog_6_method_15_code
def yX4_heightOf : MethodName := ⟨RX4, "heightOf", "(III)J"⟩
abbrev cX4_fallAlong : ByteArray := prog_6_method_16_code
def yX4_fallAlong : MethodName := ⟨RX4, "fallAlong", "(III)J"⟩
def RX5 : String := "Koebehall$RemainderWalk"
def TX5 : u_T := fun k => match k with
  | 0 => ("Koebehall$RemainderWalk", "seen", "[J", true)
  | _ => ("Koebehall$RemainderWalk", "waiting", "[J", true)
def tyX5 : Nat → FieldType := fun k => match k with
  | 0 => .array .long
  | _ => .array .long
abbrev wsX50 : List Cond := u_ws RX5 TX5 2
theorem nmX5 : ∀ a, a < 2 → ∀ b, b < 2 → a ≠ b → (TX5 a).2.1 ≠ (TX5 b).2.1 := by decide +kernel
theorem tyX5_ok : ∀ k, k < 2 → parseFieldDescriptor (TX5 k).2.2.1 = some (tyX5 k) := by decide +kernel
abbrev cX5_init : ByteArray := prog_7_method_1_code
def yX5_init : MethodName := ⟨RX5, "<init>", "()V"⟩
abbrev cX5_allReached : ByteArray := prog_7_method_2_code
def yX5_allReached : MethodName := ⟨RX5, "allReached", "([JI)I"⟩
abbrev cX5_codeOf : ByteArray := prog_7_method_3_code
def yX5_codeOf : MethodName := ⟨RX5, "codeOf", "([JI)I"⟩
abbrev cX5_remainderAt : ByteArray := prog_7_method_4_code
def yX5_remainderAt : MethodName := ⟨RX5, "remainderAt", "(II)I"⟩
abbrev cX5_turnedCode : ByteArray := prog_7_method_5_code
def yX5_turnedCode : MethodName := ⟨RX5, "turnedCode", "(III)I"⟩
abbrev cX5_noteCode : ByteArray := prog_7_method_6_code
def yX5_noteCode : MethodName := ⟨RX5, "noteCode", "(I)V"⟩
abbrev cX5_takeWaiting : ByteArray := prog_7_method_7_code
def yX5_takeWaiting : MethodName := ⟨RX5, "takeWaiting", "()I"⟩
def RX6 : String := "Koebehall$Table"
def TX6 : u_T := fun k => match k with
  | 0 => ("Koebehall$Table", "a", "J", true)
  | 1 => ("Koebehall$Table", "b", "J", true)
  | 2 => ("Koebehall$Table", "c", "J", true)
  | _ => ("Koebehall$Table", "d", "J", true)
def tyX6 : Nat → FieldType := fun k => match k with
  | 0 => .long
  | 1 => .long
  | 2 => .long
  | _ => .long
abbrev wsX60 : List Cond := u_ws RX6 TX6 4
theorem nmX6 : ∀ a, a < 4 → ∀ b, b < 4 → a ≠ b → (TX6 a).2.1 ≠ (TX6 b).2.1 := by decide +kernel
theorem tyX6_ok : ∀ k, k < 4 → parseFieldDescriptor (TX6 k).2.2.1 = some (tyX6 k) := by decide +kernel
abbrev cX6_init : ByteArray := prog_8_method_1_code
def yX6_init : MethodName := ⟨RX6, "<init>", "(JJJJ)V"⟩
abbrev cX6_undone : ByteArray := prog_8_method_2_code
def yX6_undone : MethodName := ⟨RX6, "undone", "()LKoebehall$Table;"⟩
abbrev cX6_times : ByteArray := prog_8_method_3_code
def yX6_times : MethodName := ⟨RX6, "times", "(LKoebehall$Table;)LKoebehall$Table;"⟩
abbrev cX6_isWhollyWithin : ByteArray := prog_8_method_4_code
def yX6_isWhollyWithin : MethodName := ⟨RX6, "isWhollyWithin", "(J)Z"⟩
abbrev cX6_trace : ByteArray := prog_8_method_5_code
def yX6_trace : MethodName := ⟨RX6, "trace", "()J"⟩
abbrev cX6_kind : ByteArray := prog_8_method_6_code
def yX6_kind : MethodName := ⟨RX6, "kind", "()I"⟩
def RX7 : String := "Koebehall$Wire"
def TX7 : u_T := fun k => match k with
  | 0 => ("Koebehall$Wire", "first", "I", true)
  | _ => ("Koebehall$Wire", "second", "I", true)
def tyX7 : Nat → FieldType := fun k => match k with
  | 0 => .int
  | _ => .int
abbrev wsX70 : List Cond := u_ws RX7 TX7 2
theorem nmX7 : ∀ a, a < 2 → ∀ b, b < 2 → a ≠ b → (TX7 a).2.1 ≠ (TX7 b).2.1 := by decide +kernel
theorem tyX7_ok : ∀ k, k < 2 → parseFieldDescriptor (TX7 k).2.2.1 = some (tyX7 k) := by decide +kernel
abbrev cX7_init : ByteArray := prog_9_method_1_code
def yX7_init : MethodName := ⟨RX7, "<init>", "(II)V"⟩
def RX8 : String := "Koebehall"
def TX8 : u_T := fun k => match k with
  | 0 => ("Koebehall", "sphere", "LKoebehall$Net;", true)
  | 1 => ("Koebehall", "disks", "Ljava/util/ArrayList;", true)
  | 2 => ("Koebehall", "gaskets", "Ljava/util/ArrayList;", true)
  | 3 => ("Koebehall", "remainderWalk", "LKoebehall$RemainderWalk;", true)
  | 4 => ("Koebehall", "moves", "Ljava/util/ArrayList;", true)
  | 5 => ("Koebehall", "product", "LKoebehall$Table;", false)
  | _ => ("Koebehall", "network", "LKoebehall$Network;", true)
def tyX8 : Nat → FieldType := fun k => match k with
  | 0 => .object "Koebehall$Net"
  | 1 => .object "java/util/ArrayList"
  | 2 => .object "java/util/ArrayList"
  | 3 => .object "Koebehall$RemainderWalk"
  | 4 => .object "java/util/ArrayList"
  | 5 => .object "Koebehall$Table"
  | _ => .object "Koebehall$Network"
abbrev wsX80 : List Cond := u_ws RX8 TX8 7
theorem nmX8 : ∀ a, a < 7 → ∀ b, b < 7 → a ≠ b → (TX8 a).2.1 ≠ (TX8 b).2.1 := by decide +kernel
theorem tyX8_ok : ∀ k, k < 7 → parseFieldDescriptor (TX8 k).2.2.1 = some (tyX8 k) := by decide +kernel
abbrev cX8_init : ByteArray := prog_1_method_1_code
def yX8_init : MethodName := ⟨RX8, "<init>", "()V"⟩
abbrev cX8_split : ByteArray := prog_1_method_2_code
def yX8_split : MethodName := ⟨RX8, "split", "(I)I"⟩
abbrev cX8_flip : ByteArray := prog_1_method_3_code
def yX8_flip : MethodName := ⟨RX8, "flip", "(II)I"⟩
abbrev cX8_corner : ByteArray := prog_1_method_4_code
def yX8_corner : MethodName := ⟨RX8, "corner", "(II)I"⟩
abbrev cX8_around : ByteArray := prog_1_method_5_code
def yX8_around : MethodName := ⟨RX8, "around", "(II)I"⟩
abbrev cX8_net : ByteArray := prog_1_method_6_code
def yX8_net : MethodName := ⟨RX8, "net", "(I)I"⟩
abbrev cX8_disk : ByteArray := prog_1_method_7_code
def yX8_disk : MethodName := ⟨RX8, "disk", "(III)I"⟩
abbrev cX8_move : ByteArray := prog_1_method_8_code
def yX8_move : MethodName := ⟨RX8, "move", "(IIII)I"⟩
abbrev cX8_lie : ByteArray := prog_1_method_9_code
def yX8_lie : MethodName := ⟨RX8, "lie", "(II)I"⟩
abbrev cX8_pairs : ByteArray := prog_1_method_10_code
def yX8_pairs : MethodName := ⟨RX8, "pairs", "(I)I"⟩
abbrev cX8_draws : ByteArray := prog_1_method_11_code
def yX8_draws : MethodName := ⟨RX8, "draws", "()Z"⟩
abbrev cX8_isDisk : ByteArray := prog_1_method_12_code
def yX8_isDisk : MethodName := ⟨RX8, "isDisk", "(III)Z"⟩
abbrev cX8_hasDisk : ByteArray := prog_1_method_13_code
def yX8_hasDisk : MethodName := ⟨RX8, "hasDisk", "(I)Z"⟩
abbrev cX8_howDisksLie : ByteArray := prog_1_method_14_code
def yX8_howDisksLie : MethodName := ⟨RX8, "howDisksLie", "(II)I"⟩
abbrev cX8_isWithin : ByteArray := prog_1_method_15_code
def yX8_isWithin : MethodName := ⟨RX8, "isWithin", "(JJ)Z"⟩
abbrev cX8_gasket : ByteArray := prog_1_method_16_code
def yX8_gasket : MethodName := ⟨RX8, "gasket", "(IIII)I"⟩
abbrev cX8_turn : ByteArray := prog_1_method_17_code
def yX8_turn : MethodName := ⟨RX8, "turn", "(II)J"⟩
abbrev cX8_curvature : ByteArray := prog_1_method_18_code
def yX8_curvature : MethodName := ⟨RX8, "curvature", "(II)J"⟩
abbrev cX8_radius : ByteArray := prog_1_method_19_code
def yX8_radius : MethodName := ⟨RX8, "radius", "(II)F"⟩
abbrev cX8_root : ByteArray := prog_1_method_20_code
def yX8_root : MethodName := ⟨RX8, "root", "(II)J"⟩
abbrev cX8_count : ByteArray := prog_1_method_21_code
def yX8_count : MethodName := ⟨RX8, "count", "(II)I"⟩
abbrev cX8_countAnew : ByteArray := prog_1_method_22_code
def yX8_countAnew : MethodName := ⟨RX8, "countAnew", "(II)I"⟩
abbrev cX8_remainders : ByteArray := prog_1_method_23_code
def yX8_remainders : MethodName := ⟨RX8, "remainders", "(II)I"⟩
abbrev cX8_areFourWithin : ByteArray := prog_1_method_24_code
def yX8_areFourWithin : MethodName := ⟨RX8, "areFourWithin", "(IIIII)Z"⟩
abbrev cX8_gasketOf : ByteArray := prog_1_method_25_code
def yX8_gasketOf : MethodName := ⟨RX8, "gasketOf", "(I)LKoebehall$Gasket;"⟩
abbrev cX8_fourOf : ByteArray := prog_1_method_26_code
def yX8_fourOf : MethodName := ⟨RX8, "fourOf", "(II)[J"⟩
abbrev cX8_boundedGasket : ByteArray := prog_1_method_27_code
def yX8_boundedGasket : MethodName := ⟨RX8, "boundedGasket", "(II)LKoebehall$Gasket;"⟩
abbrev cX8_ford : ByteArray := prog_1_method_28_code
def yX8_ford : MethodName := ⟨RX8, "ford", "(IIII)I"⟩
abbrev cX8_between : ByteArray := prog_1_method_29_code
def yX8_between : MethodName := ⟨RX8, "between", "(IIIIZ)J"⟩
abbrev cX8_refuseNoFraction : ByteArray := prog_1_method_30_code
def yX8_refuseNoFraction : MethodName := ⟨RX8, "refuseNoFraction", "(II)V"⟩
abbrev cX8_tell : ByteArray := prog_1_method_31_code
def yX8_tell : MethodName := ⟨RX8, "tell", "(IIII)I"⟩
abbrev cX8_append : ByteArray := prog_1_method_32_code
def yX8_append : MethodName := ⟨RX8, "append", "(IZ)I"⟩
abbrev cX8_home : ByteArray := prog_1_method_33_code
def yX8_home : MethodName := ⟨RX8, "home", "()I"⟩
abbrev cX8_word : ByteArray := prog_1_method_34_code
def yX8_word : MethodName := ⟨RX8, "word", "(I)I"⟩
abbrev cX8_image : ByteArray := prog_1_method_35_code
def yX8_image : MethodName := ⟨RX8, "image", "(IIZ)J"⟩
abbrev cX8_nodes : ByteArray := prog_1_method_36_code
def yX8_nodes : MethodName := ⟨RX8, "nodes", "(I)I"⟩
abbrev cX8_wire : ByteArray := prog_1_method_37_code
def yX8_wire : MethodName := ⟨RX8, "wire", "(II)I"⟩
abbrev cX8_trees : ByteArray := prog_1_method_38_code
def yX8_trees : MethodName := ⟨RX8, "trees", "()I"⟩
abbrev cX8_treesAnew : ByteArray := prog_1_method_39_code
def yX8_treesAnew : MethodName := ⟨RX8, "treesAnew", "()I"⟩
abbrev cX8_side : ByteArray := prog_1_method_40_code
def yX8_side : MethodName := ⟨RX8, "side", "(III)I"⟩
def RX9 : String := "KoebehallModel"
def TX9 : u_T := fun k => match k with
  | _ => ("", "", "", false)
def tyX9 : Nat → FieldType := fun k => match k with
  | _ => .int
abbrev wsX90 : List Cond := u_ws RX9 TX9 0
theorem nmX9 : ∀ a, a < 0 → ∀ b, b < 0 → a ≠ b → (TX9 a).2.1 ≠ (TX9 b).2.1 := by decide +kernel
theorem tyX9_ok : ∀ k, k < 0 → parseFieldDescriptor (TX9 k).2.2.1 = some (tyX9 k) := by decide +kernel
def RJx145de : String := "java/io/Serializable"
def TJx145de : u_T := fun k => match k with
  | _ => ("", "", "", false)
def tyJx145de : Nat → FieldType := fun k => match k with
  | _ => .int
abbrev wsJx145de0 : List Cond := u_ws RJx145de TJx145de 0
theorem nmJx145de : ∀ a, a < 0 → ∀ b, b < 0 → a ≠ b → (TJx145de a).2.1 ≠ (TJx145de b).2.1 := by decide +kernel
theorem tyJx145de_ok : ∀ k, k < 0 → parseFieldDescriptor (TJx145de k).2.2.1 = some (tyJx145de k) := by decide +kernel
def RJx8e188 : String := "java/lang/Cloneable"
def TJx8e188 : u_T := fun k => match k with
  | _ => ("", "", "", false)
def tyJx8e188 : Nat → FieldType := fun k => match k with
  | _ => .int
abbrev wsJx8e1880 : List Cond := u_ws RJx8e188 TJx8e188 0
theorem nmJx8e188 : ∀ a, a < 0 → ∀ b, b < 0 → a ≠ b → (TJx8e188 a).2.1 ≠ (TJx8e188 b).2.1 := by decide +kernel
theorem tyJx8e188_ok : ∀ k, k < 0 → parseFieldDescriptor (TJx8e188 k).2.2.1 = some (tyJx8e188 k) := by decide +kernel
def RJxb160c : String := "java/lang/Comparable"
def TJxb160c : u_T := fun k => match k with
  | _ => ("", "", "", false)
def tyJxb160c : Nat → FieldType := fun k => match k with
  | _ => .int
abbrev wsJxb160c0 : List Cond := u_ws RJxb160c TJxb160c 0
theorem nmJxb160c : ∀ a, a < 0 → ∀ b, b < 0 → a ≠ b → (TJxb160c a).2.1 ≠ (TJxb160c b).2.1 := by decide +kernel
theorem tyJxb160c_ok : ∀ k, k < 0 → parseFieldDescriptor (TJxb160c k).2.2.1 = some (tyJxb160c k) := by decide +kernel
def RJ6 : String := "java/lang/Integer"
def TJ6 : u_T := fun k => match k with
  | _ => ("", "", "", false)
def tyJ6 : Nat → FieldType := fun k => match k with
  | _ => .int
abbrev wsJ60 : List Cond := u_ws RJ6 TJ6 0
theorem nmJ6 : ∀ a, a < 0 → ∀ b, b < 0 → a ≠ b → (TJ6 a).2.1 ≠ (TJ6 b).2.1 := by decide +kernel
theorem tyJ6_ok : ∀ k, k < 0 → parseFieldDescriptor (TJ6 k).2.2.1 = some (tyJ6 k) := by decide +kernel
abbrev cJ6_numberOfLeadingZeros_0f7a4 : ByteArray := prog_19_method_47_code
def yJ6_numberOfLeadingZeros_0f7a4 : MethodName := ⟨RJ6, "numberOfLeadingZeros", "(I)I"⟩
abbrev cJ6_numberOfTrailingZeros_0f7a4 : ByteArray := prog_19_method_48_code
def yJ6_numberOfTrailingZeros_0f7a4 : MethodName := ⟨RJ6, "numberOfTrailingZeros", "(I)I"⟩
abbrev cJ6_bitCount_0f7a4 : ByteArray := prog_19_method_49_code
def yJ6_bitCount_0f7a4 : MethodName := ⟨RJ6, "bitCount", "(I)I"⟩
def RJxab1ab : String := "java/lang/Iterable"
def TJxab1ab : u_T := fun k => match k with
  | _ => ("", "", "", false)
def tyJxab1ab : Nat → FieldType := fun k => match k with
  | _ => .int
abbrev wsJxab1ab0 : List Cond := u_ws RJxab1ab TJxab1ab 0
theorem nmJxab1ab : ∀ a, a < 0 → ∀ b, b < 0 → a ≠ b → (TJxab1ab a).2.1 ≠ (TJxab1ab b).2.1 := by decide +kernel
theorem tyJxab1ab_ok : ∀ k, k < 0 → parseFieldDescriptor (TJxab1ab k).2.2.1 = some (tyJxab1ab k) := by decide +kernel
def RJ13 : String := "java/lang/Long"
def TJ13 : u_T := fun k => match k with
  | _ => ("", "", "", false)
def tyJ13 : Nat → FieldType := fun k => match k with
  | _ => .int
abbrev wsJ130 : List Cond := u_ws RJ13 TJ13 0
theorem nmJ13 : ∀ a, a < 0 → ∀ b, b < 0 → a ≠ b → (TJ13 a).2.1 ≠ (TJ13 b).2.1 := by decide +kernel
theorem tyJ13_ok : ∀ k, k < 0 → parseFieldDescriptor (TJ13 k).2.2.1 = some (tyJ13 k) := by decide +kernel
abbrev cJ13_numberOfLeadingZeros_95d88 : ByteArray := prog_21_method_48_code
def yJ13_numberOfLeadingZeros_95d88 : MethodName := ⟨RJ13, "numberOfLeadingZeros", "(J)I"⟩
abbrev cJ13_numberOfTrailingZeros_95d88 : ByteArray := prog_21_method_49_code
def yJ13_numberOfTrailingZeros_95d88 : MethodName := ⟨RJ13, "numberOfTrailingZeros", "(J)I"⟩
def RJ9 : String := "java/lang/Math"
def TJ9 : u_T := fun k => match k with
  | _ => ("", "", "", false)
def tyJ9 : Nat → FieldType := fun k => match k with
  | _ => .int
abbrev wsJ90 : List Cond := u_ws RJ9 TJ9 0
theorem nmJ9 : ∀ a, a < 0 → ∀ b, b < 0 → a ≠ b → (TJ9 a).2.1 ≠ (TJ9 b).2.1 := by decide +kernel
theorem tyJ9_ok : ∀ k, k < 0 → parseFieldDescriptor (TJ9 k).2.2.1 = some (tyJ9 k) := by decide +kernel
abbrev cJ9_floorDiv_f86c9 : ByteArray := prog_22_method_49_code
def yJ9_floorDiv_f86c9 : MethodName := ⟨RJ9, "floorDiv", "(JJ)J"⟩
abbrev cJ9_floorMod_7cf53 : ByteArray := prog_22_method_50_code
def yJ9_floorMod_7cf53 : MethodName := ⟨RJ9, "floorMod", "(II)I"⟩
abbrev cJ9_floorMod_f86c9 : ByteArray := prog_22_method_52_code
def yJ9_floorMod_f86c9 : MethodName := ⟨RJ9, "floorMod", "(JJ)J"⟩
abbrev cJ9_abs_067f4 : ByteArray := prog_22_method_61_code
def yJ9_abs_067f4 : MethodName := ⟨RJ9, "abs", "(J)J"⟩
abbrev cJ9_max_7cf53 : ByteArray := prog_22_method_65_code
def yJ9_max_7cf53 : MethodName := ⟨RJ9, "max", "(II)I"⟩
abbrev cJ9_min_7cf53 : ByteArray := prog_22_method_69_code
def yJ9_min_7cf53 : MethodName := ⟨RJ9, "min", "(II)I"⟩
def RJxd2413 : String := "java/lang/Number"
def TJxd2413 : u_T := fun k => match k with
  | _ => ("", "", "", false)
def tyJxd2413 : Nat → FieldType := fun k => match k with
  | _ => .int
abbrev wsJxd24130 : List Cond := u_ws RJxd2413 TJxd2413 0
theorem nmJxd2413 : ∀ a, a < 0 → ∀ b, b < 0 → a ≠ b → (TJxd2413 a).2.1 ≠ (TJxd2413 b).2.1 := by decide +kernel
theorem tyJxd2413_ok : ∀ k, k < 0 → parseFieldDescriptor (TJxd2413 k).2.2.1 = some (tyJxd2413 k) := by decide +kernel
def RJ0 : String := "java/lang/String"
def TJ0 : u_T := fun k => match k with
  | _ => ("", "", "", false)
def tyJ0 : Nat → FieldType := fun k => match k with
  | _ => .int
abbrev wsJ00 : List Cond := u_ws RJ0 TJ0 0
theorem nmJ0 : ∀ a, a < 0 → ∀ b, b < 0 → a ≠ b → (TJ0 a).2.1 ≠ (TJ0 b).2.1 := by decide +kernel
theorem tyJ0_ok : ∀ k, k < 0 → parseFieldDescriptor (TJ0 k).2.2.1 = some (tyJ0 k) := by decide +kernel
def RJ10 : String := "java/lang/System"
def TJ10 : u_T := fun k => match k with
  | _ => ("", "", "", false)
def tyJ10 : Nat → FieldType := fun k => match k with
  | _ => .int
abbrev wsJ100 : List Cond := u_ws RJ10 TJ10 0
theorem nmJ10 : ∀ a, a < 0 → ∀ b, b < 0 → a ≠ b → (TJ10 a).2.1 ≠ (TJ10 b).2.1 := by decide +kernel
theorem tyJ10_ok : ∀ k, k < 0 → parseFieldDescriptor (TJ10 k).2.2.1 = some (tyJ10 k) := by decide +kernel
def RJxfd54e : String := "java/lang/constant/Constable"
def TJxfd54e : u_T := fun k => match k with
  | _ => ("", "", "", false)
def tyJxfd54e : Nat → FieldType := fun k => match k with
  | _ => .int
abbrev wsJxfd54e0 : List Cond := u_ws RJxfd54e TJxfd54e 0
theorem nmJxfd54e : ∀ a, a < 0 → ∀ b, b < 0 → a ≠ b → (TJxfd54e a).2.1 ≠ (TJxfd54e b).2.1 := by decide +kernel
theorem tyJxfd54e_ok : ∀ k, k < 0 → parseFieldDescriptor (TJxfd54e k).2.2.1 = some (tyJxfd54e k) := by decide +kernel
def RJx3cf43 : String := "java/lang/constant/ConstantDesc"
def TJx3cf43 : u_T := fun k => match k with
  | _ => ("", "", "", false)
def tyJx3cf43 : Nat → FieldType := fun k => match k with
  | _ => .int
abbrev wsJx3cf430 : List Cond := u_ws RJx3cf43 TJx3cf43 0
theorem nmJx3cf43 : ∀ a, a < 0 → ∀ b, b < 0 → a ≠ b → (TJx3cf43 a).2.1 ≠ (TJx3cf43 b).2.1 := by decide +kernel
theorem tyJx3cf43_ok : ∀ k, k < 0 → parseFieldDescriptor (TJx3cf43 k).2.2.1 = some (tyJx3cf43 k) := by decide +kernel
def RJxa1e45 : String := "java/util/AbstractCollection"
def TJxa1e45 : u_T := fun k => match k with
  | _ => ("", "", "", false)
def tyJxa1e45 : Nat → FieldType := fun k => match k with
  | _ => .int
abbrev wsJxa1e450 : List Cond := u_ws RJxa1e45 TJxa1e45 0
theorem nmJxa1e45 : ∀ a, a < 0 → ∀ b, b < 0 → a ≠ b → (TJxa1e45 a).2.1 ≠ (TJxa1e45 b).2.1 := by decide +kernel
theorem tyJxa1e45_ok : ∀ k, k < 0 → parseFieldDescriptor (TJxa1e45 k).2.2.1 = some (tyJxa1e45 k) := by decide +kernel
abbrev cJxa1e45_init_da8c8 : ByteArray := prog_30_method_1_code
def yJxa1e45_init_da8c8 : MethodName := ⟨RJxa1e45, "<init>", "()V"⟩
def RJxc12de : String := "java/util/AbstractList"
def TJxc12de : u_T := fun k => match k with
  | _ => ("", "", "", false)
def tyJxc12de : Nat → FieldType := fun k => match k with
  | _ => .int
abbrev wsJxc12de0 : List Cond := u_ws RJxc12de TJxc12de 0
theorem nmJxc12de : ∀ a, a < 0 → ∀ b, b < 0 → a ≠ b → (TJxc12de a).2.1 ≠ (TJxc12de b).2.1 := by decide +kernel
theorem tyJxc12de_ok : ∀ k, k < 0 → parseFieldDescriptor (TJxc12de k).2.2.1 = some (tyJxc12de k) := by decide +kernel
abbrev cJxc12de_init_da8c8 : ByteArray := prog_31_method_1_code
def yJxc12de_init_da8c8 : MethodName := ⟨RJxc12de, "<init>", "()V"⟩
def RJx4a65c : String := "java/util/ArrayList"
def TJx4a65c : u_T := fun k => match k with
  | 0 => ("java/util/AbstractList", "modCount", "I", false)
  | 1 => ("java/util/ArrayList", "elementData", "[Ljava/lang/Object;", false)
  | _ => ("java/util/ArrayList", "size", "I", false)
def tyJx4a65c : Nat → FieldType := fun k => match k with
  | 0 => .int
  | 1 => .array (.object "java/lang/Object")
  | _ => .int
abbrev wsJx4a65c0 : List Cond := u_ws RJx4a65c TJx4a65c 3
theorem nmJx4a65c : ∀ a, a < 3 → ∀ b, b < 3 → a ≠ b → (TJx4a65c a).2.1 ≠ (TJx4a65c b).2.1 := by decide +kernel
theorem tyJx4a65c_ok : ∀ k, k < 3 → parseFieldDescriptor (TJx4a65c k).2.2.1 = some (tyJx4a65c k) := by decide +kernel
abbrev cJx4a65c_init_da8c8 : ByteArray := prog_32_method_2_code
def yJx4a65c_init_da8c8 : MethodName := ⟨RJx4a65c, "<init>", "()V"⟩
abbrev cJx4a65c_grow_92f84 : ByteArray := prog_32_method_6_code
def yJx4a65c_grow_92f84 : MethodName := ⟨RJx4a65c, "grow", "(I)[Ljava/lang/Object;"⟩
abbrev cJx4a65c_grow_d5877 : ByteArray := prog_32_method_7_code
def yJx4a65c_grow_d5877 : MethodName := ⟨RJx4a65c, "grow", "()[Ljava/lang/Object;"⟩
abbrev cJx4a65c_size_8abf5 : ByteArray := prog_32_method_8_code
def yJx4a65c_size_8abf5 : MethodName := ⟨RJx4a65c, "size", "()I"⟩
abbrev cJx4a65c_elementData_915e3 : ByteArray := prog_32_method_18_code
def yJx4a65c_elementData_915e3 : MethodName := ⟨RJx4a65c, "elementData", "(I)Ljava/lang/Object;"⟩
abbrev cJx4a65c_get_915e3 : ByteArray := prog_32_method_20_code
def yJx4a65c_get_915e3 : MethodName := ⟨RJx4a65c, "get", "(I)Ljava/lang/Object;"⟩
abbrev cJx4a65c_set_bcc79 : ByteArray := prog_32_method_23_code
def yJx4a65c_set_bcc79 : MethodName := ⟨RJx4a65c, "set", "(ILjava/lang/Object;)Ljava/lang/Object;"⟩
abbrev cJx4a65c_add_72be8 : ByteArray := prog_32_method_24_code
def yJx4a65c_add_72be8 : MethodName := ⟨RJx4a65c, "add", "(Ljava/lang/Object;[Ljava/lang/Object;I)V"⟩
abbrev cJx4a65c_add_9ea2d : ByteArray := prog_32_method_25_code
def yJx4a65c_add_9ea2d : MethodName := ⟨RJx4a65c, "add", "(Ljava/lang/Object;)Z"⟩
abbrev cJx4a65c_clear_da8c8 : ByteArray := prog_32_method_40_code
def yJx4a65c_clear_da8c8 : MethodName := ⟨RJx4a65c, "clear", "()V"⟩
def RJ7 : String := "java/util/Arrays"
def TJ7 : u_T := fun k => match k with
  | _ => ("", "", "", false)
def tyJ7 : Nat → FieldType := fun k => match k with
  | _ => .int
abbrev wsJ70 : List Cond := u_ws RJ7 TJ7 0
theorem nmJ7 : ∀ a, a < 0 → ∀ b, b < 0 → a ≠ b → (TJ7 a).2.1 ≠ (TJ7 b).2.1 := by decide +kernel
theorem tyJ7_ok : ∀ k, k < 0 → parseFieldDescriptor (TJ7 k).2.2.1 = some (tyJ7 k) := by decide +kernel
abbrev cJ7_fill_d0a16 : ByteArray := prog_33_method_101_code
def yJ7_fill_d0a16 : MethodName := ⟨RJ7, "fill", "([JJ)V"⟩
abbrev cJ7_fill_53178 : ByteArray := prog_33_method_103_code
def yJ7_fill_53178 : MethodName := ⟨RJ7, "fill", "([II)V"⟩
abbrev cJ7_copyOf_1904c : ByteArray := prog_33_method_119_code
def yJ7_copyOf_1904c : MethodName := ⟨RJ7, "copyOf", "([Ljava/lang/Object;I)[Ljava/lang/Object;"⟩
abbrev cJ7_copyOf_6403c : ByteArray := prog_33_method_120_code
def yJ7_copyOf_6403c : MethodName := ⟨RJ7, "copyOf", "([Ljava/lang/Object;ILjava/lang/Class;)[Ljava/lang/Object;"⟩
def RJx5ef63 : String := "java/util/Collection"
def TJx5ef63 : u_T := fun k => match k with
  | _ => ("", "", "", false)
def tyJx5ef63 : Nat → FieldType := fun k => match k with
  | _ => .int
abbrev wsJx5ef630 : List Cond := u_ws RJx5ef63 TJx5ef63 0
theorem nmJx5ef63 : ∀ a, a < 0 → ∀ b, b < 0 → a ≠ b → (TJx5ef63 a).2.1 ≠ (TJx5ef63 b).2.1 := by decide +kernel
theorem tyJx5ef63_ok : ∀ k, k < 0 → parseFieldDescriptor (TJx5ef63 k).2.2.1 = some (tyJx5ef63 k) := by decide +kernel
def RJxbd725 : String := "java/util/List"
def TJxbd725 : u_T := fun k => match k with
  | _ => ("", "", "", false)
def tyJxbd725 : Nat → FieldType := fun k => match k with
  | _ => .int
abbrev wsJxbd7250 : List Cond := u_ws RJxbd725 TJxbd725 0
theorem nmJxbd725 : ∀ a, a < 0 → ∀ b, b < 0 → a ≠ b → (TJxbd725 a).2.1 ≠ (TJxbd725 b).2.1 := by decide +kernel
theorem tyJxbd725_ok : ∀ k, k < 0 → parseFieldDescriptor (TJxbd725 k).2.2.1 = some (tyJxbd725 k) := by decide +kernel
def RJ15 : String := "java/util/Objects"
def TJ15 : u_T := fun k => match k with
  | _ => ("", "", "", false)
def tyJ15 : Nat → FieldType := fun k => match k with
  | _ => .int
abbrev wsJ150 : List Cond := u_ws RJ15 TJ15 0
theorem nmJ15 : ∀ a, a < 0 → ∀ b, b < 0 → a ≠ b → (TJ15 a).2.1 ≠ (TJ15 b).2.1 := by decide +kernel
theorem tyJ15_ok : ∀ k, k < 0 → parseFieldDescriptor (TJ15 k).2.2.1 = some (tyJ15 k) := by decide +kernel
abbrev cJ15_checkIndex_7cf53 : ByteArray := prog_36_method_17_code
def yJ15_checkIndex_7cf53 : MethodName := ⟨RJ15, "checkIndex", "(II)I"⟩
def RJxf0a74 : String := "java/util/RandomAccess"
def TJxf0a74 : u_T := fun k => match k with
  | _ => ("", "", "", false)
def tyJxf0a74 : Nat → FieldType := fun k => match k with
  | _ => .int
abbrev wsJxf0a740 : List Cond := u_ws RJxf0a74 TJxf0a74 0
theorem nmJxf0a74 : ∀ a, a < 0 → ∀ b, b < 0 → a ≠ b → (TJxf0a74 a).2.1 ≠ (TJxf0a74 b).2.1 := by decide +kernel
theorem tyJxf0a74_ok : ∀ k, k < 0 → parseFieldDescriptor (TJxf0a74 k).2.2.1 = some (tyJxf0a74 k) := by decide +kernel
def RJxa66e6 : String := "java/util/SequencedCollection"
def TJxa66e6 : u_T := fun k => match k with
  | _ => ("", "", "", false)
def tyJxa66e6 : Nat → FieldType := fun k => match k with
  | _ => .int
abbrev wsJxa66e60 : List Cond := u_ws RJxa66e6 TJxa66e6 0
theorem nmJxa66e6 : ∀ a, a < 0 → ∀ b, b < 0 → a ≠ b → (TJxa66e6 a).2.1 ≠ (TJxa66e6 b).2.1 := by decide +kernel
theorem tyJxa66e6_ok : ∀ k, k < 0 → parseFieldDescriptor (TJxa66e6 k).2.2.1 = some (tyJxa66e6 k) := by decide +kernel
def RJ8 : String := "jdk/internal/util/ArraysSupport"
def TJ8 : u_T := fun k => match k with
  | _ => ("", "", "", false)
def tyJ8 : Nat → FieldType := fun k => match k with
  | _ => .int
abbrev wsJ80 : List Cond := u_ws RJ8 TJ8 0
theorem nmJ8 : ∀ a, a < 0 → ∀ b, b < 0 → a ≠ b → (TJ8 a).2.1 ≠ (TJ8 b).2.1 := by decide +kernel
theorem tyJ8_ok : ∀ k, k < 0 → parseFieldDescriptor (TJ8 k).2.2.1 = some (tyJ8 k) := by decide +kernel
abbrev cJ8_newLength_cabcc : ByteArray := prog_39_method_27_code
def yJ8_newLength_cabcc : MethodName := ⟨RJ8, "newLength", "(III)I"⟩
abbrev cJ8_hugeLength_7cf53 : ByteArray := prog_39_method_28_code
def yJ8_hugeLength_7cf53 : MethodName := ⟨RJ8, "hugeLength", "(II)I"⟩
def RJ3 : String := "jdk/internal/util/Preconditions"
def TJ3 : u_T := fun k => match k with
  | _ => ("", "", "", false)
def tyJ3 : Nat → FieldType := fun k => match k with
  | _ => .int
abbrev wsJ30 : List Cond := u_ws RJ3 TJ3 0
theorem nmJ3 : ∀ a, a < 0 → ∀ b, b < 0 → a ≠ b → (TJ3 a).2.1 ≠ (TJ3 b).2.1 := by decide +kernel
theorem tyJ3_ok : ∀ k, k < 0 → parseFieldDescriptor (TJ3 k).2.2.1 = some (tyJ3 k) := by decide +kernel
abbrev cJ3_checkIndex_8e157 : ByteArray := prog_40_method_11_code
def yJ3_checkIndex_8e157 : MethodName := ⟨RJ3, "checkIndex", "(IILjava/util/function/BiFunction;)I"⟩
def RL : String := "KoebehallLaw"
def wsX0_init : List Cond := .code yX0_init cX0_init 7 none :: ([.methodLink RX0 3 objectInit, .instanceMethod objectInit, .code objectInit ⟨#[0xb1]⟩ 1 none, .fieldLink RX0 9 "Koebehall$Disk" "x" "J", .fieldLink RX0 15 "Koebehall$Disk" "y" "J", .fieldLink RX0 18 "Koebehall$Disk" "radius" "J"] ++ wsX00)
def wsX0_howItLies : List Cond := .code yX0_howItLies cX0_howItLies 10 (some .int) :: ([.fieldLink RX0 9 "Koebehall$Disk" "x" "J", .fieldLink RX0 15 "Koebehall$Disk" "y" "J", .fieldLink RX0 18 "Koebehall$Disk" "radius" "J"] ++ wsX00)
def wsX1_isLowest : List Cond := .code yX1_isLowest cX1_isLowest 11 (some .boolean) :: ([.methodLink RX1 7 Lib.MathLoose.abs_long.x, .static Lib.MathLoose.abs_long.x, .initialized "java/lang/Math", .code Lib.MathLoose.abs_long.x Lib.MathLoose.abs_long.code 2 (some .long)])
def wsX1_crossed : List Cond := .code yX1_crossed cX1_crossed 8 (some .long) :: ([])
def wsJ9_floorDiv_f86c9 : List Cond := .code yJ9_floorDiv_f86c9 cJ9_floorDiv_f86c9 6 (some .long) :: ([])
def wsX1_simplest : List Cond := .code yX1_simplest cX1_simplest 39 (some .long) :: ([.methodLink RX1 15 yJ9_floorDiv_f86c9, .static yJ9_floorDiv_f86c9, .initialized RJ9, .code yJ9_floorDiv_f86c9 cJ9_floorDiv_f86c9 6 (some .long)])
def wsX2_rowOf : List Cond := .code yX2_rowOf cX2_rowOf 9 (some (.array .long)) :: ([.arrayClass .long])
def wsX2_greatestPlace : List Cond := .code yX2_greatestPlace cX2_greatestPlace 3 (some .int) :: ([])
def wsX2_turnedAt : List Cond := .code yX2_turnedAt cX2_turnedAt 4 (some .long) :: ([.constantLong RX2 35 (2)])
def wsX2_bringToRoot : List Cond := .code yX2_bringToRoot cX2_bringToRoot 5 none :: ([.constant RX2 37 (1000000), .methodLink RX2 38 yX2_greatestPlace, .static yX2_greatestPlace, .initialized RX2, .code yX2_greatestPlace cX2_greatestPlace 3 (some .int), .methodLink RX2 42 yX2_turnedAt, .static yX2_turnedAt, .code yX2_turnedAt cX2_turnedAt 4 (some .long), .constantLong RX2 35 (2)])
def wsX2_putInOrder : List Cond := .code yX2_putInOrder cX2_putInOrder 5 none :: ([])
def wsX2_rootOf : List Cond := .code yX2_rootOf cX2_rootOf 9 (some (.array .long)) :: ([.methodLink RX2 9 yX2_rowOf, .static yX2_rowOf, .initialized RX2, .code yX2_rowOf cX2_rowOf 9 (some (.array .long)), .arrayClass .long, .methodLink RX2 28 yX2_bringToRoot, .static yX2_bringToRoot, .code yX2_bringToRoot cX2_bringToRoot 5 none, .constant RX2 37 (1000000), .methodLink RX2 38 yX2_greatestPlace, .static yX2_greatestPlace, .code yX2_greatestPlace cX2_greatestPlace 3 (some .int), .methodLink RX2 42 yX2_turnedAt, .static yX2_turnedAt, .code yX2_turnedAt cX2_turnedAt 4 (some .long), .constantLong RX2 35 (2), .methodLink RX2 32 yX2_putInOrder, .static yX2_putInOrder, .code yX2_putInOrder cX2_putInOrder 5 none])
def wsX2_init_r1 : List Cond := [Cond.methodLink RX2 3 objectInit, Cond.instanceMethod objectInit, Cond.code objectInit ⟨#[0xb1]⟩ 1 none, Cond.fieldLink RX2 15 "Koebehall$Gasket" "four" "[J", Cond.fieldLink RX2 22 "Koebehall$Gasket" "least" "[J", Cond.arrayClass .long, Cond.fieldLink RX2 25 "Koebehall$Gasket" "walked" "[J", Cond.methodLink RX2 9 yX2_rowOf, Cond.static yX2_rowOf, Cond.initialized RX2, Cond.code yX2_rowOf cX2_rowOf 9 (some (.array .long)), Cond.methodLink RX2 19 yX2_rootOf, Cond.static yX2_rootOf, Cond.code yX2_rootOf cX2_rootOf 9 (some (.array .long)), Cond.methodLink RX2 28 yX2_bringToRoot, Cond.static yX2_bringToRoot, Cond.code yX2_bringToRoot cX2_bringToRoot 5 none, Cond.constant RX2 37 (1000000), Cond.methodLink RX2 38 yX2_greatestPlace, Cond.static yX2_greatestPlace, Cond.code yX2_greatestPlace cX2_greatestPlace 3 (some .int), Cond.methodLink RX2 42 yX2_turnedAt, Cond.static yX2_turnedAt, Cond.code yX2_turnedAt cX2_turnedAt 4 (some .long)]
def wsX2_init_r2 : List Cond := [Cond.constantLong RX2 35 (2), Cond.methodLink RX2 32 yX2_putInOrder, Cond.static yX2_putInOrder, Cond.code yX2_putInOrder cX2_putInOrder 5 none]
def wsX2_init : List Cond := .code yX2_init cX2_init 9 none :: ((wsX2_init_r1 ++ wsX2_init_r2) ++ wsX20)
def wsX2_areOfGasket : List Cond := .code yX2_areOfGasket cX2_areOfGasket 10 (some .boolean) :: ([.constantLong RX2 35 (2)])
def wsX2_circlesOfRoot : List Cond := .code yX2_circlesOfRoot cX2_circlesOfRoot 4 (some .int) :: ([.fieldLink RX2 22 "Koebehall$Gasket" "least" "[J"] ++ wsX20)
def wsX2_circlesOfRows : List Cond := .code yX2_circlesOfRows cX2_circlesOfRows 10 (some .int) :: ([.methodLink RX2 42 yX2_turnedAt, .static yX2_turnedAt, .initialized RX2, .code yX2_turnedAt cX2_turnedAt 4 (some .long), .constantLong RX2 35 (2), .methodLink RX2 56 yX2_circlesOfRows, .static yX2_circlesOfRows])
def wsX2_circlesByTurns : List Cond := .code yX2_circlesByTurns cX2_circlesByTurns 2 (some .int) :: ([.fieldLink RX2 22 "Koebehall$Gasket" "least" "[J", .fieldLink RX2 25 "Koebehall$Gasket" "walked" "[J", .methodLink RX2 46 arraycopyName, .native arraycopyName, .static arraycopyName, .initialized "java/lang/System", .methodLink RX2 52 yX2_circlesOfRoot, .instanceMethod yX2_circlesOfRoot, .selects RX2 yX2_circlesOfRoot yX2_circlesOfRoot, .initialized RX2, .code yX2_circlesOfRoot cX2_circlesOfRoot 4 (some .int), .methodLink RX2 56 yX2_circlesOfRows, .static yX2_circlesOfRows, .code yX2_circlesOfRows cX2_circlesOfRows 10 (some .int), .methodLink RX2 42 yX2_turnedAt, .static yX2_turnedAt, .code yX2_turnedAt cX2_turnedAt 4 (some .long), .constantLong RX2 35 (2)] ++ wsX20)
def wsJ6_numberOfLeadingZeros_0f7a4 : List Cond := .code yJ6_numberOfLeadingZeros_0f7a4 cJ6_numberOfLeadingZeros_0f7a4 2 (some .int) :: ([.constant RJ6 264 (65536)])
def wsJ13_numberOfLeadingZeros_95d88 : List Cond := .code yJ13_numberOfLeadingZeros_95d88 cJ13_numberOfLeadingZeros_95d88 3 (some .int) :: ([.methodLink RJ13 308 yJ6_numberOfLeadingZeros_0f7a4, .static yJ6_numberOfLeadingZeros_0f7a4, .initialized RJ6, .code yJ6_numberOfLeadingZeros_0f7a4 cJ6_numberOfLeadingZeros_0f7a4 2 (some .int), .constant RJ6 264 (65536)])
def wsX2_wholeRoot : List Cond := .code yX2_wholeRoot cX2_wholeRoot 7 (some .long) :: ([.methodLink RX2 68 yJ13_numberOfLeadingZeros_95d88, .static yJ13_numberOfLeadingZeros_95d88, .initialized RJ13, .code yJ13_numberOfLeadingZeros_95d88 cJ13_numberOfLeadingZeros_95d88 3 (some .int), .methodLink RJ13 308 yJ6_numberOfLeadingZeros_0f7a4, .static yJ6_numberOfLeadingZeros_0f7a4, .initialized RJ6, .code yJ6_numberOfLeadingZeros_0f7a4 cJ6_numberOfLeadingZeros_0f7a4 2 (some .int), .constant RJ6 264 (65536)])
def wsX2_circlesAmong : List Cond := .code yX2_circlesAmong cX2_circlesAmong 10 (some .int) :: ([.constantLong RX2 35 (2), .methodLink RX2 64 yX2_wholeRoot, .static yX2_wholeRoot, .initialized RX2, .code yX2_wholeRoot cX2_wholeRoot 7 (some .long), .methodLink RX2 68 yJ13_numberOfLeadingZeros_95d88, .static yJ13_numberOfLeadingZeros_95d88, .initialized RJ13, .code yJ13_numberOfLeadingZeros_95d88 cJ13_numberOfLeadingZeros_95d88 3 (some .int), .methodLink RJ13 308 yJ6_numberOfLeadingZeros_0f7a4, .static yJ6_numberOfLeadingZeros_0f7a4, .initialized RJ6, .code yJ6_numberOfLeadingZeros_0f7a4 cJ6_numberOfLeadingZeros_0f7a4 2 (some .int), .constant RJ6 264 (65536), .methodLink RX2 60 yX2_circlesAmong, .static yX2_circlesAmong])
def wsX2_circlesByThrees : List Cond := .code yX2_circlesByThrees cX2_circlesByThrees 2 (some .int) :: ([.fieldLink RX2 22 "Koebehall$Gasket" "least" "[J", .methodLink RX2 52 yX2_circlesOfRoot, .instanceMethod yX2_circlesOfRoot, .selects RX2 yX2_circlesOfRoot yX2_circlesOfRoot, .initialized RX2, .code yX2_circlesOfRoot cX2_circlesOfRoot 4 (some .int), .methodLink RX2 60 yX2_circlesAmong, .static yX2_circlesAmong, .code yX2_circlesAmong cX2_circlesAmong 10 (some .int), .constantLong RX2 35 (2), .methodLink RX2 64 yX2_wholeRoot, .static yX2_wholeRoot, .code yX2_wholeRoot cX2_wholeRoot 7 (some .long), .methodLink RX2 68 yJ13_numberOfLeadingZeros_95d88, .static yJ13_numberOfLeadingZeros_95d88, .initialized RJ13, .code yJ13_numberOfLeadingZeros_95d88 cJ13_numberOfLeadingZeros_95d88 3 (some .int), .methodLink RJ13 308 yJ6_numberOfLeadingZeros_0f7a4, .static yJ6_numberOfLeadingZeros_0f7a4, .initialized RJ6, .code yJ6_numberOfLeadingZeros_0f7a4 cJ6_numberOfLeadingZeros_0f7a4 2 (some .int), .constant RJ6 264 (65536)] ++ wsX20)
def wsJ7_fill_53178 : List Cond := .code yJ7_fill_53178 cJ7_fill_53178 4 none :: ([])
def wsX3_putThird : List Cond := .code yX3_putThird cX3_putThird 4 none :: ([.fieldLink RX3 15 "Koebehall$Net" "thirds" "[I"] ++ wsX30)
def wsX3_putCorners : List Cond := .code yX3_putCorners cX3_putCorners 5 none :: ([.fieldLink RX3 11 "Koebehall$Net" "named" "[I", .methodLink RX3 45 yX3_putThird, .instanceMethod yX3_putThird, .selects RX3 yX3_putThird yX3_putThird, .initialized RX3, .code yX3_putThird cX3_putThird 4 none, .fieldLink RX3 15 "Koebehall$Net" "thirds" "[I"] ++ wsX30)
def wsX3_putFace : List Cond := .code yX3_putFace cX3_putFace 5 none :: ([.methodLink RX3 42 yX3_putCorners, .instanceMethod yX3_putCorners, .selects RX3 yX3_putCorners yX3_putCorners, .initialized RX3, .code yX3_putCorners cX3_putCorners 5 none, .fieldLink RX3 11 "Koebehall$Net" "named" "[I", .methodLink RX3 45 yX3_putThird, .instanceMethod yX3_putThird, .selects RX3 yX3_putThird yX3_putThird, .code yX3_putThird cX3_putThird 4 none, .fieldLink RX3 15 "Koebehall$Net" "thirds" "[I"] ++ wsX30)
def wsX3_init_r1 : List Cond := [Cond.methodLink RX3 5 objectInit, Cond.instanceMethod objectInit, Cond.code objectInit ⟨#[0xb1]⟩ 1 none, Cond.arrayClass .int, Cond.fieldLink RX3 11 "Koebehall$Net" "named" "[I", Cond.fieldLink RX3 15 "Koebehall$Net" "thirds" "[I", Cond.fieldLink RX3 24 "Koebehall$Net" "cornerCount" "I", Cond.fieldLink RX3 28 "Koebehall$Net" "faceCount" "I", Cond.fieldLink RX3 31 "Koebehall$Net" "FIRST_FACES" "[I", Cond.methodLink RX3 18 yJ7_fill_53178, Cond.static yJ7_fill_53178, Cond.initialized RJ7, Cond.code yJ7_fill_53178 cJ7_fill_53178 4 none, Cond.methodLink RX3 34 yX3_putFace, Cond.instanceMethod yX3_putFace, Cond.selects RX3 yX3_putFace yX3_putFace, Cond.initialized RX3, Cond.code yX3_putFace cX3_putFace 5 none, Cond.methodLink RX3 42 yX3_putCorners, Cond.instanceMethod yX3_putCorners, Cond.selects RX3 yX3_putCorners yX3_putCorners, Cond.code yX3_putCorners cX3_putCorners 5 none, Cond.methodLink RX3 45 yX3_putThird, Cond.instanceMethod yX3_putThird]
def wsX3_init_r2 : List Cond := [Cond.selects RX3 yX3_putThird yX3_putThird, Cond.code yX3_putThird cX3_putThird 4 none]
def wsX3_init : List Cond := .code yX3_init cX3_init 2 none :: ((wsX3_init_r1 ++ wsX3_init_r2) ++ wsX30)
def wsX3_hasFace : List Cond := .code yX3_hasFace cX3_hasFace 2 (some .boolean) :: ([.fieldLink RX3 28 "Koebehall$Net" "faceCount" "I"] ++ wsX30)
def wsX3_hasCorner : List Cond := .code yX3_hasCorner cX3_hasCorner 2 (some .boolean) :: ([.fieldLink RX3 24 "Koebehall$Net" "cornerCount" "I"] ++ wsX30)
def wsX3_isFull : List Cond := .code yX3_isFull cX3_isFull 1 (some .boolean) :: ([.fieldLink RX3 24 "Koebehall$Net" "cornerCount" "I"] ++ wsX30)
def wsX3_cornerOf : List Cond := .code yX3_cornerOf cX3_cornerOf 3 (some .int) :: ([.fieldLink RX3 11 "Koebehall$Net" "named" "[I"] ++ wsX30)
def wsX3_splitFace : List Cond := .code yX3_splitFace cX3_splitFace 6 (some .int) :: ([.fieldLink RX3 24 "Koebehall$Net" "cornerCount" "I", .fieldLink RX3 28 "Koebehall$Net" "faceCount" "I", .methodLink RX3 38 yX3_cornerOf, .instanceMethod yX3_cornerOf, .selects RX3 yX3_cornerOf yX3_cornerOf, .initialized RX3, .code yX3_cornerOf cX3_cornerOf 3 (some .int), .fieldLink RX3 11 "Koebehall$Net" "named" "[I", .methodLink RX3 34 yX3_putFace, .instanceMethod yX3_putFace, .selects RX3 yX3_putFace yX3_putFace, .code yX3_putFace cX3_putFace 5 none, .methodLink RX3 42 yX3_putCorners, .instanceMethod yX3_putCorners, .selects RX3 yX3_putCorners yX3_putCorners, .code yX3_putCorners cX3_putCorners 5 none, .methodLink RX3 45 yX3_putThird, .instanceMethod yX3_putThird, .selects RX3 yX3_putThird yX3_putThird, .code yX3_putThird cX3_putThird 4 none, .fieldLink RX3 15 "Koebehall$Net" "thirds" "[I"] ++ wsX30)
def wsX3_thirdOf : List Cond := .code yX3_thirdOf cX3_thirdOf 3 (some .int) :: ([.fieldLink RX3 15 "Koebehall$Net" "thirds" "[I", .methodLink RX3 49 yX3_hasCorner, .instanceMethod yX3_hasCorner, .selects RX3 yX3_hasCorner yX3_hasCorner, .initialized RX3, .code yX3_hasCorner cX3_hasCorner 2 (some .boolean), .fieldLink RX3 24 "Koebehall$Net" "cornerCount" "I"] ++ wsX30)
def wsX3_areNeighbours : List Cond := .code yX3_areNeighbours cX3_areNeighbours 3 (some .boolean) :: ([.methodLink RX3 53 yX3_thirdOf, .instanceMethod yX3_thirdOf, .selects RX3 yX3_thirdOf yX3_thirdOf, .initialized RX3, .code yX3_thirdOf cX3_thirdOf 3 (some .int), .fieldLink RX3 15 "Koebehall$Net" "thirds" "[I", .methodLink RX3 49 yX3_hasCorner, .instanceMethod yX3_hasCorner, .selects RX3 yX3_hasCorner yX3_hasCorner, .code yX3_hasCorner cX3_hasCorner 2 (some .boolean), .fieldLink RX3 24 "Koebehall$Net" "cornerCount" "I"] ++ wsX30)
def wsX3_canFlip : List Cond := .code yX3_canFlip cX3_canFlip 3 (some .boolean) :: ([.methodLink RX3 56 yX3_areNeighbours, .instanceMethod yX3_areNeighbours, .selects RX3 yX3_areNeighbours yX3_areNeighbours, .initialized RX3, .code yX3_areNeighbours cX3_areNeighbours 3 (some .boolean), .methodLink RX3 53 yX3_thirdOf, .instanceMethod yX3_thirdOf, .selects RX3 yX3_thirdOf yX3_thirdOf, .code yX3_thirdOf cX3_thirdOf 3 (some .int), .fieldLink RX3 15 "Koebehall$Net" "thirds" "[I", .methodLink RX3 49 yX3_hasCorner, .instanceMethod yX3_hasCorner, .selects RX3 yX3_hasCorner yX3_hasCorner, .code yX3_hasCorner cX3_hasCorner 2 (some .boolean), .fieldLink RX3 24 "Koebehall$Net" "cornerCount" "I"] ++ wsX30)
def wsX3_faceWith : List Cond := .code yX3_faceWith cX3_faceWith 5 (some .int) :: ([.fieldLink RX3 28 "Koebehall$Net" "faceCount" "I", .fieldLink RX3 11 "Koebehall$Net" "named" "[I"] ++ wsX30)
def wsX3_flipEdge_r1 : List Cond := [Cond.methodLink RX3 63 Lib.Math.min.name, Cond.static Lib.Math.min.name, Cond.initialized "java/lang/Math", Cond.code Lib.Math.min.name Lib.Math.min.code 2 (some .int), Cond.methodLink RX3 68 Lib.Math.max.name, Cond.static Lib.Math.max.name, Cond.code Lib.Math.max.name Lib.Math.max.code 2 (some .int), Cond.methodLink RX3 53 yX3_thirdOf, Cond.instanceMethod yX3_thirdOf, Cond.selects RX3 yX3_thirdOf yX3_thirdOf, Cond.initialized RX3, Cond.code yX3_thirdOf cX3_thirdOf 3 (some .int), Cond.fieldLink RX3 15 "Koebehall$Net" "thirds" "[I", Cond.methodLink RX3 49 yX3_hasCorner, Cond.instanceMethod yX3_hasCorner, Cond.selects RX3 yX3_hasCorner yX3_hasCorner, Cond.code yX3_hasCorner cX3_hasCorner 2 (some .boolean), Cond.fieldLink RX3 24 "Koebehall$Net" "cornerCount" "I", Cond.methodLink RX3 60 yX3_faceWith, Cond.instanceMethod yX3_faceWith, Cond.selects RX3 yX3_faceWith yX3_faceWith, Cond.code yX3_faceWith cX3_faceWith 5 (some .int), Cond.fieldLink RX3 28 "Koebehall$Net" "faceCount" "I", Cond.fieldLink RX3 11 "Koebehall$Net" "named" "[I"]
def wsX3_flipEdge_r2 : List Cond := [Cond.methodLink RX3 45 yX3_putThird, Cond.instanceMethod yX3_putThird, Cond.selects RX3 yX3_putThird yX3_putThird, Cond.code yX3_putThird cX3_putThird 4 none, Cond.methodLink RX3 34 yX3_putFace, Cond.instanceMethod yX3_putFace, Cond.selects RX3 yX3_putFace yX3_putFace, Cond.code yX3_putFace cX3_putFace 5 none, Cond.methodLink RX3 42 yX3_putCorners, Cond.instanceMethod yX3_putCorners, Cond.selects RX3 yX3_putCorners yX3_putCorners, Cond.code yX3_putCorners cX3_putCorners 5 none]
def wsX3_flipEdge : List Cond := .code yX3_flipEdge cX3_flipEdge 7 (some .int) :: ((wsX3_flipEdge_r1 ++ wsX3_flipEdge_r2) ++ wsX30)
def wsX3_lowestNeighbour : List Cond := .code yX3_lowestNeighbour cX3_lowestNeighbour 3 (some .int) :: ([.fieldLink RX3 24 "Koebehall$Net" "cornerCount" "I", .methodLink RX3 56 yX3_areNeighbours, .instanceMethod yX3_areNeighbours, .selects RX3 yX3_areNeighbours yX3_areNeighbours, .initialized RX3, .code yX3_areNeighbours cX3_areNeighbours 3 (some .boolean), .methodLink RX3 53 yX3_thirdOf, .instanceMethod yX3_thirdOf, .selects RX3 yX3_thirdOf yX3_thirdOf, .code yX3_thirdOf cX3_thirdOf 3 (some .int), .fieldLink RX3 15 "Koebehall$Net" "thirds" "[I", .methodLink RX3 49 yX3_hasCorner, .instanceMethod yX3_hasCorner, .selects RX3 yX3_hasCorner yX3_hasCorner, .code yX3_hasCorner cX3_hasCorner 2 (some .boolean)] ++ wsX30)
def wsX3_neighbourAt : List Cond := .code yX3_neighbourAt cX3_neighbourAt 6 (some .int) :: ([.methodLink RX3 71 yX3_lowestNeighbour, .instanceMethod yX3_lowestNeighbour, .selects RX3 yX3_lowestNeighbour yX3_lowestNeighbour, .initialized RX3, .code yX3_lowestNeighbour cX3_lowestNeighbour 3 (some .int), .fieldLink RX3 24 "Koebehall$Net" "cornerCount" "I", .methodLink RX3 56 yX3_areNeighbours, .instanceMethod yX3_areNeighbours, .selects RX3 yX3_areNeighbours yX3_areNeighbours, .code yX3_areNeighbours cX3_areNeighbours 3 (some .boolean), .methodLink RX3 53 yX3_thirdOf, .instanceMethod yX3_thirdOf, .selects RX3 yX3_thirdOf yX3_thirdOf, .code yX3_thirdOf cX3_thirdOf 3 (some .int), .fieldLink RX3 15 "Koebehall$Net" "thirds" "[I", .methodLink RX3 49 yX3_hasCorner, .instanceMethod yX3_hasCorner, .selects RX3 yX3_hasCorner yX3_hasCorner, .code yX3_hasCorner cX3_hasCorner 2 (some .boolean)] ++ wsX30)
def wsX3_edgeCount : List Cond := .code yX3_edgeCount cX3_edgeCount 1 (some .int) :: ([.fieldLink RX3 28 "Koebehall$Net" "faceCount" "I"] ++ wsX30)
def wsX3_flippableCount : List Cond := .code yX3_flippableCount cX3_flippableCount 4 (some .int) :: ([.fieldLink RX3 24 "Koebehall$Net" "cornerCount" "I", .methodLink RX3 75 yX3_canFlip, .instanceMethod yX3_canFlip, .selects RX3 yX3_canFlip yX3_canFlip, .initialized RX3, .code yX3_canFlip cX3_canFlip 3 (some .boolean), .methodLink RX3 56 yX3_areNeighbours, .instanceMethod yX3_areNeighbours, .selects RX3 yX3_areNeighbours yX3_areNeighbours, .code yX3_areNeighbours cX3_areNeighbours 3 (some .boolean), .methodLink RX3 53 yX3_thirdOf, .instanceMethod yX3_thirdOf, .selects RX3 yX3_thirdOf yX3_thirdOf, .code yX3_thirdOf cX3_thirdOf 3 (some .int), .fieldLink RX3 15 "Koebehall$Net" "thirds" "[I", .methodLink RX3 49 yX3_hasCorner, .instanceMethod yX3_hasCorner, .selects RX3 yX3_hasCorner yX3_hasCorner, .code yX3_hasCorner cX3_hasCorner 2 (some .boolean)] ++ wsX30)
def wsX3_facesAt : List Cond := .code yX3_facesAt cX3_facesAt 4 (some .int) :: ([.fieldLink RX3 28 "Koebehall$Net" "faceCount" "I", .fieldLink RX3 11 "Koebehall$Net" "named" "[I"] ++ wsX30)
def wsX3_mostNeighbours : List Cond := .code yX3_mostNeighbours cX3_mostNeighbours 3 (some .int) :: ([.fieldLink RX3 24 "Koebehall$Net" "cornerCount" "I", .methodLink RX3 68 Lib.Math.max.name, .static Lib.Math.max.name, .initialized "java/lang/Math", .code Lib.Math.max.name Lib.Math.max.code 2 (some .int), .methodLink RX3 78 yX3_facesAt, .instanceMethod yX3_facesAt, .selects RX3 yX3_facesAt yX3_facesAt, .initialized RX3, .code yX3_facesAt cX3_facesAt 4 (some .int), .fieldLink RX3 28 "Koebehall$Net" "faceCount" "I", .fieldLink RX3 11 "Koebehall$Net" "named" "[I"] ++ wsX30)
def wsJxa1e45_init_da8c8 : List Cond := .code yJxa1e45_init_da8c8 cJxa1e45_init_da8c8 1 none :: ([.methodLink RJxa1e45 1 objectInit, .instanceMethod objectInit, .code objectInit ⟨#[0xb1]⟩ 1 none])
def wsJxc12de_init_da8c8 : List Cond := .code yJxc12de_init_da8c8 cJxc12de_init_da8c8 1 none :: ([.fieldLink RJxc12de 7 "java/util/AbstractList" "modCount" "I", .methodLink RJxc12de 1 yJxa1e45_init_da8c8, .instanceMethod yJxa1e45_init_da8c8, .initialized RJxa1e45, .code yJxa1e45_init_da8c8 cJxa1e45_init_da8c8 1 none, .methodLink RJxa1e45 1 objectInit, .instanceMethod objectInit, .code objectInit ⟨#[0xb1]⟩ 1 none] ++ wsJx4a65c0)
def wsJx4a65c_init_da8c8 : List Cond := .code yJx4a65c_init_da8c8 cJx4a65c_init_da8c8 1 none :: ([.fieldLink RJx4a65c 39 "java/util/ArrayList" "DEFAULTCAPACITY_EMPTY_ELEMENTDATA" "[Ljava/lang/Object;", .fieldLink RJx4a65c 9 "java/util/ArrayList" "elementData" "[Ljava/lang/Object;", .methodLink RJx4a65c 1 yJxc12de_init_da8c8, .instanceMethod yJxc12de_init_da8c8, .initialized RJxc12de, .code yJxc12de_init_da8c8 cJxc12de_init_da8c8 1 none, .fieldLink RJxc12de 7 "java/util/AbstractList" "modCount" "I", .methodLink RJxc12de 1 yJxa1e45_init_da8c8, .instanceMethod yJxa1e45_init_da8c8, .initialized RJxa1e45, .code yJxa1e45_init_da8c8 cJxa1e45_init_da8c8 1 none, .methodLink RJxa1e45 1 objectInit, .instanceMethod objectInit, .code objectInit ⟨#[0xb1]⟩ 1 none] ++ wsJx4a65c0)
def wsX4_init_r1 : List Cond := [Cond.methodLink RX4 3 objectInit, Cond.instanceMethod objectInit, Cond.code objectInit ⟨#[0xb1]⟩ 1 none, Cond.classLink RX4 9 RJx4a65c, Cond.instantiable RJx4a65c 3, Cond.initialized RJx4a65c, Cond.fieldLink RX4 12 "Koebehall$Network" "wires" "Ljava/util/ArrayList;", Cond.classLink RX4 18 "[[J", Cond.arrayClass .long, Cond.fieldLink RX4 20 "Koebehall$Network" "rows" "[[J", Cond.fieldLink RX4 23 "Koebehall$Network" "nodeCount" "I", Cond.methodLink RX4 11 yJx4a65c_init_da8c8, Cond.instanceMethod yJx4a65c_init_da8c8, Cond.code yJx4a65c_init_da8c8 cJx4a65c_init_da8c8 1 none, Cond.fieldLink RJx4a65c 39 "java/util/ArrayList" "DEFAULTCAPACITY_EMPTY_ELEMENTDATA" "[Ljava/lang/Object;", Cond.fieldLink RJx4a65c 9 "java/util/ArrayList" "elementData" "[Ljava/lang/Object;", Cond.methodLink RJx4a65c 1 yJxc12de_init_da8c8, Cond.instanceMethod yJxc12de_init_da8c8, Cond.initialized RJxc12de, Cond.code yJxc12de_init_da8c8 cJxc12de_init_da8c8 1 none, Cond.fieldLink RJxc12de 7 "java/util/AbstractList" "modCount" "I", Cond.methodLink RJxc12de 1 yJxa1e45_init_da8c8, Cond.instanceMethod yJxa1e45_init_da8c8, Cond.initialized RJxa1e45]
def wsX4_init_r2 : List Cond := [Cond.code yJxa1e45_init_da8c8 cJxa1e45_init_da8c8 1 none, Cond.methodLink RJxa1e45 1 objectInit]
def wsX4_init : List Cond := .code yX4_init cX4_init 1 none :: ((wsX4_init_r1 ++ wsX4_init_r2) ++ wsJx4a65c0 ++ wsX40)
def wsJx4a65c_clear_da8c8 : List Cond := .code yJx4a65c_clear_da8c8 cJx4a65c_clear_da8c8 4 none :: ([.fieldLink RJx4a65c 63 "java/util/ArrayList" "modCount" "I", .sameField "java/util/ArrayList" "java/util/AbstractList" "modCount" "I", .fieldLink RJx4a65c 9 "java/util/ArrayList" "elementData" "[Ljava/lang/Object;", .fieldLink RJx4a65c 48 "java/util/ArrayList" "size" "I"] ++ wsJx4a65c0)
def wsX4_beginAnew : List Cond := .code yX4_beginAnew cX4_beginAnew 3 (some .int) :: ([.fieldLink RX4 23 "Koebehall$Network" "nodeCount" "I", .fieldLink RX4 12 "Koebehall$Network" "wires" "Ljava/util/ArrayList;", .methodLink RX4 27 yJx4a65c_clear_da8c8, .instanceMethod yJx4a65c_clear_da8c8, .selects RJx4a65c yJx4a65c_clear_da8c8 yJx4a65c_clear_da8c8, .initialized RJx4a65c, .code yJx4a65c_clear_da8c8 cJx4a65c_clear_da8c8 4 none, .fieldLink RJx4a65c 63 "java/util/ArrayList" "modCount" "I", .sameField "java/util/ArrayList" "java/util/AbstractList" "modCount" "I", .fieldLink RJx4a65c 9 "java/util/ArrayList" "elementData" "[Ljava/lang/Object;", .fieldLink RJx4a65c 48 "java/util/ArrayList" "size" "I"] ++ wsX40 ++ wsJx4a65c0)
def wsX4_hasNode : List Cond := .code yX4_hasNode cX4_hasNode 2 (some .boolean) :: ([.fieldLink RX4 23 "Koebehall$Network" "nodeCount" "I"] ++ wsX40)
def wsJx4a65c_size_8abf5 : List Cond := .code yJx4a65c_size_8abf5 cJx4a65c_size_8abf5 1 (some .int) :: ([.fieldLink RJx4a65c 48 "java/util/ArrayList" "size" "I"] ++ wsJx4a65c0)
def wsX4_hasWire : List Cond := .code yX4_hasWire cX4_hasWire 2 (some .boolean) :: ([.fieldLink RX4 12 "Koebehall$Network" "wires" "Ljava/util/ArrayList;", .methodLink RX4 30 yJx4a65c_size_8abf5, .instanceMethod yJx4a65c_size_8abf5, .selects RJx4a65c yJx4a65c_size_8abf5 yJx4a65c_size_8abf5, .initialized RJx4a65c, .code yJx4a65c_size_8abf5 cJx4a65c_size_8abf5 1 (some .int), .fieldLink RJx4a65c 48 "java/util/ArrayList" "size" "I"] ++ wsX40 ++ wsJx4a65c0)
def wsJ7_fill_d0a16 : List Cond := .code yJ7_fill_d0a16 cJ7_fill_d0a16 5 none :: ([])
def wsJ3_checkIndex_8e157 : List Cond := .code yJ3_checkIndex_8e157 cJ3_checkIndex_8e157 3 (some .int) :: ([])
def wsJ15_checkIndex_7cf53 : List Cond := .code yJ15_checkIndex_7cf53 cJ15_checkIndex_7cf53 2 (some .int) :: ([.methodLink RJ15 105 yJ3_checkIndex_8e157, .static yJ3_checkIndex_8e157, .initialized RJ3, .code yJ3_checkIndex_8e157 cJ3_checkIndex_8e157 3 (some .int)])
def wsJx4a65c_elementData_915e3 : List Cond := .code yJx4a65c_elementData_915e3 cJx4a65c_elementData_915e3 2 (some (.object "java/lang/Object")) :: ([.fieldLink RJx4a65c 9 "java/util/ArrayList" "elementData" "[Ljava/lang/Object;"] ++ wsJx4a65c0)
def wsJx4a65c_get_915e3 : List Cond := .code yJx4a65c_get_915e3 cJx4a65c_get_915e3 2 (some (.object "java/lang/Object")) :: ([.fieldLink RJx4a65c 48 "java/util/ArrayList" "size" "I", .methodLink RJx4a65c 118 yJ15_checkIndex_7cf53, .static yJ15_checkIndex_7cf53, .initialized RJ15, .code yJ15_checkIndex_7cf53 cJ15_checkIndex_7cf53 2 (some .int), .methodLink RJ15 105 yJ3_checkIndex_8e157, .static yJ3_checkIndex_8e157, .initialized RJ3, .code yJ3_checkIndex_8e157 cJ3_checkIndex_8e157 3 (some .int), .methodLink RJx4a65c 123 yJx4a65c_elementData_915e3, .instanceMethod yJx4a65c_elementData_915e3, .selects RJx4a65c yJx4a65c_elementData_915e3 yJx4a65c_elementData_915e3, .initialized RJx4a65c, .code yJx4a65c_elementData_915e3 cJx4a65c_elementData_915e3 2 (some (.object "java/lang/Object")), .fieldLink RJx4a65c 9 "java/util/ArrayList" "elementData" "[Ljava/lang/Object;"] ++ wsJx4a65c0)
def wsX4_lineOf : List Cond := .code yX4_lineOf cX4_lineOf 2 (some .int) :: ([])
def wsX4_addToTable : List Cond := .code yX4_addToTable cX4_addToTable 5 none :: ([.fieldLink RX4 20 "Koebehall$Network" "rows" "[[J"] ++ wsX40)
def wsX4_fillTable_r1 : List Cond := [Cond.fieldLink RX4 23 "Koebehall$Network" "nodeCount" "I", Cond.fieldLink RX4 20 "Koebehall$Network" "rows" "[[J", Cond.fieldLink RX4 12 "Koebehall$Network" "wires" "Ljava/util/ArrayList;", Cond.classLink RX4 52 "Koebehall$Wire", Cond.constantLong RX4 68 (-1), Cond.methodLink RX4 42 yJ7_fill_d0a16, Cond.static yJ7_fill_d0a16, Cond.initialized RJ7, Cond.code yJ7_fill_d0a16 cJ7_fill_d0a16 5 none, Cond.methodLink RX4 30 yJx4a65c_size_8abf5, Cond.instanceMethod yJx4a65c_size_8abf5, Cond.selects RJx4a65c yJx4a65c_size_8abf5 yJx4a65c_size_8abf5, Cond.initialized RJx4a65c, Cond.code yJx4a65c_size_8abf5 cJx4a65c_size_8abf5 1 (some .int), Cond.fieldLink RJx4a65c 48 "java/util/ArrayList" "size" "I", Cond.methodLink RX4 48 yJx4a65c_get_915e3, Cond.instanceMethod yJx4a65c_get_915e3, Cond.selects RJx4a65c yJx4a65c_get_915e3 yJx4a65c_get_915e3, Cond.code yJx4a65c_get_915e3 cJx4a65c_get_915e3 2 (some (.object "java/lang/Object")), Cond.methodLink RJx4a65c 118 yJ15_checkIndex_7cf53, Cond.static yJ15_checkIndex_7cf53, Cond.initialized RJ15, Cond.code yJ15_checkIndex_7cf53 cJ15_checkIndex_7cf53 2 (some .int), Cond.methodLink RJ15 105 yJ3_checkIndex_8e157]
def wsX4_fillTable_r2 : List Cond := [Cond.static yJ3_checkIndex_8e157, Cond.initialized RJ3, Cond.code yJ3_checkIndex_8e157 cJ3_checkIndex_8e157 3 (some .int), Cond.methodLink RJx4a65c 123 yJx4a65c_elementData_915e3, Cond.instanceMethod yJx4a65c_elementData_915e3, Cond.selects RJx4a65c yJx4a65c_elementData_915e3 yJx4a65c_elementData_915e3, Cond.code yJx4a65c_elementData_915e3 cJx4a65c_elementData_915e3 2 (some (.object "java/lang/Object")), Cond.fieldLink RJx4a65c 9 "java/util/ArrayList" "elementData" "[Ljava/lang/Object;", Cond.methodLink RX4 57 yX4_lineOf, Cond.static yX4_lineOf, Cond.initialized RX4, Cond.code yX4_lineOf cX4_lineOf 2 (some .int), Cond.methodLink RX4 64 yX4_addToTable, Cond.instanceMethod yX4_addToTable, Cond.selects RX4 yX4_addToTable yX4_addToTable, Cond.code yX4_addToTable cX4_addToTable 5 none]
def wsX4_fillTable : List Cond := .code yX4_fillTable cX4_fillTable 5 none :: ((wsX4_fillTable_r1 ++ wsX4_fillTable_r2) ++ wsX40 ++ wsX70 ++ wsJx4a65c0)
def wsX4_pivotRow : List Cond := .code yX4_pivotRow cX4_pivotRow 4 (some .int) :: ([.fieldLink RX4 20 "Koebehall$Network" "rows" "[[J"] ++ wsX40)
def wsX4_swapRows : List Cond := .code yX4_swapRows cX4_swapRows 4 none :: ([.fieldLink RX4 20 "Koebehall$Network" "rows" "[[J"] ++ wsX40)
def wsX4_reduceBelow : List Cond := .code yX4_reduceBelow cX4_reduceBelow 9 none :: ([.fieldLink RX4 20 "Koebehall$Network" "rows" "[[J"] ++ wsX40)
def wsX4_determinant : List Cond := .code yX4_determinant cX4_determinant 8 (some .long) :: ([.fieldLink RX4 20 "Koebehall$Network" "rows" "[[J", .methodLink RX4 70 yX4_pivotRow, .instanceMethod yX4_pivotRow, .selects RX4 yX4_pivotRow yX4_pivotRow, .initialized RX4, .code yX4_pivotRow cX4_pivotRow 4 (some .int), .methodLink RX4 73 yX4_swapRows, .instanceMethod yX4_swapRows, .selects RX4 yX4_swapRows yX4_swapRows, .code yX4_swapRows cX4_swapRows 4 none, .methodLink RX4 77 yX4_reduceBelow, .instanceMethod yX4_reduceBelow, .selects RX4 yX4_reduceBelow yX4_reduceBelow, .code yX4_reduceBelow cX4_reduceBelow 9 none] ++ wsX40)
def wsX4_treesByTable_r1 : List Cond := [Cond.fieldLink RX4 23 "Koebehall$Network" "nodeCount" "I", Cond.methodLink RX4 34 yX4_fillTable, Cond.instanceMethod yX4_fillTable, Cond.selects RX4 yX4_fillTable yX4_fillTable, Cond.initialized RX4, Cond.code yX4_fillTable cX4_fillTable 5 none, Cond.fieldLink RX4 20 "Koebehall$Network" "rows" "[[J", Cond.fieldLink RX4 12 "Koebehall$Network" "wires" "Ljava/util/ArrayList;", Cond.classLink RX4 52 "Koebehall$Wire", Cond.constantLong RX4 68 (-1), Cond.methodLink RX4 42 yJ7_fill_d0a16, Cond.static yJ7_fill_d0a16, Cond.initialized RJ7, Cond.code yJ7_fill_d0a16 cJ7_fill_d0a16 5 none, Cond.methodLink RX4 30 yJx4a65c_size_8abf5, Cond.instanceMethod yJx4a65c_size_8abf5, Cond.selects RJx4a65c yJx4a65c_size_8abf5 yJx4a65c_size_8abf5, Cond.initialized RJx4a65c, Cond.code yJx4a65c_size_8abf5 cJx4a65c_size_8abf5 1 (some .int), Cond.fieldLink RJx4a65c 48 "java/util/ArrayList" "size" "I", Cond.methodLink RX4 48 yJx4a65c_get_915e3, Cond.instanceMethod yJx4a65c_get_915e3, Cond.selects RJx4a65c yJx4a65c_get_915e3 yJx4a65c_get_915e3, Cond.code yJx4a65c_get_915e3 cJx4a65c_get_915e3 2 (some (.object "java/lang/Object"))]
def wsX4_treesByTable_r2 : List Cond := [Cond.methodLink RJx4a65c 118 yJ15_checkIndex_7cf53, Cond.static yJ15_checkIndex_7cf53, Cond.initialized RJ15, Cond.code yJ15_checkIndex_7cf53 cJ15_checkIndex_7cf53 2 (some .int), Cond.methodLink RJ15 105 yJ3_checkIndex_8e157, Cond.static yJ3_checkIndex_8e157, Cond.initialized RJ3, Cond.code yJ3_checkIndex_8e157 cJ3_checkIndex_8e157 3 (some .int), Cond.methodLink RJx4a65c 123 yJx4a65c_elementData_915e3, Cond.instanceMethod yJx4a65c_elementData_915e3, Cond.selects RJx4a65c yJx4a65c_elementData_915e3 yJx4a65c_elementData_915e3, Cond.code yJx4a65c_elementData_915e3 cJx4a65c_elementData_915e3 2 (some (.object "java/lang/Object")), Cond.fieldLink RJx4a65c 9 "java/util/ArrayList" "elementData" "[Ljava/lang/Object;", Cond.methodLink RX4 57 yX4_lineOf, Cond.static yX4_lineOf, Cond.code yX4_lineOf cX4_lineOf 2 (some .int), Cond.methodLink RX4 64 yX4_addToTable, Cond.instanceMethod yX4_addToTable, Cond.selects RX4 yX4_addToTable yX4_addToTable, Cond.code yX4_addToTable cX4_addToTable 5 none, Cond.methodLink RX4 38 yX4_determinant, Cond.instanceMethod yX4_determinant, Cond.selects RX4 yX4_determinant yX4_determinant, Cond.code yX4_determinant cX4_determinant 8 (some .long)]
def wsX4_treesByTable_r3 : List Cond := [Cond.methodLink RX4 70 yX4_pivotRow, Cond.instanceMethod yX4_pivotRow, Cond.selects RX4 yX4_pivotRow yX4_pivotRow, Cond.code yX4_pivotRow cX4_pivotRow 4 (some .int), Cond.methodLink RX4 73 yX4_swapRows, Cond.instanceMethod yX4_swapRows, Cond.selects RX4 yX4_swapRows yX4_swapRows, Cond.code yX4_swapRows cX4_swapRows 4 none, Cond.methodLink RX4 77 yX4_reduceBelow, Cond.instanceMethod yX4_reduceBelow, Cond.selects RX4 yX4_reduceBelow yX4_reduceBelow, Cond.code yX4_reduceBelow cX4_reduceBelow 9 none]
def wsX4_treesByTable : List Cond := .code yX4_treesByTable cX4_treesByTable 1 (some .long) :: ((wsX4_treesByTable_r1 ++ (wsX4_treesByTable_r2 ++ wsX4_treesByTable_r3)) ++ wsX40 ++ wsX70 ++ wsJx4a65c0)
def wsJ6_bitCount_0f7a4 : List Cond := .code yJ6_bitCount_0f7a4 cJ6_bitCount_0f7a4 1 (some .int) :: ([.constant RJ6 265 (1431655765), .constant RJ6 266 (858993459), .constant RJ6 267 (252645135)])
def wsX4_hangsTogether_r1 : List Cond := [Cond.fieldLink RX4 23 "Koebehall$Network" "nodeCount" "I", Cond.fieldLink RX4 12 "Koebehall$Network" "wires" "Ljava/util/ArrayList;", Cond.classLink RX4 52 "Koebehall$Wire", Cond.methodLink RX4 30 yJx4a65c_size_8abf5, Cond.instanceMethod yJx4a65c_size_8abf5, Cond.selects RJx4a65c yJx4a65c_size_8abf5 yJx4a65c_size_8abf5, Cond.initialized RJx4a65c, Cond.code yJx4a65c_size_8abf5 cJx4a65c_size_8abf5 1 (some .int), Cond.fieldLink RJx4a65c 48 "java/util/ArrayList" "size" "I", Cond.methodLink RX4 48 yJx4a65c_get_915e3, Cond.instanceMethod yJx4a65c_get_915e3, Cond.selects RJx4a65c yJx4a65c_get_915e3 yJx4a65c_get_915e3, Cond.code yJx4a65c_get_915e3 cJx4a65c_get_915e3 2 (some (.object "java/lang/Object")), Cond.methodLink RJx4a65c 118 yJ15_checkIndex_7cf53, Cond.static yJ15_checkIndex_7cf53, Cond.initialized RJ15, Cond.code yJ15_checkIndex_7cf53 cJ15_checkIndex_7cf53 2 (some .int), Cond.methodLink RJ15 105 yJ3_checkIndex_8e157, Cond.static yJ3_checkIndex_8e157, Cond.initialized RJ3, Cond.code yJ3_checkIndex_8e157 cJ3_checkIndex_8e157 3 (some .int), Cond.methodLink RJx4a65c 123 yJx4a65c_elementData_915e3, Cond.instanceMethod yJx4a65c_elementData_915e3, Cond.selects RJx4a65c yJx4a65c_elementData_915e3 yJx4a65c_elementData_915e3]
def wsX4_hangsTogether_r2 : List Cond := [Cond.code yJx4a65c_elementData_915e3 cJx4a65c_elementData_915e3 2 (some (.object "java/lang/Object")), Cond.fieldLink RJx4a65c 9 "java/util/ArrayList" "elementData" "[Ljava/lang/Object;"]
def wsX4_hangsTogether : List Cond := .code yX4_hangsTogether cX4_hangsTogether 6 (some .boolean) :: ((wsX4_hangsTogether_r1 ++ wsX4_hangsTogether_r2) ++ wsX40 ++ wsX70 ++ wsJx4a65c0)
def wsX4_treesBySets_r1 : List Cond := [Cond.fieldLink RX4 12 "Koebehall$Network" "wires" "Ljava/util/ArrayList;", Cond.fieldLink RX4 23 "Koebehall$Network" "nodeCount" "I", Cond.methodLink RX4 30 yJx4a65c_size_8abf5, Cond.instanceMethod yJx4a65c_size_8abf5, Cond.selects RJx4a65c yJx4a65c_size_8abf5 yJx4a65c_size_8abf5, Cond.initialized RJx4a65c, Cond.code yJx4a65c_size_8abf5 cJx4a65c_size_8abf5 1 (some .int), Cond.fieldLink RJx4a65c 48 "java/util/ArrayList" "size" "I", Cond.methodLink RX4 80 yJ6_bitCount_0f7a4, Cond.static yJ6_bitCount_0f7a4, Cond.initialized RJ6, Cond.code yJ6_bitCount_0f7a4 cJ6_bitCount_0f7a4 1 (some .int), Cond.constant RJ6 265 (1431655765), Cond.constant RJ6 266 (858993459), Cond.constant RJ6 267 (252645135), Cond.methodLink RX4 86 yX4_hangsTogether, Cond.instanceMethod yX4_hangsTogether, Cond.selects RX4 yX4_hangsTogether yX4_hangsTogether, Cond.initialized RX4, Cond.code yX4_hangsTogether cX4_hangsTogether 6 (some .boolean), Cond.classLink RX4 52 "Koebehall$Wire", Cond.methodLink RX4 48 yJx4a65c_get_915e3, Cond.instanceMethod yJx4a65c_get_915e3, Cond.selects RJx4a65c yJx4a65c_get_915e3 yJx4a65c_get_915e3]
def wsX4_treesBySets_r2 : List Cond := [Cond.code yJx4a65c_get_915e3 cJx4a65c_get_915e3 2 (some (.object "java/lang/Object")), Cond.methodLink RJx4a65c 118 yJ15_checkIndex_7cf53, Cond.static yJ15_checkIndex_7cf53, Cond.initialized RJ15, Cond.code yJ15_checkIndex_7cf53 cJ15_checkIndex_7cf53 2 (some .int), Cond.methodLink RJ15 105 yJ3_checkIndex_8e157, Cond.static yJ3_checkIndex_8e157, Cond.initialized RJ3, Cond.code yJ3_checkIndex_8e157 cJ3_checkIndex_8e157 3 (some .int), Cond.methodLink RJx4a65c 123 yJx4a65c_elementData_915e3, Cond.instanceMethod yJx4a65c_elementData_915e3, Cond.selects RJx4a65c yJx4a65c_elementData_915e3 yJx4a65c_elementData_915e3, Cond.code yJx4a65c_elementData_915e3 cJx4a65c_elementData_915e3 2 (some (.object "java/lang/Object")), Cond.fieldLink RJx4a65c 9 "java/util/ArrayList" "elementData" "[Ljava/lang/Object;"]
def wsX4_treesBySets : List Cond := .code yX4_treesBySets cX4_treesBySets 3 (some .int) :: ((wsX4_treesBySets_r1 ++ wsX4_treesBySets_r2) ++ wsX40 ++ wsJx4a65c0 ++ wsX70)
def wsX4_heightOf_r1 : List Cond := [Cond.fieldLink RX4 23 "Koebehall$Network" "nodeCount" "I", Cond.fieldLink RX4 20 "Koebehall$Network" "rows" "[[J", Cond.methodLink RX4 57 yX4_lineOf, Cond.static yX4_lineOf, Cond.initialized RX4, Cond.code yX4_lineOf cX4_lineOf 2 (some .int), Cond.methodLink RX4 34 yX4_fillTable, Cond.instanceMethod yX4_fillTable, Cond.selects RX4 yX4_fillTable yX4_fillTable, Cond.code yX4_fillTable cX4_fillTable 5 none, Cond.fieldLink RX4 12 "Koebehall$Network" "wires" "Ljava/util/ArrayList;", Cond.classLink RX4 52 "Koebehall$Wire", Cond.constantLong RX4 68 (-1), Cond.methodLink RX4 42 yJ7_fill_d0a16, Cond.static yJ7_fill_d0a16, Cond.initialized RJ7, Cond.code yJ7_fill_d0a16 cJ7_fill_d0a16 5 none, Cond.methodLink RX4 30 yJx4a65c_size_8abf5, Cond.instanceMethod yJx4a65c_size_8abf5, Cond.selects RJx4a65c yJx4a65c_size_8abf5 yJx4a65c_size_8abf5, Cond.initialized RJx4a65c, Cond.code yJx4a65c_size_8abf5 cJx4a65c_size_8abf5 1 (some .int), Cond.fieldLink RJx4a65c 48 "java/util/ArrayList" "size" "I", Cond.methodLink RX4 48 yJx4a65c_get_915e3]
def wsX4_heightOf_r2 : List Cond := [Cond.instanceMethod yJx4a65c_get_915e3, Cond.selects RJx4a65c yJx4a65c_get_915e3 yJx4a65c_get_915e3, Cond.code yJx4a65c_get_915e3 cJx4a65c_get_915e3 2 (some (.object "java/lang/Object")), Cond.methodLink RJx4a65c 118 yJ15_checkIndex_7cf53, Cond.static yJ15_checkIndex_7cf53, Cond.initialized RJ15, Cond.code yJ15_checkIndex_7cf53 cJ15_checkIndex_7cf53 2 (some .int), Cond.methodLink RJ15 105 yJ3_checkIndex_8e157, Cond.static yJ3_checkIndex_8e157, Cond.initialized RJ3, Cond.code yJ3_checkIndex_8e157 cJ3_checkIndex_8e157 3 (some .int), Cond.methodLink RJx4a65c 123 yJx4a65c_elementData_915e3, Cond.instanceMethod yJx4a65c_elementData_915e3, Cond.selects RJx4a65c yJx4a65c_elementData_915e3 yJx4a65c_elementData_915e3, Cond.code yJx4a65c_elementData_915e3 cJx4a65c_elementData_915e3 2 (some (.object "java/lang/Object")), Cond.fieldLink RJx4a65c 9 "java/util/ArrayList" "elementData" "[Ljava/lang/Object;", Cond.methodLink RX4 64 yX4_addToTable, Cond.instanceMethod yX4_addToTable, Cond.selects RX4 yX4_addToTable yX4_addToTable, Cond.code yX4_addToTable cX4_addToTable 5 none, Cond.methodLink RX4 38 yX4_determinant, Cond.instanceMethod yX4_determinant, Cond.selects RX4 yX4_determinant yX4_determinant, Cond.code yX4_determinant cX4_determinant 8 (some .long)]
def wsX4_heightOf_r3 : List Cond := [Cond.methodLink RX4 70 yX4_pivotRow, Cond.instanceMethod yX4_pivotRow, Cond.selects RX4 yX4_pivotRow yX4_pivotRow, Cond.code yX4_pivotRow cX4_pivotRow 4 (some .int), Cond.methodLink RX4 73 yX4_swapRows, Cond.instanceMethod yX4_swapRows, Cond.selects RX4 yX4_swapRows yX4_swapRows, Cond.code yX4_swapRows cX4_swapRows 4 none, Cond.methodLink RX4 77 yX4_reduceBelow, Cond.instanceMethod yX4_reduceBelow, Cond.selects RX4 yX4_reduceBelow yX4_reduceBelow, Cond.code yX4_reduceBelow cX4_reduceBelow 9 none]
def wsX4_heightOf : List Cond := .code yX4_heightOf cX4_heightOf 6 (some .long) :: ((wsX4_heightOf_r1 ++ (wsX4_heightOf_r2 ++ wsX4_heightOf_r3)) ++ wsX40 ++ wsX70 ++ wsJx4a65c0)
def wsX4_fallAlong_r1 : List Cond := [Cond.fieldLink RX4 12 "Koebehall$Network" "wires" "Ljava/util/ArrayList;", Cond.classLink RX4 52 "Koebehall$Wire", Cond.methodLink RX4 90 yX4_hasWire, Cond.instanceMethod yX4_hasWire, Cond.selects RX4 yX4_hasWire yX4_hasWire, Cond.initialized RX4, Cond.code yX4_hasWire cX4_hasWire 2 (some .boolean), Cond.methodLink RX4 30 yJx4a65c_size_8abf5, Cond.instanceMethod yJx4a65c_size_8abf5, Cond.selects RJx4a65c yJx4a65c_size_8abf5 yJx4a65c_size_8abf5, Cond.initialized RJx4a65c, Cond.code yJx4a65c_size_8abf5 cJx4a65c_size_8abf5 1 (some .int), Cond.fieldLink RJx4a65c 48 "java/util/ArrayList" "size" "I", Cond.methodLink RX4 48 yJx4a65c_get_915e3, Cond.instanceMethod yJx4a65c_get_915e3, Cond.selects RJx4a65c yJx4a65c_get_915e3 yJx4a65c_get_915e3, Cond.code yJx4a65c_get_915e3 cJx4a65c_get_915e3 2 (some (.object "java/lang/Object")), Cond.methodLink RJx4a65c 118 yJ15_checkIndex_7cf53, Cond.static yJ15_checkIndex_7cf53, Cond.initialized RJ15, Cond.code yJ15_checkIndex_7cf53 cJ15_checkIndex_7cf53 2 (some .int), Cond.methodLink RJ15 105 yJ3_checkIndex_8e157, Cond.static yJ3_checkIndex_8e157, Cond.initialized RJ3]
def wsX4_fallAlong_r2 : List Cond := [Cond.code yJ3_checkIndex_8e157 cJ3_checkIndex_8e157 3 (some .int), Cond.methodLink RJx4a65c 123 yJx4a65c_elementData_915e3, Cond.instanceMethod yJx4a65c_elementData_915e3, Cond.selects RJx4a65c yJx4a65c_elementData_915e3 yJx4a65c_elementData_915e3, Cond.code yJx4a65c_elementData_915e3 cJx4a65c_elementData_915e3 2 (some (.object "java/lang/Object")), Cond.fieldLink RJx4a65c 9 "java/util/ArrayList" "elementData" "[Ljava/lang/Object;", Cond.methodLink RX4 93 yX4_heightOf, Cond.instanceMethod yX4_heightOf, Cond.selects RX4 yX4_heightOf yX4_heightOf, Cond.code yX4_heightOf cX4_heightOf 6 (some .long), Cond.fieldLink RX4 23 "Koebehall$Network" "nodeCount" "I", Cond.fieldLink RX4 20 "Koebehall$Network" "rows" "[[J", Cond.methodLink RX4 57 yX4_lineOf, Cond.static yX4_lineOf, Cond.code yX4_lineOf cX4_lineOf 2 (some .int), Cond.methodLink RX4 34 yX4_fillTable, Cond.instanceMethod yX4_fillTable, Cond.selects RX4 yX4_fillTable yX4_fillTable, Cond.code yX4_fillTable cX4_fillTable 5 none, Cond.constantLong RX4 68 (-1), Cond.methodLink RX4 42 yJ7_fill_d0a16, Cond.static yJ7_fill_d0a16, Cond.initialized RJ7, Cond.code yJ7_fill_d0a16 cJ7_fill_d0a16 5 none]
def wsX4_fallAlong_r3 : List Cond := [Cond.methodLink RX4 64 yX4_addToTable, Cond.instanceMethod yX4_addToTable, Cond.selects RX4 yX4_addToTable yX4_addToTable, Cond.code yX4_addToTable cX4_addToTable 5 none, Cond.methodLink RX4 38 yX4_determinant, Cond.instanceMethod yX4_determinant, Cond.selects RX4 yX4_determinant yX4_determinant, Cond.code yX4_determinant cX4_determinant 8 (some .long), Cond.methodLink RX4 70 yX4_pivotRow, Cond.instanceMethod yX4_pivotRow, Cond.selects RX4 yX4_pivotRow yX4_pivotRow, Cond.code yX4_pivotRow cX4_pivotRow 4 (some .int), Cond.methodLink RX4 73 yX4_swapRows, Cond.instanceMethod yX4_swapRows, Cond.selects RX4 yX4_swapRows yX4_swapRows, Cond.code yX4_swapRows cX4_swapRows 4 none, Cond.methodLink RX4 77 yX4_reduceBelow, Cond.instanceMethod yX4_reduceBelow, Cond.selects RX4 yX4_reduceBelow yX4_reduceBelow, Cond.code yX4_reduceBelow cX4_reduceBelow 9 none]
def wsX4_fallAlong : List Cond := .code yX4_fallAlong cX4_fallAlong 5 (some .long) :: ((wsX4_fallAlong_r1 ++ (wsX4_fallAlong_r2 ++ wsX4_fallAlong_r3)) ++ wsX40 ++ wsX70 ++ wsJx4a65c0)
def wsX5_init : List Cond := .code yX5_init cX5_init 1 none :: ([.methodLink RX5 3 objectInit, .instanceMethod objectInit, .code objectInit ⟨#[0xb1]⟩ 1 none, .arrayClass .long, .fieldLink RX5 11 "Koebehall$RemainderWalk" "seen" "[J", .fieldLink RX5 15 "Koebehall$RemainderWalk" "waiting" "[J"] ++ wsX50)
def wsJ9_floorMod_f86c9 : List Cond := .code yJ9_floorMod_f86c9 cJ9_floorMod_f86c9 6 (some .long) :: ([])
def wsX5_codeOf : List Cond := .code yX5_codeOf cX5_codeOf 4 (some .int) :: ([.methodLink RX5 44 yJ9_floorMod_f86c9, .static yJ9_floorMod_f86c9, .initialized RJ9, .code yJ9_floorMod_f86c9 cJ9_floorMod_f86c9 6 (some .long)])
def wsX5_noteCode : List Cond := .code yX5_noteCode cX5_noteCode 4 none :: ([.fieldLink RX5 11 "Koebehall$RemainderWalk" "seen" "[J", .fieldLink RX5 15 "Koebehall$RemainderWalk" "waiting" "[J"] ++ wsX50)
def wsJ6_numberOfTrailingZeros_0f7a4 : List Cond := .code yJ6_numberOfTrailingZeros_0f7a4 cJ6_numberOfTrailingZeros_0f7a4 2 (some .int) :: ([.constant RJ6 264 (65536)])
def wsJ13_numberOfTrailingZeros_95d88 : List Cond := .code yJ13_numberOfTrailingZeros_95d88 cJ13_numberOfTrailingZeros_95d88 3 (some .int) :: ([.methodLink RJ13 311 yJ6_numberOfTrailingZeros_0f7a4, .static yJ6_numberOfTrailingZeros_0f7a4, .initialized RJ6, .code yJ6_numberOfTrailingZeros_0f7a4 cJ6_numberOfTrailingZeros_0f7a4 2 (some .int), .constant RJ6 264 (65536)])
def wsX5_takeWaiting : List Cond := .code yX5_takeWaiting cX5_takeWaiting 3 (some .int) :: ([.fieldLink RX5 15 "Koebehall$RemainderWalk" "waiting" "[J", .methodLink RX5 52 yJ13_numberOfTrailingZeros_95d88, .static yJ13_numberOfTrailingZeros_95d88, .initialized RJ13, .code yJ13_numberOfTrailingZeros_95d88 cJ13_numberOfTrailingZeros_95d88 3 (some .int), .methodLink RJ13 311 yJ6_numberOfTrailingZeros_0f7a4, .static yJ6_numberOfTrailingZeros_0f7a4, .initialized RJ6, .code yJ6_numberOfTrailingZeros_0f7a4 cJ6_numberOfTrailingZeros_0f7a4 2 (some .int), .constant RJ6 264 (65536)] ++ wsX50)
def wsX5_remainderAt : List Cond := .code yX5_remainderAt cX5_remainderAt 2 (some .int) :: ([])
def wsJ9_floorMod_7cf53 : List Cond := .code yJ9_floorMod_7cf53 cJ9_floorMod_7cf53 3 (some .int) :: ([])
def wsX5_turnedCode : List Cond := .code yX5_turnedCode cX5_turnedCode 5 (some .int) :: ([.methodLink RX5 36 yX5_remainderAt, .static yX5_remainderAt, .initialized RX5, .code yX5_remainderAt cX5_remainderAt 2 (some .int), .methodLink RX5 50 yJ9_floorMod_7cf53, .static yJ9_floorMod_7cf53, .initialized RJ9, .code yJ9_floorMod_7cf53 cJ9_floorMod_7cf53 3 (some .int)])
def wsX5_allReached_r1 : List Cond := [Cond.fieldLink RX5 11 "Koebehall$RemainderWalk" "seen" "[J", Cond.fieldLink RX5 15 "Koebehall$RemainderWalk" "waiting" "[J", Cond.methodLink RX5 18 yJ7_fill_d0a16, Cond.static yJ7_fill_d0a16, Cond.initialized RJ7, Cond.code yJ7_fill_d0a16 cJ7_fill_d0a16 5 none, Cond.methodLink RX5 24 yX5_codeOf, Cond.static yX5_codeOf, Cond.initialized RX5, Cond.code yX5_codeOf cX5_codeOf 4 (some .int), Cond.methodLink RX5 44 yJ9_floorMod_f86c9, Cond.static yJ9_floorMod_f86c9, Cond.initialized RJ9, Cond.code yJ9_floorMod_f86c9 cJ9_floorMod_f86c9 6 (some .long), Cond.methodLink RX5 28 yX5_noteCode, Cond.instanceMethod yX5_noteCode, Cond.selects RX5 yX5_noteCode yX5_noteCode, Cond.code yX5_noteCode cX5_noteCode 4 none, Cond.methodLink RX5 32 yX5_takeWaiting, Cond.instanceMethod yX5_takeWaiting, Cond.selects RX5 yX5_takeWaiting yX5_takeWaiting, Cond.code yX5_takeWaiting cX5_takeWaiting 3 (some .int), Cond.methodLink RX5 52 yJ13_numberOfTrailingZeros_95d88, Cond.static yJ13_numberOfTrailingZeros_95d88]
def wsX5_allReached_r2 : List Cond := [Cond.initialized RJ13, Cond.code yJ13_numberOfTrailingZeros_95d88 cJ13_numberOfTrailingZeros_95d88 3 (some .int), Cond.methodLink RJ13 311 yJ6_numberOfTrailingZeros_0f7a4, Cond.static yJ6_numberOfTrailingZeros_0f7a4, Cond.initialized RJ6, Cond.code yJ6_numberOfTrailingZeros_0f7a4 cJ6_numberOfTrailingZeros_0f7a4 2 (some .int), Cond.constant RJ6 264 (65536), Cond.methodLink RX5 36 yX5_remainderAt, Cond.static yX5_remainderAt, Cond.code yX5_remainderAt cX5_remainderAt 2 (some .int), Cond.methodLink RX5 40 yX5_turnedCode, Cond.static yX5_turnedCode, Cond.code yX5_turnedCode cX5_turnedCode 5 (some .int), Cond.methodLink RX5 50 yJ9_floorMod_7cf53, Cond.static yJ9_floorMod_7cf53, Cond.code yJ9_floorMod_7cf53 cJ9_floorMod_7cf53 3 (some .int)]
def wsX5_allReached : List Cond := .code yX5_allReached cX5_allReached 7 (some .int) :: ((wsX5_allReached_r1 ++ wsX5_allReached_r2) ++ wsX50)
def wsX6_init : List Cond := .code yX6_init cX6_init 9 none :: ([.methodLink RX6 1 objectInit, .instanceMethod objectInit, .code objectInit ⟨#[0xb1]⟩ 1 none, .fieldLink RX6 7 "Koebehall$Table" "a" "J", .fieldLink RX6 13 "Koebehall$Table" "b" "J", .fieldLink RX6 16 "Koebehall$Table" "c" "J", .fieldLink RX6 19 "Koebehall$Table" "d" "J"] ++ wsX60)
def wsX6_undone : List Cond := .code yX6_undone cX6_undone 1 (some (.object "Koebehall$Table")) :: ([.classLink RX6 8 RX6, .instantiable RX6 4, .initialized RX6, .fieldLink RX6 19 "Koebehall$Table" "d" "J", .fieldLink RX6 13 "Koebehall$Table" "b" "J", .fieldLink RX6 16 "Koebehall$Table" "c" "J", .fieldLink RX6 7 "Koebehall$Table" "a" "J", .methodLink RX6 22 yX6_init, .instanceMethod yX6_init, .code yX6_init cX6_init 9 none, .methodLink RX6 1 objectInit, .instanceMethod objectInit, .code objectInit ⟨#[0xb1]⟩ 1 none] ++ wsX60)
def wsX6_times : List Cond := .code yX6_times cX6_times 2 (some (.object "Koebehall$Table")) :: ([.classLink RX6 8 RX6, .instantiable RX6 4, .initialized RX6, .fieldLink RX6 7 "Koebehall$Table" "a" "J", .fieldLink RX6 13 "Koebehall$Table" "b" "J", .fieldLink RX6 16 "Koebehall$Table" "c" "J", .fieldLink RX6 19 "Koebehall$Table" "d" "J", .methodLink RX6 22 yX6_init, .instanceMethod yX6_init, .code yX6_init cX6_init 9 none, .methodLink RX6 1 objectInit, .instanceMethod objectInit, .code objectInit ⟨#[0xb1]⟩ 1 none] ++ wsX60)
def wsX8_isWithin : List Cond := .code yX8_isWithin cX8_isWithin 4 (some .boolean) :: ([])
def wsX6_isWhollyWithin : List Cond := .code yX6_isWhollyWithin cX6_isWhollyWithin 3 (some .boolean) :: ([.fieldLink RX6 7 "Koebehall$Table" "a" "J", .fieldLink RX6 13 "Koebehall$Table" "b" "J", .fieldLink RX6 16 "Koebehall$Table" "c" "J", .fieldLink RX6 19 "Koebehall$Table" "d" "J", .static yX8_isWithin, .initialized RX8, .code yX8_isWithin cX8_isWithin 4 (some .boolean)] ++ wsX60)
def wsX6_trace : List Cond := .code yX6_trace cX6_trace 1 (some .long) :: ([.fieldLink RX6 7 "Koebehall$Table" "a" "J", .fieldLink RX6 19 "Koebehall$Table" "d" "J"] ++ wsX60)
def wsX6_kind : List Cond := .code yX6_kind cX6_kind 3 (some .int) :: ([.fieldLink RX6 13 "Koebehall$Table" "b" "J", .fieldLink RX6 16 "Koebehall$Table" "c" "J", .fieldLink RX6 7 "Koebehall$Table" "a" "J", .fieldLink RX6 19 "Koebehall$Table" "d" "J", .methodLink RX6 35 Lib.MathLoose.abs_long.x, .static Lib.MathLoose.abs_long.x, .initialized "java/lang/Math", .code Lib.MathLoose.abs_long.x Lib.MathLoose.abs_long.code 2 (some .long), .constantLong RX6 41 (2), .methodLink RX6 31 yX6_trace, .instanceMethod yX6_trace, .selects RX6 yX6_trace yX6_trace, .initialized RX6, .code yX6_trace cX6_trace 1 (some .long)] ++ wsX60)
def wsX7_init : List Cond := .code yX7_init cX7_init 3 none :: ([.methodLink RX7 1 objectInit, .instanceMethod objectInit, .code objectInit ⟨#[0xb1]⟩ 1 none, .fieldLink RX7 7 "Koebehall$Wire" "first" "I", .fieldLink RX7 13 "Koebehall$Wire" "second" "I"] ++ wsX70)
def wsX8_init_r1 : List Cond := [Cond.methodLink RX8 1 objectInit, Cond.instanceMethod objectInit, Cond.code objectInit ⟨#[0xb1]⟩ 1 none, Cond.classLink RX8 7 RX3, Cond.instantiable RX3 4, Cond.initialized RX3, Cond.fieldLink RX8 10 "Koebehall" "sphere" "LKoebehall$Net;", Cond.classLink RX8 16 RJx4a65c, Cond.instantiable RJx4a65c 3, Cond.initialized RJx4a65c, Cond.fieldLink RX8 19 "Koebehall" "disks" "Ljava/util/ArrayList;", Cond.fieldLink RX8 23 "Koebehall" "gaskets" "Ljava/util/ArrayList;", Cond.classLink RX8 26 RX5, Cond.instantiable RX5 2, Cond.initialized RX5, Cond.fieldLink RX8 29 "Koebehall" "remainderWalk" "LKoebehall$RemainderWalk;", Cond.fieldLink RX8 33 "Koebehall" "moves" "Ljava/util/ArrayList;", Cond.classLink RX8 36 RX6, Cond.instantiable RX6 4, Cond.initialized RX6, Cond.fieldLink RX8 41 "Koebehall" "product" "LKoebehall$Table;", Cond.classLink RX8 45 RX4, Cond.instantiable RX4 3, Cond.initialized RX4]
def wsX8_init_r2 : List Cond := [Cond.fieldLink RX8 48 "Koebehall" "network" "LKoebehall$Network;", Cond.instanceMethod yX3_init, Cond.code yX3_init cX3_init 2 none, Cond.methodLink RX3 5 objectInit, Cond.arrayClass .int, Cond.fieldLink RX3 11 "Koebehall$Net" "named" "[I", Cond.fieldLink RX3 15 "Koebehall$Net" "thirds" "[I", Cond.fieldLink RX3 24 "Koebehall$Net" "cornerCount" "I", Cond.fieldLink RX3 28 "Koebehall$Net" "faceCount" "I", Cond.fieldLink RX3 31 "Koebehall$Net" "FIRST_FACES" "[I", Cond.methodLink RX3 18 yJ7_fill_53178, Cond.static yJ7_fill_53178, Cond.initialized RJ7, Cond.code yJ7_fill_53178 cJ7_fill_53178 4 none, Cond.methodLink RX3 34 yX3_putFace, Cond.instanceMethod yX3_putFace, Cond.selects RX3 yX3_putFace yX3_putFace, Cond.code yX3_putFace cX3_putFace 5 none, Cond.methodLink RX3 42 yX3_putCorners, Cond.instanceMethod yX3_putCorners, Cond.selects RX3 yX3_putCorners yX3_putCorners, Cond.code yX3_putCorners cX3_putCorners 5 none, Cond.methodLink RX3 45 yX3_putThird, Cond.instanceMethod yX3_putThird]
def wsX8_init_r3 : List Cond := [Cond.selects RX3 yX3_putThird yX3_putThird, Cond.code yX3_putThird cX3_putThird 4 none, Cond.methodLink RX8 18 yJx4a65c_init_da8c8, Cond.instanceMethod yJx4a65c_init_da8c8, Cond.code yJx4a65c_init_da8c8 cJx4a65c_init_da8c8 1 none, Cond.fieldLink RJx4a65c 39 "java/util/ArrayList" "DEFAULTCAPACITY_EMPTY_ELEMENTDATA" "[Ljava/lang/Object;", Cond.fieldLink RJx4a65c 9 "java/util/ArrayList" "elementData" "[Ljava/lang/Object;", Cond.methodLink RJx4a65c 1 yJxc12de_init_da8c8, Cond.instanceMethod yJxc12de_init_da8c8, Cond.initialized RJxc12de, Cond.code yJxc12de_init_da8c8 cJxc12de_init_da8c8 1 none, Cond.fieldLink RJxc12de 7 "java/util/AbstractList" "modCount" "I", Cond.methodLink RJxc12de 1 yJxa1e45_init_da8c8, Cond.instanceMethod yJxa1e45_init_da8c8, Cond.initialized RJxa1e45, Cond.code yJxa1e45_init_da8c8 cJxa1e45_init_da8c8 1 none, Cond.methodLink RJxa1e45 1 objectInit, Cond.instanceMethod yX5_init, Cond.code yX5_init cX5_init 1 none, Cond.methodLink RX5 3 objectInit, Cond.arrayClass .long, Cond.fieldLink RX5 11 "Koebehall$RemainderWalk" "seen" "[J", Cond.fieldLink RX5 15 "Koebehall$RemainderWalk" "waiting" "[J", Cond.instanceMethod yX6_init]
def wsX8_init_r4 : List Cond := [Cond.code yX6_init cX6_init 9 none, Cond.methodLink RX6 1 objectInit, Cond.fieldLink RX6 7 "Koebehall$Table" "a" "J", Cond.fieldLink RX6 13 "Koebehall$Table" "b" "J", Cond.fieldLink RX6 16 "Koebehall$Table" "c" "J", Cond.fieldLink RX6 19 "Koebehall$Table" "d" "J", Cond.instanceMethod yX4_init, Cond.code yX4_init cX4_init 1 none, Cond.methodLink RX4 3 objectInit, Cond.classLink RX4 9 RJx4a65c, Cond.fieldLink RX4 12 "Koebehall$Network" "wires" "Ljava/util/ArrayList;", Cond.classLink RX4 18 "[[J", Cond.fieldLink RX4 20 "Koebehall$Network" "rows" "[[J", Cond.fieldLink RX4 23 "Koebehall$Network" "nodeCount" "I", Cond.methodLink RX4 11 yJx4a65c_init_da8c8]
def wsX8_init : List Cond := .code yX8_init cX8_init 1 none :: ((wsX8_init_r1 ++ (wsX8_init_r2 ++ (wsX8_init_r3 ++ wsX8_init_r4))) ++ wsX30 ++ wsX80 ++ wsJx4a65c0 ++ wsX50 ++ wsX60 ++ wsX40)
def wsX8_split_r1 : List Cond := [Cond.classLink RX8 56 "java/lang/IndexOutOfBoundsException", Cond.initialized "java/lang/IndexOutOfBoundsException", Cond.classLink RX8 67 "java/lang/IllegalStateException", Cond.initialized "java/lang/IllegalStateException", Cond.fieldLink RX8 10 "Koebehall" "sphere" "LKoebehall$Net;", Cond.instanceMethod yX3_hasFace, Cond.initialized RX3, Cond.selects RX3 yX3_hasFace yX3_hasFace, Cond.code yX3_hasFace cX3_hasFace 2 (some .boolean), Cond.fieldLink RX3 28 "Koebehall$Net" "faceCount" "I", Cond.instanceMethod yX3_isFull, Cond.selects RX3 yX3_isFull yX3_isFull, Cond.code yX3_isFull cX3_isFull 1 (some .boolean), Cond.fieldLink RX3 24 "Koebehall$Net" "cornerCount" "I", Cond.instanceMethod yX3_splitFace, Cond.selects RX3 yX3_splitFace yX3_splitFace, Cond.code yX3_splitFace cX3_splitFace 6 (some .int), Cond.methodLink RX3 38 yX3_cornerOf, Cond.instanceMethod yX3_cornerOf, Cond.selects RX3 yX3_cornerOf yX3_cornerOf, Cond.code yX3_cornerOf cX3_cornerOf 3 (some .int), Cond.fieldLink RX3 11 "Koebehall$Net" "named" "[I", Cond.methodLink RX3 34 yX3_putFace, Cond.instanceMethod yX3_putFace]
def wsX8_split_r2 : List Cond := [Cond.selects RX3 yX3_putFace yX3_putFace, Cond.code yX3_putFace cX3_putFace 5 none, Cond.methodLink RX3 42 yX3_putCorners, Cond.instanceMethod yX3_putCorners, Cond.selects RX3 yX3_putCorners yX3_putCorners, Cond.code yX3_putCorners cX3_putCorners 5 none, Cond.methodLink RX3 45 yX3_putThird, Cond.instanceMethod yX3_putThird, Cond.selects RX3 yX3_putThird yX3_putThird, Cond.code yX3_putThird cX3_putThird 4 none, Cond.fieldLink RX3 15 "Koebehall$Net" "thirds" "[I"]
def wsX8_split : List Cond := .code yX8_split cX8_split 2 (some .int) :: ((wsX8_split_r1 ++ wsX8_split_r2) ++ wsX80 ++ wsX30 ++ (vx_atS RX8 60 "java/lang/IndexOutOfBoundsException" ["java/lang/RuntimeException", "java/lang/Exception"]).filter goodWord ++ (vx_atS RX8 71 "java/lang/IllegalStateException" ["java/lang/RuntimeException", "java/lang/Exception"]).filter goodWord)
def wsX8_flip_r1 : List Cond := [Cond.classLink RX8 56 "java/lang/IndexOutOfBoundsException", Cond.initialized "java/lang/IndexOutOfBoundsException", Cond.classLink RX8 67 "java/lang/IllegalStateException", Cond.initialized "java/lang/IllegalStateException", Cond.fieldLink RX8 10 "Koebehall" "sphere" "LKoebehall$Net;", Cond.instanceMethod yX3_hasCorner, Cond.initialized RX3, Cond.selects RX3 yX3_hasCorner yX3_hasCorner, Cond.code yX3_hasCorner cX3_hasCorner 2 (some .boolean), Cond.fieldLink RX3 24 "Koebehall$Net" "cornerCount" "I", Cond.instanceMethod yX3_canFlip, Cond.selects RX3 yX3_canFlip yX3_canFlip, Cond.code yX3_canFlip cX3_canFlip 3 (some .boolean), Cond.methodLink RX3 56 yX3_areNeighbours, Cond.instanceMethod yX3_areNeighbours, Cond.selects RX3 yX3_areNeighbours yX3_areNeighbours, Cond.code yX3_areNeighbours cX3_areNeighbours 3 (some .boolean), Cond.methodLink RX3 53 yX3_thirdOf, Cond.instanceMethod yX3_thirdOf, Cond.selects RX3 yX3_thirdOf yX3_thirdOf, Cond.code yX3_thirdOf cX3_thirdOf 3 (some .int), Cond.fieldLink RX3 15 "Koebehall$Net" "thirds" "[I", Cond.methodLink RX3 49 yX3_hasCorner, Cond.instanceMethod yX3_flipEdge]
def wsX8_flip_r2 : List Cond := [Cond.selects RX3 yX3_flipEdge yX3_flipEdge, Cond.code yX3_flipEdge cX3_flipEdge 7 (some .int), Cond.methodLink RX3 63 Lib.Math.min.name, Cond.static Lib.Math.min.name, Cond.initialized "java/lang/Math", Cond.code Lib.Math.min.name Lib.Math.min.code 2 (some .int), Cond.methodLink RX3 68 Lib.Math.max.name, Cond.static Lib.Math.max.name, Cond.code Lib.Math.max.name Lib.Math.max.code 2 (some .int), Cond.methodLink RX3 60 yX3_faceWith, Cond.instanceMethod yX3_faceWith, Cond.selects RX3 yX3_faceWith yX3_faceWith, Cond.code yX3_faceWith cX3_faceWith 5 (some .int), Cond.fieldLink RX3 28 "Koebehall$Net" "faceCount" "I", Cond.fieldLink RX3 11 "Koebehall$Net" "named" "[I", Cond.methodLink RX3 45 yX3_putThird, Cond.instanceMethod yX3_putThird, Cond.selects RX3 yX3_putThird yX3_putThird, Cond.code yX3_putThird cX3_putThird 4 none, Cond.methodLink RX3 34 yX3_putFace, Cond.instanceMethod yX3_putFace, Cond.selects RX3 yX3_putFace yX3_putFace, Cond.code yX3_putFace cX3_putFace 5 none, Cond.methodLink RX3 42 yX3_putCorners]
def wsX8_flip_r3 : List Cond := [Cond.instanceMethod yX3_putCorners, Cond.selects RX3 yX3_putCorners yX3_putCorners, Cond.code yX3_putCorners cX3_putCorners 5 none]
def wsX8_flip : List Cond := .code yX8_flip cX8_flip 3 (some .int) :: ((wsX8_flip_r1 ++ (wsX8_flip_r2 ++ wsX8_flip_r3)) ++ wsX80 ++ wsX30 ++ (vx_atS RX8 60 "java/lang/IndexOutOfBoundsException" ["java/lang/RuntimeException", "java/lang/Exception"]).filter goodWord ++ (vx_atS RX8 71 "java/lang/IllegalStateException" ["java/lang/RuntimeException", "java/lang/Exception"]).filter goodWord)
def wsX8_corner : List Cond := .code yX8_corner cX8_corner 3 (some .int) :: ([.classLink RX8 56 "java/lang/IndexOutOfBoundsException", .initialized "java/lang/IndexOutOfBoundsException", .fieldLink RX8 10 "Koebehall" "sphere" "LKoebehall$Net;", .instanceMethod yX3_hasFace, .initialized RX3, .selects RX3 yX3_hasFace yX3_hasFace, .code yX3_hasFace cX3_hasFace 2 (some .boolean), .fieldLink RX3 28 "Koebehall$Net" "faceCount" "I", .instanceMethod yX3_cornerOf, .selects RX3 yX3_cornerOf yX3_cornerOf, .code yX3_cornerOf cX3_cornerOf 3 (some .int), .fieldLink RX3 11 "Koebehall$Net" "named" "[I"] ++ wsX80 ++ wsX30 ++ (vx_atS RX8 60 "java/lang/IndexOutOfBoundsException" ["java/lang/RuntimeException", "java/lang/Exception"]).filter goodWord)
def wsX8_around_r1 : List Cond := [Cond.classLink RX8 56 "java/lang/IndexOutOfBoundsException", Cond.initialized "java/lang/IndexOutOfBoundsException", Cond.fieldLink RX8 10 "Koebehall" "sphere" "LKoebehall$Net;", Cond.instanceMethod yX3_hasCorner, Cond.initialized RX3, Cond.selects RX3 yX3_hasCorner yX3_hasCorner, Cond.code yX3_hasCorner cX3_hasCorner 2 (some .boolean), Cond.fieldLink RX3 24 "Koebehall$Net" "cornerCount" "I", Cond.instanceMethod yX3_neighbourAt, Cond.selects RX3 yX3_neighbourAt yX3_neighbourAt, Cond.code yX3_neighbourAt cX3_neighbourAt 6 (some .int), Cond.methodLink RX3 71 yX3_lowestNeighbour, Cond.instanceMethod yX3_lowestNeighbour, Cond.selects RX3 yX3_lowestNeighbour yX3_lowestNeighbour, Cond.code yX3_lowestNeighbour cX3_lowestNeighbour 3 (some .int), Cond.methodLink RX3 56 yX3_areNeighbours, Cond.instanceMethod yX3_areNeighbours, Cond.selects RX3 yX3_areNeighbours yX3_areNeighbours, Cond.code yX3_areNeighbours cX3_areNeighbours 3 (some .boolean), Cond.methodLink RX3 53 yX3_thirdOf, Cond.instanceMethod yX3_thirdOf, Cond.selects RX3 yX3_thirdOf yX3_thirdOf, Cond.code yX3_thirdOf cX3_thirdOf 3 (some .int), Cond.fieldLink RX3 15 "Koebehall$Net" "thirds" "[I"]
def wsX8_around_r2 : List Cond := [Cond.methodLink RX3 49 yX3_hasCorner]
def wsX8_around : List Cond := .code yX8_around cX8_around 3 (some .int) :: ((wsX8_around_r1 ++ wsX8_around_r2) ++ wsX80 ++ wsX30 ++ (vx_atS RX8 60 "java/lang/IndexOutOfBoundsException" ["java/lang/RuntimeException", "java/lang/Exception"]).filter goodWord)
def wsX8_net_r1 : List Cond := [Cond.classLink RX8 56 "java/lang/IndexOutOfBoundsException", Cond.initialized "java/lang/IndexOutOfBoundsException", Cond.fieldLink RX8 10 "Koebehall" "sphere" "LKoebehall$Net;", Cond.instanceMethod yX3_edgeCount, Cond.initialized RX3, Cond.selects RX3 yX3_edgeCount yX3_edgeCount, Cond.code yX3_edgeCount cX3_edgeCount 1 (some .int), Cond.fieldLink RX3 28 "Koebehall$Net" "faceCount" "I", Cond.instanceMethod yX3_flippableCount, Cond.selects RX3 yX3_flippableCount yX3_flippableCount, Cond.code yX3_flippableCount cX3_flippableCount 4 (some .int), Cond.fieldLink RX3 24 "Koebehall$Net" "cornerCount" "I", Cond.methodLink RX3 75 yX3_canFlip, Cond.instanceMethod yX3_canFlip, Cond.selects RX3 yX3_canFlip yX3_canFlip, Cond.code yX3_canFlip cX3_canFlip 3 (some .boolean), Cond.methodLink RX3 56 yX3_areNeighbours, Cond.instanceMethod yX3_areNeighbours, Cond.selects RX3 yX3_areNeighbours yX3_areNeighbours, Cond.code yX3_areNeighbours cX3_areNeighbours 3 (some .boolean), Cond.methodLink RX3 53 yX3_thirdOf, Cond.instanceMethod yX3_thirdOf, Cond.selects RX3 yX3_thirdOf yX3_thirdOf, Cond.code yX3_thirdOf cX3_thirdOf 3 (some .int)]
def wsX8_net_r2 : List Cond := [Cond.fieldLink RX3 15 "Koebehall$Net" "thirds" "[I", Cond.methodLink RX3 49 yX3_hasCorner, Cond.instanceMethod yX3_hasCorner, Cond.selects RX3 yX3_hasCorner yX3_hasCorner, Cond.code yX3_hasCorner cX3_hasCorner 2 (some .boolean), Cond.instanceMethod yX3_mostNeighbours, Cond.selects RX3 yX3_mostNeighbours yX3_mostNeighbours, Cond.code yX3_mostNeighbours cX3_mostNeighbours 3 (some .int), Cond.methodLink RX3 68 Lib.Math.max.name, Cond.static Lib.Math.max.name, Cond.initialized "java/lang/Math", Cond.code Lib.Math.max.name Lib.Math.max.code 2 (some .int), Cond.methodLink RX3 78 yX3_facesAt, Cond.instanceMethod yX3_facesAt, Cond.selects RX3 yX3_facesAt yX3_facesAt, Cond.code yX3_facesAt cX3_facesAt 4 (some .int), Cond.fieldLink RX3 11 "Koebehall$Net" "named" "[I"]
def wsX8_net : List Cond := .code yX8_net cX8_net 2 (some .int) :: ((wsX8_net_r1 ++ wsX8_net_r2) ++ wsX80 ++ wsX30 ++ (vx_atS RX8 60 "java/lang/IndexOutOfBoundsException" ["java/lang/RuntimeException", "java/lang/Exception"]).filter goodWord)
def wsX8_isDisk : List Cond := .code yX8_isDisk cX8_isDisk 3 (some .boolean) :: ([.constantLong RX8 170 (1000000000), .constant RX8 176 (1000000000), .methodLink RX8 172 yX8_isWithin, .static yX8_isWithin, .initialized RX8, .code yX8_isWithin cX8_isWithin 4 (some .boolean)])
def wsJ8_hugeLength_7cf53 : List Cond := .code yJ8_hugeLength_7cf53 cJ8_hugeLength_7cf53 3 (some .int) :: ([.constant RJ8 200 (2147483639)])
def wsJ8_newLength_cabcc : List Cond := .code yJ8_newLength_cabcc cJ8_newLength_cabcc 4 (some .int) :: ([.methodLink RJ8 194 Lib.Math.max.name, .static Lib.Math.max.name, .initialized "java/lang/Math", .code Lib.Math.max.name Lib.Math.max.code 2 (some .int), .constant RJ8 200 (2147483639), .methodLink RJ8 201 yJ8_hugeLength_7cf53, .static yJ8_hugeLength_7cf53, .initialized RJ8, .code yJ8_hugeLength_7cf53 cJ8_hugeLength_7cf53 3 (some .int)])
def wsJ7_copyOf_6403c : List Cond := .code yJ7_copyOf_6403c cJ7_copyOf_6403c 4 (some (.array (.object "java/lang/Object"))) :: ([.classLink RJ7 110 "[Ljava/lang/Object;", .classLink RJ7 2 "java/lang/Object", .methodLink RJ7 304 Lib.Math.min.name, .static Lib.Math.min.name, .initialized "java/lang/Math", .code Lib.Math.min.name Lib.Math.min.code 2 (some .int), .methodLink RJ7 150 arraycopyName, .native arraycopyName, .static arraycopyName, .initialized "java/lang/System"])
def wsJ7_copyOf_1904c : List Cond := .code yJ7_copyOf_1904c cJ7_copyOf_1904c 2 (some (.array (.object "java/lang/Object"))) :: ([.methodLink RJ7 86 ⟨"java/lang/Object", "getClass", "()Ljava/lang/Class;"⟩, .selects "[Ljava/lang/Object;" ⟨"java/lang/Object", "getClass", "()Ljava/lang/Class;"⟩ ⟨"java/lang/Object", "getClass", "()Ljava/lang/Class;"⟩, .instanceMethod ⟨"java/lang/Object", "getClass", "()Ljava/lang/Class;"⟩, .native ⟨"java/lang/Object", "getClass", "()Ljava/lang/Class;"⟩, .methodLink RJ7 300 yJ7_copyOf_6403c, .static yJ7_copyOf_6403c, .initialized RJ7, .code yJ7_copyOf_6403c cJ7_copyOf_6403c 4 (some (.array (.object "java/lang/Object"))), .classLink RJ7 110 "[Ljava/lang/Object;", .classLink RJ7 2 "java/lang/Object", .methodLink RJ7 304 Lib.Math.min.name, .static Lib.Math.min.name, .initialized "java/lang/Math", .code Lib.Math.min.name Lib.Math.min.code 2 (some .int), .methodLink RJ7 150 arraycopyName, .native arraycopyName, .static arraycopyName, .initialized "java/lang/System"])
def wsJx4a65c_grow_92f84_r1 : List Cond := [Cond.fieldLink RJx4a65c 9 "java/util/ArrayList" "elementData" "[Ljava/lang/Object;", Cond.fieldLink RJx4a65c 39 "java/util/ArrayList" "DEFAULTCAPACITY_EMPTY_ELEMENTDATA" "[Ljava/lang/Object;", Cond.methodLink RJx4a65c 79 Lib.Math.max.name, Cond.static Lib.Math.max.name, Cond.initialized "java/lang/Math", Cond.code Lib.Math.max.name Lib.Math.max.code 2 (some .int), Cond.classLink RJx4a65c 7 "java/lang/Object", Cond.methodLink RJx4a65c 73 yJ8_newLength_cabcc, Cond.static yJ8_newLength_cabcc, Cond.initialized RJ8, Cond.code yJ8_newLength_cabcc cJ8_newLength_cabcc 4 (some .int), Cond.methodLink RJ8 194 Lib.Math.max.name, Cond.constant RJ8 200 (2147483639), Cond.methodLink RJ8 201 yJ8_hugeLength_7cf53, Cond.static yJ8_hugeLength_7cf53, Cond.code yJ8_hugeLength_7cf53 cJ8_hugeLength_7cf53 3 (some .int), Cond.methodLink RJx4a65c 66 yJ7_copyOf_1904c, Cond.static yJ7_copyOf_1904c, Cond.initialized RJ7, Cond.code yJ7_copyOf_1904c cJ7_copyOf_1904c 2 (some (.array (.object "java/lang/Object"))), Cond.methodLink RJ7 86 ⟨"java/lang/Object", "getClass", "()Ljava/lang/Class;"⟩, Cond.selects "[Ljava/lang/Object;" ⟨"java/lang/Object", "getClass", "()Ljava/lang/Class;"⟩ ⟨"java/lang/Object", "getClass", "()Ljava/lang/Class;"⟩, Cond.instanceMethod ⟨"java/lang/Object", "getClass", "()Ljava/lang/Class;"⟩, Cond.native ⟨"java/lang/Object", "getClass", "()Ljava/lang/Class;"⟩]
def wsJx4a65c_grow_92f84_r2 : List Cond := [Cond.methodLink RJ7 300 yJ7_copyOf_6403c, Cond.static yJ7_copyOf_6403c, Cond.code yJ7_copyOf_6403c cJ7_copyOf_6403c 4 (some (.array (.object "java/lang/Object"))), Cond.classLink RJ7 110 "[Ljava/lang/Object;", Cond.classLink RJ7 2 "java/lang/Object", Cond.methodLink RJ7 304 Lib.Math.min.name, Cond.static Lib.Math.min.name, Cond.code Lib.Math.min.name Lib.Math.min.code 2 (some .int), Cond.methodLink RJ7 150 arraycopyName, Cond.native arraycopyName, Cond.static arraycopyName, Cond.initialized "java/lang/System"]
def wsJx4a65c_grow_92f84 : List Cond := .code yJx4a65c_grow_92f84 cJx4a65c_grow_92f84 4 (some (.array (.object "java/lang/Object"))) :: ((wsJx4a65c_grow_92f84_r1 ++ wsJx4a65c_grow_92f84_r2) ++ wsJx4a65c0)
def wsJx4a65c_grow_d5877_r1 : List Cond := [Cond.fieldLink RJx4a65c 48 "java/util/ArrayList" "size" "I", Cond.methodLink RJx4a65c 69 yJx4a65c_grow_92f84, Cond.instanceMethod yJx4a65c_grow_92f84, Cond.selects RJx4a65c yJx4a65c_grow_92f84 yJx4a65c_grow_92f84, Cond.initialized RJx4a65c, Cond.code yJx4a65c_grow_92f84 cJx4a65c_grow_92f84 4 (some (.array (.object "java/lang/Object"))), Cond.fieldLink RJx4a65c 9 "java/util/ArrayList" "elementData" "[Ljava/lang/Object;", Cond.fieldLink RJx4a65c 39 "java/util/ArrayList" "DEFAULTCAPACITY_EMPTY_ELEMENTDATA" "[Ljava/lang/Object;", Cond.methodLink RJx4a65c 79 Lib.Math.max.name, Cond.static Lib.Math.max.name, Cond.initialized "java/lang/Math", Cond.code Lib.Math.max.name Lib.Math.max.code 2 (some .int), Cond.classLink RJx4a65c 7 "java/lang/Object", Cond.methodLink RJx4a65c 73 yJ8_newLength_cabcc, Cond.static yJ8_newLength_cabcc, Cond.initialized RJ8, Cond.code yJ8_newLength_cabcc cJ8_newLength_cabcc 4 (some .int), Cond.methodLink RJ8 194 Lib.Math.max.name, Cond.constant RJ8 200 (2147483639), Cond.methodLink RJ8 201 yJ8_hugeLength_7cf53, Cond.static yJ8_hugeLength_7cf53, Cond.code yJ8_hugeLength_7cf53 cJ8_hugeLength_7cf53 3 (some .int), Cond.methodLink RJx4a65c 66 yJ7_copyOf_1904c, Cond.static yJ7_copyOf_1904c]
def wsJx4a65c_grow_d5877_r2 : List Cond := [Cond.initialized RJ7, Cond.code yJ7_copyOf_1904c cJ7_copyOf_1904c 2 (some (.array (.object "java/lang/Object"))), Cond.methodLink RJ7 86 ⟨"java/lang/Object", "getClass", "()Ljava/lang/Class;"⟩, Cond.selects "[Ljava/lang/Object;" ⟨"java/lang/Object", "getClass", "()Ljava/lang/Class;"⟩ ⟨"java/lang/Object", "getClass", "()Ljava/lang/Class;"⟩, Cond.instanceMethod ⟨"java/lang/Object", "getClass", "()Ljava/lang/Class;"⟩, Cond.native ⟨"java/lang/Object", "getClass", "()Ljava/lang/Class;"⟩, Cond.methodLink RJ7 300 yJ7_copyOf_6403c, Cond.static yJ7_copyOf_6403c, Cond.code yJ7_copyOf_6403c cJ7_copyOf_6403c 4 (some (.array (.object "java/lang/Object"))), Cond.classLink RJ7 110 "[Ljava/lang/Object;", Cond.classLink RJ7 2 "java/lang/Object", Cond.methodLink RJ7 304 Lib.Math.min.name, Cond.static Lib.Math.min.name, Cond.code Lib.Math.min.name Lib.Math.min.code 2 (some .int), Cond.methodLink RJ7 150 arraycopyName, Cond.native arraycopyName, Cond.static arraycopyName, Cond.initialized "java/lang/System"]
def wsJx4a65c_grow_d5877 : List Cond := .code yJx4a65c_grow_d5877 cJx4a65c_grow_d5877 1 (some (.array (.object "java/lang/Object"))) :: ((wsJx4a65c_grow_d5877_r1 ++ wsJx4a65c_grow_d5877_r2) ++ wsJx4a65c0)
def wsJx4a65c_add_72be8_r1 : List Cond := [Cond.fieldLink RJx4a65c 48 "java/util/ArrayList" "size" "I", Cond.methodLink RJx4a65c 129 yJx4a65c_grow_d5877, Cond.instanceMethod yJx4a65c_grow_d5877, Cond.selects RJx4a65c yJx4a65c_grow_d5877 yJx4a65c_grow_d5877, Cond.initialized RJx4a65c, Cond.code yJx4a65c_grow_d5877 cJx4a65c_grow_d5877 1 (some (.array (.object "java/lang/Object"))), Cond.methodLink RJx4a65c 69 yJx4a65c_grow_92f84, Cond.instanceMethod yJx4a65c_grow_92f84, Cond.selects RJx4a65c yJx4a65c_grow_92f84 yJx4a65c_grow_92f84, Cond.code yJx4a65c_grow_92f84 cJx4a65c_grow_92f84 4 (some (.array (.object "java/lang/Object"))), Cond.fieldLink RJx4a65c 9 "java/util/ArrayList" "elementData" "[Ljava/lang/Object;", Cond.fieldLink RJx4a65c 39 "java/util/ArrayList" "DEFAULTCAPACITY_EMPTY_ELEMENTDATA" "[Ljava/lang/Object;", Cond.methodLink RJx4a65c 79 Lib.Math.max.name, Cond.static Lib.Math.max.name, Cond.initialized "java/lang/Math", Cond.code Lib.Math.max.name Lib.Math.max.code 2 (some .int), Cond.classLink RJx4a65c 7 "java/lang/Object", Cond.methodLink RJx4a65c 73 yJ8_newLength_cabcc, Cond.static yJ8_newLength_cabcc, Cond.initialized RJ8, Cond.code yJ8_newLength_cabcc cJ8_newLength_cabcc 4 (some .int), Cond.methodLink RJ8 194 Lib.Math.max.name, Cond.constant RJ8 200 (2147483639), Cond.methodLink RJ8 201 yJ8_hugeLength_7cf53]
def wsJx4a65c_add_72be8_r2 : List Cond := [Cond.static yJ8_hugeLength_7cf53, Cond.code yJ8_hugeLength_7cf53 cJ8_hugeLength_7cf53 3 (some .int), Cond.methodLink RJx4a65c 66 yJ7_copyOf_1904c, Cond.static yJ7_copyOf_1904c, Cond.initialized RJ7, Cond.code yJ7_copyOf_1904c cJ7_copyOf_1904c 2 (some (.array (.object "java/lang/Object"))), Cond.methodLink RJ7 86 ⟨"java/lang/Object", "getClass", "()Ljava/lang/Class;"⟩, Cond.selects "[Ljava/lang/Object;" ⟨"java/lang/Object", "getClass", "()Ljava/lang/Class;"⟩ ⟨"java/lang/Object", "getClass", "()Ljava/lang/Class;"⟩, Cond.instanceMethod ⟨"java/lang/Object", "getClass", "()Ljava/lang/Class;"⟩, Cond.native ⟨"java/lang/Object", "getClass", "()Ljava/lang/Class;"⟩, Cond.methodLink RJ7 300 yJ7_copyOf_6403c, Cond.static yJ7_copyOf_6403c, Cond.code yJ7_copyOf_6403c cJ7_copyOf_6403c 4 (some (.array (.object "java/lang/Object"))), Cond.classLink RJ7 110 "[Ljava/lang/Object;", Cond.classLink RJ7 2 "java/lang/Object", Cond.methodLink RJ7 304 Lib.Math.min.name, Cond.static Lib.Math.min.name, Cond.code Lib.Math.min.name Lib.Math.min.code 2 (some .int), Cond.methodLink RJ7 150 arraycopyName, Cond.native arraycopyName, Cond.static arraycopyName, Cond.initialized "java/lang/System"]
def wsJx4a65c_add_72be8 : List Cond := .code yJx4a65c_add_72be8 cJx4a65c_add_72be8 4 none :: ((wsJx4a65c_add_72be8_r1 ++ wsJx4a65c_add_72be8_r2) ++ wsJx4a65c0)
def wsJx4a65c_add_9ea2d_r1 : List Cond := [Cond.fieldLink RJx4a65c 63 "java/util/ArrayList" "modCount" "I", Cond.sameField "java/util/ArrayList" "java/util/AbstractList" "modCount" "I", Cond.fieldLink RJx4a65c 9 "java/util/ArrayList" "elementData" "[Ljava/lang/Object;", Cond.fieldLink RJx4a65c 48 "java/util/ArrayList" "size" "I", Cond.methodLink RJx4a65c 131 yJx4a65c_add_72be8, Cond.instanceMethod yJx4a65c_add_72be8, Cond.selects RJx4a65c yJx4a65c_add_72be8 yJx4a65c_add_72be8, Cond.initialized RJx4a65c, Cond.code yJx4a65c_add_72be8 cJx4a65c_add_72be8 4 none, Cond.methodLink RJx4a65c 129 yJx4a65c_grow_d5877, Cond.instanceMethod yJx4a65c_grow_d5877, Cond.selects RJx4a65c yJx4a65c_grow_d5877 yJx4a65c_grow_d5877, Cond.code yJx4a65c_grow_d5877 cJx4a65c_grow_d5877 1 (some (.array (.object "java/lang/Object"))), Cond.methodLink RJx4a65c 69 yJx4a65c_grow_92f84, Cond.instanceMethod yJx4a65c_grow_92f84, Cond.selects RJx4a65c yJx4a65c_grow_92f84 yJx4a65c_grow_92f84, Cond.code yJx4a65c_grow_92f84 cJx4a65c_grow_92f84 4 (some (.array (.object "java/lang/Object"))), Cond.fieldLink RJx4a65c 39 "java/util/ArrayList" "DEFAULTCAPACITY_EMPTY_ELEMENTDATA" "[Ljava/lang/Object;", Cond.methodLink RJx4a65c 79 Lib.Math.max.name, Cond.static Lib.Math.max.name, Cond.initialized "java/lang/Math", Cond.code Lib.Math.max.name Lib.Math.max.code 2 (some .int), Cond.classLink RJx4a65c 7 "java/lang/Object", Cond.methodLink RJx4a65c 73 yJ8_newLength_cabcc]
def wsJx4a65c_add_9ea2d_r2 : List Cond := [Cond.static yJ8_newLength_cabcc, Cond.initialized RJ8, Cond.code yJ8_newLength_cabcc cJ8_newLength_cabcc 4 (some .int), Cond.methodLink RJ8 194 Lib.Math.max.name, Cond.constant RJ8 200 (2147483639), Cond.methodLink RJ8 201 yJ8_hugeLength_7cf53, Cond.static yJ8_hugeLength_7cf53, Cond.code yJ8_hugeLength_7cf53 cJ8_hugeLength_7cf53 3 (some .int), Cond.methodLink RJx4a65c 66 yJ7_copyOf_1904c, Cond.static yJ7_copyOf_1904c, Cond.initialized RJ7, Cond.code yJ7_copyOf_1904c cJ7_copyOf_1904c 2 (some (.array (.object "java/lang/Object"))), Cond.methodLink RJ7 86 ⟨"java/lang/Object", "getClass", "()Ljava/lang/Class;"⟩, Cond.selects "[Ljava/lang/Object;" ⟨"java/lang/Object", "getClass", "()Ljava/lang/Class;"⟩ ⟨"java/lang/Object", "getClass", "()Ljava/lang/Class;"⟩, Cond.instanceMethod ⟨"java/lang/Object", "getClass", "()Ljava/lang/Class;"⟩, Cond.native ⟨"java/lang/Object", "getClass", "()Ljava/lang/Class;"⟩, Cond.methodLink RJ7 300 yJ7_copyOf_6403c, Cond.static yJ7_copyOf_6403c, Cond.code yJ7_copyOf_6403c cJ7_copyOf_6403c 4 (some (.array (.object "java/lang/Object"))), Cond.classLink RJ7 110 "[Ljava/lang/Object;", Cond.classLink RJ7 2 "java/lang/Object", Cond.methodLink RJ7 304 Lib.Math.min.name, Cond.static Lib.Math.min.name, Cond.code Lib.Math.min.name Lib.Math.min.code 2 (some .int)]
def wsJx4a65c_add_9ea2d_r3 : List Cond := [Cond.methodLink RJ7 150 arraycopyName, Cond.native arraycopyName, Cond.static arraycopyName, Cond.initialized "java/lang/System"]
def wsJx4a65c_add_9ea2d : List Cond := .code yJx4a65c_add_9ea2d cJx4a65c_add_9ea2d 2 (some .boolean) :: ((wsJx4a65c_add_9ea2d_r1 ++ (wsJx4a65c_add_9ea2d_r2 ++ wsJx4a65c_add_9ea2d_r3)) ++ wsJx4a65c0)
def wsX8_disk_r1 : List Cond := [Cond.classLink RX8 124 "java/lang/IllegalArgumentException", Cond.initialized "java/lang/IllegalArgumentException", Cond.classLink RX8 67 "java/lang/IllegalStateException", Cond.initialized "java/lang/IllegalStateException", Cond.fieldLink RX8 19 "Koebehall" "disks" "Ljava/util/ArrayList;", Cond.classLink RX8 134 RX0, Cond.instantiable RX0 3, Cond.initialized RX0, Cond.methodLink RX8 120 yX8_isDisk, Cond.static yX8_isDisk, Cond.initialized RX8, Cond.code yX8_isDisk cX8_isDisk 3 (some .boolean), Cond.constantLong RX8 170 (1000000000), Cond.constant RX8 176 (1000000000), Cond.methodLink RX8 172 yX8_isWithin, Cond.static yX8_isWithin, Cond.code yX8_isWithin cX8_isWithin 4 (some .boolean), Cond.methodLink RX8 129 yJx4a65c_size_8abf5, Cond.instanceMethod yJx4a65c_size_8abf5, Cond.selects RJx4a65c yJx4a65c_size_8abf5 yJx4a65c_size_8abf5, Cond.initialized RJx4a65c, Cond.code yJx4a65c_size_8abf5 cJx4a65c_size_8abf5 1 (some .int), Cond.fieldLink RJx4a65c 48 "java/util/ArrayList" "size" "I", Cond.instanceMethod yX0_init]
def wsX8_disk_r2 : List Cond := [Cond.code yX0_init cX0_init 7 none, Cond.methodLink RX0 3 objectInit, Cond.instanceMethod objectInit, Cond.code objectInit ⟨#[0xb1]⟩ 1 none, Cond.fieldLink RX0 9 "Koebehall$Disk" "x" "J", Cond.fieldLink RX0 15 "Koebehall$Disk" "y" "J", Cond.fieldLink RX0 18 "Koebehall$Disk" "radius" "J", Cond.methodLink RX8 139 yJx4a65c_add_9ea2d, Cond.instanceMethod yJx4a65c_add_9ea2d, Cond.selects RJx4a65c yJx4a65c_add_9ea2d yJx4a65c_add_9ea2d, Cond.code yJx4a65c_add_9ea2d cJx4a65c_add_9ea2d 2 (some .boolean), Cond.fieldLink RJx4a65c 63 "java/util/ArrayList" "modCount" "I", Cond.sameField "java/util/ArrayList" "java/util/AbstractList" "modCount" "I", Cond.fieldLink RJx4a65c 9 "java/util/ArrayList" "elementData" "[Ljava/lang/Object;", Cond.methodLink RJx4a65c 131 yJx4a65c_add_72be8, Cond.instanceMethod yJx4a65c_add_72be8, Cond.selects RJx4a65c yJx4a65c_add_72be8 yJx4a65c_add_72be8, Cond.code yJx4a65c_add_72be8 cJx4a65c_add_72be8 4 none, Cond.methodLink RJx4a65c 129 yJx4a65c_grow_d5877, Cond.instanceMethod yJx4a65c_grow_d5877, Cond.selects RJx4a65c yJx4a65c_grow_d5877 yJx4a65c_grow_d5877, Cond.code yJx4a65c_grow_d5877 cJx4a65c_grow_d5877 1 (some (.array (.object "java/lang/Object"))), Cond.methodLink RJx4a65c 69 yJx4a65c_grow_92f84, Cond.instanceMethod yJx4a65c_grow_92f84]
def wsX8_disk_r3 : List Cond := [Cond.selects RJx4a65c yJx4a65c_grow_92f84 yJx4a65c_grow_92f84, Cond.code yJx4a65c_grow_92f84 cJx4a65c_grow_92f84 4 (some (.array (.object "java/lang/Object"))), Cond.fieldLink RJx4a65c 39 "java/util/ArrayList" "DEFAULTCAPACITY_EMPTY_ELEMENTDATA" "[Ljava/lang/Object;", Cond.methodLink RJx4a65c 79 Lib.Math.max.name, Cond.static Lib.Math.max.name, Cond.initialized "java/lang/Math", Cond.code Lib.Math.max.name Lib.Math.max.code 2 (some .int), Cond.classLink RJx4a65c 7 "java/lang/Object", Cond.methodLink RJx4a65c 73 yJ8_newLength_cabcc, Cond.static yJ8_newLength_cabcc, Cond.initialized RJ8, Cond.code yJ8_newLength_cabcc cJ8_newLength_cabcc 4 (some .int), Cond.methodLink RJ8 194 Lib.Math.max.name, Cond.constant RJ8 200 (2147483639), Cond.methodLink RJ8 201 yJ8_hugeLength_7cf53, Cond.static yJ8_hugeLength_7cf53, Cond.code yJ8_hugeLength_7cf53 cJ8_hugeLength_7cf53 3 (some .int), Cond.methodLink RJx4a65c 66 yJ7_copyOf_1904c, Cond.static yJ7_copyOf_1904c, Cond.initialized RJ7, Cond.code yJ7_copyOf_1904c cJ7_copyOf_1904c 2 (some (.array (.object "java/lang/Object"))), Cond.methodLink RJ7 86 ⟨"java/lang/Object", "getClass", "()Ljava/lang/Class;"⟩, Cond.selects "[Ljava/lang/Object;" ⟨"java/lang/Object", "getClass", "()Ljava/lang/Class;"⟩ ⟨"java/lang/Object", "getClass", "()Ljava/lang/Class;"⟩, Cond.instanceMethod ⟨"java/lang/Object", "getClass", "()Ljava/lang/Class;"⟩]
def wsX8_disk_r4 : List Cond := [Cond.native ⟨"java/lang/Object", "getClass", "()Ljava/lang/Class;"⟩, Cond.methodLink RJ7 300 yJ7_copyOf_6403c, Cond.static yJ7_copyOf_6403c, Cond.code yJ7_copyOf_6403c cJ7_copyOf_6403c 4 (some (.array (.object "java/lang/Object"))), Cond.classLink RJ7 110 "[Ljava/lang/Object;", Cond.classLink RJ7 2 "java/lang/Object", Cond.methodLink RJ7 304 Lib.Math.min.name, Cond.static Lib.Math.min.name, Cond.code Lib.Math.min.name Lib.Math.min.code 2 (some .int), Cond.methodLink RJ7 150 arraycopyName, Cond.native arraycopyName, Cond.static arraycopyName, Cond.initialized "java/lang/System"]
def wsX8_disk : List Cond := .code yX8_disk cX8_disk 4 (some .int) :: ((wsX8_disk_r1 ++ (wsX8_disk_r2 ++ (wsX8_disk_r3 ++ wsX8_disk_r4))) ++ wsX80 ++ wsX00 ++ wsJx4a65c0 ++ (vx_atS RX8 128 "java/lang/IllegalArgumentException" ["java/lang/RuntimeException", "java/lang/Exception"]).filter goodWord ++ (vx_atS RX8 71 "java/lang/IllegalStateException" ["java/lang/RuntimeException", "java/lang/Exception"]).filter goodWord)
def wsX8_hasDisk : List Cond := .code yX8_hasDisk cX8_hasDisk 2 (some .boolean) :: ([.fieldLink RX8 19 "Koebehall" "disks" "Ljava/util/ArrayList;", .methodLink RX8 129 yJx4a65c_size_8abf5, .instanceMethod yJx4a65c_size_8abf5, .selects RJx4a65c yJx4a65c_size_8abf5 yJx4a65c_size_8abf5, .initialized RJx4a65c, .code yJx4a65c_size_8abf5 cJx4a65c_size_8abf5 1 (some .int), .fieldLink RJx4a65c 48 "java/util/ArrayList" "size" "I"] ++ wsX80 ++ wsJx4a65c0)
def wsJx4a65c_set_bcc79 : List Cond := .code yJx4a65c_set_bcc79 cJx4a65c_set_bcc79 4 (some (.object "java/lang/Object")) :: ([.fieldLink RJx4a65c 48 "java/util/ArrayList" "size" "I", .fieldLink RJx4a65c 9 "java/util/ArrayList" "elementData" "[Ljava/lang/Object;", .methodLink RJx4a65c 118 yJ15_checkIndex_7cf53, .static yJ15_checkIndex_7cf53, .initialized RJ15, .code yJ15_checkIndex_7cf53 cJ15_checkIndex_7cf53 2 (some .int), .methodLink RJ15 105 yJ3_checkIndex_8e157, .static yJ3_checkIndex_8e157, .initialized RJ3, .code yJ3_checkIndex_8e157 cJ3_checkIndex_8e157 3 (some .int), .methodLink RJx4a65c 123 yJx4a65c_elementData_915e3, .instanceMethod yJx4a65c_elementData_915e3, .selects RJx4a65c yJx4a65c_elementData_915e3 yJx4a65c_elementData_915e3, .initialized RJx4a65c, .code yJx4a65c_elementData_915e3 cJx4a65c_elementData_915e3 2 (some (.object "java/lang/Object"))] ++ wsJx4a65c0)
def wsX8_move_r1 : List Cond := [Cond.classLink RX8 56 "java/lang/IndexOutOfBoundsException", Cond.initialized "java/lang/IndexOutOfBoundsException", Cond.classLink RX8 124 "java/lang/IllegalArgumentException", Cond.initialized "java/lang/IllegalArgumentException", Cond.fieldLink RX8 19 "Koebehall" "disks" "Ljava/util/ArrayList;", Cond.classLink RX8 134 "Koebehall$Disk", Cond.classLink RX8 134 RX0, Cond.instantiable RX0 3, Cond.initialized RX0, Cond.methodLink RX8 143 yX8_hasDisk, Cond.instanceMethod yX8_hasDisk, Cond.selects RX8 yX8_hasDisk yX8_hasDisk, Cond.initialized RX8, Cond.code yX8_hasDisk cX8_hasDisk 2 (some .boolean), Cond.methodLink RX8 129 yJx4a65c_size_8abf5, Cond.instanceMethod yJx4a65c_size_8abf5, Cond.selects RJx4a65c yJx4a65c_size_8abf5 yJx4a65c_size_8abf5, Cond.initialized RJx4a65c, Cond.code yJx4a65c_size_8abf5 cJx4a65c_size_8abf5 1 (some .int), Cond.fieldLink RJx4a65c 48 "java/util/ArrayList" "size" "I", Cond.methodLink RX8 120 yX8_isDisk, Cond.static yX8_isDisk, Cond.code yX8_isDisk cX8_isDisk 3 (some .boolean), Cond.constantLong RX8 170 (1000000000)]
def wsX8_move_r2 : List Cond := [Cond.constant RX8 176 (1000000000), Cond.methodLink RX8 172 yX8_isWithin, Cond.static yX8_isWithin, Cond.code yX8_isWithin cX8_isWithin 4 (some .boolean), Cond.methodLink RX8 148 yJx4a65c_get_915e3, Cond.instanceMethod yJx4a65c_get_915e3, Cond.selects RJx4a65c yJx4a65c_get_915e3 yJx4a65c_get_915e3, Cond.code yJx4a65c_get_915e3 cJx4a65c_get_915e3 2 (some (.object "java/lang/Object")), Cond.methodLink RJx4a65c 118 yJ15_checkIndex_7cf53, Cond.static yJ15_checkIndex_7cf53, Cond.initialized RJ15, Cond.code yJ15_checkIndex_7cf53 cJ15_checkIndex_7cf53 2 (some .int), Cond.methodLink RJ15 105 yJ3_checkIndex_8e157, Cond.static yJ3_checkIndex_8e157, Cond.initialized RJ3, Cond.code yJ3_checkIndex_8e157 cJ3_checkIndex_8e157 3 (some .int), Cond.methodLink RJx4a65c 123 yJx4a65c_elementData_915e3, Cond.instanceMethod yJx4a65c_elementData_915e3, Cond.selects RJx4a65c yJx4a65c_elementData_915e3 yJx4a65c_elementData_915e3, Cond.code yJx4a65c_elementData_915e3 cJx4a65c_elementData_915e3 2 (some (.object "java/lang/Object")), Cond.fieldLink RJx4a65c 9 "java/util/ArrayList" "elementData" "[Ljava/lang/Object;", Cond.instanceMethod yX0_init, Cond.code yX0_init cX0_init 7 none, Cond.methodLink RX0 3 objectInit]
def wsX8_move_r3 : List Cond := [Cond.instanceMethod objectInit, Cond.code objectInit ⟨#[0xb1]⟩ 1 none, Cond.fieldLink RX0 9 "Koebehall$Disk" "x" "J", Cond.fieldLink RX0 15 "Koebehall$Disk" "y" "J", Cond.fieldLink RX0 18 "Koebehall$Disk" "radius" "J", Cond.methodLink RX8 152 yJx4a65c_set_bcc79, Cond.instanceMethod yJx4a65c_set_bcc79, Cond.selects RJx4a65c yJx4a65c_set_bcc79 yJx4a65c_set_bcc79, Cond.code yJx4a65c_set_bcc79 cJx4a65c_set_bcc79 4 (some (.object "java/lang/Object"))]
def wsX8_move : List Cond := .code yX8_move cX8_move 6 (some .int) :: ((wsX8_move_r1 ++ (wsX8_move_r2 ++ wsX8_move_r3)) ++ wsX80 ++ wsX00 ++ wsJx4a65c0 ++ (vx_atS RX8 60 "java/lang/IndexOutOfBoundsException" ["java/lang/RuntimeException", "java/lang/Exception"]).filter goodWord ++ (vx_atS RX8 128 "java/lang/IllegalArgumentException" ["java/lang/RuntimeException", "java/lang/Exception"]).filter goodWord)
def wsX8_howDisksLie_r1 : List Cond := [Cond.fieldLink RX8 19 "Koebehall" "disks" "Ljava/util/ArrayList;", Cond.classLink RX8 134 "Koebehall$Disk", Cond.methodLink RX8 143 yX8_hasDisk, Cond.instanceMethod yX8_hasDisk, Cond.selects RX8 yX8_hasDisk yX8_hasDisk, Cond.initialized RX8, Cond.code yX8_hasDisk cX8_hasDisk 2 (some .boolean), Cond.methodLink RX8 129 yJx4a65c_size_8abf5, Cond.instanceMethod yJx4a65c_size_8abf5, Cond.selects RJx4a65c yJx4a65c_size_8abf5 yJx4a65c_size_8abf5, Cond.initialized RJx4a65c, Cond.code yJx4a65c_size_8abf5 cJx4a65c_size_8abf5 1 (some .int), Cond.fieldLink RJx4a65c 48 "java/util/ArrayList" "size" "I", Cond.methodLink RX8 148 yJx4a65c_get_915e3, Cond.instanceMethod yJx4a65c_get_915e3, Cond.selects RJx4a65c yJx4a65c_get_915e3 yJx4a65c_get_915e3, Cond.code yJx4a65c_get_915e3 cJx4a65c_get_915e3 2 (some (.object "java/lang/Object")), Cond.methodLink RJx4a65c 118 yJ15_checkIndex_7cf53, Cond.static yJ15_checkIndex_7cf53, Cond.initialized RJ15, Cond.code yJ15_checkIndex_7cf53 cJ15_checkIndex_7cf53 2 (some .int), Cond.methodLink RJ15 105 yJ3_checkIndex_8e157, Cond.static yJ3_checkIndex_8e157, Cond.initialized RJ3]
def wsX8_howDisksLie_r2 : List Cond := [Cond.code yJ3_checkIndex_8e157 cJ3_checkIndex_8e157 3 (some .int), Cond.methodLink RJx4a65c 123 yJx4a65c_elementData_915e3, Cond.instanceMethod yJx4a65c_elementData_915e3, Cond.selects RJx4a65c yJx4a65c_elementData_915e3 yJx4a65c_elementData_915e3, Cond.code yJx4a65c_elementData_915e3 cJx4a65c_elementData_915e3 2 (some (.object "java/lang/Object")), Cond.fieldLink RJx4a65c 9 "java/util/ArrayList" "elementData" "[Ljava/lang/Object;", Cond.instanceMethod yX0_howItLies, Cond.initialized RX0, Cond.selects RX0 yX0_howItLies yX0_howItLies, Cond.code yX0_howItLies cX0_howItLies 10 (some .int), Cond.fieldLink RX0 9 "Koebehall$Disk" "x" "J", Cond.fieldLink RX0 15 "Koebehall$Disk" "y" "J", Cond.fieldLink RX0 18 "Koebehall$Disk" "radius" "J"]
def wsX8_howDisksLie : List Cond := .code yX8_howDisksLie cX8_howDisksLie 3 (some .int) :: ((wsX8_howDisksLie_r1 ++ wsX8_howDisksLie_r2) ++ wsX80 ++ wsJx4a65c0 ++ wsX00)
def wsX8_lie_r1 : List Cond := [Cond.classLink RX8 56 "java/lang/IndexOutOfBoundsException", Cond.initialized "java/lang/IndexOutOfBoundsException", Cond.classLink RX8 124 "java/lang/IllegalArgumentException", Cond.initialized "java/lang/IllegalArgumentException", Cond.methodLink RX8 143 yX8_hasDisk, Cond.instanceMethod yX8_hasDisk, Cond.selects RX8 yX8_hasDisk yX8_hasDisk, Cond.initialized RX8, Cond.code yX8_hasDisk cX8_hasDisk 2 (some .boolean), Cond.fieldLink RX8 19 "Koebehall" "disks" "Ljava/util/ArrayList;", Cond.methodLink RX8 129 yJx4a65c_size_8abf5, Cond.instanceMethod yJx4a65c_size_8abf5, Cond.selects RJx4a65c yJx4a65c_size_8abf5 yJx4a65c_size_8abf5, Cond.initialized RJx4a65c, Cond.code yJx4a65c_size_8abf5 cJx4a65c_size_8abf5 1 (some .int), Cond.fieldLink RJx4a65c 48 "java/util/ArrayList" "size" "I", Cond.methodLink RX8 162 yX8_howDisksLie, Cond.instanceMethod yX8_howDisksLie, Cond.selects RX8 yX8_howDisksLie yX8_howDisksLie, Cond.code yX8_howDisksLie cX8_howDisksLie 3 (some .int), Cond.classLink RX8 134 "Koebehall$Disk", Cond.methodLink RX8 148 yJx4a65c_get_915e3, Cond.instanceMethod yJx4a65c_get_915e3, Cond.selects RJx4a65c yJx4a65c_get_915e3 yJx4a65c_get_915e3]
def wsX8_lie_r2 : List Cond := [Cond.code yJx4a65c_get_915e3 cJx4a65c_get_915e3 2 (some (.object "java/lang/Object")), Cond.methodLink RJx4a65c 118 yJ15_checkIndex_7cf53, Cond.static yJ15_checkIndex_7cf53, Cond.initialized RJ15, Cond.code yJ15_checkIndex_7cf53 cJ15_checkIndex_7cf53 2 (some .int), Cond.methodLink RJ15 105 yJ3_checkIndex_8e157, Cond.static yJ3_checkIndex_8e157, Cond.initialized RJ3, Cond.code yJ3_checkIndex_8e157 cJ3_checkIndex_8e157 3 (some .int), Cond.methodLink RJx4a65c 123 yJx4a65c_elementData_915e3, Cond.instanceMethod yJx4a65c_elementData_915e3, Cond.selects RJx4a65c yJx4a65c_elementData_915e3 yJx4a65c_elementData_915e3, Cond.code yJx4a65c_elementData_915e3 cJx4a65c_elementData_915e3 2 (some (.object "java/lang/Object")), Cond.fieldLink RJx4a65c 9 "java/util/ArrayList" "elementData" "[Ljava/lang/Object;", Cond.instanceMethod yX0_howItLies, Cond.initialized RX0, Cond.selects RX0 yX0_howItLies yX0_howItLies, Cond.code yX0_howItLies cX0_howItLies 10 (some .int), Cond.fieldLink RX0 9 "Koebehall$Disk" "x" "J", Cond.fieldLink RX0 15 "Koebehall$Disk" "y" "J", Cond.fieldLink RX0 18 "Koebehall$Disk" "radius" "J"]
def wsX8_lie : List Cond := .code yX8_lie cX8_lie 3 (some .int) :: ((wsX8_lie_r1 ++ wsX8_lie_r2) ++ wsX80 ++ wsJx4a65c0 ++ wsX00 ++ (vx_atS RX8 60 "java/lang/IndexOutOfBoundsException" ["java/lang/RuntimeException", "java/lang/Exception"]).filter goodWord ++ (vx_atS RX8 128 "java/lang/IllegalArgumentException" ["java/lang/RuntimeException", "java/lang/Exception"]).filter goodWord)
def wsX8_pairs_r1 : List Cond := [Cond.classLink RX8 124 "java/lang/IllegalArgumentException", Cond.initialized "java/lang/IllegalArgumentException", Cond.fieldLink RX8 19 "Koebehall" "disks" "Ljava/util/ArrayList;", Cond.methodLink RX8 129 yJx4a65c_size_8abf5, Cond.instanceMethod yJx4a65c_size_8abf5, Cond.selects RJx4a65c yJx4a65c_size_8abf5 yJx4a65c_size_8abf5, Cond.initialized RJx4a65c, Cond.code yJx4a65c_size_8abf5 cJx4a65c_size_8abf5 1 (some .int), Cond.fieldLink RJx4a65c 48 "java/util/ArrayList" "size" "I", Cond.methodLink RX8 162 yX8_howDisksLie, Cond.instanceMethod yX8_howDisksLie, Cond.selects RX8 yX8_howDisksLie yX8_howDisksLie, Cond.initialized RX8, Cond.code yX8_howDisksLie cX8_howDisksLie 3 (some .int), Cond.classLink RX8 134 "Koebehall$Disk", Cond.methodLink RX8 143 yX8_hasDisk, Cond.instanceMethod yX8_hasDisk, Cond.selects RX8 yX8_hasDisk yX8_hasDisk, Cond.code yX8_hasDisk cX8_hasDisk 2 (some .boolean), Cond.methodLink RX8 148 yJx4a65c_get_915e3, Cond.instanceMethod yJx4a65c_get_915e3, Cond.selects RJx4a65c yJx4a65c_get_915e3 yJx4a65c_get_915e3, Cond.code yJx4a65c_get_915e3 cJx4a65c_get_915e3 2 (some (.object "java/lang/Object")), Cond.methodLink RJx4a65c 118 yJ15_checkIndex_7cf53]
def wsX8_pairs_r2 : List Cond := [Cond.static yJ15_checkIndex_7cf53, Cond.initialized RJ15, Cond.code yJ15_checkIndex_7cf53 cJ15_checkIndex_7cf53 2 (some .int), Cond.methodLink RJ15 105 yJ3_checkIndex_8e157, Cond.static yJ3_checkIndex_8e157, Cond.initialized RJ3, Cond.code yJ3_checkIndex_8e157 cJ3_checkIndex_8e157 3 (some .int), Cond.methodLink RJx4a65c 123 yJx4a65c_elementData_915e3, Cond.instanceMethod yJx4a65c_elementData_915e3, Cond.selects RJx4a65c yJx4a65c_elementData_915e3 yJx4a65c_elementData_915e3, Cond.code yJx4a65c_elementData_915e3 cJx4a65c_elementData_915e3 2 (some (.object "java/lang/Object")), Cond.fieldLink RJx4a65c 9 "java/util/ArrayList" "elementData" "[Ljava/lang/Object;", Cond.instanceMethod yX0_howItLies, Cond.initialized RX0, Cond.selects RX0 yX0_howItLies yX0_howItLies, Cond.code yX0_howItLies cX0_howItLies 10 (some .int), Cond.fieldLink RX0 9 "Koebehall$Disk" "x" "J", Cond.fieldLink RX0 15 "Koebehall$Disk" "y" "J", Cond.fieldLink RX0 18 "Koebehall$Disk" "radius" "J"]
def wsX8_pairs : List Cond := .code yX8_pairs cX8_pairs 5 (some .int) :: ((wsX8_pairs_r1 ++ wsX8_pairs_r2) ++ wsX80 ++ wsJx4a65c0 ++ wsX00 ++ (vx_atS RX8 128 "java/lang/IllegalArgumentException" ["java/lang/RuntimeException", "java/lang/Exception"]).filter goodWord)
def wsX8_draws_r1 : List Cond := [Cond.fieldLink RX8 19 "Koebehall" "disks" "Ljava/util/ArrayList;", Cond.fieldLink RX8 10 "Koebehall" "sphere" "LKoebehall$Net;", Cond.methodLink RX8 129 yJx4a65c_size_8abf5, Cond.instanceMethod yJx4a65c_size_8abf5, Cond.selects RJx4a65c yJx4a65c_size_8abf5 yJx4a65c_size_8abf5, Cond.initialized RJx4a65c, Cond.code yJx4a65c_size_8abf5 cJx4a65c_size_8abf5 1 (some .int), Cond.fieldLink RJx4a65c 48 "java/util/ArrayList" "size" "I", Cond.instanceMethod yX3_areNeighbours, Cond.initialized RX3, Cond.selects RX3 yX3_areNeighbours yX3_areNeighbours, Cond.code yX3_areNeighbours cX3_areNeighbours 3 (some .boolean), Cond.methodLink RX3 53 yX3_thirdOf, Cond.instanceMethod yX3_thirdOf, Cond.selects RX3 yX3_thirdOf yX3_thirdOf, Cond.code yX3_thirdOf cX3_thirdOf 3 (some .int), Cond.fieldLink RX3 15 "Koebehall$Net" "thirds" "[I", Cond.methodLink RX3 49 yX3_hasCorner, Cond.instanceMethod yX3_hasCorner, Cond.selects RX3 yX3_hasCorner yX3_hasCorner, Cond.code yX3_hasCorner cX3_hasCorner 2 (some .boolean), Cond.fieldLink RX3 24 "Koebehall$Net" "cornerCount" "I", Cond.methodLink RX8 162 yX8_howDisksLie, Cond.instanceMethod yX8_howDisksLie]
def wsX8_draws_r2 : List Cond := [Cond.selects RX8 yX8_howDisksLie yX8_howDisksLie, Cond.initialized RX8, Cond.code yX8_howDisksLie cX8_howDisksLie 3 (some .int), Cond.classLink RX8 134 "Koebehall$Disk", Cond.methodLink RX8 143 yX8_hasDisk, Cond.instanceMethod yX8_hasDisk, Cond.selects RX8 yX8_hasDisk yX8_hasDisk, Cond.code yX8_hasDisk cX8_hasDisk 2 (some .boolean), Cond.methodLink RX8 148 yJx4a65c_get_915e3, Cond.instanceMethod yJx4a65c_get_915e3, Cond.selects RJx4a65c yJx4a65c_get_915e3 yJx4a65c_get_915e3, Cond.code yJx4a65c_get_915e3 cJx4a65c_get_915e3 2 (some (.object "java/lang/Object")), Cond.methodLink RJx4a65c 118 yJ15_checkIndex_7cf53, Cond.static yJ15_checkIndex_7cf53, Cond.initialized RJ15, Cond.code yJ15_checkIndex_7cf53 cJ15_checkIndex_7cf53 2 (some .int), Cond.methodLink RJ15 105 yJ3_checkIndex_8e157, Cond.static yJ3_checkIndex_8e157, Cond.initialized RJ3, Cond.code yJ3_checkIndex_8e157 cJ3_checkIndex_8e157 3 (some .int), Cond.methodLink RJx4a65c 123 yJx4a65c_elementData_915e3, Cond.instanceMethod yJx4a65c_elementData_915e3, Cond.selects RJx4a65c yJx4a65c_elementData_915e3 yJx4a65c_elementData_915e3, Cond.code yJx4a65c_elementData_915e3 cJx4a65c_elementData_915e3 2 (some (.object "java/lang/Object"))]
def wsX8_draws_r3 : List Cond := [Cond.fieldLink RJx4a65c 9 "java/util/ArrayList" "elementData" "[Ljava/lang/Object;", Cond.instanceMethod yX0_howItLies, Cond.initialized RX0, Cond.selects RX0 yX0_howItLies yX0_howItLies, Cond.code yX0_howItLies cX0_howItLies 10 (some .int), Cond.fieldLink RX0 9 "Koebehall$Disk" "x" "J", Cond.fieldLink RX0 15 "Koebehall$Disk" "y" "J", Cond.fieldLink RX0 18 "Koebehall$Disk" "radius" "J"]
def wsX8_draws : List Cond := .code yX8_draws cX8_draws 4 (some .boolean) :: ((wsX8_draws_r1 ++ (wsX8_draws_r2 ++ wsX8_draws_r3)) ++ wsX80 ++ wsX30 ++ wsJx4a65c0 ++ wsX00)
def wsX8_areFourWithin : List Cond := .code yX8_areFourWithin cX8_areFourWithin 5 (some .boolean) :: ([.methodLink RX8 172 yX8_isWithin, .static yX8_isWithin, .initialized RX8, .code yX8_isWithin cX8_isWithin 4 (some .boolean)])
def wsX8_gasket_r1 : List Cond := [Cond.classLink RX8 124 "java/lang/IllegalArgumentException", Cond.initialized "java/lang/IllegalArgumentException", Cond.classLink RX8 67 "java/lang/IllegalStateException", Cond.initialized "java/lang/IllegalStateException", Cond.constant RX8 181 (1000000), Cond.fieldLink RX8 23 "Koebehall" "gaskets" "Ljava/util/ArrayList;", Cond.classLink RX8 187 RX2, Cond.instantiable RX2 3, Cond.initialized RX2, Cond.methodLink RX8 182 yX8_areFourWithin, Cond.static yX8_areFourWithin, Cond.initialized RX8, Cond.code yX8_areFourWithin cX8_areFourWithin 5 (some .boolean), Cond.methodLink RX8 172 yX8_isWithin, Cond.static yX8_isWithin, Cond.code yX8_isWithin cX8_isWithin 4 (some .boolean), Cond.static yX2_areOfGasket, Cond.code yX2_areOfGasket cX2_areOfGasket 10 (some .boolean), Cond.constantLong RX2 35 (2), Cond.methodLink RX8 129 yJx4a65c_size_8abf5, Cond.instanceMethod yJx4a65c_size_8abf5, Cond.selects RJx4a65c yJx4a65c_size_8abf5 yJx4a65c_size_8abf5, Cond.initialized RJx4a65c, Cond.code yJx4a65c_size_8abf5 cJx4a65c_size_8abf5 1 (some .int)]
def wsX8_gasket_r2 : List Cond := [Cond.fieldLink RJx4a65c 48 "java/util/ArrayList" "size" "I", Cond.instanceMethod yX2_init, Cond.code yX2_init cX2_init 9 none, Cond.methodLink RX2 3 objectInit, Cond.instanceMethod objectInit, Cond.code objectInit ⟨#[0xb1]⟩ 1 none, Cond.fieldLink RX2 15 "Koebehall$Gasket" "four" "[J", Cond.fieldLink RX2 22 "Koebehall$Gasket" "least" "[J", Cond.arrayClass .long, Cond.fieldLink RX2 25 "Koebehall$Gasket" "walked" "[J", Cond.methodLink RX2 9 yX2_rowOf, Cond.static yX2_rowOf, Cond.code yX2_rowOf cX2_rowOf 9 (some (.array .long)), Cond.methodLink RX2 19 yX2_rootOf, Cond.static yX2_rootOf, Cond.code yX2_rootOf cX2_rootOf 9 (some (.array .long)), Cond.methodLink RX2 28 yX2_bringToRoot, Cond.static yX2_bringToRoot, Cond.code yX2_bringToRoot cX2_bringToRoot 5 none, Cond.constant RX2 37 (1000000), Cond.methodLink RX2 38 yX2_greatestPlace, Cond.static yX2_greatestPlace, Cond.code yX2_greatestPlace cX2_greatestPlace 3 (some .int), Cond.methodLink RX2 42 yX2_turnedAt]
def wsX8_gasket_r3 : List Cond := [Cond.static yX2_turnedAt, Cond.code yX2_turnedAt cX2_turnedAt 4 (some .long), Cond.methodLink RX2 32 yX2_putInOrder, Cond.static yX2_putInOrder, Cond.code yX2_putInOrder cX2_putInOrder 5 none, Cond.methodLink RX8 139 yJx4a65c_add_9ea2d, Cond.instanceMethod yJx4a65c_add_9ea2d, Cond.selects RJx4a65c yJx4a65c_add_9ea2d yJx4a65c_add_9ea2d, Cond.code yJx4a65c_add_9ea2d cJx4a65c_add_9ea2d 2 (some .boolean), Cond.fieldLink RJx4a65c 63 "java/util/ArrayList" "modCount" "I", Cond.sameField "java/util/ArrayList" "java/util/AbstractList" "modCount" "I", Cond.fieldLink RJx4a65c 9 "java/util/ArrayList" "elementData" "[Ljava/lang/Object;", Cond.methodLink RJx4a65c 131 yJx4a65c_add_72be8, Cond.instanceMethod yJx4a65c_add_72be8, Cond.selects RJx4a65c yJx4a65c_add_72be8 yJx4a65c_add_72be8, Cond.code yJx4a65c_add_72be8 cJx4a65c_add_72be8 4 none, Cond.methodLink RJx4a65c 129 yJx4a65c_grow_d5877, Cond.instanceMethod yJx4a65c_grow_d5877, Cond.selects RJx4a65c yJx4a65c_grow_d5877 yJx4a65c_grow_d5877, Cond.code yJx4a65c_grow_d5877 cJx4a65c_grow_d5877 1 (some (.array (.object "java/lang/Object"))), Cond.methodLink RJx4a65c 69 yJx4a65c_grow_92f84, Cond.instanceMethod yJx4a65c_grow_92f84, Cond.selects RJx4a65c yJx4a65c_grow_92f84 yJx4a65c_grow_92f84, Cond.code yJx4a65c_grow_92f84 cJx4a65c_grow_92f84 4 (some (.array (.object "java/lang/Object")))]
def wsX8_gasket_r4 : List Cond := [Cond.fieldLink RJx4a65c 39 "java/util/ArrayList" "DEFAULTCAPACITY_EMPTY_ELEMENTDATA" "[Ljava/lang/Object;", Cond.methodLink RJx4a65c 79 Lib.Math.max.name, Cond.static Lib.Math.max.name, Cond.initialized "java/lang/Math", Cond.code Lib.Math.max.name Lib.Math.max.code 2 (some .int), Cond.classLink RJx4a65c 7 "java/lang/Object", Cond.methodLink RJx4a65c 73 yJ8_newLength_cabcc, Cond.static yJ8_newLength_cabcc, Cond.initialized RJ8, Cond.code yJ8_newLength_cabcc cJ8_newLength_cabcc 4 (some .int), Cond.methodLink RJ8 194 Lib.Math.max.name, Cond.constant RJ8 200 (2147483639), Cond.methodLink RJ8 201 yJ8_hugeLength_7cf53, Cond.static yJ8_hugeLength_7cf53, Cond.code yJ8_hugeLength_7cf53 cJ8_hugeLength_7cf53 3 (some .int), Cond.methodLink RJx4a65c 66 yJ7_copyOf_1904c, Cond.static yJ7_copyOf_1904c, Cond.initialized RJ7, Cond.code yJ7_copyOf_1904c cJ7_copyOf_1904c 2 (some (.array (.object "java/lang/Object"))), Cond.methodLink RJ7 86 ⟨"java/lang/Object", "getClass", "()Ljava/lang/Class;"⟩, Cond.selects "[Ljava/lang/Object;" ⟨"java/lang/Object", "getClass", "()Ljava/lang/Class;"⟩ ⟨"java/lang/Object", "getClass", "()Ljava/lang/Class;"⟩, Cond.instanceMethod ⟨"java/lang/Object", "getClass", "()Ljava/lang/Class;"⟩, Cond.native ⟨"java/lang/Object", "getClass", "()Ljava/lang/Class;"⟩, Cond.methodLink RJ7 300 yJ7_copyOf_6403c]
def wsX8_gasket_r5 : List Cond := [Cond.static yJ7_copyOf_6403c, Cond.code yJ7_copyOf_6403c cJ7_copyOf_6403c 4 (some (.array (.object "java/lang/Object"))), Cond.classLink RJ7 110 "[Ljava/lang/Object;", Cond.classLink RJ7 2 "java/lang/Object", Cond.methodLink RJ7 304 Lib.Math.min.name, Cond.static Lib.Math.min.name, Cond.code Lib.Math.min.name Lib.Math.min.code 2 (some .int), Cond.methodLink RJ7 150 arraycopyName, Cond.native arraycopyName, Cond.static arraycopyName, Cond.initialized "java/lang/System"]
def wsX8_gasket : List Cond := .code yX8_gasket cX8_gasket 5 (some .int) :: ((wsX8_gasket_r1 ++ (wsX8_gasket_r2 ++ (wsX8_gasket_r3 ++ (wsX8_gasket_r4 ++ wsX8_gasket_r5)))) ++ wsX80 ++ wsX20 ++ wsJx4a65c0 ++ (vx_atS RX8 128 "java/lang/IllegalArgumentException" ["java/lang/RuntimeException", "java/lang/Exception"]).filter goodWord ++ (vx_atS RX8 71 "java/lang/IllegalStateException" ["java/lang/RuntimeException", "java/lang/Exception"]).filter goodWord)
def wsX8_gasketOf_r1 : List Cond := [Cond.classLink RX8 56 "java/lang/IndexOutOfBoundsException", Cond.initialized "java/lang/IndexOutOfBoundsException", Cond.fieldLink RX8 23 "Koebehall" "gaskets" "Ljava/util/ArrayList;", Cond.classLink RX8 187 "Koebehall$Gasket", Cond.methodLink RX8 129 yJx4a65c_size_8abf5, Cond.instanceMethod yJx4a65c_size_8abf5, Cond.selects RJx4a65c yJx4a65c_size_8abf5 yJx4a65c_size_8abf5, Cond.initialized RJx4a65c, Cond.code yJx4a65c_size_8abf5 cJx4a65c_size_8abf5 1 (some .int), Cond.fieldLink RJx4a65c 48 "java/util/ArrayList" "size" "I", Cond.methodLink RX8 148 yJx4a65c_get_915e3, Cond.instanceMethod yJx4a65c_get_915e3, Cond.selects RJx4a65c yJx4a65c_get_915e3 yJx4a65c_get_915e3, Cond.code yJx4a65c_get_915e3 cJx4a65c_get_915e3 2 (some (.object "java/lang/Object")), Cond.methodLink RJx4a65c 118 yJ15_checkIndex_7cf53, Cond.static yJ15_checkIndex_7cf53, Cond.initialized RJ15, Cond.code yJ15_checkIndex_7cf53 cJ15_checkIndex_7cf53 2 (some .int), Cond.methodLink RJ15 105 yJ3_checkIndex_8e157, Cond.static yJ3_checkIndex_8e157, Cond.initialized RJ3, Cond.code yJ3_checkIndex_8e157 cJ3_checkIndex_8e157 3 (some .int), Cond.methodLink RJx4a65c 123 yJx4a65c_elementData_915e3, Cond.instanceMethod yJx4a65c_elementData_915e3]
def wsX8_gasketOf_r2 : List Cond := [Cond.selects RJx4a65c yJx4a65c_elementData_915e3 yJx4a65c_elementData_915e3, Cond.code yJx4a65c_elementData_915e3 cJx4a65c_elementData_915e3 2 (some (.object "java/lang/Object")), Cond.fieldLink RJx4a65c 9 "java/util/ArrayList" "elementData" "[Ljava/lang/Object;"]
def wsX8_gasketOf : List Cond := .code yX8_gasketOf cX8_gasketOf 2 (some (.object "Koebehall$Gasket")) :: ((wsX8_gasketOf_r1 ++ wsX8_gasketOf_r2) ++ wsX80 ++ wsJx4a65c0 ++ (vx_atS RX8 60 "java/lang/IndexOutOfBoundsException" ["java/lang/RuntimeException", "java/lang/Exception"]).filter goodWord)
def wsX8_fourOf_r1 : List Cond := [Cond.classLink RX8 56 "java/lang/IndexOutOfBoundsException", Cond.initialized "java/lang/IndexOutOfBoundsException", Cond.methodLink RX8 209 yX8_gasketOf, Cond.instanceMethod yX8_gasketOf, Cond.selects RX8 yX8_gasketOf yX8_gasketOf, Cond.initialized RX8, Cond.code yX8_gasketOf cX8_gasketOf 2 (some (.object "Koebehall$Gasket")), Cond.fieldLink RX8 23 "Koebehall" "gaskets" "Ljava/util/ArrayList;", Cond.classLink RX8 187 "Koebehall$Gasket", Cond.methodLink RX8 129 yJx4a65c_size_8abf5, Cond.instanceMethod yJx4a65c_size_8abf5, Cond.selects RJx4a65c yJx4a65c_size_8abf5 yJx4a65c_size_8abf5, Cond.initialized RJx4a65c, Cond.code yJx4a65c_size_8abf5 cJx4a65c_size_8abf5 1 (some .int), Cond.fieldLink RJx4a65c 48 "java/util/ArrayList" "size" "I", Cond.methodLink RX8 148 yJx4a65c_get_915e3, Cond.instanceMethod yJx4a65c_get_915e3, Cond.selects RJx4a65c yJx4a65c_get_915e3 yJx4a65c_get_915e3, Cond.code yJx4a65c_get_915e3 cJx4a65c_get_915e3 2 (some (.object "java/lang/Object")), Cond.methodLink RJx4a65c 118 yJ15_checkIndex_7cf53, Cond.static yJ15_checkIndex_7cf53, Cond.initialized RJ15, Cond.code yJ15_checkIndex_7cf53 cJ15_checkIndex_7cf53 2 (some .int), Cond.methodLink RJ15 105 yJ3_checkIndex_8e157]
def wsX8_fourOf_r2 : List Cond := [Cond.static yJ3_checkIndex_8e157, Cond.initialized RJ3, Cond.code yJ3_checkIndex_8e157 cJ3_checkIndex_8e157 3 (some .int), Cond.methodLink RJx4a65c 123 yJx4a65c_elementData_915e3, Cond.instanceMethod yJx4a65c_elementData_915e3, Cond.selects RJx4a65c yJx4a65c_elementData_915e3 yJx4a65c_elementData_915e3, Cond.code yJx4a65c_elementData_915e3 cJx4a65c_elementData_915e3 2 (some (.object "java/lang/Object")), Cond.fieldLink RJx4a65c 9 "java/util/ArrayList" "elementData" "[Ljava/lang/Object;"]
def wsX8_fourOf : List Cond := .code yX8_fourOf cX8_fourOf 4 (some (.array .long)) :: ((wsX8_fourOf_r1 ++ wsX8_fourOf_r2) ++ wsX20 ++ wsX80 ++ wsJx4a65c0 ++ (vx_atS RX8 60 "java/lang/IndexOutOfBoundsException" ["java/lang/RuntimeException", "java/lang/Exception"]).filter goodWord)
def wsX8_turn_r1 : List Cond := [Cond.classLink RX8 67 "java/lang/IllegalStateException", Cond.initialized "java/lang/IllegalStateException", Cond.constantLong RX8 205 (1000000000000000), Cond.methodLink RX8 197 yX8_fourOf, Cond.instanceMethod yX8_fourOf, Cond.selects RX8 yX8_fourOf yX8_fourOf, Cond.initialized RX8, Cond.code yX8_fourOf cX8_fourOf 4 (some (.array .long)), Cond.classLink RX8 56 "java/lang/IndexOutOfBoundsException", Cond.initialized "java/lang/IndexOutOfBoundsException", Cond.methodLink RX8 209 yX8_gasketOf, Cond.instanceMethod yX8_gasketOf, Cond.selects RX8 yX8_gasketOf yX8_gasketOf, Cond.code yX8_gasketOf cX8_gasketOf 2 (some (.object "Koebehall$Gasket")), Cond.fieldLink RX8 23 "Koebehall" "gaskets" "Ljava/util/ArrayList;", Cond.classLink RX8 187 "Koebehall$Gasket", Cond.methodLink RX8 129 yJx4a65c_size_8abf5, Cond.instanceMethod yJx4a65c_size_8abf5, Cond.selects RJx4a65c yJx4a65c_size_8abf5 yJx4a65c_size_8abf5, Cond.initialized RJx4a65c, Cond.code yJx4a65c_size_8abf5 cJx4a65c_size_8abf5 1 (some .int), Cond.fieldLink RJx4a65c 48 "java/util/ArrayList" "size" "I", Cond.methodLink RX8 148 yJx4a65c_get_915e3, Cond.instanceMethod yJx4a65c_get_915e3]
def wsX8_turn_r2 : List Cond := [Cond.selects RJx4a65c yJx4a65c_get_915e3 yJx4a65c_get_915e3, Cond.code yJx4a65c_get_915e3 cJx4a65c_get_915e3 2 (some (.object "java/lang/Object")), Cond.methodLink RJx4a65c 118 yJ15_checkIndex_7cf53, Cond.static yJ15_checkIndex_7cf53, Cond.initialized RJ15, Cond.code yJ15_checkIndex_7cf53 cJ15_checkIndex_7cf53 2 (some .int), Cond.methodLink RJ15 105 yJ3_checkIndex_8e157, Cond.static yJ3_checkIndex_8e157, Cond.initialized RJ3, Cond.code yJ3_checkIndex_8e157 cJ3_checkIndex_8e157 3 (some .int), Cond.methodLink RJx4a65c 123 yJx4a65c_elementData_915e3, Cond.instanceMethod yJx4a65c_elementData_915e3, Cond.selects RJx4a65c yJx4a65c_elementData_915e3 yJx4a65c_elementData_915e3, Cond.code yJx4a65c_elementData_915e3 cJx4a65c_elementData_915e3 2 (some (.object "java/lang/Object")), Cond.fieldLink RJx4a65c 9 "java/util/ArrayList" "elementData" "[Ljava/lang/Object;", Cond.static yX2_turnedAt, Cond.initialized RX2, Cond.code yX2_turnedAt cX2_turnedAt 4 (some .long), Cond.constantLong RX2 35 (2)]
def wsX8_turn : List Cond := .code yX8_turn cX8_turn 6 (some .long) :: ((wsX8_turn_r1 ++ wsX8_turn_r2) ++ wsX20 ++ wsX80 ++ wsJx4a65c0 ++ (vx_atS RX8 71 "java/lang/IllegalStateException" ["java/lang/RuntimeException", "java/lang/Exception"]).filter goodWord ++ (vx_atS RX8 60 "java/lang/IndexOutOfBoundsException" ["java/lang/RuntimeException", "java/lang/Exception"]).filter goodWord)
def wsX8_curvature_r1 : List Cond := [Cond.methodLink RX8 197 yX8_fourOf, Cond.instanceMethod yX8_fourOf, Cond.selects RX8 yX8_fourOf yX8_fourOf, Cond.initialized RX8, Cond.code yX8_fourOf cX8_fourOf 4 (some (.array .long)), Cond.classLink RX8 56 "java/lang/IndexOutOfBoundsException", Cond.initialized "java/lang/IndexOutOfBoundsException", Cond.methodLink RX8 209 yX8_gasketOf, Cond.instanceMethod yX8_gasketOf, Cond.selects RX8 yX8_gasketOf yX8_gasketOf, Cond.code yX8_gasketOf cX8_gasketOf 2 (some (.object "Koebehall$Gasket")), Cond.fieldLink RX8 23 "Koebehall" "gaskets" "Ljava/util/ArrayList;", Cond.classLink RX8 187 "Koebehall$Gasket", Cond.methodLink RX8 129 yJx4a65c_size_8abf5, Cond.instanceMethod yJx4a65c_size_8abf5, Cond.selects RJx4a65c yJx4a65c_size_8abf5 yJx4a65c_size_8abf5, Cond.initialized RJx4a65c, Cond.code yJx4a65c_size_8abf5 cJx4a65c_size_8abf5 1 (some .int), Cond.fieldLink RJx4a65c 48 "java/util/ArrayList" "size" "I", Cond.methodLink RX8 148 yJx4a65c_get_915e3, Cond.instanceMethod yJx4a65c_get_915e3, Cond.selects RJx4a65c yJx4a65c_get_915e3 yJx4a65c_get_915e3, Cond.code yJx4a65c_get_915e3 cJx4a65c_get_915e3 2 (some (.object "java/lang/Object")), Cond.methodLink RJx4a65c 118 yJ15_checkIndex_7cf53]
def wsX8_curvature_r2 : List Cond := [Cond.static yJ15_checkIndex_7cf53, Cond.initialized RJ15, Cond.code yJ15_checkIndex_7cf53 cJ15_checkIndex_7cf53 2 (some .int), Cond.methodLink RJ15 105 yJ3_checkIndex_8e157, Cond.static yJ3_checkIndex_8e157, Cond.initialized RJ3, Cond.code yJ3_checkIndex_8e157 cJ3_checkIndex_8e157 3 (some .int), Cond.methodLink RJx4a65c 123 yJx4a65c_elementData_915e3, Cond.instanceMethod yJx4a65c_elementData_915e3, Cond.selects RJx4a65c yJx4a65c_elementData_915e3 yJx4a65c_elementData_915e3, Cond.code yJx4a65c_elementData_915e3 cJx4a65c_elementData_915e3 2 (some (.object "java/lang/Object")), Cond.fieldLink RJx4a65c 9 "java/util/ArrayList" "elementData" "[Ljava/lang/Object;"]
def wsX8_curvature : List Cond := .code yX8_curvature cX8_curvature 3 (some .long) :: ((wsX8_curvature_r1 ++ wsX8_curvature_r2) ++ wsX20 ++ wsX80 ++ wsJx4a65c0 ++ (vx_atS RX8 60 "java/lang/IndexOutOfBoundsException" ["java/lang/RuntimeException", "java/lang/Exception"]).filter goodWord)
def wsX8_radius_r1 : List Cond := [Cond.methodLink RX8 197 yX8_fourOf, Cond.instanceMethod yX8_fourOf, Cond.selects RX8 yX8_fourOf yX8_fourOf, Cond.initialized RX8, Cond.code yX8_fourOf cX8_fourOf 4 (some (.array .long)), Cond.classLink RX8 56 "java/lang/IndexOutOfBoundsException", Cond.initialized "java/lang/IndexOutOfBoundsException", Cond.methodLink RX8 209 yX8_gasketOf, Cond.instanceMethod yX8_gasketOf, Cond.selects RX8 yX8_gasketOf yX8_gasketOf, Cond.code yX8_gasketOf cX8_gasketOf 2 (some (.object "Koebehall$Gasket")), Cond.fieldLink RX8 23 "Koebehall" "gaskets" "Ljava/util/ArrayList;", Cond.classLink RX8 187 "Koebehall$Gasket", Cond.methodLink RX8 129 yJx4a65c_size_8abf5, Cond.instanceMethod yJx4a65c_size_8abf5, Cond.selects RJx4a65c yJx4a65c_size_8abf5 yJx4a65c_size_8abf5, Cond.initialized RJx4a65c, Cond.code yJx4a65c_size_8abf5 cJx4a65c_size_8abf5 1 (some .int), Cond.fieldLink RJx4a65c 48 "java/util/ArrayList" "size" "I", Cond.methodLink RX8 148 yJx4a65c_get_915e3, Cond.instanceMethod yJx4a65c_get_915e3, Cond.selects RJx4a65c yJx4a65c_get_915e3 yJx4a65c_get_915e3, Cond.code yJx4a65c_get_915e3 cJx4a65c_get_915e3 2 (some (.object "java/lang/Object")), Cond.methodLink RJx4a65c 118 yJ15_checkIndex_7cf53]
def wsX8_radius_r2 : List Cond := [Cond.static yJ15_checkIndex_7cf53, Cond.initialized RJ15, Cond.code yJ15_checkIndex_7cf53 cJ15_checkIndex_7cf53 2 (some .int), Cond.methodLink RJ15 105 yJ3_checkIndex_8e157, Cond.static yJ3_checkIndex_8e157, Cond.initialized RJ3, Cond.code yJ3_checkIndex_8e157 cJ3_checkIndex_8e157 3 (some .int), Cond.methodLink RJx4a65c 123 yJx4a65c_elementData_915e3, Cond.instanceMethod yJx4a65c_elementData_915e3, Cond.selects RJx4a65c yJx4a65c_elementData_915e3 yJx4a65c_elementData_915e3, Cond.code yJx4a65c_elementData_915e3 cJx4a65c_elementData_915e3 2 (some (.object "java/lang/Object")), Cond.fieldLink RJx4a65c 9 "java/util/ArrayList" "elementData" "[Ljava/lang/Object;"]
def wsX8_radius : List Cond := .code yX8_radius cX8_radius 3 (some .float) :: ((wsX8_radius_r1 ++ wsX8_radius_r2) ++ wsX20 ++ wsX80 ++ wsJx4a65c0 ++ (vx_atS RX8 60 "java/lang/IndexOutOfBoundsException" ["java/lang/RuntimeException", "java/lang/Exception"]).filter goodWord)
def wsX8_root_r1 : List Cond := [Cond.classLink RX8 56 "java/lang/IndexOutOfBoundsException", Cond.initialized "java/lang/IndexOutOfBoundsException", Cond.methodLink RX8 209 yX8_gasketOf, Cond.instanceMethod yX8_gasketOf, Cond.selects RX8 yX8_gasketOf yX8_gasketOf, Cond.initialized RX8, Cond.code yX8_gasketOf cX8_gasketOf 2 (some (.object "Koebehall$Gasket")), Cond.fieldLink RX8 23 "Koebehall" "gaskets" "Ljava/util/ArrayList;", Cond.classLink RX8 187 "Koebehall$Gasket", Cond.methodLink RX8 129 yJx4a65c_size_8abf5, Cond.instanceMethod yJx4a65c_size_8abf5, Cond.selects RJx4a65c yJx4a65c_size_8abf5 yJx4a65c_size_8abf5, Cond.initialized RJx4a65c, Cond.code yJx4a65c_size_8abf5 cJx4a65c_size_8abf5 1 (some .int), Cond.fieldLink RJx4a65c 48 "java/util/ArrayList" "size" "I", Cond.methodLink RX8 148 yJx4a65c_get_915e3, Cond.instanceMethod yJx4a65c_get_915e3, Cond.selects RJx4a65c yJx4a65c_get_915e3 yJx4a65c_get_915e3, Cond.code yJx4a65c_get_915e3 cJx4a65c_get_915e3 2 (some (.object "java/lang/Object")), Cond.methodLink RJx4a65c 118 yJ15_checkIndex_7cf53, Cond.static yJ15_checkIndex_7cf53, Cond.initialized RJ15, Cond.code yJ15_checkIndex_7cf53 cJ15_checkIndex_7cf53 2 (some .int), Cond.methodLink RJ15 105 yJ3_checkIndex_8e157]
def wsX8_root_r2 : List Cond := [Cond.static yJ3_checkIndex_8e157, Cond.initialized RJ3, Cond.code yJ3_checkIndex_8e157 cJ3_checkIndex_8e157 3 (some .int), Cond.methodLink RJx4a65c 123 yJx4a65c_elementData_915e3, Cond.instanceMethod yJx4a65c_elementData_915e3, Cond.selects RJx4a65c yJx4a65c_elementData_915e3 yJx4a65c_elementData_915e3, Cond.code yJx4a65c_elementData_915e3 cJx4a65c_elementData_915e3 2 (some (.object "java/lang/Object")), Cond.fieldLink RJx4a65c 9 "java/util/ArrayList" "elementData" "[Ljava/lang/Object;"]
def wsX8_root : List Cond := .code yX8_root cX8_root 4 (some .long) :: ((wsX8_root_r1 ++ wsX8_root_r2) ++ wsX20 ++ wsX80 ++ wsJx4a65c0 ++ (vx_atS RX8 60 "java/lang/IndexOutOfBoundsException" ["java/lang/RuntimeException", "java/lang/Exception"]).filter goodWord)
def wsX8_boundedGasket_r1 : List Cond := [Cond.classLink RX8 124 "java/lang/IllegalArgumentException", Cond.initialized "java/lang/IllegalArgumentException", Cond.classLink RX8 67 "java/lang/IllegalStateException", Cond.initialized "java/lang/IllegalStateException", Cond.methodLink RX8 209 yX8_gasketOf, Cond.instanceMethod yX8_gasketOf, Cond.selects RX8 yX8_gasketOf yX8_gasketOf, Cond.initialized RX8, Cond.code yX8_gasketOf cX8_gasketOf 2 (some (.object "Koebehall$Gasket")), Cond.classLink RX8 56 "java/lang/IndexOutOfBoundsException", Cond.initialized "java/lang/IndexOutOfBoundsException", Cond.fieldLink RX8 23 "Koebehall" "gaskets" "Ljava/util/ArrayList;", Cond.classLink RX8 187 "Koebehall$Gasket", Cond.methodLink RX8 129 yJx4a65c_size_8abf5, Cond.instanceMethod yJx4a65c_size_8abf5, Cond.selects RJx4a65c yJx4a65c_size_8abf5 yJx4a65c_size_8abf5, Cond.initialized RJx4a65c, Cond.code yJx4a65c_size_8abf5 cJx4a65c_size_8abf5 1 (some .int), Cond.fieldLink RJx4a65c 48 "java/util/ArrayList" "size" "I", Cond.methodLink RX8 148 yJx4a65c_get_915e3, Cond.instanceMethod yJx4a65c_get_915e3, Cond.selects RJx4a65c yJx4a65c_get_915e3 yJx4a65c_get_915e3, Cond.code yJx4a65c_get_915e3 cJx4a65c_get_915e3 2 (some (.object "java/lang/Object")), Cond.methodLink RJx4a65c 118 yJ15_checkIndex_7cf53]
def wsX8_boundedGasket_r2 : List Cond := [Cond.static yJ15_checkIndex_7cf53, Cond.initialized RJ15, Cond.code yJ15_checkIndex_7cf53 cJ15_checkIndex_7cf53 2 (some .int), Cond.methodLink RJ15 105 yJ3_checkIndex_8e157, Cond.static yJ3_checkIndex_8e157, Cond.initialized RJ3, Cond.code yJ3_checkIndex_8e157 cJ3_checkIndex_8e157 3 (some .int), Cond.methodLink RJx4a65c 123 yJx4a65c_elementData_915e3, Cond.instanceMethod yJx4a65c_elementData_915e3, Cond.selects RJx4a65c yJx4a65c_elementData_915e3 yJx4a65c_elementData_915e3, Cond.code yJx4a65c_elementData_915e3 cJx4a65c_elementData_915e3 2 (some (.object "java/lang/Object")), Cond.fieldLink RJx4a65c 9 "java/util/ArrayList" "elementData" "[Ljava/lang/Object;"]
def wsX8_boundedGasket : List Cond := .code yX8_boundedGasket cX8_boundedGasket 4 (some (.object "Koebehall$Gasket")) :: ((wsX8_boundedGasket_r1 ++ wsX8_boundedGasket_r2) ++ wsX20 ++ wsX80 ++ wsJx4a65c0 ++ (vx_atS RX8 128 "java/lang/IllegalArgumentException" ["java/lang/RuntimeException", "java/lang/Exception"]).filter goodWord ++ (vx_atS RX8 71 "java/lang/IllegalStateException" ["java/lang/RuntimeException", "java/lang/Exception"]).filter goodWord ++ (vx_atS RX8 60 "java/lang/IndexOutOfBoundsException" ["java/lang/RuntimeException", "java/lang/Exception"]).filter goodWord)
def wsX8_count_r1 : List Cond := [Cond.methodLink RX8 219 yX8_boundedGasket, Cond.instanceMethod yX8_boundedGasket, Cond.selects RX8 yX8_boundedGasket yX8_boundedGasket, Cond.initialized RX8, Cond.code yX8_boundedGasket cX8_boundedGasket 4 (some (.object "Koebehall$Gasket")), Cond.classLink RX8 124 "java/lang/IllegalArgumentException", Cond.initialized "java/lang/IllegalArgumentException", Cond.classLink RX8 67 "java/lang/IllegalStateException", Cond.initialized "java/lang/IllegalStateException", Cond.methodLink RX8 209 yX8_gasketOf, Cond.instanceMethod yX8_gasketOf, Cond.selects RX8 yX8_gasketOf yX8_gasketOf, Cond.code yX8_gasketOf cX8_gasketOf 2 (some (.object "Koebehall$Gasket")), Cond.classLink RX8 56 "java/lang/IndexOutOfBoundsException", Cond.initialized "java/lang/IndexOutOfBoundsException", Cond.fieldLink RX8 23 "Koebehall" "gaskets" "Ljava/util/ArrayList;", Cond.classLink RX8 187 "Koebehall$Gasket", Cond.methodLink RX8 129 yJx4a65c_size_8abf5, Cond.instanceMethod yJx4a65c_size_8abf5, Cond.selects RJx4a65c yJx4a65c_size_8abf5 yJx4a65c_size_8abf5, Cond.initialized RJx4a65c, Cond.code yJx4a65c_size_8abf5 cJx4a65c_size_8abf5 1 (some .int), Cond.fieldLink RJx4a65c 48 "java/util/ArrayList" "size" "I", Cond.methodLink RX8 148 yJx4a65c_get_915e3]
def wsX8_count_r2 : List Cond := [Cond.instanceMethod yJx4a65c_get_915e3, Cond.selects RJx4a65c yJx4a65c_get_915e3 yJx4a65c_get_915e3, Cond.code yJx4a65c_get_915e3 cJx4a65c_get_915e3 2 (some (.object "java/lang/Object")), Cond.methodLink RJx4a65c 118 yJ15_checkIndex_7cf53, Cond.static yJ15_checkIndex_7cf53, Cond.initialized RJ15, Cond.code yJ15_checkIndex_7cf53 cJ15_checkIndex_7cf53 2 (some .int), Cond.methodLink RJ15 105 yJ3_checkIndex_8e157, Cond.static yJ3_checkIndex_8e157, Cond.initialized RJ3, Cond.code yJ3_checkIndex_8e157 cJ3_checkIndex_8e157 3 (some .int), Cond.methodLink RJx4a65c 123 yJx4a65c_elementData_915e3, Cond.instanceMethod yJx4a65c_elementData_915e3, Cond.selects RJx4a65c yJx4a65c_elementData_915e3 yJx4a65c_elementData_915e3, Cond.code yJx4a65c_elementData_915e3 cJx4a65c_elementData_915e3 2 (some (.object "java/lang/Object")), Cond.fieldLink RJx4a65c 9 "java/util/ArrayList" "elementData" "[Ljava/lang/Object;", Cond.instanceMethod yX2_circlesByTurns, Cond.initialized RX2, Cond.selects RX2 yX2_circlesByTurns yX2_circlesByTurns, Cond.code yX2_circlesByTurns cX2_circlesByTurns 2 (some .int), Cond.fieldLink RX2 22 "Koebehall$Gasket" "least" "[J", Cond.fieldLink RX2 25 "Koebehall$Gasket" "walked" "[J", Cond.methodLink RX2 46 arraycopyName, Cond.native arraycopyName]
def wsX8_count_r3 : List Cond := [Cond.static arraycopyName, Cond.initialized "java/lang/System", Cond.methodLink RX2 52 yX2_circlesOfRoot, Cond.instanceMethod yX2_circlesOfRoot, Cond.selects RX2 yX2_circlesOfRoot yX2_circlesOfRoot, Cond.code yX2_circlesOfRoot cX2_circlesOfRoot 4 (some .int), Cond.methodLink RX2 56 yX2_circlesOfRows, Cond.static yX2_circlesOfRows, Cond.code yX2_circlesOfRows cX2_circlesOfRows 10 (some .int), Cond.methodLink RX2 42 yX2_turnedAt, Cond.static yX2_turnedAt, Cond.code yX2_turnedAt cX2_turnedAt 4 (some .long), Cond.constantLong RX2 35 (2)]
def wsX8_count : List Cond := .code yX8_count cX8_count 3 (some .int) :: ((wsX8_count_r1 ++ (wsX8_count_r2 ++ wsX8_count_r3)) ++ wsX20 ++ wsX80 ++ wsJx4a65c0 ++ (vx_atS RX8 128 "java/lang/IllegalArgumentException" ["java/lang/RuntimeException", "java/lang/Exception"]).filter goodWord ++ (vx_atS RX8 71 "java/lang/IllegalStateException" ["java/lang/RuntimeException", "java/lang/Exception"]).filter goodWord ++ (vx_atS RX8 60 "java/lang/IndexOutOfBoundsException" ["java/lang/RuntimeException", "java/lang/Exception"]).filter goodWord)
def wsX8_countAnew_r1 : List Cond := [Cond.methodLink RX8 219 yX8_boundedGasket, Cond.instanceMethod yX8_boundedGasket, Cond.selects RX8 yX8_boundedGasket yX8_boundedGasket, Cond.initialized RX8, Cond.code yX8_boundedGasket cX8_boundedGasket 4 (some (.object "Koebehall$Gasket")), Cond.classLink RX8 124 "java/lang/IllegalArgumentException", Cond.initialized "java/lang/IllegalArgumentException", Cond.classLink RX8 67 "java/lang/IllegalStateException", Cond.initialized "java/lang/IllegalStateException", Cond.methodLink RX8 209 yX8_gasketOf, Cond.instanceMethod yX8_gasketOf, Cond.selects RX8 yX8_gasketOf yX8_gasketOf, Cond.code yX8_gasketOf cX8_gasketOf 2 (some (.object "Koebehall$Gasket")), Cond.classLink RX8 56 "java/lang/IndexOutOfBoundsException", Cond.initialized "java/lang/IndexOutOfBoundsException", Cond.fieldLink RX8 23 "Koebehall" "gaskets" "Ljava/util/ArrayList;", Cond.classLink RX8 187 "Koebehall$Gasket", Cond.methodLink RX8 129 yJx4a65c_size_8abf5, Cond.instanceMethod yJx4a65c_size_8abf5, Cond.selects RJx4a65c yJx4a65c_size_8abf5 yJx4a65c_size_8abf5, Cond.initialized RJx4a65c, Cond.code yJx4a65c_size_8abf5 cJx4a65c_size_8abf5 1 (some .int), Cond.fieldLink RJx4a65c 48 "java/util/ArrayList" "size" "I", Cond.methodLink RX8 148 yJx4a65c_get_915e3]
def wsX8_countAnew_r2 : List Cond := [Cond.instanceMethod yJx4a65c_get_915e3, Cond.selects RJx4a65c yJx4a65c_get_915e3 yJx4a65c_get_915e3, Cond.code yJx4a65c_get_915e3 cJx4a65c_get_915e3 2 (some (.object "java/lang/Object")), Cond.methodLink RJx4a65c 118 yJ15_checkIndex_7cf53, Cond.static yJ15_checkIndex_7cf53, Cond.initialized RJ15, Cond.code yJ15_checkIndex_7cf53 cJ15_checkIndex_7cf53 2 (some .int), Cond.methodLink RJ15 105 yJ3_checkIndex_8e157, Cond.static yJ3_checkIndex_8e157, Cond.initialized RJ3, Cond.code yJ3_checkIndex_8e157 cJ3_checkIndex_8e157 3 (some .int), Cond.methodLink RJx4a65c 123 yJx4a65c_elementData_915e3, Cond.instanceMethod yJx4a65c_elementData_915e3, Cond.selects RJx4a65c yJx4a65c_elementData_915e3 yJx4a65c_elementData_915e3, Cond.code yJx4a65c_elementData_915e3 cJx4a65c_elementData_915e3 2 (some (.object "java/lang/Object")), Cond.fieldLink RJx4a65c 9 "java/util/ArrayList" "elementData" "[Ljava/lang/Object;", Cond.instanceMethod yX2_circlesByThrees, Cond.initialized RX2, Cond.selects RX2 yX2_circlesByThrees yX2_circlesByThrees, Cond.code yX2_circlesByThrees cX2_circlesByThrees 2 (some .int), Cond.fieldLink RX2 22 "Koebehall$Gasket" "least" "[J", Cond.methodLink RX2 52 yX2_circlesOfRoot, Cond.instanceMethod yX2_circlesOfRoot, Cond.selects RX2 yX2_circlesOfRoot yX2_circlesOfRoot]
def wsX8_countAnew_r3 : List Cond := [Cond.code yX2_circlesOfRoot cX2_circlesOfRoot 4 (some .int), Cond.methodLink RX2 60 yX2_circlesAmong, Cond.static yX2_circlesAmong, Cond.code yX2_circlesAmong cX2_circlesAmong 10 (some .int), Cond.constantLong RX2 35 (2), Cond.methodLink RX2 64 yX2_wholeRoot, Cond.static yX2_wholeRoot, Cond.code yX2_wholeRoot cX2_wholeRoot 7 (some .long), Cond.methodLink RX2 68 yJ13_numberOfLeadingZeros_95d88, Cond.static yJ13_numberOfLeadingZeros_95d88, Cond.initialized RJ13, Cond.code yJ13_numberOfLeadingZeros_95d88 cJ13_numberOfLeadingZeros_95d88 3 (some .int), Cond.methodLink RJ13 308 yJ6_numberOfLeadingZeros_0f7a4, Cond.static yJ6_numberOfLeadingZeros_0f7a4, Cond.initialized RJ6, Cond.code yJ6_numberOfLeadingZeros_0f7a4 cJ6_numberOfLeadingZeros_0f7a4 2 (some .int), Cond.constant RJ6 264 (65536)]
def wsX8_countAnew : List Cond := .code yX8_countAnew cX8_countAnew 3 (some .int) :: ((wsX8_countAnew_r1 ++ (wsX8_countAnew_r2 ++ wsX8_countAnew_r3)) ++ wsX20 ++ wsX80 ++ wsJx4a65c0 ++ (vx_atS RX8 128 "java/lang/IllegalArgumentException" ["java/lang/RuntimeException", "java/lang/Exception"]).filter goodWord ++ (vx_atS RX8 71 "java/lang/IllegalStateException" ["java/lang/RuntimeException", "java/lang/Exception"]).filter goodWord ++ (vx_atS RX8 60 "java/lang/IndexOutOfBoundsException" ["java/lang/RuntimeException", "java/lang/Exception"]).filter goodWord)
def wsX8_remainders_r1 : List Cond := [Cond.classLink RX8 124 "java/lang/IllegalArgumentException", Cond.initialized "java/lang/IllegalArgumentException", Cond.fieldLink RX8 29 "Koebehall" "remainderWalk" "LKoebehall$RemainderWalk;", Cond.methodLink RX8 209 yX8_gasketOf, Cond.instanceMethod yX8_gasketOf, Cond.selects RX8 yX8_gasketOf yX8_gasketOf, Cond.initialized RX8, Cond.code yX8_gasketOf cX8_gasketOf 2 (some (.object "Koebehall$Gasket")), Cond.classLink RX8 56 "java/lang/IndexOutOfBoundsException", Cond.initialized "java/lang/IndexOutOfBoundsException", Cond.fieldLink RX8 23 "Koebehall" "gaskets" "Ljava/util/ArrayList;", Cond.classLink RX8 187 "Koebehall$Gasket", Cond.methodLink RX8 129 yJx4a65c_size_8abf5, Cond.instanceMethod yJx4a65c_size_8abf5, Cond.selects RJx4a65c yJx4a65c_size_8abf5 yJx4a65c_size_8abf5, Cond.initialized RJx4a65c, Cond.code yJx4a65c_size_8abf5 cJx4a65c_size_8abf5 1 (some .int), Cond.fieldLink RJx4a65c 48 "java/util/ArrayList" "size" "I", Cond.methodLink RX8 148 yJx4a65c_get_915e3, Cond.instanceMethod yJx4a65c_get_915e3, Cond.selects RJx4a65c yJx4a65c_get_915e3 yJx4a65c_get_915e3, Cond.code yJx4a65c_get_915e3 cJx4a65c_get_915e3 2 (some (.object "java/lang/Object")), Cond.methodLink RJx4a65c 118 yJ15_checkIndex_7cf53, Cond.static yJ15_checkIndex_7cf53]
def wsX8_remainders_r2 : List Cond := [Cond.initialized RJ15, Cond.code yJ15_checkIndex_7cf53 cJ15_checkIndex_7cf53 2 (some .int), Cond.methodLink RJ15 105 yJ3_checkIndex_8e157, Cond.static yJ3_checkIndex_8e157, Cond.initialized RJ3, Cond.code yJ3_checkIndex_8e157 cJ3_checkIndex_8e157 3 (some .int), Cond.methodLink RJx4a65c 123 yJx4a65c_elementData_915e3, Cond.instanceMethod yJx4a65c_elementData_915e3, Cond.selects RJx4a65c yJx4a65c_elementData_915e3 yJx4a65c_elementData_915e3, Cond.code yJx4a65c_elementData_915e3 cJx4a65c_elementData_915e3 2 (some (.object "java/lang/Object")), Cond.fieldLink RJx4a65c 9 "java/util/ArrayList" "elementData" "[Ljava/lang/Object;", Cond.instanceMethod yX5_allReached, Cond.initialized RX5, Cond.selects RX5 yX5_allReached yX5_allReached, Cond.code yX5_allReached cX5_allReached 7 (some .int), Cond.fieldLink RX5 11 "Koebehall$RemainderWalk" "seen" "[J", Cond.fieldLink RX5 15 "Koebehall$RemainderWalk" "waiting" "[J", Cond.methodLink RX5 18 yJ7_fill_d0a16, Cond.static yJ7_fill_d0a16, Cond.initialized RJ7, Cond.code yJ7_fill_d0a16 cJ7_fill_d0a16 5 none, Cond.methodLink RX5 24 yX5_codeOf, Cond.static yX5_codeOf, Cond.code yX5_codeOf cX5_codeOf 4 (some .int)]
def wsX8_remainders_r3 : List Cond := [Cond.methodLink RX5 44 yJ9_floorMod_f86c9, Cond.static yJ9_floorMod_f86c9, Cond.initialized RJ9, Cond.code yJ9_floorMod_f86c9 cJ9_floorMod_f86c9 6 (some .long), Cond.methodLink RX5 28 yX5_noteCode, Cond.instanceMethod yX5_noteCode, Cond.selects RX5 yX5_noteCode yX5_noteCode, Cond.code yX5_noteCode cX5_noteCode 4 none, Cond.methodLink RX5 32 yX5_takeWaiting, Cond.instanceMethod yX5_takeWaiting, Cond.selects RX5 yX5_takeWaiting yX5_takeWaiting, Cond.code yX5_takeWaiting cX5_takeWaiting 3 (some .int), Cond.methodLink RX5 52 yJ13_numberOfTrailingZeros_95d88, Cond.static yJ13_numberOfTrailingZeros_95d88, Cond.initialized RJ13, Cond.code yJ13_numberOfTrailingZeros_95d88 cJ13_numberOfTrailingZeros_95d88 3 (some .int), Cond.methodLink RJ13 311 yJ6_numberOfTrailingZeros_0f7a4, Cond.static yJ6_numberOfTrailingZeros_0f7a4, Cond.initialized RJ6, Cond.code yJ6_numberOfTrailingZeros_0f7a4 cJ6_numberOfTrailingZeros_0f7a4 2 (some .int), Cond.constant RJ6 264 (65536), Cond.methodLink RX5 36 yX5_remainderAt, Cond.static yX5_remainderAt, Cond.code yX5_remainderAt cX5_remainderAt 2 (some .int)]
def wsX8_remainders_r4 : List Cond := [Cond.methodLink RX5 40 yX5_turnedCode, Cond.static yX5_turnedCode, Cond.code yX5_turnedCode cX5_turnedCode 5 (some .int), Cond.methodLink RX5 50 yJ9_floorMod_7cf53, Cond.static yJ9_floorMod_7cf53, Cond.code yJ9_floorMod_7cf53 cJ9_floorMod_7cf53 3 (some .int)]
def wsX8_remainders : List Cond := .code yX8_remainders cX8_remainders 4 (some .int) :: ((wsX8_remainders_r1 ++ (wsX8_remainders_r2 ++ (wsX8_remainders_r3 ++ wsX8_remainders_r4))) ++ wsX80 ++ wsX20 ++ wsJx4a65c0 ++ wsX50 ++ (vx_atS RX8 128 "java/lang/IllegalArgumentException" ["java/lang/RuntimeException", "java/lang/Exception"]).filter goodWord ++ (vx_atS RX8 60 "java/lang/IndexOutOfBoundsException" ["java/lang/RuntimeException", "java/lang/Exception"]).filter goodWord)
def wsX8_refuseNoFraction : List Cond := .code yX8_refuseNoFraction cX8_refuseNoFraction 2 none :: ([.classLink RX8 124 "java/lang/IllegalArgumentException", .initialized "java/lang/IllegalArgumentException", .constantLong RX8 170 (1000000000), .constant RX8 176 (1000000000), .methodLink RX8 172 yX8_isWithin, .static yX8_isWithin, .initialized RX8, .code yX8_isWithin cX8_isWithin 4 (some .boolean), .static yX1_isLowest, .initialized RX1, .code yX1_isLowest cX1_isLowest 11 (some .boolean), .methodLink RX1 7 Lib.MathLoose.abs_long.x, .static Lib.MathLoose.abs_long.x, .initialized "java/lang/Math", .code Lib.MathLoose.abs_long.x Lib.MathLoose.abs_long.code 2 (some .long)] ++ (vx_atS RX8 128 "java/lang/IllegalArgumentException" ["java/lang/RuntimeException", "java/lang/Exception"]).filter goodWord)
def wsX8_ford : List Cond := .code yX8_ford cX8_ford 7 (some .int) :: ([.constantLong RX8 256 (-1), .methodLink RX8 246 yX8_refuseNoFraction, .static yX8_refuseNoFraction, .initialized RX8, .code yX8_refuseNoFraction cX8_refuseNoFraction 2 none, .classLink RX8 124 "java/lang/IllegalArgumentException", .initialized "java/lang/IllegalArgumentException", .constantLong RX8 170 (1000000000), .constant RX8 176 (1000000000), .methodLink RX8 172 yX8_isWithin, .static yX8_isWithin, .code yX8_isWithin cX8_isWithin 4 (some .boolean), .static yX1_isLowest, .initialized RX1, .code yX1_isLowest cX1_isLowest 11 (some .boolean), .methodLink RX1 7 Lib.MathLoose.abs_long.x, .static Lib.MathLoose.abs_long.x, .initialized "java/lang/Math", .code Lib.MathLoose.abs_long.x Lib.MathLoose.abs_long.code 2 (some .long), .static yX1_crossed, .code yX1_crossed cX1_crossed 8 (some .long)] ++ (vx_atS RX8 128 "java/lang/IllegalArgumentException" ["java/lang/RuntimeException", "java/lang/Exception"]).filter goodWord)
def wsX8_between_r1 : List Cond := [Cond.classLink RX8 124 "java/lang/IllegalArgumentException", Cond.initialized "java/lang/IllegalArgumentException", Cond.methodLink RX8 246 yX8_refuseNoFraction, Cond.static yX8_refuseNoFraction, Cond.initialized RX8, Cond.code yX8_refuseNoFraction cX8_refuseNoFraction 2 none, Cond.constantLong RX8 170 (1000000000), Cond.constant RX8 176 (1000000000), Cond.methodLink RX8 172 yX8_isWithin, Cond.static yX8_isWithin, Cond.code yX8_isWithin cX8_isWithin 4 (some .boolean), Cond.static yX1_isLowest, Cond.initialized RX1, Cond.code yX1_isLowest cX1_isLowest 11 (some .boolean), Cond.methodLink RX1 7 Lib.MathLoose.abs_long.x, Cond.static Lib.MathLoose.abs_long.x, Cond.initialized "java/lang/Math", Cond.code Lib.MathLoose.abs_long.x Lib.MathLoose.abs_long.code 2 (some .long), Cond.static yX1_crossed, Cond.code yX1_crossed cX1_crossed 8 (some .long), Cond.static yX1_simplest, Cond.code yX1_simplest cX1_simplest 39 (some .long), Cond.methodLink RX1 15 yJ9_floorDiv_f86c9, Cond.static yJ9_floorDiv_f86c9]
def wsX8_between_r2 : List Cond := [Cond.initialized RJ9, Cond.code yJ9_floorDiv_f86c9 cJ9_floorDiv_f86c9 6 (some .long)]
def wsX8_between : List Cond := .code yX8_between cX8_between 8 (some .long) :: ((wsX8_between_r1 ++ wsX8_between_r2) ++ (vx_atS RX8 128 "java/lang/IllegalArgumentException" ["java/lang/RuntimeException", "java/lang/Exception"]).filter goodWord)
def wsX8_tell_r1 : List Cond := [Cond.classLink RX8 124 "java/lang/IllegalArgumentException", Cond.initialized "java/lang/IllegalArgumentException", Cond.classLink RX8 67 "java/lang/IllegalStateException", Cond.initialized "java/lang/IllegalStateException", Cond.fieldLink RX8 33 "Koebehall" "moves" "Ljava/util/ArrayList;", Cond.classLink RX8 36 RX6, Cond.instantiable RX6 4, Cond.initialized RX6, Cond.methodLink RX8 182 yX8_areFourWithin, Cond.static yX8_areFourWithin, Cond.initialized RX8, Cond.code yX8_areFourWithin cX8_areFourWithin 5 (some .boolean), Cond.methodLink RX8 172 yX8_isWithin, Cond.static yX8_isWithin, Cond.code yX8_isWithin cX8_isWithin 4 (some .boolean), Cond.methodLink RX8 129 yJx4a65c_size_8abf5, Cond.instanceMethod yJx4a65c_size_8abf5, Cond.selects RJx4a65c yJx4a65c_size_8abf5 yJx4a65c_size_8abf5, Cond.initialized RJx4a65c, Cond.code yJx4a65c_size_8abf5 cJx4a65c_size_8abf5 1 (some .int), Cond.fieldLink RJx4a65c 48 "java/util/ArrayList" "size" "I", Cond.instanceMethod yX6_init, Cond.code yX6_init cX6_init 9 none, Cond.methodLink RX6 1 objectInit]
def wsX8_tell_r2 : List Cond := [Cond.instanceMethod objectInit, Cond.code objectInit ⟨#[0xb1]⟩ 1 none, Cond.fieldLink RX6 7 "Koebehall$Table" "a" "J", Cond.fieldLink RX6 13 "Koebehall$Table" "b" "J", Cond.fieldLink RX6 16 "Koebehall$Table" "c" "J", Cond.fieldLink RX6 19 "Koebehall$Table" "d" "J", Cond.methodLink RX8 139 yJx4a65c_add_9ea2d, Cond.instanceMethod yJx4a65c_add_9ea2d, Cond.selects RJx4a65c yJx4a65c_add_9ea2d yJx4a65c_add_9ea2d, Cond.code yJx4a65c_add_9ea2d cJx4a65c_add_9ea2d 2 (some .boolean), Cond.fieldLink RJx4a65c 63 "java/util/ArrayList" "modCount" "I", Cond.sameField "java/util/ArrayList" "java/util/AbstractList" "modCount" "I", Cond.fieldLink RJx4a65c 9 "java/util/ArrayList" "elementData" "[Ljava/lang/Object;", Cond.methodLink RJx4a65c 131 yJx4a65c_add_72be8, Cond.instanceMethod yJx4a65c_add_72be8, Cond.selects RJx4a65c yJx4a65c_add_72be8 yJx4a65c_add_72be8, Cond.code yJx4a65c_add_72be8 cJx4a65c_add_72be8 4 none, Cond.methodLink RJx4a65c 129 yJx4a65c_grow_d5877, Cond.instanceMethod yJx4a65c_grow_d5877, Cond.selects RJx4a65c yJx4a65c_grow_d5877 yJx4a65c_grow_d5877, Cond.code yJx4a65c_grow_d5877 cJx4a65c_grow_d5877 1 (some (.array (.object "java/lang/Object"))), Cond.methodLink RJx4a65c 69 yJx4a65c_grow_92f84, Cond.instanceMethod yJx4a65c_grow_92f84, Cond.selects RJx4a65c yJx4a65c_grow_92f84 yJx4a65c_grow_92f84]
def wsX8_tell_r3 : List Cond := [Cond.code yJx4a65c_grow_92f84 cJx4a65c_grow_92f84 4 (some (.array (.object "java/lang/Object"))), Cond.fieldLink RJx4a65c 39 "java/util/ArrayList" "DEFAULTCAPACITY_EMPTY_ELEMENTDATA" "[Ljava/lang/Object;", Cond.methodLink RJx4a65c 79 Lib.Math.max.name, Cond.static Lib.Math.max.name, Cond.initialized "java/lang/Math", Cond.code Lib.Math.max.name Lib.Math.max.code 2 (some .int), Cond.classLink RJx4a65c 7 "java/lang/Object", Cond.methodLink RJx4a65c 73 yJ8_newLength_cabcc, Cond.static yJ8_newLength_cabcc, Cond.initialized RJ8, Cond.code yJ8_newLength_cabcc cJ8_newLength_cabcc 4 (some .int), Cond.methodLink RJ8 194 Lib.Math.max.name, Cond.constant RJ8 200 (2147483639), Cond.methodLink RJ8 201 yJ8_hugeLength_7cf53, Cond.static yJ8_hugeLength_7cf53, Cond.code yJ8_hugeLength_7cf53 cJ8_hugeLength_7cf53 3 (some .int), Cond.methodLink RJx4a65c 66 yJ7_copyOf_1904c, Cond.static yJ7_copyOf_1904c, Cond.initialized RJ7, Cond.code yJ7_copyOf_1904c cJ7_copyOf_1904c 2 (some (.array (.object "java/lang/Object"))), Cond.methodLink RJ7 86 ⟨"java/lang/Object", "getClass", "()Ljava/lang/Class;"⟩, Cond.selects "[Ljava/lang/Object;" ⟨"java/lang/Object", "getClass", "()Ljava/lang/Class;"⟩ ⟨"java/lang/Object", "getClass", "()Ljava/lang/Class;"⟩, Cond.instanceMethod ⟨"java/lang/Object", "getClass", "()Ljava/lang/Class;"⟩, Cond.native ⟨"java/lang/Object", "getClass", "()Ljava/lang/Class;"⟩]
def wsX8_tell_r4 : List Cond := [Cond.methodLink RJ7 300 yJ7_copyOf_6403c, Cond.static yJ7_copyOf_6403c, Cond.code yJ7_copyOf_6403c cJ7_copyOf_6403c 4 (some (.array (.object "java/lang/Object"))), Cond.classLink RJ7 110 "[Ljava/lang/Object;", Cond.classLink RJ7 2 "java/lang/Object", Cond.methodLink RJ7 304 Lib.Math.min.name, Cond.static Lib.Math.min.name, Cond.code Lib.Math.min.name Lib.Math.min.code 2 (some .int), Cond.methodLink RJ7 150 arraycopyName, Cond.native arraycopyName, Cond.static arraycopyName, Cond.initialized "java/lang/System"]
def wsX8_tell : List Cond := .code yX8_tell cX8_tell 5 (some .int) :: ((wsX8_tell_r1 ++ (wsX8_tell_r2 ++ (wsX8_tell_r3 ++ wsX8_tell_r4))) ++ wsX80 ++ wsX60 ++ wsJx4a65c0 ++ (vx_atS RX8 128 "java/lang/IllegalArgumentException" ["java/lang/RuntimeException", "java/lang/Exception"]).filter goodWord ++ (vx_atS RX8 71 "java/lang/IllegalStateException" ["java/lang/RuntimeException", "java/lang/Exception"]).filter goodWord)
def wsX8_append_r1 : List Cond := [Cond.classLink RX8 56 "java/lang/IndexOutOfBoundsException", Cond.initialized "java/lang/IndexOutOfBoundsException", Cond.classLink RX8 67 "java/lang/IllegalStateException", Cond.initialized "java/lang/IllegalStateException", Cond.fieldLink RX8 33 "Koebehall" "moves" "Ljava/util/ArrayList;", Cond.classLink RX8 36 "Koebehall$Table", Cond.fieldLink RX8 41 "Koebehall" "product" "LKoebehall$Table;", Cond.constantLong RX8 170 (1000000000), Cond.methodLink RX8 129 yJx4a65c_size_8abf5, Cond.instanceMethod yJx4a65c_size_8abf5, Cond.selects RJx4a65c yJx4a65c_size_8abf5 yJx4a65c_size_8abf5, Cond.initialized RJx4a65c, Cond.code yJx4a65c_size_8abf5 cJx4a65c_size_8abf5 1 (some .int), Cond.fieldLink RJx4a65c 48 "java/util/ArrayList" "size" "I", Cond.methodLink RX8 148 yJx4a65c_get_915e3, Cond.instanceMethod yJx4a65c_get_915e3, Cond.selects RJx4a65c yJx4a65c_get_915e3 yJx4a65c_get_915e3, Cond.code yJx4a65c_get_915e3 cJx4a65c_get_915e3 2 (some (.object "java/lang/Object")), Cond.methodLink RJx4a65c 118 yJ15_checkIndex_7cf53, Cond.static yJ15_checkIndex_7cf53, Cond.initialized RJ15, Cond.code yJ15_checkIndex_7cf53 cJ15_checkIndex_7cf53 2 (some .int), Cond.methodLink RJ15 105 yJ3_checkIndex_8e157, Cond.static yJ3_checkIndex_8e157]
def wsX8_append_r2 : List Cond := [Cond.initialized RJ3, Cond.code yJ3_checkIndex_8e157 cJ3_checkIndex_8e157 3 (some .int), Cond.methodLink RJx4a65c 123 yJx4a65c_elementData_915e3, Cond.instanceMethod yJx4a65c_elementData_915e3, Cond.selects RJx4a65c yJx4a65c_elementData_915e3 yJx4a65c_elementData_915e3, Cond.code yJx4a65c_elementData_915e3 cJx4a65c_elementData_915e3 2 (some (.object "java/lang/Object")), Cond.fieldLink RJx4a65c 9 "java/util/ArrayList" "elementData" "[Ljava/lang/Object;", Cond.instanceMethod yX6_undone, Cond.initialized RX6, Cond.selects RX6 yX6_undone yX6_undone, Cond.code yX6_undone cX6_undone 1 (some (.object "Koebehall$Table")), Cond.classLink RX6 8 RX6, Cond.instantiable RX6 4, Cond.fieldLink RX6 19 "Koebehall$Table" "d" "J", Cond.fieldLink RX6 13 "Koebehall$Table" "b" "J", Cond.fieldLink RX6 16 "Koebehall$Table" "c" "J", Cond.fieldLink RX6 7 "Koebehall$Table" "a" "J", Cond.methodLink RX6 22 yX6_init, Cond.instanceMethod yX6_init, Cond.code yX6_init cX6_init 9 none, Cond.methodLink RX6 1 objectInit, Cond.instanceMethod objectInit, Cond.code objectInit ⟨#[0xb1]⟩ 1 none, Cond.instanceMethod yX6_times]
def wsX8_append_r3 : List Cond := [Cond.selects RX6 yX6_times yX6_times, Cond.code yX6_times cX6_times 2 (some (.object "Koebehall$Table")), Cond.instanceMethod yX6_isWhollyWithin, Cond.selects RX6 yX6_isWhollyWithin yX6_isWhollyWithin, Cond.code yX6_isWhollyWithin cX6_isWhollyWithin 3 (some .boolean), Cond.static yX8_isWithin, Cond.initialized RX8, Cond.code yX8_isWithin cX8_isWithin 4 (some .boolean), Cond.instanceMethod yX6_trace, Cond.selects RX6 yX6_trace yX6_trace, Cond.code yX6_trace cX6_trace 1 (some .long)]
def wsX8_append : List Cond := .code yX8_append cX8_append 5 (some .int) :: ((wsX8_append_r1 ++ (wsX8_append_r2 ++ wsX8_append_r3)) ++ wsX80 ++ wsJx4a65c0 ++ wsX60 ++ (vx_atS RX8 60 "java/lang/IndexOutOfBoundsException" ["java/lang/RuntimeException", "java/lang/Exception"]).filter goodWord ++ (vx_atS RX8 71 "java/lang/IllegalStateException" ["java/lang/RuntimeException", "java/lang/Exception"]).filter goodWord)
def wsX8_home : List Cond := .code yX8_home cX8_home 2 (some .int) :: ([.fieldLink RX8 41 "Koebehall" "product" "LKoebehall$Table;", .classLink RX8 36 RX6, .instantiable RX6 4, .initialized RX6, .instanceMethod yX6_trace, .selects RX6 yX6_trace yX6_trace, .code yX6_trace cX6_trace 1 (some .long), .fieldLink RX6 7 "Koebehall$Table" "a" "J", .fieldLink RX6 19 "Koebehall$Table" "d" "J", .instanceMethod yX6_init, .code yX6_init cX6_init 9 none, .methodLink RX6 1 objectInit, .instanceMethod objectInit, .code objectInit ⟨#[0xb1]⟩ 1 none, .fieldLink RX6 13 "Koebehall$Table" "b" "J", .fieldLink RX6 16 "Koebehall$Table" "c" "J"] ++ wsX80 ++ wsX60)
def wsX8_word : List Cond := .code yX8_word cX8_word 2 (some .int) :: ([.classLink RX8 56 "java/lang/IndexOutOfBoundsException", .initialized "java/lang/IndexOutOfBoundsException", .fieldLink RX8 41 "Koebehall" "product" "LKoebehall$Table;", .instanceMethod yX6_kind, .initialized RX6, .selects RX6 yX6_kind yX6_kind, .code yX6_kind cX6_kind 3 (some .int), .fieldLink RX6 13 "Koebehall$Table" "b" "J", .fieldLink RX6 16 "Koebehall$Table" "c" "J", .fieldLink RX6 7 "Koebehall$Table" "a" "J", .fieldLink RX6 19 "Koebehall$Table" "d" "J", .methodLink RX6 35 Lib.MathLoose.abs_long.x, .static Lib.MathLoose.abs_long.x, .initialized "java/lang/Math", .code Lib.MathLoose.abs_long.x Lib.MathLoose.abs_long.code 2 (some .long), .constantLong RX6 41 (2), .methodLink RX6 31 yX6_trace, .instanceMethod yX6_trace, .selects RX6 yX6_trace yX6_trace, .code yX6_trace cX6_trace 1 (some .long)] ++ wsX80 ++ wsX60 ++ (vx_atS RX8 60 "java/lang/IndexOutOfBoundsException" ["java/lang/RuntimeException", "java/lang/Exception"]).filter goodWord)
def wsX8_image : List Cond := .code yX8_image cX8_image 11 (some .long) :: ([.classLink RX8 124 "java/lang/IllegalArgumentException", .initialized "java/lang/IllegalArgumentException", .constantLong RX8 170 (1000000000), .constant RX8 176 (1000000000), .fieldLink RX8 41 "Koebehall" "product" "LKoebehall$Table;", .methodLink RX8 172 yX8_isWithin, .static yX8_isWithin, .initialized RX8, .code yX8_isWithin cX8_isWithin 4 (some .boolean), .static yX1_isLowest, .initialized RX1, .code yX1_isLowest cX1_isLowest 11 (some .boolean), .methodLink RX1 7 Lib.MathLoose.abs_long.x, .static Lib.MathLoose.abs_long.x, .initialized "java/lang/Math", .code Lib.MathLoose.abs_long.x Lib.MathLoose.abs_long.code 2 (some .long)] ++ wsX80 ++ wsX60 ++ (vx_atS RX8 128 "java/lang/IllegalArgumentException" ["java/lang/RuntimeException", "java/lang/Exception"]).filter goodWord)
def wsX8_nodes : List Cond := .code yX8_nodes cX8_nodes 2 (some .int) :: ([.classLink RX8 124 "java/lang/IllegalArgumentException", .initialized "java/lang/IllegalArgumentException", .fieldLink RX8 48 "Koebehall" "network" "LKoebehall$Network;", .instanceMethod yX4_beginAnew, .initialized RX4, .selects RX4 yX4_beginAnew yX4_beginAnew, .code yX4_beginAnew cX4_beginAnew 3 (some .int), .fieldLink RX4 23 "Koebehall$Network" "nodeCount" "I", .fieldLink RX4 12 "Koebehall$Network" "wires" "Ljava/util/ArrayList;", .methodLink RX4 27 yJx4a65c_clear_da8c8, .instanceMethod yJx4a65c_clear_da8c8, .selects RJx4a65c yJx4a65c_clear_da8c8 yJx4a65c_clear_da8c8, .initialized RJx4a65c, .code yJx4a65c_clear_da8c8 cJx4a65c_clear_da8c8 4 none, .fieldLink RJx4a65c 63 "java/util/ArrayList" "modCount" "I", .sameField "java/util/ArrayList" "java/util/AbstractList" "modCount" "I", .fieldLink RJx4a65c 9 "java/util/ArrayList" "elementData" "[Ljava/lang/Object;", .fieldLink RJx4a65c 48 "java/util/ArrayList" "size" "I"] ++ wsX80 ++ wsX40 ++ wsJx4a65c0 ++ (vx_atS RX8 128 "java/lang/IllegalArgumentException" ["java/lang/RuntimeException", "java/lang/Exception"]).filter goodWord)
def wsX8_wire_r1 : List Cond := [Cond.classLink RX8 56 "java/lang/IndexOutOfBoundsException", Cond.initialized "java/lang/IndexOutOfBoundsException", Cond.classLink RX8 124 "java/lang/IllegalArgumentException", Cond.initialized "java/lang/IllegalArgumentException", Cond.classLink RX8 67 "java/lang/IllegalStateException", Cond.initialized "java/lang/IllegalStateException", Cond.fieldLink RX8 48 "Koebehall" "network" "LKoebehall$Network;", Cond.classLink RX8 323 RX7, Cond.instantiable RX7 2, Cond.initialized RX7, Cond.instanceMethod yX4_hasNode, Cond.initialized RX4, Cond.selects RX4 yX4_hasNode yX4_hasNode, Cond.code yX4_hasNode cX4_hasNode 2 (some .boolean), Cond.fieldLink RX4 23 "Koebehall$Network" "nodeCount" "I", Cond.methodLink RX8 129 yJx4a65c_size_8abf5, Cond.instanceMethod yJx4a65c_size_8abf5, Cond.selects RJx4a65c yJx4a65c_size_8abf5 yJx4a65c_size_8abf5, Cond.initialized RJx4a65c, Cond.code yJx4a65c_size_8abf5 cJx4a65c_size_8abf5 1 (some .int), Cond.fieldLink RJx4a65c 48 "java/util/ArrayList" "size" "I", Cond.instanceMethod yX7_init, Cond.code yX7_init cX7_init 3 none, Cond.methodLink RX7 1 objectInit]
def wsX8_wire_r2 : List Cond := [Cond.instanceMethod objectInit, Cond.code objectInit ⟨#[0xb1]⟩ 1 none, Cond.fieldLink RX7 7 "Koebehall$Wire" "first" "I", Cond.fieldLink RX7 13 "Koebehall$Wire" "second" "I", Cond.methodLink RX8 139 yJx4a65c_add_9ea2d, Cond.instanceMethod yJx4a65c_add_9ea2d, Cond.selects RJx4a65c yJx4a65c_add_9ea2d yJx4a65c_add_9ea2d, Cond.code yJx4a65c_add_9ea2d cJx4a65c_add_9ea2d 2 (some .boolean), Cond.fieldLink RJx4a65c 63 "java/util/ArrayList" "modCount" "I", Cond.sameField "java/util/ArrayList" "java/util/AbstractList" "modCount" "I", Cond.fieldLink RJx4a65c 9 "java/util/ArrayList" "elementData" "[Ljava/lang/Object;", Cond.methodLink RJx4a65c 131 yJx4a65c_add_72be8, Cond.instanceMethod yJx4a65c_add_72be8, Cond.selects RJx4a65c yJx4a65c_add_72be8 yJx4a65c_add_72be8, Cond.code yJx4a65c_add_72be8 cJx4a65c_add_72be8 4 none, Cond.methodLink RJx4a65c 129 yJx4a65c_grow_d5877, Cond.instanceMethod yJx4a65c_grow_d5877, Cond.selects RJx4a65c yJx4a65c_grow_d5877 yJx4a65c_grow_d5877, Cond.code yJx4a65c_grow_d5877 cJx4a65c_grow_d5877 1 (some (.array (.object "java/lang/Object"))), Cond.methodLink RJx4a65c 69 yJx4a65c_grow_92f84, Cond.instanceMethod yJx4a65c_grow_92f84, Cond.selects RJx4a65c yJx4a65c_grow_92f84 yJx4a65c_grow_92f84, Cond.code yJx4a65c_grow_92f84 cJx4a65c_grow_92f84 4 (some (.array (.object "java/lang/Object"))), Cond.fieldLink RJx4a65c 39 "java/util/ArrayList" "DEFAULTCAPACITY_EMPTY_ELEMENTDATA" "[Ljava/lang/Object;"]
def wsX8_wire_r3 : List Cond := [Cond.methodLink RJx4a65c 79 Lib.Math.max.name, Cond.static Lib.Math.max.name, Cond.initialized "java/lang/Math", Cond.code Lib.Math.max.name Lib.Math.max.code 2 (some .int), Cond.classLink RJx4a65c 7 "java/lang/Object", Cond.methodLink RJx4a65c 73 yJ8_newLength_cabcc, Cond.static yJ8_newLength_cabcc, Cond.initialized RJ8, Cond.code yJ8_newLength_cabcc cJ8_newLength_cabcc 4 (some .int), Cond.methodLink RJ8 194 Lib.Math.max.name, Cond.constant RJ8 200 (2147483639), Cond.methodLink RJ8 201 yJ8_hugeLength_7cf53, Cond.static yJ8_hugeLength_7cf53, Cond.code yJ8_hugeLength_7cf53 cJ8_hugeLength_7cf53 3 (some .int), Cond.methodLink RJx4a65c 66 yJ7_copyOf_1904c, Cond.static yJ7_copyOf_1904c, Cond.initialized RJ7, Cond.code yJ7_copyOf_1904c cJ7_copyOf_1904c 2 (some (.array (.object "java/lang/Object"))), Cond.methodLink RJ7 86 ⟨"java/lang/Object", "getClass", "()Ljava/lang/Class;"⟩, Cond.selects "[Ljava/lang/Object;" ⟨"java/lang/Object", "getClass", "()Ljava/lang/Class;"⟩ ⟨"java/lang/Object", "getClass", "()Ljava/lang/Class;"⟩, Cond.instanceMethod ⟨"java/lang/Object", "getClass", "()Ljava/lang/Class;"⟩, Cond.native ⟨"java/lang/Object", "getClass", "()Ljava/lang/Class;"⟩, Cond.methodLink RJ7 300 yJ7_copyOf_6403c, Cond.static yJ7_copyOf_6403c]
def wsX8_wire_r4 : List Cond := [Cond.code yJ7_copyOf_6403c cJ7_copyOf_6403c 4 (some (.array (.object "java/lang/Object"))), Cond.classLink RJ7 110 "[Ljava/lang/Object;", Cond.classLink RJ7 2 "java/lang/Object", Cond.methodLink RJ7 304 Lib.Math.min.name, Cond.static Lib.Math.min.name, Cond.code Lib.Math.min.name Lib.Math.min.code 2 (some .int), Cond.methodLink RJ7 150 arraycopyName, Cond.native arraycopyName, Cond.static arraycopyName, Cond.initialized "java/lang/System"]
def wsX8_wire : List Cond := .code yX8_wire cX8_wire 3 (some .int) :: ((wsX8_wire_r1 ++ (wsX8_wire_r2 ++ (wsX8_wire_r3 ++ wsX8_wire_r4))) ++ wsX80 ++ wsX40 ++ wsX70 ++ wsJx4a65c0 ++ (vx_atS RX8 60 "java/lang/IndexOutOfBoundsException" ["java/lang/RuntimeException", "java/lang/Exception"]).filter goodWord ++ (vx_atS RX8 128 "java/lang/IllegalArgumentException" ["java/lang/RuntimeException", "java/lang/Exception"]).filter goodWord ++ (vx_atS RX8 71 "java/lang/IllegalStateException" ["java/lang/RuntimeException", "java/lang/Exception"]).filter goodWord)
def wsX8_trees_r1 : List Cond := [Cond.fieldLink RX8 48 "Koebehall" "network" "LKoebehall$Network;", Cond.instanceMethod yX4_treesByTable, Cond.initialized RX4, Cond.selects RX4 yX4_treesByTable yX4_treesByTable, Cond.code yX4_treesByTable cX4_treesByTable 1 (some .long), Cond.fieldLink RX4 23 "Koebehall$Network" "nodeCount" "I", Cond.methodLink RX4 34 yX4_fillTable, Cond.instanceMethod yX4_fillTable, Cond.selects RX4 yX4_fillTable yX4_fillTable, Cond.code yX4_fillTable cX4_fillTable 5 none, Cond.fieldLink RX4 20 "Koebehall$Network" "rows" "[[J", Cond.fieldLink RX4 12 "Koebehall$Network" "wires" "Ljava/util/ArrayList;", Cond.classLink RX4 52 "Koebehall$Wire", Cond.constantLong RX4 68 (-1), Cond.methodLink RX4 42 yJ7_fill_d0a16, Cond.static yJ7_fill_d0a16, Cond.initialized RJ7, Cond.code yJ7_fill_d0a16 cJ7_fill_d0a16 5 none, Cond.methodLink RX4 30 yJx4a65c_size_8abf5, Cond.instanceMethod yJx4a65c_size_8abf5, Cond.selects RJx4a65c yJx4a65c_size_8abf5 yJx4a65c_size_8abf5, Cond.initialized RJx4a65c, Cond.code yJx4a65c_size_8abf5 cJx4a65c_size_8abf5 1 (some .int), Cond.fieldLink RJx4a65c 48 "java/util/ArrayList" "size" "I"]
def wsX8_trees_r2 : List Cond := [Cond.methodLink RX4 48 yJx4a65c_get_915e3, Cond.instanceMethod yJx4a65c_get_915e3, Cond.selects RJx4a65c yJx4a65c_get_915e3 yJx4a65c_get_915e3, Cond.code yJx4a65c_get_915e3 cJx4a65c_get_915e3 2 (some (.object "java/lang/Object")), Cond.methodLink RJx4a65c 118 yJ15_checkIndex_7cf53, Cond.static yJ15_checkIndex_7cf53, Cond.initialized RJ15, Cond.code yJ15_checkIndex_7cf53 cJ15_checkIndex_7cf53 2 (some .int), Cond.methodLink RJ15 105 yJ3_checkIndex_8e157, Cond.static yJ3_checkIndex_8e157, Cond.initialized RJ3, Cond.code yJ3_checkIndex_8e157 cJ3_checkIndex_8e157 3 (some .int), Cond.methodLink RJx4a65c 123 yJx4a65c_elementData_915e3, Cond.instanceMethod yJx4a65c_elementData_915e3, Cond.selects RJx4a65c yJx4a65c_elementData_915e3 yJx4a65c_elementData_915e3, Cond.code yJx4a65c_elementData_915e3 cJx4a65c_elementData_915e3 2 (some (.object "java/lang/Object")), Cond.fieldLink RJx4a65c 9 "java/util/ArrayList" "elementData" "[Ljava/lang/Object;", Cond.methodLink RX4 57 yX4_lineOf, Cond.static yX4_lineOf, Cond.code yX4_lineOf cX4_lineOf 2 (some .int), Cond.methodLink RX4 64 yX4_addToTable, Cond.instanceMethod yX4_addToTable, Cond.selects RX4 yX4_addToTable yX4_addToTable, Cond.code yX4_addToTable cX4_addToTable 5 none]
def wsX8_trees_r3 : List Cond := [Cond.methodLink RX4 38 yX4_determinant, Cond.instanceMethod yX4_determinant, Cond.selects RX4 yX4_determinant yX4_determinant, Cond.code yX4_determinant cX4_determinant 8 (some .long), Cond.methodLink RX4 70 yX4_pivotRow, Cond.instanceMethod yX4_pivotRow, Cond.selects RX4 yX4_pivotRow yX4_pivotRow, Cond.code yX4_pivotRow cX4_pivotRow 4 (some .int), Cond.methodLink RX4 73 yX4_swapRows, Cond.instanceMethod yX4_swapRows, Cond.selects RX4 yX4_swapRows yX4_swapRows, Cond.code yX4_swapRows cX4_swapRows 4 none, Cond.methodLink RX4 77 yX4_reduceBelow, Cond.instanceMethod yX4_reduceBelow, Cond.selects RX4 yX4_reduceBelow yX4_reduceBelow, Cond.code yX4_reduceBelow cX4_reduceBelow 9 none]
def wsX8_trees : List Cond := .code yX8_trees cX8_trees 1 (some .int) :: ((wsX8_trees_r1 ++ (wsX8_trees_r2 ++ wsX8_trees_r3)) ++ wsX80 ++ wsX40 ++ wsX70 ++ wsJx4a65c0)
def wsX8_treesAnew_r1 : List Cond := [Cond.fieldLink RX8 48 "Koebehall" "network" "LKoebehall$Network;", Cond.instanceMethod yX4_treesBySets, Cond.initialized RX4, Cond.selects RX4 yX4_treesBySets yX4_treesBySets, Cond.code yX4_treesBySets cX4_treesBySets 3 (some .int), Cond.fieldLink RX4 12 "Koebehall$Network" "wires" "Ljava/util/ArrayList;", Cond.fieldLink RX4 23 "Koebehall$Network" "nodeCount" "I", Cond.methodLink RX4 30 yJx4a65c_size_8abf5, Cond.instanceMethod yJx4a65c_size_8abf5, Cond.selects RJx4a65c yJx4a65c_size_8abf5 yJx4a65c_size_8abf5, Cond.initialized RJx4a65c, Cond.code yJx4a65c_size_8abf5 cJx4a65c_size_8abf5 1 (some .int), Cond.fieldLink RJx4a65c 48 "java/util/ArrayList" "size" "I", Cond.methodLink RX4 80 yJ6_bitCount_0f7a4, Cond.static yJ6_bitCount_0f7a4, Cond.initialized RJ6, Cond.code yJ6_bitCount_0f7a4 cJ6_bitCount_0f7a4 1 (some .int), Cond.constant RJ6 265 (1431655765), Cond.constant RJ6 266 (858993459), Cond.constant RJ6 267 (252645135), Cond.methodLink RX4 86 yX4_hangsTogether, Cond.instanceMethod yX4_hangsTogether, Cond.selects RX4 yX4_hangsTogether yX4_hangsTogether, Cond.code yX4_hangsTogether cX4_hangsTogether 6 (some .boolean)]
def wsX8_treesAnew_r2 : List Cond := [Cond.classLink RX4 52 "Koebehall$Wire", Cond.methodLink RX4 48 yJx4a65c_get_915e3, Cond.instanceMethod yJx4a65c_get_915e3, Cond.selects RJx4a65c yJx4a65c_get_915e3 yJx4a65c_get_915e3, Cond.code yJx4a65c_get_915e3 cJx4a65c_get_915e3 2 (some (.object "java/lang/Object")), Cond.methodLink RJx4a65c 118 yJ15_checkIndex_7cf53, Cond.static yJ15_checkIndex_7cf53, Cond.initialized RJ15, Cond.code yJ15_checkIndex_7cf53 cJ15_checkIndex_7cf53 2 (some .int), Cond.methodLink RJ15 105 yJ3_checkIndex_8e157, Cond.static yJ3_checkIndex_8e157, Cond.initialized RJ3, Cond.code yJ3_checkIndex_8e157 cJ3_checkIndex_8e157 3 (some .int), Cond.methodLink RJx4a65c 123 yJx4a65c_elementData_915e3, Cond.instanceMethod yJx4a65c_elementData_915e3, Cond.selects RJx4a65c yJx4a65c_elementData_915e3 yJx4a65c_elementData_915e3, Cond.code yJx4a65c_elementData_915e3 cJx4a65c_elementData_915e3 2 (some (.object "java/lang/Object")), Cond.fieldLink RJx4a65c 9 "java/util/ArrayList" "elementData" "[Ljava/lang/Object;"]
def wsX8_treesAnew : List Cond := .code yX8_treesAnew cX8_treesAnew 1 (some .int) :: ((wsX8_treesAnew_r1 ++ wsX8_treesAnew_r2) ++ wsX80 ++ wsX40 ++ wsJx4a65c0 ++ wsX70)
def wsX8_side_r1 : List Cond := [Cond.classLink RX8 56 "java/lang/IndexOutOfBoundsException", Cond.initialized "java/lang/IndexOutOfBoundsException", Cond.classLink RX8 124 "java/lang/IllegalArgumentException", Cond.initialized "java/lang/IllegalArgumentException", Cond.classLink RX8 67 "java/lang/IllegalStateException", Cond.initialized "java/lang/IllegalStateException", Cond.fieldLink RX8 48 "Koebehall" "network" "LKoebehall$Network;", Cond.instanceMethod yX4_hasNode, Cond.initialized RX4, Cond.selects RX4 yX4_hasNode yX4_hasNode, Cond.code yX4_hasNode cX4_hasNode 2 (some .boolean), Cond.fieldLink RX4 23 "Koebehall$Network" "nodeCount" "I", Cond.instanceMethod yX4_hasWire, Cond.selects RX4 yX4_hasWire yX4_hasWire, Cond.code yX4_hasWire cX4_hasWire 2 (some .boolean), Cond.fieldLink RX4 12 "Koebehall$Network" "wires" "Ljava/util/ArrayList;", Cond.methodLink RX4 30 yJx4a65c_size_8abf5, Cond.instanceMethod yJx4a65c_size_8abf5, Cond.selects RJx4a65c yJx4a65c_size_8abf5 yJx4a65c_size_8abf5, Cond.initialized RJx4a65c, Cond.code yJx4a65c_size_8abf5 cJx4a65c_size_8abf5 1 (some .int), Cond.fieldLink RJx4a65c 48 "java/util/ArrayList" "size" "I", Cond.instanceMethod yX4_treesByTable, Cond.selects RX4 yX4_treesByTable yX4_treesByTable]
def wsX8_side_r2 : List Cond := [Cond.code yX4_treesByTable cX4_treesByTable 1 (some .long), Cond.methodLink RX4 34 yX4_fillTable, Cond.instanceMethod yX4_fillTable, Cond.selects RX4 yX4_fillTable yX4_fillTable, Cond.code yX4_fillTable cX4_fillTable 5 none, Cond.fieldLink RX4 20 "Koebehall$Network" "rows" "[[J", Cond.classLink RX4 52 "Koebehall$Wire", Cond.constantLong RX4 68 (-1), Cond.methodLink RX4 42 yJ7_fill_d0a16, Cond.static yJ7_fill_d0a16, Cond.initialized RJ7, Cond.code yJ7_fill_d0a16 cJ7_fill_d0a16 5 none, Cond.methodLink RX4 48 yJx4a65c_get_915e3, Cond.instanceMethod yJx4a65c_get_915e3, Cond.selects RJx4a65c yJx4a65c_get_915e3 yJx4a65c_get_915e3, Cond.code yJx4a65c_get_915e3 cJx4a65c_get_915e3 2 (some (.object "java/lang/Object")), Cond.methodLink RJx4a65c 118 yJ15_checkIndex_7cf53, Cond.static yJ15_checkIndex_7cf53, Cond.initialized RJ15, Cond.code yJ15_checkIndex_7cf53 cJ15_checkIndex_7cf53 2 (some .int), Cond.methodLink RJ15 105 yJ3_checkIndex_8e157, Cond.static yJ3_checkIndex_8e157, Cond.initialized RJ3, Cond.code yJ3_checkIndex_8e157 cJ3_checkIndex_8e157 3 (some .int)]
def wsX8_side_r3 : List Cond := [Cond.methodLink RJx4a65c 123 yJx4a65c_elementData_915e3, Cond.instanceMethod yJx4a65c_elementData_915e3, Cond.selects RJx4a65c yJx4a65c_elementData_915e3 yJx4a65c_elementData_915e3, Cond.code yJx4a65c_elementData_915e3 cJx4a65c_elementData_915e3 2 (some (.object "java/lang/Object")), Cond.fieldLink RJx4a65c 9 "java/util/ArrayList" "elementData" "[Ljava/lang/Object;", Cond.methodLink RX4 57 yX4_lineOf, Cond.static yX4_lineOf, Cond.code yX4_lineOf cX4_lineOf 2 (some .int), Cond.methodLink RX4 64 yX4_addToTable, Cond.instanceMethod yX4_addToTable, Cond.selects RX4 yX4_addToTable yX4_addToTable, Cond.code yX4_addToTable cX4_addToTable 5 none, Cond.methodLink RX4 38 yX4_determinant, Cond.instanceMethod yX4_determinant, Cond.selects RX4 yX4_determinant yX4_determinant, Cond.code yX4_determinant cX4_determinant 8 (some .long), Cond.methodLink RX4 70 yX4_pivotRow, Cond.instanceMethod yX4_pivotRow, Cond.selects RX4 yX4_pivotRow yX4_pivotRow, Cond.code yX4_pivotRow cX4_pivotRow 4 (some .int), Cond.methodLink RX4 73 yX4_swapRows, Cond.instanceMethod yX4_swapRows, Cond.selects RX4 yX4_swapRows yX4_swapRows, Cond.code yX4_swapRows cX4_swapRows 4 none]
def wsX8_side_r4 : List Cond := [Cond.methodLink RX4 77 yX4_reduceBelow, Cond.instanceMethod yX4_reduceBelow, Cond.selects RX4 yX4_reduceBelow yX4_reduceBelow, Cond.code yX4_reduceBelow cX4_reduceBelow 9 none, Cond.instanceMethod yX4_heightOf, Cond.selects RX4 yX4_heightOf yX4_heightOf, Cond.code yX4_heightOf cX4_heightOf 6 (some .long), Cond.instanceMethod yX4_fallAlong, Cond.selects RX4 yX4_fallAlong yX4_fallAlong, Cond.code yX4_fallAlong cX4_fallAlong 5 (some .long), Cond.methodLink RX4 90 yX4_hasWire, Cond.methodLink RX4 93 yX4_heightOf]
def wsX8_side : List Cond := .code yX8_side cX8_side 4 (some .int) :: ((wsX8_side_r1 ++ (wsX8_side_r2 ++ (wsX8_side_r3 ++ wsX8_side_r4))) ++ wsX80 ++ wsX40 ++ wsJx4a65c0 ++ wsX70 ++ (vx_atS RX8 60 "java/lang/IndexOutOfBoundsException" ["java/lang/RuntimeException", "java/lang/Exception"]).filter goodWord ++ (vx_atS RX8 128 "java/lang/IllegalArgumentException" ["java/lang/RuntimeException", "java/lang/Exception"]).filter goodWord ++ (vx_atS RX8 71 "java/lang/IllegalStateException" ["java/lang/RuntimeException", "java/lang/Exception"]).filter goodWord)
def wsJ9_abs_067f4 : List Cond := .code yJ9_abs_067f4 cJ9_abs_067f4 2 (some .long) :: ([])
def wsJ9_max_7cf53 : List Cond := .code yJ9_max_7cf53 cJ9_max_7cf53 2 (some .int) :: ([])
def wsJ9_min_7cf53 : List Cond := .code yJ9_min_7cf53 cJ9_min_7cf53 2 (some .int) :: ([])
theorem dX0_init_0 : decode cX0_init 0 = .ok (.aload_n 0, 1) := by decide +kernel
theorem dX0_init_1 : decode cX0_init 1 = .ok (.invokespecial 3, 3) := by decide +kernel
theorem dX0_init_4 : decode cX0_init 4 = .ok (.aload_n 0, 1) := by decide +kernel
theorem dX0_init_5 : decode cX0_init 5 = .ok (.lload_n 1, 1) := by decide +kernel
theorem dX0_init_6 : decode cX0_init 6 = .ok (.putfield 9, 3) := by decide +kernel
theorem dX0_init_9 : decode cX0_init 9 = .ok (.aload_n 0, 1) := by decide +kernel
theorem dX0_init_10 : decode cX0_init 10 = .ok (.lload_n 3, 1) := by decide +kernel
theorem dX0_init_11 : decode cX0_init 11 = .ok (.putfield 15, 3) := by decide +kernel
theorem dX0_init_14 : decode cX0_init 14 = .ok (.aload_n 0, 1) := by decide +kernel
theorem dX0_init_15 : decode cX0_init 15 = .ok (.lload 5, 2) := by decide +kernel
theorem dX0_init_17 : decode cX0_init 17 = .ok (.putfield 18, 3) := by decide +kernel
theorem dX0_init_20 : decode cX0_init 20 = .ok (.return_, 1) := by decide +kernel
theorem dX0_howItLies_0 : decode cX0_howItLies 0 = .ok (.aload_n 0, 1) := by decide +kernel
theorem dX0_howItLies_1 : decode cX0_howItLies 1 = .ok (.getfield 9, 3) := by decide +kernel
theorem dX0_howItLies_4 : decode cX0_howItLies 4 = .ok (.aload_n 1, 1) := by decide +kernel
theorem dX0_howItLies_5 : decode cX0_howItLies 5 = .ok (.getfield 9, 3) := by decide +kernel
theorem dX0_howItLies_8 : decode cX0_howItLies 8 = .ok (.lsub, 1) := by decide +kernel
theorem dX0_howItLies_9 : decode cX0_howItLies 9 = .ok (.lstore_n 2, 1) := by decide +kernel
theorem dX0_howItLies_10 : decode cX0_howItLies 10 = .ok (.aload_n 0, 1) := by decide +kernel
theorem dX0_howItLies_11 : decode cX0_howItLies 11 = .ok (.getfield 15, 3) := by decide +kernel
theorem dX0_howItLies_14 : decode cX0_howItLies 14 = .ok (.aload_n 1, 1) := by decide +kernel
theorem dX0_howItLies_15 : decode cX0_howItLies 15 = .ok (.getfield 15, 3) := by decide +kernel
theorem dX0_howItLies_18 : decode cX0_howItLies 18 = .ok (.lsub, 1) := by decide +kernel
theorem dX0_howItLies_19 : decode cX0_howItLies 19 = .ok (.lstore 4, 2) := by decide +kernel
theorem dX0_howItLies_21 : decode cX0_howItLies 21 = .ok (.aload_n 0, 1) := by decide +kernel
theorem dX0_howItLies_22 : decode cX0_howItLies 22 = .ok (.getfield 18, 3) := by decide +kernel
theorem dX0_howItLies_25 : decode cX0_howItLies 25 = .ok (.aload_n 1, 1) := by decide +kernel
theorem dX0_howItLies_26 : decode cX0_howItLies 26 = .ok (.getfield 18, 3) := by decide +kernel
theorem dX0_howItLies_29 : decode cX0_howItLies 29 = .ok (.ladd, 1) := by decide +kernel
theorem dX0_howItLies_30 : decode cX0_howItLies 30 = .ok (.lstore 6, 2) := by decide +kernel
theorem dX0_howItLies_32 : decode cX0_howItLies 32 = .ok (.lload_n 2, 1) := by decide +kernel
theorem dX0_howItLies_33 : decode cX0_howItLies 33 = .ok (.lload_n 2, 1) := by decide +kernel
theorem dX0_howItLies_34 : decode cX0_howItLies 34 = .ok (.lmul, 1) := by decide +kernel
theorem dX0_howItLies_35 : decode cX0_howItLies 35 = .ok (.lload 4, 2) := by decide +kernel
theorem dX0_howItLies_37 : decode cX0_howItLies 37 = .ok (.lload 4, 2) := by decide +kernel
theorem dX0_howItLies_39 : decode cX0_howItLies 39 = .ok (.lmul, 1) := by decide +kernel
theorem dX0_howItLies_40 : decode cX0_howItLies 40 = .ok (.ladd, 1) := by decide +kernel
theorem dX0_howItLies_41 : decode cX0_howItLies 41 = .ok (.lstore 8, 2) := by decide +kernel
theorem dX0_howItLies_43 : decode cX0_howItLies 43 = .ok (.lload 8, 2) := by decide +kernel
theorem dX0_howItLies_45 : decode cX0_howItLies 45 = .ok (.lload 6, 2) := by decide +kernel
theorem dX0_howItLies_47 : decode cX0_howItLies 47 = .ok (.lload 6, 2) := by decide +kernel
theorem dX0_howItLies_49 : decode cX0_howItLies 49 = .ok (.lmul, 1) := by decide +kernel
theorem dX0_howItLies_50 : decode cX0_howItLies 50 = .ok (.lcmp, 1) := by decide +kernel
theorem dX0_howItLies_51 : decode cX0_howItLies 51 = .ok (.ifCond .ne 5, 3) := by decide +kernel
theorem dX0_howItLies_54 : decode cX0_howItLies 54 = .ok (.iconst 1, 1) := by decide +kernel
theorem dX0_howItLies_55 : decode cX0_howItLies 55 = .ok (.ireturn, 1) := by decide +kernel
theorem dX0_howItLies_56 : decode cX0_howItLies 56 = .ok (.lload 8, 2) := by decide +kernel
theorem dX0_howItLies_58 : decode cX0_howItLies 58 = .ok (.lload 6, 2) := by decide +kernel
theorem dX0_howItLies_60 : decode cX0_howItLies 60 = .ok (.lload 6, 2) := by decide +kernel
theorem dX0_howItLies_62 : decode cX0_howItLies 62 = .ok (.lmul, 1) := by decide +kernel
theorem dX0_howItLies_63 : decode cX0_howItLies 63 = .ok (.lcmp, 1) := by decide +kernel
theorem dX0_howItLies_64 : decode cX0_howItLies 64 = .ok (.ifCond .le 7, 3) := by decide +kernel
theorem dX0_howItLies_67 : decode cX0_howItLies 67 = .ok (.iconst 0, 1) := by decide +kernel
theorem dX0_howItLies_68 : decode cX0_howItLies 68 = .ok (.goto 4, 3) := by decide +kernel
theorem dX0_howItLies_71 : decode cX0_howItLies 71 = .ok (.iconst 2, 1) := by decide +kernel
theorem dX0_howItLies_72 : decode cX0_howItLies 72 = .ok (.ireturn, 1) := by decide +kernel
theorem dX1_isLowest_0 : decode cX1_isLowest 0 = .ok (.lload_n 0, 1) := by decide +kernel
theorem dX1_isLowest_1 : decode cX1_isLowest 1 = .ok (.invokestatic 7, 3) := by decide +kernel
theorem dX1_isLowest_4 : decode cX1_isLowest 4 = .ok (.lstore 4, 2) := by decide +kernel
theorem dX1_isLowest_6 : decode cX1_isLowest 6 = .ok (.lload_n 2, 1) := by decide +kernel
theorem dX1_isLowest_7 : decode cX1_isLowest 7 = .ok (.lstore 6, 2) := by decide +kernel
theorem dX1_isLowest_9 : decode cX1_isLowest 9 = .ok (.iconst 0, 1) := by decide +kernel
theorem dX1_isLowest_10 : decode cX1_isLowest 10 = .ok (.istore 8, 2) := by decide +kernel
theorem dX1_isLowest_12 : decode cX1_isLowest 12 = .ok (.iload 8, 2) := by decide +kernel
theorem dX1_isLowest_14 : decode cX1_isLowest 14 = .ok (.sipush 1000, 3) := by decide +kernel
theorem dX1_isLowest_17 : decode cX1_isLowest 17 = .ok (.if_icmp .ge 31, 3) := by decide +kernel
theorem dX1_isLowest_20 : decode cX1_isLowest 20 = .ok (.lload 6, 2) := by decide +kernel
theorem dX1_isLowest_22 : decode cX1_isLowest 22 = .ok (.lconst 0, 1) := by decide +kernel
theorem dX1_isLowest_23 : decode cX1_isLowest 23 = .ok (.lcmp, 1) := by decide +kernel
theorem dX1_isLowest_24 : decode cX1_isLowest 24 = .ok (.ifCond .eq 24, 3) := by decide +kernel
theorem dX1_isLowest_27 : decode cX1_isLowest 27 = .ok (.lload 4, 2) := by decide +kernel
theorem dX1_isLowest_29 : decode cX1_isLowest 29 = .ok (.lload 6, 2) := by decide +kernel
theorem dX1_isLowest_31 : decode cX1_isLowest 31 = .ok (.lrem, 1) := by decide +kernel
theorem dX1_isLowest_32 : decode cX1_isLowest 32 = .ok (.lstore 9, 2) := by decide +kernel
theorem dX1_isLowest_34 : decode cX1_isLowest 34 = .ok (.lload 6, 2) := by decide +kernel
theorem dX1_isLowest_36 : decode cX1_isLowest 36 = .ok (.lstore 4, 2) := by decide +kernel
theorem dX1_isLowest_38 : decode cX1_isLowest 38 = .ok (.lload 9, 2) := by decide +kernel
theorem dX1_isLowest_40 : decode cX1_isLowest 40 = .ok (.lstore 6, 2) := by decide +kernel
theorem dX1_isLowest_42 : decode cX1_isLowest 42 = .ok (.iinc 8 1, 3) := by decide +kernel
theorem dX1_isLowest_45 : decode cX1_isLowest 45 = .ok (.goto (-33), 3) := by decide +kernel
theorem dX1_isLowest_48 : decode cX1_isLowest 48 = .ok (.lload 4, 2) := by decide +kernel
theorem dX1_isLowest_50 : decode cX1_isLowest 50 = .ok (.lconst 1, 1) := by decide +kernel
theorem dX1_isLowest_51 : decode cX1_isLowest 51 = .ok (.lcmp, 1) := by decide +kernel
theorem dX1_isLowest_52 : decode cX1_isLowest 52 = .ok (.ifCond .ne 7, 3) := by decide +kernel
theorem dX1_isLowest_55 : decode cX1_isLowest 55 = .ok (.iconst 1, 1) := by decide +kernel
theorem dX1_isLowest_56 : decode cX1_isLowest 56 = .ok (.goto 4, 3) := by decide +kernel
theorem dX1_isLowest_59 : decode cX1_isLowest 59 = .ok (.iconst 0, 1) := by decide +kernel
theorem dX1_isLowest_60 : decode cX1_isLowest 60 = .ok (.ireturn, 1) := by decide +kernel
theorem dX1_crossed_0 : decode cX1_crossed 0 = .ok (.lload_n 0, 1) := by decide +kernel
theorem dX1_crossed_1 : decode cX1_crossed 1 = .ok (.lload 6, 2) := by decide +kernel
theorem dX1_crossed_3 : decode cX1_crossed 3 = .ok (.lmul, 1) := by decide +kernel
theorem dX1_crossed_4 : decode cX1_crossed 4 = .ok (.lload 4, 2) := by decide +kernel
theorem dX1_crossed_6 : decode cX1_crossed 6 = .ok (.lload_n 2, 1) := by decide +kernel
theorem dX1_crossed_7 : decode cX1_crossed 7 = .ok (.lmul, 1) := by decide +kernel
theorem dX1_crossed_8 : decode cX1_crossed 8 = .ok (.lsub, 1) := by decide +kernel
theorem dX1_crossed_9 : decode cX1_crossed 9 = .ok (.lreturn, 1) := by decide +kernel
set_option maxRecDepth 20000 in
theorem ggX1_simplest_J9_floorDiv_f86c9 : GoodIn wsX1_simplest wsJ9_floorDiv_f86c9 := goodIn_r _ [4] (by decide +kernel) (by decide +kernel)
set_option maxRecDepth 20000 in
theorem gX1_simplest_J9_floorDiv_f86c9 : GoodIn wsX1_simplest (va_wsS RX1 15 yJ9_floorDiv_f86c9 wsJ9_floorDiv_f86c9) := goodIn_app (goodIn_of _ (by decide +kernel)) ggX1_simplest_J9_floorDiv_f86c9
theorem dX1_simplest_0 : decode cX1_simplest 0 = .ok (.lload_n 0, 1) := by decide +kernel
theorem dX1_simplest_1 : decode cX1_simplest 1 = .ok (.lstore 9, 2) := by decide +kernel
theorem dX1_simplest_3 : decode cX1_simplest 3 = .ok (.lload_n 2, 1) := by decide +kernel
theorem dX1_simplest_4 : decode cX1_simplest 4 = .ok (.lstore 11, 2) := by decide +kernel
theorem dX1_simplest_6 : decode cX1_simplest 6 = .ok (.lload 4, 2) := by decide +kernel
theorem dX1_simplest_8 : decode cX1_simplest 8 = .ok (.lstore 13, 2) := by decide +kernel
theorem dX1_simplest_10 : decode cX1_simplest 10 = .ok (.lload 6, 2) := by decide +kernel
theorem dX1_simplest_12 : decode cX1_simplest 12 = .ok (.lstore 15, 2) := by decide +kernel
theorem dX1_simplest_14 : decode cX1_simplest 14 = .ok (.lconst 1, 1) := by decide +kernel
theorem dX1_simplest_15 : decode cX1_simplest 15 = .ok (.lstore 17, 2) := by decide +kernel
theorem dX1_simplest_17 : decode cX1_simplest 17 = .ok (.lconst 0, 1) := by decide +kernel
theorem dX1_simplest_18 : decode cX1_simplest 18 = .ok (.lstore 19, 2) := by decide +kernel
theorem dX1_simplest_20 : decode cX1_simplest 20 = .ok (.lconst 0, 1) := by decide +kernel
theorem dX1_simplest_21 : decode cX1_simplest 21 = .ok (.lstore 21, 2) := by decide +kernel
theorem dX1_simplest_23 : decode cX1_simplest 23 = .ok (.lconst 1, 1) := by decide +kernel
theorem dX1_simplest_24 : decode cX1_simplest 24 = .ok (.lstore 23, 2) := by decide +kernel
theorem dX1_simplest_26 : decode cX1_simplest 26 = .ok (.iconst 0, 1) := by decide +kernel
theorem dX1_simplest_27 : decode cX1_simplest 27 = .ok (.istore 25, 2) := by decide +kernel
theorem dX1_simplest_29 : decode cX1_simplest 29 = .ok (.iconst 0, 1) := by decide +kernel
theorem dX1_simplest_30 : decode cX1_simplest 30 = .ok (.istore 26, 2) := by decide +kernel
theorem dX1_simplest_32 : decode cX1_simplest 32 = .ok (.iload 26, 2) := by decide +kernel
theorem dX1_simplest_34 : decode cX1_simplest 34 = .ok (.sipush 1000, 3) := by decide +kernel
theorem dX1_simplest_37 : decode cX1_simplest 37 = .ok (.if_icmp .ge 138, 3) := by decide +kernel
theorem dX1_simplest_40 : decode cX1_simplest 40 = .ok (.iload 25, 2) := by decide +kernel
theorem dX1_simplest_42 : decode cX1_simplest 42 = .ok (.ifCond .ne 133, 3) := by decide +kernel
theorem dX1_simplest_45 : decode cX1_simplest 45 = .ok (.lload 11, 2) := by decide +kernel
theorem dX1_simplest_47 : decode cX1_simplest 47 = .ok (.lconst 0, 1) := by decide +kernel
theorem dX1_simplest_48 : decode cX1_simplest 48 = .ok (.lcmp, 1) := by decide +kernel
theorem dX1_simplest_49 : decode cX1_simplest 49 = .ok (.ifCond .le 126, 3) := by decide +kernel
theorem dX1_simplest_52 : decode cX1_simplest 52 = .ok (.lload 9, 2) := by decide +kernel
theorem dX1_simplest_54 : decode cX1_simplest 54 = .ok (.lload 11, 2) := by decide +kernel
theorem dX1_simplest_56 : decode cX1_simplest 56 = .ok (.invokestatic 15, 3) := by decide +kernel
theorem dX1_simplest_59 : decode cX1_simplest 59 = .ok (.lstore 27, 2) := by decide +kernel
theorem dX1_simplest_61 : decode cX1_simplest 61 = .ok (.lload 27, 2) := by decide +kernel
theorem dX1_simplest_63 : decode cX1_simplest 63 = .ok (.lconst 1, 1) := by decide +kernel
theorem dX1_simplest_64 : decode cX1_simplest 64 = .ok (.ladd, 1) := by decide +kernel
theorem dX1_simplest_65 : decode cX1_simplest 65 = .ok (.lload 15, 2) := by decide +kernel
theorem dX1_simplest_67 : decode cX1_simplest 67 = .ok (.lmul, 1) := by decide +kernel
theorem dX1_simplest_68 : decode cX1_simplest 68 = .ok (.lload 13, 2) := by decide +kernel
theorem dX1_simplest_70 : decode cX1_simplest 70 = .ok (.lcmp, 1) := by decide +kernel
theorem dX1_simplest_71 : decode cX1_simplest 71 = .ok (.ifCond .ge 7, 3) := by decide +kernel
theorem dX1_simplest_74 : decode cX1_simplest 74 = .ok (.iconst 1, 1) := by decide +kernel
theorem dX1_simplest_75 : decode cX1_simplest 75 = .ok (.goto 4, 3) := by decide +kernel
theorem dX1_simplest_78 : decode cX1_simplest 78 = .ok (.iconst 0, 1) := by decide +kernel
theorem dX1_simplest_79 : decode cX1_simplest 79 = .ok (.istore 25, 2) := by decide +kernel
theorem dX1_simplest_81 : decode cX1_simplest 81 = .ok (.iload 25, 2) := by decide +kernel
theorem dX1_simplest_83 : decode cX1_simplest 83 = .ok (.ifCond .eq 10, 3) := by decide +kernel
theorem dX1_simplest_86 : decode cX1_simplest 86 = .ok (.lload 27, 2) := by decide +kernel
theorem dX1_simplest_88 : decode cX1_simplest 88 = .ok (.lconst 1, 1) := by decide +kernel
theorem dX1_simplest_89 : decode cX1_simplest 89 = .ok (.ladd, 1) := by decide +kernel
theorem dX1_simplest_90 : decode cX1_simplest 90 = .ok (.goto 5, 3) := by decide +kernel
theorem dX1_simplest_93 : decode cX1_simplest 93 = .ok (.lload 27, 2) := by decide +kernel
theorem dX1_simplest_95 : decode cX1_simplest 95 = .ok (.lstore 29, 2) := by decide +kernel
theorem dX1_simplest_97 : decode cX1_simplest 97 = .ok (.lload 29, 2) := by decide +kernel
theorem dX1_simplest_99 : decode cX1_simplest 99 = .ok (.lload 17, 2) := by decide +kernel
theorem dX1_simplest_101 : decode cX1_simplest 101 = .ok (.lmul, 1) := by decide +kernel
theorem dX1_simplest_102 : decode cX1_simplest 102 = .ok (.lload 19, 2) := by decide +kernel
theorem dX1_simplest_104 : decode cX1_simplest 104 = .ok (.ladd, 1) := by decide +kernel
theorem dX1_simplest_105 : decode cX1_simplest 105 = .ok (.lstore 31, 2) := by decide +kernel
theorem dX1_simplest_107 : decode cX1_simplest 107 = .ok (.lload 17, 2) := by decide +kernel
theorem dX1_simplest_109 : decode cX1_simplest 109 = .ok (.lstore 19, 2) := by decide +kernel
theorem dX1_simplest_111 : decode cX1_simplest 111 = .ok (.lload 31, 2) := by decide +kernel
theorem dX1_simplest_113 : decode cX1_simplest 113 = .ok (.lstore 17, 2) := by decide +kernel
theorem dX1_simplest_115 : decode cX1_simplest 115 = .ok (.lload 29, 2) := by decide +kernel
theorem dX1_simplest_117 : decode cX1_simplest 117 = .ok (.lload 21, 2) := by decide +kernel
theorem dX1_simplest_119 : decode cX1_simplest 119 = .ok (.lmul, 1) := by decide +kernel
theorem dX1_simplest_120 : decode cX1_simplest 120 = .ok (.lload 23, 2) := by decide +kernel
theorem dX1_simplest_122 : decode cX1_simplest 122 = .ok (.ladd, 1) := by decide +kernel
theorem dX1_simplest_123 : decode cX1_simplest 123 = .ok (.lstore 33, 2) := by decide +kernel
theorem dX1_simplest_125 : decode cX1_simplest 125 = .ok (.lload 21, 2) := by decide +kernel
theorem dX1_simplest_127 : decode cX1_simplest 127 = .ok (.lstore 23, 2) := by decide +kernel
theorem dX1_simplest_129 : decode cX1_simplest 129 = .ok (.lload 33, 2) := by decide +kernel
theorem dX1_simplest_131 : decode cX1_simplest 131 = .ok (.lstore 21, 2) := by decide +kernel
theorem dX1_simplest_133 : decode cX1_simplest 133 = .ok (.lload 9, 2) := by decide +kernel
theorem dX1_simplest_135 : decode cX1_simplest 135 = .ok (.lload 27, 2) := by decide +kernel
theorem dX1_simplest_137 : decode cX1_simplest 137 = .ok (.lload 11, 2) := by decide +kernel
theorem dX1_simplest_139 : decode cX1_simplest 139 = .ok (.lmul, 1) := by decide +kernel
theorem dX1_simplest_140 : decode cX1_simplest 140 = .ok (.lsub, 1) := by decide +kernel
theorem dX1_simplest_141 : decode cX1_simplest 141 = .ok (.lstore 35, 2) := by decide +kernel
theorem dX1_simplest_143 : decode cX1_simplest 143 = .ok (.lload 13, 2) := by decide +kernel
theorem dX1_simplest_145 : decode cX1_simplest 145 = .ok (.lload 27, 2) := by decide +kernel
theorem dX1_simplest_147 : decode cX1_simplest 147 = .ok (.lload 15, 2) := by decide +kernel
theorem dX1_simplest_149 : decode cX1_simplest 149 = .ok (.lmul, 1) := by decide +kernel
theorem dX1_simplest_150 : decode cX1_simplest 150 = .ok (.lsub, 1) := by decide +kernel
theorem dX1_simplest_151 : decode cX1_simplest 151 = .ok (.lstore 37, 2) := by decide +kernel
theorem dX1_simplest_153 : decode cX1_simplest 153 = .ok (.lload 11, 2) := by decide +kernel
theorem dX1_simplest_155 : decode cX1_simplest 155 = .ok (.lstore 13, 2) := by decide +kernel
theorem dX1_simplest_157 : decode cX1_simplest 157 = .ok (.lload 15, 2) := by decide +kernel
theorem dX1_simplest_159 : decode cX1_simplest 159 = .ok (.lstore 9, 2) := by decide +kernel
theorem dX1_simplest_161 : decode cX1_simplest 161 = .ok (.lload 35, 2) := by decide +kernel
theorem dX1_simplest_163 : decode cX1_simplest 163 = .ok (.lstore 15, 2) := by decide +kernel
theorem dX1_simplest_165 : decode cX1_simplest 165 = .ok (.lload 37, 2) := by decide +kernel
theorem dX1_simplest_167 : decode cX1_simplest 167 = .ok (.lstore 11, 2) := by decide +kernel
theorem dX1_simplest_169 : decode cX1_simplest 169 = .ok (.iinc 26 1, 3) := by decide +kernel
theorem dX1_simplest_172 : decode cX1_simplest 172 = .ok (.goto (-140), 3) := by decide +kernel
theorem dX1_simplest_175 : decode cX1_simplest 175 = .ok (.iload 8, 2) := by decide +kernel
theorem dX1_simplest_177 : decode cX1_simplest 177 = .ok (.ifCond .eq 8, 3) := by decide +kernel
theorem dX1_simplest_180 : decode cX1_simplest 180 = .ok (.lload 17, 2) := by decide +kernel
theorem dX1_simplest_182 : decode cX1_simplest 182 = .ok (.goto 5, 3) := by decide +kernel
theorem dX1_simplest_185 : decode cX1_simplest 185 = .ok (.lload 21, 2) := by decide +kernel
theorem dX1_simplest_187 : decode cX1_simplest 187 = .ok (.lreturn, 1) := by decide +kernel
set_option maxRecDepth 20000 in
theorem ggX2_init_X2_rowOf : GoodIn wsX2_init wsX2_rowOf := goodIn_r _ [11, 6] (by decide +kernel) (by decide +kernel)
set_option maxRecDepth 20000 in
theorem gX2_init_X2_rowOf : GoodIn wsX2_init (va_wsS RX2 9 yX2_rowOf wsX2_rowOf) := goodIn_app (goodIn_of _ (by decide +kernel)) ggX2_init_X2_rowOf
set_option maxRecDepth 20000 in
theorem ggX2_init_X2_rootOf : GoodIn wsX2_init wsX2_rootOf := goodIn_r _ [14, 8, 9, 10, 11, 6, 15, 16, 17, 18, 19, 20, 21, 22, 23, 24, 25, 26, 27, 28] (by decide +kernel) (by decide +kernel)
set_option maxRecDepth 20000 in
theorem gX2_init_X2_rootOf : GoodIn wsX2_init (va_wsS RX2 19 yX2_rootOf wsX2_rootOf) := goodIn_app (goodIn_of _ (by decide +kernel)) ggX2_init_X2_rootOf
theorem dX2_init_0 : decode cX2_init 0 = .ok (.aload_n 0, 1) := by decide +kernel
theorem dX2_init_1 : decode cX2_init 1 = .ok (.invokespecial 3, 3) := by decide +kernel
theorem dX2_init_4 : decode cX2_init 4 = .ok (.aload_n 0, 1) := by decide +kernel
theorem dX2_init_5 : decode cX2_init 5 = .ok (.lload_n 1, 1) := by decide +kernel
theorem dX2_init_6 : decode cX2_init 6 = .ok (.lload_n 3, 1) := by decide +kernel
theorem dX2_init_7 : decode cX2_init 7 = .ok (.lload 5, 2) := by decide +kernel
theorem dX2_init_9 : decode cX2_init 9 = .ok (.lload 7, 2) := by decide +kernel
theorem dX2_init_11 : decode cX2_init 11 = .ok (.invokestatic 9, 3) := by decide +kernel
theorem dX2_init_14 : decode cX2_init 14 = .ok (.putfield 15, 3) := by decide +kernel
theorem dX2_init_17 : decode cX2_init 17 = .ok (.aload_n 0, 1) := by decide +kernel
theorem dX2_init_18 : decode cX2_init 18 = .ok (.lload_n 1, 1) := by decide +kernel
theorem dX2_init_19 : decode cX2_init 19 = .ok (.lload_n 3, 1) := by decide +kernel
theorem dX2_init_20 : decode cX2_init 20 = .ok (.lload 5, 2) := by decide +kernel
theorem dX2_init_22 : decode cX2_init 22 = .ok (.lload 7, 2) := by decide +kernel
theorem dX2_init_24 : decode cX2_init 24 = .ok (.invokestatic 19, 3) := by decide +kernel
theorem dX2_init_27 : decode cX2_init 27 = .ok (.putfield 22, 3) := by decide +kernel
theorem dX2_init_30 : decode cX2_init 30 = .ok (.aload_n 0, 1) := by decide +kernel
theorem dX2_init_31 : decode cX2_init 31 = .ok (.iconst 4, 1) := by decide +kernel
theorem dX2_init_32 : decode cX2_init 32 = .ok (.newarray .long, 2) := by decide +kernel
theorem dX2_init_34 : decode cX2_init 34 = .ok (.putfield 25, 3) := by decide +kernel
theorem dX2_init_37 : decode cX2_init 37 = .ok (.return_, 1) := by decide +kernel
theorem dX2_rowOf_0 : decode cX2_rowOf 0 = .ok (.iconst 4, 1) := by decide +kernel
theorem dX2_rowOf_1 : decode cX2_rowOf 1 = .ok (.newarray .long, 2) := by decide +kernel
theorem dX2_rowOf_3 : decode cX2_rowOf 3 = .ok (.astore 8, 2) := by decide +kernel
theorem dX2_rowOf_5 : decode cX2_rowOf 5 = .ok (.aload 8, 2) := by decide +kernel
theorem dX2_rowOf_7 : decode cX2_rowOf 7 = .ok (.iconst 0, 1) := by decide +kernel
theorem dX2_rowOf_8 : decode cX2_rowOf 8 = .ok (.lload_n 0, 1) := by decide +kernel
theorem dX2_rowOf_9 : decode cX2_rowOf 9 = .ok (.lastore, 1) := by decide +kernel
theorem dX2_rowOf_10 : decode cX2_rowOf 10 = .ok (.aload 8, 2) := by decide +kernel
theorem dX2_rowOf_12 : decode cX2_rowOf 12 = .ok (.iconst 1, 1) := by decide +kernel
theorem dX2_rowOf_13 : decode cX2_rowOf 13 = .ok (.lload_n 2, 1) := by decide +kernel
theorem dX2_rowOf_14 : decode cX2_rowOf 14 = .ok (.lastore, 1) := by decide +kernel
theorem dX2_rowOf_15 : decode cX2_rowOf 15 = .ok (.aload 8, 2) := by decide +kernel
theorem dX2_rowOf_17 : decode cX2_rowOf 17 = .ok (.iconst 2, 1) := by decide +kernel
theorem dX2_rowOf_18 : decode cX2_rowOf 18 = .ok (.lload 4, 2) := by decide +kernel
theorem dX2_rowOf_20 : decode cX2_rowOf 20 = .ok (.lastore, 1) := by decide +kernel
theorem dX2_rowOf_21 : decode cX2_rowOf 21 = .ok (.aload 8, 2) := by decide +kernel
theorem dX2_rowOf_23 : decode cX2_rowOf 23 = .ok (.iconst 3, 1) := by decide +kernel
theorem dX2_rowOf_24 : decode cX2_rowOf 24 = .ok (.lload 6, 2) := by decide +kernel
theorem dX2_rowOf_26 : decode cX2_rowOf 26 = .ok (.lastore, 1) := by decide +kernel
theorem dX2_rowOf_27 : decode cX2_rowOf 27 = .ok (.aload 8, 2) := by decide +kernel
theorem dX2_rowOf_29 : decode cX2_rowOf 29 = .ok (.areturn, 1) := by decide +kernel
set_option maxRecDepth 20000 in
theorem ggX2_rootOf_X2_rowOf : GoodIn wsX2_rootOf wsX2_rowOf := goodIn_r _ [4, 5] (by decide +kernel) (by decide +kernel)
set_option maxRecDepth 20000 in
theorem gX2_rootOf_X2_rowOf : GoodIn wsX2_rootOf (va_wsS RX2 9 yX2_rowOf wsX2_rowOf) := goodIn_app (goodIn_of _ (by decide +kernel)) ggX2_rootOf_X2_rowOf
set_option maxRecDepth 20000 in
theorem ggX2_rootOf_X2_bringToRoot : GoodIn wsX2_rootOf wsX2_bringToRoot := goodIn_r _ [8, 9, 10, 11, 3, 12, 13, 14, 15, 16] (by decide +kernel) (by decide +kernel)
set_option maxRecDepth 20000 in
theorem gX2_rootOf_X2_bringToRoot : GoodIn wsX2_rootOf (va_wsS RX2 28 yX2_bringToRoot wsX2_bringToRoot) := goodIn_app (goodIn_of _ (by decide +kernel)) ggX2_rootOf_X2_bringToRoot
set_option maxRecDepth 20000 in
theorem ggX2_rootOf_X2_putInOrder : GoodIn wsX2_rootOf wsX2_putInOrder := goodIn_r _ [19] (by decide +kernel) (by decide +kernel)
set_option maxRecDepth 20000 in
theorem gX2_rootOf_X2_putInOrder : GoodIn wsX2_rootOf (va_wsS RX2 32 yX2_putInOrder wsX2_putInOrder) := goodIn_app (goodIn_of _ (by decide +kernel)) ggX2_rootOf_X2_putInOrder
theorem dX2_rootOf_0 : decode cX2_rootOf 0 = .ok (.lload_n 0, 1) := by decide +kernel
theorem dX2_rootOf_1 : decode cX2_rootOf 1 = .ok (.lload_n 2, 1) := by decide +kernel
theorem dX2_rootOf_2 : decode cX2_rootOf 2 = .ok (.lload 4, 2) := by decide +kernel
theorem dX2_rootOf_4 : decode cX2_rootOf 4 = .ok (.lload 6, 2) := by decide +kernel
theorem dX2_rootOf_6 : decode cX2_rootOf 6 = .ok (.invokestatic 9, 3) := by decide +kernel
theorem dX2_rootOf_9 : decode cX2_rootOf 9 = .ok (.astore 8, 2) := by decide +kernel
theorem dX2_rootOf_11 : decode cX2_rootOf 11 = .ok (.aload 8, 2) := by decide +kernel
theorem dX2_rootOf_13 : decode cX2_rootOf 13 = .ok (.invokestatic 28, 3) := by decide +kernel
theorem dX2_rootOf_16 : decode cX2_rootOf 16 = .ok (.aload 8, 2) := by decide +kernel
theorem dX2_rootOf_18 : decode cX2_rootOf 18 = .ok (.invokestatic 32, 3) := by decide +kernel
theorem dX2_rootOf_21 : decode cX2_rootOf 21 = .ok (.aload 8, 2) := by decide +kernel
theorem dX2_rootOf_23 : decode cX2_rootOf 23 = .ok (.areturn, 1) := by decide +kernel
theorem dX2_areOfGasket_0 : decode cX2_areOfGasket 0 = .ok (.lload_n 0, 1) := by decide +kernel
theorem dX2_areOfGasket_1 : decode cX2_areOfGasket 1 = .ok (.lload_n 2, 1) := by decide +kernel
theorem dX2_areOfGasket_2 : decode cX2_areOfGasket 2 = .ok (.ladd, 1) := by decide +kernel
theorem dX2_areOfGasket_3 : decode cX2_areOfGasket 3 = .ok (.lload 4, 2) := by decide +kernel
theorem dX2_areOfGasket_5 : decode cX2_areOfGasket 5 = .ok (.ladd, 1) := by decide +kernel
theorem dX2_areOfGasket_6 : decode cX2_areOfGasket 6 = .ok (.lload 6, 2) := by decide +kernel
theorem dX2_areOfGasket_8 : decode cX2_areOfGasket 8 = .ok (.ladd, 1) := by decide +kernel
theorem dX2_areOfGasket_9 : decode cX2_areOfGasket 9 = .ok (.lstore 8, 2) := by decide +kernel
theorem dX2_areOfGasket_11 : decode cX2_areOfGasket 11 = .ok (.lload 8, 2) := by decide +kernel
theorem dX2_areOfGasket_13 : decode cX2_areOfGasket 13 = .ok (.lconst 0, 1) := by decide +kernel
theorem dX2_areOfGasket_14 : decode cX2_areOfGasket 14 = .ok (.lcmp, 1) := by decide +kernel
theorem dX2_areOfGasket_15 : decode cX2_areOfGasket 15 = .ok (.ifCond .le 39, 3) := by decide +kernel
theorem dX2_areOfGasket_18 : decode cX2_areOfGasket 18 = .ok (.lload 8, 2) := by decide +kernel
theorem dX2_areOfGasket_20 : decode cX2_areOfGasket 20 = .ok (.lload 8, 2) := by decide +kernel
theorem dX2_areOfGasket_22 : decode cX2_areOfGasket 22 = .ok (.lmul, 1) := by decide +kernel
theorem dX2_areOfGasket_23 : decode cX2_areOfGasket 23 = .ok (.ldc2_w 35, 3) := by decide +kernel
theorem dX2_areOfGasket_26 : decode cX2_areOfGasket 26 = .ok (.lload_n 0, 1) := by decide +kernel
theorem dX2_areOfGasket_27 : decode cX2_areOfGasket 27 = .ok (.lload_n 0, 1) := by decide +kernel
theorem dX2_areOfGasket_28 : decode cX2_areOfGasket 28 = .ok (.lmul, 1) := by decide +kernel
theorem dX2_areOfGasket_29 : decode cX2_areOfGasket 29 = .ok (.lload_n 2, 1) := by decide +kernel
theorem dX2_areOfGasket_30 : decode cX2_areOfGasket 30 = .ok (.lload_n 2, 1) := by decide +kernel
theorem dX2_areOfGasket_31 : decode cX2_areOfGasket 31 = .ok (.lmul, 1) := by decide +kernel
theorem dX2_areOfGasket_32 : decode cX2_areOfGasket 32 = .ok (.ladd, 1) := by decide +kernel
theorem dX2_areOfGasket_33 : decode cX2_areOfGasket 33 = .ok (.lload 4, 2) := by decide +kernel
theorem dX2_areOfGasket_35 : decode cX2_areOfGasket 35 = .ok (.lload 4, 2) := by decide +kernel
theorem dX2_areOfGasket_37 : decode cX2_areOfGasket 37 = .ok (.lmul, 1) := by decide +kernel
theorem dX2_areOfGasket_38 : decode cX2_areOfGasket 38 = .ok (.ladd, 1) := by decide +kernel
theorem dX2_areOfGasket_39 : decode cX2_areOfGasket 39 = .ok (.lload 6, 2) := by decide +kernel
theorem dX2_areOfGasket_41 : decode cX2_areOfGasket 41 = .ok (.lload 6, 2) := by decide +kernel
theorem dX2_areOfGasket_43 : decode cX2_areOfGasket 43 = .ok (.lmul, 1) := by decide +kernel
theorem dX2_areOfGasket_44 : decode cX2_areOfGasket 44 = .ok (.ladd, 1) := by decide +kernel
theorem dX2_areOfGasket_45 : decode cX2_areOfGasket 45 = .ok (.lmul, 1) := by decide +kernel
theorem dX2_areOfGasket_46 : decode cX2_areOfGasket 46 = .ok (.lcmp, 1) := by decide +kernel
theorem dX2_areOfGasket_47 : decode cX2_areOfGasket 47 = .ok (.ifCond .ne 7, 3) := by decide +kernel
theorem dX2_areOfGasket_50 : decode cX2_areOfGasket 50 = .ok (.iconst 1, 1) := by decide +kernel
theorem dX2_areOfGasket_51 : decode cX2_areOfGasket 51 = .ok (.goto 4, 3) := by decide +kernel
theorem dX2_areOfGasket_54 : decode cX2_areOfGasket 54 = .ok (.iconst 0, 1) := by decide +kernel
theorem dX2_areOfGasket_55 : decode cX2_areOfGasket 55 = .ok (.ireturn, 1) := by decide +kernel
theorem dX2_turnedAt_0 : decode cX2_turnedAt 0 = .ok (.aload_n 0, 1) := by decide +kernel
theorem dX2_turnedAt_1 : decode cX2_turnedAt 1 = .ok (.iconst 0, 1) := by decide +kernel
theorem dX2_turnedAt_2 : decode cX2_turnedAt 2 = .ok (.laload, 1) := by decide +kernel
theorem dX2_turnedAt_3 : decode cX2_turnedAt 3 = .ok (.aload_n 0, 1) := by decide +kernel
theorem dX2_turnedAt_4 : decode cX2_turnedAt 4 = .ok (.iconst 1, 1) := by decide +kernel
theorem dX2_turnedAt_5 : decode cX2_turnedAt 5 = .ok (.laload, 1) := by decide +kernel
theorem dX2_turnedAt_6 : decode cX2_turnedAt 6 = .ok (.ladd, 1) := by decide +kernel
theorem dX2_turnedAt_7 : decode cX2_turnedAt 7 = .ok (.aload_n 0, 1) := by decide +kernel
theorem dX2_turnedAt_8 : decode cX2_turnedAt 8 = .ok (.iconst 2, 1) := by decide +kernel
theorem dX2_turnedAt_9 : decode cX2_turnedAt 9 = .ok (.laload, 1) := by decide +kernel
theorem dX2_turnedAt_10 : decode cX2_turnedAt 10 = .ok (.ladd, 1) := by decide +kernel
theorem dX2_turnedAt_11 : decode cX2_turnedAt 11 = .ok (.aload_n 0, 1) := by decide +kernel
theorem dX2_turnedAt_12 : decode cX2_turnedAt 12 = .ok (.iconst 3, 1) := by decide +kernel
theorem dX2_turnedAt_13 : decode cX2_turnedAt 13 = .ok (.laload, 1) := by decide +kernel
theorem dX2_turnedAt_14 : decode cX2_turnedAt 14 = .ok (.ladd, 1) := by decide +kernel
theorem dX2_turnedAt_15 : decode cX2_turnedAt 15 = .ok (.aload_n 0, 1) := by decide +kernel
theorem dX2_turnedAt_16 : decode cX2_turnedAt 16 = .ok (.iload_n 1, 1) := by decide +kernel
theorem dX2_turnedAt_17 : decode cX2_turnedAt 17 = .ok (.laload, 1) := by decide +kernel
theorem dX2_turnedAt_18 : decode cX2_turnedAt 18 = .ok (.lsub, 1) := by decide +kernel
theorem dX2_turnedAt_19 : decode cX2_turnedAt 19 = .ok (.lstore_n 2, 1) := by decide +kernel
theorem dX2_turnedAt_20 : decode cX2_turnedAt 20 = .ok (.ldc2_w 35, 3) := by decide +kernel
theorem dX2_turnedAt_23 : decode cX2_turnedAt 23 = .ok (.lload_n 2, 1) := by decide +kernel
theorem dX2_turnedAt_24 : decode cX2_turnedAt 24 = .ok (.lmul, 1) := by decide +kernel
theorem dX2_turnedAt_25 : decode cX2_turnedAt 25 = .ok (.aload_n 0, 1) := by decide +kernel
theorem dX2_turnedAt_26 : decode cX2_turnedAt 26 = .ok (.iload_n 1, 1) := by decide +kernel
theorem dX2_turnedAt_27 : decode cX2_turnedAt 27 = .ok (.laload, 1) := by decide +kernel
theorem dX2_turnedAt_28 : decode cX2_turnedAt 28 = .ok (.lsub, 1) := by decide +kernel
theorem dX2_turnedAt_29 : decode cX2_turnedAt 29 = .ok (.lreturn, 1) := by decide +kernel
set_option maxRecDepth 20000 in
theorem ggX2_bringToRoot_X2_greatestPlace : GoodIn wsX2_bringToRoot wsX2_greatestPlace := goodIn_r _ [5] (by decide +kernel) (by decide +kernel)
set_option maxRecDepth 20000 in
theorem gX2_bringToRoot_X2_greatestPlace : GoodIn wsX2_bringToRoot (va_wsS RX2 38 yX2_greatestPlace wsX2_greatestPlace) := goodIn_app (goodIn_of _ (by decide +kernel)) ggX2_bringToRoot_X2_greatestPlace
set_option maxRecDepth 20000 in
theorem ggX2_bringToRoot_X2_turnedAt : GoodIn wsX2_bringToRoot wsX2_turnedAt := goodIn_r _ [8, 9] (by decide +kernel) (by decide +kernel)
set_option maxRecDepth 20000 in
theorem gX2_bringToRoot_X2_turnedAt : GoodIn wsX2_bringToRoot (va_wsS RX2 42 yX2_turnedAt wsX2_turnedAt) := goodIn_app (goodIn_of _ (by decide +kernel)) ggX2_bringToRoot_X2_turnedAt
theorem dX2_bringToRoot_0 : decode cX2_bringToRoot 0 = .ok (.iconst 0, 1) := by decide +kernel
theorem dX2_bringToRoot_1 : decode cX2_bringToRoot 1 = .ok (.istore_n 1, 1) := by decide +kernel
theorem dX2_bringToRoot_2 : decode cX2_bringToRoot 2 = .ok (.iload_n 1, 1) := by decide +kernel
theorem dX2_bringToRoot_3 : decode cX2_bringToRoot 3 = .ok (.ldc 37, 2) := by decide +kernel
theorem dX2_bringToRoot_5 : decode cX2_bringToRoot 5 = .ok (.if_icmp .ge 33, 3) := by decide +kernel
theorem dX2_bringToRoot_8 : decode cX2_bringToRoot 8 = .ok (.aload_n 0, 1) := by decide +kernel
theorem dX2_bringToRoot_9 : decode cX2_bringToRoot 9 = .ok (.invokestatic 38, 3) := by decide +kernel
theorem dX2_bringToRoot_12 : decode cX2_bringToRoot 12 = .ok (.istore_n 2, 1) := by decide +kernel
theorem dX2_bringToRoot_13 : decode cX2_bringToRoot 13 = .ok (.aload_n 0, 1) := by decide +kernel
theorem dX2_bringToRoot_14 : decode cX2_bringToRoot 14 = .ok (.iload_n 2, 1) := by decide +kernel
theorem dX2_bringToRoot_15 : decode cX2_bringToRoot 15 = .ok (.invokestatic 42, 3) := by decide +kernel
theorem dX2_bringToRoot_18 : decode cX2_bringToRoot 18 = .ok (.lstore_n 3, 1) := by decide +kernel
theorem dX2_bringToRoot_19 : decode cX2_bringToRoot 19 = .ok (.lload_n 3, 1) := by decide +kernel
theorem dX2_bringToRoot_20 : decode cX2_bringToRoot 20 = .ok (.aload_n 0, 1) := by decide +kernel
theorem dX2_bringToRoot_21 : decode cX2_bringToRoot 21 = .ok (.iload_n 2, 1) := by decide +kernel
theorem dX2_bringToRoot_22 : decode cX2_bringToRoot 22 = .ok (.laload, 1) := by decide +kernel
theorem dX2_bringToRoot_23 : decode cX2_bringToRoot 23 = .ok (.lcmp, 1) := by decide +kernel
theorem dX2_bringToRoot_24 : decode cX2_bringToRoot 24 = .ok (.ifCond .lt 4, 3) := by decide +kernel
theorem dX2_bringToRoot_27 : decode cX2_bringToRoot 27 = .ok (.return_, 1) := by decide +kernel
theorem dX2_bringToRoot_28 : decode cX2_bringToRoot 28 = .ok (.aload_n 0, 1) := by decide +kernel
theorem dX2_bringToRoot_29 : decode cX2_bringToRoot 29 = .ok (.iload_n 2, 1) := by decide +kernel
theorem dX2_bringToRoot_30 : decode cX2_bringToRoot 30 = .ok (.lload_n 3, 1) := by decide +kernel
theorem dX2_bringToRoot_31 : decode cX2_bringToRoot 31 = .ok (.lastore, 1) := by decide +kernel
theorem dX2_bringToRoot_32 : decode cX2_bringToRoot 32 = .ok (.iinc 1 1, 3) := by decide +kernel
theorem dX2_bringToRoot_35 : decode cX2_bringToRoot 35 = .ok (.goto (-33), 3) := by decide +kernel
theorem dX2_bringToRoot_38 : decode cX2_bringToRoot 38 = .ok (.return_, 1) := by decide +kernel
theorem dX2_greatestPlace_0 : decode cX2_greatestPlace 0 = .ok (.iconst 0, 1) := by decide +kernel
theorem dX2_greatestPlace_1 : decode cX2_greatestPlace 1 = .ok (.istore_n 1, 1) := by decide +kernel
theorem dX2_greatestPlace_2 : decode cX2_greatestPlace 2 = .ok (.iconst 1, 1) := by decide +kernel
theorem dX2_greatestPlace_3 : decode cX2_greatestPlace 3 = .ok (.istore_n 2, 1) := by decide +kernel
theorem dX2_greatestPlace_4 : decode cX2_greatestPlace 4 = .ok (.iload_n 2, 1) := by decide +kernel
theorem dX2_greatestPlace_5 : decode cX2_greatestPlace 5 = .ok (.iconst 4, 1) := by decide +kernel
theorem dX2_greatestPlace_6 : decode cX2_greatestPlace 6 = .ok (.if_icmp .ge 21, 3) := by decide +kernel
theorem dX2_greatestPlace_9 : decode cX2_greatestPlace 9 = .ok (.aload_n 0, 1) := by decide +kernel
theorem dX2_greatestPlace_10 : decode cX2_greatestPlace 10 = .ok (.iload_n 2, 1) := by decide +kernel
theorem dX2_greatestPlace_11 : decode cX2_greatestPlace 11 = .ok (.laload, 1) := by decide +kernel
theorem dX2_greatestPlace_12 : decode cX2_greatestPlace 12 = .ok (.aload_n 0, 1) := by decide +kernel
theorem dX2_greatestPlace_13 : decode cX2_greatestPlace 13 = .ok (.iload_n 1, 1) := by decide +kernel
theorem dX2_greatestPlace_14 : decode cX2_greatestPlace 14 = .ok (.laload, 1) := by decide +kernel
theorem dX2_greatestPlace_15 : decode cX2_greatestPlace 15 = .ok (.lcmp, 1) := by decide +kernel
theorem dX2_greatestPlace_16 : decode cX2_greatestPlace 16 = .ok (.ifCond .le 5, 3) := by decide +kernel
theorem dX2_greatestPlace_19 : decode cX2_greatestPlace 19 = .ok (.iload_n 2, 1) := by decide +kernel
theorem dX2_greatestPlace_20 : decode cX2_greatestPlace 20 = .ok (.istore_n 1, 1) := by decide +kernel
theorem dX2_greatestPlace_21 : decode cX2_greatestPlace 21 = .ok (.iinc 2 1, 3) := by decide +kernel
theorem dX2_greatestPlace_24 : decode cX2_greatestPlace 24 = .ok (.goto (-20), 3) := by decide +kernel
theorem dX2_greatestPlace_27 : decode cX2_greatestPlace 27 = .ok (.iload_n 1, 1) := by decide +kernel
theorem dX2_greatestPlace_28 : decode cX2_greatestPlace 28 = .ok (.ireturn, 1) := by decide +kernel
theorem dX2_putInOrder_0 : decode cX2_putInOrder 0 = .ok (.iconst 3, 1) := by decide +kernel
theorem dX2_putInOrder_1 : decode cX2_putInOrder 1 = .ok (.istore_n 1, 1) := by decide +kernel
theorem dX2_putInOrder_2 : decode cX2_putInOrder 2 = .ok (.iload_n 1, 1) := by decide +kernel
theorem dX2_putInOrder_3 : decode cX2_putInOrder 3 = .ok (.ifCond .le 52, 3) := by decide +kernel
theorem dX2_putInOrder_6 : decode cX2_putInOrder 6 = .ok (.iconst 0, 1) := by decide +kernel
theorem dX2_putInOrder_7 : decode cX2_putInOrder 7 = .ok (.istore_n 2, 1) := by decide +kernel
theorem dX2_putInOrder_8 : decode cX2_putInOrder 8 = .ok (.iload_n 2, 1) := by decide +kernel
theorem dX2_putInOrder_9 : decode cX2_putInOrder 9 = .ok (.iload_n 1, 1) := by decide +kernel
theorem dX2_putInOrder_10 : decode cX2_putInOrder 10 = .ok (.if_icmp .ge 39, 3) := by decide +kernel
theorem dX2_putInOrder_13 : decode cX2_putInOrder 13 = .ok (.aload_n 0, 1) := by decide +kernel
theorem dX2_putInOrder_14 : decode cX2_putInOrder 14 = .ok (.iload_n 2, 1) := by decide +kernel
theorem dX2_putInOrder_15 : decode cX2_putInOrder 15 = .ok (.laload, 1) := by decide +kernel
theorem dX2_putInOrder_16 : decode cX2_putInOrder 16 = .ok (.aload_n 0, 1) := by decide +kernel
theorem dX2_putInOrder_17 : decode cX2_putInOrder 17 = .ok (.iload_n 2, 1) := by decide +kernel
theorem dX2_putInOrder_18 : decode cX2_putInOrder 18 = .ok (.iconst 1, 1) := by decide +kernel
theorem dX2_putInOrder_19 : decode cX2_putInOrder 19 = .ok (.iadd, 1) := by decide +kernel
theorem dX2_putInOrder_20 : decode cX2_putInOrder 20 = .ok (.laload, 1) := by decide +kernel
theorem dX2_putInOrder_21 : decode cX2_putInOrder 21 = .ok (.lcmp, 1) := by decide +kernel
theorem dX2_putInOrder_22 : decode cX2_putInOrder 22 = .ok (.ifCond .le 21, 3) := by decide +kernel
theorem dX2_putInOrder_25 : decode cX2_putInOrder 25 = .ok (.aload_n 0, 1) := by decide +kernel
theorem dX2_putInOrder_26 : decode cX2_putInOrder 26 = .ok (.iload_n 2, 1) := by decide +kernel
theorem dX2_putInOrder_27 : decode cX2_putInOrder 27 = .ok (.laload, 1) := by decide +kernel
theorem dX2_putInOrder_28 : decode cX2_putInOrder 28 = .ok (.lstore_n 3, 1) := by decide +kernel
theorem dX2_putInOrder_29 : decode cX2_putInOrder 29 = .ok (.aload_n 0, 1) := by decide +kernel
theorem dX2_putInOrder_30 : decode cX2_putInOrder 30 = .ok (.iload_n 2, 1) := by decide +kernel
theorem dX2_putInOrder_31 : decode cX2_putInOrder 31 = .ok (.aload_n 0, 1) := by decide +kernel
theorem dX2_putInOrder_32 : decode cX2_putInOrder 32 = .ok (.iload_n 2, 1) := by decide +kernel
theorem dX2_putInOrder_33 : decode cX2_putInOrder 33 = .ok (.iconst 1, 1) := by decide +kernel
theorem dX2_putInOrder_34 : decode cX2_putInOrder 34 = .ok (.iadd, 1) := by decide +kernel
theorem dX2_putInOrder_35 : decode cX2_putInOrder 35 = .ok (.laload, 1) := by decide +kernel
theorem dX2_putInOrder_36 : decode cX2_putInOrder 36 = .ok (.lastore, 1) := by decide +kernel
theorem dX2_putInOrder_37 : decode cX2_putInOrder 37 = .ok (.aload_n 0, 1) := by decide +kernel
theorem dX2_putInOrder_38 : decode cX2_putInOrder 38 = .ok (.iload_n 2, 1) := by decide +kernel
theorem dX2_putInOrder_39 : decode cX2_putInOrder 39 = .ok (.iconst 1, 1) := by decide +kernel
theorem dX2_putInOrder_40 : decode cX2_putInOrder 40 = .ok (.iadd, 1) := by decide +kernel
theorem dX2_putInOrder_41 : decode cX2_putInOrder 41 = .ok (.lload_n 3, 1) := by decide +kernel
theorem dX2_putInOrder_42 : decode cX2_putInOrder 42 = .ok (.lastore, 1) := by decide +kernel
theorem dX2_putInOrder_43 : decode cX2_putInOrder 43 = .ok (.iinc 2 1, 3) := by decide +kernel
theorem dX2_putInOrder_46 : decode cX2_putInOrder 46 = .ok (.goto (-38), 3) := by decide +kernel
theorem dX2_putInOrder_49 : decode cX2_putInOrder 49 = .ok (.iinc 1 (-1), 3) := by decide +kernel
theorem dX2_putInOrder_52 : decode cX2_putInOrder 52 = .ok (.goto (-50), 3) := by decide +kernel
theorem dX2_putInOrder_55 : decode cX2_putInOrder 55 = .ok (.return_, 1) := by decide +kernel
set_option maxRecDepth 20000 in
theorem ggX2_circlesByTurns_X2_circlesOfRoot : GoodIn wsX2_circlesByTurns wsX2_circlesOfRoot := goodIn_r _ [11, 1, 19, 20, 21] (by decide +kernel) (by decide +kernel)
set_option maxRecDepth 20000 in
theorem gX2_circlesByTurns_X2_circlesOfRoot : GoodIn wsX2_circlesByTurns (wsV RX2 52 RX2 yX2_circlesOfRoot wsX2_circlesOfRoot) := goodIn_app (goodIn_of _ (by decide +kernel)) ggX2_circlesByTurns_X2_circlesOfRoot
set_option maxRecDepth 20000 in
theorem ggX2_circlesByTurns_X2_circlesOfRows : GoodIn wsX2_circlesByTurns wsX2_circlesOfRows := goodIn_r _ [14, 15, 16, 10, 17, 18, 12, 13] (by decide +kernel) (by decide +kernel)
set_option maxRecDepth 20000 in
theorem gX2_circlesByTurns_X2_circlesOfRows : GoodIn wsX2_circlesByTurns (va_wsS RX2 56 yX2_circlesOfRows wsX2_circlesOfRows) := goodIn_app (goodIn_of _ (by decide +kernel)) ggX2_circlesByTurns_X2_circlesOfRows
theorem dX2_circlesByTurns_0 : decode cX2_circlesByTurns 0 = .ok (.aload_n 0, 1) := by decide +kernel
theorem dX2_circlesByTurns_1 : decode cX2_circlesByTurns 1 = .ok (.getfield 22, 3) := by decide +kernel
theorem dX2_circlesByTurns_4 : decode cX2_circlesByTurns 4 = .ok (.iconst 0, 1) := by decide +kernel
theorem dX2_circlesByTurns_5 : decode cX2_circlesByTurns 5 = .ok (.aload_n 0, 1) := by decide +kernel
theorem dX2_circlesByTurns_6 : decode cX2_circlesByTurns 6 = .ok (.getfield 25, 3) := by decide +kernel
theorem dX2_circlesByTurns_9 : decode cX2_circlesByTurns 9 = .ok (.iconst 0, 1) := by decide +kernel
theorem dX2_circlesByTurns_10 : decode cX2_circlesByTurns 10 = .ok (.iconst 4, 1) := by decide +kernel
theorem dX2_circlesByTurns_11 : decode cX2_circlesByTurns 11 = .ok (.invokestatic 46, 3) := by decide +kernel
theorem dX2_circlesByTurns_14 : decode cX2_circlesByTurns 14 = .ok (.aload_n 0, 1) := by decide +kernel
theorem dX2_circlesByTurns_15 : decode cX2_circlesByTurns 15 = .ok (.iload_n 1, 1) := by decide +kernel
theorem dX2_circlesByTurns_16 : decode cX2_circlesByTurns 16 = .ok (.invokevirtual 52, 3) := by decide +kernel
theorem dX2_circlesByTurns_19 : decode cX2_circlesByTurns 19 = .ok (.aload_n 0, 1) := by decide +kernel
theorem dX2_circlesByTurns_20 : decode cX2_circlesByTurns 20 = .ok (.getfield 25, 3) := by decide +kernel
theorem dX2_circlesByTurns_23 : decode cX2_circlesByTurns 23 = .ok (.iconst (-1), 1) := by decide +kernel
theorem dX2_circlesByTurns_24 : decode cX2_circlesByTurns 24 = .ok (.iload_n 1, 1) := by decide +kernel
theorem dX2_circlesByTurns_25 : decode cX2_circlesByTurns 25 = .ok (.iconst 0, 1) := by decide +kernel
theorem dX2_circlesByTurns_26 : decode cX2_circlesByTurns 26 = .ok (.invokestatic 56, 3) := by decide +kernel
theorem dX2_circlesByTurns_29 : decode cX2_circlesByTurns 29 = .ok (.iadd, 1) := by decide +kernel
theorem dX2_circlesByTurns_30 : decode cX2_circlesByTurns 30 = .ok (.ireturn, 1) := by decide +kernel
theorem dX2_circlesOfRoot_0 : decode cX2_circlesOfRoot 0 = .ok (.iconst 0, 1) := by decide +kernel
theorem dX2_circlesOfRoot_1 : decode cX2_circlesOfRoot 1 = .ok (.istore_n 2, 1) := by decide +kernel
theorem dX2_circlesOfRoot_2 : decode cX2_circlesOfRoot 2 = .ok (.iconst 0, 1) := by decide +kernel
theorem dX2_circlesOfRoot_3 : decode cX2_circlesOfRoot 3 = .ok (.istore_n 3, 1) := by decide +kernel
theorem dX2_circlesOfRoot_4 : decode cX2_circlesOfRoot 4 = .ok (.iload_n 3, 1) := by decide +kernel
theorem dX2_circlesOfRoot_5 : decode cX2_circlesOfRoot 5 = .ok (.iconst 4, 1) := by decide +kernel
theorem dX2_circlesOfRoot_6 : decode cX2_circlesOfRoot 6 = .ok (.if_icmp .ge 24, 3) := by decide +kernel
theorem dX2_circlesOfRoot_9 : decode cX2_circlesOfRoot 9 = .ok (.aload_n 0, 1) := by decide +kernel
theorem dX2_circlesOfRoot_10 : decode cX2_circlesOfRoot 10 = .ok (.getfield 22, 3) := by decide +kernel
theorem dX2_circlesOfRoot_13 : decode cX2_circlesOfRoot 13 = .ok (.iload_n 3, 1) := by decide +kernel
theorem dX2_circlesOfRoot_14 : decode cX2_circlesOfRoot 14 = .ok (.laload, 1) := by decide +kernel
theorem dX2_circlesOfRoot_15 : decode cX2_circlesOfRoot 15 = .ok (.iload_n 1, 1) := by decide +kernel
theorem dX2_circlesOfRoot_16 : decode cX2_circlesOfRoot 16 = .ok (.i2l, 1) := by decide +kernel
theorem dX2_circlesOfRoot_17 : decode cX2_circlesOfRoot 17 = .ok (.lcmp, 1) := by decide +kernel
theorem dX2_circlesOfRoot_18 : decode cX2_circlesOfRoot 18 = .ok (.ifCond .gt 6, 3) := by decide +kernel
theorem dX2_circlesOfRoot_21 : decode cX2_circlesOfRoot 21 = .ok (.iinc 2 1, 3) := by decide +kernel
theorem dX2_circlesOfRoot_24 : decode cX2_circlesOfRoot 24 = .ok (.iinc 3 1, 3) := by decide +kernel
theorem dX2_circlesOfRoot_27 : decode cX2_circlesOfRoot 27 = .ok (.goto (-23), 3) := by decide +kernel
theorem dX2_circlesOfRoot_30 : decode cX2_circlesOfRoot 30 = .ok (.iload_n 2, 1) := by decide +kernel
theorem dX2_circlesOfRoot_31 : decode cX2_circlesOfRoot 31 = .ok (.ireturn, 1) := by decide +kernel
set_option maxRecDepth 20000 in
theorem ggX2_circlesOfRows_X2_turnedAt : GoodIn wsX2_circlesOfRows wsX2_turnedAt := goodIn_r _ [4, 5] (by decide +kernel) (by decide +kernel)
set_option maxRecDepth 20000 in
theorem gX2_circlesOfRows_X2_turnedAt : GoodIn wsX2_circlesOfRows (va_wsS RX2 42 yX2_turnedAt wsX2_turnedAt) := goodIn_app (goodIn_of _ (by decide +kernel)) ggX2_circlesOfRows_X2_turnedAt
set_option maxRecDepth 20000 in
theorem ggX2_circlesOfRows_X2_circlesOfRows : GoodIn wsX2_circlesOfRows wsX2_circlesOfRows := goodIn_r _ [0, 1, 2, 3, 4, 5, 6, 7] (by decide +kernel) (by decide +kernel)
set_option maxRecDepth 20000 in
theorem gX2_circlesOfRows_X2_circlesOfRows : GoodIn wsX2_circlesOfRows (va_wsS RX2 56 yX2_circlesOfRows wsX2_circlesOfRows) := goodIn_app (goodIn_of _ (by decide +kernel)) ggX2_circlesOfRows_X2_circlesOfRows
theorem dX2_circlesOfRows_0 : decode cX2_circlesOfRows 0 = .ok (.iload_n 3, 1) := by decide +kernel
theorem dX2_circlesOfRows_1 : decode cX2_circlesOfRows 1 = .ok (.bipush 100, 2) := by decide +kernel
theorem dX2_circlesOfRows_3 : decode cX2_circlesOfRows 3 = .ok (.if_icmp .lt 5, 3) := by decide +kernel
theorem dX2_circlesOfRows_6 : decode cX2_circlesOfRows 6 = .ok (.iconst 0, 1) := by decide +kernel
theorem dX2_circlesOfRows_7 : decode cX2_circlesOfRows 7 = .ok (.ireturn, 1) := by decide +kernel
theorem dX2_circlesOfRows_8 : decode cX2_circlesOfRows 8 = .ok (.iconst 0, 1) := by decide +kernel
theorem dX2_circlesOfRows_9 : decode cX2_circlesOfRows 9 = .ok (.istore 4, 2) := by decide +kernel
theorem dX2_circlesOfRows_11 : decode cX2_circlesOfRows 11 = .ok (.iconst 0, 1) := by decide +kernel
theorem dX2_circlesOfRows_12 : decode cX2_circlesOfRows 12 = .ok (.istore 5, 2) := by decide +kernel
theorem dX2_circlesOfRows_14 : decode cX2_circlesOfRows 14 = .ok (.iload 5, 2) := by decide +kernel
theorem dX2_circlesOfRows_16 : decode cX2_circlesOfRows 16 = .ok (.iconst 4, 1) := by decide +kernel
theorem dX2_circlesOfRows_17 : decode cX2_circlesOfRows 17 = .ok (.if_icmp .ge 66, 3) := by decide +kernel
theorem dX2_circlesOfRows_20 : decode cX2_circlesOfRows 20 = .ok (.aload_n 0, 1) := by decide +kernel
theorem dX2_circlesOfRows_21 : decode cX2_circlesOfRows 21 = .ok (.iload 5, 2) := by decide +kernel
theorem dX2_circlesOfRows_23 : decode cX2_circlesOfRows 23 = .ok (.laload, 1) := by decide +kernel
theorem dX2_circlesOfRows_24 : decode cX2_circlesOfRows 24 = .ok (.lstore 6, 2) := by decide +kernel
theorem dX2_circlesOfRows_26 : decode cX2_circlesOfRows 26 = .ok (.aload_n 0, 1) := by decide +kernel
theorem dX2_circlesOfRows_27 : decode cX2_circlesOfRows 27 = .ok (.iload 5, 2) := by decide +kernel
theorem dX2_circlesOfRows_29 : decode cX2_circlesOfRows 29 = .ok (.invokestatic 42, 3) := by decide +kernel
theorem dX2_circlesOfRows_32 : decode cX2_circlesOfRows 32 = .ok (.lstore 8, 2) := by decide +kernel
theorem dX2_circlesOfRows_34 : decode cX2_circlesOfRows 34 = .ok (.iload 5, 2) := by decide +kernel
theorem dX2_circlesOfRows_36 : decode cX2_circlesOfRows 36 = .ok (.iload_n 1, 1) := by decide +kernel
theorem dX2_circlesOfRows_37 : decode cX2_circlesOfRows 37 = .ok (.if_icmp .eq 40, 3) := by decide +kernel
theorem dX2_circlesOfRows_40 : decode cX2_circlesOfRows 40 = .ok (.lload 8, 2) := by decide +kernel
theorem dX2_circlesOfRows_42 : decode cX2_circlesOfRows 42 = .ok (.iload_n 2, 1) := by decide +kernel
theorem dX2_circlesOfRows_43 : decode cX2_circlesOfRows 43 = .ok (.i2l, 1) := by decide +kernel
theorem dX2_circlesOfRows_44 : decode cX2_circlesOfRows 44 = .ok (.lcmp, 1) := by decide +kernel
theorem dX2_circlesOfRows_45 : decode cX2_circlesOfRows 45 = .ok (.ifCond .gt 32, 3) := by decide +kernel
theorem dX2_circlesOfRows_48 : decode cX2_circlesOfRows 48 = .ok (.aload_n 0, 1) := by decide +kernel
theorem dX2_circlesOfRows_49 : decode cX2_circlesOfRows 49 = .ok (.iload 5, 2) := by decide +kernel
theorem dX2_circlesOfRows_51 : decode cX2_circlesOfRows 51 = .ok (.lload 8, 2) := by decide +kernel
theorem dX2_circlesOfRows_53 : decode cX2_circlesOfRows 53 = .ok (.lastore, 1) := by decide +kernel
theorem dX2_circlesOfRows_54 : decode cX2_circlesOfRows 54 = .ok (.iload 4, 2) := by decide +kernel
theorem dX2_circlesOfRows_56 : decode cX2_circlesOfRows 56 = .ok (.iconst 1, 1) := by decide +kernel
theorem dX2_circlesOfRows_57 : decode cX2_circlesOfRows 57 = .ok (.aload_n 0, 1) := by decide +kernel
theorem dX2_circlesOfRows_58 : decode cX2_circlesOfRows 58 = .ok (.iload 5, 2) := by decide +kernel
theorem dX2_circlesOfRows_60 : decode cX2_circlesOfRows 60 = .ok (.iload_n 2, 1) := by decide +kernel
theorem dX2_circlesOfRows_61 : decode cX2_circlesOfRows 61 = .ok (.iload_n 3, 1) := by decide +kernel
theorem dX2_circlesOfRows_62 : decode cX2_circlesOfRows 62 = .ok (.iconst 1, 1) := by decide +kernel
theorem dX2_circlesOfRows_63 : decode cX2_circlesOfRows 63 = .ok (.iadd, 1) := by decide +kernel
theorem dX2_circlesOfRows_64 : decode cX2_circlesOfRows 64 = .ok (.invokestatic 56, 3) := by decide +kernel
theorem dX2_circlesOfRows_67 : decode cX2_circlesOfRows 67 = .ok (.iadd, 1) := by decide +kernel
theorem dX2_circlesOfRows_68 : decode cX2_circlesOfRows 68 = .ok (.iadd, 1) := by decide +kernel
theorem dX2_circlesOfRows_69 : decode cX2_circlesOfRows 69 = .ok (.istore 4, 2) := by decide +kernel
theorem dX2_circlesOfRows_71 : decode cX2_circlesOfRows 71 = .ok (.aload_n 0, 1) := by decide +kernel
theorem dX2_circlesOfRows_72 : decode cX2_circlesOfRows 72 = .ok (.iload 5, 2) := by decide +kernel
theorem dX2_circlesOfRows_74 : decode cX2_circlesOfRows 74 = .ok (.lload 6, 2) := by decide +kernel
theorem dX2_circlesOfRows_76 : decode cX2_circlesOfRows 76 = .ok (.lastore, 1) := by decide +kernel
theorem dX2_circlesOfRows_77 : decode cX2_circlesOfRows 77 = .ok (.iinc 5 1, 3) := by decide +kernel
theorem dX2_circlesOfRows_80 : decode cX2_circlesOfRows 80 = .ok (.goto (-66), 3) := by decide +kernel
theorem dX2_circlesOfRows_83 : decode cX2_circlesOfRows 83 = .ok (.iload 4, 2) := by decide +kernel
theorem dX2_circlesOfRows_85 : decode cX2_circlesOfRows 85 = .ok (.ireturn, 1) := by decide +kernel
set_option maxRecDepth 20000 in
theorem ggX2_circlesByThrees_X2_circlesOfRoot : GoodIn wsX2_circlesByThrees wsX2_circlesOfRoot := goodIn_r _ [6, 1, 23, 24, 25] (by decide +kernel) (by decide +kernel)
set_option maxRecDepth 20000 in
theorem gX2_circlesByThrees_X2_circlesOfRoot : GoodIn wsX2_circlesByThrees (wsV RX2 52 RX2 yX2_circlesOfRoot wsX2_circlesOfRoot) := goodIn_app (goodIn_of _ (by decide +kernel)) ggX2_circlesByThrees_X2_circlesOfRoot
set_option maxRecDepth 20000 in
theorem ggX2_circlesByThrees_X2_circlesAmong : GoodIn wsX2_circlesByThrees wsX2_circlesAmong := goodIn_r _ [9, 10, 11, 12, 5, 13, 14, 15, 16, 17, 18, 19, 20, 21, 22, 7, 8] (by decide +kernel) (by decide +kernel)
set_option maxRecDepth 20000 in
theorem gX2_circlesByThrees_X2_circlesAmong : GoodIn wsX2_circlesByThrees (va_wsS RX2 60 yX2_circlesAmong wsX2_circlesAmong) := goodIn_app (goodIn_of _ (by decide +kernel)) ggX2_circlesByThrees_X2_circlesAmong
theorem dX2_circlesByThrees_0 : decode cX2_circlesByThrees 0 = .ok (.aload_n 0, 1) := by decide +kernel
theorem dX2_circlesByThrees_1 : decode cX2_circlesByThrees 1 = .ok (.iload_n 1, 1) := by decide +kernel
theorem dX2_circlesByThrees_2 : decode cX2_circlesByThrees 2 = .ok (.invokevirtual 52, 3) := by decide +kernel
theorem dX2_circlesByThrees_5 : decode cX2_circlesByThrees 5 = .ok (.aload_n 0, 1) := by decide +kernel
theorem dX2_circlesByThrees_6 : decode cX2_circlesByThrees 6 = .ok (.getfield 22, 3) := by decide +kernel
theorem dX2_circlesByThrees_9 : decode cX2_circlesByThrees 9 = .ok (.iconst 0, 1) := by decide +kernel
theorem dX2_circlesByThrees_10 : decode cX2_circlesByThrees 10 = .ok (.laload, 1) := by decide +kernel
theorem dX2_circlesByThrees_11 : decode cX2_circlesByThrees 11 = .ok (.aload_n 0, 1) := by decide +kernel
theorem dX2_circlesByThrees_12 : decode cX2_circlesByThrees 12 = .ok (.getfield 22, 3) := by decide +kernel
theorem dX2_circlesByThrees_15 : decode cX2_circlesByThrees 15 = .ok (.iconst 1, 1) := by decide +kernel
theorem dX2_circlesByThrees_16 : decode cX2_circlesByThrees 16 = .ok (.laload, 1) := by decide +kernel
theorem dX2_circlesByThrees_17 : decode cX2_circlesByThrees 17 = .ok (.aload_n 0, 1) := by decide +kernel
theorem dX2_circlesByThrees_18 : decode cX2_circlesByThrees 18 = .ok (.getfield 22, 3) := by decide +kernel
theorem dX2_circlesByThrees_21 : decode cX2_circlesByThrees 21 = .ok (.iconst 2, 1) := by decide +kernel
theorem dX2_circlesByThrees_22 : decode cX2_circlesByThrees 22 = .ok (.laload, 1) := by decide +kernel
theorem dX2_circlesByThrees_23 : decode cX2_circlesByThrees 23 = .ok (.iload_n 1, 1) := by decide +kernel
theorem dX2_circlesByThrees_24 : decode cX2_circlesByThrees 24 = .ok (.iconst 0, 1) := by decide +kernel
theorem dX2_circlesByThrees_25 : decode cX2_circlesByThrees 25 = .ok (.invokestatic 60, 3) := by decide +kernel
theorem dX2_circlesByThrees_28 : decode cX2_circlesByThrees 28 = .ok (.iadd, 1) := by decide +kernel
theorem dX2_circlesByThrees_29 : decode cX2_circlesByThrees 29 = .ok (.aload_n 0, 1) := by decide +kernel
theorem dX2_circlesByThrees_30 : decode cX2_circlesByThrees 30 = .ok (.getfield 22, 3) := by decide +kernel
theorem dX2_circlesByThrees_33 : decode cX2_circlesByThrees 33 = .ok (.iconst 0, 1) := by decide +kernel
theorem dX2_circlesByThrees_34 : decode cX2_circlesByThrees 34 = .ok (.laload, 1) := by decide +kernel
theorem dX2_circlesByThrees_35 : decode cX2_circlesByThrees 35 = .ok (.aload_n 0, 1) := by decide +kernel
theorem dX2_circlesByThrees_36 : decode cX2_circlesByThrees 36 = .ok (.getfield 22, 3) := by decide +kernel
theorem dX2_circlesByThrees_39 : decode cX2_circlesByThrees 39 = .ok (.iconst 1, 1) := by decide +kernel
theorem dX2_circlesByThrees_40 : decode cX2_circlesByThrees 40 = .ok (.laload, 1) := by decide +kernel
theorem dX2_circlesByThrees_41 : decode cX2_circlesByThrees 41 = .ok (.aload_n 0, 1) := by decide +kernel
theorem dX2_circlesByThrees_42 : decode cX2_circlesByThrees 42 = .ok (.getfield 22, 3) := by decide +kernel
theorem dX2_circlesByThrees_45 : decode cX2_circlesByThrees 45 = .ok (.iconst 3, 1) := by decide +kernel
theorem dX2_circlesByThrees_46 : decode cX2_circlesByThrees 46 = .ok (.laload, 1) := by decide +kernel
theorem dX2_circlesByThrees_47 : decode cX2_circlesByThrees 47 = .ok (.iload_n 1, 1) := by decide +kernel
theorem dX2_circlesByThrees_48 : decode cX2_circlesByThrees 48 = .ok (.iconst 0, 1) := by decide +kernel
theorem dX2_circlesByThrees_49 : decode cX2_circlesByThrees 49 = .ok (.invokestatic 60, 3) := by decide +kernel
theorem dX2_circlesByThrees_52 : decode cX2_circlesByThrees 52 = .ok (.iadd, 1) := by decide +kernel
theorem dX2_circlesByThrees_53 : decode cX2_circlesByThrees 53 = .ok (.aload_n 0, 1) := by decide +kernel
theorem dX2_circlesByThrees_54 : decode cX2_circlesByThrees 54 = .ok (.getfield 22, 3) := by decide +kernel
theorem dX2_circlesByThrees_57 : decode cX2_circlesByThrees 57 = .ok (.iconst 0, 1) := by decide +kernel
theorem dX2_circlesByThrees_58 : decode cX2_circlesByThrees 58 = .ok (.laload, 1) := by decide +kernel
theorem dX2_circlesByThrees_59 : decode cX2_circlesByThrees 59 = .ok (.aload_n 0, 1) := by decide +kernel
theorem dX2_circlesByThrees_60 : decode cX2_circlesByThrees 60 = .ok (.getfield 22, 3) := by decide +kernel
theorem dX2_circlesByThrees_63 : decode cX2_circlesByThrees 63 = .ok (.iconst 2, 1) := by decide +kernel
theorem dX2_circlesByThrees_64 : decode cX2_circlesByThrees 64 = .ok (.laload, 1) := by decide +kernel
theorem dX2_circlesByThrees_65 : decode cX2_circlesByThrees 65 = .ok (.aload_n 0, 1) := by decide +kernel
theorem dX2_circlesByThrees_66 : decode cX2_circlesByThrees 66 = .ok (.getfield 22, 3) := by decide +kernel
theorem dX2_circlesByThrees_69 : decode cX2_circlesByThrees 69 = .ok (.iconst 3, 1) := by decide +kernel
theorem dX2_circlesByThrees_70 : decode cX2_circlesByThrees 70 = .ok (.laload, 1) := by decide +kernel
theorem dX2_circlesByThrees_71 : decode cX2_circlesByThrees 71 = .ok (.iload_n 1, 1) := by decide +kernel
theorem dX2_circlesByThrees_72 : decode cX2_circlesByThrees 72 = .ok (.iconst 0, 1) := by decide +kernel
theorem dX2_circlesByThrees_73 : decode cX2_circlesByThrees 73 = .ok (.invokestatic 60, 3) := by decide +kernel
theorem dX2_circlesByThrees_76 : decode cX2_circlesByThrees 76 = .ok (.iadd, 1) := by decide +kernel
theorem dX2_circlesByThrees_77 : decode cX2_circlesByThrees 77 = .ok (.aload_n 0, 1) := by decide +kernel
theorem dX2_circlesByThrees_78 : decode cX2_circlesByThrees 78 = .ok (.getfield 22, 3) := by decide +kernel
theorem dX2_circlesByThrees_81 : decode cX2_circlesByThrees 81 = .ok (.iconst 1, 1) := by decide +kernel
theorem dX2_circlesByThrees_82 : decode cX2_circlesByThrees 82 = .ok (.laload, 1) := by decide +kernel
theorem dX2_circlesByThrees_83 : decode cX2_circlesByThrees 83 = .ok (.aload_n 0, 1) := by decide +kernel
theorem dX2_circlesByThrees_84 : decode cX2_circlesByThrees 84 = .ok (.getfield 22, 3) := by decide +kernel
theorem dX2_circlesByThrees_87 : decode cX2_circlesByThrees 87 = .ok (.iconst 2, 1) := by decide +kernel
theorem dX2_circlesByThrees_88 : decode cX2_circlesByThrees 88 = .ok (.laload, 1) := by decide +kernel
theorem dX2_circlesByThrees_89 : decode cX2_circlesByThrees 89 = .ok (.aload_n 0, 1) := by decide +kernel
theorem dX2_circlesByThrees_90 : decode cX2_circlesByThrees 90 = .ok (.getfield 22, 3) := by decide +kernel
theorem dX2_circlesByThrees_93 : decode cX2_circlesByThrees 93 = .ok (.iconst 3, 1) := by decide +kernel
theorem dX2_circlesByThrees_94 : decode cX2_circlesByThrees 94 = .ok (.laload, 1) := by decide +kernel
theorem dX2_circlesByThrees_95 : decode cX2_circlesByThrees 95 = .ok (.iload_n 1, 1) := by decide +kernel
theorem dX2_circlesByThrees_96 : decode cX2_circlesByThrees 96 = .ok (.iconst 0, 1) := by decide +kernel
theorem dX2_circlesByThrees_97 : decode cX2_circlesByThrees 97 = .ok (.invokestatic 60, 3) := by decide +kernel
theorem dX2_circlesByThrees_100 : decode cX2_circlesByThrees 100 = .ok (.iadd, 1) := by decide +kernel
theorem dX2_circlesByThrees_101 : decode cX2_circlesByThrees 101 = .ok (.ireturn, 1) := by decide +kernel
set_option maxRecDepth 20000 in
theorem ggX2_circlesAmong_X2_wholeRoot : GoodIn wsX2_circlesAmong wsX2_wholeRoot := goodIn_r _ [5, 6, 7, 8, 9, 10, 11, 12, 13, 14] (by decide +kernel) (by decide +kernel)
set_option maxRecDepth 20000 in
theorem gX2_circlesAmong_X2_wholeRoot : GoodIn wsX2_circlesAmong (va_wsS RX2 64 yX2_wholeRoot wsX2_wholeRoot) := goodIn_app (goodIn_of _ (by decide +kernel)) ggX2_circlesAmong_X2_wholeRoot
set_option maxRecDepth 20000 in
theorem ggX2_circlesAmong_X2_circlesAmong : GoodIn wsX2_circlesAmong wsX2_circlesAmong := goodIn_r _ [0, 1, 2, 3, 4, 5, 6, 7, 8, 9, 10, 11, 12, 13, 14, 15, 16] (by decide +kernel) (by decide +kernel)
set_option maxRecDepth 20000 in
theorem gX2_circlesAmong_X2_circlesAmong : GoodIn wsX2_circlesAmong (va_wsS RX2 60 yX2_circlesAmong wsX2_circlesAmong) := goodIn_app (goodIn_of _ (by decide +kernel)) ggX2_circlesAmong_X2_circlesAmong
theorem dX2_circlesAmong_0 : decode cX2_circlesAmong 0 = .ok (.lload_n 0, 1) := by decide +kernel
theorem dX2_circlesAmong_1 : decode cX2_circlesAmong 1 = .ok (.lload_n 2, 1) := by decide +kernel
theorem dX2_circlesAmong_2 : decode cX2_circlesAmong 2 = .ok (.ladd, 1) := by decide +kernel
theorem dX2_circlesAmong_3 : decode cX2_circlesAmong 3 = .ok (.lload 4, 2) := by decide +kernel
theorem dX2_circlesAmong_5 : decode cX2_circlesAmong 5 = .ok (.ladd, 1) := by decide +kernel
theorem dX2_circlesAmong_6 : decode cX2_circlesAmong 6 = .ok (.ldc2_w 35, 3) := by decide +kernel
theorem dX2_circlesAmong_9 : decode cX2_circlesAmong 9 = .ok (.lload_n 0, 1) := by decide +kernel
theorem dX2_circlesAmong_10 : decode cX2_circlesAmong 10 = .ok (.lload_n 2, 1) := by decide +kernel
theorem dX2_circlesAmong_11 : decode cX2_circlesAmong 11 = .ok (.lmul, 1) := by decide +kernel
theorem dX2_circlesAmong_12 : decode cX2_circlesAmong 12 = .ok (.lload_n 2, 1) := by decide +kernel
theorem dX2_circlesAmong_13 : decode cX2_circlesAmong 13 = .ok (.lload 4, 2) := by decide +kernel
theorem dX2_circlesAmong_15 : decode cX2_circlesAmong 15 = .ok (.lmul, 1) := by decide +kernel
theorem dX2_circlesAmong_16 : decode cX2_circlesAmong 16 = .ok (.ladd, 1) := by decide +kernel
theorem dX2_circlesAmong_17 : decode cX2_circlesAmong 17 = .ok (.lload 4, 2) := by decide +kernel
theorem dX2_circlesAmong_19 : decode cX2_circlesAmong 19 = .ok (.lload_n 0, 1) := by decide +kernel
theorem dX2_circlesAmong_20 : decode cX2_circlesAmong 20 = .ok (.lmul, 1) := by decide +kernel
theorem dX2_circlesAmong_21 : decode cX2_circlesAmong 21 = .ok (.ladd, 1) := by decide +kernel
theorem dX2_circlesAmong_22 : decode cX2_circlesAmong 22 = .ok (.invokestatic 64, 3) := by decide +kernel
theorem dX2_circlesAmong_25 : decode cX2_circlesAmong 25 = .ok (.lmul, 1) := by decide +kernel
theorem dX2_circlesAmong_26 : decode cX2_circlesAmong 26 = .ok (.ladd, 1) := by decide +kernel
theorem dX2_circlesAmong_27 : decode cX2_circlesAmong 27 = .ok (.lstore 8, 2) := by decide +kernel
theorem dX2_circlesAmong_29 : decode cX2_circlesAmong 29 = .ok (.lload 8, 2) := by decide +kernel
theorem dX2_circlesAmong_31 : decode cX2_circlesAmong 31 = .ok (.iload 6, 2) := by decide +kernel
theorem dX2_circlesAmong_33 : decode cX2_circlesAmong 33 = .ok (.i2l, 1) := by decide +kernel
theorem dX2_circlesAmong_34 : decode cX2_circlesAmong 34 = .ok (.lcmp, 1) := by decide +kernel
theorem dX2_circlesAmong_35 : decode cX2_circlesAmong 35 = .ok (.ifCond .gt 10, 3) := by decide +kernel
theorem dX2_circlesAmong_38 : decode cX2_circlesAmong 38 = .ok (.iload 7, 2) := by decide +kernel
theorem dX2_circlesAmong_40 : decode cX2_circlesAmong 40 = .ok (.bipush 100, 2) := by decide +kernel
