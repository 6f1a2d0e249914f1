def RX0 : String := "Koebehall$Disk"
def TX0 : u_T := fun k => match k with
  | 0 => ("Koebehall$Disk", "x", "J", true)
  | 1 => ("Koebehall$Disk", "y", "J", true)
  | _ => ("Koebehall$Disk", "radius", "J", true)
def tyX0 : Nat → FieldType := fun k => match k with
  | 0 => .long
  | 1 => .long
  | _ => .long
abbrev wsX00 : List Cond := u_ws RX0 TX0 3
theorem nmX0 : ∀ a, a < 3 → ∀ b, b < 3 → a ≠ b → (TX0 a).2.1 ≠ (TX0 b).2.1 := by decide +kernel
theorem tyX0_ok : ∀ k, k < 3 → parseFieldDescriptor (TX0 k).2.2.1 = some (tyX0 k) := by decide +kernel
abbrev cX0_init : ByteArray := prog_2_method_1_code
def yX0_init : MethodName := ⟨RX0, "<init>", "(JJJ)V"⟩
abbrev cX0_howItLies : ByteArray := prog_2_method_2_code
def yX0_howItLies : MethodName := ⟨RX0, "howItLies", "(LKoebehall$Disk;)I"⟩
def RX1 : String := "Koebehall$Fractions"
def TX1 : u_T := fun k => match k with
  | _ => ("", "", "", false)
def tyX1 : Nat → FieldType := fun k => match k with
  | _ => .int
abbrev wsX10 : List Cond := u_ws RX1 TX1 0
theorem nmX1 : ∀ a, a < 0 → ∀ b, b < 0 → a ≠ b → (TX1 a).2.1 ≠ (TX1 b).2.1 := by decide +kernel
theorem tyX1_ok : ∀ k, k < 0 → parseFieldDescriptor (TX1 k).2.2.1 = some (tyX1 k) := by decide +kernel
abbrev cX1_isLowest : ByteArray := prog_3_method_2_code
def yX1_isLowest : MethodName := ⟨RX1, "isLowest", "(JJ)Z"⟩
abbrev cX1_crossed : ByteArray := prog_3_method_3_code
def yX1_crossed : MethodName := ⟨RX1, "crossed", "(JJJJ)J"⟩
abbrev cX1_simplest : ByteArray := prog_3_method_4_code
def yX1_simplest : MethodName := ⟨RX1, "simplest", "(JJJJZ)J"⟩
def RX2 : String := "Koebehall$Gasket"
def TX2 : u_T := fun k => match k with
  | 0 => ("Koebehall$Gasket", "four", "[J", true)
  | 1 => ("Koebehall$Gasket", "least", "[J", true)
  | _ => ("Koebehall$Gasket", "walked", "[J", true)
def tyX2 : Nat → FieldType := fun k => match k with
  | 0 => .array .long
  | 1 => .array .long
  | _ => .array .long
abbrev wsX20 : List Cond := u_ws RX2 TX2 3
theorem nmX2 : ∀ a, a < 3 → ∀ b, b < 3 → a ≠ b → (TX2 a).2.1 ≠ (TX2 b).2.1 := by decide +kernel
theorem tyX2_ok : ∀ k, k < 3 → parseFieldDescriptor (TX2 k).2.2.1 = some (tyX2 k) := by decide +kernel
abbrev cX2_init : ByteArray := prog_4_method_1_code
def yX2_init : MethodName := ⟨RX2, "<init>", "(JJJJ)V"⟩
abbrev cX2_rowOf : ByteArray := prog_4_method_2_code
def yX2_rowOf : MethodName := ⟨RX2, "rowOf", "(JJJJ)[J"⟩
abbrev cX2_rootOf : ByteArray := prog_4_method_3_code
def yX2_rootOf : MethodName := ⟨RX2, "rootOf", "(JJJJ)[J"⟩
abbrev cX2_areOfGasket : ByteArray := prog_4_method_4_code
def yX2_areOfGasket : MethodName := ⟨RX2, "areOfGasket", "(JJJJ)Z"⟩
abbrev cX2_turnedAt : ByteArray := prog_4_method_5_code
def yX2_turnedAt : MethodName := ⟨RX2, "turnedAt", "([JI)J"⟩
abbrev cX2_bringToRoot : ByteArray := prog_4_method_6_code
def yX2_bringToRoot : MethodName := ⟨RX2, "bringToRoot", "([J)V"⟩
abbrev cX2_greatestPlace : ByteArray := prog_4_method_7_code
def yX2_greatestPlace : MethodName := ⟨RX2, "greatestPlace", "([J)I"⟩
abbrev cX2_putInOrder : ByteArray := prog_4_method_8_code
def yX2_putInOrder : MethodName := ⟨RX2, "putInOrder", "([J)V"⟩
abbrev cX2_circlesByTurns : ByteArray := prog_4_method_9_code
def yX2_circlesByTurns : MethodName := ⟨RX2, "circlesByTurns", "(I)I"⟩
abbrev cX2_circlesOfRoot : ByteArray := prog_4_method_10_code
def yX2_circlesOfRoot : MethodName := ⟨RX2, "circlesOfRoot", "(I)I"⟩
abbrev cX2_circlesOfRows : ByteArray := prog_4_method_11_code
def yX2_circlesOfRows : MethodName := ⟨RX2, "circlesOfRows", "([JIII)I"⟩
abbrev cX2_circlesByThrees : ByteArray := prog_4_method_12_code
def yX2_circlesByThrees : MethodName := ⟨RX2, "circlesByThrees", "(I)I"⟩
abbrev cX2_circlesAmong : ByteArray := prog_4_method_13_code
def yX2_circlesAmong : MethodName := ⟨RX2, "circlesAmong", "(JJJII)I"⟩
abbrev cX2_wholeRoot : ByteArray := prog_4_method_14_code
def yX2_wholeRoot : MethodName := ⟨RX2, "wholeRoot", "(J)J"⟩
def RX3 : String := "Koebehall$Net"
def TX3 : u_T := fun k => match k with
  | 0 => ("Koebehall$Net", "named", "[I", true)
  | 1 => ("Koebehall$Net", "thirds", "[I", true)
  | 2 => ("Koebehall$Net", "cornerCount", "I", false)
  | _ => ("Koebehall$Net", "faceCount", "I", false)
def tyX3 : Nat → FieldType := fun k => match k with
  | 0 => .array .int
  | 1 => .array .int
  | 2 => .int
  | _ => .int
abbrev wsX30 : List Cond := u_ws RX3 TX3 4
theorem nmX3 : ∀ a, a < 4 → ∀ b, b < 4 → a ≠ b → (TX3 a).2.1 ≠ (TX3 b).2.1 := by decide +kernel
theorem tyX3_ok : ∀ k, k < 4 → parseFieldDescriptor (TX3 k).2.2.1 = some (tyX3 k) := by decide +kernel
abbrev cX3_init : ByteArray := prog_5_method_1_code
def yX3_init : MethodName := ⟨RX3, "<init>", "()V"⟩
abbrev cX3_hasFace : ByteArray := prog_5_method_2_code
def yX3_hasFace : MethodName := ⟨RX3, "hasFace", "(I)Z"⟩
abbrev cX3_hasCorner : ByteArray := prog_5_method_3_code
def yX3_hasCorner : MethodName := ⟨RX3, "hasCorner", "(I)Z"⟩
abbrev cX3_isFull : ByteArray := prog_5_method_4_code
def yX3_isFull : MethodName := ⟨RX3, "isFull", "()Z"⟩
abbrev cX3_cornerOf : ByteArray := prog_5_method_5_code
def yX3_cornerOf : MethodName := ⟨RX3, "cornerOf", "(II)I"⟩
abbrev cX3_splitFace : ByteArray := prog_5_method_6_code
def yX3_splitFace : MethodName := ⟨RX3, "splitFace", "(I)I"⟩
abbrev cX3_putFace : ByteArray := prog_5_method_7_code
def yX3_putFace : MethodName := ⟨RX3, "putFace", "(IIII)V"⟩
abbrev cX3_putCorners : ByteArray := prog_5_method_8_code
def yX3_putCorners : MethodName := ⟨RX3, "putCorners", "(IIII)V"⟩
abbrev cX3_putThird : ByteArray := prog_5_method_9_code
def yX3_putThird : MethodName := ⟨RX3, "putThird", "(III)V"⟩
abbrev cX3_thirdOf : ByteArray := prog_5_method_10_code
def yX3_thirdOf : MethodName := ⟨RX3, "thirdOf", "(II)I"⟩
abbrev cX3_areNeighbours : ByteArray := prog_5_method_11_code
def yX3_areNeighbours : MethodName := ⟨RX3, "areNeighbours", "(II)Z"⟩
abbrev cX3_canFlip : ByteArray := prog_5_method_12_code
def yX3_canFlip : MethodName := ⟨RX3, "canFlip", "(II)Z"⟩
abbrev cX3_flipEdge : ByteArray := prog_5_method_13_code
def yX3_flipEdge : MethodName := ⟨RX3, "flipEdge", "(II)I"⟩
abbrev cX3_faceWith : ByteArray := prog_5_method_14_code
def yX3_faceWith : MethodName := ⟨RX3, "faceWith", "(II)I"⟩
abbrev cX3_neighbourAt : ByteArray := prog_5_method_15_code
def yX3_neighbourAt : MethodName := ⟨RX3, "neighbourAt", "(II)I"⟩
abbrev cX3_lowestNeighbour : ByteArray := prog_5_method_16_code
def yX3_lowestNeighbour : MethodName := ⟨RX3, "lowestNeighbour", "(I)I"⟩
abbrev cX3_edgeCount : ByteArray := prog_5_method_17_code
def yX3_edgeCount : MethodName := ⟨RX3, "edgeCount", "()I"⟩
abbrev cX3_flippableCount : ByteArray := prog_5_method_18_code
def yX3_flippableCount : MethodName := ⟨RX3, "flippableCount", "()I"⟩
abbrev cX3_mostNeighbours : ByteArray := prog_5_method_19_code
def yX3_mostNeighbours : MethodName := ⟨RX3, "mostNeighbours", "()I"⟩
abbrev cX3_facesAt : ByteArray := prog_5_method_20_code
def yX3_facesAt : MethodName := ⟨RX3, "facesAt", "(I)I"⟩
def RX4 : String := "Koebehall$Network"
def TX4 : u_T := fun k => match k with
  | 0 => ("Koebehall$Network", "wires", "Ljava/util/ArrayList;", true)
  | 1 => ("Koebehall$Network", "rows", "[[J", true)
  | _ => ("Koebehall$Network", "nodeCount", "I", false)
def tyX4 : Nat → FieldType := fun k => match k with
  | 0 => .object "java/util/ArrayList"
  | 1 => .array (.array .long)
  | _ => .int
abbrev wsX40 : List Cond := u_ws RX4 TX4 3
theorem nmX4 : ∀ a, a < 3 → ∀ b, b < 3 → a ≠ b → (TX4 a).2.1 ≠ (TX4 b).2.1 := by decide +kernel
theorem tyX4_ok : ∀ k, k < 3 → parseFieldDescriptor (TX4 k).2.2.1 = some (tyX4 k) := by decide +kernel
abbrev cX4_init : ByteArray := prog_6_method_1_code
def yX4_init : MethodName := ⟨RX4, "<init>", "()V"⟩
abbrev cX4_beginAnew : ByteArray := prog_6_method_2_code
def yX4_beginAnew : MethodName := ⟨RX4, "beginAnew", "(I)I"⟩
abbrev cX4_hasNode : ByteArray := prog_6_method_3_code
def yX4_hasNode : MethodName := ⟨RX4, "hasNode", "(I)Z"⟩
abbrev cX4_hasWire : ByteArray := prog_6_method_4_code
def yX4_hasWire : MethodName := ⟨RX4, "hasWire", "(I)Z"⟩
abbrev cX4_treesByTable : ByteArray := prog_6_method_5_code
def yX4_treesByTable : MethodName := ⟨RX4, "treesByTable", "()J"⟩
abbrev cX4_fillTable : ByteArray := prog_6_method_6_code
def yX4_fillTable : MethodName := ⟨RX4, "fillTable", "(I)V"⟩
abbrev cX4_lineOf : ByteArray := prog_6_method_7_code
def yX4_lineOf : MethodName := ⟨RX4, "lineOf", "(II)I"⟩
abbrev cX4_addToTable : ByteArray := prog_6_method_8_code
def yX4_addToTable : MethodName := ⟨RX4, "addToTable", "(IIJ)V"⟩
abbrev cX4_determinant : ByteArray := prog_6_method_9_code
def yX4_determinant : MethodName := ⟨RX4, "determinant", "(I)J"⟩
abbrev cX4_pivotRow : ByteArray := prog_6_method_10_code
def yX4_pivotRow : MethodName := ⟨RX4, "pivotRow", "(II)I"⟩
abbrev cX4_swapRows : ByteArray := prog_6_method_11_code
def yX4_swapRows : MethodName := ⟨RX4, "swapRows", "(II)V"⟩
abbrev cX4_reduceBelow : ByteArray := prog_6_method_12_code
def yX4_reduceBelow : MethodName := ⟨RX4, "reduceBelow", "(IIJ)V"⟩
abbrev cX4_treesBySets : ByteArray := prog_6_method_13_code
def yX4_treesBySets : MethodName := ⟨RX4, "treesBySets", "()I"⟩
abbrev cX4_hangsTogether : ByteArray := prog_6_method_14_code
def yX4_hangsTogether : MethodName := ⟨RX4, "hangsTogether", "(I)Z"⟩
abbrev cX4_heightOf : ByteArray := prog_6_method_15_code
def yX4_heightOf : MethodName := ⟨RX4, "heightOf", "(III)J"⟩
abbrev cX4_fallAlong : ByteArray := prog_6_method_16_code
def yX4_fallAlong : MethodName := ⟨RX4, "fallAlong", "(III)J"⟩
def RX5 : String := "Koebehall$RemainderWalk"
def TX5 : u_T := fun k => match k with
  | 0 => ("Koebehall$RemainderWalk", "seen", "[J", true)
  | _ => ("Koebehall$RemainderWalk", "waiting", "[J", true)
def tyX5 : Nat → FieldType := fun k => match k with
  | 0 => .array .long
  | _ => .array .long
abbrev wsX50 : List Cond := u_ws RX5 TX5 2
theorem nmX5 : ∀ a, a < 2 → ∀ b, b < 2 → a ≠ b → (TX5 a).2.1 ≠ (TX5 b).2.1 := by decide +kernel
theorem tyX5_ok : ∀ k, k < 2 → parseFieldDescriptor (TX5 k).2.2.1 = some (tyX5 k) := by decide +kernel
abbrev cX5_init : ByteArray := prog_7_method_1_code
def yX5_init : MethodName := ⟨RX5, "<init>", "()V"⟩
abbrev cX5_allReached : ByteArray := prog_7_method_2_code
def yX5_allReached : MethodName := ⟨RX5, "allReached", "([JI)I"⟩
abbrev cX5_codeOf : ByteArray := prog_7_method_3_code
def yX5_codeOf : MethodName := ⟨RX5, "codeOf", "([JI)I"⟩
abbrev cX5_remainderAt : ByteArray := prog_7_method_4_code
def yX5_remainderAt : MethodName := ⟨RX5, "remainderAt", "(II)I"⟩
abbrev cX5_turnedCode : ByteArray := prog_7_method_5_code
def yX5_turnedCode : MethodName := ⟨RX5, "turnedCode", "(III)I"⟩
abbrev cX5_noteCode : ByteArray := prog_7_method_6_code
def yX5_noteCode : MethodName := ⟨RX5, "noteCode", "(I)V"⟩
abbrev cX5_takeWaiting : ByteArray := prog_7_method_7_code
def yX5_takeWaiting : MethodName := ⟨RX5, "takeWaiting", "()I"⟩
def RX6 : String := "Koebehall$Table"
def TX6 : u_T := fun k => match k with
  | 0 => ("Koebehall$Table", "a", "J", true)
  | 1 => ("Koebehall$Table", "b", "J", true)
  | 2 => ("Koebehall$Table", "c", "J", true)
  | _ => ("Koebehall$Table", "d", "J", true)
def tyX6 : Nat → FieldType := fun k => match k with
  | 0 => .long
  | 1 => .long
  | 2 => .long
  | _ => .long
abbrev wsX60 : List Cond := u_ws RX6 TX6 4
theorem nmX6 : ∀ a, a < 4 → ∀ b, b < 4 → a ≠ b → (TX6 a).2.1 ≠ (TX6 b).2.1 := by decide +kernel
theorem tyX6_ok : ∀ k, k < 4 → parseFieldDescriptor (TX6 k).2.2.1 = some (tyX6 k) := by decide +kernel
abbrev cX6_init : ByteArray := prog_8_method_1_code
def yX6_init : MethodName := ⟨RX6, "<init>", "(JJJJ)V"⟩
abbrev cX6_undone : ByteArray := prog_8_method_2_code
def yX6_undone : MethodName := ⟨RX6, "undone", "()LKoebehall$Table;"⟩
abbrev cX6_times : ByteArray := prog_8_method_3_code
def yX6_times : MethodName := ⟨RX6, "times", "(LKoebehall$Table;)LKoebehall$Table;"⟩
abbrev cX6_isWhollyWithin : ByteArray := prog_8_method_4_code
def yX6_isWhollyWithin : MethodName := ⟨RX6, "isWhollyWithin", "(J)Z"⟩
abbrev cX6_trace : ByteArray := prog_8_method_5_code
def yX6_trace : MethodName := ⟨RX6, "trace", "()J"⟩
abbrev cX6_kind : ByteArray := prog_8_method_6_code
def yX6_kind : MethodName := ⟨RX6, "kind", "()I"⟩
def RX7 : String := "Koebehall$Wire"
def TX7 : u_T := fun k => match k with
  | 0 => ("Koebehall$Wire", "first", "I", true)
  | _ => ("Koebehall$Wire", "second", "I", true)
def tyX7 : Nat → FieldType := fun k => match k with
  | 0 => .int
  | _ => .int
abbrev wsX70 : List Cond := u_ws RX7 TX7 2
theorem nmX7 : ∀ a, a < 2 → ∀ b, b < 2 → a ≠ b → (TX7 a).2.1 ≠ (TX7 b).2.1 := by decide +kernel
theorem tyX7_ok : ∀ k, k < 2 → parseFieldDescriptor (TX7 k).2.2.1 = some (tyX7 k) := by decide +kernel
abbrev cX7_init : ByteArray := prog_9_method_1_code
def yX7_init : MethodName := ⟨RX7, "<init>", "(II)V"⟩
def RX8 : String := "Koebehall"
def TX8 : u_T := fun k => match k with
  | 0 => ("Koebehall", "sphere", "LKoebehall$Net;", true)
  | 1 => ("Koebehall", "disks", "Ljava/util/ArrayList;", true)
  | 2 => ("Koebehall", "gaskets", "Ljava/util/ArrayList;", true)
  | 3 => ("Koebehall", "remainderWalk", "LKoebehall$RemainderWalk;", true)
  | 4 => ("Koebehall", "moves", "Ljava/util/ArrayList;", true)
  | 5 => ("Koebehall", "product", "LKoebehall$Table;", false)
  | _ => ("Koebehall", "network", "LKoebehall$Network;", true)
def tyX8 : Nat → FieldType := fun k => match k with
  | 0 => .object "Koebehall$Net"
  | 1 => .object "java/util/ArrayList"
  | 2 => .object "java/util/ArrayList"
  | 3 => .object "Koebehall$RemainderWalk"
  | 4 => .object "java/util/ArrayList"
  | 5 => .object "Koebehall$Table"
  | _ => .object "Koebehall$Network"
abbrev wsX80 : List Cond := u_ws RX8 TX8 7
theorem nmX8 : ∀ a, a < 7 → ∀ b, b < 7 → a ≠ b → (TX8 a).2.1 ≠ (TX8 b).2.1 := by decide +kernel
theorem tyX8_ok : ∀ k, k < 7 → parseFieldDescriptor (TX8 k).2.2.1 = some (tyX8 k) := by decide +kernel
abbrev cX8_init : ByteArray := prog_1_method_1_code
def yX8_init : MethodName := ⟨RX8, "<init>", "()V"⟩
abbrev cX8_split : ByteArray := prog_1_method_2_code
def yX8_split : MethodName := ⟨RX8, "split", "(I)I"⟩
abbrev cX8_flip : ByteArray := prog_1_method_3_code
def yX8_flip : MethodName := ⟨RX8, "flip", "(II)I"⟩
abbrev cX8_corner : ByteArray := prog_1_method_4_code
def yX8_corner : MethodName := ⟨RX8, "corner", "(II)I"⟩
abbrev cX8_around : ByteArray := prog_1_method_5_code
def yX8_around : MethodName := ⟨RX8, "around", "(II)I"⟩
abbrev cX8_net : ByteArray := prog_1_method_6_code
def yX8_net : MethodName := ⟨RX8, "net", "(I)I"⟩
abbrev cX8_disk : ByteArray := prog_1_method_7_code
def yX8_disk : MethodName := ⟨RX8, "disk", "(III)I"⟩
abbrev cX8_move : ByteArray := prog_1_method_8_code
def yX8_move : MethodName := ⟨RX8, "move", "(IIII)I"⟩
abbrev cX8_lie : ByteArray := prog_1_method_9_code
def yX8_lie : MethodName := ⟨RX8, "lie", "(II)I"⟩
abbrev cX8_pairs : ByteArray := prog_1_method_10_code
def yX8_pairs : MethodName := ⟨RX8, "pairs", "(I)I"⟩
abbrev cX8_draws : ByteArray := prog_1_method_11_code
def yX8_draws : MethodName := ⟨RX8, "draws", "()Z"⟩
abbrev cX8_isDisk : ByteArray := prog_1_method_12_code
def yX8_isDisk : MethodName := ⟨RX8, "isDisk", "(III)Z"⟩
abbrev cX8_hasDisk : ByteArray := prog_1_method_13_code
def yX8_hasDisk : MethodName := ⟨RX8, "hasDisk", "(I)Z"⟩
abbrev cX8_howDisksLie : ByteArray := prog_1_method_14_code
def yX8_howDisksLie : MethodName := ⟨RX8, "howDisksLie", "(II)I"⟩
abbrev cX8_isWithin : ByteArray := prog_1_method_15_code
def yX8_isWithin : MethodName := ⟨RX8, "isWithin", "(JJ)Z"⟩
abbrev cX8_gasket : ByteArray := prog_1_method_16_code
def yX8_gasket : MethodName := ⟨RX8, "gasket", "(IIII)I"⟩
abbrev cX8_turn : ByteArray := prog_1_method_17_code
def yX8_turn : MethodName := ⟨RX8, "turn", "(II)J"⟩
abbrev cX8_curvature : ByteArray := prog_1_method_18_code
def yX8_curvature : MethodName := ⟨RX8, "curvature", "(II)J"⟩
abbrev cX8_radius : ByteArray := prog_1_method_19_code
def yX8_radius : MethodName := ⟨RX8, "radius", "(II)F"⟩
abbrev cX8_root : ByteArray := prog_1_method_20_code
def yX8_root : MethodName := ⟨RX8, "root", "(II)J"⟩
abbrev cX8_count : ByteArray := prog_1_method_21_code
def yX8_count : MethodName := ⟨RX8, "count", "(II)I"⟩
abbrev cX8_countAnew : ByteArray := prog_1_method_22_code
def yX8_countAnew : MethodName := ⟨RX8, "countAnew", "(II)I"⟩
abbrev cX8_remainders : ByteArray := prog_1_method_23_code
def yX8_remainders : MethodName := ⟨RX8, "remainders", "(II)I"⟩
abbrev cX8_areFourWithin : ByteArray := prog_1_method_24_code
def yX8_areFourWithin : MethodName := ⟨RX8, "areFourWithin", "(IIIII)Z"⟩
abbrev cX8_gasketOf : ByteArray := prog_1_method_25_code
def yX8_gasketOf : MethodName := ⟨RX8, "gasketOf", "(I)LKoebehall$Gasket;"⟩
abbrev cX8_fourOf : ByteArray := prog_1_method_26_code
def yX8_fourOf : MethodName := ⟨RX8, "fourOf", "(II)[J"⟩
abbrev cX8_boundedGasket : ByteArray := prog_1_method_27_code
def yX8_boundedGasket : MethodName := ⟨RX8, "boundedGasket", "(II)LKoebehall$Gasket;"⟩
abbrev cX8_ford : ByteArray := prog_1_method_28_code
def yX8_ford : MethodName := ⟨RX8, "ford", "(IIII)I"⟩
abbrev cX8_between : ByteArray := prog_1_method_29_code
def yX8_between : MethodName := ⟨RX8, "between", "(IIIIZ)J"⟩
abbrev cX8_refuseNoFraction : ByteArray := prog_1_method_30_code
def yX8_refuseNoFraction : MethodName := ⟨RX8, "refuseNoFraction", "(II)V"⟩
abbrev cX8_tell : ByteArray := prog_1_method_31_code
def yX8_tell : MethodName := ⟨RX8, "tell", "(IIII)I"⟩
abbrev cX8_append : ByteArray := prog_1_method_32_code
def yX8_append : MethodName := ⟨RX8, "append", "(IZ)I"⟩
abbrev cX8_home : ByteArray := prog_1_method_33_code
def yX8_home : MethodName := ⟨RX8, "home", "()I"⟩
abbrev cX8_word : ByteArray := prog_1_method_34_code
def yX8_word : MethodName := ⟨RX8, "word", "(I)I"⟩
abbrev cX8_image : ByteArray := prog_1_method_35_code
def yX8_image : MethodName := ⟨RX8, "image", "(IIZ)J"⟩
abbrev cX8_nodes : ByteArray := prog_1_method_36_code
def yX8_nodes : MethodName := ⟨RX8, "nodes", "(I)I"⟩
abbrev cX8_wire : ByteArray := prog_1_method_37_code
def yX8_wire : MethodName := ⟨RX8, "wire", "(II)I"⟩
abbrev cX8_trees : ByteArray := prog_1_method_38_code
def yX8_trees : MethodName := ⟨RX8, "trees", "()I"⟩
abbrev cX8_treesAnew : ByteArray := prog_1_method_39_code
def yX8_treesAnew : MethodName := ⟨RX8, "treesAnew", "()I"⟩
abbrev cX8_side : ByteArray := prog_1_method_40_code
def yX8_side : MethodName := ⟨RX8, "side", "(III)I"⟩
def RX9 : String := "KoebehallModel"
def TX9 : u_T := fun k => match k with
  | 0 => ("KoebehallModel", "corners", "I", false)
  | 1 => ("KoebehallModel", "faces", "I", false)
  | 2 => ("KoebehallModel", "face", "[I", true)
  | 3 => ("KoebehallModel", "disks", "I", false)
  | 4 => ("KoebehallModel", "middleX", "[I", true)
  | 5 => ("KoebehallModel", "middleY", "[I", true)
  | 6 => ("KoebehallModel", "radii", "[I", true)
  | 7 => ("KoebehallModel", "gaskets", "I", false)
  | 8 => ("KoebehallModel", "curves", "[J", true)
  | 9 => ("KoebehallModel", "roots", "[J", true)
  | 10 => ("KoebehallModel", "steps", "[J", true)
  | 11 => ("KoebehallModel", "nextTurn", "[I", true)
  | 12 => ("KoebehallModel", "lastTurn", "[I", true)
  | 13 => ("KoebehallModel", "seen", "[Z", true)
  | 14 => ("KoebehallModel", "queue", "[I", true)
  | 15 => ("KoebehallModel", "quotients", "[J", true)
  | 16 => ("KoebehallModel", "top", "J", false)
  | 17 => ("KoebehallModel", "below", "J", false)
  | 18 => ("KoebehallModel", "moves", "I", false)
  | 19 => ("KoebehallModel", "tables", "[J", true)
  | 20 => ("KoebehallModel", "word", "[J", true)
  | 21 => ("KoebehallModel", "product", "[J", true)
  | 22 => ("KoebehallModel", "nodes", "I", false)
  | 23 => ("KoebehallModel", "wires", "I", false)
  | 24 => ("KoebehallModel", "ends", "[I", true)
  | 25 => ("KoebehallModel", "others", "[I", true)
  | 26 => ("KoebehallModel", "part", "[I", true)
  | _ => ("KoebehallModel", "thrown", "I", false)
def tyX9 : Nat → FieldType := fun k => match k with
  | 0 => .int
  | 1 => .int
  | 2 => .array .int
  | 3 => .int
  | 4 => .array .int
  | 5 => .array .int
  | 6 => .array .int
  | 7 => .int
  | 8 => .array .long
  | 9 => .array .long
  | 10 => .array .long
  | 11 => .array .int
  | 12 => .array .int
  | 13 => .array .boolean
  | 14 => .array .int
  | 15 => .array .long
  | 16 => .long
  | 17 => .long
  | 18 => .int
  | 19 => .array .long
  | 20 => .array .long
  | 21 => .array .long
  | 22 => .int
  | 23 => .int
  | 24 => .array .int
  | 25 => .array .int
  | 26 => .array .int
  | _ => .int
abbrev wsX90 : List Cond := u_ws RX9 TX9 28
theorem nmX9 : ∀ a, a < 28 → ∀ b, b < 28 → a ≠ b → (TX9 a).2.1 ≠ (TX9 b).2.1 := by decide +kernel
theorem tyX9_ok : ∀ k, k < 28 → parseFieldDescriptor (TX9 k).2.2.1 = some (tyX9 k) := by decide +kernel
abbrev cX9_init : ByteArray := prog_11_method_1_code
def yX9_init : MethodName := ⟨RX9, "<init>", "()V"⟩
abbrev cX9_thrown : ByteArray := prog_11_method_2_code
def yX9_thrown : MethodName := ⟨RX9, "thrown", "()I"⟩
abbrev cX9_isIn : ByteArray := prog_11_method_3_code
def yX9_isIn : MethodName := ⟨RX9, "isIn", "(JJJ)Z"⟩
abbrev cX9_puts : ByteArray := prog_11_method_4_code
def yX9_puts : MethodName := ⟨RX9, "puts", "(IIII)V"⟩
abbrev cX9_isCorner : ByteArray := prog_11_method_5_code
def yX9_isCorner : MethodName := ⟨RX9, "isCorner", "(I)Z"⟩
abbrev cX9_isFace : ByteArray := prog_11_method_6_code
def yX9_isFace : MethodName := ⟨RX9, "isFace", "(I)Z"⟩
abbrev cX9_faceOf : ByteArray := prog_11_method_7_code
def yX9_faceOf : MethodName := ⟨RX9, "faceOf", "(II)I"⟩
abbrev cX9_third : ByteArray := prog_11_method_8_code
def yX9_third : MethodName := ⟨RX9, "third", "(III)I"⟩
abbrev cX9_areNeighbours : ByteArray := prog_11_method_9_code
def yX9_areNeighbours : MethodName := ⟨RX9, "areNeighbours", "(II)Z"⟩
abbrev cX9_split : ByteArray := prog_11_method_10_code
def yX9_split : MethodName := ⟨RX9, "split", "(I)I"⟩
abbrev cX9_canFlip : ByteArray := prog_11_method_11_code
def yX9_canFlip : MethodName := ⟨RX9, "canFlip", "(II)Z"⟩
abbrev cX9_flip : ByteArray := prog_11_method_12_code
def yX9_flip : MethodName := ⟨RX9, "flip", "(II)I"⟩
abbrev cX9_corner : ByteArray := prog_11_method_13_code
def yX9_corner : MethodName := ⟨RX9, "corner", "(II)I"⟩
abbrev cX9_degree : ByteArray := prog_11_method_14_code
def yX9_degree : MethodName := ⟨RX9, "degree", "(I)I"⟩
abbrev cX9_around : ByteArray := prog_11_method_15_code
def yX9_around : MethodName := ⟨RX9, "around", "(II)I"⟩
abbrev cX9_net : ByteArray := prog_11_method_16_code
def yX9_net : MethodName := ⟨RX9, "net", "(I)I"⟩
abbrev cX9_isDisk : ByteArray := prog_11_method_17_code
def yX9_isDisk : MethodName := ⟨RX9, "isDisk", "(III)Z"⟩
abbrev cX9_disk : ByteArray := prog_11_method_18_code
def yX9_disk : MethodName := ⟨RX9, "disk", "(III)I"⟩
abbrev cX9_move : ByteArray := prog_11_method_19_code
def yX9_move : MethodName := ⟨RX9, "move", "(IIII)I"⟩
abbrev cX9_lies : ByteArray := prog_11_method_20_code
def yX9_lies : MethodName := ⟨RX9, "lies", "(II)I"⟩
abbrev cX9_lie : ByteArray := prog_11_method_21_code
def yX9_lie : MethodName := ⟨RX9, "lie", "(II)I"⟩
abbrev cX9_pairs : ByteArray := prog_11_method_22_code
def yX9_pairs : MethodName := ⟨RX9, "pairs", "(I)I"⟩
abbrev cX9_draws : ByteArray := prog_11_method_23_code
def yX9_draws : MethodName := ⟨RX9, "draws", "()Z"⟩
abbrev cX9_isCurve : ByteArray := prog_11_method_24_code
def yX9_isCurve : MethodName := ⟨RX9, "isCurve", "(I)Z"⟩
abbrev cX9_gasket : ByteArray := prog_11_method_25_code
def yX9_gasket : MethodName := ⟨RX9, "gasket", "(IIII)I"⟩
abbrev cX9_turned : ByteArray := prog_11_method_26_code
def yX9_turned : MethodName := ⟨RX9, "turned", "([JII)J"⟩
abbrev cX9_isGasket : ByteArray := prog_11_method_27_code
def yX9_isGasket : MethodName := ⟨RX9, "isGasket", "(I)Z"⟩
abbrev cX9_isPlace : ByteArray := prog_11_method_28_code
def yX9_isPlace : MethodName := ⟨RX9, "isPlace", "(II)Z"⟩
abbrev cX9_turn : ByteArray := prog_11_method_29_code
def yX9_turn : MethodName := ⟨RX9, "turn", "(II)J"⟩
abbrev cX9_curvature : ByteArray := prog_11_method_30_code
def yX9_curvature : MethodName := ⟨RX9, "curvature", "(II)J"⟩
abbrev cX9_radius : ByteArray := prog_11_method_31_code
def yX9_radius : MethodName := ⟨RX9, "radius", "(II)F"⟩
abbrev cX9_findsRoot : ByteArray := prog_11_method_32_code
def yX9_findsRoot : MethodName := ⟨RX9, "findsRoot", "(I)V"⟩
abbrev cX9_root : ByteArray := prog_11_method_33_code
def yX9_root : MethodName := ⟨RX9, "root", "(II)J"⟩
abbrev cX9_counts : ByteArray := prog_11_method_34_code
def yX9_counts : MethodName := ⟨RX9, "counts", "(II)I"⟩
abbrev cX9_count : ByteArray := prog_11_method_35_code
def yX9_count : MethodName := ⟨RX9, "count", "(II)I"⟩
abbrev cX9_countAnew : ByteArray := prog_11_method_36_code
def yX9_countAnew : MethodName := ⟨RX9, "countAnew", "(II)I"⟩
abbrev cX9_rest : ByteArray := prog_11_method_37_code
def yX9_rest : MethodName := ⟨RX9, "rest", "(JI)I"⟩
abbrev cX9_remainders : ByteArray := prog_11_method_38_code
def yX9_remainders : MethodName := ⟨RX9, "remainders", "(II)I"⟩
abbrev cX9_divisor : ByteArray := prog_11_method_39_code
def yX9_divisor : MethodName := ⟨RX9, "divisor", "(JJ)J"⟩
abbrev cX9_isFraction : ByteArray := prog_11_method_40_code
def yX9_isFraction : MethodName := ⟨RX9, "isFraction", "(III)Z"⟩
abbrev cX9_cross : ByteArray := prog_11_method_41_code
def yX9_cross : MethodName := ⟨RX9, "cross", "(IIII)J"⟩
abbrev cX9_ford : ByteArray := prog_11_method_42_code
def yX9_ford : MethodName := ⟨RX9, "ford", "(IIII)I"⟩
abbrev cX9_floor : ByteArray := prog_11_method_43_code
def yX9_floor : MethodName := ⟨RX9, "floor", "(JJ)J"⟩
abbrev cX9_findsBetween : ByteArray := prog_11_method_44_code
def yX9_findsBetween : MethodName := ⟨RX9, "findsBetween", "(JJJJ)V"⟩
abbrev cX9_between : ByteArray := prog_11_method_45_code
def yX9_between : MethodName := ⟨RX9, "between", "(IIIIZ)J"⟩
abbrev cX9_isTold : ByteArray := prog_11_method_46_code
def yX9_isTold : MethodName := ⟨RX9, "isTold", "(I)Z"⟩
abbrev cX9_tell : ByteArray := prog_11_method_47_code
def yX9_tell : MethodName := ⟨RX9, "tell", "(IIII)I"⟩
abbrev cX9_append : ByteArray := prog_11_method_48_code
def yX9_append : MethodName := ⟨RX9, "append", "(IZ)I"⟩
abbrev cX9_home : ByteArray := prog_11_method_49_code
def yX9_home : MethodName := ⟨RX9, "home", "()I"⟩
abbrev cX9_word : ByteArray := prog_11_method_50_code
def yX9_word : MethodName := ⟨RX9, "word", "(I)I"⟩
abbrev cX9_image : ByteArray := prog_11_method_51_code
def yX9_image : MethodName := ⟨RX9, "image", "(IIZ)J"⟩
abbrev cX9_nodes : ByteArray := prog_11_method_52_code
def yX9_nodes : MethodName := ⟨RX9, "nodes", "(I)I"⟩
abbrev cX9_isNode : ByteArray := prog_11_method_53_code
def yX9_isNode : MethodName := ⟨RX9, "isNode", "(I)Z"⟩
abbrev cX9_wire : ByteArray := prog_11_method_54_code
def yX9_wire : MethodName := ⟨RX9, "wire", "(II)I"⟩
abbrev cX9_partsBy : ByteArray := prog_11_method_55_code
def yX9_partsBy : MethodName := ⟨RX9, "partsBy", "(I)I"⟩
abbrev cX9_treesOf : ByteArray := prog_11_method_56_code
def yX9_treesOf : MethodName := ⟨RX9, "treesOf", "()I"⟩
abbrev cX9_trees : ByteArray := prog_11_method_57_code
def yX9_trees : MethodName := ⟨RX9, "trees", "()I"⟩
abbrev cX9_treesAnew : ByteArray := prog_11_method_58_code
def yX9_treesAnew : MethodName := ⟨RX9, "treesAnew", "()I"⟩
abbrev cX9_height : ByteArray := prog_11_method_59_code
def yX9_height : MethodName := ⟨RX9, "height", "(III)I"⟩
abbrev cX9_side : ByteArray := prog_11_method_60_code
def yX9_side : MethodName := ⟨RX9, "side", "(III)I"⟩
def RJx145de : String := "java/io/Serializable"
def TJx145de : u_T := fun k => match k with
  | _ => ("", "", "", false)
def tyJx145de : Nat → FieldType := fun k => match k with
  | _ => .int
abbrev wsJx145de0 : List Cond := u_ws RJx145de TJx145de 0
theorem nmJx145de : ∀ a, a < 0 → ∀ b, b < 0 → a ≠ b → (TJx145de a).2.1 ≠ (TJx145de b).2.1 := by decide +kernel
theorem tyJx145de_ok : ∀ k, k < 0 → parseFieldDescriptor (TJx145de k).2.2.1 = some (tyJx145de k) := by decide +kernel
def RJx8e188 : String := "java/lang/Cloneable"
def TJx8e188 : u_T := fun k => match k with
  | _ => ("", "", "", false)
def tyJx8e188 : Nat → FieldType := fun k => match k with
  | _ => .int
abbrev wsJx8e1880 : List Cond := u_ws RJx8e188 TJx8e188 0
theorem nmJx8e188 : ∀ a, a < 0 → ∀ b, b < 0 → a ≠ b → (TJx8e188 a).2.1 ≠ (TJx8e188 b).2.1 := by decide +kernel
theorem tyJx8e188_ok : ∀ k, k < 0 → parseFieldDescriptor (TJx8e188 k).2.2.1 = some (tyJx8e188 k) := by decide +kernel
def RJxb160c : String := "java/lang/Comparable"
def TJxb160c : u_T := fun k => match k with
  | _ => ("", "", "", false)
def tyJxb160c : Nat → FieldType := fun k => match k with
  | _ => .int
abbrev wsJxb160c0 : List Cond := u_ws RJxb160c TJxb160c 0
theorem nmJxb160c : ∀ a, a < 0 → ∀ b, b < 0 → a ≠ b → (TJxb160c a).2.1 ≠ (TJxb160c b).2.1 := by decide +kernel
theorem tyJxb160c_ok : ∀ k, k < 0 → parseFieldDescriptor (TJxb160c k).2.2.1 = some (tyJxb160c k) := by decide +kernel
def RJ6 : String := "java/lang/Integer"
def TJ6 : u_T := fun k => match k with
  | _ => ("", "", "", false)
def tyJ6 : Nat → FieldType := fun k => match k with
  | _ => .int
abbrev wsJ60 : List Cond := u_ws RJ6 TJ6 0
theorem nmJ6 : ∀ a, a < 0 → ∀ b, b < 0 → a ≠ b → (TJ6 a).2.1 ≠ (TJ6 b).2.1 := by decide +kernel
theorem tyJ6_ok : ∀ k, k < 0 → parseFieldDescriptor (TJ6 k).2.2.1 = some (tyJ6 k) := by decide +kernel
abbrev cJ6_numberOfLeadingZeros_0f7a4 : ByteArray := prog_19_method_47_code
def yJ6_numberOfLeadingZeros_0f7a4 : MethodName := ⟨RJ6, "numberOfLeadingZeros", "(I)I"⟩
abbrev cJ6_numberOfTrailingZeros_0f7a4 : ByteArray := prog_19_method_48_code
def yJ6_numberOfTrailingZeros_0f7a4 : MethodName := ⟨RJ6, "numberOfTrailingZeros", "(I)I"⟩
abbrev cJ6_bitCount_0f7a4 : ByteArray := prog_19_method_49_code
def yJ6_bitCount_0f7a4 : MethodName := ⟨RJ6, "bitCount", "(I)I"⟩
def RJxab1ab : String := "java/lang/Iterable"
def TJxab1ab : u_T := fun k => match k with
  | _ => ("", "", "", false)
def tyJxab1ab : Nat → FieldType := fun k => match k with
  | _ => .int
abbrev wsJxab1ab0 : List Cond := u_ws RJxab1ab TJxab1ab 0
theorem nmJxab1ab : ∀ a, a < 0 → ∀ b, b < 0 → a ≠ b → (TJxab1ab a).2.1 ≠ (TJxab1ab b).2.1 := by decide +kernel
theorem tyJxab1ab_ok : ∀ k, k < 0 → parseFieldDescriptor (TJxab1ab k).2.2.1 = some (tyJxab1ab k) := by decide +kernel
def RJ13 : String := "java/lang/Long"
def TJ13 : u_T := fun k => match k with
  | _ => ("", "", "", false)
def tyJ13 : Nat → FieldType := fun k => match k with
  | _ => .int
abbrev wsJ130 : List Cond := u_ws RJ13 TJ13 0
theorem nmJ13 : ∀ a, a < 0 → ∀ b, b < 0 → a ≠ b → (TJ13 a).2.1 ≠ (TJ13 b).2.1 := by decide +kernel
theorem tyJ13_ok : ∀ k, k < 0 → parseFieldDescriptor (TJ13 k).2.2.1 = some (tyJ13 k) := by decide +kernel
abbrev cJ13_numberOfLeadingZeros_95d88 : ByteArray := prog_21_method_48_code
def yJ13_numberOfLeadingZeros_95d88 : MethodName := ⟨RJ13, "numberOfLeadingZeros", "(J)I"⟩
abbrev cJ13_numberOfTrailingZeros_95d88 : ByteArray := prog_21_method_49_code
def yJ13_numberOfTrailingZeros_95d88 : MethodName := ⟨RJ13, "numberOfTrailingZeros", "(J)I"⟩
def RJ9 : String := "java/lang/Math"
def TJ9 : u_T := fun k => match k with
  | _ => ("", "", "", false)
def tyJ9 : Nat → FieldType := fun k => match k with
  | _ => .int
abbrev wsJ90 : List Cond := u_ws RJ9 TJ9 0
theorem nmJ9 : ∀ a, a < 0 → ∀ b, b < 0 → a ≠ b → (TJ9 a).2.1 ≠ (TJ9 b).2.1 := by decide +kernel
theorem tyJ9_ok : ∀ k, k < 0 → parseFieldDescriptor (TJ9 k).2.2.1 = some (tyJ9 k) := by decide +kernel
abbrev cJ9_floorDiv_f86c9 : ByteArray := prog_22_method_49_code
def yJ9_floorDiv_f86c9 : MethodName := ⟨RJ9, "floorDiv", "(JJ)J"⟩
abbrev cJ9_floorMod_7cf53 : ByteArray := prog_22_method_50_code
def yJ9_floorMod_7cf53 : MethodName := ⟨RJ9, "floorMod", "(II)I"⟩
abbrev cJ9_floorMod_f86c9 : ByteArray := prog_22_method_52_code
def yJ9_floorMod_f86c9 : MethodName := ⟨RJ9, "floorMod", "(JJ)J"⟩
abbrev cJ9_abs_067f4 : ByteArray := prog_22_method_61_code
def yJ9_abs_067f4 : MethodName := ⟨RJ9, "abs", "(J)J"⟩
abbrev cJ9_max_7cf53 : ByteArray := prog_22_method_65_code
def yJ9_max_7cf53 : MethodName := ⟨RJ9, "max", "(II)I"⟩
abbrev cJ9_min_7cf53 : ByteArray := prog_22_method_69_code
def yJ9_min_7cf53 : MethodName := ⟨RJ9, "min", "(II)I"⟩
def RJxd2413 : String := "java/lang/Number"
def TJxd2413 : u_T := fun k => match k with
  | _ => ("", "", "", false)
def tyJxd2413 : Nat → FieldType := fun k => match k with
  | _ => .int
abbrev wsJxd24130 : List Cond := u_ws RJxd2413 TJxd2413 0
theorem nmJxd2413 : ∀ a, a < 0 → ∀ b, b < 0 → a ≠ b → (TJxd2413 a).2.1 ≠ (TJxd2413 b).2.1 := by decide +kernel
theorem tyJxd2413_ok : ∀ k, k < 0 → parseFieldDescriptor (TJxd2413 k).2.2.1 = some (tyJxd2413 k) := by decide +kernel
def RJ0 : String := "java/lang/String"
def TJ0 : u_T := fun k => match k with
  | _ => ("", "", "", false)
def tyJ0 : Nat → FieldType := fun k => match k with
  | _ => .int
abbrev wsJ00 : List Cond := u_ws RJ0 TJ0 0
theorem nmJ0 : ∀ a, a < 0 → ∀ b, b < 0 → a ≠ b → (TJ0 a).2.1 ≠ (TJ0 b).2.1 := by decide +kernel
theorem tyJ0_ok : ∀ k, k < 0 → parseFieldDescriptor (TJ0 k).2.2.1 = some (tyJ0 k) := by decide +kernel
def RJ10 : String := "java/lang/System"
def TJ10 : u_T := fun k => match k with
  | _ => ("", "", "", false)
def tyJ10 : Nat → FieldType := fun k => match k with
  | _ => .int
abbrev wsJ100 : List Cond := u_ws RJ10 TJ10 0
theorem nmJ10 : ∀ a, a < 0 → ∀ b, b < 0 → a ≠ b → (TJ10 a).2.1 ≠ (TJ10 b).2.1 := by decide +kernel
theorem tyJ10_ok : ∀ k, k < 0 → parseFieldDescriptor (TJ10 k).2.2.1 = some (tyJ10 k) := by decide +kernel
def RJxfd54e : String := "java/lang/constant/Constable"
def TJxfd54e : u_T := fun k => match k with
  | _ => ("", "", "", false)
def tyJxfd54e : Nat → FieldType := fun k => match k with
  | _ => .int
abbrev wsJxfd54e0 : List Cond := u_ws RJxfd54e TJxfd54e 0
theorem nmJxfd54e : ∀ a, a < 0 → ∀ b, b < 0 → a ≠ b → (TJxfd54e a).2.1 ≠ (TJxfd54e b).2.1 := by decide +kernel
theorem tyJxfd54e_ok : ∀ k, k < 0 → parseFieldDescriptor (TJxfd54e k).2.2.1 = some (tyJxfd54e k) := by decide +kernel
def RJx3cf43 : String := "java/lang/constant/ConstantDesc"
def TJx3cf43 : u_T := fun k => match k with
  | _ => ("", "", "", false)
def tyJx3cf43 : Nat → FieldType := fun k => match k with
  | _ => .int
abbrev wsJx3cf430 : List Cond := u_ws RJx3cf43 TJx3cf43 0
theorem nmJx3cf43 : ∀ a, a < 0 → ∀ b, b < 0 → a ≠ b → (TJx3cf43 a).2.1 ≠ (TJx3cf43 b).2.1 := by decide +kernel
theorem tyJx3cf43_ok : ∀ k, k < 0 → parseFieldDescriptor (TJx3cf43 k).2.2.1 = some (tyJx3cf43 k) := by decide +kernel
def RJxa1e45 : String := "java/util/AbstractCollection"
def TJxa1e45 : u_T := fun k => match k with
  | _ => ("", "", "", false)
def tyJxa1e45 : Nat → FieldType := fun k => match k with
  | _ => .int
abbrev wsJxa1e450 : List Cond := u_ws RJxa1e45 TJxa1e45 0
theorem nmJxa1e45 : ∀ a, a < 0 → ∀ b, b < 0 → a ≠ b → (TJxa1e45 a).2.1 ≠ (TJxa1e45 b).2.1 := by decide +kernel
theorem tyJxa1e45_ok : ∀ k, k < 0 → parseFieldDescriptor (TJxa1e45 k).2.2.1 = some (tyJxa1e45 k) := by decide +kernel
abbrev cJxa1e45_init_da8c8 : ByteArray := prog_30_method_1_code
def yJxa1e45_init_da8c8 : MethodName := ⟨RJxa1e45, "<init>", "()V"⟩
def RJxc12de : String := "java/util/AbstractList"
def TJxc12de : u_T := fun k => match k with
  | _ => ("", "", "", false)
def tyJxc12de : Nat → FieldType := fun k => match k with
  | _ => .int
abbrev wsJxc12de0 : List Cond := u_ws RJxc12de TJxc12de 0
theorem nmJxc12de : ∀ a, a < 0 → ∀ b, b < 0 → a ≠ b → (TJxc12de a).2.1 ≠ (TJxc12de b).2.1 := by decide +kernel
theorem tyJxc12de_ok : ∀ k, k < 0 → parseFieldDescriptor (TJxc12de k).2.2.1 = some (tyJxc12de k) := by decide +kernel
abbrev cJxc12de_init_da8c8 : ByteArray := prog_31_method_1_code
def yJxc12de_init_da8c8 : MethodName := ⟨RJxc12de, "<init>", "()V"⟩
def RJx4a65c : String := "java/util/ArrayList"
def TJx4a65c : u_T := fun k => match k with
  | 0 => ("java/util/AbstractList", "modCount", "I", false)
  | 1 => ("java/util/ArrayList", "elementData", "[Ljava/lang/Object;", false)
  | _ => ("java/util/ArrayList", "size", "I", false)
def tyJx4a65c : Nat → FieldType := fun k => match k with
  | 0 => .int
  | 1 => .array (.object "java/lang/Object")
  | _ => .int
abbrev wsJx4a65c0 : List Cond := u_ws RJx4a65c TJx4a65c 3
theorem nmJx4a65c : ∀ a, a < 3 → ∀ b, b < 3 → a ≠ b → (TJx4a65c a).2.1 ≠ (TJx4a65c b).2.1 := by decide +kernel
theorem tyJx4a65c_ok : ∀ k, k < 3 → parseFieldDescriptor (TJx4a65c k).2.2.1 = some (tyJx4a65c k) := by decide +kernel
abbrev cJx4a65c_init_da8c8 : ByteArray := prog_32_method_2_code
def yJx4a65c_init_da8c8 : MethodName := ⟨RJx4a65c, "<init>", "()V"⟩
abbrev cJx4a65c_grow_92f84 : ByteArray := prog_32_method_6_code
def yJx4a65c_grow_92f84 : MethodName := ⟨RJx4a65c, "grow", "(I)[Ljava/lang/Object;"⟩
abbrev cJx4a65c_grow_d5877 : ByteArray := prog_32_method_7_code
def yJx4a65c_grow_d5877 : MethodName := ⟨RJx4a65c, "grow", "()[Ljava/lang/Object;"⟩
abbrev cJx4a65c_size_8abf5 : ByteArray := prog_32_method_8_code
def yJx4a65c_size_8abf5 : MethodName := ⟨RJx4a65c, "size", "()I"⟩
abbrev cJx4a65c_elementData_915e3 : ByteArray := prog_32_method_18_code
def yJx4a65c_elementData_915e3 : MethodName := ⟨RJx4a65c, "elementData", "(I)Ljava/lang/Object;"⟩
abbrev cJx4a65c_get_915e3 : ByteArray := prog_32_method_20_code
def yJx4a65c_get_915e3 : MethodName := ⟨RJx4a65c, "get", "(I)Ljava/lang/Object;"⟩
abbrev cJx4a65c_set_bcc79 : ByteArray := prog_32_method_23_code
def yJx4a65c_set_bcc79 : MethodName := ⟨RJx4a65c, "set", "(ILjava/lang/Object;)Ljava/lang/Object;"⟩
abbrev cJx4a65c_add_72be8 : ByteArray := prog_32_method_24_code
def yJx4a65c_add_72be8 : MethodName := ⟨RJx4a65c, "add", "(Ljava/lang/Object;[Ljava/lang/Object;I)V"⟩
abbrev cJx4a65c_add_9ea2d : ByteArray := prog_32_method_25_code
def yJx4a65c_add_9ea2d : MethodName := ⟨RJx4a65c, "add", "(Ljava/lang/Object;)Z"⟩
abbrev cJx4a65c_clear_da8c8 : ByteArray := prog_32_method_40_code
def yJx4a65c_clear_da8c8 : MethodName := ⟨RJx4a65c, "clear", "()V"⟩
def RJ7 : String := "java/util/Arrays"
def TJ7 : u_T := fun k => match k with
  | _ => ("", "", "", false)
def tyJ7 : Nat → FieldType := fun k => match k with
  | _ => .int
abbrev wsJ70 : List Cond := u_ws RJ7 TJ7 0
theorem nmJ7 : ∀ a, a < 0 → ∀ b, b < 0 → a ≠ b → (TJ7 a).2.1 ≠ (TJ7 b).2.1 := by decide +kernel
theorem tyJ7_ok : ∀ k, k < 0 → parseFieldDescriptor (TJ7 k).2.2.1 = some (tyJ7 k) := by decide +kernel
abbrev cJ7_fill_d0a16 : ByteArray := prog_33_method_101_code
def yJ7_fill_d0a16 : MethodName := ⟨RJ7, "fill", "([JJ)V"⟩
abbrev cJ7_fill_53178 : ByteArray := prog_33_method_103_code
def yJ7_fill_53178 : MethodName := ⟨RJ7, "fill", "([II)V"⟩
abbrev cJ7_copyOf_1904c : ByteArray := prog_33_method_119_code
def yJ7_copyOf_1904c : MethodName := ⟨RJ7, "copyOf", "([Ljava/lang/Object;I)[Ljava/lang/Object;"⟩
abbrev cJ7_copyOf_6403c : ByteArray := prog_33_method_120_code
def yJ7_copyOf_6403c : MethodName := ⟨RJ7, "copyOf", "([Ljava/lang/Object;ILjava/lang/Class;)[Ljava/lang/Object;"⟩
def RJx5ef63 : String := "java/util/Collection"
def TJx5ef63 : u_T := fun k => match k with
  | _ => ("", "", "", false)
def tyJx5ef63 : Nat → FieldType := fun k => match k with
  | _ => .int
abbrev wsJx5ef630 : List Cond := u_ws RJx5ef63 TJx5ef63 0
theorem nmJx5ef63 : ∀ a, a < 0 → ∀ b, b < 0 → a ≠ b → (TJx5ef63 a).2.1 ≠ (TJx5ef63 b).2.1 := by decide +kernel
theorem tyJx5ef63_ok : ∀ k, k < 0 → parseFieldDescriptor (TJx5ef63 k).2.2.1 = some (tyJx5ef63 k) := by decide +kernel
def RJxbd725 : String := "java/util/List"
def TJxbd725 : u_T := fun k => match k with
  | _ => ("", "", "", false)
def tyJxbd725 : Nat → FieldType := fun k => match k with
  | _ => .int
abbrev wsJxbd7250 : List Cond := u_ws RJxbd725 TJxbd725 0
theorem nmJxbd725 : ∀ a, a < 0 → ∀ b, b < 0 → a ≠ b → (TJxbd725 a).2.1 ≠ (TJxbd725 b).2.1 := by decide +kernel
theorem tyJxbd725_ok : ∀ k, k < 0 → parseFieldDescriptor (TJxbd725 k).2.2.1 = some (tyJxbd725 k) := by decide +kernel
def RJ15 : String := "java/util/Objects"
def TJ15 : u_T := fun k => match k with
  | _ => ("", "", "", false)
def tyJ15 : Nat → FieldType := fun k => match k with
  | _ => .int
abbrev wsJ150 : List Cond := u_ws RJ15 TJ15 0
theorem nmJ15 : ∀ a, a < 0 → ∀ b, b < 0 → a ≠ b → (TJ15 a).2.1 ≠ (TJ15 b).2.1 := by decide +kernel
theorem tyJ15_ok : ∀ k, k < 0 → parseFieldDescriptor (TJ15 k).2.2.1 = some (tyJ15 k) := by decide +kernel
abbrev cJ15_checkIndex_7cf53 : ByteArray := prog_36_method_17_code
def yJ15_checkIndex_7cf53 : MethodName := ⟨RJ15, "checkIndex", "(II)I"⟩
def RJxf0a74 : String := "java/util/RandomAccess"
def TJxf0a74 : u_T := fun k => match k with
  | _ => ("", "", "", false)
def tyJxf0a74 : Nat → FieldType := fun k => match k with
  | _ => .int
abbrev wsJxf0a740 : List Cond := u_ws RJxf0a74 TJxf0a74 0
theorem nmJxf0a74 : ∀ a, a < 0 → ∀ b, b < 0 → a ≠ b → (TJxf0a74 a).2.1 ≠ (TJxf0a74 b).2.1 := by decide +kernel
theorem tyJxf0a74_ok : ∀ k, k < 0 → parseFieldDescriptor (TJxf0a74 k).2.2.1 = some (tyJxf0a74 k) := by decide +kernel
def RJxa66e6 : String := "java/util/SequencedCollection"
def TJxa66e6 : u_T := fun k => match k with
  | _ => ("", "", "", false)
def tyJxa66e6 : Nat → FieldType := fun k => match k with
  | _ => .int
abbrev wsJxa66e60 : List Cond := u_ws RJxa66e6 TJxa66e6 0
theorem nmJxa66e6 : ∀ a, a < 0 → ∀ b, b < 0 → a ≠ b → (TJxa66e6 a).2.1 ≠ (TJxa66e6 b).2.1 := by decide +kernel
theorem tyJxa66e6_ok : ∀ k, k < 0 → parseFieldDescriptor (TJxa66e6 k).2.2.1 = some (tyJxa66e6 k) := by decide +kernel
def RJ8 : String := "jdk/internal/util/ArraysSupport"
def TJ8 : u_T := fun k => match k with
  | _ => ("", "", "", false)
def tyJ8 : Nat → FieldType := fun k => match k with
  | _ => .int
abbrev wsJ80 : List Cond := u_ws RJ8 TJ8 0
theorem nmJ8 : ∀ a, a < 0 → ∀ b, b < 0 → a ≠ b → (TJ8 a).2.1 ≠ (TJ8 b).2.1 := by decide +kernel
theorem tyJ8_ok : ∀ k, k < 0 → parseFieldDescriptor (TJ8 k).2.2.1 = some (tyJ8 k) := by decide +kernel
abbrev cJ8_newLength_cabcc : ByteArray := prog_39_method_27_code
def yJ8_newLength_cabcc : MethodName := ⟨RJ8, "newLength", "(III)I"⟩
abbrev cJ8_hugeLength_7cf53 : ByteArray := prog_39_method_28_code
def yJ8_hugeLength_7cf53 : MethodName := ⟨RJ8, "hugeLength", "(II)I"⟩
def RJ3 : String := "jdk/internal/util/Preconditions"
def TJ3 : u_T := fun k => match k with
  | _ => ("", "", "", false)
def tyJ3 : Nat → FieldType := fun k => match k with
  | _ => .int
abbrev wsJ30 : List Cond := u_ws RJ3 TJ3 0
theorem nmJ3 : ∀ a, a < 0 → ∀ b, b < 0 → a ≠ b → (TJ3 a).2.1 ≠ (TJ3 b).2.1 := by decide +kernel
theorem tyJ3_ok : ∀ k, k < 0 → parseFieldDescriptor (TJ3 k).2.2.1 = some (tyJ3 k) := by decide +kernel
abbrev cJ3_checkIndex_8e157 : ByteArray := prog_40_method_11_code
def yJ3_checkIndex_8e157 : MethodName := ⟨RJ3, "checkIndex", "(IILjava/util/function/BiFunction;)I"⟩
def RL : String := "KoebehallLaw"
abbrev cL_split : ByteArray := method_3_code
def yL_split : MethodName := ⟨RL, "split", "(LKoebehall;I[J)I"⟩
abbrev cL_flip : ByteArray := method_4_code
def yL_flip : MethodName := ⟨RL, "flip", "(LKoebehall;II[J)I"⟩
abbrev cL_corner : ByteArray := method_5_code
def yL_corner : MethodName := ⟨RL, "corner", "(LKoebehall;II[J)I"⟩
abbrev cL_around : ByteArray := method_6_code
def yL_around : MethodName := ⟨RL, "around", "(LKoebehall;II[J)I"⟩
abbrev cL_net : ByteArray := method_7_code
def yL_net : MethodName := ⟨RL, "net", "(LKoebehall;I[J)I"⟩
abbrev cL_disk : ByteArray := method_8_code
def yL_disk : MethodName := ⟨RL, "disk", "(LKoebehall;III[J)I"⟩
abbrev cL_move : ByteArray := method_9_code
def yL_move : MethodName := ⟨RL, "move", "(LKoebehall;IIII[J)I"⟩
abbrev cL_lie : ByteArray := method_10_code
def yL_lie : MethodName := ⟨RL, "lie", "(LKoebehall;II[J)I"⟩
abbrev cL_pairs : ByteArray := method_11_code
def yL_pairs : MethodName := ⟨RL, "pairs", "(LKoebehall;I[J)I"⟩
abbrev cL_gasket : ByteArray := method_12_code
def yL_gasket : MethodName := ⟨RL, "gasket", "(LKoebehall;IIII[J)I"⟩
abbrev cL_turn : ByteArray := method_13_code
def yL_turn : MethodName := ⟨RL, "turn", "(LKoebehall;II[J)I"⟩
abbrev cL_curvature : ByteArray := method_14_code
def yL_curvature : MethodName := ⟨RL, "curvature", "(LKoebehall;II[J)I"⟩
abbrev cL_radius : ByteArray := method_15_code
def yL_radius : MethodName := ⟨RL, "radius", "(LKoebehall;II[D)I"⟩
abbrev cL_root : ByteArray := method_16_code
def yL_root : MethodName := ⟨RL, "root", "(LKoebehall;II[J)I"⟩
abbrev cL_count : ByteArray := method_17_code
def yL_count : MethodName := ⟨RL, "count", "(LKoebehall;II[J)I"⟩
abbrev cL_countAnew : ByteArray := method_18_code
def yL_countAnew : MethodName := ⟨RL, "countAnew", "(LKoebehall;II[J)I"⟩
abbrev cL_remainders : ByteArray := method_19_code
def yL_remainders : MethodName := ⟨RL, "remainders", "(LKoebehall;II[J)I"⟩
abbrev cL_ford : ByteArray := method_20_code
def yL_ford : MethodName := ⟨RL, "ford", "(LKoebehall;IIII[J)I"⟩
abbrev cL_between : ByteArray := method_21_code
def yL_between : MethodName := ⟨RL, "between", "(LKoebehall;IIIIZ[J)I"⟩
abbrev cL_tell : ByteArray := method_22_code
def yL_tell : MethodName := ⟨RL, "tell", "(LKoebehall;IIII[J)I"⟩
abbrev cL_append : ByteArray := method_23_code
def yL_append : MethodName := ⟨RL, "append", "(LKoebehall;IZ[J)I"⟩
abbrev cL_word : ByteArray := method_24_code
def yL_word : MethodName := ⟨RL, "word", "(LKoebehall;I[J)I"⟩
abbrev cL_image : ByteArray := method_25_code
def yL_image : MethodName := ⟨RL, "image", "(LKoebehall;IIZ[J)I"⟩
abbrev cL_nodes : ByteArray := method_26_code
def yL_nodes : MethodName := ⟨RL, "nodes", "(LKoebehall;I[J)I"⟩
abbrev cL_wire : ByteArray := method_27_code
def yL_wire : MethodName := ⟨RL, "wire", "(LKoebehall;II[J)I"⟩
abbrev cL_side : ByteArray := method_28_code
def yL_side : MethodName := ⟨RL, "side", "(LKoebehall;III[J)I"⟩
abbrev cL_law : ByteArray := code
def yL_law : MethodName := ⟨RL, "law", "([I)Z"⟩
def wsX0_init : List Cond := .code yX0_init cX0_init 7 none :: ([.methodLink RX0 3 objectInit, .instanceMethod objectInit, .code objectInit ⟨#[0xb1]⟩ 1 none, .fieldLink RX0 9 "Koebehall$Disk" "x" "J", .fieldLink RX0 15 "Koebehall$Disk" "y" "J", .fieldLink RX0 18 "Koebehall$Disk" "radius" "J"] ++ wsX00)
def wsX0_howItLies : List Cond := .code yX0_howItLies cX0_howItLies 10 (some .int) :: ([.fieldLink RX0 9 "Koebehall$Disk" "x" "J", .fieldLink RX0 15 "Koebehall$Disk" "y" "J", .fieldLink RX0 18 "Koebehall$Disk" "radius" "J"] ++ wsX00)
def wsX1_isLowest : List Cond := .code yX1_isLowest cX1_isLowest 11 (some .boolean) :: ([.methodLink RX1 7 Lib.MathLoose.abs_long.x, .static Lib.MathLoose.abs_long.x, .initialized "java/lang/Math", .code Lib.MathLoose.abs_long.x Lib.MathLoose.abs_long.code 2 (some .long)])
def wsX1_crossed : List Cond := .code yX1_crossed cX1_crossed 8 (some .long) :: ([])
def wsJ9_floorDiv_f86c9 : List Cond := .code yJ9_floorDiv_f86c9 cJ9_floorDiv_f86c9 6 (some .long) :: ([])
def wsX1_simplest : List Cond := .code yX1_simplest cX1_simplest 39 (some .long) :: ([.methodLink RX1 15 yJ9_floorDiv_f86c9, .static yJ9_floorDiv_f86c9, .initialized RJ9, .code yJ9_floorDiv_f86c9 cJ9_floorDiv_f86c9 6 (some .long)])
def wsX2_rowOf : List Cond := .code yX2_rowOf cX2_rowOf 9 (some (.array .long)) :: ([.arrayClass .long])
def wsX2_greatestPlace : List Cond := .code yX2_greatestPlace cX2_greatestPlace 3 (some .int) :: ([])
def wsX2_turnedAt : List Cond := .code yX2_turnedAt cX2_turnedAt 4 (some .long) :: ([.constantLong RX2 35 (2)])
def wsX2_bringToRoot : List Cond := .code yX2_bringToRoot cX2_bringToRoot 5 none :: ([.constant RX2 37 (1000000), .methodLink RX2 38 yX2_greatestPlace, .static yX2_greatestPlace, .initialized RX2, .code yX2_greatestPlace cX2_greatestPlace 3 (some .int), .methodLink RX2 42 yX2_turnedAt, .static yX2_turnedAt, .code yX2_turnedAt cX2_turnedAt 4 (some .long), .constantLong RX2 35 (2)])
def wsX2_putInOrder : List Cond := .code yX2_putInOrder cX2_putInOrder 5 none :: ([])
def wsX2_rootOf : List Cond := .code yX2_rootOf cX2_rootOf 9 (some (.array .long)) :: ([.methodLink RX2 9 yX2_rowOf, .static yX2_rowOf, .initialized RX2, .code yX2_rowOf cX2_rowOf 9 (some (.array .long)), .arrayClass .long, .methodLink RX2 28 yX2_bringToRoot, .static yX2_bringToRoot, .code yX2_bringToRoot cX2_bringToRoot 5 none, .constant RX2 37 (1000000), .methodLink RX2 38 yX2_greatestPlace, .static yX2_greatestPlace, .code yX2_greatestPlace cX2_greatestPlace 3 (some .int), .methodLink RX2 42 yX2_turnedAt, .static yX2_turnedAt, .code yX2_turnedAt cX2_turnedAt 4 (some .long), .constantLong RX2 35 (2), .methodLink RX2 32 yX2_putInOrder, .static yX2_putInOrder, .code yX2_putInOrder cX2_putInOrder 5 none])
def wsX2_init_r1 : List Cond := [Cond.methodLink RX2 3 objectInit, Cond.instanceMethod objectInit, Cond.code objectInit ⟨#[0xb1]⟩ 1 none, Cond.fieldLink RX2 15 "Koebehall$Gasket" "four" "[J", Cond.fieldLink RX2 22 "Koebehall$Gasket" "least" "[J", Cond.arrayClass .long, Cond.fieldLink RX2 25 "Koebehall$Gasket" "walked" "[J", Cond.methodLink RX2 9 yX2_rowOf, Cond.static yX2_rowOf, Cond.initialized RX2, Cond.code yX2_rowOf cX2_rowOf 9 (some (.array .long)), Cond.methodLink RX2 19 yX2_rootOf, Cond.static yX2_rootOf, Cond.code yX2_rootOf cX2_rootOf 9 (some (.array .long)), Cond.methodLink RX2 28 yX2_bringToRoot, Cond.static yX2_bringToRoot, Cond.code yX2_bringToRoot cX2_bringToRoot 5 none, Cond.constant RX2 37 (1000000), Cond.methodLink RX2 38 yX2_greatestPlace, Cond.static yX2_greatestPlace, Cond.code yX2_greatestPlace cX2_greatestPlace 3 (some .int), Cond.methodLink RX2 42 yX2_turnedAt, Cond.static yX2_turnedAt, Cond.code yX2_turnedAt cX2_turnedAt 4 (some .long)]
def wsX2_init_r2 : List Cond := [Cond.constantLong RX2 35 (2), Cond.methodLink RX2 32 yX2_putInOrder, Cond.static yX2_putInOrder, Cond.code yX2_putInOrder cX2_putInOrder 5 none]
def wsX2_init : List Cond := .code yX2_init cX2_init 9 none :: ((wsX2_init_r1 ++ wsX2_init_r2) ++ wsX20)
def wsX2_areOfGasket : List Cond := .code yX2_areOfGasket cX2_areOfGasket 10 (some .boolean) :: ([.constantLong RX2 35 (2)])
def wsX2_circlesOfRoot : List Cond := .code yX2_circlesOfRoot cX2_circlesOfRoot 4 (some .int) :: ([.fieldLink RX2 22 "Koebehall$Gasket" "least" "[J"] ++ wsX20)
def wsX2_circlesOfRows : List Cond := .code yX2_circlesOfRows cX2_circlesOfRows 10 (some .int) :: ([.methodLink RX2 42 yX2_turnedAt, .static yX2_turnedAt, .initialized RX2, .code yX2_turnedAt cX2_turnedAt 4 (some .long), .constantLong RX2 35 (2), .methodLink RX2 56 yX2_circlesOfRows, .static yX2_circlesOfRows])
def wsX2_circlesByTurns : List Cond := .code yX2_circlesByTurns cX2_circlesByTurns 2 (some .int) :: ([.fieldLink RX2 22 "Koebehall$Gasket" "least" "[J", .fieldLink RX2 25 "Koebehall$Gasket" "walked" "[J", .methodLink RX2 46 arraycopyName, .native arraycopyName, .static arraycopyName, .initialized "java/lang/System", .methodLink RX2 52 yX2_circlesOfRoot, .instanceMethod yX2_circlesOfRoot, .selects RX2 yX2_circlesOfRoot yX2_circlesOfRoot, .initialized RX2, .code yX2_circlesOfRoot cX2_circlesOfRoot 4 (some .int), .methodLink RX2 56 yX2_circlesOfRows, .static yX2_circlesOfRows, .code yX2_circlesOfRows cX2_circlesOfRows 10 (some .int), .methodLink RX2 42 yX2_turnedAt, .static yX2_turnedAt, .code yX2_turnedAt cX2_turnedAt 4 (some .long), .constantLong RX2 35 (2)] ++ wsX20)
def wsJ6_numberOfLeadingZeros_0f7a4 : List Cond := .code yJ6_numberOfLeadingZeros_0f7a4 cJ6_numberOfLeadingZeros_0f7a4 2 (some .int) :: ([.constant RJ6 264 (65536)])
def wsJ13_numberOfLeadingZeros_95d88 : List Cond := .code yJ13_numberOfLeadingZeros_95d88 cJ13_numberOfLeadingZeros_95d88 3 (some .int) :: ([.methodLink RJ13 308 yJ6_numberOfLeadingZeros_0f7a4, .static yJ6_numberOfLeadingZeros_0f7a4, .initialized RJ6, .code yJ6_numberOfLeadingZeros_0f7a4 cJ6_numberOfLeadingZeros_0f7a4 2 (some .int), .constant RJ6 264 (65536)])
def wsX2_wholeRoot : List Cond := .code yX2_wholeRoot cX2_wholeRoot 7 (some .long) :: ([.methodLink RX2 68 yJ13_numberOfLeadingZeros_95d88, .static yJ13_numberOfLeadingZeros_95d88, .initialized RJ13, .code yJ13_numberOfLeadingZeros_95d88 cJ13_numberOfLeadingZeros_95d88 3 (some .int), .methodLink RJ13 308 yJ6_numberOfLeadingZeros_0f7a4, .static yJ6_numberOfLeadingZeros_0f7a4, .initialized RJ6, .code yJ6_numberOfLeadingZeros_0f7a4 cJ6_numberOfLeadingZeros_0f7a4 2 (some .int), .constant RJ6 264 (65536)])
def wsX2_circlesAmong : List Cond := .code yX2_circlesAmong cX2_circlesAmong 10 (some .int) :: ([.constantLong RX2 35 (2), .methodLink RX2 64 yX2_wholeRoot, .static yX2_wholeRoot, .initialized RX2, .code yX2_wholeRoot cX2_wholeRoot 7 (some .long), .methodLink RX2 68 yJ13_numberOfLeadingZeros_95d88, .static yJ13_numberOfLeadingZeros_95d88, .initialized RJ13, .code yJ13_numberOfLeadingZeros_95d88 cJ13_numberOfLeadingZeros_95d88 3 (some .int), .methodLink RJ13 308 yJ6_numberOfLeadingZeros_0f7a4, .static yJ6_numberOfLeadingZeros_0f7a4, .initialized RJ6, .code yJ6_numberOfLeadingZeros_0f7a4 cJ6_numberOfLeadingZeros_0f7a4 2 (some .int), .constant RJ6 264 (65536), .methodLink RX2 60 yX2_circlesAmong, .static yX2_circlesAmong])
def wsX2_circlesByThrees : List Cond := .code yX2_circlesByThrees cX2_circlesByThrees 2 (some .int) :: ([.fieldLink RX2 22 "Koebehall$Gasket" "least" "[J", .methodLink RX2 52 yX2_circlesOfRoot, .instanceMethod yX2_circlesOfRoot, .selects RX2 yX2_circlesOfRoot yX2_circlesOfRoot, .initialized RX2, .code yX2_circlesOfRoot cX2_circlesOfRoot 4 (some .int), .methodLink RX2 60 yX2_circlesAmong, .static yX2_circlesAmong, .code yX2_circlesAmong cX2_circlesAmong 10 (some .int), .constantLong RX2 35 (2), .methodLink RX2 64 yX2_wholeRoot, .static yX2_wholeRoot, .code yX2_wholeRoot cX2_wholeRoot 7 (some .long), .methodLink RX2 68 yJ13_numberOfLeadingZeros_95d88, .static yJ13_numberOfLeadingZeros_95d88, .initialized RJ13, .code yJ13_numberOfLeadingZeros_95d88 cJ13_numberOfLeadingZeros_95d88 3 (some .int), .methodLink RJ13 308 yJ6_numberOfLeadingZeros_0f7a4, .static yJ6_numberOfLeadingZeros_0f7a4, .initialized RJ6, .code yJ6_numberOfLeadingZeros_0f7a4 cJ6_numberOfLeadingZeros_0f7a4 2 (some .int), .constant RJ6 264 (65536)] ++ wsX20)
def wsJ7_fill_53178 : List Cond := .code yJ7_fill_53178 cJ7_fill_53178 4 none :: ([])
def wsX3_putThird : List Cond := .code yX3_putThird cX3_putThird 4 none :: ([.fieldLink RX3 15 "Koebehall$Net" "thirds" "[I"] ++ wsX30)
def wsX3_putCorners : List Cond := .code yX3_putCorners cX3_putCorners 5 none :: ([.fieldLink RX3 11 "Koebehall$Net" "named" "[I", .methodLink RX3 45 yX3_putThird, .instanceMethod yX3_putThird, .selects RX3 yX3_putThird yX3_putThird, .initialized RX3, .code yX3_putThird cX3_putThird 4 none, .fieldLink RX3 15 "Koebehall$Net" "thirds" "[I"] ++ wsX30)
def wsX3_putFace : List Cond := .code yX3_putFace cX3_putFace 5 none :: ([.methodLink RX3 42 yX3_putCorners, .instanceMethod yX3_putCorners, .selects RX3 yX3_putCorners yX3_putCorners, .initialized RX3, .code yX3_putCorners cX3_putCorners 5 none, .fieldLink RX3 11 "Koebehall$Net" "named" "[I", .methodLink RX3 45 yX3_putThird, .instanceMethod yX3_putThird, .selects RX3 yX3_putThird yX3_putThird, .code yX3_putThird cX3_putThird 4 none, .fieldLink RX3 15 "Koebehall$Net" "thirds" "[I"] ++ wsX30)
def wsX3_init_r1 : List Cond := [Cond.methodLink RX3 5 objectInit, Cond.instanceMethod objectInit, Cond.code objectInit ⟨#[0xb1]⟩ 1 none, Cond.arrayClass .int, Cond.fieldLink RX3 11 "Koebehall$Net" "named" "[I", Cond.fieldLink RX3 15 "Koebehall$Net" "thirds" "[I", Cond.fieldLink RX3 24 "Koebehall$Net" "cornerCount" "I", Cond.fieldLink RX3 28 "Koebehall$Net" "faceCount" "I", Cond.fieldLink RX3 31 "Koebehall$Net" "FIRST_FACES" "[I", Cond.methodLink RX3 18 yJ7_fill_53178, Cond.static yJ7_fill_53178, Cond.initialized RJ7, Cond.code yJ7_fill_53178 cJ7_fill_53178 4 none, Cond.methodLink RX3 34 yX3_putFace, Cond.instanceMethod yX3_putFace, Cond.selects RX3 yX3_putFace yX3_putFace, Cond.initialized RX3, Cond.code yX3_putFace cX3_putFace 5 none, Cond.methodLink RX3 42 yX3_putCorners, Cond.instanceMethod yX3_putCorners, Cond.selects RX3 yX3_putCorners yX3_putCorners, Cond.code yX3_putCorners cX3_putCorners 5 none, Cond.methodLink RX3 45 yX3_putThird, Cond.instanceMethod yX3_putThird]
def wsX3_init_r2 : List Cond := [Cond.selects RX3 yX3_putThird yX3_putThird, Cond.code yX3_putThird cX3_putThird 4 none]
def wsX3_init : List Cond := .code yX3_init cX3_init 2 none :: ((wsX3_init_r1 ++ wsX3_init_r2) ++ wsX30)
def wsX3_hasFace : List Cond := .code yX3_hasFace cX3_hasFace 2 (some .boolean) :: ([.fieldLink RX3 28 "Koebehall$Net" "faceCount" "I"] ++ wsX30)
def wsX3_hasCorner : List Cond := .code yX3_hasCorner cX3_hasCorner 2 (some .boolean) :: ([.fieldLink RX3 24 "Koebehall$Net" "cornerCount" "I"] ++ wsX30)
def wsX3_isFull : List Cond := .code yX3_isFull cX3_isFull 1 (some .boolean) :: ([.fieldLink RX3 24 "Koebehall$Net" "cornerCount" "I"] ++ wsX30)
def wsX3_cornerOf : List Cond := .code yX3_cornerOf cX3_cornerOf 3 (some .int) :: ([.fieldLink RX3 11 "Koebehall$Net" "named" "[I"] ++ wsX30)
def wsX3_splitFace : List Cond := .code yX3_splitFace cX3_splitFace 6 (some .int) :: ([.fieldLink RX3 24 "Koebehall$Net" "cornerCount" "I", .fieldLink RX3 28 "Koebehall$Net" "faceCount" "I", .methodLink RX3 38 yX3_cornerOf, .instanceMethod yX3_cornerOf, .selects RX3 yX3_cornerOf yX3_cornerOf, .initialized RX3, .code yX3_cornerOf cX3_cornerOf 3 (some .int), .fieldLink RX3 11 "Koebehall$Net" "named" "[I", .methodLink RX3 34 yX3_putFace, .instanceMethod yX3_putFace, .selects RX3 yX3_putFace yX3_putFace, .code yX3_putFace cX3_putFace 5 none, .methodLink RX3 42 yX3_putCorners, .instanceMethod yX3_putCorners, .selects RX3 yX3_putCorners yX3_putCorners, .code yX3_putCorners cX3_putCorners 5 none, .methodLink RX3 45 yX3_putThird, .instanceMethod yX3_putThird, .selects RX3 yX3_putThird yX3_putThird, .code yX3_putThird cX3_putThird 4 none, .fieldLink RX3 15 "Koebehall$Net" "thirds" "[I"] ++ wsX30)
def wsX3_thirdOf : List Cond := .code yX3_thirdOf cX3_thirdOf 3 (some .int) :: ([.fieldLink RX3 15 "Koebehall$Net" "thirds" "[I", .methodLink RX3 49 yX3_hasCorner, .instanceMethod yX3_hasCorner, .selects RX3 yX3_hasCorner yX3_hasCorner, .initialized RX3, .code yX3_hasCorner cX3_hasCorner 2 (some .boolean), .fieldLink RX3 24 "Koebehall$Net" "cornerCount" "I"] ++ wsX30)
def wsX3_areNeighbours : List Cond := .code yX3_areNeighbours cX3_areNeighbours 3 (some .boolean) :: ([.methodLink RX3 53 yX3_thirdOf, .instanceMethod yX3_thirdOf, .selects RX3 yX3_thirdOf yX3_thirdOf, .initialized RX3, .code yX3_thirdOf cX3_thirdOf 3 (some .int), .fieldLink RX3 15 "Koebehall$Net" "thirds" "[I", .methodLink RX3 49 yX3_hasCorner, .instanceMethod yX3_hasCorner, .selects RX3 yX3_hasCorner yX3_hasCorner, .code yX3_hasCorner cX3_hasCorner 2 (some .boolean), .fieldLink RX3 24 "Koebehall$Net" "cornerCount" "I"] ++ wsX30)
def wsX3_canFlip : List Cond := .code yX3_canFlip cX3_canFlip 3 (some .boolean) :: ([.methodLink RX3 56 yX3_areNeighbours, .instanceMethod yX3_areNeighbours, .selects RX3 yX3_areNeighbours yX3_areNeighbours, .initialized RX3, .code yX3_areNeighbours cX3_areNeighbours 3 (some .boolean), .methodLink RX3 53 yX3_thirdOf, .instanceMethod yX3_thirdOf, .selects RX3 yX3_thirdOf yX3_thirdOf, .code yX3_thirdOf cX3_thirdOf 3 (some .int), .fieldLink RX3 15 "Koebehall$Net" "thirds" "[I", .methodLink RX3 49 yX3_hasCorner, .instanceMethod yX3_hasCorner, .selects RX3 yX3_hasCorner yX3_hasCorner, .code yX3_hasCorner cX3_hasCorner 2 (some .boolean), .fieldLink RX3 24 "Koebehall$Net" "cornerCount" "I"] ++ wsX30)
def wsX3_faceWith : List Cond := .code yX3_faceWith cX3_faceWith 5 (some .int) :: ([.fieldLink RX3 28 "Koebehall$Net" "faceCount" "I", .fieldLink RX3 11 "Koebehall$Net" "named" "[I"] ++ wsX30)
def wsX3_flipEdge_r1 : List Cond := [Cond.methodLink RX3 63 Lib.Math.min.name, Cond.static Lib.Math.min.name, Cond.initialized "java/lang/Math", Cond.code Lib.Math.min.name Lib.Math.min.code 2 (some .int), Cond.methodLink RX3 68 Lib.Math.max.name, Cond.static Lib.Math.max.name, Cond.code Lib.Math.max.name Lib.Math.max.code 2 (some .int), Cond.methodLink RX3 53 yX3_thirdOf, Cond.instanceMethod yX3_thirdOf, Cond.selects RX3 yX3_thirdOf yX3_thirdOf, Cond.initialized RX3, Cond.code yX3_thirdOf cX3_thirdOf 3 (some .int), Cond.fieldLink RX3 15 "Koebehall$Net" "thirds" "[I", Cond.methodLink RX3 49 yX3_hasCorner, Cond.instanceMethod yX3_hasCorner, Cond.selects RX3 yX3_hasCorner yX3_hasCorner, Cond.code yX3_hasCorner cX3_hasCorner 2 (some .boolean), Cond.fieldLink RX3 24 "Koebehall$Net" "cornerCount" "I", Cond.methodLink RX3 60 yX3_faceWith, Cond.instanceMethod yX3_faceWith, Cond.selects RX3 yX3_faceWith yX3_faceWith, Cond.code yX3_faceWith cX3_faceWith 5 (some .int), Cond.fieldLink RX3 28 "Koebehall$Net" "faceCount" "I", Cond.fieldLink RX3 11 "Koebehall$Net" "named" "[I"]
def wsX3_flipEdge_r2 : List Cond := [Cond.methodLink RX3 45 yX3_putThird, Cond.instanceMethod yX3_putThird, Cond.selects RX3 yX3_putThird yX3_putThird, Cond.code yX3_putThird cX3_putThird 4 none, Cond.methodLink RX3 34 yX3_putFace, Cond.instanceMethod yX3_putFace, Cond.selects RX3 yX3_putFace yX3_putFace, Cond.code yX3_putFace cX3_putFace 5 none, Cond.methodLink RX3 42 yX3_putCorners, Cond.instanceMethod yX3_putCorners, Cond.selects RX3 yX3_putCorners yX3_putCorners, Cond.code yX3_putCorners cX3_putCorners 5 none]
def wsX3_flipEdge : List Cond := .code yX3_flipEdge cX3_flipEdge 7 (some .int) :: ((wsX3_flipEdge_r1 ++ wsX3_flipEdge_r2) ++ wsX30)
def wsX3_lowestNeighbour : List Cond := .code yX3_lowestNeighbour cX3_lowestNeighbour 3 (some .int) :: ([.fieldLink RX3 24 "Koebehall$Net" "cornerCount" "I", .methodLink RX3 56 yX3_areNeighbours, .instanceMethod yX3_areNeighbours, .selects RX3 yX3_areNeighbours yX3_areNeighbours, .initialized RX3, .code yX3_areNeighbours cX3_areNeighbours 3 (some .boolean), .methodLink RX3 53 yX3_thirdOf, .instanceMethod yX3_thirdOf, .selects RX3 yX3_thirdOf yX3_thirdOf, .code yX3_thirdOf cX3_thirdOf 3 (some .int), .fieldLink RX3 15 "Koebehall$Net" "thirds" "[I", .methodLink RX3 49 yX3_hasCorner, .instanceMethod yX3_hasCorner, .selects RX3 yX3_hasCorner yX3_hasCorner, .code yX3_hasCorner cX3_hasCorner 2 (some .boolean)] ++ wsX30)
def wsX3_neighbourAt : List Cond := .code yX3_neighbourAt cX3_neighbourAt 6 (some .int) :: ([.methodLink RX3 71 yX3_lowestNeighbour, .instanceMethod yX3_lowestNeighbour, .selects RX3 yX3_lowestNeighbour yX3_lowestNeighbour, .initialized RX3, .code yX3_lowestNeighbour cX3_lowestNeighbour 3 (some .int), .fieldLink RX3 24 "Koebehall$Net" "cornerCount" "I", .methodLink RX3 56 yX3_areNeighbours, .instanceMethod yX3_areNeighbours, .selects RX3 yX3_areNeighbours yX3_areNeighbours, .code yX3_areNeighbours cX3_areNeighbours 3 (some .boolean), .methodLink RX3 53 yX3_thirdOf, .instanceMethod yX3_thirdOf, .selects RX3 yX3_thirdOf yX3_thirdOf, .code yX3_thirdOf cX3_thirdOf 3 (some .int), .fieldLink RX3 15 "Koebehall$Net" "thirds" "[I", .methodLink RX3 49 yX3_hasCorner, .instanceMethod yX3_hasCorner, .selects RX3 yX3_hasCorner yX3_hasCorner, .code yX3_hasCorner cX3_hasCorner 2 (some .boolean)] ++ wsX30)
def wsX3_edgeCount : List Cond := .code yX3_edgeCount cX3_edgeCount 1 (some .int) :: ([.fieldLink RX3 28 "Koebehall$Net" "faceCount" "I"] ++ wsX30)
def wsX3_flippableCount : List Cond := .code yX3_flippableCount cX3_flippableCount 4 (some .int) :: ([.fieldLink RX3 24 "Koebehall$Net" "cornerCount" "I", .methodLink RX3 75 yX3_canFlip, .instanceMethod yX3_canFlip, .selects RX3 yX3_canFlip yX3_canFlip, .initialized RX3, .code yX3_canFlip cX3_canFlip 3 (some .boolean), .methodLink RX3 56 yX3_areNeighbours, .instanceMethod yX3_areNeighbours, .selects RX3 yX3_areNeighbours yX3_areNeighbours, .code yX3_areNeighbours cX3_areNeighbours 3 (some .boolean), .methodLink RX3 53 yX3_thirdOf, .instanceMethod yX3_thirdOf, .selects RX3 yX3_thirdOf yX3_thirdOf, .code yX3_thirdOf cX3_thirdOf 3 (some .int), .fieldLink RX3 15 "Koebehall$Net" "thirds" "[I", .methodLink RX3 49 yX3_hasCorner, .instanceMethod yX3_hasCorner, .selects RX3 yX3_hasCorner yX3_hasCorner, .code yX3_hasCorner cX3_hasCorner 2 (some .boolean)] ++ wsX30)
def wsX3_facesAt : List Cond := .code yX3_facesAt cX3_facesAt 4 (some .int) :: ([.fieldLink RX3 28 "Koebehall$Net" "faceCount" "I", .fieldLink RX3 11 "Koebehall$Net" "named" "[I"] ++ wsX30)
def wsX3_mostNeighbours : List Cond := .code yX3_mostNeighbours cX3_mostNeighbours 3 (some .int) :: ([.fieldLink RX3 24 "Koebehall$Net" "cornerCount" "I", .methodLink RX3 68 Lib.Math.max.name, .static Lib.Math.max.name, .initialized "java/lang/Math", .code Lib.Math.max.name Lib.Math.max.code 2 (some .int), .methodLink RX3 78 yX3_facesAt, .instanceMethod yX3_facesAt, .selects RX3 yX3_facesAt yX3_facesAt, .initialized RX3, .code yX3_facesAt cX3_facesAt 4 (some .int), .fieldLink RX3 28 "Koebehall$Net" "faceCount" "I", .fieldLink RX3 11 "Koebehall$Net" "named" "[I"] ++ wsX30)
def wsJxa1e45_init_da8c8 : List Cond := .code yJxa1e45_init_da8c8 cJxa1e45_init_da8c8 1 none :: ([.methodLink RJxa1e45 1 objectInit, .instanceMethod objectInit, .code objectInit ⟨#[0xb1]⟩ 1 none])
def wsJxc12de_init_da8c8 : List Cond := .code yJxc12de_init_da8c8 cJxc12de_init_da8c8 1 none :: ([.fieldLink RJxc12de 7 "java/util/AbstractList" "modCount" "I", .methodLink RJxc12de 1 yJxa1e45_init_da8c8, .instanceMethod yJxa1e45_init_da8c8, .initialized RJxa1e45, .code yJxa1e45_init_da8c8 cJxa1e45_init_da8c8 1 none, .methodLink RJxa1e45 1 objectInit, .instanceMethod objectInit, .code objectInit ⟨#[0xb1]⟩ 1 none] ++ wsJx4a65c0)
def wsJx4a65c_init_da8c8 : List Cond := .code yJx4a65c_init_da8c8 cJx4a65c_init_da8c8 1 none :: ([.fieldLink RJx4a65c 39 "java/util/ArrayList" "DEFAULTCAPACITY_EMPTY_ELEMENTDATA" "[Ljava/lang/Object;", .fieldLink RJx4a65c 9 "java/util/ArrayList" "elementData" "[Ljava/lang/Object;", .methodLink RJx4a65c 1 yJxc12de_init_da8c8, .instanceMethod yJxc12de_init_da8c8, .initialized RJxc12de, .code yJxc12de_init_da8c8 cJxc12de_init_da8c8 1 none, .fieldLink RJxc12de 7 "java/util/AbstractList" "modCount" "I", .methodLink RJxc12de 1 yJxa1e45_init_da8c8, .instanceMethod yJxa1e45_init_da8c8, .initialized RJxa1e45, .code yJxa1e45_init_da8c8 cJxa1e45_init_da8c8 1 none, .methodLink RJxa1e45 1 objectInit, .instanceMethod objectInit, .code objectInit ⟨#[0xb1]⟩ 1 none] ++ wsJx4a65c0)
def wsX4_init_r1 : List Cond := [Cond.methodLink RX4 3 objectInit, Cond.instanceMethod objectInit, Cond.code objectInit ⟨#[0xb1]⟩ 1 none, Cond.classLink RX4 9 RJx4a65c, Cond.instantiable RJx4a65c 3, Cond.initialized RJx4a65c, Cond.fieldLink RX4 12 "Koebehall$Network" "wires" "Ljava/util/ArrayList;", Cond.classLink RX4 18 "[[J", Cond.arrayClass .long, Cond.fieldLink RX4 20 "Koebehall$Network" "rows" "[[J", Cond.fieldLink RX4 23 "Koebehall$Network" "nodeCount" "I", Cond.methodLink RX4 11 yJx4a65c_init_da8c8, Cond.instanceMethod yJx4a65c_init_da8c8, Cond.code yJx4a65c_init_da8c8 cJx4a65c_init_da8c8 1 none, Cond.fieldLink RJx4a65c 39 "java/util/ArrayList" "DEFAULTCAPACITY_EMPTY_ELEMENTDATA" "[Ljava/lang/Object;", Cond.fieldLink RJx4a65c 9 "java/util/ArrayList" "elementData" "[Ljava/lang/Object;", Cond.methodLink RJx4a65c 1 yJxc12de_init_da8c8, Cond.instanceMethod yJxc12de_init_da8c8, Cond.initialized RJxc12de, Cond.code yJxc12de_init_da8c8 cJxc12de_init_da8c8 1 none, Cond.fieldLink RJxc12de 7 "java/util/AbstractList" "modCount" "I", Cond.methodLink RJxc12de 1 yJxa1e45_init_da8c8, Cond.instanceMethod yJxa1e45_init_da8c8, Cond.initialized RJxa1e45]
def wsX4_init_r2 : List Cond := [Cond.code yJxa1e45_init_da8c8 cJxa1e45_init_da8c8 1 none, Cond.methodLink RJxa1e45 1 objectInit]
def wsX4_init : List Cond := .code yX4_init cX4_init 1 none :: ((wsX4_init_r1 ++ wsX4_init_r2) ++ wsJx4a65c0 ++ wsX40)
def wsJx4a65c_clear_da8c8 : List Cond := .code yJx4a65c_clear_da8c8 cJx4a65c_clear_da8c8 4 none :: ([.fieldLink RJx4a65c 63 "java/util/ArrayList" "modCount" "I", .sameField "java/util/ArrayList" "java/util/AbstractList" "modCount" "I", .fieldLink RJx4a65c 9 "java/util/ArrayList" "elementData" "[Ljava/lang/Object;", .fieldLink RJx4a65c 48 "java/util/ArrayList" "size" "I"] ++ wsJx4a65c0)
def wsX4_beginAnew : List Cond := .code yX4_beginAnew cX4_beginAnew 3 (some .int) :: ([.fieldLink RX4 23 "Koebehall$Network" "nodeCount" "I", .fieldLink RX4 12 "Koebehall$Network" "wires" "Ljava/util/ArrayList;", .methodLink RX4 27 yJx4a65c_clear_da8c8, .instanceMethod yJx4a65c_clear_da8c8, .selects RJx4a65c yJx4a65c_clear_da8c8 yJx4a65c_clear_da8c8, .initialized RJx4a65c, .code yJx4a65c_clear_da8c8 cJx4a65c_clear_da8c8 4 none, .fieldLink RJx4a65c 63 "java/util/ArrayList" "modCount" "I", .sameField "java/util/ArrayList" "java/util/AbstractList" "modCount" "I", .fieldLink RJx4a65c 9 "java/util/ArrayList" "elementData" "[Ljava/lang/Object;", .fieldLink RJx4a65c 48 "java/util/ArrayList" "size" "I"] ++ wsX40 ++ wsJx4a65c0)
def wsX4_hasNode : List Cond := .code yX4_hasNode cX4_hasNode 2 (some .boolean) :: ([.fieldLink RX4 23 "Koebehall$Network" "nodeCount" "I"] ++ wsX40)
def wsJx4a65c_size_8abf5 : List Cond := .code yJx4a65c_size_8abf5 cJx4a65c_size_8abf5 1 (some .int) :: ([.fieldLink RJx4a65c 48 "java/util/ArrayList" "size" "I"] ++ wsJx4a65c0)
def wsX4_hasWire : List Cond := .code yX4_hasWire cX4_hasWire 2 (some .boolean) :: ([.fieldLink RX4 12 "Koebehall$Network" "wires" "Ljava/util/ArrayList;", .methodLink RX4 30 yJx4a65c_size_8abf5, .instanceMethod yJx4a65c_size_8abf5, .selects RJx4a65c yJx4a65c_size_8abf5 yJx4a65c_size_8abf5, .initialized RJx4a65c, .code yJx4a65c_size_8abf5 cJx4a65c_size_8abf5 1 (some .int), .fieldLink RJx4a65c 48 "java/util/ArrayList" "size" "I"] ++ wsX40 ++ wsJx4a65c0)
def wsJ7_fill_d0a16 : List Cond := .code yJ7_fill_d0a16 cJ7_fill_d0a16 5 none :: ([])
def wsJ3_checkIndex_8e157 : List Cond := .code yJ3_checkIndex_8e157 cJ3_checkIndex_8e157 3 (some .int) :: ([])
def wsJ15_checkIndex_7cf53 : List Cond := .code yJ15_checkIndex_7cf53 cJ15_checkIndex_7cf53 2 (some .int) :: ([.methodLink RJ15 105 yJ3_checkIndex_8e157, .static yJ3_checkIndex_8e157, .initialized RJ3, .code yJ3_checkIndex_8e157 cJ3_checkIndex_8e157 3 (some .int)])
def wsJx4a65c_elementData_915e3 : List Cond := .code yJx4a65c_elementData_915e3 cJx4a65c_elementData_915e3 2 (some (.object "java/lang/Object")) :: ([.fieldLink RJx4a65c 9 "java/util/ArrayList" "elementData" "[Ljava/lang/Object;"] ++ wsJx4a65c0)
def wsJx4a65c_get_915e3 : List Cond := .code yJx4a65c_get_915e3 cJx4a65c_get_915e3 2 (some (.object "java/lang/Object")) :: ([.fieldLink RJx4a65c 48 "java/util/ArrayList" "size" "I", .methodLink RJx4a65c 118 yJ15_checkIndex_7cf53, .static yJ15_checkIndex_7cf53, .initialized RJ15, .code yJ15_checkIndex_7cf53 cJ15_checkIndex_7cf53 2 (some .int), .methodLink RJ15 105 yJ3_checkIndex_8e157, .static yJ3_checkIndex_8e157, .initialized RJ3, .code yJ3_checkIndex_8e157 cJ3_checkIndex_8e157 3 (some .int), .methodLink RJx4a65c 123 yJx4a65c_elementData_915e3, .instanceMethod yJx4a65c_elementData_915e3, .selects RJx4a65c yJx4a65c_elementData_915e3 yJx4a65c_elementData_915e3, .initialized RJx4a65c, .code yJx4a65c_elementData_915e3 cJx4a65c_elementData_915e3 2 (some (.object "java/lang/Object")), .fieldLink RJx4a65c 9 "java/util/ArrayList" "elementData" "[Ljava/lang/Object;"] ++ wsJx4a65c0)
def wsX4_lineOf : List Cond := .code yX4_lineOf cX4_lineOf 2 (some .int) :: ([])
def wsX4_addToTable : List Cond := .code yX4_addToTable cX4_addToTable 5 none :: ([.fieldLink RX4 20 "Koebehall$Network" "rows" "[[J"] ++ wsX40)
def wsX4_fillTable_r1 : List Cond := [Cond.fieldLink RX4 23 "Koebehall$Network" "nodeCount" "I", Cond.fieldLink RX4 20 "Koebehall$Network" "rows" "[[J", Cond.fieldLink RX4 12 "Koebehall$Network" "wires" "Ljava/util/ArrayList;", Cond.classLink RX4 52 "Koebehall$Wire", Cond.constantLong RX4 68 (-1), Cond.methodLink RX4 42 yJ7_fill_d0a16, Cond.static yJ7_fill_d0a16, Cond.initialized RJ7, Cond.code yJ7_fill_d0a16 cJ7_fill_d0a16 5 none, Cond.methodLink RX4 30 yJx4a65c_size_8abf5, Cond.instanceMethod yJx4a65c_size_8abf5, Cond.selects RJx4a65c yJx4a65c_size_8abf5 yJx4a65c_size_8abf5, Cond.initialized RJx4a65c, Cond.code yJx4a65c_size_8abf5 cJx4a65c_size_8abf5 1 (some .int), Cond.fieldLink RJx4a65c 48 "java/util/ArrayList" "size" "I", Cond.methodLink RX4 48 yJx4a65c_get_915e3, Cond.instanceMethod yJx4a65c_get_915e3, Cond.selects RJx4a65c yJx4a65c_get_915e3 yJx4a65c_get_915e3, Cond.code yJx4a65c_get_915e3 cJx4a65c_get_915e3 2 (some (.object "java/lang/Object")), Cond.methodLink RJx4a65c 118 yJ15_checkIndex_7cf53, Cond.static yJ15_checkIndex_7cf53, Cond.initialized RJ15, Cond.code yJ15_checkIndex_7cf53 cJ15_checkIndex_7cf53 2 (some .int), Cond.methodLink RJ15 105 yJ3_checkIndex_8e157]
def wsX4_fillTable_r2 : List Cond := [Cond.static yJ3_checkIndex_8e157, Cond.initialized RJ3, Cond.code yJ3_checkIndex_8e157 cJ3_checkIndex_8e157 3 (some .int), Cond.methodLink RJx4a65c 123 yJx4a65c_elementData_915e3, Cond.instanceMethod yJx4a65c_elementData_915e3, Cond.selects RJx4a65c yJx4a65c_elementData_915e3 yJx4a65c_elementData_915e3, Cond.code yJx4a65c_elementData_915e3 cJx4a65c_elementData_915e3 2 (some (.object "java/lang/Object")), Cond.fieldLink RJx4a65c 9 "java/util/ArrayList" "elementData" "[Ljava/lang/Object;", Cond.methodLink RX4 57 yX4_lineOf, Cond.static yX4_lineOf, Cond.initialized RX4, Cond.code yX4_lineOf cX4_lineOf 2 (some .int), Cond.methodLink RX4 64 yX4_addToTable, Cond.instanceMethod yX4_addToTable, Cond.selects RX4 yX4_addToTable yX4_addToTable, Cond.code yX4_addToTable cX4_addToTable 5 none]
def wsX4_fillTable : List Cond := .code yX4_fillTable cX4_fillTable 5 none :: ((wsX4_fillTable_r1 ++ wsX4_fillTable_r2) ++ wsX40 ++ wsX70 ++ wsJx4a65c0)
def wsX4_pivotRow : List Cond := .code yX4_pivotRow cX4_pivotRow 4 (some .int) :: ([.fieldLink RX4 20 "Koebehall$Network" "rows" "[[J"] ++ wsX40)
def wsX4_swapRows : List Cond := .code yX4_swapRows cX4_swapRows 4 none :: ([.fieldLink RX4 20 "Koebehall$Network" "rows" "[[J"] ++ wsX40)
def wsX4_reduceBelow : List Cond := .code yX4_reduceBelow cX4_reduceBelow 9 none :: ([.fieldLink RX4 20 "Koebehall$Network" "rows" "[[J"] ++ wsX40)
def wsX4_determinant : List Cond := .code yX4_determinant cX4_determinant 8 (some .long) :: ([.fieldLink RX4 20 "Koebehall$Network" "rows" "[[J", .methodLink RX4 70 yX4_pivotRow, .instanceMethod yX4_pivotRow, .selects RX4 yX4_pivotRow yX4_pivotRow, .initialized RX4, .code yX4_pivotRow cX4_pivotRow 4 (some .int), .methodLink RX4 73 yX4_swapRows, .instanceMethod yX4_swapRows, .selects RX4 yX4_swapRows yX4_swapRows, .code yX4_swapRows cX4_swapRows 4 none, .methodLink RX4 77 yX4_reduceBelow, .instanceMethod yX4_reduceBelow, .selects RX4 yX4_reduceBelow yX4_reduceBelow, .code yX4_reduceBelow cX4_reduceBelow 9 none] ++ wsX40)
def wsX4_treesByTable_r1 : List Cond := [Cond.fieldLink RX4 23 "Koebehall$Network" "nodeCount" "I", Cond.methodLink RX4 34 yX4_fillTable, Cond.instanceMethod yX4_fillTable, Cond.selects RX4 yX4_fillTable yX4_fillTable, Cond.initialized RX4, Cond.code yX4_fillTable cX4_fillTable 5 none, Cond.fieldLink RX4 20 "Koebehall$Network" "rows" "[[J", Cond.fieldLink RX4 12 "Koebehall$Network" "wires" "Ljava/util/ArrayList;", Cond.classLink RX4 52 "Koebehall$Wire", Cond.constantLong RX4 68 (-1), Cond.methodLink RX4 42 yJ7_fill_d0a16, Cond.static yJ7_fill_d0a16, Cond.initialized RJ7, Cond.code yJ7_fill_d0a16 cJ7_fill_d0a16 5 none, Cond.methodLink RX4 30 yJx4a65c_size_8abf5, Cond.instanceMethod yJx4a65c_size_8abf5, Cond.selects RJx4a65c yJx4a65c_size_8abf5 yJx4a65c_size_8abf5, Cond.initialized RJx4a65c, Cond.code yJx4a65c_size_8abf5 cJx4a65c_size_8abf5 1 (some .int), Cond.fieldLink RJx4a65c 48 "java/util/ArrayList" "size" "I", Cond.methodLink RX4 48 yJx4a65c_get_915e3, Cond.instanceMethod yJx4a65c_get_915e3, Cond.selects RJx4a65c yJx4a65c_get_915e3 yJx4a65c_get_915e3, Cond.code yJx4a65c_get_915e3 cJx4a65c_get_915e3 2 (some (.object "java/lang/Object"))]
def wsX4_treesByTable_r2 : List Cond := [Cond.methodLink RJx4a65c 118 yJ15_checkIndex_7cf53, Cond.static yJ15_checkIndex_7cf53, Cond.initialized RJ15, Cond.code yJ15_checkIndex_7cf53 cJ15_checkIndex_7cf53 2 (some .int), Cond.methodLink RJ15 105 yJ3_checkIndex_8e157, Cond.static yJ3_checkIndex_8e157, Cond.initialized RJ3, Cond.code yJ3_checkIndex_8e157 cJ3_checkIndex_8e157 3 (some .int), Cond.methodLink RJx4a65c 123 yJx4a65c_elementData_915e3, Cond.instanceMethod yJx4a65c_elementData_915e3, Cond.selects RJx4a65c yJx4a65c_elementData_915e3 yJx4a65c_elementData_915e3, Cond.code yJx4a65c_elementData_915e3 cJx4a65c_elementData_915e3 2 (some (.object "java/lang/Object")), Cond.fieldLink RJx4a65c 9 "java/util/ArrayList" "elementData" "[Ljava/lang/Object;", Cond.methodLink RX4 57 yX4_lineOf, Cond.static yX4_lineOf, Cond.code yX4_lineOf cX4_lineOf 2 (some .int), Cond.methodLink RX4 64 yX4_addToTable, Cond.instanceMethod yX4_addToTable, Cond.selects RX4 yX4_addToTable yX4_addToTable, Cond.code yX4_addToTable cX4_addToTable 5 none, Cond.methodLink RX4 38 yX4_determinant, Cond.instanceMethod yX4_determinant, Cond.selects RX4 yX4_determinant yX4_determinant, Cond.code yX4_determinant cX4_determinant 8 (some .long)]
def wsX4_treesByTable_r3 : List Cond := [Cond.methodLink RX4 70 yX4_pivotRow, Cond.instanceMethod yX4_pivotRow, Cond.selects RX4 yX4_pivotRow yX4_pivotRow, Cond.code yX4_pivotRow cX4_pivotRow 4 (some .int), Cond.methodLink RX4 73 yX4_swapRows, Cond.instanceMethod yX4_swapRows, Cond.selects RX4 yX4_swapRows yX4_swapRows, Cond.code yX4_swapRows cX4_swapRows 4 none, Cond.methodLink RX4 77 yX4_reduceBelow, Cond.instanceMethod yX4_reduceBelow, Cond.selects RX4 yX4_reduceBelow yX4_reduceBelow, Cond.code yX4_reduceBelow cX4_reduceBelow 9 none]
def wsX4_treesByTable : List Cond := .code yX4_treesByTable cX4_treesByTable 1 (some .long) :: ((wsX4_treesByTable_r1 ++ (wsX4_treesByTable_r2 ++ wsX4_treesByTable_r3)) ++ wsX40 ++ wsX70 ++ wsJx4a65c0)
def wsJ6_bitCount_0f7a4 : List Cond := .code yJ6_bitCount_0f7a4 cJ6_bitCount_0f7a4 1 (some .int) :: ([.constant RJ6 265 (1431655765), .constant RJ6 266 (858993459), .constant RJ6 267 (252645135)])
def wsX4_hangsTogether_r1 : List Cond := [Cond.fieldLink RX4 23 "Koebehall$Network" "nodeCount" "I", Cond.fieldLink RX4 12 "Koebehall$Network" "wires" "Ljava/util/ArrayList;", Cond.classLink RX4 52 "Koebehall$Wire", Cond.methodLink RX4 30 yJx4a65c_size_8abf5, Cond.instanceMethod yJx4a65c_size_8abf5, Cond.selects RJx4a65c yJx4a65c_size_8abf5 yJx4a65c_size_8abf5, Cond.initialized RJx4a65c, Cond.code yJx4a65c_size_8abf5 cJx4a65c_size_8abf5 1 (some .int), Cond.fieldLink RJx4a65c 48 "java/util/ArrayList" "size" "I", Cond.methodLink RX4 48 yJx4a65c_get_915e3, Cond.instanceMethod yJx4a65c_get_915e3, Cond.selects RJx4a65c yJx4a65c_get_915e3 yJx4a65c_get_915e3, Cond.code yJx4a65c_get_915e3 cJx4a65c_get_915e3 2 (some (.object "java/lang/Object")), Cond.methodLink RJx4a65c 118 yJ15_checkIndex_7cf53, Cond.static yJ15_checkIndex_7cf53, Cond.initialized RJ15, Cond.code yJ15_checkIndex_7cf53 cJ15_checkIndex_7cf53 2 (some .int), Cond.methodLink RJ15 105 yJ3_checkIndex_8e157, Cond.static yJ3_checkIndex_8e157, Cond.initialized RJ3, Cond.code yJ3_checkIndex_8e157 cJ3_checkIndex_8e157 3 (some .int), Cond.methodLink RJx4a65c 123 yJx4a65c_elementData_915e3, Cond.instanceMethod yJx4a65c_elementData_915e3, Cond.selects RJx4a65c yJx4a65c_elementData_915e3 yJx4a65c_elementData_915e3]
def wsX4_hangsTogether_r2 : List Cond := [Cond.code yJx4a65c_elementData_915e3 cJx4a65c_elementData_915e3 2 (some (.object "java/lang/Object")), Cond.fieldLink RJx4a65c 9 "java/util/ArrayList" "elementData" "[Ljava/lang/Object;"]
def wsX4_hangsTogether : List Cond := .code yX4_hangsTogether cX4_hangsTogether 6 (some .boolean) :: ((wsX4_hangsTogether_r1 ++ wsX4_hangsTogether_r2) ++ wsX40 ++ wsX70 ++ wsJx4a65c0)
def wsX4_treesBySets_r1 : List Cond := [Cond.fieldLink RX4 12 "Koebehall$Network" "wires" "Ljava/util/ArrayList;", Cond.fieldLink RX4 23 "Koebehall$Network" "nodeCount" "I", Cond.methodLink RX4 30 yJx4a65c_size_8abf5, Cond.instanceMethod yJx4a65c_size_8abf5, Cond.selects RJx4a65c yJx4a65c_size_8abf5 yJx4a65c_size_8abf5, Cond.initialized RJx4a65c, Cond.code yJx4a65c_size_8abf5 cJx4a65c_size_8abf5 1 (some .int), Cond.fieldLink RJx4a65c 48 "java/util/ArrayList" "size" "I", Cond.methodLink RX4 80 yJ6_bitCount_0f7a4, Cond.static yJ6_bitCount_0f7a4, Cond.initialized RJ6, Cond.code yJ6_bitCount_0f7a4 cJ6_bitCount_0f7a4 1 (some .int), Cond.constant RJ6 265 (1431655765), Cond.constant RJ6 266 (858993459), Cond.constant RJ6 267 (252645135), Cond.methodLink RX4 86 yX4_hangsTogether, Cond.instanceMethod yX4_hangsTogether, Cond.selects RX4 yX4_hangsTogether yX4_hangsTogether, Cond.initialized RX4, Cond.code yX4_hangsTogether cX4_hangsTogether 6 (some .boolean), Cond.classLink RX4 52 "Koebehall$Wire", Cond.methodLink RX4 48 yJx4a65c_get_915e3, Cond.instanceMethod yJx4a65c_get_915e3, Cond.selects RJx4a65c yJx4a65c_get_915e3 yJx4a65c_get_915e3]
def wsX4_treesBySets_r2 : List Cond := [Cond.code yJx4a65c_get_915e3 cJx4a65c_get_915e3 2 (some (.object "java/lang/Object")), Cond.methodLink RJx4a65c 118 yJ15_checkIndex_7cf53, Cond.static yJ15_checkIndex_7cf53, Cond.initialized RJ15, Cond.code yJ15_checkIndex_7cf53 cJ15_checkIndex_7cf53 2 (some .int), Cond.methodLink RJ15 105 yJ3_checkIndex_8e157, Cond.static yJ3_checkIndex_8e157, Cond.initialized RJ3, Cond.code yJ3_checkIndex_8e157 cJ3_checkIndex_8e157 3 (some .int), Cond.methodLink RJx4a65c 123 yJx4a65c_elementData_915e3, Cond.instanceMethod yJx4a65c_elementData_915e3, Cond.selects RJx4a65c yJx4a65c_elementData_915e3 yJx4a65c_elementData_915e3, Cond.code yJx4a65c_elementData_915e3 cJx4a65c_elementData_915e3 2 (some (.object "java/lang/Object")), Cond.fieldLink RJx4a65c 9 "java/util/ArrayList" "elementData" "[Ljava/lang/Object;"]
def wsX4_treesBySets : List Cond := .code yX4_treesBySets cX4_treesBySets 3 (some .int) :: ((wsX4_treesBySets_r1 ++ wsX4_treesBySets_r2) ++ wsX40 ++ wsJx4a65c0 ++ wsX70)
def wsX4_heightOf_r1 : List Cond := [Cond.fieldLink RX4 23 "Koebehall$Network" "nodeCount" "I", Cond.fieldLink RX4 20 "Koebehall$Network" "rows" "[[J", Cond.methodLink RX4 57 yX4_lineOf, Cond.static yX4_lineOf, Cond.initialized RX4, Cond.code yX4_lineOf cX4_lineOf 2 (some .int), Cond.methodLink RX4 34 yX4_fillTable, Cond.instanceMethod yX4_fillTable, Cond.selects RX4 yX4_fillTable yX4_fillTable, Cond.code yX4_fillTable cX4_fillTable 5 none, Cond.fieldLink RX4 12 "Koebehall$Network" "wires" "Ljava/util/ArrayList;", Cond.classLink RX4 52 "Koebehall$Wire", Cond.constantLong RX4 68 (-1), Cond.methodLink RX4 42 yJ7_fill_d0a16, Cond.static yJ7_fill_d0a16, Cond.initialized RJ7, Cond.code yJ7_fill_d0a16 cJ7_fill_d0a16 5 none, Cond.methodLink RX4 30 yJx4a65c_size_8abf5, Cond.instanceMethod yJx4a65c_size_8abf5, Cond.selects RJx4a65c yJx4a65c_size_8abf5 yJx4a65c_size_8abf5, Cond.initialized RJx4a65c, Cond.code yJx4a65c_size_8abf5 cJx4a65c_size_8abf5 1 (some .int), Cond.fieldLink RJx4a65c 48 "java/util/ArrayList" "size" "I", Cond.methodLink RX4 48 yJx4a65c_get_915e3]
def wsX4_heightOf_r2 : List Cond := [Cond.instanceMethod yJx4a65c_get_915e3, Cond.selects RJx4a65c yJx4a65c_get_915e3 yJx4a65c_get_915e3, Cond.code yJx4a65c_get_915e3 cJx4a65c_get_915e3 2 (some (.object "java/lang/Object")), Cond.methodLink RJx4a65c 118 yJ15_checkIndex_7cf53, Cond.static yJ15_checkIndex_7cf53, Cond.initialized RJ15, Cond.code yJ15_checkIndex_7cf53 cJ15_checkIndex_7cf53 2 (some .int), Cond.methodLink RJ15 105 yJ3_checkIndex_8e157, Cond.static yJ3_checkIndex_8e157, Cond.initialized RJ3, Cond.code yJ3_checkIndex_8e157 cJ3_checkIndex_8e157 3 (some .int), Cond.methodLink RJx4a65c 123 yJx4a65c_elementData_915e3, Cond.instanceMethod yJx4a65c_elementData_915e3, Cond.selects RJx4a65c yJx4a65c_elementData_915e3 yJx4a65c_elementData_915e3, Cond.code yJx4a65c_elementData_915e3 cJx4a65c_elementData_915e3 2 (some (.object "java/lang/Object")), Cond.fieldLink RJx4a65c 9 "java/util/ArrayList" "elementData" "[Ljava/lang/Object;", Cond.methodLink RX4 64 yX4_addToTable, Cond.instanceMethod yX4_addToTable, Cond.selects RX4 yX4_addToTable yX4_addToTable, Cond.code yX4_addToTable cX4_addToTable 5 none, Cond.methodLink RX4 38 yX4_determinant, Cond.instanceMethod yX4_determinant, Cond.selects RX4 yX4_determinant yX4_determinant, Cond.code yX4_determinant cX4_determinant 8 (some .long)]
def wsX4_heightOf_r3 : List Cond := [Cond.methodLink RX4 70 yX4_pivotRow, Cond.instanceMethod yX4_pivotRow, Cond.selects RX4 yX4_pivotRow yX4_pivotRow, Cond.code yX4_pivotRow cX4_pivotRow 4 (some .int), Cond.methodLink RX4 73 yX4_swapRows, Cond.instanceMethod yX4_swapRows, Cond.selects RX4 yX4_swapRows yX4_swapRows, Cond.code yX4_swapRows cX4_swapRows 4 none, Cond.methodLink RX4 77 yX4_reduceBelow, Cond.instanceMethod yX4_reduceBelow, Cond.selects RX4 yX4_reduceBelow yX4_reduceBelow, Cond.code yX4_reduceBelow cX4_reduceBelow 9 none]
def wsX4_heightOf : List Cond := .code yX4_heightOf cX4_heightOf 6 (some .long) :: ((wsX4_heightOf_r1 ++ (wsX4_heightOf_r2 ++ wsX4_heightOf_r3)) ++ wsX40 ++ wsX70 ++ wsJx4a65c0)
def wsX4_fallAlong_r1 : List Cond := [Cond.fieldLink RX4 12 "Koebehall$Network" "wires" "Ljava/util/ArrayList;", Cond.classLink RX4 52 "Koebehall$Wire", Cond.methodLink RX4 90 yX4_hasWire, Cond.instanceMethod yX4_hasWire, Cond.selects RX4 yX4_hasWire yX4_hasWire, Cond.initialized RX4, Cond.code yX4_hasWire cX4_hasWire 2 (some .boolean), Cond.methodLink RX4 30 yJx4a65c_size_8abf5, Cond.instanceMethod yJx4a65c_size_8abf5, Cond.selects RJx4a65c yJx4a65c_size_8abf5 yJx4a65c_size_8abf5, Cond.initialized RJx4a65c, Cond.code yJx4a65c_size_8abf5 cJx4a65c_size_8abf5 1 (some .int), Cond.fieldLink RJx4a65c 48 "java/util/ArrayList" "size" "I", Cond.methodLink RX4 48 yJx4a65c_get_915e3, Cond.instanceMethod yJx4a65c_get_915e3, Cond.selects RJx4a65c yJx4a65c_get_915e3 yJx4a65c_get_915e3, Cond.code yJx4a65c_get_915e3 cJx4a65c_get_915e3 2 (some (.object "java/lang/Object")), Cond.methodLink RJx4a65c 118 yJ15_checkIndex_7cf53, Cond.static yJ15_checkIndex_7cf53, Cond.initialized RJ15, Cond.code yJ15_checkIndex_7cf53 cJ15_checkIndex_7cf53 2 (some .int), Cond.methodLink RJ15 105 yJ3_checkIndex_8e157, Cond.static yJ3_checkIndex_8e157, Cond.initialized RJ3]
def wsX4_fallAlong_r2 : List Cond := [Cond.code yJ3_checkIndex_8e157 cJ3_checkIndex_8e157 3 (some .int), Cond.methodLink RJx4a65c 123 yJx4a65c_elementData_915e3, Cond.instanceMethod yJx4a65c_elementData_915e3, Cond.selects RJx4a65c yJx4a65c_elementData_915e3 yJx4a65c_elementData_915e3, Cond.code yJx4a65c_elementData_915e3 cJx4a65c_elementData_915e3 2 (some (.object "java/lang/Object")), Cond.fieldLink RJx4a65c 9 "java/util/ArrayList" "elementData" "[Ljava/lang/Object;", Cond.methodLink RX4 93 yX4_heightOf, Cond.instanceMethod yX4_heightOf, Cond.selects RX4 yX4_heightOf yX4_heightOf, Cond.code yX4_heightOf cX4_heightOf 6 (some .long), Cond.fieldLink RX4 23 "Koebehall$Network" "nodeCount" "I", Cond.fieldLink RX4 20 "Koebehall$Network" "rows" "[[J", Cond.methodLink RX4 57 yX4_lineOf, Cond.static yX4_lineOf, Cond.code yX4_lineOf cX4_lineOf 2 (some .int), Cond.methodLink RX4 34 yX4_fillTable, Cond.instanceMethod yX4_fillTable, Cond.selects RX4 yX4_fillTable yX4_fillTable, Cond.code yX4_fillTable cX4_fillTable 5 none, Cond.constantLong RX4 68 (-1), Cond.methodLink RX4 42 yJ7_fill_d0a16, Cond.static yJ7_fill_d0a16, Cond.initialized RJ7, Cond.code yJ7_fill_d0a16 cJ7_fill_d0a16 5 none]
def wsX4_fallAlong_r3 : List Cond := [Cond.methodLink RX4 64 yX4_addToTable, Cond.instanceMethod yX4_addToTable, Cond.selects RX4 yX4_addToTable yX4_addToTable, Cond.code yX4_addToTable cX4_addToTable 5 none, Cond.methodLink RX4 38 yX4_determinant, Cond.instanceMethod yX4_determinant, Cond.selects RX4 yX4_determinant yX4_determinant, Cond.code yX4_determinant cX4_determinant 8 (some .long), Cond.methodLink RX4 70 yX4_pivotRow, Cond.instanceMethod yX4_pivotRow, Cond.selects RX4 yX4_pivotRow yX4_pivotRow, Cond.code yX4_pivotRow cX4_pivotRow 4 (some .int), Cond.methodLink RX4 73 yX4_swapRows, Cond.instanceMethod yX4_swapRows, Cond.selects RX4 yX4_swapRows yX4_swapRows, Cond.code yX4_swapRows cX4_swapRows 4 none, Cond.methodLink RX4 77 yX4_reduceBelow, Cond.instanceMethod yX4_reduceBelow, Cond.selects RX4 yX4_reduceBelow yX4_reduceBelow, Cond.code yX4_reduceBelow cX4_reduceBelow 9 none]
def wsX4_fallAlong : List Cond := .code yX4_fallAlong cX4_fallAlong 5 (some .long) :: ((wsX4_fallAlong_r1 ++ (wsX4_fallAlong_r2 ++ wsX4_fallAlong_r3)) ++ wsX40 ++ wsX70 ++ wsJx4a65c0)
def wsX5_init : List Cond := .code yX5_init cX5_init 1 none :: ([.methodLink RX5 3 objectInit, .instanceMethod objectInit, .code objectInit ⟨#[0xb1]⟩ 1 none, .arrayClass .long, .fieldLink RX5 11 "Koebehall$RemainderWalk" "seen" "[J", .fieldLink RX5 15 "Koebehall$RemainderWalk" "waiting" "[J"] ++ wsX50)
def wsJ9_floorMod_f86c9 : List Cond := .code yJ9_floorMod_f86c9 cJ9_floorMod_f86c9 6 (some .long) :: ([])
def wsX5_codeOf : List Cond := .code yX5_codeOf cX5_codeOf 4 (some .int) :: ([.methodLink RX5 44 yJ9_floorMod_f86c9, .static yJ9_floorMod_f86c9, .initialized RJ9, .code yJ9_floorMod_f86c9 cJ9_floorMod_f86c9 6 (some .long)])
def wsX5_noteCode : List Cond := .code yX5_noteCode cX5_noteCode 4 none :: ([.fieldLink RX5 11 "Koebehall$RemainderWalk" "seen" "[J", .fieldLink RX5 15 "Koebehall$RemainderWalk" "waiting" "[J"] ++ wsX50)
def wsJ6_numberOfTrailingZeros_0f7a4 : List Cond := .code yJ6_numberOfTrailingZeros_0f7a4 cJ6_numberOfTrailingZeros_0f7a4 2 (some .int) :: ([.constant RJ6 264 (65536)])
def wsJ13_numberOfTrailingZeros_95d88 : List Cond := .code yJ13_numberOfTrailingZeros_95d88 cJ13_numberOfTrailingZeros_95d88 3 (some .int) :: ([.methodLink RJ13 311 yJ6_numberOfTrailingZeros_0f7a4, .static yJ6_numberOfTrailingZeros_0f7a4, .initialized RJ6, .code yJ6_numberOfTrailingZeros_0f7a4 cJ6_numberOfTrailingZeros_0f7a4 2 (some .int), .constant RJ6 264 (65536)])
def wsX5_takeWaiting : List Cond := .code yX5_takeWaiting cX5_takeWaiting 3 (some .int) :: ([.fieldLink RX5 15 "Koebehall$RemainderWalk" "waiting" "[J", .methodLink RX5 52 yJ13_numberOfTrailingZeros_95d88, .static yJ13_numberOfTrailingZeros_95d88, .initialized RJ13, .code yJ13_numberOfTrailingZeros_95d88 cJ13_numberOfTrailingZeros_95d88 3 (some .int), .methodLink RJ13 311 yJ6_numberOfTrailingZeros_0f7a4, .static yJ6_numberOfTrailingZeros_0f7a4, .initialized RJ6, .code yJ6_numberOfTrailingZeros_0f7a4 cJ6_numberOfTrailingZeros_0f7a4 2 (some .int), .constant RJ6 264 (65536)] ++ wsX50)
def wsX5_remainderAt : List Cond := .code yX5_remainderAt cX5_remainderAt 2 (some .int) :: ([])
def wsJ9_floorMod_7cf53 : List Cond := .code yJ9_floorMod_7cf53 cJ9_floorMod_7cf53 3 (some .int) :: ([])
def wsX5_turnedCode : List Cond := .code yX5_turnedCode cX5_turnedCode 5 (some .int) :: ([.methodLink RX5 36 yX5_remainderAt, .static yX5_remainderAt, .initialized RX5, .code yX5_remainderAt cX5_remainderAt 2 (some .int), .methodLink RX5 50 yJ9_floorMod_7cf53, .static yJ9_floorMod_7cf53, .initialized RJ9, .code yJ9_floorMod_7cf53 cJ9_floorMod_7cf53 3 (some .int)])
def wsX5_allReached_r1 : List Cond := [Cond.fieldLink RX5 11 "Koebehall$RemainderWalk" "seen" "[J", Cond.fieldLink RX5 15 "Koebehall$RemainderWalk" "waiting" "[J", Cond.methodLink RX5 18 yJ7_fill_d0a16, Cond.static yJ7_fill_d0a16, Cond.initialized RJ7, Cond.code yJ7_fill_d0a16 cJ7_fill_d0a16 5 none, Cond.methodLink RX5 24 yX5_codeOf, Cond.static yX5_codeOf, Cond.initialized RX5, Cond.code yX5_codeOf cX5_codeOf 4 (some .int), Cond.methodLink RX5 44 yJ9_floorMod_f86c9, Cond.static yJ9_floorMod_f86c9, Cond.initialized RJ9, Cond.code yJ9_floorMod_f86c9 cJ9_floorMod_f86c9 6 (some .long), Cond.methodLink RX5 28 yX5_noteCode, Cond.instanceMethod yX5_noteCode, Cond.selects RX5 yX5_noteCode yX5_noteCode, Cond.code yX5_noteCode cX5_noteCode 4 none, Cond.methodLink RX5 32 yX5_takeWaiting, Cond.instanceMethod yX5_takeWaiting, Cond.selects RX5 yX5_takeWaiting yX5_takeWaiting, Cond.code yX5_takeWaiting cX5_takeWaiting 3 (some .int), Cond.methodLink RX5 52 yJ13_numberOfTrailingZeros_95d88, Cond.static yJ13_numberOfTrailingZeros_95d88]
def wsX5_allReached_r2 : List Cond := [Cond.initialized RJ13, Cond.code yJ13_numberOfTrailingZeros_95d88 cJ13_numberOfTrailingZeros_95d88 3 (some .int), Cond.methodLink RJ13 311 yJ6_numberOfTrailingZeros_0f7a4, Cond.static yJ6_numberOfTrailingZeros_0f7a4, Cond.initialized RJ6, Cond.code yJ6_numberOfTrailingZeros_0f7a4 cJ6_numberOfTrailingZeros_0f7a4 2 (some .int), Cond.constant RJ6 264 (65536), Cond.methodLink RX5 36 yX5_remainderAt, Cond.static yX5_remainderAt, Cond.code yX5_remainderAt cX5_remainderAt 2 (some .int), Cond.methodLink RX5 40 yX5_turnedCode, Cond.static yX5_turnedCode, Cond.code yX5_turnedCode cX5_turnedCode 5 (some .int), Cond.methodLink RX5 50 yJ9_floorMod_7cf53, Cond.static yJ9_floorMod_7cf53, Cond.code yJ9_floorMod_7cf53 cJ9_floorMod_7cf53 3 (some .int)]
def wsX5_allReached : List Cond := .code yX5_allReached cX5_allReached 7 (some .int) :: ((wsX5_allReached_r1 ++ wsX5_allReached_r2) ++ wsX50)
def wsX6_init : List Cond := .code yX6_init cX6_init 9 none :: ([.methodLink RX6 1 objectInit, .instanceMethod objectInit, .code objectInit ⟨#[0xb1]⟩ 1 none, .fieldLink RX6 7 "Koebehall$Table" "a" "J", .fieldLink RX6 13 "Koebehall$Table" "b" "J", .fieldLink RX6 16 "Koebehall$Table" "c" "J", .fieldLink RX6 19 "Koebehall$Table" "d" "J"] ++ wsX60)
def wsX6_undone : List Cond := .code yX6_undone cX6_undone 1 (some (.object "Koebehall$Table")) :: ([.classLink RX6 8 RX6, .instantiable RX6 4, .initialized RX6, .fieldLink RX6 19 "Koebehall$Table" "d" "J", .fieldLink RX6 13 "Koebehall$Table" "b" "J", .fieldLink RX6 16 "Koebehall$Table" "c" "J", .fieldLink RX6 7 "Koebehall$Table" "a" "J", .methodLink RX6 22 yX6_init, .instanceMethod yX6_init, .code yX6_init cX6_init 9 none, .methodLink RX6 1 objectInit, .instanceMethod objectInit, .code objectInit ⟨#[0xb1]⟩ 1 none] ++ wsX60)
def wsX6_times : List Cond := .code yX6_times cX6_times 2 (some (.object "Koebehall$Table")) :: ([.classLink RX6 8 RX6, .instantiable RX6 4, .initialized RX6, .fieldLink RX6 7 "Koebehall$Table" "a" "J", .fieldLink RX6 13 "Koebehall$Table" "b" "J", .fieldLink RX6 16 "Koebehall$Table" "c" "J", .fieldLink RX6 19 "Koebehall$Table" "d" "J", .methodLink RX6 22 yX6_init, .instanceMethod yX6_init, .code yX6_init cX6_init 9 none, .methodLink RX6 1 objectInit, .instanceMethod objectInit, .code objectInit ⟨#[0xb1]⟩ 1 none] ++ wsX60)
def wsX8_isWithin : List Cond := .code yX8_isWithin cX8_isWithin 4 (some .boolean) :: ([])
def wsX6_isWhollyWithin : List Cond := .code yX6_isWhollyWithin cX6_isWhollyWithin 3 (some .boolean) :: ([.fieldLink RX6 7 "Koebehall$Table" "a" "J", .fieldLink RX6 13 "Koebehall$Table" "b" "J", .fieldLink RX6 16 "Koebehall$Table" "c" "J", .fieldLink RX6 19 "Koebehall$Table" "d" "J", .static yX8_isWithin, .initialized RX8, .code yX8_isWithin cX8_isWithin 4 (some .boolean)] ++ wsX60)
def wsX6_trace : List Cond := .code yX6_trace cX6_trace 1 (some .long) :: ([.fieldLink RX6 7 "Koebehall$Table" "a" "J", .fieldLink RX6 19 "Koebehall$Table" "d" "J"] ++ wsX60)
def wsX6_kind : List Cond := .code yX6_kind cX6_kind 3 (some .int) :: ([.fieldLink RX6 13 "Koebehall$Table" "b" "J", .fieldLink RX6 16 "Koebehall$Table" "c" "J", .fieldLink RX6 7 "Koebehall$Table" "a" "J", .fieldLink RX6 19 "Koebehall$Table" "d" "J", .methodLink RX6 35 Lib.MathLoose.abs_long.x, .static Lib.MathLoose.abs_long.x, .initialized "java/lang/Math", .code Lib.MathLoose.abs_long.x Lib.MathLoose.abs_long.code 2 (some .long), .constantLong RX6 41 (2), .methodLink RX6 31 yX6_trace, .instanceMethod yX6_trace, .selects RX6 yX6_trace yX6_trace, .initialized RX6, .code yX6_trace cX6_trace 1 (some .long)] ++ wsX60)
def wsX7_init : List Cond := .code yX7_init cX7_init 3 none :: ([.methodLink RX7 1 objectInit, .instanceMethod objectInit, .code objectInit ⟨#[0xb1]⟩ 1 none, .fieldLink RX7 7 "Koebehall$Wire" "first" "I", .fieldLink RX7 13 "Koebehall$Wire" "second" "I"] ++ wsX70)
def wsX8_init_r1 : List Cond := [Cond.methodLink RX8 1 objectInit, Cond.instanceMethod objectInit, Cond.code objectInit ⟨#[0xb1]⟩ 1 none, Cond.classLink RX8 7 RX3, Cond.instantiable RX3 4, Cond.initialized RX3, Cond.fieldLink RX8 10 "Koebehall" "sphere" "LKoebehall$Net;", Cond.classLink RX8 16 RJx4a65c, Cond.instantiable RJx4a65c 3, Cond.initialized RJx4a65c, Cond.fieldLink RX8 19 "Koebehall" "disks" "Ljava/util/ArrayList;", Cond.fieldLink RX8 23 "Koebehall" "gaskets" "Ljava/util/ArrayList;", Cond.classLink RX8 26 RX5, Cond.instantiable RX5 2, Cond.initialized RX5, Cond.fieldLink RX8 29 "Koebehall" "remainderWalk" "LKoebehall$RemainderWalk;", Cond.fieldLink RX8 33 "Koebehall" "moves" "Ljava/util/ArrayList;", Cond.classLink RX8 36 RX6, Cond.instantiable RX6 4, Cond.initialized RX6, Cond.fieldLink RX8 41 "Koebehall" "product" "LKoebehall$Table;", Cond.classLink RX8 45 RX4, Cond.instantiable RX4 3, Cond.initialized RX4]
def wsX8_init_r2 : List Cond := [Cond.fieldLink RX8 48 "Koebehall" "network" "LKoebehall$Network;", Cond.instanceMethod yX3_init, Cond.code yX3_init cX3_init 2 none, Cond.methodLink RX3 5 objectInit, Cond.arrayClass .int, Cond.fieldLink RX3 11 "Koebehall$Net" "named" "[I", Cond.fieldLink RX3 15 "Koebehall$Net" "thirds" "[I", Cond.fieldLink RX3 24 "Koebehall$Net" "cornerCount" "I", Cond.fieldLink RX3 28 "Koebehall$Net" "faceCount" "I", Cond.fieldLink RX3 31 "Koebehall$Net" "FIRST_FACES" "[I", Cond.methodLink RX3 18 yJ7_fill_53178, Cond.static yJ7_fill_53178, Cond.initialized RJ7, Cond.code yJ7_fill_53178 cJ7_fill_53178 4 none, Cond.methodLink RX3 34 yX3_putFace, Cond.instanceMethod yX3_putFace, Cond.selects RX3 yX3_putFace yX3_putFace, Cond.code yX3_putFace cX3_putFace 5 none, Cond.methodLink RX3 42 yX3_putCorners, Cond.instanceMethod yX3_putCorners, Cond.selects RX3 yX3_putCorners yX3_putCorners, Cond.code yX3_putCorners cX3_putCorners 5 none, Cond.methodLink RX3 45 yX3_putThird, Cond.instanceMethod yX3_putThird]
def wsX8_init_r3 : List Cond := [Cond.selects RX3 yX3_putThird yX3_putThird, Cond.code yX3_putThird cX3_putThird 4 none, Cond.methodLink RX8 18 yJx4a65c_init_da8c8, Cond.instanceMethod yJx4a65c_init_da8c8, Cond.code yJx4a65c_init_da8c8 cJx4a65c_init_da8c8 1 none, Cond.fieldLink RJx4a65c 39 "java/util/ArrayList" "DEFAULTCAPACITY_EMPTY_ELEMENTDATA" "[Ljava/lang/Object;", Cond.fieldLink RJx4a65c 9 "java/util/ArrayList" "elementData" "[Ljava/lang/Object;", Cond.methodLink RJx4a65c 1 yJxc12de_init_da8c8, Cond.instanceMethod yJxc12de_init_da8c8, Cond.initialized RJxc12de, Cond.code yJxc12de_init_da8c8 cJxc12de_init_da8c8 1 none, Cond.fieldLink RJxc12de 7 "java/util/AbstractList" "modCount" "I", Cond.methodLink RJxc12de 1 yJxa1e45_init_da8c8, Cond.instanceMethod yJxa1e45_init_da8c8, Cond.initialized RJxa1e45, Cond.code yJxa1e45_init_da8c8 cJxa1e45_init_da8c8 1 none, Cond.methodLink RJxa1e45 1 objectInit, Cond.instanceMethod yX5_init, Cond.code yX5_init cX5_init 1 none, Cond.methodLink RX5 3 objectInit, Cond.arrayClass .long, Cond.fieldLink RX5 11 "Koebehall$RemainderWalk" "seen" "[J", Cond.fieldLink RX5 15 "Koebehall$RemainderWalk" "waiting" "[J", Cond.instanceMethod yX6_init]
def wsX8_init_r4 : List Cond := [Cond.code yX6_init cX6_init 9 none, Cond.methodLink RX6 1 objectInit, Cond.fieldLink RX6 7 "Koebehall$Table" "a" "J", Cond.fieldLink RX6 13 "Koebehall$Table" "b" "J", Cond.fieldLink RX6 16 "Koebehall$Table" "c" "J", Cond.fieldLink RX6 19 "Koebehall$Table" "d" "J", Cond.instanceMethod yX4_init, Cond.code yX4_init cX4_init 1 none, Cond.methodLink RX4 3 objectInit, Cond.classLink RX4 9 RJx4a65c, Cond.fieldLink RX4 12 "Koebehall$Network" "wires" "Ljava/util/ArrayList;", Cond.classLink RX4 18 "[[J", Cond.fieldLink RX4 20 "Koebehall$Network" "rows" "[[J", Cond.fieldLink RX4 23 "Koebehall$Network" "nodeCount" "I", Cond.methodLink RX4 11 yJx4a65c_init_da8c8]
def wsX8_init : List Cond := .code yX8_init cX8_init 1 none :: ((wsX8_init_r1 ++ (wsX8_init_r2 ++ (wsX8_init_r3 ++ wsX8_init_r4))) ++ wsX30 ++ wsX80 ++ wsJx4a65c0 ++ wsX50 ++ wsX60 ++ wsX40)
def wsX8_split_r1 : List Cond := [Cond.classLink RX8 56 "java/lang/IndexOutOfBoundsException", Cond.initialized "java/lang/IndexOutOfBoundsException", Cond.classLink RX8 67 "java/lang/IllegalStateException", Cond.initialized "java/lang/IllegalStateException", Cond.fieldLink RX8 10 "Koebehall" "sphere" "LKoebehall$Net;", Cond.instanceMethod yX3_hasFace, Cond.initialized RX3, Cond.selects RX3 yX3_hasFace yX3_hasFace, Cond.code yX3_hasFace cX3_hasFace 2 (some .boolean), Cond.fieldLink RX3 28 "Koebehall$Net" "faceCount" "I", Cond.instanceMethod yX3_isFull, Cond.selects RX3 yX3_isFull yX3_isFull, Cond.code yX3_isFull cX3_isFull 1 (some .boolean), Cond.fieldLink RX3 24 "Koebehall$Net" "cornerCount" "I", Cond.instanceMethod yX3_splitFace, Cond.selects RX3 yX3_splitFace yX3_splitFace, Cond.code yX3_splitFace cX3_splitFace 6 (some .int), Cond.methodLink RX3 38 yX3_cornerOf, Cond.instanceMethod yX3_cornerOf, Cond.selects RX3 yX3_cornerOf yX3_cornerOf, Cond.code yX3_cornerOf cX3_cornerOf 3 (some .int), Cond.fieldLink RX3 11 "Koebehall$Net" "named" "[I", Cond.methodLink RX3 34 yX3_putFace, Cond.instanceMethod yX3_putFace]
def wsX8_split_r2 : List Cond := [Cond.selects RX3 yX3_putFace yX3_putFace, Cond.code yX3_putFace cX3_putFace 5 none, Cond.methodLink RX3 42 yX3_putCorners, Cond.instanceMethod yX3_putCorners, Cond.selects RX3 yX3_putCorners yX3_putCorners, Cond.code yX3_putCorners cX3_putCorners 5 none, Cond.methodLink RX3 45 yX3_putThird, Cond.instanceMethod yX3_putThird, Cond.selects RX3 yX3_putThird yX3_putThird, Cond.code yX3_putThird cX3_putThird 4 none, Cond.fieldLink RX3 15 "Koebehall$Net" "thirds" "[I"]
def wsX8_split : List Cond := .code yX8_split cX8_split 2 (some .int) :: ((wsX8_split_r1 ++ wsX8_split_r2) ++ wsX80 ++ wsX30 ++ (vx_atS RX8 60 "java/lang/IndexOutOfBoundsException" ["java/lang/RuntimeException", "java/lang/Exception"]).filter goodWord ++ (vx_atS RX8 71 "java/lang/IllegalStateException" ["java/lang/RuntimeException", "java/lang/Exception"]).filter goodWord)
def wsX8_flip_r1 : List Cond := [Cond.classLink RX8 56 "java/lang/IndexOutOfBoundsException", Cond.initialized "java/lang/IndexOutOfBoundsException", Cond.classLink RX8 67 "java/lang/IllegalStateException", Cond.initialized "java/lang/IllegalStateException", Cond.fieldLink RX8 10 "Koebehall" "sphere" "LKoebehall$Net;", Cond.instanceMethod yX3_hasCorner, Cond.initialized RX3, Cond.selects RX3 yX3_hasCorner yX3_hasCorner, Cond.code yX3_hasCorner cX3_hasCorner 2 (some .boolean), Cond.fieldLink RX3 24 "Koebehall$Net" "cornerCount" "I", Cond.instanceMethod yX3_canFlip, Cond.selects RX3 yX3_canFlip yX3_canFlip, Cond.code yX3_canFlip cX3_canFlip 3 (some .boolean), Cond.methodLink RX3 56 yX3_areNeighbours, Cond.instanceMethod yX3_areNeighbours, Cond.selects RX3 yX3_areNeighbours yX3_areNeighbours, Cond.code yX3_areNeighbours cX3_areNeighbours 3 (some .boolean), Cond.methodLink RX3 53 yX3_thirdOf, Cond.instanceMethod yX3_thirdOf, Cond.selects RX3 yX3_thirdOf yX3_thirdOf, Cond.code yX3_thirdOf cX3_thirdOf 3 (some .int), Cond.fieldLink RX3 15 "Koebehall$Net" "thirds" "[I", Cond.methodLink RX3 49 yX3_hasCorner, Cond.instanceMethod yX3_flipEdge]
def wsX8_flip_r2 : List Cond := [Cond.selects RX3 yX3_flipEdge yX3_flipEdge, Cond.code yX3_flipEdge cX3_flipEdge 7 (some .int), Cond.methodLink RX3 63 Lib.Math.min.name, Cond.static Lib.Math.min.name, Cond.initialized "java/lang/Math", Cond.code Lib.Math.min.name Lib.Math.min.code 2 (some .int), Cond.methodLink RX3 68 Lib.Math.max.name, Cond.static Lib.Math.max.name, Cond.code Lib.Math.max.name Lib.Math.max.code 2 (some .int), Cond.methodLink RX3 60 yX3_faceWith, Cond.instanceMethod yX3_faceWith, Cond.selects RX3 yX3_faceWith yX3_faceWith, Cond.code yX3_faceWith cX3_faceWith 5 (some .int), Cond.fieldLink RX3 28 "Koebehall$Net" "faceCount" "I", Cond.fieldLink RX3 11 "Koebehall$Net" "named" "[I", Cond.methodLink RX3 45 yX3_putThird, Cond.instanceMethod yX3_putThird, Cond.selects RX3 yX3_putThird yX3_putThird, Cond.code yX3_putThird cX3_putThird 4 none, Cond.methodLink RX3 34 yX3_putFace, Cond.instanceMethod yX3_putFace, Cond.selects RX3 yX3_putFace yX3_putFace, Cond.code yX3_putFace cX3_putFace 5 none, Cond.methodLink RX3 42 yX3_putCorners]
def wsX8_flip_r3 : List Cond := [Cond.instanceMethod yX3_putCorners, Cond.selects RX3 yX3_putCorners yX3_putCorners, Cond.code yX3_putCorners cX3_putCorners 5 none]
def wsX8_flip : List Cond := .code yX8_flip cX8_flip 3 (some .int) :: ((wsX8_flip_r1 ++ (wsX8_flip_r2 ++ wsX8_flip_r3)) ++ wsX80 ++ wsX30 ++ (vx_atS RX8 60 "java/lang/IndexOutOfBoundsException" ["java/lang/RuntimeException", "java/lang/Exception"]).filter goodWord ++ (vx_atS RX8 71 "java/lang/IllegalStateException" ["java/lang/RuntimeException", "java/lang/Exception"]).filter goodWord)
def wsX8_corner : List Cond := .code yX8_corner cX8_corner 3 (some .int) :: ([.classLink RX8 56 "java/lang/IndexOutOfBoundsException", .initialized "java/lang/IndexOutOfBoundsException", .fieldLink RX8 10 "Koebehall" "sphere" "LKoebehall$Net;", .instanceMethod yX3_hasFace, .initialized RX3, .selects RX3 yX3_hasFace yX3_hasFace, .code yX3_hasFace cX3_hasFace 2 (some .boolean), .fieldLink RX3 28 "Koebehall$Net" "faceCount" "I", .instanceMethod yX3_cornerOf, .selects RX3 yX3_cornerOf yX3_cornerOf, .code yX3_cornerOf cX3_cornerOf 3 (some .int), .fieldLink RX3 11 "Koebehall$Net" "named" "[I"] ++ wsX80 ++ wsX30 ++ (vx_atS RX8 60 "java/lang/IndexOutOfBoundsException" ["java/lang/RuntimeException", "java/lang/Exception"]).filter goodWord)
def wsX8_around_r1 : List Cond := [Cond.classLink RX8 56 "java/lang/IndexOutOfBoundsException", Cond.initialized "java/lang/IndexOutOfBoundsException", Cond.fieldLink RX8 10 "Koebehall" "sphere" "LKoebehall$Net;", Cond.instanceMethod yX3_hasCorner, Cond.initialized RX3, Cond.selects RX3 yX3_hasCorner yX3_hasCorner, Cond.code yX3_hasCorner cX3_hasCorner 2 (some .boolean), Cond.fieldLink RX3 24 "Koebehall$Net" "cornerCount" "I", Cond.instanceMethod yX3_neighbourAt, Cond.selects RX3 yX3_neighbourAt yX3_neighbourAt, Cond.code yX3_neighbourAt cX3_neighbourAt 6 (some .int), Cond.methodLink RX3 71 yX3_lowestNeighbour, Cond.instanceMethod yX3_lowestNeighbour, Cond.selects RX3 yX3_lowestNeighbour yX3_lowestNeighbour, Cond.code yX3_lowestNeighbour cX3_lowestNeighbour 3 (some .int), Cond.methodLink RX3 56 yX3_areNeighbours, Cond.instanceMethod yX3_areNeighbours, Cond.selects RX3 yX3_areNeighbours yX3_areNeighbours, Cond.code yX3_areNeighbours cX3_areNeighbours 3 (some .boolean), Cond.methodLink RX3 53 yX3_thirdOf, Cond.instanceMethod yX3_thirdOf, Cond.selects RX3 yX3_thirdOf yX3_thirdOf, Cond.code yX3_thirdOf cX3_thirdOf 3 (some .int), Cond.fieldLink RX3 15 "Koebehall$Net" "thirds" "[I"]
def wsX8_around_r2 : List Cond := [Cond.methodLink RX3 49 yX3_hasCorner]
def wsX8_around : List Cond := .code yX8_around cX8_around 3 (some .int) :: ((wsX8_around_r1 ++ wsX8_around_r2) ++ wsX80 ++ wsX30 ++ (vx_atS RX8 60 "java/lang/IndexOutOfBoundsException" ["java/lang/RuntimeException", "java/lang/Exception"]).filter goodWord)
def wsX8_net_r1 : List Cond := [Cond.classLink RX8 56 "java/lang/IndexOutOfBoundsException", Cond.initialized "java/lang/IndexOutOfBoundsException", Cond.fieldLink RX8 10 "Koebehall" "sphere" "LKoebehall$Net;", Cond.instanceMethod yX3_edgeCount, Cond.initialized RX3, Cond.selects RX3 yX3_edgeCount yX3_edgeCount, Cond.code yX3_edgeCount cX3_edgeCount 1 (some .int), Cond.fieldLink RX3 28 "Koebehall$Net" "faceCount" "I", Cond.instanceMethod yX3_flippableCount, Cond.selects RX3 yX3_flippableCount yX3_flippableCount, Cond.code yX3_flippableCount cX3_flippableCount 4 (some .int), Cond.fieldLink RX3 24 "Koebehall$Net" "cornerCount" "I", Cond.methodLink RX3 75 yX3_canFlip, Cond.instanceMethod yX3_canFlip, Cond.selects RX3 yX3_canFlip yX3_canFlip, Cond.code yX3_canFlip cX3_canFlip 3 (some .boolean), Cond.methodLink RX3 56 yX3_areNeighbours, Cond.instanceMethod yX3_areNeighbours, Cond.selects RX3 yX3_areNeighbours yX3_areNeighbours, Cond.code yX3_areNeighbours cX3_areNeighbours 3 (some .boolean), Cond.methodLink RX3 53 yX3_thirdOf, Cond.instanceMethod yX3_thirdOf, Cond.selects RX3 yX3_thirdOf yX3_thirdOf, Cond.code yX3_thirdOf cX3_thirdOf 3 (some .int)]
def wsX8_net_r2 : List Cond := [Cond.fieldLink RX3 15 "Koebehall$Net" "thirds" "[I", Cond.methodLink RX3 49 yX3_hasCorner, Cond.instanceMethod yX3_hasCorner, Cond.selects RX3 yX3_hasCorner yX3_hasCorner, Cond.code yX3_hasCorner cX3_hasCorner 2 (some .boolean), Cond.instanceMethod yX3_mostNeighbours, Cond.selects RX3 yX3_mostNeighbours yX3_mostNeighbours, Cond.code yX3_mostNeighbours cX3_mostNeighbours 3 (some .int), Cond.methodLink RX3 68 Lib.Math.max.name, Cond.static Lib.Math.max.name, Cond.initialized "java/lang/Math", Cond.code Lib.Math.max.name Lib.Math.max.code 2 (some .int), Cond.methodLink RX3 78 yX3_facesAt, Cond.instanceMethod yX3_facesAt, Cond.selects RX3 yX3_facesAt yX3_facesAt, Cond.code yX3_facesAt cX3_facesAt 4 (some .int), Cond.fieldLink RX3 11 "Koebehall$Net" "named" "[I"]
def wsX8_net : List Cond := .code yX8_net cX8_net 2 (some .int) :: ((wsX8_net_r1 ++ wsX8_net_r2) ++ wsX80 ++ wsX30 ++ (vx_atS RX8 60 "java/lang/IndexOutOfBoundsException" ["java/lang/RuntimeException", "java/lang/Exception"]).filter goodWord)
def wsX8_isDisk : List Cond := .code yX8_isDisk cX8_isDisk 3 (some .boolean) :: ([.constantLong RX8 170 (1000000000), .constant RX8 176 (1000000000), .methodLink RX8 172 yX8_isWithin, .static yX8_isWithin, .initialized RX8, .code yX8_isWithin cX8_isWithin 4 (some .boolean)])
def wsJ8_hugeLength_7cf53 : List Cond := .code yJ8_hugeLength_7cf53 cJ8_hugeLength_7cf53 3 (some .int) :: ([.constant RJ8 200 (2147483639)])
def wsJ8_newLength_cabcc : List Cond := .code yJ8_newLength_cabcc cJ8_newLength_cabcc 4 (some .int) :: ([.methodLink RJ8 194 Lib.Math.max.name, .static Lib.Math.max.name, .initialized "java/lang/Math", .code Lib.Math.max.name Lib.Math.max.code 2 (some .int), .constant RJ8 200 (2147483639), .methodLink RJ8 201 yJ8_hugeLength_7cf53, .static yJ8_hugeLength_7cf53, .initialized RJ8, .code yJ8_hugeLength_7cf53 cJ8_hugeLength_7cf53 3 (some .int)])
def wsJ7_copyOf_6403c : List Cond := .code yJ7_copyOf_6403c cJ7_copyOf_6403c 4 (some (.array (.object "java/lang/Object"))) :: ([.classLink RJ7 110 "[Ljava/lang/Object;", .classLink RJ7 2 "java/lang/Object", .methodLink RJ7 304 Lib.Math.min.name, .static Lib.Math.min.name, .initialized "java/lang/Math", .code Lib.Math.min.name Lib.Math.min.code 2 (some .int), .methodLink RJ7 150 arraycopyName, .native arraycopyName, .static arraycopyName, .initialized "java/lang/System"])
def wsJ7_copyOf_1904c : List Cond := .code yJ7_copyOf_1904c cJ7_copyOf_1904c 2 (some (.array (.object "java/lang/Object"))) :: ([.methodLink RJ7 86 ⟨"java/lang/Object", "getClass", "()Ljava/lang/Class;"⟩, .selects "[Ljava/lang/Object;" ⟨"java/lang/Object", "getClass", "()Ljava/lang/Class;"⟩ ⟨"java/lang/Object", "getClass", "()Ljava/lang/Class;"⟩, .instanceMethod ⟨"java/lang/Object", "getClass", "()Ljava/lang/Class;"⟩, .native ⟨"java/lang/Object", "getClass", "()Ljava/lang/Class;"⟩, .methodLink RJ7 300 yJ7_copyOf_6403c, .static yJ7_copyOf_6403c, .initialized RJ7, .code yJ7_copyOf_6403c cJ7_copyOf_6403c 4 (some (.array (.object "java/lang/Object"))), .classLink RJ7 110 "[Ljava/lang/Object;", .classLink RJ7 2 "java/lang/Object", .methodLink RJ7 304 Lib.Math.min.name, .static Lib.Math.min.name, .initialized "java/lang/Math", .code Lib.Math.min.name Lib.Math.min.code 2 (some .int), .methodLink RJ7 150 arraycopyName, .native arraycopyName, .static arraycopyName, .initialized "java/lang/System"])
def wsJx4a65c_grow_92f84_r1 : List Cond := [Cond.fieldLink RJx4a65c 9 "java/util/ArrayList" "elementData" "[Ljava/lang/Object;", Cond.fieldLink RJx4a65c 39 "java/util/ArrayList" "DEFAULTCAPACITY_EMPTY_ELEMENTDATA" "[Ljava/lang/Object;", Cond.methodLink RJx4a65c 79 Lib.Math.max.name, Cond.static Lib.Math.max.name, Cond.initialized "java/lang/Math", Cond.code Lib.Math.max.name Lib.Math.max.code 2 (some .int), Cond.classLink RJx4a65c 7 "java/lang/Object", Cond.methodLink RJx4a65c 73 yJ8_newLength_cabcc, Cond.static yJ8_newLength_cabcc, Cond.initialized RJ8, Cond.code yJ8_newLength_cabcc cJ8_newLength_cabcc 4 (some .int), Cond.methodLink RJ8 194 Lib.Math.max.name, Cond.constant RJ8 200 (2147483639), Cond.methodLink RJ8 201 yJ8_hugeLength_7cf53, Cond.static yJ8_hugeLength_7cf53, Cond.code yJ8_hugeLength_7cf53 cJ8_hugeLength_7cf53 3 (some .int), Cond.methodLink RJx4a65c 66 yJ7_copyOf_1904c, Cond.static yJ7_copyOf_1904c, Cond.initialized RJ7, Cond.code yJ7_copyOf_1904c cJ7_copyOf_1904c 2 (some (.array (.object "java/lang/Object"))), Cond.methodLink RJ7 86 ⟨"java/lang/Object", "getClass", "()Ljava/lang/Class;"⟩, Cond.selects "[Ljava/lang/Object;" ⟨"java/lang/Object", "getClass", "()Ljava/lang/Class;"⟩ ⟨"java/lang/Object", "getClass", "()Ljava/lang/Class;"⟩, Cond.instanceMethod ⟨"java/lang/Object", "getClass", "()Ljava/lang/Class;"⟩, Cond.native ⟨"java/lang/Object", "getClass", "()Ljava/lang/Class;"⟩]
def wsJx4a65c_grow_92f84_r2 : List Cond := [Cond.methodLink RJ7 300 yJ7_copyOf_6403c, Cond.static yJ7_copyOf_6403c, Cond.code yJ7_copyOf_6403c cJ7_copyOf_6403c 4 (some (.array (.object "java/lang/Object"))), Cond.classLink RJ7 110 "[Ljava/lang/Object;", Cond.classLink RJ7 2 "java/lang/Object", Cond.methodLink RJ7 304 Lib.Math.min.name, Cond.static Lib.Math.min.name, Cond.code Lib.Math.min.name Lib.Math.min.code 2 (some .int), Cond.methodLink RJ7 150 arraycopyName, Cond.native arraycopyName, Cond.static arraycopyName, Cond.initialized "java/lang/System"]
def wsJx4a65c_grow_92f84 : List Cond := .code yJx4a65c_grow_92f84 cJx4a65c_grow_92f84 4 (some (.array (.object "java/lang/Object"))) :: ((wsJx4a65c_grow_92f84_r1 ++ wsJx4a65c_grow_92f84_r2) ++ wsJx4a65c0)
def wsJx4a65c_grow_d5877_r1 : List Cond := [Cond.fieldLink RJx4a65c 48 "java/util/ArrayList" "size" "I", Cond.methodLink RJx4a65c 69 yJx4a65c_grow_92f84, Cond.instanceMethod yJx4a65c_grow_92f84, Cond.selects RJx4a65c yJx4a65c_grow_92f84 yJx4a65c_grow_92f84, Cond.initialized RJx4a65c, Cond.code yJx4a65c_grow_92f84 cJx4a65c_grow_92f84 4 (some (.array (.object "java/lang/Object"))), Cond.fieldLink RJx4a65c 9 "java/util/ArrayList" "elementData" "[Ljava/lang/Object;", Cond.fieldLink RJx4a65c 39 "java/util/ArrayList" "DEFAULTCAPACITY_EMPTY_ELEMENTDATA" "[Ljava/lang/Object;", Cond.methodLink RJx4a65c 79 Lib.Math.max.name, Cond.static Lib.Math.max.name, Cond.initialized "java/lang/Math", Cond.code Lib.Math.max.name Lib.Math.max.code 2 (some .int), Cond.classLink RJx4a65c 7 "java/lang/Object", Cond.methodLink RJx4a65c 73 yJ8_newLength_cabcc, Cond.static yJ8_newLength_cabcc, Cond.initialized RJ8, Cond.code yJ8_newLength_cabcc cJ8_newLength_cabcc 4 (some .int), Cond.methodLink RJ8 194 Lib.Math.max.name, Cond.constant RJ8 200 (2147483639), Cond.methodLink RJ8 201 yJ8_hugeLength_7cf53, Cond.static yJ8_hugeLength_7cf53, Cond.code yJ8_hugeLength_7cf53 cJ8_hugeLength_7cf53 3 (some .int), Cond.methodLink RJx4a65c 66 yJ7_copyOf_1904c, Cond.static yJ7_copyOf_1904c]
def wsJx4a65c_grow_d5877_r2 : List Cond := [Cond.initialized RJ7, Cond.code yJ7_copyOf_1904c cJ7_copyOf_1904c 2 (some (.array (.object "java/lang/Object"))), Cond.methodLink RJ7 86 ⟨"java/lang/Object", "getClass", "()Ljava/lang/Class;"⟩, Cond.selects "[Ljava/lang/Object;" ⟨"java/lang/Object", "getClass", "()Ljava/lang/Class;"⟩ ⟨"java/lang/Object", "getClass", "()Ljava/lang/Class;"⟩, Cond.instanceMethod ⟨"java/lang/Object", "getClass", "()Ljava/lang/Class;"⟩, Cond.native ⟨"java/lang/Object", "getClass", "()Ljava/lang/Class;"⟩, Cond.methodLink RJ7 300 yJ7_copyOf_6403c, Cond.static yJ7_copyOf_6403c, Cond.code yJ7_copyOf_6403c cJ7_copyOf_6403c 4 (some (.array (.object "java/lang/Object"))), Cond.classLink RJ7 110 "[Ljava/lang/Object;", Cond.classLink RJ7 2 "java/lang/Object", Cond.methodLink RJ7 304 Lib.Math.min.name, Cond.static Lib.Math.min.name, Cond.code Lib.Math.min.name Lib.Math.min.code 2 (some .int), Cond.methodLink RJ7 150 arraycopyName, Cond.native arraycopyName, Cond.static arraycopyName, Cond.initialized "java/lang/System"]
def wsJx4a65c_grow_d5877 : List Cond := .code yJx4a65c_grow_d5877 cJx4a65c_grow_d5877 1 (some (.array (.object "java/lang/Object"))) :: ((wsJx4a65c_grow_d5877_r1 ++ wsJx4a65c_grow_d5877_r2) ++ wsJx4a65c0)
def wsJx4a65c_add_72be8_r1 : List Cond := [Cond.fieldLink RJx4a65c 48 "java/util/ArrayList" "size" "I", Cond.methodLink RJx4a65c 129 yJx4a65c_grow_d5877, Cond.instanceMethod yJx4a65c_grow_d5877, Cond.selects RJx4a65c yJx4a65c_grow_d5877 yJx4a65c_grow_d5877, Cond.initialized RJx4a65c, Cond.code yJx4a65c_grow_d5877 cJx4a65c_grow_d5877 1 (some (.array (.object "java/lang/Object"))), Cond.methodLink RJx4a65c 69 yJx4a65c_grow_92f84, Cond.instanceMethod yJx4a65c_grow_92f84, Cond.selects RJx4a65c yJx4a65c_grow_92f84 yJx4a65c_grow_92f84, Cond.code yJx4a65c_grow_92f84 cJx4a65c_grow_92f84 4 (some (.array (.object "java/lang/Object"))), Cond.fieldLink RJx4a65c 9 "java/util/ArrayList" "elementData" "[Ljava/lang/Object;", Cond.fieldLink RJx4a65c 39 "java/util/ArrayList" "DEFAULTCAPACITY_EMPTY_ELEMENTDATA" "[Ljava/lang/Object;", Cond.methodLink RJx4a65c 79 Lib.Math.max.name, Cond.static Lib.Math.max.name, Cond.initialized "java/lang/Math", Cond.code Lib.Math.max.name Lib.Math.max.code 2 (some .int), Cond.classLink RJx4a65c 7 "java/lang/Object", Cond.methodLink RJx4a65c 73 yJ8_newLength_cabcc, Cond.static yJ8_newLength_cabcc, Cond.initialized RJ8, Cond.code yJ8_newLength_cabcc cJ8_newLength_cabcc 4 (some .int), Cond.methodLink RJ8 194 Lib.Math.max.name, Cond.constant RJ8 200 (2147483639), Cond.methodLink RJ8 201 yJ8_hugeLength_7cf53]
def wsJx4a65c_add_72be8_r2 : List Cond := [Cond.static yJ8_hugeLength_7cf53, Cond.code yJ8_hugeLength_7cf53 cJ8_hugeLength_7cf53 3 (some .int), Cond.methodLink RJx4a65c 66 yJ7_copyOf_1904c, Cond.static yJ7_copyOf_1904c, Cond.initialized RJ7, Cond.code yJ7_copyOf_1904c cJ7_copyOf_1904c 2 (some (.array (.object "java/lang/Object"))), Cond.methodLink RJ7 86 ⟨"java/lang/Object", "getClass", "()Ljava/lang/Class;"⟩, Cond.selects "[Ljava/lang/Object;" ⟨"java/lang/Object", "getClass", "()Ljava/lang/Class;"⟩ ⟨"java/lang/Object", "getClass", "()Ljava/lang/Class;"⟩, Cond.instanceMethod ⟨"java/lang/Object", "getClass", "()Ljava/lang/Class;"⟩, Cond.native ⟨"java/lang/Object", "getClass", "()Ljava/lang/Class;"⟩, Cond.methodLink RJ7 300 yJ7_copyOf_6403c, Cond.static yJ7_copyOf_6403c, Cond.code yJ7_copyOf_6403c cJ7_copyOf_6403c 4 (some (.array (.object "java/lang/Object"))), Cond.classLink RJ7 110 "[Ljava/lang/Object;", Cond.classLink RJ7 2 "java/lang/Object", Cond.methodLink RJ7 304 Lib.Math.min.name, Cond.static Lib.Math.min.name, Cond.code Lib.Math.min.name Lib.Math.min.code 2 (some .int), Cond.methodLink RJ7 150 arraycopyName, Cond.native arraycopyName, Cond.static arraycopyName, Cond.initialized "java/lang/System"]
def wsJx4a65c_add_72be8 : List Cond := .code yJx4a65c_add_72be8 cJx4a65c_add_72be8 4 none :: ((wsJx4a65c_add_72be8_r1 ++ wsJx4a65c_add_72be8_r2) ++ wsJx4a65c0)
def wsJx4a65c_add_9ea2d_r1 : List Cond := [Cond.fieldLink RJx4a65c 63 "java/util/ArrayList" "modCount" "I", Cond.sameField "java/util/ArrayList" "java/util/AbstractList" "modCount" "I", Cond.fieldLink RJx4a65c 9 "java/util/ArrayList" "elementData" "[Ljava/lang/Object;", Cond.fieldLink RJx4a65c 48 "java/util/ArrayList" "size" "I", Cond.methodLink RJx4a65c 131 yJx4a65c_add_72be8, Cond.instanceMethod yJx4a65c_add_72be8, Cond.selects RJx4a65c yJx4a65c_add_72be8 yJx4a65c_add_72be8, Cond.initialized RJx4a65c, Cond.code yJx4a65c_add_72be8 cJx4a65c_add_72be8 4 none, Cond.methodLink RJx4a65c 129 yJx4a65c_grow_d5877, Cond.instanceMethod yJx4a65c_grow_d5877, Cond.selects RJx4a65c yJx4a65c_grow_d5877 yJx4a65c_grow_d5877, Cond.code yJx4a65c_grow_d5877 cJx4a65c_grow_d5877 1 (some (.array (.object "java/lang/Object"))), Cond.methodLink RJx4a65c 69 yJx4a65c_grow_92f84, Cond.instanceMethod yJx4a65c_grow_92f84, Cond.selects RJx4a65c yJx4a65c_grow_92f84 yJx4a65c_grow_92f84, Cond.code yJx4a65c_grow_92f84 cJx4a65c_grow_92f84 4 (some (.array (.object "java/lang/Object"))), Cond.fieldLink RJx4a65c 39 "java/util/ArrayList" "DEFAULTCAPACITY_EMPTY_ELEMENTDATA" "[Ljava/lang/Object;", Cond.methodLink RJx4a65c 79 Lib.Math.max.name, Cond.static Lib.Math.max.name, Cond.initialized "java/lang/Math", Cond.code Lib.Math.max.name Lib.Math.max.code 2 (some .int), Cond.classLink RJx4a65c 7 "java/lang/Object", Cond.methodLink RJx4a65c 73 yJ8_newLength_cabcc]
def wsJx4a65c_add_9ea2d_r2 : List Cond := [Cond.static yJ8_newLength_cabcc, Cond.initialized RJ8, Cond.code yJ8_newLength_cabcc cJ8_newLength_cabcc 4 (some .int), Cond.methodLink RJ8 194 Lib.Math.max.name, Cond.constant RJ8 200 (2147483639), Cond.methodLink RJ8 201 yJ8_hugeLength_7cf53, Cond.static yJ8_hugeLength_7cf53, Cond.code yJ8_hugeLength_7cf53 cJ8_hugeLength_7cf53 3 (some .int), Cond.methodLink RJx4a65c 66 yJ7_copyOf_1904c, Cond.static yJ7_copyOf_1904c, Cond.initialized RJ7, Cond.code yJ7_copyOf_1904c cJ7_copyOf_1904c 2 (some (.array (.object "java/lang/Object"))), Cond.methodLink RJ7 86 ⟨"java/lang/Object", "getClass", "()Ljava/lang/Class;"⟩, Cond.selects "[Ljava/lang/Object;" ⟨"java/lang/Object", "getClass", "()Ljava/lang/Class;"⟩ ⟨"java/lang/Object", "getClass", "()Ljava/lang/Class;"⟩, Cond.instanceMethod ⟨"java/lang/Object", "getClass", "()Ljava/lang/Class;"⟩, Cond.native ⟨"java/lang/Object", "getClass", "()Ljava/lang/Class;"⟩, Cond.methodLink RJ7 300 yJ7_copyOf_6403c, Cond.static yJ7_copyOf_6403c, Cond.code yJ7_copyOf_6403c cJ7_copyOf_6403c 4 (some (.array (.object "java/lang/Object"))), Cond.classLink RJ7 110 "[Ljava/lang/Object;", Cond.classLink RJ7 2 "java/lang/Object", Cond.methodLink RJ7 304 Lib.Math.min.name, Cond.static Lib.Math.min.name, Cond.code Lib.Math.min.name Lib.Math.min.code 2 (some .int)]
def wsJx4a65c_add_9ea2d_r3 : List Cond := [Cond.methodLink RJ7 150 arraycopyName, Cond.native arraycopyName, Cond.static arraycopyName, Cond.initialized "java/lang/System"]
def wsJx4a65c_add_9ea2d : List Cond := .code yJx4a65c_add_9ea2d cJx4a65c_add_9ea2d 2 (some .boolean) :: ((wsJx4a65c_add_9ea2d_r1 ++ (wsJx4a65c_add_9ea2d_r2 ++ wsJx4a65c_add_9ea2d_r3)) ++ wsJx4a65c0)
def wsX8_disk_r1 : List Cond := [Cond.classLink RX8 124 "java/lang/IllegalArgumentException", Cond.initialized "java/lang/IllegalArgumentException", Cond.classLink RX8 67 "java/lang/IllegalStateException", Cond.initialized "java/lang/IllegalStateException", Cond.fieldLink RX8 19 "Koebehall" "disks" "Ljava/util/ArrayList;", Cond.classLink RX8 134 RX0, Cond.instantiable RX0 3, Cond.initialized RX0, Cond.methodLink RX8 120 yX8_isDisk, Cond.static yX8_isDisk, Cond.initialized RX8, Cond.code yX8_isDisk cX8_isDisk 3 (some .boolean), Cond.constantLong RX8 170 (1000000000), Cond.constant RX8 176 (1000000000), Cond.methodLink RX8 172 yX8_isWithin, Cond.static yX8_isWithin, Cond.code yX8_isWithin cX8_isWithin 4 (some .boolean), Cond.methodLink RX8 129 yJx4a65c_size_8abf5, Cond.instanceMethod yJx4a65c_size_8abf5, Cond.selects RJx4a65c yJx4a65c_size_8abf5 yJx4a65c_size_8abf5, Cond.initialized RJx4a65c, Cond.code yJx4a65c_size_8abf5 cJx4a65c_size_8abf5 1 (some .int), Cond.fieldLink RJx4a65c 48 "java/util/ArrayList" "size" "I", Cond.instanceMethod yX0_init]
def wsX8_disk_r2 : List Cond := [Cond.code yX0_init cX0_init 7 none, Cond.methodLink RX0 3 objectInit, Cond.instanceMethod objectInit, Cond.code objectInit ⟨#[0xb1]⟩ 1 none, Cond.fieldLink RX0 9 "Koebehall$Disk" "x" "J", Cond.fieldLink RX0 15 "Koebehall$Disk" "y" "J", Cond.fieldLink RX0 18 "Koebehall$Disk" "radius" "J", Cond.methodLink RX8 139 yJx4a65c_add_9ea2d, Cond.instanceMethod yJx4a65c_add_9ea2d, Cond.selects RJx4a65c yJx4a65c_add_9ea2d yJx4a65c_add_9ea2d, Cond.code yJx4a65c_add_9ea2d cJx4a65c_add_9ea2d 2 (some .boolean), Cond.fieldLink RJx4a65c 63 "java/util/ArrayList" "modCount" "I", Cond.sameField "java/util/ArrayList" "java/util/AbstractList" "modCount" "I", Cond.fieldLink RJx4a65c 9 "java/util/ArrayList" "elementData" "[Ljava/lang/Object;", Cond.methodLink RJx4a65c 131 yJx4a65c_add_72be8, Cond.instanceMethod yJx4a65c_add_72be8, Cond.selects RJx4a65c yJx4a65c_add_72be8 yJx4a65c_add_72be8, Cond.code yJx4a65c_add_72be8 cJx4a65c_add_72be8 4 none, Cond.methodLink RJx4a65c 129 yJx4a65c_grow_d5877, Cond.instanceMethod yJx4a65c_grow_d5877, Cond.selects RJx4a65c yJx4a65c_grow_d5877 yJx4a65c_grow_d5877, Cond.code yJx4a65c_grow_d5877 cJx4a65c_grow_d5877 1 (some (.array (.object "java/lang/Object"))), Cond.methodLink RJx4a65c 69 yJx4a65c_grow_92f84, Cond.instanceMethod yJx4a65c_grow_92f84]
def wsX8_disk_r3 : List Cond := [Cond.selects RJx4a65c yJx4a65c_grow_92f84 yJx4a65c_grow_92f84, Cond.code yJx4a65c_grow_92f84 cJx4a65c_grow_92f84 4 (some (.array (.object "java/lang/Object"))), Cond.fieldLink RJx4a65c 39 "java/util/ArrayList" "DEFAULTCAPACITY_EMPTY_ELEMENTDATA" "[Ljava/lang/Object;", Cond.methodLink RJx4a65c 79 Lib.Math.max.name, Cond.static Lib.Math.max.name, Cond.initialized "java/lang/Math", Cond.code Lib.Math.max.name Lib.Math.max.code 2 (some .int), Cond.classLink RJx4a65c 7 "java/lang/Object", Cond.methodLink RJx4a65c 73 yJ8_newLength_cabcc, Cond.static yJ8_newLength_cabcc, Cond.initialized RJ8, Cond.code yJ8_newLength_cabcc cJ8_newLength_cabcc 4 (some .int), Cond.methodLink RJ8 194 Lib.Math.max.name, Cond.constant RJ8 200 (2147483639), Cond.methodLink RJ8 201 yJ8_hugeLength_7cf53, Cond.static yJ8_hugeLength_7cf53, Cond.code yJ8_hugeLength_7cf53 cJ8_hugeLength_7cf53 3 (some .int), Cond.methodLink RJx4a65c 66 yJ7_copyOf_1904c, Cond.static yJ7_copyOf_1904c, Cond.initialized RJ7, Cond.code yJ7_copyOf_1904c cJ7_copyOf_1904c 2 (some (.array (.object "java/lang/Object"))), Cond.methodLink RJ7 86 ⟨"java/lang/Object", "getClass", "()Ljava/lang/Class;"⟩, Cond.selects "[Ljava/lang/Object;" ⟨"java/lang/Object", "getClass", "()Ljava/lang/Class;"⟩ ⟨"java/lang/Object", "getClass", "()Ljava/lang/Class;"⟩, Cond.instanceMethod ⟨"java/lang/Object", "getClass", "()Ljava/lang/Class;"⟩]
def wsX8_disk_r4 : List Cond := [Cond.native ⟨"java/lang/Object", "getClass", "()Ljava/lang/Class;"⟩, Cond.methodLink RJ7 300 yJ7_copyOf_6403c, Cond.static yJ7_copyOf_6403c, Cond.code yJ7_copyOf_6403c cJ7_copyOf_6403c 4 (some (.array (.object "java/lang/Object"))), Cond.classLink RJ7 110 "[Ljava/lang/Object;", Cond.classLink RJ7 2 "java/lang/Object", Cond.methodLink RJ7 304 Lib.Math.min.name, Cond.static Lib.Math.min.name, Cond.code Lib.Math.min.name Lib.Math.min.code 2 (some .int), Cond.methodLink RJ7 150 arraycopyName, Cond.native arraycopyName, Cond.static arraycopyName, Cond.initialized "java/lang/System"]
def wsX8_disk : List Cond := .code yX8_disk cX8_disk 4 (some .int) :: ((wsX8_disk_r1 ++ (wsX8_disk_r2 ++ (wsX8_disk_r3 ++ wsX8_disk_r4))) ++ wsX80 ++ wsX00 ++ wsJx4a65c0 ++ (vx_atS RX8 128 "java/lang/IllegalArgumentException" ["java/lang/RuntimeException", "java/lang/Exception"]).filter goodWord ++ (vx_atS RX8 71 "java/lang/IllegalStateException" ["java/lang/RuntimeException", "java/lang/Exception"]).filter goodWord)
def wsX8_hasDisk : List Cond := .code yX8_hasDisk cX8_hasDisk 2 (some .boolean) :: ([.fieldLink RX8 19 "Koebehall" "disks" "Ljava/util/ArrayList;", .methodLink RX8 129 yJx4a65c_size_8abf5, .instanceMethod yJx4a65c_size_8abf5, .selects RJx4a65c yJx4a65c_size_8abf5 yJx4a65c_size_8abf5, .initialized RJx4a65c, .code yJx4a65c_size_8abf5 cJx4a65c_size_8abf5 1 (some .int), .fieldLink RJx4a65c 48 "java/util/ArrayList" "size" "I"] ++ wsX80 ++ wsJx4a65c0)
def wsJx4a65c_set_bcc79 : List Cond := .code yJx4a65c_set_bcc79 cJx4a65c_set_bcc79 4 (some (.object "java/lang/Object")) :: ([.fieldLink RJx4a65c 48 "java/util/ArrayList" "size" "I", .fieldLink RJx4a65c 9 "java/util/ArrayList" "elementData" "[Ljava/lang/Object;", .methodLink RJx4a65c 118 yJ15_checkIndex_7cf53, .static yJ15_checkIndex_7cf53, .initialized RJ15, .code yJ15_checkIndex_7cf53 cJ15_checkIndex_7cf53 2 (some .int), .methodLink RJ15 105 yJ3_checkIndex_8e157, .static yJ3_checkIndex_8e157, .initialized RJ3, .code yJ3_checkIndex_8e157 cJ3_checkIndex_8e157 3 (some .int), .methodLink RJx4a65c 123 yJx4a65c_elementData_915e3, .instanceMethod yJx4a65c_elementData_915e3, .selects RJx4a65c yJx4a65c_elementData_915e3 yJx4a65c_elementData_915e3, .initialized RJx4a65c, .code yJx4a65c_elementData_915e3 cJx4a65c_elementData_915e3 2 (some (.object "java/lang/Object"))] ++ wsJx4a65c0)
def wsX8_move_r1 : List Cond := [Cond.classLink RX8 56 "java/lang/IndexOutOfBoundsException", Cond.initialized "java/lang/IndexOutOfBoundsException", Cond.classLink RX8 124 "java/lang/IllegalArgumentException", Cond.initialized "java/lang/IllegalArgumentException", Cond.fieldLink RX8 19 "Koebehall" "disks" "Ljava/util/ArrayList;", Cond.classLink RX8 134 "Koebehall$Disk", Cond.classLink RX8 134 RX0, Cond.instantiable RX0 3, Cond.initialized RX0, Cond.methodLink RX8 143 yX8_hasDisk, Cond.instanceMethod yX8_hasDisk, Cond.selects RX8 yX8_hasDisk yX8_hasDisk, Cond.initialized RX8, Cond.code yX8_hasDisk cX8_hasDisk 2 (some .boolean), Cond.methodLink RX8 129 yJx4a65c_size_8abf5, Cond.instanceMethod yJx4a65c_size_8abf5, Cond.selects RJx4a65c yJx4a65c_size_8abf5 yJx4a65c_size_8abf5, Cond.initialized RJx4a65c, Cond.code yJx4a65c_size_8abf5 cJx4a65c_size_8abf5 1 (some .int), Cond.fieldLink RJx4a65c 48 "java/util/ArrayList" "size" "I", Cond.methodLink RX8 120 yX8_isDisk, Cond.static yX8_isDisk, Cond.code yX8_isDisk cX8_isDisk 3 (some .boolean), Cond.constantLong RX8 170 (1000000000)]
def wsX8_move_r2 : List Cond := [Cond.constant RX8 176 (1000000000), Cond.methodLink RX8 172 yX8_isWithin, Cond.static yX8_isWithin, Cond.code yX8_isWithin cX8_isWithin 4 (some .boolean), Cond.methodLink RX8 148 yJx4a65c_get_915e3, Cond.instanceMethod yJx4a65c_get_915e3, Cond.selects RJx4a65c yJx4a65c_get_915e3 yJx4a65c_get_915e3, Cond.code yJx4a65c_get_915e3 cJx4a65c_get_915e3 2 (some (.object "java/lang/Object")), Cond.methodLink RJx4a65c 118 yJ15_checkIndex_7cf53, Cond.static yJ15_checkIndex_7cf53, Cond.initialized RJ15, Cond.code yJ15_checkIndex_7cf53 cJ15_checkIndex_7cf53 2 (some .int), Cond.methodLink RJ15 105 yJ3_checkIndex_8e157, Cond.static yJ3_checkIndex_8e157, Cond.initialized RJ3, Cond.code yJ3_checkIndex_8e157 cJ3_checkIndex_8e157 3 (some .int), Cond.methodLink RJx4a65c 123 yJx4a65c_elementData_915e3, Cond.instanceMethod yJx4a65c_elementData_915e3, Cond.selects RJx4a65c yJx4a65c_elementData_915e3 yJx4a65c_elementData_915e3, Cond.code yJx4a65c_elementData_915e3 cJx4a65c_elementData_915e3 2 (some (.object "java/lang/Object")), Cond.fieldLink RJx4a65c 9 "java/util/ArrayList" "elementData" "[Ljava/lang/Object;", Cond.instanceMethod yX0_init, Cond.code yX0_init cX0_init 7 none, Cond.methodLink RX0 3 objectInit]
def wsX8_move_r3 : List Cond := [Cond.instanceMethod objectInit, Cond.code objectInit ⟨#[0xb1]⟩ 1 none, Cond.fieldLink RX0 9 "Koebehall$Disk" "x" "J", Cond.fieldLink RX0 15 "Koebehall$Disk" "y" "J", Cond.fieldLink RX0 18 "Koebehall$Disk" "radius" "J", Cond.methodLink RX8 152 yJx4a65c_set_bcc79, Cond.instanceMethod yJx4a65c_set_bcc79, Cond.selects RJx4a65c yJx4a65c_set_bcc79 yJx4a65c_set_bcc79, Cond.code yJx4a65c_set_bcc79 cJx4a65c_set_bcc79 4 (some (.object "java/lang/Object"))]
def wsX8_move : List Cond := .code yX8_move cX8_move 6 (some .int) :: ((wsX8_move_r1 ++ (wsX8_move_r2 ++ wsX8_move_r3)) ++ wsX80 ++ wsX00 ++ wsJx4a65c0 ++ (vx_atS RX8 60 "java/lang/IndexOutOfBoundsException" ["java/lang/RuntimeException", "java/lang/Exception"]).filter goodWord ++ (vx_atS RX8 128 "java/lang/IllegalArgumentException" ["java/lang/RuntimeException", "java/lang/Exception"]).filter goodWord)
def wsX8_howDisksLie_r1 : List Cond := [Cond.fieldLink RX8 19 "Koebehall" "disks" "Ljava/util/ArrayList;", Cond.classLink RX8 134 "Koebehall$Disk", Cond.methodLink RX8 143 yX8_hasDisk, Cond.instanceMethod yX8_hasDisk, Cond.selects RX8 yX8_hasDisk yX8_hasDisk, Cond.initialized RX8, Cond.code yX8_hasDisk cX8_hasDisk 2 (some .boolean), Cond.methodLink RX8 129 yJx4a65c_size_8abf5, Cond.instanceMethod yJx4a65c_size_8abf5, Cond.selects RJx4a65c yJx4a65c_size_8abf5 yJx4a65c_size_8abf5, Cond.initialized RJx4a65c, Cond.code yJx4a65c_size_8abf5 cJx4a65c_size_8abf5 1 (some .int), Cond.fieldLink RJx4a65c 48 "java/util/ArrayList" "size" "I", Cond.methodLink RX8 148 yJx4a65c_get_915e3, Cond.instanceMethod yJx4a65c_get_915e3, Cond.selects RJx4a65c yJx4a65c_get_915e3 yJx4a65c_get_915e3, Cond.code yJx4a65c_get_915e3 cJx4a65c_get_915e3 2 (some (.object "java/lang/Object")), Cond.methodLink RJx4a65c 118 yJ15_checkIndex_7cf53, Cond.static yJ15_checkIndex_7cf53, Cond.initialized RJ15, Cond.code yJ15_checkIndex_7cf53 cJ15_checkIndex_7cf53 2 (some .int), Cond.methodLink RJ15 105 yJ3_checkIndex_8e157, Cond.static yJ3_checkIndex_8e157, Cond.initialized RJ3]
def wsX8_howDisksLie_r2 : List Cond := [Cond.code yJ3_checkIndex_8e157 cJ3_checkIndex_8e157 3 (some .int), Cond.methodLink RJx4a65c 123 yJx4a65c_elementData_915e3, Cond.instanceMethod yJx4a65c_elementData_915e3, Cond.selects RJx4a65c yJx4a65c_elementData_915e3 yJx4a65c_elementData_915e3, Cond.code yJx4a65c_elementData_915e3 cJx4a65c_elementData_915e3 2 (some (.object "java/lang/Object")), Cond.fieldLink RJx4a65c 9 "java/util/ArrayList" "elementData" "[Ljava/lang/Object;", Cond.instanceMethod yX0_howItLies, Cond.initialized RX0, Cond.selects RX0 yX0_howItLies yX0_howItLies, Cond.code yX0_howItLies cX0_howItLies 10 (some .int), Cond.fieldLink RX0 9 "Koebehall$Disk" "x" "J", Cond.fieldLink RX0 15 "Koebehall$Disk" "y" "J", Cond.fieldLink RX0 18 "Koebehall$Disk" "radius" "J"]
def wsX8_howDisksLie : List Cond := .code yX8_howDisksLie cX8_howDisksLie 3 (some .int) :: ((wsX8_howDisksLie_r1 ++ wsX8_howDisksLie_r2) ++ wsX80 ++ wsJx4a65c0 ++ wsX00)
def wsX8_lie_r1 : List Cond := [Cond.classLink RX8 56 "java/lang/IndexOutOfBoundsException", Cond.initialized "java/lang/IndexOutOfBoundsException", Cond.classLink RX8 124 "java/lang/IllegalArgumentException", Cond.initialized "java/lang/IllegalArgumentException", Cond.methodLink RX8 143 yX8_hasDisk, Cond.instanceMethod yX8_hasDisk, Cond.selects RX8 yX8_hasDisk yX8_hasDisk, Cond.initialized RX8, Cond.code yX8_hasDisk cX8_hasDisk 2 (some .boolean), Cond.fieldLink RX8 19 "Koebehall" "disks" "Ljava/util/ArrayList;", Cond.methodLink RX8 129 yJx4a65c_size_8abf5, Cond.instanceMethod yJx4a65c_size_8abf5, Cond.selects RJx4a65c yJx4a65c_size_8abf5 yJx4a65c_size_8abf5, Cond.initialized RJx4a65c, Cond.code yJx4a65c_size_8abf5 cJx4a65c_size_8abf5 1 (some .int), Cond.fieldLink RJx4a65c 48 "java/util/ArrayList" "size" "I", Cond.methodLink RX8 162 yX8_howDisksLie, Cond.instanceMethod yX8_howDisksLie, Cond.selects RX8 yX8_howDisksLie yX8_howDisksLie, Cond.code yX8_howDisksLie cX8_howDisksLie 3 (some .int), Cond.classLink RX8 134 "Koebehall$Disk", Cond.methodLink RX8 148 yJx4a65c_get_915e3, Cond.instanceMethod yJx4a65c_get_915e3, Cond.selects RJx4a65c yJx4a65c_get_915e3 yJx4a65c_get_915e3]
def wsX8_lie_r2 : List Cond := [Cond.code yJx4a65c_get_915e3 cJx4a65c_get_915e3 2 (some (.object "java/lang/Object")), Cond.methodLink RJx4a65c 118 yJ15_checkIndex_7cf53, Cond.static yJ15_checkIndex_7cf53, Cond.initialized RJ15, Cond.code yJ15_checkIndex_7cf53 cJ15_checkIndex_7cf53 2 (some .int), Cond.methodLink RJ15 105 yJ3_checkIndex_8e157, Cond.static yJ3_checkIndex_8e157, Cond.initialized RJ3, Cond.code yJ3_checkIndex_8e157 cJ3_checkIndex_8e157 3 (some .int), Cond.methodLink RJx4a65c 123 yJx4a65c_elementData_915e3, Cond.instanceMethod yJx4a65c_elementData_915e3, Cond.selects RJx4a65c yJx4a65c_elementData_915e3 yJx4a65c_elementData_915e3, Cond.code yJx4a65c_elementData_915e3 cJx4a65c_elementData_915e3 2 (some (.object "java/lang/Object")), Cond.fieldLink RJx4a65c 9 "java/util/ArrayList" "elementData" "[Ljava/lang/Object;", Cond.instanceMethod yX0_howItLies, Cond.initialized RX0, Cond.selects RX0 yX0_howItLies yX0_howItLies, Cond.code yX0_howItLies cX0_howItLies 10 (some .int), Cond.fieldLink RX0 9 "Koebehall$Disk" "x" "J", Cond.fieldLink RX0 15 "Koebehall$Disk" "y" "J", Cond.fieldLink RX0 18 "Koebehall$Disk" "radius" "J"]
def wsX8_lie : List Cond := .code yX8_lie cX8_lie 3 (some .int) :: ((wsX8_lie_r1 ++ wsX8_lie_r2) ++ wsX80 ++ wsJx4a65c0 ++ wsX00 ++ (vx_atS RX8 60 "java/lang/IndexOutOfBoundsException" ["java/lang/RuntimeException", "java/lang/Exception"]).filter goodWord ++ (vx_atS RX8 128 "java/lang/IllegalArgumentException" ["java/lang/RuntimeException", "java/lang/Exception"]).filter goodWord)
def wsX8_pairs_r1 : List Cond := [Cond.classLink RX8 124 "java/lang/IllegalArgumentException", Cond.initialized "java/lang/IllegalArgumentException", Cond.fieldLink RX8 19 "Koebehall" "disks" "Ljava/util/ArrayList;", Cond.methodLink RX8 129 yJx4a65c_size_8abf5, Cond.instanceMethod yJx4a65c_size_8abf5, Cond.selects RJx4a65c yJx4a65c_size_8abf5 yJx4a65c_size_8abf5, Cond.initialized RJx4a65c, Cond.code yJx4a65c_size_8abf5 cJx4a65c_size_8abf5 1 (some .int), Cond.fieldLink RJx4a65c 48 "java/util/ArrayList" "size" "I", Cond.methodLink RX8 162 yX8_howDisksLie, Cond.instanceMethod yX8_howDisksLie, Cond.selects RX8 yX8_howDisksLie yX8_howDisksLie, Cond.initialized RX8, Cond.code yX8_howDisksLie cX8_howDisksLie 3 (some .int), Cond.classLink RX8 134 "Koebehall$Disk", Cond.methodLink RX8 143 yX8_hasDisk, Cond.instanceMethod yX8_hasDisk, Cond.selects RX8 yX8_hasDisk yX8_hasDisk, Cond.code yX8_hasDisk cX8_hasDisk 2 (some .boolean), Cond.methodLink RX8 148 yJx4a65c_get_915e3, Cond.instanceMethod yJx4a65c_get_915e3, Cond.selects RJx4a65c yJx4a65c_get_915e3 yJx4a65c_get_915e3, Cond.code yJx4a65c_get_915e3 cJx4a65c_get_915e3 2 (some (.object "java/lang/Object")), Cond.methodLink RJx4a65c 118 yJ15_checkIndex_7cf53]
def wsX8_pairs_r2 : List Cond := [Cond.static yJ15_checkIndex_7cf53, Cond.initialized RJ15, Cond.code yJ15_checkIndex_7cf53 cJ15_checkIndex_7cf53 2 (some .int), Cond.methodLink RJ15 105 yJ3_checkIndex_8e157, Cond.static yJ3_checkIndex_8e157, Cond.initialized RJ3, Cond.code yJ3_checkIndex_8e157 cJ3_checkIndex_8e157 3 (some .int), Cond.methodLink RJx4a65c 123 yJx4a65c_elementData_915e3, Cond.instanceMethod yJx4a65c_elementData_915e3, Cond.selects RJx4a65c yJx4a65c_elementData_915e3 yJx4a65c_elementData_915e3, Cond.code yJx4a65c_elementData_915e3 cJx4a65c_elementData_915e3 2 (some (.object "java/lang/Object")), Cond.fieldLink RJx4a65c 9 "java/util/ArrayList" "elementData" "[Ljava/lang/Object;", Cond.instanceMethod yX0_howItLies, Cond.initialized RX0, Cond.selects RX0 yX0_howItLies yX0_howItLies, Cond.code yX0_howItLies cX0_howItLies 10 (some .int), Cond.fieldLink RX0 9 "Koebehall$Disk" "x" "J", Cond.fieldLink RX0 15 "Koebehall$Disk" "y" "J", Cond.fieldLink RX0 18 "Koebehall$Disk" "radius" "J"]
def wsX8_pairs : List Cond := .code yX8_pairs cX8_pairs 5 (some .int) :: ((wsX8_pairs_r1 ++ wsX8_pairs_r2) ++ wsX80 ++ wsJx4a65c0 ++ wsX00 ++ (vx_atS RX8 128 "java/lang/IllegalArgumentException" ["java/lang/RuntimeException", "java/lang/Exception"]).filter goodWord)
def wsX8_draws_r1 : List Cond := [Cond.fieldLink RX8 19 "Koebehall" "disks" "Ljava/util/ArrayList;", Cond.fieldLink RX8 10 "Koebehall" "sphere" "LKoebehall$Net;", Cond.methodLink RX8 129 yJx4a65c_size_8abf5, Cond.instanceMethod yJx4a65c_size_8abf5, Cond.selects RJx4a65c yJx4a65c_size_8abf5 yJx4a65c_size_8abf5, Cond.initialized RJx4a65c, Cond.code yJx4a65c_size_8abf5 cJx4a65c_size_8abf5 1 (some .int), Cond.fieldLink RJx4a65c 48 "java/util/ArrayList" "size" "I", Cond.instanceMethod yX3_areNeighbours, Cond.initialized RX3, Cond.selects RX3 yX3_areNeighbours yX3_areNeighbours, Cond.code yX3_areNeighbours cX3_areNeighbours 3 (some .boolean), Cond.methodLink RX3 53 yX3_thirdOf, Cond.instanceMethod yX3_thirdOf, Cond.selects RX3 yX3_thirdOf yX3_thirdOf, Cond.code yX3_thirdOf cX3_thirdOf 3 (some .int), Cond.fieldLink RX3 15 "Koebehall$Net" "thirds" "[I", Cond.methodLink RX3 49 yX3_hasCorner, Cond.instanceMethod yX3_hasCorner, Cond.selects RX3 yX3_hasCorner yX3_hasCorner, Cond.code yX3_hasCorner cX3_hasCorner 2 (some .boolean), Cond.fieldLink RX3 24 "Koebehall$Net" "cornerCount" "I", Cond.methodLink RX8 162 yX8_howDisksLie, Cond.instanceMethod yX8_howDisksLie]
def wsX8_draws_r2 : List Cond := [Cond.selects RX8 yX8_howDisksLie yX8_howDisksLie, Cond.initialized RX8, Cond.code yX8_howDisksLie cX8_howDisksLie 3 (some .int), Cond.classLink RX8 134 "Koebehall$Disk", Cond.methodLink RX8 143 yX8_hasDisk, Cond.instanceMethod yX8_hasDisk, Cond.selects RX8 yX8_hasDisk yX8_hasDisk, Cond.code yX8_hasDisk cX8_hasDisk 2 (some .boolean), Cond.methodLink RX8 148 yJx4a65c_get_915e3, Cond.instanceMethod yJx4a65c_get_915e3, Cond.selects RJx4a65c yJx4a65c_get_915e3 yJx4a65c_get_915e3, Cond.code yJx4a65c_get_915e3 cJx4a65c_get_915e3 2 (some (.object "java/lang/Object")), Cond.methodLink RJx4a65c 118 yJ15_checkIndex_7cf53, Cond.static yJ15_checkIndex_7cf53, Cond.initialized RJ15, Cond.code yJ15_checkIndex_7cf53 cJ15_checkIndex_7cf53 2 (some .int), Cond.methodLink RJ15 105 yJ3_checkIndex_8e157, Cond.static yJ3_checkIndex_8e157, Cond.initialized RJ3, Cond.code yJ3_checkIndex_8e157 cJ3_checkIndex_8e157 3 (some .int), Cond.methodLink RJx4a65c 123 yJx4a65c_elementData_915e3, Cond.instanceMethod yJx4a65c_elementData_915e3, Cond.selects RJx4a65c yJx4a65c_elementData_915e3 yJx4a65c_elementData_915e3, Cond.code yJx4a65c_elementData_915e3 cJx4a65c_elementData_915e3 2 (some (.object "java/lang/Object"))]
def wsX8_draws_r3 : List Cond := [Cond.fieldLink RJx4a65c 9 "java/util/ArrayList" "elementData" "[Ljava/lang/Object;", Cond.instanceMethod yX0_howItLies, Cond.initialized RX0, Cond.selects RX0 yX0_howItLies yX0_howItLies, Cond.code yX0_howItLies cX0_howItLies 10 (some .int), Cond.fieldLink RX0 9 "Koebehall$Disk" "x" "J", Cond.fieldLink RX0 15 "Koebehall$Disk" "y" "J", Cond.fieldLink RX0 18 "Koebehall$Disk" "radius" "J"]
def wsX8_draws : List Cond := .code yX8_draws cX8_draws 4 (some .boolean) :: ((wsX8_draws_r1 ++ (wsX8_draws_r2 ++ wsX8_draws_r3)) ++ wsX80 ++ wsX30 ++ wsJx4a65c0 ++ wsX00)
def wsX8_areFourWithin : List Cond := .code yX8_areFourWithin cX8_areFourWithin 5 (some .boolean) :: ([.methodLink RX8 172 yX8_isWithin, .static yX8_isWithin, .initialized RX8, .code yX8_isWithin cX8_isWithin 4 (some .boolean)])
def wsX8_gasket_r1 : List Cond := [Cond.classLink RX8 124 "java/lang/IllegalArgumentException", Cond.initialized "java/lang/IllegalArgumentException", Cond.classLink RX8 67 "java/lang/IllegalStateException", Cond.initialized "java/lang/IllegalStateException", Cond.constant RX8 181 (1000000), Cond.fieldLink RX8 23 "Koebehall" "gaskets" "Ljava/util/ArrayList;", Cond.classLink RX8 187 RX2, Cond.instantiable RX2 3, Cond.initialized RX2, Cond.methodLink RX8 182 yX8_areFourWithin, Cond.static yX8_areFourWithin, Cond.initialized RX8, Cond.code yX8_areFourWithin cX8_areFourWithin 5 (some .boolean), Cond.methodLink RX8 172 yX8_isWithin, Cond.static yX8_isWithin, Cond.code yX8_isWithin cX8_isWithin 4 (some .boolean), Cond.static yX2_areOfGasket, Cond.code yX2_areOfGasket cX2_areOfGasket 10 (some .boolean), Cond.constantLong RX2 35 (2), Cond.methodLink RX8 129 yJx4a65c_size_8abf5, Cond.instanceMethod yJx4a65c_size_8abf5, Cond.selects RJx4a65c yJx4a65c_size_8abf5 yJx4a65c_size_8abf5, Cond.initialized RJx4a65c, Cond.code yJx4a65c_size_8abf5 cJx4a65c_size_8abf5 1 (some .int)]
def wsX8_gasket_r2 : List Cond := [Cond.fieldLink RJx4a65c 48 "java/util/ArrayList" "size" "I", Cond.instanceMethod yX2_init, Cond.code yX2_init cX2_init 9 none, Cond.methodLink RX2 3 objectInit, Cond.instanceMethod objectInit, Cond.code objectInit ⟨#[0xb1]⟩ 1 none, Cond.fieldLink RX2 15 "Koebehall$Gasket" "four" "[J", Cond.fieldLink RX2 22 "Koebehall$Gasket" "least" "[J", Cond.arrayClass .long, Cond.fieldLink RX2 25 "Koebehall$Gasket" "walked" "[J", Cond.methodLink RX2 9 yX2_rowOf, Cond.static yX2_rowOf, Cond.code yX2_rowOf cX2_rowOf 9 (some (.array .long)), Cond.methodLink RX2 19 yX2_rootOf, Cond.static yX2_rootOf, Cond.code yX2_rootOf cX2_rootOf 9 (some (.array .long)), Cond.methodLink RX2 28 yX2_bringToRoot, Cond.static yX2_bringToRoot, Cond.code yX2_bringToRoot cX2_bringToRoot 5 none, Cond.constant RX2 37 (1000000), Cond.methodLink RX2 38 yX2_greatestPlace, Cond.static yX2_greatestPlace, Cond.code yX2_greatestPlace cX2_greatestPlace 3 (some .int), Cond.methodLink RX2 42 yX2_turnedAt]
def wsX8_gasket_r3 : List Cond := [Cond.static yX2_turnedAt, Cond.code yX2_turnedAt cX2_turnedAt 4 (some .long), Cond.methodLink RX2 32 yX2_putInOrder, Cond.static yX2_putInOrder, Cond.code yX2_putInOrder cX2_putInOrder 5 none, Cond.methodLink RX8 139 yJx4a65c_add_9ea2d, Cond.instanceMethod yJx4a65c_add_9ea2d, Cond.selects RJx4a65c yJx4a65c_add_9ea2d yJx4a65c_add_9ea2d, Cond.code yJx4a65c_add_9ea2d cJx4a65c_add_9ea2d 2 (some .boolean), Cond.fieldLink RJx4a65c 63 "java/util/ArrayList" "modCount" "I", Cond.sameField "java/util/ArrayList" "java/util/AbstractList" "modCount" "I", Cond.fieldLink RJx4a65c 9 "java/util/ArrayList" "elementData" "[Ljava/lang/Object;", Cond.methodLink RJx4a65c 131 yJx4a65c_add_72be8, Cond.instanceMethod yJx4a65c_add_72be8, Cond.selects RJx4a65c yJx4a65c_add_72be8 yJx4a65c_add_72be8, Cond.code yJx4a65c_add_72be8 cJx4a65c_add_72be8 4 none, Cond.methodLink RJx4a65c 129 yJx4a65c_grow_d5877, Cond.instanceMethod yJx4a65c_grow_d5877, Cond.selects RJx4a65c yJx4a65c_grow_d5877 yJx4a65c_grow_d5877, Cond.code yJx4a65c_grow_d5877 cJx4a65c_grow_d5877 1 (some (.array (.object "java/lang/Object"))), Cond.methodLink RJx4a65c 69 yJx4a65c_grow_92f84, Cond.instanceMethod yJx4a65c_grow_92f84, Cond.selects RJx4a65c yJx4a65c_grow_92f84 yJx4a65c_grow_92f84, Cond.code yJx4a65c_grow_92f84 cJx4a65c_grow_92f84 4 (some (.array (.object "java/lang/Object")))]
def wsX8_gasket_r4 : List Cond := [Cond.fieldLink RJx4a65c 39 "java/util/ArrayList" "DEFAULTCAPACITY_EMPTY_ELEMENTDATA" "[Ljava/lang/Object;", Cond.methodLink RJx4a65c 79 Lib.Math.max.name, Cond.static Lib.Math.max.name, Cond.initialized "java/lang/Math", Cond.code Lib.Math.max.name Lib.Math.max.code 2 (some .int), Cond.classLink RJx4a65c 7 "java/lang/Object", Cond.methodLink RJx4a65c 73 yJ8_newLength_cabcc, Cond.static yJ8_newLength_cabcc, Cond.initialized RJ8, Cond.code yJ8_newLength_cabcc cJ8_newLength_cabcc 4 (some .int), Cond.methodLink RJ8 194 Lib.Math.max.name, Cond.constant RJ8 200 (2147483639), Cond.methodLink RJ8 201 yJ8_hugeLength_7cf53, Cond.static yJ8_hugeLength_7cf53, Cond.code yJ8_hugeLength_7cf53 cJ8_hugeLength_7cf53 3 (some .int), Cond.methodLink RJx4a65c 66 yJ7_copyOf_1904c, Cond.static yJ7_copyOf_1904c, Cond.initialized RJ7, Cond.code yJ7_copyOf_1904c cJ7_copyOf_1904c 2 (some (.array (.object "java/lang/Object"))), Cond.methodLink RJ7 86 ⟨"java/lang/Object", "getClass", "()Ljava/lang/Class;"⟩, Cond.selects "[Ljava/lang/Object;" ⟨"java/lang/Object", "getClass", "()Ljava/lang/Class;"⟩ ⟨"java/lang/Object", "getClass", "()Ljava/lang/Class;"⟩, Cond.instanceMethod ⟨"java/lang/Object", "getClass", "()Ljava/lang/Class;"⟩, Cond.native ⟨"java/lang/Object", "getClass", "()Ljava/lang/Class;"⟩, Cond.methodLink RJ7 300 yJ7_copyOf_6403c]
def wsX8_gasket_r5 : List Cond := [Cond.static yJ7_copyOf_6403c, Cond.code yJ7_copyOf_6403c cJ7_copyOf_6403c 4 (some (.array (.object "java/lang/Object"))), Cond.classLink RJ7 110 "[Ljava/lang/Object;", Cond.classLink RJ7 2 "java/lang/Object", Cond.methodLink RJ7 304 Lib.Math.min.name, Cond.static Lib.Math.min.name, Cond.code Lib.Math.min.name Lib.Math.min.code 2 (some .int), Cond.methodLink RJ7 150 arraycopyName, Cond.native arraycopyName, Cond.static arraycopyName, Cond.initialized "java/lang/System"]
def wsX8_gasket : List Cond := .code yX8_gasket cX8_gasket 5 (some .int) :: ((wsX8_gasket_r1 ++ (wsX8_gasket_r2 ++ (wsX8_gasket_r3 ++ (wsX8_gasket_r4 ++ wsX8_gasket_r5)))) ++ wsX80 ++ wsX20 ++ wsJx4a65c0 ++ (vx_atS RX8 128 "java/lang/IllegalArgumentException" ["java/lang/RuntimeException", "java/lang/Exception"]).filter goodWord ++ (vx_atS RX8 71 "java/lang/IllegalStateException" ["java/lang/RuntimeException", "java/lang/Exception"]).filter goodWord)
def wsX8_gasketOf_r1 : List Cond := [Cond.classLink RX8 56 "java/lang/IndexOutOfBoundsException", Cond.initialized "java/lang/IndexOutOfBoundsException", Cond.fieldLink RX8 23 "Koebehall" "gaskets" "Ljava/util/ArrayList;", Cond.classLink RX8 187 "Koebehall$Gasket", Cond.methodLink RX8 129 yJx4a65c_size_8abf5, Cond.instanceMethod yJx4a65c_size_8abf5, Cond.selects RJx4a65c yJx4a65c_size_8abf5 yJx4a65c_size_8abf5, Cond.initialized RJx4a65c, Cond.code yJx4a65c_size_8abf5 cJx4a65c_size_8abf5 1 (some .int), Cond.fieldLink RJx4a65c 48 "java/util/ArrayList" "size" "I", Cond.methodLink RX8 148 yJx4a65c_get_915e3, Cond.instanceMethod yJx4a65c_get_915e3, Cond.selects RJx4a65c yJx4a65c_get_915e3 yJx4a65c_get_915e3, Cond.code yJx4a65c_get_915e3 cJx4a65c_get_915e3 2 (some (.object "java/lang/Object")), Cond.methodLink RJx4a65c 118 yJ15_checkIndex_7cf53, Cond.static yJ15_checkIndex_7cf53, Cond.initialized RJ15, Cond.code yJ15_checkIndex_7cf53 cJ15_checkIndex_7cf53 2 (some .int), Cond.methodLink RJ15 105 yJ3_checkIndex_8e157, Cond.static yJ3_checkIndex_8e157, Cond.initialized RJ3, Cond.code yJ3_checkIndex_8e157 cJ3_checkIndex_8e157 3 (some .int), Cond.methodLink RJx4a65c 123 yJx4a65c_elementData_915e3, Cond.instanceMethod yJx4a65c_elementData_915e3]
def wsX8_gasketOf_r2 : List Cond := [Cond.selects RJx4a65c yJx4a65c_elementData_915e3 yJx4a65c_elementData_915e3, Cond.code yJx4a65c_elementData_915e3 cJx4a65c_elementData_915e3 2 (some (.object "java/lang/Object")), Cond.fieldLink RJx4a65c 9 "java/util/ArrayList" "elementData" "[Ljava/lang/Object;"]
def wsX8_gasketOf : List Cond := .code yX8_gasketOf cX8_gasketOf 2 (some (.object "Koebehall$Gasket")) :: ((wsX8_gasketOf_r1 ++ wsX8_gasketOf_r2) ++ wsX80 ++ wsJx4a65c0 ++ (vx_atS RX8 60 "java/lang/IndexOutOfBoundsException" ["java/lang/RuntimeException", "java/lang/Exception"]).filter goodWord)
def wsX8_fourOf_r1 : List Cond := [Cond.classLink RX8 56 "java/lang/IndexOutOfBoundsException", Cond.initialized "java/lang/IndexOutOfBoundsException", Cond.methodLink RX8 209 yX8_gasketOf, Cond.instanceMethod yX8_gasketOf, Cond.selects RX8 yX8_gasketOf yX8_gasketOf, Cond.initialized RX8, Cond.code yX8_gasketOf cX8_gasketOf 2 (some (.object "Koebehall$Gasket")), Cond.fieldLink RX8 23 "Koebehall" "gaskets" "Ljava/util/ArrayList;", Cond.classLink RX8 187 "Koebehall$Gasket", Cond.methodLink RX8 129 yJx4a65c_size_8abf5, Cond.instanceMethod yJx4a65c_size_8abf5, Cond.selects RJx4a65c yJx4a65c_size_8abf5 yJx4a65c_size_8abf5, Cond.initialized RJx4a65c, Cond.code yJx4a65c_size_8abf5 cJx4a65c_size_8abf5 1 (some .int), Cond.fieldLink RJx4a65c 48 "java/util/ArrayList" "size" "I", Cond.methodLink RX8 148 yJx4a65c_get_915e3, Cond.instanceMethod yJx4a65c_get_915e3, Cond.selects RJx4a65c yJx4a65c_get_915e3 yJx4a65c_get_915e3, Cond.code yJx4a65c_get_915e3 cJx4a65c_get_915e3 2 (some (.object "java/lang/Object")), Cond.methodLink RJx4a65c 118 yJ15_checkIndex_7cf53, Cond.static yJ15_checkIndex_7cf53, Cond.initialized RJ15, Cond.code yJ15_checkIndex_7cf53 cJ15_checkIndex_7cf53 2 (some .int), Cond.methodLink RJ15 105 yJ3_checkIndex_8e157]
def wsX8_fourOf_r2 : List Cond := [Cond.static yJ3_checkIndex_8e157, Cond.initialized RJ3, Cond.code yJ3_checkIndex_8e157 cJ3_checkIndex_8e157 3 (some .int), Cond.methodLink RJx4a65c 123 yJx4a65c_elementData_915e3, Cond.instanceMethod yJx4a65c_elementData_915e3, Cond.selects RJx4a65c yJx4a65c_elementData_915e3 yJx4a65c_elementData_915e3, Cond.code yJx4a65c_elementData_915e3 cJx4a65c_elementData_915e3 2 (some (.object "java/lang/Object")), Cond.fieldLink RJx4a65c 9 "java/util/ArrayList" "elementData" "[Ljava/lang/Object;"]
def wsX8_fourOf : List Cond := .code yX8_fourOf cX8_fourOf 4 (some (.array .long)) :: ((wsX8_fourOf_r1 ++ wsX8_fourOf_r2) ++ wsX20 ++ wsX80 ++ wsJx4a65c0 ++ (vx_atS RX8 60 "java/lang/IndexOutOfBoundsException" ["java/lang/RuntimeException", "java/lang/Exception"]).filter goodWord)
def wsX8_turn_r1 : List Cond := [Cond.classLink RX8 67 "java/lang/IllegalStateException", Cond.initialized "java/lang/IllegalStateException", Cond.constantLong RX8 205 (1000000000000000), Cond.methodLink RX8 197 yX8_fourOf, Cond.instanceMethod yX8_fourOf, Cond.selects RX8 yX8_fourOf yX8_fourOf, Cond.initialized RX8, Cond.code yX8_fourOf cX8_fourOf 4 (some (.array .long)), Cond.classLink RX8 56 "java/lang/IndexOutOfBoundsException", Cond.initialized "java/lang/IndexOutOfBoundsException", Cond.methodLink RX8 209 yX8_gasketOf, Cond.instanceMethod yX8_gasketOf, Cond.selects RX8 yX8_gasketOf yX8_gasketOf, Cond.code yX8_gasketOf cX8_gasketOf 2 (some (.object "Koebehall$Gasket")), Cond.fieldLink RX8 23 "Koebehall" "gaskets" "Ljava/util/ArrayList;", Cond.classLink RX8 187 "Koebehall$Gasket", Cond.methodLink RX8 129 yJx4a65c_size_8abf5, Cond.instanceMethod yJx4a65c_size_8abf5, Cond.selects RJx4a65c yJx4a65c_size_8abf5 yJx4a65c_size_8abf5, Cond.initialized RJx4a65c, Cond.code yJx4a65c_size_8abf5 cJx4a65c_size_8abf5 1 (some .int), Cond.fieldLink RJx4a65c 48 "java/util/ArrayList" "size" "I", Cond.methodLink RX8 148 yJx4a65c_get_915e3, Cond.instanceMethod yJx4a65c_get_915e3]
def wsX8_turn_r2 : List Cond := [Cond.selects RJx4a65c yJx4a65c_get_915e3 yJx4a65c_get_915e3, Cond.code yJx4a65c_get_915e3 cJx4a65c_get_915e3 2 (some (.object "java/lang/Object")), Cond.methodLink RJx4a65c 118 yJ15_checkIndex_7cf53, Cond.static yJ15_checkIndex_7cf53, Cond.initialized RJ15, Cond.code yJ15_checkIndex_7cf53 cJ15_checkIndex_7cf53 2 (some .int), Cond.methodLink RJ15 105 yJ3_checkIndex_8e157, Cond.static yJ3_checkIndex_8e157, Cond.initialized RJ3, Cond.code yJ3_checkIndex_8e157 cJ3_checkIndex_8e157 3 (some .int), Cond.methodLink RJx4a65c 123 yJx4a65c_elementData_915e3, Cond.instanceMethod yJx4a65c_elementData_915e3, Cond.selects RJx4a65c yJx4a65c_elementData_915e3 yJx4a65c_elementData_915e3, Cond.code yJx4a65c_elementData_915e3 cJx4a65c_elementData_915e3 2 (some (.object "java/lang/Object")), Cond.fieldLink RJx4a65c 9 "java/util/ArrayList" "elementData" "[Ljava/lang/Object;", Cond.static yX2_turnedAt, Cond.initialized RX2, Cond.code yX2_turnedAt cX2_turnedAt 4 (some .long), Cond.constantLong RX2 35 (2)]
def wsX8_turn : List Cond := .code yX8_turn cX8_turn 6 (some .long) :: ((wsX8_turn_r1 ++ wsX8_turn_r2) ++ wsX20 ++ wsX80 ++ wsJx4a65c0 ++ (vx_atS RX8 71 "java/lang/IllegalStateException" ["java/lang/RuntimeException", "java/lang/Exception"]).filter goodWord ++ (vx_atS RX8 60 "java/lang/IndexOutOfBoundsException" ["java/lang/RuntimeException", "java/lang/Exception"]).filter goodWord)
def wsX8_curvature_r1 : List Cond := [Cond.methodLink RX8 197 yX8_fourOf, Cond.instanceMethod yX8_fourOf, Cond.selects RX8 yX8_fourOf yX8_fourOf, Cond.initialized RX8, Cond.code yX8_fourOf cX8_fourOf 4 (some (.array .long)), Cond.classLink RX8 56 "java/lang/IndexOutOfBoundsException", Cond.initialized "java/lang/IndexOutOfBoundsException", Cond.methodLink RX8 209 yX8_gasketOf, Cond.instanceMethod yX8_gasketOf, Cond.selects RX8 yX8_gasketOf yX8_gasketOf, Cond.code yX8_gasketOf cX8_gasketOf 2 (some (.object "Koebehall$Gasket")), Cond.fieldLink RX8 23 "Koebehall" "gaskets" "Ljava/util/ArrayList;", Cond.classLink RX8 187 "Koebehall$Gasket", Cond.methodLink RX8 129 yJx4a65c_size_8abf5, Cond.instanceMethod yJx4a65c_size_8abf5, Cond.selects RJx4a65c yJx4a65c_size_8abf5 yJx4a65c_size_8abf5, Cond.initialized RJx4a65c, Cond.code yJx4a65c_size_8abf5 cJx4a65c_size_8abf5 1 (some .int), Cond.fieldLink RJx4a65c 48 "java/util/ArrayList" "size" "I", Cond.methodLink RX8 148 yJx4a65c_get_915e3, Cond.instanceMethod yJx4a65c_get_915e3, Cond.selects RJx4a65c yJx4a65c_get_915e3 yJx4a65c_get_915e3, Cond.code yJx4a65c_get_915e3 cJx4a65c_get_915e3 2 (some (.object "java/lang/Object")), Cond.methodLink RJx4a65c 118 yJ15_checkIndex_7cf53]
def wsX8_curvature_r2 : List Cond := [Cond.static yJ15_checkIndex_7cf53, Cond.initialized RJ15, Cond.code yJ15_checkIndex_7cf53 cJ15_checkIndex_7cf53 2 (some .int), Cond.methodLink RJ15 105 yJ3_checkIndex_8e157, Cond.static yJ3_checkIndex_8e157, Cond.initialized RJ3, Cond.code yJ3_checkIndex_8e157 cJ3_checkIndex_8e157 3 (some .int), Cond.methodLink RJx4a65c 123 yJx4a65c_elementData_915e3, Cond.instanceMethod yJx4a65c_elementData_915e3, Cond.selects RJx4a65c yJx4a65c_elementData_915e3 yJx4a65c_elementData_915e3, Cond.code yJx4a65c_elementData_915e3 cJx4a65c_elementData_915e3 2 (some (.object "java/lang/Object")), Cond.fieldLink RJx4a65c 9 "java/util/ArrayList" "elementData" "[Ljava/lang/Object;"]
def wsX8_curvature : List Cond := .code yX8_curvature cX8_curvature 3 (some .long) :: ((wsX8_curvature_r1 ++ wsX8_curvature_r2) ++ wsX20 ++ wsX80 ++ wsJx4a65c0 ++ (vx_atS RX8 60 "java/lang/IndexOutOfBoundsException" ["java/lang/RuntimeException", "java/lang/Exception"]).filter goodWord)
def wsX8_radius_r1 : List Cond := [Cond.methodLink RX8 197 yX8_fourOf, Cond.instanceMethod yX8_fourOf, Cond.selects RX8 yX8_fourOf yX8_fourOf, Cond.initialized RX8, Cond.code yX8_fourOf cX8_fourOf 4 (some (.array .long)), Cond.classLink RX8 56 "java/lang/IndexOutOfBoundsException", Cond.initialized "java/lang/IndexOutOfBoundsException", Cond.methodLink RX8 209 yX8_gasketOf, Cond.instanceMethod yX8_gasketOf, Cond.selects RX8 yX8_gasketOf yX8_gasketOf, Cond.code yX8_gasketOf cX8_gasketOf 2 (some (.object "Koebehall$Gasket")), Cond.fieldLink RX8 23 "Koebehall" "gaskets" "Ljava/util/ArrayList;", Cond.classLink RX8 187 "Koebehall$Gasket", Cond.methodLink RX8 129 yJx4a65c_size_8abf5, Cond.instanceMethod yJx4a65c_size_8abf5, Cond.selects RJx4a65c yJx4a65c_size_8abf5 yJx4a65c_size_8abf5, Cond.initialized RJx4a65c, Cond.code yJx4a65c_size_8abf5 cJx4a65c_size_8abf5 1 (some .int), Cond.fieldLink RJx4a65c 48 "java/util/ArrayList" "size" "I", Cond.methodLink RX8 148 yJx4a65c_get_915e3, Cond.instanceMethod yJx4a65c_get_915e3, Cond.selects RJx4a65c yJx4a65c_get_915e3 yJx4a65c_get_915e3, Cond.code yJx4a65c_get_915e3 cJx4a65c_get_915e3 2 (some (.object "java/lang/Object")), Cond.methodLink RJx4a65c 118 yJ15_checkIndex_7cf53]
def wsX8_radius_r2 : List Cond := [Cond.static yJ15_checkIndex_7cf53, Cond.initialized RJ15, Cond.code yJ15_checkIndex_7cf53 cJ15_checkIndex_7cf53 2 (some .int), Cond.methodLink RJ15 105 yJ3_checkIndex_8e157, Cond.static yJ3_checkIndex_8e157, Cond.initialized RJ3, Cond.code yJ3_checkIndex_8e157 cJ3_checkIndex_8e157 3 (some .int), Cond.methodLink RJx4a65c 123 yJx4a65c_elementData_915e3, Cond.instanceMethod yJx4a65c_elementData_915e3, Cond.selects RJx4a65c yJx4a65c_elementData_915e3 yJx4a65c_elementData_915e3, Cond.code yJx4a65c_elementData_915e3 cJx4a65c_elementData_915e3 2 (some (.object "java/lang/Object")), Cond.fieldLink RJx4a65c 9 "java/util/ArrayList" "elementData" "[Ljava/lang/Object;"]
def wsX8_radius : List Cond := .code yX8_radius cX8_radius 3 (some .float) :: ((wsX8_radius_r1 ++ wsX8_radius_r2) ++ wsX20 ++ wsX80 ++ wsJx4a65c0 ++ (vx_atS RX8 60 "java/lang/IndexOutOfBoundsException" ["java/lang/RuntimeException", "java/lang/Exception"]).filter goodWord)
def wsX8_root_r1 : List Cond := [Cond.classLink RX8 56 "java/lang/IndexOutOfBoundsException", Cond.initialized "java/lang/IndexOutOfBoundsException", Cond.methodLink RX8 209 yX8_gasketOf, Cond.instanceMethod yX8_gasketOf, Cond.selects RX8 yX8_gasketOf yX8_gasketOf, Cond.initialized RX8, Cond.code yX8_gasketOf cX8_gasketOf 2 (some (.object "Koebehall$Gasket")), Cond.fieldLink RX8 23 "Koebehall" "gaskets" "Ljava/util/ArrayList;", Cond.classLink RX8 187 "Koebehall$Gasket", Cond.methodLink RX8 129 yJx4a65c_size_8abf5, Cond.instanceMethod yJx4a65c_size_8abf5, Cond.selects RJx4a65c yJx4a65c_size_8abf5 yJx4a65c_size_8abf5, Cond.initialized RJx4a65c, Cond.code yJx4a65c_size_8abf5 cJx4a65c_size_8abf5 1 (some .int), Cond.fieldLink RJx4a65c 48 "java/util/ArrayList" "size" "I", Cond.methodLink RX8 148 yJx4a65c_get_915e3, Cond.instanceMethod yJx4a65c_get_915e3, Cond.selects RJx4a65c yJx4a65c_get_915e3 yJx4a65c_get_915e3, Cond.code yJx4a65c_get_915e3 cJx4a65c_get_915e3 2 (some (.object "java/lang/Object")), Cond.methodLink RJx4a65c 118 yJ15_checkIndex_7cf53, Cond.static yJ15_checkIndex_7cf53, Cond.initialized RJ15, Cond.code yJ15_checkIndex_7cf53 cJ15_checkIndex_7cf53 2 (some .int), Cond.methodLink RJ15 105 yJ3_checkIndex_8e157]
def wsX8_root_r2 : List Cond := [Cond.static yJ3_checkIndex_8e157, Cond.initialized RJ3, Cond.code yJ3_checkIndex_8e157 cJ3_checkIndex_8e157 3 (some .int), Cond.methodLink RJx4a65c 123 yJx4a65c_elementData_915e3, Cond.instanceMethod yJx4a65c_elementData_915e3, Cond.selects RJx4a65c yJx4a65c_elementData_915e3 yJx4a65c_elementData_915e3, Cond.code yJx4a65c_elementData_915e3 cJx4a65c_elementData_915e3 2 (some (.object "java/lang/Object")), Cond.fieldLink RJx4a65c 9 "java/util/ArrayList" "elementData" "[Ljava/lang/Object;"]
def wsX8_root : List Cond := .code yX8_root cX8_root 4 (some .long) :: ((wsX8_root_r1 ++ wsX8_root_r2) ++ wsX20 ++ wsX80 ++ wsJx4a65c0 ++ (vx_atS RX8 60 "java/lang/IndexOutOfBoundsException" ["java/lang/RuntimeException", "java/lang/Exception"]).filter goodWord)
def wsX8_boundedGasket_r1 : List Cond := [Cond.classLink RX8 124 "java/lang/IllegalArgumentException", Cond.initialized "java/lang/IllegalArgumentException", Cond.classLink RX8 67 "java/lang/IllegalStateException", Cond.initialized "java/lang/IllegalStateException", Cond.methodLink RX8 209 yX8_gasketOf, Cond.instanceMethod yX8_gasketOf, Cond.selects RX8 yX8_gasketOf yX8_gasketOf, Cond.initialized RX8, Cond.code yX8_gasketOf cX8_gasketOf 2 (some (.object "Koebehall$Gasket")), Cond.classLink RX8 56 "java/lang/IndexOutOfBoundsException", Cond.initialized "java/lang/IndexOutOfBoundsException", Cond.fieldLink RX8 23 "Koebehall" "gaskets" "Ljava/util/ArrayList;", Cond.classLink RX8 187 "Koebehall$Gasket", Cond.methodLink RX8 129 yJx4a65c_size_8abf5, Cond.instanceMethod yJx4a65c_size_8abf5, Cond.selects RJx4a65c yJx4a65c_size_8abf5 yJx4a65c_size_8abf5, Cond.initialized RJx4a65c, Cond.code yJx4a65c_size_8abf5 cJx4a65c_size_8abf5 1 (some .int), Cond.fieldLink RJx4a65c 48 "java/util/ArrayList" "size" "I", Cond.methodLink RX8 148 yJx4a65c_get_915e3, Cond.instanceMethod yJx4a65c_get_915e3, Cond.selects RJx4a65c yJx4a65c_get_915e3 yJx4a65c_get_915e3, Cond.code yJx4a65c_get_915e3 cJx4a65c_get_915e3 2 (some (.object "java/lang/Object")), Cond.methodLink RJx4a65c 118 yJ15_checkIndex_7cf53]
def wsX8_boundedGasket_r2 : List Cond := [Cond.static yJ15_checkIndex_7cf53, Cond.initialized RJ15, Cond.code yJ15_checkIndex_7cf53 cJ15_checkIndex_7cf53 2 (some .int), Cond.methodLink RJ15 105 yJ3_checkIndex_8e157, Cond.static yJ3_checkIndex_8e157, Cond.initialized RJ3, Cond.code yJ3_checkIndex_8e157 cJ3_checkIndex_8e157 3 (some .int), Cond.methodLink RJx4a65c 123 yJx4a65c_elementData_915e3, Cond.instanceMethod yJx4a65c_elementData_915e3, Cond.selects RJx4a65c yJx4a65c_elementData_915e3 yJx4a65c_elementData_915e3, Cond.code yJx4a65c_elementData_915e3 cJx4a65c_elementData_915e3 2 (some (.object "java/lang/Object")), Cond.fieldLink RJx4a65c 9 "java/util/ArrayList" "elementData" "[Ljava/lang/Object;"]
def wsX8_boundedGasket : List Cond := .code yX8_boundedGasket cX8_boundedGasket 4 (some (.object "Koebehall$Gasket")) :: ((wsX8_boundedGasket_r1 ++ wsX8_boundedGasket_r2) ++ wsX20 ++ wsX80 ++ wsJx4a65c0 ++ (vx_atS RX8 128 "java/lang/IllegalArgumentException" ["java/lang/RuntimeException", "java/lang/Exception"]).filter goodWord ++ (vx_atS RX8 71 "java/lang/IllegalStateException" ["java/lang/RuntimeException", "java/lang/Exception"]).filter goodWord ++ (vx_atS RX8 60 "java/lang/IndexOutOfBoundsException" ["java/lang/RuntimeException", "java/lang/Exception"]).filter goodWord)
def wsX8_count_r1 : List Cond := [Cond.methodLink RX8 219 yX8_boundedGasket, Cond.instanceMethod yX8_boundedGasket, Cond.selects RX8 yX8_boundedGasket yX8_boundedGasket, Cond.initialized RX8, Cond.code yX8_boundedGasket cX8_boundedGasket 4 (some (.object "Koebehall$Gasket")), Cond.classLink RX8 124 "java/lang/IllegalArgumentException", Cond.initialized "java/lang/IllegalArgumentException", Cond.classLink RX8 67 "java/lang/IllegalStateException", Cond.initialized "java/lang/IllegalStateException", Cond.methodLink RX8 209 yX8_gasketOf, Cond.instanceMethod yX8_gasketOf, Cond.selects RX8 yX8_gasketOf yX8_gasketOf, Cond.code yX8_gasketOf cX8_gasketOf 2 (some (.object "Koebehall$Gasket")), Cond.classLink RX8 56 "java/lang/IndexOutOfBoundsException", Cond.initialized "java/lang/IndexOutOfBoundsException", Cond.fieldLink RX8 23 "Koebehall" "gaskets" "Ljava/util/ArrayList;", Cond.classLink RX8 187 "Koebehall$Gasket", Cond.methodLink RX8 129 yJx4a65c_size_8abf5, Cond.instanceMethod yJx4a65c_size_8abf5, Cond.selects RJx4a65c yJx4a65c_size_8abf5 yJx4a65c_size_8abf5, Cond.initialized RJx4a65c, Cond.code yJx4a65c_size_8abf5 cJx4a65c_size_8abf5 1 (some .int), Cond.fieldLink RJx4a65c 48 "java/util/ArrayList" "size" "I", Cond.methodLink RX8 148 yJx4a65c_get_915e3]
def wsX8_count_r2 : List Cond := [Cond.instanceMethod yJx4a65c_get_915e3, Cond.selects RJx4a65c yJx4a65c_get_915e3 yJx4a65c_get_915e3, Cond.code yJx4a65c_get_915e3 cJx4a65c_get_915e3 2 (some (.object "java/lang/Object")), Cond.methodLink RJx4a65c 118 yJ15_checkIndex_7cf53, Cond.static yJ15_checkIndex_7cf53, Cond.initialized RJ15, Cond.code yJ15_checkIndex_7cf53 cJ15_checkIndex_7cf53 2 (some .int), Cond.methodLink RJ15 105 yJ3_checkIndex_8e157, Cond.static yJ3_checkIndex_8e157, Cond.initialized RJ3, Cond.code yJ3_checkIndex_8e157 cJ3_checkIndex_8e157 3 (some .int), Cond.methodLink RJx4a65c 123 yJx4a65c_elementData_915e3, Cond.instanceMethod yJx4a65c_elementData_915e3, Cond.selects RJx4a65c yJx4a65c_elementData_915e3 yJx4a65c_elementData_915e3, Cond.code yJx4a65c_elementData_915e3 cJx4a65c_elementData_915e3 2 (some (.object "java/lang/Object")), Cond.fieldLink RJx4a65c 9 "java/util/ArrayList" "elementData" "[Ljava/lang/Object;", Cond.instanceMethod yX2_circlesByTurns, Cond.initialized RX2, Cond.selects RX2 yX2_circlesByTurns yX2_circlesByTurns, Cond.code yX2_circlesByTurns cX2_circlesByTurns 2 (some .int), Cond.fieldLink RX2 22 "Koebehall$Gasket" "least" "[J", Cond.fieldLink RX2 25 "Koebehall$Gasket" "walked" "[J", Cond.methodLink RX2 46 arraycopyName, Cond.native arraycopyName]
def wsX8_count_r3 : List Cond := [Cond.static arraycopyName, Cond.initialized "java/lang/System", Cond.methodLink RX2 52 yX2_circlesOfRoot, Cond.instanceMethod yX2_circlesOfRoot, Cond.selects RX2 yX2_circlesOfRoot yX2_circlesOfRoot, Cond.code yX2_circlesOfRoot cX2_circlesOfRoot 4 (some .int), Cond.methodLink RX2 56 yX2_circlesOfRows, Cond.static yX2_circlesOfRows, Cond.code yX2_circlesOfRows cX2_circlesOfRows 10 (some .int), Cond.methodLink RX2 42 yX2_turnedAt, Cond.static yX2_turnedAt, Cond.code yX2_turnedAt cX2_turnedAt 4 (some .long), Cond.constantLong RX2 35 (2)]
def wsX8_count : List Cond := .code yX8_count cX8_count 3 (some .int) :: ((wsX8_count_r1 ++ (wsX8_count_r2 ++ wsX8_count_r3)) ++ wsX20 ++ wsX80 ++ wsJx4a65c0 ++ (vx_atS RX8 128 "java/lang/IllegalArgumentException" ["java/lang/RuntimeException", "java/lang/Exception"]).filter goodWord ++ (vx_atS RX8 71 "java/lang/IllegalStateException" ["java/lang/RuntimeException", "java/lang/Exception"]).filter goodWord ++ (vx_atS RX8 60 "java/lang/IndexOutOfBoundsException" ["java/lang/RuntimeException", "java/lang/Exception"]).filter goodWord)
def wsX8_countAnew_r1 : List Cond := [Cond.methodLink RX8 219 yX8_boundedGasket, Cond.instanceMethod yX8_boundedGasket, Cond.selects RX8 yX8_boundedGasket yX8_boundedGasket, Cond.initialized RX8, Cond.code yX8_boundedGasket cX8_boundedGasket 4 (some (.object "Koebehall$Gasket")), Cond.classLink RX8 124 "java/lang/IllegalArgumentException", Cond.initialized "java/lang/IllegalArgumentException", Cond.classLink RX8 67 "java/lang/IllegalStateException", Cond.initialized "java/lang/IllegalStateException", Cond.methodLink RX8 209 yX8_gasketOf, Cond.instanceMethod yX8_gasketOf, Cond.selects RX8 yX8_gasketOf yX8_gasketOf, Cond.code yX8_gasketOf cX8_gasketOf 2 (some (.object "Koebehall$Gasket")), Cond.classLink RX8 56 "java/lang/IndexOutOfBoundsException", Cond.initialized "java/lang/IndexOutOfBoundsException", Cond.fieldLink RX8 23 "Koebehall" "gaskets" "Ljava/util/ArrayList;", Cond.classLink RX8 187 "Koebehall$Gasket", Cond.methodLink RX8 129 yJx4a65c_size_8abf5, Cond.instanceMethod yJx4a65c_size_8abf5, Cond.selects RJx4a65c yJx4a65c_size_8abf5 yJx4a65c_size_8abf5, Cond.initialized RJx4a65c, Cond.code yJx4a65c_size_8abf5 cJx4a65c_size_8abf5 1 (some .int), Cond.fieldLink RJx4a65c 48 "java/util/ArrayList" "size" "I", Cond.methodLink RX8 148 yJx4a65c_get_915e3]
def wsX8_countAnew_r2 : List Cond := [Cond.instanceMethod yJx4a65c_get_915e3, Cond.selects RJx4a65c yJx4a65c_get_915e3 yJx4a65c_get_915e3, Cond.code yJx4a65c_get_915e3 cJx4a65c_get_915e3 2 (some (.object "java/lang/Object")), Cond.methodLink RJx4a65c 118 yJ15_checkIndex_7cf53, Cond.static yJ15_checkIndex_7cf53, Cond.initialized RJ15, Cond.code yJ15_checkIndex_7cf53 cJ15_checkIndex_7cf53 2 (some .int), Cond.methodLink RJ15 105 yJ3_checkIndex_8e157, Cond.static yJ3_checkIndex_8e157, Cond.initialized RJ3, Cond.code yJ3_checkIndex_8e157 cJ3_checkIndex_8e157 3 (some .int), Cond.methodLink RJx4a65c 123 yJx4a65c_elementData_915e3, Cond.instanceMethod yJx4a65c_elementData_915e3, Cond.selects RJx4a65c yJx4a65c_elementData_915e3 yJx4a65c_elementData_915e3, Cond.code yJx4a65c_elementData_915e3 cJx4a65c_elementData_915e3 2 (some (.object "java/lang/Object")), Cond.fieldLink RJx4a65c 9 "java/util/ArrayList" "elementData" "[Ljava/lang/Object;", Cond.instanceMethod yX2_circlesByThrees, Cond.initialized RX2, Cond.selects RX2 yX2_circlesByThrees yX2_circlesByThrees, Cond.code yX2_circlesByThrees cX2_circlesByThrees 2 (some .int), Cond.fieldLink RX2 22 "Koebehall$Gasket" "least" "[J", Cond.methodLink RX2 52 yX2_circlesOfRoot, Cond.instanceMethod yX2_circlesOfRoot, Cond.selects RX2 yX2_circlesOfRoot yX2_circlesOfRoot]
def wsX8_countAnew_r3 : List Cond := [Cond.code yX2_circlesOfRoot cX2_circlesOfRoot 4 (some .int), Cond.methodLink RX2 60 yX2_circlesAmong, Cond.static yX2_circlesAmong, Cond.code yX2_circlesAmong cX2_circlesAmong 10 (some .int), Cond.constantLong RX2 35 (2), Cond.methodLink RX2 64 yX2_wholeRoot, Cond.static yX2_wholeRoot, Cond.code yX2_wholeRoot cX2_wholeRoot 7 (some .long), Cond.methodLink RX2 68 yJ13_numberOfLeadingZeros_95d88, Cond.static yJ13_numberOfLeadingZeros_95d88, Cond.initialized RJ13, Cond.code yJ13_numberOfLeadingZeros_95d88 cJ13_numberOfLeadingZeros_95d88 3 (some .int), Cond.methodLink RJ13 308 yJ6_numberOfLeadingZeros_0f7a4, Cond.static yJ6_numberOfLeadingZeros_0f7a4, Cond.initialized RJ6, Cond.code yJ6_numberOfLeadingZeros_0f7a4 cJ6_numberOfLeadingZeros_0f7a4 2 (some .int), Cond.constant RJ6 264 (65536)]
def wsX8_countAnew : List Cond := .code yX8_countAnew cX8_countAnew 3 (some .int) :: ((wsX8_countAnew_r1 ++ (wsX8_countAnew_r2 ++ wsX8_countAnew_r3)) ++ wsX20 ++ wsX80 ++ wsJx4a65c0 ++ (vx_atS RX8 128 "java/lang/IllegalArgumentException" ["java/lang/RuntimeException", "java/lang/Exception"]).filter goodWord ++ (vx_atS RX8 71 "java/lang/IllegalStateException" ["java/lang/RuntimeException", "java/lang/Exception"]).filter goodWord ++ (vx_atS RX8 60 "java/lang/IndexOutOfBoundsException" ["java/lang/RuntimeException", "java/lang/Exception"]).filter goodWord)
def wsX8_remainders_r1 : List Cond := [Cond.classLink RX8 124 "java/lang/IllegalArgumentException", Cond.initialized "java/lang/IllegalArgumentException", Cond.fieldLink RX8 29 "Koebehall" "remainderWalk" "LKoebehall$RemainderWalk;", Cond.methodLink RX8 209 yX8_gasketOf, Cond.instanceMethod yX8_gasketOf, Cond.selects RX8 yX8_gasketOf yX8_gasketOf, Cond.initialized RX8, Cond.code yX8_gasketOf cX8_gasketOf 2 (some (.object "Koebehall$Gasket")), Cond.classLink RX8 56 "java/lang/IndexOutOfBoundsException", Cond.initialized "java/lang/IndexOutOfBoundsException", Cond.fieldLink RX8 23 "Koebehall" "gaskets" "Ljava/util/ArrayList;", Cond.classLink RX8 187 "Koebehall$Gasket", Cond.methodLink RX8 129 yJx4a65c_size_8abf5, Cond.instanceMethod yJx4a65c_size_8abf5, Cond.selects RJx4a65c yJx4a65c_size_8abf5 yJx4a65c_size_8abf5, Cond.initialized RJx4a65c, Cond.code yJx4a65c_size_8abf5 cJx4a65c_size_8abf5 1 (some .int), Cond.fieldLink RJx4a65c 48 "java/util/ArrayList" "size" "I", Cond.methodLink RX8 148 yJx4a65c_get_915e3, Cond.instanceMethod yJx4a65c_get_915e3, Cond.selects RJx4a65c yJx4a65c_get_915e3 yJx4a65c_get_915e3, Cond.code yJx4a65c_get_915e3 cJx4a65c_get_915e3 2 (some (.object "java/lang/Object")), Cond.methodLink RJx4a65c 118 yJ15_checkIndex_7cf53, Cond.static yJ15_checkIndex_7cf53]
def wsX8_remainders_r2 : List Cond := [Cond.initialized RJ15, Cond.code yJ15_checkIndex_7cf53 cJ15_checkIndex_7cf53 2 (some .int), Cond.methodLink RJ15 105 yJ3_checkIndex_8e157, Cond.static yJ3_checkIndex_8e157, Cond.initialized RJ3, Cond.code yJ3_checkIndex_8e157 cJ3_checkIndex_8e157 3 (some .int), Cond.methodLink RJx4a65c 123 yJx4a65c_elementData_915e3, Cond.instanceMethod yJx4a65c_elementData_915e3, Cond.selects RJx4a65c yJx4a65c_elementData_915e3 yJx4a65c_elementData_915e3, Cond.code yJx4a65c_elementData_915e3 cJx4a65c_elementData_915e3 2 (some (.object "java/lang/Object")), Cond.fieldLink RJx4a65c 9 "java/util/ArrayList" "elementData" "[Ljava/lang/Object;", Cond.instanceMethod yX5_allReached, Cond.initialized RX5, Cond.selects RX5 yX5_allReached yX5_allReached, Cond.code yX5_allReached cX5_allReached 7 (some .int), Cond.fieldLink RX5 11 "Koebehall$RemainderWalk" "seen" "[J", Cond.fieldLink RX5 15 "Koebehall$RemainderWalk" "waiting" "[J", Cond.methodLink RX5 18 yJ7_fill_d0a16, Cond.static yJ7_fill_d0a16, Cond.initialized RJ7, Cond.code yJ7_fill_d0a16 cJ7_fill_d0a16 5 none, Cond.methodLink RX5 24 yX5_codeOf, Cond.static yX5_codeOf, Cond.code yX5_codeOf cX5_codeOf 4 (some .int)]
def wsX8_remainders_r3 : List Cond := [Cond.methodLink RX5 44 yJ9_floorMod_f86c9, Cond.static yJ9_floorMod_f86c9, Cond.initialized RJ9, Cond.code yJ9_floorMod_f86c9 cJ9_floorMod_f86c9 6 (some .long), Cond.methodLink RX5 28 yX5_noteCode, Cond.instanceMethod yX5_noteCode, Cond.selects RX5 yX5_noteCode yX5_noteCode, Cond.code yX5_noteCode cX5_noteCode 4 none, Cond.methodLink RX5 32 yX5_takeWaiting, Cond.instanceMethod yX5_takeWaiting, Cond.selects RX5 yX5_takeWaiting yX5_takeWaiting, Cond.code yX5_takeWaiting cX5_takeWaiting 3 (some .int), Cond.methodLink RX5 52 yJ13_numberOfTrailingZeros_95d88, Cond.static yJ13_numberOfTrailingZeros_95d88, Cond.initialized RJ13, Cond.code yJ13_numberOfTrailingZeros_95d88 cJ13_numberOfTrailingZeros_95d88 3 (some .int), Cond.methodLink RJ13 311 yJ6_numberOfTrailingZeros_0f7a4, Cond.static yJ6_numberOfTrailingZeros_0f7a4, Cond.initialized RJ6, Cond.code yJ6_numberOfTrailingZeros_0f7a4 cJ6_numberOfTrailingZeros_0f7a4 2 (some .int), Cond.constant RJ6 264 (65536), Cond.methodLink RX5 36 yX5_remainderAt, Cond.static yX5_remainderAt, Cond.code yX5_remainderAt cX5_remainderAt 2 (some .int)]
def wsX8_remainders_r4 : List Cond := [Cond.methodLink RX5 40 yX5_turnedCode, Cond.static yX5_turnedCode, Cond.code yX5_turnedCode cX5_turnedCode 5 (some .int), Cond.methodLink RX5 50 yJ9_floorMod_7cf53, Cond.static yJ9_floorMod_7cf53, Cond.code yJ9_floorMod_7cf53 cJ9_floorMod_7cf53 3 (some .int)]
def wsX8_remainders : List Cond := .code yX8_remainders cX8_remainders 4 (some .int) :: ((wsX8_remainders_r1 ++ (wsX8_remainders_r2 ++ (wsX8_remainders_r3 ++ wsX8_remainders_r4))) ++ wsX80 ++ wsX20 ++ wsJx4a65c0 ++ wsX50 ++ (vx_atS RX8 128 "java/lang/IllegalArgumentException" ["java/lang/RuntimeException", "java/lang/Exception"]).filter goodWord ++ (vx_atS RX8 60 "java/lang/IndexOutOfBoundsException" ["java/lang/RuntimeException", "java/lang/Exception"]).filter goodWord)
def wsX8_refuseNoFraction : List Cond := .code yX8_refuseNoFraction cX8_refuseNoFraction 2 none :: ([.classLink RX8 124 "java/lang/IllegalArgumentException", .initialized "java/lang/IllegalArgumentException", .constantLong RX8 170 (1000000000), .constant RX8 176 (1000000000), .methodLink RX8 172 yX8_isWithin, .static yX8_isWithin, .initialized RX8, .code yX8_isWithin cX8_isWithin 4 (some .boolean), .static yX1_isLowest, .initialized RX1, .code yX1_isLowest cX1_isLowest 11 (some .boolean), .methodLink RX1 7 Lib.MathLoose.abs_long.x, .static Lib.MathLoose.abs_long.x, .initialized "java/lang/Math", .code Lib.MathLoose.abs_long.x Lib.MathLoose.abs_long.code 2 (some .long)] ++ (vx_atS RX8 128 "java/lang/IllegalArgumentException" ["java/lang/RuntimeException", "java/lang/Exception"]).filter goodWord)
def wsX8_ford : List Cond := .code yX8_ford cX8_ford 7 (some .int) :: ([.constantLong RX8 256 (-1), .methodLink RX8 246 yX8_refuseNoFraction, .static yX8_refuseNoFraction, .initialized RX8, .code yX8_refuseNoFraction cX8_refuseNoFraction 2 none, .classLink RX8 124 "java/lang/IllegalArgumentException", .initialized "java/lang/IllegalArgumentException", .constantLong RX8 170 (1000000000), .constant RX8 176 (1000000000), .methodLink RX8 172 yX8_isWithin, .static yX8_isWithin, .code yX8_isWithin cX8_isWithin 4 (some .boolean), .static yX1_isLowest, .initialized RX1, .code yX1_isLowest cX1_isLowest 11 (some .boolean), .methodLink RX1 7 Lib.MathLoose.abs_long.x, .static Lib.MathLoose.abs_long.x, .initialized "java/lang/Math", .code Lib.MathLoose.abs_long.x Lib.MathLoose.abs_long.code 2 (some .long), .static yX1_crossed, .code yX1_crossed cX1_crossed 8 (some .long)] ++ (vx_atS RX8 128 "java/lang/IllegalArgumentException" ["java/lang/RuntimeException", "java/lang/Exception"]).filter goodWord)
def wsX8_between_r1 : List Cond := [Cond.classLink RX8 124 "java/lang/IllegalArgumentException", Cond.initialized "java/lang/IllegalArgumentException", Cond.methodLink RX8 246 yX8_refuseNoFraction, Cond.static yX8_refuseNoFraction, Cond.initialized RX8, Cond.code yX8_refuseNoFraction cX8_refuseNoFraction 2 none, Cond.constantLong RX8 170 (1000000000), Cond.constant RX8 176 (1000000000), Cond.methodLink RX8 172 yX8_isWithin, Cond.static yX8_isWithin, Cond.code yX8_isWithin cX8_isWithin 4 (some .boolean), Cond.static yX1_isLowest, Cond.initialized RX1, Cond.code yX1_isLowest cX1_isLowest 11 (some .boolean), Cond.methodLink RX1 7 Lib.MathLoose.abs_long.x, Cond.static Lib.MathLoose.abs_long.x, Cond.initialized "java/lang/Math", Cond.code Lib.MathLoose.abs_long.x Lib.MathLoose.abs_long.code 2 (some .long), Cond.static yX1_crossed, Cond.code yX1_crossed cX1_crossed 8 (some .long), Cond.static yX1_simplest, Cond.code yX1_simplest cX1_simplest 39 (some .long), Cond.methodLink RX1 15 yJ9_floorDiv_f86c9, Cond.static yJ9_floorDiv_f86c9]
def wsX8_between_r2 : List Cond := [Cond.initialized RJ9, Cond.code yJ9_floorDiv_f86c9 cJ9_floorDiv_f86c9 6 (some .long)]
def wsX8_between : List Cond := .code yX8_between cX8_between 8 (some .long) :: ((wsX8_between_r1 ++ wsX8_between_r2) ++ (vx_atS RX8 128 "java/lang/IllegalArgumentException" ["java/lang/RuntimeException", "java/lang/Exception"]).filter goodWord)
def wsX8_tell_r1 : List Cond := [Cond.classLink RX8 124 "java/lang/IllegalArgumentException", Cond.initialized "java/lang/IllegalArgumentException", Cond.classLink RX8 67 "java/lang/IllegalStateException", Cond.initialized "java/lang/IllegalStateException", Cond.fieldLink RX8 33 "Koebehall" "moves" "Ljava/util/ArrayList;", Cond.classLink RX8 36 RX6, Cond.instantiable RX6 4, Cond.initialized RX6, Cond.methodLink RX8 182 yX8_areFourWithin, Cond.static yX8_areFourWithin, Cond.initialized RX8, Cond.code yX8_areFourWithin cX8_areFourWithin 5 (some .boolean), Cond.methodLink RX8 172 yX8_isWithin, Cond.static yX8_isWithin, Cond.code yX8_isWithin cX8_isWithin 4 (some .boolean), Cond.methodLink RX8 129 yJx4a65c_size_8abf5, Cond.instanceMethod yJx4a65c_size_8abf5, Cond.selects RJx4a65c yJx4a65c_size_8abf5 yJx4a65c_size_8abf5, Cond.initialized RJx4a65c, Cond.code yJx4a65c_size_8abf5 cJx4a65c_size_8abf5 1 (some .int), Cond.fieldLink RJx4a65c 48 "java/util/ArrayList" "size" "I", Cond.instanceMethod yX6_init, Cond.code yX6_init cX6_init 9 none, Cond.methodLink RX6 1 objectInit]
def wsX8_tell_r2 : List Cond := [Cond.instanceMethod objectInit, Cond.code objectInit ⟨#[0xb1]⟩ 1 none, Cond.fieldLink RX6 7 "Koebehall$Table" "a" "J", Cond.fieldLink RX6 13 "Koebehall$Table" "b" "J", Cond.fieldLink RX6 16 "Koebehall$Table" "c" "J", Cond.fieldLink RX6 19 "Koebehall$Table" "d" "J", Cond.methodLink RX8 139 yJx4a65c_add_9ea2d, Cond.instanceMethod yJx4a65c_add_9ea2d, Cond.selects RJx4a65c yJx4a65c_add_9ea2d yJx4a65c_add_9ea2d, Cond.code yJx4a65c_add_9ea2d cJx4a65c_add_9ea2d 2 (some .boolean), Cond.fieldLink RJx4a65c 63 "java/util/ArrayList" "modCount" "I", Cond.sameField "java/util/ArrayList" "java/util/AbstractList" "modCount" "I", Cond.fieldLink RJx4a65c 9 "java/util/ArrayList" "elementData" "[Ljava/lang/Object;", Cond.methodLink RJx4a65c 131 yJx4a65c_add_72be8, Cond.instanceMethod yJx4a65c_add_72be8, Cond.selects RJx4a65c yJx4a65c_add_72be8 yJx4a65c_add_72be8, Cond.code yJx4a65c_add_72be8 cJx4a65c_add_72be8 4 none, Cond.methodLink RJx4a65c 129 yJx4a65c_grow_d5877, Cond.instanceMethod yJx4a65c_grow_d5877, Cond.selects RJx4a65c yJx4a65c_grow_d5877 yJx4a65c_grow_d5877, Cond.code yJx4a65c_grow_d5877 cJx4a65c_grow_d5877 1 (some (.array (.object "java/lang/Object"))), Cond.methodLink RJx4a65c 69 yJx4a65c_grow_92f84, Cond.instanceMethod yJx4a65c_grow_92f84, Cond.selects RJx4a65c yJx4a65c_grow_92f84 yJx4a65c_grow_92f84]
def wsX8_tell_r3 : List Cond := [Cond.code yJx4a65c_grow_92f84 cJx4a65c_grow_92f84 4 (some (.array (.object "java/lang/Object"))), Cond.fieldLink RJx4a65c 39 "java/util/ArrayList" "DEFAULTCAPACITY_EMPTY_ELEMENTDATA" "[Ljava/lang/Object;", Cond.methodLink RJx4a65c 79 Lib.Math.max.name, Cond.static Lib.Math.max.name, Cond.initialized "java/lang/Math", Cond.code Lib.Math.max.name Lib.Math.max.code 2 (some .int), Cond.classLink RJx4a65c 7 "java/lang/Object", Cond.methodLink RJx4a65c 73 yJ8_newLength_cabcc, Cond.static yJ8_newLength_cabcc, Cond.initialized RJ8, Cond.code yJ8_newLength_cabcc cJ8_newLength_cabcc 4 (some .int), Cond.methodLink RJ8 194 Lib.Math.max.name, Cond.constant RJ8 200 (2147483639), Cond.methodLink RJ8 201 yJ8_hugeLength_7cf53, Cond.static yJ8_hugeLength_7cf53, Cond.code yJ8_hugeLength_7cf53 cJ8_hugeLength_7cf53 3 (some .int), Cond.methodLink RJx4a65c 66 yJ7_copyOf_1904c, Cond.static yJ7_copyOf_1904c, Cond.initialized RJ7, Cond.code yJ7_copyOf_1904c cJ7_copyOf_1904c 2 (some (.array (.object "java/lang/Object"))), Cond.methodLink RJ7 86 ⟨"java/lang/Object", "getClass", "()Ljava/lang/Class;"⟩, Cond.selects "[Ljava/lang/Object;" ⟨"java/lang/Object", "getClass", "()Ljava/lang/Class;"⟩ ⟨"java/lang/Object", "getClass", "()Ljava/lang/Class;"⟩, Cond.instanceMethod ⟨"java/lang/Object", "getClass", "()Ljava/lang/Class;"⟩, Cond.native ⟨"java/lang/Object", "getClass", "()Ljava/lang/Class;"⟩]
def wsX8_tell_r4 : List Cond := [Cond.methodLink RJ7 300 yJ7_copyOf_6403c, Cond.static yJ7_copyOf_6403c, Cond.code yJ7_copyOf_6403c cJ7_copyOf_6403c 4 (some (.array (.object "java/lang/Object"))), Cond.classLink RJ7 110 "[Ljava/lang/Object;", Cond.classLink RJ7 2 "java/lang/Object", Cond.methodLink RJ7 304 Lib.Math.min.name, Cond.static Lib.Math.min.name, Cond.code Lib.Math.min.name Lib.Math.min.code 2 (some .int), Cond.methodLink RJ7 150 arraycopyName, Cond.native arraycopyName, Cond.static arraycopyName, Cond.initialized "java/lang/System"]
def wsX8_tell : List Cond := .code yX8_tell cX8_tell 5 (some .int) :: ((wsX8_tell_r1 ++ (wsX8_tell_r2 ++ (wsX8_tell_r3 ++ wsX8_tell_r4))) ++ wsX80 ++ wsX60 ++ wsJx4a65c0 ++ (vx_atS RX8 128 "java/lang/IllegalArgumentException" ["java/lang/RuntimeException", "java/lang/Exception"]).filter goodWord ++ (vx_atS RX8 71 "java/lang/IllegalStateException" ["java/lang/RuntimeException", "java/lang/Exception"]).filter goodWord)
def wsX8_append_r1 : List Cond := [Cond.classLink RX8 56 "java/lang/IndexOutOfBoundsException", Cond.initialized "java/lang/IndexOutOfBoundsException", Cond.classLink RX8 67 "java/lang/IllegalStateException", Cond.initialized "java/lang/IllegalStateException", Cond.fieldLink RX8 33 "Koebehall" "moves" "Ljava/util/ArrayList;", Cond.classLink RX8 36 "Koebehall$Table", Cond.fieldLink RX8 41 "Koebehall" "product" "LKoebehall$Table;", Cond.constantLong RX8 170 (1000000000), Cond.methodLink RX8 129 yJx4a65c_size_8abf5, Cond.instanceMethod yJx4a65c_size_8abf5, Cond.selects RJx4a65c yJx4a65c_size_8abf5 yJx4a65c_size_8abf5, Cond.initialized RJx4a65c, Cond.code yJx4a65c_size_8abf5 cJx4a65c_size_8abf5 1 (some .int), Cond.fieldLink RJx4a65c 48 "java/util/ArrayList" "size" "I", Cond.methodLink RX8 148 yJx4a65c_get_915e3, Cond.instanceMethod yJx4a65c_get_915e3, Cond.selects RJx4a65c yJx4a65c_get_915e3 yJx4a65c_get_915e3, Cond.code yJx4a65c_get_915e3 cJx4a65c_get_915e3 2 (some (.object "java/lang/Object")), Cond.methodLink RJx4a65c 118 yJ15_checkIndex_7cf53, Cond.static yJ15_checkIndex_7cf53, Cond.initialized RJ15, Cond.code yJ15_checkIndex_7cf53 cJ15_checkIndex_7cf53 2 (some .int), Cond.methodLink RJ15 105 yJ3_checkIndex_8e157, Cond.static yJ3_checkIndex_8e157]
def wsX8_append_r2 : List Cond := [Cond.initialized RJ3, Cond.code yJ3_checkIndex_8e157 cJ3_checkIndex_8e157 3 (some .int), Cond.methodLink RJx4a65c 123 yJx4a65c_elementData_915e3, Cond.instanceMethod yJx4a65c_elementData_915e3, Cond.selects RJx4a65c yJx4a65c_elementData_915e3 yJx4a65c_elementData_915e3, Cond.code yJx4a65c_elementData_915e3 cJx4a65c_elementData_915e3 2 (some (.object "java/lang/Object")), Cond.fieldLink RJx4a65c 9 "java/util/ArrayList" "elementData" "[Ljava/lang/Object;", Cond.instanceMethod yX6_undone, Cond.initialized RX6, Cond.selects RX6 yX6_undone yX6_undone, Cond.code yX6_undone cX6_undone 1 (some (.object "Koebehall$Table")), Cond.classLink RX6 8 RX6, Cond.instantiable RX6 4, Cond.fieldLink RX6 19 "Koebehall$Table" "d" "J", Cond.fieldLink RX6 13 "Koebehall$Table" "b" "J", Cond.fieldLink RX6 16 "Koebehall$Table" "c" "J", Cond.fieldLink RX6 7 "Koebehall$Table" "a" "J", Cond.methodLink RX6 22 yX6_init, Cond.instanceMethod yX6_init, Cond.code yX6_init cX6_init 9 none, Cond.methodLink RX6 1 objectInit, Cond.instanceMethod objectInit, Cond.code objectInit ⟨#[0xb1]⟩ 1 none, Cond.instanceMethod yX6_times]
def wsX8_append_r3 : List Cond := [Cond.selects RX6 yX6_times yX6_times, Cond.code yX6_times cX6_times 2 (some (.object "Koebehall$Table")), Cond.instanceMethod yX6_isWhollyWithin, Cond.selects RX6 yX6_isWhollyWithin yX6_isWhollyWithin, Cond.code yX6_isWhollyWithin cX6_isWhollyWithin 3 (some .boolean), Cond.static yX8_isWithin, Cond.initialized RX8, Cond.code yX8_isWithin cX8_isWithin 4 (some .boolean), Cond.instanceMethod yX6_trace, Cond.selects RX6 yX6_trace yX6_trace, Cond.code yX6_trace cX6_trace 1 (some .long)]
def wsX8_append : List Cond := .code yX8_append cX8_append 5 (some .int) :: ((wsX8_append_r1 ++ (wsX8_append_r2 ++ wsX8_append_r3)) ++ wsX80 ++ wsJx4a65c0 ++ wsX60 ++ (vx_atS RX8 60 "java/lang/IndexOutOfBoundsException" ["java/lang/RuntimeException", "java/lang/Exception"]).filter goodWord ++ (vx_atS RX8 71 "java/lang/IllegalStateException" ["java/lang/RuntimeException", "java/lang/Exception"]).filter goodWord)
def wsX8_home : List Cond := .code yX8_home cX8_home 2 (some .int) :: ([.fieldLink RX8 41 "Koebehall" "product" "LKoebehall$Table;", .classLink RX8 36 RX6, .instantiable RX6 4, .initialized RX6, .instanceMethod yX6_trace, .selects RX6 yX6_trace yX6_trace, .code yX6_trace cX6_trace 1 (some .long), .fieldLink RX6 7 "Koebehall$Table" "a" "J", .fieldLink RX6 19 "Koebehall$Table" "d" "J", .instanceMethod yX6_init, .code yX6_init cX6_init 9 none, .methodLink RX6 1 objectInit, .instanceMethod objectInit, .code objectInit ⟨#[0xb1]⟩ 1 none, .fieldLink RX6 13 "Koebehall$Table" "b" "J", .fieldLink RX6 16 "Koebehall$Table" "c" "J"] ++ wsX80 ++ wsX60)
def wsX8_word : List Cond := .code yX8_word cX8_word 2 (some .int) :: ([.classLink RX8 56 "java/lang/IndexOutOfBoundsException", .initialized "java/lang/IndexOutOfBoundsException", .fieldLink RX8 41 "Koebehall" "product" "LKoebehall$Table;", .instanceMethod yX6_kind, .initialized RX6, .selects RX6 yX6_kind yX6_kind, .code yX6_kind cX6_kind 3 (some .int), .fieldLink RX6 13 "Koebehall$Table" "b" "J", .fieldLink RX6 16 "Koebehall$Table" "c" "J", .fieldLink RX6 7 "Koebehall$Table" "a" "J", .fieldLink RX6 19 "Koebehall$Table" "d" "J", .methodLink RX6 35 Lib.MathLoose.abs_long.x, .static Lib.MathLoose.abs_long.x, .initialized "java/lang/Math", .code Lib.MathLoose.abs_long.x Lib.MathLoose.abs_long.code 2 (some .long), .constantLong RX6 41 (2), .methodLink RX6 31 yX6_trace, .instanceMethod yX6_trace, .selects RX6 yX6_trace yX6_trace, .code yX6_trace cX6_trace 1 (some .long)] ++ wsX80 ++ wsX60 ++ (vx_atS RX8 60 "java/lang/IndexOutOfBoundsException" ["java/lang/RuntimeException", "java/lang/Exception"]).filter goodWord)
def wsX8_image : List Cond := .code yX8_image cX8_image 11 (some .long) :: ([.classLink RX8 124 "java/lang/IllegalArgumentException", .initialized "java/lang/IllegalArgumentException", .constantLong RX8 170 (1000000000), .constant RX8 176 (1000000000), .fieldLink RX8 41 "Koebehall" "product" "LKoebehall$Table;", .methodLink RX8 172 yX8_isWithin, .static yX8_isWithin, .initialized RX8, .code yX8_isWithin cX8_isWithin 4 (some .boolean), .static yX1_isLowest, .initialized RX1, .code yX1_isLowest cX1_isLowest 11 (some .boolean), .methodLink RX1 7 Lib.MathLoose.abs_long.x, .static Lib.MathLoose.abs_long.x, .initialized "java/lang/Math", .code Lib.MathLoose.abs_long.x Lib.MathLoose.abs_long.code 2 (some .long)] ++ wsX80 ++ wsX60 ++ (vx_atS RX8 128 "java/lang/IllegalArgumentException" ["java/lang/RuntimeException", "java/lang/Exception"]).filter goodWord)
def wsX8_nodes : List Cond := .code yX8_nodes cX8_nodes 2 (some .int) :: ([.classLink RX8 124 "java/lang/IllegalArgumentException", .initialized "java/lang/IllegalArgumentException", .fieldLink RX8 48 "Koebehall" "network" "LKoebehall$Network;", .instanceMethod yX4_beginAnew, .initialized RX4, .selects RX4 yX4_beginAnew yX4_beginAnew, .code yX4_beginAnew cX4_beginAnew 3 (some .int), .fieldLink RX4 23 "Koebehall$Network" "nodeCount" "I", .fieldLink RX4 12 "Koebehall$Network" "wires" "Ljava/util/ArrayList;", .methodLink RX4 27 yJx4a65c_clear_da8c8, .instanceMethod yJx4a65c_clear_da8c8, .selects RJx4a65c yJx4a65c_clear_da8c8 yJx4a65c_clear_da8c8, .initialized RJx4a65c, .code yJx4a65c_clear_da8c8 cJx4a65c_clear_da8c8 4 none, .fieldLink RJx4a65c 63 "java/util/ArrayList" "modCount" "I", .sameField "java/util/ArrayList" "java/util/AbstractList" "modCount" "I", .fieldLink RJx4a65c 9 "java/util/ArrayList" "elementData" "[Ljava/lang/Object;", .fieldLink RJx4a65c 48 "java/util/ArrayList" "size" "I"] ++ wsX80 ++ wsX40 ++ wsJx4a65c0 ++ (vx_atS RX8 128 "java/lang/IllegalArgumentException" ["java/lang/RuntimeException", "java/lang/Exception"]).filter goodWord)
def wsX8_wire_r1 : List Cond := [Cond.classLink RX8 56 "java/lang/IndexOutOfBoundsException", Cond.initialized "java/lang/IndexOutOfBoundsException", Cond.classLink RX8 124 "java/lang/IllegalArgumentException", Cond.initialized "java/lang/IllegalArgumentException", Cond.classLink RX8 67 "java/lang/IllegalStateException", Cond.initialized "java/lang/IllegalStateException", Cond.fieldLink RX8 48 "Koebehall" "network" "LKoebehall$Network;", Cond.classLink RX8 323 RX7, Cond.instantiable RX7 2, Cond.initialized RX7, Cond.instanceMethod yX4_hasNode, Cond.initialized RX4, Cond.selects RX4 yX4_hasNode yX4_hasNode, Cond.code yX4_hasNode cX4_hasNode 2 (some .boolean), Cond.fieldLink RX4 23 "Koebehall$Network" "nodeCount" "I", Cond.methodLink RX8 129 yJx4a65c_size_8abf5, Cond.instanceMethod yJx4a65c_size_8abf5, Cond.selects RJx4a65c yJx4a65c_size_8abf5 yJx4a65c_size_8abf5, Cond.initialized RJx4a65c, Cond.code yJx4a65c_size_8abf5 cJx4a65c_size_8abf5 1 (some .int), Cond.fieldLink RJx4a65c 48 "java/util/ArrayList" "size" "I", Cond.instanceMethod yX7_init, Cond.code yX7_init cX7_init 3 none, Cond.methodLink RX7 1 objectInit]
def wsX8_wire_r2 : List Cond := [Cond.instanceMethod objectInit, Cond.code objectInit ⟨#[0xb1]⟩ 1 none, Cond.fieldLink RX7 7 "Koebehall$Wire" "first" "I", Cond.fieldLink RX7 13 "Koebehall$Wire" "second" "I", Cond.methodLink RX8 139 yJx4a65c_add_9ea2d, Cond.instanceMethod yJx4a65c_add_9ea2d, Cond.selects RJx4a65c yJx4a65c_add_9ea2d yJx4a65c_add_9ea2d, Cond.code yJx4a65c_add_9ea2d cJx4a65c_add_9ea2d 2 (some .boolean), Cond.fieldLink RJx4a65c 63 "java/util/ArrayList" "modCount" "I", Cond.sameField "java/util/ArrayList" "java/util/AbstractList" "modCount" "I", Cond.fieldLink RJx4a65c 9 "java/util/ArrayList" "elementData" "[Ljava/lang/Object;", Cond.methodLink RJx4a65c 131 yJx4a65c_add_72be8, Cond.instanceMethod yJx4a65c_add_72be8, Cond.selects RJx4a65c yJx4a65c_add_72be8 yJx4a65c_add_72be8, Cond.code yJx4a65c_add_72be8 cJx4a65c_add_72be8 4 none, Cond.methodLink RJx4a65c 129 yJx4a65c_grow_d5877, Cond.instanceMethod yJx4a65c_grow_d5877, Cond.selects RJx4a65c yJx4a65c_grow_d5877 yJx4a65c_grow_d5877, Cond.code yJx4a65c_grow_d5877 cJx4a65c_grow_d5877 1 (some (.array (.object "java/lang/Object"))), Cond.methodLink RJx4a65c 69 yJx4a65c_grow_92f84, Cond.instanceMethod yJx4a65c_grow_92f84, Cond.selects RJx4a65c yJx4a65c_grow_92f84 yJx4a65c_grow_92f84, Cond.code yJx4a65c_grow_92f84 cJx4a65c_grow_92f84 4 (some (.array (.object "java/lang/Object"))), Cond.fieldLink RJx4a65c 39 "java/util/ArrayList" "DEFAULTCAPACITY_EMPTY_ELEMENTDATA" "[Ljava/lang/Object;"]
def wsX8_wire_r3 : List Cond := [Cond.methodLink RJx4a65c 79 Lib.Math.max.name, Cond.static Lib.Math.max.name, Cond.initialized "java/lang/Math", Cond.code Lib.Math.max.name Lib.Math.max.code 2 (some .int), Cond.classLink RJx4a65c 7 "java/lang/Object", Cond.methodLink RJx4a65c 73 yJ8_newLength_cabcc, Cond.static yJ8_newLength_cabcc, Cond.initialized RJ8, Cond.code yJ8_newLength_cabcc cJ8_newLength_cabcc 4 (some .int), Cond.methodLink RJ8 194 Lib.Math.max.name, Cond.constant RJ8 200 (2147483639), Cond.methodLink RJ8 201 yJ8_hugeLength_7cf53, Cond.static yJ8_hugeLength_7cf53, Cond.code yJ8_hugeLength_7cf53 cJ8_hugeLength_7cf53 3 (some .int), Cond.methodLink RJx4a65c 66 yJ7_copyOf_1904c, Cond.static yJ7_copyOf_1904c, Cond.initialized RJ7, Cond.code yJ7_copyOf_1904c cJ7_copyOf_1904c 2 (some (.array (.object "java/lang/Object"))), Cond.methodLink RJ7 86 ⟨"java/lang/Object", "getClass", "()Ljava/lang/Class;"⟩, Cond.selects "[Ljava/lang/Object;" ⟨"java/lang/Object", "getClass", "()Ljava/lang/Class;"⟩ ⟨"java/lang/Object", "getClass", "()Ljava/lang/Class;"⟩, Cond.instanceMethod ⟨"java/lang/Object", "getClass", "()Ljava/lang/Class;"⟩, Cond.native ⟨"java/lang/Object", "getClass", "()Ljava/lang/Class;"⟩, Cond.methodLink RJ7 300 yJ7_copyOf_6403c, Cond.static yJ7_copyOf_6403c]
def wsX8_wire_r4 : List Cond := [Cond.code yJ7_copyOf_6403c cJ7_copyOf_6403c 4 (some (.array (.object "java/lang/Object"))), Cond.classLink RJ7 110 "[Ljava/lang/Object;", Cond.classLink RJ7 2 "java/lang/Object", Cond.methodLink RJ7 304 Lib.Math.min.name, Cond.static Lib.Math.min.name, Cond.code Lib.Math.min.name Lib.Math.min.code 2 (some .int), Cond.methodLink RJ7 150 arraycopyName, Cond.native arraycopyName, Cond.static arraycopyName, Cond.initialized "java/lang/System"]
def wsX8_wire : List Cond := .code yX8_wire cX8_wire 3 (some .int) :: ((wsX8_wire_r1 ++ (wsX8_wire_r2 ++ (wsX8_wire_r3 ++ wsX8_wire_r4))) ++ wsX80 ++ wsX40 ++ wsX70 ++ wsJx4a65c0 ++ (vx_atS RX8 60 "java/lang/IndexOutOfBoundsException" ["java/lang/RuntimeException", "java/lang/Exception"]).filter goodWord ++ (vx_atS RX8 128 "java/lang/IllegalArgumentException" ["java/lang/RuntimeException", "java/lang/Exception"]).filter goodWord ++ (vx_atS RX8 71 "java/lang/IllegalStateException" ["java/lang/RuntimeException", "java/lang/Exception"]).filter goodWord)
def wsX8_trees_r1 : List Cond := [Cond.fieldLink RX8 48 "Koebehall" "network" "LKoebehall$Network;", Cond.instanceMethod yX4_treesByTable, Cond.initialized RX4, Cond.selects RX4 yX4_treesByTable yX4_treesByTable, Cond.code yX4_treesByTable cX4_treesByTable 1 (some .long), Cond.fieldLink RX4 23 "Koebehall$Network" "nodeCount" "I", Cond.methodLink RX4 34 yX4_fillTable, Cond.instanceMethod yX4_fillTable, Cond.selects RX4 yX4_fillTable yX4_fillTable, Cond.code yX4_fillTable cX4_fillTable 5 none, Cond.fieldLink RX4 20 "Koebehall$Network" "rows" "[[J", Cond.fieldLink RX4 12 "Koebehall$Network" "wires" "Ljava/util/ArrayList;", Cond.classLink RX4 52 "Koebehall$Wire", Cond.constantLong RX4 68 (-1), Cond.methodLink RX4 42 yJ7_fill_d0a16, Cond.static yJ7_fill_d0a16, Cond.initialized RJ7, Cond.code yJ7_fill_d0a16 cJ7_fill_d0a16 5 none, Cond.methodLink RX4 30 yJx4a65c_size_8abf5, Cond.instanceMethod yJx4a65c_size_8abf5, Cond.selects RJx4a65c yJx4a65c_size_8abf5 yJx4a65c_size_8abf5, Cond.initialized RJx4a65c, Cond.code yJx4a65c_size_8abf5 cJx4a65c_size_8abf5 1 (some .int), Cond.fieldLink RJx4a65c 48 "java/util/ArrayList" "size" "I"]
def wsX8_trees_r2 : List Cond := [Cond.methodLink RX4 48 yJx4a65c_get_915e3, Cond.instanceMethod yJx4a65c_get_915e3, Cond.selects RJx4a65c yJx4a65c_get_915e3 yJx4a65c_get_915e3, Cond.code yJx4a65c_get_915e3 cJx4a65c_get_915e3 2 (some (.object "java/lang/Object")), Cond.methodLink RJx4a65c 118 yJ15_checkIndex_7cf53, Cond.static yJ15_checkIndex_7cf53, Cond.initialized RJ15, Cond.code yJ15_checkIndex_7cf53 cJ15_checkIndex_7cf53 2 (some .int), Cond.methodLink RJ15 105 yJ3_checkIndex_8e157, Cond.static yJ3_checkIndex_8e157, Cond.initialized RJ3, Cond.code yJ3_checkIndex_8e157 cJ3_checkIndex_8e157 3 (some .int), Cond.methodLink RJx4a65c 123 yJx4a65c_elementData_915e3, Cond.instanceMethod yJx4a65c_elementData_915e3, Cond.selects RJx4a65c yJx4a65c_elementData_915e3 yJx4a65c_elementData_915e3, Cond.code yJx4a65c_elementData_915e3 cJx4a65c_elementData_915e3 2 (some (.object "java/lang/Object")), Cond.fieldLink RJx4a65c 9 "java/util/ArrayList" "elementData" "[Ljava/lang/Object;", Cond.methodLink RX4 57 yX4_lineOf, Cond.static yX4_lineOf, Cond.code yX4_lineOf cX4_lineOf 2 (some .int), Cond.methodLink RX4 64 yX4_addToTable, Cond.instanceMethod yX4_addToTable, Cond.selects RX4 yX4_addToTable yX4_addToTable, Cond.code yX4_addToTable cX4_addToTable 5 none]
def wsX8_trees_r3 : List Cond := [Cond.methodLink RX4 38 yX4_determinant, Cond.instanceMethod yX4_determinant, Cond.selects RX4 yX4_determinant yX4_determinant, Cond.code yX4_determinant cX4_determinant 8 (some .long), Cond.methodLink RX4 70 yX4_pivotRow, Cond.instanceMethod yX4_pivotRow, Cond.selects RX4 yX4_pivotRow yX4_pivotRow, Cond.code yX4_pivotRow cX4_pivotRow 4 (some .int), Cond.methodLink RX4 73 yX4_swapRows, Cond.instanceMethod yX4_swapRows, Cond.selects RX4 yX4_swapRows yX4_swapRows, Cond.code yX4_swapRows cX4_swapRows 4 none, Cond.methodLink RX4 77 yX4_reduceBelow, Cond.instanceMethod yX4_reduceBelow, Cond.selects RX4 yX4_reduceBelow yX4_reduceBelow, Cond.code yX4_reduceBelow cX4_reduceBelow 9 none]
def wsX8_trees : List Cond := .code yX8_trees cX8_trees 1 (some .int) :: ((wsX8_trees_r1 ++ (wsX8_trees_r2 ++ wsX8_trees_r3)) ++ wsX80 ++ wsX40 ++ wsX70 ++ wsJx4a65c0)
def wsX8_treesAnew_r1 : List Cond := [Cond.fieldLink RX8 48 "Koebehall" "network" "LKoebehall$Network;", Cond.instanceMethod yX4_treesBySets, Cond.initialized RX4, Cond.selects RX4 yX4_treesBySets yX4_treesBySets, Cond.code yX4_treesBySets cX4_treesBySets 3 (some .int), Cond.fieldLink RX4 12 "Koebehall$Network" "wires" "Ljava/util/ArrayList;", Cond.fieldLink RX4 23 "Koebehall$Network" "nodeCount" "I", Cond.methodLink RX4 30 yJx4a65c_size_8abf5, Cond.instanceMethod yJx4a65c_size_8abf5, Cond.selects RJx4a65c yJx4a65c_size_8abf5 yJx4a65c_size_8abf5, Cond.initialized RJx4a65c, Cond.code yJx4a65c_size_8abf5 cJx4a65c_size_8abf5 1 (some .int), Cond.fieldLink RJx4a65c 48 "java/util/ArrayList" "size" "I", Cond.methodLink RX4 80 yJ6_bitCount_0f7a4, Cond.static yJ6_bitCount_0f7a4, Cond.initialized RJ6, Cond.code yJ6_bitCount_0f7a4 cJ6_bitCount_0f7a4 1 (some .int), Cond.constant RJ6 265 (1431655765), Cond.constant RJ6 266 (858993459), Cond.constant RJ6 267 (252645135), Cond.methodLink RX4 86 yX4_hangsTogether, Cond.instanceMethod yX4_hangsTogether, Cond.selects RX4 yX4_hangsTogether yX4_hangsTogether, Cond.code yX4_hangsTogether cX4_hangsTogether 6 (some .boolean)]
def wsX8_treesAnew_r2 : List Cond := [Cond.classLink RX4 52 "Koebehall$Wire", Cond.methodLink RX4 48 yJx4a65c_get_915e3, Cond.instanceMethod yJx4a65c_get_915e3, Cond.selects RJx4a65c yJx4a65c_get_915e3 yJx4a65c_get_915e3, Cond.code yJx4a65c_get_915e3 cJx4a65c_get_915e3 2 (some (.object "java/lang/Object")), Cond.methodLink RJx4a65c 118 yJ15_checkIndex_7cf53, Cond.static yJ15_checkIndex_7cf53, Cond.initialized RJ15, Cond.code yJ15_checkIndex_7cf53 cJ15_checkIndex_7cf53 2 (some .int), Cond.methodLink RJ15 105 yJ3_checkIndex_8e157, Cond.static yJ3_checkIndex_8e157, Cond.initialized RJ3, Cond.code yJ3_checkIndex_8e157 cJ3_checkIndex_8e157 3 (some .int), Cond.methodLink RJx4a65c 123 yJx4a65c_elementData_915e3, Cond.instanceMethod yJx4a65c_elementData_915e3, Cond.selects RJx4a65c yJx4a65c_elementData_915e3 yJx4a65c_elementData_915e3, Cond.code yJx4a65c_elementData_915e3 cJx4a65c_elementData_915e3 2 (some (.object "java/lang/Object")), Cond.fieldLink RJx4a65c 9 "java/util/ArrayList" "elementData" "[Ljava/lang/Object;"]
def wsX8_treesAnew : List Cond := .code yX8_treesAnew cX8_treesAnew 1 (some .int) :: ((wsX8_treesAnew_r1 ++ wsX8_treesAnew_r2) ++ wsX80 ++ wsX40 ++ wsJx4a65c0 ++ wsX70)
def wsX8_side_r1 : List Cond := [Cond.classLink RX8 56 "java/lang/IndexOutOfBoundsException", Cond.initialized "java/lang/IndexOutOfBoundsException", Cond.classLink RX8 124 "java/lang/IllegalArgumentException", Cond.initialized "java/lang/IllegalArgumentException", Cond.classLink RX8 67 "java/lang/IllegalStateException", Cond.initialized "java/lang/IllegalStateException", Cond.fieldLink RX8 48 "Koebehall" "network" "LKoebehall$Network;", Cond.instanceMethod yX4_hasNode, Cond.initialized RX4, Cond.selects RX4 yX4_hasNode yX4_hasNode, Cond.code yX4_hasNode cX4_hasNode 2 (some .boolean), Cond.fieldLink RX4 23 "Koebehall$Network" "nodeCount" "I", Cond.instanceMethod yX4_hasWire, Cond.selects RX4 yX4_hasWire yX4_hasWire, Cond.code yX4_hasWire cX4_hasWire 2 (some .boolean), Cond.fieldLink RX4 12 "Koebehall$Network" "wires" "Ljava/util/ArrayList;", Cond.methodLink RX4 30 yJx4a65c_size_8abf5, Cond.instanceMethod yJx4a65c_size_8abf5, Cond.selects RJx4a65c yJx4a65c_size_8abf5 yJx4a65c_size_8abf5, Cond.initialized RJx4a65c, Cond.code yJx4a65c_size_8abf5 cJx4a65c_size_8abf5 1 (some .int), Cond.fieldLink RJx4a65c 48 "java/util/ArrayList" "size" "I", Cond.instanceMethod yX4_treesByTable, Cond.selects RX4 yX4_treesByTable yX4_treesByTable]
def wsX8_side_r2 : List Cond := [Cond.code yX4_treesByTable cX4_treesByTable 1 (some .long), Cond.methodLink RX4 34 yX4_fillTable, Cond.instanceMethod yX4_fillTable, Cond.selects RX4 yX4_fillTable yX4_fillTable, Cond.code yX4_fillTable cX4_fillTable 5 none, Cond.fieldLink RX4 20 "Koebehall$Network" "rows" "[[J", Cond.classLink RX4 52 "Koebehall$Wire", Cond.constantLong RX4 68 (-1), Cond.methodLink RX4 42 yJ7_fill_d0a16, Cond.static yJ7_fill_d0a16, Cond.initialized RJ7, Cond.code yJ7_fill_d0a16 cJ7_fill_d0a16 5 none, Cond.methodLink RX4 48 yJx4a65c_get_915e3, Cond.instanceMethod yJx4a65c_get_915e3, Cond.selects RJx4a65c yJx4a65c_get_915e3 yJx4a65c_get_915e3, Cond.code yJx4a65c_get_915e3 cJx4a65c_get_915e3 2 (some (.object "java/lang/Object")), Cond.methodLink RJx4a65c 118 yJ15_checkIndex_7cf53, Cond.static yJ15_checkIndex_7cf53, Cond.initialized RJ15, Cond.code yJ15_checkIndex_7cf53 cJ15_checkIndex_7cf53 2 (some .int), Cond.methodLink RJ15 105 yJ3_checkIndex_8e157, Cond.static yJ3_checkIndex_8e157, Cond.initialized RJ3, Cond.code yJ3_checkIndex_8e157 cJ3_checkIndex_8e157 3 (some .int)]
def wsX8_side_r3 : List Cond := [Cond.methodLink RJx4a65c 123 yJx4a65c_elementData_915e3, Cond.instanceMethod yJx4a65c_elementData_915e3, Cond.selects RJx4a65c yJx4a65c_elementData_915e3 yJx4a65c_elementData_915e3, Cond.code yJx4a65c_elementData_915e3 cJx4a65c_elementData_915e3 2 (some (.object "java/lang/Object")), Cond.fieldLink RJx4a65c 9 "java/util/ArrayList" "elementData" "[Ljava/lang/Object;", Cond.methodLink RX4 57 yX4_lineOf, Cond.static yX4_lineOf, Cond.code yX4_lineOf cX4_lineOf 2 (some .int), Cond.methodLink RX4 64 yX4_addToTable, Cond.instanceMethod yX4_addToTable, Cond.selects RX4 yX4_addToTable yX4_addToTable, Cond.code yX4_addToTable cX4_addToTable 5 none, Cond.methodLink RX4 38 yX4_determinant, Cond.instanceMethod yX4_determinant, Cond.selects RX4 yX4_determinant yX4_determinant, Cond.code yX4_determinant cX4_determinant 8 (some .long), Cond.methodLink RX4 70 yX4_pivotRow, Cond.instanceMethod yX4_pivotRow, Cond.selects RX4 yX4_pivotRow yX4_pivotRow, Cond.code yX4_pivotRow cX4_pivotRow 4 (some .int), Cond.methodLink RX4 73 yX4_swapRows, Cond.instanceMethod yX4_swapRows, Cond.selects RX4 yX4_swapRows yX4_swapRows, Cond.code yX4_swapRows cX4_swapRows 4 none]
def wsX8_side_r4 : List Cond := [Cond.methodLink RX4 77 yX4_reduceBelow, Cond.instanceMethod yX4_reduceBelow, Cond.selects RX4 yX4_reduceBelow yX4_reduceBelow, Cond.code yX4_reduceBelow cX4_reduceBelow 9 none, Cond.instanceMethod yX4_heightOf, Cond.selects RX4 yX4_heightOf yX4_heightOf, Cond.code yX4_heightOf cX4_heightOf 6 (some .long), Cond.instanceMethod yX4_fallAlong, Cond.selects RX4 yX4_fallAlong yX4_fallAlong, Cond.code yX4_fallAlong cX4_fallAlong 5 (some .long), Cond.methodLink RX4 90 yX4_hasWire, Cond.methodLink RX4 93 yX4_heightOf]
def wsX8_side : List Cond := .code yX8_side cX8_side 4 (some .int) :: ((wsX8_side_r1 ++ (wsX8_side_r2 ++ (wsX8_side_r3 ++ wsX8_side_r4))) ++ wsX80 ++ wsX40 ++ wsJx4a65c0 ++ wsX70 ++ (vx_atS RX8 60 "java/lang/IndexOutOfBoundsException" ["java/lang/RuntimeException", "java/lang/Exception"]).filter goodWord ++ (vx_atS RX8 128 "java/lang/IllegalArgumentException" ["java/lang/RuntimeException", "java/lang/Exception"]).filter goodWord ++ (vx_atS RX8 71 "java/lang/IllegalStateException" ["java/lang/RuntimeException", "java/lang/Exception"]).filter goodWord)
def wsX9_puts : List Cond := .code yX9_puts cX9_puts 7 none :: ([.fieldLink RX9 16 "KoebehallModel" "face" "[I"] ++ wsX90)
def wsX9_init_r1 : List Cond := [Cond.methodLink RX9 1 objectInit, Cond.instanceMethod objectInit, Cond.code objectInit ⟨#[0xb1]⟩ 1 none, Cond.fieldLink RX9 7 "KoebehallModel" "corners" "I", Cond.fieldLink RX9 13 "KoebehallModel" "faces" "I", Cond.arrayClass .int, Cond.fieldLink RX9 16 "KoebehallModel" "face" "[I", Cond.fieldLink RX9 20 "KoebehallModel" "middleX" "[I", Cond.fieldLink RX9 23 "KoebehallModel" "middleY" "[I", Cond.fieldLink RX9 26 "KoebehallModel" "radii" "[I", Cond.arrayClass .long, Cond.fieldLink RX9 29 "KoebehallModel" "curves" "[J", Cond.fieldLink RX9 33 "KoebehallModel" "roots" "[J", Cond.fieldLink RX9 36 "KoebehallModel" "steps" "[J", Cond.fieldLink RX9 39 "KoebehallModel" "nextTurn" "[I", Cond.fieldLink RX9 42 "KoebehallModel" "lastTurn" "[I", Cond.arrayClass .boolean, Cond.fieldLink RX9 45 "KoebehallModel" "seen" "[Z", Cond.fieldLink RX9 49 "KoebehallModel" "queue" "[I", Cond.fieldLink RX9 52 "KoebehallModel" "quotients" "[J", Cond.fieldLink RX9 55 "KoebehallModel" "tables" "[J", Cond.fieldLink RX9 58 "KoebehallModel" "word" "[J", Cond.fieldLink RX9 61 "KoebehallModel" "product" "[J", Cond.fieldLink RX9 64 "KoebehallModel" "nodes" "I"]
def wsX9_init_r2 : List Cond := [Cond.fieldLink RX9 67 "KoebehallModel" "ends" "[I", Cond.fieldLink RX9 70 "KoebehallModel" "others" "[I", Cond.fieldLink RX9 73 "KoebehallModel" "part" "[I", Cond.methodLink RX9 76 yX9_puts, Cond.instanceMethod yX9_puts, Cond.selects RX9 yX9_puts yX9_puts, Cond.initialized RX9, Cond.code yX9_puts cX9_puts 7 none]
def wsX9_init : List Cond := .code yX9_init cX9_init 1 none :: ((wsX9_init_r1 ++ wsX9_init_r2) ++ wsX90)
def wsX9_thrown : List Cond := .code yX9_thrown cX9_thrown 1 (some .int) :: ([.fieldLink RX9 80 "KoebehallModel" "thrown" "I"] ++ wsX90)
def wsX9_isIn : List Cond := .code yX9_isIn cX9_isIn 6 (some .boolean) :: ([])
def wsX9_isCorner : List Cond := .code yX9_isCorner cX9_isCorner 2 (some .boolean) :: ([.fieldLink RX9 7 "KoebehallModel" "corners" "I", .methodLink RX9 83 yX9_isIn, .static yX9_isIn, .initialized RX9, .code yX9_isIn cX9_isIn 6 (some .boolean)] ++ wsX90)
def wsX9_isFace : List Cond := .code yX9_isFace cX9_isFace 2 (some .boolean) :: ([.fieldLink RX9 13 "KoebehallModel" "faces" "I", .methodLink RX9 83 yX9_isIn, .static yX9_isIn, .initialized RX9, .code yX9_isIn cX9_isIn 6 (some .boolean)] ++ wsX90)
def wsX9_faceOf : List Cond := .code yX9_faceOf cX9_faceOf 6 (some .int) :: ([.fieldLink RX9 13 "KoebehallModel" "faces" "I", .fieldLink RX9 16 "KoebehallModel" "face" "[I"] ++ wsX90)
def wsX9_third : List Cond := .code yX9_third cX9_third 6 (some .int) :: ([.fieldLink RX9 16 "KoebehallModel" "face" "[I"] ++ wsX90)
def wsX9_areNeighbours : List Cond := .code yX9_areNeighbours cX9_areNeighbours 3 (some .boolean) :: ([.methodLink RX9 87 yX9_faceOf, .instanceMethod yX9_faceOf, .selects RX9 yX9_faceOf yX9_faceOf, .initialized RX9, .code yX9_faceOf cX9_faceOf 6 (some .int), .fieldLink RX9 13 "KoebehallModel" "faces" "I", .fieldLink RX9 16 "KoebehallModel" "face" "[I"] ++ wsX90)
def wsX9_split : List Cond := .code yX9_split cX9_split 5 (some .int) :: ([.fieldLink RX9 7 "KoebehallModel" "corners" "I", .fieldLink RX9 80 "KoebehallModel" "thrown" "I", .fieldLink RX9 16 "KoebehallModel" "face" "[I", .fieldLink RX9 13 "KoebehallModel" "faces" "I", .methodLink RX9 91 yX9_isFace, .instanceMethod yX9_isFace, .selects RX9 yX9_isFace yX9_isFace, .initialized RX9, .code yX9_isFace cX9_isFace 2 (some .boolean), .methodLink RX9 83 yX9_isIn, .static yX9_isIn, .code yX9_isIn cX9_isIn 6 (some .boolean), .methodLink RX9 76 yX9_puts, .instanceMethod yX9_puts, .selects RX9 yX9_puts yX9_puts, .code yX9_puts cX9_puts 7 none] ++ wsX90)
def wsX9_canFlip : List Cond := .code yX9_canFlip cX9_canFlip 3 (some .boolean) :: ([.methodLink RX9 95 yX9_areNeighbours, .instanceMethod yX9_areNeighbours, .selects RX9 yX9_areNeighbours yX9_areNeighbours, .initialized RX9, .code yX9_areNeighbours cX9_areNeighbours 3 (some .boolean), .methodLink RX9 87 yX9_faceOf, .instanceMethod yX9_faceOf, .selects RX9 yX9_faceOf yX9_faceOf, .code yX9_faceOf cX9_faceOf 6 (some .int), .fieldLink RX9 13 "KoebehallModel" "faces" "I", .fieldLink RX9 16 "KoebehallModel" "face" "[I", .methodLink RX9 99 yX9_third, .instanceMethod yX9_third, .selects RX9 yX9_third yX9_third, .code yX9_third cX9_third 6 (some .int)] ++ wsX90)
def wsX9_flip_r1 : List Cond := [Cond.fieldLink RX9 80 "KoebehallModel" "thrown" "I", Cond.methodLink RX9 103 yX9_isCorner, Cond.instanceMethod yX9_isCorner, Cond.selects RX9 yX9_isCorner yX9_isCorner, Cond.initialized RX9, Cond.code yX9_isCorner cX9_isCorner 2 (some .boolean), Cond.fieldLink RX9 7 "KoebehallModel" "corners" "I", Cond.methodLink RX9 83 yX9_isIn, Cond.static yX9_isIn, Cond.code yX9_isIn cX9_isIn 6 (some .boolean), Cond.methodLink RX9 106 yX9_canFlip, Cond.instanceMethod yX9_canFlip, Cond.selects RX9 yX9_canFlip yX9_canFlip, Cond.code yX9_canFlip cX9_canFlip 3 (some .boolean), Cond.methodLink RX9 95 yX9_areNeighbours, Cond.instanceMethod yX9_areNeighbours, Cond.selects RX9 yX9_areNeighbours yX9_areNeighbours, Cond.code yX9_areNeighbours cX9_areNeighbours 3 (some .boolean), Cond.methodLink RX9 87 yX9_faceOf, Cond.instanceMethod yX9_faceOf, Cond.selects RX9 yX9_faceOf yX9_faceOf, Cond.code yX9_faceOf cX9_faceOf 6 (some .int), Cond.fieldLink RX9 13 "KoebehallModel" "faces" "I", Cond.fieldLink RX9 16 "KoebehallModel" "face" "[I"]
def wsX9_flip_r2 : List Cond := [Cond.methodLink RX9 99 yX9_third, Cond.instanceMethod yX9_third, Cond.selects RX9 yX9_third yX9_third, Cond.code yX9_third cX9_third 6 (some .int), Cond.methodLink RX9 76 yX9_puts, Cond.instanceMethod yX9_puts, Cond.selects RX9 yX9_puts yX9_puts, Cond.code yX9_puts cX9_puts 7 none]
def wsX9_flip : List Cond := .code yX9_flip cX9_flip 7 (some .int) :: ((wsX9_flip_r1 ++ wsX9_flip_r2) ++ wsX90)
def wsX9_corner : List Cond := .code yX9_corner cX9_corner 3 (some .int) :: ([.constantLong RX9 109 (2), .fieldLink RX9 80 "KoebehallModel" "thrown" "I", .fieldLink RX9 16 "KoebehallModel" "face" "[I", .methodLink RX9 91 yX9_isFace, .instanceMethod yX9_isFace, .selects RX9 yX9_isFace yX9_isFace, .initialized RX9, .code yX9_isFace cX9_isFace 2 (some .boolean), .fieldLink RX9 13 "KoebehallModel" "faces" "I", .methodLink RX9 83 yX9_isIn, .static yX9_isIn, .code yX9_isIn cX9_isIn 6 (some .boolean)] ++ wsX90)
def wsX9_degree : List Cond := .code yX9_degree cX9_degree 4 (some .int) :: ([.fieldLink RX9 7 "KoebehallModel" "corners" "I", .methodLink RX9 95 yX9_areNeighbours, .instanceMethod yX9_areNeighbours, .selects RX9 yX9_areNeighbours yX9_areNeighbours, .initialized RX9, .code yX9_areNeighbours cX9_areNeighbours 3 (some .boolean), .methodLink RX9 87 yX9_faceOf, .instanceMethod yX9_faceOf, .selects RX9 yX9_faceOf yX9_faceOf, .code yX9_faceOf cX9_faceOf 6 (some .int), .fieldLink RX9 13 "KoebehallModel" "faces" "I", .fieldLink RX9 16 "KoebehallModel" "face" "[I"] ++ wsX90)
def wsX9_around_r1 : List Cond := [Cond.fieldLink RX9 80 "KoebehallModel" "thrown" "I", Cond.methodLink RX9 103 yX9_isCorner, Cond.instanceMethod yX9_isCorner, Cond.selects RX9 yX9_isCorner yX9_isCorner, Cond.initialized RX9, Cond.code yX9_isCorner cX9_isCorner 2 (some .boolean), Cond.fieldLink RX9 7 "KoebehallModel" "corners" "I", Cond.methodLink RX9 83 yX9_isIn, Cond.static yX9_isIn, Cond.code yX9_isIn cX9_isIn 6 (some .boolean), Cond.methodLink RX9 111 yX9_degree, Cond.instanceMethod yX9_degree, Cond.selects RX9 yX9_degree yX9_degree, Cond.code yX9_degree cX9_degree 4 (some .int), Cond.methodLink RX9 95 yX9_areNeighbours, Cond.instanceMethod yX9_areNeighbours, Cond.selects RX9 yX9_areNeighbours yX9_areNeighbours, Cond.code yX9_areNeighbours cX9_areNeighbours 3 (some .boolean), Cond.methodLink RX9 87 yX9_faceOf, Cond.instanceMethod yX9_faceOf, Cond.selects RX9 yX9_faceOf yX9_faceOf, Cond.code yX9_faceOf cX9_faceOf 6 (some .int), Cond.fieldLink RX9 13 "KoebehallModel" "faces" "I", Cond.fieldLink RX9 16 "KoebehallModel" "face" "[I"]
def wsX9_around_r2 : List Cond := [Cond.methodLink RX9 99 yX9_third, Cond.instanceMethod yX9_third, Cond.selects RX9 yX9_third yX9_third, Cond.code yX9_third cX9_third 6 (some .int)]
def wsX9_around : List Cond := .code yX9_around cX9_around 5 (some .int) :: ((wsX9_around_r1 ++ wsX9_around_r2) ++ wsX90)
def wsX9_net_r1 : List Cond := [Cond.constantLong RX9 115 (4), Cond.fieldLink RX9 80 "KoebehallModel" "thrown" "I", Cond.fieldLink RX9 7 "KoebehallModel" "corners" "I", Cond.fieldLink RX9 13 "KoebehallModel" "faces" "I", Cond.methodLink RX9 83 yX9_isIn, Cond.static yX9_isIn, Cond.initialized RX9, Cond.code yX9_isIn cX9_isIn 6 (some .boolean), Cond.methodLink RX9 111 yX9_degree, Cond.instanceMethod yX9_degree, Cond.selects RX9 yX9_degree yX9_degree, Cond.code yX9_degree cX9_degree 4 (some .int), Cond.methodLink RX9 95 yX9_areNeighbours, Cond.instanceMethod yX9_areNeighbours, Cond.selects RX9 yX9_areNeighbours yX9_areNeighbours, Cond.code yX9_areNeighbours cX9_areNeighbours 3 (some .boolean), Cond.methodLink RX9 87 yX9_faceOf, Cond.instanceMethod yX9_faceOf, Cond.selects RX9 yX9_faceOf yX9_faceOf, Cond.code yX9_faceOf cX9_faceOf 6 (some .int), Cond.fieldLink RX9 16 "KoebehallModel" "face" "[I", Cond.methodLink RX9 106 yX9_canFlip, Cond.instanceMethod yX9_canFlip, Cond.selects RX9 yX9_canFlip yX9_canFlip]
def wsX9_net_r2 : List Cond := [Cond.code yX9_canFlip cX9_canFlip 3 (some .boolean), Cond.methodLink RX9 99 yX9_third, Cond.instanceMethod yX9_third, Cond.selects RX9 yX9_third yX9_third, Cond.code yX9_third cX9_third 6 (some .int)]
def wsX9_net : List Cond := .code yX9_net cX9_net 6 (some .int) :: ((wsX9_net_r1 ++ wsX9_net_r2) ++ wsX90)
def wsX9_isDisk : List Cond := .code yX9_isDisk cX9_isDisk 3 (some .boolean) :: ([.constantLong RX9 117 (-1000000000), .constantLong RX9 119 (1000000000), .methodLink RX9 83 yX9_isIn, .static yX9_isIn, .initialized RX9, .code yX9_isIn cX9_isIn 6 (some .boolean)])
def wsX9_disk : List Cond := .code yX9_disk cX9_disk 4 (some .int) :: ([.fieldLink RX9 125 "KoebehallModel" "disks" "I", .fieldLink RX9 80 "KoebehallModel" "thrown" "I", .fieldLink RX9 20 "KoebehallModel" "middleX" "[I", .fieldLink RX9 23 "KoebehallModel" "middleY" "[I", .fieldLink RX9 26 "KoebehallModel" "radii" "[I", .methodLink RX9 121 yX9_isDisk, .static yX9_isDisk, .initialized RX9, .code yX9_isDisk cX9_isDisk 3 (some .boolean), .constantLong RX9 117 (-1000000000), .constantLong RX9 119 (1000000000), .methodLink RX9 83 yX9_isIn, .static yX9_isIn, .code yX9_isIn cX9_isIn 6 (some .boolean)] ++ wsX90)
def wsX9_move : List Cond := .code yX9_move cX9_move 6 (some .int) :: ([.fieldLink RX9 125 "KoebehallModel" "disks" "I", .fieldLink RX9 80 "KoebehallModel" "thrown" "I", .fieldLink RX9 26 "KoebehallModel" "radii" "[I", .fieldLink RX9 20 "KoebehallModel" "middleX" "[I", .fieldLink RX9 23 "KoebehallModel" "middleY" "[I", .methodLink RX9 83 yX9_isIn, .static yX9_isIn, .initialized RX9, .code yX9_isIn cX9_isIn 6 (some .boolean), .methodLink RX9 121 yX9_isDisk, .static yX9_isDisk, .code yX9_isDisk cX9_isDisk 3 (some .boolean), .constantLong RX9 117 (-1000000000), .constantLong RX9 119 (1000000000)] ++ wsX90)
def wsX9_lies : List Cond := .code yX9_lies cX9_lies 11 (some .int) :: ([.fieldLink RX9 20 "KoebehallModel" "middleX" "[I", .fieldLink RX9 23 "KoebehallModel" "middleY" "[I", .fieldLink RX9 26 "KoebehallModel" "radii" "[I"] ++ wsX90)
def wsX9_lie : List Cond := .code yX9_lie cX9_lie 3 (some .int) :: ([.fieldLink RX9 125 "KoebehallModel" "disks" "I", .fieldLink RX9 80 "KoebehallModel" "thrown" "I", .methodLink RX9 83 yX9_isIn, .static yX9_isIn, .initialized RX9, .code yX9_isIn cX9_isIn 6 (some .boolean), .methodLink RX9 128 yX9_lies, .instanceMethod yX9_lies, .selects RX9 yX9_lies yX9_lies, .code yX9_lies cX9_lies 11 (some .int), .fieldLink RX9 20 "KoebehallModel" "middleX" "[I", .fieldLink RX9 23 "KoebehallModel" "middleY" "[I", .fieldLink RX9 26 "KoebehallModel" "radii" "[I"] ++ wsX90)
def wsX9_pairs : List Cond := .code yX9_pairs cX9_pairs 5 (some .int) :: ([.constantLong RX9 109 (2), .fieldLink RX9 80 "KoebehallModel" "thrown" "I", .fieldLink RX9 125 "KoebehallModel" "disks" "I", .methodLink RX9 83 yX9_isIn, .static yX9_isIn, .initialized RX9, .code yX9_isIn cX9_isIn 6 (some .boolean), .methodLink RX9 128 yX9_lies, .instanceMethod yX9_lies, .selects RX9 yX9_lies yX9_lies, .code yX9_lies cX9_lies 11 (some .int), .fieldLink RX9 20 "KoebehallModel" "middleX" "[I", .fieldLink RX9 23 "KoebehallModel" "middleY" "[I", .fieldLink RX9 26 "KoebehallModel" "radii" "[I"] ++ wsX90)
def wsX9_draws : List Cond := .code yX9_draws cX9_draws 4 (some .boolean) :: ([.fieldLink RX9 80 "KoebehallModel" "thrown" "I", .fieldLink RX9 125 "KoebehallModel" "disks" "I", .fieldLink RX9 7 "KoebehallModel" "corners" "I", .methodLink RX9 128 yX9_lies, .instanceMethod yX9_lies, .selects RX9 yX9_lies yX9_lies, .initialized RX9, .code yX9_lies cX9_lies 11 (some .int), .fieldLink RX9 20 "KoebehallModel" "middleX" "[I", .fieldLink RX9 23 "KoebehallModel" "middleY" "[I", .fieldLink RX9 26 "KoebehallModel" "radii" "[I", .methodLink RX9 95 yX9_areNeighbours, .instanceMethod yX9_areNeighbours, .selects RX9 yX9_areNeighbours yX9_areNeighbours, .code yX9_areNeighbours cX9_areNeighbours 3 (some .boolean), .methodLink RX9 87 yX9_faceOf, .instanceMethod yX9_faceOf, .selects RX9 yX9_faceOf yX9_faceOf, .code yX9_faceOf cX9_faceOf 6 (some .int), .fieldLink RX9 13 "KoebehallModel" "faces" "I", .fieldLink RX9 16 "KoebehallModel" "face" "[I"] ++ wsX90)
def wsX9_isCurve : List Cond := .code yX9_isCurve cX9_isCurve 1 (some .boolean) :: ([.constantLong RX9 131 (-1000000), .constantLong RX9 133 (1000000), .methodLink RX9 83 yX9_isIn, .static yX9_isIn, .initialized RX9, .code yX9_isIn cX9_isIn 6 (some .boolean)])
def wsX9_gasket : List Cond := .code yX9_gasket cX9_gasket 10 (some .int) :: ([.constantLong RX9 109 (2), .fieldLink RX9 138 "KoebehallModel" "gaskets" "I", .fieldLink RX9 80 "KoebehallModel" "thrown" "I", .fieldLink RX9 29 "KoebehallModel" "curves" "[J", .methodLink RX9 135 yX9_isCurve, .static yX9_isCurve, .initialized RX9, .code yX9_isCurve cX9_isCurve 1 (some .boolean), .constantLong RX9 131 (-1000000), .constantLong RX9 133 (1000000), .methodLink RX9 83 yX9_isIn, .static yX9_isIn, .code yX9_isIn cX9_isIn 6 (some .boolean)] ++ wsX90)
def wsX9_turned : List Cond := .code yX9_turned cX9_turned 5 (some .long) :: ([.constantLong RX9 109 (2)])
def wsX9_isGasket : List Cond := .code yX9_isGasket cX9_isGasket 2 (some .boolean) :: ([.fieldLink RX9 138 "KoebehallModel" "gaskets" "I", .methodLink RX9 83 yX9_isIn, .static yX9_isIn, .initialized RX9, .code yX9_isIn cX9_isIn 6 (some .boolean)] ++ wsX90)
def wsX9_isPlace : List Cond := .code yX9_isPlace cX9_isPlace 3 (some .boolean) :: ([.constantLong RX9 144 (3), .methodLink RX9 141 yX9_isGasket, .instanceMethod yX9_isGasket, .selects RX9 yX9_isGasket yX9_isGasket, .initialized RX9, .code yX9_isGasket cX9_isGasket 2 (some .boolean), .fieldLink RX9 138 "KoebehallModel" "gaskets" "I", .methodLink RX9 83 yX9_isIn, .static yX9_isIn, .code yX9_isIn cX9_isIn 6 (some .boolean)] ++ wsX90)
def wsX9_turn : List Cond := .code yX9_turn cX9_turn 3 (some .long) :: ([.fieldLink RX9 29 "KoebehallModel" "curves" "[J", .constantLong RX9 153 (1000000000000000), .fieldLink RX9 80 "KoebehallModel" "thrown" "I", .methodLink RX9 146 yX9_isPlace, .instanceMethod yX9_isPlace, .selects RX9 yX9_isPlace yX9_isPlace, .initialized RX9, .code yX9_isPlace cX9_isPlace 3 (some .boolean), .constantLong RX9 144 (3), .methodLink RX9 141 yX9_isGasket, .instanceMethod yX9_isGasket, .selects RX9 yX9_isGasket yX9_isGasket, .code yX9_isGasket cX9_isGasket 2 (some .boolean), .fieldLink RX9 138 "KoebehallModel" "gaskets" "I", .methodLink RX9 83 yX9_isIn, .static yX9_isIn, .code yX9_isIn cX9_isIn 6 (some .boolean), .methodLink RX9 149 yX9_turned, .static yX9_turned, .code yX9_turned cX9_turned 5 (some .long), .constantLong RX9 109 (2)] ++ wsX90)
def wsX9_curvature : List Cond := .code yX9_curvature cX9_curvature 3 (some .long) :: ([.fieldLink RX9 80 "KoebehallModel" "thrown" "I", .fieldLink RX9 29 "KoebehallModel" "curves" "[J", .methodLink RX9 146 yX9_isPlace, .instanceMethod yX9_isPlace, .selects RX9 yX9_isPlace yX9_isPlace, .initialized RX9, .code yX9_isPlace cX9_isPlace 3 (some .boolean), .constantLong RX9 144 (3), .methodLink RX9 141 yX9_isGasket, .instanceMethod yX9_isGasket, .selects RX9 yX9_isGasket yX9_isGasket, .code yX9_isGasket cX9_isGasket 2 (some .boolean), .fieldLink RX9 138 "KoebehallModel" "gaskets" "I", .methodLink RX9 83 yX9_isIn, .static yX9_isIn, .code yX9_isIn cX9_isIn 6 (some .boolean)] ++ wsX90)
def wsX9_radius : List Cond := .code yX9_radius cX9_radius 3 (some .float) :: ([.fieldLink RX9 80 "KoebehallModel" "thrown" "I", .fieldLink RX9 29 "KoebehallModel" "curves" "[J", .methodLink RX9 146 yX9_isPlace, .instanceMethod yX9_isPlace, .selects RX9 yX9_isPlace yX9_isPlace, .initialized RX9, .code yX9_isPlace cX9_isPlace 3 (some .boolean), .constantLong RX9 144 (3), .methodLink RX9 141 yX9_isGasket, .instanceMethod yX9_isGasket, .selects RX9 yX9_isGasket yX9_isGasket, .code yX9_isGasket cX9_isGasket 2 (some .boolean), .fieldLink RX9 138 "KoebehallModel" "gaskets" "I", .methodLink RX9 83 yX9_isIn, .static yX9_isIn, .code yX9_isIn cX9_isIn 6 (some .boolean)] ++ wsX90)
def wsX9_findsRoot : List Cond := .code yX9_findsRoot cX9_findsRoot 7 none :: ([.fieldLink RX9 33 "KoebehallModel" "roots" "[J", .fieldLink RX9 29 "KoebehallModel" "curves" "[J", .methodLink RX9 149 yX9_turned, .static yX9_turned, .initialized RX9, .code yX9_turned cX9_turned 5 (some .long), .constantLong RX9 109 (2)] ++ wsX90)
def wsX9_root_r1 : List Cond := [Cond.fieldLink RX9 80 "KoebehallModel" "thrown" "I", Cond.fieldLink RX9 33 "KoebehallModel" "roots" "[J", Cond.methodLink RX9 146 yX9_isPlace, Cond.instanceMethod yX9_isPlace, Cond.selects RX9 yX9_isPlace yX9_isPlace, Cond.initialized RX9, Cond.code yX9_isPlace cX9_isPlace 3 (some .boolean), Cond.constantLong RX9 144 (3), Cond.methodLink RX9 141 yX9_isGasket, Cond.instanceMethod yX9_isGasket, Cond.selects RX9 yX9_isGasket yX9_isGasket, Cond.code yX9_isGasket cX9_isGasket 2 (some .boolean), Cond.fieldLink RX9 138 "KoebehallModel" "gaskets" "I", Cond.methodLink RX9 83 yX9_isIn, Cond.static yX9_isIn, Cond.code yX9_isIn cX9_isIn 6 (some .boolean), Cond.methodLink RX9 155 yX9_findsRoot, Cond.instanceMethod yX9_findsRoot, Cond.selects RX9 yX9_findsRoot yX9_findsRoot, Cond.code yX9_findsRoot cX9_findsRoot 7 none, Cond.fieldLink RX9 29 "KoebehallModel" "curves" "[J", Cond.methodLink RX9 149 yX9_turned, Cond.static yX9_turned, Cond.code yX9_turned cX9_turned 5 (some .long)]
def wsX9_root_r2 : List Cond := [Cond.constantLong RX9 109 (2)]
def wsX9_root : List Cond := .code yX9_root cX9_root 3 (some .long) :: ((wsX9_root_r1 ++ wsX9_root_r2) ++ wsX90)
def wsX9_counts : List Cond := .code yX9_counts cX9_counts 7 (some .int) :: ([.constantLong RX9 159 (1000), .fieldLink RX9 80 "KoebehallModel" "thrown" "I", .fieldLink RX9 33 "KoebehallModel" "roots" "[J", .fieldLink RX9 36 "KoebehallModel" "steps" "[J", .fieldLink RX9 39 "KoebehallModel" "nextTurn" "[I", .fieldLink RX9 42 "KoebehallModel" "lastTurn" "[I", .methodLink RX9 141 yX9_isGasket, .instanceMethod yX9_isGasket, .selects RX9 yX9_isGasket yX9_isGasket, .initialized RX9, .code yX9_isGasket cX9_isGasket 2 (some .boolean), .fieldLink RX9 138 "KoebehallModel" "gaskets" "I", .methodLink RX9 83 yX9_isIn, .static yX9_isIn, .code yX9_isIn cX9_isIn 6 (some .boolean), .methodLink RX9 155 yX9_findsRoot, .instanceMethod yX9_findsRoot, .selects RX9 yX9_findsRoot yX9_findsRoot, .code yX9_findsRoot cX9_findsRoot 7 none, .fieldLink RX9 29 "KoebehallModel" "curves" "[J", .methodLink RX9 149 yX9_turned, .static yX9_turned, .code yX9_turned cX9_turned 5 (some .long), .constantLong RX9 109 (2)] ++ wsX90)
def wsX9_count_r1 : List Cond := [Cond.methodLink RX9 161 yX9_counts, Cond.instanceMethod yX9_counts, Cond.selects RX9 yX9_counts yX9_counts, Cond.initialized RX9, Cond.code yX9_counts cX9_counts 7 (some .int), Cond.constantLong RX9 159 (1000), Cond.fieldLink RX9 80 "KoebehallModel" "thrown" "I", Cond.fieldLink RX9 33 "KoebehallModel" "roots" "[J", Cond.fieldLink RX9 36 "KoebehallModel" "steps" "[J", Cond.fieldLink RX9 39 "KoebehallModel" "nextTurn" "[I", Cond.fieldLink RX9 42 "KoebehallModel" "lastTurn" "[I", Cond.methodLink RX9 141 yX9_isGasket, Cond.instanceMethod yX9_isGasket, Cond.selects RX9 yX9_isGasket yX9_isGasket, Cond.code yX9_isGasket cX9_isGasket 2 (some .boolean), Cond.fieldLink RX9 138 "KoebehallModel" "gaskets" "I", Cond.methodLink RX9 83 yX9_isIn, Cond.static yX9_isIn, Cond.code yX9_isIn cX9_isIn 6 (some .boolean), Cond.methodLink RX9 155 yX9_findsRoot, Cond.instanceMethod yX9_findsRoot, Cond.selects RX9 yX9_findsRoot yX9_findsRoot, Cond.code yX9_findsRoot cX9_findsRoot 7 none, Cond.fieldLink RX9 29 "KoebehallModel" "curves" "[J"]
def wsX9_count_r2 : List Cond := [Cond.methodLink RX9 149 yX9_turned, Cond.static yX9_turned, Cond.code yX9_turned cX9_turned 5 (some .long), Cond.constantLong RX9 109 (2)]
def wsX9_count : List Cond := .code yX9_count cX9_count 3 (some .int) :: ((wsX9_count_r1 ++ wsX9_count_r2) ++ wsX90)
def wsX9_countAnew_r1 : List Cond := [Cond.methodLink RX9 161 yX9_counts, Cond.instanceMethod yX9_counts, Cond.selects RX9 yX9_counts yX9_counts, Cond.initialized RX9, Cond.code yX9_counts cX9_counts 7 (some .int), Cond.constantLong RX9 159 (1000), Cond.fieldLink RX9 80 "KoebehallModel" "thrown" "I", Cond.fieldLink RX9 33 "KoebehallModel" "roots" "[J", Cond.fieldLink RX9 36 "KoebehallModel" "steps" "[J", Cond.fieldLink RX9 39 "KoebehallModel" "nextTurn" "[I", Cond.fieldLink RX9 42 "KoebehallModel" "lastTurn" "[I", Cond.methodLink RX9 141 yX9_isGasket, Cond.instanceMethod yX9_isGasket, Cond.selects RX9 yX9_isGasket yX9_isGasket, Cond.code yX9_isGasket cX9_isGasket 2 (some .boolean), Cond.fieldLink RX9 138 "KoebehallModel" "gaskets" "I", Cond.methodLink RX9 83 yX9_isIn, Cond.static yX9_isIn, Cond.code yX9_isIn cX9_isIn 6 (some .boolean), Cond.methodLink RX9 155 yX9_findsRoot, Cond.instanceMethod yX9_findsRoot, Cond.selects RX9 yX9_findsRoot yX9_findsRoot, Cond.code yX9_findsRoot cX9_findsRoot 7 none, Cond.fieldLink RX9 29 "KoebehallModel" "curves" "[J"]
def wsX9_countAnew_r2 : List Cond := [Cond.methodLink RX9 149 yX9_turned, Cond.static yX9_turned, Cond.code yX9_turned cX9_turned 5 (some .long), Cond.constantLong RX9 109 (2)]
def wsX9_countAnew : List Cond := .code yX9_countAnew cX9_countAnew 3 (some .int) :: ((wsX9_countAnew_r1 ++ wsX9_countAnew_r2) ++ wsX90)
def wsX9_rest : List Cond := .code yX9_rest cX9_rest 3 (some .int) :: ([])
def wsX9_remainders : List Cond := .code yX9_remainders cX9_remainders 11 (some .int) :: ([.constantLong RX9 109 (2), .constantLong RX9 164 (8), .fieldLink RX9 80 "KoebehallModel" "thrown" "I", .fieldLink RX9 45 "KoebehallModel" "seen" "[Z", .fieldLink RX9 29 "KoebehallModel" "curves" "[J", .fieldLink RX9 49 "KoebehallModel" "queue" "[I", .methodLink RX9 141 yX9_isGasket, .instanceMethod yX9_isGasket, .selects RX9 yX9_isGasket yX9_isGasket, .initialized RX9, .code yX9_isGasket cX9_isGasket 2 (some .boolean), .fieldLink RX9 138 "KoebehallModel" "gaskets" "I", .methodLink RX9 83 yX9_isIn, .static yX9_isIn, .code yX9_isIn cX9_isIn 6 (some .boolean), .methodLink RX9 166 yX9_rest, .static yX9_rest, .code yX9_rest cX9_rest 3 (some .int)] ++ wsX90)
def wsX9_divisor : List Cond := .code yX9_divisor cX9_divisor 10 (some .long) :: ([])
def wsX9_isFraction : List Cond := .code yX9_isFraction cX9_isFraction 3 (some .boolean) :: ([.constantLong RX9 117 (-1000000000), .constantLong RX9 119 (1000000000), .methodLink RX9 83 yX9_isIn, .static yX9_isIn, .initialized RX9, .code yX9_isIn cX9_isIn 6 (some .boolean), .methodLink RX9 170 yX9_divisor, .static yX9_divisor, .code yX9_divisor cX9_divisor 10 (some .long)])
def wsX9_cross : List Cond := .code yX9_cross cX9_cross 4 (some .long) :: ([])
def wsX9_ford : List Cond := .code yX9_ford cX9_ford 7 (some .int) :: ([.fieldLink RX9 80 "KoebehallModel" "thrown" "I", .constantLong RX9 181 (-1), .methodLink RX9 174 yX9_isFraction, .static yX9_isFraction, .initialized RX9, .code yX9_isFraction cX9_isFraction 3 (some .boolean), .constantLong RX9 117 (-1000000000), .constantLong RX9 119 (1000000000), .methodLink RX9 83 yX9_isIn, .static yX9_isIn, .code yX9_isIn cX9_isIn 6 (some .boolean), .methodLink RX9 170 yX9_divisor, .static yX9_divisor, .code yX9_divisor cX9_divisor 10 (some .long), .methodLink RX9 177 yX9_cross, .static yX9_cross, .code yX9_cross cX9_cross 4 (some .long)] ++ wsX90)
def wsX9_floor : List Cond := .code yX9_floor cX9_floor 4 (some .long) :: ([])
def wsX9_findsBetween : List Cond := .code yX9_findsBetween cX9_findsBetween 28 none :: ([.fieldLink RX9 52 "KoebehallModel" "quotients" "[J", .fieldLink RX9 186 "KoebehallModel" "top" "J", .fieldLink RX9 190 "KoebehallModel" "below" "J", .methodLink RX9 183 yX9_floor, .static yX9_floor, .initialized RX9, .code yX9_floor cX9_floor 4 (some .long)] ++ wsX90)
def wsX9_between_r1 : List Cond := [Cond.fieldLink RX9 80 "KoebehallModel" "thrown" "I", Cond.fieldLink RX9 186 "KoebehallModel" "top" "J", Cond.fieldLink RX9 190 "KoebehallModel" "below" "J", Cond.methodLink RX9 174 yX9_isFraction, Cond.static yX9_isFraction, Cond.initialized RX9, Cond.code yX9_isFraction cX9_isFraction 3 (some .boolean), Cond.constantLong RX9 117 (-1000000000), Cond.constantLong RX9 119 (1000000000), Cond.methodLink RX9 83 yX9_isIn, Cond.static yX9_isIn, Cond.code yX9_isIn cX9_isIn 6 (some .boolean), Cond.methodLink RX9 170 yX9_divisor, Cond.static yX9_divisor, Cond.code yX9_divisor cX9_divisor 10 (some .long), Cond.methodLink RX9 177 yX9_cross, Cond.static yX9_cross, Cond.code yX9_cross cX9_cross 4 (some .long), Cond.methodLink RX9 193 yX9_findsBetween, Cond.instanceMethod yX9_findsBetween, Cond.selects RX9 yX9_findsBetween yX9_findsBetween, Cond.code yX9_findsBetween cX9_findsBetween 28 none, Cond.fieldLink RX9 52 "KoebehallModel" "quotients" "[J", Cond.methodLink RX9 183 yX9_floor]
def wsX9_between_r2 : List Cond := [Cond.static yX9_floor, Cond.code yX9_floor cX9_floor 4 (some .long)]
def wsX9_between : List Cond := .code yX9_between cX9_between 6 (some .long) :: ((wsX9_between_r1 ++ wsX9_between_r2) ++ wsX90)
def wsX9_isTold : List Cond := .code yX9_isTold cX9_isTold 1 (some .boolean) :: ([.constantLong RX9 197 (-1000), .constantLong RX9 159 (1000), .methodLink RX9 83 yX9_isIn, .static yX9_isIn, .initialized RX9, .code yX9_isIn cX9_isIn 6 (some .boolean)])
def wsX9_tell : List Cond := .code yX9_tell cX9_tell 6 (some .int) :: ([.fieldLink RX9 202 "KoebehallModel" "moves" "I", .fieldLink RX9 80 "KoebehallModel" "thrown" "I", .fieldLink RX9 55 "KoebehallModel" "tables" "[J", .methodLink RX9 199 yX9_isTold, .static yX9_isTold, .initialized RX9, .code yX9_isTold cX9_isTold 1 (some .boolean), .constantLong RX9 197 (-1000), .constantLong RX9 159 (1000), .methodLink RX9 83 yX9_isIn, .static yX9_isIn, .code yX9_isIn cX9_isIn 6 (some .boolean)] ++ wsX90)
def wsX9_append : List Cond := .code yX9_append cX9_append 14 (some .int) :: ([.fieldLink RX9 202 "KoebehallModel" "moves" "I", .fieldLink RX9 80 "KoebehallModel" "thrown" "I", .fieldLink RX9 55 "KoebehallModel" "tables" "[J", .fieldLink RX9 61 "KoebehallModel" "product" "[J", .fieldLink RX9 58 "KoebehallModel" "word" "[J", .constantLong RX9 117 (-1000000000), .constantLong RX9 119 (1000000000), .methodLink RX9 83 yX9_isIn, .static yX9_isIn, .initialized RX9, .code yX9_isIn cX9_isIn 6 (some .boolean)] ++ wsX90)
def wsX9_home : List Cond := .code yX9_home cX9_home 3 (some .int) :: ([.fieldLink RX9 80 "KoebehallModel" "thrown" "I", .fieldLink RX9 58 "KoebehallModel" "word" "[J"] ++ wsX90)
def wsX9_word : List Cond := .code yX9_word cX9_word 6 (some .int) :: ([.constantLong RX9 115 (4), .fieldLink RX9 80 "KoebehallModel" "thrown" "I", .fieldLink RX9 58 "KoebehallModel" "word" "[J", .constantLong RX9 181 (-1), .constantLong RX9 205 (-2), .constantLong RX9 109 (2), .methodLink RX9 83 yX9_isIn, .static yX9_isIn, .initialized RX9, .code yX9_isIn cX9_isIn 6 (some .boolean)] ++ wsX90)
def wsX9_image : List Cond := .code yX9_image cX9_image 9 (some .long) :: ([.fieldLink RX9 80 "KoebehallModel" "thrown" "I", .fieldLink RX9 58 "KoebehallModel" "word" "[J", .methodLink RX9 174 yX9_isFraction, .static yX9_isFraction, .initialized RX9, .code yX9_isFraction cX9_isFraction 3 (some .boolean), .constantLong RX9 117 (-1000000000), .constantLong RX9 119 (1000000000), .methodLink RX9 83 yX9_isIn, .static yX9_isIn, .code yX9_isIn cX9_isIn 6 (some .boolean), .methodLink RX9 170 yX9_divisor, .static yX9_divisor, .code yX9_divisor cX9_divisor 10 (some .long)] ++ wsX90)
def wsX9_nodes : List Cond := .code yX9_nodes cX9_nodes 3 (some .int) :: ([.constantLong RX9 109 (2), .constantLong RX9 207 (6), .fieldLink RX9 80 "KoebehallModel" "thrown" "I", .fieldLink RX9 64 "KoebehallModel" "nodes" "I", .fieldLink RX9 209 "KoebehallModel" "wires" "I", .methodLink RX9 83 yX9_isIn, .static yX9_isIn, .initialized RX9, .code yX9_isIn cX9_isIn 6 (some .boolean)] ++ wsX90)
def wsX9_isNode : List Cond := .code yX9_isNode cX9_isNode 2 (some .boolean) :: ([.fieldLink RX9 64 "KoebehallModel" "nodes" "I", .methodLink RX9 83 yX9_isIn, .static yX9_isIn, .initialized RX9, .code yX9_isIn cX9_isIn 6 (some .boolean)] ++ wsX90)
def wsX9_wire : List Cond := .code yX9_wire cX9_wire 3 (some .int) :: ([.fieldLink RX9 209 "KoebehallModel" "wires" "I", .fieldLink RX9 80 "KoebehallModel" "thrown" "I", .fieldLink RX9 67 "KoebehallModel" "ends" "[I", .fieldLink RX9 70 "KoebehallModel" "others" "[I", .methodLink RX9 212 yX9_isNode, .instanceMethod yX9_isNode, .selects RX9 yX9_isNode yX9_isNode, .initialized RX9, .code yX9_isNode cX9_isNode 2 (some .boolean), .fieldLink RX9 64 "KoebehallModel" "nodes" "I", .methodLink RX9 83 yX9_isIn, .static yX9_isIn, .code yX9_isIn cX9_isIn 6 (some .boolean)] ++ wsX90)
def wsX9_partsBy : List Cond := .code yX9_partsBy cX9_partsBy 7 (some .int) :: ([.fieldLink RX9 64 "KoebehallModel" "nodes" "I", .fieldLink RX9 73 "KoebehallModel" "part" "[I", .fieldLink RX9 209 "KoebehallModel" "wires" "I", .fieldLink RX9 67 "KoebehallModel" "ends" "[I", .fieldLink RX9 70 "KoebehallModel" "others" "[I"] ++ wsX90)
def wsX9_treesOf : List Cond := .code yX9_treesOf cX9_treesOf 3 (some .int) :: ([.fieldLink RX9 209 "KoebehallModel" "wires" "I", .methodLink RX9 215 yX9_partsBy, .instanceMethod yX9_partsBy, .selects RX9 yX9_partsBy yX9_partsBy, .initialized RX9, .code yX9_partsBy cX9_partsBy 7 (some .int), .fieldLink RX9 64 "KoebehallModel" "nodes" "I", .fieldLink RX9 73 "KoebehallModel" "part" "[I", .fieldLink RX9 67 "KoebehallModel" "ends" "[I", .fieldLink RX9 70 "KoebehallModel" "others" "[I"] ++ wsX90)
def wsX9_trees : List Cond := .code yX9_trees cX9_trees 1 (some .int) :: ([.fieldLink RX9 80 "KoebehallModel" "thrown" "I", .methodLink RX9 218 yX9_treesOf, .instanceMethod yX9_treesOf, .selects RX9 yX9_treesOf yX9_treesOf, .initialized RX9, .code yX9_treesOf cX9_treesOf 3 (some .int), .fieldLink RX9 209 "KoebehallModel" "wires" "I", .methodLink RX9 215 yX9_partsBy, .instanceMethod yX9_partsBy, .selects RX9 yX9_partsBy yX9_partsBy, .code yX9_partsBy cX9_partsBy 7 (some .int), .fieldLink RX9 64 "KoebehallModel" "nodes" "I", .fieldLink RX9 73 "KoebehallModel" "part" "[I", .fieldLink RX9 67 "KoebehallModel" "ends" "[I", .fieldLink RX9 70 "KoebehallModel" "others" "[I"] ++ wsX90)
def wsX9_treesAnew : List Cond := .code yX9_treesAnew cX9_treesAnew 1 (some .int) :: ([.fieldLink RX9 80 "KoebehallModel" "thrown" "I", .methodLink RX9 218 yX9_treesOf, .instanceMethod yX9_treesOf, .selects RX9 yX9_treesOf yX9_treesOf, .initialized RX9, .code yX9_treesOf cX9_treesOf 3 (some .int), .fieldLink RX9 209 "KoebehallModel" "wires" "I", .methodLink RX9 215 yX9_partsBy, .instanceMethod yX9_partsBy, .selects RX9 yX9_partsBy yX9_partsBy, .code yX9_partsBy cX9_partsBy 7 (some .int), .fieldLink RX9 64 "KoebehallModel" "nodes" "I", .fieldLink RX9 73 "KoebehallModel" "part" "[I", .fieldLink RX9 67 "KoebehallModel" "ends" "[I", .fieldLink RX9 70 "KoebehallModel" "others" "[I"] ++ wsX90)
def wsX9_height : List Cond := .code yX9_height cX9_height 7 (some .int) :: ([.fieldLink RX9 209 "KoebehallModel" "wires" "I", .fieldLink RX9 73 "KoebehallModel" "part" "[I", .methodLink RX9 215 yX9_partsBy, .instanceMethod yX9_partsBy, .selects RX9 yX9_partsBy yX9_partsBy, .initialized RX9, .code yX9_partsBy cX9_partsBy 7 (some .int), .fieldLink RX9 64 "KoebehallModel" "nodes" "I", .fieldLink RX9 67 "KoebehallModel" "ends" "[I", .fieldLink RX9 70 "KoebehallModel" "others" "[I"] ++ wsX90)
def wsX9_side_r1 : List Cond := [Cond.fieldLink RX9 209 "KoebehallModel" "wires" "I", Cond.fieldLink RX9 80 "KoebehallModel" "thrown" "I", Cond.fieldLink RX9 67 "KoebehallModel" "ends" "[I", Cond.fieldLink RX9 70 "KoebehallModel" "others" "[I", Cond.methodLink RX9 212 yX9_isNode, Cond.instanceMethod yX9_isNode, Cond.selects RX9 yX9_isNode yX9_isNode, Cond.initialized RX9, Cond.code yX9_isNode cX9_isNode 2 (some .boolean), Cond.fieldLink RX9 64 "KoebehallModel" "nodes" "I", Cond.methodLink RX9 83 yX9_isIn, Cond.static yX9_isIn, Cond.code yX9_isIn cX9_isIn 6 (some .boolean), Cond.methodLink RX9 218 yX9_treesOf, Cond.instanceMethod yX9_treesOf, Cond.selects RX9 yX9_treesOf yX9_treesOf, Cond.code yX9_treesOf cX9_treesOf 3 (some .int), Cond.methodLink RX9 215 yX9_partsBy, Cond.instanceMethod yX9_partsBy, Cond.selects RX9 yX9_partsBy yX9_partsBy, Cond.code yX9_partsBy cX9_partsBy 7 (some .int), Cond.fieldLink RX9 73 "KoebehallModel" "part" "[I", Cond.methodLink RX9 222 yX9_height, Cond.instanceMethod yX9_height]
def wsX9_side_r2 : List Cond := [Cond.selects RX9 yX9_height yX9_height, Cond.code yX9_height cX9_height 7 (some .int)]
def wsX9_side : List Cond := .code yX9_side cX9_side 5 (some .int) :: ((wsX9_side_r1 ++ wsX9_side_r2) ++ wsX90)
def wsJ9_abs_067f4 : List Cond := .code yJ9_abs_067f4 cJ9_abs_067f4 2 (some .long) :: ([])
def wsJ9_max_7cf53 : List Cond := .code yJ9_max_7cf53 cJ9_max_7cf53 2 (some .int) :: ([])
def wsJ9_min_7cf53 : List Cond := .code yJ9_min_7cf53 cJ9_min_7cf53 2 (some .int) :: ([])
def wsL_split_r1 : List Cond := [Cond.classLink RL 13 "java/lang/IndexOutOfBoundsException", Cond.classLink RL 15 "java/lang/IllegalStateException", Cond.methodLink RL 7 yX8_split, Cond.instanceMethod yX8_split, Cond.selects RX8 yX8_split yX8_split, Cond.initialized RX8, Cond.code yX8_split cX8_split 2 (some .int), Cond.classLink RX8 56 "java/lang/IndexOutOfBoundsException", Cond.initialized "java/lang/IndexOutOfBoundsException", Cond.classLink RX8 67 "java/lang/IllegalStateException", Cond.initialized "java/lang/IllegalStateException", Cond.fieldLink RX8 10 "Koebehall" "sphere" "LKoebehall$Net;", Cond.instanceMethod yX3_hasFace, Cond.initialized RX3, Cond.selects RX3 yX3_hasFace yX3_hasFace, Cond.code yX3_hasFace cX3_hasFace 2 (some .boolean), Cond.fieldLink RX3 28 "Koebehall$Net" "faceCount" "I", Cond.instanceMethod yX3_isFull, Cond.selects RX3 yX3_isFull yX3_isFull, Cond.code yX3_isFull cX3_isFull 1 (some .boolean), Cond.fieldLink RX3 24 "Koebehall$Net" "cornerCount" "I", Cond.instanceMethod yX3_splitFace, Cond.selects RX3 yX3_splitFace yX3_splitFace, Cond.code yX3_splitFace cX3_splitFace 6 (some .int)]
def wsL_split_r2 : List Cond := [Cond.methodLink RX3 38 yX3_cornerOf, Cond.instanceMethod yX3_cornerOf, Cond.selects RX3 yX3_cornerOf yX3_cornerOf, Cond.code yX3_cornerOf cX3_cornerOf 3 (some .int), Cond.fieldLink RX3 11 "Koebehall$Net" "named" "[I", Cond.methodLink RX3 34 yX3_putFace, Cond.instanceMethod yX3_putFace, Cond.selects RX3 yX3_putFace yX3_putFace, Cond.code yX3_putFace cX3_putFace 5 none, Cond.methodLink RX3 42 yX3_putCorners, Cond.instanceMethod yX3_putCorners, Cond.selects RX3 yX3_putCorners yX3_putCorners, Cond.code yX3_putCorners cX3_putCorners 5 none, Cond.methodLink RX3 45 yX3_putThird, Cond.instanceMethod yX3_putThird, Cond.selects RX3 yX3_putThird yX3_putThird, Cond.code yX3_putThird cX3_putThird 4 none, Cond.fieldLink RX3 15 "Koebehall$Net" "thirds" "[I"]
def wsL_split : List Cond := .codeWith yL_split cL_split 4 (some .int) [(0, 9, 12, 13), (0, 9, 15, 15)] :: ((wsL_split_r1 ++ wsL_split_r2) ++ wsX80 ++ wsX30 ++ (vx_atS RX8 60 "java/lang/IndexOutOfBoundsException" ["java/lang/RuntimeException", "java/lang/Exception"]).filter goodWord ++ (vx_atS RX8 71 "java/lang/IllegalStateException" ["java/lang/RuntimeException", "java/lang/Exception"]).filter goodWord)
def wsL_flip_r1 : List Cond := [Cond.classLink RL 13 "java/lang/IndexOutOfBoundsException", Cond.classLink RL 15 "java/lang/IllegalStateException", Cond.methodLink RL 17 yX8_flip, Cond.instanceMethod yX8_flip, Cond.selects RX8 yX8_flip yX8_flip, Cond.initialized RX8, Cond.code yX8_flip cX8_flip 3 (some .int), Cond.classLink RX8 56 "java/lang/IndexOutOfBoundsException", Cond.initialized "java/lang/IndexOutOfBoundsException", Cond.classLink RX8 67 "java/lang/IllegalStateException", Cond.initialized "java/lang/IllegalStateException", Cond.fieldLink RX8 10 "Koebehall" "sphere" "LKoebehall$Net;", Cond.instanceMethod yX3_hasCorner, Cond.initialized RX3, Cond.selects RX3 yX3_hasCorner yX3_hasCorner, Cond.code yX3_hasCorner cX3_hasCorner 2 (some .boolean), Cond.fieldLink RX3 24 "Koebehall$Net" "cornerCount" "I", Cond.instanceMethod yX3_canFlip, Cond.selects RX3 yX3_canFlip yX3_canFlip, Cond.code yX3_canFlip cX3_canFlip 3 (some .boolean), Cond.methodLink RX3 56 yX3_areNeighbours, Cond.instanceMethod yX3_areNeighbours, Cond.selects RX3 yX3_areNeighbours yX3_areNeighbours, Cond.code yX3_areNeighbours cX3_areNeighbours 3 (some .boolean)]
def wsL_flip_r2 : List Cond := [Cond.methodLink RX3 53 yX3_thirdOf, Cond.instanceMethod yX3_thirdOf, Cond.selects RX3 yX3_thirdOf yX3_thirdOf, Cond.code yX3_thirdOf cX3_thirdOf 3 (some .int), Cond.fieldLink RX3 15 "Koebehall$Net" "thirds" "[I", Cond.methodLink RX3 49 yX3_hasCorner, Cond.instanceMethod yX3_flipEdge, Cond.selects RX3 yX3_flipEdge yX3_flipEdge, Cond.code yX3_flipEdge cX3_flipEdge 7 (some .int), Cond.methodLink RX3 63 Lib.Math.min.name, Cond.static Lib.Math.min.name, Cond.initialized "java/lang/Math", Cond.code Lib.Math.min.name Lib.Math.min.code 2 (some .int), Cond.methodLink RX3 68 Lib.Math.max.name, Cond.static Lib.Math.max.name, Cond.code Lib.Math.max.name Lib.Math.max.code 2 (some .int), Cond.methodLink RX3 60 yX3_faceWith, Cond.instanceMethod yX3_faceWith, Cond.selects RX3 yX3_faceWith yX3_faceWith, Cond.code yX3_faceWith cX3_faceWith 5 (some .int), Cond.fieldLink RX3 28 "Koebehall$Net" "faceCount" "I", Cond.fieldLink RX3 11 "Koebehall$Net" "named" "[I", Cond.methodLink RX3 45 yX3_putThird, Cond.instanceMethod yX3_putThird]
def wsL_flip_r3 : List Cond := [Cond.selects RX3 yX3_putThird yX3_putThird, Cond.code yX3_putThird cX3_putThird 4 none, Cond.methodLink RX3 34 yX3_putFace, Cond.instanceMethod yX3_putFace, Cond.selects RX3 yX3_putFace yX3_putFace, Cond.code yX3_putFace cX3_putFace 5 none, Cond.methodLink RX3 42 yX3_putCorners, Cond.instanceMethod yX3_putCorners, Cond.selects RX3 yX3_putCorners yX3_putCorners, Cond.code yX3_putCorners cX3_putCorners 5 none]
def wsL_flip : List Cond := .codeWith yL_flip cL_flip 5 (some .int) [(0, 10, 13, 13), (0, 10, 17, 15)] :: ((wsL_flip_r1 ++ (wsL_flip_r2 ++ wsL_flip_r3)) ++ wsX80 ++ wsX30 ++ (vx_atS RX8 60 "java/lang/IndexOutOfBoundsException" ["java/lang/RuntimeException", "java/lang/Exception"]).filter goodWord ++ (vx_atS RX8 71 "java/lang/IllegalStateException" ["java/lang/RuntimeException", "java/lang/Exception"]).filter goodWord)
def wsL_corner : List Cond := .codeWith yL_corner cL_corner 5 (some .int) [(0, 10, 13, 13)] :: ([.classLink RL 13 "java/lang/IndexOutOfBoundsException", .methodLink RL 21 yX8_corner, .instanceMethod yX8_corner, .selects RX8 yX8_corner yX8_corner, .initialized RX8, .code yX8_corner cX8_corner 3 (some .int), .classLink RX8 56 "java/lang/IndexOutOfBoundsException", .initialized "java/lang/IndexOutOfBoundsException", .fieldLink RX8 10 "Koebehall" "sphere" "LKoebehall$Net;", .instanceMethod yX3_hasFace, .initialized RX3, .selects RX3 yX3_hasFace yX3_hasFace, .code yX3_hasFace cX3_hasFace 2 (some .boolean), .fieldLink RX3 28 "Koebehall$Net" "faceCount" "I", .instanceMethod yX3_cornerOf, .selects RX3 yX3_cornerOf yX3_cornerOf, .code yX3_cornerOf cX3_cornerOf 3 (some .int), .fieldLink RX3 11 "Koebehall$Net" "named" "[I"] ++ wsX80 ++ wsX30 ++ (vx_atS RX8 60 "java/lang/IndexOutOfBoundsException" ["java/lang/RuntimeException", "java/lang/Exception"]).filter goodWord)
def wsL_around_r1 : List Cond := [Cond.classLink RL 13 "java/lang/IndexOutOfBoundsException", Cond.methodLink RL 24 yX8_around, Cond.instanceMethod yX8_around, Cond.selects RX8 yX8_around yX8_around, Cond.initialized RX8, Cond.code yX8_around cX8_around 3 (some .int), Cond.classLink RX8 56 "java/lang/IndexOutOfBoundsException", Cond.initialized "java/lang/IndexOutOfBoundsException", Cond.fieldLink RX8 10 "Koebehall" "sphere" "LKoebehall$Net;", Cond.instanceMethod yX3_hasCorner, Cond.initialized RX3, Cond.selects RX3 yX3_hasCorner yX3_hasCorner, Cond.code yX3_hasCorner cX3_hasCorner 2 (some .boolean), Cond.fieldLink RX3 24 "Koebehall$Net" "cornerCount" "I", Cond.instanceMethod yX3_neighbourAt, Cond.selects RX3 yX3_neighbourAt yX3_neighbourAt, Cond.code yX3_neighbourAt cX3_neighbourAt 6 (some .int), Cond.methodLink RX3 71 yX3_lowestNeighbour, Cond.instanceMethod yX3_lowestNeighbour, Cond.selects RX3 yX3_lowestNeighbour yX3_lowestNeighbour, Cond.code yX3_lowestNeighbour cX3_lowestNeighbour 3 (some .int), Cond.methodLink RX3 56 yX3_areNeighbours, Cond.instanceMethod yX3_areNeighbours, Cond.selects RX3 yX3_areNeighbours yX3_areNeighbours]
def wsL_around_r2 : List Cond := [Cond.code yX3_areNeighbours cX3_areNeighbours 3 (some .boolean), Cond.methodLink RX3 53 yX3_thirdOf, Cond.instanceMethod yX3_thirdOf, Cond.selects RX3 yX3_thirdOf yX3_thirdOf, Cond.code yX3_thirdOf cX3_thirdOf 3 (some .int), Cond.fieldLink RX3 15 "Koebehall$Net" "thirds" "[I", Cond.methodLink RX3 49 yX3_hasCorner]
def wsL_around : List Cond := .codeWith yL_around cL_around 5 (some .int) [(0, 10, 13, 13)] :: ((wsL_around_r1 ++ wsL_around_r2) ++ wsX80 ++ wsX30 ++ (vx_atS RX8 60 "java/lang/IndexOutOfBoundsException" ["java/lang/RuntimeException", "java/lang/Exception"]).filter goodWord)
def wsL_net_r1 : List Cond := [Cond.classLink RL 13 "java/lang/IndexOutOfBoundsException", Cond.methodLink RL 27 yX8_net, Cond.instanceMethod yX8_net, Cond.selects RX8 yX8_net yX8_net, Cond.initialized RX8, Cond.code yX8_net cX8_net 2 (some .int), Cond.classLink RX8 56 "java/lang/IndexOutOfBoundsException", Cond.initialized "java/lang/IndexOutOfBoundsException", Cond.fieldLink RX8 10 "Koebehall" "sphere" "LKoebehall$Net;", Cond.instanceMethod yX3_edgeCount, Cond.initialized RX3, Cond.selects RX3 yX3_edgeCount yX3_edgeCount, Cond.code yX3_edgeCount cX3_edgeCount 1 (some .int), Cond.fieldLink RX3 28 "Koebehall$Net" "faceCount" "I", Cond.instanceMethod yX3_flippableCount, Cond.selects RX3 yX3_flippableCount yX3_flippableCount, Cond.code yX3_flippableCount cX3_flippableCount 4 (some .int), Cond.fieldLink RX3 24 "Koebehall$Net" "cornerCount" "I", Cond.methodLink RX3 75 yX3_canFlip, Cond.instanceMethod yX3_canFlip, Cond.selects RX3 yX3_canFlip yX3_canFlip, Cond.code yX3_canFlip cX3_canFlip 3 (some .boolean), Cond.methodLink RX3 56 yX3_areNeighbours, Cond.instanceMethod yX3_areNeighbours]
def wsL_net_r2 : List Cond := [Cond.selects RX3 yX3_areNeighbours yX3_areNeighbours, Cond.code yX3_areNeighbours cX3_areNeighbours 3 (some .boolean), Cond.methodLink RX3 53 yX3_thirdOf, Cond.instanceMethod yX3_thirdOf, Cond.selects RX3 yX3_thirdOf yX3_thirdOf, Cond.code yX3_thirdOf cX3_thirdOf 3 (some .int), Cond.fieldLink RX3 15 "Koebehall$Net" "thirds" "[I", Cond.methodLink RX3 49 yX3_hasCorner, Cond.instanceMethod yX3_hasCorner, Cond.selects RX3 yX3_hasCorner yX3_hasCorner, Cond.code yX3_hasCorner cX3_hasCorner 2 (some .boolean), Cond.instanceMethod yX3_mostNeighbours, Cond.selects RX3 yX3_mostNeighbours yX3_mostNeighbours, Cond.code yX3_mostNeighbours cX3_mostNeighbours 3 (some .int), Cond.methodLink RX3 68 Lib.Math.max.name, Cond.static Lib.Math.max.name, Cond.initialized "java/lang/Math", Cond.code Lib.Math.max.name Lib.Math.max.code 2 (some .int), Cond.methodLink RX3 78 yX3_facesAt, Cond.instanceMethod yX3_facesAt, Cond.selects RX3 yX3_facesAt yX3_facesAt, Cond.code yX3_facesAt cX3_facesAt 4 (some .int), Cond.fieldLink RX3 11 "Koebehall$Net" "named" "[I"]
def wsL_net : List Cond := .codeWith yL_net cL_net 4 (some .int) [(0, 9, 12, 13)] :: ((wsL_net_r1 ++ wsL_net_r2) ++ wsX80 ++ wsX30 ++ (vx_atS RX8 60 "java/lang/IndexOutOfBoundsException" ["java/lang/RuntimeException", "java/lang/Exception"]).filter goodWord)
def wsL_disk_r1 : List Cond := [Cond.classLink RL 34 "java/lang/IllegalArgumentException", Cond.classLink RL 15 "java/lang/IllegalStateException", Cond.methodLink RL 30 yX8_disk, Cond.instanceMethod yX8_disk, Cond.selects RX8 yX8_disk yX8_disk, Cond.initialized RX8, Cond.code yX8_disk cX8_disk 4 (some .int), Cond.classLink RX8 124 "java/lang/IllegalArgumentException", Cond.initialized "java/lang/IllegalArgumentException", Cond.classLink RX8 67 "java/lang/IllegalStateException", Cond.initialized "java/lang/IllegalStateException", Cond.fieldLink RX8 19 "Koebehall" "disks" "Ljava/util/ArrayList;", Cond.classLink RX8 134 RX0, Cond.instantiable RX0 3, Cond.initialized RX0, Cond.methodLink RX8 120 yX8_isDisk, Cond.static yX8_isDisk, Cond.code yX8_isDisk cX8_isDisk 3 (some .boolean), Cond.constantLong RX8 170 (1000000000), Cond.constant RX8 176 (1000000000), Cond.methodLink RX8 172 yX8_isWithin, Cond.static yX8_isWithin, Cond.code yX8_isWithin cX8_isWithin 4 (some .boolean), Cond.methodLink RX8 129 yJx4a65c_size_8abf5]
def wsL_disk_r2 : List Cond := [Cond.instanceMethod yJx4a65c_size_8abf5, Cond.selects RJx4a65c yJx4a65c_size_8abf5 yJx4a65c_size_8abf5, Cond.initialized RJx4a65c, Cond.code yJx4a65c_size_8abf5 cJx4a65c_size_8abf5 1 (some .int), Cond.fieldLink RJx4a65c 48 "java/util/ArrayList" "size" "I", Cond.instanceMethod yX0_init, Cond.code yX0_init cX0_init 7 none, Cond.methodLink RX0 3 objectInit, Cond.instanceMethod objectInit, Cond.code objectInit ⟨#[0xb1]⟩ 1 none, Cond.fieldLink RX0 9 "Koebehall$Disk" "x" "J", Cond.fieldLink RX0 15 "Koebehall$Disk" "y" "J", Cond.fieldLink RX0 18 "Koebehall$Disk" "radius" "J", Cond.methodLink RX8 139 yJx4a65c_add_9ea2d, Cond.instanceMethod yJx4a65c_add_9ea2d, Cond.selects RJx4a65c yJx4a65c_add_9ea2d yJx4a65c_add_9ea2d, Cond.code yJx4a65c_add_9ea2d cJx4a65c_add_9ea2d 2 (some .boolean), Cond.fieldLink RJx4a65c 63 "java/util/ArrayList" "modCount" "I", Cond.sameField "java/util/ArrayList" "java/util/AbstractList" "modCount" "I", Cond.fieldLink RJx4a65c 9 "java/util/ArrayList" "elementData" "[Ljava/lang/Object;", Cond.methodLink RJx4a65c 131 yJx4a65c_add_72be8, Cond.instanceMethod yJx4a65c_add_72be8, Cond.selects RJx4a65c yJx4a65c_add_72be8 yJx4a65c_add_72be8, Cond.code yJx4a65c_add_72be8 cJx4a65c_add_72be8 4 none]
def wsL_disk_r3 : List Cond := [Cond.methodLink RJx4a65c 129 yJx4a65c_grow_d5877, Cond.instanceMethod yJx4a65c_grow_d5877, Cond.selects RJx4a65c yJx4a65c_grow_d5877 yJx4a65c_grow_d5877, Cond.code yJx4a65c_grow_d5877 cJx4a65c_grow_d5877 1 (some (.array (.object "java/lang/Object"))), Cond.methodLink RJx4a65c 69 yJx4a65c_grow_92f84, Cond.instanceMethod yJx4a65c_grow_92f84, Cond.selects RJx4a65c yJx4a65c_grow_92f84 yJx4a65c_grow_92f84, Cond.code yJx4a65c_grow_92f84 cJx4a65c_grow_92f84 4 (some (.array (.object "java/lang/Object"))), Cond.fieldLink RJx4a65c 39 "java/util/ArrayList" "DEFAULTCAPACITY_EMPTY_ELEMENTDATA" "[Ljava/lang/Object;", Cond.methodLink RJx4a65c 79 Lib.Math.max.name, Cond.static Lib.Math.max.name, Cond.initialized "java/lang/Math", Cond.code Lib.Math.max.name Lib.Math.max.code 2 (some .int), Cond.classLink RJx4a65c 7 "java/lang/Object", Cond.methodLink RJx4a65c 73 yJ8_newLength_cabcc, Cond.static yJ8_newLength_cabcc, Cond.initialized RJ8, Cond.code yJ8_newLength_cabcc cJ8_newLength_cabcc 4 (some .int), Cond.methodLink RJ8 194 Lib.Math.max.name, Cond.constant RJ8 200 (2147483639), Cond.methodLink RJ8 201 yJ8_hugeLength_7cf53, Cond.static yJ8_hugeLength_7cf53, Cond.code yJ8_hugeLength_7cf53 cJ8_hugeLength_7cf53 3 (some .int), Cond.methodLink RJx4a65c 66 yJ7_copyOf_1904c]
def wsL_disk_r4 : List Cond := [Cond.static yJ7_copyOf_1904c, Cond.initialized RJ7, Cond.code yJ7_copyOf_1904c cJ7_copyOf_1904c 2 (some (.array (.object "java/lang/Object"))), Cond.methodLink RJ7 86 ⟨"java/lang/Object", "getClass", "()Ljava/lang/Class;"⟩, Cond.selects "[Ljava/lang/Object;" ⟨"java/lang/Object", "getClass", "()Ljava/lang/Class;"⟩ ⟨"java/lang/Object", "getClass", "()Ljava/lang/Class;"⟩, Cond.instanceMethod ⟨"java/lang/Object", "getClass", "()Ljava/lang/Class;"⟩, Cond.native ⟨"java/lang/Object", "getClass", "()Ljava/lang/Class;"⟩, Cond.methodLink RJ7 300 yJ7_copyOf_6403c, Cond.static yJ7_copyOf_6403c, Cond.code yJ7_copyOf_6403c cJ7_copyOf_6403c 4 (some (.array (.object "java/lang/Object"))), Cond.classLink RJ7 110 "[Ljava/lang/Object;", Cond.classLink RJ7 2 "java/lang/Object", Cond.methodLink RJ7 304 Lib.Math.min.name, Cond.static Lib.Math.min.name, Cond.code Lib.Math.min.name Lib.Math.min.code 2 (some .int), Cond.methodLink RJ7 150 arraycopyName, Cond.native arraycopyName, Cond.static arraycopyName, Cond.initialized "java/lang/System"]
def wsL_disk : List Cond := .codeWith yL_disk cL_disk 6 (some .int) [(0, 12, 15, 34), (0, 12, 19, 15)] :: ((wsL_disk_r1 ++ (wsL_disk_r2 ++ (wsL_disk_r3 ++ wsL_disk_r4))) ++ wsX80 ++ wsX00 ++ wsJx4a65c0 ++ (vx_atS RX8 128 "java/lang/IllegalArgumentException" ["java/lang/RuntimeException", "java/lang/Exception"]).filter goodWord ++ (vx_atS RX8 71 "java/lang/IllegalStateException" ["java/lang/RuntimeException", "java/lang/Exception"]).filter goodWord)
def wsL_move_r1 : List Cond := [Cond.classLink RL 13 "java/lang/IndexOutOfBoundsException", Cond.classLink RL 34 "java/lang/IllegalArgumentException", Cond.methodLink RL 36 yX8_move, Cond.instanceMethod yX8_move, Cond.selects RX8 yX8_move yX8_move, Cond.initialized RX8, Cond.code yX8_move cX8_move 6 (some .int), Cond.classLink RX8 56 "java/lang/IndexOutOfBoundsException", Cond.initialized "java/lang/IndexOutOfBoundsException", Cond.classLink RX8 124 "java/lang/IllegalArgumentException", Cond.initialized "java/lang/IllegalArgumentException", Cond.fieldLink RX8 19 "Koebehall" "disks" "Ljava/util/ArrayList;", Cond.classLink RX8 134 "Koebehall$Disk", Cond.classLink RX8 134 RX0, Cond.instantiable RX0 3, Cond.initialized RX0, Cond.methodLink RX8 143 yX8_hasDisk, Cond.instanceMethod yX8_hasDisk, Cond.selects RX8 yX8_hasDisk yX8_hasDisk, Cond.code yX8_hasDisk cX8_hasDisk 2 (some .boolean), Cond.methodLink RX8 129 yJx4a65c_size_8abf5, Cond.instanceMethod yJx4a65c_size_8abf5, Cond.selects RJx4a65c yJx4a65c_size_8abf5 yJx4a65c_size_8abf5, Cond.initialized RJx4a65c]
def wsL_move_r2 : List Cond := [Cond.code yJx4a65c_size_8abf5 cJx4a65c_size_8abf5 1 (some .int), Cond.fieldLink RJx4a65c 48 "java/util/ArrayList" "size" "I", Cond.methodLink RX8 120 yX8_isDisk, Cond.static yX8_isDisk, Cond.code yX8_isDisk cX8_isDisk 3 (some .boolean), Cond.constantLong RX8 170 (1000000000), Cond.constant RX8 176 (1000000000), Cond.methodLink RX8 172 yX8_isWithin, Cond.static yX8_isWithin, Cond.code yX8_isWithin cX8_isWithin 4 (some .boolean), Cond.methodLink RX8 148 yJx4a65c_get_915e3, Cond.instanceMethod yJx4a65c_get_915e3, Cond.selects RJx4a65c yJx4a65c_get_915e3 yJx4a65c_get_915e3, Cond.code yJx4a65c_get_915e3 cJx4a65c_get_915e3 2 (some (.object "java/lang/Object")), Cond.methodLink RJx4a65c 118 yJ15_checkIndex_7cf53, Cond.static yJ15_checkIndex_7cf53, Cond.initialized RJ15, Cond.code yJ15_checkIndex_7cf53 cJ15_checkIndex_7cf53 2 (some .int), Cond.methodLink RJ15 105 yJ3_checkIndex_8e157, Cond.static yJ3_checkIndex_8e157, Cond.initialized RJ3, Cond.code yJ3_checkIndex_8e157 cJ3_checkIndex_8e157 3 (some .int), Cond.methodLink RJx4a65c 123 yJx4a65c_elementData_915e3, Cond.instanceMethod yJx4a65c_elementData_915e3]
def wsL_move_r3 : List Cond := [Cond.selects RJx4a65c yJx4a65c_elementData_915e3 yJx4a65c_elementData_915e3, Cond.code yJx4a65c_elementData_915e3 cJx4a65c_elementData_915e3 2 (some (.object "java/lang/Object")), Cond.fieldLink RJx4a65c 9 "java/util/ArrayList" "elementData" "[Ljava/lang/Object;", Cond.instanceMethod yX0_init, Cond.code yX0_init cX0_init 7 none, Cond.methodLink RX0 3 objectInit, Cond.instanceMethod objectInit, Cond.code objectInit ⟨#[0xb1]⟩ 1 none, Cond.fieldLink RX0 9 "Koebehall$Disk" "x" "J", Cond.fieldLink RX0 15 "Koebehall$Disk" "y" "J", Cond.fieldLink RX0 18 "Koebehall$Disk" "radius" "J", Cond.methodLink RX8 152 yJx4a65c_set_bcc79, Cond.instanceMethod yJx4a65c_set_bcc79, Cond.selects RJx4a65c yJx4a65c_set_bcc79 yJx4a65c_set_bcc79, Cond.code yJx4a65c_set_bcc79 cJx4a65c_set_bcc79 4 (some (.object "java/lang/Object"))]
def wsL_move : List Cond := .codeWith yL_move cL_move 7 (some .int) [(0, 14, 17, 13), (0, 14, 21, 34)] :: ((wsL_move_r1 ++ (wsL_move_r2 ++ wsL_move_r3)) ++ wsX80 ++ wsX00 ++ wsJx4a65c0 ++ (vx_atS RX8 60 "java/lang/IndexOutOfBoundsException" ["java/lang/RuntimeException", "java/lang/Exception"]).filter goodWord ++ (vx_atS RX8 128 "java/lang/IllegalArgumentException" ["java/lang/RuntimeException", "java/lang/Exception"]).filter goodWord)
def wsL_lie_r1 : List Cond := [Cond.classLink RL 13 "java/lang/IndexOutOfBoundsException", Cond.classLink RL 34 "java/lang/IllegalArgumentException", Cond.methodLink RL 40 yX8_lie, Cond.instanceMethod yX8_lie, Cond.selects RX8 yX8_lie yX8_lie, Cond.initialized RX8, Cond.code yX8_lie cX8_lie 3 (some .int), Cond.classLink RX8 56 "java/lang/IndexOutOfBoundsException", Cond.initialized "java/lang/IndexOutOfBoundsException", Cond.classLink RX8 124 "java/lang/IllegalArgumentException", Cond.initialized "java/lang/IllegalArgumentException", Cond.methodLink RX8 143 yX8_hasDisk, Cond.instanceMethod yX8_hasDisk, Cond.selects RX8 yX8_hasDisk yX8_hasDisk, Cond.code yX8_hasDisk cX8_hasDisk 2 (some .boolean), Cond.fieldLink RX8 19 "Koebehall" "disks" "Ljava/util/ArrayList;", Cond.methodLink RX8 129 yJx4a65c_size_8abf5, Cond.instanceMethod yJx4a65c_size_8abf5, Cond.selects RJx4a65c yJx4a65c_size_8abf5 yJx4a65c_size_8abf5, Cond.initialized RJx4a65c, Cond.code yJx4a65c_size_8abf5 cJx4a65c_size_8abf5 1 (some .int), Cond.fieldLink RJx4a65c 48 "java/util/ArrayList" "size" "I", Cond.methodLink RX8 162 yX8_howDisksLie, Cond.instanceMethod yX8_howDisksLie]
def wsL_lie_r2 : List Cond := [Cond.selects RX8 yX8_howDisksLie yX8_howDisksLie, Cond.code yX8_howDisksLie cX8_howDisksLie 3 (some .int), Cond.classLink RX8 134 "Koebehall$Disk", Cond.methodLink RX8 148 yJx4a65c_get_915e3, Cond.instanceMethod yJx4a65c_get_915e3, Cond.selects RJx4a65c yJx4a65c_get_915e3 yJx4a65c_get_915e3, Cond.code yJx4a65c_get_915e3 cJx4a65c_get_915e3 2 (some (.object "java/lang/Object")), Cond.methodLink RJx4a65c 118 yJ15_checkIndex_7cf53, Cond.static yJ15_checkIndex_7cf53, Cond.initialized RJ15, Cond.code yJ15_checkIndex_7cf53 cJ15_checkIndex_7cf53 2 (some .int), Cond.methodLink RJ15 105 yJ3_checkIndex_8e157, Cond.static yJ3_checkIndex_8e157, Cond.initialized RJ3, Cond.code yJ3_checkIndex_8e157 cJ3_checkIndex_8e157 3 (some .int), Cond.methodLink RJx4a65c 123 yJx4a65c_elementData_915e3, Cond.instanceMethod yJx4a65c_elementData_915e3, Cond.selects RJx4a65c yJx4a65c_elementData_915e3 yJx4a65c_elementData_915e3, Cond.code yJx4a65c_elementData_915e3 cJx4a65c_elementData_915e3 2 (some (.object "java/lang/Object")), Cond.fieldLink RJx4a65c 9 "java/util/ArrayList" "elementData" "[Ljava/lang/Object;", Cond.instanceMethod yX0_howItLies, Cond.initialized RX0, Cond.selects RX0 yX0_howItLies yX0_howItLies, Cond.code yX0_howItLies cX0_howItLies 10 (some .int)]
def wsL_lie_r3 : List Cond := [Cond.fieldLink RX0 9 "Koebehall$Disk" "x" "J", Cond.fieldLink RX0 15 "Koebehall$Disk" "y" "J", Cond.fieldLink RX0 18 "Koebehall$Disk" "radius" "J"]
def wsL_lie : List Cond := .codeWith yL_lie cL_lie 5 (some .int) [(0, 10, 13, 13), (0, 10, 17, 34)] :: ((wsL_lie_r1 ++ (wsL_lie_r2 ++ wsL_lie_r3)) ++ wsX80 ++ wsJx4a65c0 ++ wsX00 ++ (vx_atS RX8 60 "java/lang/IndexOutOfBoundsException" ["java/lang/RuntimeException", "java/lang/Exception"]).filter goodWord ++ (vx_atS RX8 128 "java/lang/IllegalArgumentException" ["java/lang/RuntimeException", "java/lang/Exception"]).filter goodWord)
def wsL_pairs_r1 : List Cond := [Cond.classLink RL 34 "java/lang/IllegalArgumentException", Cond.methodLink RL 43 yX8_pairs, Cond.instanceMethod yX8_pairs, Cond.selects RX8 yX8_pairs yX8_pairs, Cond.initialized RX8, Cond.code yX8_pairs cX8_pairs 5 (some .int), Cond.classLink RX8 124 "java/lang/IllegalArgumentException", Cond.initialized "java/lang/IllegalArgumentException", Cond.fieldLink RX8 19 "Koebehall" "disks" "Ljava/util/ArrayList;", Cond.methodLink RX8 129 yJx4a65c_size_8abf5, Cond.instanceMethod yJx4a65c_size_8abf5, Cond.selects RJx4a65c yJx4a65c_size_8abf5 yJx4a65c_size_8abf5, Cond.initialized RJx4a65c, Cond.code yJx4a65c_size_8abf5 cJx4a65c_size_8abf5 1 (some .int), Cond.fieldLink RJx4a65c 48 "java/util/ArrayList" "size" "I", Cond.methodLink RX8 162 yX8_howDisksLie, Cond.instanceMethod yX8_howDisksLie, Cond.selects RX8 yX8_howDisksLie yX8_howDisksLie, Cond.code yX8_howDisksLie cX8_howDisksLie 3 (some .int), Cond.classLink RX8 134 "Koebehall$Disk", Cond.methodLink RX8 143 yX8_hasDisk, Cond.instanceMethod yX8_hasDisk, Cond.selects RX8 yX8_hasDisk yX8_hasDisk, Cond.code yX8_hasDisk cX8_hasDisk 2 (some .boolean)]
def wsL_pairs_r2 : List Cond := [Cond.methodLink RX8 148 yJx4a65c_get_915e3, Cond.instanceMethod yJx4a65c_get_915e3, Cond.selects RJx4a65c yJx4a65c_get_915e3 yJx4a65c_get_915e3, Cond.code yJx4a65c_get_915e3 cJx4a65c_get_915e3 2 (some (.object "java/lang/Object")), Cond.methodLink RJx4a65c 118 yJ15_checkIndex_7cf53, Cond.static yJ15_checkIndex_7cf53, Cond.initialized RJ15, Cond.code yJ15_checkIndex_7cf53 cJ15_checkIndex_7cf53 2 (some .int), Cond.methodLink RJ15 105 yJ3_checkIndex_8e157, Cond.static yJ3_checkIndex_8e157, Cond.initialized RJ3, Cond.code yJ3_checkIndex_8e157 cJ3_checkIndex_8e157 3 (some .int), Cond.methodLink RJx4a65c 123 yJx4a65c_elementData_915e3, Cond.instanceMethod yJx4a65c_elementData_915e3, Cond.selects RJx4a65c yJx4a65c_elementData_915e3 yJx4a65c_elementData_915e3, Cond.code yJx4a65c_elementData_915e3 cJx4a65c_elementData_915e3 2 (some (.object "java/lang/Object")), Cond.fieldLink RJx4a65c 9 "java/util/ArrayList" "elementData" "[Ljava/lang/Object;", Cond.instanceMethod yX0_howItLies, Cond.initialized RX0, Cond.selects RX0 yX0_howItLies yX0_howItLies, Cond.code yX0_howItLies cX0_howItLies 10 (some .int), Cond.fieldLink RX0 9 "Koebehall$Disk" "x" "J", Cond.fieldLink RX0 15 "Koebehall$Disk" "y" "J", Cond.fieldLink RX0 18 "Koebehall$Disk" "radius" "J"]
def wsL_pairs : List Cond := .codeWith yL_pairs cL_pairs 4 (some .int) [(0, 9, 12, 34)] :: ((wsL_pairs_r1 ++ wsL_pairs_r2) ++ wsX80 ++ wsJx4a65c0 ++ wsX00 ++ (vx_atS RX8 128 "java/lang/IllegalArgumentException" ["java/lang/RuntimeException", "java/lang/Exception"]).filter goodWord)
def wsL_gasket_r1 : List Cond := [Cond.classLink RL 34 "java/lang/IllegalArgumentException", Cond.classLink RL 15 "java/lang/IllegalStateException", Cond.methodLink RL 46 yX8_gasket, Cond.instanceMethod yX8_gasket, Cond.selects RX8 yX8_gasket yX8_gasket, Cond.initialized RX8, Cond.code yX8_gasket cX8_gasket 5 (some .int), Cond.classLink RX8 124 "java/lang/IllegalArgumentException", Cond.initialized "java/lang/IllegalArgumentException", Cond.classLink RX8 67 "java/lang/IllegalStateException", Cond.initialized "java/lang/IllegalStateException", Cond.constant RX8 181 (1000000), Cond.fieldLink RX8 23 "Koebehall" "gaskets" "Ljava/util/ArrayList;", Cond.classLink RX8 187 RX2, Cond.instantiable RX2 3, Cond.initialized RX2, Cond.methodLink RX8 182 yX8_areFourWithin, Cond.static yX8_areFourWithin, Cond.code yX8_areFourWithin cX8_areFourWithin 5 (some .boolean), Cond.methodLink RX8 172 yX8_isWithin, Cond.static yX8_isWithin, Cond.code yX8_isWithin cX8_isWithin 4 (some .boolean), Cond.static yX2_areOfGasket, Cond.code yX2_areOfGasket cX2_areOfGasket 10 (some .boolean)]
def wsL_gasket_r2 : List Cond := [Cond.constantLong RX2 35 (2), Cond.methodLink RX8 129 yJx4a65c_size_8abf5, Cond.instanceMethod yJx4a65c_size_8abf5, Cond.selects RJx4a65c yJx4a65c_size_8abf5 yJx4a65c_size_8abf5, Cond.initialized RJx4a65c, Cond.code yJx4a65c_size_8abf5 cJx4a65c_size_8abf5 1 (some .int), Cond.fieldLink RJx4a65c 48 "java/util/ArrayList" "size" "I", Cond.instanceMethod yX2_init, Cond.code yX2_init cX2_init 9 none, Cond.methodLink RX2 3 objectInit, Cond.instanceMethod objectInit, Cond.code objectInit ⟨#[0xb1]⟩ 1 none, Cond.fieldLink RX2 15 "Koebehall$Gasket" "four" "[J", Cond.fieldLink RX2 22 "Koebehall$Gasket" "least" "[J", Cond.arrayClass .long, Cond.fieldLink RX2 25 "Koebehall$Gasket" "walked" "[J", Cond.methodLink RX2 9 yX2_rowOf, Cond.static yX2_rowOf, Cond.code yX2_rowOf cX2_rowOf 9 (some (.array .long)), Cond.methodLink RX2 19 yX2_rootOf, Cond.static yX2_rootOf, Cond.code yX2_rootOf cX2_rootOf 9 (some (.array .long)), Cond.methodLink RX2 28 yX2_bringToRoot, Cond.static yX2_bringToRoot]
def wsL_gasket_r3 : List Cond := [Cond.code yX2_bringToRoot cX2_bringToRoot 5 none, Cond.constant RX2 37 (1000000), Cond.methodLink RX2 38 yX2_greatestPlace, Cond.static yX2_greatestPlace, Cond.code yX2_greatestPlace cX2_greatestPlace 3 (some .int), Cond.methodLink RX2 42 yX2_turnedAt, Cond.static yX2_turnedAt, Cond.code yX2_turnedAt cX2_turnedAt 4 (some .long), Cond.methodLink RX2 32 yX2_putInOrder, Cond.static yX2_putInOrder, Cond.code yX2_putInOrder cX2_putInOrder 5 none, Cond.methodLink RX8 139 yJx4a65c_add_9ea2d, Cond.instanceMethod yJx4a65c_add_9ea2d, Cond.selects RJx4a65c yJx4a65c_add_9ea2d yJx4a65c_add_9ea2d, Cond.code yJx4a65c_add_9ea2d cJx4a65c_add_9ea2d 2 (some .boolean), Cond.fieldLink RJx4a65c 63 "java/util/ArrayList" "modCount" "I", Cond.sameField "java/util/ArrayList" "java/util/AbstractList" "modCount" "I", Cond.fieldLink RJx4a65c 9 "java/util/ArrayList" "elementData" "[Ljava/lang/Object;", Cond.methodLink RJx4a65c 131 yJx4a65c_add_72be8, Cond.instanceMethod yJx4a65c_add_72be8, Cond.selects RJx4a65c yJx4a65c_add_72be8 yJx4a65c_add_72be8, Cond.code yJx4a65c_add_72be8 cJx4a65c_add_72be8 4 none, Cond.methodLink RJx4a65c 129 yJx4a65c_grow_d5877, Cond.instanceMethod yJx4a65c_grow_d5877]
def wsL_gasket_r4 : List Cond := [Cond.selects RJx4a65c yJx4a65c_grow_d5877 yJx4a65c_grow_d5877, Cond.code yJx4a65c_grow_d5877 cJx4a65c_grow_d5877 1 (some (.array (.object "java/lang/Object"))), Cond.methodLink RJx4a65c 69 yJx4a65c_grow_92f84, Cond.instanceMethod yJx4a65c_grow_92f84, Cond.selects RJx4a65c yJx4a65c_grow_92f84 yJx4a65c_grow_92f84, Cond.code yJx4a65c_grow_92f84 cJx4a65c_grow_92f84 4 (some (.array (.object "java/lang/Object"))), Cond.fieldLink RJx4a65c 39 "java/util/ArrayList" "DEFAULTCAPACITY_EMPTY_ELEMENTDATA" "[Ljava/lang/Object;", Cond.methodLink RJx4a65c 79 Lib.Math.max.name, Cond.static Lib.Math.max.name, Cond.initialized "java/lang/Math", Cond.code Lib.Math.max.name Lib.Math.max.code 2 (some .int), Cond.classLink RJx4a65c 7 "java/lang/Object", Cond.methodLink RJx4a65c 73 yJ8_newLength_cabcc, Cond.static yJ8_newLength_cabcc, Cond.initialized RJ8, Cond.code yJ8_newLength_cabcc cJ8_newLength_cabcc 4 (some .int), Cond.methodLink RJ8 194 Lib.Math.max.name, Cond.constant RJ8 200 (2147483639), Cond.methodLink RJ8 201 yJ8_hugeLength_7cf53, Cond.static yJ8_hugeLength_7cf53, Cond.code yJ8_hugeLength_7cf53 cJ8_hugeLength_7cf53 3 (some .int), Cond.methodLink RJx4a65c 66 yJ7_copyOf_1904c, Cond.static yJ7_copyOf_1904c, Cond.initialized RJ7]
def wsL_gasket_r5 : List Cond := [Cond.code yJ7_copyOf_1904c cJ7_copyOf_1904c 2 (some (.array (.object "java/lang/Object"))), Cond.methodLink RJ7 86 ⟨"java/lang/Object", "getClass", "()Ljava/lang/Class;"⟩, Cond.selects "[Ljava/lang/Object;" ⟨"java/lang/Object", "getClass", "()Ljava/lang/Class;"⟩ ⟨"java/lang/Object", "getClass", "()Ljava/lang/Class;"⟩, Cond.instanceMethod ⟨"java/lang/Object", "getClass", "()Ljava/lang/Class;"⟩, Cond.native ⟨"java/lang/Object", "getClass", "()Ljava/lang/Class;"⟩, Cond.methodLink RJ7 300 yJ7_copyOf_6403c, Cond.static yJ7_copyOf_6403c, Cond.code yJ7_copyOf_6403c cJ7_copyOf_6403c 4 (some (.array (.object "java/lang/Object"))), Cond.classLink RJ7 110 "[Ljava/lang/Object;", Cond.classLink RJ7 2 "java/lang/Object", Cond.methodLink RJ7 304 Lib.Math.min.name, Cond.static Lib.Math.min.name, Cond.code Lib.Math.min.name Lib.Math.min.code 2 (some .int), Cond.methodLink RJ7 150 arraycopyName, Cond.native arraycopyName, Cond.static arraycopyName, Cond.initialized "java/lang/System"]
def wsL_gasket : List Cond := .codeWith yL_gasket cL_gasket 7 (some .int) [(0, 14, 17, 34), (0, 14, 21, 15)] :: ((wsL_gasket_r1 ++ (wsL_gasket_r2 ++ (wsL_gasket_r3 ++ (wsL_gasket_r4 ++ wsL_gasket_r5)))) ++ wsX80 ++ wsX20 ++ wsJx4a65c0 ++ (vx_atS RX8 128 "java/lang/IllegalArgumentException" ["java/lang/RuntimeException", "java/lang/Exception"]).filter goodWord ++ (vx_atS RX8 71 "java/lang/IllegalStateException" ["java/lang/RuntimeException", "java/lang/Exception"]).filter goodWord)
def wsL_turn_r1 : List Cond := [Cond.classLink RL 13 "java/lang/IndexOutOfBoundsException", Cond.classLink RL 15 "java/lang/IllegalStateException", Cond.methodLink RL 49 yX8_turn, Cond.instanceMethod yX8_turn, Cond.selects RX8 yX8_turn yX8_turn, Cond.initialized RX8, Cond.code yX8_turn cX8_turn 6 (some .long), Cond.classLink RX8 67 "java/lang/IllegalStateException", Cond.initialized "java/lang/IllegalStateException", Cond.constantLong RX8 205 (1000000000000000), Cond.methodLink RX8 197 yX8_fourOf, Cond.instanceMethod yX8_fourOf, Cond.selects RX8 yX8_fourOf yX8_fourOf, Cond.code yX8_fourOf cX8_fourOf 4 (some (.array .long)), Cond.classLink RX8 56 "java/lang/IndexOutOfBoundsException", Cond.initialized "java/lang/IndexOutOfBoundsException", Cond.methodLink RX8 209 yX8_gasketOf, Cond.instanceMethod yX8_gasketOf, Cond.selects RX8 yX8_gasketOf yX8_gasketOf, Cond.code yX8_gasketOf cX8_gasketOf 2 (some (.object "Koebehall$Gasket")), Cond.fieldLink RX8 23 "Koebehall" "gaskets" "Ljava/util/ArrayList;", Cond.classLink RX8 187 "Koebehall$Gasket", Cond.methodLink RX8 129 yJx4a65c_size_8abf5, Cond.instanceMethod yJx4a65c_size_8abf5]
def wsL_turn_r2 : List Cond := [Cond.selects RJx4a65c yJx4a65c_size_8abf5 yJx4a65c_size_8abf5, Cond.initialized RJx4a65c, Cond.code yJx4a65c_size_8abf5 cJx4a65c_size_8abf5 1 (some .int), Cond.fieldLink RJx4a65c 48 "java/util/ArrayList" "size" "I", Cond.methodLink RX8 148 yJx4a65c_get_915e3, Cond.instanceMethod yJx4a65c_get_915e3, Cond.selects RJx4a65c yJx4a65c_get_915e3 yJx4a65c_get_915e3, Cond.code yJx4a65c_get_915e3 cJx4a65c_get_915e3 2 (some (.object "java/lang/Object")), Cond.methodLink RJx4a65c 118 yJ15_checkIndex_7cf53, Cond.static yJ15_checkIndex_7cf53, Cond.initialized RJ15, Cond.code yJ15_checkIndex_7cf53 cJ15_checkIndex_7cf53 2 (some .int), Cond.methodLink RJ15 105 yJ3_checkIndex_8e157, Cond.static yJ3_checkIndex_8e157, Cond.initialized RJ3, Cond.code yJ3_checkIndex_8e157 cJ3_checkIndex_8e157 3 (some .int), Cond.methodLink RJx4a65c 123 yJx4a65c_elementData_915e3, Cond.instanceMethod yJx4a65c_elementData_915e3, Cond.selects RJx4a65c yJx4a65c_elementData_915e3 yJx4a65c_elementData_915e3, Cond.code yJx4a65c_elementData_915e3 cJx4a65c_elementData_915e3 2 (some (.object "java/lang/Object")), Cond.fieldLink RJx4a65c 9 "java/util/ArrayList" "elementData" "[Ljava/lang/Object;", Cond.static yX2_turnedAt, Cond.initialized RX2, Cond.code yX2_turnedAt cX2_turnedAt 4 (some .long)]
def wsL_turn_r3 : List Cond := [Cond.constantLong RX2 35 (2)]
def wsL_turn : List Cond := .codeWith yL_turn cL_turn 5 (some .int) [(0, 9, 12, 13), (0, 9, 16, 15)] :: ((wsL_turn_r1 ++ (wsL_turn_r2 ++ wsL_turn_r3)) ++ wsX20 ++ wsX80 ++ wsJx4a65c0 ++ (vx_atS RX8 71 "java/lang/IllegalStateException" ["java/lang/RuntimeException", "java/lang/Exception"]).filter goodWord ++ (vx_atS RX8 60 "java/lang/IndexOutOfBoundsException" ["java/lang/RuntimeException", "java/lang/Exception"]).filter goodWord)
def wsL_curvature_r1 : List Cond := [Cond.classLink RL 13 "java/lang/IndexOutOfBoundsException", Cond.methodLink RL 53 yX8_curvature, Cond.instanceMethod yX8_curvature, Cond.selects RX8 yX8_curvature yX8_curvature, Cond.initialized RX8, Cond.code yX8_curvature cX8_curvature 3 (some .long), Cond.methodLink RX8 197 yX8_fourOf, Cond.instanceMethod yX8_fourOf, Cond.selects RX8 yX8_fourOf yX8_fourOf, Cond.code yX8_fourOf cX8_fourOf 4 (some (.array .long)), Cond.classLink RX8 56 "java/lang/IndexOutOfBoundsException", Cond.initialized "java/lang/IndexOutOfBoundsException", Cond.methodLink RX8 209 yX8_gasketOf, Cond.instanceMethod yX8_gasketOf, Cond.selects RX8 yX8_gasketOf yX8_gasketOf, Cond.code yX8_gasketOf cX8_gasketOf 2 (some (.object "Koebehall$Gasket")), Cond.fieldLink RX8 23 "Koebehall" "gaskets" "Ljava/util/ArrayList;", Cond.classLink RX8 187 "Koebehall$Gasket", Cond.methodLink RX8 129 yJx4a65c_size_8abf5, Cond.instanceMethod yJx4a65c_size_8abf5, Cond.selects RJx4a65c yJx4a65c_size_8abf5 yJx4a65c_size_8abf5, Cond.initialized RJx4a65c, Cond.code yJx4a65c_size_8abf5 cJx4a65c_size_8abf5 1 (some .int), Cond.fieldLink RJx4a65c 48 "java/util/ArrayList" "size" "I"]
def wsL_curvature_r2 : List Cond := [Cond.methodLink RX8 148 yJx4a65c_get_915e3, Cond.instanceMethod yJx4a65c_get_915e3, Cond.selects RJx4a65c yJx4a65c_get_915e3 yJx4a65c_get_915e3, Cond.code yJx4a65c_get_915e3 cJx4a65c_get_915e3 2 (some (.object "java/lang/Object")), Cond.methodLink RJx4a65c 118 yJ15_checkIndex_7cf53, Cond.static yJ15_checkIndex_7cf53, Cond.initialized RJ15, Cond.code yJ15_checkIndex_7cf53 cJ15_checkIndex_7cf53 2 (some .int), Cond.methodLink RJ15 105 yJ3_checkIndex_8e157, Cond.static yJ3_checkIndex_8e157, Cond.initialized RJ3, Cond.code yJ3_checkIndex_8e157 cJ3_checkIndex_8e157 3 (some .int), Cond.methodLink RJx4a65c 123 yJx4a65c_elementData_915e3, Cond.instanceMethod yJx4a65c_elementData_915e3, Cond.selects RJx4a65c yJx4a65c_elementData_915e3 yJx4a65c_elementData_915e3, Cond.code yJx4a65c_elementData_915e3 cJx4a65c_elementData_915e3 2 (some (.object "java/lang/Object")), Cond.fieldLink RJx4a65c 9 "java/util/ArrayList" "elementData" "[Ljava/lang/Object;"]
def wsL_curvature : List Cond := .codeWith yL_curvature cL_curvature 5 (some .int) [(0, 9, 12, 13)] :: ((wsL_curvature_r1 ++ wsL_curvature_r2) ++ wsX20 ++ wsX80 ++ wsJx4a65c0 ++ (vx_atS RX8 60 "java/lang/IndexOutOfBoundsException" ["java/lang/RuntimeException", "java/lang/Exception"]).filter goodWord)
def wsL_radius_r1 : List Cond := [Cond.classLink RL 13 "java/lang/IndexOutOfBoundsException", Cond.methodLink RL 56 yX8_radius, Cond.instanceMethod yX8_radius, Cond.selects RX8 yX8_radius yX8_radius, Cond.initialized RX8, Cond.code yX8_radius cX8_radius 3 (some .float), Cond.methodLink RX8 197 yX8_fourOf, Cond.instanceMethod yX8_fourOf, Cond.selects RX8 yX8_fourOf yX8_fourOf, Cond.code yX8_fourOf cX8_fourOf 4 (some (.array .long)), Cond.classLink RX8 56 "java/lang/IndexOutOfBoundsException", Cond.initialized "java/lang/IndexOutOfBoundsException", Cond.methodLink RX8 209 yX8_gasketOf, Cond.instanceMethod yX8_gasketOf, Cond.selects RX8 yX8_gasketOf yX8_gasketOf, Cond.code yX8_gasketOf cX8_gasketOf 2 (some (.object "Koebehall$Gasket")), Cond.fieldLink RX8 23 "Koebehall" "gaskets" "Ljava/util/ArrayList;", Cond.classLink RX8 187 "Koebehall$Gasket", Cond.methodLink RX8 129 yJx4a65c_size_8abf5, Cond.instanceMethod yJx4a65c_size_8abf5, Cond.selects RJx4a65c yJx4a65c_size_8abf5 yJx4a65c_size_8abf5, Cond.initialized RJx4a65c, Cond.code yJx4a65c_size_8abf5 cJx4a65c_size_8abf5 1 (some .int), Cond.fieldLink RJx4a65c 48 "java/util/ArrayList" "size" "I"]
def wsL_radius_r2 : List Cond := [Cond.methodLink RX8 148 yJx4a65c_get_915e3, Cond.instanceMethod yJx4a65c_get_915e3, Cond.selects RJx4a65c yJx4a65c_get_915e3 yJx4a65c_get_915e3, Cond.code yJx4a65c_get_915e3 cJx4a65c_get_915e3 2 (some (.object "java/lang/Object")), Cond.methodLink RJx4a65c 118 yJ15_checkIndex_7cf53, Cond.static yJ15_checkIndex_7cf53, Cond.initialized RJ15, Cond.code yJ15_checkIndex_7cf53 cJ15_checkIndex_7cf53 2 (some .int), Cond.methodLink RJ15 105 yJ3_checkIndex_8e157, Cond.static yJ3_checkIndex_8e157, Cond.initialized RJ3, Cond.code yJ3_checkIndex_8e157 cJ3_checkIndex_8e157 3 (some .int), Cond.methodLink RJx4a65c 123 yJx4a65c_elementData_915e3, Cond.instanceMethod yJx4a65c_elementData_915e3, Cond.selects RJx4a65c yJx4a65c_elementData_915e3 yJx4a65c_elementData_915e3, Cond.code yJx4a65c_elementData_915e3 cJx4a65c_elementData_915e3 2 (some (.object "java/lang/Object")), Cond.fieldLink RJx4a65c 9 "java/util/ArrayList" "elementData" "[Ljava/lang/Object;"]
def wsL_radius : List Cond := .codeWith yL_radius cL_radius 5 (some .int) [(0, 10, 13, 13)] :: ((wsL_radius_r1 ++ wsL_radius_r2) ++ wsX20 ++ wsX80 ++ wsJx4a65c0 ++ (vx_atS RX8 60 "java/lang/IndexOutOfBoundsException" ["java/lang/RuntimeException", "java/lang/Exception"]).filter goodWord)
def wsL_root_r1 : List Cond := [Cond.classLink RL 13 "java/lang/IndexOutOfBoundsException", Cond.methodLink RL 60 yX8_root, Cond.instanceMethod yX8_root, Cond.selects RX8 yX8_root yX8_root, Cond.initialized RX8, Cond.code yX8_root cX8_root 4 (some .long), Cond.classLink RX8 56 "java/lang/IndexOutOfBoundsException", Cond.initialized "java/lang/IndexOutOfBoundsException", Cond.methodLink RX8 209 yX8_gasketOf, Cond.instanceMethod yX8_gasketOf, Cond.selects RX8 yX8_gasketOf yX8_gasketOf, Cond.code yX8_gasketOf cX8_gasketOf 2 (some (.object "Koebehall$Gasket")), Cond.fieldLink RX8 23 "Koebehall" "gaskets" "Ljava/util/ArrayList;", Cond.classLink RX8 187 "Koebehall$Gasket", Cond.methodLink RX8 129 yJx4a65c_size_8abf5, Cond.instanceMethod yJx4a65c_size_8abf5, Cond.selects RJx4a65c yJx4a65c_size_8abf5 yJx4a65c_size_8abf5, Cond.initialized RJx4a65c, Cond.code yJx4a65c_size_8abf5 cJx4a65c_size_8abf5 1 (some .int), Cond.fieldLink RJx4a65c 48 "java/util/ArrayList" "size" "I", Cond.methodLink RX8 148 yJx4a65c_get_915e3, Cond.instanceMethod yJx4a65c_get_915e3, Cond.selects RJx4a65c yJx4a65c_get_915e3 yJx4a65c_get_915e3, Cond.code yJx4a65c_get_915e3 cJx4a65c_get_915e3 2 (some (.object "java/lang/Object"))]
def wsL_root_r2 : List Cond := [Cond.methodLink RJx4a65c 118 yJ15_checkIndex_7cf53, Cond.static yJ15_checkIndex_7cf53, Cond.initialized RJ15, Cond.code yJ15_checkIndex_7cf53 cJ15_checkIndex_7cf53 2 (some .int), Cond.methodLink RJ15 105 yJ3_checkIndex_8e157, Cond.static yJ3_checkIndex_8e157, Cond.initialized RJ3, Cond.code yJ3_checkIndex_8e157 cJ3_checkIndex_8e157 3 (some .int), Cond.methodLink RJx4a65c 123 yJx4a65c_elementData_915e3, Cond.instanceMethod yJx4a65c_elementData_915e3, Cond.selects RJx4a65c yJx4a65c_elementData_915e3 yJx4a65c_elementData_915e3, Cond.code yJx4a65c_elementData_915e3 cJx4a65c_elementData_915e3 2 (some (.object "java/lang/Object")), Cond.fieldLink RJx4a65c 9 "java/util/ArrayList" "elementData" "[Ljava/lang/Object;"]
def wsL_root : List Cond := .codeWith yL_root cL_root 5 (some .int) [(0, 9, 12, 13)] :: ((wsL_root_r1 ++ wsL_root_r2) ++ wsX20 ++ wsX80 ++ wsJx4a65c0 ++ (vx_atS RX8 60 "java/lang/IndexOutOfBoundsException" ["java/lang/RuntimeException", "java/lang/Exception"]).filter goodWord)
def wsL_count_r1 : List Cond := [Cond.classLink RL 13 "java/lang/IndexOutOfBoundsException", Cond.classLink RL 34 "java/lang/IllegalArgumentException", Cond.classLink RL 15 "java/lang/IllegalStateException", Cond.methodLink RL 63 yX8_count, Cond.instanceMethod yX8_count, Cond.selects RX8 yX8_count yX8_count, Cond.initialized RX8, Cond.code yX8_count cX8_count 3 (some .int), Cond.methodLink RX8 219 yX8_boundedGasket, Cond.instanceMethod yX8_boundedGasket, Cond.selects RX8 yX8_boundedGasket yX8_boundedGasket, Cond.code yX8_boundedGasket cX8_boundedGasket 4 (some (.object "Koebehall$Gasket")), Cond.classLink RX8 124 "java/lang/IllegalArgumentException", Cond.initialized "java/lang/IllegalArgumentException", Cond.classLink RX8 67 "java/lang/IllegalStateException", Cond.initialized "java/lang/IllegalStateException", Cond.methodLink RX8 209 yX8_gasketOf, Cond.instanceMethod yX8_gasketOf, Cond.selects RX8 yX8_gasketOf yX8_gasketOf, Cond.code yX8_gasketOf cX8_gasketOf 2 (some (.object "Koebehall$Gasket")), Cond.classLink RX8 56 "java/lang/IndexOutOfBoundsException", Cond.initialized "java/lang/IndexOutOfBoundsException", Cond.fieldLink RX8 23 "Koebehall" "gaskets" "Ljava/util/ArrayList;", Cond.classLink RX8 187 "Koebehall$Gasket"]
def wsL_count_r2 : List Cond := [Cond.methodLink RX8 129 yJx4a65c_size_8abf5, Cond.instanceMethod yJx4a65c_size_8abf5, Cond.selects RJx4a65c yJx4a65c_size_8abf5 yJx4a65c_size_8abf5, Cond.initialized RJx4a65c, Cond.code yJx4a65c_size_8abf5 cJx4a65c_size_8abf5 1 (some .int), Cond.fieldLink RJx4a65c 48 "java/util/ArrayList" "size" "I", Cond.methodLink RX8 148 yJx4a65c_get_915e3, Cond.instanceMethod yJx4a65c_get_915e3, Cond.selects RJx4a65c yJx4a65c_get_915e3 yJx4a65c_get_915e3, Cond.code yJx4a65c_get_915e3 cJx4a65c_get_915e3 2 (some (.object "java/lang/Object")), Cond.methodLink RJx4a65c 118 yJ15_checkIndex_7cf53, Cond.static yJ15_checkIndex_7cf53, Cond.initialized RJ15, Cond.code yJ15_checkIndex_7cf53 cJ15_checkIndex_7cf53 2 (some .int), Cond.methodLink RJ15 105 yJ3_checkIndex_8e157, Cond.static yJ3_checkIndex_8e157, Cond.initialized RJ3, Cond.code yJ3_checkIndex_8e157 cJ3_checkIndex_8e157 3 (some .int), Cond.methodLink RJx4a65c 123 yJx4a65c_elementData_915e3, Cond.instanceMethod yJx4a65c_elementData_915e3, Cond.selects RJx4a65c yJx4a65c_elementData_915e3 yJx4a65c_elementData_915e3, Cond.code yJx4a65c_elementData_915e3 cJx4a65c_elementData_915e3 2 (some (.object "java/lang/Object")), Cond.fieldLink RJx4a65c 9 "java/util/ArrayList" "elementData" "[Ljava/lang/Object;", Cond.instanceMethod yX2_circlesByTurns]
def wsL_count_r3 : List Cond := [Cond.initialized RX2, Cond.selects RX2 yX2_circlesByTurns yX2_circlesByTurns, Cond.code yX2_circlesByTurns cX2_circlesByTurns 2 (some .int), Cond.fieldLink RX2 22 "Koebehall$Gasket" "least" "[J", Cond.fieldLink RX2 25 "Koebehall$Gasket" "walked" "[J", Cond.methodLink RX2 46 arraycopyName, Cond.native arraycopyName, Cond.static arraycopyName, Cond.initialized "java/lang/System", Cond.methodLink RX2 52 yX2_circlesOfRoot, Cond.instanceMethod yX2_circlesOfRoot, Cond.selects RX2 yX2_circlesOfRoot yX2_circlesOfRoot, Cond.code yX2_circlesOfRoot cX2_circlesOfRoot 4 (some .int), Cond.methodLink RX2 56 yX2_circlesOfRows, Cond.static yX2_circlesOfRows, Cond.code yX2_circlesOfRows cX2_circlesOfRows 10 (some .int), Cond.methodLink RX2 42 yX2_turnedAt, Cond.static yX2_turnedAt, Cond.code yX2_turnedAt cX2_turnedAt 4 (some .long), Cond.constantLong RX2 35 (2)]
def wsL_count : List Cond := .codeWith yL_count cL_count 5 (some .int) [(0, 10, 13, 13), (0, 10, 17, 34), (0, 10, 21, 15)] :: ((wsL_count_r1 ++ (wsL_count_r2 ++ wsL_count_r3)) ++ wsX20 ++ wsX80 ++ wsJx4a65c0 ++ (vx_atS RX8 128 "java/lang/IllegalArgumentException" ["java/lang/RuntimeException", "java/lang/Exception"]).filter goodWord ++ (vx_atS RX8 71 "java/lang/IllegalStateException" ["java/lang/RuntimeException", "java/lang/Exception"]).filter goodWord ++ (vx_atS RX8 60 "java/lang/IndexOutOfBoundsException" ["java/lang/RuntimeException", "java/lang/Exception"]).filter goodWord)
def wsL_countAnew_r1 : List Cond := [Cond.classLink RL 13 "java/lang/IndexOutOfBoundsException", Cond.classLink RL 34 "java/lang/IllegalArgumentException", Cond.classLink RL 15 "java/lang/IllegalStateException", Cond.methodLink RL 66 yX8_countAnew, Cond.instanceMethod yX8_countAnew, Cond.selects RX8 yX8_countAnew yX8_countAnew, Cond.initialized RX8, Cond.code yX8_countAnew cX8_countAnew 3 (some .int), Cond.methodLink RX8 219 yX8_boundedGasket, Cond.instanceMethod yX8_boundedGasket, Cond.selects RX8 yX8_boundedGasket yX8_boundedGasket, Cond.code yX8_boundedGasket cX8_boundedGasket 4 (some (.object "Koebehall$Gasket")), Cond.classLink RX8 124 "java/lang/IllegalArgumentException", Cond.initialized "java/lang/IllegalArgumentException", Cond.classLink RX8 67 "java/lang/IllegalStateException", Cond.initialized "java/lang/IllegalStateException", Cond.methodLink RX8 209 yX8_gasketOf, Cond.instanceMethod yX8_gasketOf, Cond.selects RX8 yX8_gasketOf yX8_gasketOf, Cond.code yX8_gasketOf cX8_gasketOf 2 (some (.object "Koebehall$Gasket")), Cond.classLink RX8 56 "java/lang/IndexOutOfBoundsException", Cond.initialized "java/lang/IndexOutOfBoundsException", Cond.fieldLink RX8 23 "Koebehall" "gaskets" "Ljava/util/ArrayList;", Cond.classLink RX8 187 "Koebehall$Gasket"]
def wsL_countAnew_r2 : List Cond := [Cond.methodLink RX8 129 yJx4a65c_size_8abf5, Cond.instanceMethod yJx4a65c_size_8abf5, Cond.selects RJx4a65c yJx4a65c_size_8abf5 yJx4a65c_size_8abf5, Cond.initialized RJx4a65c, Cond.code yJx4a65c_size_8abf5 cJx4a65c_size_8abf5 1 (some .int), Cond.fieldLink RJx4a65c 48 "java/util/ArrayList" "size" "I", Cond.methodLink RX8 148 yJx4a65c_get_915e3, Cond.instanceMethod yJx4a65c_get_915e3, Cond.selects RJx4a65c yJx4a65c_get_915e3 yJx4a65c_get_915e3, Cond.code yJx4a65c_get_915e3 cJx4a65c_get_915e3 2 (some (.object "java/lang/Object")), Cond.methodLink RJx4a65c 118 yJ15_checkIndex_7cf53, Cond.static yJ15_checkIndex_7cf53, Cond.initialized RJ15, Cond.code yJ15_checkIndex_7cf53 cJ15_checkIndex_7cf53 2 (some .int), Cond.methodLink RJ15 105 yJ3_checkIndex_8e157, Cond.static yJ3_checkIndex_8e157, Cond.initialized RJ3, Cond.code yJ3_checkIndex_8e157 cJ3_checkIndex_8e157 3 (some .int), Cond.methodLink RJx4a65c 123 yJx4a65c_elementData_915e3, Cond.instanceMethod yJx4a65c_elementData_915e3, Cond.selects RJx4a65c yJx4a65c_elementData_915e3 yJx4a65c_elementData_915e3, Cond.code yJx4a65c_elementData_915e3 cJx4a65c_elementData_915e3 2 (some (.object "java/lang/Object")), Cond.fieldLink RJx4a65c 9 "java/util/ArrayList" "elementData" "[Ljava/lang/Object;", Cond.instanceMethod yX2_circlesByThrees]
def wsL_countAnew_r3 : List Cond := [Cond.initialized RX2, Cond.selects RX2 yX2_circlesByThrees yX2_circlesByThrees, Cond.code yX2_circlesByThrees cX2_circlesByThrees 2 (some .int), Cond.fieldLink RX2 22 "Koebehall$Gasket" "least" "[J", Cond.methodLink RX2 52 yX2_circlesOfRoot, Cond.instanceMethod yX2_circlesOfRoot, Cond.selects RX2 yX2_circlesOfRoot yX2_circlesOfRoot, Cond.code yX2_circlesOfRoot cX2_circlesOfRoot 4 (some .int), Cond.methodLink RX2 60 yX2_circlesAmong, Cond.static yX2_circlesAmong, Cond.code yX2_circlesAmong cX2_circlesAmong 10 (some .int), Cond.constantLong RX2 35 (2), Cond.methodLink RX2 64 yX2_wholeRoot, Cond.static yX2_wholeRoot, Cond.code yX2_wholeRoot cX2_wholeRoot 7 (some .long), Cond.methodLink RX2 68 yJ13_numberOfLeadingZeros_95d88, Cond.static yJ13_numberOfLeadingZeros_95d88, Cond.initialized RJ13, Cond.code yJ13_numberOfLeadingZeros_95d88 cJ13_numberOfLeadingZeros_95d88 3 (some .int), Cond.methodLink RJ13 308 yJ6_numberOfLeadingZeros_0f7a4, Cond.static yJ6_numberOfLeadingZeros_0f7a4, Cond.initialized RJ6, Cond.code yJ6_numberOfLeadingZeros_0f7a4 cJ6_numberOfLeadingZeros_0f7a4 2 (some .int), Cond.constant RJ6 264 (65536)]
def wsL_countAnew : List Cond := .codeWith yL_countAnew cL_countAnew 5 (some .int) [(0, 10, 13, 13), (0, 10, 17, 34), (0, 10, 21, 15)] :: ((wsL_countAnew_r1 ++ (wsL_countAnew_r2 ++ wsL_countAnew_r3)) ++ wsX20 ++ wsX80 ++ wsJx4a65c0 ++ (vx_atS RX8 128 "java/lang/IllegalArgumentException" ["java/lang/RuntimeException", "java/lang/Exception"]).filter goodWord ++ (vx_atS RX8 71 "java/lang/IllegalStateException" ["java/lang/RuntimeException", "java/lang/Exception"]).filter goodWord ++ (vx_atS RX8 60 "java/lang/IndexOutOfBoundsException" ["java/lang/RuntimeException", "java/lang/Exception"]).filter goodWord)
def wsL_remainders_r1 : List Cond := [Cond.classLink RL 13 "java/lang/IndexOutOfBoundsException", Cond.classLink RL 34 "java/lang/IllegalArgumentException", Cond.methodLink RL 69 yX8_remainders, Cond.instanceMethod yX8_remainders, Cond.selects RX8 yX8_remainders yX8_remainders, Cond.initialized RX8, Cond.code yX8_remainders cX8_remainders 4 (some .int), Cond.classLink RX8 124 "java/lang/IllegalArgumentException", Cond.initialized "java/lang/IllegalArgumentException", Cond.fieldLink RX8 29 "Koebehall" "remainderWalk" "LKoebehall$RemainderWalk;", Cond.methodLink RX8 209 yX8_gasketOf, Cond.instanceMethod yX8_gasketOf, Cond.selects RX8 yX8_gasketOf yX8_gasketOf, Cond.code yX8_gasketOf cX8_gasketOf 2 (some (.object "Koebehall$Gasket")), Cond.classLink RX8 56 "java/lang/IndexOutOfBoundsException", Cond.initialized "java/lang/IndexOutOfBoundsException", Cond.fieldLink RX8 23 "Koebehall" "gaskets" "Ljava/util/ArrayList;", Cond.classLink RX8 187 "Koebehall$Gasket", Cond.methodLink RX8 129 yJx4a65c_size_8abf5, Cond.instanceMethod yJx4a65c_size_8abf5, Cond.selects RJx4a65c yJx4a65c_size_8abf5 yJx4a65c_size_8abf5, Cond.initialized RJx4a65c, Cond.code yJx4a65c_size_8abf5 cJx4a65c_size_8abf5 1 (some .int), Cond.fieldLink RJx4a65c 48 "java/util/ArrayList" "size" "I"]
def wsL_remainders_r2 : List Cond := [Cond.methodLink RX8 148 yJx4a65c_get_915e3, Cond.instanceMethod yJx4a65c_get_915e3, Cond.selects RJx4a65c yJx4a65c_get_915e3 yJx4a65c_get_915e3, Cond.code yJx4a65c_get_915e3 cJx4a65c_get_915e3 2 (some (.object "java/lang/Object")), Cond.methodLink RJx4a65c 118 yJ15_checkIndex_7cf53, Cond.static yJ15_checkIndex_7cf53, Cond.initialized RJ15, Cond.code yJ15_checkIndex_7cf53 cJ15_checkIndex_7cf53 2 (some .int), Cond.methodLink RJ15 105 yJ3_checkIndex_8e157, Cond.static yJ3_checkIndex_8e157, Cond.initialized RJ3, Cond.code yJ3_checkIndex_8e157 cJ3_checkIndex_8e157 3 (some .int), Cond.methodLink RJx4a65c 123 yJx4a65c_elementData_915e3, Cond.instanceMethod yJx4a65c_elementData_915e3, Cond.selects RJx4a65c yJx4a65c_elementData_915e3 yJx4a65c_elementData_915e3, Cond.code yJx4a65c_elementData_915e3 cJx4a65c_elementData_915e3 2 (some (.object "java/lang/Object")), Cond.fieldLink RJx4a65c 9 "java/util/ArrayList" "elementData" "[Ljava/lang/Object;", Cond.instanceMethod yX5_allReached, Cond.initialized RX5, Cond.selects RX5 yX5_allReached yX5_allReached, Cond.code yX5_allReached cX5_allReached 7 (some .int), Cond.fieldLink RX5 11 "Koebehall$RemainderWalk" "seen" "[J", Cond.fieldLink RX5 15 "Koebehall$RemainderWalk" "waiting" "[J", Cond.methodLink RX5 18 yJ7_fill_d0a16]
def wsL_remainders_r3 : List Cond := [Cond.static yJ7_fill_d0a16, Cond.initialized RJ7, Cond.code yJ7_fill_d0a16 cJ7_fill_d0a16 5 none, Cond.methodLink RX5 24 yX5_codeOf, Cond.static yX5_codeOf, Cond.code yX5_codeOf cX5_codeOf 4 (some .int), Cond.methodLink RX5 44 yJ9_floorMod_f86c9, Cond.static yJ9_floorMod_f86c9, Cond.initialized RJ9, Cond.code yJ9_floorMod_f86c9 cJ9_floorMod_f86c9 6 (some .long), Cond.methodLink RX5 28 yX5_noteCode, Cond.instanceMethod yX5_noteCode, Cond.selects RX5 yX5_noteCode yX5_noteCode, Cond.code yX5_noteCode cX5_noteCode 4 none, Cond.methodLink RX5 32 yX5_takeWaiting, Cond.instanceMethod yX5_takeWaiting, Cond.selects RX5 yX5_takeWaiting yX5_takeWaiting, Cond.code yX5_takeWaiting cX5_takeWaiting 3 (some .int), Cond.methodLink RX5 52 yJ13_numberOfTrailingZeros_95d88, Cond.static yJ13_numberOfTrailingZeros_95d88, Cond.initialized RJ13, Cond.code yJ13_numberOfTrailingZeros_95d88 cJ13_numberOfTrailingZeros_95d88 3 (some .int), Cond.methodLink RJ13 311 yJ6_numberOfTrailingZeros_0f7a4, Cond.static yJ6_numberOfTrailingZeros_0f7a4]
def wsL_remainders_r4 : List Cond := [Cond.initialized RJ6, Cond.code yJ6_numberOfTrailingZeros_0f7a4 cJ6_numberOfTrailingZeros_0f7a4 2 (some .int), Cond.constant RJ6 264 (65536), Cond.methodLink RX5 36 yX5_remainderAt, Cond.static yX5_remainderAt, Cond.code yX5_remainderAt cX5_remainderAt 2 (some .int), Cond.methodLink RX5 40 yX5_turnedCode, Cond.static yX5_turnedCode, Cond.code yX5_turnedCode cX5_turnedCode 5 (some .int), Cond.methodLink RX5 50 yJ9_floorMod_7cf53, Cond.static yJ9_floorMod_7cf53, Cond.code yJ9_floorMod_7cf53 cJ9_floorMod_7cf53 3 (some .int)]
def wsL_remainders : List Cond := .codeWith yL_remainders cL_remainders 5 (some .int) [(0, 10, 13, 13), (0, 10, 17, 34)] :: ((wsL_remainders_r1 ++ (wsL_remainders_r2 ++ (wsL_remainders_r3 ++ wsL_remainders_r4))) ++ wsX80 ++ wsX20 ++ wsJx4a65c0 ++ wsX50 ++ (vx_atS RX8 128 "java/lang/IllegalArgumentException" ["java/lang/RuntimeException", "java/lang/Exception"]).filter goodWord ++ (vx_atS RX8 60 "java/lang/IndexOutOfBoundsException" ["java/lang/RuntimeException", "java/lang/Exception"]).filter goodWord)
def wsL_ford_r1 : List Cond := [Cond.classLink RL 34 "java/lang/IllegalArgumentException", Cond.methodLink RL 72 yX8_ford, Cond.instanceMethod yX8_ford, Cond.selects RX8 yX8_ford yX8_ford, Cond.initialized RX8, Cond.code yX8_ford cX8_ford 7 (some .int), Cond.constantLong RX8 256 (-1), Cond.methodLink RX8 246 yX8_refuseNoFraction, Cond.static yX8_refuseNoFraction, Cond.code yX8_refuseNoFraction cX8_refuseNoFraction 2 none, Cond.classLink RX8 124 "java/lang/IllegalArgumentException", Cond.initialized "java/lang/IllegalArgumentException", Cond.constantLong RX8 170 (1000000000), Cond.constant RX8 176 (1000000000), Cond.methodLink RX8 172 yX8_isWithin, Cond.static yX8_isWithin, Cond.code yX8_isWithin cX8_isWithin 4 (some .boolean), Cond.static yX1_isLowest, Cond.initialized RX1, Cond.code yX1_isLowest cX1_isLowest 11 (some .boolean), Cond.methodLink RX1 7 Lib.MathLoose.abs_long.x, Cond.static Lib.MathLoose.abs_long.x, Cond.initialized "java/lang/Math", Cond.code Lib.MathLoose.abs_long.x Lib.MathLoose.abs_long.code 2 (some .long)]
def wsL_ford_r2 : List Cond := [Cond.static yX1_crossed, Cond.code yX1_crossed cX1_crossed 8 (some .long)]
def wsL_ford : List Cond := .codeWith yL_ford cL_ford 7 (some .int) [(0, 14, 17, 34)] :: ((wsL_ford_r1 ++ wsL_ford_r2) ++ (vx_atS RX8 128 "java/lang/IllegalArgumentException" ["java/lang/RuntimeException", "java/lang/Exception"]).filter goodWord)
def wsL_between_r1 : List Cond := [Cond.classLink RL 34 "java/lang/IllegalArgumentException", Cond.methodLink RL 75 yX8_between, Cond.instanceMethod yX8_between, Cond.selects RX8 yX8_between yX8_between, Cond.initialized RX8, Cond.code yX8_between cX8_between 8 (some .long), Cond.classLink RX8 124 "java/lang/IllegalArgumentException", Cond.initialized "java/lang/IllegalArgumentException", Cond.methodLink RX8 246 yX8_refuseNoFraction, Cond.static yX8_refuseNoFraction, Cond.code yX8_refuseNoFraction cX8_refuseNoFraction 2 none, Cond.constantLong RX8 170 (1000000000), Cond.constant RX8 176 (1000000000), Cond.methodLink RX8 172 yX8_isWithin, Cond.static yX8_isWithin, Cond.code yX8_isWithin cX8_isWithin 4 (some .boolean), Cond.static yX1_isLowest, Cond.initialized RX1, Cond.code yX1_isLowest cX1_isLowest 11 (some .boolean), Cond.methodLink RX1 7 Lib.MathLoose.abs_long.x, Cond.static Lib.MathLoose.abs_long.x, Cond.initialized "java/lang/Math", Cond.code Lib.MathLoose.abs_long.x Lib.MathLoose.abs_long.code 2 (some .long), Cond.static yX1_crossed]
def wsL_between_r2 : List Cond := [Cond.code yX1_crossed cX1_crossed 8 (some .long), Cond.static yX1_simplest, Cond.code yX1_simplest cX1_simplest 39 (some .long), Cond.methodLink RX1 15 yJ9_floorDiv_f86c9, Cond.static yJ9_floorDiv_f86c9, Cond.initialized RJ9, Cond.code yJ9_floorDiv_f86c9 cJ9_floorDiv_f86c9 6 (some .long)]
def wsL_between : List Cond := .codeWith yL_between cL_between 8 (some .int) [(0, 15, 18, 34)] :: ((wsL_between_r1 ++ wsL_between_r2) ++ (vx_atS RX8 128 "java/lang/IllegalArgumentException" ["java/lang/RuntimeException", "java/lang/Exception"]).filter goodWord)
def wsL_tell_r1 : List Cond := [Cond.classLink RL 34 "java/lang/IllegalArgumentException", Cond.classLink RL 15 "java/lang/IllegalStateException", Cond.methodLink RL 79 yX8_tell, Cond.instanceMethod yX8_tell, Cond.selects RX8 yX8_tell yX8_tell, Cond.initialized RX8, Cond.code yX8_tell cX8_tell 5 (some .int), Cond.classLink RX8 124 "java/lang/IllegalArgumentException", Cond.initialized "java/lang/IllegalArgumentException", Cond.classLink RX8 67 "java/lang/IllegalStateException", Cond.initialized "java/lang/IllegalStateException", Cond.fieldLink RX8 33 "Koebehall" "moves" "Ljava/util/ArrayList;", Cond.classLink RX8 36 RX6, Cond.instantiable RX6 4, Cond.initialized RX6, Cond.methodLink RX8 182 yX8_areFourWithin, Cond.static yX8_areFourWithin, Cond.code yX8_areFourWithin cX8_areFourWithin 5 (some .boolean), Cond.methodLink RX8 172 yX8_isWithin, Cond.static yX8_isWithin, Cond.code yX8_isWithin cX8_isWithin 4 (some .boolean), Cond.methodLink RX8 129 yJx4a65c_size_8abf5, Cond.instanceMethod yJx4a65c_size_8abf5, Cond.selects RJx4a65c yJx4a65c_size_8abf5 yJx4a65c_size_8abf5]
def wsL_tell_r2 : List Cond := [Cond.initialized RJx4a65c, Cond.code yJx4a65c_size_8abf5 cJx4a65c_size_8abf5 1 (some .int), Cond.fieldLink RJx4a65c 48 "java/util/ArrayList" "size" "I", Cond.instanceMethod yX6_init, Cond.code yX6_init cX6_init 9 none, Cond.methodLink RX6 1 objectInit, Cond.instanceMethod objectInit, Cond.code objectInit ⟨#[0xb1]⟩ 1 none, Cond.fieldLink RX6 7 "Koebehall$Table" "a" "J", Cond.fieldLink RX6 13 "Koebehall$Table" "b" "J", Cond.fieldLink RX6 16 "Koebehall$Table" "c" "J", Cond.fieldLink RX6 19 "Koebehall$Table" "d" "J", Cond.methodLink RX8 139 yJx4a65c_add_9ea2d, Cond.instanceMethod yJx4a65c_add_9ea2d, Cond.selects RJx4a65c yJx4a65c_add_9ea2d yJx4a65c_add_9ea2d, Cond.code yJx4a65c_add_9ea2d cJx4a65c_add_9ea2d 2 (some .boolean), Cond.fieldLink RJx4a65c 63 "java/util/ArrayList" "modCount" "I", Cond.sameField "java/util/ArrayList" "java/util/AbstractList" "modCount" "I", Cond.fieldLink RJx4a65c 9 "java/util/ArrayList" "elementData" "[Ljava/lang/Object;", Cond.methodLink RJx4a65c 131 yJx4a65c_add_72be8, Cond.instanceMethod yJx4a65c_add_72be8, Cond.selects RJx4a65c yJx4a65c_add_72be8 yJx4a65c_add_72be8, Cond.code yJx4a65c_add_72be8 cJx4a65c_add_72be8 4 none, Cond.methodLink RJx4a65c 129 yJx4a65c_grow_d5877]
def wsL_tell_r3 : List Cond := [Cond.instanceMethod yJx4a65c_grow_d5877, Cond.selects RJx4a65c yJx4a65c_grow_d5877 yJx4a65c_grow_d5877, Cond.code yJx4a65c_grow_d5877 cJx4a65c_grow_d5877 1 (some (.array (.object "java/lang/Object"))), Cond.methodLink RJx4a65c 69 yJx4a65c_grow_92f84, Cond.instanceMethod yJx4a65c_grow_92f84, Cond.selects RJx4a65c yJx4a65c_grow_92f84 yJx4a65c_grow_92f84, Cond.code yJx4a65c_grow_92f84 cJx4a65c_grow_92f84 4 (some (.array (.object "java/lang/Object"))), Cond.fieldLink RJx4a65c 39 "java/util/ArrayList" "DEFAULTCAPACITY_EMPTY_ELEMENTDATA" "[Ljava/lang/Object;", Cond.methodLink RJx4a65c 79 Lib.Math.max.name, Cond.static Lib.Math.max.name, Cond.initialized "java/lang/Math", Cond.code Lib.Math.max.name Lib.Math.max.code 2 (some .int), Cond.classLink RJx4a65c 7 "java/lang/Object", Cond.methodLink RJx4a65c 73 yJ8_newLength_cabcc, Cond.static yJ8_newLength_cabcc, Cond.initialized RJ8, Cond.code yJ8_newLength_cabcc cJ8_newLength_cabcc 4 (some .int), Cond.methodLink RJ8 194 Lib.Math.max.name, Cond.constant RJ8 200 (2147483639), Cond.methodLink RJ8 201 yJ8_hugeLength_7cf53, Cond.static yJ8_hugeLength_7cf53, Cond.code yJ8_hugeLength_7cf53 cJ8_hugeLength_7cf53 3 (some .int), Cond.methodLink RJx4a65c 66 yJ7_copyOf_1904c, Cond.static yJ7_copyOf_1904c]
def wsL_tell_r4 : List Cond := [Cond.initialized RJ7, Cond.code yJ7_copyOf_1904c cJ7_copyOf_1904c 2 (some (.array (.object "java/lang/Object"))), Cond.methodLink RJ7 86 ⟨"java/lang/Object", "getClass", "()Ljava/lang/Class;"⟩, Cond.selects "[Ljava/lang/Object;" ⟨"java/lang/Object", "getClass", "()Ljava/lang/Class;"⟩ ⟨"java/lang/Object", "getClass", "()Ljava/lang/Class;"⟩, Cond.instanceMethod ⟨"java/lang/Object", "getClass", "()Ljava/lang/Class;"⟩, Cond.native ⟨"java/lang/Object", "getClass", "()Ljava/lang/Class;"⟩, Cond.methodLink RJ7 300 yJ7_copyOf_6403c, Cond.static yJ7_copyOf_6403c, Cond.code yJ7_copyOf_6403c cJ7_copyOf_6403c 4 (some (.array (.object "java/lang/Object"))), Cond.classLink RJ7 110 "[Ljava/lang/Object;", Cond.classLink RJ7 2 "java/lang/Object", Cond.methodLink RJ7 304 Lib.Math.min.name, Cond.static Lib.Math.min.name, Cond.code Lib.Math.min.name Lib.Math.min.code 2 (some .int), Cond.methodLink RJ7 150 arraycopyName, Cond.native arraycopyName, Cond.static arraycopyName, Cond.initialized "java/lang/System"]
def wsL_tell : List Cond := .codeWith yL_tell cL_tell 7 (some .int) [(0, 14, 17, 34), (0, 14, 21, 15)] :: ((wsL_tell_r1 ++ (wsL_tell_r2 ++ (wsL_tell_r3 ++ wsL_tell_r4))) ++ wsX80 ++ wsX60 ++ wsJx4a65c0 ++ (vx_atS RX8 128 "java/lang/IllegalArgumentException" ["java/lang/RuntimeException", "java/lang/Exception"]).filter goodWord ++ (vx_atS RX8 71 "java/lang/IllegalStateException" ["java/lang/RuntimeException", "java/lang/Exception"]).filter goodWord)
def wsL_append_r1 : List Cond := [Cond.classLink RL 13 "java/lang/IndexOutOfBoundsException", Cond.classLink RL 15 "java/lang/IllegalStateException", Cond.methodLink RL 82 yX8_append, Cond.instanceMethod yX8_append, Cond.selects RX8 yX8_append yX8_append, Cond.initialized RX8, Cond.code yX8_append cX8_append 5 (some .int), Cond.classLink RX8 56 "java/lang/IndexOutOfBoundsException", Cond.initialized "java/lang/IndexOutOfBoundsException", Cond.classLink RX8 67 "java/lang/IllegalStateException", Cond.initialized "java/lang/IllegalStateException", Cond.fieldLink RX8 33 "Koebehall" "moves" "Ljava/util/ArrayList;", Cond.classLink RX8 36 "Koebehall$Table", Cond.fieldLink RX8 41 "Koebehall" "product" "LKoebehall$Table;", Cond.constantLong RX8 170 (1000000000), Cond.methodLink RX8 129 yJx4a65c_size_8abf5, Cond.instanceMethod yJx4a65c_size_8abf5, Cond.selects RJx4a65c yJx4a65c_size_8abf5 yJx4a65c_size_8abf5, Cond.initialized RJx4a65c, Cond.code yJx4a65c_size_8abf5 cJx4a65c_size_8abf5 1 (some .int), Cond.fieldLink RJx4a65c 48 "java/util/ArrayList" "size" "I", Cond.methodLink RX8 148 yJx4a65c_get_915e3, Cond.instanceMethod yJx4a65c_get_915e3, Cond.selects RJx4a65c yJx4a65c_get_915e3 yJx4a65c_get_915e3]
def wsL_append_r2 : List Cond := [Cond.code yJx4a65c_get_915e3 cJx4a65c_get_915e3 2 (some (.object "java/lang/Object")), Cond.methodLink RJx4a65c 118 yJ15_checkIndex_7cf53, Cond.static yJ15_checkIndex_7cf53, Cond.initialized RJ15, Cond.code yJ15_checkIndex_7cf53 cJ15_checkIndex_7cf53 2 (some .int), Cond.methodLink RJ15 105 yJ3_checkIndex_8e157, Cond.static yJ3_checkIndex_8e157, Cond.initialized RJ3, Cond.code yJ3_checkIndex_8e157 cJ3_checkIndex_8e157 3 (some .int), Cond.methodLink RJx4a65c 123 yJx4a65c_elementData_915e3, Cond.instanceMethod yJx4a65c_elementData_915e3, Cond.selects RJx4a65c yJx4a65c_elementData_915e3 yJx4a65c_elementData_915e3, Cond.code yJx4a65c_elementData_915e3 cJx4a65c_elementData_915e3 2 (some (.object "java/lang/Object")), Cond.fieldLink RJx4a65c 9 "java/util/ArrayList" "elementData" "[Ljava/lang/Object;", Cond.instanceMethod yX6_undone, Cond.initialized RX6, Cond.selects RX6 yX6_undone yX6_undone, Cond.code yX6_undone cX6_undone 1 (some (.object "Koebehall$Table")), Cond.classLink RX6 8 RX6, Cond.instantiable RX6 4, Cond.fieldLink RX6 19 "Koebehall$Table" "d" "J", Cond.fieldLink RX6 13 "Koebehall$Table" "b" "J", Cond.fieldLink RX6 16 "Koebehall$Table" "c" "J", Cond.fieldLink RX6 7 "Koebehall$Table" "a" "J"]
def wsL_append_r3 : List Cond := [Cond.methodLink RX6 22 yX6_init, Cond.instanceMethod yX6_init, Cond.code yX6_init cX6_init 9 none, Cond.methodLink RX6 1 objectInit, Cond.instanceMethod objectInit, Cond.code objectInit ⟨#[0xb1]⟩ 1 none, Cond.instanceMethod yX6_times, Cond.selects RX6 yX6_times yX6_times, Cond.code yX6_times cX6_times 2 (some (.object "Koebehall$Table")), Cond.instanceMethod yX6_isWhollyWithin, Cond.selects RX6 yX6_isWhollyWithin yX6_isWhollyWithin, Cond.code yX6_isWhollyWithin cX6_isWhollyWithin 3 (some .boolean), Cond.static yX8_isWithin, Cond.code yX8_isWithin cX8_isWithin 4 (some .boolean), Cond.instanceMethod yX6_trace, Cond.selects RX6 yX6_trace yX6_trace, Cond.code yX6_trace cX6_trace 1 (some .long)]
def wsL_append : List Cond := .codeWith yL_append cL_append 5 (some .int) [(0, 10, 13, 13), (0, 10, 17, 15)] :: ((wsL_append_r1 ++ (wsL_append_r2 ++ wsL_append_r3)) ++ wsX80 ++ wsJx4a65c0 ++ wsX60 ++ (vx_atS RX8 60 "java/lang/IndexOutOfBoundsException" ["java/lang/RuntimeException", "java/lang/Exception"]).filter goodWord ++ (vx_atS RX8 71 "java/lang/IllegalStateException" ["java/lang/RuntimeException", "java/lang/Exception"]).filter goodWord)
def wsL_word_r1 : List Cond := [Cond.classLink RL 13 "java/lang/IndexOutOfBoundsException", Cond.methodLink RL 86 yX8_word, Cond.instanceMethod yX8_word, Cond.selects RX8 yX8_word yX8_word, Cond.initialized RX8, Cond.code yX8_word cX8_word 2 (some .int), Cond.classLink RX8 56 "java/lang/IndexOutOfBoundsException", Cond.initialized "java/lang/IndexOutOfBoundsException", Cond.fieldLink RX8 41 "Koebehall" "product" "LKoebehall$Table;", Cond.instanceMethod yX6_kind, Cond.initialized RX6, Cond.selects RX6 yX6_kind yX6_kind, Cond.code yX6_kind cX6_kind 3 (some .int), Cond.fieldLink RX6 13 "Koebehall$Table" "b" "J", Cond.fieldLink RX6 16 "Koebehall$Table" "c" "J", Cond.fieldLink RX6 7 "Koebehall$Table" "a" "J", Cond.fieldLink RX6 19 "Koebehall$Table" "d" "J", Cond.methodLink RX6 35 Lib.MathLoose.abs_long.x, Cond.static Lib.MathLoose.abs_long.x, Cond.initialized "java/lang/Math", Cond.code Lib.MathLoose.abs_long.x Lib.MathLoose.abs_long.code 2 (some .long), Cond.constantLong RX6 41 (2), Cond.methodLink RX6 31 yX6_trace, Cond.instanceMethod yX6_trace]
def wsL_word_r2 : List Cond := [Cond.selects RX6 yX6_trace yX6_trace, Cond.code yX6_trace cX6_trace 1 (some .long)]
def wsL_word : List Cond := .codeWith yL_word cL_word 4 (some .int) [(0, 9, 12, 13)] :: ((wsL_word_r1 ++ wsL_word_r2) ++ wsX80 ++ wsX60 ++ (vx_atS RX8 60 "java/lang/IndexOutOfBoundsException" ["java/lang/RuntimeException", "java/lang/Exception"]).filter goodWord)
def wsL_image : List Cond := .codeWith yL_image cL_image 6 (some .int) [(0, 11, 14, 34)] :: ([.classLink RL 34 "java/lang/IllegalArgumentException", .methodLink RL 89 yX8_image, .instanceMethod yX8_image, .selects RX8 yX8_image yX8_image, .initialized RX8, .code yX8_image cX8_image 11 (some .long), .classLink RX8 124 "java/lang/IllegalArgumentException", .initialized "java/lang/IllegalArgumentException", .constantLong RX8 170 (1000000000), .constant RX8 176 (1000000000), .fieldLink RX8 41 "Koebehall" "product" "LKoebehall$Table;", .methodLink RX8 172 yX8_isWithin, .static yX8_isWithin, .code yX8_isWithin cX8_isWithin 4 (some .boolean), .static yX1_isLowest, .initialized RX1, .code yX1_isLowest cX1_isLowest 11 (some .boolean), .methodLink RX1 7 Lib.MathLoose.abs_long.x, .static Lib.MathLoose.abs_long.x, .initialized "java/lang/Math", .code Lib.MathLoose.abs_long.x Lib.MathLoose.abs_long.code 2 (some .long)] ++ wsX80 ++ wsX60 ++ (vx_atS RX8 128 "java/lang/IllegalArgumentException" ["java/lang/RuntimeException", "java/lang/Exception"]).filter goodWord)
def wsL_nodes : List Cond := .codeWith yL_nodes cL_nodes 4 (some .int) [(0, 9, 12, 34)] :: ([.classLink RL 34 "java/lang/IllegalArgumentException", .methodLink RL 93 yX8_nodes, .instanceMethod yX8_nodes, .selects RX8 yX8_nodes yX8_nodes, .initialized RX8, .code yX8_nodes cX8_nodes 2 (some .int), .classLink RX8 124 "java/lang/IllegalArgumentException", .initialized "java/lang/IllegalArgumentException", .fieldLink RX8 48 "Koebehall" "network" "LKoebehall$Network;", .instanceMethod yX4_beginAnew, .initialized RX4, .selects RX4 yX4_beginAnew yX4_beginAnew, .code yX4_beginAnew cX4_beginAnew 3 (some .int), .fieldLink RX4 23 "Koebehall$Network" "nodeCount" "I", .fieldLink RX4 12 "Koebehall$Network" "wires" "Ljava/util/ArrayList;", .methodLink RX4 27 yJx4a65c_clear_da8c8, .instanceMethod yJx4a65c_clear_da8c8, .selects RJx4a65c yJx4a65c_clear_da8c8 yJx4a65c_clear_da8c8, .initialized RJx4a65c, .code yJx4a65c_clear_da8c8 cJx4a65c_clear_da8c8 4 none, .fieldLink RJx4a65c 63 "java/util/ArrayList" "modCount" "I", .sameField "java/util/ArrayList" "java/util/AbstractList" "modCount" "I", .fieldLink RJx4a65c 9 "java/util/ArrayList" "elementData" "[Ljava/lang/Object;", .fieldLink RJx4a65c 48 "java/util/ArrayList" "size" "I"] ++ wsX80 ++ wsX40 ++ wsJx4a65c0 ++ (vx_atS RX8 128 "java/lang/IllegalArgumentException" ["java/lang/RuntimeException", "java/lang/Exception"]).filter goodWord)
def wsL_wire_r1 : List Cond := [Cond.classLink RL 13 "java/lang/IndexOutOfBoundsException", Cond.classLink RL 34 "java/lang/IllegalArgumentException", Cond.classLink RL 15 "java/lang/IllegalStateException", Cond.methodLink RL 96 yX8_wire, Cond.instanceMethod yX8_wire, Cond.selects RX8 yX8_wire yX8_wire, Cond.initialized RX8, Cond.code yX8_wire cX8_wire 3 (some .int), Cond.classLink RX8 56 "java/lang/IndexOutOfBoundsException", Cond.initialized "java/lang/IndexOutOfBoundsException", Cond.classLink RX8 124 "java/lang/IllegalArgumentException", Cond.initialized "java/lang/IllegalArgumentException", Cond.classLink RX8 67 "java/lang/IllegalStateException", Cond.initialized "java/lang/IllegalStateException", Cond.fieldLink RX8 48 "Koebehall" "network" "LKoebehall$Network;", Cond.classLink RX8 323 RX7, Cond.instantiable RX7 2, Cond.initialized RX7, Cond.instanceMethod yX4_hasNode, Cond.initialized RX4, Cond.selects RX4 yX4_hasNode yX4_hasNode, Cond.code yX4_hasNode cX4_hasNode 2 (some .boolean), Cond.fieldLink RX4 23 "Koebehall$Network" "nodeCount" "I", Cond.methodLink RX8 129 yJx4a65c_size_8abf5]
def wsL_wire_r2 : List Cond := [Cond.instanceMethod yJx4a65c_size_8abf5, Cond.selects RJx4a65c yJx4a65c_size_8abf5 yJx4a65c_size_8abf5, Cond.initialized RJx4a65c, Cond.code yJx4a65c_size_8abf5 cJx4a65c_size_8abf5 1 (some .int), Cond.fieldLink RJx4a65c 48 "java/util/ArrayList" "size" "I", Cond.instanceMethod yX7_init, Cond.code yX7_init cX7_init 3 none, Cond.methodLink RX7 1 objectInit, Cond.instanceMethod objectInit, Cond.code objectInit ⟨#[0xb1]⟩ 1 none, Cond.fieldLink RX7 7 "Koebehall$Wire" "first" "I", Cond.fieldLink RX7 13 "Koebehall$Wire" "second" "I", Cond.methodLink RX8 139 yJx4a65c_add_9ea2d, Cond.instanceMethod yJx4a65c_add_9ea2d, Cond.selects RJx4a65c yJx4a65c_add_9ea2d yJx4a65c_add_9ea2d, Cond.code yJx4a65c_add_9ea2d cJx4a65c_add_9ea2d 2 (some .boolean), Cond.fieldLink RJx4a65c 63 "java/util/ArrayList" "modCount" "I", Cond.sameField "java/util/ArrayList" "java/util/AbstractList" "modCount" "I", Cond.fieldLink RJx4a65c 9 "java/util/ArrayList" "elementData" "[Ljava/lang/Object;", Cond.methodLink RJx4a65c 131 yJx4a65c_add_72be8, Cond.instanceMethod yJx4a65c_add_72be8, Cond.selects RJx4a65c yJx4a65c_add_72be8 yJx4a65c_add_72be8, Cond.code yJx4a65c_add_72be8 cJx4a65c_add_72be8 4 none, Cond.methodLink RJx4a65c 129 yJx4a65c_grow_d5877]
def wsL_wire_r3 : List Cond := [Cond.instanceMethod yJx4a65c_grow_d5877, Cond.selects RJx4a65c yJx4a65c_grow_d5877 yJx4a65c_grow_d5877, Cond.code yJx4a65c_grow_d5877 cJx4a65c_grow_d5877 1 (some (.array (.object "java/lang/Object"))), Cond.methodLink RJx4a65c 69 yJx4a65c_grow_92f84, Cond.instanceMethod yJx4a65c_grow_92f84, Cond.selects RJx4a65c yJx4a65c_grow_92f84 yJx4a65c_grow_92f84, Cond.code yJx4a65c_grow_92f84 cJx4a65c_grow_92f84 4 (some (.array (.object "java/lang/Object"))), Cond.fieldLink RJx4a65c 39 "java/util/ArrayList" "DEFAULTCAPACITY_EMPTY_ELEMENTDATA" "[Ljava/lang/Object;", Cond.methodLink RJx4a65c 79 Lib.Math.max.name, Cond.static Lib.Math.max.name, Cond.initialized "java/lang/Math", Cond.code Lib.Math.max.name Lib.Math.max.code 2 (some .int), Cond.classLink RJx4a65c 7 "java/lang/Object", Cond.methodLink RJx4a65c 73 yJ8_newLength_cabcc, Cond.static yJ8_newLength_cabcc, Cond.initialized RJ8, Cond.code yJ8_newLength_cabcc cJ8_newLength_cabcc 4 (some .int), Cond.methodLink RJ8 194 Lib.Math.max.name, Cond.constant RJ8 200 (2147483639), Cond.methodLink RJ8 201 yJ8_hugeLength_7cf53, Cond.static yJ8_hugeLength_7cf53, Cond.code yJ8_hugeLength_7cf53 cJ8_hugeLength_7cf53 3 (some .int), Cond.methodLink RJx4a65c 66 yJ7_copyOf_1904c, Cond.static yJ7_copyOf_1904c]
def wsL_wire_r4 : List Cond := [Cond.initialized RJ7, Cond.code yJ7_copyOf_1904c cJ7_copyOf_1904c 2 (some (.array (.object "java/lang/Object"))), Cond.methodLink RJ7 86 ⟨"java/lang/Object", "getClass", "()Ljava/lang/Class;"⟩, Cond.selects "[Ljava/lang/Object;" ⟨"java/lang/Object", "getClass", "()Ljava/lang/Class;"⟩ ⟨"java/lang/Object", "getClass", "()Ljava/lang/Class;"⟩, Cond.instanceMethod ⟨"java/lang/Object", "getClass", "()Ljava/lang/Class;"⟩, Cond.native ⟨"java/lang/Object", "getClass", "()Ljava/lang/Class;"⟩, Cond.methodLink RJ7 300 yJ7_copyOf_6403c, Cond.static yJ7_copyOf_6403c, Cond.code yJ7_copyOf_6403c cJ7_copyOf_6403c 4 (some (.array (.object "java/lang/Object"))), Cond.classLink RJ7 110 "[Ljava/lang/Object;", Cond.classLink RJ7 2 "java/lang/Object", Cond.methodLink RJ7 304 Lib.Math.min.name, Cond.static Lib.Math.min.name, Cond.code Lib.Math.min.name Lib.Math.min.code 2 (some .int), Cond.methodLink RJ7 150 arraycopyName, Cond.native arraycopyName, Cond.static arraycopyName, Cond.initialized "java/lang/System"]
def wsL_wire : List Cond := .codeWith yL_wire cL_wire 5 (some .int) [(0, 10, 13, 13), (0, 10, 17, 34), (0, 10, 21, 15)] :: ((wsL_wire_r1 ++ (wsL_wire_r2 ++ (wsL_wire_r3 ++ wsL_wire_r4))) ++ wsX80 ++ wsX40 ++ wsX70 ++ wsJx4a65c0 ++ (vx_atS RX8 60 "java/lang/IndexOutOfBoundsException" ["java/lang/RuntimeException", "java/lang/Exception"]).filter goodWord ++ (vx_atS RX8 128 "java/lang/IllegalArgumentException" ["java/lang/RuntimeException", "java/lang/Exception"]).filter goodWord ++ (vx_atS RX8 71 "java/lang/IllegalStateException" ["java/lang/RuntimeException", "java/lang/Exception"]).filter goodWord)
def wsL_side_r1 : List Cond := [Cond.classLink RL 13 "java/lang/IndexOutOfBoundsException", Cond.classLink RL 34 "java/lang/IllegalArgumentException", Cond.classLink RL 15 "java/lang/IllegalStateException", Cond.methodLink RL 99 yX8_side, Cond.instanceMethod yX8_side, Cond.selects RX8 yX8_side yX8_side, Cond.initialized RX8, Cond.code yX8_side cX8_side 4 (some .int), Cond.classLink RX8 56 "java/lang/IndexOutOfBoundsException", Cond.initialized "java/lang/IndexOutOfBoundsException", Cond.classLink RX8 124 "java/lang/IllegalArgumentException", Cond.initialized "java/lang/IllegalArgumentException", Cond.classLink RX8 67 "java/lang/IllegalStateException", Cond.initialized "java/lang/IllegalStateException", Cond.fieldLink RX8 48 "Koebehall" "network" "LKoebehall$Network;", Cond.instanceMethod yX4_hasNode, Cond.initialized RX4, Cond.selects RX4 yX4_hasNode yX4_hasNode, Cond.code yX4_hasNode cX4_hasNode 2 (some .boolean), Cond.fieldLink RX4 23 "Koebehall$Network" "nodeCount" "I", Cond.instanceMethod yX4_hasWire, Cond.selects RX4 yX4_hasWire yX4_hasWire, Cond.code yX4_hasWire cX4_hasWire 2 (some .boolean), Cond.fieldLink RX4 12 "Koebehall$Network" "wires" "Ljava/util/ArrayList;"]
def wsL_side_r2 : List Cond := [Cond.methodLink RX4 30 yJx4a65c_size_8abf5, Cond.instanceMethod yJx4a65c_size_8abf5, Cond.selects RJx4a65c yJx4a65c_size_8abf5 yJx4a65c_size_8abf5, Cond.initialized RJx4a65c, Cond.code yJx4a65c_size_8abf5 cJx4a65c_size_8abf5 1 (some .int), Cond.fieldLink RJx4a65c 48 "java/util/ArrayList" "size" "I", Cond.instanceMethod yX4_treesByTable, Cond.selects RX4 yX4_treesByTable yX4_treesByTable, Cond.code yX4_treesByTable cX4_treesByTable 1 (some .long), Cond.methodLink RX4 34 yX4_fillTable, Cond.instanceMethod yX4_fillTable, Cond.selects RX4 yX4_fillTable yX4_fillTable, Cond.code yX4_fillTable cX4_fillTable 5 none, Cond.fieldLink RX4 20 "Koebehall$Network" "rows" "[[J", Cond.classLink RX4 52 "Koebehall$Wire", Cond.constantLong RX4 68 (-1), Cond.methodLink RX4 42 yJ7_fill_d0a16, Cond.static yJ7_fill_d0a16, Cond.initialized RJ7, Cond.code yJ7_fill_d0a16 cJ7_fill_d0a16 5 none, Cond.methodLink RX4 48 yJx4a65c_get_915e3, Cond.instanceMethod yJx4a65c_get_915e3, Cond.selects RJx4a65c yJx4a65c_get_915e3 yJx4a65c_get_915e3, Cond.code yJx4a65c_get_915e3 cJx4a65c_get_915e3 2 (some (.object "java/lang/Object"))]
def wsL_side_r3 : List Cond := [Cond.methodLink RJx4a65c 118 yJ15_checkIndex_7cf53, Cond.static yJ15_checkIndex_7cf53, Cond.initialized RJ15, Cond.code yJ15_checkIndex_7cf53 cJ15_checkIndex_7cf53 2 (some .int), Cond.methodLink RJ15 105 yJ3_checkIndex_8e157, Cond.static yJ3_checkIndex_8e157, Cond.initialized RJ3, Cond.code yJ3_checkIndex_8e157 cJ3_checkIndex_8e157 3 (some .int), Cond.methodLink RJx4a65c 123 yJx4a65c_elementData_915e3, Cond.instanceMethod yJx4a65c_elementData_915e3, Cond.selects RJx4a65c yJx4a65c_elementData_915e3 yJx4a65c_elementData_915e3, Cond.code yJx4a65c_elementData_915e3 cJx4a65c_elementData_915e3 2 (some (.object "java/lang/Object")), Cond.fieldLink RJx4a65c 9 "java/util/ArrayList" "elementData" "[Ljava/lang/Object;", Cond.methodLink RX4 57 yX4_lineOf, Cond.static yX4_lineOf, Cond.code yX4_lineOf cX4_lineOf 2 (some .int), Cond.methodLink RX4 64 yX4_addToTable, Cond.instanceMethod yX4_addToTable, Cond.selects RX4 yX4_addToTable yX4_addToTable, Cond.code yX4_addToTable cX4_addToTable 5 none, Cond.methodLink RX4 38 yX4_determinant, Cond.instanceMethod yX4_determinant, Cond.selects RX4 yX4_determinant yX4_determinant, Cond.code yX4_determinant cX4_determinant 8 (some .long)]
def wsL_side_r4 : List Cond := [Cond.methodLink RX4 70 yX4_pivotRow, Cond.instanceMethod yX4_pivotRow, Cond.selects RX4 yX4_pivotRow yX4_pivotRow, Cond.code yX4_pivotRow cX4_pivotRow 4 (some .int), Cond.methodLink RX4 73 yX4_swapRows, Cond.instanceMethod yX4_swapRows, Cond.selects RX4 yX4_swapRows yX4_swapRows, Cond.code yX4_swapRows cX4_swapRows 4 none, Cond.methodLink RX4 77 yX4_reduceBelow, Cond.instanceMethod yX4_reduceBelow, Cond.selects RX4 yX4_reduceBelow yX4_reduceBelow, Cond.code yX4_reduceBelow cX4_reduceBelow 9 none, Cond.instanceMethod yX4_heightOf, Cond.selects RX4 yX4_heightOf yX4_heightOf, Cond.code yX4_heightOf cX4_heightOf 6 (some .long), Cond.instanceMethod yX4_fallAlong, Cond.selects RX4 yX4_fallAlong yX4_fallAlong, Cond.code yX4_fallAlong cX4_fallAlong 5 (some .long), Cond.methodLink RX4 90 yX4_hasWire, Cond.methodLink RX4 93 yX4_heightOf]
def wsL_side : List Cond := .codeWith yL_side cL_side 6 (some .int) [(0, 12, 15, 13), (0, 12, 19, 34), (0, 12, 23, 15)] :: ((wsL_side_r1 ++ (wsL_side_r2 ++ (wsL_side_r3 ++ wsL_side_r4))) ++ wsX80 ++ wsX40 ++ wsJx4a65c0 ++ wsX70 ++ (vx_atS RX8 60 "java/lang/IndexOutOfBoundsException" ["java/lang/RuntimeException", "java/lang/Exception"]).filter goodWord ++ (vx_atS RX8 128 "java/lang/IllegalArgumentException" ["java/lang/RuntimeException", "java/lang/Exception"]).filter goodWord ++ (vx_atS RX8 71 "java/lang/IllegalStateException" ["java/lang/RuntimeException", "java/lang/Exception"]).filter goodWord)
def wsL_law0_r1 : List Cond := [Cond.classLink RL 8 RX8, Cond.instantiable RX8 7, Cond.initialized RX8, Cond.classLink RL 103 RX9, Cond.instantiable RX9 28, Cond.initialized RX9, Cond.arrayClass .long, Cond.arrayClass .double, Cond.methodLink RL 102 yX8_init, Cond.instanceMethod yX8_init, Cond.code yX8_init cX8_init 1 none, Cond.methodLink RX8 1 objectInit, Cond.instanceMethod objectInit, Cond.code objectInit ⟨#[0xb1]⟩ 1 none, Cond.classLink RX8 7 RX3, Cond.instantiable RX3 4, Cond.initialized RX3, Cond.fieldLink RX8 10 "Koebehall" "sphere" "LKoebehall$Net;", Cond.classLink RX8 16 RJx4a65c, Cond.instantiable RJx4a65c 3, Cond.initialized RJx4a65c, Cond.fieldLink RX8 19 "Koebehall" "disks" "Ljava/util/ArrayList;", Cond.fieldLink RX8 23 "Koebehall" "gaskets" "Ljava/util/ArrayList;", Cond.classLink RX8 26 RX5]
def wsL_law0_r2 : List Cond := [Cond.instantiable RX5 2, Cond.initialized RX5, Cond.fieldLink RX8 29 "Koebehall" "remainderWalk" "LKoebehall$RemainderWalk;", Cond.fieldLink RX8 33 "Koebehall" "moves" "Ljava/util/ArrayList;", Cond.classLink RX8 36 RX6, Cond.instantiable RX6 4, Cond.initialized RX6, Cond.fieldLink RX8 41 "Koebehall" "product" "LKoebehall$Table;", Cond.classLink RX8 45 RX4, Cond.instantiable RX4 3, Cond.initialized RX4, Cond.fieldLink RX8 48 "Koebehall" "network" "LKoebehall$Network;", Cond.instanceMethod yX3_init, Cond.code yX3_init cX3_init 2 none, Cond.methodLink RX3 5 objectInit, Cond.arrayClass .int, Cond.fieldLink RX3 11 "Koebehall$Net" "named" "[I", Cond.fieldLink RX3 15 "Koebehall$Net" "thirds" "[I", Cond.fieldLink RX3 24 "Koebehall$Net" "cornerCount" "I", Cond.fieldLink RX3 28 "Koebehall$Net" "faceCount" "I", Cond.fieldLink RX3 31 "Koebehall$Net" "FIRST_FACES" "[I", Cond.methodLink RX3 18 yJ7_fill_53178, Cond.static yJ7_fill_53178, Cond.initialized RJ7]
def wsL_law0_r3 : List Cond := [Cond.code yJ7_fill_53178 cJ7_fill_53178 4 none, Cond.methodLink RX3 34 yX3_putFace, Cond.instanceMethod yX3_putFace, Cond.selects RX3 yX3_putFace yX3_putFace, Cond.code yX3_putFace cX3_putFace 5 none, Cond.methodLink RX3 42 yX3_putCorners, Cond.instanceMethod yX3_putCorners, Cond.selects RX3 yX3_putCorners yX3_putCorners, Cond.code yX3_putCorners cX3_putCorners 5 none, Cond.methodLink RX3 45 yX3_putThird, Cond.instanceMethod yX3_putThird, Cond.selects RX3 yX3_putThird yX3_putThird, Cond.code yX3_putThird cX3_putThird 4 none, Cond.methodLink RX8 18 yJx4a65c_init_da8c8, Cond.instanceMethod yJx4a65c_init_da8c8, Cond.code yJx4a65c_init_da8c8 cJx4a65c_init_da8c8 1 none, Cond.fieldLink RJx4a65c 39 "java/util/ArrayList" "DEFAULTCAPACITY_EMPTY_ELEMENTDATA" "[Ljava/lang/Object;", Cond.fieldLink RJx4a65c 9 "java/util/ArrayList" "elementData" "[Ljava/lang/Object;", Cond.methodLink RJx4a65c 1 yJxc12de_init_da8c8, Cond.instanceMethod yJxc12de_init_da8c8, Cond.initialized RJxc12de, Cond.code yJxc12de_init_da8c8 cJxc12de_init_da8c8 1 none, Cond.fieldLink RJxc12de 7 "java/util/AbstractList" "modCount" "I", Cond.methodLink RJxc12de 1 yJxa1e45_init_da8c8]
def wsL_law0_r4 : List Cond := [Cond.instanceMethod yJxa1e45_init_da8c8, Cond.initialized RJxa1e45, Cond.code yJxa1e45_init_da8c8 cJxa1e45_init_da8c8 1 none, Cond.methodLink RJxa1e45 1 objectInit, Cond.instanceMethod yX5_init, Cond.code yX5_init cX5_init 1 none, Cond.methodLink RX5 3 objectInit, Cond.fieldLink RX5 11 "Koebehall$RemainderWalk" "seen" "[J", Cond.fieldLink RX5 15 "Koebehall$RemainderWalk" "waiting" "[J", Cond.instanceMethod yX6_init, Cond.code yX6_init cX6_init 9 none, Cond.methodLink RX6 1 objectInit, Cond.fieldLink RX6 7 "Koebehall$Table" "a" "J", Cond.fieldLink RX6 13 "Koebehall$Table" "b" "J", Cond.fieldLink RX6 16 "Koebehall$Table" "c" "J", Cond.fieldLink RX6 19 "Koebehall$Table" "d" "J", Cond.instanceMethod yX4_init, Cond.code yX4_init cX4_init 1 none, Cond.methodLink RX4 3 objectInit, Cond.classLink RX4 9 RJx4a65c, Cond.fieldLink RX4 12 "Koebehall$Network" "wires" "Ljava/util/ArrayList;", Cond.classLink RX4 18 "[[J", Cond.fieldLink RX4 20 "Koebehall$Network" "rows" "[[J", Cond.fieldLink RX4 23 "Koebehall$Network" "nodeCount" "I"]
def wsL_law0_r5 : List Cond := [Cond.methodLink RX4 11 yJx4a65c_init_da8c8, Cond.methodLink RL 105 yX9_init, Cond.instanceMethod yX9_init, Cond.code yX9_init cX9_init 1 none, Cond.methodLink RX9 1 objectInit, Cond.fieldLink RX9 7 "KoebehallModel" "corners" "I", Cond.fieldLink RX9 13 "KoebehallModel" "faces" "I", Cond.fieldLink RX9 16 "KoebehallModel" "face" "[I", Cond.fieldLink RX9 20 "KoebehallModel" "middleX" "[I", Cond.fieldLink RX9 23 "KoebehallModel" "middleY" "[I", Cond.fieldLink RX9 26 "KoebehallModel" "radii" "[I", Cond.fieldLink RX9 29 "KoebehallModel" "curves" "[J", Cond.fieldLink RX9 33 "KoebehallModel" "roots" "[J", Cond.fieldLink RX9 36 "KoebehallModel" "steps" "[J", Cond.fieldLink RX9 39 "KoebehallModel" "nextTurn" "[I", Cond.fieldLink RX9 42 "KoebehallModel" "lastTurn" "[I", Cond.arrayClass .boolean, Cond.fieldLink RX9 45 "KoebehallModel" "seen" "[Z", Cond.fieldLink RX9 49 "KoebehallModel" "queue" "[I", Cond.fieldLink RX9 52 "KoebehallModel" "quotients" "[J", Cond.fieldLink RX9 55 "KoebehallModel" "tables" "[J", Cond.fieldLink RX9 58 "KoebehallModel" "word" "[J", Cond.fieldLink RX9 61 "KoebehallModel" "product" "[J", Cond.fieldLink RX9 64 "KoebehallModel" "nodes" "I"]
def wsL_law0_r6 : List Cond := [Cond.fieldLink RX9 67 "KoebehallModel" "ends" "[I", Cond.fieldLink RX9 70 "KoebehallModel" "others" "[I", Cond.fieldLink RX9 73 "KoebehallModel" "part" "[I", Cond.methodLink RX9 76 yX9_puts, Cond.instanceMethod yX9_puts, Cond.selects RX9 yX9_puts yX9_puts, Cond.code yX9_puts cX9_puts 7 none, Cond.methodLink RL 106 yL_split, Cond.static yL_split, Cond.initialized RL, Cond.codeWith yL_split cL_split 4 (some .int) [(0, 9, 12, 13), (0, 9, 15, 15)], Cond.classLink RL 13 "java/lang/IndexOutOfBoundsException", Cond.classLink RL 15 "java/lang/IllegalStateException", Cond.methodLink RL 7 yX8_split, Cond.instanceMethod yX8_split, Cond.selects RX8 yX8_split yX8_split, Cond.code yX8_split cX8_split 2 (some .int), Cond.classLink RX8 56 "java/lang/IndexOutOfBoundsException", Cond.initialized "java/lang/IndexOutOfBoundsException", Cond.classLink RX8 67 "java/lang/IllegalStateException", Cond.initialized "java/lang/IllegalStateException", Cond.instanceMethod yX3_hasFace, Cond.selects RX3 yX3_hasFace yX3_hasFace, Cond.code yX3_hasFace cX3_hasFace 2 (some .boolean)]
def wsL_law0_r7 : List Cond := [Cond.instanceMethod yX3_isFull, Cond.selects RX3 yX3_isFull yX3_isFull, Cond.code yX3_isFull cX3_isFull 1 (some .boolean), Cond.instanceMethod yX3_splitFace, Cond.selects RX3 yX3_splitFace yX3_splitFace, Cond.code yX3_splitFace cX3_splitFace 6 (some .int), Cond.methodLink RX3 38 yX3_cornerOf, Cond.instanceMethod yX3_cornerOf, Cond.selects RX3 yX3_cornerOf yX3_cornerOf, Cond.code yX3_cornerOf cX3_cornerOf 3 (some .int), Cond.methodLink RL 111 yX9_split, Cond.instanceMethod yX9_split, Cond.selects RX9 yX9_split yX9_split, Cond.code yX9_split cX9_split 5 (some .int), Cond.fieldLink RX9 80 "KoebehallModel" "thrown" "I", Cond.methodLink RX9 91 yX9_isFace, Cond.instanceMethod yX9_isFace, Cond.selects RX9 yX9_isFace yX9_isFace, Cond.code yX9_isFace cX9_isFace 2 (some .boolean), Cond.methodLink RX9 83 yX9_isIn, Cond.static yX9_isIn, Cond.code yX9_isIn cX9_isIn 6 (some .boolean), Cond.methodLink RL 112 yX9_thrown, Cond.instanceMethod yX9_thrown]
def wsL_law0_r8 : List Cond := [Cond.selects RX9 yX9_thrown yX9_thrown, Cond.code yX9_thrown cX9_thrown 1 (some .int), Cond.methodLink RL 116 yL_flip, Cond.static yL_flip, Cond.codeWith yL_flip cL_flip 5 (some .int) [(0, 10, 13, 13), (0, 10, 17, 15)], Cond.methodLink RL 17 yX8_flip, Cond.instanceMethod yX8_flip, Cond.selects RX8 yX8_flip yX8_flip, Cond.code yX8_flip cX8_flip 3 (some .int), Cond.instanceMethod yX3_hasCorner, Cond.selects RX3 yX3_hasCorner yX3_hasCorner, Cond.code yX3_hasCorner cX3_hasCorner 2 (some .boolean), Cond.instanceMethod yX3_canFlip, Cond.selects RX3 yX3_canFlip yX3_canFlip, Cond.code yX3_canFlip cX3_canFlip 3 (some .boolean), Cond.methodLink RX3 56 yX3_areNeighbours, Cond.instanceMethod yX3_areNeighbours, Cond.selects RX3 yX3_areNeighbours yX3_areNeighbours, Cond.code yX3_areNeighbours cX3_areNeighbours 3 (some .boolean), Cond.methodLink RX3 53 yX3_thirdOf, Cond.instanceMethod yX3_thirdOf, Cond.selects RX3 yX3_thirdOf yX3_thirdOf, Cond.code yX3_thirdOf cX3_thirdOf 3 (some .int), Cond.methodLink RX3 49 yX3_hasCorner]
def wsL_law0_r9 : List Cond := [Cond.instanceMethod yX3_flipEdge, Cond.selects RX3 yX3_flipEdge yX3_flipEdge, Cond.code yX3_flipEdge cX3_flipEdge 7 (some .int), Cond.methodLink RX3 63 Lib.Math.min.name, Cond.static Lib.Math.min.name, Cond.initialized "java/lang/Math", Cond.code Lib.Math.min.name Lib.Math.min.code 2 (some .int), Cond.methodLink RX3 68 Lib.Math.max.name, Cond.static Lib.Math.max.name, Cond.code Lib.Math.max.name Lib.Math.max.code 2 (some .int), Cond.methodLink RX3 60 yX3_faceWith, Cond.instanceMethod yX3_faceWith, Cond.selects RX3 yX3_faceWith yX3_faceWith, Cond.code yX3_faceWith cX3_faceWith 5 (some .int), Cond.methodLink RL 119 yX9_flip, Cond.instanceMethod yX9_flip, Cond.selects RX9 yX9_flip yX9_flip, Cond.code yX9_flip cX9_flip 7 (some .int), Cond.methodLink RX9 103 yX9_isCorner, Cond.instanceMethod yX9_isCorner, Cond.selects RX9 yX9_isCorner yX9_isCorner, Cond.code yX9_isCorner cX9_isCorner 2 (some .boolean), Cond.methodLink RX9 106 yX9_canFlip, Cond.instanceMethod yX9_canFlip]
def wsL_law0_r10 : List Cond := [Cond.selects RX9 yX9_canFlip yX9_canFlip, Cond.code yX9_canFlip cX9_canFlip 3 (some .boolean), Cond.methodLink RX9 95 yX9_areNeighbours, Cond.instanceMethod yX9_areNeighbours, Cond.selects RX9 yX9_areNeighbours yX9_areNeighbours, Cond.code yX9_areNeighbours cX9_areNeighbours 3 (some .boolean), Cond.methodLink RX9 87 yX9_faceOf, Cond.instanceMethod yX9_faceOf, Cond.selects RX9 yX9_faceOf yX9_faceOf, Cond.code yX9_faceOf cX9_faceOf 6 (some .int), Cond.methodLink RX9 99 yX9_third, Cond.instanceMethod yX9_third, Cond.selects RX9 yX9_third yX9_third, Cond.code yX9_third cX9_third 6 (some .int), Cond.methodLink RL 120 yL_corner, Cond.static yL_corner, Cond.codeWith yL_corner cL_corner 5 (some .int) [(0, 10, 13, 13)], Cond.methodLink RL 21 yX8_corner, Cond.instanceMethod yX8_corner, Cond.selects RX8 yX8_corner yX8_corner, Cond.code yX8_corner cX8_corner 3 (some .int), Cond.methodLink RL 122 yX9_corner, Cond.instanceMethod yX9_corner, Cond.selects RX9 yX9_corner yX9_corner]
def wsL_law0_r11 : List Cond := [Cond.code yX9_corner cX9_corner 3 (some .int), Cond.constantLong RX9 109 (2), Cond.methodLink RL 123 yL_around, Cond.static yL_around, Cond.codeWith yL_around cL_around 5 (some .int) [(0, 10, 13, 13)], Cond.methodLink RL 24 yX8_around, Cond.instanceMethod yX8_around, Cond.selects RX8 yX8_around yX8_around, Cond.code yX8_around cX8_around 3 (some .int), Cond.instanceMethod yX3_neighbourAt, Cond.selects RX3 yX3_neighbourAt yX3_neighbourAt, Cond.code yX3_neighbourAt cX3_neighbourAt 6 (some .int), Cond.methodLink RX3 71 yX3_lowestNeighbour, Cond.instanceMethod yX3_lowestNeighbour, Cond.selects RX3 yX3_lowestNeighbour yX3_lowestNeighbour, Cond.code yX3_lowestNeighbour cX3_lowestNeighbour 3 (some .int), Cond.methodLink RL 125 yX9_around, Cond.instanceMethod yX9_around, Cond.selects RX9 yX9_around yX9_around, Cond.code yX9_around cX9_around 5 (some .int), Cond.methodLink RX9 111 yX9_degree, Cond.instanceMethod yX9_degree, Cond.selects RX9 yX9_degree yX9_degree, Cond.code yX9_degree cX9_degree 4 (some .int)]
def wsL_law0_r12 : List Cond := [Cond.methodLink RL 126 yL_net, Cond.static yL_net, Cond.codeWith yL_net cL_net 4 (some .int) [(0, 9, 12, 13)], Cond.methodLink RL 27 yX8_net, Cond.instanceMethod yX8_net, Cond.selects RX8 yX8_net yX8_net, Cond.code yX8_net cX8_net 2 (some .int), Cond.instanceMethod yX3_edgeCount, Cond.selects RX3 yX3_edgeCount yX3_edgeCount, Cond.code yX3_edgeCount cX3_edgeCount 1 (some .int), Cond.instanceMethod yX3_flippableCount, Cond.selects RX3 yX3_flippableCount yX3_flippableCount, Cond.code yX3_flippableCount cX3_flippableCount 4 (some .int), Cond.methodLink RX3 75 yX3_canFlip, Cond.instanceMethod yX3_mostNeighbours, Cond.selects RX3 yX3_mostNeighbours yX3_mostNeighbours, Cond.code yX3_mostNeighbours cX3_mostNeighbours 3 (some .int), Cond.methodLink RX3 78 yX3_facesAt, Cond.instanceMethod yX3_facesAt, Cond.selects RX3 yX3_facesAt yX3_facesAt, Cond.code yX3_facesAt cX3_facesAt 4 (some .int), Cond.methodLink RL 128 yX9_net, Cond.instanceMethod yX9_net, Cond.selects RX9 yX9_net yX9_net]
def wsL_law0_r13 : List Cond := [Cond.code yX9_net cX9_net 6 (some .int), Cond.constantLong RX9 115 (4), Cond.methodLink RL 129 yL_disk, Cond.static yL_disk, Cond.codeWith yL_disk cL_disk 6 (some .int) [(0, 12, 15, 34), (0, 12, 19, 15)], Cond.classLink RL 34 "java/lang/IllegalArgumentException", Cond.methodLink RL 30 yX8_disk, Cond.instanceMethod yX8_disk, Cond.selects RX8 yX8_disk yX8_disk, Cond.code yX8_disk cX8_disk 4 (some .int), Cond.classLink RX8 124 "java/lang/IllegalArgumentException", Cond.initialized "java/lang/IllegalArgumentException", Cond.classLink RX8 134 RX0, Cond.instantiable RX0 3, Cond.initialized RX0, Cond.methodLink RX8 120 yX8_isDisk, Cond.static yX8_isDisk, Cond.code yX8_isDisk cX8_isDisk 3 (some .boolean), Cond.constantLong RX8 170 (1000000000), Cond.constant RX8 176 (1000000000), Cond.methodLink RX8 172 yX8_isWithin, Cond.static yX8_isWithin, Cond.code yX8_isWithin cX8_isWithin 4 (some .boolean), Cond.methodLink RX8 129 yJx4a65c_size_8abf5]
def wsL_law0_r14 : List Cond := [Cond.instanceMethod yJx4a65c_size_8abf5, Cond.selects RJx4a65c yJx4a65c_size_8abf5 yJx4a65c_size_8abf5, Cond.code yJx4a65c_size_8abf5 cJx4a65c_size_8abf5 1 (some .int), Cond.fieldLink RJx4a65c 48 "java/util/ArrayList" "size" "I", Cond.instanceMethod yX0_init, Cond.code yX0_init cX0_init 7 none, Cond.methodLink RX0 3 objectInit, Cond.fieldLink RX0 9 "Koebehall$Disk" "x" "J", Cond.fieldLink RX0 15 "Koebehall$Disk" "y" "J", Cond.fieldLink RX0 18 "Koebehall$Disk" "radius" "J", Cond.methodLink RX8 139 yJx4a65c_add_9ea2d, Cond.instanceMethod yJx4a65c_add_9ea2d, Cond.selects RJx4a65c yJx4a65c_add_9ea2d yJx4a65c_add_9ea2d, Cond.code yJx4a65c_add_9ea2d cJx4a65c_add_9ea2d 2 (some .boolean), Cond.fieldLink RJx4a65c 63 "java/util/ArrayList" "modCount" "I", Cond.sameField "java/util/ArrayList" "java/util/AbstractList" "modCount" "I", Cond.methodLink RJx4a65c 131 yJx4a65c_add_72be8, Cond.instanceMethod yJx4a65c_add_72be8, Cond.selects RJx4a65c yJx4a65c_add_72be8 yJx4a65c_add_72be8, Cond.code yJx4a65c_add_72be8 cJx4a65c_add_72be8 4 none, Cond.methodLink RJx4a65c 129 yJx4a65c_grow_d5877, Cond.instanceMethod yJx4a65c_grow_d5877, Cond.selects RJx4a65c yJx4a65c_grow_d5877 yJx4a65c_grow_d5877, Cond.code yJx4a65c_grow_d5877 cJx4a65c_grow_d5877 1 (some (.array (.object "java/lang/Object")))]
def wsL_law0_r15 : List Cond := [Cond.methodLink RJx4a65c 69 yJx4a65c_grow_92f84, Cond.instanceMethod yJx4a65c_grow_92f84, Cond.selects RJx4a65c yJx4a65c_grow_92f84 yJx4a65c_grow_92f84, Cond.code yJx4a65c_grow_92f84 cJx4a65c_grow_92f84 4 (some (.array (.object "java/lang/Object"))), Cond.methodLink RJx4a65c 79 Lib.Math.max.name, Cond.classLink RJx4a65c 7 "java/lang/Object", Cond.methodLink RJx4a65c 73 yJ8_newLength_cabcc, Cond.static yJ8_newLength_cabcc, Cond.initialized RJ8, Cond.code yJ8_newLength_cabcc cJ8_newLength_cabcc 4 (some .int), Cond.methodLink RJ8 194 Lib.Math.max.name, Cond.constant RJ8 200 (2147483639), Cond.methodLink RJ8 201 yJ8_hugeLength_7cf53, Cond.static yJ8_hugeLength_7cf53, Cond.code yJ8_hugeLength_7cf53 cJ8_hugeLength_7cf53 3 (some .int), Cond.methodLink RJx4a65c 66 yJ7_copyOf_1904c, Cond.static yJ7_copyOf_1904c, Cond.code yJ7_copyOf_1904c cJ7_copyOf_1904c 2 (some (.array (.object "java/lang/Object"))), Cond.methodLink RJ7 86 ⟨"java/lang/Object", "getClass", "()Ljava/lang/Class;"⟩, Cond.selects "[Ljava/lang/Object;" ⟨"java/lang/Object", "getClass", "()Ljava/lang/Class;"⟩ ⟨"java/lang/Object", "getClass", "()Ljava/lang/Class;"⟩, Cond.instanceMethod ⟨"java/lang/Object", "getClass", "()Ljava/lang/Class;"⟩, Cond.native ⟨"java/lang/Object", "getClass", "()Ljava/lang/Class;"⟩, Cond.methodLink RJ7 300 yJ7_copyOf_6403c, Cond.static yJ7_copyOf_6403c]
def wsL_law0_r16 : List Cond := [Cond.code yJ7_copyOf_6403c cJ7_copyOf_6403c 4 (some (.array (.object "java/lang/Object"))), Cond.classLink RJ7 110 "[Ljava/lang/Object;", Cond.classLink RJ7 2 "java/lang/Object", Cond.methodLink RJ7 304 Lib.Math.min.name, Cond.methodLink RJ7 150 arraycopyName, Cond.native arraycopyName, Cond.static arraycopyName, Cond.initialized "java/lang/System", Cond.methodLink RL 132 yX9_disk, Cond.instanceMethod yX9_disk, Cond.selects RX9 yX9_disk yX9_disk, Cond.code yX9_disk cX9_disk 4 (some .int), Cond.fieldLink RX9 125 "KoebehallModel" "disks" "I", Cond.methodLink RX9 121 yX9_isDisk, Cond.static yX9_isDisk, Cond.code yX9_isDisk cX9_isDisk 3 (some .boolean), Cond.constantLong RX9 117 (-1000000000), Cond.constantLong RX9 119 (1000000000), Cond.methodLink RL 133 yL_move, Cond.static yL_move, Cond.codeWith yL_move cL_move 7 (some .int) [(0, 14, 17, 13), (0, 14, 21, 34)], Cond.methodLink RL 36 yX8_move, Cond.instanceMethod yX8_move, Cond.selects RX8 yX8_move yX8_move]
def wsL_law0_r17 : List Cond := [Cond.code yX8_move cX8_move 6 (some .int), Cond.classLink RX8 134 "Koebehall$Disk", Cond.methodLink RX8 143 yX8_hasDisk, Cond.instanceMethod yX8_hasDisk, Cond.selects RX8 yX8_hasDisk yX8_hasDisk, Cond.code yX8_hasDisk cX8_hasDisk 2 (some .boolean), Cond.methodLink RX8 148 yJx4a65c_get_915e3, Cond.instanceMethod yJx4a65c_get_915e3, Cond.selects RJx4a65c yJx4a65c_get_915e3 yJx4a65c_get_915e3, Cond.code yJx4a65c_get_915e3 cJx4a65c_get_915e3 2 (some (.object "java/lang/Object")), Cond.methodLink RJx4a65c 118 yJ15_checkIndex_7cf53, Cond.static yJ15_checkIndex_7cf53, Cond.initialized RJ15, Cond.code yJ15_checkIndex_7cf53 cJ15_checkIndex_7cf53 2 (some .int), Cond.methodLink RJ15 105 yJ3_checkIndex_8e157, Cond.static yJ3_checkIndex_8e157, Cond.initialized RJ3, Cond.code yJ3_checkIndex_8e157 cJ3_checkIndex_8e157 3 (some .int), Cond.methodLink RJx4a65c 123 yJx4a65c_elementData_915e3, Cond.instanceMethod yJx4a65c_elementData_915e3, Cond.selects RJx4a65c yJx4a65c_elementData_915e3 yJx4a65c_elementData_915e3, Cond.code yJx4a65c_elementData_915e3 cJx4a65c_elementData_915e3 2 (some (.object "java/lang/Object")), Cond.methodLink RX8 152 yJx4a65c_set_bcc79, Cond.instanceMethod yJx4a65c_set_bcc79]
def wsL_law0_r18 : List Cond := [Cond.selects RJx4a65c yJx4a65c_set_bcc79 yJx4a65c_set_bcc79, Cond.code yJx4a65c_set_bcc79 cJx4a65c_set_bcc79 4 (some (.object "java/lang/Object")), Cond.methodLink RL 136 yX9_move, Cond.instanceMethod yX9_move, Cond.selects RX9 yX9_move yX9_move, Cond.code yX9_move cX9_move 6 (some .int), Cond.methodLink RL 137 yL_lie, Cond.static yL_lie, Cond.codeWith yL_lie cL_lie 5 (some .int) [(0, 10, 13, 13), (0, 10, 17, 34)], Cond.methodLink RL 40 yX8_lie, Cond.instanceMethod yX8_lie, Cond.selects RX8 yX8_lie yX8_lie, Cond.code yX8_lie cX8_lie 3 (some .int), Cond.methodLink RX8 162 yX8_howDisksLie, Cond.instanceMethod yX8_howDisksLie, Cond.selects RX8 yX8_howDisksLie yX8_howDisksLie, Cond.code yX8_howDisksLie cX8_howDisksLie 3 (some .int), Cond.instanceMethod yX0_howItLies, Cond.selects RX0 yX0_howItLies yX0_howItLies, Cond.code yX0_howItLies cX0_howItLies 10 (some .int), Cond.methodLink RL 139 yX9_lie, Cond.instanceMethod yX9_lie, Cond.selects RX9 yX9_lie yX9_lie, Cond.code yX9_lie cX9_lie 3 (some .int)]
def wsL_law0_r19 : List Cond := [Cond.methodLink RX9 128 yX9_lies, Cond.instanceMethod yX9_lies, Cond.selects RX9 yX9_lies yX9_lies, Cond.code yX9_lies cX9_lies 11 (some .int), Cond.methodLink RL 140 yL_pairs, Cond.static yL_pairs, Cond.codeWith yL_pairs cL_pairs 4 (some .int) [(0, 9, 12, 34)], Cond.methodLink RL 43 yX8_pairs, Cond.instanceMethod yX8_pairs, Cond.selects RX8 yX8_pairs yX8_pairs, Cond.code yX8_pairs cX8_pairs 5 (some .int), Cond.methodLink RL 142 yX9_pairs, Cond.instanceMethod yX9_pairs, Cond.selects RX9 yX9_pairs yX9_pairs, Cond.code yX9_pairs cX9_pairs 5 (some .int), Cond.methodLink RL 143 yX8_draws, Cond.instanceMethod yX8_draws, Cond.selects RX8 yX8_draws yX8_draws, Cond.code yX8_draws cX8_draws 4 (some .boolean), Cond.methodLink RL 147 yX9_draws, Cond.instanceMethod yX9_draws, Cond.selects RX9 yX9_draws yX9_draws, Cond.code yX9_draws cX9_draws 4 (some .boolean), Cond.methodLink RL 148 yL_gasket]
def wsL_law0_r20 : List Cond := [Cond.static yL_gasket, Cond.codeWith yL_gasket cL_gasket 7 (some .int) [(0, 14, 17, 34), (0, 14, 21, 15)], Cond.methodLink RL 46 yX8_gasket, Cond.instanceMethod yX8_gasket, Cond.selects RX8 yX8_gasket yX8_gasket, Cond.code yX8_gasket cX8_gasket 5 (some .int), Cond.constant RX8 181 (1000000), Cond.classLink RX8 187 RX2, Cond.instantiable RX2 3, Cond.initialized RX2, Cond.methodLink RX8 182 yX8_areFourWithin, Cond.static yX8_areFourWithin, Cond.code yX8_areFourWithin cX8_areFourWithin 5 (some .boolean), Cond.static yX2_areOfGasket, Cond.code yX2_areOfGasket cX2_areOfGasket 10 (some .boolean), Cond.constantLong RX2 35 (2), Cond.instanceMethod yX2_init, Cond.code yX2_init cX2_init 9 none, Cond.methodLink RX2 3 objectInit, Cond.fieldLink RX2 15 "Koebehall$Gasket" "four" "[J", Cond.fieldLink RX2 22 "Koebehall$Gasket" "least" "[J", Cond.fieldLink RX2 25 "Koebehall$Gasket" "walked" "[J", Cond.methodLink RX2 9 yX2_rowOf, Cond.static yX2_rowOf]
def wsL_law0_r21 : List Cond := [Cond.code yX2_rowOf cX2_rowOf 9 (some (.array .long)), Cond.methodLink RX2 19 yX2_rootOf, Cond.static yX2_rootOf, Cond.code yX2_rootOf cX2_rootOf 9 (some (.array .long)), Cond.methodLink RX2 28 yX2_bringToRoot, Cond.static yX2_bringToRoot, Cond.code yX2_bringToRoot cX2_bringToRoot 5 none, Cond.constant RX2 37 (1000000), Cond.methodLink RX2 38 yX2_greatestPlace, Cond.static yX2_greatestPlace, Cond.code yX2_greatestPlace cX2_greatestPlace 3 (some .int), Cond.methodLink RX2 42 yX2_turnedAt, Cond.static yX2_turnedAt, Cond.code yX2_turnedAt cX2_turnedAt 4 (some .long), Cond.methodLink RX2 32 yX2_putInOrder, Cond.static yX2_putInOrder, Cond.code yX2_putInOrder cX2_putInOrder 5 none, Cond.methodLink RL 150 yX9_gasket, Cond.instanceMethod yX9_gasket, Cond.selects RX9 yX9_gasket yX9_gasket, Cond.code yX9_gasket cX9_gasket 10 (some .int), Cond.fieldLink RX9 138 "KoebehallModel" "gaskets" "I", Cond.methodLink RX9 135 yX9_isCurve, Cond.static yX9_isCurve]
def wsL_law0_r22 : List Cond := [Cond.code yX9_isCurve cX9_isCurve 1 (some .boolean), Cond.constantLong RX9 131 (-1000000), Cond.constantLong RX9 133 (1000000), Cond.methodLink RL 151 yL_turn, Cond.static yL_turn, Cond.codeWith yL_turn cL_turn 5 (some .int) [(0, 9, 12, 13), (0, 9, 16, 15)], Cond.methodLink RL 49 yX8_turn, Cond.instanceMethod yX8_turn, Cond.selects RX8 yX8_turn yX8_turn, Cond.code yX8_turn cX8_turn 6 (some .long), Cond.constantLong RX8 205 (1000000000000000), Cond.methodLink RX8 197 yX8_fourOf, Cond.instanceMethod yX8_fourOf, Cond.selects RX8 yX8_fourOf yX8_fourOf, Cond.code yX8_fourOf cX8_fourOf 4 (some (.array .long)), Cond.methodLink RX8 209 yX8_gasketOf, Cond.instanceMethod yX8_gasketOf, Cond.selects RX8 yX8_gasketOf yX8_gasketOf, Cond.code yX8_gasketOf cX8_gasketOf 2 (some (.object "Koebehall$Gasket")), Cond.classLink RX8 187 "Koebehall$Gasket", Cond.methodLink RL 153 yX9_turn, Cond.instanceMethod yX9_turn, Cond.selects RX9 yX9_turn yX9_turn, Cond.code yX9_turn cX9_turn 3 (some .long)]
def wsL_law0_r23 : List Cond := [Cond.constantLong RX9 153 (1000000000000000), Cond.methodLink RX9 146 yX9_isPlace, Cond.instanceMethod yX9_isPlace, Cond.selects RX9 yX9_isPlace yX9_isPlace, Cond.code yX9_isPlace cX9_isPlace 3 (some .boolean), Cond.constantLong RX9 144 (3), Cond.methodLink RX9 141 yX9_isGasket, Cond.instanceMethod yX9_isGasket, Cond.selects RX9 yX9_isGasket yX9_isGasket, Cond.code yX9_isGasket cX9_isGasket 2 (some .boolean), Cond.methodLink RX9 149 yX9_turned, Cond.static yX9_turned, Cond.code yX9_turned cX9_turned 5 (some .long), Cond.methodLink RL 154 yL_curvature, Cond.static yL_curvature, Cond.codeWith yL_curvature cL_curvature 5 (some .int) [(0, 9, 12, 13)], Cond.methodLink RL 53 yX8_curvature, Cond.instanceMethod yX8_curvature, Cond.selects RX8 yX8_curvature yX8_curvature, Cond.code yX8_curvature cX8_curvature 3 (some .long), Cond.methodLink RL 156 yX9_curvature, Cond.instanceMethod yX9_curvature, Cond.selects RX9 yX9_curvature yX9_curvature, Cond.code yX9_curvature cX9_curvature 3 (some .long)]
def wsL_law0_r24 : List Cond := [Cond.methodLink RL 157 yL_radius, Cond.static yL_radius, Cond.codeWith yL_radius cL_radius 5 (some .int) [(0, 10, 13, 13)], Cond.methodLink RL 56 yX8_radius, Cond.instanceMethod yX8_radius, Cond.selects RX8 yX8_radius yX8_radius, Cond.code yX8_radius cX8_radius 3 (some .float), Cond.methodLink RL 160 yX9_radius, Cond.instanceMethod yX9_radius, Cond.selects RX9 yX9_radius yX9_radius, Cond.code yX9_radius cX9_radius 3 (some .float), Cond.methodLink RL 161 yL_root, Cond.static yL_root, Cond.codeWith yL_root cL_root 5 (some .int) [(0, 9, 12, 13)], Cond.methodLink RL 60 yX8_root, Cond.instanceMethod yX8_root, Cond.selects RX8 yX8_root yX8_root, Cond.code yX8_root cX8_root 4 (some .long), Cond.methodLink RL 163 yX9_root, Cond.instanceMethod yX9_root, Cond.selects RX9 yX9_root yX9_root, Cond.code yX9_root cX9_root 3 (some .long), Cond.methodLink RX9 155 yX9_findsRoot, Cond.instanceMethod yX9_findsRoot]
def wsL_law0_r25 : List Cond := [Cond.selects RX9 yX9_findsRoot yX9_findsRoot, Cond.code yX9_findsRoot cX9_findsRoot 7 none, Cond.methodLink RL 164 yL_count, Cond.static yL_count, Cond.codeWith yL_count cL_count 5 (some .int) [(0, 10, 13, 13), (0, 10, 17, 34), (0, 10, 21, 15)], Cond.methodLink RL 63 yX8_count, Cond.instanceMethod yX8_count, Cond.selects RX8 yX8_count yX8_count, Cond.code yX8_count cX8_count 3 (some .int), Cond.methodLink RX8 219 yX8_boundedGasket, Cond.instanceMethod yX8_boundedGasket, Cond.selects RX8 yX8_boundedGasket yX8_boundedGasket, Cond.code yX8_boundedGasket cX8_boundedGasket 4 (some (.object "Koebehall$Gasket")), Cond.instanceMethod yX2_circlesByTurns, Cond.selects RX2 yX2_circlesByTurns yX2_circlesByTurns, Cond.code yX2_circlesByTurns cX2_circlesByTurns 2 (some .int), Cond.methodLink RX2 46 arraycopyName, Cond.methodLink RX2 52 yX2_circlesOfRoot, Cond.instanceMethod yX2_circlesOfRoot, Cond.selects RX2 yX2_circlesOfRoot yX2_circlesOfRoot, Cond.code yX2_circlesOfRoot cX2_circlesOfRoot 4 (some .int), Cond.methodLink RX2 56 yX2_circlesOfRows, Cond.static yX2_circlesOfRows, Cond.code yX2_circlesOfRows cX2_circlesOfRows 10 (some .int)]
def wsL_law0_r26 : List Cond := [Cond.methodLink RL 166 yX9_count, Cond.instanceMethod yX9_count, Cond.selects RX9 yX9_count yX9_count, Cond.code yX9_count cX9_count 3 (some .int), Cond.methodLink RX9 161 yX9_counts, Cond.instanceMethod yX9_counts, Cond.selects RX9 yX9_counts yX9_counts, Cond.code yX9_counts cX9_counts 7 (some .int), Cond.constantLong RX9 159 (1000), Cond.methodLink RL 167 yL_countAnew, Cond.static yL_countAnew, Cond.codeWith yL_countAnew cL_countAnew 5 (some .int) [(0, 10, 13, 13), (0, 10, 17, 34), (0, 10, 21, 15)], Cond.methodLink RL 66 yX8_countAnew, Cond.instanceMethod yX8_countAnew, Cond.selects RX8 yX8_countAnew yX8_countAnew, Cond.code yX8_countAnew cX8_countAnew 3 (some .int), Cond.instanceMethod yX2_circlesByThrees, Cond.selects RX2 yX2_circlesByThrees yX2_circlesByThrees, Cond.code yX2_circlesByThrees cX2_circlesByThrees 2 (some .int), Cond.methodLink RX2 60 yX2_circlesAmong, Cond.static yX2_circlesAmong, Cond.code yX2_circlesAmong cX2_circlesAmong 10 (some .int), Cond.methodLink RX2 64 yX2_wholeRoot, Cond.static yX2_wholeRoot]
def wsL_law0_r27 : List Cond := [Cond.code yX2_wholeRoot cX2_wholeRoot 7 (some .long), Cond.methodLink RX2 68 yJ13_numberOfLeadingZeros_95d88, Cond.static yJ13_numberOfLeadingZeros_95d88, Cond.initialized RJ13, Cond.code yJ13_numberOfLeadingZeros_95d88 cJ13_numberOfLeadingZeros_95d88 3 (some .int), Cond.methodLink RJ13 308 yJ6_numberOfLeadingZeros_0f7a4, Cond.static yJ6_numberOfLeadingZeros_0f7a4, Cond.initialized RJ6, Cond.code yJ6_numberOfLeadingZeros_0f7a4 cJ6_numberOfLeadingZeros_0f7a4 2 (some .int), Cond.constant RJ6 264 (65536), Cond.methodLink RL 169 yX9_countAnew, Cond.instanceMethod yX9_countAnew, Cond.selects RX9 yX9_countAnew yX9_countAnew, Cond.code yX9_countAnew cX9_countAnew 3 (some .int), Cond.methodLink RL 170 yL_remainders, Cond.static yL_remainders, Cond.codeWith yL_remainders cL_remainders 5 (some .int) [(0, 10, 13, 13), (0, 10, 17, 34)], Cond.methodLink RL 69 yX8_remainders, Cond.instanceMethod yX8_remainders, Cond.selects RX8 yX8_remainders yX8_remainders, Cond.code yX8_remainders cX8_remainders 4 (some .int), Cond.instanceMethod yX5_allReached, Cond.selects RX5 yX5_allReached yX5_allReached, Cond.code yX5_allReached cX5_allReached 7 (some .int)]
def wsL_law0_r28 : List Cond := [Cond.methodLink RX5 18 yJ7_fill_d0a16, Cond.static yJ7_fill_d0a16, Cond.code yJ7_fill_d0a16 cJ7_fill_d0a16 5 none, Cond.methodLink RX5 24 yX5_codeOf, Cond.static yX5_codeOf, Cond.code yX5_codeOf cX5_codeOf 4 (some .int), Cond.methodLink RX5 44 yJ9_floorMod_f86c9, Cond.static yJ9_floorMod_f86c9, Cond.initialized RJ9, Cond.code yJ9_floorMod_f86c9 cJ9_floorMod_f86c9 6 (some .long), Cond.methodLink RX5 28 yX5_noteCode, Cond.instanceMethod yX5_noteCode, Cond.selects RX5 yX5_noteCode yX5_noteCode, Cond.code yX5_noteCode cX5_noteCode 4 none, Cond.methodLink RX5 32 yX5_takeWaiting, Cond.instanceMethod yX5_takeWaiting, Cond.selects RX5 yX5_takeWaiting yX5_takeWaiting, Cond.code yX5_takeWaiting cX5_takeWaiting 3 (some .int), Cond.methodLink RX5 52 yJ13_numberOfTrailingZeros_95d88, Cond.static yJ13_numberOfTrailingZeros_95d88, Cond.code yJ13_numberOfTrailingZeros_95d88 cJ13_numberOfTrailingZeros_95d88 3 (some .int), Cond.methodLink RJ13 311 yJ6_numberOfTrailingZeros_0f7a4, Cond.static yJ6_numberOfTrailingZeros_0f7a4, Cond.code yJ6_numberOfTrailingZeros_0f7a4 cJ6_numberOfTrailingZeros_0f7a4 2 (some .int)]
def wsL_law0_r29 : List Cond := [Cond.methodLink RX5 36 yX5_remainderAt, Cond.static yX5_remainderAt, Cond.code yX5_remainderAt cX5_remainderAt 2 (some .int), Cond.methodLink RX5 40 yX5_turnedCode, Cond.static yX5_turnedCode, Cond.code yX5_turnedCode cX5_turnedCode 5 (some .int), Cond.methodLink RX5 50 yJ9_floorMod_7cf53, Cond.static yJ9_floorMod_7cf53, Cond.code yJ9_floorMod_7cf53 cJ9_floorMod_7cf53 3 (some .int), Cond.methodLink RL 172 yX9_remainders, Cond.instanceMethod yX9_remainders, Cond.selects RX9 yX9_remainders yX9_remainders, Cond.code yX9_remainders cX9_remainders 11 (some .int), Cond.constantLong RX9 164 (8), Cond.methodLink RX9 166 yX9_rest, Cond.static yX9_rest, Cond.code yX9_rest cX9_rest 3 (some .int), Cond.methodLink RL 173 yL_ford, Cond.static yL_ford, Cond.codeWith yL_ford cL_ford 7 (some .int) [(0, 14, 17, 34)], Cond.methodLink RL 72 yX8_ford, Cond.instanceMethod yX8_ford, Cond.selects RX8 yX8_ford yX8_ford, Cond.code yX8_ford cX8_ford 7 (some .int)]
def wsL_law0_r30 : List Cond := [Cond.constantLong RX8 256 (-1), Cond.methodLink RX8 246 yX8_refuseNoFraction, Cond.static yX8_refuseNoFraction, Cond.code yX8_refuseNoFraction cX8_refuseNoFraction 2 none, Cond.static yX1_isLowest, Cond.initialized RX1, Cond.code yX1_isLowest cX1_isLowest 11 (some .boolean), Cond.methodLink RX1 7 Lib.MathLoose.abs_long.x, Cond.static Lib.MathLoose.abs_long.x, Cond.code Lib.MathLoose.abs_long.x Lib.MathLoose.abs_long.code 2 (some .long), Cond.static yX1_crossed, Cond.code yX1_crossed cX1_crossed 8 (some .long), Cond.methodLink RL 175 yX9_ford, Cond.instanceMethod yX9_ford, Cond.selects RX9 yX9_ford yX9_ford, Cond.code yX9_ford cX9_ford 7 (some .int), Cond.constantLong RX9 181 (-1), Cond.methodLink RX9 174 yX9_isFraction, Cond.static yX9_isFraction, Cond.code yX9_isFraction cX9_isFraction 3 (some .boolean), Cond.methodLink RX9 170 yX9_divisor, Cond.static yX9_divisor, Cond.code yX9_divisor cX9_divisor 10 (some .long), Cond.methodLink RX9 177 yX9_cross]
def wsL_law0_r31 : List Cond := [Cond.static yX9_cross, Cond.code yX9_cross cX9_cross 4 (some .long), Cond.methodLink RL 176 yL_between, Cond.static yL_between, Cond.codeWith yL_between cL_between 8 (some .int) [(0, 15, 18, 34)], Cond.methodLink RL 75 yX8_between, Cond.instanceMethod yX8_between, Cond.selects RX8 yX8_between yX8_between, Cond.code yX8_between cX8_between 8 (some .long), Cond.static yX1_simplest, Cond.code yX1_simplest cX1_simplest 39 (some .long), Cond.methodLink RX1 15 yJ9_floorDiv_f86c9, Cond.static yJ9_floorDiv_f86c9, Cond.code yJ9_floorDiv_f86c9 cJ9_floorDiv_f86c9 6 (some .long), Cond.methodLink RL 179 yX9_between, Cond.instanceMethod yX9_between, Cond.selects RX9 yX9_between yX9_between, Cond.code yX9_between cX9_between 6 (some .long), Cond.fieldLink RX9 186 "KoebehallModel" "top" "J", Cond.fieldLink RX9 190 "KoebehallModel" "below" "J", Cond.methodLink RX9 193 yX9_findsBetween, Cond.instanceMethod yX9_findsBetween, Cond.selects RX9 yX9_findsBetween yX9_findsBetween, Cond.code yX9_findsBetween cX9_findsBetween 28 none]
def wsL_law0_r32 : List Cond := [Cond.methodLink RX9 183 yX9_floor, Cond.static yX9_floor, Cond.code yX9_floor cX9_floor 4 (some .long), Cond.methodLink RL 180 yL_tell, Cond.static yL_tell, Cond.codeWith yL_tell cL_tell 7 (some .int) [(0, 14, 17, 34), (0, 14, 21, 15)], Cond.methodLink RL 79 yX8_tell, Cond.instanceMethod yX8_tell, Cond.selects RX8 yX8_tell yX8_tell, Cond.code yX8_tell cX8_tell 5 (some .int), Cond.methodLink RL 182 yX9_tell, Cond.instanceMethod yX9_tell, Cond.selects RX9 yX9_tell yX9_tell, Cond.code yX9_tell cX9_tell 6 (some .int), Cond.fieldLink RX9 202 "KoebehallModel" "moves" "I", Cond.methodLink RX9 199 yX9_isTold, Cond.static yX9_isTold, Cond.code yX9_isTold cX9_isTold 1 (some .boolean), Cond.constantLong RX9 197 (-1000), Cond.methodLink RL 183 yL_append, Cond.static yL_append, Cond.codeWith yL_append cL_append 5 (some .int) [(0, 10, 13, 13), (0, 10, 17, 15)], Cond.methodLink RL 82 yX8_append, Cond.instanceMethod yX8_append]
def wsL_law0_r33 : List Cond := [Cond.selects RX8 yX8_append yX8_append, Cond.code yX8_append cX8_append 5 (some .int), Cond.classLink RX8 36 "Koebehall$Table", Cond.instanceMethod yX6_undone, Cond.selects RX6 yX6_undone yX6_undone, Cond.code yX6_undone cX6_undone 1 (some (.object "Koebehall$Table")), Cond.classLink RX6 8 RX6, Cond.methodLink RX6 22 yX6_init, Cond.instanceMethod yX6_times, Cond.selects RX6 yX6_times yX6_times, Cond.code yX6_times cX6_times 2 (some (.object "Koebehall$Table")), Cond.instanceMethod yX6_isWhollyWithin, Cond.selects RX6 yX6_isWhollyWithin yX6_isWhollyWithin, Cond.code yX6_isWhollyWithin cX6_isWhollyWithin 3 (some .boolean), Cond.instanceMethod yX6_trace, Cond.selects RX6 yX6_trace yX6_trace, Cond.code yX6_trace cX6_trace 1 (some .long), Cond.methodLink RL 186 yX9_append, Cond.instanceMethod yX9_append, Cond.selects RX9 yX9_append yX9_append, Cond.code yX9_append cX9_append 14 (some .int), Cond.methodLink RL 187 yX8_home, Cond.instanceMethod yX8_home, Cond.selects RX8 yX8_home yX8_home]
def wsL_law0_r34 : List Cond := [Cond.code yX8_home cX8_home 2 (some .int), Cond.methodLink RL 190 yX9_home, Cond.instanceMethod yX9_home, Cond.selects RX9 yX9_home yX9_home, Cond.code yX9_home cX9_home 3 (some .int), Cond.methodLink RL 191 yL_word, Cond.static yL_word, Cond.codeWith yL_word cL_word 4 (some .int) [(0, 9, 12, 13)], Cond.methodLink RL 86 yX8_word, Cond.instanceMethod yX8_word, Cond.selects RX8 yX8_word yX8_word, Cond.code yX8_word cX8_word 2 (some .int), Cond.instanceMethod yX6_kind, Cond.selects RX6 yX6_kind yX6_kind, Cond.code yX6_kind cX6_kind 3 (some .int), Cond.methodLink RX6 35 Lib.MathLoose.abs_long.x, Cond.constantLong RX6 41 (2), Cond.methodLink RX6 31 yX6_trace, Cond.methodLink RL 193 yX9_word, Cond.instanceMethod yX9_word, Cond.selects RX9 yX9_word yX9_word, Cond.code yX9_word cX9_word 6 (some .int), Cond.constantLong RX9 205 (-2), Cond.methodLink RL 194 yL_image]
def wsL_law0_r35 : List Cond := [Cond.static yL_image, Cond.codeWith yL_image cL_image 6 (some .int) [(0, 11, 14, 34)], Cond.methodLink RL 89 yX8_image, Cond.instanceMethod yX8_image, Cond.selects RX8 yX8_image yX8_image, Cond.code yX8_image cX8_image 11 (some .long), Cond.methodLink RL 197 yX9_image, Cond.instanceMethod yX9_image, Cond.selects RX9 yX9_image yX9_image, Cond.code yX9_image cX9_image 9 (some .long), Cond.methodLink RL 198 yL_nodes, Cond.static yL_nodes, Cond.codeWith yL_nodes cL_nodes 4 (some .int) [(0, 9, 12, 34)], Cond.methodLink RL 93 yX8_nodes, Cond.instanceMethod yX8_nodes, Cond.selects RX8 yX8_nodes yX8_nodes, Cond.code yX8_nodes cX8_nodes 2 (some .int), Cond.instanceMethod yX4_beginAnew, Cond.selects RX4 yX4_beginAnew yX4_beginAnew, Cond.code yX4_beginAnew cX4_beginAnew 3 (some .int), Cond.methodLink RX4 27 yJx4a65c_clear_da8c8, Cond.instanceMethod yJx4a65c_clear_da8c8, Cond.selects RJx4a65c yJx4a65c_clear_da8c8 yJx4a65c_clear_da8c8, Cond.code yJx4a65c_clear_da8c8 cJx4a65c_clear_da8c8 4 none]
def wsL_law0_r36 : List Cond := [Cond.methodLink RL 200 yX9_nodes, Cond.instanceMethod yX9_nodes, Cond.selects RX9 yX9_nodes yX9_nodes, Cond.code yX9_nodes cX9_nodes 3 (some .int), Cond.constantLong RX9 207 (6), Cond.fieldLink RX9 209 "KoebehallModel" "wires" "I", Cond.methodLink RL 201 yL_wire, Cond.static yL_wire, Cond.codeWith yL_wire cL_wire 5 (some .int) [(0, 10, 13, 13), (0, 10, 17, 34), (0, 10, 21, 15)], Cond.methodLink RL 96 yX8_wire, Cond.instanceMethod yX8_wire, Cond.selects RX8 yX8_wire yX8_wire, Cond.code yX8_wire cX8_wire 3 (some .int), Cond.classLink RX8 323 RX7, Cond.instantiable RX7 2, Cond.initialized RX7, Cond.instanceMethod yX4_hasNode, Cond.selects RX4 yX4_hasNode yX4_hasNode, Cond.code yX4_hasNode cX4_hasNode 2 (some .boolean), Cond.instanceMethod yX7_init, Cond.code yX7_init cX7_init 3 none, Cond.methodLink RX7 1 objectInit, Cond.fieldLink RX7 7 "Koebehall$Wire" "first" "I", Cond.fieldLink RX7 13 "Koebehall$Wire" "second" "I"]
def wsL_law0_r37 : List Cond := [Cond.methodLink RL 203 yX9_wire, Cond.instanceMethod yX9_wire, Cond.selects RX9 yX9_wire yX9_wire, Cond.code yX9_wire cX9_wire 3 (some .int), Cond.methodLink RX9 212 yX9_isNode, Cond.instanceMethod yX9_isNode, Cond.selects RX9 yX9_isNode yX9_isNode, Cond.code yX9_isNode cX9_isNode 2 (some .boolean), Cond.methodLink RL 204 yX8_trees, Cond.instanceMethod yX8_trees, Cond.selects RX8 yX8_trees yX8_trees, Cond.code yX8_trees cX8_trees 1 (some .int), Cond.instanceMethod yX4_treesByTable, Cond.selects RX4 yX4_treesByTable yX4_treesByTable, Cond.code yX4_treesByTable cX4_treesByTable 1 (some .long), Cond.methodLink RX4 34 yX4_fillTable, Cond.instanceMethod yX4_fillTable, Cond.selects RX4 yX4_fillTable yX4_fillTable, Cond.code yX4_fillTable cX4_fillTable 5 none, Cond.classLink RX4 52 "Koebehall$Wire", Cond.constantLong RX4 68 (-1), Cond.methodLink RX4 42 yJ7_fill_d0a16, Cond.methodLink RX4 30 yJx4a65c_size_8abf5, Cond.methodLink RX4 48 yJx4a65c_get_915e3]
def wsL_law0_r38 : List Cond := [Cond.methodLink RX4 57 yX4_lineOf, Cond.static yX4_lineOf, Cond.code yX4_lineOf cX4_lineOf 2 (some .int), Cond.methodLink RX4 64 yX4_addToTable, Cond.instanceMethod yX4_addToTable, Cond.selects RX4 yX4_addToTable yX4_addToTable, Cond.code yX4_addToTable cX4_addToTable 5 none, Cond.methodLink RX4 38 yX4_determinant, Cond.instanceMethod yX4_determinant, Cond.selects RX4 yX4_determinant yX4_determinant, Cond.code yX4_determinant cX4_determinant 8 (some .long), Cond.methodLink RX4 70 yX4_pivotRow, Cond.instanceMethod yX4_pivotRow, Cond.selects RX4 yX4_pivotRow yX4_pivotRow, Cond.code yX4_pivotRow cX4_pivotRow 4 (some .int), Cond.methodLink RX4 73 yX4_swapRows, Cond.instanceMethod yX4_swapRows, Cond.selects RX4 yX4_swapRows yX4_swapRows, Cond.code yX4_swapRows cX4_swapRows 4 none, Cond.methodLink RX4 77 yX4_reduceBelow, Cond.instanceMethod yX4_reduceBelow, Cond.selects RX4 yX4_reduceBelow yX4_reduceBelow, Cond.code yX4_reduceBelow cX4_reduceBelow 9 none, Cond.methodLink RL 207 yX9_trees]
def wsL_law0_r39 : List Cond := [Cond.instanceMethod yX9_trees, Cond.selects RX9 yX9_trees yX9_trees, Cond.code yX9_trees cX9_trees 1 (some .int), Cond.methodLink RX9 218 yX9_treesOf, Cond.instanceMethod yX9_treesOf, Cond.selects RX9 yX9_treesOf yX9_treesOf, Cond.code yX9_treesOf cX9_treesOf 3 (some .int), Cond.methodLink RX9 215 yX9_partsBy, Cond.instanceMethod yX9_partsBy, Cond.selects RX9 yX9_partsBy yX9_partsBy, Cond.code yX9_partsBy cX9_partsBy 7 (some .int), Cond.methodLink RL 208 yX8_treesAnew, Cond.instanceMethod yX8_treesAnew, Cond.selects RX8 yX8_treesAnew yX8_treesAnew, Cond.code yX8_treesAnew cX8_treesAnew 1 (some .int), Cond.instanceMethod yX4_treesBySets, Cond.selects RX4 yX4_treesBySets yX4_treesBySets, Cond.code yX4_treesBySets cX4_treesBySets 3 (some .int), Cond.methodLink RX4 80 yJ6_bitCount_0f7a4, Cond.static yJ6_bitCount_0f7a4, Cond.code yJ6_bitCount_0f7a4 cJ6_bitCount_0f7a4 1 (some .int), Cond.constant RJ6 265 (1431655765), Cond.constant RJ6 266 (858993459), Cond.constant RJ6 267 (252645135)]
def wsL_law0_r40 : List Cond := [Cond.methodLink RX4 86 yX4_hangsTogether, Cond.instanceMethod yX4_hangsTogether, Cond.selects RX4 yX4_hangsTogether yX4_hangsTogether, Cond.code yX4_hangsTogether cX4_hangsTogether 6 (some .boolean), Cond.methodLink RL 211 yX9_treesAnew, Cond.instanceMethod yX9_treesAnew, Cond.selects RX9 yX9_treesAnew yX9_treesAnew, Cond.code yX9_treesAnew cX9_treesAnew 1 (some .int), Cond.methodLink RL 212 yL_side, Cond.static yL_side, Cond.codeWith yL_side cL_side 6 (some .int) [(0, 12, 15, 13), (0, 12, 19, 34), (0, 12, 23, 15)], Cond.methodLink RL 99 yX8_side, Cond.instanceMethod yX8_side, Cond.selects RX8 yX8_side yX8_side, Cond.code yX8_side cX8_side 4 (some .int), Cond.instanceMethod yX4_hasWire, Cond.selects RX4 yX4_hasWire yX4_hasWire, Cond.code yX4_hasWire cX4_hasWire 2 (some .boolean), Cond.instanceMethod yX4_heightOf, Cond.selects RX4 yX4_heightOf yX4_heightOf, Cond.code yX4_heightOf cX4_heightOf 6 (some .long), Cond.instanceMethod yX4_fallAlong, Cond.selects RX4 yX4_fallAlong yX4_fallAlong, Cond.code yX4_fallAlong cX4_fallAlong 5 (some .long)]
def wsL_law0_r41 : List Cond := [Cond.methodLink RX4 90 yX4_hasWire, Cond.methodLink RX4 93 yX4_heightOf, Cond.methodLink RL 214 yX9_side, Cond.instanceMethod yX9_side, Cond.selects RX9 yX9_side yX9_side, Cond.code yX9_side cX9_side 5 (some .int), Cond.methodLink RX9 222 yX9_height, Cond.instanceMethod yX9_height, Cond.selects RX9 yX9_height yX9_height, Cond.code yX9_height cX9_height 7 (some .int)]
def wsL_law0 : List Cond := (wsL_law0_r1 ++ (wsL_law0_r2 ++ (wsL_law0_r3 ++ (wsL_law0_r4 ++ (wsL_law0_r5 ++ (wsL_law0_r6 ++ (wsL_law0_r7 ++ (wsL_law0_r8 ++ (wsL_law0_r9 ++ (wsL_law0_r10 ++ (wsL_law0_r11 ++ (wsL_law0_r12 ++ (wsL_law0_r13 ++ (wsL_law0_r14 ++ (wsL_law0_r15 ++ (wsL_law0_r16 ++ (wsL_law0_r17 ++ (wsL_law0_r18 ++ (wsL_law0_r19 ++ (wsL_law0_r20 ++ (wsL_law0_r21 ++ (wsL_law0_r22 ++ (wsL_law0_r23 ++ (wsL_law0_r24 ++ (wsL_law0_r25 ++ (wsL_law0_r26 ++ (wsL_law0_r27 ++ (wsL_law0_r28 ++ (wsL_law0_r29 ++ (wsL_law0_r30 ++ (wsL_law0_r31 ++ (wsL_law0_r32 ++ (wsL_law0_r33 ++ (wsL_law0_r34 ++ (wsL_law0_r35 ++ (wsL_law0_r36 ++ (wsL_law0_r37 ++ (wsL_law0_r38 ++ (wsL_law0_r39 ++ (wsL_law0_r40 ++ wsL_law0_r41)))))))))))))))))))))))))))))))))))))))) ++ wsX80 ++ wsX90 ++ wsX30 ++ wsJx4a65c0 ++ wsX50 ++ wsX60 ++ wsX40 ++ wsX00 ++ wsX20 ++ wsX70 ++ ([] : List Cond)
def wsL_law : List Cond := wsL_law0 ++ (vx_atS RX8 60 "java/lang/IndexOutOfBoundsException" ["java/lang/RuntimeException", "java/lang/Exception"]).filter goodWord ++ (vx_atS RX8 71 "java/lang/IllegalStateException" ["java/lang/RuntimeException", "java/lang/Exception"]).filter goodWord ++ (vx_atS RX8 128 "java/lang/IllegalArgumentException" ["java/lang/RuntimeException", "java/lang/Exception"]).filter goodWord
set_option maxRecDepth 20000 in
theorem wsL_law_in0 : ∀ w ∈ wsL_law0, w ∈ lw_tbl := fun w h => (goodIn_p wsL_law0 [105, 108, 113, 117, 123, 127, 131, 152, 155, 158, 178, 192, 215, 1038, 1043, 378, 382, 454, 474, 478, 1137, 1141, 1144, 1133, 485, 273, 491, 265, 269, 497, 504, 507, 501, 1148, 1152, 1156, 1160, 1164, 1168, 514, 1172, 523, 528, 532, 1177, 1181, 539, 543, 547, 552, 556, 1185, 565, 568, 572, 261, 593, 609, 613, 617, 621, 624, 629, 632, 652, 1190, 1193, 668, 281, 285, 288, 291, 295, 673, 1199, 680, 277, 301, 1203, 1207, 688, 1211, 257, 1215, 696, 700, 703, 711, 715, 718, 721, 725, 728, 731, 1219, 1222, 750, 754, 758, 1228, 1232, 1236, 1240, 770, 1245, 777, 1249, 784, 1253, 1257, 792, 796, 802, 807, 810, 1261, 1265, 817, 821, 824, 827, 830, 833, 1270, 841, 846, 324, 850, 853, 857, 861, 864, 867, 870, 873, 876, 1274, 1278, 883, 886, 889, 892, 896, 1282, 1285, 1288, 1291, 904, 907, 910, 1296, 1300, 1303, 917, 1307, 1310, 926, 931, 937, 941, 309, 1315, 305, 1319, 950, 954, 1323, 964, 1328, 972, 977, 981, 1332, 988, 992, 999, 1337, 1341, 313, 317, 321, 330, 334, 339, 343, 347, 351, 1345, 1349, 1353, 355, 359, 362, 369, 1357, 1016, 1020, 1027, 1031, 1361, 1365] (by decide +kernel) (by decide +kernel) w h).1
theorem wsL_law_x0 : ∀ w ∈ (vx_atS RX8 60 "java/lang/IndexOutOfBoundsException" ["java/lang/RuntimeException", "java/lang/Exception"]).filter goodWord, w ∈ lw_tbl := by decide +kernel
theorem wsL_law_x1 : ∀ w ∈ (vx_atS RX8 71 "java/lang/IllegalStateException" ["java/lang/RuntimeException", "java/lang/Exception"]).filter goodWord, w ∈ lw_tbl := by decide +kernel
theorem wsL_law_x2 : ∀ w ∈ (vx_atS RX8 128 "java/lang/IllegalArgumentException" ["java/lang/RuntimeException", "java/lang/Exception"]).filter goodWord, w ∈ lw_tbl := by decide +kernel
theorem wsL_law_in : ∀ w ∈ wsL_law, w ∈ lw_tbl := fun w h => (List.mem_append.mp h).elim (fun h => (List.mem_append.mp h).elim (fun h => (List.mem_append.mp h).elim (fun h => wsL_law_in0 w h) (fun h => wsL_law_x0 w h)) (fun h => wsL_law_x1 w h)) (fun h => wsL_law_x2 w h)
theorem inlX0 : ∀ w ∈ wsX00, w ∈ wsL_law := fun _ h => List.mem_append_left _ (List.mem_append_left _ (List.mem_append_left _ (List.mem_append_left _ (List.mem_append_left _ (List.mem_append_left _ (List.mem_append_right _ h))))))
theorem inX0 : ∀ w ∈ wsX00, w ∈ lw_tbl := fun w h => wsL_law_in w (inlX0 w h)
theorem inX1 : ∀ w ∈ wsX10, w ∈ lw_tbl := by decide +kernel
theorem inlX2 : ∀ w ∈ wsX20, w ∈ wsL_law := fun _ h => List.mem_append_left _ (List.mem_append_left _ (List.mem_append_left _ (List.mem_append_left _ (List.mem_append_left _ (List.mem_append_right _ h)))))
theorem inX2 : ∀ w ∈ wsX20, w ∈ lw_tbl := fun w h => wsL_law_in w (inlX2 w h)
theorem inlX3 : ∀ w ∈ wsX30, w ∈ wsL_law := fun _ h => List.mem_append_left _ (List.mem_append_left _ (List.mem_append_left _ (List.mem_append_left _ (List.mem_append_left _ (List.mem_append_left _ (List.mem_append_left _ (List.mem_append_left _ (List.mem_append_left _ (List.mem_append_left _ (List.mem_append_left _ (List.mem_append_right _ h)))))))))))
theorem inX3 : ∀ w ∈ wsX30, w ∈ lw_tbl := fun w h => wsL_law_in w (inlX3 w h)
theorem inlX4 : ∀ w ∈ wsX40, w ∈ wsL_law := fun _ h => List.mem_append_left _ (List.mem_append_left _ (List.mem_append_left _ (List.mem_append_left _ (List.mem_append_left _ (List.mem_append_left _ (List.mem_append_left _ (List.mem_append_right _ h)))))))
theorem inX4 : ∀ w ∈ wsX40, w ∈ lw_tbl := fun w h => wsL_law_in w (inlX4 w h)
theorem inlX5 : ∀ w ∈ wsX50, w ∈ wsL_law := fun _ h => List.mem_append_left _ (List.mem_append_left _ (List.mem_append_left _ (List.mem_append_left _ (List.mem_append_left _ (List.mem_append_left _ (List.mem_append_left _ (List.mem_append_left _ (List.mem_append_left _ (List.mem_append_right _ h)))))))))
theorem inX5 : ∀ w ∈ wsX50, w ∈ lw_tbl := fun w h => wsL_law_in w (inlX5 w h)
theorem inlX6 : ∀ w ∈ wsX60, w ∈ wsL_law := fun _ h => List.mem_append_left _ (List.mem_append_left _ (List.mem_append_left _ (List.mem_append_left _ (List.mem_append_left _ (List.mem_append_left _ (List.mem_append_left _ (List.mem_append_left _ (List.mem_append_right _ h))))))))
theorem inX6 : ∀ w ∈ wsX60, w ∈ lw_tbl := fun w h => wsL_law_in w (inlX6 w h)
theorem inlX7 : ∀ w ∈ wsX70, w ∈ wsL_law := fun _ h => List.mem_append_left _ (List.mem_append_left _ (List.mem_append_left _ (List.mem_append_left _ (List.mem_append_right _ h))))
theorem inX7 : ∀ w ∈ wsX70, w ∈ lw_tbl := fun w h => wsL_law_in w (inlX7 w h)
theorem inlX8 : ∀ w ∈ wsX80, w ∈ wsL_law := fun _ h => List.mem_append_left _ (List.mem_append_left _ (List.mem_append_left _ (List.mem_append_left _ (List.mem_append_left _ (List.mem_append_left _ (List.mem_append_left _ (List.mem_append_left _ (List.mem_append_left _ (List.mem_append_left _ (List.mem_append_left _ (List.mem_append_left _ (List.mem_append_left _ (List.mem_append_right _ h)))))))))))))
theorem inX8 : ∀ w ∈ wsX80, w ∈ lw_tbl := fun w h => wsL_law_in w (inlX8 w h)
theorem inlX9 : ∀ w ∈ wsX90, w ∈ wsL_law := fun _ h => List.mem_append_left _ (List.mem_append_left _ (List.mem_append_left _ (List.mem_append_left _ (List.mem_append_left _ (List.mem_append_left _ (List.mem_append_left _ (List.mem_append_left _ (List.mem_append_left _ (List.mem_append_left _ (List.mem_append_left _ (List.mem_append_left _ (List.mem_append_right _ h))))))))))))
theorem inX9 : ∀ w ∈ wsX90, w ∈ lw_tbl := fun w h => wsL_law_in w (inlX9 w h)
theorem inJx145de : ∀ w ∈ wsJx145de0, w ∈ lw_tbl := by decide +kernel
theorem inJx8e188 : ∀ w ∈ wsJx8e1880, w ∈ lw_tbl := by decide +kernel
theorem inJxb160c : ∀ w ∈ wsJxb160c0, w ∈ lw_tbl := by decide +kernel
theorem inJ6 : ∀ w ∈ wsJ60, w ∈ lw_tbl := by decide +kernel
theorem inJxab1ab : ∀ w ∈ wsJxab1ab0, w ∈ lw_tbl := by decide +kernel
theorem inJ13 : ∀ w ∈ wsJ130, w ∈ lw_tbl := by decide +kernel
theorem inJ9 : ∀ w ∈ wsJ90, w ∈ lw_tbl := by decide +kernel
theorem inJxd2413 : ∀ w ∈ wsJxd24130, w ∈ lw_tbl := by decide +kernel
theorem inJ0 : ∀ w ∈ wsJ00, w ∈ lw_tbl := by decide +kernel
theorem inJ10 : ∀ w ∈ wsJ100, w ∈ lw_tbl := by decide +kernel
theorem inJxfd54e : ∀ w ∈ wsJxfd54e0, w ∈ lw_tbl := by decide +kernel
theorem inJx3cf43 : ∀ w ∈ wsJx3cf430, w ∈ lw_tbl := by decide +kernel
theorem inJxa1e45 : ∀ w ∈ wsJxa1e450, w ∈ lw_tbl := by decide +kernel
theorem inJxc12de : ∀ w ∈ wsJxc12de0, w ∈ lw_tbl := by decide +kernel
theorem inlJx4a65c : ∀ w ∈ wsJx4a65c0, w ∈ wsL_law := fun _ h => List.mem_append_left _ (List.mem_append_left _ (List.mem_append_left _ (List.mem_append_left _ (List.mem_append_left _ (List.mem_append_left _ (List.mem_append_left _ (List.mem_append_left _ (List.mem_append_left _ (List.mem_append_left _ (List.mem_append_right _ h))))))))))
theorem inJx4a65c : ∀ w ∈ wsJx4a65c0, w ∈ lw_tbl := fun w h => wsL_law_in w (inlJx4a65c w h)
theorem inJ7 : ∀ w ∈ wsJ70, w ∈ lw_tbl := by decide +kernel
theorem inJx5ef63 : ∀ w ∈ wsJx5ef630, w ∈ lw_tbl := by decide +kernel
theorem inJxbd725 : ∀ w ∈ wsJxbd7250, w ∈ lw_tbl := by decide +kernel
theorem inJ15 : ∀ w ∈ wsJ150, w ∈ lw_tbl := by decide +kernel
theorem inJxf0a74 : ∀ w ∈ wsJxf0a740, w ∈ lw_tbl := by decide +kernel
theorem inJxa66e6 : ∀ w ∈ wsJxa66e60, w ∈ lw_tbl := by decide +kernel
theorem inJ8 : ∀ w ∈ wsJ80, w ∈ lw_tbl := by decide +kernel
theorem inJ3 : ∀ w ∈ wsJ30, w ∈ lw_tbl := by decide +kernel
theorem dX0_init_0 : decode cX0_init 0 = .ok (.aload_n 0, 1) := by decide +kernel
theorem dX0_init_1 : decode cX0_init 1 = .ok (.invokespecial 3, 3) := by decide +kernel
theorem dX0_init_4 : decode cX0_init 4 = .ok (.aload_n 0, 1) := by decide +kernel
theorem dX0_init_5 : decode cX0_init 5 = .ok (.lload_n 1, 1) := by decide +kernel
theorem dX0_init_6 : decode cX0_init 6 = .ok (.putfield 9, 3) := by decide +kernel
theorem dX0_init_9 : decode cX0_init 9 = .ok (.aload_n 0, 1) := by decide +kernel
theorem dX0_init_10 : decode cX0_init 10 = .ok (.lload_n 3, 1) := by decide +kernel
theorem dX0_init_11 : decode cX0_init 11 = .ok (.putfield 15, 3) := by decide +kernel
theorem dX0_init_14 : decode cX0_init 14 = .ok (.aload_n 0, 1) := by decide +kernel
theorem dX0_init_15 : decode cX0_init 15 = .ok (.lload 5, 2) := by decide +kernel
theorem dX0_init_17 : decode cX0_init 17 = .ok (.putfield 18, 3) := by decide +kernel
theorem dX0_init_20 : decode cX0_init 20 = .ok (.return_, 1) := by decide +kernel
theorem dX0_howItLies_0 : decode cX0_howItLies 0 = .ok (.aload_n 0, 1) := by decide +kernel
theorem dX0_howItLies_1 : decode cX0_howItLies 1 = .ok (.getfield 9, 3) := by decide +kernel
theorem dX0_howItLies_4 : decode cX0_howItLies 4 = .ok (.aload_n 1, 1) := by decide +kernel
theorem dX0_howItLies_5 : decode cX0_howItLies 5 = .ok (.getfield 9, 3) := by decide +kernel
theorem dX0_howItLies_8 : decode cX0_howItLies 8 = .ok (.lsub, 1) := by decide +kernel
theorem dX0_howItLies_9 : decode cX0_howItLies 9 = .ok (.lstore_n 2, 1) := by decide +kernel
theorem dX0_howItLies_10 : decode cX0_howItLies 10 = .ok (.aload_n 0, 1) := by decide +kernel
theorem dX0_howItLies_11 : decode cX0_howItLies 11 = .ok (.getfield 15, 3) := by decide +kernel
theorem dX0_howItLies_14 : decode cX0_howItLies 14 = .ok (.aload_n 1, 1) := by decide +kernel
theorem dX0_howItLies_15 : decode cX0_howItLies 15 = .ok (.getfield 15, 3) := by decide +kernel
theorem dX0_howItLies_18 : decode cX0_howItLies 18 = .ok (.lsub, 1) := by decide +kernel
theorem dX0_howItLies_19 : decode cX0_howItLies 19 = .ok (.lstore 4, 2) := by decide +kernel
theorem dX0_howItLies_21 : decode cX0_howItLies 21 = .ok (.aload_n 0, 1) := by decide +kernel
theorem dX0_howItLies_22 : decode cX0_howItLies 22 = .ok (.getfield 18, 3) := by decide +kernel
theorem dX0_howItLies_25 : decode cX0_howItLies 25 = .ok (.aload_n 1, 1) := by decide +kernel
theorem dX0_howItLies_26 : decode cX0_howItLies 26 = .ok (.getfield 18, 3) := by decide +kernel
theorem dX0_howItLies_29 : decode cX0_howItLies 29 = .ok (.ladd, 1) := by decide +kernel
theorem dX0_howItLies_30 : decode cX0_howItLies 30 = .ok (.lstore 6, 2) := by decide +kernel
theorem dX0_howItLies_32 : decode cX0_howItLies 32 = .ok (.lload_n 2, 1) := by decide +kernel
theorem dX0_howItLies_33 : decode cX0_howItLies 33 = .ok (.lload_n 2, 1) := by decide +kernel
theorem dX0_howItLies_34 : decode cX0_howItLies 34 = .ok (.lmul, 1) := by decide +kernel
theorem dX0_howItLies_35 : decode cX0_howItLies 35 = .ok (.lload 4, 2) := by decide +kernel
theorem dX0_howItLies_37 : decode cX0_howItLies 37 = .ok (.lload 4, 2) := by decide +kernel
theorem dX0_howItLies_39 : decode cX0_howItLies 39 = .ok (.lmul, 1) := by decide +kernel
theorem dX0_howItLies_40 : decode cX0_howItLies 40 = .ok (.ladd, 1) := by decide +kernel
theorem dX0_howItLies_41 : decode cX0_howItLies 41 = .ok (.lstore 8, 2) := by decide +kernel
theorem dX0_howItLies_43 : decode cX0_howItLies 43 = .ok (.lload 8, 2) := by decide +kernel
theorem dX0_howItLies_45 : decode cX0_howItLies 45 = .ok (.lload 6, 2) := by decide +kernel
theorem dX0_howItLies_47 : decode cX0_howItLies 47 = .ok (.lload 6, 2) := by decide +kernel
theorem dX0_howItLies_49 : decode cX0_howItLies 49 = .ok (.lmul, 1) := by decide +kernel
theorem dX0_howItLies_50 : decode cX0_howItLies 50 = .ok (.lcmp, 1) := by decide +kernel
theorem dX0_howItLies_51 : decode cX0_howItLies 51 = .ok (.ifCond .ne 5, 3) := by decide +kernel
theorem dX0_howItLies_54 : decode cX0_howItLies 54 = .ok (.iconst 1, 1) := by decide +kernel
theorem dX0_howItLies_55 : decode cX0_howItLies 55 = .ok (.ireturn, 1) := by decide +kernel
theorem dX0_howItLies_56 : decode cX0_howItLies 56 = .ok (.lload 8, 2) := by decide +kernel
theorem dX0_howItLies_58 : decode cX0_howItLies 58 = .ok (.lload 6, 2) := by decide +kernel
theorem dX0_howItLies_60 : decode cX0_howItLies 60 = .ok (.lload 6, 2) := by decide +kernel
theorem dX0_howItLies_62 : decode cX0_howItLies 62 = .ok (.lmul, 1) := by decide +kernel
theorem dX0_howItLies_63 : decode cX0_howItLies 63 = .ok (.lcmp, 1) := by decide +kernel
theorem dX0_howItLies_64 : decode cX0_howItLies 64 = .ok (.ifCond .le 7, 3) := by decide +kernel
theorem dX0_howItLies_67 : decode cX0_howItLies 67 = .ok (.iconst 0, 1) := by decide +kernel
theorem dX0_howItLies_68 : decode cX0_howItLies 68 = .ok (.goto 4, 3) := by decide +kernel
theorem dX0_howItLies_71 : decode cX0_howItLies 71 = .ok (.iconst 2, 1) := by decide +kernel
theorem dX0_howItLies_72 : decode cX0_howItLies 72 = .ok (.ireturn, 1) := by decide +kernel
theorem dX1_isLowest_0 : decode cX1_isLowest 0 = .ok (.lload_n 0, 1) := by decide +kernel
theorem dX1_isLowest_1 : decode cX1_isLowest 1 = .ok (.invokestatic 7, 3) := by decide +kernel
theorem dX1_isLowest_4 : decode cX1_isLowest 4 = .ok (.lstore 4, 2) := by decide +kernel
theorem dX1_isLowest_6 : decode cX1_isLowest 6 = .ok (.lload_n 2, 1) := by decide +kernel
theorem dX1_isLowest_7 : decode cX1_isLowest 7 = .ok (.lstore 6, 2) := by decide +kernel
theorem dX1_isLowest_9 : decode cX1_isLowest 9 = .ok (.iconst 0, 1) := by decide +kernel
theorem dX1_isLowest_10 : decode cX1_isLowest 10 = .ok (.istore 8, 2) := by decide +kernel
theorem dX1_isLowest_12 : decode cX1_isLowest 12 = .ok (.iload 8, 2) := by decide +kernel
theorem dX1_isLowest_14 : decode cX1_isLowest 14 = .ok (.sipush 1000, 3) := by decide +kernel
theorem dX1_isLowest_17 : decode cX1_isLowest 17 = .ok (.if_icmp .ge 31, 3) := by decide +kernel
theorem dX1_isLowest_20 : decode cX1_isLowest 20 = .ok (.lload 6, 2) := by decide +kernel
theorem dX1_isLowest_22 : decode cX1_isLowest 22 = .ok (.lconst 0, 1) := by decide +kernel
theorem dX1_isLowest_23 : decode cX1_isLowest 23 = .ok (.lcmp, 1) := by decide +kernel
theorem dX1_isLowest_24 : decode cX1_isLowest 24 = .ok (.ifCond .eq 24, 3) := by decide +kernel
theorem dX1_isLowest_27 : decode cX1_isLowest 27 = .ok (.lload 4, 2) := by decide +kernel
theorem dX1_isLowest_29 : decode cX1_isLowest 29 = .ok (.lload 6, 2) := by decide +kernel
theorem dX1_isLowest_31 : decode cX1_isLowest 31 = .ok (.lrem, 1) := by decide +kernel
theorem dX1_isLowest_32 : decode cX1_isLowest 32 = .ok (.lstore 9, 2) := by decide +kernel
theorem dX1_isLowest_34 : decode cX1_isLowest 34 = .ok (.lload 6, 2) := by decide +kernel
theorem dX1_isLowest_36 : decode cX1_isLowest 36 = .ok (.lstore 4, 2) := by decide +kernel
theorem dX1_isLowest_38 : decode cX1_isLowest 38 = .ok (.lload 9, 2) := by decide +kernel
theorem dX1_isLowest_40 : decode cX1_isLowest 40 = .ok (.lstore 6, 2) := by decide +kernel
theorem dX1_isLowest_42 : decode cX1_isLowest 42 = .ok (.iinc 8 1, 3) := by decide +kernel
theorem dX1_isLowest_45 : decode cX1_isLowest 45 = .ok (.goto (-33), 3) := by decide +kernel
theorem dX1_isLowest_48 : decode cX1_isLowest 48 = .ok (.lload 4, 2) := by decide +kernel
theorem dX1_isLowest_50 : decode cX1_isLowest 50 = .ok (.lconst 1, 1) := by decide +kernel
theorem dX1_isLowest_51 : decode cX1_isLowest 51 = .ok (.lcmp, 1) := by decide +kernel
theorem dX1_isLowest_52 : decode cX1_isLowest 52 = .ok (.ifCond .ne 7, 3) := by decide +kernel
theorem dX1_isLowest_55 : decode cX1_isLowest 55 = .ok (.iconst 1, 1) := by decide +kernel
theorem dX1_isLowest_56 : decode cX1_isLowest 56 = .ok (.goto 4, 3) := by decide +kernel
theorem dX1_isLowest_59 : decode cX1_isLowest 59 = .ok (.iconst 0, 1) := by decide +kernel
theorem dX1_isLowest_60 : decode cX1_isLowest 60 = .ok (.ireturn, 1) := by decide +kernel
theorem dX1_crossed_0 : decode cX1_crossed 0 = .ok (.lload_n 0, 1) := by decide +kernel
theorem dX1_crossed_1 : decode cX1_crossed 1 = .ok (.lload 6, 2) := by decide +kernel
theorem dX1_crossed_3 : decode cX1_crossed 3 = .ok (.lmul, 1) := by decide +kernel
theorem dX1_crossed_4 : decode cX1_crossed 4 = .ok (.lload 4, 2) := by decide +kernel
theorem dX1_crossed_6 : decode cX1_crossed 6 = .ok (.lload_n 2, 1) := by decide +kernel
theorem dX1_crossed_7 : decode cX1_crossed 7 = .ok (.lmul, 1) := by decide +kernel
theorem dX1_crossed_8 : decode cX1_crossed 8 = .ok (.lsub, 1) := by decide +kernel
theorem dX1_crossed_9 : decode cX1_crossed 9 = .ok (.lreturn, 1) := by decide +kernel
set_option maxRecDepth 20000 in
theorem ggX1_simplest_J9_floorDiv_f86c9 : GoodIn wsX1_simplest wsJ9_floorDiv_f86c9 := goodIn_r _ [4] (by decide +kernel) (by decide +kernel)
set_option maxRecDepth 20000 in
theorem gX1_simplest_J9_floorDiv_f86c9 : GoodIn wsX1_simplest (va_wsS RX1 15 yJ9_floorDiv_f86c9 wsJ9_floorDiv_f86c9) := goodIn_app (goodIn_of _ (by decide +kernel)) ggX1_simplest_J9_floorDiv_f86c9
theorem dX1_simplest_0 : decode cX1_simplest 0 = .ok (.lload_n 0, 1) := by decide +kernel
theorem dX1_simplest_1 : decode cX1_simplest 1 = .ok (.lstore 9, 2) := by decide +kernel
theorem dX1_simplest_3 : decode cX1_simplest 3 = .ok (.lload_n 2, 1) := by decide +kernel
theorem dX1_simplest_4 : decode cX1_simplest 4 = .ok (.lstore 11, 2) := by decide +kernel
theorem dX1_simplest_6 : decode cX1_simplest 6 = .ok (.lload 4, 2) := by decide +kernel
theorem dX1_simplest_8 : decode cX1_simplest 8 = .ok (.lstore 13, 2) := by decide +kernel
theorem dX1_simplest_10 : decode cX1_simplest 10 = .ok (.lload 6, 2) := by decide +kernel
theorem dX1_simplest_12 : decode cX1_simplest 12 = .ok (.lstore 15, 2) := by decide +kernel
theorem dX1_simplest_14 : decode cX1_simplest 14 = .ok (.lconst 1, 1) := by decide +kernel
theorem dX1_simplest_15 : decode cX1_simplest 15 = .ok (.lstore 17, 2) := by decide +kernel
theorem dX1_simplest_17 : decode cX1_simplest 17 = .ok (.lconst 0, 1) := by decide +kernel
theorem dX1_simplest_18 : decode cX1_simplest 18 = .ok (.lstore 19, 2) := by decide +kernel
theorem dX1_simplest_20 : decode cX1_simplest 20 = .ok (.lconst 0, 1) := by decide +kernel
theorem dX1_simplest_21 : decode cX1_simplest 21 = .ok (.lstore 21, 2) := by decide +kernel
theorem dX1_simplest_23 : decode cX1_simplest 23 = .ok (.lconst 1, 1) := by decide +kernel
theorem dX1_simplest_24 : decode cX1_simplest 24 = .ok (.lstore 23, 2) := by decide +kernel
theorem dX1_simplest_26 : decode cX1_simplest 26 = .ok (.iconst 0, 1) := by decide +kernel
theorem dX1_simplest_27 : decode cX1_simplest 27 = .ok (.istore 25, 2) := by decide +kernel
theorem dX1_simplest_29 : decode cX1_simplest 29 = .ok (.iconst 0, 1) := by decide +kernel
theorem dX1_simplest_30 : decode cX1_simplest 30 = .ok (.istore 26, 2) := by decide +kernel
theorem dX1_simplest_32 : decode cX1_simplest 32 = .ok (.iload 26, 2) := by decide +kernel
theorem dX1_simplest_34 : decode cX1_simplest 34 = .ok (.sipush 1000, 3) := by decide +kernel
theorem dX1_simplest_37 : decode cX1_simplest 37 = .ok (.if_icmp .ge 138, 3) := by decide +kernel
theorem dX1_simplest_40 : decode cX1_simplest 40 = .ok (.iload 25, 2) := by decide +kernel
theorem dX1_simplest_42 : decode cX1_simplest 42 = .ok (.ifCond .ne 133, 3) := by decide +kernel
theorem dX1_simplest_45 : decode cX1_simplest 45 = .ok (.lload 11, 2) := by decide +kernel
theorem dX1_simplest_47 : decode cX1_simplest 47 = .ok (.lconst 0, 1) := by decide +kernel
theorem dX1_simplest_48 : decode cX1_simplest 48 = .ok (.lcmp, 1) := by decide +kernel
theorem dX1_simplest_49 : decode cX1_simplest 49 = .ok (.ifCond .le 126, 3) := by decide +kernel
theorem dX1_simplest_52 : decode cX1_simplest 52 = .ok (.lload 9, 2) := by decide +kernel
theorem dX1_simplest_54 : decode cX1_simplest 54 = .ok (.lload 11, 2) := by decide +kernel
theorem dX1_simplest_56 : decode cX1_simplest 56 = .ok (.invokestatic 15, 3) := by decide +kernel
theorem dX1_simplest_59 : decode cX1_simplest 59 = .ok (.lstore 27, 2) := by decide +kernel
theorem dX1_simplest_61 : decode cX1_simplest 61 = .ok (.lload 27, 2) := by decide +kernel
theorem dX1_simplest_63 : decode cX1_simplest 63 = .ok (.lconst 1, 1) := by decide +kernel
theorem dX1_simplest_64 : decode cX1_simplest 64 = .ok (.ladd, 1) := by decide +kernel
theorem dX1_simplest_65 : decode cX1_simplest 65 = .ok (.lload 15, 2) := by decide +kernel
theorem dX1_simplest_67 : decode cX1_simplest 67 = .ok (.lmul, 1) := by decide +kernel
theorem dX1_simplest_68 : decode cX1_simplest 68 = .ok (.lload 13, 2) := by decide +kernel
theorem dX1_simplest_70 : decode cX1_simplest 70 = .ok (.lcmp, 1) := by decide +kernel
theorem dX1_simplest_71 : decode cX1_simplest 71 = .ok (.ifCond .ge 7, 3) := by decide +kernel
theorem dX1_simplest_74 : decode cX1_simplest 74 = .ok (.iconst 1, 1) := by decide +kernel
theorem dX1_simplest_75 : decode cX1_simplest 75 = .ok (.goto 4, 3) := by decide +kernel
theorem dX1_simplest_78 : decode cX1_simplest 78 = .ok (.iconst 0, 1) := by decide +kernel
theorem dX1_simplest_79 : decode cX1_simplest 79 = .ok (.istore 25, 2) := by decide +kernel
theorem dX1_simplest_81 : decode cX1_simplest 81 = .ok (.iload 25, 2) := by decide +kernel
theorem dX1_simplest_83 : decode cX1_simplest 83 = .ok (.ifCond .eq 10, 3) := by decide +kernel
theorem dX1_simplest_86 : decode cX1_simplest 86 = .ok (.lload 27, 2) := by decide +kernel
theorem dX1_simplest_88 : decode cX1_simplest 88 = .ok (.lconst 1, 1) := by decide +kernel
theorem dX1_simplest_89 : decode cX1_simplest 89 = .ok (.ladd, 1) := by decide +kernel
theorem dX1_simplest_90 : decode cX1_simplest 90 = .ok (.goto 5, 3) := by decide +kernel
theorem dX1_simplest_93 : decode cX1_simplest 93 = .ok (.lload 27, 2) := by decide +kernel
theorem dX1_simplest_95 : decode cX1_simplest 95 = .ok (.lstore 29, 2) := by decide +kernel
theorem dX1_simplest_97 : decode cX1_simplest 97 = .ok (.lload 29, 2) := by decide +kernel
theorem dX1_simplest_99 : decode cX1_simplest 99 = .ok (.lload 17, 2) := by decide +kernel
theorem dX1_simplest_101 : decode cX1_simplest 101 = .ok (.lmul, 1) := by decide +kernel
theorem dX1_simplest_102 : decode cX1_simplest 102 = .ok (.lload 19, 2) := by decide +kernel
theorem dX1_simplest_104 : decode cX1_simplest 104 = .ok (.ladd, 1) := by decide +kernel
theorem dX1_simplest_105 : decode cX1_simplest 105 = .ok (.lstore 31, 2) := by decide +kernel
theorem dX1_simplest_107 : decode cX1_simplest 107 = .ok (.lload 17, 2) := by decide +kernel
theorem dX1_simplest_109 : decode cX1_simplest 109 = .ok (.lstore 19, 2) := by decide +kernel
theorem dX1_simplest_111 : decode cX1_simplest 111 = .ok (.lload 31, 2) := by decide +kernel
theorem dX1_simplest_113 : decode cX1_simplest 113 = .ok (.lstore 17, 2) := by decide +kernel
theorem dX1_simplest_115 : decode cX1_simplest 115 = .ok (.lload 29, 2) := by decide +kernel
theorem dX1_simplest_117 : decode cX1_simplest 117 = .ok (.lload 21, 2) := by decide +kernel
theorem dX1_simplest_119 : decode cX1_simplest 119 = .ok (.lmul, 1) := by decide +kernel
theorem dX1_simplest_120 : decode cX1_simplest 120 = .ok (.lload 23, 2) := by decide +kernel
theorem dX1_simplest_122 : decode cX1_simplest 122 = .ok (.ladd, 1) := by decide +kernel
theorem dX1_simplest_123 : decode cX1_simplest 123 = .ok (.lstore 33, 2) := by decide +kernel
theorem dX1_simplest_125 : decode cX1_simplest 125 = .ok (.lload 21, 2) := by decide +kernel
theorem dX1_simplest_127 : decode cX1_simplest 127 = .ok (.lstore 23, 2) := by decide +kernel
theorem dX1_simplest_129 : decode cX1_simplest 129 = .ok (.lload 33, 2) := by decide +kernel
theorem dX1_simplest_131 : decode cX1_simplest 131 = .ok (.lstore 21, 2) := by decide +kernel
theorem dX1_simplest_133 : decode cX1_simplest 133 = .ok (.lload 9, 2) := by decide +kernel
theorem dX1_simplest_135 : decode cX1_simplest 135 = .ok (.lload 27, 2) := by decide +kernel
theorem dX1_simplest_137 : decode cX1_simplest 137 = .ok (.lload 11, 2) := by decide +kernel
theorem dX1_simplest_139 : decode cX1_simplest 139 = .ok (.lmul, 1) := by decide +kernel
theorem dX1_simplest_140 : decode cX1_simplest 140 = .ok (.lsub, 1) := by decide +kernel
theorem dX1_simplest_141 : decode cX1_simplest 141 = .ok (.lstore 35, 2) := by decide +kernel
theorem dX1_simplest_143 : decode cX1_simplest 143 = .ok (.lload 13, 2) := by decide +kernel
theorem dX1_simplest_145 : decode cX1_simplest 145 = .ok (.lload 27, 2) := by decide +kernel
theorem dX1_simplest_147 : decode cX1_simplest 147 = .ok (.lload 15, 2) := by decide +kernel
theorem dX1_simplest_149 : decode cX1_simplest 149 = .ok (.lmul, 1) := by decide +kernel
theorem dX1_simplest_150 : decode cX1_simplest 150 = .ok (.lsub, 1) := by decide +kernel
theorem dX1_simplest_151 : decode cX1_simplest 151 = .ok (.lstore 37, 2) := by decide +kernel
theorem dX1_simplest_153 : decode cX1_simplest 153 = .ok (.lload 11, 2) := by decide +kernel
theorem dX1_simplest_155 : decode cX1_simplest 155 = .ok (.lstore 13, 2) := by decide +kernel
theorem dX1_simplest_157 : decode cX1_simplest 157 = .ok (.lload 15, 2) := by decide +kernel
theorem dX1_simplest_159 : decode cX1_simplest 159 = .ok (.lstore 9, 2) := by decide +kernel
theorem dX1_simplest_161 : decode cX1_simplest 161 = .ok (.lload 35, 2) := by decide +kernel
theorem dX1_simplest_163 : decode cX1_simplest 163 = .ok (.lstore 15, 2) := by decide +kernel
theorem dX1_simplest_165 : decode cX1_simplest 165 = .ok (.lload 37, 2) := by decide +kernel
theorem dX1_simplest_167 : decode cX1_simplest 167 = .ok (.lstore 11, 2) := by decide +kernel
theorem dX1_simplest_169 : decode cX1_simplest 169 = .ok (.iinc 26 1, 3) := by decide +kernel
theorem dX1_simplest_172 : decode cX1_simplest 172 = .ok (.goto (-140), 3) := by decide +kernel
theorem dX1_simplest_175 : decode cX1_simplest 175 = .ok (.iload 8, 2) := by decide +kernel
theorem dX1_simplest_177 : decode cX1_simplest 177 = .ok (.ifCond .eq 8, 3) := by decide +kernel
theorem dX1_simplest_180 : decode cX1_simplest 180 = .ok (.lload 17, 2) := by decide +kernel
theorem dX1_simplest_182 : decode cX1_simplest 182 = .ok (.goto 5, 3) := by decide +kernel
theorem dX1_simplest_185 : decode cX1_simplest 185 = .ok (.lload 21, 2) := by decide +kernel
theorem dX1_simplest_187 : decode cX1_simplest 187 = .ok (.lreturn, 1) := by decide +kernel
set_option maxRecDepth 20000 in
theorem ggX2_init_X2_rowOf : GoodIn wsX2_init wsX2_rowOf := goodIn_r _ [11, 6] (by decide +kernel) (by decide +kernel)
set_option maxRecDepth 20000 in
theorem gX2_init_X2_rowOf : GoodIn wsX2_init (va_wsS RX2 9 yX2_rowOf wsX2_rowOf) := goodIn_app (goodIn_of _ (by decide +kernel)) ggX2_init_X2_rowOf
set_option maxRecDepth 20000 in
theorem ggX2_init_X2_rootOf : GoodIn wsX2_init wsX2_rootOf := goodIn_r _ [14, 8, 9, 10, 11, 6, 15, 16, 17, 18, 19, 20, 21, 22, 23, 24, 25, 26, 27, 28] (by decide +kernel) (by decide +kernel)
set_option maxRecDepth 20000 in
theorem gX2_init_X2_rootOf : GoodIn wsX2_init (va_wsS RX2 19 yX2_rootOf wsX2_rootOf) := goodIn_app (goodIn_of _ (by decide +kernel)) ggX2_init_X2_rootOf
theorem dX2_init_0 : decode cX2_init 0 = .ok (.aload_n 0, 1) := by decide +kernel
theorem dX2_init_1 : decode cX2_init 1 = .ok (.invokespecial 3, 3) := by decide +kernel
theorem dX2_init_4 : decode cX2_init 4 = .ok (.aload_n 0, 1) := by decide +kernel
theorem dX2_init_5 : decode cX2_init 5 = .ok (.lload_n 1, 1) := by decide +kernel
theorem dX2_init_6 : decode cX2_init 6 = .ok (.lload_n 3, 1) := by decide +kernel
theorem dX2_init_7 : decode cX2_init 7 = .ok (.lload 5, 2) := by decide +kernel
theorem dX2_init_9 : decode cX2_init 9 = .ok (.lload 7, 2) := by decide +kernel
theorem dX2_init_11 : decode cX2_init 11 = .ok (.invokestatic 9, 3) := by decide +kernel
theorem dX2_init_14 : decode cX2_init 14 = .ok (.putfield 15, 3) := by decide +kernel
theorem dX2_init_17 : decode cX2_init 17 = .ok (.aload_n 0, 1) := by decide +kernel
theorem dX2_init_18 : decode cX2_init 18 = .ok (.lload_n 1, 1) := by decide +kernel
theorem dX2_init_19 : decode cX2_init 19 = .ok (.lload_n 3, 1) := by decide +kernel
theorem dX2_init_20 : decode cX2_init 20 = .ok (.lload 5, 2) := by decide +kernel
theorem dX2_init_22 : decode cX2_init 22 = .ok (.lload 7, 2) := by decide +kernel
theorem dX2_init_24 : decode cX2_init 24 = .ok (.invokestatic 19, 3) := by decide +kernel
theorem dX2_init_27 : decode cX2_init 27 = .ok (.putfield 22, 3) := by decide +kernel
theorem dX2_init_30 : decode cX2_init 30 = .ok (.aload_n 0, 1) := by decide +kernel
theorem dX2_init_31 : decode cX2_init 31 = .ok (.iconst 4, 1) := by decide +kernel
theorem dX2_init_32 : decode cX2_init 32 = .ok (.newarray .long, 2) := by decide +kernel
theorem dX2_init_34 : decode cX2_init 34 = .ok (.putfield 25, 3) := by decide +kernel
theorem dX2_init_37 : decode cX2_init 37 = .ok (.return_, 1) := by decide +kernel
theorem dX2_rowOf_0 : decode cX2_rowOf 0 = .ok (.iconst 4, 1) := by decide +kernel
theorem dX2_rowOf_1 : decode cX2_rowOf 1 = .ok (.newarray .long, 2) := by decide +kernel
theorem dX2_rowOf_3 : decode cX2_rowOf 3 = .ok (.astore 8, 2) := by decide +kernel
theorem dX2_rowOf_5 : decode cX2_rowOf 5 = .ok (.aload 8, 2) := by decide +kernel
theorem dX2_rowOf_7 : decode cX2_rowOf 7 = .ok (.iconst 0, 1) := by decide +kernel
theorem dX2_rowOf_8 : decode cX2_rowOf 8 = .ok (.lload_n 0, 1) := by decide +kernel
theorem dX2_rowOf_9 : decode cX2_rowOf 9 = .ok (.lastore, 1) := by decide +kernel
theorem dX2_rowOf_10 : decode cX2_rowOf 10 = .ok (.aload 8, 2) := by decide +kernel
theorem dX2_rowOf_12 : decode cX2_rowOf 12 = .ok (.iconst 1, 1) := by decide +kernel
theorem dX2_rowOf_13 : decode cX2_rowOf 13 = .ok (.lload_n 2, 1) := by decide +kernel
theorem dX2_rowOf_14 : decode cX2_rowOf 14 = .ok (.lastore, 1) := by decide +kernel
theorem dX2_rowOf_15 : decode cX2_rowOf 15 = .ok (.aload 8, 2) := by decide +kernel
theorem dX2_rowOf_17 : decode cX2_rowOf 17 = .ok (.iconst 2, 1) := by decide +kernel
theorem dX2_rowOf_18 : decode cX2_rowOf 18 = .ok (.lload 4, 2) := by decide +kernel
theorem dX2_rowOf_20 : decode cX2_rowOf 20 = .ok (.lastore, 1) := by decide +kernel
theorem dX2_rowOf_21 : decode cX2_rowOf 21 = .ok (.aload 8, 2) := by decide +kernel
theorem dX2_rowOf_23 : decode cX2_rowOf 23 = .ok (.iconst 3, 1) := by decide +kernel
theorem dX2_rowOf_24 : decode cX2_rowOf 24 = .ok (.lload 6, 2) := by decide +kernel
theorem dX2_rowOf_26 : decode cX2_rowOf 26 = .ok (.lastore, 1) := by decide +kernel
theorem dX2_rowOf_27 : decode cX2_rowOf 27 = .ok (.aload 8, 2) := by decide +kernel
theorem dX2_rowOf_29 : decode cX2_rowOf 29 = .ok (.areturn, 1) := by decide +kernel
set_option maxRecDepth 20000 in
theorem ggX2_rootOf_X2_rowOf : GoodIn wsX2_rootOf wsX2_rowOf := goodIn_r _ [4, 5] (by decide +kernel) (by decide +kernel)
set_option maxRecDepth 20000 in
theorem gX2_rootOf_X2_rowOf : GoodIn wsX2_rootOf (va_wsS RX2 9 yX2_rowOf wsX2_rowOf) := goodIn_app (goodIn_of _ (by decide +kernel)) ggX2_rootOf_X2_rowOf
set_option maxRecDepth 20000 in
theorem ggX2_rootOf_X2_bringToRoot : GoodIn wsX2_rootOf wsX2_bringToRoot := goodIn_r _ [8, 9, 10, 11, 3, 12, 13, 14, 15, 16] (by decide +kernel) (by decide +kernel)
set_option maxRecDepth 20000 in
theorem gX2_rootOf_X2_bringToRoot : GoodIn wsX2_rootOf (va_wsS RX2 28 yX2_bringToRoot wsX2_bringToRoot) := goodIn_app (goodIn_of _ (by decide +kernel)) ggX2_rootOf_X2_bringToRoot
set_option maxRecDepth 20000 in
theorem ggX2_rootOf_X2_putInOrder : GoodIn wsX2_rootOf wsX2_putInOrder := goodIn_r _ [19] (by decide +kernel) (by decide +kernel)
set_option maxRecDepth 20000 in
theorem gX2_rootOf_X2_putInOrder : GoodIn wsX2_rootOf (va_wsS RX2 32 yX2_putInOrder wsX2_putInOrder) := goodIn_app (goodIn_of _ (by decide +kernel)) ggX2_rootOf_X2_putInOrder
theorem dX2_rootOf_0 : decode cX2_rootOf 0 = .ok (.lload_n 0, 1) := by decide +kernel
theorem dX2_rootOf_1 : decode cX2_rootOf 1 = .ok (.lload_n 2, 1) := by decide +kernel
theorem dX2_rootOf_2 : decode cX2_rootOf 2 = .ok (.lload 4, 2) := by decide +kernel
theorem dX2_rootOf_4 : decode cX2_rootOf 4 = .ok (.lload 6, 2) := by decide +kernel
theorem dX2_rootOf_6 : decode cX2_rootOf 6 = .ok (.invokestatic 9, 3) := by decide +kernel
theorem dX2_rootOf_9 : decode cX2_rootOf 9 = .ok (.astore 8, 2) := by decide +kernel
theorem dX2_rootOf_11 : decode cX2_rootOf 11 = .ok (.aload 8, 2) := by decide +kernel
theorem dX2_rootOf_13 : decode cX2_rootOf 13 = .ok (.invokestatic 28, 3) := by decide +kernel
theorem dX2_rootOf_16 : decode cX2_rootOf 16 = .ok (.aload 8, 2) := by decide +kernel
theorem dX2_rootOf_18 : decode cX2_rootOf 18 = .ok (.invokestatic 32, 3) := by decide +kernel
theorem dX2_rootOf_21 : decode cX2_rootOf 21 = .ok (.aload 8, 2) := by decide +kernel
theorem dX2_rootOf_23 : decode cX2_rootOf 23 = .ok (.areturn, 1) := by decide +kernel
theorem dX2_areOfGasket_0 : decode cX2_areOfGasket 0 = .ok (.lload_n 0, 1) := by decide +kernel
theorem dX2_areOfGasket_1 : decode cX2_areOfGasket 1 = .ok (.lload_n 2, 1) := by decide +kernel
theorem dX2_areOfGasket_2 : decode cX2_areOfGasket 2 = .ok (.ladd, 1) := by decide +kernel
theorem dX2_areOfGasket_3 : decode cX2_areOfGasket 3 = .ok (.lload 4, 2) := by decide +kernel
theorem dX2_areOfGasket_5 : decode cX2_areOfGasket 5 = .ok (.ladd, 1) := by decide +kernel
theorem dX2_areOfGasket_6 : decode cX2_areOfGasket 6 = .ok (.lload 6, 2) := by decide +kernel
theorem dX2_areOfGasket_8 : decode cX2_areOfGasket 8 = .ok (.ladd, 1) := by decide +kernel
theorem dX2_areOfGasket_9 : decode cX2_areOfGasket 9 = .ok (.lstore 8, 2) := by decide +kernel
theorem dX2_areOfGasket_11 : decode cX2_areOfGasket 11 = .ok (.lload 8, 2) := by decide +kernel
theorem dX2_areOfGasket_13 : decode cX2_areOfGasket 13 = .ok (.lconst 0, 1) := by decide +kernel
theorem dX2_areOfGasket_14 : decode cX2_areOfGasket 14 = .ok (.lcmp, 1) := by decide +kernel
theorem dX2_areOfGasket_15 : decode cX2_areOfGasket 15 = .ok (.ifCond .le 39, 3) := by decide +kernel
theorem dX2_areOfGasket_18 : decode cX2_areOfGasket 18 = .ok (.lload 8, 2) := by decide +kernel
theorem dX2_areOfGasket_20 : decode cX2_areOfGasket 20 = .ok (.lload 8, 2) := by decide +kernel
theorem dX2_areOfGasket_22 : decode cX2_areOfGasket 22 = .ok (.lmul, 1) := by decide +kernel
theorem dX2_areOfGasket_23 : decode cX2_areOfGasket 23 = .ok (.ldc2_w 35, 3) := by decide +kernel
theorem dX2_areOfGasket_26 : decode cX2_areOfGasket 26 = .ok (.lload_n 0, 1) := by decide +kernel
theorem dX2_areOfGasket_27 : decode cX2_areOfGasket 27 = .ok (.lload_n 0, 1) := by decide +kernel
theorem dX2_areOfGasket_28 : decode cX2_areOfGasket 28 = .ok (.lmul, 1) := by decide +kernel
theorem dX2_areOfGasket_29 : decode cX2_areOfGasket 29 = .ok (.lload_n 2, 1) := by decide +kernel
theorem dX2_areOfGasket_30 : decode cX2_areOfGasket 30 = .ok (.lload_n 2, 1) := by decide +kernel
theorem dX2_areOfGasket_31 : decode cX2_areOfGasket 31 = .ok (.lmul, 1) := by decide +kernel
theorem dX2_areOfGasket_32 : decode cX2_areOfGasket 32 = .ok (.ladd, 1) := by decide +kernel
theorem dX2_areOfGasket_33 : decode cX2_areOfGasket 33 = .ok (.lload 4, 2) := by decide +kernel
theorem dX2_areOfGasket_35 : decode cX2_areOfGasket 35 = .ok (.lload 4, 2) := by decide +kernel
theorem dX2_areOfGasket_37 : decode cX2_areOfGasket 37 = .ok (.lmul, 1) := by decide +kernel
theorem dX2_areOfGasket_38 : decode cX2_areOfGasket 38 = .ok (.ladd, 1) := by decide +kernel
theorem dX2_areOfGasket_39 : decode cX2_areOfGasket 39 = .ok (.lload 6, 2) := by decide +kernel
theorem dX2_areOfGasket_41 : decode cX2_areOfGasket 41 = .ok (.lload 6, 2) := by decide +kernel
theorem dX2_areOfGasket_43 : decode cX2_areOfGasket 43 = .ok (.lmul, 1) := by decide +kernel
theorem dX2_areOfGasket_44 : decode cX2_areOfGasket 44 = .ok (.ladd, 1) := by decide +kernel
theorem dX2_areOfGasket_45 : decode cX2_areOfGasket 45 = .ok (.lmul, 1) := by decide +kernel
theorem dX2_areOfGasket_46 : decode cX2_areOfGasket 46 = .ok (.lcmp, 1) := by decide +kernel
theorem dX2_areOfGasket_47 : decode cX2_areOfGasket 47 = .ok (.ifCond .ne 7, 3) := by decide +kernel
theorem dX2_areOfGasket_50 : decode cX2_areOfGasket 50 = .ok (.iconst 1, 1) := by decide +kernel
theorem dX2_areOfGasket_51 : decode cX2_areOfGasket 51 = .ok (.goto 4, 3) := by decide +kernel
theorem dX2_areOfGasket_54 : decode cX2_areOfGasket 54 = .ok (.iconst 0, 1) := by decide +kernel
theorem dX2_areOfGasket_55 : decode cX2_areOfGasket 55 = .ok (.ireturn, 1) := by decide +kernel
theorem dX2_turnedAt_0 : decode cX2_turnedAt 0 = .ok (.aload_n 0, 1) := by decide +kernel
theorem dX2_turnedAt_1 : decode cX2_turnedAt 1 = .ok (.iconst 0, 1) := by decide +kernel
theorem dX2_turnedAt_2 : decode cX2_turnedAt 2 = .ok (.laload, 1) := by decide +kernel
theorem dX2_turnedAt_3 : decode cX2_turnedAt 3 = .ok (.aload_n 0, 1) := by decide +kernel
theorem dX2_turnedAt_4 : decode cX2_turnedAt 4 = .ok (.iconst 1, 1) := by decide +kernel
theorem dX2_turnedAt_5 : decode cX2_turnedAt 5 = .ok (.laload, 1) := by decide +kernel
theorem dX2_turnedAt_6 : decode cX2_turnedAt 6 = .ok (.ladd, 1) := by decide +kernel
theorem dX2_turnedAt_7 : decode cX2_turnedAt 7 = .ok (.aload_n 0, 1) := by decide +kernel
theorem dX2_turnedAt_8 : decode cX2_turnedAt 8 = .ok (.iconst 2, 1) := by decide +kernel
theorem dX2_turnedAt_9 : decode cX2_turnedAt 9 = .ok (.laload, 1) := by decide +kernel
theorem dX2_turnedAt_10 : decode cX2_turnedAt 10 = .ok (.ladd, 1) := by decide +kernel
theorem dX2_turnedAt_11 : decode cX2_turnedAt 11 = .ok (.aload_n 0, 1) := by decide +kernel
theorem dX2_turnedAt_12 : decode cX2_turnedAt 12 = .ok (.iconst 3, 1) := by decide +kernel
theorem dX2_turnedAt_13 : decode cX2_turnedAt 13 = .ok (.laload, 1) := by decide +kernel
theorem dX2_turnedAt_14 : decode cX2_turnedAt 14 = .ok (.ladd, 1) := by decide +kernel
theorem dX2_turnedAt_15 : decode cX2_turnedAt 15 = .ok (.aload_n 0, 1) := by decide +kernel
theorem dX2_turnedAt_16 : decode cX2_turnedAt 16 = .ok (.iload_n 1, 1) := by decide +kernel
theorem dX2_turnedAt_17 : decode cX2_turnedAt 17 = .ok (.laload, 1) := by decide +kernel
theorem dX2_turnedAt_18 : decode cX2_turnedAt 18 = .ok (.lsub, 1) := by decide +kernel
theorem dX2_turnedAt_19 : decode cX2_turnedAt 19 = .ok (.lstore_n 2, 1) := by decide +kernel
theorem dX2_turnedAt_20 : decode cX2_turnedAt 20 = .ok (.ldc2_w 35, 3) := by decide +kernel
theorem dX2_turnedAt_23 : decode cX2_turnedAt 23 = .ok (.lload_n 2, 1) := by decide +kernel
theorem dX2_turnedAt_24 : decode cX2_turnedAt 24 = .ok (.lmul, 1) := by decide +kernel
theorem dX2_turnedAt_25 : decode cX2_turnedAt 25 = .ok (.aload_n 0, 1) := by decide +kernel
theorem dX2_turnedAt_26 : decode cX2_turnedAt 26 = .ok (.iload_n 1, 1) := by decide +kernel
theorem dX2_turnedAt_27 : decode cX2_turnedAt 27 = .ok (.laload, 1) := by decide +kernel
theorem dX2_turnedAt_28 : decode cX2_turnedAt 28 = .ok (.lsub, 1) := by decide +kernel
theorem dX2_turnedAt_29 : decode cX2_turnedAt 29 = .ok (.lreturn, 1) := by decide +kernel
set_option maxRecDepth 20000 in
theorem ggX2_bringToRoot_X2_greatestPlace : GoodIn wsX2_bringToRoot wsX2_greatestPlace := goodIn_r _ [5] (by decide +kernel) (by decide +kernel)
set_option maxRecDepth 20000 in
theorem gX2_bringToRoot_X2_greatestPlace : GoodIn wsX2_bringToRoot (va_wsS RX2 38 yX2_greatestPlace wsX2_greatestPlace) := goodIn_app (goodIn_of _ (by decide +kernel)) ggX2_bringToRoot_X2_greatestPlace
set_option maxRecDepth 20000 in
theorem ggX2_bringToRoot_X2_turnedAt : GoodIn wsX2_bringToRoot wsX2_turnedAt := goodIn_r _ [8, 9] (by decide +kernel) (by decide +kernel)
set_option maxRecDepth 20000 in
theorem gX2_bringToRoot_X2_turnedAt : GoodIn wsX2_bringToRoot (va_wsS RX2 42 yX2_turnedAt wsX2_turnedAt) := goodIn_app (goodIn_of _ (by decide +kernel)) ggX2_bringToRoot_X2_turnedAt
theorem dX2_bringToRoot_0 : decode cX2_bringToRoot 0 = .ok (.iconst 0, 1) := by decide +kernel
theorem dX2_bringToRoot_1 : decode cX2_bringToRoot 1 = .ok (.istore_n 1, 1) := by decide +kernel
theorem dX2_bringToRoot_2 : decode cX2_bringToRoot 2 = .ok (.iload_n 1, 1) := by decide +kernel
theorem dX2_bringToRoot_3 : decode cX2_bringToRoot 3 = .ok (.ldc 37, 2) := by decide +kernel
theorem dX2_bringToRoot_5 : decode cX2_bringToRoot 5 = .ok (.if_icmp .ge 33, 3) := by decide +kernel
theorem dX2_bringToRoot_8 : decode cX2_bringToRoot 8 = .ok (.aload_n 0, 1) := by decide +kernel
theorem dX2_bringToRoot_9 : decode cX2_bringToRoot 9 = .ok (.invokestatic 38, 3) := by decide +kernel
theorem dX2_bringToRoot_12 : decode cX2_bringToRoot 12 = .ok (.istore_n 2, 1) := by decide +kernel
theorem dX2_bringToRoot_13 : decode cX2_bringToRoot 13 = .ok (.aload_n 0, 1) := by decide +kernel
theorem dX2_bringToRoot_14 : decode cX2_bringToRoot 14 = .ok (.iload_n 2, 1) := by decide +kernel
theorem dX2_bringToRoot_15 : decode cX2_bringToRoot 15 = .ok (.invokestatic 42, 3) := by decide +kernel
theorem dX2_bringToRoot_18 : decode cX2_bringToRoot 18 = .ok (.lstore_n 3, 1) := by decide +kernel
theorem dX2_bringToRoot_19 : decode cX2_bringToRoot 19 = .ok (.lload_n 3, 1) := by decide +kernel
theorem dX2_bringToRoot_20 : decode cX2_bringToRoot 20 = .ok (.aload_n 0, 1) := by decide +kernel
theorem dX2_bringToRoot_21 : decode cX2_bringToRoot 21 = .ok (.iload_n 2, 1) := by decide +kernel
theorem dX2_bringToRoot_22 : decode cX2_bringToRoot 22 = .ok (.laload, 1) := by decide +kernel
theorem dX2_bringToRoot_23 : decode cX2_bringToRoot 23 = .ok (.lcmp, 1) := by decide +kernel
theorem dX2_bringToRoot_24 : decode cX2_bringToRoot 24 = .ok (.ifCond .lt 4, 3) := by decide +kernel
theorem dX2_bringToRoot_27 : decode cX2_bringToRoot 27 = .ok (.return_, 1) := by decide +kernel
theorem dX2_bringToRoot_28 : decode cX2_bringToRoot 28 = .ok (.aload_n 0, 1) := by decide +kernel
theorem dX2_bringToRoot_29 : decode cX2_bringToRoot 29 = .ok (.iload_n 2, 1) := by decide +kernel
theorem dX2_bringToRoot_30 : decode cX2_bringToRoot 30 = .ok (.lload_n 3, 1) := by decide +kernel
theorem dX2_bringToRoot_31 : decode cX2_bringToRoot 31 = .ok (.lastore, 1) := by decide +kernel
theorem dX2_bringToRoot_32 : decode cX2_bringToRoot 32 = .ok (.iinc 1 1, 3) := by decide +kernel
theorem dX2_bringToRoot_35 : decode cX2_bringToRoot 35 = .ok (.goto (-33), 3) := by decide +kernel
theorem dX2_bringToRoot_38 : decode cX2_bringToRoot 38 = .ok (.return_, 1) := by decide +kernel
theorem dX2_greatestPlace_0 : decode cX2_greatestPlace 0 = .ok (.iconst 0, 1) := by decide +kernel
theorem dX2_greatestPlace_1 : decode cX2_greatestPlace 1 = .ok (.istore_n 1, 1) := by decide +kernel
theorem dX2_greatestPlace_2 : decode cX2_greatestPlace 2 = .ok (.iconst 1, 1) := by decide +kernel
theorem dX2_greatestPlace_3 : decode cX2_greatestPlace 3 = .ok (.istore_n 2, 1) := by decide +kernel
theorem dX2_greatestPlace_4 : decode cX2_greatestPlace 4 = .ok (.iload_n 2, 1) := by decide +kernel
theorem dX2_greatestPlace_5 : decode cX2_greatestPlace 5 = .ok (.iconst 4, 1) := by decide +kernel
theorem dX2_greatestPlace_6 : decode cX2_greatestPlace 6 = .ok (.if_icmp .ge 21, 3) := by decide +kernel
theorem dX2_greatestPlace_9 : decode cX2_greatestPlace 9 = .ok (.aload_n 0, 1) := by decide +kernel
theorem dX2_greatestPlace_10 : decode cX2_greatestPlace 10 = .ok (.iload_n 2, 1) := by decide +kernel
theorem dX2_greatestPlace_11 : decode cX2_greatestPlace 11 = .ok (.laload, 1) := by decide +kernel
theorem dX2_greatestPlace_12 : decode cX2_greatestPlace 12 = .ok (.aload_n 0, 1) := by decide +kernel
theorem dX2_greatestPlace_13 : decode cX2_greatestPlace 13 = .ok (.iload_n 1, 1) := by decide +kernel
theorem dX2_greatestPlace_14 : decode cX2_greatestPlace 14 = .ok (.laload, 1) := by decide +kernel
theorem dX2_greatestPlace_15 : decode cX2_greatestPlace 15 = .ok (.lcmp, 1) := by decide +kernel
theorem dX2_greatestPlace_16 : decode cX2_greatestPlace 16 = .ok (.ifCond .le 5, 3) := by decide +kernel
theorem dX2_greatestPlace_19 : decode cX2_greatestPlace 19 = .ok (.iload_n 2, 1) := by decide +kernel
theorem dX2_greatestPlace_20 : decode cX2_greatestPlace 20 = .ok (.istore_n 1, 1) := by decide +kernel
theorem dX2_greatestPlace_21 : decode cX2_greatestPlace 21 = .ok (.iinc 2 1, 3) := by decide +kernel
theorem dX2_greatestPlace_24 : decode cX2_greatestPlace 24 = .ok (.goto (-20), 3) := by decide +kernel
theorem dX2_greatestPlace_27 : decode cX2_greatestPlace 27 = .ok (.iload_n 1, 1) := by decide +kernel
theorem dX2_greatestPlace_28 : decode cX2_greatestPlace 28 = .ok (.ireturn, 1) := by decide +kernel
theorem dX2_putInOrder_0 : decode cX2_putInOrder 0 = .ok (.iconst 3, 1) := by decide +kernel
theorem dX2_putInOrder_1 : decode cX2_putInOrder 1 = .ok (.istore_n 1, 1) := by decide +kernel
theorem dX2_putInOrder_2 : decode cX2_putInOrder 2 = .ok (.iload_n 1, 1) := by decide +kernel
theorem dX2_putInOrder_3 : decode cX2_putInOrder 3 = .ok (.ifCond .le 52, 3) := by decide +kernel
theorem dX2_putInOrder_6 : decode cX2_putInOrder 6 = .ok (.iconst 0, 1) := by decide +kernel
theorem dX2_putInOrder_7 : decode cX2_putInOrder 7 = .ok (.istore_n 2, 1) := by decide +kernel
theorem dX2_putInOrder_8 : decode cX2_putInOrder 8 = .ok (.iload_n 2, 1) := by decide +kernel
theorem dX2_putInOrder_9 : decode cX2_putInOrder 9 = .ok (.iload_n 1, 1) := by decide +kernel
theorem dX2_putInOrder_10 : decode cX2_putInOrder 10 = .ok (.if_icmp .ge 39, 3) := by decide +kernel
theorem dX2_putInOrder_13 : decode cX2_putInOrder 13 = .ok (.aload_n 0, 1) := by decide +kernel
theorem dX2_putInOrder_14 : decode cX2_putInOrder 14 = .ok (.iload_n 2, 1) := by decide +kernel
theorem dX2_putInOrder_15 : decode cX2_putInOrder 15 = .ok (.laload, 1) := by decide +kernel
theorem dX2_putInOrder_16 : decode cX2_putInOrder 16 = .ok (.aload_n 0, 1) := by decide +kernel
theorem dX2_putInOrder_17 : decode cX2_putInOrder 17 = .ok (.iload_n 2, 1) := by decide +kernel
theorem dX2_putInOrder_18 : decode cX2_putInOrder 18 = .ok (.iconst 1, 1) := by decide +kernel
theorem dX2_putInOrder_19 : decode cX2_putInOrder 19 = .ok (.iadd, 1) := by decide +kernel
theorem dX2_putInOrder_20 : decode cX2_putInOrder 20 = .ok (.laload, 1) := by decide +kernel
theorem dX2_putInOrder_21 : decode cX2_putInOrder 21 = .ok (.lcmp, 1) := by decide +kernel
theorem dX2_putInOrder_22 : decode cX2_putInOrder 22 = .ok (.ifCond .le 21, 3) := by decide +kernel
theorem dX2_putInOrder_25 : decode cX2_putInOrder 25 = .ok (.aload_n 0, 1) := by decide +kernel
theorem dX2_putInOrder_26 : decode cX2_putInOrder 26 = .ok (.iload_n 2, 1) := by decide +kernel
theorem dX2_putInOrder_27 : decode cX2_putInOrder 27 = .ok (.laload, 1) := by decide +kernel
theorem dX2_putInOrder_28 : decode cX2_putInOrder 28 = .ok (.lstore_n 3, 1) := by decide +kernel
theorem dX2_putInOrder_29 : decode cX2_putInOrder 29 = .ok (.aload_n 0, 1) := by decide +kernel
theorem dX2_putInOrder_30 : decode cX2_putInOrder 30 = .ok (.iload_n 2, 1) := by decide +kernel
theorem dX2_putInOrder_31 : decode cX2_putInOrder 31 = .ok (.aload_n 0, 1) := by decide +kernel
theorem dX2_putInOrder_32 : decode cX2_putInOrder 32 = .ok (.iload_n 2, 1) := by decide +kernel
theorem dX2_putInOrder_33 : decode cX2_putInOrder 33 = .ok (.iconst 1, 1) := by decide +kernel
theorem dX2_putInOrder_34 : decode cX2_putInOrder 34 = .ok (.iadd, 1) := by decide +kernel
theorem dX2_putInOrder_35 : decode cX2_putInOrder 35 = .ok (.laload, 1) := by decide +kernel
theorem dX2_putInOrder_36 : decode cX2_putInOrder 36 = .ok (.lastore, 1) := by decide +kernel
theorem dX2_putInOrder_37 : decode cX2_putInOrder 37 = .ok (.aload_n 0, 1) := by decide +kernel
theorem dX2_putInOrder_38 : decode cX2_putInOrder 38 = .ok (.iload_n 2, 1) := by decide +kernel
theorem dX2_putInOrder_39 : decode cX2_putInOrder 39 = .ok (.iconst 1, 1) := by decide +kernel
theorem dX2_putInOrder_40 : decode cX2_putInOrder 40 = .ok (.iadd, 1) := by decide +kernel
theorem dX2_putInOrder_41 : decode cX2_putInOrder 41 = .ok (.lload_n 3, 1) := by decide +kernel
theorem dX2_putInOrder_42 : decode cX2_putInOrder 42 = .ok (.lastore, 1) := by decide +kernel
theorem dX2_putInOrder_43 : decode cX2_putInOrder 43 = .ok (.iinc 2 1, 3) := by decide +kernel
theorem dX2_putInOrder_46 : decode cX2_putInOrder 46 = .ok (.goto (-38), 3) := by decide +kernel
theorem dX2_putInOrder_49 : decode cX2_putInOrder 49 = .ok (.iinc 1 (-1), 3) := by decide +kernel
theorem dX2_putInOrder_52 : decode cX2_putInOrder 52 = .ok (.goto (-50), 3) := by decide +kernel
theorem dX2_putInOrder_55 : decode cX2_putInOrder 55 = .ok (.return_, 1) := by decide +kernel
set_option maxRecDepth 20000 in
theorem ggX2_circlesByTurns_X2_circlesOfRoot : GoodIn wsX2_circlesByTurns wsX2_circlesOfRoot := goodIn_r _ [11, 1, 19, 20, 21] (by decide +kernel) (by decide +kernel)
set_option maxRecDepth 20000 in
theorem gX2_circlesByTurns_X2_circlesOfRoot : GoodIn wsX2_circlesByTurns (wsV RX2 52 RX2 yX2_circlesOfRoot wsX2_circlesOfRoot) := goodIn_app (goodIn_of _ (by decide +kernel)) ggX2_circlesByTurns_X2_circlesOfRoot
set_option maxRecDepth 20000 in
theorem ggX2_circlesByTurns_X2_circlesOfRows : GoodIn wsX2_circlesByTurns wsX2_circlesOfRows := goodIn_r _ [14, 15, 16, 10, 17, 18, 12, 13] (by decide +kernel) (by decide +kernel)
set_option maxRecDepth 20000 in
theorem gX2_circlesByTurns_X2_circlesOfRows : GoodIn wsX2_circlesByTurns (va_wsS RX2 56 yX2_circlesOfRows wsX2_circlesOfRows) := goodIn_app (goodIn_of _ (by decide +kernel)) ggX2_circlesByTurns_X2_circlesOfRows
theorem dX2_circlesByTurns_0 : decode cX2_circlesByTurns 0 = .ok (.aload_n 0, 1) := by decide +kernel
theorem dX2_circlesByTurns_1 : decode cX2_circlesByTurns 1 = .ok (.getfield 22, 3) := by decide +kernel
theorem dX2_circlesByTurns_4 : decode cX2_circlesByTurns 4 = .ok (.iconst 0, 1) := by decide +kernel
theorem dX2_circlesByTurns_5 : decode cX2_circlesByTurns 5 = .ok (.aload_n 0, 1) := by decide +kernel
theorem dX2_circlesByTurns_6 : decode cX2_circlesByTurns 6 = .ok (.getfield 25, 3) := by decide +kernel
theorem dX2_circlesByTurns_9 : decode cX2_circlesByTurns 9 = .ok (.iconst 0, 1) := by decide +kernel
theorem dX2_circlesByTurns_10 : decode cX2_circlesByTurns 10 = .ok (.iconst 4, 1) := by decide +kernel
theorem dX2_circlesByTurns_11 : decode cX2_circlesByTurns 11 = .ok (.invokestatic 46, 3) := by decide +kernel
theorem dX2_circlesByTurns_14 : decode cX2_circlesByTurns 14 = .ok (.aload_n 0, 1) := by decide +kernel
theorem dX2_circlesByTurns_15 : decode cX2_circlesByTurns 15 = .ok (.iload_n 1, 1) := by decide +kernel
theorem dX2_circlesByTurns_16 : decode cX2_circlesByTurns 16 = .ok (.invokevirtual 52, 3) := by decide +kernel
theorem dX2_circlesByTurns_19 : decode cX2_circlesByTurns 19 = .ok (.aload_n 0, 1) := by decide +kernel
theorem dX2_circlesByTurns_20 : decode cX2_circlesByTurns 20 = .ok (.getfield 25, 3) := by decide +kernel
theorem dX2_circlesByTurns_23 : decode cX2_circlesByTurns 23 = .ok (.iconst (-1), 1) := by decide +kernel
theorem dX2_circlesByTurns_24 : decode cX2_circlesByTurns 24 = .ok (.iload_n 1, 1) := by decide +kernel
theorem dX2_circlesByTurns_25 : decode cX2_circlesByTurns 25 = .ok (.iconst 0, 1) := by decide +kernel
theorem dX2_circlesByTurns_26 : decode cX2_circlesByTurns 26 = .ok (.invokestatic 56, 3) := by decide +kernel
theorem dX2_circlesByTurns_29 : decode cX2_circlesByTurns 29 = .ok (.iadd, 1) := by decide +kernel
theorem dX2_circlesByTurns_30 : decode cX2_circlesByTurns 30 = .ok (.ireturn, 1) := by decide +kernel
theorem dX2_circlesOfRoot_0 : decode cX2_circlesOfRoot 0 = .ok (.iconst 0, 1) := by decide +kernel
theorem dX2_circlesOfRoot_1 : decode cX2_circlesOfRoot 1 = .ok (.istore_n 2, 1) := by decide +kernel
theorem dX2_circlesOfRoot_2 : decode cX2_circlesOfRoot 2 = .ok (.iconst 0, 1) := by decide +kernel
theorem dX2_circlesOfRoot_3 : decode cX2_circlesOfRoot 3 = .ok (.istore_n 3, 1) := by decide +kernel
theorem dX2_circlesOfRoot_4 : decode cX2_circlesOfRoot 4 = .ok (.iload_n 3, 1) := by decide +kernel
theorem dX2_circlesOfRoot_5 : decode cX2_circlesOfRoot 5 = .ok (.iconst 4, 1) := by decide +kernel
theorem dX2_circlesOfRoot_6 : decode cX2_circlesOfRoot 6 = .ok (.if_icmp .ge 24, 3) := by decide +kernel
theorem dX2_circlesOfRoot_9 : decode cX2_circlesOfRoot 9 = .ok (.aload_n 0, 1) := by decide +kernel
theorem dX2_circlesOfRoot_10 : decode cX2_circlesOfRoot 10 = .ok (.getfield 22, 3) := by decide +kernel
theorem dX2_circlesOfRoot_13 : decode cX2_circlesOfRoot 13 = .ok (.iload_n 3, 1) := by decide +kernel
theorem dX2_circlesOfRoot_14 : decode cX2_circlesOfRoot 14 = .ok (.laload, 1) := by decide +kernel
theorem dX2_circlesOfRoot_15 : decode cX2_circlesOfRoot 15 = .ok (.iload_n 1, 1) := by decide +kernel
theorem dX2_circlesOfRoot_16 : decode cX2_circlesOfRoot 16 = .ok (.i2l, 1) := by decide +kernel
theorem dX2_circlesOfRoot_17 : decode cX2_circlesOfRoot 17 = .ok (.lcmp, 1) := by decide +kernel
theorem dX2_circlesOfRoot_18 : decode cX2_circlesOfRoot 18 = .ok (.ifCond .gt 6, 3) := by decide +kernel
theorem dX2_circlesOfRoot_21 : decode cX2_circlesOfRoot 21 = .ok (.iinc 2 1, 3) := by decide +kernel
theorem dX2_circlesOfRoot_24 : decode cX2_circlesOfRoot 24 = .ok (.iinc 3 1, 3) := by decide +kernel
theorem dX2_circlesOfRoot_27 : decode cX2_circlesOfRoot 27 = .ok (.goto (-23), 3) := by decide +kernel
theorem dX2_circlesOfRoot_30 : decode cX2_circlesOfRoot 30 = .ok (.iload_n 2, 1) := by decide +kernel
theorem dX2_circlesOfRoot_31 : decode cX2_circlesOfRoot 31 = .ok (.ireturn, 1) := by decide +kernel
set_option maxRecDepth 20000 in
theorem ggX2_circlesOfRows_X2_turnedAt : GoodIn wsX2_circlesOfRows wsX2_turnedAt := goodIn_r _ [4, 5] (by decide +kernel) (by decide +kernel)
set_option maxRecDepth 20000 in
theorem gX2_circlesOfRows_X2_turnedAt : GoodIn wsX2_circlesOfRows (va_wsS RX2 42 yX2_turnedAt wsX2_turnedAt) := goodIn_app (goodIn_of _ (by decide +kernel)) ggX2_circlesOfRows_X2_turnedAt
set_option maxRecDepth 20000 in
theorem ggX2_circlesOfRows_X2_circlesOfRows : GoodIn wsX2_circlesOfRows wsX2_circlesOfRows := goodIn_r _ [0, 1, 2, 3, 4, 5, 6, 7] (by decide +kernel) (by decide +kernel)
set_option maxRecDepth 20000 in
theorem gX2_circlesOfRows_X2_circlesOfRows : GoodIn wsX2_circlesOfRows (va_wsS RX2 56 yX2_circlesOfRows wsX2_circlesOfRows) := goodIn_app (goodIn_of _ (by decide +kernel)) ggX2_circlesOfRows_X2_circlesOfRows
theorem dX2_circlesOfRows_0 : decode cX2_circlesOfRows 0 = .ok (.iload_n 3, 1) := by decide +kernel
theorem dX2_circlesOfRows_1 : decode cX2_circlesOfRows 1 = .ok (.bipush 100, 2) := by decide +kernel
theorem dX2_circlesOfRows_3 : decode cX2_circlesOfRows 3 = .ok (.if_icmp .lt 5, 3) := by decide +kernel
theorem dX2_circlesOfRows_6 : decode cX2_circlesOfRows 6 = .ok (.iconst 0, 1) := by decide +kernel
theorem dX2_circlesOfRows_7 : decode cX2_circlesOfRows 7 = .ok (.ireturn, 1) := by decide +kernel
theorem dX2_circlesOfRows_8 : decode cX2_circlesOfRows 8 = .ok (.iconst 0, 1) := by decide +kernel
theorem dX2_circlesOfRows_9 : decode cX2_circlesOfRows 9 = .ok (.istore 4, 2) := by decide +kernel
theorem dX2_circlesOfRows_11 : decode cX2_circlesOfRows 11 = .ok (.iconst 0, 1) := by decide +kernel
theorem dX2_circlesOfRows_12 : decode cX2_circlesOfRows 12 = .ok (.istore 5, 2) := by decide +kernel
theorem dX2_circlesOfRows_14 : decode cX2_circlesOfRows 14 = .ok (.iload 5, 2) := by decide +kernel
theorem dX2_circlesOfRows_16 : decode cX2_circlesOfRows 16 = .ok (.iconst 4, 1) := by decide +kernel
theorem dX2_circlesOfRows_17 : decode cX2_circlesOfRows 17 = .ok (.if_icmp .ge 66, 3) := by decide +kernel
theorem dX2_circlesOfRows_20 : decode cX2_circlesOfRows 20 = .ok (.aload_n 0, 1) := by decide +kernel
theorem dX2_circlesOfRows_21 : decode cX2_circlesOfRows 21 = .ok (.iload 5, 2) := by decide +kernel
theorem dX2_circlesOfRows_23 : decode cX2_circlesOfRows 23 = .ok (.laload, 1) := by decide +kernel
theorem dX2_circlesOfRows_24 : decode cX2_circlesOfRows 24 = .ok (.lstore 6, 2) := by decide +kernel
theorem dX2_circlesOfRows_26 : decode cX2_circlesOfRows 26 = .ok (.aload_n 0, 1) := by decide +kernel
theorem dX2_circlesOfRows_27 : decode cX2_circlesOfRows 27 = .ok (.iload 5, 2) := by decide +kernel
theorem dX2_circlesOfRows_29 : decode cX2_circlesOfRows 29 = .ok (.invokestatic 42, 3) := by decide +kernel
theorem dX2_circlesOfRows_32 : decode cX2_circlesOfRows 32 = .ok (.lstore 8, 2) := by decide +kernel
theorem dX2_circlesOfRows_34 : decode cX2_circlesOfRows 34 = .ok (.iload 5, 2) := by decide +kernel
theorem dX2_circlesOfRows_36 : decode cX2_circlesOfRows 36 = .ok (.iload_n 1, 1) := by decide +kernel
theorem dX2_circlesOfRows_37 : decode cX2_circlesOfRows 37 = .ok (.if_icmp .eq 40, 3) := by decide +kernel
theorem dX2_circlesOfRows_40 : decode cX2_circlesOfRows 40 = .ok (.lload 8, 2) := by decide +kernel
theorem dX2_circlesOfRows_42 : decode cX2_circlesOfRows 42 = .ok (.iload_n 2, 1) := by decide +kernel
theorem dX2_circlesOfRows_43 : decode cX2_circlesOfRows 43 = .ok (.i2l, 1) := by decide +kernel
theorem dX2_circlesOfRows_44 : decode cX2_circlesOfRows 44 = .ok (.lcmp, 1) := by decide +kernel
theorem dX2_circlesOfRows_45 : decode cX2_circlesOfRows 45 = .ok (.ifCond .gt 32, 3) := by decide +kernel
theorem dX2_circlesOfRows_48 : decode cX2_circlesOfRows 48 = .ok (.aload_n 0, 1) := by decide +kernel
theorem dX2_circlesOfRows_49 : decode cX2_circlesOfRows 49 = .ok (.iload 5, 2) := by decide +kernel
theorem dX2_circlesOfRows_51 : decode cX2_circlesOfRows 51 = .ok (.lload 8, 2) := by decide +kernel
theorem dX2_circlesOfRows_53 : decode cX2_circlesOfRows 53 = .ok (.lastore, 1) := by decide +kernel
theorem dX2_circlesOfRows_54 : decode cX2_circlesOfRows 54 = .ok (.iload 4, 2) := by decide +kernel
theorem dX2_circlesOfRows_56 : decode cX2_circlesOfRows 56 = .ok (.iconst 1, 1) := by decide +kernel
theorem dX2_circlesOfRows_57 : decode cX2_circlesOfRows 57 = .ok (.aload_n 0, 1) := by decide +kernel
theorem dX2_circlesOfRows_58 : decode cX2_circlesOfRows 58 = .ok (.iload 5, 2) := by decide +kernel
theorem dX2_circlesOfRows_60 : decode cX2_circlesOfRows 60 = .ok (.iload_n 2, 1) := by decide +kernel
theorem dX2_circlesOfRows_61 : decode cX2_circlesOfRows 61 = .ok (.iload_n 3, 1) := by decide +kernel
theorem dX2_circlesOfRows_62 : decode cX2_circlesOfRows 62 = .ok (.iconst 1, 1) := by decide +kernel
theorem dX2_circlesOfRows_63 : decode cX2_circlesOfRows 63 = .ok (.iadd, 1) := by decide +kernel
theorem dX2_circlesOfRows_64 : decode cX2_circlesOfRows 64 = .ok (.invokestatic 56, 3) := by decide +kernel
theorem dX2_circlesOfRows_67 : decode cX2_circlesOfRows 67 = .ok (.iadd, 1) := by decide +kernel
theorem dX2_circlesOfRows_68 : decode cX2_circlesOfRows 68 = .ok (.iadd, 1) := by decide +kernel
theorem dX2_circlesOfRows_69 : decode cX2_circlesOfRows 69 = .ok (.istore 4, 2) := by decide +kernel
theorem dX2_circlesOfRows_71 : decode cX2_circlesOfRows 71 = .ok (.aload_n 0, 1) := by decide +kernel
theorem dX2_circlesOfRows_72 : decode cX2_circlesOfRows 72 = .ok (.iload 5, 2) := by decide +kernel
theorem dX2_circlesOfRows_74 : decode cX2_circlesOfRows 74 = .ok (.lload 6, 2) := by decide +kernel
theorem dX2_circlesOfRows_76 : decode cX2_circlesOfRows 76 = .ok (.lastore, 1) := by decide +kernel
theorem dX2_circlesOfRows_77 : decode cX2_circlesOfRows 77 = .ok (.iinc 5 1, 3) := by decide +kernel
theorem dX2_circlesOfRows_80 : decode cX2_circlesOfRows 80 = .ok (.goto (-66), 3) := by decide +kernel
theorem dX2_circlesOfRows_83 : decode cX2_circlesOfRows 83 = .ok (.iload 4, 2) := by decide +kernel
theorem dX2_circlesOfRows_85 : decode cX2_circlesOfRows 85 = .ok (.ireturn, 1) := by decide +kernel
set_option maxRecDepth 20000 in
theorem ggX2_circlesByThrees_X2_circlesOfRoot : GoodIn wsX2_circlesByThrees wsX2_circlesOfRoot := goodIn_r _ [6, 1, 23, 24, 25] (by decide +kernel) (by decide +kernel)
set_option maxRecDepth 20000 in
theorem gX2_circlesByThrees_X2_circlesOfRoot : GoodIn wsX2_circlesByThrees (wsV RX2 52 RX2 yX2_circlesOfRoot wsX2_circlesOfRoot) := goodIn_app (goodIn_of _ (by decide +kernel)) ggX2_circlesByThrees_X2_circlesOfRoot
set_option maxRecDepth 20000 in
theorem ggX2_circlesByThrees_X2_circlesAmong : GoodIn wsX2_circlesByThrees wsX2_circlesAmong := goodIn_r _ [9, 10, 11, 12, 5, 13, 14, 15, 16, 17, 18, 19, 20, 21, 22, 7, 8] (by decide +kernel) (by decide +kernel)
set_option maxRecDepth 20000 in
theorem gX2_circlesByThrees_X2_circlesAmong : GoodIn wsX2_circlesByThrees (va_wsS RX2 60 yX2_circlesAmong wsX2_circlesAmong) := goodIn_app (goodIn_of _ (by decide +kernel)) ggX2_circlesByThrees_X2_circlesAmong
theorem dX2_circlesByThrees_0 : decode cX2_circlesByThrees 0 = .ok (.aload_n 0, 1) := by decide +kernel
theorem dX2_circlesByThrees_1 : decode cX2_circlesByThrees 1 = .ok (.iload_n 1, 1) := by decide +kernel
theorem dX2_circlesByThrees_2 : decode cX2_circlesByThrees 2 = .ok (.invokevirtual 52, 3) := by decide +kernel
theorem dX2_circlesByThrees_5 : decode cX2_circlesByThrees 5 = .ok (.aload_n 0, 1) := by decide +kernel
theorem dX2_circlesByThrees_6 : decode cX2_circlesByThrees 6 = .ok (.getfield 22, 3) := by decide +kernel
theorem dX2_circlesByThrees_9 : decode cX2_circlesByThrees 9 = .ok (.iconst 0, 1) := by decide +kernel
theorem dX2_circlesByThrees_10 : decode cX2_circlesByThrees 10 = .ok (.laload, 1) := by decide +kernel
theorem dX2_circlesByThrees_11 : decode cX2_circlesByThrees 11 = .ok (.aload_n 0, 1) := by decide +kernel
theorem dX2_circlesByThrees_12 : decode cX2_circlesByThrees 12 = .ok (.getfield 22, 3) := by decide +kernel
theorem dX2_circlesByThrees_15 : decode cX2_circlesByThrees 15 = .ok (.iconst 1, 1) := by decide +kernel
theorem dX2_circlesByThrees_16 : decode cX2_circlesByThrees 16 = .ok (.laload, 1) := by decide +kernel
theorem dX2_circlesByThrees_17 : decode cX2_circlesByThrees 17 = .ok (.aload_n 0, 1) := by decide +kernel
theorem dX2_circlesByThrees_18 : decode cX2_circlesByThrees 18 = .ok (.getfield 22, 3) := by decide +kernel
theorem dX2_circlesByThrees_21 : decode cX2_circlesByThrees 21 = .ok (.iconst 2, 1) := by decide +kernel
theorem dX2_circlesByThrees_22 : decode cX2_circlesByThrees 22 = .ok (.laload, 1) := by decide +kernel
theorem dX2_circlesByThrees_23 : decode cX2_circlesByThrees 23 = .ok (.iload_n 1, 1) := by decide +kernel
theorem dX2_circlesByThrees_24 : decode cX2_circlesByThrees 24 = .ok (.iconst 0, 1) := by decide +kernel
theorem dX2_circlesByThrees_25 : decode cX2_circlesByThrees 25 = .ok (.invokestatic 60, 3) := by decide +kernel
theorem dX2_circlesByThrees_28 : decode cX2_circlesByThrees 28 = .ok (.iadd, 1) := by decide +kernel
theorem dX2_circlesByThrees_29 : decode cX2_circlesByThrees 29 = .ok (.aload_n 0, 1) := by decide +kernel
theorem dX2_circlesByThrees_30 : decode cX2_circlesByThrees 30 = .ok (.getfield 22, 3) := by decide +kernel
theorem dX2_circlesByThrees_33 : decode cX2_circlesByThrees 33 = .ok (.iconst 0, 1) := by decide +kernel
theorem dX2_circlesByThrees_34 : decode cX2_circlesByThrees 34 = .ok (.laload, 1) := by decide +kernel
theorem dX2_circlesByThrees_35 : decode cX2_circlesByThrees 35 = .ok (.aload_n 0, 1) := by decide +kernel
theorem dX2_circlesByThrees_36 : decode cX2_circlesByThrees 36 = .ok (.getfield 22, 3) := by decide +kernel
theorem dX2_circlesByThrees_39 : decode cX2_circlesByThrees 39 = .ok (.iconst 1, 1) := by decide +kernel
theorem dX2_circlesByThrees_40 : decode cX2_circlesByThrees 40 = .ok (.laload, 1) := by decide +kernel
theorem dX2_circlesByThrees_41 : decode cX2_circlesByThrees 41 = .ok (.aload_n 0, 1) := by decide +kernel
theorem dX2_circlesByThrees_42 : decode cX2_circlesByThrees 42 = .ok (.getfield 22, 3) := by decide +kernel
theorem dX2_circlesByThrees_45 : decode cX2_circlesByThrees 45 = .ok (.iconst 3, 1) := by decide +kernel
theorem dX2_circlesByThrees_46 : decode cX2_circlesByThrees 46 = .ok (.laload, 1) := by decide +kernel
theorem dX2_circlesByThrees_47 : decode cX2_circlesByThrees 47 = .ok (.iload_n 1, 1) := by decide +kernel
theorem dX2_circlesByThrees_48 : decode cX2_circlesByThrees 48 = .ok (.iconst 0, 1) := by decide +kernel
theorem dX2_circlesByThrees_49 : decode cX2_circlesByThrees 49 = .ok (.invokestatic 60, 3) := by decide +kernel
theorem dX2_circlesByThrees_52 : decode cX2_circlesByThrees 52 = .ok (.iadd, 1) := by decide +kernel
theorem dX2_circlesByThrees_53 : decode cX2_circlesByThrees 53 = .ok (.aload_n 0, 1) := by decide +kernel
theorem dX2_circlesByThrees_54 : decode cX2_circlesByThrees 54 = .ok (.getfield 22, 3) := by decide +kernel
theorem dX2_circlesByThrees_57 : decode cX2_circlesByThrees 57 = .ok (.iconst 0, 1) := by decide +kernel
theorem dX2_circlesByThrees_58 : decode cX2_circlesByThrees 58 = .ok (.laload, 1) := by decide +kernel
theorem dX2_circlesByThrees_59 : decode cX2_circlesByThrees 59 = .ok (.aload_n 0, 1) := by decide +kernel
theorem dX2_circlesByThrees_60 : decode cX2_circlesByThrees 60 = .ok (.getfield 22, 3) := by decide +kernel
theorem dX2_circlesByThrees_63 : decode cX2_circlesByThrees 63 = .ok (.iconst 2, 1) := by decide +kernel
theorem dX2_circlesByThrees_64 : decode cX2_circlesByThrees 64 = .ok (.laload, 1) := by decide +kernel
theorem dX2_circlesByThrees_65 : decode cX2_circlesByThrees 65 = .ok (.aload_n 0, 1) := by decide +kernel
theorem dX2_circlesByThrees_66 : decode cX2_circlesByThrees 66 = .ok (.getfield 22, 3) := by decide +kernel
theorem dX2_circlesByThrees_69 : decode cX2_circlesByThrees 69 = .ok (.iconst 3, 1) := by decide +kernel
theorem dX2_circlesByThrees_70 : decode cX2_circlesByThrees 70 = .ok (.laload, 1) := by decide +kernel
theorem dX2_circlesByThrees_71 : decode cX2_circlesByThrees 71 = .ok (.iload_n 1, 1) := by decide +kernel
theorem dX2_circlesByThrees_72 : decode cX2_circlesByThrees 72 = .ok (.iconst 0, 1) := by decide +kernel
theorem dX2_circlesByThrees_73 : decode cX2_circlesByThrees 73 = .ok (.invokestatic 60, 3) := by decide +kernel
theorem dX2_circlesByThrees_76 : decode cX2_circlesByThrees 76 = .ok (.iadd, 1) := by decide +kernel
theorem dX2_circlesByThrees_77 : decode cX2_circlesByThrees 77 = .ok (.aload_n 0, 1) := by decide +kernel
theorem dX2_circlesByThrees_78 : decode cX2_circlesByThrees 78 = .ok (.getfield 22, 3) := by decide +kernel
theorem dX2_circlesByThrees_81 : decode cX2_circlesByThrees 81 = .ok (.iconst 1, 1) := by decide +kernel
theorem dX2_circlesByThrees_82 : decode cX2_circlesByThrees 82 = .ok (.laload, 1) := by decide +kernel
theorem dX2_circlesByThrees_83 : decode cX2_circlesByThrees 83 = .ok (.aload_n 0, 1) := by decide +kernel
theorem dX2_circlesByThrees_84 : decode cX2_circlesByThrees 84 = .ok (.getfield 22, 3) := by decide +kernel
theorem dX2_circlesByThrees_87 : decode cX2_circlesByThrees 87 = .ok (.iconst 2, 1) := by decide +kernel
theorem dX2_circlesByThrees_88 : decode cX2_circlesByThrees 88 = .ok (.laload, 1) := by decide +kernel
theorem dX2_circlesByThrees_89 : decode cX2_circlesByThrees 89 = .ok (.aload_n 0, 1) := by decide +kernel
theorem dX2_circlesByThrees_90 : decode cX2_circlesByThrees 90 = .ok (.getfield 22, 3) := by decide +kernel
theorem dX2_circlesByThrees_93 : decode cX2_circlesByThrees 93 = .ok (.iconst 3, 1) := by decide +kernel
theorem dX2_circlesByThrees_94 : decode cX2_circlesByThrees 94 = .ok (.laload, 1) := by decide +kernel
theorem dX2_circlesByThrees_95 : decode cX2_circlesByThrees 95 = .ok (.iload_n 1, 1) := by decide +kernel
theorem dX2_circlesByThrees_96 : decode cX2_circlesByThrees 96 = .ok (.iconst 0, 1) := by decide +kernel
theorem dX2_circlesByThrees_97 : decode cX2_circlesByThrees 97 = .ok (.invokestatic 60, 3) := by decide +kernel
theorem dX2_circlesByThrees_100 : decode cX2_circlesByThrees 100 = .ok (.iadd, 1) := by decide +kernel
theorem dX2_circlesByThrees_101 : decode cX2_circlesByThrees 101 = .ok (.ireturn, 1) := by decide +kernel
set_option maxRecDepth 20000 in
theorem ggX2_circlesAmong_X2_wholeRoot : GoodIn wsX2_circlesAmong wsX2_wholeRoot := goodIn_r _ [5, 6, 7, 8, 9, 10, 11, 12, 13, 14] (by decide +kernel) (by decide +kernel)
set_option maxRecDepth 20000 in
theorem gX2_circlesAmong_X2_wholeRoot : GoodIn wsX2_circlesAmong (va_wsS RX2 64 yX2_wholeRoot wsX2_wholeRoot) := goodIn_app (goodIn_of _ (by decide +kernel)) ggX2_circlesAmong_X2_wholeRoot
set_option maxRecDepth 20000 in
theorem ggX2_circlesAmong_X2_circlesAmong : GoodIn wsX2_circlesAmong wsX2_circlesAmong := goodIn_r _ [0, 1, 2, 3, 4, 5, 6, 7, 8, 9, 10, 11, 12, 13, 14, 15, 16] (by decide +kernel) (by decide +kernel)
set_option maxRecDepth 20000 in
theorem gX2_circlesAmong_X2_circlesAmong : GoodIn wsX2_circlesAmong (va_wsS RX2 60 yX2_circlesAmong wsX2_circlesAmong) := goodIn_app (goodIn_of _ (by decide +kernel)) ggX2_circlesAmong_X2_circlesAmong
theorem dX2_circlesAmong_0 : decode cX2_circlesAmong 0 = .ok (.lload_n 0, 1) := by decide +kernel
theorem dX2_circlesAmong_1 : decode cX2_circlesAmong 1 = .ok (.lload_n 2, 1) := by decide +kernel
theorem dX2_circlesAmong_2 : decode cX2_circlesAmong 2 = .ok (.ladd, 1) := by decide +kernel
theorem dX2_circlesAmong_3 : decode cX2_circlesAmong 3 = .ok (.lload 4, 2) := by decide +kernel
theorem dX2_circlesAmong_5 : decode cX2_circlesAmong 5 = .ok (.ladd, 1) := by decide +kernel
theorem dX2_circlesAmong_6 : decode cX2_circlesAmong 6 = .ok (.ldc2_w 35, 3) := by decide +kernel
theorem dX2_circlesAmong_9 : decode cX2_circlesAmong 9 = .ok (.lload_n 0, 1) := by decide +kernel
theorem dX2_circlesAmong_10 : decode cX2_circlesAmong 10 = .ok (.lload_n 2, 1) := by decide +kernel
theorem dX2_circlesAmong_11 : decode cX2_circlesAmong 11 = .ok (.lmul, 1) := by decide +kernel
theorem dX2_circlesAmong_12 : decode cX2_circlesAmong 12 = .ok (.lload_n 2, 1) := by decide +kernel
theorem dX2_circlesAmong_13 : decode cX2_circlesAmong 13 = .ok (.lload 4, 2) := by decide +kernel
theorem dX2_circlesAmong_15 : decode cX2_circlesAmong 15 = .ok (.lmul, 1) := by decide +kernel
theorem dX2_circlesAmong_16 : decode cX2_circlesAmong 16 = .ok (.ladd, 1) := by decide +kernel
theorem dX2_circlesAmong_17 : decode cX2_circlesAmong 17 = .ok (.lload 4, 2) := by decide +kernel
theorem dX2_circlesAmong_19 : decode cX2_circlesAmong 19 = .ok (.lload_n 0, 1) := by decide +kernel
theorem dX2_circlesAmong_20 : decode cX2_circlesAmong 20 = .ok (.lmul, 1) := by decide +kernel
theorem dX2_circlesAmong_21 : decode cX2_circlesAmong 21 = .ok (.ladd, 1) := by decide +kernel
theorem dX2_circlesAmong_22 : decode cX2_circlesAmong 22 = .ok (.invokestatic 64, 3) := by decide +kernel
theorem dX2_circlesAmong_25 : decode cX2_circlesAmong 25 = .ok (.lmul, 1) := by decide +kernel
theorem dX2_circlesAmong_26 : decode cX2_circlesAmong 26 = .ok (.ladd, 1) := by decide +kernel
theorem dX2_circlesAmong_27 : decode cX2_circlesAmong 27 = .ok (.lstore 8, 2) := by decide +kernel
theorem dX2_circlesAmong_29 : decode cX2_circlesAmong 29 = .ok (.lload 8, 2) := by decide +kernel
theorem dX2_circlesAmong_31 : decode cX2_circlesAmong 31 = .ok (.iload 6, 2) := by decide +kernel
theorem dX2_circlesAmong_33 : decode cX2_circlesAmong 33 = .ok (.i2l, 1) := by decide +kernel
theorem dX2_circlesAmong_34 : decode cX2_circlesAmong 34 = .ok (.lcmp, 1) := by decide +kernel
theorem dX2_circlesAmong_35 : decode cX2_circlesAmong 35 = .ok (.ifCond .gt 10, 3) := by decide +kernel
theorem dX2_circlesAmong_38 : decode cX2_circlesAmong 38 = .ok (.iload 7, 2) := by decide +kernel
theorem dX2_circlesAmong_40 : decode cX2_circlesAmong 40 = .ok (.bipush 100, 2) := by decide +kernel
theorem dX2_circlesAmong_42 : decode cX2_circlesAmong 42 = .ok (.if_icmp .lt 5, 3) := by decide +kernel
theorem dX2_circlesAmong_45 : decode cX2_circlesAmong 45 = .ok (.iconst 0, 1) := by decide +kernel
theorem dX2_circlesAmong_46 : decode cX2_circlesAmong 46 = .ok (.ireturn, 1) := by decide +kernel
theorem dX2_circlesAmong_47 : decode cX2_circlesAmong 47 = .ok (.iconst 1, 1) := by decide +kernel
theorem dX2_circlesAmong_48 : decode cX2_circlesAmong 48 = .ok (.lload_n 0, 1) := by decide +kernel
theorem dX2_circlesAmong_49 : decode cX2_circlesAmong 49 = .ok (.lload_n 2, 1) := by decide +kernel
theorem dX2_circlesAmong_50 : decode cX2_circlesAmong 50 = .ok (.lload 8, 2) := by decide +kernel
theorem dX2_circlesAmong_52 : decode cX2_circlesAmong 52 = .ok (.iload 6, 2) := by decide +kernel
theorem dX2_circlesAmong_54 : decode cX2_circlesAmong 54 = .ok (.iload 7, 2) := by decide +kernel
theorem dX2_circlesAmong_56 : decode cX2_circlesAmong 56 = .ok (.iconst 1, 1) := by decide +kernel
theorem dX2_circlesAmong_57 : decode cX2_circlesAmong 57 = .ok (.iadd, 1) := by decide +kernel
theorem dX2_circlesAmong_58 : decode cX2_circlesAmong 58 = .ok (.invokestatic 60, 3) := by decide +kernel
theorem dX2_circlesAmong_61 : decode cX2_circlesAmong 61 = .ok (.iadd, 1) := by decide +kernel
theorem dX2_circlesAmong_62 : decode cX2_circlesAmong 62 = .ok (.lload_n 2, 1) := by decide +kernel
theorem dX2_circlesAmong_63 : decode cX2_circlesAmong 63 = .ok (.lload 4, 2) := by decide +kernel
theorem dX2_circlesAmong_65 : decode cX2_circlesAmong 65 = .ok (.lload 8, 2) := by decide +kernel
theorem dX2_circlesAmong_67 : decode cX2_circlesAmong 67 = .ok (.iload 6, 2) := by decide +kernel
theorem dX2_circlesAmong_69 : decode cX2_circlesAmong 69 = .ok (.iload 7, 2) := by decide +kernel
theorem dX2_circlesAmong_71 : decode cX2_circlesAmong 71 = .ok (.iconst 1, 1) := by decide +kernel
theorem dX2_circlesAmong_72 : decode cX2_circlesAmong 72 = .ok (.iadd, 1) := by decide +kernel
theorem dX2_circlesAmong_73 : decode cX2_circlesAmong 73 = .ok (.invokestatic 60, 3) := by decide +kernel
theorem dX2_circlesAmong_76 : decode cX2_circlesAmong 76 = .ok (.iadd, 1) := by decide +kernel
theorem dX2_circlesAmong_77 : decode cX2_circlesAmong 77 = .ok (.lload 4, 2) := by decide +kernel
theorem dX2_circlesAmong_79 : decode cX2_circlesAmong 79 = .ok (.lload_n 0, 1) := by decide +kernel
theorem dX2_circlesAmong_80 : decode cX2_circlesAmong 80 = .ok (.lload 8, 2) := by decide +kernel
theorem dX2_circlesAmong_82 : decode cX2_circlesAmong 82 = .ok (.iload 6, 2) := by decide +kernel
theorem dX2_circlesAmong_84 : decode cX2_circlesAmong 84 = .ok (.iload 7, 2) := by decide +kernel
theorem dX2_circlesAmong_86 : decode cX2_circlesAmong 86 = .ok (.iconst 1, 1) := by decide +kernel
theorem dX2_circlesAmong_87 : decode cX2_circlesAmong 87 = .ok (.iadd, 1) := by decide +kernel
theorem dX2_circlesAmong_88 : decode cX2_circlesAmong 88 = .ok (.invokestatic 60, 3) := by decide +kernel
theorem dX2_circlesAmong_91 : decode cX2_circlesAmong 91 = .ok (.iadd, 1) := by decide +kernel
theorem dX2_circlesAmong_92 : decode cX2_circlesAmong 92 = .ok (.ireturn, 1) := by decide +kernel
set_option maxRecDepth 20000 in
theorem ggX2_wholeRoot_J13_numberOfLeadingZeros_95d88 : GoodIn wsX2_wholeRoot wsJ13_numberOfLeadingZeros_95d88 := goodIn_r _ [4, 5, 6, 7, 8, 9] (by decide +kernel) (by decide +kernel)
set_option maxRecDepth 20000 in
theorem gX2_wholeRoot_J13_numberOfLeadingZeros_95d88 : GoodIn wsX2_wholeRoot (va_wsS RX2 68 yJ13_numberOfLeadingZeros_95d88 wsJ13_numberOfLeadingZeros_95d88) := goodIn_app (goodIn_of _ (by decide +kernel)) ggX2_wholeRoot_J13_numberOfLeadingZeros_95d88
theorem dX2_wholeRoot_0 : decode cX2_wholeRoot 0 = .ok (.lconst 0, 1) := by decide +kernel
theorem dX2_wholeRoot_1 : decode cX2_wholeRoot 1 = .ok (.lstore_n 2, 1) := by decide +kernel
theorem dX2_wholeRoot_2 : decode cX2_wholeRoot 2 = .ok (.bipush 64, 2) := by decide +kernel
theorem dX2_wholeRoot_4 : decode cX2_wholeRoot 4 = .ok (.lload_n 0, 1) := by decide +kernel
theorem dX2_wholeRoot_5 : decode cX2_wholeRoot 5 = .ok (.invokestatic 68, 3) := by decide +kernel
theorem dX2_wholeRoot_8 : decode cX2_wholeRoot 8 = .ok (.isub, 1) := by decide +kernel
theorem dX2_wholeRoot_9 : decode cX2_wholeRoot 9 = .ok (.iconst 2, 1) := by decide +kernel
theorem dX2_wholeRoot_10 : decode cX2_wholeRoot 10 = .ok (.idiv, 1) := by decide +kernel
theorem dX2_wholeRoot_11 : decode cX2_wholeRoot 11 = .ok (.istore 4, 2) := by decide +kernel
theorem dX2_wholeRoot_13 : decode cX2_wholeRoot 13 = .ok (.iload 4, 2) := by decide +kernel
theorem dX2_wholeRoot_15 : decode cX2_wholeRoot 15 = .ok (.ifCond .lt 30, 3) := by decide +kernel
theorem dX2_wholeRoot_18 : decode cX2_wholeRoot 18 = .ok (.lload_n 2, 1) := by decide +kernel
theorem dX2_wholeRoot_19 : decode cX2_wholeRoot 19 = .ok (.lconst 1, 1) := by decide +kernel
theorem dX2_wholeRoot_20 : decode cX2_wholeRoot 20 = .ok (.iload 4, 2) := by decide +kernel
theorem dX2_wholeRoot_22 : decode cX2_wholeRoot 22 = .ok (.lshl, 1) := by decide +kernel
theorem dX2_wholeRoot_23 : decode cX2_wholeRoot 23 = .ok (.ladd, 1) := by decide +kernel
theorem dX2_wholeRoot_24 : decode cX2_wholeRoot 24 = .ok (.lstore 5, 2) := by decide +kernel
theorem dX2_wholeRoot_26 : decode cX2_wholeRoot 26 = .ok (.lload 5, 2) := by decide +kernel
theorem dX2_wholeRoot_28 : decode cX2_wholeRoot 28 = .ok (.lload 5, 2) := by decide +kernel
theorem dX2_wholeRoot_30 : decode cX2_wholeRoot 30 = .ok (.lmul, 1) := by decide +kernel
theorem dX2_wholeRoot_31 : decode cX2_wholeRoot 31 = .ok (.lload_n 0, 1) := by decide +kernel
theorem dX2_wholeRoot_32 : decode cX2_wholeRoot 32 = .ok (.lcmp, 1) := by decide +kernel
theorem dX2_wholeRoot_33 : decode cX2_wholeRoot 33 = .ok (.ifCond .gt 6, 3) := by decide +kernel
theorem dX2_wholeRoot_36 : decode cX2_wholeRoot 36 = .ok (.lload 5, 2) := by decide +kernel
theorem dX2_wholeRoot_38 : decode cX2_wholeRoot 38 = .ok (.lstore_n 2, 1) := by decide +kernel
theorem dX2_wholeRoot_39 : decode cX2_wholeRoot 39 = .ok (.iinc 4 (-1), 3) := by decide +kernel
theorem dX2_wholeRoot_42 : decode cX2_wholeRoot 42 = .ok (.goto (-29), 3) := by decide +kernel
theorem dX2_wholeRoot_45 : decode cX2_wholeRoot 45 = .ok (.lload_n 2, 1) := by decide +kernel
theorem dX2_wholeRoot_46 : decode cX2_wholeRoot 46 = .ok (.lreturn, 1) := by decide +kernel
set_option maxRecDepth 20000 in
theorem ggX3_init_J7_fill_53178 : GoodIn wsX3_init wsJ7_fill_53178 := goodIn_r _ [13] (by decide +kernel) (by decide +kernel)
set_option maxRecDepth 20000 in
theorem gX3_init_J7_fill_53178 : GoodIn wsX3_init (va_wsS RX3 18 yJ7_fill_53178 wsJ7_fill_53178) := goodIn_app (goodIn_of _ (by decide +kernel)) ggX3_init_J7_fill_53178
set_option maxRecDepth 20000 in
theorem ggX3_init_X3_putFace : GoodIn wsX3_init wsX3_putFace := goodIn_r _ [18, 19, 20, 21, 17, 22, 5, 23, 24, 25, 26, 6, 27, 28, 29, 30] (by decide +kernel) (by decide +kernel)
set_option maxRecDepth 20000 in
theorem gX3_init_X3_putFace : GoodIn wsX3_init (wsV RX3 34 RX3 yX3_putFace wsX3_putFace) := goodIn_app (goodIn_of _ (by decide +kernel)) ggX3_init_X3_putFace
theorem dX3_init_0 : decode cX3_init 0 = .ok (.aload_n 0, 1) := by decide +kernel
theorem dX3_init_1 : decode cX3_init 1 = .ok (.invokespecial 5, 3) := by decide +kernel
theorem dX3_init_4 : decode cX3_init 4 = .ok (.aload_n 0, 1) := by decide +kernel
theorem dX3_init_5 : decode cX3_init 5 = .ok (.bipush 84, 2) := by decide +kernel
theorem dX3_init_7 : decode cX3_init 7 = .ok (.newarray .int, 2) := by decide +kernel
theorem dX3_init_9 : decode cX3_init 9 = .ok (.putfield 11, 3) := by decide +kernel
theorem dX3_init_12 : decode cX3_init 12 = .ok (.aload_n 0, 1) := by decide +kernel
theorem dX3_init_13 : decode cX3_init 13 = .ok (.sipush 256, 3) := by decide +kernel
theorem dX3_init_16 : decode cX3_init 16 = .ok (.newarray .int, 2) := by decide +kernel
theorem dX3_init_18 : decode cX3_init 18 = .ok (.putfield 15, 3) := by decide +kernel
theorem dX3_init_21 : decode cX3_init 21 = .ok (.aload_n 0, 1) := by decide +kernel
theorem dX3_init_22 : decode cX3_init 22 = .ok (.getfield 15, 3) := by decide +kernel
theorem dX3_init_25 : decode cX3_init 25 = .ok (.iconst (-1), 1) := by decide +kernel
theorem dX3_init_26 : decode cX3_init 26 = .ok (.invokestatic 18, 3) := by decide +kernel
theorem dX3_init_29 : decode cX3_init 29 = .ok (.aload_n 0, 1) := by decide +kernel
theorem dX3_init_30 : decode cX3_init 30 = .ok (.iconst 4, 1) := by decide +kernel
theorem dX3_init_31 : decode cX3_init 31 = .ok (.putfield 24, 3) := by decide +kernel
theorem dX3_init_34 : decode cX3_init 34 = .ok (.aload_n 0, 1) := by decide +kernel
theorem dX3_init_35 : decode cX3_init 35 = .ok (.iconst 4, 1) := by decide +kernel
theorem dX3_init_36 : decode cX3_init 36 = .ok (.putfield 28, 3) := by decide +kernel
theorem dX3_init_39 : decode cX3_init 39 = .ok (.iconst 0, 1) := by decide +kernel
theorem dX3_init_40 : decode cX3_init 40 = .ok (.istore_n 1, 1) := by decide +kernel
theorem dX3_init_41 : decode cX3_init 41 = .ok (.iload_n 1, 1) := by decide +kernel
theorem dX3_init_42 : decode cX3_init 42 = .ok (.aload_n 0, 1) := by decide +kernel
theorem dX3_init_43 : decode cX3_init 43 = .ok (.getfield 28, 3) := by decide +kernel
theorem dX3_init_46 : decode cX3_init 46 = .ok (.if_icmp .ge 39, 3) := by decide +kernel
theorem dX3_init_49 : decode cX3_init 49 = .ok (.aload_n 0, 1) := by decide +kernel
theorem dX3_init_50 : decode cX3_init 50 = .ok (.iload_n 1, 1) := by decide +kernel
theorem dX3_init_51 : decode cX3_init 51 = .ok (.getstatic 31, 3) := by decide +kernel
theorem dX3_init_54 : decode cX3_init 54 = .ok (.iconst 3, 1) := by decide +kernel
theorem dX3_init_55 : decode cX3_init 55 = .ok (.iload_n 1, 1) := by decide +kernel
theorem dX3_init_56 : decode cX3_init 56 = .ok (.imul, 1) := by decide +kernel
theorem dX3_init_57 : decode cX3_init 57 = .ok (.iaload, 1) := by decide +kernel
theorem dX3_init_58 : decode cX3_init 58 = .ok (.getstatic 31, 3) := by decide +kernel
theorem dX3_init_61 : decode cX3_init 61 = .ok (.iconst 3, 1) := by decide +kernel
theorem dX3_init_62 : decode cX3_init 62 = .ok (.iload_n 1, 1) := by decide +kernel
theorem dX3_init_63 : decode cX3_init 63 = .ok (.imul, 1) := by decide +kernel
theorem dX3_init_64 : decode cX3_init 64 = .ok (.iconst 1, 1) := by decide +kernel
theorem dX3_init_65 : decode cX3_init 65 = .ok (.iadd, 1) := by decide +kernel
theorem dX3_init_66 : decode cX3_init 66 = .ok (.iaload, 1) := by decide +kernel
theorem dX3_init_67 : decode cX3_init 67 = .ok (.getstatic 31, 3) := by decide +kernel
theorem dX3_init_70 : decode cX3_init 70 = .ok (.iconst 3, 1) := by decide +kernel
theorem dX3_init_71 : decode cX3_init 71 = .ok (.iload_n 1, 1) := by decide +kernel
theorem dX3_init_72 : decode cX3_init 72 = .ok (.imul, 1) := by decide +kernel
theorem dX3_init_73 : decode cX3_init 73 = .ok (.iconst 2, 1) := by decide +kernel
theorem dX3_init_74 : decode cX3_init 74 = .ok (.iadd, 1) := by decide +kernel
theorem dX3_init_75 : decode cX3_init 75 = .ok (.iaload, 1) := by decide +kernel
theorem dX3_init_76 : decode cX3_init 76 = .ok (.invokevirtual 34, 3) := by decide +kernel
theorem dX3_init_79 : decode cX3_init 79 = .ok (.iinc 1 1, 3) := by decide +kernel
theorem dX3_init_82 : decode cX3_init 82 = .ok (.goto (-41), 3) := by decide +kernel
theorem dX3_init_85 : decode cX3_init 85 = .ok (.return_, 1) := by decide +kernel
theorem dX3_hasFace_0 : decode cX3_hasFace 0 = .ok (.iload_n 1, 1) := by decide +kernel
theorem dX3_hasFace_1 : decode cX3_hasFace 1 = .ok (.ifCond .lt 15, 3) := by decide +kernel
theorem dX3_hasFace_4 : decode cX3_hasFace 4 = .ok (.iload_n 1, 1) := by decide +kernel
theorem dX3_hasFace_5 : decode cX3_hasFace 5 = .ok (.aload_n 0, 1) := by decide +kernel
theorem dX3_hasFace_6 : decode cX3_hasFace 6 = .ok (.getfield 28, 3) := by decide +kernel
theorem dX3_hasFace_9 : decode cX3_hasFace 9 = .ok (.if_icmp .ge 7, 3) := by decide +kernel
theorem dX3_hasFace_12 : decode cX3_hasFace 12 = .ok (.iconst 1, 1) := by decide +kernel
theorem dX3_hasFace_13 : decode cX3_hasFace 13 = .ok (.goto 4, 3) := by decide +kernel
theorem dX3_hasFace_16 : decode cX3_hasFace 16 = .ok (.iconst 0, 1) := by decide +kernel
theorem dX3_hasFace_17 : decode cX3_hasFace 17 = .ok (.ireturn, 1) := by decide +kernel
theorem dX3_hasCorner_0 : decode cX3_hasCorner 0 = .ok (.iload_n 1, 1) := by decide +kernel
theorem dX3_hasCorner_1 : decode cX3_hasCorner 1 = .ok (.ifCond .lt 15, 3) := by decide +kernel
theorem dX3_hasCorner_4 : decode cX3_hasCorner 4 = .ok (.iload_n 1, 1) := by decide +kernel
theorem dX3_hasCorner_5 : decode cX3_hasCorner 5 = .ok (.aload_n 0, 1) := by decide +kernel
theorem dX3_hasCorner_6 : decode cX3_hasCorner 6 = .ok (.getfield 24, 3) := by decide +kernel
theorem dX3_hasCorner_9 : decode cX3_hasCorner 9 = .ok (.if_icmp .ge 7, 3) := by decide +kernel
theorem dX3_hasCorner_12 : decode cX3_hasCorner 12 = .ok (.iconst 1, 1) := by decide +kernel
theorem dX3_hasCorner_13 : decode cX3_hasCorner 13 = .ok (.goto 4, 3) := by decide +kernel
theorem dX3_hasCorner_16 : decode cX3_hasCorner 16 = .ok (.iconst 0, 1) := by decide +kernel
theorem dX3_hasCorner_17 : decode cX3_hasCorner 17 = .ok (.ireturn, 1) := by decide +kernel
theorem dX3_isFull_0 : decode cX3_isFull 0 = .ok (.aload_n 0, 1) := by decide +kernel
theorem dX3_isFull_1 : decode cX3_isFull 1 = .ok (.getfield 24, 3) := by decide +kernel
theorem dX3_isFull_4 : decode cX3_isFull 4 = .ok (.bipush 16, 2) := by decide +kernel
theorem dX3_isFull_6 : decode cX3_isFull 6 = .ok (.if_icmp .lt 7, 3) := by decide +kernel
theorem dX3_isFull_9 : decode cX3_isFull 9 = .ok (.iconst 1, 1) := by decide +kernel
theorem dX3_isFull_10 : decode cX3_isFull 10 = .ok (.goto 4, 3) := by decide +kernel
theorem dX3_isFull_13 : decode cX3_isFull 13 = .ok (.iconst 0, 1) := by decide +kernel
theorem dX3_isFull_14 : decode cX3_isFull 14 = .ok (.ireturn, 1) := by decide +kernel
theorem dX3_cornerOf_0 : decode cX3_cornerOf 0 = .ok (.aload_n 0, 1) := by decide +kernel
theorem dX3_cornerOf_1 : decode cX3_cornerOf 1 = .ok (.getfield 11, 3) := by decide +kernel
theorem dX3_cornerOf_4 : decode cX3_cornerOf 4 = .ok (.iconst 3, 1) := by decide +kernel
theorem dX3_cornerOf_5 : decode cX3_cornerOf 5 = .ok (.iload_n 1, 1) := by decide +kernel
theorem dX3_cornerOf_6 : decode cX3_cornerOf 6 = .ok (.imul, 1) := by decide +kernel
theorem dX3_cornerOf_7 : decode cX3_cornerOf 7 = .ok (.iload_n 2, 1) := by decide +kernel
theorem dX3_cornerOf_8 : decode cX3_cornerOf 8 = .ok (.iadd, 1) := by decide +kernel
theorem dX3_cornerOf_9 : decode cX3_cornerOf 9 = .ok (.iaload, 1) := by decide +kernel
theorem dX3_cornerOf_10 : decode cX3_cornerOf 10 = .ok (.ireturn, 1) := by decide +kernel
set_option maxRecDepth 20000 in
theorem ggX3_splitFace_X3_cornerOf : GoodIn wsX3_splitFace wsX3_cornerOf := goodIn_r _ [7, 8, 22, 23, 24, 25] (by decide +kernel) (by decide +kernel)
set_option maxRecDepth 20000 in
theorem gX3_splitFace_X3_cornerOf : GoodIn wsX3_splitFace (wsV RX3 38 RX3 yX3_cornerOf wsX3_cornerOf) := goodIn_app (goodIn_of _ (by decide +kernel)) ggX3_splitFace_X3_cornerOf
set_option maxRecDepth 20000 in
theorem ggX3_splitFace_X3_putFace : GoodIn wsX3_splitFace wsX3_putFace := goodIn_r _ [12, 13, 14, 15, 6, 16, 8, 17, 18, 19, 20, 21, 22, 23, 24, 25] (by decide +kernel) (by decide +kernel)
set_option maxRecDepth 20000 in
theorem gX3_splitFace_X3_putFace : GoodIn wsX3_splitFace (wsV RX3 34 RX3 yX3_putFace wsX3_putFace) := goodIn_app (goodIn_of _ (by decide +kernel)) ggX3_splitFace_X3_putFace
theorem dX3_splitFace_0 : decode cX3_splitFace 0 = .ok (.aload_n 0, 1) := by decide +kernel
theorem dX3_splitFace_1 : decode cX3_splitFace 1 = .ok (.iload_n 1, 1) := by decide +kernel
theorem dX3_splitFace_2 : decode cX3_splitFace 2 = .ok (.iconst 0, 1) := by decide +kernel
theorem dX3_splitFace_3 : decode cX3_splitFace 3 = .ok (.invokevirtual 38, 3) := by decide +kernel
theorem dX3_splitFace_6 : decode cX3_splitFace 6 = .ok (.istore_n 2, 1) := by decide +kernel
theorem dX3_splitFace_7 : decode cX3_splitFace 7 = .ok (.aload_n 0, 1) := by decide +kernel
theorem dX3_splitFace_8 : decode cX3_splitFace 8 = .ok (.iload_n 1, 1) := by decide +kernel
theorem dX3_splitFace_9 : decode cX3_splitFace 9 = .ok (.iconst 1, 1) := by decide +kernel
theorem dX3_splitFace_10 : decode cX3_splitFace 10 = .ok (.invokevirtual 38, 3) := by decide +kernel
theorem dX3_splitFace_13 : decode cX3_splitFace 13 = .ok (.istore_n 3, 1) := by decide +kernel
theorem dX3_splitFace_14 : decode cX3_splitFace 14 = .ok (.aload_n 0, 1) := by decide +kernel
theorem dX3_splitFace_15 : decode cX3_splitFace 15 = .ok (.iload_n 1, 1) := by decide +kernel
theorem dX3_splitFace_16 : decode cX3_splitFace 16 = .ok (.iconst 2, 1) := by decide +kernel
theorem dX3_splitFace_17 : decode cX3_splitFace 17 = .ok (.invokevirtual 38, 3) := by decide +kernel
theorem dX3_splitFace_20 : decode cX3_splitFace 20 = .ok (.istore 4, 2) := by decide +kernel
theorem dX3_splitFace_22 : decode cX3_splitFace 22 = .ok (.aload_n 0, 1) := by decide +kernel
theorem dX3_splitFace_23 : decode cX3_splitFace 23 = .ok (.getfield 24, 3) := by decide +kernel
theorem dX3_splitFace_26 : decode cX3_splitFace 26 = .ok (.istore 5, 2) := by decide +kernel
theorem dX3_splitFace_28 : decode cX3_splitFace 28 = .ok (.aload_n 0, 1) := by decide +kernel
theorem dX3_splitFace_29 : decode cX3_splitFace 29 = .ok (.iload_n 1, 1) := by decide +kernel
theorem dX3_splitFace_30 : decode cX3_splitFace 30 = .ok (.iload_n 2, 1) := by decide +kernel
theorem dX3_splitFace_31 : decode cX3_splitFace 31 = .ok (.iload_n 3, 1) := by decide +kernel
theorem dX3_splitFace_32 : decode cX3_splitFace 32 = .ok (.iload 5, 2) := by decide +kernel
theorem dX3_splitFace_34 : decode cX3_splitFace 34 = .ok (.invokevirtual 34, 3) := by decide +kernel
theorem dX3_splitFace_37 : decode cX3_splitFace 37 = .ok (.aload_n 0, 1) := by decide +kernel
theorem dX3_splitFace_38 : decode cX3_splitFace 38 = .ok (.aload_n 0, 1) := by decide +kernel
theorem dX3_splitFace_39 : decode cX3_splitFace 39 = .ok (.getfield 28, 3) := by decide +kernel
theorem dX3_splitFace_42 : decode cX3_splitFace 42 = .ok (.iload_n 3, 1) := by decide +kernel
theorem dX3_splitFace_43 : decode cX3_splitFace 43 = .ok (.iload 4, 2) := by decide +kernel
theorem dX3_splitFace_45 : decode cX3_splitFace 45 = .ok (.iload 5, 2) := by decide +kernel
theorem dX3_splitFace_47 : decode cX3_splitFace 47 = .ok (.invokevirtual 34, 3) := by decide +kernel
theorem dX3_splitFace_50 : decode cX3_splitFace 50 = .ok (.aload_n 0, 1) := by decide +kernel
theorem dX3_splitFace_51 : decode cX3_splitFace 51 = .ok (.aload_n 0, 1) := by decide +kernel
theorem dX3_splitFace_52 : decode cX3_splitFace 52 = .ok (.getfield 28, 3) := by decide +kernel
theorem dX3_splitFace_55 : decode cX3_splitFace 55 = .ok (.iconst 1, 1) := by decide +kernel
theorem dX3_splitFace_56 : decode cX3_splitFace 56 = .ok (.iadd, 1) := by decide +kernel
theorem dX3_splitFace_57 : decode cX3_splitFace 57 = .ok (.iload 4, 2) := by decide +kernel
theorem dX3_splitFace_59 : decode cX3_splitFace 59 = .ok (.iload_n 2, 1) := by decide +kernel
theorem dX3_splitFace_60 : decode cX3_splitFace 60 = .ok (.iload 5, 2) := by decide +kernel
theorem dX3_splitFace_62 : decode cX3_splitFace 62 = .ok (.invokevirtual 34, 3) := by decide +kernel
theorem dX3_splitFace_65 : decode cX3_splitFace 65 = .ok (.aload_n 0, 1) := by decide +kernel
theorem dX3_splitFace_66 : decode cX3_splitFace 66 = .ok (.dup, 1) := by decide +kernel
theorem dX3_splitFace_67 : decode cX3_splitFace 67 = .ok (.getfield 24, 3) := by decide +kernel
theorem dX3_splitFace_70 : decode cX3_splitFace 70 = .ok (.iconst 1, 1) := by decide +kernel
theorem dX3_splitFace_71 : decode cX3_splitFace 71 = .ok (.iadd, 1) := by decide +kernel
theorem dX3_splitFace_72 : decode cX3_splitFace 72 = .ok (.putfield 24, 3) := by decide +kernel
theorem dX3_splitFace_75 : decode cX3_splitFace 75 = .ok (.aload_n 0, 1) := by decide +kernel
theorem dX3_splitFace_76 : decode cX3_splitFace 76 = .ok (.dup, 1) := by decide +kernel
theorem dX3_splitFace_77 : decode cX3_splitFace 77 = .ok (.getfield 28, 3) := by decide +kernel
theorem dX3_splitFace_80 : decode cX3_splitFace 80 = .ok (.iconst 2, 1) := by decide +kernel
theorem dX3_splitFace_81 : decode cX3_splitFace 81 = .ok (.iadd, 1) := by decide +kernel
theorem dX3_splitFace_82 : decode cX3_splitFace 82 = .ok (.putfield 28, 3) := by decide +kernel
theorem dX3_splitFace_85 : decode cX3_splitFace 85 = .ok (.iload 5, 2) := by decide +kernel
theorem dX3_splitFace_87 : decode cX3_splitFace 87 = .ok (.ireturn, 1) := by decide +kernel
set_option maxRecDepth 20000 in
theorem ggX3_putFace_X3_putCorners : GoodIn wsX3_putFace wsX3_putCorners := goodIn_r _ [5, 6, 7, 8, 9, 4, 10, 11, 12, 13, 14, 15] (by decide +kernel) (by decide +kernel)
set_option maxRecDepth 20000 in
theorem gX3_putFace_X3_putCorners : GoodIn wsX3_putFace (wsV RX3 42 RX3 yX3_putCorners wsX3_putCorners) := goodIn_app (goodIn_of _ (by decide +kernel)) ggX3_putFace_X3_putCorners
theorem dX3_putFace_0 : decode cX3_putFace 0 = .ok (.iload_n 2, 1) := by decide +kernel
theorem dX3_putFace_1 : decode cX3_putFace 1 = .ok (.iload_n 3, 1) := by decide +kernel
theorem dX3_putFace_2 : decode cX3_putFace 2 = .ok (.if_icmp .ge 21, 3) := by decide +kernel
theorem dX3_putFace_5 : decode cX3_putFace 5 = .ok (.iload_n 2, 1) := by decide +kernel
theorem dX3_putFace_6 : decode cX3_putFace 6 = .ok (.iload 4, 2) := by decide +kernel
theorem dX3_putFace_8 : decode cX3_putFace 8 = .ok (.if_icmp .ge 15, 3) := by decide +kernel
theorem dX3_putFace_11 : decode cX3_putFace 11 = .ok (.aload_n 0, 1) := by decide +kernel
theorem dX3_putFace_12 : decode cX3_putFace 12 = .ok (.iload_n 1, 1) := by decide +kernel
theorem dX3_putFace_13 : decode cX3_putFace 13 = .ok (.iload_n 2, 1) := by decide +kernel
theorem dX3_putFace_14 : decode cX3_putFace 14 = .ok (.iload_n 3, 1) := by decide +kernel
theorem dX3_putFace_15 : decode cX3_putFace 15 = .ok (.iload 4, 2) := by decide +kernel
theorem dX3_putFace_17 : decode cX3_putFace 17 = .ok (.invokevirtual 42, 3) := by decide +kernel
theorem dX3_putFace_20 : decode cX3_putFace 20 = .ok (.goto 30, 3) := by decide +kernel
theorem dX3_putFace_23 : decode cX3_putFace 23 = .ok (.iload_n 3, 1) := by decide +kernel
theorem dX3_putFace_24 : decode cX3_putFace 24 = .ok (.iload 4, 2) := by decide +kernel
theorem dX3_putFace_26 : decode cX3_putFace 26 = .ok (.if_icmp .ge 15, 3) := by decide +kernel
theorem dX3_putFace_29 : decode cX3_putFace 29 = .ok (.aload_n 0, 1) := by decide +kernel
theorem dX3_putFace_30 : decode cX3_putFace 30 = .ok (.iload_n 1, 1) := by decide +kernel
theorem dX3_putFace_31 : decode cX3_putFace 31 = .ok (.iload_n 3, 1) := by decide +kernel
theorem dX3_putFace_32 : decode cX3_putFace 32 = .ok (.iload 4, 2) := by decide +kernel
theorem dX3_putFace_34 : decode cX3_putFace 34 = .ok (.iload_n 2, 1) := by decide +kernel
theorem dX3_putFace_35 : decode cX3_putFace 35 = .ok (.invokevirtual 42, 3) := by decide +kernel
theorem dX3_putFace_38 : decode cX3_putFace 38 = .ok (.goto 12, 3) := by decide +kernel
theorem dX3_putFace_41 : decode cX3_putFace 41 = .ok (.aload_n 0, 1) := by decide +kernel
theorem dX3_putFace_42 : decode cX3_putFace 42 = .ok (.iload_n 1, 1) := by decide +kernel
theorem dX3_putFace_43 : decode cX3_putFace 43 = .ok (.iload 4, 2) := by decide +kernel
theorem dX3_putFace_45 : decode cX3_putFace 45 = .ok (.iload_n 2, 1) := by decide +kernel
theorem dX3_putFace_46 : decode cX3_putFace 46 = .ok (.iload_n 3, 1) := by decide +kernel
theorem dX3_putFace_47 : decode cX3_putFace 47 = .ok (.invokevirtual 42, 3) := by decide +kernel
theorem dX3_putFace_50 : decode cX3_putFace 50 = .ok (.return_, 1) := by decide +kernel
set_option maxRecDepth 20000 in
theorem ggX3_putCorners_X3_putThird : GoodIn wsX3_putCorners wsX3_putThird := goodIn_r _ [6, 7, 8, 9, 10, 11] (by decide +kernel) (by decide +kernel)
set_option maxRecDepth 20000 in
theorem gX3_putCorners_X3_putThird : GoodIn wsX3_putCorners (wsV RX3 45 RX3 yX3_putThird wsX3_putThird) := goodIn_app (goodIn_of _ (by decide +kernel)) ggX3_putCorners_X3_putThird
theorem dX3_putCorners_0 : decode cX3_putCorners 0 = .ok (.aload_n 0, 1) := by decide +kernel
theorem dX3_putCorners_1 : decode cX3_putCorners 1 = .ok (.getfield 11, 3) := by decide +kernel
theorem dX3_putCorners_4 : decode cX3_putCorners 4 = .ok (.iconst 3, 1) := by decide +kernel
theorem dX3_putCorners_5 : decode cX3_putCorners 5 = .ok (.iload_n 1, 1) := by decide +kernel
theorem dX3_putCorners_6 : decode cX3_putCorners 6 = .ok (.imul, 1) := by decide +kernel
theorem dX3_putCorners_7 : decode cX3_putCorners 7 = .ok (.iload_n 2, 1) := by decide +kernel
theorem dX3_putCorners_8 : decode cX3_putCorners 8 = .ok (.iastore, 1) := by decide +kernel
theorem dX3_putCorners_9 : decode cX3_putCorners 9 = .ok (.aload_n 0, 1) := by decide +kernel
theorem dX3_putCorners_10 : decode cX3_putCorners 10 = .ok (.getfield 11, 3) := by decide +kernel
theorem dX3_putCorners_13 : decode cX3_putCorners 13 = .ok (.iconst 3, 1) := by decide +kernel
theorem dX3_putCorners_14 : decode cX3_putCorners 14 = .ok (.iload_n 1, 1) := by decide +kernel
theorem dX3_putCorners_15 : decode cX3_putCorners 15 = .ok (.imul, 1) := by decide +kernel
theorem dX3_putCorners_16 : decode cX3_putCorners 16 = .ok (.iconst 1, 1) := by decide +kernel
theorem dX3_putCorners_17 : decode cX3_putCorners 17 = .ok (.iadd, 1) := by decide +kernel
theorem dX3_putCorners_18 : decode cX3_putCorners 18 = .ok (.iload_n 3, 1) := by decide +kernel
theorem dX3_putCorners_19 : decode cX3_putCorners 19 = .ok (.iastore, 1) := by decide +kernel
theorem dX3_putCorners_20 : decode cX3_putCorners 20 = .ok (.aload_n 0, 1) := by decide +kernel
theorem dX3_putCorners_21 : decode cX3_putCorners 21 = .ok (.getfield 11, 3) := by decide +kernel
theorem dX3_putCorners_24 : decode cX3_putCorners 24 = .ok (.iconst 3, 1) := by decide +kernel
theorem dX3_putCorners_25 : decode cX3_putCorners 25 = .ok (.iload_n 1, 1) := by decide +kernel
theorem dX3_putCorners_26 : decode cX3_putCorners 26 = .ok (.imul, 1) := by decide +kernel
theorem dX3_putCorners_27 : decode cX3_putCorners 27 = .ok (.iconst 2, 1) := by decide +kernel
theorem dX3_putCorners_28 : decode cX3_putCorners 28 = .ok (.iadd, 1) := by decide +kernel
theorem dX3_putCorners_29 : decode cX3_putCorners 29 = .ok (.iload 4, 2) := by decide +kernel
theorem dX3_putCorners_31 : decode cX3_putCorners 31 = .ok (.iastore, 1) := by decide +kernel
theorem dX3_putCorners_32 : decode cX3_putCorners 32 = .ok (.aload_n 0, 1) := by decide +kernel
theorem dX3_putCorners_33 : decode cX3_putCorners 33 = .ok (.iload_n 2, 1) := by decide +kernel
theorem dX3_putCorners_34 : decode cX3_putCorners 34 = .ok (.iload_n 3, 1) := by decide +kernel
theorem dX3_putCorners_35 : decode cX3_putCorners 35 = .ok (.iload 4, 2) := by decide +kernel
theorem dX3_putCorners_37 : decode cX3_putCorners 37 = .ok (.invokevirtual 45, 3) := by decide +kernel
theorem dX3_putCorners_40 : decode cX3_putCorners 40 = .ok (.aload_n 0, 1) := by decide +kernel
theorem dX3_putCorners_41 : decode cX3_putCorners 41 = .ok (.iload_n 3, 1) := by decide +kernel
theorem dX3_putCorners_42 : decode cX3_putCorners 42 = .ok (.iload 4, 2) := by decide +kernel
theorem dX3_putCorners_44 : decode cX3_putCorners 44 = .ok (.iload_n 2, 1) := by decide +kernel
theorem dX3_putCorners_45 : decode cX3_putCorners 45 = .ok (.invokevirtual 45, 3) := by decide +kernel
theorem dX3_putCorners_48 : decode cX3_putCorners 48 = .ok (.aload_n 0, 1) := by decide +kernel
theorem dX3_putCorners_49 : decode cX3_putCorners 49 = .ok (.iload 4, 2) := by decide +kernel
theorem dX3_putCorners_51 : decode cX3_putCorners 51 = .ok (.iload_n 2, 1) := by decide +kernel
theorem dX3_putCorners_52 : decode cX3_putCorners 52 = .ok (.iload_n 3, 1) := by decide +kernel
theorem dX3_putCorners_53 : decode cX3_putCorners 53 = .ok (.invokevirtual 45, 3) := by decide +kernel
theorem dX3_putCorners_56 : decode cX3_putCorners 56 = .ok (.return_, 1) := by decide +kernel
theorem dX3_putThird_0 : decode cX3_putThird 0 = .ok (.aload_n 0, 1) := by decide +kernel
theorem dX3_putThird_1 : decode cX3_putThird 1 = .ok (.getfield 15, 3) := by decide +kernel
theorem dX3_putThird_4 : decode cX3_putThird 4 = .ok (.bipush 16, 2) := by decide +kernel
theorem dX3_putThird_6 : decode cX3_putThird 6 = .ok (.iload_n 1, 1) := by decide +kernel
theorem dX3_putThird_7 : decode cX3_putThird 7 = .ok (.imul, 1) := by decide +kernel
theorem dX3_putThird_8 : decode cX3_putThird 8 = .ok (.iload_n 2, 1) := by decide +kernel
theorem dX3_putThird_9 : decode cX3_putThird 9 = .ok (.iadd, 1) := by decide +kernel
theorem dX3_putThird_10 : decode cX3_putThird 10 = .ok (.iload_n 3, 1) := by decide +kernel
theorem dX3_putThird_11 : decode cX3_putThird 11 = .ok (.iastore, 1) := by decide +kernel
theorem dX3_putThird_12 : decode cX3_putThird 12 = .ok (.return_, 1) := by decide +kernel
set_option maxRecDepth 20000 in
theorem ggX3_thirdOf_X3_hasCorner : GoodIn wsX3_thirdOf wsX3_hasCorner := goodIn_r _ [6, 7, 8, 9, 10, 11] (by decide +kernel) (by decide +kernel)
set_option maxRecDepth 20000 in
theorem gX3_thirdOf_X3_hasCorner : GoodIn wsX3_thirdOf (wsV RX3 49 RX3 yX3_hasCorner wsX3_hasCorner) := goodIn_app (goodIn_of _ (by decide +kernel)) ggX3_thirdOf_X3_hasCorner
theorem dX3_thirdOf_0 : decode cX3_thirdOf 0 = .ok (.aload_n 0, 1) := by decide +kernel
theorem dX3_thirdOf_1 : decode cX3_thirdOf 1 = .ok (.iload_n 1, 1) := by decide +kernel
theorem dX3_thirdOf_2 : decode cX3_thirdOf 2 = .ok (.invokevirtual 49, 3) := by decide +kernel
theorem dX3_thirdOf_5 : decode cX3_thirdOf 5 = .ok (.ifCond .eq 25, 3) := by decide +kernel
theorem dX3_thirdOf_8 : decode cX3_thirdOf 8 = .ok (.aload_n 0, 1) := by decide +kernel
theorem dX3_thirdOf_9 : decode cX3_thirdOf 9 = .ok (.iload_n 2, 1) := by decide +kernel
theorem dX3_thirdOf_10 : decode cX3_thirdOf 10 = .ok (.invokevirtual 49, 3) := by decide +kernel
theorem dX3_thirdOf_13 : decode cX3_thirdOf 13 = .ok (.ifCond .eq 17, 3) := by decide +kernel
theorem dX3_thirdOf_16 : decode cX3_thirdOf 16 = .ok (.aload_n 0, 1) := by decide +kernel
theorem dX3_thirdOf_17 : decode cX3_thirdOf 17 = .ok (.getfield 15, 3) := by decide +kernel
theorem dX3_thirdOf_20 : decode cX3_thirdOf 20 = .ok (.bipush 16, 2) := by decide +kernel
theorem dX3_thirdOf_22 : decode cX3_thirdOf 22 = .ok (.iload_n 1, 1) := by decide +kernel
theorem dX3_thirdOf_23 : decode cX3_thirdOf 23 = .ok (.imul, 1) := by decide +kernel
theorem dX3_thirdOf_24 : decode cX3_thirdOf 24 = .ok (.iload_n 2, 1) := by decide +kernel
theorem dX3_thirdOf_25 : decode cX3_thirdOf 25 = .ok (.iadd, 1) := by decide +kernel
theorem dX3_thirdOf_26 : decode cX3_thirdOf 26 = .ok (.iaload, 1) := by decide +kernel
theorem dX3_thirdOf_27 : decode cX3_thirdOf 27 = .ok (.goto 4, 3) := by decide +kernel
theorem dX3_thirdOf_30 : decode cX3_thirdOf 30 = .ok (.iconst (-1), 1) := by decide +kernel
theorem dX3_thirdOf_31 : decode cX3_thirdOf 31 = .ok (.ireturn, 1) := by decide +kernel
set_option maxRecDepth 20000 in
theorem ggX3_areNeighbours_X3_thirdOf : GoodIn wsX3_areNeighbours wsX3_thirdOf := goodIn_r _ [5, 6, 7, 8, 9, 4, 10, 11, 12, 13, 14, 15] (by decide +kernel) (by decide +kernel)
set_option maxRecDepth 20000 in
theorem gX3_areNeighbours_X3_thirdOf : GoodIn wsX3_areNeighbours (wsV RX3 53 RX3 yX3_thirdOf wsX3_thirdOf) := goodIn_app (goodIn_of _ (by decide +kernel)) ggX3_areNeighbours_X3_thirdOf
theorem dX3_areNeighbours_0 : decode cX3_areNeighbours 0 = .ok (.aload_n 0, 1) := by decide +kernel
theorem dX3_areNeighbours_1 : decode cX3_areNeighbours 1 = .ok (.iload_n 1, 1) := by decide +kernel
theorem dX3_areNeighbours_2 : decode cX3_areNeighbours 2 = .ok (.iload_n 2, 1) := by decide +kernel
theorem dX3_areNeighbours_3 : decode cX3_areNeighbours 3 = .ok (.invokevirtual 53, 3) := by decide +kernel
theorem dX3_areNeighbours_6 : decode cX3_areNeighbours 6 = .ok (.iconst (-1), 1) := by decide +kernel
theorem dX3_areNeighbours_7 : decode cX3_areNeighbours 7 = .ok (.if_icmp .eq 7, 3) := by decide +kernel
theorem dX3_areNeighbours_10 : decode cX3_areNeighbours 10 = .ok (.iconst 1, 1) := by decide +kernel
theorem dX3_areNeighbours_11 : decode cX3_areNeighbours 11 = .ok (.goto 4, 3) := by decide +kernel
theorem dX3_areNeighbours_14 : decode cX3_areNeighbours 14 = .ok (.iconst 0, 1) := by decide +kernel
theorem dX3_areNeighbours_15 : decode cX3_areNeighbours 15 = .ok (.ireturn, 1) := by decide +kernel
set_option maxRecDepth 20000 in
theorem ggX3_canFlip_X3_areNeighbours : GoodIn wsX3_canFlip wsX3_areNeighbours := goodIn_r _ [5, 6, 7, 8, 4, 9, 10, 11, 12, 13, 14, 15, 16, 17, 18, 19] (by decide +kernel) (by decide +kernel)
set_option maxRecDepth 20000 in
theorem gX3_canFlip_X3_areNeighbours : GoodIn wsX3_canFlip (wsV RX3 56 RX3 yX3_areNeighbours wsX3_areNeighbours) := goodIn_app (goodIn_of _ (by decide +kernel)) ggX3_canFlip_X3_areNeighbours
set_option maxRecDepth 20000 in
theorem ggX3_canFlip_X3_thirdOf : GoodIn wsX3_canFlip wsX3_thirdOf := goodIn_r _ [9, 10, 11, 12, 13, 4, 14, 15, 16, 17, 18, 19] (by decide +kernel) (by decide +kernel)
set_option maxRecDepth 20000 in
theorem gX3_canFlip_X3_thirdOf : GoodIn wsX3_canFlip (wsV RX3 53 RX3 yX3_thirdOf wsX3_thirdOf) := goodIn_app (goodIn_of _ (by decide +kernel)) ggX3_canFlip_X3_thirdOf
theorem dX3_canFlip_0 : decode cX3_canFlip 0 = .ok (.aload_n 0, 1) := by decide +kernel
theorem dX3_canFlip_1 : decode cX3_canFlip 1 = .ok (.iload_n 1, 1) := by decide +kernel
theorem dX3_canFlip_2 : decode cX3_canFlip 2 = .ok (.iload_n 2, 1) := by decide +kernel
theorem dX3_canFlip_3 : decode cX3_canFlip 3 = .ok (.invokevirtual 56, 3) := by decide +kernel
theorem dX3_canFlip_6 : decode cX3_canFlip 6 = .ok (.ifCond .eq 26, 3) := by decide +kernel
theorem dX3_canFlip_9 : decode cX3_canFlip 9 = .ok (.aload_n 0, 1) := by decide +kernel
theorem dX3_canFlip_10 : decode cX3_canFlip 10 = .ok (.aload_n 0, 1) := by decide +kernel
theorem dX3_canFlip_11 : decode cX3_canFlip 11 = .ok (.iload_n 1, 1) := by decide +kernel
theorem dX3_canFlip_12 : decode cX3_canFlip 12 = .ok (.iload_n 2, 1) := by decide +kernel
theorem dX3_canFlip_13 : decode cX3_canFlip 13 = .ok (.invokevirtual 53, 3) := by decide +kernel
theorem dX3_canFlip_16 : decode cX3_canFlip 16 = .ok (.aload_n 0, 1) := by decide +kernel
theorem dX3_canFlip_17 : decode cX3_canFlip 17 = .ok (.iload_n 2, 1) := by decide +kernel
theorem dX3_canFlip_18 : decode cX3_canFlip 18 = .ok (.iload_n 1, 1) := by decide +kernel
theorem dX3_canFlip_19 : decode cX3_canFlip 19 = .ok (.invokevirtual 53, 3) := by decide +kernel
theorem dX3_canFlip_22 : decode cX3_canFlip 22 = .ok (.invokevirtual 56, 3) := by decide +kernel
theorem dX3_canFlip_25 : decode cX3_canFlip 25 = .ok (.ifCond .ne 7, 3) := by decide +kernel
theorem dX3_canFlip_28 : decode cX3_canFlip 28 = .ok (.iconst 1, 1) := by decide +kernel
theorem dX3_canFlip_29 : decode cX3_canFlip 29 = .ok (.goto 4, 3) := by decide +kernel
theorem dX3_canFlip_32 : decode cX3_canFlip 32 = .ok (.iconst 0, 1) := by decide +kernel
theorem dX3_canFlip_33 : decode cX3_canFlip 33 = .ok (.ireturn, 1) := by decide +kernel
set_option maxRecDepth 20000 in
theorem ggX3_flipEdge_X3_thirdOf : GoodIn wsX3_flipEdge wsX3_thirdOf := goodIn_r _ [12, 13, 14, 15, 16, 11, 17, 18, 37, 38, 39, 40] (by decide +kernel) (by decide +kernel)
set_option maxRecDepth 20000 in
theorem gX3_flipEdge_X3_thirdOf : GoodIn wsX3_flipEdge (wsV RX3 53 RX3 yX3_thirdOf wsX3_thirdOf) := goodIn_app (goodIn_of _ (by decide +kernel)) ggX3_flipEdge_X3_thirdOf
set_option maxRecDepth 20000 in
theorem ggX3_flipEdge_X3_faceWith : GoodIn wsX3_flipEdge wsX3_faceWith := goodIn_r _ [22, 23, 24, 37, 38, 39, 40] (by decide +kernel) (by decide +kernel)
set_option maxRecDepth 20000 in
theorem gX3_flipEdge_X3_faceWith : GoodIn wsX3_flipEdge (wsV RX3 60 RX3 yX3_faceWith wsX3_faceWith) := goodIn_app (goodIn_of _ (by decide +kernel)) ggX3_flipEdge_X3_faceWith
set_option maxRecDepth 20000 in
theorem ggX3_flipEdge_X3_putThird : GoodIn wsX3_flipEdge wsX3_putThird := goodIn_r _ [28, 13, 37, 38, 39, 40] (by decide +kernel) (by decide +kernel)
set_option maxRecDepth 20000 in
theorem gX3_flipEdge_X3_putThird : GoodIn wsX3_flipEdge (wsV RX3 45 RX3 yX3_putThird wsX3_putThird) := goodIn_app (goodIn_of _ (by decide +kernel)) ggX3_flipEdge_X3_putThird
set_option maxRecDepth 20000 in
theorem ggX3_flipEdge_X3_putFace : GoodIn wsX3_flipEdge wsX3_putFace := goodIn_r _ [32, 33, 34, 35, 11, 36, 24, 25, 26, 27, 28, 13, 37, 38, 39, 40] (by decide +kernel) (by decide +kernel)
set_option maxRecDepth 20000 in
theorem gX3_flipEdge_X3_putFace : GoodIn wsX3_flipEdge (wsV RX3 34 RX3 yX3_putFace wsX3_putFace) := goodIn_app (goodIn_of _ (by decide +kernel)) ggX3_flipEdge_X3_putFace
theorem dX3_flipEdge_0 : decode cX3_flipEdge 0 = .ok (.aload_n 0, 1) := by decide +kernel
theorem dX3_flipEdge_1 : decode cX3_flipEdge 1 = .ok (.iload_n 1, 1) := by decide +kernel
theorem dX3_flipEdge_2 : decode cX3_flipEdge 2 = .ok (.iload_n 2, 1) := by decide +kernel
theorem dX3_flipEdge_3 : decode cX3_flipEdge 3 = .ok (.invokevirtual 53, 3) := by decide +kernel
theorem dX3_flipEdge_6 : decode cX3_flipEdge 6 = .ok (.istore_n 3, 1) := by decide +kernel
theorem dX3_flipEdge_7 : decode cX3_flipEdge 7 = .ok (.aload_n 0, 1) := by decide +kernel
theorem dX3_flipEdge_8 : decode cX3_flipEdge 8 = .ok (.iload_n 2, 1) := by decide +kernel
theorem dX3_flipEdge_9 : decode cX3_flipEdge 9 = .ok (.iload_n 1, 1) := by decide +kernel
theorem dX3_flipEdge_10 : decode cX3_flipEdge 10 = .ok (.invokevirtual 53, 3) := by decide +kernel
theorem dX3_flipEdge_13 : decode cX3_flipEdge 13 = .ok (.istore 4, 2) := by decide +kernel
theorem dX3_flipEdge_15 : decode cX3_flipEdge 15 = .ok (.aload_n 0, 1) := by decide +kernel
theorem dX3_flipEdge_16 : decode cX3_flipEdge 16 = .ok (.iload_n 1, 1) := by decide +kernel
theorem dX3_flipEdge_17 : decode cX3_flipEdge 17 = .ok (.iload_n 2, 1) := by decide +kernel
theorem dX3_flipEdge_18 : decode cX3_flipEdge 18 = .ok (.invokevirtual 60, 3) := by decide +kernel
theorem dX3_flipEdge_21 : decode cX3_flipEdge 21 = .ok (.istore 5, 2) := by decide +kernel
theorem dX3_flipEdge_23 : decode cX3_flipEdge 23 = .ok (.aload_n 0, 1) := by decide +kernel
theorem dX3_flipEdge_24 : decode cX3_flipEdge 24 = .ok (.iload_n 2, 1) := by decide +kernel
theorem dX3_flipEdge_25 : decode cX3_flipEdge 25 = .ok (.iload_n 1, 1) := by decide +kernel
theorem dX3_flipEdge_26 : decode cX3_flipEdge 26 = .ok (.invokevirtual 60, 3) := by decide +kernel
theorem dX3_flipEdge_29 : decode cX3_flipEdge 29 = .ok (.istore 6, 2) := by decide +kernel
theorem dX3_flipEdge_31 : decode cX3_flipEdge 31 = .ok (.iload 5, 2) := by decide +kernel
theorem dX3_flipEdge_33 : decode cX3_flipEdge 33 = .ok (.iconst (-1), 1) := by decide +kernel
theorem dX3_flipEdge_34 : decode cX3_flipEdge 34 = .ok (.if_icmp .eq 9, 3) := by decide +kernel
theorem dX3_flipEdge_37 : decode cX3_flipEdge 37 = .ok (.iload 6, 2) := by decide +kernel
theorem dX3_flipEdge_39 : decode cX3_flipEdge 39 = .ok (.iconst (-1), 1) := by decide +kernel
theorem dX3_flipEdge_40 : decode cX3_flipEdge 40 = .ok (.if_icmp .ne 5, 3) := by decide +kernel
theorem dX3_flipEdge_43 : decode cX3_flipEdge 43 = .ok (.iconst (-1), 1) := by decide +kernel
theorem dX3_flipEdge_44 : decode cX3_flipEdge 44 = .ok (.ireturn, 1) := by decide +kernel
theorem dX3_flipEdge_45 : decode cX3_flipEdge 45 = .ok (.aload_n 0, 1) := by decide +kernel
theorem dX3_flipEdge_46 : decode cX3_flipEdge 46 = .ok (.iload_n 1, 1) := by decide +kernel
theorem dX3_flipEdge_47 : decode cX3_flipEdge 47 = .ok (.iload_n 2, 1) := by decide +kernel
theorem dX3_flipEdge_48 : decode cX3_flipEdge 48 = .ok (.iconst (-1), 1) := by decide +kernel
theorem dX3_flipEdge_49 : decode cX3_flipEdge 49 = .ok (.invokevirtual 45, 3) := by decide +kernel
theorem dX3_flipEdge_52 : decode cX3_flipEdge 52 = .ok (.aload_n 0, 1) := by decide +kernel
theorem dX3_flipEdge_53 : decode cX3_flipEdge 53 = .ok (.iload_n 2, 1) := by decide +kernel
theorem dX3_flipEdge_54 : decode cX3_flipEdge 54 = .ok (.iload_n 1, 1) := by decide +kernel
theorem dX3_flipEdge_55 : decode cX3_flipEdge 55 = .ok (.iconst (-1), 1) := by decide +kernel
theorem dX3_flipEdge_56 : decode cX3_flipEdge 56 = .ok (.invokevirtual 45, 3) := by decide +kernel
theorem dX3_flipEdge_59 : decode cX3_flipEdge 59 = .ok (.aload_n 0, 1) := by decide +kernel
theorem dX3_flipEdge_60 : decode cX3_flipEdge 60 = .ok (.iload 5, 2) := by decide +kernel
theorem dX3_flipEdge_62 : decode cX3_flipEdge 62 = .ok (.iload_n 1, 1) := by decide +kernel
theorem dX3_flipEdge_63 : decode cX3_flipEdge 63 = .ok (.iload 4, 2) := by decide +kernel
theorem dX3_flipEdge_65 : decode cX3_flipEdge 65 = .ok (.iload_n 3, 1) := by decide +kernel
theorem dX3_flipEdge_66 : decode cX3_flipEdge 66 = .ok (.invokevirtual 34, 3) := by decide +kernel
theorem dX3_flipEdge_69 : decode cX3_flipEdge 69 = .ok (.aload_n 0, 1) := by decide +kernel
theorem dX3_flipEdge_70 : decode cX3_flipEdge 70 = .ok (.iload 6, 2) := by decide +kernel
theorem dX3_flipEdge_72 : decode cX3_flipEdge 72 = .ok (.iload 4, 2) := by decide +kernel
theorem dX3_flipEdge_74 : decode cX3_flipEdge 74 = .ok (.iload_n 2, 1) := by decide +kernel
theorem dX3_flipEdge_75 : decode cX3_flipEdge 75 = .ok (.iload_n 3, 1) := by decide +kernel
theorem dX3_flipEdge_76 : decode cX3_flipEdge 76 = .ok (.invokevirtual 34, 3) := by decide +kernel
theorem dX3_flipEdge_79 : decode cX3_flipEdge 79 = .ok (.bipush 100, 2) := by decide +kernel
theorem dX3_flipEdge_81 : decode cX3_flipEdge 81 = .ok (.iload_n 3, 1) := by decide +kernel
theorem dX3_flipEdge_82 : decode cX3_flipEdge 82 = .ok (.iload 4, 2) := by decide +kernel
theorem dX3_flipEdge_84 : decode cX3_flipEdge 84 = .ok (.invokestatic 63, 3) := by decide +kernel
theorem dX3_flipEdge_87 : decode cX3_flipEdge 87 = .ok (.imul, 1) := by decide +kernel
theorem dX3_flipEdge_88 : decode cX3_flipEdge 88 = .ok (.iload_n 3, 1) := by decide +kernel
theorem dX3_flipEdge_89 : decode cX3_flipEdge 89 = .ok (.iload 4, 2) := by decide +kernel
theorem dX3_flipEdge_91 : decode cX3_flipEdge 91 = .ok (.invokestatic 68, 3) := by decide +kernel
theorem dX3_flipEdge_94 : decode cX3_flipEdge 94 = .ok (.iadd, 1) := by decide +kernel
theorem dX3_flipEdge_95 : decode cX3_flipEdge 95 = .ok (.ireturn, 1) := by decide +kernel
theorem dX3_faceWith_0 : decode cX3_faceWith 0 = .ok (.iconst 0, 1) := by decide +kernel
theorem dX3_faceWith_1 : decode cX3_faceWith 1 = .ok (.istore_n 3, 1) := by decide +kernel
theorem dX3_faceWith_2 : decode cX3_faceWith 2 = .ok (.iload_n 3, 1) := by decide +kernel
theorem dX3_faceWith_3 : decode cX3_faceWith 3 = .ok (.iconst 3, 1) := by decide +kernel
theorem dX3_faceWith_4 : decode cX3_faceWith 4 = .ok (.aload_n 0, 1) := by decide +kernel
theorem dX3_faceWith_5 : decode cX3_faceWith 5 = .ok (.getfield 28, 3) := by decide +kernel
theorem dX3_faceWith_8 : decode cX3_faceWith 8 = .ok (.imul, 1) := by decide +kernel
theorem dX3_faceWith_9 : decode cX3_faceWith 9 = .ok (.if_icmp .ge 52, 3) := by decide +kernel
theorem dX3_faceWith_12 : decode cX3_faceWith 12 = .ok (.iload_n 3, 1) := by decide +kernel
theorem dX3_faceWith_13 : decode cX3_faceWith 13 = .ok (.iconst 3, 1) := by decide +kernel
theorem dX3_faceWith_14 : decode cX3_faceWith 14 = .ok (.irem, 1) := by decide +kernel
theorem dX3_faceWith_15 : decode cX3_faceWith 15 = .ok (.iconst 2, 1) := by decide +kernel
theorem dX3_faceWith_16 : decode cX3_faceWith 16 = .ok (.if_icmp .ne 9, 3) := by decide +kernel
theorem dX3_faceWith_19 : decode cX3_faceWith 19 = .ok (.iload_n 3, 1) := by decide +kernel
theorem dX3_faceWith_20 : decode cX3_faceWith 20 = .ok (.iconst 2, 1) := by decide +kernel
theorem dX3_faceWith_21 : decode cX3_faceWith 21 = .ok (.isub, 1) := by decide +kernel
theorem dX3_faceWith_22 : decode cX3_faceWith 22 = .ok (.goto 6, 3) := by decide +kernel
theorem dX3_faceWith_25 : decode cX3_faceWith 25 = .ok (.iload_n 3, 1) := by decide +kernel
theorem dX3_faceWith_26 : decode cX3_faceWith 26 = .ok (.iconst 1, 1) := by decide +kernel
theorem dX3_faceWith_27 : decode cX3_faceWith 27 = .ok (.iadd, 1) := by decide +kernel
theorem dX3_faceWith_28 : decode cX3_faceWith 28 = .ok (.istore 4, 2) := by decide +kernel
theorem dX3_faceWith_30 : decode cX3_faceWith 30 = .ok (.aload_n 0, 1) := by decide +kernel
theorem dX3_faceWith_31 : decode cX3_faceWith 31 = .ok (.getfield 11, 3) := by decide +kernel
theorem dX3_faceWith_34 : decode cX3_faceWith 34 = .ok (.iload_n 3, 1) := by decide +kernel
theorem dX3_faceWith_35 : decode cX3_faceWith 35 = .ok (.iaload, 1) := by decide +kernel
theorem dX3_faceWith_36 : decode cX3_faceWith 36 = .ok (.iload_n 1, 1) := by decide +kernel
theorem dX3_faceWith_37 : decode cX3_faceWith 37 = .ok (.if_icmp .ne 18, 3) := by decide +kernel
theorem dX3_faceWith_40 : decode cX3_faceWith 40 = .ok (.aload_n 0, 1) := by decide +kernel
theorem dX3_faceWith_41 : decode cX3_faceWith 41 = .ok (.getfield 11, 3) := by decide +kernel
theorem dX3_faceWith_44 : decode cX3_faceWith 44 = .ok (.iload 4, 2) := by decide +kernel
theorem dX3_faceWith_46 : decode cX3_faceWith 46 = .ok (.iaload, 1) := by decide +kernel
theorem dX3_faceWith_47 : decode cX3_faceWith 47 = .ok (.iload_n 2, 1) := by decide +kernel
theorem dX3_faceWith_48 : decode cX3_faceWith 48 = .ok (.if_icmp .ne 7, 3) := by decide +kernel
theorem dX3_faceWith_51 : decode cX3_faceWith 51 = .ok (.iload_n 3, 1) := by decide +kernel
theorem dX3_faceWith_52 : decode cX3_faceWith 52 = .ok (.iconst 3, 1) := by decide +kernel
theorem dX3_faceWith_53 : decode cX3_faceWith 53 = .ok (.idiv, 1) := by decide +kernel
theorem dX3_faceWith_54 : decode cX3_faceWith 54 = .ok (.ireturn, 1) := by decide +kernel
theorem dX3_faceWith_55 : decode cX3_faceWith 55 = .ok (.iinc 3 1, 3) := by decide +kernel
theorem dX3_faceWith_58 : decode cX3_faceWith 58 = .ok (.goto (-56), 3) := by decide +kernel
theorem dX3_faceWith_61 : decode cX3_faceWith 61 = .ok (.iconst (-1), 1) := by decide +kernel
theorem dX3_faceWith_62 : decode cX3_faceWith 62 = .ok (.ireturn, 1) := by decide +kernel
set_option maxRecDepth 20000 in
theorem ggX3_neighbourAt_X3_lowestNeighbour : GoodIn wsX3_neighbourAt wsX3_lowestNeighbour := goodIn_r _ [5, 6, 7, 8, 9, 4, 10, 11, 12, 13, 14, 15, 16, 17, 18, 19, 20, 21, 22, 23] (by decide +kernel) (by decide +kernel)
set_option maxRecDepth 20000 in
theorem gX3_neighbourAt_X3_lowestNeighbour : GoodIn wsX3_neighbourAt (wsV RX3 71 RX3 yX3_lowestNeighbour wsX3_lowestNeighbour) := goodIn_app (goodIn_of _ (by decide +kernel)) ggX3_neighbourAt_X3_lowestNeighbour
set_option maxRecDepth 20000 in
theorem ggX3_neighbourAt_X3_thirdOf : GoodIn wsX3_neighbourAt wsX3_thirdOf := goodIn_r _ [14, 15, 16, 17, 18, 4, 19, 6, 20, 21, 22, 23] (by decide +kernel) (by decide +kernel)
set_option maxRecDepth 20000 in
theorem gX3_neighbourAt_X3_thirdOf : GoodIn wsX3_neighbourAt (wsV RX3 53 RX3 yX3_thirdOf wsX3_thirdOf) := goodIn_app (goodIn_of _ (by decide +kernel)) ggX3_neighbourAt_X3_thirdOf
theorem dX3_neighbourAt_0 : decode cX3_neighbourAt 0 = .ok (.aload_n 0, 1) := by decide +kernel
theorem dX3_neighbourAt_1 : decode cX3_neighbourAt 1 = .ok (.iload_n 1, 1) := by decide +kernel
theorem dX3_neighbourAt_2 : decode cX3_neighbourAt 2 = .ok (.invokevirtual 71, 3) := by decide +kernel
theorem dX3_neighbourAt_5 : decode cX3_neighbourAt 5 = .ok (.istore_n 3, 1) := by decide +kernel
theorem dX3_neighbourAt_6 : decode cX3_neighbourAt 6 = .ok (.iload_n 3, 1) := by decide +kernel
theorem dX3_neighbourAt_7 : decode cX3_neighbourAt 7 = .ok (.istore 4, 2) := by decide +kernel
theorem dX3_neighbourAt_9 : decode cX3_neighbourAt 9 = .ok (.iconst 0, 1) := by decide +kernel
theorem dX3_neighbourAt_10 : decode cX3_neighbourAt 10 = .ok (.istore 5, 2) := by decide +kernel
theorem dX3_neighbourAt_12 : decode cX3_neighbourAt 12 = .ok (.iload 5, 2) := by decide +kernel
theorem dX3_neighbourAt_14 : decode cX3_neighbourAt 14 = .ok (.iload_n 2, 1) := by decide +kernel
theorem dX3_neighbourAt_15 : decode cX3_neighbourAt 15 = .ok (.if_icmp .ge 32, 3) := by decide +kernel
theorem dX3_neighbourAt_18 : decode cX3_neighbourAt 18 = .ok (.aload_n 0, 1) := by decide +kernel
theorem dX3_neighbourAt_19 : decode cX3_neighbourAt 19 = .ok (.iload_n 1, 1) := by decide +kernel
theorem dX3_neighbourAt_20 : decode cX3_neighbourAt 20 = .ok (.iload 4, 2) := by decide +kernel
theorem dX3_neighbourAt_22 : decode cX3_neighbourAt 22 = .ok (.invokevirtual 53, 3) := by decide +kernel
theorem dX3_neighbourAt_25 : decode cX3_neighbourAt 25 = .ok (.istore 4, 2) := by decide +kernel
theorem dX3_neighbourAt_27 : decode cX3_neighbourAt 27 = .ok (.iload 4, 2) := by decide +kernel
theorem dX3_neighbourAt_29 : decode cX3_neighbourAt 29 = .ok (.iload_n 3, 1) := by decide +kernel
theorem dX3_neighbourAt_30 : decode cX3_neighbourAt 30 = .ok (.if_icmp .eq 9, 3) := by decide +kernel
theorem dX3_neighbourAt_33 : decode cX3_neighbourAt 33 = .ok (.iload 4, 2) := by decide +kernel
theorem dX3_neighbourAt_35 : decode cX3_neighbourAt 35 = .ok (.iconst (-1), 1) := by decide +kernel
theorem dX3_neighbourAt_36 : decode cX3_neighbourAt 36 = .ok (.if_icmp .ne 5, 3) := by decide +kernel
theorem dX3_neighbourAt_39 : decode cX3_neighbourAt 39 = .ok (.iconst (-1), 1) := by decide +kernel
theorem dX3_neighbourAt_40 : decode cX3_neighbourAt 40 = .ok (.ireturn, 1) := by decide +kernel
theorem dX3_neighbourAt_41 : decode cX3_neighbourAt 41 = .ok (.iinc 5 1, 3) := by decide +kernel
theorem dX3_neighbourAt_44 : decode cX3_neighbourAt 44 = .ok (.goto (-32), 3) := by decide +kernel
theorem dX3_neighbourAt_47 : decode cX3_neighbourAt 47 = .ok (.iload 4, 2) := by decide +kernel
theorem dX3_neighbourAt_49 : decode cX3_neighbourAt 49 = .ok (.ireturn, 1) := by decide +kernel
set_option maxRecDepth 20000 in
theorem ggX3_lowestNeighbour_X3_areNeighbours : GoodIn wsX3_lowestNeighbour wsX3_areNeighbours := goodIn_r _ [6, 7, 8, 9, 5, 10, 11, 12, 13, 14, 15, 1, 16, 17, 18, 19] (by decide +kernel) (by decide +kernel)
set_option maxRecDepth 20000 in
theorem gX3_lowestNeighbour_X3_areNeighbours : GoodIn wsX3_lowestNeighbour (wsV RX3 56 RX3 yX3_areNeighbours wsX3_areNeighbours) := goodIn_app (goodIn_of _ (by decide +kernel)) ggX3_lowestNeighbour_X3_areNeighbours
theorem dX3_lowestNeighbour_0 : decode cX3_lowestNeighbour 0 = .ok (.iconst 0, 1) := by decide +kernel
theorem dX3_lowestNeighbour_1 : decode cX3_lowestNeighbour 1 = .ok (.istore_n 2, 1) := by decide +kernel
theorem dX3_lowestNeighbour_2 : decode cX3_lowestNeighbour 2 = .ok (.iload_n 2, 1) := by decide +kernel
theorem dX3_lowestNeighbour_3 : decode cX3_lowestNeighbour 3 = .ok (.aload_n 0, 1) := by decide +kernel
theorem dX3_lowestNeighbour_4 : decode cX3_lowestNeighbour 4 = .ok (.getfield 24, 3) := by decide +kernel
theorem dX3_lowestNeighbour_7 : decode cX3_lowestNeighbour 7 = .ok (.if_icmp .ge 20, 3) := by decide +kernel
theorem dX3_lowestNeighbour_10 : decode cX3_lowestNeighbour 10 = .ok (.aload_n 0, 1) := by decide +kernel
theorem dX3_lowestNeighbour_11 : decode cX3_lowestNeighbour 11 = .ok (.iload_n 1, 1) := by decide +kernel
theorem dX3_lowestNeighbour_12 : decode cX3_lowestNeighbour 12 = .ok (.iload_n 2, 1) := by decide +kernel
theorem dX3_lowestNeighbour_13 : decode cX3_lowestNeighbour 13 = .ok (.invokevirtual 56, 3) := by decide +kernel
theorem dX3_lowestNeighbour_16 : decode cX3_lowestNeighbour 16 = .ok (.ifCond .eq 5, 3) := by decide +kernel
theorem dX3_lowestNeighbour_19 : decode cX3_lowestNeighbour 19 = .ok (.iload_n 2, 1) := by decide +kernel
theorem dX3_lowestNeighbour_20 : decode cX3_lowestNeighbour 20 = .ok (.ireturn, 1) := by decide +kernel
theorem dX3_lowestNeighbour_21 : decode cX3_lowestNeighbour 21 = .ok (.iinc 2 1, 3) := by decide +kernel
theorem dX3_lowestNeighbour_24 : decode cX3_lowestNeighbour 24 = .ok (.goto (-22), 3) := by decide +kernel
theorem dX3_lowestNeighbour_27 : decode cX3_lowestNeighbour 27 = .ok (.iconst (-1), 1) := by decide +kernel
theorem dX3_lowestNeighbour_28 : decode cX3_lowestNeighbour 28 = .ok (.ireturn, 1) := by decide +kernel
theorem dX3_edgeCount_0 : decode cX3_edgeCount 0 = .ok (.iconst 3, 1) := by decide +kernel
theorem dX3_edgeCount_1 : decode cX3_edgeCount 1 = .ok (.aload_n 0, 1) := by decide +kernel
theorem dX3_edgeCount_2 : decode cX3_edgeCount 2 = .ok (.getfield 28, 3) := by decide +kernel
theorem dX3_edgeCount_5 : decode cX3_edgeCount 5 = .ok (.imul, 1) := by decide +kernel
theorem dX3_edgeCount_6 : decode cX3_edgeCount 6 = .ok (.iconst 2, 1) := by decide +kernel
theorem dX3_edgeCount_7 : decode cX3_edgeCount 7 = .ok (.idiv, 1) := by decide +kernel
theorem dX3_edgeCount_8 : decode cX3_edgeCount 8 = .ok (.ireturn, 1) := by decide +kernel
set_option maxRecDepth 20000 in
theorem ggX3_flippableCount_X3_canFlip : GoodIn wsX3_flippableCount wsX3_canFlip := goodIn_r _ [6, 7, 8, 9, 5, 10, 11, 12, 13, 14, 15, 16, 17, 18, 19, 1, 20, 21, 22, 23] (by decide +kernel) (by decide +kernel)
set_option maxRecDepth 20000 in
theorem gX3_flippableCount_X3_canFlip : GoodIn wsX3_flippableCount (wsV RX3 75 RX3 yX3_canFlip wsX3_canFlip) := goodIn_app (goodIn_of _ (by decide +kernel)) ggX3_flippableCount_X3_canFlip
theorem dX3_flippableCount_0 : decode cX3_flippableCount 0 = .ok (.iconst 0, 1) := by decide +kernel
theorem dX3_flippableCount_1 : decode cX3_flippableCount 1 = .ok (.istore_n 1, 1) := by decide +kernel
theorem dX3_flippableCount_2 : decode cX3_flippableCount 2 = .ok (.iconst 1, 1) := by decide +kernel
theorem dX3_flippableCount_3 : decode cX3_flippableCount 3 = .ok (.istore_n 2, 1) := by decide +kernel
theorem dX3_flippableCount_4 : decode cX3_flippableCount 4 = .ok (.iload_n 2, 1) := by decide +kernel
theorem dX3_flippableCount_5 : decode cX3_flippableCount 5 = .ok (.aload_n 0, 1) := by decide +kernel
theorem dX3_flippableCount_6 : decode cX3_flippableCount 6 = .ok (.getfield 24, 3) := by decide +kernel
theorem dX3_flippableCount_9 : decode cX3_flippableCount 9 = .ok (.if_icmp .ge 34, 3) := by decide +kernel
theorem dX3_flippableCount_12 : decode cX3_flippableCount 12 = .ok (.iconst 0, 1) := by decide +kernel
theorem dX3_flippableCount_13 : decode cX3_flippableCount 13 = .ok (.istore_n 3, 1) := by decide +kernel
theorem dX3_flippableCount_14 : decode cX3_flippableCount 14 = .ok (.iload_n 3, 1) := by decide +kernel
theorem dX3_flippableCount_15 : decode cX3_flippableCount 15 = .ok (.iload_n 2, 1) := by decide +kernel
theorem dX3_flippableCount_16 : decode cX3_flippableCount 16 = .ok (.if_icmp .ge 21, 3) := by decide +kernel
theorem dX3_flippableCount_19 : decode cX3_flippableCount 19 = .ok (.aload_n 0, 1) := by decide +kernel
theorem dX3_flippableCount_20 : decode cX3_flippableCount 20 = .ok (.iload_n 3, 1) := by decide +kernel
theorem dX3_flippableCount_21 : decode cX3_flippableCount 21 = .ok (.iload_n 2, 1) := by decide +kernel
theorem dX3_flippableCount_22 : decode cX3_flippableCount 22 = .ok (.invokevirtual 75, 3) := by decide +kernel
theorem dX3_flippableCount_25 : decode cX3_flippableCount 25 = .ok (.ifCond .eq 6, 3) := by decide +kernel
theorem dX3_flippableCount_28 : decode cX3_flippableCount 28 = .ok (.iinc 1 1, 3) := by decide +kernel
theorem dX3_flippableCount_31 : decode cX3_flippableCount 31 = .ok (.iinc 3 1, 3) := by decide +kernel
theorem dX3_flippableCount_34 : decode cX3_flippableCount 34 = .ok (.goto (-20), 3) := by decide +kernel
theorem dX3_flippableCount_37 : decode cX3_flippableCount 37 = .ok (.iinc 2 1, 3) := by decide +kernel
theorem dX3_flippableCount_40 : decode cX3_flippableCount 40 = .ok (.goto (-36), 3) := by decide +kernel
theorem dX3_flippableCount_43 : decode cX3_flippableCount 43 = .ok (.iload_n 1, 1) := by decide +kernel
theorem dX3_flippableCount_44 : decode cX3_flippableCount 44 = .ok (.ireturn, 1) := by decide +kernel
set_option maxRecDepth 20000 in
theorem ggX3_mostNeighbours_X3_facesAt : GoodIn wsX3_mostNeighbours wsX3_facesAt := goodIn_r _ [10, 11, 12, 13, 14, 15, 16] (by decide +kernel) (by decide +kernel)
set_option maxRecDepth 20000 in
theorem gX3_mostNeighbours_X3_facesAt : GoodIn wsX3_mostNeighbours (wsV RX3 78 RX3 yX3_facesAt wsX3_facesAt) := goodIn_app (goodIn_of _ (by decide +kernel)) ggX3_mostNeighbours_X3_facesAt
theorem dX3_mostNeighbours_0 : decode cX3_mostNeighbours 0 = .ok (.iconst 0, 1) := by decide +kernel
theorem dX3_mostNeighbours_1 : decode cX3_mostNeighbours 1 = .ok (.istore_n 1, 1) := by decide +kernel
theorem dX3_mostNeighbours_2 : decode cX3_mostNeighbours 2 = .ok (.iconst 0, 1) := by decide +kernel
theorem dX3_mostNeighbours_3 : decode cX3_mostNeighbours 3 = .ok (.istore_n 2, 1) := by decide +kernel
theorem dX3_mostNeighbours_4 : decode cX3_mostNeighbours 4 = .ok (.iload_n 2, 1) := by decide +kernel
theorem dX3_mostNeighbours_5 : decode cX3_mostNeighbours 5 = .ok (.aload_n 0, 1) := by decide +kernel
theorem dX3_mostNeighbours_6 : decode cX3_mostNeighbours 6 = .ok (.getfield 24, 3) := by decide +kernel
theorem dX3_mostNeighbours_9 : decode cX3_mostNeighbours 9 = .ok (.if_icmp .ge 19, 3) := by decide +kernel
theorem dX3_mostNeighbours_12 : decode cX3_mostNeighbours 12 = .ok (.iload_n 1, 1) := by decide +kernel
theorem dX3_mostNeighbours_13 : decode cX3_mostNeighbours 13 = .ok (.aload_n 0, 1) := by decide +kernel
theorem dX3_mostNeighbours_14 : decode cX3_mostNeighbours 14 = .ok (.iload_n 2, 1) := by decide +kernel
theorem dX3_mostNeighbours_15 : decode cX3_mostNeighbours 15 = .ok (.invokevirtual 78, 3) := by decide +kernel
theorem dX3_mostNeighbours_18 : decode cX3_mostNeighbours 18 = .ok (.invokestatic 68, 3) := by decide +kernel
theorem dX3_mostNeighbours_21 : decode cX3_mostNeighbours 21 = .ok (.istore_n 1, 1) := by decide +kernel
theorem dX3_mostNeighbours_22 : decode cX3_mostNeighbours 22 = .ok (.iinc 2 1, 3) := by decide +kernel
theorem dX3_mostNeighbours_25 : decode cX3_mostNeighbours 25 = .ok (.goto (-21), 3) := by decide +kernel
theorem dX3_mostNeighbours_28 : decode cX3_mostNeighbours 28 = .ok (.iload_n 1, 1) := by decide +kernel
theorem dX3_mostNeighbours_29 : decode cX3_mostNeighbours 29 = .ok (.ireturn, 1) := by decide +kernel
theorem dX3_facesAt_0 : decode cX3_facesAt 0 = .ok (.iconst 0, 1) := by decide +kernel
theorem dX3_facesAt_1 : decode cX3_facesAt 1 = .ok (.istore_n 2, 1) := by decide +kernel
theorem dX3_facesAt_2 : decode cX3_facesAt 2 = .ok (.iconst 0, 1) := by decide +kernel
theorem dX3_facesAt_3 : decode cX3_facesAt 3 = .ok (.istore_n 3, 1) := by decide +kernel
theorem dX3_facesAt_4 : decode cX3_facesAt 4 = .ok (.iload_n 3, 1) := by decide +kernel
theorem dX3_facesAt_5 : decode cX3_facesAt 5 = .ok (.iconst 3, 1) := by decide +kernel
theorem dX3_facesAt_6 : decode cX3_facesAt 6 = .ok (.aload_n 0, 1) := by decide +kernel
theorem dX3_facesAt_7 : decode cX3_facesAt 7 = .ok (.getfield 28, 3) := by decide +kernel
theorem dX3_facesAt_10 : decode cX3_facesAt 10 = .ok (.imul, 1) := by decide +kernel
theorem dX3_facesAt_11 : decode cX3_facesAt 11 = .ok (.if_icmp .ge 22, 3) := by decide +kernel
theorem dX3_facesAt_14 : decode cX3_facesAt 14 = .ok (.aload_n 0, 1) := by decide +kernel
theorem dX3_facesAt_15 : decode cX3_facesAt 15 = .ok (.getfield 11, 3) := by decide +kernel
theorem dX3_facesAt_18 : decode cX3_facesAt 18 = .ok (.iload_n 3, 1) := by decide +kernel
theorem dX3_facesAt_19 : decode cX3_facesAt 19 = .ok (.iaload, 1) := by decide +kernel
theorem dX3_facesAt_20 : decode cX3_facesAt 20 = .ok (.iload_n 1, 1) := by decide +kernel
theorem dX3_facesAt_21 : decode cX3_facesAt 21 = .ok (.if_icmp .ne 6, 3) := by decide +kernel
theorem dX3_facesAt_24 : decode cX3_facesAt 24 = .ok (.iinc 2 1, 3) := by decide +kernel
theorem dX3_facesAt_27 : decode cX3_facesAt 27 = .ok (.iinc 3 1, 3) := by decide +kernel
theorem dX3_facesAt_30 : decode cX3_facesAt 30 = .ok (.goto (-26), 3) := by decide +kernel
theorem dX3_facesAt_33 : decode cX3_facesAt 33 = .ok (.iload_n 2, 1) := by decide +kernel
theorem dX3_facesAt_34 : decode cX3_facesAt 34 = .ok (.ireturn, 1) := by decide +kernel
set_option maxRecDepth 20000 in
theorem ggX4_init_Jx4a65c_init_da8c8 : GoodIn wsX4_init wsJx4a65c_init_da8c8 := goodIn_r _ [14, 15, 16, 17, 18, 19, 20, 21, 22, 23, 24, 25, 26, 2, 3, 27, 28, 29] (by decide +kernel) (by decide +kernel)
set_option maxRecDepth 20000 in
theorem gX4_init_Jx4a65c_init_da8c8 : GoodIn wsX4_init (wsJx4a65c_init_da8c8) := ggX4_init_Jx4a65c_init_da8c8
theorem dX4_init_0 : decode cX4_init 0 = .ok (.aload_n 0, 1) := by decide +kernel
theorem dX4_init_1 : decode cX4_init 1 = .ok (.invokespecial 3, 3) := by decide +kernel
theorem dX4_init_4 : decode cX4_init 4 = .ok (.aload_n 0, 1) := by decide +kernel
theorem dX4_init_5 : decode cX4_init 5 = .ok (.new 9, 3) := by decide +kernel
theorem dX4_init_8 : decode cX4_init 8 = .ok (.dup, 1) := by decide +kernel
theorem dX4_init_9 : decode cX4_init 9 = .ok (.invokespecial 11, 3) := by decide +kernel
theorem dX4_init_12 : decode cX4_init 12 = .ok (.putfield 12, 3) := by decide +kernel
theorem dX4_init_15 : decode cX4_init 15 = .ok (.aload_n 0, 1) := by decide +kernel
theorem dX4_init_16 : decode cX4_init 16 = .ok (.iconst 5, 1) := by decide +kernel
theorem dX4_init_17 : decode cX4_init 17 = .ok (.iconst 5, 1) := by decide +kernel
theorem dX4_init_18 : decode cX4_init 18 = .ok (.multianewarray 18 2, 4) := by decide +kernel
theorem dX4_init_22 : decode cX4_init 22 = .ok (.putfield 20, 3) := by decide +kernel
theorem dX4_init_25 : decode cX4_init 25 = .ok (.aload_n 0, 1) := by decide +kernel
theorem dX4_init_26 : decode cX4_init 26 = .ok (.iconst 2, 1) := by decide +kernel
theorem dX4_init_27 : decode cX4_init 27 = .ok (.putfield 23, 3) := by decide +kernel
theorem dX4_init_30 : decode cX4_init 30 = .ok (.return_, 1) := by decide +kernel
set_option maxRecDepth 20000 in
theorem ggX4_beginAnew_Jx4a65c_clear_da8c8 : GoodIn wsX4_beginAnew wsJx4a65c_clear_da8c8 := goodIn_r _ [7, 8, 9, 10, 11, 15, 16, 17] (by decide +kernel) (by decide +kernel)
set_option maxRecDepth 20000 in
theorem gX4_beginAnew_Jx4a65c_clear_da8c8 : GoodIn wsX4_beginAnew (wsV RX4 27 RJx4a65c yJx4a65c_clear_da8c8 wsJx4a65c_clear_da8c8) := goodIn_app (goodIn_of _ (by decide +kernel)) ggX4_beginAnew_Jx4a65c_clear_da8c8
theorem dX4_beginAnew_0 : decode cX4_beginAnew 0 = .ok (.aload_n 0, 1) := by decide +kernel
theorem dX4_beginAnew_1 : decode cX4_beginAnew 1 = .ok (.getfield 23, 3) := by decide +kernel
theorem dX4_beginAnew_4 : decode cX4_beginAnew 4 = .ok (.istore_n 2, 1) := by decide +kernel
theorem dX4_beginAnew_5 : decode cX4_beginAnew 5 = .ok (.aload_n 0, 1) := by decide +kernel
theorem dX4_beginAnew_6 : decode cX4_beginAnew 6 = .ok (.iload_n 1, 1) := by decide +kernel
theorem dX4_beginAnew_7 : decode cX4_beginAnew 7 = .ok (.putfield 23, 3) := by decide +kernel
theorem dX4_beginAnew_10 : decode cX4_beginAnew 10 = .ok (.aload_n 0, 1) := by decide +kernel
theorem dX4_beginAnew_11 : decode cX4_beginAnew 11 = .ok (.getfield 12, 3) := by decide +kernel
theorem dX4_beginAnew_14 : decode cX4_beginAnew 14 = .ok (.invokevirtual 27, 3) := by decide +kernel
theorem dX4_beginAnew_17 : decode cX4_beginAnew 17 = .ok (.iload_n 2, 1) := by decide +kernel
theorem dX4_beginAnew_18 : decode cX4_beginAnew 18 = .ok (.ireturn, 1) := by decide +kernel
theorem dX4_hasNode_0 : decode cX4_hasNode 0 = .ok (.iload_n 1, 1) := by decide +kernel
theorem dX4_hasNode_1 : decode cX4_hasNode 1 = .ok (.ifCond .lt 15, 3) := by decide +kernel
theorem dX4_hasNode_4 : decode cX4_hasNode 4 = .ok (.iload_n 1, 1) := by decide +kernel
theorem dX4_hasNode_5 : decode cX4_hasNode 5 = .ok (.aload_n 0, 1) := by decide +kernel
theorem dX4_hasNode_6 : decode cX4_hasNode 6 = .ok (.getfield 23, 3) := by decide +kernel
theorem dX4_hasNode_9 : decode cX4_hasNode 9 = .ok (.if_icmp .ge 7, 3) := by decide +kernel
theorem dX4_hasNode_12 : decode cX4_hasNode 12 = .ok (.iconst 1, 1) := by decide +kernel
theorem dX4_hasNode_13 : decode cX4_hasNode 13 = .ok (.goto 4, 3) := by decide +kernel
theorem dX4_hasNode_16 : decode cX4_hasNode 16 = .ok (.iconst 0, 1) := by decide +kernel
theorem dX4_hasNode_17 : decode cX4_hasNode 17 = .ok (.ireturn, 1) := by decide +kernel
set_option maxRecDepth 20000 in
theorem ggX4_hasWire_Jx4a65c_size_8abf5 : GoodIn wsX4_hasWire wsJx4a65c_size_8abf5 := goodIn_r _ [6, 7, 11, 12, 13] (by decide +kernel) (by decide +kernel)
set_option maxRecDepth 20000 in
theorem gX4_hasWire_Jx4a65c_size_8abf5 : GoodIn wsX4_hasWire (wsV RX4 30 RJx4a65c yJx4a65c_size_8abf5 wsJx4a65c_size_8abf5) := goodIn_app (goodIn_of _ (by decide +kernel)) ggX4_hasWire_Jx4a65c_size_8abf5
theorem dX4_hasWire_0 : decode cX4_hasWire 0 = .ok (.iload_n 1, 1) := by decide +kernel
theorem dX4_hasWire_1 : decode cX4_hasWire 1 = .ok (.ifCond .lt 18, 3) := by decide +kernel
theorem dX4_hasWire_4 : decode cX4_hasWire 4 = .ok (.iload_n 1, 1) := by decide +kernel
theorem dX4_hasWire_5 : decode cX4_hasWire 5 = .ok (.aload_n 0, 1) := by decide +kernel
theorem dX4_hasWire_6 : decode cX4_hasWire 6 = .ok (.getfield 12, 3) := by decide +kernel
theorem dX4_hasWire_9 : decode cX4_hasWire 9 = .ok (.invokevirtual 30, 3) := by decide +kernel
theorem dX4_hasWire_12 : decode cX4_hasWire 12 = .ok (.if_icmp .ge 7, 3) := by decide +kernel
theorem dX4_hasWire_15 : decode cX4_hasWire 15 = .ok (.iconst 1, 1) := by decide +kernel
theorem dX4_hasWire_16 : decode cX4_hasWire 16 = .ok (.goto 4, 3) := by decide +kernel
theorem dX4_hasWire_19 : decode cX4_hasWire 19 = .ok (.iconst 0, 1) := by decide +kernel
theorem dX4_hasWire_20 : decode cX4_hasWire 20 = .ok (.ireturn, 1) := by decide +kernel
set_option maxRecDepth 20000 in
theorem ggX4_treesByTable_X4_fillTable : GoodIn wsX4_treesByTable wsX4_fillTable := goodIn_r _ [6, 1, 7, 8, 9, 10, 11, 12, 13, 14, 15, 16, 17, 18, 19, 20, 21, 22, 23, 24, 25, 26, 27, 28, 29, 30, 31, 32, 33, 34, 35, 36, 37, 38, 39, 5, 40, 41, 42, 43, 44, 61, 62, 63, 64, 65, 66, 67, 68] (by decide +kernel) (by decide +kernel)
set_option maxRecDepth 20000 in
theorem gX4_treesByTable_X4_fillTable : GoodIn wsX4_treesByTable (wsV RX4 34 RX4 yX4_fillTable wsX4_fillTable) := goodIn_app (goodIn_of _ (by decide +kernel)) ggX4_treesByTable_X4_fillTable
set_option maxRecDepth 20000 in
theorem ggX4_treesByTable_X4_determinant : GoodIn wsX4_treesByTable wsX4_determinant := goodIn_r _ [48, 7, 49, 50, 51, 5, 52, 53, 54, 55, 56, 57, 58, 59, 60, 61, 62, 63] (by decide +kernel) (by decide +kernel)
set_option maxRecDepth 20000 in
theorem gX4_treesByTable_X4_determinant : GoodIn wsX4_treesByTable (wsV RX4 38 RX4 yX4_determinant wsX4_determinant) := goodIn_app (goodIn_of _ (by decide +kernel)) ggX4_treesByTable_X4_determinant
theorem dX4_treesByTable_0 : decode cX4_treesByTable 0 = .ok (.aload_n 0, 1) := by decide +kernel
theorem dX4_treesByTable_1 : decode cX4_treesByTable 1 = .ok (.iconst 0, 1) := by decide +kernel
theorem dX4_treesByTable_2 : decode cX4_treesByTable 2 = .ok (.invokevirtual 34, 3) := by decide +kernel
theorem dX4_treesByTable_5 : decode cX4_treesByTable 5 = .ok (.aload_n 0, 1) := by decide +kernel
theorem dX4_treesByTable_6 : decode cX4_treesByTable 6 = .ok (.aload_n 0, 1) := by decide +kernel
theorem dX4_treesByTable_7 : decode cX4_treesByTable 7 = .ok (.getfield 23, 3) := by decide +kernel
theorem dX4_treesByTable_10 : decode cX4_treesByTable 10 = .ok (.iconst 1, 1) := by decide +kernel
theorem dX4_treesByTable_11 : decode cX4_treesByTable 11 = .ok (.isub, 1) := by decide +kernel
theorem dX4_treesByTable_12 : decode cX4_treesByTable 12 = .ok (.invokevirtual 38, 3) := by decide +kernel
theorem dX4_treesByTable_15 : decode cX4_treesByTable 15 = .ok (.lreturn, 1) := by decide +kernel
set_option maxRecDepth 20000 in
theorem ggX4_fillTable_J7_fill_d0a16 : GoodIn wsX4_fillTable wsJ7_fill_d0a16 := goodIn_r _ [9] (by decide +kernel) (by decide +kernel)
set_option maxRecDepth 20000 in
theorem gX4_fillTable_J7_fill_d0a16 : GoodIn wsX4_fillTable (va_wsS RX4 42 yJ7_fill_d0a16 wsJ7_fill_d0a16) := goodIn_app (goodIn_of _ (by decide +kernel)) ggX4_fillTable_J7_fill_d0a16
set_option maxRecDepth 20000 in
theorem ggX4_fillTable_Jx4a65c_size_8abf5 : GoodIn wsX4_fillTable wsJx4a65c_size_8abf5 := goodIn_r _ [14, 15, 46, 47, 48] (by decide +kernel) (by decide +kernel)
set_option maxRecDepth 20000 in
theorem gX4_fillTable_Jx4a65c_size_8abf5 : GoodIn wsX4_fillTable (wsV RX4 30 RJx4a65c yJx4a65c_size_8abf5 wsJx4a65c_size_8abf5) := goodIn_app (goodIn_of _ (by decide +kernel)) ggX4_fillTable_Jx4a65c_size_8abf5
set_option maxRecDepth 20000 in
theorem ggX4_fillTable_Jx4a65c_get_915e3 : GoodIn wsX4_fillTable wsJx4a65c_get_915e3 := goodIn_r _ [19, 15, 20, 21, 22, 23, 24, 25, 26, 27, 28, 29, 30, 13, 31, 32, 46, 47, 48] (by decide +kernel) (by decide +kernel)
set_option maxRecDepth 20000 in
theorem gX4_fillTable_Jx4a65c_get_915e3 : GoodIn wsX4_fillTable (wsV RX4 48 RJx4a65c yJx4a65c_get_915e3 wsJx4a65c_get_915e3) := goodIn_app (goodIn_of _ (by decide +kernel)) ggX4_fillTable_Jx4a65c_get_915e3
set_option maxRecDepth 20000 in
theorem ggX4_fillTable_X4_lineOf : GoodIn wsX4_fillTable wsX4_lineOf := goodIn_r _ [36] (by decide +kernel) (by decide +kernel)
set_option maxRecDepth 20000 in
theorem gX4_fillTable_X4_lineOf : GoodIn wsX4_fillTable (va_wsS RX4 57 yX4_lineOf wsX4_lineOf) := goodIn_app (goodIn_of _ (by decide +kernel)) ggX4_fillTable_X4_lineOf
set_option maxRecDepth 20000 in
theorem ggX4_fillTable_X4_addToTable : GoodIn wsX4_fillTable wsX4_addToTable := goodIn_r _ [40, 2, 41, 42, 43] (by decide +kernel) (by decide +kernel)
set_option maxRecDepth 20000 in
theorem gX4_fillTable_X4_addToTable : GoodIn wsX4_fillTable (wsV RX4 64 RX4 yX4_addToTable wsX4_addToTable) := goodIn_app (goodIn_of _ (by decide +kernel)) ggX4_fillTable_X4_addToTable
theorem dX4_fillTable_0 : decode cX4_fillTable 0 = .ok (.iconst 0, 1) := by decide +kernel
theorem dX4_fillTable_1 : decode cX4_fillTable 1 = .ok (.istore_n 2, 1) := by decide +kernel
theorem dX4_fillTable_2 : decode cX4_fillTable 2 = .ok (.iload_n 2, 1) := by decide +kernel
theorem dX4_fillTable_3 : decode cX4_fillTable 3 = .ok (.aload_n 0, 1) := by decide +kernel
theorem dX4_fillTable_4 : decode cX4_fillTable 4 = .ok (.getfield 23, 3) := by decide +kernel
theorem dX4_fillTable_7 : decode cX4_fillTable 7 = .ok (.iconst 1, 1) := by decide +kernel
theorem dX4_fillTable_8 : decode cX4_fillTable 8 = .ok (.isub, 1) := by decide +kernel
theorem dX4_fillTable_9 : decode cX4_fillTable 9 = .ok (.if_icmp .ge 19, 3) := by decide +kernel
theorem dX4_fillTable_12 : decode cX4_fillTable 12 = .ok (.aload_n 0, 1) := by decide +kernel
theorem dX4_fillTable_13 : decode cX4_fillTable 13 = .ok (.getfield 20, 3) := by decide +kernel
theorem dX4_fillTable_16 : decode cX4_fillTable 16 = .ok (.iload_n 2, 1) := by decide +kernel
theorem dX4_fillTable_17 : decode cX4_fillTable 17 = .ok (.aaload, 1) := by decide +kernel
theorem dX4_fillTable_18 : decode cX4_fillTable 18 = .ok (.lconst 0, 1) := by decide +kernel
theorem dX4_fillTable_19 : decode cX4_fillTable 19 = .ok (.invokestatic 42, 3) := by decide +kernel
theorem dX4_fillTable_22 : decode cX4_fillTable 22 = .ok (.iinc 2 1, 3) := by decide +kernel
theorem dX4_fillTable_25 : decode cX4_fillTable 25 = .ok (.goto (-23), 3) := by decide +kernel
theorem dX4_fillTable_28 : decode cX4_fillTable 28 = .ok (.iconst 0, 1) := by decide +kernel
theorem dX4_fillTable_29 : decode cX4_fillTable 29 = .ok (.istore_n 2, 1) := by decide +kernel
theorem dX4_fillTable_30 : decode cX4_fillTable 30 = .ok (.iload_n 2, 1) := by decide +kernel
theorem dX4_fillTable_31 : decode cX4_fillTable 31 = .ok (.aload_n 0, 1) := by decide +kernel
theorem dX4_fillTable_32 : decode cX4_fillTable 32 = .ok (.getfield 12, 3) := by decide +kernel
theorem dX4_fillTable_35 : decode cX4_fillTable 35 = .ok (.invokevirtual 30, 3) := by decide +kernel
theorem dX4_fillTable_38 : decode cX4_fillTable 38 = .ok (.if_icmp .ge 84, 3) := by decide +kernel
theorem dX4_fillTable_41 : decode cX4_fillTable 41 = .ok (.aload_n 0, 1) := by decide +kernel
theorem dX4_fillTable_42 : decode cX4_fillTable 42 = .ok (.getfield 12, 3) := by decide +kernel
theorem dX4_fillTable_45 : decode cX4_fillTable 45 = .ok (.iload_n 2, 1) := by decide +kernel
theorem dX4_fillTable_46 : decode cX4_fillTable 46 = .ok (.invokevirtual 48, 3) := by decide +kernel
theorem dX4_fillTable_49 : decode cX4_fillTable 49 = .ok (.checkcast 52, 3) := by decide +kernel
theorem dX4_fillTable_52 : decode cX4_fillTable 52 = .ok (.getfield 54, 3) := by decide +kernel
theorem dX4_fillTable_55 : decode cX4_fillTable 55 = .ok (.iload_n 1, 1) := by decide +kernel
theorem dX4_fillTable_56 : decode cX4_fillTable 56 = .ok (.invokestatic 57, 3) := by decide +kernel
theorem dX4_fillTable_59 : decode cX4_fillTable 59 = .ok (.istore_n 3, 1) := by decide +kernel
theorem dX4_fillTable_60 : decode cX4_fillTable 60 = .ok (.aload_n 0, 1) := by decide +kernel
theorem dX4_fillTable_61 : decode cX4_fillTable 61 = .ok (.getfield 12, 3) := by decide +kernel
theorem dX4_fillTable_64 : decode cX4_fillTable 64 = .ok (.iload_n 2, 1) := by decide +kernel
theorem dX4_fillTable_65 : decode cX4_fillTable 65 = .ok (.invokevirtual 48, 3) := by decide +kernel
theorem dX4_fillTable_68 : decode cX4_fillTable 68 = .ok (.checkcast 52, 3) := by decide +kernel
theorem dX4_fillTable_71 : decode cX4_fillTable 71 = .ok (.getfield 61, 3) := by decide +kernel
theorem dX4_fillTable_74 : decode cX4_fillTable 74 = .ok (.iload_n 1, 1) := by decide +kernel
theorem dX4_fillTable_75 : decode cX4_fillTable 75 = .ok (.invokestatic 57, 3) := by decide +kernel
theorem dX4_fillTable_78 : decode cX4_fillTable 78 = .ok (.istore 4, 2) := by decide +kernel
theorem dX4_fillTable_80 : decode cX4_fillTable 80 = .ok (.aload_n 0, 1) := by decide +kernel
theorem dX4_fillTable_81 : decode cX4_fillTable 81 = .ok (.iload_n 3, 1) := by decide +kernel
theorem dX4_fillTable_82 : decode cX4_fillTable 82 = .ok (.iload_n 3, 1) := by decide +kernel
theorem dX4_fillTable_83 : decode cX4_fillTable 83 = .ok (.lconst 1, 1) := by decide +kernel
theorem dX4_fillTable_84 : decode cX4_fillTable 84 = .ok (.invokevirtual 64, 3) := by decide +kernel
theorem dX4_fillTable_87 : decode cX4_fillTable 87 = .ok (.aload_n 0, 1) := by decide +kernel
theorem dX4_fillTable_88 : decode cX4_fillTable 88 = .ok (.iload 4, 2) := by decide +kernel
theorem dX4_fillTable_90 : decode cX4_fillTable 90 = .ok (.iload 4, 2) := by decide +kernel
theorem dX4_fillTable_92 : decode cX4_fillTable 92 = .ok (.lconst 1, 1) := by decide +kernel
theorem dX4_fillTable_93 : decode cX4_fillTable 93 = .ok (.invokevirtual 64, 3) := by decide +kernel
theorem dX4_fillTable_96 : decode cX4_fillTable 96 = .ok (.aload_n 0, 1) := by decide +kernel
theorem dX4_fillTable_97 : decode cX4_fillTable 97 = .ok (.iload_n 3, 1) := by decide +kernel
theorem dX4_fillTable_98 : decode cX4_fillTable 98 = .ok (.iload 4, 2) := by decide +kernel
theorem dX4_fillTable_100 : decode cX4_fillTable 100 = .ok (.ldc2_w 68, 3) := by decide +kernel
theorem dX4_fillTable_103 : decode cX4_fillTable 103 = .ok (.invokevirtual 64, 3) := by decide +kernel
theorem dX4_fillTable_106 : decode cX4_fillTable 106 = .ok (.aload_n 0, 1) := by decide +kernel
theorem dX4_fillTable_107 : decode cX4_fillTable 107 = .ok (.iload 4, 2) := by decide +kernel
theorem dX4_fillTable_109 : decode cX4_fillTable 109 = .ok (.iload_n 3, 1) := by decide +kernel
theorem dX4_fillTable_110 : decode cX4_fillTable 110 = .ok (.ldc2_w 68, 3) := by decide +kernel
theorem dX4_fillTable_113 : decode cX4_fillTable 113 = .ok (.invokevirtual 64, 3) := by decide +kernel
theorem dX4_fillTable_116 : decode cX4_fillTable 116 = .ok (.iinc 2 1, 3) := by decide +kernel
theorem dX4_fillTable_119 : decode cX4_fillTable 119 = .ok (.goto (-89), 3) := by decide +kernel
theorem dX4_fillTable_122 : decode cX4_fillTable 122 = .ok (.return_, 1) := by decide +kernel
theorem dX4_lineOf_0 : decode cX4_lineOf 0 = .ok (.iload_n 0, 1) := by decide +kernel
theorem dX4_lineOf_1 : decode cX4_lineOf 1 = .ok (.iload_n 1, 1) := by decide +kernel
theorem dX4_lineOf_2 : decode cX4_lineOf 2 = .ok (.if_icmp .ne 5, 3) := by decide +kernel
theorem dX4_lineOf_5 : decode cX4_lineOf 5 = .ok (.iconst (-1), 1) := by decide +kernel
theorem dX4_lineOf_6 : decode cX4_lineOf 6 = .ok (.ireturn, 1) := by decide +kernel
theorem dX4_lineOf_7 : decode cX4_lineOf 7 = .ok (.iload_n 0, 1) := by decide +kernel
theorem dX4_lineOf_8 : decode cX4_lineOf 8 = .ok (.iload_n 1, 1) := by decide +kernel
theorem dX4_lineOf_9 : decode cX4_lineOf 9 = .ok (.if_icmp .ge 7, 3) := by decide +kernel
theorem dX4_lineOf_12 : decode cX4_lineOf 12 = .ok (.iload_n 0, 1) := by decide +kernel
theorem dX4_lineOf_13 : decode cX4_lineOf 13 = .ok (.goto 6, 3) := by decide +kernel
theorem dX4_lineOf_16 : decode cX4_lineOf 16 = .ok (.iload_n 0, 1) := by decide +kernel
theorem dX4_lineOf_17 : decode cX4_lineOf 17 = .ok (.iconst 1, 1) := by decide +kernel
theorem dX4_lineOf_18 : decode cX4_lineOf 18 = .ok (.isub, 1) := by decide +kernel
theorem dX4_lineOf_19 : decode cX4_lineOf 19 = .ok (.ireturn, 1) := by decide +kernel
theorem dX4_addToTable_0 : decode cX4_addToTable 0 = .ok (.iload_n 1, 1) := by decide +kernel
theorem dX4_addToTable_1 : decode cX4_addToTable 1 = .ok (.iconst (-1), 1) := by decide +kernel
theorem dX4_addToTable_2 : decode cX4_addToTable 2 = .ok (.if_icmp .eq 20, 3) := by decide +kernel
theorem dX4_addToTable_5 : decode cX4_addToTable 5 = .ok (.iload_n 2, 1) := by decide +kernel
theorem dX4_addToTable_6 : decode cX4_addToTable 6 = .ok (.iconst (-1), 1) := by decide +kernel
theorem dX4_addToTable_7 : decode cX4_addToTable 7 = .ok (.if_icmp .eq 15, 3) := by decide +kernel
theorem dX4_addToTable_10 : decode cX4_addToTable 10 = .ok (.aload_n 0, 1) := by decide +kernel
theorem dX4_addToTable_11 : decode cX4_addToTable 11 = .ok (.getfield 20, 3) := by decide +kernel
theorem dX4_addToTable_14 : decode cX4_addToTable 14 = .ok (.iload_n 1, 1) := by decide +kernel
theorem dX4_addToTable_15 : decode cX4_addToTable 15 = .ok (.aaload, 1) := by decide +kernel
theorem dX4_addToTable_16 : decode cX4_addToTable 16 = .ok (.iload_n 2, 1) := by decide +kernel
theorem dX4_addToTable_17 : decode cX4_addToTable 17 = .ok (.dup2, 1) := by decide +kernel
theorem dX4_addToTable_18 : decode cX4_addToTable 18 = .ok (.laload, 1) := by decide +kernel
theorem dX4_addToTable_19 : decode cX4_addToTable 19 = .ok (.lload_n 3, 1) := by decide +kernel
theorem dX4_addToTable_20 : decode cX4_addToTable 20 = .ok (.ladd, 1) := by decide +kernel
theorem dX4_addToTable_21 : decode cX4_addToTable 21 = .ok (.lastore, 1) := by decide +kernel
theorem dX4_addToTable_22 : decode cX4_addToTable 22 = .ok (.return_, 1) := by decide +kernel
set_option maxRecDepth 20000 in
theorem ggX4_determinant_X4_pivotRow : GoodIn wsX4_determinant wsX4_pivotRow := goodIn_r _ [6, 1, 15, 16, 17] (by decide +kernel) (by decide +kernel)
set_option maxRecDepth 20000 in
theorem gX4_determinant_X4_pivotRow : GoodIn wsX4_determinant (wsV RX4 70 RX4 yX4_pivotRow wsX4_pivotRow) := goodIn_app (goodIn_of _ (by decide +kernel)) ggX4_determinant_X4_pivotRow
set_option maxRecDepth 20000 in
theorem ggX4_determinant_X4_swapRows : GoodIn wsX4_determinant wsX4_swapRows := goodIn_r _ [10, 1, 15, 16, 17] (by decide +kernel) (by decide +kernel)
set_option maxRecDepth 20000 in
theorem gX4_determinant_X4_swapRows : GoodIn wsX4_determinant (wsV RX4 73 RX4 yX4_swapRows wsX4_swapRows) := goodIn_app (goodIn_of _ (by decide +kernel)) ggX4_determinant_X4_swapRows
set_option maxRecDepth 20000 in
theorem ggX4_determinant_X4_reduceBelow : GoodIn wsX4_determinant wsX4_reduceBelow := goodIn_r _ [14, 1, 15, 16, 17] (by decide +kernel) (by decide +kernel)
set_option maxRecDepth 20000 in
theorem gX4_determinant_X4_reduceBelow : GoodIn wsX4_determinant (wsV RX4 77 RX4 yX4_reduceBelow wsX4_reduceBelow) := goodIn_app (goodIn_of _ (by decide +kernel)) ggX4_determinant_X4_reduceBelow
theorem dX4_determinant_0 : decode cX4_determinant 0 = .ok (.lconst 1, 1) := by decide +kernel
theorem dX4_determinant_1 : decode cX4_determinant 1 = .ok (.lstore_n 2, 1) := by decide +kernel
theorem dX4_determinant_2 : decode cX4_determinant 2 = .ok (.lconst 1, 1) := by decide +kernel
theorem dX4_determinant_3 : decode cX4_determinant 3 = .ok (.lstore 4, 2) := by decide +kernel
theorem dX4_determinant_5 : decode cX4_determinant 5 = .ok (.iconst 0, 1) := by decide +kernel
theorem dX4_determinant_6 : decode cX4_determinant 6 = .ok (.istore 6, 2) := by decide +kernel
theorem dX4_determinant_8 : decode cX4_determinant 8 = .ok (.iload 6, 2) := by decide +kernel
theorem dX4_determinant_10 : decode cX4_determinant 10 = .ok (.iload_n 1, 1) := by decide +kernel
theorem dX4_determinant_11 : decode cX4_determinant 11 = .ok (.if_icmp .ge 65, 3) := by decide +kernel
theorem dX4_determinant_14 : decode cX4_determinant 14 = .ok (.aload_n 0, 1) := by decide +kernel
theorem dX4_determinant_15 : decode cX4_determinant 15 = .ok (.iload 6, 2) := by decide +kernel
theorem dX4_determinant_17 : decode cX4_determinant 17 = .ok (.iload_n 1, 1) := by decide +kernel
theorem dX4_determinant_18 : decode cX4_determinant 18 = .ok (.invokevirtual 70, 3) := by decide +kernel
theorem dX4_determinant_21 : decode cX4_determinant 21 = .ok (.istore 7, 2) := by decide +kernel
theorem dX4_determinant_23 : decode cX4_determinant 23 = .ok (.iload 7, 2) := by decide +kernel
theorem dX4_determinant_25 : decode cX4_determinant 25 = .ok (.iconst (-1), 1) := by decide +kernel
theorem dX4_determinant_26 : decode cX4_determinant 26 = .ok (.if_icmp .ne 5, 3) := by decide +kernel
theorem dX4_determinant_29 : decode cX4_determinant 29 = .ok (.lconst 0, 1) := by decide +kernel
theorem dX4_determinant_30 : decode cX4_determinant 30 = .ok (.lreturn, 1) := by decide +kernel
theorem dX4_determinant_31 : decode cX4_determinant 31 = .ok (.iload 7, 2) := by decide +kernel
theorem dX4_determinant_33 : decode cX4_determinant 33 = .ok (.iload 6, 2) := by decide +kernel
theorem dX4_determinant_35 : decode cX4_determinant 35 = .ok (.if_icmp .eq 16, 3) := by decide +kernel
theorem dX4_determinant_38 : decode cX4_determinant 38 = .ok (.aload_n 0, 1) := by decide +kernel
theorem dX4_determinant_39 : decode cX4_determinant 39 = .ok (.iload 7, 2) := by decide +kernel
theorem dX4_determinant_41 : decode cX4_determinant 41 = .ok (.iload 6, 2) := by decide +kernel
theorem dX4_determinant_43 : decode cX4_determinant 43 = .ok (.invokevirtual 73, 3) := by decide +kernel
theorem dX4_determinant_46 : decode cX4_determinant 46 = .ok (.lload 4, 2) := by decide +kernel
theorem dX4_determinant_48 : decode cX4_determinant 48 = .ok (.lneg, 1) := by decide +kernel
theorem dX4_determinant_49 : decode cX4_determinant 49 = .ok (.lstore 4, 2) := by decide +kernel
theorem dX4_determinant_51 : decode cX4_determinant 51 = .ok (.aload_n 0, 1) := by decide +kernel
theorem dX4_determinant_52 : decode cX4_determinant 52 = .ok (.iload 6, 2) := by decide +kernel
theorem dX4_determinant_54 : decode cX4_determinant 54 = .ok (.iload_n 1, 1) := by decide +kernel
theorem dX4_determinant_55 : decode cX4_determinant 55 = .ok (.lload_n 2, 1) := by decide +kernel
theorem dX4_determinant_56 : decode cX4_determinant 56 = .ok (.invokevirtual 77, 3) := by decide +kernel
theorem dX4_determinant_59 : decode cX4_determinant 59 = .ok (.aload_n 0, 1) := by decide +kernel
theorem dX4_determinant_60 : decode cX4_determinant 60 = .ok (.getfield 20, 3) := by decide +kernel
theorem dX4_determinant_63 : decode cX4_determinant 63 = .ok (.iload 6, 2) := by decide +kernel
theorem dX4_determinant_65 : decode cX4_determinant 65 = .ok (.aaload, 1) := by decide +kernel
theorem dX4_determinant_66 : decode cX4_determinant 66 = .ok (.iload 6, 2) := by decide +kernel
theorem dX4_determinant_68 : decode cX4_determinant 68 = .ok (.laload, 1) := by decide +kernel
theorem dX4_determinant_69 : decode cX4_determinant 69 = .ok (.lstore_n 2, 1) := by decide +kernel
theorem dX4_determinant_70 : decode cX4_determinant 70 = .ok (.iinc 6 1, 3) := by decide +kernel
theorem dX4_determinant_73 : decode cX4_determinant 73 = .ok (.goto (-65), 3) := by decide +kernel
theorem dX4_determinant_76 : decode cX4_determinant 76 = .ok (.lload 4, 2) := by decide +kernel
theorem dX4_determinant_78 : decode cX4_determinant 78 = .ok (.lload_n 2, 1) := by decide +kernel
theorem dX4_determinant_79 : decode cX4_determinant 79 = .ok (.lmul, 1) := by decide +kernel
theorem dX4_determinant_80 : decode cX4_determinant 80 = .ok (.lreturn, 1) := by decide +kernel
theorem dX4_pivotRow_0 : decode cX4_pivotRow 0 = .ok (.iload_n 1, 1) := by decide +kernel
theorem dX4_pivotRow_1 : decode cX4_pivotRow 1 = .ok (.istore_n 3, 1) := by decide +kernel
theorem dX4_pivotRow_2 : decode cX4_pivotRow 2 = .ok (.iload_n 3, 1) := by decide +kernel
theorem dX4_pivotRow_3 : decode cX4_pivotRow 3 = .ok (.iload_n 2, 1) := by decide +kernel
theorem dX4_pivotRow_4 : decode cX4_pivotRow 4 = .ok (.if_icmp .ge 24, 3) := by decide +kernel
theorem dX4_pivotRow_7 : decode cX4_pivotRow 7 = .ok (.aload_n 0, 1) := by decide +kernel
theorem dX4_pivotRow_8 : decode cX4_pivotRow 8 = .ok (.getfield 20, 3) := by decide +kernel
theorem dX4_pivotRow_11 : decode cX4_pivotRow 11 = .ok (.iload_n 3, 1) := by decide +kernel
theorem dX4_pivotRow_12 : decode cX4_pivotRow 12 = .ok (.aaload, 1) := by decide +kernel
theorem dX4_pivotRow_13 : decode cX4_pivotRow 13 = .ok (.iload_n 1, 1) := by decide +kernel
theorem dX4_pivotRow_14 : decode cX4_pivotRow 14 = .ok (.laload, 1) := by decide +kernel
theorem dX4_pivotRow_15 : decode cX4_pivotRow 15 = .ok (.lconst 0, 1) := by decide +kernel
theorem dX4_pivotRow_16 : decode cX4_pivotRow 16 = .ok (.lcmp, 1) := by decide +kernel
theorem dX4_pivotRow_17 : decode cX4_pivotRow 17 = .ok (.ifCond .eq 5, 3) := by decide +kernel
theorem dX4_pivotRow_20 : decode cX4_pivotRow 20 = .ok (.iload_n 3, 1) := by decide +kernel
theorem dX4_pivotRow_21 : decode cX4_pivotRow 21 = .ok (.ireturn, 1) := by decide +kernel
theorem dX4_pivotRow_22 : decode cX4_pivotRow 22 = .ok (.iinc 3 1, 3) := by decide +kernel
theorem dX4_pivotRow_25 : decode cX4_pivotRow 25 = .ok (.goto (-23), 3) := by decide +kernel
theorem dX4_pivotRow_28 : decode cX4_pivotRow 28 = .ok (.iconst (-1), 1) := by decide +kernel
theorem dX4_pivotRow_29 : decode cX4_pivotRow 29 = .ok (.ireturn, 1) := by decide +kernel
theorem dX4_swapRows_0 : decode cX4_swapRows 0 = .ok (.aload_n 0, 1) := by decide +kernel
theorem dX4_swapRows_1 : decode cX4_swapRows 1 = .ok (.getfield 20, 3) := by decide +kernel
theorem dX4_swapRows_4 : decode cX4_swapRows 4 = .ok (.iload_n 1, 1) := by decide +kernel
theorem dX4_swapRows_5 : decode cX4_swapRows 5 = .ok (.aaload, 1) := by decide +kernel
theorem dX4_swapRows_6 : decode cX4_swapRows 6 = .ok (.astore_n 3, 1) := by decide +kernel
theorem dX4_swapRows_7 : decode cX4_swapRows 7 = .ok (.aload_n 0, 1) := by decide +kernel
theorem dX4_swapRows_8 : decode cX4_swapRows 8 = .ok (.getfield 20, 3) := by decide +kernel
theorem dX4_swapRows_11 : decode cX4_swapRows 11 = .ok (.iload_n 1, 1) := by decide +kernel
