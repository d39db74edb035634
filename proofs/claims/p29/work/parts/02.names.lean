/-! ===== BEGIN printed: names, fields, word lists, decode rows ===== -/
def RX0 : String := "BottlePyramid$Grammar"
def TX0 : u_T := fun k => match k with
  | _ => ("", "", "", false)
def tyX0 : Nat → FieldType := fun k => match k with
  | _ => .int
abbrev wsX00 : List Cond := u_ws RX0 TX0 0
theorem nmX0 : ∀ a, a < 0 → ∀ b, b < 0 → a ≠ b → (TX0 a).2.1 ≠ (TX0 b).2.1 := by decide +kernel
theorem tyX0_ok : ∀ k, k < 0 → parseFieldDescriptor (TX0 k).2.2.1 = some (tyX0 k) := by decide +kernel
def RX1 : String := "BottlePyramid$Pile"
def TX1 : u_T := fun k => match k with
  | _ => ("", "", "", false)
def tyX1 : Nat → FieldType := fun k => match k with
  | _ => .int
abbrev wsX10 : List Cond := u_ws RX1 TX1 0
theorem nmX1 : ∀ a, a < 0 → ∀ b, b < 0 → a ≠ b → (TX1 a).2.1 ≠ (TX1 b).2.1 := by decide +kernel
theorem tyX1_ok : ∀ k, k < 0 → parseFieldDescriptor (TX1 k).2.2.1 = some (tyX1 k) := by decide +kernel
abbrev cX1_bit : ByteArray := prog_3_method_2_code
def yX1_bit : MethodName := ⟨RX1, "bit", "(II)I"⟩
abbrev cX1_bitsOf : ByteArray := prog_3_method_3_code
def yX1_bitsOf : MethodName := ⟨RX1, "bitsOf", "(II)I"⟩
abbrev cX1_hasBottle : ByteArray := prog_3_method_4_code
def yX1_hasBottle : MethodName := ⟨RX1, "hasBottle", "(III)Z"⟩
abbrev cX1_hasRoom : ByteArray := prog_3_method_5_code
def yX1_hasRoom : MethodName := ⟨RX1, "hasRoom", "(III)Z"⟩
abbrev cX1_settled : ByteArray := prog_3_method_6_code
def yX1_settled : MethodName := ⟨RX1, "settled", "(I)I"⟩
abbrev cX1_mirrored : ByteArray := prog_3_method_7_code
def yX1_mirrored : MethodName := ⟨RX1, "mirrored", "(I)I"⟩
abbrev cX1_robbed : ByteArray := prog_3_method_8_code
def yX1_robbed : MethodName := ⟨RX1, "robbed", "(IIII)I"⟩
abbrev cX1_fallenBy : ByteArray := prog_3_method_9_code
def yX1_fallenBy : MethodName := ⟨RX1, "fallenBy", "(IIII)I"⟩
abbrev cX1_allShapes : ByteArray := prog_3_method_10_code
def yX1_allShapes : MethodName := ⟨RX1, "allShapes", "()[I"⟩
abbrev cX1_addShapes : ByteArray := prog_3_method_11_code
def yX1_addShapes : MethodName := ⟨RX1, "addShapes", "([IIII)I"⟩
def RX2 : String := "BottlePyramid$Play"
def TX2 : u_T := fun k => match k with
  | 0 => ("BottlePyramid$Play", "shapes", "[I", true)
  | 1 => ("BottlePyramid$Play", "most", "I", true)
  | 2 => ("BottlePyramid$Play", "barring", "Z", true)
  | 3 => ("BottlePyramid$Play", "wonWhenOver", "Z", true)
  | 4 => ("BottlePyramid$Play", "won", "[Z", true)
  | 5 => ("BottlePyramid$Play", "longest", "[I", true)
  | _ => ("BottlePyramid$Play", "shortest", "[I", true)
def tyX2 : Nat → FieldType := fun k => match k with
  | 0 => .array .int
  | 1 => .int
  | 2 => .boolean
  | 3 => .boolean
  | 4 => .array .boolean
  | 5 => .array .int
  | _ => .array .int
abbrev wsX20 : List Cond := u_ws RX2 TX2 7
theorem nmX2 : ∀ a, a < 7 → ∀ b, b < 7 → a ≠ b → (TX2 a).2.1 ≠ (TX2 b).2.1 := by decide +kernel
theorem tyX2_ok : ∀ k, k < 7 → parseFieldDescriptor (TX2 k).2.2.1 = some (tyX2 k) := by decide +kernel
abbrev cX2_init : ByteArray := prog_4_method_1_code
def yX2_init : MethodName := ⟨RX2, "<init>", "([IIZZ)V"⟩
abbrev cX2_playOut : ByteArray := prog_4_method_2_code
def yX2_playOut : MethodName := ⟨RX2, "playOut", "(II)V"⟩
abbrev cX2_slotBehind : ByteArray := prog_4_method_3_code
def yX2_slotBehind : MethodName := ⟨RX2, "slotBehind", "(IIII)I"⟩
abbrev cX2_slotOf : ByteArray := prog_4_method_4_code
def yX2_slotOf : MethodName := ⟨RX2, "slotOf", "(II)I"⟩
abbrev cX2_isWonBy : ByteArray := prog_4_method_5_code
def yX2_isWonBy : MethodName := ⟨RX2, "isWonBy", "(II)Z"⟩
abbrev cX2_longestGame : ByteArray := prog_4_method_6_code
def yX2_longestGame : MethodName := ⟨RX2, "longestGame", "(II)I"⟩
abbrev cX2_shortestGame : ByteArray := prog_4_method_7_code
def yX2_shortestGame : MethodName := ⟨RX2, "shortestGame", "(II)I"⟩
abbrev cX2_shapesWonBy : ByteArray := prog_4_method_8_code
def yX2_shapesWonBy : MethodName := ⟨RX2, "shapesWonBy", "(I)I"⟩
abbrev cX2_shapesOver : ByteArray := prog_4_method_9_code
def yX2_shapesOver : MethodName := ⟨RX2, "shapesOver", "()I"⟩
def RX3 : String := "BottlePyramid"
def TX3 : u_T := fun k => match k with
  | 0 => ("BottlePyramid", "now", "[I", true)
  | 1 => ("BottlePyramid", "saved", "[I", true)
  | 2 => ("BottlePyramid", "savedStates", "I", false)
  | 3 => ("BottlePyramid", "snapshot", "[I", true)
  | 4 => ("BottlePyramid", "hasSnapshot", "Z", false)
  | 5 => ("BottlePyramid", "typed", "[C", true)
  | 6 => ("BottlePyramid", "typedLength", "I", false)
  | 7 => ("BottlePyramid", "shapes", "[I", true)
  | _ => ("BottlePyramid", "plays", "[LBottlePyramid$Play;", true)
def tyX3 : Nat → FieldType := fun k => match k with
  | 0 => .array .int
  | 1 => .array .int
  | 2 => .int
  | 3 => .array .int
  | 4 => .boolean
  | 5 => .array .char
  | 6 => .int
  | 7 => .array .int
  | _ => .array (.object "BottlePyramid$Play")
abbrev wsX30 : List Cond := u_ws RX3 TX3 9
theorem nmX3 : ∀ a, a < 9 → ∀ b, b < 9 → a ≠ b → (TX3 a).2.1 ≠ (TX3 b).2.1 := by decide +kernel
theorem tyX3_ok : ∀ k, k < 9 → parseFieldDescriptor (TX3 k).2.2.1 = some (tyX3 k) := by decide +kernel
abbrev cX3_init : ByteArray := prog_1_method_1_code
def yX3_init : MethodName := ⟨RX3, "<init>", "()V"⟩
abbrev cX3_take : ByteArray := prog_1_method_2_code
def yX3_take : MethodName := ⟨RX3, "take", "(II)I"⟩
abbrev cX3_turn : ByteArray := prog_1_method_3_code
def yX3_turn : MethodName := ⟨RX3, "turn", "(I)I"⟩
abbrev cX3_knock : ByteArray := prog_1_method_4_code
def yX3_knock : MethodName := ⟨RX3, "knock", "(II)I"⟩
abbrev cX3_put : ByteArray := prog_1_method_5_code
def yX3_put : MethodName := ⟨RX3, "put", "(II)I"⟩
abbrev cX3_mirror : ByteArray := prog_1_method_6_code
def yX3_mirror : MethodName := ⟨RX3, "mirror", "()I"⟩
abbrev cX3_refill : ByteArray := prog_1_method_7_code
def yX3_refill : MethodName := ⟨RX3, "refill", "()I"⟩
abbrev cX3_set : ByteArray := prog_1_method_8_code
def yX3_set : MethodName := ⟨RX3, "set", "(II)I"⟩
abbrev cX3_keep : ByteArray := prog_1_method_13_code
def yX3_keep : MethodName := ⟨RX3, "keep", "()I"⟩
abbrev cX3_goBack : ByteArray := prog_1_method_14_code
def yX3_goBack : MethodName := ⟨RX3, "goBack", "()I"⟩
abbrev cX3_undo : ByteArray := prog_1_method_15_code
def yX3_undo : MethodName := ⟨RX3, "undo", "()I"⟩
abbrev cX3_row : ByteArray := prog_1_method_16_code
def yX3_row : MethodName := ⟨RX3, "row", "(II)I"⟩
abbrev cX3_count : ByteArray := prog_1_method_17_code
def yX3_count : MethodName := ⟨RX3, "count", "(I)I"⟩
abbrev cX3_setting : ByteArray := prog_1_method_18_code
def yX3_setting : MethodName := ⟨RX3, "setting", "(I)I"⟩
abbrev cX3_why : ByteArray := prog_1_method_19_code
def yX3_why : MethodName := ⟨RX3, "why", "(II)I"⟩
abbrev cX3_falls : ByteArray := prog_1_method_20_code
def yX3_falls : MethodName := ⟨RX3, "falls", "(II)I"⟩
abbrev cX3_wins : ByteArray := prog_1_method_21_code
def yX3_wins : MethodName := ⟨RX3, "wins", "(I)I"⟩
abbrev cX3_best : ByteArray := prog_1_method_22_code
def yX3_best : MethodName := ⟨RX3, "best", "()I"⟩
abbrev cX3_length : ByteArray := prog_1_method_23_code
def yX3_length : MethodName := ⟨RX3, "length", "(I)I"⟩
abbrev cX3_pyramids : ByteArray := prog_1_method_24_code
def yX3_pyramids : MethodName := ⟨RX3, "pyramids", "(I)I"⟩
abbrev cX3_brokenShare : ByteArray := prog_1_method_25_code
def yX3_brokenShare : MethodName := ⟨RX3, "brokenShare", "()D"⟩
abbrev cX3_wonShare : ByteArray := prog_1_method_26_code
def yX3_wonShare : MethodName := ⟨RX3, "wonShare", "()F"⟩
abbrev cX3_isRow : ByteArray := prog_1_method_28_code
def yX3_isRow : MethodName := ⟨RX3, "isRow", "(I)Z"⟩
abbrev cX3_isPlace : ByteArray := prog_1_method_29_code
def yX3_isPlace : MethodName := ⟨RX3, "isPlace", "(II)Z"⟩
abbrev cX3_isSetting : ByteArray := prog_1_method_30_code
def yX3_isSetting : MethodName := ⟨RX3, "isSetting", "(I)Z"⟩
abbrev cX3_save : ByteArray := prog_1_method_31_code
def yX3_save : MethodName := ⟨RX3, "save", "()V"⟩
abbrev cX3_isBarring : ByteArray := prog_1_method_32_code
def yX3_isBarring : MethodName := ⟨RX3, "isBarring", "()Z"⟩
abbrev cX3_reasonAgainst : ByteArray := prog_1_method_33_code
def yX3_reasonAgainst : MethodName := ⟨RX3, "reasonAgainst", "(II)I"⟩
abbrev cX3_maskBehind : ByteArray := prog_1_method_34_code
def yX3_maskBehind : MethodName := ⟨RX3, "maskBehind", "(II)I"⟩
abbrev cX3_steal : ByteArray := prog_1_method_35_code
def yX3_steal : MethodName := ⟨RX3, "steal", "(II)I"⟩
abbrev cX3_knockOut : ByteArray := prog_1_method_36_code
def yX3_knockOut : MethodName := ⟨RX3, "knockOut", "(II)I"⟩
abbrev cX3_letFall : ByteArray := prog_1_method_37_code
def yX3_letFall : MethodName := ⟨RX3, "letFall", "(I)I"⟩
abbrev cX3_addBottle : ByteArray := prog_1_method_38_code
def yX3_addBottle : MethodName := ⟨RX3, "addBottle", "(II)I"⟩
abbrev cX3_swapSides : ByteArray := prog_1_method_39_code
def yX3_swapSides : MethodName := ⟨RX3, "swapSides", "()I"⟩
abbrev cX3_fillUp : ByteArray := prog_1_method_40_code
def yX3_fillUp : MethodName := ⟨RX3, "fillUp", "()I"⟩
abbrev cX3_lowestPlace : ByteArray := prog_1_method_44_code
def yX3_lowestPlace : MethodName := ⟨RX3, "lowestPlace", "(I)I"⟩
abbrev cX3_highestPlace : ByteArray := prog_1_method_45_code
def yX3_highestPlace : MethodName := ⟨RX3, "highestPlace", "(I)I"⟩
abbrev cX3_greatestTheft : ByteArray := prog_1_method_46_code
def yX3_greatestTheft : MethodName := ⟨RX3, "greatestTheft", "(I)I"⟩
abbrev cX3_brokenInAll : ByteArray := prog_1_method_47_code
def yX3_brokenInAll : MethodName := ⟨RX3, "brokenInAll", "()I"⟩
abbrev cX3_possibleThefts : ByteArray := prog_1_method_48_code
def yX3_possibleThefts : MethodName := ⟨RX3, "possibleThefts", "()I"⟩
abbrev cX3_winner : ByteArray := prog_1_method_49_code
def yX3_winner : MethodName := ⟨RX3, "winner", "()I"⟩
abbrev cX3_play : ByteArray := prog_1_method_50_code
def yX3_play : MethodName := ⟨RX3, "play", "()LBottlePyramid$Play;"⟩
def RX4 : String := "BottlePyramidModel"
def TX4 : u_T := fun k => match k with
  | _ => ("", "", "", false)
def tyX4 : Nat → FieldType := fun k => match k with
  | _ => .int
abbrev wsX40 : List Cond := u_ws RX4 TX4 0
theorem nmX4 : ∀ a, a < 0 → ∀ b, b < 0 → a ≠ b → (TX4 a).2.1 ≠ (TX4 b).2.1 := by decide +kernel
theorem tyX4_ok : ∀ k, k < 0 → parseFieldDescriptor (TX4 k).2.2.1 = some (tyX4 k) := by decide +kernel
def RJ6 : String := "java/lang/Integer"
def TJ6 : u_T := fun k => match k with
  | _ => ("", "", "", false)
def tyJ6 : Nat → FieldType := fun k => match k with
  | _ => .int
abbrev wsJ60 : List Cond := u_ws RJ6 TJ6 0
theorem nmJ6 : ∀ a, a < 0 → ∀ b, b < 0 → a ≠ b → (TJ6 a).2.1 ≠ (TJ6 b).2.1 := by decide +kernel
theorem tyJ6_ok : ∀ k, k < 0 → parseFieldDescriptor (TJ6 k).2.2.1 = some (tyJ6 k) := by decide +kernel
abbrev cJ6_bitCount_0f7a4 : ByteArray := prog_11_method_49_code
def yJ6_bitCount_0f7a4 : MethodName := ⟨RJ6, "bitCount", "(I)I"⟩
def RJ9 : String := "java/lang/Math"
def TJ9 : u_T := fun k => match k with
  | _ => ("", "", "", false)
def tyJ9 : Nat → FieldType := fun k => match k with
  | _ => .int
abbrev wsJ90 : List Cond := u_ws RJ9 TJ9 0
theorem nmJ9 : ∀ a, a < 0 → ∀ b, b < 0 → a ≠ b → (TJ9 a).2.1 ≠ (TJ9 b).2.1 := by decide +kernel
theorem tyJ9_ok : ∀ k, k < 0 → parseFieldDescriptor (TJ9 k).2.2.1 = some (tyJ9 k) := by decide +kernel
abbrev cJ9_max_7cf53 : ByteArray := prog_12_method_65_code
def yJ9_max_7cf53 : MethodName := ⟨RJ9, "max", "(II)I"⟩
abbrev cJ9_min_7cf53 : ByteArray := prog_12_method_69_code
def yJ9_min_7cf53 : MethodName := ⟨RJ9, "min", "(II)I"⟩
def RJ0 : String := "java/lang/String"
def TJ0 : u_T := fun k => match k with
  | _ => ("", "", "", false)
def tyJ0 : Nat → FieldType := fun k => match k with
  | _ => .int
abbrev wsJ00 : List Cond := u_ws RJ0 TJ0 0
theorem nmJ0 : ∀ a, a < 0 → ∀ b, b < 0 → a ≠ b → (TJ0 a).2.1 ≠ (TJ0 b).2.1 := by decide +kernel
theorem tyJ0_ok : ∀ k, k < 0 → parseFieldDescriptor (TJ0 k).2.2.1 = some (tyJ0 k) := by decide +kernel
def RJ10 : String := "java/lang/System"
def TJ10 : u_T := fun k => match k with
  | _ => ("", "", "", false)
def tyJ10 : Nat → FieldType := fun k => match k with
  | _ => .int
abbrev wsJ100 : List Cond := u_ws RJ10 TJ10 0
theorem nmJ10 : ∀ a, a < 0 → ∀ b, b < 0 → a ≠ b → (TJ10 a).2.1 ≠ (TJ10 b).2.1 := by decide +kernel
theorem tyJ10_ok : ∀ k, k < 0 → parseFieldDescriptor (TJ10 k).2.2.1 = some (tyJ10 k) := by decide +kernel
def RL : String := "BottlePyramidLaw"
abbrev cL_cell : ByteArray := method_2_code
def yL_cell : MethodName := ⟨RL, "cell", "([II)I"⟩
abbrev cL_take : ByteArray := method_3_code
def yL_take : MethodName := ⟨RL, "take", "(LBottlePyramid;II)I"⟩
abbrev cL_knock : ByteArray := method_4_code
def yL_knock : MethodName := ⟨RL, "knock", "(LBottlePyramid;II)I"⟩
abbrev cL_put : ByteArray := method_5_code
def yL_put : MethodName := ⟨RL, "put", "(LBottlePyramid;II)I"⟩
abbrev cL_set : ByteArray := method_6_code
def yL_set : MethodName := ⟨RL, "set", "(LBottlePyramid;II)I"⟩
abbrev cL_turn : ByteArray := method_7_code
def yL_turn : MethodName := ⟨RL, "turn", "(LBottlePyramid;I)I"⟩
abbrev cL_goBack : ByteArray := method_8_code
def yL_goBack : MethodName := ⟨RL, "goBack", "(LBottlePyramid;)I"⟩
abbrev cL_undo : ByteArray := method_9_code
def yL_undo : MethodName := ⟨RL, "undo", "(LBottlePyramid;)I"⟩
abbrev cL_act : ByteArray := method_10_code
def yL_act : MethodName := ⟨RL, "act", "(LBottlePyramid;III)I"⟩
abbrev cL_bits : ByteArray := method_11_code
def yL_bits : MethodName := ⟨RL, "bits", "(I)I"⟩
abbrev cL_first : ByteArray := method_12_code
def yL_first : MethodName := ⟨RL, "first", "(I)I"⟩
abbrev cL_isPyramid : ByteArray := method_13_code
def yL_isPyramid : MethodName := ⟨RL, "isPyramid", "(LBottlePyramid;)Z"⟩
abbrev cL_isPlay : ByteArray := method_14_code
def yL_isPlay : MethodName := ⟨RL, "isPlay", "(LBottlePyramid;)Z"⟩
abbrev cL_takes : ByteArray := method_15_code
def yL_takes : MethodName := ⟨RL, "takes", "(LBottlePyramid;II)Z"⟩
abbrev cL_acts : ByteArray := method_16_code
def yL_acts : MethodName := ⟨RL, "acts", "(LBottlePyramid;I)Z"⟩
abbrev cL_law : ByteArray := code
def yL_law : MethodName := ⟨RL, "law", "([I)Z"⟩
