
/-! ===== BEGIN printed: names, fields, word lists, decode rows ===== -/
def RX0 : String := "KerbBall$BestThrows"
def TX0 : u_T := fun k => match k with
  | _ => ("KerbBall$BestThrows", "codes", "[I", true)
def tyX0 : Nat → FieldType := fun k => match k with
  | _ => .array .int
theorem nmX0 : ∀ a, a < 1 → ∀ b, b < 1 → a ≠ b → (TX0 a).2.1 ≠ (TX0 b).2.1 := by decide +kernel
theorem tyX0_ok : ∀ k, k < 1 → parseFieldDescriptor (TX0 k).2.2.1 = some (tyX0 k) := by decide +kernel
abbrev cX0_init : ByteArray := prog_2_method_1_code
def yX0_init : MethodName := ⟨RX0, "<init>", "()V"⟩
abbrev cX0_reckon : ByteArray := prog_2_method_2_code
def yX0_reckon : MethodName := ⟨RX0, "reckon", "(LKerbBall$Stones;LKerbBall$Spread;)V"⟩
abbrev cX0_partOf : ByteArray := prog_2_method_3_code
def yX0_partOf : MethodName := ⟨RX0, "partOf", "(LKerbBall$Stones;II)I"⟩
abbrev cX0_placeOf : ByteArray := prog_2_method_4_code
def yX0_placeOf : MethodName := ⟨RX0, "placeOf", "(II)I"⟩
abbrev cX0_search : ByteArray := prog_2_method_5_code
def yX0_search : MethodName := ⟨RX0, "search", "(IILKerbBall$Spread;)I"⟩
abbrev cX0_code : ByteArray := prog_2_method_6_code
def yX0_code : MethodName := ⟨RX0, "code", "(IIII)I"⟩
def RX1 : String := "KerbBall$Book"
def TX1 : u_T := fun k => match k with
  | 0 => ("KerbBall$Book", "cells", "[I", true)
  | _ => ("KerbBall$Book", "many", "I", false)
def tyX1 : Nat → FieldType := fun k => match k with
  | 0 => .array .int
  | _ => .int
theorem nmX1 : ∀ a, a < 2 → ∀ b, b < 2 → a ≠ b → (TX1 a).2.1 ≠ (TX1 b).2.1 := by decide +kernel
theorem tyX1_ok : ∀ k, k < 2 → parseFieldDescriptor (TX1 k).2.2.1 = some (tyX1 k) := by decide +kernel
abbrev cX1_init : ByteArray := prog_3_method_1_code
def yX1_init : MethodName := ⟨RX1, "<init>", "()V"⟩
abbrev cX1_cell : ByteArray := prog_3_method_2_code
def yX1_cell : MethodName := ⟨RX1, "cell", "(II)I"⟩
abbrev cX1_add : ByteArray := prog_3_method_3_code
def yX1_add : MethodName := ⟨RX1, "add", "(IIIIII)V"⟩
abbrev cX1_told : ByteArray := prog_3_method_4_code
def yX1_told : MethodName := ⟨RX1, "told", "(II)I"⟩
abbrev cX1_bestRow : ByteArray := prog_3_method_5_code
def yX1_bestRow : MethodName := ⟨RX1, "bestRow", "(I)I"⟩
abbrev cX1_digestFrom : ByteArray := prog_3_method_6_code
def yX1_digestFrom : MethodName := ⟨RX1, "digestFrom", "(J)J"⟩
abbrev cX1_copyFrom : ByteArray := prog_3_method_7_code
def yX1_copyFrom : MethodName := ⟨RX1, "copyFrom", "(LKerbBall$Book;)V"⟩
def RX2 : String := "KerbBall$Fraction"
def TX2 : u_T := fun k => match k with
  | 0 => ("KerbBall$Fraction", "above", "J", false)
  | _ => ("KerbBall$Fraction", "below", "J", false)
def tyX2 : Nat → FieldType := fun k => match k with
  | 0 => .long
  | _ => .long
theorem nmX2 : ∀ a, a < 2 → ∀ b, b < 2 → a ≠ b → (TX2 a).2.1 ≠ (TX2 b).2.1 := by decide +kernel
theorem tyX2_ok : ∀ k, k < 2 → parseFieldDescriptor (TX2 k).2.2.1 = some (tyX2 k) := by decide +kernel
abbrev cX2_init : ByteArray := prog_4_method_1_code
def yX2_init : MethodName := ⟨RX2, "<init>", "()V"⟩
abbrev cX2_hold : ByteArray := prog_4_method_2_code
def yX2_hold : MethodName := ⟨RX2, "hold", "(JJ)V"⟩
abbrev cX2_commonPart : ByteArray := prog_4_method_3_code
def yX2_commonPart : MethodName := ⟨RX2, "commonPart", "(JJ)J"⟩
def RX3 : String := "KerbBall$Game"
def TX3 : u_T := fun k => match k with
  | 0 => ("KerbBall$Game", "totals", "[I", true)
  | 1 => ("KerbBall$Game", "gains", "[I", true)
  | 2 => ("KerbBall$Game", "player", "I", false)
  | _ => ("KerbBall$Game", "undoable", "I", false)
def tyX3 : Nat → FieldType := fun k => match k with
  | 0 => .array .int
  | 1 => .array .int
  | 2 => .int
  | _ => .int
theorem nmX3 : ∀ a, a < 4 → ∀ b, b < 4 → a ≠ b → (TX3 a).2.1 ≠ (TX3 b).2.1 := by decide +kernel
theorem tyX3_ok : ∀ k, k < 4 → parseFieldDescriptor (TX3 k).2.2.1 = some (tyX3 k) := by decide +kernel
abbrev cX3_init : ByteArray := prog_5_method_1_code
def yX3_init : MethodName := ⟨RX3, "<init>", "()V"⟩
abbrev cX3_beginAnew : ByteArray := prog_5_method_2_code
def yX3_beginAnew : MethodName := ⟨RX3, "beginAnew", "()V"⟩
abbrev cX3_add : ByteArray := prog_5_method_3_code
def yX3_add : MethodName := ⟨RX3, "add", "(I)V"⟩
abbrev cX3_takeBack : ByteArray := prog_5_method_4_code
def yX3_takeBack : MethodName := ⟨RX3, "takeBack", "()V"⟩
abbrev cX3_copyFrom : ByteArray := prog_5_method_5_code
def yX3_copyFrom : MethodName := ⟨RX3, "copyFrom", "(LKerbBall$Game;)V"⟩
def RX4 : String := "KerbBall$Held"
def TX4 : u_T := fun k => match k with
  | 0 => ("KerbBall$Held", "stones", "LKerbBall$Stones;", true)
  | 1 => ("KerbBall$Held", "game", "LKerbBall$Game;", true)
  | _ => ("KerbBall$Held", "written", "LKerbBall$Book;", true)
def tyX4 : Nat → FieldType := fun k => match k with
  | 0 => .object "KerbBall$Stones"
  | 1 => .object "KerbBall$Game"
  | _ => .object "KerbBall$Book"
theorem nmX4 : ∀ a, a < 3 → ∀ b, b < 3 → a ≠ b → (TX4 a).2.1 ≠ (TX4 b).2.1 := by decide +kernel
theorem tyX4_ok : ∀ k, k < 3 → parseFieldDescriptor (TX4 k).2.2.1 = some (tyX4 k) := by decide +kernel
abbrev cX4_init : ByteArray := prog_6_method_1_code
def yX4_init : MethodName := ⟨RX4, "<init>", "()V"⟩
abbrev cX4_copyFrom : ByteArray := prog_6_method_2_code
def yX4_copyFrom : MethodName := ⟨RX4, "copyFrom", "(LKerbBall$Held;)V"⟩
def RX5 : String := "KerbBall$Kerb"
def TX5 : u_T := fun k => match k with
  | _ => ("", "", "", false)
def tyX5 : Nat → FieldType := fun k => match k with
  | _ => .int
theorem nmX5 : ∀ a, a < 0 → ∀ b, b < 0 → a ≠ b → (TX5 a).2.1 ≠ (TX5 b).2.1 := by decide +kernel
theorem tyX5_ok : ∀ k, k < 0 → parseFieldDescriptor (TX5 k).2.2.1 = some (tyX5 k) := by decide +kernel
abbrev cX5_lowestEdge : ByteArray := prog_7_method_2_code
def yX5_lowestEdge : MethodName := ⟨RX5, "lowestEdge", "(I)I"⟩
abbrev cX5_highestEdge : ByteArray := prog_7_method_3_code
def yX5_highestEdge : MethodName := ⟨RX5, "highestEdge", "(I)I"⟩
abbrev cX5_yardsOfEdge : ByteArray := prog_7_method_4_code
def yX5_yardsOfEdge : MethodName := ⟨RX5, "yardsOfEdge", "(III)I"⟩
abbrev cX5_wayOf : ByteArray := prog_7_method_5_code
def yX5_wayOf : MethodName := ⟨RX5, "wayOf", "(IIII)I"⟩
abbrev cX5_yardsOf : ByteArray := prog_7_method_6_code
def yX5_yardsOf : MethodName := ⟨RX5, "yardsOf", "(IIII)I"⟩
abbrev cX5_pointsOfEdge : ByteArray := prog_7_method_7_code
def yX5_pointsOfEdge : MethodName := ⟨RX5, "pointsOfEdge", "(II)I"⟩
abbrev cX5_pointsOf : ByteArray := prog_7_method_8_code
def yX5_pointsOf : MethodName := ⟨RX5, "pointsOf", "(IIIII)I"⟩
def RX6 : String := "KerbBall$Odds"
def TX6 : u_T := fun k => match k with
  | _ => ("", "", "", false)
def tyX6 : Nat → FieldType := fun k => match k with
  | _ => .int
theorem nmX6 : ∀ a, a < 0 → ∀ b, b < 0 → a ≠ b → (TX6 a).2.1 ≠ (TX6 b).2.1 := by decide +kernel
theorem tyX6_ok : ∀ k, k < 0 → parseFieldDescriptor (TX6 k).2.2.1 = some (tyX6 k) := by decide +kernel
abbrev cX6_allCases : ByteArray := prog_8_method_2_code
def yX6_allCases : MethodName := ⟨RX6, "allCases", "(I)J"⟩
abbrev cX6_middleCases : ByteArray := prog_8_method_3_code
def yX6_middleCases : MethodName := ⟨RX6, "middleCases", "(III)J"⟩
abbrev cX6_bestStop : ByteArray := prog_8_method_4_code
def yX6_bestStop : MethodName := ⟨RX6, "bestStop", "(II)I"⟩
abbrev cX6_winCases : ByteArray := prog_8_method_5_code
def yX6_winCases : MethodName := ⟨RX6, "winCases", "(IIIII)J"⟩
abbrev cX6_casesBelow : ByteArray := prog_8_method_6_code
def yX6_casesBelow : MethodName := ⟨RX6, "casesBelow", "(IIII)J"⟩
abbrev cX6_chooseAhead : ByteArray := prog_8_method_7_code
def yX6_chooseAhead : MethodName := ⟨RX6, "chooseAhead", "([JIIII)Z"⟩
abbrev cX6_choices : ByteArray := prog_8_method_8_code
def yX6_choices : MethodName := ⟨RX6, "choices", "(II)J"⟩
abbrev cX6_dealsWithAtLeast : ByteArray := prog_8_method_9_code
def yX6_dealsWithAtLeast : MethodName := ⟨RX6, "dealsWithAtLeast", "(IIII)J"⟩
abbrev cX6_casesLevel : ByteArray := prog_8_method_10_code
def yX6_casesLevel : MethodName := ⟨RX6, "casesLevel", "(IIIII)I"⟩
abbrev cX6_rests : ByteArray := prog_8_method_11_code
def yX6_rests : MethodName := ⟨RX6, "rests", "(III)I"⟩
def RX7 : String := "KerbBall$Spread"
def TX7 : u_T := fun k => match k with
  | 0 => ("KerbBall$Spread", "ways", "[I", true)
  | 1 => ("KerbBall$Spread", "anyBack", "[I", true)
  | _ => ("KerbBall$Spread", "edgeBack", "[I", true)
def tyX7 : Nat → FieldType := fun k => match k with
  | 0 => .array .int
  | 1 => .array .int
  | _ => .array .int
theorem nmX7 : ∀ a, a < 3 → ∀ b, b < 3 → a ≠ b → (TX7 a).2.1 ≠ (TX7 b).2.1 := by decide +kernel
theorem tyX7_ok : ∀ k, k < 3 → parseFieldDescriptor (TX7 k).2.2.1 = some (tyX7 k) := by decide +kernel
abbrev cX7_init : ByteArray := prog_9_method_1_code
def yX7_init : MethodName := ⟨RX7, "<init>", "()V"⟩
abbrev cX7_gather : ByteArray := prog_9_method_2_code
def yX7_gather : MethodName := ⟨RX7, "gather", "(IIII)V"⟩
abbrev cX7_add : ByteArray := prog_9_method_3_code
def yX7_add : MethodName := ⟨RX7, "add", "(III)V"⟩
abbrev cX7_casesOfWay : ByteArray := prog_9_method_4_code
def yX7_casesOfWay : MethodName := ⟨RX7, "casesOfWay", "(I)I"⟩
abbrev cX7_casesBack : ByteArray := prog_9_method_5_code
def yX7_casesBack : MethodName := ⟨RX7, "casesBack", "(I)I"⟩
abbrev cX7_edgesBack : ByteArray := prog_9_method_6_code
def yX7_edgesBack : MethodName := ⟨RX7, "edgesBack", "(I)I"⟩
abbrev cX7_pointsAt : ByteArray := prog_9_method_7_code
def yX7_pointsAt : MethodName := ⟨RX7, "pointsAt", "(I)I"⟩
abbrev cX7_bestStands : ByteArray := prog_9_method_8_code
def yX7_bestStands : MethodName := ⟨RX7, "bestStands", "()I"⟩
def RX8 : String := "KerbBall$Stones"
def TX8 : u_T := fun k => match k with
  | 0 => ("KerbBall$Stones", "kinds", "[I", true)
  | 1 => ("KerbBall$Stones", "many", "I", false)
  | _ => ("KerbBall$Stones", "wetness", "I", false)
def tyX8 : Nat → FieldType := fun k => match k with
  | 0 => .array .int
  | 1 => .int
  | _ => .int
theorem nmX8 : ∀ a, a < 3 → ∀ b, b < 3 → a ≠ b → (TX8 a).2.1 ≠ (TX8 b).2.1 := by decide +kernel
theorem tyX8_ok : ∀ k, k < 3 → parseFieldDescriptor (TX8 k).2.2.1 = some (tyX8 k) := by decide +kernel
abbrev cX8_init : ByteArray := prog_10_method_1_code
def yX8_init : MethodName := ⟨RX8, "<init>", "()V"⟩
abbrev cX8_has : ByteArray := prog_10_method_2_code
def yX8_has : MethodName := ⟨RX8, "has", "(I)Z"⟩
abbrev cX8_kindOf : ByteArray := prog_10_method_3_code
def yX8_kindOf : MethodName := ⟨RX8, "kindOf", "(I)I"⟩
abbrev cX8_lay : ByteArray := prog_10_method_4_code
def yX8_lay : MethodName := ⟨RX8, "lay", "(I)V"⟩
abbrev cX8_copyFrom : ByteArray := prog_10_method_5_code
def yX8_copyFrom : MethodName := ⟨RX8, "copyFrom", "(LKerbBall$Stones;)V"⟩
def RX9 : String := "KerbBall$StreetText"
def TX9 : u_T := fun k => match k with
  | 0 => ("KerbBall$StreetText", "draft", "LKerbBall$Stones;", true)
  | 1 => ("KerbBall$StreetText", "bytes", "[I", true)
  | 2 => ("KerbBall$StreetText", "many", "I", false)
  | 3 => ("KerbBall$StreetText", "items", "I", false)
  | _ => ("KerbBall$StreetText", "at", "I", false)
def tyX9 : Nat → FieldType := fun k => match k with
  | 0 => .object "KerbBall$Stones"
  | 1 => .array .int
  | 2 => .int
  | 3 => .int
  | _ => .int
theorem nmX9 : ∀ a, a < 5 → ∀ b, b < 5 → a ≠ b → (TX9 a).2.1 ≠ (TX9 b).2.1 := by decide +kernel
theorem tyX9_ok : ∀ k, k < 5 → parseFieldDescriptor (TX9 k).2.2.1 = some (tyX9 k) := by decide +kernel
abbrev cX9_init : ByteArray := prog_11_method_1_code
def yX9_init : MethodName := ⟨RX9, "<init>", "()V"⟩
abbrev cX9_append : ByteArray := prog_11_method_2_code
def yX9_append : MethodName := ⟨RX9, "append", "(I)V"⟩
abbrev cX9_byteAt : ByteArray := prog_11_method_3_code
def yX9_byteAt : MethodName := ⟨RX9, "byteAt", "(I)I"⟩
abbrev cX9_faultOfText : ByteArray := prog_11_method_4_code
def yX9_faultOfText : MethodName := ⟨RX9, "faultOfText", "()I"⟩
abbrev cX9_readsItem : ByteArray := prog_11_method_5_code
def yX9_readsItem : MethodName := ⟨RX9, "readsItem", "()Z"⟩
abbrev cX9_keep : ByteArray := prog_11_method_6_code
def yX9_keep : MethodName := ⟨RX9, "keep", "(ZI)V"⟩
abbrev cX9_isWord : ByteArray := prog_11_method_7_code
def yX9_isWord : MethodName := ⟨RX9, "isWord", "(Ljava/lang/String;)Z"⟩
abbrev cX9_numberHere : ByteArray := prog_11_method_8_code
def yX9_numberHere : MethodName := ⟨RX9, "numberHere", "()I"⟩
abbrev cX9_skipBlanks : ByteArray := prog_11_method_9_code
def yX9_skipBlanks : MethodName := ⟨RX9, "skipBlanks", "()V"⟩
abbrev cX9_isLetter : ByteArray := prog_11_method_10_code
def yX9_isLetter : MethodName := ⟨RX9, "isLetter", "(I)Z"⟩
abbrev cX9_isFigure : ByteArray := prog_11_method_11_code
def yX9_isFigure : MethodName := ⟨RX9, "isFigure", "(I)Z"⟩
def RX10 : String := "KerbBall"
def TX10 : u_T := fun k => match k with
  | 0 => ("KerbBall", "now", "LKerbBall$Held;", true)
  | 1 => ("KerbBall", "images", "[LKerbBall$Held;", true)
  | 2 => ("KerbBall", "kept", "[Z", true)
  | 3 => ("KerbBall", "text", "LKerbBall$StreetText;", true)
  | 4 => ("KerbBall", "fraction", "LKerbBall$Fraction;", true)
  | 5 => ("KerbBall", "spread", "LKerbBall$Spread;", true)
  | 6 => ("KerbBall", "bests", "LKerbBall$BestThrows;", true)
  | 7 => ("KerbBall", "chances", "[J", true)
  | _ => ("KerbBall", "refused", "[I", true)
def tyX10 : Nat → FieldType := fun k => match k with
  | 0 => .object "KerbBall$Held"
  | 1 => .array (.object "KerbBall$Held")
  | 2 => .array .boolean
  | 3 => .object "KerbBall$StreetText"
  | 4 => .object "KerbBall$Fraction"
  | 5 => .object "KerbBall$Spread"
  | 6 => .object "KerbBall$BestThrows"
  | 7 => .array .long
  | _ => .array .int
theorem nmX10 : ∀ a, a < 9 → ∀ b, b < 9 → a ≠ b → (TX10 a).2.1 ≠ (TX10 b).2.1 := by decide +kernel
theorem tyX10_ok : ∀ k, k < 9 → parseFieldDescriptor (TX10 k).2.2.1 = some (tyX10 k) := by decide +kernel
abbrev cX10_init : ByteArray := prog_1_method_1_code
def yX10_init : MethodName := ⟨RX10, "<init>", "()V"⟩
abbrev cX10_stone : ByteArray := prog_1_method_2_code
def yX10_stone : MethodName := ⟨RX10, "stone", "(I)I"⟩
abbrev cX10_wet : ByteArray := prog_1_method_3_code
def yX10_wet : MethodName := ⟨RX10, "wet", "(I)I"⟩
abbrev cX10_type : ByteArray := prog_1_method_4_code
def yX10_type : MethodName := ⟨RX10, "type", "(JI)I"⟩
abbrev cX10_clear : ByteArray := prog_1_method_5_code
def yX10_clear : MethodName := ⟨RX10, "clear", "()I"⟩
abbrev cX10_read : ByteArray := prog_1_method_6_code
def yX10_read : MethodName := ⟨RX10, "read", "()I"⟩
abbrev cX10_way : ByteArray := prog_1_method_7_code
def yX10_way : MethodName := ⟨RX10, "way", "(III)I"⟩
abbrev cX10_back : ByteArray := prog_1_method_8_code
def yX10_back : MethodName := ⟨RX10, "back", "(III)I"⟩
abbrev cX10_points : ByteArray := prog_1_method_9_code
def yX10_points : MethodName := ⟨RX10, "points", "(IIII)I"⟩
abbrev cX10_odds : ByteArray := prog_1_method_10_code
def yX10_odds : MethodName := ⟨RX10, "odds", "(IIII)I"⟩
abbrev cX10_mean : ByteArray := prog_1_method_11_code
def yX10_mean : MethodName := ⟨RX10, "mean", "(IIII)I"⟩
abbrev cX10_best : ByteArray := prog_1_method_12_code
def yX10_best : MethodName := ⟨RX10, "best", "(II)I"⟩
abbrev cX10_line : ByteArray := prog_1_method_13_code
def yX10_line : MethodName := ⟨RX10, "line", "(III)I"⟩
abbrev cX10_middle : ByteArray := prog_1_method_14_code
def yX10_middle : MethodName := ⟨RX10, "middle", "(III)I"⟩
abbrev cX10_stop : ByteArray := prog_1_method_15_code
def yX10_stop : MethodName := ⟨RX10, "stop", "(II)I"⟩
abbrev cX10_wins : ByteArray := prog_1_method_16_code
def yX10_wins : MethodName := ⟨RX10, "wins", "(IIIIII)J"⟩
abbrev cX10_twofold : ByteArray := prog_1_method_17_code
def yX10_twofold : MethodName := ⟨RX10, "twofold", "(IIII)I"⟩
abbrev cX10_cars : ByteArray := prog_1_method_18_code
def yX10_cars : MethodName := ⟨RX10, "cars", "(III)I"⟩
abbrev cX10_judge : ByteArray := prog_1_method_19_code
def yX10_judge : MethodName := ⟨RX10, "judge", "(IIII)I"⟩
abbrev cX10_lot : ByteArray := prog_1_method_20_code
def yX10_lot : MethodName := ⟨RX10, "lot", "(IIII)I"⟩
abbrev cX10_both : ByteArray := prog_1_method_21_code
def yX10_both : MethodName := ⟨RX10, "both", "(IIIII)I"⟩
abbrev cX10_sides : ByteArray := prog_1_method_22_code
def yX10_sides : MethodName := ⟨RX10, "sides", "(I)I"⟩
abbrev cX10_worth : ByteArray := prog_1_method_23_code
def yX10_worth : MethodName := ⟨RX10, "worth", "(I)I"⟩
abbrev cX10_write : ByteArray := prog_1_method_24_code
def yX10_write : MethodName := ⟨RX10, "write", "(IIIIII)I"⟩
abbrev cX10_tear : ByteArray := prog_1_method_25_code
def yX10_tear : MethodName := ⟨RX10, "tear", "()I"⟩
abbrev cX10_book : ByteArray := prog_1_method_26_code
def yX10_book : MethodName := ⟨RX10, "book", "(I)I"⟩
abbrev cX10_hours : ByteArray := prog_1_method_27_code
def yX10_hours : MethodName := ⟨RX10, "hours", "(I)I"⟩
abbrev cX10_evening : ByteArray := prog_1_method_28_code
def yX10_evening : MethodName := ⟨RX10, "evening", "(IIIIII)I"⟩
abbrev cX10_play : ByteArray := prog_1_method_29_code
def yX10_play : MethodName := ⟨RX10, "play", "(IIIIII)I"⟩
abbrev cX10_undo : ByteArray := prog_1_method_30_code
def yX10_undo : MethodName := ⟨RX10, "undo", "()I"⟩
abbrev cX10_score : ByteArray := prog_1_method_31_code
def yX10_score : MethodName := ⟨RX10, "score", "(I)I"⟩
abbrev cX10_on : ByteArray := prog_1_method_32_code
def yX10_on : MethodName := ⟨RX10, "on", "()I"⟩
abbrev cX10_part : ByteArray := prog_1_method_33_code
def yX10_part : MethodName := ⟨RX10, "part", "(I)J"⟩
abbrev cX10_image : ByteArray := prog_1_method_34_code
def yX10_image : MethodName := ⟨RX10, "image", "(I)I"⟩
abbrev cX10_from : ByteArray := prog_1_method_35_code
def yX10_from : MethodName := ⟨RX10, "from", "(I)I"⟩
abbrev cX10_status : ByteArray := prog_1_method_36_code
def yX10_status : MethodName := ⟨RX10, "status", "(I)I"⟩
abbrev cX10_count : ByteArray := prog_1_method_37_code
def yX10_count : MethodName := ⟨RX10, "count", "(I)I"⟩
abbrev cX10_digest : ByteArray := prog_1_method_38_code
def yX10_digest : MethodName := ⟨RX10, "digest", "()J"⟩
abbrev cX10_bad : ByteArray := prog_1_method_39_code
def yX10_bad : MethodName := ⟨RX10, "bad", "(I)I"⟩
abbrev cX10_no : ByteArray := prog_1_method_40_code
def yX10_no : MethodName := ⟨RX10, "no", "()I"⟩
abbrev cX10_full : ByteArray := prog_1_method_41_code
def yX10_full : MethodName := ⟨RX10, "full", "()I"⟩
abbrev cX10_within : ByteArray := prog_1_method_42_code
def yX10_within : MethodName := ⟨RX10, "within", "(III)Z"⟩
abbrev cX10_isThrow : ByteArray := prog_1_method_43_code
def yX10_isThrow : MethodName := ⟨RX10, "isThrow", "(III)Z"⟩
abbrev cX10_isForce : ByteArray := prog_1_method_44_code
def yX10_isForce : MethodName := ⟨RX10, "isForce", "(I)Z"⟩
abbrev cX10_isSteepness : ByteArray := prog_1_method_45_code
def yX10_isSteepness : MethodName := ⟨RX10, "isSteepness", "(I)Z"⟩
abbrev cX10_isStand : ByteArray := prog_1_method_46_code
def yX10_isStand : MethodName := ⟨RX10, "isStand", "(I)Z"⟩
abbrev cX10_isChance : ByteArray := prog_1_method_47_code
def yX10_isChance : MethodName := ⟨RX10, "isChance", "(I)Z"⟩
abbrev cX10_thrown : ByteArray := prog_1_method_48_code
def yX10_thrown : MethodName := ⟨RX10, "thrown", "(IIII)I"⟩
abbrev cX10_gather : ByteArray := prog_1_method_49_code
def yX10_gather : MethodName := ⟨RX10, "gather", "(III)V"⟩
abbrev cX10_bestStone : ByteArray := prog_1_method_50_code
def yX10_bestStone : MethodName := ⟨RX10, "bestStone", "()I"⟩
abbrev cX10_mostPoints : ByteArray := prog_1_method_51_code
def yX10_mostPoints : MethodName := ⟨RX10, "mostPoints", "(III)I"⟩
abbrev cX10_slipOf : ByteArray := prog_1_method_52_code
def yX10_slipOf : MethodName := ⟨RX10, "slipOf", "(I)I"⟩
abbrev cX10_holdSureChance : ByteArray := prog_1_method_53_code
def yX10_holdSureChance : MethodName := ⟨RX10, "holdSureChance", "(IIII)V"⟩
abbrev cX10_firstWrong : ByteArray := prog_1_method_54_code
def yX10_firstWrong : MethodName := ⟨RX10, "firstWrong", "()I"⟩
abbrev cX10_isRight : ByteArray := prog_1_method_55_code
def yX10_isRight : MethodName := ⟨RX10, "isRight", "(I)Z"⟩
abbrev cX10_numberOf : ByteArray := prog_1_method_56_code
def yX10_numberOf : MethodName := ⟨RX10, "numberOf", "(I)I"⟩
def RX11 : String := "KerbBallModel"
def TX11 : u_T := fun k => match k with
  | 0 => ("KerbBallModel", "s", "[I", true)
  | 1 => ("KerbBallModel", "draft", "[I", true)
  | 2 => ("KerbBallModel", "images", "[I", true)
  | 3 => ("KerbBallModel", "kept", "[Z", true)
  | 4 => ("KerbBallModel", "text", "[I", true)
  | 5 => ("KerbBallModel", "typed", "I", false)
  | 6 => ("KerbBallModel", "refused", "[I", true)
  | 7 => ("KerbBallModel", "above", "J", false)
  | 8 => ("KerbBallModel", "below", "J", false)
  | 9 => ("KerbBallModel", "at", "I", false)
  | 10 => ("KerbBallModel", "sort", "I", false)
  | 11 => ("KerbBallModel", "start", "I", false)
  | 12 => ("KerbBallModel", "size", "I", false)
  | 13 => ("KerbBallModel", "items", "I", false)
  | 14 => ("KerbBallModel", "most", "I", false)
  | 15 => ("KerbBallModel", "found", "I", false)
  | 16 => ("KerbBallModel", "made", "[J", true)
  | _ => ("KerbBallModel", "level", "[I", true)
def tyX11 : Nat → FieldType := fun k => match k with
  | 0 => .array .int
  | 1 => .array .int
  | 2 => .array .int
  | 3 => .array .boolean
  | 4 => .array .int
  | 5 => .int
  | 6 => .array .int
  | 7 => .long
  | 8 => .long
  | 9 => .int
  | 10 => .int
  | 11 => .int
  | 12 => .int
  | 13 => .int
  | 14 => .int
  | 15 => .int
  | 16 => .array .long
  | _ => .array .int
theorem nmX11 : ∀ a, a < 18 → ∀ b, b < 18 → a ≠ b → (TX11 a).2.1 ≠ (TX11 b).2.1 := by decide +kernel
theorem tyX11_ok : ∀ k, k < 18 → parseFieldDescriptor (TX11 k).2.2.1 = some (tyX11 k) := by decide +kernel
abbrev cX11_init : ByteArray := prog_13_method_1_code
def yX11_init : MethodName := ⟨RX11, "<init>", "()V"⟩
abbrev cX11_in : ByteArray := prog_13_method_3_code
def yX11_in : MethodName := ⟨RX11, "in", "(JJJ)Z"⟩
abbrev cX11_bad : ByteArray := prog_13_method_4_code
def yX11_bad : MethodName := ⟨RX11, "bad", "()I"⟩
abbrev cX11_badAs : ByteArray := prog_13_method_5_code
def yX11_badAs : MethodName := ⟨RX11, "badAs", "(I)I"⟩
abbrev cX11_no : ByteArray := prog_13_method_6_code
def yX11_no : MethodName := ⟨RX11, "no", "()I"⟩
abbrev cX11_full : ByteArray := prog_13_method_7_code
def yX11_full : MethodName := ⟨RX11, "full", "()I"⟩
abbrev cX11_isStone : ByteArray := prog_13_method_8_code
def yX11_isStone : MethodName := ⟨RX11, "isStone", "(I)Z"⟩
abbrev cX11_isThrow : ByteArray := prog_13_method_9_code
def yX11_isThrow : MethodName := ⟨RX11, "isThrow", "(III)Z"⟩
abbrev cX11_tells : ByteArray := prog_13_method_10_code
def yX11_tells : MethodName := ⟨RX11, "tells", "(JJ)V"⟩
abbrev cX11_stone : ByteArray := prog_13_method_11_code
def yX11_stone : MethodName := ⟨RX11, "stone", "(I)I"⟩
abbrev cX11_wet : ByteArray := prog_13_method_12_code
def yX11_wet : MethodName := ⟨RX11, "wet", "(I)I"⟩
abbrev cX11_type : ByteArray := prog_13_method_13_code
def yX11_type : MethodName := ⟨RX11, "type", "(JI)I"⟩
abbrev cX11_clear : ByteArray := prog_13_method_14_code
def yX11_clear : MethodName := ⟨RX11, "clear", "()I"⟩
abbrev cX11_byteAt : ByteArray := prog_13_method_15_code
def yX11_byteAt : MethodName := ⟨RX11, "byteAt", "(I)I"⟩
abbrev cX11_sortOf : ByteArray := prog_13_method_16_code
def yX11_sortOf : MethodName := ⟨RX11, "sortOf", "(I)I"⟩
abbrev cX11_token : ByteArray := prog_13_method_17_code
def yX11_token : MethodName := ⟨RX11, "token", "()V"⟩
abbrev cX11_word : ByteArray := prog_13_method_18_code
def yX11_word : MethodName := ⟨RX11, "word", "()J"⟩
abbrev cX11_figure : ByteArray := prog_13_method_19_code
def yX11_figure : MethodName := ⟨RX11, "figure", "(I)I"⟩
abbrev cX11_readsItem : ByteArray := prog_13_method_20_code
def yX11_readsItem : MethodName := ⟨RX11, "readsItem", "()Z"⟩
abbrev cX11_reads : ByteArray := prog_13_method_21_code
def yX11_reads : MethodName := ⟨RX11, "reads", "()Z"⟩
abbrev cX11_read : ByteArray := prog_13_method_22_code
def yX11_read : MethodName := ⟨RX11, "read", "()I"⟩
abbrev cX11_wayOf : ByteArray := prog_13_method_23_code
def yX11_wayOf : MethodName := ⟨RX11, "wayOf", "(III)I"⟩
abbrev cX11_backOf : ByteArray := prog_13_method_24_code
def yX11_backOf : MethodName := ⟨RX11, "backOf", "(III)I"⟩
abbrev cX11_pointsOf : ByteArray := prog_13_method_25_code
def yX11_pointsOf : MethodName := ⟨RX11, "pointsOf", "(IIII)I"⟩
abbrev cX11_way : ByteArray := prog_13_method_26_code
def yX11_way : MethodName := ⟨RX11, "way", "(III)I"⟩
abbrev cX11_back : ByteArray := prog_13_method_27_code
def yX11_back : MethodName := ⟨RX11, "back", "(III)I"⟩
abbrev cX11_points : ByteArray := prog_13_method_28_code
def yX11_points : MethodName := ⟨RX11, "points", "(IIII)I"⟩
abbrev cX11_slip : ByteArray := prog_13_method_29_code
def yX11_slip : MethodName := ⟨RX11, "slip", "(I)I"⟩
abbrev cX11_odds : ByteArray := prog_13_method_30_code
def yX11_odds : MethodName := ⟨RX11, "odds", "(IIII)I"⟩
abbrev cX11_meanOf : ByteArray := prog_13_method_31_code
def yX11_meanOf : MethodName := ⟨RX11, "meanOf", "(IIII)I"⟩
abbrev cX11_mean : ByteArray := prog_13_method_32_code
def yX11_mean : MethodName := ⟨RX11, "mean", "(IIII)I"⟩
abbrev cX11_laysBest : ByteArray := prog_13_method_33_code
def yX11_laysBest : MethodName := ⟨RX11, "laysBest", "(I)I"⟩
abbrev cX11_best : ByteArray := prog_13_method_34_code
def yX11_best : MethodName := ⟨RX11, "best", "(II)I"⟩
abbrev cX11_line : ByteArray := prog_13_method_35_code
def yX11_line : MethodName := ⟨RX11, "line", "(III)I"⟩
abbrev cX11_power : ByteArray := prog_13_method_36_code
def yX11_power : MethodName := ⟨RX11, "power", "(JI)J"⟩
abbrev cX11_meanBehind : ByteArray := prog_13_method_37_code
def yX11_meanBehind : MethodName := ⟨RX11, "meanBehind", "(III)J"⟩
abbrev cX11_middle : ByteArray := prog_13_method_38_code
def yX11_middle : MethodName := ⟨RX11, "middle", "(III)I"⟩
abbrev cX11_stop : ByteArray := prog_13_method_39_code
def yX11_stop : MethodName := ⟨RX11, "stop", "(II)I"⟩
abbrev cX11_wins : ByteArray := prog_13_method_40_code
def yX11_wins : MethodName := ⟨RX11, "wins", "(IIIIII)J"⟩
abbrev cX11_twofold : ByteArray := prog_13_method_41_code
def yX11_twofold : MethodName := ⟨RX11, "twofold", "(IIII)I"⟩
abbrev cX11_cars : ByteArray := prog_13_method_42_code
def yX11_cars : MethodName := ⟨RX11, "cars", "(III)I"⟩
abbrev cX11_judge : ByteArray := prog_13_method_43_code
def yX11_judge : MethodName := ⟨RX11, "judge", "(IIII)I"⟩
abbrev cX11_choose : ByteArray := prog_13_method_44_code
def yX11_choose : MethodName := ⟨RX11, "choose", "(II)J"⟩
abbrev cX11_lot : ByteArray := prog_13_method_45_code
def yX11_lot : MethodName := ⟨RX11, "lot", "(IIII)I"⟩
abbrev cX11_laysLevel : ByteArray := prog_13_method_46_code
def yX11_laysLevel : MethodName := ⟨RX11, "laysLevel", "(IIIII)V"⟩
abbrev cX11_both : ByteArray := prog_13_method_47_code
def yX11_both : MethodName := ⟨RX11, "both", "(IIIII)I"⟩
abbrev cX11_sides : ByteArray := prog_13_method_48_code
def yX11_sides : MethodName := ⟨RX11, "sides", "(I)I"⟩
abbrev cX11_worth : ByteArray := prog_13_method_49_code
def yX11_worth : MethodName := ⟨RX11, "worth", "(I)I"⟩
abbrev cX11_write : ByteArray := prog_13_method_50_code
def yX11_write : MethodName := ⟨RX11, "write", "(IIIIII)I"⟩
abbrev cX11_tear : ByteArray := prog_13_method_51_code
def yX11_tear : MethodName := ⟨RX11, "tear", "()I"⟩
abbrev cX11_isSo : ByteArray := prog_13_method_52_code
def yX11_isSo : MethodName := ⟨RX11, "isSo", "(I)Z"⟩
abbrev cX11_toldFrom : ByteArray := prog_13_method_53_code
def yX11_toldFrom : MethodName := ⟨RX11, "toldFrom", "(II)I"⟩
abbrev cX11_book : ByteArray := prog_13_method_54_code
def yX11_book : MethodName := ⟨RX11, "book", "(I)I"⟩
abbrev cX11_hours : ByteArray := prog_13_method_55_code
def yX11_hours : MethodName := ⟨RX11, "hours", "(I)I"⟩
abbrev cX11_evening : ByteArray := prog_13_method_56_code
def yX11_evening : MethodName := ⟨RX11, "evening", "(IIIIII)I"⟩
abbrev cX11_play : ByteArray := prog_13_method_57_code
def yX11_play : MethodName := ⟨RX11, "play", "(IIIIII)I"⟩
abbrev cX11_undo : ByteArray := prog_13_method_58_code
def yX11_undo : MethodName := ⟨RX11, "undo", "()I"⟩
abbrev cX11_score : ByteArray := prog_13_method_59_code
def yX11_score : MethodName := ⟨RX11, "score", "(I)I"⟩
abbrev cX11_on : ByteArray := prog_13_method_60_code
def yX11_on : MethodName := ⟨RX11, "on", "()I"⟩
abbrev cX11_part : ByteArray := prog_13_method_61_code
def yX11_part : MethodName := ⟨RX11, "part", "(I)J"⟩
abbrev cX11_image : ByteArray := prog_13_method_62_code
def yX11_image : MethodName := ⟨RX11, "image", "(I)I"⟩
abbrev cX11_from : ByteArray := prog_13_method_63_code
def yX11_from : MethodName := ⟨RX11, "from", "(I)I"⟩
abbrev cX11_status : ByteArray := prog_13_method_64_code
def yX11_status : MethodName := ⟨RX11, "status", "(I)I"⟩
abbrev cX11_countOf : ByteArray := prog_13_method_65_code
def yX11_countOf : MethodName := ⟨RX11, "countOf", "(I)I"⟩
abbrev cX11_count : ByteArray := prog_13_method_66_code
def yX11_count : MethodName := ⟨RX11, "count", "(I)I"⟩
abbrev cX11_digest : ByteArray := prog_13_method_67_code
def yX11_digest : MethodName := ⟨RX11, "digest", "()J"⟩
def RJx145de : String := "java/io/Serializable"
def TJx145de : u_T := fun k => match k with
  | _ => ("", "", "", false)
def tyJx145de : Nat → FieldType := fun k => match k with
  | _ => .int
theorem nmJx145de : ∀ a, a < 0 → ∀ b, b < 0 → a ≠ b → (TJx145de a).2.1 ≠ (TJx145de b).2.1 := by decide +kernel
theorem tyJx145de_ok : ∀ k, k < 0 → parseFieldDescriptor (TJx145de k).2.2.1 = some (tyJx145de k) := by decide +kernel
def RJx9f9b0 : String := "java/lang/CharSequence"
def TJx9f9b0 : u_T := fun k => match k with
  | _ => ("", "", "", false)
def tyJx9f9b0 : Nat → FieldType := fun k => match k with
  | _ => .int
theorem nmJx9f9b0 : ∀ a, a < 0 → ∀ b, b < 0 → a ≠ b → (TJx9f9b0 a).2.1 ≠ (TJx9f9b0 b).2.1 := by decide +kernel
theorem tyJx9f9b0_ok : ∀ k, k < 0 → parseFieldDescriptor (TJx9f9b0 k).2.2.1 = some (tyJx9f9b0 k) := by decide +kernel
def RJxb160c : String := "java/lang/Comparable"
def TJxb160c : u_T := fun k => match k with
  | _ => ("", "", "", false)
def tyJxb160c : Nat → FieldType := fun k => match k with
  | _ => .int
theorem nmJxb160c : ∀ a, a < 0 → ∀ b, b < 0 → a ≠ b → (TJxb160c a).2.1 ≠ (TJxb160c b).2.1 := by decide +kernel
theorem tyJxb160c_ok : ∀ k, k < 0 → parseFieldDescriptor (TJxb160c k).2.2.1 = some (tyJxb160c k) := by decide +kernel
def RJ9 : String := "java/lang/Math"
def TJ9 : u_T := fun k => match k with
  | _ => ("", "", "", false)
def tyJ9 : Nat → FieldType := fun k => match k with
  | _ => .int
theorem nmJ9 : ∀ a, a < 0 → ∀ b, b < 0 → a ≠ b → (TJ9 a).2.1 ≠ (TJ9 b).2.1 := by decide +kernel
theorem tyJ9_ok : ∀ k, k < 0 → parseFieldDescriptor (TJ9 k).2.2.1 = some (tyJ9 k) := by decide +kernel
abbrev cJ9_abs_0f7a4 : ByteArray := prog_14_method_59_code
def yJ9_abs_0f7a4 : MethodName := ⟨RJ9, "abs", "(I)I"⟩
abbrev cJ9_abs_067f4 : ByteArray := prog_14_method_61_code
def yJ9_abs_067f4 : MethodName := ⟨RJ9, "abs", "(J)J"⟩
abbrev cJ9_max_7cf53 : ByteArray := prog_14_method_65_code
def yJ9_max_7cf53 : MethodName := ⟨RJ9, "max", "(II)I"⟩
abbrev cJ9_max_f86c9 : ByteArray := prog_14_method_66_code
def yJ9_max_f86c9 : MethodName := ⟨RJ9, "max", "(JJ)J"⟩
abbrev cJ9_min_7cf53 : ByteArray := prog_14_method_69_code
def yJ9_min_7cf53 : MethodName := ⟨RJ9, "min", "(II)I"⟩
def RJ0 : String := "java/lang/String"
def TJ0 : u_T := fun k => match k with
  | _ => ("", "", "", false)
def tyJ0 : Nat → FieldType := fun k => match k with
  | _ => .int
theorem nmJ0 : ∀ a, a < 0 → ∀ b, b < 0 → a ≠ b → (TJ0 a).2.1 ≠ (TJ0 b).2.1 := by decide +kernel
theorem tyJ0_ok : ∀ k, k < 0 → parseFieldDescriptor (TJ0 k).2.2.1 = some (tyJ0 k) := by decide +kernel
abbrev cJ0_length_8abf5 : ByteArray := prog_15_method_54_code
def yJ0_length_8abf5 : MethodName := ⟨RJ0, "length", "()I"⟩
abbrev cJ0_charAt_5068e : ByteArray := prog_15_method_56_code
def yJ0_charAt_5068e : MethodName := ⟨RJ0, "charAt", "(I)C"⟩
abbrev cJ0_coder_7d493 : ByteArray := prog_15_method_152_code
def yJ0_coder_7d493 : MethodName := ⟨RJ0, "coder", "()B"⟩
abbrev cJ0_isLatin1_aae02 : ByteArray := prog_15_method_154_code
def yJ0_isLatin1_aae02 : MethodName := ⟨RJ0, "isLatin1", "()Z"⟩
abbrev cJ0_checkIndex_df160 : ByteArray := prog_15_method_155_code
def yJ0_checkIndex_df160 : MethodName := ⟨RJ0, "checkIndex", "(II)V"⟩
def RJ1 : String := "java/lang/StringLatin1"
def TJ1 : u_T := fun k => match k with
  | _ => ("", "", "", false)
def tyJ1 : Nat → FieldType := fun k => match k with
  | _ => .int
theorem nmJ1 : ∀ a, a < 0 → ∀ b, b < 0 → a ≠ b → (TJ1 a).2.1 ≠ (TJ1 b).2.1 := by decide +kernel
theorem tyJ1_ok : ∀ k, k < 0 → parseFieldDescriptor (TJ1 k).2.2.1 = some (tyJ1 k) := by decide +kernel
abbrev cJ1_charAt_3b067 : ByteArray := prog_16_method_2_code
def yJ1_charAt_3b067 : MethodName := ⟨RJ1, "charAt", "([BI)C"⟩
def RJ2 : String := "java/lang/StringUTF16"
def TJ2 : u_T := fun k => match k with
  | _ => ("", "", "", false)
def tyJ2 : Nat → FieldType := fun k => match k with
  | _ => .int
theorem nmJ2 : ∀ a, a < 0 → ∀ b, b < 0 → a ≠ b → (TJ2 a).2.1 ≠ (TJ2 b).2.1 := by decide +kernel
theorem tyJ2_ok : ∀ k, k < 0 → parseFieldDescriptor (TJ2 k).2.2.1 = some (tyJ2 k) := by decide +kernel
abbrev cJ2_getChar_3b067 : ByteArray := prog_17_method_5_code
def yJ2_getChar_3b067 : MethodName := ⟨RJ2, "getChar", "([BI)C"⟩
abbrev cJ2_length_9d52b : ByteArray := prog_17_method_6_code
def yJ2_length_9d52b : MethodName := ⟨RJ2, "length", "([B)I"⟩
abbrev cJ2_charAt_3b067 : ByteArray := prog_17_method_83_code
def yJ2_charAt_3b067 : MethodName := ⟨RJ2, "charAt", "([BI)C"⟩
abbrev cJ2_checkIndex_2214a : ByteArray := prog_17_method_91_code
def yJ2_checkIndex_2214a : MethodName := ⟨RJ2, "checkIndex", "(I[B)V"⟩
def RJ10 : String := "java/lang/System"
def TJ10 : u_T := fun k => match k with
  | _ => ("", "", "", false)
def tyJ10 : Nat → FieldType := fun k => match k with
  | _ => .int
theorem nmJ10 : ∀ a, a < 0 → ∀ b, b < 0 → a ≠ b → (TJ10 a).2.1 ≠ (TJ10 b).2.1 := by decide +kernel
theorem tyJ10_ok : ∀ k, k < 0 → parseFieldDescriptor (TJ10 k).2.2.1 = some (tyJ10 k) := by decide +kernel
def RJxfd54e : String := "java/lang/constant/Constable"
def TJxfd54e : u_T := fun k => match k with
  | _ => ("", "", "", false)
def tyJxfd54e : Nat → FieldType := fun k => match k with
  | _ => .int
theorem nmJxfd54e : ∀ a, a < 0 → ∀ b, b < 0 → a ≠ b → (TJxfd54e a).2.1 ≠ (TJxfd54e b).2.1 := by decide +kernel
theorem tyJxfd54e_ok : ∀ k, k < 0 → parseFieldDescriptor (TJxfd54e k).2.2.1 = some (tyJxfd54e k) := by decide +kernel
def RJx3cf43 : String := "java/lang/constant/ConstantDesc"
def TJx3cf43 : u_T := fun k => match k with
  | _ => ("", "", "", false)
def tyJx3cf43 : Nat → FieldType := fun k => match k with
  | _ => .int
theorem nmJx3cf43 : ∀ a, a < 0 → ∀ b, b < 0 → a ≠ b → (TJx3cf43 a).2.1 ≠ (TJx3cf43 b).2.1 := by decide +kernel
theorem tyJx3cf43_ok : ∀ k, k < 0 → parseFieldDescriptor (TJx3cf43 k).2.2.1 = some (tyJx3cf43 k) := by decide +kernel
def RJ7 : String := "java/util/Arrays"
def TJ7 : u_T := fun k => match k with
  | _ => ("", "", "", false)
def tyJ7 : Nat → FieldType := fun k => match k with
  | _ => .int
theorem nmJ7 : ∀ a, a < 0 → ∀ b, b < 0 → a ≠ b → (TJ7 a).2.1 ≠ (TJ7 b).2.1 := by decide +kernel
theorem tyJ7_ok : ∀ k, k < 0 → parseFieldDescriptor (TJ7 k).2.2.1 = some (tyJ7 k) := by decide +kernel
abbrev cJ7_fill_d0a16 : ByteArray := prog_19_method_101_code
def yJ7_fill_d0a16 : MethodName := ⟨RJ7, "fill", "([JJ)V"⟩
abbrev cJ7_fill_53178 : ByteArray := prog_19_method_103_code
def yJ7_fill_53178 : MethodName := ⟨RJ7, "fill", "([II)V"⟩
def RJ3 : String := "jdk/internal/util/Preconditions"
def TJ3 : u_T := fun k => match k with
  | _ => ("", "", "", false)
def tyJ3 : Nat → FieldType := fun k => match k with
  | _ => .int
theorem nmJ3 : ∀ a, a < 0 → ∀ b, b < 0 → a ≠ b → (TJ3 a).2.1 ≠ (TJ3 b).2.1 := by decide +kernel
theorem tyJ3_ok : ∀ k, k < 0 → parseFieldDescriptor (TJ3 k).2.2.1 = some (tyJ3 k) := by decide +kernel
abbrev cJ3_checkIndex_8e157 : ByteArray := prog_20_method_11_code
def yJ3_checkIndex_8e157 : MethodName := ⟨RJ3, "checkIndex", "(IILjava/util/function/BiFunction;)I"⟩
def RL : String := "KerbBallLaw"
abbrev cL_law : ByteArray := code
def yL_law : MethodName := ⟨RL, "law", "([I)Z"⟩
abbrev vwCl : List vw_C := [(RX0, TX0, 1), (RX1, TX1, 2), (RX2, TX2, 2), (RX3, TX3, 4), (RX4, TX4, 3), (RX7, TX7, 3), (RX8, TX8, 3), (RX9, TX9, 5), (RX10, TX10, 9), (RX11, TX11, 18)]
