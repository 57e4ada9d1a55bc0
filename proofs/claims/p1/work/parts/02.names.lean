def RX0 : String := "Levelsmith$Bot"
def TX0 : u_T := fun k => match k with
  | 0 => ("Levelsmith$Bot", "falls", "[I", true)
  | 1 => ("Levelsmith$Bot", "been", "[I", true)
  | 2 => ("Levelsmith$Bot", "dice", "LLevelsmith$Dice;", true)
  | 3 => ("Levelsmith$Bot", "late", "I", false)
  | _ => ("Levelsmith$Bot", "errs", "I", false)
def tyX0 : Nat → FieldType := fun k => match k with
  | 0 => .array .int
  | 1 => .array .int
  | 2 => .object "Levelsmith$Dice"
  | 3 => .int
  | _ => .int
abbrev wsX00 : List Cond := u_ws RX0 TX0 5
theorem nmX0 : ∀ a, a < 5 → ∀ b, b < 5 → a ≠ b → (TX0 a).2.1 ≠ (TX0 b).2.1 := by decide +kernel
theorem tyX0_ok : ∀ k, k < 5 → parseFieldDescriptor (TX0 k).2.2.1 = some (tyX0 k) := by decide +kernel
abbrev cX0_init : ByteArray := prog_2_method_1_code
def yX0_init : MethodName := ⟨RX0, "<init>", "()V"⟩
abbrev cX0_begin : ByteArray := prog_2_method_2_code
def yX0_begin : MethodName := ⟨RX0, "begin", "(III)V"⟩
abbrev cX0_wins : ByteArray := prog_2_method_3_code
def yX0_wins : MethodName := ⟨RX0, "wins", "(LLevelsmith$Reach;)Z"⟩
abbrev cX0_choose : ByteArray := prog_2_method_4_code
def yX0_choose : MethodName := ⟨RX0, "choose", "(LLevelsmith$Reach;I)I"⟩
abbrev cX0_fallFrom : ByteArray := prog_2_method_5_code
def yX0_fallFrom : MethodName := ⟨RX0, "fallFrom", "(I)V"⟩
abbrev cX0_hardestCell : ByteArray := prog_2_method_6_code
def yX0_hardestCell : MethodName := ⟨RX0, "hardestCell", "()I"⟩
def RX1 : String := "Levelsmith$Codes"
def TX1 : u_T := fun k => match k with
  | 0 => ("Levelsmith$Codes", "codes", "[I", true)
  | 1 => ("Levelsmith$Codes", "places", "[I", true)
  | _ => ("Levelsmith$Codes", "count", "I", false)
def tyX1 : Nat → FieldType := fun k => match k with
  | 0 => .array .int
  | 1 => .array .int
  | _ => .int
abbrev wsX10 : List Cond := u_ws RX1 TX1 3
theorem nmX1 : ∀ a, a < 3 → ∀ b, b < 3 → a ≠ b → (TX1 a).2.1 ≠ (TX1 b).2.1 := by decide +kernel
theorem tyX1_ok : ∀ k, k < 3 → parseFieldDescriptor (TX1 k).2.2.1 = some (tyX1 k) := by decide +kernel
abbrev cX1_init : ByteArray := prog_3_method_1_code
def yX1_init : MethodName := ⟨RX1, "<init>", "()V"⟩
abbrev cX1_placeOf : ByteArray := prog_3_method_2_code
def yX1_placeOf : MethodName := ⟨RX1, "placeOf", "(I)I"⟩
abbrev cX1_add : ByteArray := prog_3_method_3_code
def yX1_add : MethodName := ⟨RX1, "add", "(I)I"⟩
abbrev cX1_codeAt : ByteArray := prog_3_method_4_code
def yX1_codeAt : MethodName := ⟨RX1, "codeAt", "(I)I"⟩
def RX2 : String := "Levelsmith$Dice"
def TX2 : u_T := fun k => match k with
  | _ => ("Levelsmith$Dice", "z", "I", false)
def tyX2 : Nat → FieldType := fun k => match k with
  | _ => .int
abbrev wsX20 : List Cond := u_ws RX2 TX2 1
theorem nmX2 : ∀ a, a < 1 → ∀ b, b < 1 → a ≠ b → (TX2 a).2.1 ≠ (TX2 b).2.1 := by decide +kernel
theorem tyX2_ok : ∀ k, k < 1 → parseFieldDescriptor (TX2 k).2.2.1 = some (tyX2 k) := by decide +kernel
abbrev cX2_init : ByteArray := prog_4_method_1_code
def yX2_init : MethodName := ⟨RX2, "<init>", "()V"⟩
abbrev cX2_draw : ByteArray := prog_4_method_2_code
def yX2_draw : MethodName := ⟨RX2, "draw", "(I)I"⟩
def RX3 : String := "Levelsmith$Game"
def TX3 : u_T := fun k => match k with
  | 0 => ("Levelsmith$Game", "player", "LLevelsmith$Player;", true)
  | 1 => ("Levelsmith$Game", "inputs", "[I", true)
  | 2 => ("Levelsmith$Game", "level", "I", false)
  | 3 => ("Levelsmith$Game", "given", "I", false)
  | 4 => ("Levelsmith$Game", "end", "C", false)
  | _ => ("Levelsmith$Game", "loaded", "Z", false)
def tyX3 : Nat → FieldType := fun k => match k with
  | 0 => .object "Levelsmith$Player"
  | 1 => .array .int
  | 2 => .int
  | 3 => .int
  | 4 => .char
  | _ => .boolean
abbrev wsX30 : List Cond := u_ws RX3 TX3 6
theorem nmX3 : ∀ a, a < 6 → ∀ b, b < 6 → a ≠ b → (TX3 a).2.1 ≠ (TX3 b).2.1 := by decide +kernel
theorem tyX3_ok : ∀ k, k < 6 → parseFieldDescriptor (TX3 k).2.2.1 = some (tyX3 k) := by decide +kernel
abbrev cX3_init : ByteArray := prog_5_method_1_code
def yX3_init : MethodName := ⟨RX3, "<init>", "()V"⟩
abbrev cX3_begin : ByteArray := prog_5_method_2_code
def yX3_begin : MethodName := ⟨RX3, "begin", "(ILLevelsmith$Plan;)V"⟩
abbrev cX3_beginAt : ByteArray := prog_5_method_3_code
def yX3_beginAt : MethodName := ⟨RX3, "beginAt", "(ILLevelsmith$Plan;LLevelsmith$Player;)V"⟩
abbrev cX3_goesOn : ByteArray := prog_5_method_4_code
def yX3_goesOn : MethodName := ⟨RX3, "goesOn", "()Z"⟩
abbrev cX3_hasEnded : ByteArray := prog_5_method_5_code
def yX3_hasEnded : MethodName := ⟨RX3, "hasEnded", "()Z"⟩
abbrev cX3_give : ByteArray := prog_5_method_6_code
def yX3_give : MethodName := ⟨RX3, "give", "(LLevelsmith$Plan;I)C"⟩
abbrev cX3_giveAll : ByteArray := prog_5_method_7_code
def yX3_giveAll : MethodName := ⟨RX3, "giveAll", "(LLevelsmith$Plan;[II)V"⟩
def RX4 : String := "Levelsmith$Grower"
def TX4 : u_T := fun k => match k with
  | 0 => ("Levelsmith$Grower", "dice", "LLevelsmith$Dice;", true)
  | 1 => ("Levelsmith$Grower", "before", "LLevelsmith$Plan;", true)
  | 2 => ("Levelsmith$Grower", "ground", "I", false)
  | _ => ("Levelsmith$Grower", "hasKeys", "Z", false)
def tyX4 : Nat → FieldType := fun k => match k with
  | 0 => .object "Levelsmith$Dice"
  | 1 => .object "Levelsmith$Plan"
  | 2 => .int
  | _ => .boolean
abbrev wsX40 : List Cond := u_ws RX4 TX4 4
theorem nmX4 : ∀ a, a < 4 → ∀ b, b < 4 → a ≠ b → (TX4 a).2.1 ≠ (TX4 b).2.1 := by decide +kernel
theorem tyX4_ok : ∀ k, k < 4 → parseFieldDescriptor (TX4 k).2.2.1 = some (tyX4 k) := by decide +kernel
abbrev cX4_init : ByteArray := prog_6_method_1_code
def yX4_init : MethodName := ⟨RX4, "<init>", "()V"⟩
abbrev cX4_regrow : ByteArray := prog_6_method_2_code
def yX4_regrow : MethodName := ⟨RX4, "regrow", "(LLevelsmith$Plan;I)I"⟩
abbrev cX4_growColumn : ByteArray := prog_6_method_3_code
def yX4_growColumn : MethodName := ⟨RX4, "growColumn", "(LLevelsmith$Plan;I)V"⟩
abbrev cX4_drawTile : ByteArray := prog_6_method_4_code
def yX4_drawTile : MethodName := ⟨RX4, "drawTile", "()C"⟩
def RX5 : String := "Levelsmith$Plan"
def TX5 : u_T := fun k => match k with
  | 0 => ("Levelsmith$Plan", "wide", "I", false)
  | 1 => ("Levelsmith$Plan", "high", "I", false)
  | 2 => ("Levelsmith$Plan", "startX", "I", false)
  | 3 => ("Levelsmith$Plan", "startY", "I", false)
  | 4 => ("Levelsmith$Plan", "guards", "I", false)
  | 5 => ("Levelsmith$Plan", "version", "I", false)
  | 6 => ("Levelsmith$Plan", "tiles", "[C", true)
  | 7 => ("Levelsmith$Plan", "guardX", "[I", true)
  | 8 => ("Levelsmith$Plan", "guardFar", "[I", true)
  | _ => ("Levelsmith$Plan", "guardY", "[I", true)
def tyX5 : Nat → FieldType := fun k => match k with
  | 0 => .int
  | 1 => .int
  | 2 => .int
  | 3 => .int
  | 4 => .int
  | 5 => .int
  | 6 => .array .char
  | 7 => .array .int
  | 8 => .array .int
  | _ => .array .int
abbrev wsX50 : List Cond := u_ws RX5 TX5 10
theorem nmX5 : ∀ a, a < 10 → ∀ b, b < 10 → a ≠ b → (TX5 a).2.1 ≠ (TX5 b).2.1 := by decide +kernel
theorem tyX5_ok : ∀ k, k < 10 → parseFieldDescriptor (TX5 k).2.2.1 = some (tyX5 k) := by decide +kernel
abbrev cX5_init : ByteArray := prog_7_method_1_code
def yX5_init : MethodName := ⟨RX5, "<init>", "()V"⟩
abbrev cX5_become : ByteArray := prog_7_method_2_code
def yX5_become : MethodName := ⟨RX5, "become", "(LLevelsmith$Plan;)V"⟩
abbrev cX5_has : ByteArray := prog_7_method_3_code
def yX5_has : MethodName := ⟨RX5, "has", "(II)Z"⟩
abbrev cX5_startCell : ByteArray := prog_7_method_4_code
def yX5_startCell : MethodName := ⟨RX5, "startCell", "()I"⟩
abbrev cX5_tileAt : ByteArray := prog_7_method_5_code
def yX5_tileAt : MethodName := ⟨RX5, "tileAt", "(II)C"⟩
abbrev cX5_lay : ByteArray := prog_7_method_6_code
def yX5_lay : MethodName := ⟨RX5, "lay", "(IIC)V"⟩
abbrev cX5_paint : ByteArray := prog_7_method_7_code
def yX5_paint : MethodName := ⟨RX5, "paint", "(IIIIC)I"⟩
abbrev cX5_exchange : ByteArray := prog_7_method_8_code
def yX5_exchange : MethodName := ⟨RX5, "exchange", "(CC)V"⟩
abbrev cX5_countUnlike : ByteArray := prog_7_method_9_code
def yX5_countUnlike : MethodName := ⟨RX5, "countUnlike", "(LLevelsmith$Plan;)I"⟩
abbrev cX5_isLike : ByteArray := prog_7_method_10_code
def yX5_isLike : MethodName := ⟨RX5, "isLike", "(LLevelsmith$Plan;)Z"⟩
abbrev cX5_addGuard : ByteArray := prog_7_method_11_code
def yX5_addGuard : MethodName := ⟨RX5, "addGuard", "(III)V"⟩
abbrev cX5_guardColumn : ByteArray := prog_7_method_12_code
def yX5_guardColumn : MethodName := ⟨RX5, "guardColumn", "(II)I"⟩
abbrev cX5_isGuarded : ByteArray := prog_7_method_13_code
def yX5_isGuarded : MethodName := ⟨RX5, "isGuarded", "(III)Z"⟩
abbrev cX5_period : ByteArray := prog_7_method_14_code
def yX5_period : MethodName := ⟨RX5, "period", "()I"⟩
abbrev cX5_sum : ByteArray := prog_7_method_15_code
def yX5_sum : MethodName := ⟨RX5, "sum", "()J"⟩
def RX6 : String := "Levelsmith$Player"
def TX6 : u_T := fun k => match k with
  | 0 => ("Levelsmith$Player", "x", "I", false)
  | 1 => ("Levelsmith$Player", "y", "I", false)
  | 2 => ("Levelsmith$Player", "found", "I", false)
  | 3 => ("Levelsmith$Player", "on", "Z", false)
  | 4 => ("Levelsmith$Player", "rise", "I", false)
  | _ => ("Levelsmith$Player", "phase", "I", false)
def tyX6 : Nat → FieldType := fun k => match k with
  | 0 => .int
  | 1 => .int
  | 2 => .int
  | 3 => .boolean
  | 4 => .int
  | _ => .int
abbrev wsX60 : List Cond := u_ws RX6 TX6 6
theorem nmX6 : ∀ a, a < 6 → ∀ b, b < 6 → a ≠ b → (TX6 a).2.1 ≠ (TX6 b).2.1 := by decide +kernel
theorem tyX6_ok : ∀ k, k < 6 → parseFieldDescriptor (TX6 k).2.2.1 = some (tyX6 k) := by decide +kernel
abbrev cX6_init : ByteArray := prog_8_method_1_code
def yX6_init : MethodName := ⟨RX6, "<init>", "()V"⟩
abbrev cX6_begin : ByteArray := prog_8_method_2_code
def yX6_begin : MethodName := ⟨RX6, "begin", "(LLevelsmith$Plan;I)V"⟩
abbrev cX6_become : ByteArray := prog_8_method_3_code
def yX6_become : MethodName := ⟨RX6, "become", "(LLevelsmith$Player;)V"⟩
abbrev cX6_cell : ByteArray := prog_8_method_4_code
def yX6_cell : MethodName := ⟨RX6, "cell", "()I"⟩
abbrev cX6_code : ByteArray := prog_8_method_5_code
def yX6_code : MethodName := ⟨RX6, "code", "()I"⟩
abbrev cX6_decode : ByteArray := prog_8_method_6_code
def yX6_decode : MethodName := ⟨RX6, "decode", "(I)V"⟩
abbrev cX6_pass : ByteArray := prog_8_method_7_code
def yX6_pass : MethodName := ⟨RX6, "pass", "(LLevelsmith$Plan;I)C"⟩
abbrev cX6_stands : ByteArray := prog_8_method_8_code
def yX6_stands : MethodName := ⟨RX6, "stands", "(LLevelsmith$Plan;)Z"⟩
abbrev cX6_canGoOn : ByteArray := prog_8_method_9_code
def yX6_canGoOn : MethodName := ⟨RX6, "canGoOn", "(LLevelsmith$Plan;)Z"⟩
abbrev cX6_riseOrFall : ByteArray := prog_8_method_10_code
def yX6_riseOrFall : MethodName := ⟨RX6, "riseOrFall", "(LLevelsmith$Plan;Z)V"⟩
abbrev cX6_isSolid : ByteArray := prog_8_method_11_code
def yX6_isSolid : MethodName := ⟨RX6, "isSolid", "(C)Z"⟩
abbrev cX6_touch : ByteArray := prog_8_method_12_code
def yX6_touch : MethodName := ⟨RX6, "touch", "(C)V"⟩
def RX7 : String := "Levelsmith$Probe"
def TX7 : u_T := fun k => match k with
  | 0 => ("Levelsmith$Probe", "mendCell", "I", false)
  | 1 => ("Levelsmith$Probe", "mendSign", "C", false)
  | 2 => ("Levelsmith$Probe", "mendLevel", "I", false)
  | 3 => ("Levelsmith$Probe", "mendVersion", "I", false)
  | 4 => ("Levelsmith$Probe", "trial", "LLevelsmith$Plan;", true)
  | 5 => ("Levelsmith$Probe", "row", "[I", true)
  | 6 => ("Levelsmith$Probe", "seen", "[J", true)
  | 7 => ("Levelsmith$Probe", "count", "I", false)
  | 8 => ("Levelsmith$Probe", "from", "LLevelsmith$Player;", true)
  | _ => ("Levelsmith$Probe", "player", "LLevelsmith$Player;", true)
def tyX7 : Nat → FieldType := fun k => match k with
  | 0 => .int
  | 1 => .char
  | 2 => .int
  | 3 => .int
  | 4 => .object "Levelsmith$Plan"
  | 5 => .array .int
  | 6 => .array .long
  | 7 => .int
  | 8 => .object "Levelsmith$Player"
  | _ => .object "Levelsmith$Player"
abbrev wsX70 : List Cond := u_ws RX7 TX7 10
theorem nmX7 : ∀ a, a < 10 → ∀ b, b < 10 → a ≠ b → (TX7 a).2.1 ≠ (TX7 b).2.1 := by decide +kernel
theorem tyX7_ok : ∀ k, k < 10 → parseFieldDescriptor (TX7 k).2.2.1 = some (tyX7 k) := by decide +kernel
abbrev cX7_init : ByteArray := prog_9_method_1_code
def yX7_init : MethodName := ⟨RX7, "<init>", "()V"⟩
abbrev cX7_canWin : ByteArray := prog_9_method_2_code
def yX7_canWin : MethodName := ⟨RX7, "canWin", "(LLevelsmith$Plan;I)Z"⟩
abbrev cX7_addIfNew : ByteArray := prog_9_method_3_code
def yX7_addIfNew : MethodName := ⟨RX7, "addIfNew", "(I)V"⟩
abbrev cX7_canWinWithout : ByteArray := prog_9_method_4_code
def yX7_canWinWithout : MethodName := ⟨RX7, "canWinWithout", "(LLevelsmith$Plan;C)Z"⟩
abbrev cX7_canWinUnguarded : ByteArray := prog_9_method_5_code
def yX7_canWinUnguarded : MethodName := ⟨RX7, "canWinUnguarded", "(LLevelsmith$Plan;)Z"⟩
abbrev cX7_findMending : ByteArray := prog_9_method_6_code
def yX7_findMending : MethodName := ⟨RX7, "findMending", "(LLevelsmith$Plan;LLevelsmith$Reach;)V"⟩
abbrev cX7_canWinIfPut : ByteArray := prog_9_method_7_code
def yX7_canWinIfPut : MethodName := ⟨RX7, "canWinIfPut", "(IIC)Z"⟩
def RX8 : String := "Levelsmith$Reach"
def TX8 : u_T := fun k => match k with
  | 0 => ("Levelsmith$Reach", "level", "I", false)
  | 1 => ("Levelsmith$Reach", "version", "I", false)
  | 2 => ("Levelsmith$Reach", "runFrames", "I", false)
  | 3 => ("Levelsmith$Reach", "codes", "LLevelsmith$Codes;", true)
  | 4 => ("Levelsmith$Reach", "before", "[I", true)
  | 5 => ("Levelsmith$Reach", "next", "[J", true)
  | 6 => ("Levelsmith$Reach", "left", "[I", true)
  | 7 => ("Levelsmith$Reach", "from", "LLevelsmith$Player;", true)
  | 8 => ("Levelsmith$Reach", "player", "LLevelsmith$Player;", true)
  | 9 => ("Levelsmith$Reach", "firstInCells", "[I", true)
  | 10 => ("Levelsmith$Reach", "winAt", "I", false)
  | 11 => ("Levelsmith$Reach", "winInput", "I", false)
  | _ => ("Levelsmith$Reach", "isLeftFound", "Z", false)
def tyX8 : Nat → FieldType := fun k => match k with
  | 0 => .int
  | 1 => .int
  | 2 => .int
  | 3 => .object "Levelsmith$Codes"
  | 4 => .array .int
  | 5 => .array .long
  | 6 => .array .int
  | 7 => .object "Levelsmith$Player"
  | 8 => .object "Levelsmith$Player"
  | 9 => .array .int
  | 10 => .int
  | 11 => .int
  | _ => .boolean
abbrev wsX80 : List Cond := u_ws RX8 TX8 13
theorem nmX8 : ∀ a, a < 13 → ∀ b, b < 13 → a ≠ b → (TX8 a).2.1 ≠ (TX8 b).2.1 := by decide +kernel
theorem tyX8_ok : ∀ k, k < 13 → parseFieldDescriptor (TX8 k).2.2.1 = some (tyX8 k) := by decide +kernel
abbrev cX8_init : ByteArray := prog_10_method_1_code
def yX8_init : MethodName := ⟨RX8, "<init>", "()V"⟩
abbrev cX8_isOf : ByteArray := prog_10_method_2_code
def yX8_isOf : MethodName := ⟨RX8, "isOf", "(II)Z"⟩
abbrev cX8_explore : ByteArray := prog_10_method_3_code
def yX8_explore : MethodName := ⟨RX8, "explore", "(LLevelsmith$Plan;)V"⟩
abbrev cX8_arrive : ByteArray := prog_10_method_4_code
def yX8_arrive : MethodName := ⟨RX8, "arrive", "(CII)I"⟩
abbrev cX8_noteState : ByteArray := prog_10_method_5_code
def yX8_noteState : MethodName := ⟨RX8, "noteState", "(III)V"⟩
abbrev cX8_noteNext : ByteArray := prog_10_method_6_code
def yX8_noteNext : MethodName := ⟨RX8, "noteNext", "(III)V"⟩
abbrev cX8_nextOf : ByteArray := prog_10_method_7_code
def yX8_nextOf : MethodName := ⟨RX8, "nextOf", "(II)I"⟩
abbrev cX8_stateBefore : ByteArray := prog_10_method_8_code
def yX8_stateBefore : MethodName := ⟨RX8, "stateBefore", "(I)I"⟩
abbrev cX8_inputBefore : ByteArray := prog_10_method_9_code
def yX8_inputBefore : MethodName := ⟨RX8, "inputBefore", "(I)I"⟩
abbrev cX8_isWon : ByteArray := prog_10_method_10_code
def yX8_isWon : MethodName := ⟨RX8, "isWon", "()Z"⟩
abbrev cX8_size : ByteArray := prog_10_method_11_code
def yX8_size : MethodName := ⟨RX8, "size", "()I"⟩
abbrev cX8_inputOfRun : ByteArray := prog_10_method_12_code
def yX8_inputOfRun : MethodName := ⟨RX8, "inputOfRun", "(I)I"⟩
abbrev cX8_depthAt : ByteArray := prog_10_method_13_code
def yX8_depthAt : MethodName := ⟨RX8, "depthAt", "(I)I"⟩
abbrev cX8_cellAt : ByteArray := prog_10_method_14_code
def yX8_cellAt : MethodName := ⟨RX8, "cellAt", "(I)I"⟩
abbrev cX8_firstInCell : ByteArray := prog_10_method_15_code
def yX8_firstInCell : MethodName := ⟨RX8, "firstInCell", "(II)I"⟩
abbrev cX8_isLookedAt : ByteArray := prog_10_method_16_code
def yX8_isLookedAt : MethodName := ⟨RX8, "isLookedAt", "(II)Z"⟩
abbrev cX8_setsThatWin : ByteArray := prog_10_method_17_code
def yX8_setsThatWin : MethodName := ⟨RX8, "setsThatWin", "()I"⟩
abbrev cX8_findLeft : ByteArray := prog_10_method_18_code
def yX8_findLeft : MethodName := ⟨RX8, "findLeft", "()V"⟩
abbrev cX8_leftBy : ByteArray := prog_10_method_19_code
def yX8_leftBy : MethodName := ⟨RX8, "leftBy", "(II)I"⟩
abbrev cX8_leftAt : ByteArray := prog_10_method_20_code
def yX8_leftAt : MethodName := ⟨RX8, "leftAt", "(I)I"⟩
abbrev cX8_bestInput : ByteArray := prog_10_method_21_code
def yX8_bestInput : MethodName := ⟨RX8, "bestInput", "(I)I"⟩
abbrev cX8_stuckCount : ByteArray := prog_10_method_22_code
def yX8_stuckCount : MethodName := ⟨RX8, "stuckCount", "()I"⟩
abbrev cX8_firstStuck : ByteArray := prog_10_method_23_code
def yX8_firstStuck : MethodName := ⟨RX8, "firstStuck", "()I"⟩
abbrev cX8_sumOfLeft : ByteArray := prog_10_method_24_code
def yX8_sumOfLeft : MethodName := ⟨RX8, "sumOfLeft", "()J"⟩
abbrev cX8_countRests : ByteArray := prog_10_method_25_code
def yX8_countRests : MethodName := ⟨RX8, "countRests", "(LLevelsmith$Plan;)I"⟩
abbrev cX8_longestUnrested : ByteArray := prog_10_method_26_code
def yX8_longestUnrested : MethodName := ⟨RX8, "longestUnrested", "(LLevelsmith$Plan;)I"⟩
abbrev cX8_isRest : ByteArray := prog_10_method_27_code
def yX8_isRest : MethodName := ⟨RX8, "isRest", "(LLevelsmith$Plan;I)Z"⟩
def RX9 : String := "Levelsmith$Run"
def TX9 : u_T := fun k => match k with
  | 0 => ("Levelsmith$Run", "level", "I", false)
  | 1 => ("Levelsmith$Run", "version", "I", false)
  | 2 => ("Levelsmith$Run", "end", "C", false)
  | _ => ("Levelsmith$Run", "inputs", "[I", false)
def tyX9 : Nat → FieldType := fun k => match k with
  | 0 => .int
  | 1 => .int
  | 2 => .char
  | _ => .array .int
abbrev wsX90 : List Cond := u_ws RX9 TX9 4
theorem nmX9 : ∀ a, a < 4 → ∀ b, b < 4 → a ≠ b → (TX9 a).2.1 ≠ (TX9 b).2.1 := by decide +kernel
theorem tyX9_ok : ∀ k, k < 4 → parseFieldDescriptor (TX9 k).2.2.1 = some (tyX9 k) := by decide +kernel
abbrev cX9_init : ByteArray := prog_11_method_1_code
def yX9_init : MethodName := ⟨RX9, "<init>", "()V"⟩
def RX10 : String := "Levelsmith$Shown"
def TX10 : u_T := fun k => match k with
  | 0 => ("Levelsmith$Shown", "plan", "LLevelsmith$Plan;", true)
  | 1 => ("Levelsmith$Shown", "maker", "I", false)
  | _ => ("Levelsmith$Shown", "frames", "I", false)
def tyX10 : Nat → FieldType := fun k => match k with
  | 0 => .object "Levelsmith$Plan"
  | 1 => .int
  | _ => .int
abbrev wsX100 : List Cond := u_ws RX10 TX10 3
theorem nmX10 : ∀ a, a < 3 → ∀ b, b < 3 → a ≠ b → (TX10 a).2.1 ≠ (TX10 b).2.1 := by decide +kernel
theorem tyX10_ok : ∀ k, k < 3 → parseFieldDescriptor (TX10 k).2.2.1 = some (tyX10 k) := by decide +kernel
abbrev cX10_init : ByteArray := prog_12_method_1_code
def yX10_init : MethodName := ⟨RX10, "<init>", "()V"⟩
def RX11 : String := "Levelsmith"
def TX11 : u_T := fun k => match k with
  | 0 => ("Levelsmith", "plans", "Ljava/util/ArrayList;", true)
  | 1 => ("Levelsmith", "runs", "Ljava/util/ArrayList;", true)
  | 2 => ("Levelsmith", "shownOnes", "Ljava/util/ArrayList;", true)
  | 3 => ("Levelsmith", "savedPlayers", "[LLevelsmith$Player;", true)
  | 4 => ("Levelsmith", "savedLevels", "[I", true)
  | 5 => ("Levelsmith", "grower", "LLevelsmith$Grower;", true)
  | 6 => ("Levelsmith", "reach", "LLevelsmith$Reach;", true)
  | 7 => ("Levelsmith", "probe", "LLevelsmith$Probe;", true)
  | 8 => ("Levelsmith", "game", "LLevelsmith$Game;", true)
  | 9 => ("Levelsmith", "replayed", "LLevelsmith$Game;", true)
  | 10 => ("Levelsmith", "lastBot", "LLevelsmith$Bot;", true)
  | _ => ("Levelsmith", "deathCount", "I", false)
def tyX11 : Nat → FieldType := fun k => match k with
  | 0 => .object "java/util/ArrayList"
  | 1 => .object "java/util/ArrayList"
  | 2 => .object "java/util/ArrayList"
  | 3 => .array (.object "Levelsmith$Player")
  | 4 => .array .int
  | 5 => .object "Levelsmith$Grower"
  | 6 => .object "Levelsmith$Reach"
  | 7 => .object "Levelsmith$Probe"
  | 8 => .object "Levelsmith$Game"
  | 9 => .object "Levelsmith$Game"
  | 10 => .object "Levelsmith$Bot"
  | _ => .int
abbrev wsX110 : List Cond := u_ws RX11 TX11 12
theorem nmX11 : ∀ a, a < 12 → ∀ b, b < 12 → a ≠ b → (TX11 a).2.1 ≠ (TX11 b).2.1 := by decide +kernel
theorem tyX11_ok : ∀ k, k < 12 → parseFieldDescriptor (TX11 k).2.2.1 = some (tyX11 k) := by decide +kernel
abbrev cX11_init : ByteArray := prog_1_method_1_code
def yX11_init : MethodName := ⟨RX11, "<init>", "()V"⟩
abbrev cX11_level : ByteArray := prog_1_method_2_code
def yX11_level : MethodName := ⟨RX11, "level", "(IIC)I"⟩
abbrev cX11_put : ByteArray := prog_1_method_3_code
def yX11_put : MethodName := ⟨RX11, "put", "(IIIC)C"⟩
abbrev cX11_fill : ByteArray := prog_1_method_4_code
def yX11_fill : MethodName := ⟨RX11, "fill", "(IIIIIC)I"⟩
abbrev cX11_tile : ByteArray := prog_1_method_5_code
def yX11_tile : MethodName := ⟨RX11, "tile", "(III)C"⟩
abbrev cX11_start : ByteArray := prog_1_method_6_code
def yX11_start : MethodName := ⟨RX11, "start", "(III)I"⟩
abbrev cX11_guard : ByteArray := prog_1_method_7_code
def yX11_guard : MethodName := ⟨RX11, "guard", "(IIII)I"⟩
abbrev cX11_guardAt : ByteArray := prog_1_method_8_code
def yX11_guardAt : MethodName := ⟨RX11, "guardAt", "(III)I"⟩
abbrev cX11_copy : ByteArray := prog_1_method_9_code
def yX11_copy : MethodName := ⟨RX11, "copy", "(I)I"⟩
abbrev cX11_grow : ByteArray := prog_1_method_10_code
def yX11_grow : MethodName := ⟨RX11, "grow", "(II)I"⟩
abbrev cX11_isWinnable : ByteArray := prog_1_method_11_code
def yX11_isWinnable : MethodName := ⟨RX11, "isWinnable", "(I)Z"⟩
abbrev cX11_frames : ByteArray := prog_1_method_12_code
def yX11_frames : MethodName := ⟨RX11, "frames", "(I)I"⟩
abbrev cX11_routeAt : ByteArray := prog_1_method_13_code
def yX11_routeAt : MethodName := ⟨RX11, "routeAt", "(II)I"⟩
abbrev cX11_states : ByteArray := prog_1_method_14_code
def yX11_states : MethodName := ⟨RX11, "states", "(I)I"⟩
abbrev cX11_framesTo : ByteArray := prog_1_method_15_code
def yX11_framesTo : MethodName := ⟨RX11, "framesTo", "(III)I"⟩
abbrev cX11_softLocks : ByteArray := prog_1_method_16_code
def yX11_softLocks : MethodName := ⟨RX11, "softLocks", "(I)I"⟩
abbrev cX11_softLockAt : ByteArray := prog_1_method_17_code
def yX11_softLockAt : MethodName := ⟨RX11, "softLockAt", "(IC)I"⟩
abbrev cX11_ways : ByteArray := prog_1_method_18_code
def yX11_ways : MethodName := ⟨RX11, "ways", "(I)I"⟩
abbrev cX11_isNeeded : ByteArray := prog_1_method_19_code
def yX11_isNeeded : MethodName := ⟨RX11, "isNeeded", "(IC)Z"⟩
abbrev cX11_isWinnableWith : ByteArray := prog_1_method_20_code
def yX11_isWinnableWith : MethodName := ⟨RX11, "isWinnableWith", "(IC)Z"⟩
abbrev cX11_mend : ByteArray := prog_1_method_21_code
def yX11_mend : MethodName := ⟨RX11, "mend", "(I)I"⟩
abbrev cX11_mendAt : ByteArray := prog_1_method_22_code
def yX11_mendAt : MethodName := ⟨RX11, "mendAt", "(IC)I"⟩
abbrev cX11_rests : ByteArray := prog_1_method_23_code
def yX11_rests : MethodName := ⟨RX11, "rests", "(I)I"⟩
abbrev cX11_longestAir : ByteArray := prog_1_method_24_code
def yX11_longestAir : MethodName := ⟨RX11, "longestAir", "(I)I"⟩
abbrev cX11_play : ByteArray := prog_1_method_25_code
def yX11_play : MethodName := ⟨RX11, "play", "(I)I"⟩
abbrev cX11_input : ByteArray := prog_1_method_26_code
def yX11_input : MethodName := ⟨RX11, "input", "(I)C"⟩
abbrev cX11_told : ByteArray := prog_1_method_27_code
def yX11_told : MethodName := ⟨RX11, "told", "(C)I"⟩
abbrev cX11_deaths : ByteArray := prog_1_method_28_code
def yX11_deaths : MethodName := ⟨RX11, "deaths", "()I"⟩
abbrev cX11_save : ByteArray := prog_1_method_29_code
def yX11_save : MethodName := ⟨RX11, "save", "(I)Z"⟩
abbrev cX11_load : ByteArray := prog_1_method_30_code
def yX11_load : MethodName := ⟨RX11, "load", "(I)I"⟩
abbrev cX11_keep : ByteArray := prog_1_method_31_code
def yX11_keep : MethodName := ⟨RX11, "keep", "()I"⟩
abbrev cX11_length : ByteArray := prog_1_method_32_code
def yX11_length : MethodName := ⟨RX11, "length", "(I)I"⟩
abbrev cX11_replay : ByteArray := prog_1_method_33_code
def yX11_replay : MethodName := ⟨RX11, "replay", "(I)C"⟩
abbrev cX11_isTrue : ByteArray := prog_1_method_34_code
def yX11_isTrue : MethodName := ⟨RX11, "isTrue", "(I)Z"⟩
abbrev cX11_isPatched : ByteArray := prog_1_method_35_code
def yX11_isPatched : MethodName := ⟨RX11, "isPatched", "(I)Z"⟩
abbrev cX11_ghost : ByteArray := prog_1_method_36_code
def yX11_ghost : MethodName := ⟨RX11, "ghost", "(IIC)I"⟩
abbrev cX11_bot : ByteArray := prog_1_method_37_code
def yX11_bot : MethodName := ⟨RX11, "bot", "(IIIII)I"⟩
abbrev cX11_fell : ByteArray := prog_1_method_38_code
def yX11_fell : MethodName := ⟨RX11, "fell", "(II)I"⟩
abbrev cX11_hardest : ByteArray := prog_1_method_39_code
def yX11_hardest : MethodName := ⟨RX11, "hardest", "(C)I"⟩
abbrev cX11_publish : ByteArray := prog_1_method_40_code
def yX11_publish : MethodName := ⟨RX11, "publish", "(III)I"⟩
abbrev cX11_makerAt : ByteArray := prog_1_method_41_code
def yX11_makerAt : MethodName := ⟨RX11, "makerAt", "(I)I"⟩
abbrev cX11_isStolen : ByteArray := prog_1_method_42_code
def yX11_isStolen : MethodName := ⟨RX11, "isStolen", "(II)Z"⟩
abbrev cX11_levels : ByteArray := prog_1_method_43_code
def yX11_levels : MethodName := ⟨RX11, "levels", "()I"⟩
abbrev cX11_checksum : ByteArray := prog_1_method_44_code
def yX11_checksum : MethodName := ⟨RX11, "checksum", "(I)J"⟩
abbrev cX11_stuckShare : ByteArray := prog_1_method_45_code
def yX11_stuckShare : MethodName := ⟨RX11, "stuckShare", "(I)F"⟩
abbrev cX11_meanLeft : ByteArray := prog_1_method_46_code
def yX11_meanLeft : MethodName := ⟨RX11, "meanLeft", "(I)D"⟩
abbrev cX11_isSound : ByteArray := prog_1_method_47_code
def yX11_isSound : MethodName := ⟨RX11, "isSound", "()Z"⟩
abbrev cX11_planAt : ByteArray := prog_1_method_48_code
def yX11_planAt : MethodName := ⟨RX11, "planAt", "(I)LLevelsmith$Plan;"⟩
abbrev cX11_planWithCell : ByteArray := prog_1_method_49_code
def yX11_planWithCell : MethodName := ⟨RX11, "planWithCell", "(III)LLevelsmith$Plan;"⟩
abbrev cX11_checkSlot : ByteArray := prog_1_method_50_code
def yX11_checkSlot : MethodName := ⟨RX11, "checkSlot", "(I)V"⟩
abbrev cX11_runAt : ByteArray := prog_1_method_51_code
def yX11_runAt : MethodName := ⟨RX11, "runAt", "(I)LLevelsmith$Run;"⟩
abbrev cX11_checkRoomForLevel : ByteArray := prog_1_method_52_code
def yX11_checkRoomForLevel : MethodName := ⟨RX11, "checkRoomForLevel", "()V"⟩
abbrev cX11_checkGameGoesOn : ByteArray := prog_1_method_53_code
def yX11_checkGameGoesOn : MethodName := ⟨RX11, "checkGameGoesOn", "()V"⟩
abbrev cX11_checkSign : ByteArray := prog_1_method_54_code
def yX11_checkSign : MethodName := ⟨RX11, "checkSign", "(C)V"⟩
abbrev cX11_checkAxis : ByteArray := prog_1_method_55_code
def yX11_checkAxis : MethodName := ⟨RX11, "checkAxis", "(C)V"⟩
abbrev cX11_checkMaker : ByteArray := prog_1_method_56_code
def yX11_checkMaker : MethodName := ⟨RX11, "checkMaker", "(I)V"⟩
abbrev cX11_alongAxis : ByteArray := prog_1_method_57_code
def yX11_alongAxis : MethodName := ⟨RX11, "alongAxis", "(CI)I"⟩
abbrev cX11_isWayOfGuard : ByteArray := prog_1_method_58_code
def yX11_isWayOfGuard : MethodName := ⟨RX11, "isWayOfGuard", "(I)Z"⟩
abbrev cX11_reachOf : ByteArray := prog_1_method_59_code
def yX11_reachOf : MethodName := ⟨RX11, "reachOf", "(I)LLevelsmith$Reach;"⟩
abbrev cX11_wonReachOf : ByteArray := prog_1_method_60_code
def yX11_wonReachOf : MethodName := ⟨RX11, "wonReachOf", "(I)LLevelsmith$Reach;"⟩
abbrev cX11_reachWithLeft : ByteArray := prog_1_method_61_code
def yX11_reachWithLeft : MethodName := ⟨RX11, "reachWithLeft", "(I)LLevelsmith$Reach;"⟩
abbrev cX11_runAgain : ByteArray := prog_1_method_62_code
def yX11_runAgain : MethodName := ⟨RX11, "runAgain", "(LLevelsmith$Run;I)V"⟩
abbrev cX11_isRunSound : ByteArray := prog_1_method_63_code
def yX11_isRunSound : MethodName := ⟨RX11, "isRunSound", "(ILLevelsmith$Reach;)Z"⟩
abbrev cX11_shownLike : ByteArray := prog_1_method_64_code
def yX11_shownLike : MethodName := ⟨RX11, "shownLike", "(LLevelsmith$Plan;)I"⟩
abbrev cX11_show : ByteArray := prog_1_method_65_code
def yX11_show : MethodName := ⟨RX11, "show", "(LLevelsmith$Plan;II)V"⟩
abbrev cX11_rankOf : ByteArray := prog_1_method_66_code
def yX11_rankOf : MethodName := ⟨RX11, "rankOf", "(I)I"⟩
def RX12 : String := "LevelsmithModel$Draws"
def TX12 : u_T := fun k => match k with
  | _ => ("LevelsmithModel$Draws", "z", "I", false)
def tyX12 : Nat → FieldType := fun k => match k with
  | _ => .int
abbrev wsX120 : List Cond := u_ws RX12 TX12 1
theorem nmX12 : ∀ a, a < 1 → ∀ b, b < 1 → a ≠ b → (TX12 a).2.1 ≠ (TX12 b).2.1 := by decide +kernel
theorem tyX12_ok : ∀ k, k < 1 → parseFieldDescriptor (TX12 k).2.2.1 = some (tyX12 k) := by decide +kernel
abbrev cX12_init : ByteArray := prog_15_method_1_code
def yX12_init : MethodName := ⟨RX12, "<init>", "(I)V"⟩
abbrev cX12_next : ByteArray := prog_15_method_2_code
def yX12_next : MethodName := ⟨RX12, "next", "(I)I"⟩
def RX13 : String := "LevelsmithModel$Guard"
def TX13 : u_T := fun k => match k with
  | 0 => ("LevelsmithModel$Guard", "x", "I", true)
  | 1 => ("LevelsmithModel$Guard", "far", "I", true)
  | _ => ("LevelsmithModel$Guard", "y", "I", true)
def tyX13 : Nat → FieldType := fun k => match k with
  | 0 => .int
  | 1 => .int
  | _ => .int
abbrev wsX130 : List Cond := u_ws RX13 TX13 3
theorem nmX13 : ∀ a, a < 3 → ∀ b, b < 3 → a ≠ b → (TX13 a).2.1 ≠ (TX13 b).2.1 := by decide +kernel
theorem tyX13_ok : ∀ k, k < 3 → parseFieldDescriptor (TX13 k).2.2.1 = some (tyX13 k) := by decide +kernel
abbrev cX13_init : ByteArray := prog_16_method_1_code
def yX13_init : MethodName := ⟨RX13, "<init>", "(III)V"⟩
abbrev cX13_at : ByteArray := prog_16_method_2_code
def yX13_at : MethodName := ⟨RX13, "at", "(I)I"⟩
def RX14 : String := "LevelsmithModel$Level"
def TX14 : u_T := fun k => match k with
  | 0 => ("LevelsmithModel$Level", "wide", "I", true)
  | 1 => ("LevelsmithModel$Level", "high", "I", true)
  | 2 => ("LevelsmithModel$Level", "tiles", "[C", false)
  | 3 => ("LevelsmithModel$Level", "startX", "I", false)
  | 4 => ("LevelsmithModel$Level", "startY", "I", false)
  | 5 => ("LevelsmithModel$Level", "guards", "Ljava/util/ArrayList;", true)
  | 6 => ("LevelsmithModel$Level", "version", "I", false)
  | _ => ("LevelsmithModel$Level", "wonWith", "I", false)
def tyX14 : Nat → FieldType := fun k => match k with
  | 0 => .int
  | 1 => .int
  | 2 => .array .char
  | 3 => .int
  | 4 => .int
  | 5 => .object "java/util/ArrayList"
  | 6 => .int
  | _ => .int
abbrev wsX140 : List Cond := u_ws RX14 TX14 8
theorem nmX14 : ∀ a, a < 8 → ∀ b, b < 8 → a ≠ b → (TX14 a).2.1 ≠ (TX14 b).2.1 := by decide +kernel
theorem tyX14_ok : ∀ k, k < 8 → parseFieldDescriptor (TX14 k).2.2.1 = some (tyX14 k) := by decide +kernel
abbrev cX14_init : ByteArray := prog_17_method_1_code
def yX14_init : MethodName := ⟨RX14, "<init>", "(IIC)V"⟩
abbrev cX14_copy : ByteArray := prog_17_method_2_code
def yX14_copy : MethodName := ⟨RX14, "copy", "()LLevelsmithModel$Level;"⟩
abbrev cX14_with : ByteArray := prog_17_method_3_code
def yX14_with : MethodName := ⟨RX14, "with", "(CC)LLevelsmithModel$Level;"⟩
abbrev cX14_has : ByteArray := prog_17_method_4_code
def yX14_has : MethodName := ⟨RX14, "has", "(II)Z"⟩
abbrev cX14_tile : ByteArray := prog_17_method_5_code
def yX14_tile : MethodName := ⟨RX14, "tile", "(II)C"⟩
abbrev cX14_isSolid : ByteArray := prog_17_method_6_code
def yX14_isSolid : MethodName := ⟨RX14, "isSolid", "(IIIZ)Z"⟩
abbrev cX14_bears : ByteArray := prog_17_method_7_code
def yX14_bears : MethodName := ⟨RX14, "bears", "(IIIZ)Z"⟩
abbrev cX14_isGuarded : ByteArray := prog_17_method_8_code
def yX14_isGuarded : MethodName := ⟨RX14, "isGuarded", "(III)Z"⟩
abbrev cX14_isSame : ByteArray := prog_17_method_9_code
def yX14_isSame : MethodName := ⟨RX14, "isSame", "(LLevelsmithModel$Level;)Z"⟩
abbrev cX14_begin : ByteArray := prog_17_method_10_code
def yX14_begin : MethodName := ⟨RX14, "begin", "(I)I"⟩
abbrev cX14_go : ByteArray := prog_17_method_11_code
def yX14_go : MethodName := ⟨RX14, "go", "(II)I"⟩
def RX15 : String := "LevelsmithModel$Run"
def TX15 : u_T := fun k => match k with
  | 0 => ("LevelsmithModel$Run", "level", "I", true)
  | 1 => ("LevelsmithModel$Run", "inputs", "[I", true)
  | 2 => ("LevelsmithModel$Run", "end", "I", true)
  | _ => ("LevelsmithModel$Run", "version", "I", true)
def tyX15 : Nat → FieldType := fun k => match k with
  | 0 => .int
  | 1 => .array .int
  | 2 => .int
  | _ => .int
abbrev wsX150 : List Cond := u_ws RX15 TX15 4
theorem nmX15 : ∀ a, a < 4 → ∀ b, b < 4 → a ≠ b → (TX15 a).2.1 ≠ (TX15 b).2.1 := by decide +kernel
theorem tyX15_ok : ∀ k, k < 4 → parseFieldDescriptor (TX15 k).2.2.1 = some (tyX15 k) := by decide +kernel
abbrev cX15_init : ByteArray := prog_18_method_1_code
def yX15_init : MethodName := ⟨RX15, "<init>", "(I[III)V"⟩
def RX16 : String := "LevelsmithModel$Shown"
def TX16 : u_T := fun k => match k with
  | 0 => ("LevelsmithModel$Shown", "level", "LLevelsmithModel$Level;", true)
  | 1 => ("LevelsmithModel$Shown", "maker", "I", true)
  | _ => ("LevelsmithModel$Shown", "frames", "I", false)
def tyX16 : Nat → FieldType := fun k => match k with
  | 0 => .object "LevelsmithModel$Level"
  | 1 => .int
  | _ => .int
abbrev wsX160 : List Cond := u_ws RX16 TX16 3
theorem nmX16 : ∀ a, a < 3 → ∀ b, b < 3 → a ≠ b → (TX16 a).2.1 ≠ (TX16 b).2.1 := by decide +kernel
theorem tyX16_ok : ∀ k, k < 3 → parseFieldDescriptor (TX16 k).2.2.1 = some (tyX16 k) := by decide +kernel
abbrev cX16_init : ByteArray := prog_19_method_1_code
def yX16_init : MethodName := ⟨RX16, "<init>", "(LLevelsmithModel$Level;II)V"⟩
def RX17 : String := "LevelsmithModel$Space"
def TX17 : u_T := fun k => match k with
  | 0 => ("LevelsmithModel$Space", "level", "LLevelsmithModel$Level;", false)
  | 1 => ("LevelsmithModel$Space", "indexOf", "[I", true)
  | 2 => ("LevelsmithModel$Space", "states", "[I", true)
  | 3 => ("LevelsmithModel$Space", "depth", "[I", true)
  | 4 => ("LevelsmithModel$Space", "from", "[I", true)
  | 5 => ("LevelsmithModel$Space", "by", "[I", true)
  | 6 => ("LevelsmithModel$Space", "left", "[I", true)
  | 7 => ("LevelsmithModel$Space", "isLeft", "Z", false)
  | 8 => ("LevelsmithModel$Space", "next", "[I", true)
  | 9 => ("LevelsmithModel$Space", "many", "I", false)
  | 10 => ("LevelsmithModel$Space", "winner", "I", false)
  | 11 => ("LevelsmithModel$Space", "winning", "I", false)
  | 12 => ("LevelsmithModel$Space", "ways", "I", false)
  | _ => ("LevelsmithModel$Space", "reached", "[I", true)
def tyX17 : Nat → FieldType := fun k => match k with
  | 0 => .object "LevelsmithModel$Level"
  | 1 => .array .int
  | 2 => .array .int
  | 3 => .array .int
  | 4 => .array .int
  | 5 => .array .int
  | 6 => .array .int
  | 7 => .boolean
  | 8 => .array .int
  | 9 => .int
  | 10 => .int
  | 11 => .int
  | 12 => .int
  | _ => .array .int
abbrev wsX170 : List Cond := u_ws RX17 TX17 14
theorem nmX17 : ∀ a, a < 14 → ∀ b, b < 14 → a ≠ b → (TX17 a).2.1 ≠ (TX17 b).2.1 := by decide +kernel
theorem tyX17_ok : ∀ k, k < 14 → parseFieldDescriptor (TX17 k).2.2.1 = some (tyX17 k) := by decide +kernel
abbrev cX17_init : ByteArray := prog_20_method_1_code
def yX17_init : MethodName := ⟨RX17, "<init>", "()V"⟩
abbrev cX17_lay : ByteArray := prog_20_method_2_code
def yX17_lay : MethodName := ⟨RX17, "lay", "(LLevelsmithModel$Level;)V"⟩
abbrev cX17_add : ByteArray := prog_20_method_3_code
def yX17_add : MethodName := ⟨RX17, "add", "(III)I"⟩
abbrev cX17_reaches : ByteArray := prog_20_method_4_code
def yX17_reaches : MethodName := ⟨RX17, "reaches", "(III)V"⟩
abbrev cX17_goes : ByteArray := prog_20_method_5_code
def yX17_goes : MethodName := ⟨RX17, "goes", "(II)V"⟩
abbrev cX17_canWin : ByteArray := prog_20_method_6_code
def yX17_canWin : MethodName := ⟨RX17, "canWin", "()Z"⟩
abbrev cX17_frames : ByteArray := prog_20_method_7_code
def yX17_frames : MethodName := ⟨RX17, "frames", "()I"⟩
abbrev cX17_route : ByteArray := prog_20_method_8_code
def yX17_route : MethodName := ⟨RX17, "route", "()[I"⟩
abbrev cX17_left : ByteArray := prog_20_method_9_code
def yX17_left : MethodName := ⟨RX17, "left", "()[I"⟩
abbrev cX17_leadsOn : ByteArray := prog_20_method_10_code
def yX17_leadsOn : MethodName := ⟨RX17, "leadsOn", "(II)Z"⟩
abbrev cX17_stuck : ByteArray := prog_20_method_11_code
def yX17_stuck : MethodName := ⟨RX17, "stuck", "()I"⟩
def RX18 : String := "LevelsmithModel"
def TX18 : u_T := fun k => match k with
  | 0 => ("LevelsmithModel", "met", "[I", true)
  | 1 => ("LevelsmithModel", "queue", "[I", true)
  | 2 => ("LevelsmithModel", "trial", "I", false)
  | 3 => ("LevelsmithModel", "thrown", "I", false)
  | 4 => ("LevelsmithModel", "levels", "Ljava/util/ArrayList;", true)
  | 5 => ("LevelsmithModel", "gameLevel", "I", false)
  | 6 => ("LevelsmithModel", "goesOn", "Z", false)
  | 7 => ("LevelsmithModel", "state", "I", false)
  | 8 => ("LevelsmithModel", "inputs", "[I", true)
  | 9 => ("LevelsmithModel", "inputMany", "I", false)
  | 10 => ("LevelsmithModel", "gameEnd", "I", false)
  | 11 => ("LevelsmithModel", "wasLoaded", "Z", false)
  | 12 => ("LevelsmithModel", "deaths", "I", false)
  | 13 => ("LevelsmithModel", "slotLevels", "[I", true)
  | 14 => ("LevelsmithModel", "slotStates", "[I", true)
  | 15 => ("LevelsmithModel", "runs", "Ljava/util/ArrayList;", true)
  | 16 => ("LevelsmithModel", "shown", "Ljava/util/ArrayList;", true)
  | 17 => ("LevelsmithModel", "fell", "[I", false)
  | 18 => ("LevelsmithModel", "spaceOf", "LLevelsmithModel$Level;", false)
  | 19 => ("LevelsmithModel", "spaceVersion", "I", false)
  | 20 => ("LevelsmithModel", "space", "LLevelsmithModel$Space;", true)
  | 21 => ("LevelsmithModel", "mendCell", "I", false)
  | 22 => ("LevelsmithModel", "mendSign", "C", false)
  | _ => ("LevelsmithModel", "replayed", "I", false)
def tyX18 : Nat → FieldType := fun k => match k with
  | 0 => .array .int
  | 1 => .array .int
  | 2 => .int
  | 3 => .int
  | 4 => .object "java/util/ArrayList"
  | 5 => .int
  | 6 => .boolean
  | 7 => .int
  | 8 => .array .int
  | 9 => .int
  | 10 => .int
  | 11 => .boolean
  | 12 => .int
  | 13 => .array .int
  | 14 => .array .int
  | 15 => .object "java/util/ArrayList"
  | 16 => .object "java/util/ArrayList"
  | 17 => .array .int
  | 18 => .object "LevelsmithModel$Level"
  | 19 => .int
  | 20 => .object "LevelsmithModel$Space"
  | 21 => .int
  | 22 => .char
  | _ => .int
abbrev wsX180 : List Cond := u_ws RX18 TX18 24
theorem nmX18 : ∀ a, a < 24 → ∀ b, b < 24 → a ≠ b → (TX18 a).2.1 ≠ (TX18 b).2.1 := by decide +kernel
theorem tyX18_ok : ∀ k, k < 24 → parseFieldDescriptor (TX18 k).2.2.1 = some (tyX18 k) := by decide +kernel
abbrev cX18_in : ByteArray := prog_14_method_1_code
def yX18_in : MethodName := ⟨RX18, "in", "(III)Z"⟩
abbrev cX18_pack : ByteArray := prog_14_method_2_code
def yX18_pack : MethodName := ⟨RX18, "pack", "(IIIIII)I"⟩
abbrev cX18_phaseOf : ByteArray := prog_14_method_3_code
def yX18_phaseOf : MethodName := ⟨RX18, "phaseOf", "(I)I"⟩
abbrev cX18_riseOf : ByteArray := prog_14_method_4_code
def yX18_riseOf : MethodName := ⟨RX18, "riseOf", "(I)I"⟩
abbrev cX18_onOf : ByteArray := prog_14_method_5_code
def yX18_onOf : MethodName := ⟨RX18, "onOf", "(I)I"⟩
abbrev cX18_foundOf : ByteArray := prog_14_method_6_code
def yX18_foundOf : MethodName := ⟨RX18, "foundOf", "(I)I"⟩
abbrev cX18_xOf : ByteArray := prog_14_method_7_code
def yX18_xOf : MethodName := ⟨RX18, "xOf", "(I)I"⟩
abbrev cX18_yOf : ByteArray := prog_14_method_8_code
def yX18_yOf : MethodName := ⟨RX18, "yOf", "(I)I"⟩
abbrev cX18_canWin : ByteArray := prog_14_method_9_code
def yX18_canWin : MethodName := ⟨RX18, "canWin", "(LLevelsmithModel$Level;I)Z"⟩
abbrev cX18_init : ByteArray := prog_14_method_10_code
def yX18_init : MethodName := ⟨RX18, "<init>", "()V"⟩
abbrev cX18_thrown : ByteArray := prog_14_method_11_code
def yX18_thrown : MethodName := ⟨RX18, "thrown", "()I"⟩
abbrev cX18_raises : ByteArray := prog_14_method_12_code
def yX18_raises : MethodName := ⟨RX18, "raises", "(I)I"⟩
abbrev cX18_noLevel : ByteArray := prog_14_method_13_code
def yX18_noLevel : MethodName := ⟨RX18, "noLevel", "(I)Z"⟩
abbrev cX18_noCell : ByteArray := prog_14_method_14_code
def yX18_noCell : MethodName := ⟨RX18, "noCell", "(III)Z"⟩
abbrev cX18_isTile : ByteArray := prog_14_method_15_code
def yX18_isTile : MethodName := ⟨RX18, "isTile", "(C)Z"⟩
abbrev cX18_space : ByteArray := prog_14_method_16_code
def yX18_space : MethodName := ⟨RX18, "space", "(I)LLevelsmithModel$Space;"⟩
abbrev cX18_level : ByteArray := prog_14_method_17_code
def yX18_level : MethodName := ⟨RX18, "level", "(IIC)I"⟩
abbrev cX18_put : ByteArray := prog_14_method_18_code
def yX18_put : MethodName := ⟨RX18, "put", "(IIIC)C"⟩
abbrev cX18_fill : ByteArray := prog_14_method_19_code
def yX18_fill : MethodName := ⟨RX18, "fill", "(IIIIIC)I"⟩
abbrev cX18_tile : ByteArray := prog_14_method_20_code
def yX18_tile : MethodName := ⟨RX18, "tile", "(III)C"⟩
abbrev cX18_start : ByteArray := prog_14_method_21_code
def yX18_start : MethodName := ⟨RX18, "start", "(III)I"⟩
abbrev cX18_guard : ByteArray := prog_14_method_22_code
def yX18_guard : MethodName := ⟨RX18, "guard", "(IIII)I"⟩
abbrev cX18_guardAt : ByteArray := prog_14_method_23_code
def yX18_guardAt : MethodName := ⟨RX18, "guardAt", "(III)I"⟩
abbrev cX18_copy : ByteArray := prog_14_method_24_code
def yX18_copy : MethodName := ⟨RX18, "copy", "(I)I"⟩
abbrev cX18_grow : ByteArray := prog_14_method_25_code
def yX18_grow : MethodName := ⟨RX18, "grow", "(II)I"⟩
abbrev cX18_isWinnable : ByteArray := prog_14_method_26_code
def yX18_isWinnable : MethodName := ⟨RX18, "isWinnable", "(I)Z"⟩
abbrev cX18_won : ByteArray := prog_14_method_27_code
def yX18_won : MethodName := ⟨RX18, "won", "(I)LLevelsmithModel$Space;"⟩
abbrev cX18_frames : ByteArray := prog_14_method_28_code
def yX18_frames : MethodName := ⟨RX18, "frames", "(I)I"⟩
abbrev cX18_routeAt : ByteArray := prog_14_method_29_code
def yX18_routeAt : MethodName := ⟨RX18, "routeAt", "(II)I"⟩
abbrev cX18_states : ByteArray := prog_14_method_30_code
def yX18_states : MethodName := ⟨RX18, "states", "(I)I"⟩
abbrev cX18_framesTo : ByteArray := prog_14_method_31_code
def yX18_framesTo : MethodName := ⟨RX18, "framesTo", "(III)I"⟩
abbrev cX18_softLocks : ByteArray := prog_14_method_32_code
def yX18_softLocks : MethodName := ⟨RX18, "softLocks", "(I)I"⟩
abbrev cX18_softLockAt : ByteArray := prog_14_method_33_code
def yX18_softLockAt : MethodName := ⟨RX18, "softLockAt", "(IC)I"⟩
abbrev cX18_ways : ByteArray := prog_14_method_34_code
def yX18_ways : MethodName := ⟨RX18, "ways", "(I)I"⟩
abbrev cX18_isNeeded : ByteArray := prog_14_method_35_code
def yX18_isNeeded : MethodName := ⟨RX18, "isNeeded", "(IC)Z"⟩
abbrev cX18_isWinnableWith : ByteArray := prog_14_method_36_code
def yX18_isWinnableWith : MethodName := ⟨RX18, "isWinnableWith", "(IC)Z"⟩
abbrev cX18_mends : ByteArray := prog_14_method_37_code
def yX18_mends : MethodName := ⟨RX18, "mends", "(LLevelsmithModel$Level;)Z"⟩
abbrev cX18_mend : ByteArray := prog_14_method_38_code
def yX18_mend : MethodName := ⟨RX18, "mend", "(I)I"⟩
abbrev cX18_mendAt : ByteArray := prog_14_method_39_code
def yX18_mendAt : MethodName := ⟨RX18, "mendAt", "(IC)I"⟩
abbrev cX18_rested : ByteArray := prog_14_method_40_code
def yX18_rested : MethodName := ⟨RX18, "rested", "(I)[Z"⟩
abbrev cX18_rests : ByteArray := prog_14_method_41_code
def yX18_rests : MethodName := ⟨RX18, "rests", "(I)I"⟩
abbrev cX18_longestAir : ByteArray := prog_14_method_42_code
def yX18_longestAir : MethodName := ⟨RX18, "longestAir", "(I)I"⟩
abbrev cX18_play : ByteArray := prog_14_method_43_code
def yX18_play : MethodName := ⟨RX18, "play", "(I)I"⟩
abbrev cX18_input : ByteArray := prog_14_method_44_code
def yX18_input : MethodName := ⟨RX18, "input", "(I)C"⟩
abbrev cX18_told : ByteArray := prog_14_method_45_code
def yX18_told : MethodName := ⟨RX18, "told", "(C)I"⟩
abbrev cX18_deaths : ByteArray := prog_14_method_46_code
def yX18_deaths : MethodName := ⟨RX18, "deaths", "()I"⟩
abbrev cX18_save : ByteArray := prog_14_method_47_code
def yX18_save : MethodName := ⟨RX18, "save", "(I)Z"⟩
abbrev cX18_load : ByteArray := prog_14_method_48_code
def yX18_load : MethodName := ⟨RX18, "load", "(I)I"⟩
abbrev cX18_keep : ByteArray := prog_14_method_49_code
def yX18_keep : MethodName := ⟨RX18, "keep", "()I"⟩
abbrev cX18_noRun : ByteArray := prog_14_method_50_code
def yX18_noRun : MethodName := ⟨RX18, "noRun", "(I)Z"⟩
abbrev cX18_length : ByteArray := prog_14_method_51_code
def yX18_length : MethodName := ⟨RX18, "length", "(I)I"⟩
abbrev cX18_replays : ByteArray := prog_14_method_52_code
def yX18_replays : MethodName := ⟨RX18, "replays", "(LLevelsmithModel$Run;I)I"⟩
abbrev cX18_replay : ByteArray := prog_14_method_53_code
def yX18_replay : MethodName := ⟨RX18, "replay", "(I)C"⟩
abbrev cX18_isTrue : ByteArray := prog_14_method_54_code
def yX18_isTrue : MethodName := ⟨RX18, "isTrue", "(I)Z"⟩
abbrev cX18_isPatched : ByteArray := prog_14_method_55_code
def yX18_isPatched : MethodName := ⟨RX18, "isPatched", "(I)Z"⟩
abbrev cX18_ghost : ByteArray := prog_14_method_56_code
def yX18_ghost : MethodName := ⟨RX18, "ghost", "(IIC)I"⟩
abbrev cX18_bot : ByteArray := prog_14_method_57_code
def yX18_bot : MethodName := ⟨RX18, "bot", "(IIIII)I"⟩
abbrev cX18_plays : ByteArray := prog_14_method_58_code
def yX18_plays : MethodName := ⟨RX18, "plays", "(LLevelsmithModel$Space;[IIILLevelsmithModel$Draws;)Z"⟩
abbrev cX18_best : ByteArray := prog_14_method_59_code
def yX18_best : MethodName := ⟨RX18, "best", "(LLevelsmithModel$Space;[II)I"⟩
abbrev cX18_fell : ByteArray := prog_14_method_60_code
def yX18_fell : MethodName := ⟨RX18, "fell", "(II)I"⟩
abbrev cX18_hardest : ByteArray := prog_14_method_61_code
def yX18_hardest : MethodName := ⟨RX18, "hardest", "(C)I"⟩
abbrev cX18_likeIt : ByteArray := prog_14_method_62_code
def yX18_likeIt : MethodName := ⟨RX18, "likeIt", "(LLevelsmithModel$Level;)LLevelsmithModel$Shown;"⟩
abbrev cX18_publish : ByteArray := prog_14_method_63_code
def yX18_publish : MethodName := ⟨RX18, "publish", "(III)I"⟩
abbrev cX18_makerAt : ByteArray := prog_14_method_64_code
def yX18_makerAt : MethodName := ⟨RX18, "makerAt", "(I)I"⟩
abbrev cX18_isStolen : ByteArray := prog_14_method_65_code
def yX18_isStolen : MethodName := ⟨RX18, "isStolen", "(II)Z"⟩
abbrev cX18_levels : ByteArray := prog_14_method_66_code
def yX18_levels : MethodName := ⟨RX18, "levels", "()I"⟩
abbrev cX18_checksum : ByteArray := prog_14_method_67_code
def yX18_checksum : MethodName := ⟨RX18, "checksum", "(I)J"⟩
abbrev cX18_stuckShare : ByteArray := prog_14_method_68_code
def yX18_stuckShare : MethodName := ⟨RX18, "stuckShare", "(I)F"⟩
abbrev cX18_meanLeft : ByteArray := prog_14_method_69_code
def yX18_meanLeft : MethodName := ⟨RX18, "meanLeft", "(I)D"⟩
abbrev cX18_isSound : ByteArray := prog_14_method_70_code
def yX18_isSound : MethodName := ⟨RX18, "isSound", "()Z"⟩
def RJx145de : String := "java/io/Serializable"
def TJx145de : u_T := fun k => match k with
  | _ => ("", "", "", false)
def tyJx145de : Nat → FieldType := fun k => match k with
  | _ => .int
abbrev wsJx145de0 : List Cond := u_ws RJx145de TJx145de 0
theorem nmJx145de : ∀ a, a < 0 → ∀ b, b < 0 → a ≠ b → (TJx145de a).2.1 ≠ (TJx145de b).2.1 := by decide +kernel
theorem tyJx145de_ok : ∀ k, k < 0 → parseFieldDescriptor (TJx145de k).2.2.1 = some (tyJx145de k) := by decide +kernel
def RJx9f9b0 : String := "java/lang/CharSequence"
def TJx9f9b0 : u_T := fun k => match k with
  | _ => ("", "", "", false)
def tyJx9f9b0 : Nat → FieldType := fun k => match k with
  | _ => .int
abbrev wsJx9f9b00 : List Cond := u_ws RJx9f9b0 TJx9f9b0 0
theorem nmJx9f9b0 : ∀ a, a < 0 → ∀ b, b < 0 → a ≠ b → (TJx9f9b0 a).2.1 ≠ (TJx9f9b0 b).2.1 := by decide +kernel
theorem tyJx9f9b0_ok : ∀ k, k < 0 → parseFieldDescriptor (TJx9f9b0 k).2.2.1 = some (tyJx9f9b0 k) := by decide +kernel
def RJ11 : String := "java/lang/Character"
def TJ11 : u_T := fun k => match k with
  | _ => ("", "", "", false)
def tyJ11 : Nat → FieldType := fun k => match k with
  | _ => .int
abbrev wsJ110 : List Cond := u_ws RJ11 TJ11 0
theorem nmJ11 : ∀ a, a < 0 → ∀ b, b < 0 → a ≠ b → (TJ11 a).2.1 ≠ (TJ11 b).2.1 := by decide +kernel
theorem tyJ11_ok : ∀ k, k < 0 → parseFieldDescriptor (TJ11 k).2.2.1 = some (tyJ11 k) := by decide +kernel
abbrev cJ11_isValidCodePoint_9a6ad : ByteArray := prog_23_method_11_code
def yJ11_isValidCodePoint_9a6ad : MethodName := ⟨RJ11, "isValidCodePoint", "(I)Z"⟩
abbrev cJ11_highSurrogate_5068e : ByteArray := prog_23_method_28_code
def yJ11_highSurrogate_5068e : MethodName := ⟨RJ11, "highSurrogate", "(I)C"⟩
abbrev cJ11_lowSurrogate_5068e : ByteArray := prog_23_method_29_code
def yJ11_lowSurrogate_5068e : MethodName := ⟨RJ11, "lowSurrogate", "(I)C"⟩
def RJx8e188 : String := "java/lang/Cloneable"
def TJx8e188 : u_T := fun k => match k with
  | _ => ("", "", "", false)
def tyJx8e188 : Nat → FieldType := fun k => match k with
  | _ => .int
abbrev wsJx8e1880 : List Cond := u_ws RJx8e188 TJx8e188 0
theorem nmJx8e188 : ∀ a, a < 0 → ∀ b, b < 0 → a ≠ b → (TJx8e188 a).2.1 ≠ (TJx8e188 b).2.1 := by decide +kernel
theorem tyJx8e188_ok : ∀ k, k < 0 → parseFieldDescriptor (TJx8e188 k).2.2.1 = some (tyJx8e188 k) := by decide +kernel
def RJxb160c : String := "java/lang/Comparable"
def TJxb160c : u_T := fun k => match k with
  | _ => ("", "", "", false)
def tyJxb160c : Nat → FieldType := fun k => match k with
  | _ => .int
abbrev wsJxb160c0 : List Cond := u_ws RJxb160c TJxb160c 0
theorem nmJxb160c : ∀ a, a < 0 → ∀ b, b < 0 → a ≠ b → (TJxb160c a).2.1 ≠ (TJxb160c b).2.1 := by decide +kernel
theorem tyJxb160c_ok : ∀ k, k < 0 → parseFieldDescriptor (TJxb160c k).2.2.1 = some (tyJxb160c k) := by decide +kernel
def RJ6 : String := "java/lang/Integer"
def TJ6 : u_T := fun k => match k with
  | _ => ("", "", "", false)
def tyJ6 : Nat → FieldType := fun k => match k with
  | _ => .int
abbrev wsJ60 : List Cond := u_ws RJ6 TJ6 0
theorem nmJ6 : ∀ a, a < 0 → ∀ b, b < 0 → a ≠ b → (TJ6 a).2.1 ≠ (TJ6 b).2.1 := by decide +kernel
theorem tyJ6_ok : ∀ k, k < 0 → parseFieldDescriptor (TJ6 k).2.2.1 = some (tyJ6 k) := by decide +kernel
abbrev cJ6_bitCount_0f7a4 : ByteArray := prog_30_method_49_code
def yJ6_bitCount_0f7a4 : MethodName := ⟨RJ6, "bitCount", "(I)I"⟩
def RJxab1ab : String := "java/lang/Iterable"
def TJxab1ab : u_T := fun k => match k with
  | _ => ("", "", "", false)
def tyJxab1ab : Nat → FieldType := fun k => match k with
  | _ => .int
abbrev wsJxab1ab0 : List Cond := u_ws RJxab1ab TJxab1ab 0
theorem nmJxab1ab : ∀ a, a < 0 → ∀ b, b < 0 → a ≠ b → (TJxab1ab a).2.1 ≠ (TJxab1ab b).2.1 := by decide +kernel
theorem tyJxab1ab_ok : ∀ k, k < 0 → parseFieldDescriptor (TJxab1ab k).2.2.1 = some (tyJxab1ab k) := by decide +kernel
def RJ9 : String := "java/lang/Math"
def TJ9 : u_T := fun k => match k with
  | _ => ("", "", "", false)
def tyJ9 : Nat → FieldType := fun k => match k with
  | _ => .int
abbrev wsJ90 : List Cond := u_ws RJ9 TJ9 0
theorem nmJ9 : ∀ a, a < 0 → ∀ b, b < 0 → a ≠ b → (TJ9 a).2.1 ≠ (TJ9 b).2.1 := by decide +kernel
theorem tyJ9_ok : ∀ k, k < 0 → parseFieldDescriptor (TJ9 k).2.2.1 = some (tyJ9 k) := by decide +kernel
abbrev cJ9_max_7cf53 : ByteArray := prog_32_method_65_code
def yJ9_max_7cf53 : MethodName := ⟨RJ9, "max", "(II)I"⟩
abbrev cJ9_min_7cf53 : ByteArray := prog_32_method_69_code
def yJ9_min_7cf53 : MethodName := ⟨RJ9, "min", "(II)I"⟩
def RJ0 : String := "java/lang/String"
def TJ0 : u_T := fun k => match k with
  | _ => ("", "", "", false)
def tyJ0 : Nat → FieldType := fun k => match k with
  | _ => .int
abbrev wsJ00 : List Cond := u_ws RJ0 TJ0 0
theorem nmJ0 : ∀ a, a < 0 → ∀ b, b < 0 → a ≠ b → (TJ0 a).2.1 ≠ (TJ0 b).2.1 := by decide +kernel
theorem tyJ0_ok : ∀ k, k < 0 → parseFieldDescriptor (TJ0 k).2.2.1 = some (tyJ0 k) := by decide +kernel
abbrev cJ0_length_8abf5 : ByteArray := prog_34_method_54_code
def yJ0_length_8abf5 : MethodName := ⟨RJ0, "length", "()I"⟩
abbrev cJ0_indexOf_0f7a4 : ByteArray := prog_34_method_79_code
def yJ0_indexOf_0f7a4 : MethodName := ⟨RJ0, "indexOf", "(I)I"⟩
abbrev cJ0_indexOf_7cf53 : ByteArray := prog_34_method_80_code
def yJ0_indexOf_7cf53 : MethodName := ⟨RJ0, "indexOf", "(II)I"⟩
abbrev cJ0_coder_7d493 : ByteArray := prog_34_method_152_code
def yJ0_coder_7d493 : MethodName := ⟨RJ0, "coder", "()B"⟩
abbrev cJ0_isLatin1_aae02 : ByteArray := prog_34_method_154_code
def yJ0_isLatin1_aae02 : MethodName := ⟨RJ0, "isLatin1", "()Z"⟩
abbrev cJ0_checkBoundsBeginEnd_23922 : ByteArray := prog_34_method_158_code
def yJ0_checkBoundsBeginEnd_23922 : MethodName := ⟨RJ0, "checkBoundsBeginEnd", "(III)V"⟩
def RJ1 : String := "java/lang/StringLatin1"
def TJ1 : u_T := fun k => match k with
  | _ => ("", "", "", false)
def tyJ1 : Nat → FieldType := fun k => match k with
  | _ => .int
abbrev wsJ10 : List Cond := u_ws RJ1 TJ1 0
theorem nmJ1 : ∀ a, a < 0 → ∀ b, b < 0 → a ≠ b → (TJ1 a).2.1 ≠ (TJ1 b).2.1 := by decide +kernel
theorem tyJ1_ok : ∀ k, k < 0 → parseFieldDescriptor (TJ1 k).2.2.1 = some (tyJ1 k) := by decide +kernel
abbrev cJ1_canEncode_9a6ad : ByteArray := prog_35_method_4_code
def yJ1_canEncode_9a6ad : MethodName := ⟨RJ1, "canEncode", "(I)Z"⟩
abbrev cJ1_indexOf_4cfef : ByteArray := prog_35_method_22_code
def yJ1_indexOf_4cfef : MethodName := ⟨RJ1, "indexOf", "([BIII)I"⟩
abbrev cJ1_indexOfChar_4cfef : ByteArray := prog_35_method_23_code
def yJ1_indexOfChar_4cfef : MethodName := ⟨RJ1, "indexOfChar", "([BIII)I"⟩
def RJ2 : String := "java/lang/StringUTF16"
def TJ2 : u_T := fun k => match k with
  | _ => ("", "", "", false)
def tyJ2 : Nat → FieldType := fun k => match k with
  | _ => .int
abbrev wsJ20 : List Cond := u_ws RJ2 TJ2 0
theorem nmJ2 : ∀ a, a < 0 → ∀ b, b < 0 → a ≠ b → (TJ2 a).2.1 ≠ (TJ2 b).2.1 := by decide +kernel
theorem tyJ2_ok : ∀ k, k < 0 → parseFieldDescriptor (TJ2 k).2.2.1 = some (tyJ2 k) := by decide +kernel
abbrev cJ2_getChar_3b067 : ByteArray := prog_36_method_5_code
def yJ2_getChar_3b067 : MethodName := ⟨RJ2, "getChar", "([BI)C"⟩
abbrev cJ2_length_9d52b : ByteArray := prog_36_method_6_code
def yJ2_length_9d52b : MethodName := ⟨RJ2, "length", "([B)I"⟩
abbrev cJ2_indexOf_4cfef : ByteArray := prog_36_method_40_code
def yJ2_indexOf_4cfef : MethodName := ⟨RJ2, "indexOf", "([BIII)I"⟩
abbrev cJ2_indexOfChar_4cfef : ByteArray := prog_36_method_47_code
def yJ2_indexOfChar_4cfef : MethodName := ⟨RJ2, "indexOfChar", "([BIII)I"⟩
abbrev cJ2_indexOfCharUnsafe_4cfef : ByteArray := prog_36_method_48_code
def yJ2_indexOfCharUnsafe_4cfef : MethodName := ⟨RJ2, "indexOfCharUnsafe", "([BIII)I"⟩
abbrev cJ2_indexOfSupplementary_4cfef : ByteArray := prog_36_method_49_code
def yJ2_indexOfSupplementary_4cfef : MethodName := ⟨RJ2, "indexOfSupplementary", "([BIII)I"⟩
abbrev cJ2_checkBoundsBeginEnd_d044e : ByteArray := prog_36_method_93_code
def yJ2_checkBoundsBeginEnd_d044e : MethodName := ⟨RJ2, "checkBoundsBeginEnd", "(II[B)V"⟩
def RJ10 : String := "java/lang/System"
def TJ10 : u_T := fun k => match k with
  | _ => ("", "", "", false)
def tyJ10 : Nat → FieldType := fun k => match k with
  | _ => .int
abbrev wsJ100 : List Cond := u_ws RJ10 TJ10 0
theorem nmJ10 : ∀ a, a < 0 → ∀ b, b < 0 → a ≠ b → (TJ10 a).2.1 ≠ (TJ10 b).2.1 := by decide +kernel
theorem tyJ10_ok : ∀ k, k < 0 → parseFieldDescriptor (TJ10 k).2.2.1 = some (tyJ10 k) := by decide +kernel
def RJxfd54e : String := "java/lang/constant/Constable"
def TJxfd54e : u_T := fun k => match k with
  | _ => ("", "", "", false)
def tyJxfd54e : Nat → FieldType := fun k => match k with
  | _ => .int
abbrev wsJxfd54e0 : List Cond := u_ws RJxfd54e TJxfd54e 0
theorem nmJxfd54e : ∀ a, a < 0 → ∀ b, b < 0 → a ≠ b → (TJxfd54e a).2.1 ≠ (TJxfd54e b).2.1 := by decide +kernel
theorem tyJxfd54e_ok : ∀ k, k < 0 → parseFieldDescriptor (TJxfd54e k).2.2.1 = some (tyJxfd54e k) := by decide +kernel
def RJx3cf43 : String := "java/lang/constant/ConstantDesc"
def TJx3cf43 : u_T := fun k => match k with
  | _ => ("", "", "", false)
def tyJx3cf43 : Nat → FieldType := fun k => match k with
  | _ => .int
abbrev wsJx3cf430 : List Cond := u_ws RJx3cf43 TJx3cf43 0
theorem nmJx3cf43 : ∀ a, a < 0 → ∀ b, b < 0 → a ≠ b → (TJx3cf43 a).2.1 ≠ (TJx3cf43 b).2.1 := by decide +kernel
theorem tyJx3cf43_ok : ∀ k, k < 0 → parseFieldDescriptor (TJx3cf43 k).2.2.1 = some (tyJx3cf43 k) := by decide +kernel
def RJxa1e45 : String := "java/util/AbstractCollection"
def TJxa1e45 : u_T := fun k => match k with
  | _ => ("", "", "", false)
def tyJxa1e45 : Nat → FieldType := fun k => match k with
  | _ => .int
abbrev wsJxa1e450 : List Cond := u_ws RJxa1e45 TJxa1e45 0
theorem nmJxa1e45 : ∀ a, a < 0 → ∀ b, b < 0 → a ≠ b → (TJxa1e45 a).2.1 ≠ (TJxa1e45 b).2.1 := by decide +kernel
theorem tyJxa1e45_ok : ∀ k, k < 0 → parseFieldDescriptor (TJxa1e45 k).2.2.1 = some (tyJxa1e45 k) := by decide +kernel
abbrev cJxa1e45_init_da8c8 : ByteArray := prog_42_method_1_code
def yJxa1e45_init_da8c8 : MethodName := ⟨RJxa1e45, "<init>", "()V"⟩
def RJxc12de : String := "java/util/AbstractList"
def TJxc12de : u_T := fun k => match k with
  | _ => ("", "", "", false)
def tyJxc12de : Nat → FieldType := fun k => match k with
  | _ => .int
abbrev wsJxc12de0 : List Cond := u_ws RJxc12de TJxc12de 0
theorem nmJxc12de : ∀ a, a < 0 → ∀ b, b < 0 → a ≠ b → (TJxc12de a).2.1 ≠ (TJxc12de b).2.1 := by decide +kernel
theorem tyJxc12de_ok : ∀ k, k < 0 → parseFieldDescriptor (TJxc12de k).2.2.1 = some (tyJxc12de k) := by decide +kernel
abbrev cJxc12de_init_da8c8 : ByteArray := prog_43_method_1_code
def yJxc12de_init_da8c8 : MethodName := ⟨RJxc12de, "<init>", "()V"⟩
def RJx35411 : String := "java/util/ArrayList$Itr"
def TJx35411 : u_T := fun k => match k with
  | 0 => ("java/util/ArrayList$Itr", "cursor", "I", false)
  | 1 => ("java/util/ArrayList$Itr", "lastRet", "I", false)
  | 2 => ("java/util/ArrayList$Itr", "expectedModCount", "I", false)
  | _ => ("java/util/ArrayList$Itr", "this$0", "Ljava/util/ArrayList;", true)
def tyJx35411 : Nat → FieldType := fun k => match k with
  | 0 => .int
  | 1 => .int
  | 2 => .int
  | _ => .object "java/util/ArrayList"
abbrev wsJx354110 : List Cond := u_ws RJx35411 TJx35411 4
theorem nmJx35411 : ∀ a, a < 4 → ∀ b, b < 4 → a ≠ b → (TJx35411 a).2.1 ≠ (TJx35411 b).2.1 := by decide +kernel
theorem tyJx35411_ok : ∀ k, k < 4 → parseFieldDescriptor (TJx35411 k).2.2.1 = some (tyJx35411 k) := by decide +kernel
abbrev cJx35411_init_45d68 : ByteArray := prog_45_method_1_code
def yJx35411_init_45d68 : MethodName := ⟨RJx35411, "<init>", "(Ljava/util/ArrayList;)V"⟩
abbrev cJx35411_hasNext_aae02 : ByteArray := prog_45_method_2_code
def yJx35411_hasNext_aae02 : MethodName := ⟨RJx35411, "hasNext", "()Z"⟩
abbrev cJx35411_next_0502b : ByteArray := prog_45_method_3_code
def yJx35411_next_0502b : MethodName := ⟨RJx35411, "next", "()Ljava/lang/Object;"⟩
abbrev cJx35411_checkForComodification_da8c8 : ByteArray := prog_45_method_6_code
def yJx35411_checkForComodification_da8c8 : MethodName := ⟨RJx35411, "checkForComodification", "()V"⟩
def RJx4a65c : String := "java/util/ArrayList"
def TJx4a65c : u_T := fun k => match k with
  | 0 => ("java/util/AbstractList", "modCount", "I", false)
  | 1 => ("java/util/ArrayList", "elementData", "[Ljava/lang/Object;", false)
  | _ => ("java/util/ArrayList", "size", "I", false)
def tyJx4a65c : Nat → FieldType := fun k => match k with
  | 0 => .int
  | 1 => .array (.object "java/lang/Object")
  | _ => .int
abbrev wsJx4a65c0 : List Cond := u_ws RJx4a65c TJx4a65c 3
theorem nmJx4a65c : ∀ a, a < 3 → ∀ b, b < 3 → a ≠ b → (TJx4a65c a).2.1 ≠ (TJx4a65c b).2.1 := by decide +kernel
theorem tyJx4a65c_ok : ∀ k, k < 3 → parseFieldDescriptor (TJx4a65c k).2.2.1 = some (tyJx4a65c k) := by decide +kernel
abbrev cJx4a65c_init_da8c8 : ByteArray := prog_44_method_2_code
def yJx4a65c_init_da8c8 : MethodName := ⟨RJx4a65c, "<init>", "()V"⟩
abbrev cJx4a65c_grow_92f84 : ByteArray := prog_44_method_6_code
def yJx4a65c_grow_92f84 : MethodName := ⟨RJx4a65c, "grow", "(I)[Ljava/lang/Object;"⟩
abbrev cJx4a65c_grow_d5877 : ByteArray := prog_44_method_7_code
def yJx4a65c_grow_d5877 : MethodName := ⟨RJx4a65c, "grow", "()[Ljava/lang/Object;"⟩
abbrev cJx4a65c_size_8abf5 : ByteArray := prog_44_method_8_code
def yJx4a65c_size_8abf5 : MethodName := ⟨RJx4a65c, "size", "()I"⟩
abbrev cJx4a65c_toArray_d5877 : ByteArray := prog_44_method_16_code
def yJx4a65c_toArray_d5877 : MethodName := ⟨RJx4a65c, "toArray", "()[Ljava/lang/Object;"⟩
abbrev cJx4a65c_elementData_915e3 : ByteArray := prog_44_method_18_code
def yJx4a65c_elementData_915e3 : MethodName := ⟨RJx4a65c, "elementData", "(I)Ljava/lang/Object;"⟩
abbrev cJx4a65c_get_915e3 : ByteArray := prog_44_method_20_code
def yJx4a65c_get_915e3 : MethodName := ⟨RJx4a65c, "get", "(I)Ljava/lang/Object;"⟩
abbrev cJx4a65c_add_72be8 : ByteArray := prog_44_method_24_code
def yJx4a65c_add_72be8 : MethodName := ⟨RJx4a65c, "add", "(Ljava/lang/Object;[Ljava/lang/Object;I)V"⟩
abbrev cJx4a65c_add_9ea2d : ByteArray := prog_44_method_25_code
def yJx4a65c_add_9ea2d : MethodName := ⟨RJx4a65c, "add", "(Ljava/lang/Object;)Z"⟩
abbrev cJx4a65c_clear_da8c8 : ByteArray := prog_44_method_40_code
def yJx4a65c_clear_da8c8 : MethodName := ⟨RJx4a65c, "clear", "()V"⟩
abbrev cJx4a65c_addAll_f0b43 : ByteArray := prog_44_method_41_code
def yJx4a65c_addAll_f0b43 : MethodName := ⟨RJx4a65c, "addAll", "(Ljava/util/Collection;)Z"⟩
abbrev cJx4a65c_iterator_32c93 : ByteArray := prog_44_method_55_code
def yJx4a65c_iterator_32c93 : MethodName := ⟨RJx4a65c, "iterator", "()Ljava/util/Iterator;"⟩
def RJ7 : String := "java/util/Arrays"
def TJ7 : u_T := fun k => match k with
  | _ => ("", "", "", false)
def tyJ7 : Nat → FieldType := fun k => match k with
  | _ => .int
abbrev wsJ70 : List Cond := u_ws RJ7 TJ7 0
theorem nmJ7 : ∀ a, a < 0 → ∀ b, b < 0 → a ≠ b → (TJ7 a).2.1 ≠ (TJ7 b).2.1 := by decide +kernel
theorem tyJ7_ok : ∀ k, k < 0 → parseFieldDescriptor (TJ7 k).2.2.1 = some (tyJ7 k) := by decide +kernel
abbrev cJ7_fill_d0a16 : ByteArray := prog_46_method_101_code
def yJ7_fill_d0a16 : MethodName := ⟨RJ7, "fill", "([JJ)V"⟩
abbrev cJ7_fill_53178 : ByteArray := prog_46_method_103_code
def yJ7_fill_53178 : MethodName := ⟨RJ7, "fill", "([II)V"⟩
abbrev cJ7_copyOf_1904c : ByteArray := prog_46_method_119_code
def yJ7_copyOf_1904c : MethodName := ⟨RJ7, "copyOf", "([Ljava/lang/Object;I)[Ljava/lang/Object;"⟩
abbrev cJ7_copyOf_6403c : ByteArray := prog_46_method_120_code
def yJ7_copyOf_6403c : MethodName := ⟨RJ7, "copyOf", "([Ljava/lang/Object;ILjava/lang/Class;)[Ljava/lang/Object;"⟩
abbrev cJ7_copyOf_59c91 : ByteArray := prog_46_method_123_code
def yJ7_copyOf_59c91 : MethodName := ⟨RJ7, "copyOf", "([II)[I"⟩
def RJx5ef63 : String := "java/util/Collection"
def TJx5ef63 : u_T := fun k => match k with
  | _ => ("", "", "", false)
def tyJx5ef63 : Nat → FieldType := fun k => match k with
  | _ => .int
abbrev wsJx5ef630 : List Cond := u_ws RJx5ef63 TJx5ef63 0
theorem nmJx5ef63 : ∀ a, a < 0 → ∀ b, b < 0 → a ≠ b → (TJx5ef63 a).2.1 ≠ (TJx5ef63 b).2.1 := by decide +kernel
theorem tyJx5ef63_ok : ∀ k, k < 0 → parseFieldDescriptor (TJx5ef63 k).2.2.1 = some (tyJx5ef63 k) := by decide +kernel
def RJx4d0d8 : String := "java/util/Iterator"
def TJx4d0d8 : u_T := fun k => match k with
  | _ => ("", "", "", false)
def tyJx4d0d8 : Nat → FieldType := fun k => match k with
  | _ => .int
abbrev wsJx4d0d80 : List Cond := u_ws RJx4d0d8 TJx4d0d8 0
theorem nmJx4d0d8 : ∀ a, a < 0 → ∀ b, b < 0 → a ≠ b → (TJx4d0d8 a).2.1 ≠ (TJx4d0d8 b).2.1 := by decide +kernel
theorem tyJx4d0d8_ok : ∀ k, k < 0 → parseFieldDescriptor (TJx4d0d8 k).2.2.1 = some (tyJx4d0d8 k) := by decide +kernel
def RJxbd725 : String := "java/util/List"
def TJxbd725 : u_T := fun k => match k with
  | _ => ("", "", "", false)
def tyJxbd725 : Nat → FieldType := fun k => match k with
  | _ => .int
abbrev wsJxbd7250 : List Cond := u_ws RJxbd725 TJxbd725 0
theorem nmJxbd725 : ∀ a, a < 0 → ∀ b, b < 0 → a ≠ b → (TJxbd725 a).2.1 ≠ (TJxbd725 b).2.1 := by decide +kernel
theorem tyJxbd725_ok : ∀ k, k < 0 → parseFieldDescriptor (TJxbd725 k).2.2.1 = some (tyJxbd725 k) := by decide +kernel
def RJ15 : String := "java/util/Objects"
def TJ15 : u_T := fun k => match k with
  | _ => ("", "", "", false)
def tyJ15 : Nat → FieldType := fun k => match k with
  | _ => .int
abbrev wsJ150 : List Cond := u_ws RJ15 TJ15 0
theorem nmJ15 : ∀ a, a < 0 → ∀ b, b < 0 → a ≠ b → (TJ15 a).2.1 ≠ (TJ15 b).2.1 := by decide +kernel
theorem tyJ15_ok : ∀ k, k < 0 → parseFieldDescriptor (TJ15 k).2.2.1 = some (tyJ15 k) := by decide +kernel
abbrev cJ15_checkIndex_7cf53 : ByteArray := prog_51_method_17_code
def yJ15_checkIndex_7cf53 : MethodName := ⟨RJ15, "checkIndex", "(II)I"⟩
def RJxf0a74 : String := "java/util/RandomAccess"
def TJxf0a74 : u_T := fun k => match k with
  | _ => ("", "", "", false)
def tyJxf0a74 : Nat → FieldType := fun k => match k with
  | _ => .int
abbrev wsJxf0a740 : List Cond := u_ws RJxf0a74 TJxf0a74 0
theorem nmJxf0a74 : ∀ a, a < 0 → ∀ b, b < 0 → a ≠ b → (TJxf0a74 a).2.1 ≠ (TJxf0a74 b).2.1 := by decide +kernel
theorem tyJxf0a74_ok : ∀ k, k < 0 → parseFieldDescriptor (TJxf0a74 k).2.2.1 = some (tyJxf0a74 k) := by decide +kernel
def RJxa66e6 : String := "java/util/SequencedCollection"
def TJxa66e6 : u_T := fun k => match k with
  | _ => ("", "", "", false)
def tyJxa66e6 : Nat → FieldType := fun k => match k with
  | _ => .int
abbrev wsJxa66e60 : List Cond := u_ws RJxa66e6 TJxa66e6 0
theorem nmJxa66e6 : ∀ a, a < 0 → ∀ b, b < 0 → a ≠ b → (TJxa66e6 a).2.1 ≠ (TJxa66e6 b).2.1 := by decide +kernel
theorem tyJxa66e6_ok : ∀ k, k < 0 → parseFieldDescriptor (TJxa66e6 k).2.2.1 = some (tyJxa66e6 k) := by decide +kernel
def RJ8 : String := "jdk/internal/util/ArraysSupport"
def TJ8 : u_T := fun k => match k with
  | _ => ("", "", "", false)
def tyJ8 : Nat → FieldType := fun k => match k with
  | _ => .int
abbrev wsJ80 : List Cond := u_ws RJ8 TJ8 0
theorem nmJ8 : ∀ a, a < 0 → ∀ b, b < 0 → a ≠ b → (TJ8 a).2.1 ≠ (TJ8 b).2.1 := by decide +kernel
theorem tyJ8_ok : ∀ k, k < 0 → parseFieldDescriptor (TJ8 k).2.2.1 = some (tyJ8 k) := by decide +kernel
abbrev cJ8_newLength_cabcc : ByteArray := prog_54_method_27_code
def yJ8_newLength_cabcc : MethodName := ⟨RJ8, "newLength", "(III)I"⟩
abbrev cJ8_hugeLength_7cf53 : ByteArray := prog_54_method_28_code
def yJ8_hugeLength_7cf53 : MethodName := ⟨RJ8, "hugeLength", "(II)I"⟩
def RJ3 : String := "jdk/internal/util/Preconditions"
def TJ3 : u_T := fun k => match k with
  | _ => ("", "", "", false)
def tyJ3 : Nat → FieldType := fun k => match k with
  | _ => .int
abbrev wsJ30 : List Cond := u_ws RJ3 TJ3 0
theorem nmJ3 : ∀ a, a < 0 → ∀ b, b < 0 → a ≠ b → (TJ3 a).2.1 ≠ (TJ3 b).2.1 := by decide +kernel
theorem tyJ3_ok : ∀ k, k < 0 → parseFieldDescriptor (TJ3 k).2.2.1 = some (tyJ3 k) := by decide +kernel
abbrev cJ3_checkIndex_8e157 : ByteArray := prog_55_method_11_code
def yJ3_checkIndex_8e157 : MethodName := ⟨RJ3, "checkIndex", "(IILjava/util/function/BiFunction;)I"⟩
abbrev cJ3_checkFromToIndex_8c36e : ByteArray := prog_55_method_12_code
def yJ3_checkFromToIndex_8c36e : MethodName := ⟨RJ3, "checkFromToIndex", "(IIILjava/util/function/BiFunction;)I"⟩
def RL : String := "LevelsmithLaw"
abbrev cL_level : ByteArray := method_3_code
def yL_level : MethodName := ⟨RL, "level", "(LLevelsmith;IIC[J)I"⟩
abbrev cL_put : ByteArray := method_4_code
def yL_put : MethodName := ⟨RL, "put", "(LLevelsmith;IIIC[J)I"⟩
abbrev cL_fill : ByteArray := method_5_code
def yL_fill : MethodName := ⟨RL, "fill", "(LLevelsmith;IIIIIC[J)I"⟩
abbrev cL_tile : ByteArray := method_6_code
def yL_tile : MethodName := ⟨RL, "tile", "(LLevelsmith;III[J)I"⟩
abbrev cL_start : ByteArray := method_7_code
def yL_start : MethodName := ⟨RL, "start", "(LLevelsmith;III[J)I"⟩
abbrev cL_guard : ByteArray := method_8_code
def yL_guard : MethodName := ⟨RL, "guard", "(LLevelsmith;IIII[J)I"⟩
abbrev cL_guardAt : ByteArray := method_9_code
def yL_guardAt : MethodName := ⟨RL, "guardAt", "(LLevelsmith;III[J)I"⟩
abbrev cL_copy : ByteArray := method_10_code
def yL_copy : MethodName := ⟨RL, "copy", "(LLevelsmith;I[J)I"⟩
abbrev cL_grow : ByteArray := method_11_code
def yL_grow : MethodName := ⟨RL, "grow", "(LLevelsmith;II[J)I"⟩
abbrev cL_isWinnable : ByteArray := method_12_code
def yL_isWinnable : MethodName := ⟨RL, "isWinnable", "(LLevelsmith;I[J)I"⟩
abbrev cL_frames : ByteArray := method_13_code
def yL_frames : MethodName := ⟨RL, "frames", "(LLevelsmith;I[J)I"⟩
abbrev cL_routeAt : ByteArray := method_14_code
def yL_routeAt : MethodName := ⟨RL, "routeAt", "(LLevelsmith;II[J)I"⟩
abbrev cL_states : ByteArray := method_15_code
def yL_states : MethodName := ⟨RL, "states", "(LLevelsmith;I[J)I"⟩
abbrev cL_framesTo : ByteArray := method_16_code
def yL_framesTo : MethodName := ⟨RL, "framesTo", "(LLevelsmith;III[J)I"⟩
abbrev cL_softLocks : ByteArray := method_17_code
def yL_softLocks : MethodName := ⟨RL, "softLocks", "(LLevelsmith;I[J)I"⟩
abbrev cL_softLockAt : ByteArray := method_18_code
def yL_softLockAt : MethodName := ⟨RL, "softLockAt", "(LLevelsmith;IC[J)I"⟩
abbrev cL_ways : ByteArray := method_19_code
def yL_ways : MethodName := ⟨RL, "ways", "(LLevelsmith;I[J)I"⟩
abbrev cL_isNeeded : ByteArray := method_20_code
def yL_isNeeded : MethodName := ⟨RL, "isNeeded", "(LLevelsmith;IC[J)I"⟩
abbrev cL_isWinnableWith : ByteArray := method_21_code
def yL_isWinnableWith : MethodName := ⟨RL, "isWinnableWith", "(LLevelsmith;IC[J)I"⟩
abbrev cL_mend : ByteArray := method_22_code
def yL_mend : MethodName := ⟨RL, "mend", "(LLevelsmith;I[J)I"⟩
abbrev cL_mendAt : ByteArray := method_23_code
def yL_mendAt : MethodName := ⟨RL, "mendAt", "(LLevelsmith;IC[J)I"⟩
abbrev cL_rests : ByteArray := method_24_code
def yL_rests : MethodName := ⟨RL, "rests", "(LLevelsmith;I[J)I"⟩
abbrev cL_longestAir : ByteArray := method_25_code
def yL_longestAir : MethodName := ⟨RL, "longestAir", "(LLevelsmith;I[J)I"⟩
abbrev cL_play : ByteArray := method_26_code
def yL_play : MethodName := ⟨RL, "play", "(LLevelsmith;I[J)I"⟩
abbrev cL_input : ByteArray := method_27_code
def yL_input : MethodName := ⟨RL, "input", "(LLevelsmith;I[J)I"⟩
abbrev cL_told : ByteArray := method_28_code
def yL_told : MethodName := ⟨RL, "told", "(LLevelsmith;C[J)I"⟩
abbrev cL_save : ByteArray := method_29_code
def yL_save : MethodName := ⟨RL, "save", "(LLevelsmith;I[J)I"⟩
abbrev cL_load : ByteArray := method_30_code
def yL_load : MethodName := ⟨RL, "load", "(LLevelsmith;I[J)I"⟩
abbrev cL_keep : ByteArray := method_31_code
def yL_keep : MethodName := ⟨RL, "keep", "(LLevelsmith;[J)I"⟩
abbrev cL_length : ByteArray := method_32_code
def yL_length : MethodName := ⟨RL, "length", "(LLevelsmith;I[J)I"⟩
abbrev cL_replay : ByteArray := method_33_code
def yL_replay : MethodName := ⟨RL, "replay", "(LLevelsmith;I[J)I"⟩
abbrev cL_isTrue : ByteArray := method_34_code
def yL_isTrue : MethodName := ⟨RL, "isTrue", "(LLevelsmith;I[J)I"⟩
abbrev cL_isPatched : ByteArray := method_35_code
def yL_isPatched : MethodName := ⟨RL, "isPatched", "(LLevelsmith;I[J)I"⟩
abbrev cL_ghost : ByteArray := method_36_code
def yL_ghost : MethodName := ⟨RL, "ghost", "(LLevelsmith;IIC[J)I"⟩
abbrev cL_bot : ByteArray := method_37_code
def yL_bot : MethodName := ⟨RL, "bot", "(LLevelsmith;IIIII[J)I"⟩
abbrev cL_fell : ByteArray := method_38_code
def yL_fell : MethodName := ⟨RL, "fell", "(LLevelsmith;II[J)I"⟩
abbrev cL_hardest : ByteArray := method_39_code
def yL_hardest : MethodName := ⟨RL, "hardest", "(LLevelsmith;C[J)I"⟩
abbrev cL_publish : ByteArray := method_40_code
def yL_publish : MethodName := ⟨RL, "publish", "(LLevelsmith;III[J)I"⟩
abbrev cL_makerAt : ByteArray := method_41_code
def yL_makerAt : MethodName := ⟨RL, "makerAt", "(LLevelsmith;I[J)I"⟩
abbrev cL_isStolen : ByteArray := method_42_code
def yL_isStolen : MethodName := ⟨RL, "isStolen", "(LLevelsmith;II[J)I"⟩
abbrev cL_checksum : ByteArray := method_43_code
def yL_checksum : MethodName := ⟨RL, "checksum", "(LLevelsmith;I[J)I"⟩
abbrev cL_stuckShare : ByteArray := method_44_code
def yL_stuckShare : MethodName := ⟨RL, "stuckShare", "(LLevelsmith;I[D)I"⟩
abbrev cL_meanLeft : ByteArray := method_45_code
def yL_meanLeft : MethodName := ⟨RL, "meanLeft", "(LLevelsmith;I[D)I"⟩
abbrev cL_law : ByteArray := code
def yL_law : MethodName := ⟨RL, "law", "([I)Z"⟩
