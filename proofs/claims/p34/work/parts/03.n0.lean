/-! ===== BEGIN printed: names, fields, word lists, decode rows ===== -/
def RX0 : String := "LightReceiver$Ear"
def TX0 : u_T := fun k => match k with
  | 0 => ("LightReceiver$Ear", "sent", "LLightReceiver$Row;", true)
  | 1 => ("LightReceiver$Ear", "left", "LLightReceiver$Row;", true)
  | 2 => ("LightReceiver$Ear", "missedAny", "Z", false)
  | 3 => ("LightReceiver$Ear", "address", "I", false)
  | 4 => ("LightReceiver$Ear", "code", "I", false)
  | _ => ("LightReceiver$Ear", "toggle", "I", false)
def tyX0 : Nat → FieldType := fun k => match k with
  | 0 => .object "LightReceiver$Row"
  | 1 => .object "LightReceiver$Row"
  | 2 => .boolean
  | 3 => .int
  | 4 => .int
  | _ => .int
abbrev wsX00 : List Cond := u_ws RX0 TX0 6
theorem nmX0 : ∀ a, a < 6 → ∀ b, b < 6 → a ≠ b → (TX0 a).2.1 ≠ (TX0 b).2.1 := by decide +kernel
theorem tyX0_ok : ∀ k, k < 6 → parseFieldDescriptor (TX0 k).2.2.1 = some (tyX0 k) := by decide +kernel
abbrev cX0_init : ByteArray := prog_2_method_1_code
def yX0_init : MethodName := ⟨RX0, "<init>", "()V"⟩
abbrev cX0_sendFrame : ByteArray := prog_2_method_2_code
def yX0_sendFrame : MethodName := ⟨RX0, "sendFrame", "(III)V"⟩
abbrev cX0_sendRepeat : ByteArray := prog_2_method_3_code
def yX0_sendRepeat : MethodName := ⟨RX0, "sendRepeat", "()V"⟩
abbrev cX0_sendRow : ByteArray := prog_2_method_4_code
def yX0_sendRow : MethodName := ⟨RX0, "sendRow", "(LLightReceiver$Row;)V"⟩
abbrev cX0_listen : ByteArray := prog_2_method_5_code
def yX0_listen : MethodName := ⟨RX0, "listen", "(III)V"⟩
abbrev cX0_decode : ByteArray := prog_2_method_6_code
def yX0_decode : MethodName := ⟨RX0, "decode", "()I"⟩
def RX1 : String := "LightReceiver$LightText"
def TX1 : u_T := fun k => match k with
  | _ => ("LightReceiver$LightText", "signs", "LLightReceiver$Row;", true)
def tyX1 : Nat → FieldType := fun k => match k with
  | _ => .object "LightReceiver$Row"
abbrev wsX10 : List Cond := u_ws RX1 TX1 1
theorem nmX1 : ∀ a, a < 1 → ∀ b, b < 1 → a ≠ b → (TX1 a).2.1 ≠ (TX1 b).2.1 := by decide +kernel
theorem tyX1_ok : ∀ k, k < 1 → parseFieldDescriptor (TX1 k).2.2.1 = some (tyX1 k) := by decide +kernel
abbrev cX1_init : ByteArray := prog_3_method_1_code
def yX1_init : MethodName := ⟨RX1, "<init>", "()V"⟩
def RX2 : String := "LightReceiver$Row"
def TX2 : u_T := fun k => match k with
  | 0 => ("LightReceiver$Row", "values", "[I", true)
  | _ => ("LightReceiver$Row", "count", "I", false)
def tyX2 : Nat → FieldType := fun k => match k with
  | 0 => .array .int
  | _ => .int
abbrev wsX20 : List Cond := u_ws RX2 TX2 2
theorem nmX2 : ∀ a, a < 2 → ∀ b, b < 2 → a ≠ b → (TX2 a).2.1 ≠ (TX2 b).2.1 := by decide +kernel
theorem tyX2_ok : ∀ k, k < 2 → parseFieldDescriptor (TX2 k).2.2.1 = some (tyX2 k) := by decide +kernel
abbrev cX2_init : ByteArray := prog_4_method_1_code
def yX2_init : MethodName := ⟨RX2, "<init>", "(II)V"⟩
abbrev cX2_at : ByteArray := prog_4_method_2_code
def yX2_at : MethodName := ⟨RX2, "at", "(I)I"⟩
abbrev cX2_set : ByteArray := prog_4_method_3_code
def yX2_set : MethodName := ⟨RX2, "set", "(II)V"⟩
abbrev cX2_increase : ByteArray := prog_4_method_4_code
def yX2_increase : MethodName := ⟨RX2, "increase", "(I)V"⟩
abbrev cX2_add : ByteArray := prog_4_method_5_code
def yX2_add : MethodName := ⟨RX2, "add", "(I)V"⟩
abbrev cX2_empty : ByteArray := prog_4_method_6_code
def yX2_empty : MethodName := ⟨RX2, "empty", "()V"⟩
abbrev cX2_become : ByteArray := prog_4_method_7_code
def yX2_become : MethodName := ⟨RX2, "become", "(LLightReceiver$Row;)V"⟩
def RX3 : String := "LightReceiver$Saves"
def TX3 : u_T := fun k => match k with
  | 0 => ("LightReceiver$Saves", "states", "[LLightReceiver$State;", true)
  | _ => ("LightReceiver$Saves", "count", "I", false)
def tyX3 : Nat → FieldType := fun k => match k with
  | 0 => .array (.object "LightReceiver$State")
  | _ => .int
abbrev wsX30 : List Cond := u_ws RX3 TX3 2
theorem nmX3 : ∀ a, a < 2 → ∀ b, b < 2 → a ≠ b → (TX3 a).2.1 ≠ (TX3 b).2.1 := by decide +kernel
theorem tyX3_ok : ∀ k, k < 2 → parseFieldDescriptor (TX3 k).2.2.1 = some (tyX3 k) := by decide +kernel
abbrev cX3_init : ByteArray := prog_5_method_1_code
def yX3_init : MethodName := ⟨RX3, "<init>", "()V"⟩
abbrev cX3_keep : ByteArray := prog_5_method_2_code
def yX3_keep : MethodName := ⟨RX3, "keep", "(LLightReceiver$State;)V"⟩
abbrev cX3_discardOldest : ByteArray := prog_5_method_3_code
def yX3_discardOldest : MethodName := ⟨RX3, "discardOldest", "()V"⟩
abbrev cX3_giveBack : ByteArray := prog_5_method_4_code
def yX3_giveBack : MethodName := ⟨RX3, "giveBack", "(LLightReceiver$State;)V"⟩
def RX4 : String := "LightReceiver$State"
def TX4 : u_T := fun k => match k with
  | 0 => ("LightReceiver$State", "glare", "I", false)
  | 1 => ("LightReceiver$State", "gain", "I", false)
  | 2 => ("LightReceiver$State", "address", "I", false)
  | 3 => ("LightReceiver$State", "code", "I", false)
  | 4 => ("LightReceiver$State", "toggle", "I", false)
  | 5 => ("LightReceiver$State", "holds", "I", false)
  | 6 => ("LightReceiver$State", "sinceAccepted", "I", false)
  | 7 => ("LightReceiver$State", "presses", "I", false)
  | 8 => ("LightReceiver$State", "received", "I", false)
  | 9 => ("LightReceiver$State", "accepted", "I", false)
  | 10 => ("LightReceiver$State", "actions", "LLightReceiver$Row;", true)
  | 11 => ("LightReceiver$State", "timesDone", "LLightReceiver$Row;", true)
  | 12 => ("LightReceiver$State", "refusals", "LLightReceiver$Row;", true)
  | _ => ("LightReceiver$State", "lightRow", "LLightReceiver$Row;", true)
def tyX4 : Nat → FieldType := fun k => match k with
  | 0 => .int
  | 1 => .int
  | 2 => .int
  | 3 => .int
  | 4 => .int
  | 5 => .int
  | 6 => .int
  | 7 => .int
  | 8 => .int
  | 9 => .int
  | 10 => .object "LightReceiver$Row"
  | 11 => .object "LightReceiver$Row"
  | 12 => .object "LightReceiver$Row"
  | _ => .object "LightReceiver$Row"
abbrev wsX40 : List Cond := u_ws RX4 TX4 14
theorem nmX4 : ∀ a, a < 14 → ∀ b, b < 14 → a ≠ b → (TX4 a).2.1 ≠ (TX4 b).2.1 := by decide +kernel
theorem tyX4_ok : ∀ k, k < 14 → parseFieldDescriptor (TX4 k).2.2.1 = some (tyX4 k) := by decide +kernel
abbrev cX4_init : ByteArray := prog_6_method_1_code
def yX4_init : MethodName := ⟨RX4, "<init>", "()V"⟩
abbrev cX4_remembers : ByteArray := prog_6_method_2_code
def yX4_remembers : MethodName := ⟨RX4, "remembers", "()Z"⟩
abbrev cX4_become : ByteArray := prog_6_method_3_code
def yX4_become : MethodName := ⟨RX4, "become", "(LLightReceiver$State;)V"⟩
def RX5 : String := "LightReceiver"
def TX5 : u_T := fun k => match k with
  | 0 => ("LightReceiver", "now", "LLightReceiver$State;", true)
  | 1 => ("LightReceiver", "saves", "LLightReceiver$Saves;", true)
  | 2 => ("LightReceiver", "text", "LLightReceiver$LightText;", true)
  | _ => ("LightReceiver", "ear", "LLightReceiver$Ear;", true)
def tyX5 : Nat → FieldType := fun k => match k with
  | 0 => .object "LightReceiver$State"
  | 1 => .object "LightReceiver$Saves"
  | 2 => .object "LightReceiver$LightText"
  | _ => .object "LightReceiver$Ear"
abbrev wsX50 : List Cond := u_ws RX5 TX5 4
theorem nmX5 : ∀ a, a < 4 → ∀ b, b < 4 → a ≠ b → (TX5 a).2.1 ≠ (TX5 b).2.1 := by decide +kernel
theorem tyX5_ok : ∀ k, k < 4 → parseFieldDescriptor (TX5 k).2.2.1 = some (tyX5 k) := by decide +kernel
abbrev cX5_init : ByteArray := prog_1_method_1_code
def yX5_init : MethodName := ⟨RX5, "<init>", "()V"⟩
abbrev cX5_frame : ByteArray := prog_1_method_2_code
def yX5_frame : MethodName := ⟨RX5, "frame", "(IIII)I"⟩
abbrev cX5_repeat : ByteArray := prog_1_method_3_code
def yX5_repeat : MethodName := ⟨RX5, "repeat", "(I)I"⟩
abbrev cX5_receive : ByteArray := prog_1_method_4_code
def yX5_receive : MethodName := ⟨RX5, "receive", "(I)I"⟩
abbrev cX5_shine : ByteArray := prog_1_method_5_code
def yX5_shine : MethodName := ⟨RX5, "shine", "(I)I"⟩
abbrev cX5_pass : ByteArray := prog_1_method_6_code
def yX5_pass : MethodName := ⟨RX5, "pass", "(I)I"⟩
abbrev cX5_setGlare : ByteArray := prog_1_method_7_code
def yX5_setGlare : MethodName := ⟨RX5, "setGlare", "(I)I"⟩
abbrev cX5_setAddress : ByteArray := prog_1_method_8_code
def yX5_setAddress : MethodName := ⟨RX5, "setAddress", "(I)I"⟩
abbrev cX5_learn : ByteArray := prog_1_method_9_code
def yX5_learn : MethodName := ⟨RX5, "learn", "(II)I"⟩
abbrev cX5_glare : ByteArray := prog_1_method_10_code
def yX5_glare : MethodName := ⟨RX5, "glare", "()I"⟩
abbrev cX5_gain : ByteArray := prog_1_method_11_code
def yX5_gain : MethodName := ⟨RX5, "gain", "()I"⟩
abbrev cX5_action : ByteArray := prog_1_method_12_code
def yX5_action : MethodName := ⟨RX5, "action", "(I)I"⟩
abbrev cX5_done : ByteArray := prog_1_method_13_code
def yX5_done : MethodName := ⟨RX5, "done", "(I)I"⟩
abbrev cX5_remembered : ByteArray := prog_1_method_14_code
def yX5_remembered : MethodName := ⟨RX5, "remembered", "()I"⟩
abbrev cX5_holds : ByteArray := prog_1_method_15_code
def yX5_holds : MethodName := ⟨RX5, "holds", "()I"⟩
abbrev cX5_presses : ByteArray := prog_1_method_16_code
def yX5_presses : MethodName := ⟨RX5, "presses", "()I"⟩
abbrev cX5_refused : ByteArray := prog_1_method_17_code
def yX5_refused : MethodName := ⟨RX5, "refused", "(I)I"⟩
abbrev cX5_row : ByteArray := prog_1_method_18_code
def yX5_row : MethodName := ⟨RX5, "row", "()I"⟩
abbrev cX5_received : ByteArray := prog_1_method_19_code
def yX5_received : MethodName := ⟨RX5, "received", "()I"⟩
abbrev cX5_hitShare : ByteArray := prog_1_method_20_code
def yX5_hitShare : MethodName := ⟨RX5, "hitShare", "()D"⟩
abbrev cX5_bit : ByteArray := prog_1_method_21_code
def yX5_bit : MethodName := ⟨RX5, "bit", "(IIII)I"⟩
abbrev cX5_ifFrame : ByteArray := prog_1_method_22_code
def yX5_ifFrame : MethodName := ⟨RX5, "ifFrame", "(IIII)I"⟩
abbrev cX5_leastStrength : ByteArray := prog_1_method_23_code
def yX5_leastStrength : MethodName := ⟨RX5, "leastStrength", "()I"⟩
abbrev cX5_refusalsToCome : ByteArray := prog_1_method_24_code
def yX5_refusalsToCome : MethodName := ⟨RX5, "refusalsToCome", "()I"⟩
abbrev cX5_ticksToForget : ByteArray := prog_1_method_25_code
def yX5_ticksToForget : MethodName := ⟨RX5, "ticksToForget", "()I"⟩
abbrev cX5_undo : ByteArray := prog_1_method_30_code
def yX5_undo : MethodName := ⟨RX5, "undo", "()I"⟩
abbrev cX5_isWithin : ByteArray := prog_1_method_33_code
def yX5_isWithin : MethodName := ⟨RX5, "isWithin", "(III)Z"⟩
abbrev cX5_checkArgument : ByteArray := prog_1_method_34_code
def yX5_checkArgument : MethodName := ⟨RX5, "checkArgument", "(Z)V"⟩
abbrev cX5_checkIndex : ByteArray := prog_1_method_35_code
def yX5_checkIndex : MethodName := ⟨RX5, "checkIndex", "(Z)V"⟩
abbrev cX5_checkFrame : ByteArray := prog_1_method_36_code
def yX5_checkFrame : MethodName := ⟨RX5, "checkFrame", "(III)V"⟩
abbrev cX5_checkStrength : ByteArray := prog_1_method_37_code
def yX5_checkStrength : MethodName := ⟨RX5, "checkStrength", "(I)V"⟩
abbrev cX5_wordOf : ByteArray := prog_1_method_38_code
def yX5_wordOf : MethodName := ⟨RX5, "wordOf", "(III)I"⟩
abbrev cX5_bitOf : ByteArray := prog_1_method_39_code
def yX5_bitOf : MethodName := ⟨RX5, "bitOf", "(II)I"⟩
abbrev cX5_weakestHeard : ByteArray := prog_1_method_40_code
def yX5_weakestHeard : MethodName := ⟨RX5, "weakestHeard", "(I)I"⟩
abbrev cX5_hearFrame : ByteArray := prog_1_method_41_code
def yX5_hearFrame : MethodName := ⟨RX5, "hearFrame", "(IIII)I"⟩
abbrev cX5_hearRepeat : ByteArray := prog_1_method_42_code
def yX5_hearRepeat : MethodName := ⟨RX5, "hearRepeat", "(I)I"⟩
abbrev cX5_hear : ByteArray := prog_1_method_43_code
def yX5_hear : MethodName := ⟨RX5, "hear", "(I)I"⟩
abbrev cX5_verdict : ByteArray := prog_1_method_44_code
def yX5_verdict : MethodName := ⟨RX5, "verdict", "(II)I"⟩
abbrev cX5_isAccepted : ByteArray := prog_1_method_45_code
def yX5_isAccepted : MethodName := ⟨RX5, "isAccepted", "(I)Z"⟩
abbrev cX5_gainAfter : ByteArray := prog_1_method_46_code
def yX5_gainAfter : MethodName := ⟨RX5, "gainAfter", "(I)I"⟩
abbrev cX5_accept : ByteArray := prog_1_method_47_code
def yX5_accept : MethodName := ⟨RX5, "accept", "(I)V"⟩
abbrev cX5_startPress : ByteArray := prog_1_method_48_code
def yX5_startPress : MethodName := ⟨RX5, "startPress", "()V"⟩
abbrev cX5_goOnHolding : ByteArray := prog_1_method_49_code
def yX5_goOnHolding : MethodName := ⟨RX5, "goOnHolding", "()V"⟩
abbrev cX5_letPass : ByteArray := prog_1_method_50_code
def yX5_letPass : MethodName := ⟨RX5, "letPass", "(I)V"⟩
def RX6 : String := "LightReceiverModel"
def TX6 : u_T := fun k => match k with
  | _ => ("", "", "", false)
def tyX6 : Nat → FieldType := fun k => match k with
  | _ => .int
abbrev wsX60 : List Cond := u_ws RX6 TX6 0
theorem nmX6 : ∀ a, a < 0 → ∀ b, b < 0 → a ≠ b → (TX6 a).2.1 ≠ (TX6 b).2.1 := by decide +kernel
theorem tyX6_ok : ∀ k, k < 0 → parseFieldDescriptor (TX6 k).2.2.1 = some (tyX6 k) := by decide +kernel
def RJ6 : String := "java/lang/Integer"
def TJ6 : u_T := fun k => match k with
  | _ => ("", "", "", false)
def tyJ6 : Nat → FieldType := fun k => match k with
  | _ => .int
abbrev wsJ60 : List Cond := u_ws RJ6 TJ6 0
theorem nmJ6 : ∀ a, a < 0 → ∀ b, b < 0 → a ≠ b → (TJ6 a).2.1 ≠ (TJ6 b).2.1 := by decide +kernel
theorem tyJ6_ok : ∀ k, k < 0 → parseFieldDescriptor (TJ6 k).2.2.1 = some (tyJ6 k) := by decide +kernel
abbrev cJ6_bitCount_0f7a4 : ByteArray := prog_13_method_49_code
def yJ6_bitCount_0f7a4 : MethodName := ⟨RJ6, "bitCount", "(I)I"⟩
def RJ9 : String := "java/lang/Math"
def TJ9 : u_T := fun k => match k with
  | _ => ("", "", "", false)
def tyJ9 : Nat → FieldType := fun k => match k with
  | _ => .int
abbrev wsJ90 : List Cond := u_ws RJ9 TJ9 0
theorem nmJ9 : ∀ a, a < 0 → ∀ b, b < 0 → a ≠ b → (TJ9 a).2.1 ≠ (TJ9 b).2.1 := by decide +kernel
theorem tyJ9_ok : ∀ k, k < 0 → parseFieldDescriptor (TJ9 k).2.2.1 = some (tyJ9 k) := by decide +kernel
abbrev cJ9_max_7cf53 : ByteArray := prog_14_method_65_code
def yJ9_max_7cf53 : MethodName := ⟨RJ9, "max", "(II)I"⟩
abbrev cJ9_min_7cf53 : ByteArray := prog_14_method_69_code
def yJ9_min_7cf53 : MethodName := ⟨RJ9, "min", "(II)I"⟩
def RJ0 : String := "java/lang/String"
def TJ0 : u_T := fun k => match k with
  | _ => ("", "", "", false)
def tyJ0 : Nat → FieldType := fun k => match k with
  | _ => .int
abbrev wsJ00 : List Cond := u_ws RJ0 TJ0 0
theorem nmJ0 : ∀ a, a < 0 → ∀ b, b < 0 → a ≠ b → (TJ0 a).2.1 ≠ (TJ0 b).2.1 := by decide +kernel
theorem tyJ0_ok : ∀ k, k < 0 → parseFieldDescriptor (TJ0 k).2.2.1 = some (tyJ0 k) := by decide +kernel
def RJ10 : String := "java/lang/System"
def TJ10 : u_T := fun k => match k with
  | _ => ("", "", "", false)
def tyJ10 : Nat → FieldType := fun k => match k with
  | _ => .int
abbrev wsJ100 : List Cond := u_ws RJ10 TJ10 0
theorem nmJ10 : ∀ a, a < 0 → ∀ b, b < 0 → a ≠ b → (TJ10 a).2.1 ≠ (TJ10 b).2.1 := by decide +kernel
theorem tyJ10_ok : ∀ k, k < 0 → parseFieldDescriptor (TJ10 k).2.2.1 = some (tyJ10 k) := by decide +kernel
def RL : String := "LightReceiverLaw"
abbrev cL_cell : ByteArray := method_2_code
def yL_cell : MethodName := ⟨RL, "cell", "([II)I"⟩
abbrev cL_low : ByteArray := method_3_code
def yL_low : MethodName := ⟨RL, "low", "(II)I"⟩
abbrev cL_shine : ByteArray := method_4_code
def yL_shine : MethodName := ⟨RL, "shine", "(LLightReceiver;I)V"⟩
abbrev cL_does : ByteArray := method_5_code
def yL_does : MethodName := ⟨RL, "does", "(LLightReceiver;I)I"⟩
abbrev cL_refusals : ByteArray := method_6_code
def yL_refusals : MethodName := ⟨RL, "refusals", "(LLightReceiver;)I"⟩
abbrev cL_isFrameSo : ByteArray := method_7_code
def yL_isFrameSo : MethodName := ⟨RL, "isFrameSo", "(LLightReceiver;IIII)Z"⟩
abbrev cL_areForecastsSo : ByteArray := method_8_code
def yL_areForecastsSo : MethodName := ⟨RL, "areForecastsSo", "(LLightReceiver;I)Z"⟩
abbrev cL_areBitsSo : ByteArray := method_9_code
def yL_areBitsSo : MethodName := ⟨RL, "areBitsSo", "(LLightReceiver;III)Z"⟩
abbrev cL_law : ByteArray := code
def yL_law : MethodName := ⟨RL, "law", "([I)Z"⟩
def wsX2_init : List Cond := .code yX2_init cX2_init 3 none :: ([.methodLink RX2 1 objectInit, .instanceMethod objectInit, .code objectInit ⟨#[0xb1]⟩ 1 none, .arrayClass .int, .fieldLink RX2 7 "LightReceiver$Row" "values" "[I", .fieldLink RX2 13 "LightReceiver$Row" "count" "I"] ++ wsX20)
def wsX0_init : List Cond := .code yX0_init cX0_init 1 none :: ([.methodLink RX0 3 objectInit, .instanceMethod objectInit, .code objectInit ⟨#[0xb1]⟩ 1 none, .classLink RX0 9 RX2, .instantiable RX2 2, .initialized RX2, .fieldLink RX0 14 "LightReceiver$Ear" "sent" "LLightReceiver$Row;", .fieldLink RX0 20 "LightReceiver$Ear" "left" "LLightReceiver$Row;", .methodLink RX0 11 yX2_init, .instanceMethod yX2_init, .code yX2_init cX2_init 3 none, .methodLink RX2 1 objectInit, .arrayClass .int, .fieldLink RX2 7 "LightReceiver$Row" "values" "[I", .fieldLink RX2 13 "LightReceiver$Row" "count" "I"] ++ wsX20 ++ wsX00)
def wsJ6_bitCount_0f7a4 : List Cond := .code yJ6_bitCount_0f7a4 cJ6_bitCount_0f7a4 1 (some .int) :: ([.constant RJ6 265 (1431655765), .constant RJ6 266 (858993459), .constant RJ6 267 (252645135)])
def wsX5_wordOf : List Cond := .code yX5_wordOf cX5_wordOf 4 (some .int) :: ([.methodLink RX5 234 yJ6_bitCount_0f7a4, .static yJ6_bitCount_0f7a4, .initialized RJ6, .code yJ6_bitCount_0f7a4 cJ6_bitCount_0f7a4 1 (some .int), .constant RJ6 265 (1431655765), .constant RJ6 266 (858993459), .constant RJ6 267 (252645135)])
def wsX2_empty : List Cond := .code yX2_empty cX2_empty 1 none :: ([.fieldLink RX2 13 "LightReceiver$Row" "count" "I"] ++ wsX20)
def wsX2_add : List Cond := .code yX2_add cX2_add 2 none :: ([.fieldLink RX2 13 "LightReceiver$Row" "count" "I", .fieldLink RX2 7 "LightReceiver$Row" "values" "[I"] ++ wsX20)
def wsX5_bitOf : List Cond := .code yX5_bitOf cX5_bitOf 2 (some .int) :: ([])
def wsX0_sendFrame : List Cond := .code yX0_sendFrame cX0_sendFrame 6 none :: ([.fieldLink RX0 14 "LightReceiver$Ear" "sent" "LLightReceiver$Row;", .static yX5_wordOf, .initialized RX5, .code yX5_wordOf cX5_wordOf 4 (some .int), .methodLink RX5 234 yJ6_bitCount_0f7a4, .static yJ6_bitCount_0f7a4, .initialized RJ6, .code yJ6_bitCount_0f7a4 cJ6_bitCount_0f7a4 1 (some .int), .constant RJ6 265 (1431655765), .constant RJ6 266 (858993459), .constant RJ6 267 (252645135), .methodLink RX0 27 yX2_empty, .instanceMethod yX2_empty, .selects RX2 yX2_empty yX2_empty, .initialized RX2, .code yX2_empty cX2_empty 1 none, .fieldLink RX2 13 "LightReceiver$Row" "count" "I", .methodLink RX0 30 yX2_add, .instanceMethod yX2_add, .selects RX2 yX2_add yX2_add, .code yX2_add cX2_add 2 none, .fieldLink RX2 7 "LightReceiver$Row" "values" "[I", .static yX5_bitOf, .code yX5_bitOf cX5_bitOf 2 (some .int)] ++ wsX00 ++ wsX20)
def wsX0_sendRepeat : List Cond := .code yX0_sendRepeat cX0_sendRepeat 1 none :: ([.fieldLink RX0 14 "LightReceiver$Ear" "sent" "LLightReceiver$Row;", .methodLink RX0 27 yX2_empty, .instanceMethod yX2_empty, .selects RX2 yX2_empty yX2_empty, .initialized RX2, .code yX2_empty cX2_empty 1 none, .fieldLink RX2 13 "LightReceiver$Row" "count" "I", .methodLink RX0 30 yX2_add, .instanceMethod yX2_add, .selects RX2 yX2_add yX2_add, .code yX2_add cX2_add 2 none, .fieldLink RX2 7 "LightReceiver$Row" "values" "[I"] ++ wsX00 ++ wsX20)
def wsX2_become : List Cond := .code yX2_become cX2_become 2 none :: ([.fieldLink RX2 7 "LightReceiver$Row" "values" "[I", .methodLink RX2 17 Lib.Math.min.name, .static Lib.Math.min.name, .initialized "java/lang/Math", .code Lib.Math.min.name Lib.Math.min.code 2 (some .int), .methodLink RX2 23 arraycopyName, .native arraycopyName, .static arraycopyName, .initialized "java/lang/System", .fieldLink RX2 13 "LightReceiver$Row" "count" "I"] ++ wsX20)
def wsX0_sendRow : List Cond := .code yX0_sendRow cX0_sendRow 2 none :: ([.fieldLink RX0 14 "LightReceiver$Ear" "sent" "LLightReceiver$Row;", .methodLink RX0 38 yX2_become, .instanceMethod yX2_become, .selects RX2 yX2_become yX2_become, .initialized RX2, .code yX2_become cX2_become 2 none, .fieldLink RX2 7 "LightReceiver$Row" "values" "[I", .methodLink RX2 17 Lib.Math.min.name, .static Lib.Math.min.name, .initialized "java/lang/Math", .code Lib.Math.min.name Lib.Math.min.code 2 (some .int), .methodLink RX2 23 arraycopyName, .native arraycopyName, .static arraycopyName, .initialized "java/lang/System", .fieldLink RX2 13 "LightReceiver$Row" "count" "I"] ++ wsX00 ++ wsX20)
def wsX5_weakestHeard : List Cond := .code yX5_weakestHeard cX5_weakestHeard 1 (some .int) :: ([])
def wsX2_at : List Cond := .code yX2_at cX2_at 2 (some .int) :: ([.fieldLink RX2 13 "LightReceiver$Row" "count" "I", .fieldLink RX2 7 "LightReceiver$Row" "values" "[I"] ++ wsX20)
def wsX0_listen_r1 : List Cond := [Cond.fieldLink RX0 46 "LightReceiver$Ear" "missedAny" "Z", Cond.fieldLink RX0 20 "LightReceiver$Ear" "left" "LLightReceiver$Row;", Cond.fieldLink RX0 14 "LightReceiver$Ear" "sent" "LLightReceiver$Row;", Cond.methodLink RX0 57 Lib.Math.max.name, Cond.static Lib.Math.max.name, Cond.initialized "java/lang/Math", Cond.code Lib.Math.max.name Lib.Math.max.code 2 (some .int), Cond.static yX5_weakestHeard, Cond.initialized RX5, Cond.code yX5_weakestHeard cX5_weakestHeard 1 (some .int), Cond.methodLink RX0 27 yX2_empty, Cond.instanceMethod yX2_empty, Cond.selects RX2 yX2_empty yX2_empty, Cond.initialized RX2, Cond.code yX2_empty cX2_empty 1 none, Cond.fieldLink RX2 13 "LightReceiver$Row" "count" "I", Cond.methodLink RX0 54 yX2_at, Cond.instanceMethod yX2_at, Cond.selects RX2 yX2_at yX2_at, Cond.code yX2_at cX2_at 2 (some .int), Cond.fieldLink RX2 7 "LightReceiver$Row" "values" "[I", Cond.methodLink RX0 30 yX2_add, Cond.instanceMethod yX2_add, Cond.selects RX2 yX2_add yX2_add]
def wsX0_listen_r2 : List Cond := [Cond.code yX2_add cX2_add 2 none]
def wsX0_listen : List Cond := .code yX0_listen cX0_listen 9 none :: ((wsX0_listen_r1 ++ wsX0_listen_r2) ++ wsX00 ++ wsX20)
def wsX0_decode : List Cond := .code yX0_decode cX0_decode 3 (some .int) :: ([.fieldLink RX0 20 "LightReceiver$Ear" "left" "LLightReceiver$Row;", .fieldLink RX0 67 "LightReceiver$Ear" "address" "I", .fieldLink RX0 70 "LightReceiver$Ear" "code" "I", .fieldLink RX0 73 "LightReceiver$Ear" "toggle" "I", .methodLink RX0 54 yX2_at, .instanceMethod yX2_at, .selects RX2 yX2_at yX2_at, .initialized RX2, .code yX2_at cX2_at 2 (some .int), .fieldLink RX2 13 "LightReceiver$Row" "count" "I", .fieldLink RX2 7 "LightReceiver$Row" "values" "[I", .methodLink RX0 62 yJ6_bitCount_0f7a4, .static yJ6_bitCount_0f7a4, .initialized RJ6, .code yJ6_bitCount_0f7a4 cJ6_bitCount_0f7a4 1 (some .int), .constant RJ6 265 (1431655765), .constant RJ6 266 (858993459), .constant RJ6 267 (252645135)] ++ wsX00 ++ wsX20)
def wsX1_init : List Cond := .code yX1_init cX1_init 1 none :: ([.methodLink RX1 3 objectInit, .instanceMethod objectInit, .code objectInit ⟨#[0xb1]⟩ 1 none, .classLink RX1 9 RX2, .instantiable RX2 2, .initialized RX2, .fieldLink RX1 14 "LightReceiver$LightText" "signs" "LLightReceiver$Row;", .methodLink RX1 11 yX2_init, .instanceMethod yX2_init, .code yX2_init cX2_init 3 none, .methodLink RX2 1 objectInit, .arrayClass .int, .fieldLink RX2 7 "LightReceiver$Row" "values" "[I", .fieldLink RX2 13 "LightReceiver$Row" "count" "I"] ++ wsX20 ++ wsX10)
def wsX2_set : List Cond := .code yX2_set cX2_set 3 none :: ([.fieldLink RX2 13 "LightReceiver$Row" "count" "I", .fieldLink RX2 7 "LightReceiver$Row" "values" "[I"] ++ wsX20)
def wsX2_increase : List Cond := .code yX2_increase cX2_increase 2 none :: ([.fieldLink RX2 13 "LightReceiver$Row" "count" "I", .fieldLink RX2 7 "LightReceiver$Row" "values" "[I"] ++ wsX20)
def wsX4_init : List Cond := .code yX4_init cX4_init 1 none :: ([.methodLink RX4 3 objectInit, .instanceMethod objectInit, .code objectInit ⟨#[0xb1]⟩ 1 none, .fieldLink RX4 9 "LightReceiver$State" "gain" "I", .fieldLink RX4 15 "LightReceiver$State" "sinceAccepted" "I", .classLink RX4 18 RX2, .instantiable RX2 2, .initialized RX2, .fieldLink RX4 23 "LightReceiver$State" "actions" "LLightReceiver$Row;", .fieldLink RX4 27 "LightReceiver$State" "timesDone" "LLightReceiver$Row;", .fieldLink RX4 30 "LightReceiver$State" "refusals" "LLightReceiver$Row;", .fieldLink RX4 33 "LightReceiver$State" "lightRow" "LLightReceiver$Row;", .methodLink RX4 20 yX2_init, .instanceMethod yX2_init, .code yX2_init cX2_init 3 none, .methodLink RX2 1 objectInit, .arrayClass .int, .fieldLink RX2 7 "LightReceiver$Row" "values" "[I", .fieldLink RX2 13 "LightReceiver$Row" "count" "I"] ++ wsX40 ++ wsX20)
def wsX3_init_r1 : List Cond := [Cond.methodLink RX3 3 objectInit, Cond.instanceMethod objectInit, Cond.code objectInit ⟨#[0xb1]⟩ 1 none, Cond.classLink RX3 9 RX4, Cond.fieldLink RX3 11 "LightReceiver$Saves" "states" "[LLightReceiver$State;", Cond.instantiable RX4 14, Cond.initialized RX4, Cond.instanceMethod yX4_init, Cond.code yX4_init cX4_init 1 none, Cond.methodLink RX4 3 objectInit, Cond.fieldLink RX4 9 "LightReceiver$State" "gain" "I", Cond.fieldLink RX4 15 "LightReceiver$State" "sinceAccepted" "I", Cond.classLink RX4 18 RX2, Cond.instantiable RX2 2, Cond.initialized RX2, Cond.fieldLink RX4 23 "LightReceiver$State" "actions" "LLightReceiver$Row;", Cond.fieldLink RX4 27 "LightReceiver$State" "timesDone" "LLightReceiver$Row;", Cond.fieldLink RX4 30 "LightReceiver$State" "refusals" "LLightReceiver$Row;", Cond.fieldLink RX4 33 "LightReceiver$State" "lightRow" "LLightReceiver$Row;", Cond.methodLink RX4 20 yX2_init, Cond.instanceMethod yX2_init, Cond.code yX2_init cX2_init 3 none, Cond.methodLink RX2 1 objectInit, Cond.arrayClass .int]
def wsX3_init_r2 : List Cond := [Cond.fieldLink RX2 7 "LightReceiver$Row" "values" "[I", Cond.fieldLink RX2 13 "LightReceiver$Row" "count" "I"]
def wsX3_init : List Cond := .code yX3_init cX3_init 2 none :: ((wsX3_init_r1 ++ wsX3_init_r2) ++ wsX30 ++ wsX40 ++ wsX20)
def wsX3_discardOldest : List Cond := .code yX3_discardOldest cX3_discardOldest 4 none :: ([.fieldLink RX3 11 "LightReceiver$Saves" "states" "[LLightReceiver$State;", .fieldLink RX3 18 "LightReceiver$Saves" "count" "I"] ++ wsX30)
def wsX4_become_r1 : List Cond := [Cond.fieldLink RX4 36 "LightReceiver$State" "glare" "I", Cond.fieldLink RX4 9 "LightReceiver$State" "gain" "I", Cond.fieldLink RX4 39 "LightReceiver$State" "address" "I", Cond.fieldLink RX4 42 "LightReceiver$State" "code" "I", Cond.fieldLink RX4 45 "LightReceiver$State" "toggle" "I", Cond.fieldLink RX4 48 "LightReceiver$State" "holds" "I", Cond.fieldLink RX4 15 "LightReceiver$State" "sinceAccepted" "I", Cond.fieldLink RX4 51 "LightReceiver$State" "presses" "I", Cond.fieldLink RX4 54 "LightReceiver$State" "received" "I", Cond.fieldLink RX4 57 "LightReceiver$State" "accepted" "I", Cond.fieldLink RX4 23 "LightReceiver$State" "actions" "LLightReceiver$Row;", Cond.fieldLink RX4 27 "LightReceiver$State" "timesDone" "LLightReceiver$Row;", Cond.fieldLink RX4 30 "LightReceiver$State" "refusals" "LLightReceiver$Row;", Cond.fieldLink RX4 33 "LightReceiver$State" "lightRow" "LLightReceiver$Row;", Cond.methodLink RX4 60 yX2_become, Cond.instanceMethod yX2_become, Cond.selects RX2 yX2_become yX2_become, Cond.initialized RX2, Cond.code yX2_become cX2_become 2 none, Cond.fieldLink RX2 7 "LightReceiver$Row" "values" "[I", Cond.methodLink RX2 17 Lib.Math.min.name, Cond.static Lib.Math.min.name, Cond.initialized "java/lang/Math", Cond.code Lib.Math.min.name Lib.Math.min.code 2 (some .int)]
def wsX4_become_r2 : List Cond := [Cond.methodLink RX2 23 arraycopyName, Cond.native arraycopyName, Cond.static arraycopyName, Cond.initialized "java/lang/System", Cond.fieldLink RX2 13 "LightReceiver$Row" "count" "I"]
def wsX4_become : List Cond := .code yX4_become cX4_become 2 none :: ((wsX4_become_r1 ++ wsX4_become_r2) ++ wsX40 ++ wsX20)
def wsX3_keep_r1 : List Cond := [Cond.fieldLink RX3 18 "LightReceiver$Saves" "count" "I", Cond.fieldLink RX3 11 "LightReceiver$Saves" "states" "[LLightReceiver$State;", Cond.methodLink RX3 22 yX3_discardOldest, Cond.instanceMethod yX3_discardOldest, Cond.selects RX3 yX3_discardOldest yX3_discardOldest, Cond.initialized RX3, Cond.code yX3_discardOldest cX3_discardOldest 4 none, Cond.methodLink RX3 25 yX4_become, Cond.instanceMethod yX4_become, Cond.selects RX4 yX4_become yX4_become, Cond.initialized RX4, Cond.code yX4_become cX4_become 2 none, Cond.fieldLink RX4 36 "LightReceiver$State" "glare" "I", Cond.fieldLink RX4 9 "LightReceiver$State" "gain" "I", Cond.fieldLink RX4 39 "LightReceiver$State" "address" "I", Cond.fieldLink RX4 42 "LightReceiver$State" "code" "I", Cond.fieldLink RX4 45 "LightReceiver$State" "toggle" "I", Cond.fieldLink RX4 48 "LightReceiver$State" "holds" "I", Cond.fieldLink RX4 15 "LightReceiver$State" "sinceAccepted" "I", Cond.fieldLink RX4 51 "LightReceiver$State" "presses" "I", Cond.fieldLink RX4 54 "LightReceiver$State" "received" "I", Cond.fieldLink RX4 57 "LightReceiver$State" "accepted" "I", Cond.fieldLink RX4 23 "LightReceiver$State" "actions" "LLightReceiver$Row;", Cond.fieldLink RX4 27 "LightReceiver$State" "timesDone" "LLightReceiver$Row;"]
def wsX3_keep_r2 : List Cond := [Cond.fieldLink RX4 30 "LightReceiver$State" "refusals" "LLightReceiver$Row;", Cond.fieldLink RX4 33 "LightReceiver$State" "lightRow" "LLightReceiver$Row;", Cond.methodLink RX4 60 yX2_become, Cond.instanceMethod yX2_become, Cond.selects RX2 yX2_become yX2_become, Cond.initialized RX2, Cond.code yX2_become cX2_become 2 none, Cond.fieldLink RX2 7 "LightReceiver$Row" "values" "[I", Cond.methodLink RX2 17 Lib.Math.min.name, Cond.static Lib.Math.min.name, Cond.initialized "java/lang/Math", Cond.code Lib.Math.min.name Lib.Math.min.code 2 (some .int), Cond.methodLink RX2 23 arraycopyName, Cond.native arraycopyName, Cond.static arraycopyName, Cond.initialized "java/lang/System", Cond.fieldLink RX2 13 "LightReceiver$Row" "count" "I"]
def wsX3_keep : List Cond := .code yX3_keep cX3_keep 2 none :: ((wsX3_keep_r1 ++ wsX3_keep_r2) ++ wsX30 ++ wsX40 ++ wsX20)
def wsX3_giveBack_r1 : List Cond := [Cond.fieldLink RX3 18 "LightReceiver$Saves" "count" "I", Cond.fieldLink RX3 11 "LightReceiver$Saves" "states" "[LLightReceiver$State;", Cond.methodLink RX3 25 yX4_become, Cond.instanceMethod yX4_become, Cond.selects RX4 yX4_become yX4_become, Cond.initialized RX4, Cond.code yX4_become cX4_become 2 none, Cond.fieldLink RX4 36 "LightReceiver$State" "glare" "I", Cond.fieldLink RX4 9 "LightReceiver$State" "gain" "I", Cond.fieldLink RX4 39 "LightReceiver$State" "address" "I", Cond.fieldLink RX4 42 "LightReceiver$State" "code" "I", Cond.fieldLink RX4 45 "LightReceiver$State" "toggle" "I", Cond.fieldLink RX4 48 "LightReceiver$State" "holds" "I", Cond.fieldLink RX4 15 "LightReceiver$State" "sinceAccepted" "I", Cond.fieldLink RX4 51 "LightReceiver$State" "presses" "I", Cond.fieldLink RX4 54 "LightReceiver$State" "received" "I", Cond.fieldLink RX4 57 "LightReceiver$State" "accepted" "I", Cond.fieldLink RX4 23 "LightReceiver$State" "actions" "LLightReceiver$Row;", Cond.fieldLink RX4 27 "LightReceiver$State" "timesDone" "LLightReceiver$Row;", Cond.fieldLink RX4 30 "LightReceiver$State" "refusals" "LLightReceiver$Row;", Cond.fieldLink RX4 33 "LightReceiver$State" "lightRow" "LLightReceiver$Row;", Cond.methodLink RX4 60 yX2_become, Cond.instanceMethod yX2_become, Cond.selects RX2 yX2_become yX2_become]
def wsX3_giveBack_r2 : List Cond := [Cond.initialized RX2, Cond.code yX2_become cX2_become 2 none, Cond.fieldLink RX2 7 "LightReceiver$Row" "values" "[I", Cond.methodLink RX2 17 Lib.Math.min.name, Cond.static Lib.Math.min.name, Cond.initialized "java/lang/Math", Cond.code Lib.Math.min.name Lib.Math.min.code 2 (some .int), Cond.methodLink RX2 23 arraycopyName, Cond.native arraycopyName, Cond.static arraycopyName, Cond.initialized "java/lang/System", Cond.fieldLink RX2 13 "LightReceiver$Row" "count" "I"]
def wsX3_giveBack : List Cond := .code yX3_giveBack cX3_giveBack 2 none :: ((wsX3_giveBack_r1 ++ wsX3_giveBack_r2) ++ wsX30 ++ wsX40 ++ wsX20)
def wsX4_remembers : List Cond := .code yX4_remembers cX4_remembers 1 (some .boolean) :: ([.fieldLink RX4 15 "LightReceiver$State" "sinceAccepted" "I"] ++ wsX40)
def wsX5_init_r1 : List Cond := [Cond.methodLink RX5 3 objectInit, Cond.instanceMethod objectInit, Cond.code objectInit ⟨#[0xb1]⟩ 1 none, Cond.classLink RX5 9 RX4, Cond.instantiable RX4 14, Cond.initialized RX4, Cond.fieldLink RX5 12 "LightReceiver" "now" "LLightReceiver$State;", Cond.classLink RX5 16 RX3, Cond.instantiable RX3 2, Cond.initialized RX3, Cond.fieldLink RX5 19 "LightReceiver" "saves" "LLightReceiver$Saves;", Cond.classLink RX5 23 RX1, Cond.instantiable RX1 1, Cond.initialized RX1, Cond.fieldLink RX5 26 "LightReceiver" "text" "LLightReceiver$LightText;", Cond.classLink RX5 30 RX0, Cond.instantiable RX0 6, Cond.initialized RX0, Cond.fieldLink RX5 33 "LightReceiver" "ear" "LLightReceiver$Ear;", Cond.instanceMethod yX4_init, Cond.code yX4_init cX4_init 1 none, Cond.methodLink RX4 3 objectInit, Cond.fieldLink RX4 9 "LightReceiver$State" "gain" "I", Cond.fieldLink RX4 15 "LightReceiver$State" "sinceAccepted" "I"]
def wsX5_init_r2 : List Cond := [Cond.classLink RX4 18 RX2, Cond.instantiable RX2 2, Cond.initialized RX2, Cond.fieldLink RX4 23 "LightReceiver$State" "actions" "LLightReceiver$Row;", Cond.fieldLink RX4 27 "LightReceiver$State" "timesDone" "LLightReceiver$Row;", Cond.fieldLink RX4 30 "LightReceiver$State" "refusals" "LLightReceiver$Row;", Cond.fieldLink RX4 33 "LightReceiver$State" "lightRow" "LLightReceiver$Row;", Cond.methodLink RX4 20 yX2_init, Cond.instanceMethod yX2_init, Cond.code yX2_init cX2_init 3 none, Cond.methodLink RX2 1 objectInit, Cond.arrayClass .int, Cond.fieldLink RX2 7 "LightReceiver$Row" "values" "[I", Cond.fieldLink RX2 13 "LightReceiver$Row" "count" "I", Cond.methodLink RX5 18 yX3_init, Cond.instanceMethod yX3_init, Cond.code yX3_init cX3_init 2 none, Cond.methodLink RX3 3 objectInit, Cond.classLink RX3 9 RX4, Cond.fieldLink RX3 11 "LightReceiver$Saves" "states" "[LLightReceiver$State;", Cond.instanceMethod yX1_init, Cond.code yX1_init cX1_init 1 none, Cond.methodLink RX1 3 objectInit, Cond.classLink RX1 9 RX2]
def wsX5_init_r3 : List Cond := [Cond.fieldLink RX1 14 "LightReceiver$LightText" "signs" "LLightReceiver$Row;", Cond.methodLink RX1 11 yX2_init, Cond.instanceMethod yX0_init, Cond.code yX0_init cX0_init 1 none, Cond.methodLink RX0 3 objectInit, Cond.classLink RX0 9 RX2, Cond.fieldLink RX0 14 "LightReceiver$Ear" "sent" "LLightReceiver$Row;", Cond.fieldLink RX0 20 "LightReceiver$Ear" "left" "LLightReceiver$Row;", Cond.methodLink RX0 11 yX2_init]
def wsX5_init : List Cond := .code yX5_init cX5_init 1 none :: ((wsX5_init_r1 ++ (wsX5_init_r2 ++ wsX5_init_r3)) ++ wsX40 ++ wsX50 ++ wsX30 ++ wsX10 ++ wsX00 ++ wsX20)
def wsX5_isWithin : List Cond := .code yX5_isWithin cX5_isWithin 3 (some .boolean) :: ([])
def wsX5_checkArgument : List Cond := .code yX5_checkArgument cX5_checkArgument 1 none :: ([.classLink RX5 224 "java/lang/IllegalArgumentException", .initialized "java/lang/IllegalArgumentException"] ++ (vx_atS RX5 228 "java/lang/IllegalArgumentException" ["java/lang/RuntimeException", "java/lang/Exception"]).filter goodWord)
def wsX5_checkFrame : List Cond := .code yX5_checkFrame cX5_checkFrame 3 none :: ([.methodLink RX5 84 yX5_isWithin, .static yX5_isWithin, .initialized RX5, .code yX5_isWithin cX5_isWithin 3 (some .boolean), .methodLink RX5 88 yX5_checkArgument, .static yX5_checkArgument, .code yX5_checkArgument cX5_checkArgument 1 none, .classLink RX5 224 "java/lang/IllegalArgumentException", .initialized "java/lang/IllegalArgumentException"] ++ (vx_atS RX5 228 "java/lang/IllegalArgumentException" ["java/lang/RuntimeException", "java/lang/Exception"]).filter goodWord)
def wsX5_checkStrength : List Cond := .code yX5_checkStrength cX5_checkStrength 1 none :: ([.methodLink RX5 84 yX5_isWithin, .static yX5_isWithin, .initialized RX5, .code yX5_isWithin cX5_isWithin 3 (some .boolean), .methodLink RX5 88 yX5_checkArgument, .static yX5_checkArgument, .code yX5_checkArgument cX5_checkArgument 1 none, .classLink RX5 224 "java/lang/IllegalArgumentException", .initialized "java/lang/IllegalArgumentException"] ++ (vx_atS RX5 228 "java/lang/IllegalArgumentException" ["java/lang/RuntimeException", "java/lang/Exception"]).filter goodWord)
def wsX5_verdict_r1 : List Cond := [Cond.fieldLink RX5 33 "LightReceiver" "ear" "LLightReceiver$Ear;", Cond.fieldLink RX5 12 "LightReceiver" "now" "LLightReceiver$State;", Cond.methodLink RX5 248 yX0_listen, Cond.instanceMethod yX0_listen, Cond.selects RX0 yX0_listen yX0_listen, Cond.initialized RX0, Cond.code yX0_listen cX0_listen 9 none, Cond.fieldLink RX0 46 "LightReceiver$Ear" "missedAny" "Z", Cond.fieldLink RX0 20 "LightReceiver$Ear" "left" "LLightReceiver$Row;", Cond.fieldLink RX0 14 "LightReceiver$Ear" "sent" "LLightReceiver$Row;", Cond.methodLink RX0 57 Lib.Math.max.name, Cond.static Lib.Math.max.name, Cond.initialized "java/lang/Math", Cond.code Lib.Math.max.name Lib.Math.max.code 2 (some .int), Cond.static yX5_weakestHeard, Cond.initialized RX5, Cond.code yX5_weakestHeard cX5_weakestHeard 1 (some .int), Cond.methodLink RX0 27 yX2_empty, Cond.instanceMethod yX2_empty, Cond.selects RX2 yX2_empty yX2_empty, Cond.initialized RX2, Cond.code yX2_empty cX2_empty 1 none, Cond.fieldLink RX2 13 "LightReceiver$Row" "count" "I", Cond.methodLink RX0 54 yX2_at]
def wsX5_verdict_r2 : List Cond := [Cond.instanceMethod yX2_at, Cond.selects RX2 yX2_at yX2_at, Cond.code yX2_at cX2_at 2 (some .int), Cond.fieldLink RX2 7 "LightReceiver$Row" "values" "[I", Cond.methodLink RX0 30 yX2_add, Cond.instanceMethod yX2_add, Cond.selects RX2 yX2_add yX2_add, Cond.code yX2_add cX2_add 2 none, Cond.methodLink RX5 251 yX0_decode, Cond.instanceMethod yX0_decode, Cond.selects RX0 yX0_decode yX0_decode, Cond.code yX0_decode cX0_decode 3 (some .int), Cond.fieldLink RX0 67 "LightReceiver$Ear" "address" "I", Cond.fieldLink RX0 70 "LightReceiver$Ear" "code" "I", Cond.fieldLink RX0 73 "LightReceiver$Ear" "toggle" "I", Cond.methodLink RX0 62 yJ6_bitCount_0f7a4, Cond.static yJ6_bitCount_0f7a4, Cond.initialized RJ6, Cond.code yJ6_bitCount_0f7a4 cJ6_bitCount_0f7a4 1 (some .int), Cond.constant RJ6 265 (1431655765), Cond.constant RJ6 266 (858993459), Cond.constant RJ6 267 (252645135), Cond.methodLink RX5 128 yX4_remembers, Cond.instanceMethod yX4_remembers]
def wsX5_verdict_r3 : List Cond := [Cond.selects RX4 yX4_remembers yX4_remembers, Cond.initialized RX4, Cond.code yX4_remembers cX4_remembers 1 (some .boolean), Cond.fieldLink RX4 15 "LightReceiver$State" "sinceAccepted" "I"]
def wsX5_verdict : List Cond := .code yX5_verdict cX5_verdict 5 (some .int) :: ((wsX5_verdict_r1 ++ (wsX5_verdict_r2 ++ wsX5_verdict_r3)) ++ wsX50 ++ wsX40 ++ wsX00 ++ wsX20)
def wsX5_gainAfter : List Cond := .code yX5_gainAfter cX5_gainAfter 2 (some .int) :: ([.fieldLink RX5 33 "LightReceiver" "ear" "LLightReceiver$Ear;", .methodLink RX5 264 Lib.Math.max.name, .static Lib.Math.max.name, .initialized "java/lang/Math", .code Lib.Math.max.name Lib.Math.max.code 2 (some .int), .fieldLink RX5 12 "LightReceiver" "now" "LLightReceiver$State;", .methodLink RX5 269 Lib.Math.min.name, .static Lib.Math.min.name, .code Lib.Math.min.name Lib.Math.min.code 2 (some .int)] ++ wsX50 ++ wsX00 ++ wsX40)
def wsX5_isAccepted : List Cond := .code yX5_isAccepted cX5_isAccepted 1 (some .boolean) :: ([])
def wsX5_startPress : List Cond := .code yX5_startPress cX5_startPress 1 none :: ([.fieldLink RX5 12 "LightReceiver" "now" "LLightReceiver$State;", .fieldLink RX5 33 "LightReceiver" "ear" "LLightReceiver$Ear;", .methodLink RX5 115 yX2_at, .instanceMethod yX2_at, .selects RX2 yX2_at yX2_at, .initialized RX2, .code yX2_at cX2_at 2 (some .int), .fieldLink RX2 13 "LightReceiver$Row" "count" "I", .fieldLink RX2 7 "LightReceiver$Row" "values" "[I", .methodLink RX5 245 yX2_increase, .instanceMethod yX2_increase, .selects RX2 yX2_increase yX2_increase, .code yX2_increase cX2_increase 2 none] ++ wsX50 ++ wsX40 ++ wsX00 ++ wsX20)
def wsX5_goOnHolding : List Cond := .code yX5_goOnHolding cX5_goOnHolding 1 none :: ([.fieldLink RX5 12 "LightReceiver" "now" "LLightReceiver$State;", .methodLink RX5 115 yX2_at, .instanceMethod yX2_at, .selects RX2 yX2_at yX2_at, .initialized RX2, .code yX2_at cX2_at 2 (some .int), .fieldLink RX2 13 "LightReceiver$Row" "count" "I", .fieldLink RX2 7 "LightReceiver$Row" "values" "[I", .methodLink RX5 245 yX2_increase, .instanceMethod yX2_increase, .selects RX2 yX2_increase yX2_increase, .code yX2_increase cX2_increase 2 none] ++ wsX50 ++ wsX40 ++ wsX20)
def wsX5_accept : List Cond := .code yX5_accept cX5_accept 2 none :: ([.fieldLink RX5 12 "LightReceiver" "now" "LLightReceiver$State;", .methodLink RX5 272 yX5_startPress, .instanceMethod yX5_startPress, .selects RX5 yX5_startPress yX5_startPress, .initialized RX5, .code yX5_startPress cX5_startPress 1 none, .fieldLink RX5 33 "LightReceiver" "ear" "LLightReceiver$Ear;", .methodLink RX5 115 yX2_at, .instanceMethod yX2_at, .selects RX2 yX2_at yX2_at, .initialized RX2, .code yX2_at cX2_at 2 (some .int), .fieldLink RX2 13 "LightReceiver$Row" "count" "I", .fieldLink RX2 7 "LightReceiver$Row" "values" "[I", .methodLink RX5 245 yX2_increase, .instanceMethod yX2_increase, .selects RX2 yX2_increase yX2_increase, .code yX2_increase cX2_increase 2 none, .methodLink RX5 275 yX5_goOnHolding, .instanceMethod yX5_goOnHolding, .selects RX5 yX5_goOnHolding yX5_goOnHolding, .code yX5_goOnHolding cX5_goOnHolding 1 none] ++ wsX50 ++ wsX40 ++ wsX00 ++ wsX20)
def wsX5_hear_r1 : List Cond := [Cond.fieldLink RX5 12 "LightReceiver" "now" "LLightReceiver$State;", Cond.methodLink RX5 161 yX5_verdict, Cond.instanceMethod yX5_verdict, Cond.selects RX5 yX5_verdict yX5_verdict, Cond.initialized RX5, Cond.code yX5_verdict cX5_verdict 5 (some .int), Cond.fieldLink RX5 33 "LightReceiver" "ear" "LLightReceiver$Ear;", Cond.methodLink RX5 248 yX0_listen, Cond.instanceMethod yX0_listen, Cond.selects RX0 yX0_listen yX0_listen, Cond.initialized RX0, Cond.code yX0_listen cX0_listen 9 none, Cond.fieldLink RX0 46 "LightReceiver$Ear" "missedAny" "Z", Cond.fieldLink RX0 20 "LightReceiver$Ear" "left" "LLightReceiver$Row;", Cond.fieldLink RX0 14 "LightReceiver$Ear" "sent" "LLightReceiver$Row;", Cond.methodLink RX0 57 Lib.Math.max.name, Cond.static Lib.Math.max.name, Cond.initialized "java/lang/Math", Cond.code Lib.Math.max.name Lib.Math.max.code 2 (some .int), Cond.static yX5_weakestHeard, Cond.code yX5_weakestHeard cX5_weakestHeard 1 (some .int), Cond.methodLink RX0 27 yX2_empty, Cond.instanceMethod yX2_empty, Cond.selects RX2 yX2_empty yX2_empty]
def wsX5_hear_r2 : List Cond := [Cond.initialized RX2, Cond.code yX2_empty cX2_empty 1 none, Cond.fieldLink RX2 13 "LightReceiver$Row" "count" "I", Cond.methodLink RX0 54 yX2_at, Cond.instanceMethod yX2_at, Cond.selects RX2 yX2_at yX2_at, Cond.code yX2_at cX2_at 2 (some .int), Cond.fieldLink RX2 7 "LightReceiver$Row" "values" "[I", Cond.methodLink RX0 30 yX2_add, Cond.instanceMethod yX2_add, Cond.selects RX2 yX2_add yX2_add, Cond.code yX2_add cX2_add 2 none, Cond.methodLink RX5 251 yX0_decode, Cond.instanceMethod yX0_decode, Cond.selects RX0 yX0_decode yX0_decode, Cond.code yX0_decode cX0_decode 3 (some .int), Cond.fieldLink RX0 67 "LightReceiver$Ear" "address" "I", Cond.fieldLink RX0 70 "LightReceiver$Ear" "code" "I", Cond.fieldLink RX0 73 "LightReceiver$Ear" "toggle" "I", Cond.methodLink RX0 62 yJ6_bitCount_0f7a4, Cond.static yJ6_bitCount_0f7a4, Cond.initialized RJ6, Cond.code yJ6_bitCount_0f7a4 cJ6_bitCount_0f7a4 1 (some .int), Cond.constant RJ6 265 (1431655765)]
def wsX5_hear_r3 : List Cond := [Cond.constant RJ6 266 (858993459), Cond.constant RJ6 267 (252645135), Cond.methodLink RX5 128 yX4_remembers, Cond.instanceMethod yX4_remembers, Cond.selects RX4 yX4_remembers yX4_remembers, Cond.initialized RX4, Cond.code yX4_remembers cX4_remembers 1 (some .boolean), Cond.fieldLink RX4 15 "LightReceiver$State" "sinceAccepted" "I", Cond.methodLink RX5 171 yX5_gainAfter, Cond.instanceMethod yX5_gainAfter, Cond.selects RX5 yX5_gainAfter yX5_gainAfter, Cond.code yX5_gainAfter cX5_gainAfter 2 (some .int), Cond.methodLink RX5 264 Lib.Math.max.name, Cond.methodLink RX5 269 Lib.Math.min.name, Cond.static Lib.Math.min.name, Cond.code Lib.Math.min.name Lib.Math.min.code 2 (some .int), Cond.methodLink RX5 167 yX5_isAccepted, Cond.static yX5_isAccepted, Cond.code yX5_isAccepted cX5_isAccepted 1 (some .boolean), Cond.methodLink RX5 242 yX5_accept, Cond.instanceMethod yX5_accept, Cond.selects RX5 yX5_accept yX5_accept, Cond.code yX5_accept cX5_accept 2 none, Cond.methodLink RX5 272 yX5_startPress]
def wsX5_hear_r4 : List Cond := [Cond.instanceMethod yX5_startPress, Cond.selects RX5 yX5_startPress yX5_startPress, Cond.code yX5_startPress cX5_startPress 1 none, Cond.methodLink RX5 115 yX2_at, Cond.methodLink RX5 245 yX2_increase, Cond.instanceMethod yX2_increase, Cond.selects RX2 yX2_increase yX2_increase, Cond.code yX2_increase cX2_increase 2 none, Cond.methodLink RX5 275 yX5_goOnHolding, Cond.instanceMethod yX5_goOnHolding, Cond.selects RX5 yX5_goOnHolding yX5_goOnHolding, Cond.code yX5_goOnHolding cX5_goOnHolding 1 none]
def wsX5_hear : List Cond := .code yX5_hear cX5_hear 3 (some .int) :: ((wsX5_hear_r1 ++ (wsX5_hear_r2 ++ (wsX5_hear_r3 ++ wsX5_hear_r4))) ++ wsX50 ++ wsX40 ++ wsX00 ++ wsX20)
def wsX5_hearFrame_r1 : List Cond := [Cond.fieldLink RX5 33 "LightReceiver" "ear" "LLightReceiver$Ear;", Cond.methodLink RX5 158 yX0_sendFrame, Cond.instanceMethod yX0_sendFrame, Cond.selects RX0 yX0_sendFrame yX0_sendFrame, Cond.initialized RX0, Cond.code yX0_sendFrame cX0_sendFrame 6 none, Cond.fieldLink RX0 14 "LightReceiver$Ear" "sent" "LLightReceiver$Row;", Cond.static yX5_wordOf, Cond.initialized RX5, Cond.code yX5_wordOf cX5_wordOf 4 (some .int), Cond.methodLink RX5 234 yJ6_bitCount_0f7a4, Cond.static yJ6_bitCount_0f7a4, Cond.initialized RJ6, Cond.code yJ6_bitCount_0f7a4 cJ6_bitCount_0f7a4 1 (some .int), Cond.constant RJ6 265 (1431655765), Cond.constant RJ6 266 (858993459), Cond.constant RJ6 267 (252645135), Cond.methodLink RX0 27 yX2_empty, Cond.instanceMethod yX2_empty, Cond.selects RX2 yX2_empty yX2_empty, Cond.initialized RX2, Cond.code yX2_empty cX2_empty 1 none, Cond.fieldLink RX2 13 "LightReceiver$Row" "count" "I", Cond.methodLink RX0 30 yX2_add]
def wsX5_hearFrame_r2 : List Cond := [Cond.instanceMethod yX2_add, Cond.selects RX2 yX2_add yX2_add, Cond.code yX2_add cX2_add 2 none, Cond.fieldLink RX2 7 "LightReceiver$Row" "values" "[I", Cond.static yX5_bitOf, Cond.code yX5_bitOf cX5_bitOf 2 (some .int), Cond.methodLink RX5 81 yX5_hear, Cond.instanceMethod yX5_hear, Cond.selects RX5 yX5_hear yX5_hear, Cond.code yX5_hear cX5_hear 3 (some .int), Cond.fieldLink RX5 12 "LightReceiver" "now" "LLightReceiver$State;", Cond.methodLink RX5 161 yX5_verdict, Cond.instanceMethod yX5_verdict, Cond.selects RX5 yX5_verdict yX5_verdict, Cond.code yX5_verdict cX5_verdict 5 (some .int), Cond.methodLink RX5 248 yX0_listen, Cond.instanceMethod yX0_listen, Cond.selects RX0 yX0_listen yX0_listen, Cond.code yX0_listen cX0_listen 9 none, Cond.fieldLink RX0 46 "LightReceiver$Ear" "missedAny" "Z", Cond.fieldLink RX0 20 "LightReceiver$Ear" "left" "LLightReceiver$Row;", Cond.methodLink RX0 57 Lib.Math.max.name, Cond.static Lib.Math.max.name, Cond.initialized "java/lang/Math"]
def wsX5_hearFrame_r3 : List Cond := [Cond.code Lib.Math.max.name Lib.Math.max.code 2 (some .int), Cond.static yX5_weakestHeard, Cond.code yX5_weakestHeard cX5_weakestHeard 1 (some .int), Cond.methodLink RX0 54 yX2_at, Cond.instanceMethod yX2_at, Cond.selects RX2 yX2_at yX2_at, Cond.code yX2_at cX2_at 2 (some .int), Cond.methodLink RX5 251 yX0_decode, Cond.instanceMethod yX0_decode, Cond.selects RX0 yX0_decode yX0_decode, Cond.code yX0_decode cX0_decode 3 (some .int), Cond.fieldLink RX0 67 "LightReceiver$Ear" "address" "I", Cond.fieldLink RX0 70 "LightReceiver$Ear" "code" "I", Cond.fieldLink RX0 73 "LightReceiver$Ear" "toggle" "I", Cond.methodLink RX0 62 yJ6_bitCount_0f7a4, Cond.methodLink RX5 128 yX4_remembers, Cond.instanceMethod yX4_remembers, Cond.selects RX4 yX4_remembers yX4_remembers, Cond.initialized RX4, Cond.code yX4_remembers cX4_remembers 1 (some .boolean), Cond.fieldLink RX4 15 "LightReceiver$State" "sinceAccepted" "I", Cond.methodLink RX5 171 yX5_gainAfter, Cond.instanceMethod yX5_gainAfter, Cond.selects RX5 yX5_gainAfter yX5_gainAfter]
def wsX5_hearFrame_r4 : List Cond := [Cond.code yX5_gainAfter cX5_gainAfter 2 (some .int), Cond.methodLink RX5 264 Lib.Math.max.name, Cond.methodLink RX5 269 Lib.Math.min.name, Cond.static Lib.Math.min.name, Cond.code Lib.Math.min.name Lib.Math.min.code 2 (some .int), Cond.methodLink RX5 167 yX5_isAccepted, Cond.static yX5_isAccepted, Cond.code yX5_isAccepted cX5_isAccepted 1 (some .boolean), Cond.methodLink RX5 242 yX5_accept, Cond.instanceMethod yX5_accept, Cond.selects RX5 yX5_accept yX5_accept, Cond.code yX5_accept cX5_accept 2 none, Cond.methodLink RX5 272 yX5_startPress, Cond.instanceMethod yX5_startPress, Cond.selects RX5 yX5_startPress yX5_startPress, Cond.code yX5_startPress cX5_startPress 1 none, Cond.methodLink RX5 115 yX2_at, Cond.methodLink RX5 245 yX2_increase, Cond.instanceMethod yX2_increase, Cond.selects RX2 yX2_increase yX2_increase, Cond.code yX2_increase cX2_increase 2 none, Cond.methodLink RX5 275 yX5_goOnHolding, Cond.instanceMethod yX5_goOnHolding, Cond.selects RX5 yX5_goOnHolding yX5_goOnHolding]
def wsX5_hearFrame_r5 : List Cond := [Cond.code yX5_goOnHolding cX5_goOnHolding 1 none]
def wsX5_hearFrame : List Cond := .code yX5_hearFrame cX5_hearFrame 5 (some .int) :: ((wsX5_hearFrame_r1 ++ (wsX5_hearFrame_r2 ++ (wsX5_hearFrame_r3 ++ (wsX5_hearFrame_r4 ++ wsX5_hearFrame_r5)))) ++ wsX50 ++ wsX00 ++ wsX20 ++ wsX40)
def wsX5_frame_r1 : List Cond := [Cond.fieldLink RX5 19 "LightReceiver" "saves" "LLightReceiver$Saves;", Cond.fieldLink RX5 12 "LightReceiver" "now" "LLightReceiver$State;", Cond.methodLink RX5 37 yX5_checkFrame, Cond.static yX5_checkFrame, Cond.initialized RX5, Cond.code yX5_checkFrame cX5_checkFrame 3 none, Cond.methodLink RX5 84 yX5_isWithin, Cond.static yX5_isWithin, Cond.code yX5_isWithin cX5_isWithin 3 (some .boolean), Cond.methodLink RX5 88 yX5_checkArgument, Cond.static yX5_checkArgument, Cond.code yX5_checkArgument cX5_checkArgument 1 none, Cond.classLink RX5 224 "java/lang/IllegalArgumentException", Cond.initialized "java/lang/IllegalArgumentException", Cond.methodLink RX5 41 yX5_checkStrength, Cond.static yX5_checkStrength, Cond.code yX5_checkStrength cX5_checkStrength 1 none, Cond.methodLink RX5 45 yX3_keep, Cond.instanceMethod yX3_keep, Cond.selects RX3 yX3_keep yX3_keep, Cond.initialized RX3, Cond.code yX3_keep cX3_keep 2 none, Cond.fieldLink RX3 18 "LightReceiver$Saves" "count" "I", Cond.fieldLink RX3 11 "LightReceiver$Saves" "states" "[LLightReceiver$State;"]
def wsX5_frame_r2 : List Cond := [Cond.methodLink RX3 22 yX3_discardOldest, Cond.instanceMethod yX3_discardOldest, Cond.selects RX3 yX3_discardOldest yX3_discardOldest, Cond.code yX3_discardOldest cX3_discardOldest 4 none, Cond.methodLink RX3 25 yX4_become, Cond.instanceMethod yX4_become, Cond.selects RX4 yX4_become yX4_become, Cond.initialized RX4, Cond.code yX4_become cX4_become 2 none, Cond.fieldLink RX4 36 "LightReceiver$State" "glare" "I", Cond.fieldLink RX4 9 "LightReceiver$State" "gain" "I", Cond.fieldLink RX4 39 "LightReceiver$State" "address" "I", Cond.fieldLink RX4 42 "LightReceiver$State" "code" "I", Cond.fieldLink RX4 45 "LightReceiver$State" "toggle" "I", Cond.fieldLink RX4 48 "LightReceiver$State" "holds" "I", Cond.fieldLink RX4 15 "LightReceiver$State" "sinceAccepted" "I", Cond.fieldLink RX4 51 "LightReceiver$State" "presses" "I", Cond.fieldLink RX4 54 "LightReceiver$State" "received" "I", Cond.fieldLink RX4 57 "LightReceiver$State" "accepted" "I", Cond.fieldLink RX4 23 "LightReceiver$State" "actions" "LLightReceiver$Row;", Cond.fieldLink RX4 27 "LightReceiver$State" "timesDone" "LLightReceiver$Row;", Cond.fieldLink RX4 30 "LightReceiver$State" "refusals" "LLightReceiver$Row;", Cond.fieldLink RX4 33 "LightReceiver$State" "lightRow" "LLightReceiver$Row;", Cond.methodLink RX4 60 yX2_become]
def wsX5_frame_r3 : List Cond := [Cond.instanceMethod yX2_become, Cond.selects RX2 yX2_become yX2_become, Cond.initialized RX2, Cond.code yX2_become cX2_become 2 none, Cond.fieldLink RX2 7 "LightReceiver$Row" "values" "[I", Cond.methodLink RX2 17 Lib.Math.min.name, Cond.static Lib.Math.min.name, Cond.initialized "java/lang/Math", Cond.code Lib.Math.min.name Lib.Math.min.code 2 (some .int), Cond.methodLink RX2 23 arraycopyName, Cond.native arraycopyName, Cond.static arraycopyName, Cond.initialized "java/lang/System", Cond.fieldLink RX2 13 "LightReceiver$Row" "count" "I", Cond.methodLink RX5 49 yX5_hearFrame, Cond.instanceMethod yX5_hearFrame, Cond.selects RX5 yX5_hearFrame yX5_hearFrame, Cond.code yX5_hearFrame cX5_hearFrame 5 (some .int), Cond.fieldLink RX5 33 "LightReceiver" "ear" "LLightReceiver$Ear;", Cond.methodLink RX5 158 yX0_sendFrame, Cond.instanceMethod yX0_sendFrame, Cond.selects RX0 yX0_sendFrame yX0_sendFrame, Cond.initialized RX0, Cond.code yX0_sendFrame cX0_sendFrame 6 none]
def wsX5_frame_r4 : List Cond := [Cond.fieldLink RX0 14 "LightReceiver$Ear" "sent" "LLightReceiver$Row;", Cond.static yX5_wordOf, Cond.code yX5_wordOf cX5_wordOf 4 (some .int), Cond.methodLink RX5 234 yJ6_bitCount_0f7a4, Cond.static yJ6_bitCount_0f7a4, Cond.initialized RJ6, Cond.code yJ6_bitCount_0f7a4 cJ6_bitCount_0f7a4 1 (some .int), Cond.constant RJ6 265 (1431655765), Cond.constant RJ6 266 (858993459), Cond.constant RJ6 267 (252645135), Cond.methodLink RX0 27 yX2_empty, Cond.instanceMethod yX2_empty, Cond.selects RX2 yX2_empty yX2_empty, Cond.code yX2_empty cX2_empty 1 none, Cond.methodLink RX0 30 yX2_add, Cond.instanceMethod yX2_add, Cond.selects RX2 yX2_add yX2_add, Cond.code yX2_add cX2_add 2 none, Cond.static yX5_bitOf, Cond.code yX5_bitOf cX5_bitOf 2 (some .int), Cond.methodLink RX5 81 yX5_hear, Cond.instanceMethod yX5_hear, Cond.selects RX5 yX5_hear yX5_hear, Cond.code yX5_hear cX5_hear 3 (some .int)]
def wsX5_frame_r5 : List Cond := [Cond.methodLink RX5 161 yX5_verdict, Cond.instanceMethod yX5_verdict, Cond.selects RX5 yX5_verdict yX5_verdict, Cond.code yX5_verdict cX5_verdict 5 (some .int), Cond.methodLink RX5 248 yX0_listen, Cond.instanceMethod yX0_listen, Cond.selects RX0 yX0_listen yX0_listen, Cond.code yX0_listen cX0_listen 9 none, Cond.fieldLink RX0 46 "LightReceiver$Ear" "missedAny" "Z", Cond.fieldLink RX0 20 "LightReceiver$Ear" "left" "LLightReceiver$Row;", Cond.methodLink RX0 57 Lib.Math.max.name, Cond.static Lib.Math.max.name, Cond.code Lib.Math.max.name Lib.Math.max.code 2 (some .int), Cond.static yX5_weakestHeard, Cond.code yX5_weakestHeard cX5_weakestHeard 1 (some .int), Cond.methodLink RX0 54 yX2_at, Cond.instanceMethod yX2_at, Cond.selects RX2 yX2_at yX2_at, Cond.code yX2_at cX2_at 2 (some .int), Cond.methodLink RX5 251 yX0_decode, Cond.instanceMethod yX0_decode, Cond.selects RX0 yX0_decode yX0_decode, Cond.code yX0_decode cX0_decode 3 (some .int), Cond.fieldLink RX0 67 "LightReceiver$Ear" "address" "I"]
def wsX5_frame_r6 : List Cond := [Cond.fieldLink RX0 70 "LightReceiver$Ear" "code" "I", Cond.fieldLink RX0 73 "LightReceiver$Ear" "toggle" "I", Cond.methodLink RX0 62 yJ6_bitCount_0f7a4, Cond.methodLink RX5 128 yX4_remembers, Cond.instanceMethod yX4_remembers, Cond.selects RX4 yX4_remembers yX4_remembers, Cond.code yX4_remembers cX4_remembers 1 (some .boolean), Cond.methodLink RX5 171 yX5_gainAfter, Cond.instanceMethod yX5_gainAfter, Cond.selects RX5 yX5_gainAfter yX5_gainAfter, Cond.code yX5_gainAfter cX5_gainAfter 2 (some .int), Cond.methodLink RX5 264 Lib.Math.max.name, Cond.methodLink RX5 269 Lib.Math.min.name, Cond.methodLink RX5 167 yX5_isAccepted, Cond.static yX5_isAccepted, Cond.code yX5_isAccepted cX5_isAccepted 1 (some .boolean), Cond.methodLink RX5 242 yX5_accept, Cond.instanceMethod yX5_accept, Cond.selects RX5 yX5_accept yX5_accept, Cond.code yX5_accept cX5_accept 2 none, Cond.methodLink RX5 272 yX5_startPress, Cond.instanceMethod yX5_startPress, Cond.selects RX5 yX5_startPress yX5_startPress, Cond.code yX5_startPress cX5_startPress 1 none]
def wsX5_frame_r7 : List Cond := [Cond.methodLink RX5 115 yX2_at, Cond.methodLink RX5 245 yX2_increase, Cond.instanceMethod yX2_increase, Cond.selects RX2 yX2_increase yX2_increase, Cond.code yX2_increase cX2_increase 2 none, Cond.methodLink RX5 275 yX5_goOnHolding, Cond.instanceMethod yX5_goOnHolding, Cond.selects RX5 yX5_goOnHolding yX5_goOnHolding, Cond.code yX5_goOnHolding cX5_goOnHolding 1 none]
def wsX5_frame : List Cond := .code yX5_frame cX5_frame 5 (some .int) :: ((wsX5_frame_r1 ++ (wsX5_frame_r2 ++ (wsX5_frame_r3 ++ (wsX5_frame_r4 ++ (wsX5_frame_r5 ++ (wsX5_frame_r6 ++ wsX5_frame_r7)))))) ++ wsX50 ++ wsX30 ++ wsX40 ++ wsX20 ++ wsX00 ++ (vx_atS RX5 228 "java/lang/IllegalArgumentException" ["java/lang/RuntimeException", "java/lang/Exception"]).filter goodWord)
def wsX5_hearRepeat_r1 : List Cond := [Cond.fieldLink RX5 33 "LightReceiver" "ear" "LLightReceiver$Ear;", Cond.methodLink RX5 239 yX0_sendRepeat, Cond.instanceMethod yX0_sendRepeat, Cond.selects RX0 yX0_sendRepeat yX0_sendRepeat, Cond.initialized RX0, Cond.code yX0_sendRepeat cX0_sendRepeat 1 none, Cond.fieldLink RX0 14 "LightReceiver$Ear" "sent" "LLightReceiver$Row;", Cond.methodLink RX0 27 yX2_empty, Cond.instanceMethod yX2_empty, Cond.selects RX2 yX2_empty yX2_empty, Cond.initialized RX2, Cond.code yX2_empty cX2_empty 1 none, Cond.fieldLink RX2 13 "LightReceiver$Row" "count" "I", Cond.methodLink RX0 30 yX2_add, Cond.instanceMethod yX2_add, Cond.selects RX2 yX2_add yX2_add, Cond.code yX2_add cX2_add 2 none, Cond.fieldLink RX2 7 "LightReceiver$Row" "values" "[I", Cond.methodLink RX5 81 yX5_hear, Cond.instanceMethod yX5_hear, Cond.selects RX5 yX5_hear yX5_hear, Cond.initialized RX5, Cond.code yX5_hear cX5_hear 3 (some .int), Cond.fieldLink RX5 12 "LightReceiver" "now" "LLightReceiver$State;"]
def wsX5_hearRepeat_r2 : List Cond := [Cond.methodLink RX5 161 yX5_verdict, Cond.instanceMethod yX5_verdict, Cond.selects RX5 yX5_verdict yX5_verdict, Cond.code yX5_verdict cX5_verdict 5 (some .int), Cond.methodLink RX5 248 yX0_listen, Cond.instanceMethod yX0_listen, Cond.selects RX0 yX0_listen yX0_listen, Cond.code yX0_listen cX0_listen 9 none, Cond.fieldLink RX0 46 "LightReceiver$Ear" "missedAny" "Z", Cond.fieldLink RX0 20 "LightReceiver$Ear" "left" "LLightReceiver$Row;", Cond.methodLink RX0 57 Lib.Math.max.name, Cond.static Lib.Math.max.name, Cond.initialized "java/lang/Math", Cond.code Lib.Math.max.name Lib.Math.max.code 2 (some .int), Cond.static yX5_weakestHeard, Cond.code yX5_weakestHeard cX5_weakestHeard 1 (some .int), Cond.methodLink RX0 54 yX2_at, Cond.instanceMethod yX2_at, Cond.selects RX2 yX2_at yX2_at, Cond.code yX2_at cX2_at 2 (some .int), Cond.methodLink RX5 251 yX0_decode, Cond.instanceMethod yX0_decode, Cond.selects RX0 yX0_decode yX0_decode, Cond.code yX0_decode cX0_decode 3 (some .int)]
def wsX5_hearRepeat_r3 : List Cond := [Cond.fieldLink RX0 67 "LightReceiver$Ear" "address" "I", Cond.fieldLink RX0 70 "LightReceiver$Ear" "code" "I", Cond.fieldLink RX0 73 "LightReceiver$Ear" "toggle" "I", Cond.methodLink RX0 62 yJ6_bitCount_0f7a4, Cond.static yJ6_bitCount_0f7a4, Cond.initialized RJ6, Cond.code yJ6_bitCount_0f7a4 cJ6_bitCount_0f7a4 1 (some .int), Cond.constant RJ6 265 (1431655765), Cond.constant RJ6 266 (858993459), Cond.constant RJ6 267 (252645135), Cond.methodLink RX5 128 yX4_remembers, Cond.instanceMethod yX4_remembers, Cond.selects RX4 yX4_remembers yX4_remembers, Cond.initialized RX4, Cond.code yX4_remembers cX4_remembers 1 (some .boolean), Cond.fieldLink RX4 15 "LightReceiver$State" "sinceAccepted" "I", Cond.methodLink RX5 171 yX5_gainAfter, Cond.instanceMethod yX5_gainAfter, Cond.selects RX5 yX5_gainAfter yX5_gainAfter, Cond.code yX5_gainAfter cX5_gainAfter 2 (some .int), Cond.methodLink RX5 264 Lib.Math.max.name, Cond.methodLink RX5 269 Lib.Math.min.name, Cond.static Lib.Math.min.name, Cond.code Lib.Math.min.name Lib.Math.min.code 2 (some .int)]
def wsX5_hearRepeat_r4 : List Cond := [Cond.methodLink RX5 167 yX5_isAccepted, Cond.static yX5_isAccepted, Cond.code yX5_isAccepted cX5_isAccepted 1 (some .boolean), Cond.methodLink RX5 242 yX5_accept, Cond.instanceMethod yX5_accept, Cond.selects RX5 yX5_accept yX5_accept, Cond.code yX5_accept cX5_accept 2 none, Cond.methodLink RX5 272 yX5_startPress, Cond.instanceMethod yX5_startPress, Cond.selects RX5 yX5_startPress yX5_startPress, Cond.code yX5_startPress cX5_startPress 1 none, Cond.methodLink RX5 115 yX2_at, Cond.methodLink RX5 245 yX2_increase, Cond.instanceMethod yX2_increase, Cond.selects RX2 yX2_increase yX2_increase, Cond.code yX2_increase cX2_increase 2 none, Cond.methodLink RX5 275 yX5_goOnHolding, Cond.instanceMethod yX5_goOnHolding, Cond.selects RX5 yX5_goOnHolding yX5_goOnHolding, Cond.code yX5_goOnHolding cX5_goOnHolding 1 none]
def wsX5_hearRepeat : List Cond := .code yX5_hearRepeat cX5_hearRepeat 2 (some .int) :: ((wsX5_hearRepeat_r1 ++ (wsX5_hearRepeat_r2 ++ (wsX5_hearRepeat_r3 ++ wsX5_hearRepeat_r4))) ++ wsX50 ++ wsX00 ++ wsX20 ++ wsX40)
def wsX5_repeat_r1 : List Cond := [Cond.fieldLink RX5 19 "LightReceiver" "saves" "LLightReceiver$Saves;", Cond.fieldLink RX5 12 "LightReceiver" "now" "LLightReceiver$State;", Cond.methodLink RX5 41 yX5_checkStrength, Cond.static yX5_checkStrength, Cond.initialized RX5, Cond.code yX5_checkStrength cX5_checkStrength 1 none, Cond.methodLink RX5 84 yX5_isWithin, Cond.static yX5_isWithin, Cond.code yX5_isWithin cX5_isWithin 3 (some .boolean), Cond.methodLink RX5 88 yX5_checkArgument, Cond.static yX5_checkArgument, Cond.code yX5_checkArgument cX5_checkArgument 1 none, Cond.classLink RX5 224 "java/lang/IllegalArgumentException", Cond.initialized "java/lang/IllegalArgumentException", Cond.methodLink RX5 45 yX3_keep, Cond.instanceMethod yX3_keep, Cond.selects RX3 yX3_keep yX3_keep, Cond.initialized RX3, Cond.code yX3_keep cX3_keep 2 none, Cond.fieldLink RX3 18 "LightReceiver$Saves" "count" "I", Cond.fieldLink RX3 11 "LightReceiver$Saves" "states" "[LLightReceiver$State;", Cond.methodLink RX3 22 yX3_discardOldest, Cond.instanceMethod yX3_discardOldest, Cond.selects RX3 yX3_discardOldest yX3_discardOldest]
def wsX5_repeat_r2 : List Cond := [Cond.code yX3_discardOldest cX3_discardOldest 4 none, Cond.methodLink RX3 25 yX4_become, Cond.instanceMethod yX4_become, Cond.selects RX4 yX4_become yX4_become, Cond.initialized RX4, Cond.code yX4_become cX4_become 2 none, Cond.fieldLink RX4 36 "LightReceiver$State" "glare" "I", Cond.fieldLink RX4 9 "LightReceiver$State" "gain" "I", Cond.fieldLink RX4 39 "LightReceiver$State" "address" "I", Cond.fieldLink RX4 42 "LightReceiver$State" "code" "I", Cond.fieldLink RX4 45 "LightReceiver$State" "toggle" "I", Cond.fieldLink RX4 48 "LightReceiver$State" "holds" "I", Cond.fieldLink RX4 15 "LightReceiver$State" "sinceAccepted" "I", Cond.fieldLink RX4 51 "LightReceiver$State" "presses" "I", Cond.fieldLink RX4 54 "LightReceiver$State" "received" "I", Cond.fieldLink RX4 57 "LightReceiver$State" "accepted" "I", Cond.fieldLink RX4 23 "LightReceiver$State" "actions" "LLightReceiver$Row;", Cond.fieldLink RX4 27 "LightReceiver$State" "timesDone" "LLightReceiver$Row;", Cond.fieldLink RX4 30 "LightReceiver$State" "refusals" "LLightReceiver$Row;", Cond.fieldLink RX4 33 "LightReceiver$State" "lightRow" "LLightReceiver$Row;", Cond.methodLink RX4 60 yX2_become, Cond.instanceMethod yX2_become, Cond.selects RX2 yX2_become yX2_become, Cond.initialized RX2]
def wsX5_repeat_r3 : List Cond := [Cond.code yX2_become cX2_become 2 none, Cond.fieldLink RX2 7 "LightReceiver$Row" "values" "[I", Cond.methodLink RX2 17 Lib.Math.min.name, Cond.static Lib.Math.min.name, Cond.initialized "java/lang/Math", Cond.code Lib.Math.min.name Lib.Math.min.code 2 (some .int), Cond.methodLink RX2 23 arraycopyName, Cond.native arraycopyName, Cond.static arraycopyName, Cond.initialized "java/lang/System", Cond.fieldLink RX2 13 "LightReceiver$Row" "count" "I", Cond.methodLink RX5 53 yX5_hearRepeat, Cond.instanceMethod yX5_hearRepeat, Cond.selects RX5 yX5_hearRepeat yX5_hearRepeat, Cond.code yX5_hearRepeat cX5_hearRepeat 2 (some .int), Cond.fieldLink RX5 33 "LightReceiver" "ear" "LLightReceiver$Ear;", Cond.methodLink RX5 239 yX0_sendRepeat, Cond.instanceMethod yX0_sendRepeat, Cond.selects RX0 yX0_sendRepeat yX0_sendRepeat, Cond.initialized RX0, Cond.code yX0_sendRepeat cX0_sendRepeat 1 none, Cond.fieldLink RX0 14 "LightReceiver$Ear" "sent" "LLightReceiver$Row;", Cond.methodLink RX0 27 yX2_empty, Cond.instanceMethod yX2_empty]
def wsX5_repeat_r4 : List Cond := [Cond.selects RX2 yX2_empty yX2_empty, Cond.code yX2_empty cX2_empty 1 none, Cond.methodLink RX0 30 yX2_add, Cond.instanceMethod yX2_add, Cond.selects RX2 yX2_add yX2_add, Cond.code yX2_add cX2_add 2 none, Cond.methodLink RX5 81 yX5_hear, Cond.instanceMethod yX5_hear, Cond.selects RX5 yX5_hear yX5_hear, Cond.code yX5_hear cX5_hear 3 (some .int), Cond.methodLink RX5 161 yX5_verdict, Cond.instanceMethod yX5_verdict, Cond.selects RX5 yX5_verdict yX5_verdict, Cond.code yX5_verdict cX5_verdict 5 (some .int), Cond.methodLink RX5 248 yX0_listen, Cond.instanceMethod yX0_listen, Cond.selects RX0 yX0_listen yX0_listen, Cond.code yX0_listen cX0_listen 9 none, Cond.fieldLink RX0 46 "LightReceiver$Ear" "missedAny" "Z", Cond.fieldLink RX0 20 "LightReceiver$Ear" "left" "LLightReceiver$Row;", Cond.methodLink RX0 57 Lib.Math.max.name, Cond.static Lib.Math.max.name, Cond.code Lib.Math.max.name Lib.Math.max.code 2 (some .int), Cond.static yX5_weakestHeard]
def wsX5_repeat_r5 : List Cond := [Cond.code yX5_weakestHeard cX5_weakestHeard 1 (some .int), Cond.methodLink RX0 54 yX2_at, Cond.instanceMethod yX2_at, Cond.selects RX2 yX2_at yX2_at, Cond.code yX2_at cX2_at 2 (some .int), Cond.methodLink RX5 251 yX0_decode, Cond.instanceMethod yX0_decode, Cond.selects RX0 yX0_decode yX0_decode, Cond.code yX0_decode cX0_decode 3 (some .int), Cond.fieldLink RX0 67 "LightReceiver$Ear" "address" "I", Cond.fieldLink RX0 70 "LightReceiver$Ear" "code" "I", Cond.fieldLink RX0 73 "LightReceiver$Ear" "toggle" "I", Cond.methodLink RX0 62 yJ6_bitCount_0f7a4, Cond.static yJ6_bitCount_0f7a4, Cond.initialized RJ6, Cond.code yJ6_bitCount_0f7a4 cJ6_bitCount_0f7a4 1 (some .int), Cond.constant RJ6 265 (1431655765), Cond.constant RJ6 266 (858993459), Cond.constant RJ6 267 (252645135), Cond.methodLink RX5 128 yX4_remembers, Cond.instanceMethod yX4_remembers, Cond.selects RX4 yX4_remembers yX4_remembers, Cond.code yX4_remembers cX4_remembers 1 (some .boolean), Cond.methodLink RX5 171 yX5_gainAfter]
def wsX5_repeat_r6 : List Cond := [Cond.instanceMethod yX5_gainAfter, Cond.selects RX5 yX5_gainAfter yX5_gainAfter, Cond.code yX5_gainAfter cX5_gainAfter 2 (some .int), Cond.methodLink RX5 264 Lib.Math.max.name, Cond.methodLink RX5 269 Lib.Math.min.name, Cond.methodLink RX5 167 yX5_isAccepted, Cond.static yX5_isAccepted, Cond.code yX5_isAccepted cX5_isAccepted 1 (some .boolean), Cond.methodLink RX5 242 yX5_accept, Cond.instanceMethod yX5_accept, Cond.selects RX5 yX5_accept yX5_accept, Cond.code yX5_accept cX5_accept 2 none, Cond.methodLink RX5 272 yX5_startPress, Cond.instanceMethod yX5_startPress, Cond.selects RX5 yX5_startPress yX5_startPress, Cond.code yX5_startPress cX5_startPress 1 none, Cond.methodLink RX5 115 yX2_at, Cond.methodLink RX5 245 yX2_increase, Cond.instanceMethod yX2_increase, Cond.selects RX2 yX2_increase yX2_increase, Cond.code yX2_increase cX2_increase 2 none, Cond.methodLink RX5 275 yX5_goOnHolding, Cond.instanceMethod yX5_goOnHolding, Cond.selects RX5 yX5_goOnHolding yX5_goOnHolding]
def wsX5_repeat_r7 : List Cond := [Cond.code yX5_goOnHolding cX5_goOnHolding 1 none]
def wsX5_repeat : List Cond := .code yX5_repeat cX5_repeat 2 (some .int) :: ((wsX5_repeat_r1 ++ (wsX5_repeat_r2 ++ (wsX5_repeat_r3 ++ (wsX5_repeat_r4 ++ (wsX5_repeat_r5 ++ (wsX5_repeat_r6 ++ wsX5_repeat_r7)))))) ++ wsX50 ++ wsX30 ++ wsX40 ++ wsX20 ++ wsX00 ++ (vx_atS RX5 228 "java/lang/IllegalArgumentException" ["java/lang/RuntimeException", "java/lang/Exception"]).filter goodWord)
def wsX5_receive_r1 : List Cond := [Cond.classLink RX5 67 "java/lang/IllegalStateException", Cond.initialized "java/lang/IllegalStateException", Cond.fieldLink RX5 12 "LightReceiver" "now" "LLightReceiver$State;", Cond.fieldLink RX5 19 "LightReceiver" "saves" "LLightReceiver$Saves;", Cond.fieldLink RX5 33 "LightReceiver" "ear" "LLightReceiver$Ear;", Cond.methodLink RX5 41 yX5_checkStrength, Cond.static yX5_checkStrength, Cond.initialized RX5, Cond.code yX5_checkStrength cX5_checkStrength 1 none, Cond.methodLink RX5 84 yX5_isWithin, Cond.static yX5_isWithin, Cond.code yX5_isWithin cX5_isWithin 3 (some .boolean), Cond.methodLink RX5 88 yX5_checkArgument, Cond.static yX5_checkArgument, Cond.code yX5_checkArgument cX5_checkArgument 1 none, Cond.classLink RX5 224 "java/lang/IllegalArgumentException", Cond.initialized "java/lang/IllegalArgumentException", Cond.methodLink RX5 45 yX3_keep, Cond.instanceMethod yX3_keep, Cond.selects RX3 yX3_keep yX3_keep, Cond.initialized RX3, Cond.code yX3_keep cX3_keep 2 none, Cond.fieldLink RX3 18 "LightReceiver$Saves" "count" "I", Cond.fieldLink RX3 11 "LightReceiver$Saves" "states" "[LLightReceiver$State;"]
def wsX5_receive_r2 : List Cond := [Cond.methodLink RX3 22 yX3_discardOldest, Cond.instanceMethod yX3_discardOldest, Cond.selects RX3 yX3_discardOldest yX3_discardOldest, Cond.code yX3_discardOldest cX3_discardOldest 4 none, Cond.methodLink RX3 25 yX4_become, Cond.instanceMethod yX4_become, Cond.selects RX4 yX4_become yX4_become, Cond.initialized RX4, Cond.code yX4_become cX4_become 2 none, Cond.fieldLink RX4 36 "LightReceiver$State" "glare" "I", Cond.fieldLink RX4 9 "LightReceiver$State" "gain" "I", Cond.fieldLink RX4 39 "LightReceiver$State" "address" "I", Cond.fieldLink RX4 42 "LightReceiver$State" "code" "I", Cond.fieldLink RX4 45 "LightReceiver$State" "toggle" "I", Cond.fieldLink RX4 48 "LightReceiver$State" "holds" "I", Cond.fieldLink RX4 15 "LightReceiver$State" "sinceAccepted" "I", Cond.fieldLink RX4 51 "LightReceiver$State" "presses" "I", Cond.fieldLink RX4 54 "LightReceiver$State" "received" "I", Cond.fieldLink RX4 57 "LightReceiver$State" "accepted" "I", Cond.fieldLink RX4 23 "LightReceiver$State" "actions" "LLightReceiver$Row;", Cond.fieldLink RX4 27 "LightReceiver$State" "timesDone" "LLightReceiver$Row;", Cond.fieldLink RX4 30 "LightReceiver$State" "refusals" "LLightReceiver$Row;", Cond.fieldLink RX4 33 "LightReceiver$State" "lightRow" "LLightReceiver$Row;", Cond.methodLink RX4 60 yX2_become]
def wsX5_receive_r3 : List Cond := [Cond.instanceMethod yX2_become, Cond.selects RX2 yX2_become yX2_become, Cond.initialized RX2, Cond.code yX2_become cX2_become 2 none, Cond.fieldLink RX2 7 "LightReceiver$Row" "values" "[I", Cond.methodLink RX2 17 Lib.Math.min.name, Cond.static Lib.Math.min.name, Cond.initialized "java/lang/Math", Cond.code Lib.Math.min.name Lib.Math.min.code 2 (some .int), Cond.methodLink RX2 23 arraycopyName, Cond.native arraycopyName, Cond.static arraycopyName, Cond.initialized "java/lang/System", Cond.fieldLink RX2 13 "LightReceiver$Row" "count" "I", Cond.methodLink RX5 74 yX0_sendRow, Cond.instanceMethod yX0_sendRow, Cond.selects RX0 yX0_sendRow yX0_sendRow, Cond.initialized RX0, Cond.code yX0_sendRow cX0_sendRow 2 none, Cond.fieldLink RX0 14 "LightReceiver$Ear" "sent" "LLightReceiver$Row;", Cond.methodLink RX0 38 yX2_become, Cond.methodLink RX5 78 yX2_empty, Cond.instanceMethod yX2_empty, Cond.selects RX2 yX2_empty yX2_empty]
def wsX5_receive_r4 : List Cond := [Cond.code yX2_empty cX2_empty 1 none, Cond.methodLink RX5 81 yX5_hear, Cond.instanceMethod yX5_hear, Cond.selects RX5 yX5_hear yX5_hear, Cond.code yX5_hear cX5_hear 3 (some .int), Cond.methodLink RX5 161 yX5_verdict, Cond.instanceMethod yX5_verdict, Cond.selects RX5 yX5_verdict yX5_verdict, Cond.code yX5_verdict cX5_verdict 5 (some .int), Cond.methodLink RX5 248 yX0_listen, Cond.instanceMethod yX0_listen, Cond.selects RX0 yX0_listen yX0_listen, Cond.code yX0_listen cX0_listen 9 none, Cond.fieldLink RX0 46 "LightReceiver$Ear" "missedAny" "Z", Cond.fieldLink RX0 20 "LightReceiver$Ear" "left" "LLightReceiver$Row;", Cond.methodLink RX0 57 Lib.Math.max.name, Cond.static Lib.Math.max.name, Cond.code Lib.Math.max.name Lib.Math.max.code 2 (some .int), Cond.static yX5_weakestHeard, Cond.code yX5_weakestHeard cX5_weakestHeard 1 (some .int), Cond.methodLink RX0 27 yX2_empty, Cond.methodLink RX0 54 yX2_at, Cond.instanceMethod yX2_at, Cond.selects RX2 yX2_at yX2_at]
def wsX5_receive_r5 : List Cond := [Cond.code yX2_at cX2_at 2 (some .int), Cond.methodLink RX0 30 yX2_add, Cond.instanceMethod yX2_add, Cond.selects RX2 yX2_add yX2_add, Cond.code yX2_add cX2_add 2 none, Cond.methodLink RX5 251 yX0_decode, Cond.instanceMethod yX0_decode, Cond.selects RX0 yX0_decode yX0_decode, Cond.code yX0_decode cX0_decode 3 (some .int), Cond.fieldLink RX0 67 "LightReceiver$Ear" "address" "I", Cond.fieldLink RX0 70 "LightReceiver$Ear" "code" "I", Cond.fieldLink RX0 73 "LightReceiver$Ear" "toggle" "I", Cond.methodLink RX0 62 yJ6_bitCount_0f7a4, Cond.static yJ6_bitCount_0f7a4, Cond.initialized RJ6, Cond.code yJ6_bitCount_0f7a4 cJ6_bitCount_0f7a4 1 (some .int), Cond.constant RJ6 265 (1431655765), Cond.constant RJ6 266 (858993459), Cond.constant RJ6 267 (252645135), Cond.methodLink RX5 128 yX4_remembers, Cond.instanceMethod yX4_remembers, Cond.selects RX4 yX4_remembers yX4_remembers, Cond.code yX4_remembers cX4_remembers 1 (some .boolean), Cond.methodLink RX5 171 yX5_gainAfter]
def wsX5_receive_r6 : List Cond := [Cond.instanceMethod yX5_gainAfter, Cond.selects RX5 yX5_gainAfter yX5_gainAfter, Cond.code yX5_gainAfter cX5_gainAfter 2 (some .int), Cond.methodLink RX5 264 Lib.Math.max.name, Cond.methodLink RX5 269 Lib.Math.min.name, Cond.methodLink RX5 167 yX5_isAccepted, Cond.static yX5_isAccepted, Cond.code yX5_isAccepted cX5_isAccepted 1 (some .boolean), Cond.methodLink RX5 242 yX5_accept, Cond.instanceMethod yX5_accept, Cond.selects RX5 yX5_accept yX5_accept, Cond.code yX5_accept cX5_accept 2 none, Cond.methodLink RX5 272 yX5_startPress, Cond.instanceMethod yX5_startPress, Cond.selects RX5 yX5_startPress yX5_startPress, Cond.code yX5_startPress cX5_startPress 1 none, Cond.methodLink RX5 115 yX2_at, Cond.methodLink RX5 245 yX2_increase, Cond.instanceMethod yX2_increase, Cond.selects RX2 yX2_increase yX2_increase, Cond.code yX2_increase cX2_increase 2 none, Cond.methodLink RX5 275 yX5_goOnHolding, Cond.instanceMethod yX5_goOnHolding, Cond.selects RX5 yX5_goOnHolding yX5_goOnHolding]
def wsX5_receive_r7 : List Cond := [Cond.code yX5_goOnHolding cX5_goOnHolding 1 none]
def wsX5_receive : List Cond := .code yX5_receive cX5_receive 2 (some .int) :: ((wsX5_receive_r1 ++ (wsX5_receive_r2 ++ (wsX5_receive_r3 ++ (wsX5_receive_r4 ++ (wsX5_receive_r5 ++ (wsX5_receive_r6 ++ wsX5_receive_r7)))))) ++ wsX50 ++ wsX40 ++ wsX20 ++ wsX30 ++ wsX00 ++ (vx_atS RX5 71 "java/lang/IllegalStateException" ["java/lang/RuntimeException", "java/lang/Exception"]).filter goodWord ++ (vx_atS RX5 228 "java/lang/IllegalArgumentException" ["java/lang/RuntimeException", "java/lang/Exception"]).filter goodWord)
def wsX5_shine_r1 : List Cond := [Cond.classLink RX5 67 "java/lang/IllegalStateException", Cond.initialized "java/lang/IllegalStateException", Cond.fieldLink RX5 12 "LightReceiver" "now" "LLightReceiver$State;", Cond.fieldLink RX5 19 "LightReceiver" "saves" "LLightReceiver$Saves;", Cond.methodLink RX5 84 yX5_isWithin, Cond.static yX5_isWithin, Cond.initialized RX5, Cond.code yX5_isWithin cX5_isWithin 3 (some .boolean), Cond.methodLink RX5 88 yX5_checkArgument, Cond.static yX5_checkArgument, Cond.code yX5_checkArgument cX5_checkArgument 1 none, Cond.classLink RX5 224 "java/lang/IllegalArgumentException", Cond.initialized "java/lang/IllegalArgumentException", Cond.methodLink RX5 45 yX3_keep, Cond.instanceMethod yX3_keep, Cond.selects RX3 yX3_keep yX3_keep, Cond.initialized RX3, Cond.code yX3_keep cX3_keep 2 none, Cond.fieldLink RX3 18 "LightReceiver$Saves" "count" "I", Cond.fieldLink RX3 11 "LightReceiver$Saves" "states" "[LLightReceiver$State;", Cond.methodLink RX3 22 yX3_discardOldest, Cond.instanceMethod yX3_discardOldest, Cond.selects RX3 yX3_discardOldest yX3_discardOldest, Cond.code yX3_discardOldest cX3_discardOldest 4 none]
def wsX5_shine_r2 : List Cond := [Cond.methodLink RX3 25 yX4_become, Cond.instanceMethod yX4_become, Cond.selects RX4 yX4_become yX4_become, Cond.initialized RX4, Cond.code yX4_become cX4_become 2 none, Cond.fieldLink RX4 36 "LightReceiver$State" "glare" "I", Cond.fieldLink RX4 9 "LightReceiver$State" "gain" "I", Cond.fieldLink RX4 39 "LightReceiver$State" "address" "I", Cond.fieldLink RX4 42 "LightReceiver$State" "code" "I", Cond.fieldLink RX4 45 "LightReceiver$State" "toggle" "I", Cond.fieldLink RX4 48 "LightReceiver$State" "holds" "I", Cond.fieldLink RX4 15 "LightReceiver$State" "sinceAccepted" "I", Cond.fieldLink RX4 51 "LightReceiver$State" "presses" "I", Cond.fieldLink RX4 54 "LightReceiver$State" "received" "I", Cond.fieldLink RX4 57 "LightReceiver$State" "accepted" "I", Cond.fieldLink RX4 23 "LightReceiver$State" "actions" "LLightReceiver$Row;", Cond.fieldLink RX4 27 "LightReceiver$State" "timesDone" "LLightReceiver$Row;", Cond.fieldLink RX4 30 "LightReceiver$State" "refusals" "LLightReceiver$Row;", Cond.fieldLink RX4 33 "LightReceiver$State" "lightRow" "LLightReceiver$Row;", Cond.methodLink RX4 60 yX2_become, Cond.instanceMethod yX2_become, Cond.selects RX2 yX2_become yX2_become, Cond.initialized RX2, Cond.code yX2_become cX2_become 2 none]
def wsX5_shine_r3 : List Cond := [Cond.fieldLink RX2 7 "LightReceiver$Row" "values" "[I", Cond.methodLink RX2 17 Lib.Math.min.name, Cond.static Lib.Math.min.name, Cond.initialized "java/lang/Math", Cond.code Lib.Math.min.name Lib.Math.min.code 2 (some .int), Cond.methodLink RX2 23 arraycopyName, Cond.native arraycopyName, Cond.static arraycopyName, Cond.initialized "java/lang/System", Cond.fieldLink RX2 13 "LightReceiver$Row" "count" "I", Cond.methodLink RX5 94 yX2_add, Cond.instanceMethod yX2_add, Cond.selects RX2 yX2_add yX2_add, Cond.code yX2_add cX2_add 2 none]
def wsX5_shine : List Cond := .code yX5_shine cX5_shine 2 (some .int) :: ((wsX5_shine_r1 ++ (wsX5_shine_r2 ++ wsX5_shine_r3)) ++ wsX50 ++ wsX40 ++ wsX20 ++ wsX30 ++ (vx_atS RX5 71 "java/lang/IllegalStateException" ["java/lang/RuntimeException", "java/lang/Exception"]).filter goodWord ++ (vx_atS RX5 228 "java/lang/IllegalArgumentException" ["java/lang/RuntimeException", "java/lang/Exception"]).filter goodWord)
def wsX5_letPass : List Cond := .code yX5_letPass cX5_letPass 2 none :: ([.fieldLink RX5 12 "LightReceiver" "now" "LLightReceiver$State;"] ++ wsX50 ++ wsX40)
def wsX5_pass_r1 : List Cond := [Cond.fieldLink RX5 19 "LightReceiver" "saves" "LLightReceiver$Saves;", Cond.fieldLink RX5 12 "LightReceiver" "now" "LLightReceiver$State;", Cond.methodLink RX5 84 yX5_isWithin, Cond.static yX5_isWithin, Cond.initialized RX5, Cond.code yX5_isWithin cX5_isWithin 3 (some .boolean), Cond.methodLink RX5 88 yX5_checkArgument, Cond.static yX5_checkArgument, Cond.code yX5_checkArgument cX5_checkArgument 1 none, Cond.classLink RX5 224 "java/lang/IllegalArgumentException", Cond.initialized "java/lang/IllegalArgumentException", Cond.methodLink RX5 45 yX3_keep, Cond.instanceMethod yX3_keep, Cond.selects RX3 yX3_keep yX3_keep, Cond.initialized RX3, Cond.code yX3_keep cX3_keep 2 none, Cond.fieldLink RX3 18 "LightReceiver$Saves" "count" "I", Cond.fieldLink RX3 11 "LightReceiver$Saves" "states" "[LLightReceiver$State;", Cond.methodLink RX3 22 yX3_discardOldest, Cond.instanceMethod yX3_discardOldest, Cond.selects RX3 yX3_discardOldest yX3_discardOldest, Cond.code yX3_discardOldest cX3_discardOldest 4 none, Cond.methodLink RX3 25 yX4_become, Cond.instanceMethod yX4_become]
def wsX5_pass_r2 : List Cond := [Cond.selects RX4 yX4_become yX4_become, Cond.initialized RX4, Cond.code yX4_become cX4_become 2 none, Cond.fieldLink RX4 36 "LightReceiver$State" "glare" "I", Cond.fieldLink RX4 9 "LightReceiver$State" "gain" "I", Cond.fieldLink RX4 39 "LightReceiver$State" "address" "I", Cond.fieldLink RX4 42 "LightReceiver$State" "code" "I", Cond.fieldLink RX4 45 "LightReceiver$State" "toggle" "I", Cond.fieldLink RX4 48 "LightReceiver$State" "holds" "I", Cond.fieldLink RX4 15 "LightReceiver$State" "sinceAccepted" "I", Cond.fieldLink RX4 51 "LightReceiver$State" "presses" "I", Cond.fieldLink RX4 54 "LightReceiver$State" "received" "I", Cond.fieldLink RX4 57 "LightReceiver$State" "accepted" "I", Cond.fieldLink RX4 23 "LightReceiver$State" "actions" "LLightReceiver$Row;", Cond.fieldLink RX4 27 "LightReceiver$State" "timesDone" "LLightReceiver$Row;", Cond.fieldLink RX4 30 "LightReceiver$State" "refusals" "LLightReceiver$Row;", Cond.fieldLink RX4 33 "LightReceiver$State" "lightRow" "LLightReceiver$Row;", Cond.methodLink RX4 60 yX2_become, Cond.instanceMethod yX2_become, Cond.selects RX2 yX2_become yX2_become, Cond.initialized RX2, Cond.code yX2_become cX2_become 2 none, Cond.fieldLink RX2 7 "LightReceiver$Row" "values" "[I", Cond.methodLink RX2 17 Lib.Math.min.name]
def wsX5_pass_r3 : List Cond := [Cond.static Lib.Math.min.name, Cond.initialized "java/lang/Math", Cond.code Lib.Math.min.name Lib.Math.min.code 2 (some .int), Cond.methodLink RX2 23 arraycopyName, Cond.native arraycopyName, Cond.static arraycopyName, Cond.initialized "java/lang/System", Cond.fieldLink RX2 13 "LightReceiver$Row" "count" "I", Cond.methodLink RX5 97 yX5_letPass, Cond.instanceMethod yX5_letPass, Cond.selects RX5 yX5_letPass yX5_letPass, Cond.code yX5_letPass cX5_letPass 2 none]
def wsX5_pass : List Cond := .code yX5_pass cX5_pass 2 (some .int) :: ((wsX5_pass_r1 ++ (wsX5_pass_r2 ++ wsX5_pass_r3)) ++ wsX50 ++ wsX40 ++ wsX30 ++ wsX20 ++ (vx_atS RX5 228 "java/lang/IllegalArgumentException" ["java/lang/RuntimeException", "java/lang/Exception"]).filter goodWord)
def wsX5_setGlare_r1 : List Cond := [Cond.fieldLink RX5 19 "LightReceiver" "saves" "LLightReceiver$Saves;", Cond.fieldLink RX5 12 "LightReceiver" "now" "LLightReceiver$State;", Cond.methodLink RX5 84 yX5_isWithin, Cond.static yX5_isWithin, Cond.initialized RX5, Cond.code yX5_isWithin cX5_isWithin 3 (some .boolean), Cond.methodLink RX5 88 yX5_checkArgument, Cond.static yX5_checkArgument, Cond.code yX5_checkArgument cX5_checkArgument 1 none, Cond.classLink RX5 224 "java/lang/IllegalArgumentException", Cond.initialized "java/lang/IllegalArgumentException", Cond.methodLink RX5 45 yX3_keep, Cond.instanceMethod yX3_keep, Cond.selects RX3 yX3_keep yX3_keep, Cond.initialized RX3, Cond.code yX3_keep cX3_keep 2 none, Cond.fieldLink RX3 18 "LightReceiver$Saves" "count" "I", Cond.fieldLink RX3 11 "LightReceiver$Saves" "states" "[LLightReceiver$State;", Cond.methodLink RX3 22 yX3_discardOldest, Cond.instanceMethod yX3_discardOldest, Cond.selects RX3 yX3_discardOldest yX3_discardOldest, Cond.code yX3_discardOldest cX3_discardOldest 4 none, Cond.methodLink RX3 25 yX4_become, Cond.instanceMethod yX4_become]
def wsX5_setGlare_r2 : List Cond := [Cond.selects RX4 yX4_become yX4_become, Cond.initialized RX4, Cond.code yX4_become cX4_become 2 none, Cond.fieldLink RX4 36 "LightReceiver$State" "glare" "I", Cond.fieldLink RX4 9 "LightReceiver$State" "gain" "I", Cond.fieldLink RX4 39 "LightReceiver$State" "address" "I", Cond.fieldLink RX4 42 "LightReceiver$State" "code" "I", Cond.fieldLink RX4 45 "LightReceiver$State" "toggle" "I", Cond.fieldLink RX4 48 "LightReceiver$State" "holds" "I", Cond.fieldLink RX4 15 "LightReceiver$State" "sinceAccepted" "I", Cond.fieldLink RX4 51 "LightReceiver$State" "presses" "I", Cond.fieldLink RX4 54 "LightReceiver$State" "received" "I", Cond.fieldLink RX4 57 "LightReceiver$State" "accepted" "I", Cond.fieldLink RX4 23 "LightReceiver$State" "actions" "LLightReceiver$Row;", Cond.fieldLink RX4 27 "LightReceiver$State" "timesDone" "LLightReceiver$Row;", Cond.fieldLink RX4 30 "LightReceiver$State" "refusals" "LLightReceiver$Row;", Cond.fieldLink RX4 33 "LightReceiver$State" "lightRow" "LLightReceiver$Row;", Cond.methodLink RX4 60 yX2_become, Cond.instanceMethod yX2_become, Cond.selects RX2 yX2_become yX2_become, Cond.initialized RX2, Cond.code yX2_become cX2_become 2 none, Cond.fieldLink RX2 7 "LightReceiver$Row" "values" "[I", Cond.methodLink RX2 17 Lib.Math.min.name]
def wsX5_setGlare_r3 : List Cond := [Cond.static Lib.Math.min.name, Cond.initialized "java/lang/Math", Cond.code Lib.Math.min.name Lib.Math.min.code 2 (some .int), Cond.methodLink RX2 23 arraycopyName, Cond.native arraycopyName, Cond.static arraycopyName, Cond.initialized "java/lang/System", Cond.fieldLink RX2 13 "LightReceiver$Row" "count" "I"]
def wsX5_setGlare : List Cond := .code yX5_setGlare cX5_setGlare 3 (some .int) :: ((wsX5_setGlare_r1 ++ (wsX5_setGlare_r2 ++ wsX5_setGlare_r3)) ++ wsX50 ++ wsX40 ++ wsX30 ++ wsX20 ++ (vx_atS RX5 228 "java/lang/IllegalArgumentException" ["java/lang/RuntimeException", "java/lang/Exception"]).filter goodWord)
def wsX5_setAddress_r1 : List Cond := [Cond.fieldLink RX5 19 "LightReceiver" "saves" "LLightReceiver$Saves;", Cond.fieldLink RX5 12 "LightReceiver" "now" "LLightReceiver$State;", Cond.methodLink RX5 84 yX5_isWithin, Cond.static yX5_isWithin, Cond.initialized RX5, Cond.code yX5_isWithin cX5_isWithin 3 (some .boolean), Cond.methodLink RX5 88 yX5_checkArgument, Cond.static yX5_checkArgument, Cond.code yX5_checkArgument cX5_checkArgument 1 none, Cond.classLink RX5 224 "java/lang/IllegalArgumentException", Cond.initialized "java/lang/IllegalArgumentException", Cond.methodLink RX5 45 yX3_keep, Cond.instanceMethod yX3_keep, Cond.selects RX3 yX3_keep yX3_keep, Cond.initialized RX3, Cond.code yX3_keep cX3_keep 2 none, Cond.fieldLink RX3 18 "LightReceiver$Saves" "count" "I", Cond.fieldLink RX3 11 "LightReceiver$Saves" "states" "[LLightReceiver$State;", Cond.methodLink RX3 22 yX3_discardOldest, Cond.instanceMethod yX3_discardOldest, Cond.selects RX3 yX3_discardOldest yX3_discardOldest, Cond.code yX3_discardOldest cX3_discardOldest 4 none, Cond.methodLink RX3 25 yX4_become, Cond.instanceMethod yX4_become]
def wsX5_setAddress_r2 : List Cond := [Cond.selects RX4 yX4_become yX4_become, Cond.initialized RX4, Cond.code yX4_become cX4_become 2 none, Cond.fieldLink RX4 36 "LightReceiver$State" "glare" "I", Cond.fieldLink RX4 9 "LightReceiver$State" "gain" "I", Cond.fieldLink RX4 39 "LightReceiver$State" "address" "I", Cond.fieldLink RX4 42 "LightReceiver$State" "code" "I", Cond.fieldLink RX4 45 "LightReceiver$State" "toggle" "I", Cond.fieldLink RX4 48 "LightReceiver$State" "holds" "I", Cond.fieldLink RX4 15 "LightReceiver$State" "sinceAccepted" "I", Cond.fieldLink RX4 51 "LightReceiver$State" "presses" "I", Cond.fieldLink RX4 54 "LightReceiver$State" "received" "I", Cond.fieldLink RX4 57 "LightReceiver$State" "accepted" "I", Cond.fieldLink RX4 23 "LightReceiver$State" "actions" "LLightReceiver$Row;", Cond.fieldLink RX4 27 "LightReceiver$State" "timesDone" "LLightReceiver$Row;", Cond.fieldLink RX4 30 "LightReceiver$State" "refusals" "LLightReceiver$Row;", Cond.fieldLink RX4 33 "LightReceiver$State" "lightRow" "LLightReceiver$Row;", Cond.methodLink RX4 60 yX2_become, Cond.instanceMethod yX2_become, Cond.selects RX2 yX2_become yX2_become, Cond.initialized RX2, Cond.code yX2_become cX2_become 2 none, Cond.fieldLink RX2 7 "LightReceiver$Row" "values" "[I", Cond.methodLink RX2 17 Lib.Math.min.name]
def wsX5_setAddress_r3 : List Cond := [Cond.static Lib.Math.min.name, Cond.initialized "java/lang/Math", Cond.code Lib.Math.min.name Lib.Math.min.code 2 (some .int), Cond.methodLink RX2 23 arraycopyName, Cond.native arraycopyName, Cond.static arraycopyName, Cond.initialized "java/lang/System", Cond.fieldLink RX2 13 "LightReceiver$Row" "count" "I"]
def wsX5_setAddress : List Cond := .code yX5_setAddress cX5_setAddress 3 (some .int) :: ((wsX5_setAddress_r1 ++ (wsX5_setAddress_r2 ++ wsX5_setAddress_r3)) ++ wsX50 ++ wsX40 ++ wsX30 ++ wsX20 ++ (vx_atS RX5 228 "java/lang/IllegalArgumentException" ["java/lang/RuntimeException", "java/lang/Exception"]).filter goodWord)
def wsX5_checkIndex : List Cond := .code yX5_checkIndex cX5_checkIndex 1 none :: ([.classLink RX5 229 "java/lang/IndexOutOfBoundsException", .initialized "java/lang/IndexOutOfBoundsException"] ++ (vx_atS RX5 233 "java/lang/IndexOutOfBoundsException" ["java/lang/RuntimeException", "java/lang/Exception"]).filter goodWord)
def wsX5_learn_r1 : List Cond := [Cond.fieldLink RX5 19 "LightReceiver" "saves" "LLightReceiver$Saves;", Cond.fieldLink RX5 12 "LightReceiver" "now" "LLightReceiver$State;", Cond.methodLink RX5 84 yX5_isWithin, Cond.static yX5_isWithin, Cond.initialized RX5, Cond.code yX5_isWithin cX5_isWithin 3 (some .boolean), Cond.methodLink RX5 109 yX5_checkIndex, Cond.static yX5_checkIndex, Cond.code yX5_checkIndex cX5_checkIndex 1 none, Cond.classLink RX5 229 "java/lang/IndexOutOfBoundsException", Cond.initialized "java/lang/IndexOutOfBoundsException", Cond.methodLink RX5 88 yX5_checkArgument, Cond.static yX5_checkArgument, Cond.code yX5_checkArgument cX5_checkArgument 1 none, Cond.classLink RX5 224 "java/lang/IllegalArgumentException", Cond.initialized "java/lang/IllegalArgumentException", Cond.methodLink RX5 45 yX3_keep, Cond.instanceMethod yX3_keep, Cond.selects RX3 yX3_keep yX3_keep, Cond.initialized RX3, Cond.code yX3_keep cX3_keep 2 none, Cond.fieldLink RX3 18 "LightReceiver$Saves" "count" "I", Cond.fieldLink RX3 11 "LightReceiver$Saves" "states" "[LLightReceiver$State;", Cond.methodLink RX3 22 yX3_discardOldest]
def wsX5_learn_r2 : List Cond := [Cond.instanceMethod yX3_discardOldest, Cond.selects RX3 yX3_discardOldest yX3_discardOldest, Cond.code yX3_discardOldest cX3_discardOldest 4 none, Cond.methodLink RX3 25 yX4_become, Cond.instanceMethod yX4_become, Cond.selects RX4 yX4_become yX4_become, Cond.initialized RX4, Cond.code yX4_become cX4_become 2 none, Cond.fieldLink RX4 36 "LightReceiver$State" "glare" "I", Cond.fieldLink RX4 9 "LightReceiver$State" "gain" "I", Cond.fieldLink RX4 39 "LightReceiver$State" "address" "I", Cond.fieldLink RX4 42 "LightReceiver$State" "code" "I", Cond.fieldLink RX4 45 "LightReceiver$State" "toggle" "I", Cond.fieldLink RX4 48 "LightReceiver$State" "holds" "I", Cond.fieldLink RX4 15 "LightReceiver$State" "sinceAccepted" "I", Cond.fieldLink RX4 51 "LightReceiver$State" "presses" "I", Cond.fieldLink RX4 54 "LightReceiver$State" "received" "I", Cond.fieldLink RX4 57 "LightReceiver$State" "accepted" "I", Cond.fieldLink RX4 23 "LightReceiver$State" "actions" "LLightReceiver$Row;", Cond.fieldLink RX4 27 "LightReceiver$State" "timesDone" "LLightReceiver$Row;", Cond.fieldLink RX4 30 "LightReceiver$State" "refusals" "LLightReceiver$Row;", Cond.fieldLink RX4 33 "LightReceiver$State" "lightRow" "LLightReceiver$Row;", Cond.methodLink RX4 60 yX2_become, Cond.instanceMethod yX2_become]
def wsX5_learn_r3 : List Cond := [Cond.selects RX2 yX2_become yX2_become, Cond.initialized RX2, Cond.code yX2_become cX2_become 2 none, Cond.fieldLink RX2 7 "LightReceiver$Row" "values" "[I", Cond.methodLink RX2 17 Lib.Math.min.name, Cond.static Lib.Math.min.name, Cond.initialized "java/lang/Math", Cond.code Lib.Math.min.name Lib.Math.min.code 2 (some .int), Cond.methodLink RX2 23 arraycopyName, Cond.native arraycopyName, Cond.static arraycopyName, Cond.initialized "java/lang/System", Cond.fieldLink RX2 13 "LightReceiver$Row" "count" "I", Cond.methodLink RX5 115 yX2_at, Cond.instanceMethod yX2_at, Cond.selects RX2 yX2_at yX2_at, Cond.code yX2_at cX2_at 2 (some .int), Cond.methodLink RX5 118 yX2_set, Cond.instanceMethod yX2_set, Cond.selects RX2 yX2_set yX2_set, Cond.code yX2_set cX2_set 3 none]
def wsX5_learn : List Cond := .code yX5_learn cX5_learn 4 (some .int) :: ((wsX5_learn_r1 ++ (wsX5_learn_r2 ++ wsX5_learn_r3)) ++ wsX50 ++ wsX40 ++ wsX30 ++ wsX20 ++ (vx_atS RX5 233 "java/lang/IndexOutOfBoundsException" ["java/lang/RuntimeException", "java/lang/Exception"]).filter goodWord ++ (vx_atS RX5 228 "java/lang/IllegalArgumentException" ["java/lang/RuntimeException", "java/lang/Exception"]).filter goodWord)
def wsX5_glare : List Cond := .code yX5_glare cX5_glare 1 (some .int) :: ([.fieldLink RX5 12 "LightReceiver" "now" "LLightReceiver$State;"] ++ wsX50 ++ wsX40)
def wsX5_gain : List Cond := .code yX5_gain cX5_gain 1 (some .int) :: ([.fieldLink RX5 12 "LightReceiver" "now" "LLightReceiver$State;"] ++ wsX50 ++ wsX40)
def wsX5_action : List Cond := .code yX5_action cX5_action 2 (some .int) :: ([.fieldLink RX5 12 "LightReceiver" "now" "LLightReceiver$State;", .methodLink RX5 84 yX5_isWithin, .static yX5_isWithin, .initialized RX5, .code yX5_isWithin cX5_isWithin 3 (some .boolean), .methodLink RX5 109 yX5_checkIndex, .static yX5_checkIndex, .code yX5_checkIndex cX5_checkIndex 1 none, .classLink RX5 229 "java/lang/IndexOutOfBoundsException", .initialized "java/lang/IndexOutOfBoundsException", .methodLink RX5 115 yX2_at, .instanceMethod yX2_at, .selects RX2 yX2_at yX2_at, .initialized RX2, .code yX2_at cX2_at 2 (some .int), .fieldLink RX2 13 "LightReceiver$Row" "count" "I", .fieldLink RX2 7 "LightReceiver$Row" "values" "[I"] ++ wsX50 ++ wsX40 ++ wsX20 ++ (vx_atS RX5 233 "java/lang/IndexOutOfBoundsException" ["java/lang/RuntimeException", "java/lang/Exception"]).filter goodWord)
def wsX5_done : List Cond := .code yX5_done cX5_done 2 (some .int) :: ([.fieldLink RX5 12 "LightReceiver" "now" "LLightReceiver$State;", .methodLink RX5 84 yX5_isWithin, .static yX5_isWithin, .initialized RX5, .code yX5_isWithin cX5_isWithin 3 (some .boolean), .methodLink RX5 109 yX5_checkIndex, .static yX5_checkIndex, .code yX5_checkIndex cX5_checkIndex 1 none, .classLink RX5 229 "java/lang/IndexOutOfBoundsException", .initialized "java/lang/IndexOutOfBoundsException", .methodLink RX5 115 yX2_at, .instanceMethod yX2_at, .selects RX2 yX2_at yX2_at, .initialized RX2, .code yX2_at cX2_at 2 (some .int), .fieldLink RX2 13 "LightReceiver$Row" "count" "I", .fieldLink RX2 7 "LightReceiver$Row" "values" "[I"] ++ wsX50 ++ wsX40 ++ wsX20 ++ (vx_atS RX5 233 "java/lang/IndexOutOfBoundsException" ["java/lang/RuntimeException", "java/lang/Exception"]).filter goodWord)
def wsX5_remembered : List Cond := .code yX5_remembered cX5_remembered 1 (some .int) :: ([.fieldLink RX5 12 "LightReceiver" "now" "LLightReceiver$State;", .methodLink RX5 128 yX4_remembers, .instanceMethod yX4_remembers, .selects RX4 yX4_remembers yX4_remembers, .initialized RX4, .code yX4_remembers cX4_remembers 1 (some .boolean), .fieldLink RX4 15 "LightReceiver$State" "sinceAccepted" "I"] ++ wsX50 ++ wsX40)
def wsX5_holds : List Cond := .code yX5_holds cX5_holds 1 (some .int) :: ([.fieldLink RX5 12 "LightReceiver" "now" "LLightReceiver$State;", .methodLink RX5 128 yX4_remembers, .instanceMethod yX4_remembers, .selects RX4 yX4_remembers yX4_remembers, .initialized RX4, .code yX4_remembers cX4_remembers 1 (some .boolean), .fieldLink RX4 15 "LightReceiver$State" "sinceAccepted" "I"] ++ wsX50 ++ wsX40)
def wsX5_presses : List Cond := .code yX5_presses cX5_presses 1 (some .int) :: ([.fieldLink RX5 12 "LightReceiver" "now" "LLightReceiver$State;"] ++ wsX50 ++ wsX40)
def wsX5_refused : List Cond := .code yX5_refused cX5_refused 2 (some .int) :: ([.fieldLink RX5 12 "LightReceiver" "now" "LLightReceiver$State;", .methodLink RX5 84 yX5_isWithin, .static yX5_isWithin, .initialized RX5, .code yX5_isWithin cX5_isWithin 3 (some .boolean), .methodLink RX5 109 yX5_checkIndex, .static yX5_checkIndex, .code yX5_checkIndex cX5_checkIndex 1 none, .classLink RX5 229 "java/lang/IndexOutOfBoundsException", .initialized "java/lang/IndexOutOfBoundsException", .methodLink RX5 115 yX2_at, .instanceMethod yX2_at, .selects RX2 yX2_at yX2_at, .initialized RX2, .code yX2_at cX2_at 2 (some .int), .fieldLink RX2 13 "LightReceiver$Row" "count" "I", .fieldLink RX2 7 "LightReceiver$Row" "values" "[I"] ++ wsX50 ++ wsX40 ++ wsX20 ++ (vx_atS RX5 233 "java/lang/IndexOutOfBoundsException" ["java/lang/RuntimeException", "java/lang/Exception"]).filter goodWord)
def wsX5_row : List Cond := .code yX5_row cX5_row 1 (some .int) :: ([.fieldLink RX5 12 "LightReceiver" "now" "LLightReceiver$State;"] ++ wsX50 ++ wsX40 ++ wsX20)
def wsX5_received : List Cond := .code yX5_received cX5_received 1 (some .int) :: ([.fieldLink RX5 12 "LightReceiver" "now" "LLightReceiver$State;"] ++ wsX50 ++ wsX40)
def wsX5_hitShare : List Cond := .code yX5_hitShare cX5_hitShare 1 (some .double) :: ([.fieldLink RX5 12 "LightReceiver" "now" "LLightReceiver$State;"] ++ wsX50 ++ wsX40)
def wsX5_bit_r1 : List Cond := [Cond.methodLink RX5 37 yX5_checkFrame, Cond.static yX5_checkFrame, Cond.initialized RX5, Cond.code yX5_checkFrame cX5_checkFrame 3 none, Cond.methodLink RX5 84 yX5_isWithin, Cond.static yX5_isWithin, Cond.code yX5_isWithin cX5_isWithin 3 (some .boolean), Cond.methodLink RX5 88 yX5_checkArgument, Cond.static yX5_checkArgument, Cond.code yX5_checkArgument cX5_checkArgument 1 none, Cond.classLink RX5 224 "java/lang/IllegalArgumentException", Cond.initialized "java/lang/IllegalArgumentException", Cond.methodLink RX5 150 yX5_wordOf, Cond.static yX5_wordOf, Cond.code yX5_wordOf cX5_wordOf 4 (some .int), Cond.methodLink RX5 234 yJ6_bitCount_0f7a4, Cond.static yJ6_bitCount_0f7a4, Cond.initialized RJ6, Cond.code yJ6_bitCount_0f7a4 cJ6_bitCount_0f7a4 1 (some .int), Cond.constant RJ6 265 (1431655765), Cond.constant RJ6 266 (858993459), Cond.constant RJ6 267 (252645135), Cond.methodLink RX5 154 yX5_bitOf, Cond.static yX5_bitOf]
def wsX5_bit_r2 : List Cond := [Cond.code yX5_bitOf cX5_bitOf 2 (some .int)]
def wsX5_bit : List Cond := .code yX5_bit cX5_bit 5 (some .int) :: ((wsX5_bit_r1 ++ wsX5_bit_r2) ++ (vx_atS RX5 228 "java/lang/IllegalArgumentException" ["java/lang/RuntimeException", "java/lang/Exception"]).filter goodWord)
def wsX5_ifFrame_r1 : List Cond := [Cond.fieldLink RX5 33 "LightReceiver" "ear" "LLightReceiver$Ear;", Cond.fieldLink RX5 12 "LightReceiver" "now" "LLightReceiver$State;", Cond.methodLink RX5 37 yX5_checkFrame, Cond.static yX5_checkFrame, Cond.initialized RX5, Cond.code yX5_checkFrame cX5_checkFrame 3 none, Cond.methodLink RX5 84 yX5_isWithin, Cond.static yX5_isWithin, Cond.code yX5_isWithin cX5_isWithin 3 (some .boolean), Cond.methodLink RX5 88 yX5_checkArgument, Cond.static yX5_checkArgument, Cond.code yX5_checkArgument cX5_checkArgument 1 none, Cond.classLink RX5 224 "java/lang/IllegalArgumentException", Cond.initialized "java/lang/IllegalArgumentException", Cond.methodLink RX5 41 yX5_checkStrength, Cond.static yX5_checkStrength, Cond.code yX5_checkStrength cX5_checkStrength 1 none, Cond.methodLink RX5 158 yX0_sendFrame, Cond.instanceMethod yX0_sendFrame, Cond.selects RX0 yX0_sendFrame yX0_sendFrame, Cond.initialized RX0, Cond.code yX0_sendFrame cX0_sendFrame 6 none, Cond.fieldLink RX0 14 "LightReceiver$Ear" "sent" "LLightReceiver$Row;", Cond.static yX5_wordOf]
def wsX5_ifFrame_r2 : List Cond := [Cond.code yX5_wordOf cX5_wordOf 4 (some .int), Cond.methodLink RX5 234 yJ6_bitCount_0f7a4, Cond.static yJ6_bitCount_0f7a4, Cond.initialized RJ6, Cond.code yJ6_bitCount_0f7a4 cJ6_bitCount_0f7a4 1 (some .int), Cond.constant RJ6 265 (1431655765), Cond.constant RJ6 266 (858993459), Cond.constant RJ6 267 (252645135), Cond.methodLink RX0 27 yX2_empty, Cond.instanceMethod yX2_empty, Cond.selects RX2 yX2_empty yX2_empty, Cond.initialized RX2, Cond.code yX2_empty cX2_empty 1 none, Cond.fieldLink RX2 13 "LightReceiver$Row" "count" "I", Cond.methodLink RX0 30 yX2_add, Cond.instanceMethod yX2_add, Cond.selects RX2 yX2_add yX2_add, Cond.code yX2_add cX2_add 2 none, Cond.fieldLink RX2 7 "LightReceiver$Row" "values" "[I", Cond.static yX5_bitOf, Cond.code yX5_bitOf cX5_bitOf 2 (some .int), Cond.methodLink RX5 161 yX5_verdict, Cond.instanceMethod yX5_verdict, Cond.selects RX5 yX5_verdict yX5_verdict]
def wsX5_ifFrame_r3 : List Cond := [Cond.code yX5_verdict cX5_verdict 5 (some .int), Cond.methodLink RX5 248 yX0_listen, Cond.instanceMethod yX0_listen, Cond.selects RX0 yX0_listen yX0_listen, Cond.code yX0_listen cX0_listen 9 none, Cond.fieldLink RX0 46 "LightReceiver$Ear" "missedAny" "Z", Cond.fieldLink RX0 20 "LightReceiver$Ear" "left" "LLightReceiver$Row;", Cond.methodLink RX0 57 Lib.Math.max.name, Cond.static Lib.Math.max.name, Cond.initialized "java/lang/Math", Cond.code Lib.Math.max.name Lib.Math.max.code 2 (some .int), Cond.static yX5_weakestHeard, Cond.code yX5_weakestHeard cX5_weakestHeard 1 (some .int), Cond.methodLink RX0 54 yX2_at, Cond.instanceMethod yX2_at, Cond.selects RX2 yX2_at yX2_at, Cond.code yX2_at cX2_at 2 (some .int), Cond.methodLink RX5 251 yX0_decode, Cond.instanceMethod yX0_decode, Cond.selects RX0 yX0_decode yX0_decode, Cond.code yX0_decode cX0_decode 3 (some .int), Cond.fieldLink RX0 67 "LightReceiver$Ear" "address" "I", Cond.fieldLink RX0 70 "LightReceiver$Ear" "code" "I", Cond.fieldLink RX0 73 "LightReceiver$Ear" "toggle" "I"]
def wsX5_ifFrame_r4 : List Cond := [Cond.methodLink RX0 62 yJ6_bitCount_0f7a4, Cond.methodLink RX5 128 yX4_remembers, Cond.instanceMethod yX4_remembers, Cond.selects RX4 yX4_remembers yX4_remembers, Cond.initialized RX4, Cond.code yX4_remembers cX4_remembers 1 (some .boolean), Cond.fieldLink RX4 15 "LightReceiver$State" "sinceAccepted" "I"]
def wsX5_ifFrame : List Cond := .code yX5_ifFrame cX5_ifFrame 5 (some .int) :: ((wsX5_ifFrame_r1 ++ (wsX5_ifFrame_r2 ++ (wsX5_ifFrame_r3 ++ wsX5_ifFrame_r4))) ++ wsX50 ++ wsX40 ++ wsX00 ++ wsX20 ++ (vx_atS RX5 228 "java/lang/IllegalArgumentException" ["java/lang/RuntimeException", "java/lang/Exception"]).filter goodWord)
def wsX5_leastStrength_r1 : List Cond := [Cond.fieldLink RX5 12 "LightReceiver" "now" "LLightReceiver$State;", Cond.fieldLink RX5 33 "LightReceiver" "ear" "LLightReceiver$Ear;", Cond.methodLink RX5 164 yX5_weakestHeard, Cond.static yX5_weakestHeard, Cond.initialized RX5, Cond.code yX5_weakestHeard cX5_weakestHeard 1 (some .int), Cond.methodLink RX5 158 yX0_sendFrame, Cond.instanceMethod yX0_sendFrame, Cond.selects RX0 yX0_sendFrame yX0_sendFrame, Cond.initialized RX0, Cond.code yX0_sendFrame cX0_sendFrame 6 none, Cond.fieldLink RX0 14 "LightReceiver$Ear" "sent" "LLightReceiver$Row;", Cond.static yX5_wordOf, Cond.code yX5_wordOf cX5_wordOf 4 (some .int), Cond.methodLink RX5 234 yJ6_bitCount_0f7a4, Cond.static yJ6_bitCount_0f7a4, Cond.initialized RJ6, Cond.code yJ6_bitCount_0f7a4 cJ6_bitCount_0f7a4 1 (some .int), Cond.constant RJ6 265 (1431655765), Cond.constant RJ6 266 (858993459), Cond.constant RJ6 267 (252645135), Cond.methodLink RX0 27 yX2_empty, Cond.instanceMethod yX2_empty, Cond.selects RX2 yX2_empty yX2_empty]
def wsX5_leastStrength_r2 : List Cond := [Cond.initialized RX2, Cond.code yX2_empty cX2_empty 1 none, Cond.fieldLink RX2 13 "LightReceiver$Row" "count" "I", Cond.methodLink RX0 30 yX2_add, Cond.instanceMethod yX2_add, Cond.selects RX2 yX2_add yX2_add, Cond.code yX2_add cX2_add 2 none, Cond.fieldLink RX2 7 "LightReceiver$Row" "values" "[I", Cond.static yX5_bitOf, Cond.code yX5_bitOf cX5_bitOf 2 (some .int), Cond.methodLink RX5 161 yX5_verdict, Cond.instanceMethod yX5_verdict, Cond.selects RX5 yX5_verdict yX5_verdict, Cond.code yX5_verdict cX5_verdict 5 (some .int), Cond.methodLink RX5 248 yX0_listen, Cond.instanceMethod yX0_listen, Cond.selects RX0 yX0_listen yX0_listen, Cond.code yX0_listen cX0_listen 9 none, Cond.fieldLink RX0 46 "LightReceiver$Ear" "missedAny" "Z", Cond.fieldLink RX0 20 "LightReceiver$Ear" "left" "LLightReceiver$Row;", Cond.methodLink RX0 57 Lib.Math.max.name, Cond.static Lib.Math.max.name, Cond.initialized "java/lang/Math", Cond.code Lib.Math.max.name Lib.Math.max.code 2 (some .int)]
def wsX5_leastStrength_r3 : List Cond := [Cond.methodLink RX0 54 yX2_at, Cond.instanceMethod yX2_at, Cond.selects RX2 yX2_at yX2_at, Cond.code yX2_at cX2_at 2 (some .int), Cond.methodLink RX5 251 yX0_decode, Cond.instanceMethod yX0_decode, Cond.selects RX0 yX0_decode yX0_decode, Cond.code yX0_decode cX0_decode 3 (some .int), Cond.fieldLink RX0 67 "LightReceiver$Ear" "address" "I", Cond.fieldLink RX0 70 "LightReceiver$Ear" "code" "I", Cond.fieldLink RX0 73 "LightReceiver$Ear" "toggle" "I", Cond.methodLink RX0 62 yJ6_bitCount_0f7a4, Cond.methodLink RX5 128 yX4_remembers, Cond.instanceMethod yX4_remembers, Cond.selects RX4 yX4_remembers yX4_remembers, Cond.initialized RX4, Cond.code yX4_remembers cX4_remembers 1 (some .boolean), Cond.fieldLink RX4 15 "LightReceiver$State" "sinceAccepted" "I", Cond.methodLink RX5 167 yX5_isAccepted, Cond.static yX5_isAccepted, Cond.code yX5_isAccepted cX5_isAccepted 1 (some .boolean)]
def wsX5_leastStrength : List Cond := .code yX5_leastStrength cX5_leastStrength 2 (some .int) :: ((wsX5_leastStrength_r1 ++ (wsX5_leastStrength_r2 ++ wsX5_leastStrength_r3)) ++ wsX50 ++ wsX40 ++ wsX00 ++ wsX20)
def wsX5_refusalsToCome_r1 : List Cond := [Cond.fieldLink RX5 33 "LightReceiver" "ear" "LLightReceiver$Ear;", Cond.fieldLink RX5 12 "LightReceiver" "now" "LLightReceiver$State;", Cond.methodLink RX5 158 yX0_sendFrame, Cond.instanceMethod yX0_sendFrame, Cond.selects RX0 yX0_sendFrame yX0_sendFrame, Cond.initialized RX0, Cond.code yX0_sendFrame cX0_sendFrame 6 none, Cond.fieldLink RX0 14 "LightReceiver$Ear" "sent" "LLightReceiver$Row;", Cond.static yX5_wordOf, Cond.initialized RX5, Cond.code yX5_wordOf cX5_wordOf 4 (some .int), Cond.methodLink RX5 234 yJ6_bitCount_0f7a4, Cond.static yJ6_bitCount_0f7a4, Cond.initialized RJ6, Cond.code yJ6_bitCount_0f7a4 cJ6_bitCount_0f7a4 1 (some .int), Cond.constant RJ6 265 (1431655765), Cond.constant RJ6 266 (858993459), Cond.constant RJ6 267 (252645135), Cond.methodLink RX0 27 yX2_empty, Cond.instanceMethod yX2_empty, Cond.selects RX2 yX2_empty yX2_empty, Cond.initialized RX2, Cond.code yX2_empty cX2_empty 1 none, Cond.fieldLink RX2 13 "LightReceiver$Row" "count" "I"]
def wsX5_refusalsToCome_r2 : List Cond := [Cond.methodLink RX0 30 yX2_add, Cond.instanceMethod yX2_add, Cond.selects RX2 yX2_add yX2_add, Cond.code yX2_add cX2_add 2 none, Cond.fieldLink RX2 7 "LightReceiver$Row" "values" "[I", Cond.static yX5_bitOf, Cond.code yX5_bitOf cX5_bitOf 2 (some .int), Cond.methodLink RX5 161 yX5_verdict, Cond.instanceMethod yX5_verdict, Cond.selects RX5 yX5_verdict yX5_verdict, Cond.code yX5_verdict cX5_verdict 5 (some .int), Cond.methodLink RX5 248 yX0_listen, Cond.instanceMethod yX0_listen, Cond.selects RX0 yX0_listen yX0_listen, Cond.code yX0_listen cX0_listen 9 none, Cond.fieldLink RX0 46 "LightReceiver$Ear" "missedAny" "Z", Cond.fieldLink RX0 20 "LightReceiver$Ear" "left" "LLightReceiver$Row;", Cond.methodLink RX0 57 Lib.Math.max.name, Cond.static Lib.Math.max.name, Cond.initialized "java/lang/Math", Cond.code Lib.Math.max.name Lib.Math.max.code 2 (some .int), Cond.static yX5_weakestHeard, Cond.code yX5_weakestHeard cX5_weakestHeard 1 (some .int), Cond.methodLink RX0 54 yX2_at]
def wsX5_refusalsToCome_r3 : List Cond := [Cond.instanceMethod yX2_at, Cond.selects RX2 yX2_at yX2_at, Cond.code yX2_at cX2_at 2 (some .int), Cond.methodLink RX5 251 yX0_decode, Cond.instanceMethod yX0_decode, Cond.selects RX0 yX0_decode yX0_decode, Cond.code yX0_decode cX0_decode 3 (some .int), Cond.fieldLink RX0 67 "LightReceiver$Ear" "address" "I", Cond.fieldLink RX0 70 "LightReceiver$Ear" "code" "I", Cond.fieldLink RX0 73 "LightReceiver$Ear" "toggle" "I", Cond.methodLink RX0 62 yJ6_bitCount_0f7a4, Cond.methodLink RX5 128 yX4_remembers, Cond.instanceMethod yX4_remembers, Cond.selects RX4 yX4_remembers yX4_remembers, Cond.initialized RX4, Cond.code yX4_remembers cX4_remembers 1 (some .boolean), Cond.fieldLink RX4 15 "LightReceiver$State" "sinceAccepted" "I", Cond.methodLink RX5 167 yX5_isAccepted, Cond.static yX5_isAccepted, Cond.code yX5_isAccepted cX5_isAccepted 1 (some .boolean), Cond.methodLink RX5 171 yX5_gainAfter, Cond.instanceMethod yX5_gainAfter, Cond.selects RX5 yX5_gainAfter yX5_gainAfter, Cond.code yX5_gainAfter cX5_gainAfter 2 (some .int)]
def wsX5_refusalsToCome_r4 : List Cond := [Cond.methodLink RX5 264 Lib.Math.max.name, Cond.methodLink RX5 269 Lib.Math.min.name, Cond.static Lib.Math.min.name, Cond.code Lib.Math.min.name Lib.Math.min.code 2 (some .int)]
def wsX5_refusalsToCome : List Cond := .code yX5_refusalsToCome cX5_refusalsToCome 3 (some .int) :: ((wsX5_refusalsToCome_r1 ++ (wsX5_refusalsToCome_r2 ++ (wsX5_refusalsToCome_r3 ++ wsX5_refusalsToCome_r4))) ++ wsX50 ++ wsX40 ++ wsX00 ++ wsX20)
def wsX5_ticksToForget : List Cond := .code yX5_ticksToForget cX5_ticksToForget 1 (some .int) :: ([.fieldLink RX5 12 "LightReceiver" "now" "LLightReceiver$State;", .methodLink RX5 128 yX4_remembers, .instanceMethod yX4_remembers, .selects RX4 yX4_remembers yX4_remembers, .initialized RX4, .code yX4_remembers cX4_remembers 1 (some .boolean), .fieldLink RX4 15 "LightReceiver$State" "sinceAccepted" "I"] ++ wsX50 ++ wsX40)
def wsX5_undo_r1 : List Cond := [Cond.classLink RX5 67 "java/lang/IllegalStateException", Cond.initialized "java/lang/IllegalStateException", Cond.fieldLink RX5 19 "LightReceiver" "saves" "LLightReceiver$Saves;", Cond.fieldLink RX5 12 "LightReceiver" "now" "LLightReceiver$State;", Cond.methodLink RX5 192 yX3_giveBack, Cond.instanceMethod yX3_giveBack, Cond.selects RX3 yX3_giveBack yX3_giveBack, Cond.initialized RX3, Cond.code yX3_giveBack cX3_giveBack 2 none, Cond.fieldLink RX3 18 "LightReceiver$Saves" "count" "I", Cond.fieldLink RX3 11 "LightReceiver$Saves" "states" "[LLightReceiver$State;", Cond.methodLink RX3 25 yX4_become, Cond.instanceMethod yX4_become, Cond.selects RX4 yX4_become yX4_become, Cond.initialized RX4, Cond.code yX4_become cX4_become 2 none, Cond.fieldLink RX4 36 "LightReceiver$State" "glare" "I", Cond.fieldLink RX4 9 "LightReceiver$State" "gain" "I", Cond.fieldLink RX4 39 "LightReceiver$State" "address" "I", Cond.fieldLink RX4 42 "LightReceiver$State" "code" "I", Cond.fieldLink RX4 45 "LightReceiver$State" "toggle" "I", Cond.fieldLink RX4 48 "LightReceiver$State" "holds" "I", Cond.fieldLink RX4 15 "LightReceiver$State" "sinceAccepted" "I", Cond.fieldLink RX4 51 "LightReceiver$State" "presses" "I"]
def wsX5_undo_r2 : List Cond := [Cond.fieldLink RX4 54 "LightReceiver$State" "received" "I", Cond.fieldLink RX4 57 "LightReceiver$State" "accepted" "I", Cond.fieldLink RX4 23 "LightReceiver$State" "actions" "LLightReceiver$Row;", Cond.fieldLink RX4 27 "LightReceiver$State" "timesDone" "LLightReceiver$Row;", Cond.fieldLink RX4 30 "LightReceiver$State" "refusals" "LLightReceiver$Row;", Cond.fieldLink RX4 33 "LightReceiver$State" "lightRow" "LLightReceiver$Row;", Cond.methodLink RX4 60 yX2_become, Cond.instanceMethod yX2_become, Cond.selects RX2 yX2_become yX2_become, Cond.initialized RX2, Cond.code yX2_become cX2_become 2 none, Cond.fieldLink RX2 7 "LightReceiver$Row" "values" "[I", Cond.methodLink RX2 17 Lib.Math.min.name, Cond.static Lib.Math.min.name, Cond.initialized "java/lang/Math", Cond.code Lib.Math.min.name Lib.Math.min.code 2 (some .int), Cond.methodLink RX2 23 arraycopyName, Cond.native arraycopyName, Cond.static arraycopyName, Cond.initialized "java/lang/System", Cond.fieldLink RX2 13 "LightReceiver$Row" "count" "I"]
def wsX5_undo : List Cond := .code yX5_undo cX5_undo 1 (some .int) :: ((wsX5_undo_r1 ++ wsX5_undo_r2) ++ wsX50 ++ wsX30 ++ wsX40 ++ wsX20 ++ (vx_atS RX5 71 "java/lang/IllegalStateException" ["java/lang/RuntimeException", "java/lang/Exception"]).filter goodWord)
def wsJ9_max_7cf53 : List Cond := .code yJ9_max_7cf53 cJ9_max_7cf53 2 (some .int) :: ([])
def wsJ9_min_7cf53 : List Cond := .code yJ9_min_7cf53 cJ9_min_7cf53 2 (some .int) :: ([])
def wsL_cell : List Cond := .code yL_cell cL_cell 2 (some .int) :: ([])
def wsL_low : List Cond := .code yL_low cL_low 2 (some .int) :: ([.constant RL 7 (2147483647)])
def wsL_shine_r1 : List Cond := [Cond.methodLink RL 8 yL_low, Cond.static yL_low, Cond.initialized RL, Cond.code yL_low cL_low 2 (some .int), Cond.constant RL 7 (2147483647), Cond.methodLink RL 14 yX5_shine, Cond.instanceMethod yX5_shine, Cond.selects RX5 yX5_shine yX5_shine, Cond.initialized RX5, Cond.code yX5_shine cX5_shine 2 (some .int), Cond.classLink RX5 67 "java/lang/IllegalStateException", Cond.initialized "java/lang/IllegalStateException", Cond.fieldLink RX5 12 "LightReceiver" "now" "LLightReceiver$State;", Cond.fieldLink RX5 19 "LightReceiver" "saves" "LLightReceiver$Saves;", Cond.methodLink RX5 84 yX5_isWithin, Cond.static yX5_isWithin, Cond.code yX5_isWithin cX5_isWithin 3 (some .boolean), Cond.methodLink RX5 88 yX5_checkArgument, Cond.static yX5_checkArgument, Cond.code yX5_checkArgument cX5_checkArgument 1 none, Cond.classLink RX5 224 "java/lang/IllegalArgumentException", Cond.initialized "java/lang/IllegalArgumentException", Cond.methodLink RX5 45 yX3_keep, Cond.instanceMethod yX3_keep]
def wsL_shine_r2 : List Cond := [Cond.selects RX3 yX3_keep yX3_keep, Cond.initialized RX3, Cond.code yX3_keep cX3_keep 2 none, Cond.fieldLink RX3 18 "LightReceiver$Saves" "count" "I", Cond.fieldLink RX3 11 "LightReceiver$Saves" "states" "[LLightReceiver$State;", Cond.methodLink RX3 22 yX3_discardOldest, Cond.instanceMethod yX3_discardOldest, Cond.selects RX3 yX3_discardOldest yX3_discardOldest, Cond.code yX3_discardOldest cX3_discardOldest 4 none, Cond.methodLink RX3 25 yX4_become, Cond.instanceMethod yX4_become, Cond.selects RX4 yX4_become yX4_become, Cond.initialized RX4, Cond.code yX4_become cX4_become 2 none, Cond.fieldLink RX4 36 "LightReceiver$State" "glare" "I", Cond.fieldLink RX4 9 "LightReceiver$State" "gain" "I", Cond.fieldLink RX4 39 "LightReceiver$State" "address" "I", Cond.fieldLink RX4 42 "LightReceiver$State" "code" "I", Cond.fieldLink RX4 45 "LightReceiver$State" "toggle" "I", Cond.fieldLink RX4 48 "LightReceiver$State" "holds" "I", Cond.fieldLink RX4 15 "LightReceiver$State" "sinceAccepted" "I", Cond.fieldLink RX4 51 "LightReceiver$State" "presses" "I", Cond.fieldLink RX4 54 "LightReceiver$State" "received" "I", Cond.fieldLink RX4 57 "LightReceiver$State" "accepted" "I"]
def wsL_shine_r3 : List Cond := [Cond.fieldLink RX4 23 "LightReceiver$State" "actions" "LLightReceiver$Row;", Cond.fieldLink RX4 27 "LightReceiver$State" "timesDone" "LLightReceiver$Row;", Cond.fieldLink RX4 30 "LightReceiver$State" "refusals" "LLightReceiver$Row;", Cond.fieldLink RX4 33 "LightReceiver$State" "lightRow" "LLightReceiver$Row;", Cond.methodLink RX4 60 yX2_become, Cond.instanceMethod yX2_become, Cond.selects RX2 yX2_become yX2_become, Cond.initialized RX2, Cond.code yX2_become cX2_become 2 none, Cond.fieldLink RX2 7 "LightReceiver$Row" "values" "[I", Cond.methodLink RX2 17 Lib.Math.min.name, Cond.static Lib.Math.min.name, Cond.initialized "java/lang/Math", Cond.code Lib.Math.min.name Lib.Math.min.code 2 (some .int), Cond.methodLink RX2 23 arraycopyName, Cond.native arraycopyName, Cond.static arraycopyName, Cond.initialized "java/lang/System", Cond.fieldLink RX2 13 "LightReceiver$Row" "count" "I", Cond.methodLink RX5 94 yX2_add, Cond.instanceMethod yX2_add, Cond.selects RX2 yX2_add yX2_add, Cond.code yX2_add cX2_add 2 none]
def wsL_shine : List Cond := .code yL_shine cL_shine 9 none :: ((wsL_shine_r1 ++ (wsL_shine_r2 ++ wsL_shine_r3)) ++ wsX50 ++ wsX40 ++ wsX20 ++ wsX30 ++ (vx_atS RX5 71 "java/lang/IllegalStateException" ["java/lang/RuntimeException", "java/lang/Exception"]).filter goodWord ++ (vx_atS RX5 228 "java/lang/IllegalArgumentException" ["java/lang/RuntimeException", "java/lang/Exception"]).filter goodWord)
def wsL_does_r1 : List Cond := [Cond.methodLink RL 8 yL_low, Cond.static yL_low, Cond.initialized RL, Cond.code yL_low cL_low 2 (some .int), Cond.constant RL 7 (2147483647), Cond.methodLink RL 20 yX5_frame, Cond.instanceMethod yX5_frame, Cond.selects RX5 yX5_frame yX5_frame, Cond.initialized RX5, Cond.code yX5_frame cX5_frame 5 (some .int), Cond.fieldLink RX5 19 "LightReceiver" "saves" "LLightReceiver$Saves;", Cond.fieldLink RX5 12 "LightReceiver" "now" "LLightReceiver$State;", Cond.methodLink RX5 37 yX5_checkFrame, Cond.static yX5_checkFrame, Cond.code yX5_checkFrame cX5_checkFrame 3 none, Cond.methodLink RX5 84 yX5_isWithin, Cond.static yX5_isWithin, Cond.code yX5_isWithin cX5_isWithin 3 (some .boolean), Cond.methodLink RX5 88 yX5_checkArgument, Cond.static yX5_checkArgument, Cond.code yX5_checkArgument cX5_checkArgument 1 none, Cond.classLink RX5 224 "java/lang/IllegalArgumentException", Cond.initialized "java/lang/IllegalArgumentException", Cond.methodLink RX5 41 yX5_checkStrength]
def wsL_does_r2 : List Cond := [Cond.static yX5_checkStrength, Cond.code yX5_checkStrength cX5_checkStrength 1 none, Cond.methodLink RX5 45 yX3_keep, Cond.instanceMethod yX3_keep, Cond.selects RX3 yX3_keep yX3_keep, Cond.initialized RX3, Cond.code yX3_keep cX3_keep 2 none, Cond.fieldLink RX3 18 "LightReceiver$Saves" "count" "I", Cond.fieldLink RX3 11 "LightReceiver$Saves" "states" "[LLightReceiver$State;", Cond.methodLink RX3 22 yX3_discardOldest, Cond.instanceMethod yX3_discardOldest, Cond.selects RX3 yX3_discardOldest yX3_discardOldest, Cond.code yX3_discardOldest cX3_discardOldest 4 none, Cond.methodLink RX3 25 yX4_become, Cond.instanceMethod yX4_become, Cond.selects RX4 yX4_become yX4_become, Cond.initialized RX4, Cond.code yX4_become cX4_become 2 none, Cond.fieldLink RX4 36 "LightReceiver$State" "glare" "I", Cond.fieldLink RX4 9 "LightReceiver$State" "gain" "I", Cond.fieldLink RX4 39 "LightReceiver$State" "address" "I", Cond.fieldLink RX4 42 "LightReceiver$State" "code" "I", Cond.fieldLink RX4 45 "LightReceiver$State" "toggle" "I", Cond.fieldLink RX4 48 "LightReceiver$State" "holds" "I"]
def wsL_does_r3 : List Cond := [Cond.fieldLink RX4 15 "LightReceiver$State" "sinceAccepted" "I", Cond.fieldLink RX4 51 "LightReceiver$State" "presses" "I", Cond.fieldLink RX4 54 "LightReceiver$State" "received" "I", Cond.fieldLink RX4 57 "LightReceiver$State" "accepted" "I", Cond.fieldLink RX4 23 "LightReceiver$State" "actions" "LLightReceiver$Row;", Cond.fieldLink RX4 27 "LightReceiver$State" "timesDone" "LLightReceiver$Row;", Cond.fieldLink RX4 30 "LightReceiver$State" "refusals" "LLightReceiver$Row;", Cond.fieldLink RX4 33 "LightReceiver$State" "lightRow" "LLightReceiver$Row;", Cond.methodLink RX4 60 yX2_become, Cond.instanceMethod yX2_become, Cond.selects RX2 yX2_become yX2_become, Cond.initialized RX2, Cond.code yX2_become cX2_become 2 none, Cond.fieldLink RX2 7 "LightReceiver$Row" "values" "[I", Cond.methodLink RX2 17 Lib.Math.min.name, Cond.static Lib.Math.min.name, Cond.initialized "java/lang/Math", Cond.code Lib.Math.min.name Lib.Math.min.code 2 (some .int), Cond.methodLink RX2 23 arraycopyName, Cond.native arraycopyName, Cond.static arraycopyName, Cond.initialized "java/lang/System", Cond.fieldLink RX2 13 "LightReceiver$Row" "count" "I", Cond.methodLink RX5 49 yX5_hearFrame]
def wsL_does_r4 : List Cond := [Cond.instanceMethod yX5_hearFrame, Cond.selects RX5 yX5_hearFrame yX5_hearFrame, Cond.code yX5_hearFrame cX5_hearFrame 5 (some .int), Cond.fieldLink RX5 33 "LightReceiver" "ear" "LLightReceiver$Ear;", Cond.methodLink RX5 158 yX0_sendFrame, Cond.instanceMethod yX0_sendFrame, Cond.selects RX0 yX0_sendFrame yX0_sendFrame, Cond.initialized RX0, Cond.code yX0_sendFrame cX0_sendFrame 6 none, Cond.fieldLink RX0 14 "LightReceiver$Ear" "sent" "LLightReceiver$Row;", Cond.static yX5_wordOf, Cond.code yX5_wordOf cX5_wordOf 4 (some .int), Cond.methodLink RX5 234 yJ6_bitCount_0f7a4, Cond.static yJ6_bitCount_0f7a4, Cond.initialized RJ6, Cond.code yJ6_bitCount_0f7a4 cJ6_bitCount_0f7a4 1 (some .int), Cond.constant RJ6 265 (1431655765), Cond.constant RJ6 266 (858993459), Cond.constant RJ6 267 (252645135), Cond.methodLink RX0 27 yX2_empty, Cond.instanceMethod yX2_empty, Cond.selects RX2 yX2_empty yX2_empty, Cond.code yX2_empty cX2_empty 1 none, Cond.methodLink RX0 30 yX2_add]
def wsL_does_r5 : List Cond := [Cond.instanceMethod yX2_add, Cond.selects RX2 yX2_add yX2_add, Cond.code yX2_add cX2_add 2 none, Cond.static yX5_bitOf, Cond.code yX5_bitOf cX5_bitOf 2 (some .int), Cond.methodLink RX5 81 yX5_hear, Cond.instanceMethod yX5_hear, Cond.selects RX5 yX5_hear yX5_hear, Cond.code yX5_hear cX5_hear 3 (some .int), Cond.methodLink RX5 161 yX5_verdict, Cond.instanceMethod yX5_verdict, Cond.selects RX5 yX5_verdict yX5_verdict, Cond.code yX5_verdict cX5_verdict 5 (some .int), Cond.methodLink RX5 248 yX0_listen, Cond.instanceMethod yX0_listen, Cond.selects RX0 yX0_listen yX0_listen, Cond.code yX0_listen cX0_listen 9 none, Cond.fieldLink RX0 46 "LightReceiver$Ear" "missedAny" "Z", Cond.fieldLink RX0 20 "LightReceiver$Ear" "left" "LLightReceiver$Row;", Cond.methodLink RX0 57 Lib.Math.max.name, Cond.static Lib.Math.max.name, Cond.code Lib.Math.max.name Lib.Math.max.code 2 (some .int), Cond.static yX5_weakestHeard, Cond.code yX5_weakestHeard cX5_weakestHeard 1 (some .int)]
def wsL_does_r6 : List Cond := [Cond.methodLink RX0 54 yX2_at, Cond.instanceMethod yX2_at, Cond.selects RX2 yX2_at yX2_at, Cond.code yX2_at cX2_at 2 (some .int), Cond.methodLink RX5 251 yX0_decode, Cond.instanceMethod yX0_decode, Cond.selects RX0 yX0_decode yX0_decode, Cond.code yX0_decode cX0_decode 3 (some .int), Cond.fieldLink RX0 67 "LightReceiver$Ear" "address" "I", Cond.fieldLink RX0 70 "LightReceiver$Ear" "code" "I", Cond.fieldLink RX0 73 "LightReceiver$Ear" "toggle" "I", Cond.methodLink RX0 62 yJ6_bitCount_0f7a4, Cond.methodLink RX5 128 yX4_remembers, Cond.instanceMethod yX4_remembers, Cond.selects RX4 yX4_remembers yX4_remembers, Cond.code yX4_remembers cX4_remembers 1 (some .boolean), Cond.methodLink RX5 171 yX5_gainAfter, Cond.instanceMethod yX5_gainAfter, Cond.selects RX5 yX5_gainAfter yX5_gainAfter, Cond.code yX5_gainAfter cX5_gainAfter 2 (some .int), Cond.methodLink RX5 264 Lib.Math.max.name, Cond.methodLink RX5 269 Lib.Math.min.name, Cond.methodLink RX5 167 yX5_isAccepted, Cond.static yX5_isAccepted]
def wsL_does_r7 : List Cond := [Cond.code yX5_isAccepted cX5_isAccepted 1 (some .boolean), Cond.methodLink RX5 242 yX5_accept, Cond.instanceMethod yX5_accept, Cond.selects RX5 yX5_accept yX5_accept, Cond.code yX5_accept cX5_accept 2 none, Cond.methodLink RX5 272 yX5_startPress, Cond.instanceMethod yX5_startPress, Cond.selects RX5 yX5_startPress yX5_startPress, Cond.code yX5_startPress cX5_startPress 1 none, Cond.methodLink RX5 115 yX2_at, Cond.methodLink RX5 245 yX2_increase, Cond.instanceMethod yX2_increase, Cond.selects RX2 yX2_increase yX2_increase, Cond.code yX2_increase cX2_increase 2 none, Cond.methodLink RX5 275 yX5_goOnHolding, Cond.instanceMethod yX5_goOnHolding, Cond.selects RX5 yX5_goOnHolding yX5_goOnHolding, Cond.code yX5_goOnHolding cX5_goOnHolding 1 none, Cond.methodLink RL 24 yX5_repeat, Cond.instanceMethod yX5_repeat, Cond.selects RX5 yX5_repeat yX5_repeat, Cond.code yX5_repeat cX5_repeat 2 (some .int), Cond.methodLink RX5 53 yX5_hearRepeat, Cond.instanceMethod yX5_hearRepeat]
def wsL_does_r8 : List Cond := [Cond.selects RX5 yX5_hearRepeat yX5_hearRepeat, Cond.code yX5_hearRepeat cX5_hearRepeat 2 (some .int), Cond.methodLink RX5 239 yX0_sendRepeat, Cond.instanceMethod yX0_sendRepeat, Cond.selects RX0 yX0_sendRepeat yX0_sendRepeat, Cond.code yX0_sendRepeat cX0_sendRepeat 1 none, Cond.methodLink RL 27 yX5_row, Cond.instanceMethod yX5_row, Cond.selects RX5 yX5_row yX5_row, Cond.code yX5_row cX5_row 1 (some .int), Cond.methodLink RL 31 yL_shine, Cond.static yL_shine, Cond.code yL_shine cL_shine 9 none, Cond.methodLink RL 14 yX5_shine, Cond.instanceMethod yX5_shine, Cond.selects RX5 yX5_shine yX5_shine, Cond.code yX5_shine cX5_shine 2 (some .int), Cond.classLink RX5 67 "java/lang/IllegalStateException", Cond.initialized "java/lang/IllegalStateException", Cond.methodLink RX5 94 yX2_add, Cond.methodLink RL 34 yX5_receive, Cond.instanceMethod yX5_receive, Cond.selects RX5 yX5_receive yX5_receive, Cond.code yX5_receive cX5_receive 2 (some .int)]
def wsL_does_r9 : List Cond := [Cond.methodLink RX5 74 yX0_sendRow, Cond.instanceMethod yX0_sendRow, Cond.selects RX0 yX0_sendRow yX0_sendRow, Cond.code yX0_sendRow cX0_sendRow 2 none, Cond.methodLink RX0 38 yX2_become, Cond.methodLink RX5 78 yX2_empty, Cond.methodLink RL 37 yX5_pass, Cond.instanceMethod yX5_pass, Cond.selects RX5 yX5_pass yX5_pass, Cond.code yX5_pass cX5_pass 2 (some .int), Cond.methodLink RX5 97 yX5_letPass, Cond.instanceMethod yX5_letPass, Cond.selects RX5 yX5_letPass yX5_letPass, Cond.code yX5_letPass cX5_letPass 2 none, Cond.methodLink RL 40 yX5_setGlare, Cond.instanceMethod yX5_setGlare, Cond.selects RX5 yX5_setGlare yX5_setGlare, Cond.code yX5_setGlare cX5_setGlare 3 (some .int), Cond.methodLink RL 43 yX5_setAddress, Cond.instanceMethod yX5_setAddress, Cond.selects RX5 yX5_setAddress yX5_setAddress, Cond.code yX5_setAddress cX5_setAddress 3 (some .int), Cond.methodLink RL 46 yX5_learn, Cond.instanceMethod yX5_learn]
def wsL_does_r10 : List Cond := [Cond.selects RX5 yX5_learn yX5_learn, Cond.code yX5_learn cX5_learn 4 (some .int), Cond.methodLink RX5 109 yX5_checkIndex, Cond.static yX5_checkIndex, Cond.code yX5_checkIndex cX5_checkIndex 1 none, Cond.classLink RX5 229 "java/lang/IndexOutOfBoundsException", Cond.initialized "java/lang/IndexOutOfBoundsException", Cond.methodLink RX5 118 yX2_set, Cond.instanceMethod yX2_set, Cond.selects RX2 yX2_set yX2_set, Cond.code yX2_set cX2_set 3 none]
def wsL_does : List Cond := .code yL_does cL_does 4 (some .int) :: ((wsL_does_r1 ++ (wsL_does_r2 ++ (wsL_does_r3 ++ (wsL_does_r4 ++ (wsL_does_r5 ++ (wsL_does_r6 ++ (wsL_does_r7 ++ (wsL_does_r8 ++ (wsL_does_r9 ++ wsL_does_r10))))))))) ++ wsX50 ++ wsX30 ++ wsX40 ++ wsX20 ++ wsX00 ++ (vx_atS RX5 228 "java/lang/IllegalArgumentException" ["java/lang/RuntimeException", "java/lang/Exception"]).filter goodWord ++ (vx_atS RX5 71 "java/lang/IllegalStateException" ["java/lang/RuntimeException", "java/lang/Exception"]).filter goodWord ++ (vx_atS RX5 233 "java/lang/IndexOutOfBoundsException" ["java/lang/RuntimeException", "java/lang/Exception"]).filter goodWord)
def wsL_refusals : List Cond := .code yL_refusals cL_refusals 3 (some .int) :: ([.methodLink RL 49 yX5_refused, .instanceMethod yX5_refused, .selects RX5 yX5_refused yX5_refused, .initialized RX5, .code yX5_refused cX5_refused 2 (some .int), .fieldLink RX5 12 "LightReceiver" "now" "LLightReceiver$State;", .methodLink RX5 84 yX5_isWithin, .static yX5_isWithin, .code yX5_isWithin cX5_isWithin 3 (some .boolean), .methodLink RX5 109 yX5_checkIndex, .static yX5_checkIndex, .code yX5_checkIndex cX5_checkIndex 1 none, .classLink RX5 229 "java/lang/IndexOutOfBoundsException", .initialized "java/lang/IndexOutOfBoundsException", .methodLink RX5 115 yX2_at, .instanceMethod yX2_at, .selects RX2 yX2_at yX2_at, .initialized RX2, .code yX2_at cX2_at 2 (some .int), .fieldLink RX2 13 "LightReceiver$Row" "count" "I", .fieldLink RX2 7 "LightReceiver$Row" "values" "[I"] ++ wsX50 ++ wsX40 ++ wsX20 ++ (vx_atS RX5 233 "java/lang/IndexOutOfBoundsException" ["java/lang/RuntimeException", "java/lang/Exception"]).filter goodWord)
def wsL_isFrameSo_r1 : List Cond := [Cond.methodLink RL 52 yX5_ifFrame, Cond.instanceMethod yX5_ifFrame, Cond.selects RX5 yX5_ifFrame yX5_ifFrame, Cond.initialized RX5, Cond.code yX5_ifFrame cX5_ifFrame 5 (some .int), Cond.fieldLink RX5 33 "LightReceiver" "ear" "LLightReceiver$Ear;", Cond.fieldLink RX5 12 "LightReceiver" "now" "LLightReceiver$State;", Cond.methodLink RX5 37 yX5_checkFrame, Cond.static yX5_checkFrame, Cond.code yX5_checkFrame cX5_checkFrame 3 none, Cond.methodLink RX5 84 yX5_isWithin, Cond.static yX5_isWithin, Cond.code yX5_isWithin cX5_isWithin 3 (some .boolean), Cond.methodLink RX5 88 yX5_checkArgument, Cond.static yX5_checkArgument, Cond.code yX5_checkArgument cX5_checkArgument 1 none, Cond.classLink RX5 224 "java/lang/IllegalArgumentException", Cond.initialized "java/lang/IllegalArgumentException", Cond.methodLink RX5 41 yX5_checkStrength, Cond.static yX5_checkStrength, Cond.code yX5_checkStrength cX5_checkStrength 1 none, Cond.methodLink RX5 158 yX0_sendFrame, Cond.instanceMethod yX0_sendFrame, Cond.selects RX0 yX0_sendFrame yX0_sendFrame]
def wsL_isFrameSo_r2 : List Cond := [Cond.initialized RX0, Cond.code yX0_sendFrame cX0_sendFrame 6 none, Cond.fieldLink RX0 14 "LightReceiver$Ear" "sent" "LLightReceiver$Row;", Cond.static yX5_wordOf, Cond.code yX5_wordOf cX5_wordOf 4 (some .int), Cond.methodLink RX5 234 yJ6_bitCount_0f7a4, Cond.static yJ6_bitCount_0f7a4, Cond.initialized RJ6, Cond.code yJ6_bitCount_0f7a4 cJ6_bitCount_0f7a4 1 (some .int), Cond.constant RJ6 265 (1431655765), Cond.constant RJ6 266 (858993459), Cond.constant RJ6 267 (252645135), Cond.methodLink RX0 27 yX2_empty, Cond.instanceMethod yX2_empty, Cond.selects RX2 yX2_empty yX2_empty, Cond.initialized RX2, Cond.code yX2_empty cX2_empty 1 none, Cond.fieldLink RX2 13 "LightReceiver$Row" "count" "I", Cond.methodLink RX0 30 yX2_add, Cond.instanceMethod yX2_add, Cond.selects RX2 yX2_add yX2_add, Cond.code yX2_add cX2_add 2 none, Cond.fieldLink RX2 7 "LightReceiver$Row" "values" "[I", Cond.static yX5_bitOf]
def wsL_isFrameSo_r3 : List Cond := [Cond.code yX5_bitOf cX5_bitOf 2 (some .int), Cond.methodLink RX5 161 yX5_verdict, Cond.instanceMethod yX5_verdict, Cond.selects RX5 yX5_verdict yX5_verdict, Cond.code yX5_verdict cX5_verdict 5 (some .int), Cond.methodLink RX5 248 yX0_listen, Cond.instanceMethod yX0_listen, Cond.selects RX0 yX0_listen yX0_listen, Cond.code yX0_listen cX0_listen 9 none, Cond.fieldLink RX0 46 "LightReceiver$Ear" "missedAny" "Z", Cond.fieldLink RX0 20 "LightReceiver$Ear" "left" "LLightReceiver$Row;", Cond.methodLink RX0 57 Lib.Math.max.name, Cond.static Lib.Math.max.name, Cond.initialized "java/lang/Math", Cond.code Lib.Math.max.name Lib.Math.max.code 2 (some .int), Cond.static yX5_weakestHeard, Cond.code yX5_weakestHeard cX5_weakestHeard 1 (some .int), Cond.methodLink RX0 54 yX2_at, Cond.instanceMethod yX2_at, Cond.selects RX2 yX2_at yX2_at, Cond.code yX2_at cX2_at 2 (some .int), Cond.methodLink RX5 251 yX0_decode, Cond.instanceMethod yX0_decode, Cond.selects RX0 yX0_decode yX0_decode]
def wsL_isFrameSo_r4 : List Cond := [Cond.code yX0_decode cX0_decode 3 (some .int), Cond.fieldLink RX0 67 "LightReceiver$Ear" "address" "I", Cond.fieldLink RX0 70 "LightReceiver$Ear" "code" "I", Cond.fieldLink RX0 73 "LightReceiver$Ear" "toggle" "I", Cond.methodLink RX0 62 yJ6_bitCount_0f7a4, Cond.methodLink RX5 128 yX4_remembers, Cond.instanceMethod yX4_remembers, Cond.selects RX4 yX4_remembers yX4_remembers, Cond.initialized RX4, Cond.code yX4_remembers cX4_remembers 1 (some .boolean), Cond.fieldLink RX4 15 "LightReceiver$State" "sinceAccepted" "I", Cond.methodLink RL 55 yX5_gain, Cond.instanceMethod yX5_gain, Cond.selects RX5 yX5_gain yX5_gain, Cond.code yX5_gain cX5_gain 1 (some .int), Cond.methodLink RL 58 yX5_received, Cond.instanceMethod yX5_received, Cond.selects RX5 yX5_received yX5_received, Cond.code yX5_received cX5_received 1 (some .int), Cond.methodLink RL 61 yX5_presses, Cond.instanceMethod yX5_presses, Cond.selects RX5 yX5_presses yX5_presses, Cond.code yX5_presses cX5_presses 1 (some .int), Cond.methodLink RL 64 yX5_done]
def wsL_isFrameSo_r5 : List Cond := [Cond.instanceMethod yX5_done, Cond.selects RX5 yX5_done yX5_done, Cond.code yX5_done cX5_done 2 (some .int), Cond.methodLink RX5 109 yX5_checkIndex, Cond.static yX5_checkIndex, Cond.code yX5_checkIndex cX5_checkIndex 1 none, Cond.classLink RX5 229 "java/lang/IndexOutOfBoundsException", Cond.initialized "java/lang/IndexOutOfBoundsException", Cond.methodLink RX5 115 yX2_at, Cond.methodLink RL 67 yX5_action, Cond.instanceMethod yX5_action, Cond.selects RX5 yX5_action yX5_action, Cond.code yX5_action cX5_action 2 (some .int), Cond.methodLink RL 70 yX5_holds, Cond.instanceMethod yX5_holds, Cond.selects RX5 yX5_holds yX5_holds, Cond.code yX5_holds cX5_holds 1 (some .int), Cond.methodLink RL 73 yX5_remembered, Cond.instanceMethod yX5_remembered, Cond.selects RX5 yX5_remembered yX5_remembered, Cond.code yX5_remembered cX5_remembered 1 (some .int), Cond.methodLink RL 76 yL_refusals, Cond.static yL_refusals, Cond.initialized RL]
def wsL_isFrameSo_r6 : List Cond := [Cond.code yL_refusals cL_refusals 3 (some .int), Cond.methodLink RL 49 yX5_refused, Cond.instanceMethod yX5_refused, Cond.selects RX5 yX5_refused yX5_refused, Cond.code yX5_refused cX5_refused 2 (some .int), Cond.methodLink RL 20 yX5_frame, Cond.instanceMethod yX5_frame, Cond.selects RX5 yX5_frame yX5_frame, Cond.code yX5_frame cX5_frame 5 (some .int), Cond.fieldLink RX5 19 "LightReceiver" "saves" "LLightReceiver$Saves;", Cond.methodLink RX5 45 yX3_keep, Cond.instanceMethod yX3_keep, Cond.selects RX3 yX3_keep yX3_keep, Cond.initialized RX3, Cond.code yX3_keep cX3_keep 2 none, Cond.fieldLink RX3 18 "LightReceiver$Saves" "count" "I", Cond.fieldLink RX3 11 "LightReceiver$Saves" "states" "[LLightReceiver$State;", Cond.methodLink RX3 22 yX3_discardOldest, Cond.instanceMethod yX3_discardOldest, Cond.selects RX3 yX3_discardOldest yX3_discardOldest, Cond.code yX3_discardOldest cX3_discardOldest 4 none, Cond.methodLink RX3 25 yX4_become, Cond.instanceMethod yX4_become, Cond.selects RX4 yX4_become yX4_become]
def wsL_isFrameSo_r7 : List Cond := [Cond.code yX4_become cX4_become 2 none, Cond.fieldLink RX4 36 "LightReceiver$State" "glare" "I", Cond.fieldLink RX4 9 "LightReceiver$State" "gain" "I", Cond.fieldLink RX4 39 "LightReceiver$State" "address" "I", Cond.fieldLink RX4 42 "LightReceiver$State" "code" "I", Cond.fieldLink RX4 45 "LightReceiver$State" "toggle" "I", Cond.fieldLink RX4 48 "LightReceiver$State" "holds" "I", Cond.fieldLink RX4 51 "LightReceiver$State" "presses" "I", Cond.fieldLink RX4 54 "LightReceiver$State" "received" "I", Cond.fieldLink RX4 57 "LightReceiver$State" "accepted" "I", Cond.fieldLink RX4 23 "LightReceiver$State" "actions" "LLightReceiver$Row;", Cond.fieldLink RX4 27 "LightReceiver$State" "timesDone" "LLightReceiver$Row;", Cond.fieldLink RX4 30 "LightReceiver$State" "refusals" "LLightReceiver$Row;", Cond.fieldLink RX4 33 "LightReceiver$State" "lightRow" "LLightReceiver$Row;", Cond.methodLink RX4 60 yX2_become, Cond.instanceMethod yX2_become, Cond.selects RX2 yX2_become yX2_become, Cond.code yX2_become cX2_become 2 none, Cond.methodLink RX2 17 Lib.Math.min.name, Cond.static Lib.Math.min.name, Cond.code Lib.Math.min.name Lib.Math.min.code 2 (some .int), Cond.methodLink RX2 23 arraycopyName, Cond.native arraycopyName, Cond.static arraycopyName]
def wsL_isFrameSo_r8 : List Cond := [Cond.initialized "java/lang/System", Cond.methodLink RX5 49 yX5_hearFrame, Cond.instanceMethod yX5_hearFrame, Cond.selects RX5 yX5_hearFrame yX5_hearFrame, Cond.code yX5_hearFrame cX5_hearFrame 5 (some .int), Cond.methodLink RX5 81 yX5_hear, Cond.instanceMethod yX5_hear, Cond.selects RX5 yX5_hear yX5_hear, Cond.code yX5_hear cX5_hear 3 (some .int), Cond.methodLink RX5 171 yX5_gainAfter, Cond.instanceMethod yX5_gainAfter, Cond.selects RX5 yX5_gainAfter yX5_gainAfter, Cond.code yX5_gainAfter cX5_gainAfter 2 (some .int), Cond.methodLink RX5 264 Lib.Math.max.name, Cond.methodLink RX5 269 Lib.Math.min.name, Cond.methodLink RX5 167 yX5_isAccepted, Cond.static yX5_isAccepted, Cond.code yX5_isAccepted cX5_isAccepted 1 (some .boolean), Cond.methodLink RX5 242 yX5_accept, Cond.instanceMethod yX5_accept, Cond.selects RX5 yX5_accept yX5_accept, Cond.code yX5_accept cX5_accept 2 none, Cond.methodLink RX5 272 yX5_startPress, Cond.instanceMethod yX5_startPress]
def wsL_isFrameSo_r9 : List Cond := [Cond.selects RX5 yX5_startPress yX5_startPress, Cond.code yX5_startPress cX5_startPress 1 none, Cond.methodLink RX5 245 yX2_increase, Cond.instanceMethod yX2_increase, Cond.selects RX2 yX2_increase yX2_increase, Cond.code yX2_increase cX2_increase 2 none, Cond.methodLink RX5 275 yX5_goOnHolding, Cond.instanceMethod yX5_goOnHolding, Cond.selects RX5 yX5_goOnHolding yX5_goOnHolding, Cond.code yX5_goOnHolding cX5_goOnHolding 1 none, Cond.methodLink RL 80 yX5_glare, Cond.instanceMethod yX5_glare, Cond.selects RX5 yX5_glare yX5_glare, Cond.code yX5_glare cX5_glare 1 (some .int), Cond.methodLink RL 83 yX5_ticksToForget, Cond.instanceMethod yX5_ticksToForget, Cond.selects RX5 yX5_ticksToForget yX5_ticksToForget, Cond.code yX5_ticksToForget cX5_ticksToForget 1 (some .int), Cond.methodLink RL 86 yX5_undo, Cond.instanceMethod yX5_undo, Cond.selects RX5 yX5_undo yX5_undo, Cond.code yX5_undo cX5_undo 1 (some .int), Cond.classLink RX5 67 "java/lang/IllegalStateException", Cond.initialized "java/lang/IllegalStateException"]
def wsL_isFrameSo_r10 : List Cond := [Cond.methodLink RX5 192 yX3_giveBack, Cond.instanceMethod yX3_giveBack, Cond.selects RX3 yX3_giveBack yX3_giveBack, Cond.code yX3_giveBack cX3_giveBack 2 none]
def wsL_isFrameSo : List Cond := .code yL_isFrameSo cL_isFrameSo 19 (some .boolean) :: ((wsL_isFrameSo_r1 ++ (wsL_isFrameSo_r2 ++ (wsL_isFrameSo_r3 ++ (wsL_isFrameSo_r4 ++ (wsL_isFrameSo_r5 ++ (wsL_isFrameSo_r6 ++ (wsL_isFrameSo_r7 ++ (wsL_isFrameSo_r8 ++ (wsL_isFrameSo_r9 ++ wsL_isFrameSo_r10))))))))) ++ wsX50 ++ wsX40 ++ wsX00 ++ wsX20 ++ wsX30 ++ (vx_atS RX5 228 "java/lang/IllegalArgumentException" ["java/lang/RuntimeException", "java/lang/Exception"]).filter goodWord ++ (vx_atS RX5 233 "java/lang/IndexOutOfBoundsException" ["java/lang/RuntimeException", "java/lang/Exception"]).filter goodWord ++ (vx_atS RX5 71 "java/lang/IllegalStateException" ["java/lang/RuntimeException", "java/lang/Exception"]).filter goodWord)
def wsL_areForecastsSo_r1 : List Cond := [Cond.methodLink RL 89 yX5_leastStrength, Cond.instanceMethod yX5_leastStrength, Cond.selects RX5 yX5_leastStrength yX5_leastStrength, Cond.initialized RX5, Cond.code yX5_leastStrength cX5_leastStrength 2 (some .int), Cond.fieldLink RX5 12 "LightReceiver" "now" "LLightReceiver$State;", Cond.fieldLink RX5 33 "LightReceiver" "ear" "LLightReceiver$Ear;", Cond.methodLink RX5 164 yX5_weakestHeard, Cond.static yX5_weakestHeard, Cond.code yX5_weakestHeard cX5_weakestHeard 1 (some .int), Cond.methodLink RX5 158 yX0_sendFrame, Cond.instanceMethod yX0_sendFrame, Cond.selects RX0 yX0_sendFrame yX0_sendFrame, Cond.initialized RX0, Cond.code yX0_sendFrame cX0_sendFrame 6 none, Cond.fieldLink RX0 14 "LightReceiver$Ear" "sent" "LLightReceiver$Row;", Cond.static yX5_wordOf, Cond.code yX5_wordOf cX5_wordOf 4 (some .int), Cond.methodLink RX5 234 yJ6_bitCount_0f7a4, Cond.static yJ6_bitCount_0f7a4, Cond.initialized RJ6, Cond.code yJ6_bitCount_0f7a4 cJ6_bitCount_0f7a4 1 (some .int), Cond.constant RJ6 265 (1431655765), Cond.constant RJ6 266 (858993459)]
def wsL_areForecastsSo_r2 : List Cond := [Cond.constant RJ6 267 (252645135), Cond.methodLink RX0 27 yX2_empty, Cond.instanceMethod yX2_empty, Cond.selects RX2 yX2_empty yX2_empty, Cond.initialized RX2, Cond.code yX2_empty cX2_empty 1 none, Cond.fieldLink RX2 13 "LightReceiver$Row" "count" "I", Cond.methodLink RX0 30 yX2_add, Cond.instanceMethod yX2_add, Cond.selects RX2 yX2_add yX2_add, Cond.code yX2_add cX2_add 2 none, Cond.fieldLink RX2 7 "LightReceiver$Row" "values" "[I", Cond.static yX5_bitOf, Cond.code yX5_bitOf cX5_bitOf 2 (some .int), Cond.methodLink RX5 161 yX5_verdict, Cond.instanceMethod yX5_verdict, Cond.selects RX5 yX5_verdict yX5_verdict, Cond.code yX5_verdict cX5_verdict 5 (some .int), Cond.methodLink RX5 248 yX0_listen, Cond.instanceMethod yX0_listen, Cond.selects RX0 yX0_listen yX0_listen, Cond.code yX0_listen cX0_listen 9 none, Cond.fieldLink RX0 46 "LightReceiver$Ear" "missedAny" "Z", Cond.fieldLink RX0 20 "LightReceiver$Ear" "left" "LLightReceiver$Row;"]
def wsL_areForecastsSo_r3 : List Cond := [Cond.methodLink RX0 57 Lib.Math.max.name, Cond.static Lib.Math.max.name, Cond.initialized "java/lang/Math", Cond.code Lib.Math.max.name Lib.Math.max.code 2 (some .int), Cond.methodLink RX0 54 yX2_at, Cond.instanceMethod yX2_at, Cond.selects RX2 yX2_at yX2_at, Cond.code yX2_at cX2_at 2 (some .int), Cond.methodLink RX5 251 yX0_decode, Cond.instanceMethod yX0_decode, Cond.selects RX0 yX0_decode yX0_decode, Cond.code yX0_decode cX0_decode 3 (some .int), Cond.fieldLink RX0 67 "LightReceiver$Ear" "address" "I", Cond.fieldLink RX0 70 "LightReceiver$Ear" "code" "I", Cond.fieldLink RX0 73 "LightReceiver$Ear" "toggle" "I", Cond.methodLink RX0 62 yJ6_bitCount_0f7a4, Cond.methodLink RX5 128 yX4_remembers, Cond.instanceMethod yX4_remembers, Cond.selects RX4 yX4_remembers yX4_remembers, Cond.initialized RX4, Cond.code yX4_remembers cX4_remembers 1 (some .boolean), Cond.fieldLink RX4 15 "LightReceiver$State" "sinceAccepted" "I", Cond.methodLink RX5 167 yX5_isAccepted, Cond.static yX5_isAccepted]
def wsL_areForecastsSo_r4 : List Cond := [Cond.code yX5_isAccepted cX5_isAccepted 1 (some .boolean), Cond.methodLink RL 92 yX5_refusalsToCome, Cond.instanceMethod yX5_refusalsToCome, Cond.selects RX5 yX5_refusalsToCome yX5_refusalsToCome, Cond.code yX5_refusalsToCome cX5_refusalsToCome 3 (some .int), Cond.methodLink RX5 171 yX5_gainAfter, Cond.instanceMethod yX5_gainAfter, Cond.selects RX5 yX5_gainAfter yX5_gainAfter, Cond.code yX5_gainAfter cX5_gainAfter 2 (some .int), Cond.methodLink RX5 264 Lib.Math.max.name, Cond.methodLink RX5 269 Lib.Math.min.name, Cond.static Lib.Math.min.name, Cond.code Lib.Math.min.name Lib.Math.min.code 2 (some .int), Cond.methodLink RL 83 yX5_ticksToForget, Cond.instanceMethod yX5_ticksToForget, Cond.selects RX5 yX5_ticksToForget yX5_ticksToForget, Cond.code yX5_ticksToForget cX5_ticksToForget 1 (some .int), Cond.methodLink RL 73 yX5_remembered, Cond.instanceMethod yX5_remembered, Cond.selects RX5 yX5_remembered yX5_remembered, Cond.code yX5_remembered cX5_remembered 1 (some .int), Cond.methodLink RL 70 yX5_holds, Cond.instanceMethod yX5_holds, Cond.selects RX5 yX5_holds yX5_holds]
def wsL_areForecastsSo_r5 : List Cond := [Cond.code yX5_holds cX5_holds 1 (some .int), Cond.methodLink RL 52 yX5_ifFrame, Cond.instanceMethod yX5_ifFrame, Cond.selects RX5 yX5_ifFrame yX5_ifFrame, Cond.code yX5_ifFrame cX5_ifFrame 5 (some .int), Cond.methodLink RX5 37 yX5_checkFrame, Cond.static yX5_checkFrame, Cond.code yX5_checkFrame cX5_checkFrame 3 none, Cond.methodLink RX5 84 yX5_isWithin, Cond.static yX5_isWithin, Cond.code yX5_isWithin cX5_isWithin 3 (some .boolean), Cond.methodLink RX5 88 yX5_checkArgument, Cond.static yX5_checkArgument, Cond.code yX5_checkArgument cX5_checkArgument 1 none, Cond.classLink RX5 224 "java/lang/IllegalArgumentException", Cond.initialized "java/lang/IllegalArgumentException", Cond.methodLink RX5 41 yX5_checkStrength, Cond.static yX5_checkStrength, Cond.code yX5_checkStrength cX5_checkStrength 1 none, Cond.methodLink RL 37 yX5_pass, Cond.instanceMethod yX5_pass, Cond.selects RX5 yX5_pass yX5_pass, Cond.code yX5_pass cX5_pass 2 (some .int), Cond.fieldLink RX5 19 "LightReceiver" "saves" "LLightReceiver$Saves;"]
def wsL_areForecastsSo_r6 : List Cond := [Cond.methodLink RX5 45 yX3_keep, Cond.instanceMethod yX3_keep, Cond.selects RX3 yX3_keep yX3_keep, Cond.initialized RX3, Cond.code yX3_keep cX3_keep 2 none, Cond.fieldLink RX3 18 "LightReceiver$Saves" "count" "I", Cond.fieldLink RX3 11 "LightReceiver$Saves" "states" "[LLightReceiver$State;", Cond.methodLink RX3 22 yX3_discardOldest, Cond.instanceMethod yX3_discardOldest, Cond.selects RX3 yX3_discardOldest yX3_discardOldest, Cond.code yX3_discardOldest cX3_discardOldest 4 none, Cond.methodLink RX3 25 yX4_become, Cond.instanceMethod yX4_become, Cond.selects RX4 yX4_become yX4_become, Cond.code yX4_become cX4_become 2 none, Cond.fieldLink RX4 36 "LightReceiver$State" "glare" "I", Cond.fieldLink RX4 9 "LightReceiver$State" "gain" "I", Cond.fieldLink RX4 39 "LightReceiver$State" "address" "I", Cond.fieldLink RX4 42 "LightReceiver$State" "code" "I", Cond.fieldLink RX4 45 "LightReceiver$State" "toggle" "I", Cond.fieldLink RX4 48 "LightReceiver$State" "holds" "I", Cond.fieldLink RX4 51 "LightReceiver$State" "presses" "I", Cond.fieldLink RX4 54 "LightReceiver$State" "received" "I", Cond.fieldLink RX4 57 "LightReceiver$State" "accepted" "I"]
def wsL_areForecastsSo_r7 : List Cond := [Cond.fieldLink RX4 23 "LightReceiver$State" "actions" "LLightReceiver$Row;", Cond.fieldLink RX4 27 "LightReceiver$State" "timesDone" "LLightReceiver$Row;", Cond.fieldLink RX4 30 "LightReceiver$State" "refusals" "LLightReceiver$Row;", Cond.fieldLink RX4 33 "LightReceiver$State" "lightRow" "LLightReceiver$Row;", Cond.methodLink RX4 60 yX2_become, Cond.instanceMethod yX2_become, Cond.selects RX2 yX2_become yX2_become, Cond.code yX2_become cX2_become 2 none, Cond.methodLink RX2 17 Lib.Math.min.name, Cond.methodLink RX2 23 arraycopyName, Cond.native arraycopyName, Cond.static arraycopyName, Cond.initialized "java/lang/System", Cond.methodLink RX5 97 yX5_letPass, Cond.instanceMethod yX5_letPass, Cond.selects RX5 yX5_letPass yX5_letPass, Cond.code yX5_letPass cX5_letPass 2 none, Cond.methodLink RL 86 yX5_undo, Cond.instanceMethod yX5_undo, Cond.selects RX5 yX5_undo yX5_undo, Cond.code yX5_undo cX5_undo 1 (some .int), Cond.classLink RX5 67 "java/lang/IllegalStateException", Cond.initialized "java/lang/IllegalStateException", Cond.methodLink RX5 192 yX3_giveBack]
def wsL_areForecastsSo_r8 : List Cond := [Cond.instanceMethod yX3_giveBack, Cond.selects RX3 yX3_giveBack yX3_giveBack, Cond.code yX3_giveBack cX3_giveBack 2 none, Cond.methodLink RL 20 yX5_frame, Cond.instanceMethod yX5_frame, Cond.selects RX5 yX5_frame yX5_frame, Cond.code yX5_frame cX5_frame 5 (some .int), Cond.methodLink RX5 49 yX5_hearFrame, Cond.instanceMethod yX5_hearFrame, Cond.selects RX5 yX5_hearFrame yX5_hearFrame, Cond.code yX5_hearFrame cX5_hearFrame 5 (some .int), Cond.methodLink RX5 81 yX5_hear, Cond.instanceMethod yX5_hear, Cond.selects RX5 yX5_hear yX5_hear, Cond.code yX5_hear cX5_hear 3 (some .int), Cond.methodLink RX5 242 yX5_accept, Cond.instanceMethod yX5_accept, Cond.selects RX5 yX5_accept yX5_accept, Cond.code yX5_accept cX5_accept 2 none, Cond.methodLink RX5 272 yX5_startPress, Cond.instanceMethod yX5_startPress, Cond.selects RX5 yX5_startPress yX5_startPress, Cond.code yX5_startPress cX5_startPress 1 none, Cond.methodLink RX5 115 yX2_at]
def wsL_areForecastsSo_r9 : List Cond := [Cond.methodLink RX5 245 yX2_increase, Cond.instanceMethod yX2_increase, Cond.selects RX2 yX2_increase yX2_increase, Cond.code yX2_increase cX2_increase 2 none, Cond.methodLink RX5 275 yX5_goOnHolding, Cond.instanceMethod yX5_goOnHolding, Cond.selects RX5 yX5_goOnHolding yX5_goOnHolding, Cond.code yX5_goOnHolding cX5_goOnHolding 1 none]
def wsL_areForecastsSo : List Cond := .code yL_areForecastsSo cL_areForecastsSo 9 (some .boolean) :: ((wsL_areForecastsSo_r1 ++ (wsL_areForecastsSo_r2 ++ (wsL_areForecastsSo_r3 ++ (wsL_areForecastsSo_r4 ++ (wsL_areForecastsSo_r5 ++ (wsL_areForecastsSo_r6 ++ (wsL_areForecastsSo_r7 ++ (wsL_areForecastsSo_r8 ++ wsL_areForecastsSo_r9)))))))) ++ wsX50 ++ wsX40 ++ wsX00 ++ wsX20 ++ wsX30 ++ (vx_atS RX5 228 "java/lang/IllegalArgumentException" ["java/lang/RuntimeException", "java/lang/Exception"]).filter goodWord ++ (vx_atS RX5 71 "java/lang/IllegalStateException" ["java/lang/RuntimeException", "java/lang/Exception"]).filter goodWord)
def wsL_areBitsSo_r1 : List Cond := [Cond.methodLink RL 95 yX5_bit, Cond.instanceMethod yX5_bit, Cond.selects RX5 yX5_bit yX5_bit, Cond.initialized RX5, Cond.code yX5_bit cX5_bit 5 (some .int), Cond.methodLink RX5 37 yX5_checkFrame, Cond.static yX5_checkFrame, Cond.code yX5_checkFrame cX5_checkFrame 3 none, Cond.methodLink RX5 84 yX5_isWithin, Cond.static yX5_isWithin, Cond.code yX5_isWithin cX5_isWithin 3 (some .boolean), Cond.methodLink RX5 88 yX5_checkArgument, Cond.static yX5_checkArgument, Cond.code yX5_checkArgument cX5_checkArgument 1 none, Cond.classLink RX5 224 "java/lang/IllegalArgumentException", Cond.initialized "java/lang/IllegalArgumentException", Cond.methodLink RX5 150 yX5_wordOf, Cond.static yX5_wordOf, Cond.code yX5_wordOf cX5_wordOf 4 (some .int), Cond.methodLink RX5 234 yJ6_bitCount_0f7a4, Cond.static yJ6_bitCount_0f7a4, Cond.initialized RJ6, Cond.code yJ6_bitCount_0f7a4 cJ6_bitCount_0f7a4 1 (some .int), Cond.constant RJ6 265 (1431655765)]
def wsL_areBitsSo_r2 : List Cond := [Cond.constant RJ6 266 (858993459), Cond.constant RJ6 267 (252645135), Cond.methodLink RX5 154 yX5_bitOf, Cond.static yX5_bitOf, Cond.code yX5_bitOf cX5_bitOf 2 (some .int)]
def wsL_areBitsSo : List Cond := .code yL_areBitsSo cL_areBitsSo 7 (some .boolean) :: ((wsL_areBitsSo_r1 ++ wsL_areBitsSo_r2) ++ (vx_atS RX5 228 "java/lang/IllegalArgumentException" ["java/lang/RuntimeException", "java/lang/Exception"]).filter goodWord)
def wsL_law0_r1 : List Cond := [Cond.classLink RL 15 RX5, Cond.instantiable RX5 4, Cond.initialized RX5, Cond.methodLink RL 98 yX5_init, Cond.instanceMethod yX5_init, Cond.code yX5_init cX5_init 1 none, Cond.methodLink RX5 3 objectInit, Cond.instanceMethod objectInit, Cond.code objectInit ⟨#[0xb1]⟩ 1 none, Cond.classLink RX5 9 RX4, Cond.instantiable RX4 14, Cond.initialized RX4, Cond.fieldLink RX5 12 "LightReceiver" "now" "LLightReceiver$State;", Cond.classLink RX5 16 RX3, Cond.instantiable RX3 2, Cond.initialized RX3, Cond.fieldLink RX5 19 "LightReceiver" "saves" "LLightReceiver$Saves;", Cond.classLink RX5 23 RX1, Cond.instantiable RX1 1, Cond.initialized RX1, Cond.fieldLink RX5 26 "LightReceiver" "text" "LLightReceiver$LightText;", Cond.classLink RX5 30 RX0, Cond.instantiable RX0 6, Cond.initialized RX0]
def wsL_law0_r2 : List Cond := [Cond.fieldLink RX5 33 "LightReceiver" "ear" "LLightReceiver$Ear;", Cond.instanceMethod yX4_init, Cond.code yX4_init cX4_init 1 none, Cond.methodLink RX4 3 objectInit, Cond.fieldLink RX4 9 "LightReceiver$State" "gain" "I", Cond.fieldLink RX4 15 "LightReceiver$State" "sinceAccepted" "I", Cond.classLink RX4 18 RX2, Cond.instantiable RX2 2, Cond.initialized RX2, Cond.fieldLink RX4 23 "LightReceiver$State" "actions" "LLightReceiver$Row;", Cond.fieldLink RX4 27 "LightReceiver$State" "timesDone" "LLightReceiver$Row;", Cond.fieldLink RX4 30 "LightReceiver$State" "refusals" "LLightReceiver$Row;", Cond.fieldLink RX4 33 "LightReceiver$State" "lightRow" "LLightReceiver$Row;", Cond.methodLink RX4 20 yX2_init, Cond.instanceMethod yX2_init, Cond.code yX2_init cX2_init 3 none, Cond.methodLink RX2 1 objectInit, Cond.arrayClass .int, Cond.fieldLink RX2 7 "LightReceiver$Row" "values" "[I", Cond.fieldLink RX2 13 "LightReceiver$Row" "count" "I", Cond.methodLink RX5 18 yX3_init, Cond.instanceMethod yX3_init, Cond.code yX3_init cX3_init 2 none, Cond.methodLink RX3 3 objectInit]
def wsL_law0_r3 : List Cond := [Cond.classLink RX3 9 RX4, Cond.fieldLink RX3 11 "LightReceiver$Saves" "states" "[LLightReceiver$State;", Cond.instanceMethod yX1_init, Cond.code yX1_init cX1_init 1 none, Cond.methodLink RX1 3 objectInit, Cond.classLink RX1 9 RX2, Cond.fieldLink RX1 14 "LightReceiver$LightText" "signs" "LLightReceiver$Row;", Cond.methodLink RX1 11 yX2_init, Cond.instanceMethod yX0_init, Cond.code yX0_init cX0_init 1 none, Cond.methodLink RX0 3 objectInit, Cond.classLink RX0 9 RX2, Cond.fieldLink RX0 14 "LightReceiver$Ear" "sent" "LLightReceiver$Row;", Cond.fieldLink RX0 20 "LightReceiver$Ear" "left" "LLightReceiver$Row;", Cond.methodLink RX0 11 yX2_init, Cond.methodLink RL 99 yL_cell, Cond.static yL_cell, Cond.initialized RL, Cond.code yL_cell cL_cell 2 (some .int), Cond.methodLink RL 103 yL_does, Cond.static yL_does, Cond.code yL_does cL_does 4 (some .int), Cond.methodLink RL 8 yL_low, Cond.static yL_low]
def wsL_law0_r4 : List Cond := [Cond.code yL_low cL_low 2 (some .int), Cond.constant RL 7 (2147483647), Cond.methodLink RL 20 yX5_frame, Cond.instanceMethod yX5_frame, Cond.selects RX5 yX5_frame yX5_frame, Cond.code yX5_frame cX5_frame 5 (some .int), Cond.methodLink RX5 37 yX5_checkFrame, Cond.static yX5_checkFrame, Cond.code yX5_checkFrame cX5_checkFrame 3 none, Cond.methodLink RX5 84 yX5_isWithin, Cond.static yX5_isWithin, Cond.code yX5_isWithin cX5_isWithin 3 (some .boolean), Cond.methodLink RX5 88 yX5_checkArgument, Cond.static yX5_checkArgument, Cond.code yX5_checkArgument cX5_checkArgument 1 none, Cond.classLink RX5 224 "java/lang/IllegalArgumentException", Cond.initialized "java/lang/IllegalArgumentException", Cond.methodLink RX5 41 yX5_checkStrength, Cond.static yX5_checkStrength, Cond.code yX5_checkStrength cX5_checkStrength 1 none, Cond.methodLink RX5 45 yX3_keep, Cond.instanceMethod yX3_keep, Cond.selects RX3 yX3_keep yX3_keep, Cond.code yX3_keep cX3_keep 2 none]
def wsL_law0_r5 : List Cond := [Cond.fieldLink RX3 18 "LightReceiver$Saves" "count" "I", Cond.methodLink RX3 22 yX3_discardOldest, Cond.instanceMethod yX3_discardOldest, Cond.selects RX3 yX3_discardOldest yX3_discardOldest, Cond.code yX3_discardOldest cX3_discardOldest 4 none, Cond.methodLink RX3 25 yX4_become, Cond.instanceMethod yX4_become, Cond.selects RX4 yX4_become yX4_become, Cond.code yX4_become cX4_become 2 none, Cond.fieldLink RX4 36 "LightReceiver$State" "glare" "I", Cond.fieldLink RX4 39 "LightReceiver$State" "address" "I", Cond.fieldLink RX4 42 "LightReceiver$State" "code" "I", Cond.fieldLink RX4 45 "LightReceiver$State" "toggle" "I", Cond.fieldLink RX4 48 "LightReceiver$State" "holds" "I", Cond.fieldLink RX4 51 "LightReceiver$State" "presses" "I", Cond.fieldLink RX4 54 "LightReceiver$State" "received" "I", Cond.fieldLink RX4 57 "LightReceiver$State" "accepted" "I", Cond.methodLink RX4 60 yX2_become, Cond.instanceMethod yX2_become, Cond.selects RX2 yX2_become yX2_become, Cond.code yX2_become cX2_become 2 none, Cond.methodLink RX2 17 Lib.Math.min.name, Cond.static Lib.Math.min.name, Cond.initialized "java/lang/Math"]
def wsL_law0_r6 : List Cond := [Cond.code Lib.Math.min.name Lib.Math.min.code 2 (some .int), Cond.methodLink RX2 23 arraycopyName, Cond.native arraycopyName, Cond.static arraycopyName, Cond.initialized "java/lang/System", Cond.methodLink RX5 49 yX5_hearFrame, Cond.instanceMethod yX5_hearFrame, Cond.selects RX5 yX5_hearFrame yX5_hearFrame, Cond.code yX5_hearFrame cX5_hearFrame 5 (some .int), Cond.methodLink RX5 158 yX0_sendFrame, Cond.instanceMethod yX0_sendFrame, Cond.selects RX0 yX0_sendFrame yX0_sendFrame, Cond.code yX0_sendFrame cX0_sendFrame 6 none, Cond.static yX5_wordOf, Cond.code yX5_wordOf cX5_wordOf 4 (some .int), Cond.methodLink RX5 234 yJ6_bitCount_0f7a4, Cond.static yJ6_bitCount_0f7a4, Cond.initialized RJ6, Cond.code yJ6_bitCount_0f7a4 cJ6_bitCount_0f7a4 1 (some .int), Cond.constant RJ6 265 (1431655765), Cond.constant RJ6 266 (858993459), Cond.constant RJ6 267 (252645135), Cond.methodLink RX0 27 yX2_empty, Cond.instanceMethod yX2_empty]
def wsL_law0_r7 : List Cond := [Cond.selects RX2 yX2_empty yX2_empty, Cond.code yX2_empty cX2_empty 1 none, Cond.methodLink RX0 30 yX2_add, Cond.instanceMethod yX2_add, Cond.selects RX2 yX2_add yX2_add, Cond.code yX2_add cX2_add 2 none, Cond.static yX5_bitOf, Cond.code yX5_bitOf cX5_bitOf 2 (some .int), Cond.methodLink RX5 81 yX5_hear, Cond.instanceMethod yX5_hear, Cond.selects RX5 yX5_hear yX5_hear, Cond.code yX5_hear cX5_hear 3 (some .int), Cond.methodLink RX5 161 yX5_verdict, Cond.instanceMethod yX5_verdict, Cond.selects RX5 yX5_verdict yX5_verdict, Cond.code yX5_verdict cX5_verdict 5 (some .int), Cond.methodLink RX5 248 yX0_listen, Cond.instanceMethod yX0_listen, Cond.selects RX0 yX0_listen yX0_listen, Cond.code yX0_listen cX0_listen 9 none, Cond.fieldLink RX0 46 "LightReceiver$Ear" "missedAny" "Z", Cond.methodLink RX0 57 Lib.Math.max.name, Cond.static Lib.Math.max.name, Cond.code Lib.Math.max.name Lib.Math.max.code 2 (some .int)]
def wsL_law0_r8 : List Cond := [Cond.static yX5_weakestHeard, Cond.code yX5_weakestHeard cX5_weakestHeard 1 (some .int), Cond.methodLink RX0 54 yX2_at, Cond.instanceMethod yX2_at, Cond.selects RX2 yX2_at yX2_at, Cond.code yX2_at cX2_at 2 (some .int), Cond.methodLink RX5 251 yX0_decode, Cond.instanceMethod yX0_decode, Cond.selects RX0 yX0_decode yX0_decode, Cond.code yX0_decode cX0_decode 3 (some .int), Cond.fieldLink RX0 67 "LightReceiver$Ear" "address" "I", Cond.fieldLink RX0 70 "LightReceiver$Ear" "code" "I", Cond.fieldLink RX0 73 "LightReceiver$Ear" "toggle" "I", Cond.methodLink RX0 62 yJ6_bitCount_0f7a4, Cond.methodLink RX5 128 yX4_remembers, Cond.instanceMethod yX4_remembers, Cond.selects RX4 yX4_remembers yX4_remembers, Cond.code yX4_remembers cX4_remembers 1 (some .boolean), Cond.methodLink RX5 171 yX5_gainAfter, Cond.instanceMethod yX5_gainAfter, Cond.selects RX5 yX5_gainAfter yX5_gainAfter, Cond.code yX5_gainAfter cX5_gainAfter 2 (some .int), Cond.methodLink RX5 264 Lib.Math.max.name, Cond.methodLink RX5 269 Lib.Math.min.name]
def wsL_law0_r9 : List Cond := [Cond.methodLink RX5 167 yX5_isAccepted, Cond.static yX5_isAccepted, Cond.code yX5_isAccepted cX5_isAccepted 1 (some .boolean), Cond.methodLink RX5 242 yX5_accept, Cond.instanceMethod yX5_accept, Cond.selects RX5 yX5_accept yX5_accept, Cond.code yX5_accept cX5_accept 2 none, Cond.methodLink RX5 272 yX5_startPress, Cond.instanceMethod yX5_startPress, Cond.selects RX5 yX5_startPress yX5_startPress, Cond.code yX5_startPress cX5_startPress 1 none, Cond.methodLink RX5 115 yX2_at, Cond.methodLink RX5 245 yX2_increase, Cond.instanceMethod yX2_increase, Cond.selects RX2 yX2_increase yX2_increase, Cond.code yX2_increase cX2_increase 2 none, Cond.methodLink RX5 275 yX5_goOnHolding, Cond.instanceMethod yX5_goOnHolding, Cond.selects RX5 yX5_goOnHolding yX5_goOnHolding, Cond.code yX5_goOnHolding cX5_goOnHolding 1 none, Cond.methodLink RL 24 yX5_repeat, Cond.instanceMethod yX5_repeat, Cond.selects RX5 yX5_repeat yX5_repeat, Cond.code yX5_repeat cX5_repeat 2 (some .int)]
def wsL_law0_r10 : List Cond := [Cond.methodLink RX5 53 yX5_hearRepeat, Cond.instanceMethod yX5_hearRepeat, Cond.selects RX5 yX5_hearRepeat yX5_hearRepeat, Cond.code yX5_hearRepeat cX5_hearRepeat 2 (some .int), Cond.methodLink RX5 239 yX0_sendRepeat, Cond.instanceMethod yX0_sendRepeat, Cond.selects RX0 yX0_sendRepeat yX0_sendRepeat, Cond.code yX0_sendRepeat cX0_sendRepeat 1 none, Cond.methodLink RL 27 yX5_row, Cond.instanceMethod yX5_row, Cond.selects RX5 yX5_row yX5_row, Cond.code yX5_row cX5_row 1 (some .int), Cond.methodLink RL 31 yL_shine, Cond.static yL_shine, Cond.code yL_shine cL_shine 9 none, Cond.methodLink RL 14 yX5_shine, Cond.instanceMethod yX5_shine, Cond.selects RX5 yX5_shine yX5_shine, Cond.code yX5_shine cX5_shine 2 (some .int), Cond.classLink RX5 67 "java/lang/IllegalStateException", Cond.initialized "java/lang/IllegalStateException", Cond.methodLink RX5 94 yX2_add, Cond.methodLink RL 34 yX5_receive, Cond.instanceMethod yX5_receive]
def wsL_law0_r11 : List Cond := [Cond.selects RX5 yX5_receive yX5_receive, Cond.code yX5_receive cX5_receive 2 (some .int), Cond.methodLink RX5 74 yX0_sendRow, Cond.instanceMethod yX0_sendRow, Cond.selects RX0 yX0_sendRow yX0_sendRow, Cond.code yX0_sendRow cX0_sendRow 2 none, Cond.methodLink RX0 38 yX2_become, Cond.methodLink RX5 78 yX2_empty, Cond.methodLink RL 37 yX5_pass, Cond.instanceMethod yX5_pass, Cond.selects RX5 yX5_pass yX5_pass, Cond.code yX5_pass cX5_pass 2 (some .int), Cond.methodLink RX5 97 yX5_letPass, Cond.instanceMethod yX5_letPass, Cond.selects RX5 yX5_letPass yX5_letPass, Cond.code yX5_letPass cX5_letPass 2 none, Cond.methodLink RL 40 yX5_setGlare, Cond.instanceMethod yX5_setGlare, Cond.selects RX5 yX5_setGlare yX5_setGlare, Cond.code yX5_setGlare cX5_setGlare 3 (some .int), Cond.methodLink RL 43 yX5_setAddress, Cond.instanceMethod yX5_setAddress, Cond.selects RX5 yX5_setAddress yX5_setAddress, Cond.code yX5_setAddress cX5_setAddress 3 (some .int)]
def wsL_law0_r12 : List Cond := [Cond.methodLink RL 46 yX5_learn, Cond.instanceMethod yX5_learn, Cond.selects RX5 yX5_learn yX5_learn, Cond.code yX5_learn cX5_learn 4 (some .int), Cond.methodLink RX5 109 yX5_checkIndex, Cond.static yX5_checkIndex, Cond.code yX5_checkIndex cX5_checkIndex 1 none, Cond.classLink RX5 229 "java/lang/IndexOutOfBoundsException", Cond.initialized "java/lang/IndexOutOfBoundsException", Cond.methodLink RX5 118 yX2_set, Cond.instanceMethod yX2_set, Cond.selects RX2 yX2_set yX2_set, Cond.code yX2_set cX2_set 3 none, Cond.methodLink RL 107 yX5_hitShare, Cond.instanceMethod yX5_hitShare, Cond.selects RX5 yX5_hitShare yX5_hitShare, Cond.code yX5_hitShare cX5_hitShare 1 (some .double), Cond.methodLink RL 76 yL_refusals, Cond.static yL_refusals, Cond.code yL_refusals cL_refusals 3 (some .int), Cond.methodLink RL 49 yX5_refused, Cond.instanceMethod yX5_refused, Cond.selects RX5 yX5_refused yX5_refused, Cond.code yX5_refused cX5_refused 2 (some .int)]
def wsL_law0_r13 : List Cond := [Cond.methodLink RL 61 yX5_presses, Cond.instanceMethod yX5_presses, Cond.selects RX5 yX5_presses yX5_presses, Cond.code yX5_presses cX5_presses 1 (some .int), Cond.methodLink RL 58 yX5_received, Cond.instanceMethod yX5_received, Cond.selects RX5 yX5_received yX5_received, Cond.code yX5_received cX5_received 1 (some .int), Cond.methodLink RL 111 yL_areBitsSo, Cond.static yL_areBitsSo, Cond.code yL_areBitsSo cL_areBitsSo 7 (some .boolean), Cond.methodLink RL 95 yX5_bit, Cond.instanceMethod yX5_bit, Cond.selects RX5 yX5_bit yX5_bit, Cond.code yX5_bit cX5_bit 5 (some .int), Cond.methodLink RX5 150 yX5_wordOf, Cond.methodLink RX5 154 yX5_bitOf, Cond.methodLink RL 115 yL_isFrameSo, Cond.static yL_isFrameSo, Cond.code yL_isFrameSo cL_isFrameSo 19 (some .boolean), Cond.methodLink RL 52 yX5_ifFrame, Cond.instanceMethod yX5_ifFrame, Cond.selects RX5 yX5_ifFrame yX5_ifFrame, Cond.code yX5_ifFrame cX5_ifFrame 5 (some .int)]
def wsL_law0_r14 : List Cond := [Cond.methodLink RL 55 yX5_gain, Cond.instanceMethod yX5_gain, Cond.selects RX5 yX5_gain yX5_gain, Cond.code yX5_gain cX5_gain 1 (some .int), Cond.methodLink RL 64 yX5_done, Cond.instanceMethod yX5_done, Cond.selects RX5 yX5_done yX5_done, Cond.code yX5_done cX5_done 2 (some .int), Cond.methodLink RL 67 yX5_action, Cond.instanceMethod yX5_action, Cond.selects RX5 yX5_action yX5_action, Cond.code yX5_action cX5_action 2 (some .int), Cond.methodLink RL 70 yX5_holds, Cond.instanceMethod yX5_holds, Cond.selects RX5 yX5_holds yX5_holds, Cond.code yX5_holds cX5_holds 1 (some .int), Cond.methodLink RL 73 yX5_remembered, Cond.instanceMethod yX5_remembered, Cond.selects RX5 yX5_remembered yX5_remembered, Cond.code yX5_remembered cX5_remembered 1 (some .int), Cond.methodLink RL 80 yX5_glare, Cond.instanceMethod yX5_glare, Cond.selects RX5 yX5_glare yX5_glare, Cond.code yX5_glare cX5_glare 1 (some .int)]
def wsL_law0_r15 : List Cond := [Cond.methodLink RL 83 yX5_ticksToForget, Cond.instanceMethod yX5_ticksToForget, Cond.selects RX5 yX5_ticksToForget yX5_ticksToForget, Cond.code yX5_ticksToForget cX5_ticksToForget 1 (some .int), Cond.methodLink RL 86 yX5_undo, Cond.instanceMethod yX5_undo, Cond.selects RX5 yX5_undo yX5_undo, Cond.code yX5_undo cX5_undo 1 (some .int), Cond.methodLink RX5 192 yX3_giveBack, Cond.instanceMethod yX3_giveBack, Cond.selects RX3 yX3_giveBack yX3_giveBack, Cond.code yX3_giveBack cX3_giveBack 2 none, Cond.methodLink RL 119 yL_areForecastsSo, Cond.static yL_areForecastsSo, Cond.code yL_areForecastsSo cL_areForecastsSo 9 (some .boolean), Cond.methodLink RL 89 yX5_leastStrength, Cond.instanceMethod yX5_leastStrength, Cond.selects RX5 yX5_leastStrength yX5_leastStrength, Cond.code yX5_leastStrength cX5_leastStrength 2 (some .int), Cond.methodLink RX5 164 yX5_weakestHeard, Cond.methodLink RL 92 yX5_refusalsToCome, Cond.instanceMethod yX5_refusalsToCome, Cond.selects RX5 yX5_refusalsToCome yX5_refusalsToCome, Cond.code yX5_refusalsToCome cX5_refusalsToCome 3 (some .int)]
def wsL_law0 : List Cond := (wsL_law0_r1 ++ (wsL_law0_r2 ++ (wsL_law0_r3 ++ (wsL_law0_r4 ++ (wsL_law0_r5 ++ (wsL_law0_r6 ++ (wsL_law0_r7 ++ (wsL_law0_r8 ++ (wsL_law0_r9 ++ (wsL_law0_r10 ++ (wsL_law0_r11 ++ (wsL_law0_r12 ++ (wsL_law0_r13 ++ (wsL_law0_r14 ++ wsL_law0_r15)))))))))))))) ++ wsX50 ++ wsX40 ++ wsX30 ++ wsX10 ++ wsX00 ++ wsX20 ++ ([] : List Cond)
def wsL_law : List Cond := wsL_law0 ++ (vx_atS RX5 228 "java/lang/IllegalArgumentException" ["java/lang/RuntimeException", "java/lang/Exception"]).filter goodWord ++ (vx_atS RX5 71 "java/lang/IllegalStateException" ["java/lang/RuntimeException", "java/lang/Exception"]).filter goodWord ++ (vx_atS RX5 233 "java/lang/IndexOutOfBoundsException" ["java/lang/RuntimeException", "java/lang/Exception"]).filter goodWord
set_option maxRecDepth 20000 in
theorem ggX0_init_X2_init : GoodIn wsX0_init wsX2_init := goodIn_r _ [11, 12, 2, 3, 13, 14, 15, 16, 17] (by decide +kernel) (by decide +kernel)
set_option maxRecDepth 20000 in
theorem gX0_init_X2_init : GoodIn wsX0_init (wsX2_init) := ggX0_init_X2_init
theorem dX0_init_0 : decode cX0_init 0 = .ok (.aload_n 0, 1) := by decide +kernel
theorem dX0_init_1 : decode cX0_init 1 = .ok (.invokespecial 3, 3) := by decide +kernel
theorem dX0_init_4 : decode cX0_init 4 = .ok (.aload_n 0, 1) := by decide +kernel
theorem dX0_init_5 : decode cX0_init 5 = .ok (.new 9, 3) := by decide +kernel
theorem dX0_init_8 : decode cX0_init 8 = .ok (.dup, 1) := by decide +kernel
theorem dX0_init_9 : decode cX0_init 9 = .ok (.bipush 30, 2) := by decide +kernel
theorem dX0_init_11 : decode cX0_init 11 = .ok (.iconst 0, 1) := by decide +kernel
theorem dX0_init_12 : decode cX0_init 12 = .ok (.invokespecial 11, 3) := by decide +kernel
theorem dX0_init_15 : decode cX0_init 15 = .ok (.putfield 14, 3) := by decide +kernel
theorem dX0_init_18 : decode cX0_init 18 = .ok (.aload_n 0, 1) := by decide +kernel
theorem dX0_init_19 : decode cX0_init 19 = .ok (.new 9, 3) := by decide +kernel
theorem dX0_init_22 : decode cX0_init 22 = .ok (.dup, 1) := by decide +kernel
theorem dX0_init_23 : decode cX0_init 23 = .ok (.bipush 30, 2) := by decide +kernel
theorem dX0_init_25 : decode cX0_init 25 = .ok (.iconst 0, 1) := by decide +kernel
theorem dX0_init_26 : decode cX0_init 26 = .ok (.invokespecial 11, 3) := by decide +kernel
theorem dX0_init_29 : decode cX0_init 29 = .ok (.putfield 20, 3) := by decide +kernel
theorem dX0_init_32 : decode cX0_init 32 = .ok (.return_, 1) := by decide +kernel
set_option maxRecDepth 20000 in
theorem ggX0_sendFrame_X5_wordOf : GoodIn wsX0_sendFrame wsX5_wordOf := goodIn_r _ [4, 5, 6, 7, 8, 9, 10, 11] (by decide +kernel) (by decide +kernel)
set_option maxRecDepth 20000 in
theorem gX0_sendFrame_X5_wordOf_n23 : GoodIn wsX0_sendFrame (wsX5_wordOf) := ggX0_sendFrame_X5_wordOf
set_option maxRecDepth 20000 in
theorem ggX0_sendFrame_X2_empty : GoodIn wsX0_sendFrame wsX2_empty := goodIn_r _ [16, 17, 31, 32] (by decide +kernel) (by decide +kernel)
set_option maxRecDepth 20000 in
theorem gX0_sendFrame_X2_empty : GoodIn wsX0_sendFrame (wsV RX0 27 RX2 yX2_empty wsX2_empty) := goodIn_app (goodIn_of _ (by decide +kernel)) ggX0_sendFrame_X2_empty
set_option maxRecDepth 20000 in
theorem ggX0_sendFrame_X2_add : GoodIn wsX0_sendFrame wsX2_add := goodIn_r _ [21, 17, 22, 31, 32] (by decide +kernel) (by decide +kernel)
set_option maxRecDepth 20000 in
theorem gX0_sendFrame_X2_add : GoodIn wsX0_sendFrame (wsV RX0 30 RX2 yX2_add wsX2_add) := goodIn_app (goodIn_of _ (by decide +kernel)) ggX0_sendFrame_X2_add
set_option maxRecDepth 20000 in
theorem ggX0_sendFrame_X5_bitOf : GoodIn wsX0_sendFrame wsX5_bitOf := goodIn_r _ [24] (by decide +kernel) (by decide +kernel)
set_option maxRecDepth 20000 in
theorem gX0_sendFrame_X5_bitOf_n34 : GoodIn wsX0_sendFrame (wsX5_bitOf) := ggX0_sendFrame_X5_bitOf
theorem dX0_sendFrame_0 : decode cX0_sendFrame 0 = .ok (.iload_n 1, 1) := by decide +kernel
theorem dX0_sendFrame_1 : decode cX0_sendFrame 1 = .ok (.iload_n 2, 1) := by decide +kernel
theorem dX0_sendFrame_2 : decode cX0_sendFrame 2 = .ok (.iload_n 3, 1) := by decide +kernel
theorem dX0_sendFrame_3 : decode cX0_sendFrame 3 = .ok (.invokestatic 23, 3) := by decide +kernel
theorem dX0_sendFrame_6 : decode cX0_sendFrame 6 = .ok (.istore 4, 2) := by decide +kernel
theorem dX0_sendFrame_8 : decode cX0_sendFrame 8 = .ok (.aload_n 0, 1) := by decide +kernel
theorem dX0_sendFrame_9 : decode cX0_sendFrame 9 = .ok (.getfield 14, 3) := by decide +kernel
theorem dX0_sendFrame_12 : decode cX0_sendFrame 12 = .ok (.invokevirtual 27, 3) := by decide +kernel
theorem dX0_sendFrame_15 : decode cX0_sendFrame 15 = .ok (.aload_n 0, 1) := by decide +kernel
theorem dX0_sendFrame_16 : decode cX0_sendFrame 16 = .ok (.getfield 14, 3) := by decide +kernel
theorem dX0_sendFrame_19 : decode cX0_sendFrame 19 = .ok (.bipush 16, 2) := by decide +kernel
theorem dX0_sendFrame_21 : decode cX0_sendFrame 21 = .ok (.invokevirtual 30, 3) := by decide +kernel
theorem dX0_sendFrame_24 : decode cX0_sendFrame 24 = .ok (.aload_n 0, 1) := by decide +kernel
theorem dX0_sendFrame_25 : decode cX0_sendFrame 25 = .ok (.getfield 14, 3) := by decide +kernel
theorem dX0_sendFrame_28 : decode cX0_sendFrame 28 = .ok (.bipush 8, 2) := by decide +kernel
theorem dX0_sendFrame_30 : decode cX0_sendFrame 30 = .ok (.invokevirtual 30, 3) := by decide +kernel
theorem dX0_sendFrame_33 : decode cX0_sendFrame 33 = .ok (.iconst 0, 1) := by decide +kernel
theorem dX0_sendFrame_34 : decode cX0_sendFrame 34 = .ok (.istore 5, 2) := by decide +kernel
theorem dX0_sendFrame_36 : decode cX0_sendFrame 36 = .ok (.iload 5, 2) := by decide +kernel
theorem dX0_sendFrame_38 : decode cX0_sendFrame 38 = .ok (.bipush 9, 2) := by decide +kernel
theorem dX0_sendFrame_40 : decode cX0_sendFrame 40 = .ok (.if_icmp .ge 41, 3) := by decide +kernel
theorem dX0_sendFrame_43 : decode cX0_sendFrame 43 = .ok (.aload_n 0, 1) := by decide +kernel
theorem dX0_sendFrame_44 : decode cX0_sendFrame 44 = .ok (.getfield 14, 3) := by decide +kernel
theorem dX0_sendFrame_47 : decode cX0_sendFrame 47 = .ok (.iconst 4, 1) := by decide +kernel
theorem dX0_sendFrame_48 : decode cX0_sendFrame 48 = .ok (.invokevirtual 30, 3) := by decide +kernel
theorem dX0_sendFrame_51 : decode cX0_sendFrame 51 = .ok (.aload_n 0, 1) := by decide +kernel
theorem dX0_sendFrame_52 : decode cX0_sendFrame 52 = .ok (.getfield 14, 3) := by decide +kernel
theorem dX0_sendFrame_55 : decode cX0_sendFrame 55 = .ok (.iload 4, 2) := by decide +kernel
theorem dX0_sendFrame_57 : decode cX0_sendFrame 57 = .ok (.iload 5, 2) := by decide +kernel
theorem dX0_sendFrame_59 : decode cX0_sendFrame 59 = .ok (.invokestatic 34, 3) := by decide +kernel
theorem dX0_sendFrame_62 : decode cX0_sendFrame 62 = .ok (.iconst 1, 1) := by decide +kernel
theorem dX0_sendFrame_63 : decode cX0_sendFrame 63 = .ok (.if_icmp .ne 8, 3) := by decide +kernel
theorem dX0_sendFrame_66 : decode cX0_sendFrame 66 = .ok (.bipush 12, 2) := by decide +kernel
theorem dX0_sendFrame_68 : decode cX0_sendFrame 68 = .ok (.goto 4, 3) := by decide +kernel
theorem dX0_sendFrame_71 : decode cX0_sendFrame 71 = .ok (.iconst 4, 1) := by decide +kernel
theorem dX0_sendFrame_72 : decode cX0_sendFrame 72 = .ok (.invokevirtual 30, 3) := by decide +kernel
theorem dX0_sendFrame_75 : decode cX0_sendFrame 75 = .ok (.iinc 5 1, 3) := by decide +kernel
theorem dX0_sendFrame_78 : decode cX0_sendFrame 78 = .ok (.goto (-42), 3) := by decide +kernel
theorem dX0_sendFrame_81 : decode cX0_sendFrame 81 = .ok (.aload_n 0, 1) := by decide +kernel
theorem dX0_sendFrame_82 : decode cX0_sendFrame 82 = .ok (.getfield 14, 3) := by decide +kernel
theorem dX0_sendFrame_85 : decode cX0_sendFrame 85 = .ok (.iconst 4, 1) := by decide +kernel
theorem dX0_sendFrame_86 : decode cX0_sendFrame 86 = .ok (.invokevirtual 30, 3) := by decide +kernel
theorem dX0_sendFrame_89 : decode cX0_sendFrame 89 = .ok (.return_, 1) := by decide +kernel
set_option maxRecDepth 20000 in
theorem ggX0_sendRepeat_X2_empty : GoodIn wsX0_sendRepeat wsX2_empty := goodIn_r _ [6, 7, 19, 20] (by decide +kernel) (by decide +kernel)
set_option maxRecDepth 20000 in
theorem gX0_sendRepeat_X2_empty : GoodIn wsX0_sendRepeat (wsV RX0 27 RX2 yX2_empty wsX2_empty) := goodIn_app (goodIn_of _ (by decide +kernel)) ggX0_sendRepeat_X2_empty
set_option maxRecDepth 20000 in
theorem ggX0_sendRepeat_X2_add : GoodIn wsX0_sendRepeat wsX2_add := goodIn_r _ [11, 7, 12, 19, 20] (by decide +kernel) (by decide +kernel)
set_option maxRecDepth 20000 in
theorem gX0_sendRepeat_X2_add : GoodIn wsX0_sendRepeat (wsV RX0 30 RX2 yX2_add wsX2_add) := goodIn_app (goodIn_of _ (by decide +kernel)) ggX0_sendRepeat_X2_add
theorem dX0_sendRepeat_0 : decode cX0_sendRepeat 0 = .ok (.aload_n 0, 1) := by decide +kernel
theorem dX0_sendRepeat_1 : decode cX0_sendRepeat 1 = .ok (.getfield 14, 3) := by decide +kernel
theorem dX0_sendRepeat_4 : decode cX0_sendRepeat 4 = .ok (.invokevirtual 27, 3) := by decide +kernel
theorem dX0_sendRepeat_7 : decode cX0_sendRepeat 7 = .ok (.aload_n 0, 1) := by decide +kernel
theorem dX0_sendRepeat_8 : decode cX0_sendRepeat 8 = .ok (.getfield 14, 3) := by decide +kernel
theorem dX0_sendRepeat_11 : decode cX0_sendRepeat 11 = .ok (.bipush 16, 2) := by decide +kernel
theorem dX0_sendRepeat_13 : decode cX0_sendRepeat 13 = .ok (.invokevirtual 30, 3) := by decide +kernel
theorem dX0_sendRepeat_16 : decode cX0_sendRepeat 16 = .ok (.aload_n 0, 1) := by decide +kernel
theorem dX0_sendRepeat_17 : decode cX0_sendRepeat 17 = .ok (.getfield 14, 3) := by decide +kernel
theorem dX0_sendRepeat_20 : decode cX0_sendRepeat 20 = .ok (.iconst 4, 1) := by decide +kernel
theorem dX0_sendRepeat_21 : decode cX0_sendRepeat 21 = .ok (.invokevirtual 30, 3) := by decide +kernel
theorem dX0_sendRepeat_24 : decode cX0_sendRepeat 24 = .ok (.aload_n 0, 1) := by decide +kernel
theorem dX0_sendRepeat_25 : decode cX0_sendRepeat 25 = .ok (.getfield 14, 3) := by decide +kernel
theorem dX0_sendRepeat_28 : decode cX0_sendRepeat 28 = .ok (.iconst 4, 1) := by decide +kernel
theorem dX0_sendRepeat_29 : decode cX0_sendRepeat 29 = .ok (.invokevirtual 30, 3) := by decide +kernel
theorem dX0_sendRepeat_32 : decode cX0_sendRepeat 32 = .ok (.return_, 1) := by decide +kernel
set_option maxRecDepth 20000 in
theorem ggX0_sendRow_X2_become : GoodIn wsX0_sendRow wsX2_become := goodIn_r _ [6, 7, 8, 9, 10, 11, 12, 13, 14, 15, 16, 23, 24] (by decide +kernel) (by decide +kernel)
set_option maxRecDepth 20000 in
theorem gX0_sendRow_X2_become : GoodIn wsX0_sendRow (wsV RX0 38 RX2 yX2_become wsX2_become) := goodIn_app (goodIn_of _ (by decide +kernel)) ggX0_sendRow_X2_become
theorem dX0_sendRow_0 : decode cX0_sendRow 0 = .ok (.aload_n 0, 1) := by decide +kernel
theorem dX0_sendRow_1 : decode cX0_sendRow 1 = .ok (.getfield 14, 3) := by decide +kernel
theorem dX0_sendRow_4 : decode cX0_sendRow 4 = .ok (.aload_n 1, 1) := by decide +kernel
theorem dX0_sendRow_5 : decode cX0_sendRow 5 = .ok (.invokevirtual 38, 3) := by decide +kernel
theorem dX0_sendRow_8 : decode cX0_sendRow 8 = .ok (.return_, 1) := by decide +kernel
set_option maxRecDepth 20000 in
theorem ggX0_listen_X5_weakestHeard : GoodIn wsX0_listen wsX5_weakestHeard := goodIn_r _ [10] (by decide +kernel) (by decide +kernel)
set_option maxRecDepth 20000 in
theorem gX0_listen_X5_weakestHeard_n42 : GoodIn wsX0_listen (wsX5_weakestHeard) := ggX0_listen_X5_weakestHeard
set_option maxRecDepth 20000 in
theorem ggX0_listen_X2_empty : GoodIn wsX0_listen wsX2_empty := goodIn_r _ [15, 16, 32, 33] (by decide +kernel) (by decide +kernel)
set_option maxRecDepth 20000 in
theorem gX0_listen_X2_empty : GoodIn wsX0_listen (wsV RX0 27 RX2 yX2_empty wsX2_empty) := goodIn_app (goodIn_of _ (by decide +kernel)) ggX0_listen_X2_empty
set_option maxRecDepth 20000 in
theorem ggX0_listen_X2_at : GoodIn wsX0_listen wsX2_at := goodIn_r _ [20, 16, 21, 32, 33] (by decide +kernel) (by decide +kernel)
set_option maxRecDepth 20000 in
theorem gX0_listen_X2_at : GoodIn wsX0_listen (wsV RX0 54 RX2 yX2_at wsX2_at) := goodIn_app (goodIn_of _ (by decide +kernel)) ggX0_listen_X2_at
set_option maxRecDepth 20000 in
theorem ggX0_listen_X2_add : GoodIn wsX0_listen wsX2_add := goodIn_r _ [25, 16, 21, 32, 33] (by decide +kernel) (by decide +kernel)
set_option maxRecDepth 20000 in
theorem gX0_listen_X2_add : GoodIn wsX0_listen (wsV RX0 30 RX2 yX2_add wsX2_add) := goodIn_app (goodIn_of _ (by decide +kernel)) ggX0_listen_X2_add
theorem dX0_listen_0 : decode cX0_listen 0 = .ok (.iload_n 1, 1) := by decide +kernel
theorem dX0_listen_1 : decode cX0_listen 1 = .ok (.iload_n 2, 1) := by decide +kernel
theorem dX0_listen_2 : decode cX0_listen 2 = .ok (.imul, 1) := by decide +kernel
theorem dX0_listen_3 : decode cX0_listen 3 = .ok (.bipush 20, 2) := by decide +kernel
theorem dX0_listen_5 : decode cX0_listen 5 = .ok (.idiv, 1) := by decide +kernel
theorem dX0_listen_6 : decode cX0_listen 6 = .ok (.istore 4, 2) := by decide +kernel
theorem dX0_listen_8 : decode cX0_listen 8 = .ok (.iload_n 3, 1) := by decide +kernel
theorem dX0_listen_9 : decode cX0_listen 9 = .ok (.iload_n 2, 1) := by decide +kernel
theorem dX0_listen_10 : decode cX0_listen 10 = .ok (.invokestatic 42, 3) := by decide +kernel
theorem dX0_listen_13 : decode cX0_listen 13 = .ok (.if_icmp .ge 7, 3) := by decide +kernel
theorem dX0_listen_16 : decode cX0_listen 16 = .ok (.iconst 1, 1) := by decide +kernel
theorem dX0_listen_17 : decode cX0_listen 17 = .ok (.goto 4, 3) := by decide +kernel
theorem dX0_listen_20 : decode cX0_listen 20 = .ok (.iconst 0, 1) := by decide +kernel
theorem dX0_listen_21 : decode cX0_listen 21 = .ok (.istore 5, 2) := by decide +kernel
theorem dX0_listen_23 : decode cX0_listen 23 = .ok (.iconst 0, 1) := by decide +kernel
theorem dX0_listen_24 : decode cX0_listen 24 = .ok (.istore 6, 2) := by decide +kernel
theorem dX0_listen_26 : decode cX0_listen 26 = .ok (.aload_n 0, 1) := by decide +kernel
theorem dX0_listen_27 : decode cX0_listen 27 = .ok (.iconst 0, 1) := by decide +kernel
theorem dX0_listen_28 : decode cX0_listen 28 = .ok (.putfield 46, 3) := by decide +kernel
theorem dX0_listen_31 : decode cX0_listen 31 = .ok (.aload_n 0, 1) := by decide +kernel
theorem dX0_listen_32 : decode cX0_listen 32 = .ok (.getfield 20, 3) := by decide +kernel
theorem dX0_listen_35 : decode cX0_listen 35 = .ok (.invokevirtual 27, 3) := by decide +kernel
theorem dX0_listen_38 : decode cX0_listen 38 = .ok (.iconst 0, 1) := by decide +kernel
theorem dX0_listen_39 : decode cX0_listen 39 = .ok (.istore 7, 2) := by decide +kernel
theorem dX0_listen_41 : decode cX0_listen 41 = .ok (.iload 7, 2) := by decide +kernel
theorem dX0_listen_43 : decode cX0_listen 43 = .ok (.aload_n 0, 1) := by decide +kernel
theorem dX0_listen_44 : decode cX0_listen 44 = .ok (.getfield 14, 3) := by decide +kernel
theorem dX0_listen_47 : decode cX0_listen 47 = .ok (.getfield 50, 3) := by decide +kernel
theorem dX0_listen_50 : decode cX0_listen 50 = .ok (.if_icmp .ge 112, 3) := by decide +kernel
theorem dX0_listen_53 : decode cX0_listen 53 = .ok (.iload 7, 2) := by decide +kernel
theorem dX0_listen_55 : decode cX0_listen 55 = .ok (.iconst 2, 1) := by decide +kernel
theorem dX0_listen_56 : decode cX0_listen 56 = .ok (.irem, 1) := by decide +kernel
theorem dX0_listen_57 : decode cX0_listen 57 = .ok (.iconst 1, 1) := by decide +kernel
theorem dX0_listen_58 : decode cX0_listen 58 = .ok (.if_icmp .ne 23, 3) := by decide +kernel
theorem dX0_listen_61 : decode cX0_listen 61 = .ok (.iload 6, 2) := by decide +kernel
theorem dX0_listen_63 : decode cX0_listen 63 = .ok (.aload_n 0, 1) := by decide +kernel
theorem dX0_listen_64 : decode cX0_listen 64 = .ok (.getfield 14, 3) := by decide +kernel
theorem dX0_listen_67 : decode cX0_listen 67 = .ok (.iload 7, 2) := by decide +kernel
theorem dX0_listen_69 : decode cX0_listen 69 = .ok (.invokevirtual 54, 3) := by decide +kernel
theorem dX0_listen_72 : decode cX0_listen 72 = .ok (.iload 4, 2) := by decide +kernel
theorem dX0_listen_74 : decode cX0_listen 74 = .ok (.iadd, 1) := by decide +kernel
theorem dX0_listen_75 : decode cX0_listen 75 = .ok (.iadd, 1) := by decide +kernel
theorem dX0_listen_76 : decode cX0_listen 76 = .ok (.istore 6, 2) := by decide +kernel
theorem dX0_listen_78 : decode cX0_listen 78 = .ok (.goto 78, 3) := by decide +kernel
theorem dX0_listen_81 : decode cX0_listen 81 = .ok (.aload_n 0, 1) := by decide +kernel
theorem dX0_listen_82 : decode cX0_listen 82 = .ok (.getfield 14, 3) := by decide +kernel
theorem dX0_listen_85 : decode cX0_listen 85 = .ok (.iload 7, 2) := by decide +kernel
theorem dX0_listen_87 : decode cX0_listen 87 = .ok (.invokevirtual 54, 3) := by decide +kernel
theorem dX0_listen_90 : decode cX0_listen 90 = .ok (.iload 4, 2) := by decide +kernel
theorem dX0_listen_92 : decode cX0_listen 92 = .ok (.isub, 1) := by decide +kernel
theorem dX0_listen_93 : decode cX0_listen 93 = .ok (.iconst 0, 1) := by decide +kernel
theorem dX0_listen_94 : decode cX0_listen 94 = .ok (.invokestatic 57, 3) := by decide +kernel
theorem dX0_listen_97 : decode cX0_listen 97 = .ok (.istore 8, 2) := by decide +kernel
theorem dX0_listen_99 : decode cX0_listen 99 = .ok (.iload 5, 2) := by decide +kernel
theorem dX0_listen_101 : decode cX0_listen 101 = .ok (.ifCond .ne 9, 3) := by decide +kernel
theorem dX0_listen_104 : decode cX0_listen 104 = .ok (.iload 8, 2) := by decide +kernel
theorem dX0_listen_106 : decode cX0_listen 106 = .ok (.iconst 2, 1) := by decide +kernel
theorem dX0_listen_107 : decode cX0_listen 107 = .ok (.if_icmp .ge 18, 3) := by decide +kernel
theorem dX0_listen_110 : decode cX0_listen 110 = .ok (.aload_n 0, 1) := by decide +kernel
theorem dX0_listen_111 : decode cX0_listen 111 = .ok (.iconst 1, 1) := by decide +kernel
theorem dX0_listen_112 : decode cX0_listen 112 = .ok (.putfield 46, 3) := by decide +kernel
theorem dX0_listen_115 : decode cX0_listen 115 = .ok (.iload 6, 2) := by decide +kernel
theorem dX0_listen_117 : decode cX0_listen 117 = .ok (.iload 8, 2) := by decide +kernel
theorem dX0_listen_119 : decode cX0_listen 119 = .ok (.iadd, 1) := by decide +kernel
theorem dX0_listen_120 : decode cX0_listen 120 = .ok (.istore 6, 2) := by decide +kernel
theorem dX0_listen_122 : decode cX0_listen 122 = .ok (.goto 34, 3) := by decide +kernel
theorem dX0_listen_125 : decode cX0_listen 125 = .ok (.aload_n 0, 1) := by decide +kernel
theorem dX0_listen_126 : decode cX0_listen 126 = .ok (.getfield 20, 3) := by decide +kernel
theorem dX0_listen_129 : decode cX0_listen 129 = .ok (.getfield 50, 3) := by decide +kernel
theorem dX0_listen_132 : decode cX0_listen 132 = .ok (.ifCond .le 12, 3) := by decide +kernel
theorem dX0_listen_135 : decode cX0_listen 135 = .ok (.aload_n 0, 1) := by decide +kernel
theorem dX0_listen_136 : decode cX0_listen 136 = .ok (.getfield 20, 3) := by decide +kernel
theorem dX0_listen_139 : decode cX0_listen 139 = .ok (.iload 6, 2) := by decide +kernel
theorem dX0_listen_141 : decode cX0_listen 141 = .ok (.invokevirtual 30, 3) := by decide +kernel
theorem dX0_listen_144 : decode cX0_listen 144 = .ok (.aload_n 0, 1) := by decide +kernel
theorem dX0_listen_145 : decode cX0_listen 145 = .ok (.getfield 20, 3) := by decide +kernel
theorem dX0_listen_148 : decode cX0_listen 148 = .ok (.iload 8, 2) := by decide +kernel
theorem dX0_listen_150 : decode cX0_listen 150 = .ok (.invokevirtual 30, 3) := by decide +kernel
theorem dX0_listen_153 : decode cX0_listen 153 = .ok (.iconst 0, 1) := by decide +kernel
theorem dX0_listen_154 : decode cX0_listen 154 = .ok (.istore 6, 2) := by decide +kernel
theorem dX0_listen_156 : decode cX0_listen 156 = .ok (.iinc 7 1, 3) := by decide +kernel
theorem dX0_listen_159 : decode cX0_listen 159 = .ok (.goto (-118), 3) := by decide +kernel
theorem dX0_listen_162 : decode cX0_listen 162 = .ok (.return_, 1) := by decide +kernel
set_option maxRecDepth 20000 in
theorem ggX0_decode_X2_at : GoodIn wsX0_decode wsX2_at := goodIn_r _ [9, 10, 11, 25, 26] (by decide +kernel) (by decide +kernel)
set_option maxRecDepth 20000 in
theorem gX0_decode_X2_at : GoodIn wsX0_decode (wsV RX0 54 RX2 yX2_at wsX2_at) := goodIn_app (goodIn_of _ (by decide +kernel)) ggX0_decode_X2_at
set_option maxRecDepth 20000 in
theorem ggX0_decode_J6_bitCount_0f7a4 : GoodIn wsX0_decode wsJ6_bitCount_0f7a4 := goodIn_r _ [15, 16, 17, 18] (by decide +kernel) (by decide +kernel)
set_option maxRecDepth 20000 in
theorem gX0_decode_J6_bitCount_0f7a4 : GoodIn wsX0_decode (va_wsS RX0 62 yJ6_bitCount_0f7a4 wsJ6_bitCount_0f7a4) := goodIn_app (goodIn_of _ (by decide +kernel)) ggX0_decode_J6_bitCount_0f7a4
theorem dX0_decode_0 : decode cX0_decode 0 = .ok (.aload_n 0, 1) := by decide +kernel
theorem dX0_decode_1 : decode cX0_decode 1 = .ok (.getfield 20, 3) := by decide +kernel
theorem dX0_decode_4 : decode cX0_decode 4 = .ok (.getfield 50, 3) := by decide +kernel
theorem dX0_decode_7 : decode cX0_decode 7 = .ok (.iconst 3, 1) := by decide +kernel
theorem dX0_decode_8 : decode cX0_decode 8 = .ok (.if_icmp .eq 17, 3) := by decide +kernel
theorem dX0_decode_11 : decode cX0_decode 11 = .ok (.aload_n 0, 1) := by decide +kernel
theorem dX0_decode_12 : decode cX0_decode 12 = .ok (.getfield 20, 3) := by decide +kernel
theorem dX0_decode_15 : decode cX0_decode 15 = .ok (.getfield 50, 3) := by decide +kernel
theorem dX0_decode_18 : decode cX0_decode 18 = .ok (.bipush 21, 2) := by decide +kernel
theorem dX0_decode_20 : decode cX0_decode 20 = .ok (.if_icmp .eq 5, 3) := by decide +kernel
theorem dX0_decode_23 : decode cX0_decode 23 = .ok (.iconst 1, 1) := by decide +kernel
theorem dX0_decode_24 : decode cX0_decode 24 = .ok (.ireturn, 1) := by decide +kernel
theorem dX0_decode_25 : decode cX0_decode 25 = .ok (.aload_n 0, 1) := by decide +kernel
theorem dX0_decode_26 : decode cX0_decode 26 = .ok (.getfield 20, 3) := by decide +kernel
theorem dX0_decode_29 : decode cX0_decode 29 = .ok (.iconst 0, 1) := by decide +kernel
theorem dX0_decode_30 : decode cX0_decode 30 = .ok (.invokevirtual 54, 3) := by decide +kernel
theorem dX0_decode_33 : decode cX0_decode 33 = .ok (.bipush 10, 2) := by decide +kernel
theorem dX0_decode_35 : decode cX0_decode 35 = .ok (.if_icmp .lt 16, 3) := by decide +kernel
theorem dX0_decode_38 : decode cX0_decode 38 = .ok (.aload_n 0, 1) := by decide +kernel
theorem dX0_decode_39 : decode cX0_decode 39 = .ok (.getfield 20, 3) := by decide +kernel
theorem dX0_decode_42 : decode cX0_decode 42 = .ok (.iconst 0, 1) := by decide +kernel
theorem dX0_decode_43 : decode cX0_decode 43 = .ok (.invokevirtual 54, 3) := by decide +kernel
theorem dX0_decode_46 : decode cX0_decode 46 = .ok (.bipush 20, 2) := by decide +kernel
theorem dX0_decode_48 : decode cX0_decode 48 = .ok (.if_icmp .le 5, 3) := by decide +kernel
theorem dX0_decode_51 : decode cX0_decode 51 = .ok (.iconst 2, 1) := by decide +kernel
theorem dX0_decode_52 : decode cX0_decode 52 = .ok (.ireturn, 1) := by decide +kernel
theorem dX0_decode_53 : decode cX0_decode 53 = .ok (.aload_n 0, 1) := by decide +kernel
theorem dX0_decode_54 : decode cX0_decode 54 = .ok (.getfield 20, 3) := by decide +kernel
theorem dX0_decode_57 : decode cX0_decode 57 = .ok (.getfield 50, 3) := by decide +kernel
theorem dX0_decode_60 : decode cX0_decode 60 = .ok (.iconst 3, 1) := by decide +kernel
theorem dX0_decode_61 : decode cX0_decode 61 = .ok (.if_icmp .ne 23, 3) := by decide +kernel
theorem dX0_decode_64 : decode cX0_decode 64 = .ok (.aload_n 0, 1) := by decide +kernel
theorem dX0_decode_65 : decode cX0_decode 65 = .ok (.getfield 20, 3) := by decide +kernel
theorem dX0_decode_68 : decode cX0_decode 68 = .ok (.iconst 1, 1) := by decide +kernel
theorem dX0_decode_69 : decode cX0_decode 69 = .ok (.invokevirtual 54, 3) := by decide +kernel
theorem dX0_decode_72 : decode cX0_decode 72 = .ok (.bipush 6, 2) := by decide +kernel
theorem dX0_decode_74 : decode cX0_decode 74 = .ok (.if_icmp .gt 8, 3) := by decide +kernel
theorem dX0_decode_77 : decode cX0_decode 77 = .ok (.bipush 8, 2) := by decide +kernel
theorem dX0_decode_79 : decode cX0_decode 79 = .ok (.goto 4, 3) := by decide +kernel
theorem dX0_decode_82 : decode cX0_decode 82 = .ok (.iconst 3, 1) := by decide +kernel
theorem dX0_decode_83 : decode cX0_decode 83 = .ok (.ireturn, 1) := by decide +kernel
theorem dX0_decode_84 : decode cX0_decode 84 = .ok (.iconst 0, 1) := by decide +kernel
theorem dX0_decode_85 : decode cX0_decode 85 = .ok (.istore_n 1, 1) := by decide +kernel
theorem dX0_decode_86 : decode cX0_decode 86 = .ok (.iconst 3, 1) := by decide +kernel
theorem dX0_decode_87 : decode cX0_decode 87 = .ok (.istore_n 2, 1) := by decide +kernel
theorem dX0_decode_88 : decode cX0_decode 88 = .ok (.iload_n 2, 1) := by decide +kernel
theorem dX0_decode_89 : decode cX0_decode 89 = .ok (.aload_n 0, 1) := by decide +kernel
theorem dX0_decode_90 : decode cX0_decode 90 = .ok (.getfield 20, 3) := by decide +kernel
theorem dX0_decode_93 : decode cX0_decode 93 = .ok (.getfield 50, 3) := by decide +kernel
theorem dX0_decode_96 : decode cX0_decode 96 = .ok (.if_icmp .ge 32, 3) := by decide +kernel
theorem dX0_decode_99 : decode cX0_decode 99 = .ok (.iload_n 1, 1) := by decide +kernel
theorem dX0_decode_100 : decode cX0_decode 100 = .ok (.iconst 1, 1) := by decide +kernel
theorem dX0_decode_101 : decode cX0_decode 101 = .ok (.ishl, 1) := by decide +kernel
theorem dX0_decode_102 : decode cX0_decode 102 = .ok (.aload_n 0, 1) := by decide +kernel
theorem dX0_decode_103 : decode cX0_decode 103 = .ok (.getfield 20, 3) := by decide +kernel
theorem dX0_decode_106 : decode cX0_decode 106 = .ok (.iload_n 2, 1) := by decide +kernel
theorem dX0_decode_107 : decode cX0_decode 107 = .ok (.invokevirtual 54, 3) := by decide +kernel
theorem dX0_decode_110 : decode cX0_decode 110 = .ok (.bipush 8, 2) := by decide +kernel
theorem dX0_decode_112 : decode cX0_decode 112 = .ok (.if_icmp .gt 7, 3) := by decide +kernel
theorem dX0_decode_115 : decode cX0_decode 115 = .ok (.iconst 0, 1) := by decide +kernel
theorem dX0_decode_116 : decode cX0_decode 116 = .ok (.goto 4, 3) := by decide +kernel
theorem dX0_decode_119 : decode cX0_decode 119 = .ok (.iconst 1, 1) := by decide +kernel
theorem dX0_decode_120 : decode cX0_decode 120 = .ok (.ior, 1) := by decide +kernel
theorem dX0_decode_121 : decode cX0_decode 121 = .ok (.istore_n 1, 1) := by decide +kernel
theorem dX0_decode_122 : decode cX0_decode 122 = .ok (.iinc 2 2, 3) := by decide +kernel
theorem dX0_decode_125 : decode cX0_decode 125 = .ok (.goto (-37), 3) := by decide +kernel
theorem dX0_decode_128 : decode cX0_decode 128 = .ok (.iload_n 1, 1) := by decide +kernel
theorem dX0_decode_129 : decode cX0_decode 129 = .ok (.invokestatic 62, 3) := by decide +kernel
theorem dX0_decode_132 : decode cX0_decode 132 = .ok (.iconst 2, 1) := by decide +kernel
theorem dX0_decode_133 : decode cX0_decode 133 = .ok (.irem, 1) := by decide +kernel
theorem dX0_decode_134 : decode cX0_decode 134 = .ok (.ifCond .eq 5, 3) := by decide +kernel
theorem dX0_decode_137 : decode cX0_decode 137 = .ok (.iconst 4, 1) := by decide +kernel
theorem dX0_decode_138 : decode cX0_decode 138 = .ok (.ireturn, 1) := by decide +kernel
theorem dX0_decode_139 : decode cX0_decode 139 = .ok (.aload_n 0, 1) := by decide +kernel
theorem dX0_decode_140 : decode cX0_decode 140 = .ok (.iload_n 1, 1) := by decide +kernel
theorem dX0_decode_141 : decode cX0_decode 141 = .ok (.bipush 6, 2) := by decide +kernel
theorem dX0_decode_143 : decode cX0_decode 143 = .ok (.ishr, 1) := by decide +kernel
theorem dX0_decode_144 : decode cX0_decode 144 = .ok (.bipush 7, 2) := by decide +kernel
theorem dX0_decode_146 : decode cX0_decode 146 = .ok (.iand, 1) := by decide +kernel
theorem dX0_decode_147 : decode cX0_decode 147 = .ok (.putfield 67, 3) := by decide +kernel
theorem dX0_decode_150 : decode cX0_decode 150 = .ok (.aload_n 0, 1) := by decide +kernel
theorem dX0_decode_151 : decode cX0_decode 151 = .ok (.iload_n 1, 1) := by decide +kernel
theorem dX0_decode_152 : decode cX0_decode 152 = .ok (.iconst 2, 1) := by decide +kernel
theorem dX0_decode_153 : decode cX0_decode 153 = .ok (.ishr, 1) := by decide +kernel
theorem dX0_decode_154 : decode cX0_decode 154 = .ok (.bipush 15, 2) := by decide +kernel
theorem dX0_decode_156 : decode cX0_decode 156 = .ok (.iand, 1) := by decide +kernel
theorem dX0_decode_157 : decode cX0_decode 157 = .ok (.putfield 70, 3) := by decide +kernel
theorem dX0_decode_160 : decode cX0_decode 160 = .ok (.aload_n 0, 1) := by decide +kernel
theorem dX0_decode_161 : decode cX0_decode 161 = .ok (.iload_n 1, 1) := by decide +kernel
theorem dX0_decode_162 : decode cX0_decode 162 = .ok (.iconst 1, 1) := by decide +kernel
theorem dX0_decode_163 : decode cX0_decode 163 = .ok (.ishr, 1) := by decide +kernel
theorem dX0_decode_164 : decode cX0_decode 164 = .ok (.iconst 1, 1) := by decide +kernel
theorem dX0_decode_165 : decode cX0_decode 165 = .ok (.iand, 1) := by decide +kernel
theorem dX0_decode_166 : decode cX0_decode 166 = .ok (.putfield 73, 3) := by decide +kernel
theorem dX0_decode_169 : decode cX0_decode 169 = .ok (.bipush 7, 2) := by decide +kernel
theorem dX0_decode_171 : decode cX0_decode 171 = .ok (.ireturn, 1) := by decide +kernel
set_option maxRecDepth 20000 in
theorem ggX1_init_X2_init : GoodIn wsX1_init wsX2_init := goodIn_r _ [10, 11, 2, 3, 12, 13, 14, 15, 16] (by decide +kernel) (by decide +kernel)
set_option maxRecDepth 20000 in
theorem gX1_init_X2_init : GoodIn wsX1_init (wsX2_init) := ggX1_init_X2_init
theorem dX1_init_0 : decode cX1_init 0 = .ok (.aload_n 0, 1) := by decide +kernel
theorem dX1_init_1 : decode cX1_init 1 = .ok (.invokespecial 3, 3) := by decide +kernel
theorem dX1_init_4 : decode cX1_init 4 = .ok (.aload_n 0, 1) := by decide +kernel
theorem dX1_init_5 : decode cX1_init 5 = .ok (.new 9, 3) := by decide +kernel
theorem dX1_init_8 : decode cX1_init 8 = .ok (.dup, 1) := by decide +kernel
theorem dX1_init_9 : decode cX1_init 9 = .ok (.bipush 60, 2) := by decide +kernel
theorem dX1_init_11 : decode cX1_init 11 = .ok (.iconst 0, 1) := by decide +kernel
theorem dX1_init_12 : decode cX1_init 12 = .ok (.invokespecial 11, 3) := by decide +kernel
theorem dX1_init_15 : decode cX1_init 15 = .ok (.putfield 14, 3) := by decide +kernel
theorem dX1_init_18 : decode cX1_init 18 = .ok (.return_, 1) := by decide +kernel
theorem dX2_init_0 : decode cX2_init 0 = .ok (.aload_n 0, 1) := by decide +kernel
theorem dX2_init_1 : decode cX2_init 1 = .ok (.invokespecial 1, 3) := by decide +kernel
theorem dX2_init_4 : decode cX2_init 4 = .ok (.aload_n 0, 1) := by decide +kernel
theorem dX2_init_5 : decode cX2_init 5 = .ok (.iload_n 1, 1) := by decide +kernel
theorem dX2_init_6 : decode cX2_init 6 = .ok (.ifCond .le 7, 3) := by decide +kernel
theorem dX2_init_9 : decode cX2_init 9 = .ok (.iload_n 1, 1) := by decide +kernel
theorem dX2_init_10 : decode cX2_init 10 = .ok (.goto 4, 3) := by decide +kernel
theorem dX2_init_13 : decode cX2_init 13 = .ok (.iconst 0, 1) := by decide +kernel
theorem dX2_init_14 : decode cX2_init 14 = .ok (.newarray .int, 2) := by decide +kernel
theorem dX2_init_16 : decode cX2_init 16 = .ok (.putfield 7, 3) := by decide +kernel
theorem dX2_init_19 : decode cX2_init 19 = .ok (.aload_n 0, 1) := by decide +kernel
theorem dX2_init_20 : decode cX2_init 20 = .ok (.iload_n 2, 1) := by decide +kernel
theorem dX2_init_21 : decode cX2_init 21 = .ok (.putfield 13, 3) := by decide +kernel
theorem dX2_init_24 : decode cX2_init 24 = .ok (.return_, 1) := by decide +kernel
theorem dX2_at_0 : decode cX2_at 0 = .ok (.iload_n 1, 1) := by decide +kernel
theorem dX2_at_1 : decode cX2_at 1 = .ok (.ifCond .lt 29, 3) := by decide +kernel
theorem dX2_at_4 : decode cX2_at 4 = .ok (.iload_n 1, 1) := by decide +kernel
theorem dX2_at_5 : decode cX2_at 5 = .ok (.aload_n 0, 1) := by decide +kernel
theorem dX2_at_6 : decode cX2_at 6 = .ok (.getfield 13, 3) := by decide +kernel
theorem dX2_at_9 : decode cX2_at 9 = .ok (.if_icmp .ge 21, 3) := by decide +kernel
theorem dX2_at_12 : decode cX2_at 12 = .ok (.iload_n 1, 1) := by decide +kernel
theorem dX2_at_13 : decode cX2_at 13 = .ok (.aload_n 0, 1) := by decide +kernel
theorem dX2_at_14 : decode cX2_at 14 = .ok (.getfield 7, 3) := by decide +kernel
theorem dX2_at_17 : decode cX2_at 17 = .ok (.arraylength, 1) := by decide +kernel
theorem dX2_at_18 : decode cX2_at 18 = .ok (.if_icmp .ge 12, 3) := by decide +kernel
theorem dX2_at_21 : decode cX2_at 21 = .ok (.aload_n 0, 1) := by decide +kernel
theorem dX2_at_22 : decode cX2_at 22 = .ok (.getfield 7, 3) := by decide +kernel
theorem dX2_at_25 : decode cX2_at 25 = .ok (.iload_n 1, 1) := by decide +kernel
theorem dX2_at_26 : decode cX2_at 26 = .ok (.iaload, 1) := by decide +kernel
theorem dX2_at_27 : decode cX2_at 27 = .ok (.goto 4, 3) := by decide +kernel
theorem dX2_at_30 : decode cX2_at 30 = .ok (.iconst 0, 1) := by decide +kernel
theorem dX2_at_31 : decode cX2_at 31 = .ok (.ireturn, 1) := by decide +kernel
theorem dX2_set_0 : decode cX2_set 0 = .ok (.iload_n 1, 1) := by decide +kernel
theorem dX2_set_1 : decode cX2_set 1 = .ok (.ifCond .lt 27, 3) := by decide +kernel
theorem dX2_set_4 : decode cX2_set 4 = .ok (.iload_n 1, 1) := by decide +kernel
theorem dX2_set_5 : decode cX2_set 5 = .ok (.aload_n 0, 1) := by decide +kernel
theorem dX2_set_6 : decode cX2_set 6 = .ok (.getfield 13, 3) := by decide +kernel
theorem dX2_set_9 : decode cX2_set 9 = .ok (.if_icmp .ge 19, 3) := by decide +kernel
theorem dX2_set_12 : decode cX2_set 12 = .ok (.iload_n 1, 1) := by decide +kernel
theorem dX2_set_13 : decode cX2_set 13 = .ok (.aload_n 0, 1) := by decide +kernel
theorem dX2_set_14 : decode cX2_set 14 = .ok (.getfield 7, 3) := by decide +kernel
theorem dX2_set_17 : decode cX2_set 17 = .ok (.arraylength, 1) := by decide +kernel
theorem dX2_set_18 : decode cX2_set 18 = .ok (.if_icmp .ge 10, 3) := by decide +kernel
theorem dX2_set_21 : decode cX2_set 21 = .ok (.aload_n 0, 1) := by decide +kernel
theorem dX2_set_22 : decode cX2_set 22 = .ok (.getfield 7, 3) := by decide +kernel
theorem dX2_set_25 : decode cX2_set 25 = .ok (.iload_n 1, 1) := by decide +kernel
theorem dX2_set_26 : decode cX2_set 26 = .ok (.iload_n 2, 1) := by decide +kernel
theorem dX2_set_27 : decode cX2_set 27 = .ok (.iastore, 1) := by decide +kernel
theorem dX2_set_28 : decode cX2_set 28 = .ok (.return_, 1) := by decide +kernel
theorem dX2_increase_0 : decode cX2_increase 0 = .ok (.iload_n 1, 1) := by decide +kernel
theorem dX2_increase_1 : decode cX2_increase 1 = .ok (.ifCond .lt 30, 3) := by decide +kernel
theorem dX2_increase_4 : decode cX2_increase 4 = .ok (.iload_n 1, 1) := by decide +kernel
theorem dX2_increase_5 : decode cX2_increase 5 = .ok (.aload_n 0, 1) := by decide +kernel
theorem dX2_increase_6 : decode cX2_increase 6 = .ok (.getfield 13, 3) := by decide +kernel
theorem dX2_increase_9 : decode cX2_increase 9 = .ok (.if_icmp .ge 22, 3) := by decide +kernel
theorem dX2_increase_12 : decode cX2_increase 12 = .ok (.iload_n 1, 1) := by decide +kernel
theorem dX2_increase_13 : decode cX2_increase 13 = .ok (.aload_n 0, 1) := by decide +kernel
theorem dX2_increase_14 : decode cX2_increase 14 = .ok (.getfield 7, 3) := by decide +kernel
theorem dX2_increase_17 : decode cX2_increase 17 = .ok (.arraylength, 1) := by decide +kernel
theorem dX2_increase_18 : decode cX2_increase 18 = .ok (.if_icmp .ge 13, 3) := by decide +kernel
theorem dX2_increase_21 : decode cX2_increase 21 = .ok (.aload_n 0, 1) := by decide +kernel
theorem dX2_increase_22 : decode cX2_increase 22 = .ok (.getfield 7, 3) := by decide +kernel
theorem dX2_increase_25 : decode cX2_increase 25 = .ok (.iload_n 1, 1) := by decide +kernel
theorem dX2_increase_26 : decode cX2_increase 26 = .ok (.dup2, 1) := by decide +kernel
theorem dX2_increase_27 : decode cX2_increase 27 = .ok (.iaload, 1) := by decide +kernel
theorem dX2_increase_28 : decode cX2_increase 28 = .ok (.iconst 1, 1) := by decide +kernel
theorem dX2_increase_29 : decode cX2_increase 29 = .ok (.iadd, 1) := by decide +kernel
theorem dX2_increase_30 : decode cX2_increase 30 = .ok (.iastore, 1) := by decide +kernel
theorem dX2_increase_31 : decode cX2_increase 31 = .ok (.return_, 1) := by decide +kernel
theorem dX2_add_0 : decode cX2_add 0 = .ok (.aload_n 0, 1) := by decide +kernel
theorem dX2_add_1 : decode cX2_add 1 = .ok (.getfield 13, 3) := by decide +kernel
theorem dX2_add_4 : decode cX2_add 4 = .ok (.ifCond .lt 35, 3) := by decide +kernel
theorem dX2_add_7 : decode cX2_add 7 = .ok (.aload_n 0, 1) := by decide +kernel
theorem dX2_add_8 : decode cX2_add 8 = .ok (.getfield 13, 3) := by decide +kernel
theorem dX2_add_11 : decode cX2_add 11 = .ok (.aload_n 0, 1) := by decide +kernel
theorem dX2_add_12 : decode cX2_add 12 = .ok (.getfield 7, 3) := by decide +kernel
theorem dX2_add_15 : decode cX2_add 15 = .ok (.arraylength, 1) := by decide +kernel
theorem dX2_add_16 : decode cX2_add 16 = .ok (.if_icmp .ge 23, 3) := by decide +kernel
theorem dX2_add_19 : decode cX2_add 19 = .ok (.aload_n 0, 1) := by decide +kernel
theorem dX2_add_20 : decode cX2_add 20 = .ok (.getfield 7, 3) := by decide +kernel
theorem dX2_add_23 : decode cX2_add 23 = .ok (.aload_n 0, 1) := by decide +kernel
theorem dX2_add_24 : decode cX2_add 24 = .ok (.getfield 13, 3) := by decide +kernel
theorem dX2_add_27 : decode cX2_add 27 = .ok (.iload_n 1, 1) := by decide +kernel
theorem dX2_add_28 : decode cX2_add 28 = .ok (.iastore, 1) := by decide +kernel
theorem dX2_add_29 : decode cX2_add 29 = .ok (.aload_n 0, 1) := by decide +kernel
theorem dX2_add_30 : decode cX2_add 30 = .ok (.dup, 1) := by decide +kernel
theorem dX2_add_31 : decode cX2_add 31 = .ok (.getfield 13, 3) := by decide +kernel
theorem dX2_add_34 : decode cX2_add 34 = .ok (.iconst 1, 1) := by decide +kernel
theorem dX2_add_35 : decode cX2_add 35 = .ok (.iadd, 1) := by decide +kernel
theorem dX2_add_36 : decode cX2_add 36 = .ok (.putfield 13, 3) := by decide +kernel
theorem dX2_add_39 : decode cX2_add 39 = .ok (.return_, 1) := by decide +kernel
theorem dX2_empty_0 : decode cX2_empty 0 = .ok (.aload_n 0, 1) := by decide +kernel
theorem dX2_empty_1 : decode cX2_empty 1 = .ok (.iconst 0, 1) := by decide +kernel
theorem dX2_empty_2 : decode cX2_empty 2 = .ok (.putfield 13, 3) := by decide +kernel
theorem dX2_empty_5 : decode cX2_empty 5 = .ok (.return_, 1) := by decide +kernel
theorem dX2_become_0 : decode cX2_become 0 = .ok (.aload_n 1, 1) := by decide +kernel
theorem dX2_become_1 : decode cX2_become 1 = .ok (.getfield 7, 3) := by decide +kernel
theorem dX2_become_4 : decode cX2_become 4 = .ok (.iconst 0, 1) := by decide +kernel
theorem dX2_become_5 : decode cX2_become 5 = .ok (.aload_n 0, 1) := by decide +kernel
theorem dX2_become_6 : decode cX2_become 6 = .ok (.getfield 7, 3) := by decide +kernel
theorem dX2_become_9 : decode cX2_become 9 = .ok (.iconst 0, 1) := by decide +kernel
theorem dX2_become_10 : decode cX2_become 10 = .ok (.aload_n 1, 1) := by decide +kernel
theorem dX2_become_11 : decode cX2_become 11 = .ok (.getfield 7, 3) := by decide +kernel
theorem dX2_become_14 : decode cX2_become 14 = .ok (.arraylength, 1) := by decide +kernel
theorem dX2_become_15 : decode cX2_become 15 = .ok (.aload_n 0, 1) := by decide +kernel
theorem dX2_become_16 : decode cX2_become 16 = .ok (.getfield 7, 3) := by decide +kernel
theorem dX2_become_19 : decode cX2_become 19 = .ok (.arraylength, 1) := by decide +kernel
theorem dX2_become_20 : decode cX2_become 20 = .ok (.invokestatic 17, 3) := by decide +kernel
theorem dX2_become_23 : decode cX2_become 23 = .ok (.invokestatic 23, 3) := by decide +kernel
theorem dX2_become_26 : decode cX2_become 26 = .ok (.aload_n 0, 1) := by decide +kernel
theorem dX2_become_27 : decode cX2_become 27 = .ok (.aload_n 1, 1) := by decide +kernel
theorem dX2_become_28 : decode cX2_become 28 = .ok (.getfield 13, 3) := by decide +kernel
theorem dX2_become_31 : decode cX2_become 31 = .ok (.putfield 13, 3) := by decide +kernel
theorem dX2_become_34 : decode cX2_become 34 = .ok (.return_, 1) := by decide +kernel
set_option maxRecDepth 20000 in
theorem ggX3_init_X4_init : GoodIn wsX3_init wsX4_init := goodIn_r _ [9, 10, 2, 3, 11, 12, 13, 14, 15, 16, 17, 18, 19, 20, 21, 22, 23, 24, 25, 26, 29, 30, 31, 32, 33, 34, 35, 36, 37, 38, 39, 40, 41, 42, 43, 44] (by decide +kernel) (by decide +kernel)
set_option maxRecDepth 20000 in
theorem gX3_init_X4_init_n17 : GoodIn wsX3_init (wsX4_init) := ggX3_init_X4_init
theorem dX3_init_0 : decode cX3_init 0 = .ok (.aload_n 0, 1) := by decide +kernel
theorem dX3_init_1 : decode cX3_init 1 = .ok (.invokespecial 3, 3) := by decide +kernel
theorem dX3_init_4 : decode cX3_init 4 = .ok (.aload_n 0, 1) := by decide +kernel
theorem dX3_init_5 : decode cX3_init 5 = .ok (.bipush 6, 2) := by decide +kernel
theorem dX3_init_7 : decode cX3_init 7 = .ok (.anewarray 9, 3) := by decide +kernel
theorem dX3_init_10 : decode cX3_init 10 = .ok (.putfield 11, 3) := by decide +kernel
theorem dX3_init_13 : decode cX3_init 13 = .ok (.iconst 0, 1) := by decide +kernel
theorem dX3_init_14 : decode cX3_init 14 = .ok (.istore_n 1, 1) := by decide +kernel
theorem dX3_init_15 : decode cX3_init 15 = .ok (.iload_n 1, 1) := by decide +kernel
theorem dX3_init_16 : decode cX3_init 16 = .ok (.aload_n 0, 1) := by decide +kernel
theorem dX3_init_17 : decode cX3_init 17 = .ok (.getfield 11, 3) := by decide +kernel
theorem dX3_init_20 : decode cX3_init 20 = .ok (.arraylength, 1) := by decide +kernel
theorem dX3_init_21 : decode cX3_init 21 = .ok (.if_icmp .ge 22, 3) := by decide +kernel
theorem dX3_init_24 : decode cX3_init 24 = .ok (.aload_n 0, 1) := by decide +kernel
theorem dX3_init_25 : decode cX3_init 25 = .ok (.getfield 11, 3) := by decide +kernel
theorem dX3_init_28 : decode cX3_init 28 = .ok (.iload_n 1, 1) := by decide +kernel
theorem dX3_init_29 : decode cX3_init 29 = .ok (.new 9, 3) := by decide +kernel
theorem dX3_init_32 : decode cX3_init 32 = .ok (.dup, 1) := by decide +kernel
theorem dX3_init_33 : decode cX3_init 33 = .ok (.invokespecial 17, 3) := by decide +kernel
theorem dX3_init_36 : decode cX3_init 36 = .ok (.aastore, 1) := by decide +kernel
theorem dX3_init_37 : decode cX3_init 37 = .ok (.iinc 1 1, 3) := by decide +kernel
theorem dX3_init_40 : decode cX3_init 40 = .ok (.goto (-25), 3) := by decide +kernel
theorem dX3_init_43 : decode cX3_init 43 = .ok (.return_, 1) := by decide +kernel
set_option maxRecDepth 20000 in
theorem ggX3_keep_X3_discardOldest : GoodIn wsX3_keep wsX3_discardOldest := goodIn_r _ [7, 2, 1, 42, 43] (by decide +kernel) (by decide +kernel)
set_option maxRecDepth 20000 in
theorem gX3_keep_X3_discardOldest : GoodIn wsX3_keep (wsV RX3 22 RX3 yX3_discardOldest wsX3_discardOldest) := goodIn_app (goodIn_of _ (by decide +kernel)) ggX3_keep_X3_discardOldest
set_option maxRecDepth 20000 in
theorem ggX3_keep_X4_become : GoodIn wsX3_keep wsX4_become := goodIn_r _ [12, 13, 14, 15, 16, 17, 18, 19, 20, 21, 22, 23, 24, 25, 26, 27, 28, 29, 30, 31, 32, 33, 34, 35, 36, 37, 38, 39, 40, 41, 44, 45, 46, 47, 48, 49, 50, 51, 52, 53, 54, 55, 56, 57, 58, 59] (by decide +kernel) (by decide +kernel)
set_option maxRecDepth 20000 in
theorem gX3_keep_X4_become : GoodIn wsX3_keep (wsV RX3 25 RX4 yX4_become wsX4_become) := goodIn_app (goodIn_of _ (by decide +kernel)) ggX3_keep_X4_become
theorem dX3_keep_0 : decode cX3_keep 0 = .ok (.aload_n 0, 1) := by decide +kernel
theorem dX3_keep_1 : decode cX3_keep 1 = .ok (.getfield 18, 3) := by decide +kernel
theorem dX3_keep_4 : decode cX3_keep 4 = .ok (.aload_n 0, 1) := by decide +kernel
theorem dX3_keep_5 : decode cX3_keep 5 = .ok (.getfield 11, 3) := by decide +kernel
theorem dX3_keep_8 : decode cX3_keep 8 = .ok (.arraylength, 1) := by decide +kernel
theorem dX3_keep_9 : decode cX3_keep 9 = .ok (.if_icmp .lt 7, 3) := by decide +kernel
theorem dX3_keep_12 : decode cX3_keep 12 = .ok (.aload_n 0, 1) := by decide +kernel
theorem dX3_keep_13 : decode cX3_keep 13 = .ok (.invokevirtual 22, 3) := by decide +kernel
theorem dX3_keep_16 : decode cX3_keep 16 = .ok (.aload_n 0, 1) := by decide +kernel
theorem dX3_keep_17 : decode cX3_keep 17 = .ok (.getfield 18, 3) := by decide +kernel
theorem dX3_keep_20 : decode cX3_keep 20 = .ok (.ifCond .lt 50, 3) := by decide +kernel
theorem dX3_keep_23 : decode cX3_keep 23 = .ok (.aload_n 0, 1) := by decide +kernel
theorem dX3_keep_24 : decode cX3_keep 24 = .ok (.getfield 18, 3) := by decide +kernel
theorem dX3_keep_27 : decode cX3_keep 27 = .ok (.aload_n 0, 1) := by decide +kernel
theorem dX3_keep_28 : decode cX3_keep 28 = .ok (.getfield 11, 3) := by decide +kernel
theorem dX3_keep_31 : decode cX3_keep 31 = .ok (.arraylength, 1) := by decide +kernel
theorem dX3_keep_32 : decode cX3_keep 32 = .ok (.if_icmp .ge 38, 3) := by decide +kernel
theorem dX3_keep_35 : decode cX3_keep 35 = .ok (.aload_n 0, 1) := by decide +kernel
theorem dX3_keep_36 : decode cX3_keep 36 = .ok (.getfield 11, 3) := by decide +kernel
theorem dX3_keep_39 : decode cX3_keep 39 = .ok (.aload_n 0, 1) := by decide +kernel
theorem dX3_keep_40 : decode cX3_keep 40 = .ok (.getfield 18, 3) := by decide +kernel
theorem dX3_keep_43 : decode cX3_keep 43 = .ok (.aaload, 1) := by decide +kernel
theorem dX3_keep_44 : decode cX3_keep 44 = .ok (.ifnull 26, 3) := by decide +kernel
theorem dX3_keep_47 : decode cX3_keep 47 = .ok (.aload_n 0, 1) := by decide +kernel
theorem dX3_keep_48 : decode cX3_keep 48 = .ok (.getfield 11, 3) := by decide +kernel
theorem dX3_keep_51 : decode cX3_keep 51 = .ok (.aload_n 0, 1) := by decide +kernel
theorem dX3_keep_52 : decode cX3_keep 52 = .ok (.getfield 18, 3) := by decide +kernel
theorem dX3_keep_55 : decode cX3_keep 55 = .ok (.aaload, 1) := by decide +kernel
theorem dX3_keep_56 : decode cX3_keep 56 = .ok (.aload_n 1, 1) := by decide +kernel
theorem dX3_keep_57 : decode cX3_keep 57 = .ok (.invokevirtual 25, 3) := by decide +kernel
theorem dX3_keep_60 : decode cX3_keep 60 = .ok (.aload_n 0, 1) := by decide +kernel
theorem dX3_keep_61 : decode cX3_keep 61 = .ok (.dup, 1) := by decide +kernel
theorem dX3_keep_62 : decode cX3_keep 62 = .ok (.getfield 18, 3) := by decide +kernel
theorem dX3_keep_65 : decode cX3_keep 65 = .ok (.iconst 1, 1) := by decide +kernel
theorem dX3_keep_66 : decode cX3_keep 66 = .ok (.iadd, 1) := by decide +kernel
theorem dX3_keep_67 : decode cX3_keep 67 = .ok (.putfield 18, 3) := by decide +kernel
theorem dX3_keep_70 : decode cX3_keep 70 = .ok (.return_, 1) := by decide +kernel
theorem dX3_discardOldest_0 : decode cX3_discardOldest 0 = .ok (.aload_n 0, 1) := by decide +kernel
theorem dX3_discardOldest_1 : decode cX3_discardOldest 1 = .ok (.getfield 11, 3) := by decide +kernel
theorem dX3_discardOldest_4 : decode cX3_discardOldest 4 = .ok (.arraylength, 1) := by decide +kernel
theorem dX3_discardOldest_5 : decode cX3_discardOldest 5 = .ok (.iconst 1, 1) := by decide +kernel
theorem dX3_discardOldest_6 : decode cX3_discardOldest 6 = .ok (.isub, 1) := by decide +kernel
theorem dX3_discardOldest_7 : decode cX3_discardOldest 7 = .ok (.istore_n 1, 1) := by decide +kernel
theorem dX3_discardOldest_8 : decode cX3_discardOldest 8 = .ok (.iload_n 1, 1) := by decide +kernel
theorem dX3_discardOldest_9 : decode cX3_discardOldest 9 = .ok (.ifCond .ge 4, 3) := by decide +kernel
theorem dX3_discardOldest_12 : decode cX3_discardOldest 12 = .ok (.return_, 1) := by decide +kernel
theorem dX3_discardOldest_13 : decode cX3_discardOldest 13 = .ok (.aload_n 0, 1) := by decide +kernel
theorem dX3_discardOldest_14 : decode cX3_discardOldest 14 = .ok (.getfield 11, 3) := by decide +kernel
theorem dX3_discardOldest_17 : decode cX3_discardOldest 17 = .ok (.iconst 0, 1) := by decide +kernel
theorem dX3_discardOldest_18 : decode cX3_discardOldest 18 = .ok (.aaload, 1) := by decide +kernel
theorem dX3_discardOldest_19 : decode cX3_discardOldest 19 = .ok (.astore_n 2, 1) := by decide +kernel
theorem dX3_discardOldest_20 : decode cX3_discardOldest 20 = .ok (.iconst 0, 1) := by decide +kernel
theorem dX3_discardOldest_21 : decode cX3_discardOldest 21 = .ok (.istore_n 3, 1) := by decide +kernel
theorem dX3_discardOldest_22 : decode cX3_discardOldest 22 = .ok (.iload_n 3, 1) := by decide +kernel
theorem dX3_discardOldest_23 : decode cX3_discardOldest 23 = .ok (.iload_n 1, 1) := by decide +kernel
theorem dX3_discardOldest_24 : decode cX3_discardOldest 24 = .ok (.if_icmp .ge 23, 3) := by decide +kernel
theorem dX3_discardOldest_27 : decode cX3_discardOldest 27 = .ok (.aload_n 0, 1) := by decide +kernel
theorem dX3_discardOldest_28 : decode cX3_discardOldest 28 = .ok (.getfield 11, 3) := by decide +kernel
theorem dX3_discardOldest_31 : decode cX3_discardOldest 31 = .ok (.iload_n 3, 1) := by decide +kernel
theorem dX3_discardOldest_32 : decode cX3_discardOldest 32 = .ok (.aload_n 0, 1) := by decide +kernel
theorem dX3_discardOldest_33 : decode cX3_discardOldest 33 = .ok (.getfield 11, 3) := by decide +kernel
theorem dX3_discardOldest_36 : decode cX3_discardOldest 36 = .ok (.iload_n 3, 1) := by decide +kernel
theorem dX3_discardOldest_37 : decode cX3_discardOldest 37 = .ok (.iconst 1, 1) := by decide +kernel
theorem dX3_discardOldest_38 : decode cX3_discardOldest 38 = .ok (.iadd, 1) := by decide +kernel
theorem dX3_discardOldest_39 : decode cX3_discardOldest 39 = .ok (.aaload, 1) := by decide +kernel
theorem dX3_discardOldest_40 : decode cX3_discardOldest 40 = .ok (.aastore, 1) := by decide +kernel
theorem dX3_discardOldest_41 : decode cX3_discardOldest 41 = .ok (.iinc 3 1, 3) := by decide +kernel
theorem dX3_discardOldest_44 : decode cX3_discardOldest 44 = .ok (.goto (-22), 3) := by decide +kernel
theorem dX3_discardOldest_47 : decode cX3_discardOldest 47 = .ok (.aload_n 0, 1) := by decide +kernel
theorem dX3_discardOldest_48 : decode cX3_discardOldest 48 = .ok (.getfield 11, 3) := by decide +kernel
theorem dX3_discardOldest_51 : decode cX3_discardOldest 51 = .ok (.iload_n 1, 1) := by decide +kernel
theorem dX3_discardOldest_52 : decode cX3_discardOldest 52 = .ok (.aload_n 2, 1) := by decide +kernel
theorem dX3_discardOldest_53 : decode cX3_discardOldest 53 = .ok (.aastore, 1) := by decide +kernel
theorem dX3_discardOldest_54 : decode cX3_discardOldest 54 = .ok (.aload_n 0, 1) := by decide +kernel
theorem dX3_discardOldest_55 : decode cX3_discardOldest 55 = .ok (.iload_n 1, 1) := by decide +kernel
theorem dX3_discardOldest_56 : decode cX3_discardOldest 56 = .ok (.putfield 18, 3) := by decide +kernel
theorem dX3_discardOldest_59 : decode cX3_discardOldest 59 = .ok (.return_, 1) := by decide +kernel
set_option maxRecDepth 20000 in
theorem ggX3_giveBack_X4_become : GoodIn wsX3_giveBack wsX4_become := goodIn_r _ [7, 8, 9, 10, 11, 12, 13, 14, 15, 16, 17, 18, 19, 20, 21, 22, 23, 24, 25, 26, 27, 28, 29, 30, 31, 32, 33, 34, 35, 36, 39, 40, 41, 42, 43, 44, 45, 46, 47, 48, 49, 50, 51, 52, 53, 54] (by decide +kernel) (by decide +kernel)
set_option maxRecDepth 20000 in
theorem gX3_giveBack_X4_become : GoodIn wsX3_giveBack (wsV RX3 25 RX4 yX4_become wsX4_become) := goodIn_app (goodIn_of _ (by decide +kernel)) ggX3_giveBack_X4_become
theorem dX3_giveBack_0 : decode cX3_giveBack 0 = .ok (.aload_n 0, 1) := by decide +kernel
theorem dX3_giveBack_1 : decode cX3_giveBack 1 = .ok (.getfield 18, 3) := by decide +kernel
theorem dX3_giveBack_4 : decode cX3_giveBack 4 = .ok (.ifCond .le 52, 3) := by decide +kernel
theorem dX3_giveBack_7 : decode cX3_giveBack 7 = .ok (.aload_n 0, 1) := by decide +kernel
theorem dX3_giveBack_8 : decode cX3_giveBack 8 = .ok (.getfield 18, 3) := by decide +kernel
theorem dX3_giveBack_11 : decode cX3_giveBack 11 = .ok (.aload_n 0, 1) := by decide +kernel
theorem dX3_giveBack_12 : decode cX3_giveBack 12 = .ok (.getfield 11, 3) := by decide +kernel
theorem dX3_giveBack_15 : decode cX3_giveBack 15 = .ok (.arraylength, 1) := by decide +kernel
theorem dX3_giveBack_16 : decode cX3_giveBack 16 = .ok (.if_icmp .gt 40, 3) := by decide +kernel
theorem dX3_giveBack_19 : decode cX3_giveBack 19 = .ok (.aload_n 0, 1) := by decide +kernel
theorem dX3_giveBack_20 : decode cX3_giveBack 20 = .ok (.getfield 11, 3) := by decide +kernel
theorem dX3_giveBack_23 : decode cX3_giveBack 23 = .ok (.aload_n 0, 1) := by decide +kernel
theorem dX3_giveBack_24 : decode cX3_giveBack 24 = .ok (.getfield 18, 3) := by decide +kernel
theorem dX3_giveBack_27 : decode cX3_giveBack 27 = .ok (.iconst 1, 1) := by decide +kernel
theorem dX3_giveBack_28 : decode cX3_giveBack 28 = .ok (.isub, 1) := by decide +kernel
theorem dX3_giveBack_29 : decode cX3_giveBack 29 = .ok (.aaload, 1) := by decide +kernel
theorem dX3_giveBack_30 : decode cX3_giveBack 30 = .ok (.ifnull 26, 3) := by decide +kernel
theorem dX3_giveBack_33 : decode cX3_giveBack 33 = .ok (.aload_n 0, 1) := by decide +kernel
theorem dX3_giveBack_34 : decode cX3_giveBack 34 = .ok (.dup, 1) := by decide +kernel
theorem dX3_giveBack_35 : decode cX3_giveBack 35 = .ok (.getfield 18, 3) := by decide +kernel
theorem dX3_giveBack_38 : decode cX3_giveBack 38 = .ok (.iconst 1, 1) := by decide +kernel
theorem dX3_giveBack_39 : decode cX3_giveBack 39 = .ok (.isub, 1) := by decide +kernel
theorem dX3_giveBack_40 : decode cX3_giveBack 40 = .ok (.putfield 18, 3) := by decide +kernel
theorem dX3_giveBack_43 : decode cX3_giveBack 43 = .ok (.aload_n 1, 1) := by decide +kernel
theorem dX3_giveBack_44 : decode cX3_giveBack 44 = .ok (.aload_n 0, 1) := by decide +kernel
theorem dX3_giveBack_45 : decode cX3_giveBack 45 = .ok (.getfield 11, 3) := by decide +kernel
theorem dX3_giveBack_48 : decode cX3_giveBack 48 = .ok (.aload_n 0, 1) := by decide +kernel
theorem dX3_giveBack_49 : decode cX3_giveBack 49 = .ok (.getfield 18, 3) := by decide +kernel
theorem dX3_giveBack_52 : decode cX3_giveBack 52 = .ok (.aaload, 1) := by decide +kernel
theorem dX3_giveBack_53 : decode cX3_giveBack 53 = .ok (.invokevirtual 25, 3) := by decide +kernel
theorem dX3_giveBack_56 : decode cX3_giveBack 56 = .ok (.return_, 1) := by decide +kernel
set_option maxRecDepth 20000 in
theorem ggX4_init_X2_init : GoodIn wsX4_init wsX2_init := goodIn_r _ [15, 16, 2, 3, 17, 18, 19, 34, 35] (by decide +kernel) (by decide +kernel)
set_option maxRecDepth 20000 in
theorem gX4_init_X2_init : GoodIn wsX4_init (wsX2_init) := ggX4_init_X2_init
theorem dX4_init_0 : decode cX4_init 0 = .ok (.aload_n 0, 1) := by decide +kernel
theorem dX4_init_1 : decode cX4_init 1 = .ok (.invokespecial 3, 3) := by decide +kernel
theorem dX4_init_4 : decode cX4_init 4 = .ok (.aload_n 0, 1) := by decide +kernel
theorem dX4_init_5 : decode cX4_init 5 = .ok (.bipush 10, 2) := by decide +kernel
theorem dX4_init_7 : decode cX4_init 7 = .ok (.putfield 9, 3) := by decide +kernel
theorem dX4_init_10 : decode cX4_init 10 = .ok (.aload_n 0, 1) := by decide +kernel
theorem dX4_init_11 : decode cX4_init 11 = .ok (.iconst (-1), 1) := by decide +kernel
theorem dX4_init_12 : decode cX4_init 12 = .ok (.putfield 15, 3) := by decide +kernel
theorem dX4_init_15 : decode cX4_init 15 = .ok (.aload_n 0, 1) := by decide +kernel
theorem dX4_init_16 : decode cX4_init 16 = .ok (.new 18, 3) := by decide +kernel
theorem dX4_init_19 : decode cX4_init 19 = .ok (.dup, 1) := by decide +kernel
theorem dX4_init_20 : decode cX4_init 20 = .ok (.bipush 16, 2) := by decide +kernel
theorem dX4_init_22 : decode cX4_init 22 = .ok (.bipush 16, 2) := by decide +kernel
theorem dX4_init_24 : decode cX4_init 24 = .ok (.invokespecial 20, 3) := by decide +kernel
theorem dX4_init_27 : decode cX4_init 27 = .ok (.putfield 23, 3) := by decide +kernel
theorem dX4_init_30 : decode cX4_init 30 = .ok (.aload_n 0, 1) := by decide +kernel
theorem dX4_init_31 : decode cX4_init 31 = .ok (.new 18, 3) := by decide +kernel
theorem dX4_init_34 : decode cX4_init 34 = .ok (.dup, 1) := by decide +kernel
theorem dX4_init_35 : decode cX4_init 35 = .ok (.bipush 16, 2) := by decide +kernel
theorem dX4_init_37 : decode cX4_init 37 = .ok (.bipush 16, 2) := by decide +kernel
theorem dX4_init_39 : decode cX4_init 39 = .ok (.invokespecial 20, 3) := by decide +kernel
theorem dX4_init_42 : decode cX4_init 42 = .ok (.putfield 27, 3) := by decide +kernel
theorem dX4_init_45 : decode cX4_init 45 = .ok (.aload_n 0, 1) := by decide +kernel
theorem dX4_init_46 : decode cX4_init 46 = .ok (.new 18, 3) := by decide +kernel
theorem dX4_init_49 : decode cX4_init 49 = .ok (.dup, 1) := by decide +kernel
theorem dX4_init_50 : decode cX4_init 50 = .ok (.bipush 7, 2) := by decide +kernel
theorem dX4_init_52 : decode cX4_init 52 = .ok (.bipush 7, 2) := by decide +kernel
theorem dX4_init_54 : decode cX4_init 54 = .ok (.invokespecial 20, 3) := by decide +kernel
theorem dX4_init_57 : decode cX4_init 57 = .ok (.putfield 30, 3) := by decide +kernel
theorem dX4_init_60 : decode cX4_init 60 = .ok (.aload_n 0, 1) := by decide +kernel
theorem dX4_init_61 : decode cX4_init 61 = .ok (.new 18, 3) := by decide +kernel
theorem dX4_init_64 : decode cX4_init 64 = .ok (.dup, 1) := by decide +kernel
theorem dX4_init_65 : decode cX4_init 65 = .ok (.bipush 30, 2) := by decide +kernel
theorem dX4_init_67 : decode cX4_init 67 = .ok (.iconst 0, 1) := by decide +kernel
theorem dX4_init_68 : decode cX4_init 68 = .ok (.invokespecial 20, 3) := by decide +kernel
theorem dX4_init_71 : decode cX4_init 71 = .ok (.putfield 33, 3) := by decide +kernel
theorem dX4_init_74 : decode cX4_init 74 = .ok (.return_, 1) := by decide +kernel
theorem dX4_remembers_0 : decode cX4_remembers 0 = .ok (.aload_n 0, 1) := by decide +kernel
theorem dX4_remembers_1 : decode cX4_remembers 1 = .ok (.getfield 15, 3) := by decide +kernel
theorem dX4_remembers_4 : decode cX4_remembers 4 = .ok (.iconst (-1), 1) := by decide +kernel
theorem dX4_remembers_5 : decode cX4_remembers 5 = .ok (.if_icmp .eq 16, 3) := by decide +kernel
theorem dX4_remembers_8 : decode cX4_remembers 8 = .ok (.aload_n 0, 1) := by decide +kernel
theorem dX4_remembers_9 : decode cX4_remembers 9 = .ok (.getfield 15, 3) := by decide +kernel
theorem dX4_remembers_12 : decode cX4_remembers 12 = .ok (.bipush 60, 2) := by decide +kernel
theorem dX4_remembers_14 : decode cX4_remembers 14 = .ok (.if_icmp .gt 7, 3) := by decide +kernel
theorem dX4_remembers_17 : decode cX4_remembers 17 = .ok (.iconst 1, 1) := by decide +kernel
theorem dX4_remembers_18 : decode cX4_remembers 18 = .ok (.goto 4, 3) := by decide +kernel
theorem dX4_remembers_21 : decode cX4_remembers 21 = .ok (.iconst 0, 1) := by decide +kernel
theorem dX4_remembers_22 : decode cX4_remembers 22 = .ok (.ireturn, 1) := by decide +kernel
set_option maxRecDepth 20000 in
theorem ggX4_become_X2_become : GoodIn wsX4_become wsX2_become := goodIn_r _ [19, 20, 21, 22, 23, 24, 25, 26, 27, 28, 29, 44, 45] (by decide +kernel) (by decide +kernel)
set_option maxRecDepth 20000 in
theorem gX4_become_X2_become : GoodIn wsX4_become (wsV RX4 60 RX2 yX2_become wsX2_become) := goodIn_app (goodIn_of _ (by decide +kernel)) ggX4_become_X2_become
theorem dX4_become_0 : decode cX4_become 0 = .ok (.aload_n 0, 1) := by decide +kernel
theorem dX4_become_1 : decode cX4_become 1 = .ok (.aload_n 1, 1) := by decide +kernel
theorem dX4_become_2 : decode cX4_become 2 = .ok (.getfield 36, 3) := by decide +kernel
theorem dX4_become_5 : decode cX4_become 5 = .ok (.putfield 36, 3) := by decide +kernel
theorem dX4_become_8 : decode cX4_become 8 = .ok (.aload_n 0, 1) := by decide +kernel
theorem dX4_become_9 : decode cX4_become 9 = .ok (.aload_n 1, 1) := by decide +kernel
theorem dX4_become_10 : decode cX4_become 10 = .ok (.getfield 9, 3) := by decide +kernel
theorem dX4_become_13 : decode cX4_become 13 = .ok (.putfield 9, 3) := by decide +kernel
theorem dX4_become_16 : decode cX4_become 16 = .ok (.aload_n 0, 1) := by decide +kernel
theorem dX4_become_17 : decode cX4_become 17 = .ok (.aload_n 1, 1) := by decide +kernel
theorem dX4_become_18 : decode cX4_become 18 = .ok (.getfield 39, 3) := by decide +kernel
theorem dX4_become_21 : decode cX4_become 21 = .ok (.putfield 39, 3) := by decide +kernel
theorem dX4_become_24 : decode cX4_become 24 = .ok (.aload_n 0, 1) := by decide +kernel
theorem dX4_become_25 : decode cX4_become 25 = .ok (.aload_n 1, 1) := by decide +kernel
theorem dX4_become_26 : decode cX4_become 26 = .ok (.getfield 42, 3) := by decide +kernel
theorem dX4_become_29 : decode cX4_become 29 = .ok (.putfield 42, 3) := by decide +kernel
theorem dX4_become_32 : decode cX4_become 32 = .ok (.aload_n 0, 1) := by decide +kernel
theorem dX4_become_33 : decode cX4_become 33 = .ok (.aload_n 1, 1) := by decide +kernel
theorem dX4_become_34 : decode cX4_become 34 = .ok (.getfield 45, 3) := by decide +kernel
theorem dX4_become_37 : decode cX4_become 37 = .ok (.putfield 45, 3) := by decide +kernel
theorem dX4_become_40 : decode cX4_become 40 = .ok (.aload_n 0, 1) := by decide +kernel
theorem dX4_become_41 : decode cX4_become 41 = .ok (.aload_n 1, 1) := by decide +kernel
theorem dX4_become_42 : decode cX4_become 42 = .ok (.getfield 48, 3) := by decide +kernel
theorem dX4_become_45 : decode cX4_become 45 = .ok (.putfield 48, 3) := by decide +kernel
theorem dX4_become_48 : decode cX4_become 48 = .ok (.aload_n 0, 1) := by decide +kernel
theorem dX4_become_49 : decode cX4_become 49 = .ok (.aload_n 1, 1) := by decide +kernel
theorem dX4_become_50 : decode cX4_become 50 = .ok (.getfield 15, 3) := by decide +kernel
theorem dX4_become_53 : decode cX4_become 53 = .ok (.putfield 15, 3) := by decide +kernel
theorem dX4_become_56 : decode cX4_become 56 = .ok (.aload_n 0, 1) := by decide +kernel
theorem dX4_become_57 : decode cX4_become 57 = .ok (.aload_n 1, 1) := by decide +kernel
theorem dX4_become_58 : decode cX4_become 58 = .ok (.getfield 51, 3) := by decide +kernel
theorem dX4_become_61 : decode cX4_become 61 = .ok (.putfield 51, 3) := by decide +kernel
theorem dX4_become_64 : decode cX4_become 64 = .ok (.aload_n 0, 1) := by decide +kernel
theorem dX4_become_65 : decode cX4_become 65 = .ok (.aload_n 1, 1) := by decide +kernel
theorem dX4_become_66 : decode cX4_become 66 = .ok (.getfield 54, 3) := by decide +kernel
theorem dX4_become_69 : decode cX4_become 69 = .ok (.putfield 54, 3) := by decide +kernel
theorem dX4_become_72 : decode cX4_become 72 = .ok (.aload_n 0, 1) := by decide +kernel
theorem dX4_become_73 : decode cX4_become 73 = .ok (.aload_n 1, 1) := by decide +kernel
theorem dX4_become_74 : decode cX4_become 74 = .ok (.getfield 57, 3) := by decide +kernel
theorem dX4_become_77 : decode cX4_become 77 = .ok (.putfield 57, 3) := by decide +kernel
theorem dX4_become_80 : decode cX4_become 80 = .ok (.aload_n 0, 1) := by decide +kernel
theorem dX4_become_81 : decode cX4_become 81 = .ok (.getfield 23, 3) := by decide +kernel
theorem dX4_become_84 : decode cX4_become 84 = .ok (.aload_n 1, 1) := by decide +kernel
theorem dX4_become_85 : decode cX4_become 85 = .ok (.getfield 23, 3) := by decide +kernel
theorem dX4_become_88 : decode cX4_become 88 = .ok (.invokevirtual 60, 3) := by decide +kernel
theorem dX4_become_91 : decode cX4_become 91 = .ok (.aload_n 0, 1) := by decide +kernel
theorem dX4_become_92 : decode cX4_become 92 = .ok (.getfield 27, 3) := by decide +kernel
theorem dX4_become_95 : decode cX4_become 95 = .ok (.aload_n 1, 1) := by decide +kernel
theorem dX4_become_96 : decode cX4_become 96 = .ok (.getfield 27, 3) := by decide +kernel
theorem dX4_become_99 : decode cX4_become 99 = .ok (.invokevirtual 60, 3) := by decide +kernel
theorem dX4_become_102 : decode cX4_become 102 = .ok (.aload_n 0, 1) := by decide +kernel
theorem dX4_become_103 : decode cX4_become 103 = .ok (.getfield 30, 3) := by decide +kernel
theorem dX4_become_106 : decode cX4_become 106 = .ok (.aload_n 1, 1) := by decide +kernel
theorem dX4_become_107 : decode cX4_become 107 = .ok (.getfield 30, 3) := by decide +kernel
theorem dX4_become_110 : decode cX4_become 110 = .ok (.invokevirtual 60, 3) := by decide +kernel
theorem dX4_become_113 : decode cX4_become 113 = .ok (.aload_n 0, 1) := by decide +kernel
theorem dX4_become_114 : decode cX4_become 114 = .ok (.getfield 33, 3) := by decide +kernel
theorem dX4_become_117 : decode cX4_become 117 = .ok (.aload_n 1, 1) := by decide +kernel
theorem dX4_become_118 : decode cX4_become 118 = .ok (.getfield 33, 3) := by decide +kernel
theorem dX4_become_121 : decode cX4_become 121 = .ok (.invokevirtual 60, 3) := by decide +kernel
theorem dX4_become_124 : decode cX4_become 124 = .ok (.return_, 1) := by decide +kernel
set_option maxRecDepth 20000 in
theorem ggX5_init_X4_init : GoodIn wsX5_init wsX4_init := goodIn_r _ [21, 22, 2, 3, 23, 24, 25, 26, 27, 28, 29, 30, 31, 32, 33, 34, 35, 36, 37, 38, 58, 59, 60, 61, 62, 63, 64, 65, 66, 67, 68, 69, 70, 71, 85, 86] (by decide +kernel) (by decide +kernel)
set_option maxRecDepth 20000 in
theorem gX5_init_X4_init_n11 : GoodIn wsX5_init (wsX4_init) := ggX5_init_X4_init
set_option maxRecDepth 20000 in
theorem ggX5_init_X3_init : GoodIn wsX5_init wsX3_init := goodIn_r _ [41, 42, 2, 3, 43, 44, 5, 6, 20, 21, 22, 23, 24, 25, 26, 27, 28, 29, 30, 31, 32, 33, 34, 35, 36, 37, 38, 76, 77, 58, 59, 60, 61, 62, 63, 64, 65, 66, 67, 68, 69, 70, 71, 85, 86] (by decide +kernel) (by decide +kernel)
set_option maxRecDepth 20000 in
theorem gX5_init_X3_init : GoodIn wsX5_init (wsX3_init) := ggX5_init_X3_init
set_option maxRecDepth 20000 in
theorem ggX5_init_X1_init : GoodIn wsX5_init wsX1_init := goodIn_r _ [46, 47, 2, 3, 48, 26, 27, 49, 50, 33, 34, 35, 36, 37, 38, 85, 86, 78] (by decide +kernel) (by decide +kernel)
set_option maxRecDepth 20000 in
theorem gX5_init_X1_init_n25 : GoodIn wsX5_init (wsX1_init) := ggX5_init_X1_init
set_option maxRecDepth 20000 in
theorem ggX5_init_X0_init : GoodIn wsX5_init wsX0_init := goodIn_r _ [52, 53, 2, 3, 54, 26, 27, 55, 56, 57, 33, 34, 35, 36, 37, 38, 85, 86, 79, 80, 81, 82, 83, 84] (by decide +kernel) (by decide +kernel)
set_option maxRecDepth 20000 in
theorem gX5_init_X0_init_n32 : GoodIn wsX5_init (wsX0_init) := ggX5_init_X0_init
theorem dX5_init_0 : decode cX5_init 0 = .ok (.aload_n 0, 1) := by decide +kernel
theorem dX5_init_1 : decode cX5_init 1 = .ok (.invokespecial 3, 3) := by decide +kernel
theorem dX5_init_4 : decode cX5_init 4 = .ok (.aload_n 0, 1) := by decide +kernel
theorem dX5_init_5 : decode cX5_init 5 = .ok (.new 9, 3) := by decide +kernel
theorem dX5_init_8 : decode cX5_init 8 = .ok (.dup, 1) := by decide +kernel
theorem dX5_init_9 : decode cX5_init 9 = .ok (.invokespecial 11, 3) := by decide +kernel
theorem dX5_init_12 : decode cX5_init 12 = .ok (.putfield 12, 3) := by decide +kernel
theorem dX5_init_15 : decode cX5_init 15 = .ok (.aload_n 0, 1) := by decide +kernel
theorem dX5_init_16 : decode cX5_init 16 = .ok (.new 16, 3) := by decide +kernel
theorem dX5_init_19 : decode cX5_init 19 = .ok (.dup, 1) := by decide +kernel
theorem dX5_init_20 : decode cX5_init 20 = .ok (.invokespecial 18, 3) := by decide +kernel
theorem dX5_init_23 : decode cX5_init 23 = .ok (.putfield 19, 3) := by decide +kernel
theorem dX5_init_26 : decode cX5_init 26 = .ok (.aload_n 0, 1) := by decide +kernel
theorem dX5_init_27 : decode cX5_init 27 = .ok (.new 23, 3) := by decide +kernel
theorem dX5_init_30 : decode cX5_init 30 = .ok (.dup, 1) := by decide +kernel
theorem dX5_init_31 : decode cX5_init 31 = .ok (.invokespecial 25, 3) := by decide +kernel
theorem dX5_init_34 : decode cX5_init 34 = .ok (.putfield 26, 3) := by decide +kernel
theorem dX5_init_37 : decode cX5_init 37 = .ok (.aload_n 0, 1) := by decide +kernel
theorem dX5_init_38 : decode cX5_init 38 = .ok (.new 30, 3) := by decide +kernel
theorem dX5_init_41 : decode cX5_init 41 = .ok (.dup, 1) := by decide +kernel
theorem dX5_init_42 : decode cX5_init 42 = .ok (.invokespecial 32, 3) := by decide +kernel
theorem dX5_init_45 : decode cX5_init 45 = .ok (.putfield 33, 3) := by decide +kernel
theorem dX5_init_48 : decode cX5_init 48 = .ok (.return_, 1) := by decide +kernel
set_option maxRecDepth 20000 in
theorem ggX5_frame_X5_checkFrame : GoodIn wsX5_frame wsX5_checkFrame := goodIn_ca (goodIn_r _ [6, 7, 8, 5, 9, 10, 11, 12, 13, 14] (by decide +kernel) (by decide +kernel)) (goodIn_sub (fun _ h => List.mem_cons_of_mem _ (List.mem_append_right _ h)) (by decide +kernel))
set_option maxRecDepth 20000 in
theorem gX5_frame_X5_checkFrame : GoodIn wsX5_frame (va_wsS RX5 37 yX5_checkFrame wsX5_checkFrame) := goodIn_app (goodIn_of _ (by decide +kernel)) ggX5_frame_X5_checkFrame
set_option maxRecDepth 20000 in
theorem ggX5_frame_X5_checkStrength : GoodIn wsX5_frame wsX5_checkStrength := goodIn_ca (goodIn_r _ [17, 7, 8, 5, 9, 10, 11, 12, 13, 14] (by decide +kernel) (by decide +kernel)) (goodIn_sub (fun _ h => List.mem_cons_of_mem _ (List.mem_append_right _ h)) (by decide +kernel))
set_option maxRecDepth 20000 in
theorem gX5_frame_X5_checkStrength : GoodIn wsX5_frame (va_wsS RX5 41 yX5_checkStrength wsX5_checkStrength) := goodIn_app (goodIn_of _ (by decide +kernel)) ggX5_frame_X5_checkStrength
set_option maxRecDepth 20000 in
theorem ggX5_frame_X3_keep : GoodIn wsX5_frame wsX3_keep := goodIn_r _ [22, 23, 24, 25, 26, 27, 21, 28, 29, 30, 31, 32, 33, 34, 35, 36, 37, 38, 39, 40, 41, 42, 43, 44, 45, 46, 47, 48, 49, 50, 51, 52, 53, 54, 55, 56, 57, 58, 59, 60, 61, 62, 158, 159, 160, 161, 162, 163, 164, 165, 166, 167, 168, 169, 170, 171, 172, 173, 174, 175] (by decide +kernel) (by decide +kernel)
set_option maxRecDepth 20000 in
theorem gX5_frame_X3_keep : GoodIn wsX5_frame (wsV RX5 45 RX3 yX3_keep wsX3_keep) := goodIn_app (goodIn_of _ (by decide +kernel)) ggX5_frame_X3_keep
set_option maxRecDepth 20000 in
theorem ggX5_frame_X5_hearFrame : GoodIn wsX5_frame wsX5_hearFrame := goodIn_r _ [66, 67, 68, 69, 70, 71, 72, 73, 74, 5, 75, 76, 77, 78, 79, 80, 81, 82, 83, 84, 85, 51, 86, 62, 87, 88, 89, 90, 53, 91, 92, 93, 94, 95, 96, 2, 97, 98, 99, 100, 101, 102, 103, 104, 105, 106, 107, 108, 56, 109, 110, 111, 112, 113, 114, 115, 116, 117, 118, 119, 120, 121, 122, 123, 124, 125, 126, 32, 127, 40, 128, 129, 130, 131, 132, 133, 55, 57, 134, 135, 136, 137, 138, 139, 140, 141, 142, 143, 144, 145, 146, 147, 148, 149, 150, 151, 152, 153, 154, 155, 156, 157, 176, 177, 178, 179, 180, 181, 174, 175, 160, 161, 162, 163, 164, 165, 166, 167, 168, 169, 170, 171, 172, 173] (by decide +kernel) (by decide +kernel)
set_option maxRecDepth 20000 in
theorem gX5_frame_X5_hearFrame : GoodIn wsX5_frame (wsV RX5 49 RX5 yX5_hearFrame wsX5_hearFrame) := goodIn_app (goodIn_of _ (by decide +kernel)) ggX5_frame_X5_hearFrame
theorem dX5_frame_0 : decode cX5_frame 0 = .ok (.iload_n 1, 1) := by decide +kernel
theorem dX5_frame_1 : decode cX5_frame 1 = .ok (.iload_n 2, 1) := by decide +kernel
theorem dX5_frame_2 : decode cX5_frame 2 = .ok (.iload_n 3, 1) := by decide +kernel
theorem dX5_frame_3 : decode cX5_frame 3 = .ok (.invokestatic 37, 3) := by decide +kernel
theorem dX5_frame_6 : decode cX5_frame 6 = .ok (.iload 4, 2) := by decide +kernel
theorem dX5_frame_8 : decode cX5_frame 8 = .ok (.invokestatic 41, 3) := by decide +kernel
theorem dX5_frame_11 : decode cX5_frame 11 = .ok (.aload_n 0, 1) := by decide +kernel
theorem dX5_frame_12 : decode cX5_frame 12 = .ok (.getfield 19, 3) := by decide +kernel
theorem dX5_frame_15 : decode cX5_frame 15 = .ok (.aload_n 0, 1) := by decide +kernel
theorem dX5_frame_16 : decode cX5_frame 16 = .ok (.getfield 12, 3) := by decide +kernel
theorem dX5_frame_19 : decode cX5_frame 19 = .ok (.invokevirtual 45, 3) := by decide +kernel
theorem dX5_frame_22 : decode cX5_frame 22 = .ok (.aload_n 0, 1) := by decide +kernel
theorem dX5_frame_23 : decode cX5_frame 23 = .ok (.iload_n 1, 1) := by decide +kernel
theorem dX5_frame_24 : decode cX5_frame 24 = .ok (.iload_n 2, 1) := by decide +kernel
theorem dX5_frame_25 : decode cX5_frame 25 = .ok (.iload_n 3, 1) := by decide +kernel
theorem dX5_frame_26 : decode cX5_frame 26 = .ok (.iload 4, 2) := by decide +kernel
theorem dX5_frame_28 : decode cX5_frame 28 = .ok (.invokevirtual 49, 3) := by decide +kernel
theorem dX5_frame_31 : decode cX5_frame 31 = .ok (.ireturn, 1) := by decide +kernel
set_option maxRecDepth 20000 in
theorem ggX5_repeat_X5_checkStrength : GoodIn wsX5_repeat wsX5_checkStrength := goodIn_ca (goodIn_r _ [6, 7, 8, 5, 9, 10, 11, 12, 13, 14] (by decide +kernel) (by decide +kernel)) (goodIn_sub (fun _ h => List.mem_cons_of_mem _ (List.mem_append_right _ h)) (by decide +kernel))
set_option maxRecDepth 20000 in
theorem gX5_repeat_X5_checkStrength : GoodIn wsX5_repeat (va_wsS RX5 41 yX5_checkStrength wsX5_checkStrength) := goodIn_app (goodIn_of _ (by decide +kernel)) ggX5_repeat_X5_checkStrength
set_option maxRecDepth 20000 in
theorem ggX5_repeat_X3_keep : GoodIn wsX5_repeat wsX3_keep := goodIn_r _ [19, 20, 21, 22, 23, 24, 18, 25, 26, 27, 28, 29, 30, 31, 32, 33, 34, 35, 36, 37, 38, 39, 40, 41, 42, 43, 44, 45, 46, 47, 48, 49, 50, 51, 52, 53, 54, 55, 56, 57, 58, 59, 150, 151, 152, 153, 154, 155, 156, 157, 158, 159, 160, 161, 162, 163, 164, 165, 166, 167] (by decide +kernel) (by decide +kernel)
set_option maxRecDepth 20000 in
theorem gX5_repeat_X3_keep : GoodIn wsX5_repeat (wsV RX5 45 RX3 yX3_keep wsX3_keep) := goodIn_app (goodIn_of _ (by decide +kernel)) ggX5_repeat_X3_keep
set_option maxRecDepth 20000 in
theorem ggX5_repeat_X5_hearRepeat : GoodIn wsX5_repeat wsX5_hearRepeat := goodIn_r _ [63, 64, 65, 66, 67, 68, 69, 70, 71, 72, 73, 48, 74, 59, 75, 76, 77, 78, 50, 79, 80, 81, 5, 82, 2, 83, 84, 85, 86, 87, 88, 89, 90, 91, 92, 93, 94, 53, 95, 96, 97, 98, 99, 100, 101, 102, 103, 104, 105, 106, 107, 108, 109, 110, 111, 112, 113, 114, 115, 116, 117, 118, 29, 119, 37, 120, 121, 122, 123, 124, 125, 52, 54, 126, 127, 128, 129, 130, 131, 132, 133, 134, 135, 136, 137, 138, 139, 140, 141, 142, 143, 144, 145, 146, 147, 148, 149, 168, 169, 170, 171, 172, 173, 166, 167, 152, 153, 154, 155, 156, 157, 158, 159, 160, 161, 162, 163, 164, 165] (by decide +kernel) (by decide +kernel)
set_option maxRecDepth 20000 in
theorem gX5_repeat_X5_hearRepeat : GoodIn wsX5_repeat (wsV RX5 53 RX5 yX5_hearRepeat wsX5_hearRepeat) := goodIn_app (goodIn_of _ (by decide +kernel)) ggX5_repeat_X5_hearRepeat
theorem dX5_repeat_0 : decode cX5_repeat 0 = .ok (.iload_n 1, 1) := by decide +kernel
theorem dX5_repeat_1 : decode cX5_repeat 1 = .ok (.invokestatic 41, 3) := by decide +kernel
theorem dX5_repeat_4 : decode cX5_repeat 4 = .ok (.aload_n 0, 1) := by decide +kernel
theorem dX5_repeat_5 : decode cX5_repeat 5 = .ok (.getfield 19, 3) := by decide +kernel
theorem dX5_repeat_8 : decode cX5_repeat 8 = .ok (.aload_n 0, 1) := by decide +kernel
theorem dX5_repeat_9 : decode cX5_repeat 9 = .ok (.getfield 12, 3) := by decide +kernel
theorem dX5_repeat_12 : decode cX5_repeat 12 = .ok (.invokevirtual 45, 3) := by decide +kernel
theorem dX5_repeat_15 : decode cX5_repeat 15 = .ok (.aload_n 0, 1) := by decide +kernel
theorem dX5_repeat_16 : decode cX5_repeat 16 = .ok (.iload_n 1, 1) := by decide +kernel
theorem dX5_repeat_17 : decode cX5_repeat 17 = .ok (.invokevirtual 53, 3) := by decide +kernel
