section
/-! ===== BEGIN words of one list among another's, by their places ===== -/
def RX0 : String := "RainWalk$Day"
def TX0 : u_T := fun k => match k with
  | 0 => ("RainWalk$Day", "walker", "I", false)
  | 1 => ("RainWalk$Day", "rainBits", "I", false)
  | 2 => ("RainWalk$Day", "undoable", "I", false)
  | 3 => ("RainWalk$Day", "marked", "I", false)
  | 4 => ("RainWalk$Day", "now", "LRainWalk$Moment;", true)
  | 5 => ("RainWalk$Day", "past", "[LRainWalk$Moment;", true)
  | _ => ("RainWalk$Day", "marks", "[LRainWalk$Moment;", true)
def tyX0 : Nat → FieldType := fun k => match k with
  | 0 => .int
  | 1 => .int
  | 2 => .int
  | 3 => .int
  | 4 => .object "RainWalk$Moment"
  | 5 => .array (.object "RainWalk$Moment")
  | _ => .array (.object "RainWalk$Moment")
theorem nmX0 : ∀ a, a < 7 → ∀ b, b < 7 → a ≠ b → (TX0 a).2.1 ≠ (TX0 b).2.1 := by decide +kernel
theorem tyX0_ok : ∀ k, k < 7 → parseFieldDescriptor (TX0 k).2.2.1 = some (tyX0 k) := by decide +kernel
abbrev cX0_init : ByteArray := prog_2_method_1_code
def yX0_init : MethodName := ⟨RX0, "<init>", "()V"⟩
abbrev cX0_isOn : ByteArray := prog_2_method_2_code
def yX0_isOn : MethodName := ⟨RX0, "isOn", "()Z"⟩
abbrev cX0_end : ByteArray := prog_2_method_3_code
def yX0_end : MethodName := ⟨RX0, "end", "()V"⟩
abbrev cX0_begin : ByteArray := prog_2_method_4_code
def yX0_begin : MethodName := ⟨RX0, "begin", "(III)V"⟩
abbrev cX0_draw : ByteArray := prog_2_method_5_code
def yX0_draw : MethodName := ⟨RX0, "draw", "(LRainWalk$World;I)V"⟩
abbrev cX0_rainsIn : ByteArray := prog_2_method_6_code
def yX0_rainsIn : MethodName := ⟨RX0, "rainsIn", "(I)Z"⟩
abbrev cX0_keepForUndo : ByteArray := prog_2_method_7_code
def yX0_keepForUndo : MethodName := ⟨RX0, "keepForUndo", "()V"⟩
abbrev cX0_takeBack : ByteArray := prog_2_method_8_code
def yX0_takeBack : MethodName := ⟨RX0, "takeBack", "()Z"⟩
abbrev cX0_setMark : ByteArray := prog_2_method_9_code
def yX0_setMark : MethodName := ⟨RX0, "setMark", "()I"⟩
abbrev cX0_returnTo : ByteArray := prog_2_method_10_code
def yX0_returnTo : MethodName := ⟨RX0, "returnTo", "(I)Z"⟩
def RX1 : String := "RainWalk$Leg"
def TX1 : u_T := fun k => match k with
  | 0 => ("RainWalk$Leg", "faces", "[J", true)
  | _ => ("RainWalk$Leg", "strength", "[J", true)
def tyX1 : Nat → FieldType := fun k => match k with
  | 0 => .array .long
  | _ => .array .long
theorem nmX1 : ∀ a, a < 2 → ∀ b, b < 2 → a ≠ b → (TX1 a).2.1 ≠ (TX1 b).2.1 := by decide +kernel
theorem tyX1_ok : ∀ k, k < 2 → parseFieldDescriptor (TX1 k).2.2.1 = some (tyX1 k) := by decide +kernel
abbrev cX1_init : ByteArray := prog_3_method_1_code
def yX1_init : MethodName := ⟨RX1, "<init>", "()V"⟩
abbrev cX1_lay : ByteArray := prog_3_method_2_code
def yX1_lay : MethodName := ⟨RX1, "lay", "(LRainWalk$Road;ILRainWalk$Rain;I)V"⟩
abbrev cX1_isForward : ByteArray := prog_3_method_3_code
def yX1_isForward : MethodName := ⟨RX1, "isForward", "(LRainWalk$Walker;)Z"⟩
abbrev cX1_wetOf : ByteArray := prog_3_method_4_code
def yX1_wetOf : MethodName := ⟨RX1, "wetOf", "(LRainWalk$Walker;LRainWalk$Road;ILRainWalk$Rain;I)J"⟩
abbrev cX1_wetInLee : ByteArray := prog_3_method_5_code
def yX1_wetInLee : MethodName := ⟨RX1, "wetInLee", "(LRainWalk$Walker;LRainWalk$Walker;)J"⟩
abbrev cX1_soak : ByteArray := prog_3_method_6_code
def yX1_soak : MethodName := ⟨RX1, "soak", "(LRainWalk$Walker;II)J"⟩
abbrev cX1_bestSpeed : ByteArray := prog_3_method_7_code
def yX1_bestSpeed : MethodName := ⟨RX1, "bestSpeed", "(LRainWalk$Walker;LRainWalk$Road;ILRainWalk$Rain;)I"⟩
abbrev cX1_worstSpeed : ByteArray := prog_3_method_8_code
def yX1_worstSpeed : MethodName := ⟨RX1, "worstSpeed", "(LRainWalk$Walker;LRainWalk$Road;ILRainWalk$Rain;)I"⟩
abbrev cX1_leastWet : ByteArray := prog_3_method_9_code
def yX1_leastWet : MethodName := ⟨RX1, "leastWet", "(LRainWalk$Walker;LRainWalk$Road;ILRainWalk$Rain;)J"⟩
abbrev cX1_countFits : ByteArray := prog_3_method_10_code
def yX1_countFits : MethodName := ⟨RX1, "countFits", "(LRainWalk$World;I)I"⟩
abbrev cX1_findFit : ByteArray := prog_3_method_11_code
def yX1_findFit : MethodName := ⟨RX1, "findFit", "(LRainWalk$World;II)I"⟩
abbrev cX1_legsOf : ByteArray := prog_3_method_12_code
def yX1_legsOf : MethodName := ⟨RX1, "legsOf", "(LRainWalk$World;)I"⟩
abbrev cX1_fitCode : ByteArray := prog_3_method_13_code
def yX1_fitCode : MethodName := ⟨RX1, "fitCode", "(LRainWalk$World;II)I"⟩
def RX2 : String := "RainWalk$Moment"
def TX2 : u_T := fun k => match k with
  | 0 => ("RainWalk$Moment", "place", "I", false)
  | 1 => ("RainWalk$Moment", "minute", "I", false)
  | _ => ("RainWalk$Moment", "got", "[J", true)
def tyX2 : Nat → FieldType := fun k => match k with
  | 0 => .int
  | 1 => .int
  | _ => .array .long
theorem nmX2 : ∀ a, a < 3 → ∀ b, b < 3 → a ≠ b → (TX2 a).2.1 ≠ (TX2 b).2.1 := by decide +kernel
theorem tyX2_ok : ∀ k, k < 3 → parseFieldDescriptor (TX2 k).2.2.1 = some (tyX2 k) := by decide +kernel
abbrev cX2_init : ByteArray := prog_4_method_1_code
def yX2_init : MethodName := ⟨RX2, "<init>", "()V"⟩
abbrev cX2_copy : ByteArray := prog_4_method_2_code
def yX2_copy : MethodName := ⟨RX2, "copy", "(LRainWalk$Moment;)V"⟩
abbrev cX2_addFaces : ByteArray := prog_4_method_3_code
def yX2_addFaces : MethodName := ⟨RX2, "addFaces", "([J)V"⟩
abbrev cX2_allGot : ByteArray := prog_4_method_4_code
def yX2_allGot : MethodName := ⟨RX2, "allGot", "()J"⟩
def RX3 : String := "RainWalk$Rain"
def TX3 : u_T := fun k => match k with
  | 0 => ("RainWalk$Rain", "drops", "I", false)
  | 1 => ("RainWalk$Rain", "down", "I", false)
  | 2 => ("RainWalk$Rain", "windSide", "I", false)
  | 3 => ("RainWalk$Rain", "wind", "I", false)
  | _ => ("RainWalk$Rain", "chance", "I", false)
def tyX3 : Nat → FieldType := fun k => match k with
  | 0 => .int
  | 1 => .int
  | 2 => .int
  | 3 => .int
  | _ => .int
theorem nmX3 : ∀ a, a < 5 → ∀ b, b < 5 → a ≠ b → (TX3 a).2.1 ≠ (TX3 b).2.1 := by decide +kernel
theorem tyX3_ok : ∀ k, k < 5 → parseFieldDescriptor (TX3 k).2.2.1 = some (tyX3 k) := by decide +kernel
abbrev cX3_init : ByteArray := prog_5_method_1_code
def yX3_init : MethodName := ⟨RX3, "<init>", "()V"⟩
def RX4 : String := "RainWalk$Reader"
def TX4 : u_T := fun k => match k with
  | 0 => ("RainWalk$Reader", "fault", "I", false)
  | 1 => ("RainWalk$Reader", "faultAt", "I", false)
  | 2 => ("RainWalk$Reader", "text", "[B", false)
  | 3 => ("RainWalk$Reader", "length", "I", false)
  | 4 => ("RainWalk$Reader", "at", "I", false)
  | 5 => ("RainWalk$Reader", "world", "LRainWalk$World;", false)
  | 6 => ("RainWalk$Reader", "sort", "I", false)
  | 7 => ("RainWalk$Reader", "start", "I", false)
  | 8 => ("RainWalk$Reader", "token", "J", false)
  | 9 => ("RainWalk$Reader", "value", "I", false)
  | 10 => ("RainWalk$Reader", "names", "I", false)
  | 11 => ("RainWalk$Reader", "name", "[J", true)
  | _ => ("RainWalk$Reader", "named", "[I", true)
def tyX4 : Nat → FieldType := fun k => match k with
  | 0 => .int
  | 1 => .int
  | 2 => .array .byte
  | 3 => .int
  | 4 => .int
  | 5 => .object "RainWalk$World"
  | 6 => .int
  | 7 => .int
  | 8 => .long
  | 9 => .int
  | 10 => .int
  | 11 => .array .long
  | _ => .array .int
theorem nmX4 : ∀ a, a < 13 → ∀ b, b < 13 → a ≠ b → (TX4 a).2.1 ≠ (TX4 b).2.1 := by decide +kernel
theorem tyX4_ok : ∀ k, k < 13 → parseFieldDescriptor (TX4 k).2.2.1 = some (tyX4 k) := by decide +kernel
abbrev cX4_init : ByteArray := prog_6_method_1_code
def yX4_init : MethodName := ⟨RX4, "<init>", "()V"⟩
abbrev cX4_exchange : ByteArray := prog_6_method_2_code
def yX4_exchange : MethodName := ⟨RX4, "exchange", "(LRainWalk$World;)LRainWalk$World;"⟩
abbrev cX4_read : ByteArray := prog_6_method_3_code
def yX4_read : MethodName := ⟨RX4, "read", "([BI)Z"⟩
abbrev cX4_open : ByteArray := prog_6_method_4_code
def yX4_open : MethodName := ⟨RX4, "open", "([BI)V"⟩
abbrev cX4_fail : ByteArray := prog_6_method_5_code
def yX4_fail : MethodName := ⟨RX4, "fail", "(I)Z"⟩
abbrev cX4_next : ByteArray := prog_6_method_6_code
def yX4_next : MethodName := ⟨RX4, "next", "()V"⟩
abbrev cX4_sortAt : ByteArray := prog_6_method_7_code
def yX4_sortAt : MethodName := ⟨RX4, "sortAt", "(I)I"⟩
abbrev cX4_is : ByteArray := prog_6_method_8_code
def yX4_is : MethodName := ⟨RX4, "is", "(Ljava/lang/String;)Z"⟩
abbrev cX4_word : ByteArray := prog_6_method_9_code
def yX4_word : MethodName := ⟨RX4, "word", "(Ljava/lang/String;)Z"⟩
abbrev cX4_sign : ByteArray := prog_6_method_10_code
def yX4_sign : MethodName := ⟨RX4, "sign", "(I)Z"⟩
abbrev cX4_whole : ByteArray := prog_6_method_11_code
def yX4_whole : MethodName := ⟨RX4, "whole", "(II)Z"⟩
abbrev cX4_wordAndWhole : ByteArray := prog_6_method_12_code
def yX4_wordAndWhole : MethodName := ⟨RX4, "wordAndWhole", "(Ljava/lang/String;II)Z"⟩
abbrev cX4_side : ByteArray := prog_6_method_13_code
def yX4_side : MethodName := ⟨RX4, "side", "()Z"⟩
abbrev cX4_canBeName : ByteArray := prog_6_method_14_code
def yX4_canBeName : MethodName := ⟨RX4, "canBeName", "()Z"⟩
abbrev cX4_findName : ByteArray := prog_6_method_15_code
def yX4_findName : MethodName := ⟨RX4, "findName", "()I"⟩
abbrev cX4_newName : ByteArray := prog_6_method_16_code
def yX4_newName : MethodName := ⟨RX4, "newName", "(I)Z"⟩
abbrev cX4_placeBut : ByteArray := prog_6_method_17_code
def yX4_placeBut : MethodName := ⟨RX4, "placeBut", "(I)Z"⟩
abbrev cX4_someWalker : ByteArray := prog_6_method_18_code
def yX4_someWalker : MethodName := ⟨RX4, "someWalker", "()Z"⟩
abbrev cX4_hasRoom : ByteArray := prog_6_method_19_code
def yX4_hasRoom : MethodName := ⟨RX4, "hasRoom", "(II)Z"⟩
abbrev cX4_worldLine : ByteArray := prog_6_method_20_code
def yX4_worldLine : MethodName := ⟨RX4, "worldLine", "()Z"⟩
abbrev cX4_rainLine : ByteArray := prog_6_method_21_code
def yX4_rainLine : MethodName := ⟨RX4, "rainLine", "()Z"⟩
abbrev cX4_placeLine : ByteArray := prog_6_method_22_code
def yX4_placeLine : MethodName := ⟨RX4, "placeLine", "()Z"⟩
abbrev cX4_roadLine : ByteArray := prog_6_method_23_code
def yX4_roadLine : MethodName := ⟨RX4, "roadLine", "()Z"⟩
abbrev cX4_walkerLine : ByteArray := prog_6_method_24_code
def yX4_walkerLine : MethodName := ⟨RX4, "walkerLine", "()Z"⟩
abbrev cX4_kindOf : ByteArray := prog_6_method_25_code
def yX4_kindOf : MethodName := ⟨RX4, "kindOf", "(LRainWalk$Walker;)Z"⟩
abbrev cX4_bodyOf : ByteArray := prog_6_method_26_code
def yX4_bodyOf : MethodName := ⟨RX4, "bodyOf", "(LRainWalk$Walker;)Z"⟩
abbrev cX4_seenLine : ByteArray := prog_6_method_27_code
def yX4_seenLine : MethodName := ⟨RX4, "seenLine", "()Z"⟩
def RX5 : String := "RainWalk$Road"
def TX5 : u_T := fun k => match k with
  | 0 => ("RainWalk$Road", "begin", "I", false)
  | 1 => ("RainWalk$Road", "end", "I", false)
  | 2 => ("RainWalk$Road", "side", "I", false)
  | 3 => ("RainWalk$Road", "length", "I", false)
  | _ => ("RainWalk$Road", "awning", "I", false)
def tyX5 : Nat → FieldType := fun k => match k with
  | 0 => .int
  | 1 => .int
  | 2 => .int
  | 3 => .int
  | _ => .int
theorem nmX5 : ∀ a, a < 5 → ∀ b, b < 5 → a ≠ b → (TX5 a).2.1 ≠ (TX5 b).2.1 := by decide +kernel
theorem tyX5_ok : ∀ k, k < 5 → parseFieldDescriptor (TX5 k).2.2.1 = some (tyX5 k) := by decide +kernel
abbrev cX5_init : ByteArray := prog_7_method_1_code
def yX5_init : MethodName := ⟨RX5, "<init>", "()V"⟩
abbrev cX5_startOf : ByteArray := prog_7_method_2_code
def yX5_startOf : MethodName := ⟨RX5, "startOf", "(I)I"⟩
abbrev cX5_endOf : ByteArray := prog_7_method_3_code
def yX5_endOf : MethodName := ⟨RX5, "endOf", "(I)I"⟩
abbrev cX5_touches : ByteArray := prog_7_method_4_code
def yX5_touches : MethodName := ⟨RX5, "touches", "(I)Z"⟩
abbrev cX5_minutesAt : ByteArray := prog_7_method_5_code
def yX5_minutesAt : MethodName := ⟨RX5, "minutesAt", "(I)I"⟩
abbrev cX5_turnOf : ByteArray := prog_7_method_6_code
def yX5_turnOf : MethodName := ⟨RX5, "turnOf", "(ILRainWalk$Rain;)I"⟩
abbrev cX5_airAlong : ByteArray := prog_7_method_7_code
def yX5_airAlong : MethodName := ⟨RX5, "airAlong", "(ILRainWalk$Rain;)I"⟩
abbrev cX5_tell : ByteArray := prog_7_method_8_code
def yX5_tell : MethodName := ⟨RX5, "tell", "(I)I"⟩
def RX6 : String := "RainWalk$Walker"
def TX6 : u_T := fun k => match k with
  | 0 => ("RainWalk$Walker", "kind", "I", false)
  | 1 => ("RainWalk$Walker", "amount", "I", false)
  | 2 => ("RainWalk$Walker", "top", "I", false)
  | 3 => ("RainWalk$Walker", "front", "I", false)
  | 4 => ("RainWalk$Walker", "side", "I", false)
  | 5 => ("RainWalk$Walker", "slowest", "I", false)
  | _ => ("RainWalk$Walker", "fastest", "I", false)
def tyX6 : Nat → FieldType := fun k => match k with
  | 0 => .int
  | 1 => .int
  | 2 => .int
  | 3 => .int
  | 4 => .int
  | 5 => .int
  | _ => .int
theorem nmX6 : ∀ a, a < 7 → ∀ b, b < 7 → a ≠ b → (TX6 a).2.1 ≠ (TX6 b).2.1 := by decide +kernel
theorem tyX6_ok : ∀ k, k < 7 → parseFieldDescriptor (TX6 k).2.2.1 = some (tyX6 k) := by decide +kernel
abbrev cX6_init : ByteArray := prog_8_method_1_code
def yX6_init : MethodName := ⟨RX6, "<init>", "()V"⟩
abbrev cX6_shape : ByteArray := prog_8_method_2_code
def yX6_shape : MethodName := ⟨RX6, "shape", "(III)V"⟩
abbrev cX6_canGo : ByteArray := prog_8_method_3_code
def yX6_canGo : MethodName := ⟨RX6, "canGo", "(I)Z"⟩
abbrev cX6_shield : ByteArray := prog_8_method_4_code
def yX6_shield : MethodName := ⟨RX6, "shield", "()I"⟩
abbrev cX6_tell : ByteArray := prog_8_method_5_code
def yX6_tell : MethodName := ⟨RX6, "tell", "(I)I"⟩
def RX7 : String := "RainWalk$Ways"
def TX7 : u_T := fun k => match k with
  | 0 => ("RainWalk$Ways", "route", "[I", false)
  | 1 => ("RainWalk$Ways", "key", "[J", false)
  | 2 => ("RainWalk$Ways", "choice", "[I", false)
  | 3 => ("RainWalk$Ways", "moves", "I", false)
  | 4 => ("RainWalk$Ways", "moveFrom", "[I", false)
  | 5 => ("RainWalk$Ways", "moveTo", "[I", false)
  | 6 => ("RainWalk$Ways", "moveMinutes", "[I", false)
  | 7 => ("RainWalk$Ways", "moveCost", "[J", false)
  | 8 => ("RainWalk$Ways", "moveCode", "[I", false)
  | 9 => ("RainWalk$Ways", "pricedHour", "I", false)
  | 10 => ("RainWalk$Ways", "walker", "I", false)
  | 11 => ("RainWalk$Ways", "goal", "I", false)
  | 12 => ("RainWalk$Ways", "till", "I", false)
  | _ => ("RainWalk$Ways", "reckoned", "I", false)
def tyX7 : Nat → FieldType := fun k => match k with
  | 0 => .array .int
  | 1 => .array .long
  | 2 => .array .int
  | 3 => .int
  | 4 => .array .int
  | 5 => .array .int
  | 6 => .array .int
  | 7 => .array .long
  | 8 => .array .int
  | 9 => .int
  | 10 => .int
  | 11 => .int
  | 12 => .int
  | _ => .int
theorem nmX7 : ∀ a, a < 14 → ∀ b, b < 14 → a ≠ b → (TX7 a).2.1 ≠ (TX7 b).2.1 := by decide +kernel
theorem tyX7_ok : ∀ k, k < 14 → parseFieldDescriptor (TX7 k).2.2.1 = some (tyX7 k) := by decide +kernel
abbrev cX7_init : ByteArray := prog_9_method_1_code
def yX7_init : MethodName := ⟨RX7, "<init>", "()V"⟩
abbrev cX7_forget : ByteArray := prog_9_method_2_code
def yX7_forget : MethodName := ⟨RX7, "forget", "()V"⟩
abbrev cX7_makeRows : ByteArray := prog_9_method_3_code
def yX7_makeRows : MethodName := ⟨RX7, "makeRows", "()V"⟩
abbrev cX7_reckon : ByteArray := prog_9_method_4_code
def yX7_reckon : MethodName := ⟨RX7, "reckon", "(LRainWalk$World;LRainWalk$Leg;IIII)V"⟩
abbrev cX7_price : ByteArray := prog_9_method_5_code
def yX7_price : MethodName := ⟨RX7, "price", "(LRainWalk$World;LRainWalk$Leg;I)V"⟩
abbrev cX7_addLeg : ByteArray := prog_9_method_6_code
def yX7_addLeg : MethodName := ⟨RX7, "addLeg", "(LRainWalk$Road;IIJI)V"⟩
abbrev cX7_addMove : ByteArray := prog_9_method_7_code
def yX7_addMove : MethodName := ⟨RX7, "addMove", "(IIIJI)V"⟩
abbrev cX7_reckonMinute : ByteArray := prog_9_method_8_code
def yX7_reckonMinute : MethodName := ⟨RX7, "reckonMinute", "(II)V"⟩
abbrev cX7_keyOf : ByteArray := prog_9_method_9_code
def yX7_keyOf : MethodName := ⟨RX7, "keyOf", "(II)J"⟩
abbrev cX7_isOpen : ByteArray := prog_9_method_10_code
def yX7_isOpen : MethodName := ⟨RX7, "isOpen", "(II)Z"⟩
abbrev cX7_meanFrom : ByteArray := prog_9_method_11_code
def yX7_meanFrom : MethodName := ⟨RX7, "meanFrom", "(II)J"⟩
abbrev cX7_endFrom : ByteArray := prog_9_method_12_code
def yX7_endFrom : MethodName := ⟨RX7, "endFrom", "(II)I"⟩
abbrev cX7_trace : ByteArray := prog_9_method_13_code
def yX7_trace : MethodName := ⟨RX7, "trace", "(LRainWalk$World;II)I"⟩
def RX8 : String := "RainWalk$World"
def TX8 : u_T := fun k => match k with
  | 0 => ("RainWalk$World", "hourMinutes", "I", false)
  | 1 => ("RainWalk$World", "hours", "I", false)
  | 2 => ("RainWalk$World", "places", "I", false)
  | 3 => ("RainWalk$World", "roads", "I", false)
  | 4 => ("RainWalk$World", "walkers", "I", false)
  | 5 => ("RainWalk$World", "seens", "I", false)
  | 6 => ("RainWalk$World", "rain", "[LRainWalk$Rain;", true)
  | 7 => ("RainWalk$World", "drip", "[I", true)
  | 8 => ("RainWalk$World", "road", "[LRainWalk$Road;", true)
  | 9 => ("RainWalk$World", "walker", "[LRainWalk$Walker;", true)
  | 10 => ("RainWalk$World", "seenWalker", "[I", true)
  | _ => ("RainWalk$World", "seenFaces", "[I", true)
def tyX8 : Nat → FieldType := fun k => match k with
  | 0 => .int
  | 1 => .int
  | 2 => .int
  | 3 => .int
  | 4 => .int
  | 5 => .int
  | 6 => .array (.object "RainWalk$Rain")
  | 7 => .array .int
  | 8 => .array (.object "RainWalk$Road")
  | 9 => .array (.object "RainWalk$Walker")
  | 10 => .array .int
  | _ => .array .int
theorem nmX8 : ∀ a, a < 12 → ∀ b, b < 12 → a ≠ b → (TX8 a).2.1 ≠ (TX8 b).2.1 := by decide +kernel
theorem tyX8_ok : ∀ k, k < 12 → parseFieldDescriptor (TX8 k).2.2.1 = some (tyX8 k) := by decide +kernel
abbrev cX8_init : ByteArray := prog_10_method_1_code
def yX8_init : MethodName := ⟨RX8, "<init>", "()V"⟩
abbrev cX8_clear : ByteArray := prog_10_method_2_code
def yX8_clear : MethodName := ⟨RX8, "clear", "()V"⟩
abbrev cX8_isTold : ByteArray := prog_10_method_3_code
def yX8_isTold : MethodName := ⟨RX8, "isTold", "()Z"⟩
abbrev cX8_hasHour : ByteArray := prog_10_method_4_code
def yX8_hasHour : MethodName := ⟨RX8, "hasHour", "(I)Z"⟩
abbrev cX8_hasPlace : ByteArray := prog_10_method_5_code
def yX8_hasPlace : MethodName := ⟨RX8, "hasPlace", "(I)Z"⟩
abbrev cX8_hasRoad : ByteArray := prog_10_method_6_code
def yX8_hasRoad : MethodName := ⟨RX8, "hasRoad", "(I)Z"⟩
abbrev cX8_hasWalker : ByteArray := prog_10_method_7_code
def yX8_hasWalker : MethodName := ⟨RX8, "hasWalker", "(I)Z"⟩
abbrev cX8_hasSeen : ByteArray := prog_10_method_8_code
def yX8_hasSeen : MethodName := ⟨RX8, "hasSeen", "(I)Z"⟩
abbrev cX8_hourOf : ByteArray := prog_10_method_9_code
def yX8_hourOf : MethodName := ⟨RX8, "hourOf", "(I)I"⟩
abbrev cX8_canWait : ByteArray := prog_10_method_10_code
def yX8_canWait : MethodName := ⟨RX8, "canWait", "(I)Z"⟩
abbrev cX8_dripOn : ByteArray := prog_10_method_11_code
def yX8_dripOn : MethodName := ⟨RX8, "dripOn", "(LRainWalk$Walker;I)I"⟩
def RX9 : String := "RainWalk"
def TX9 : u_T := fun k => match k with
  | 0 => ("RainWalk", "tape", "[B", true)
  | 1 => ("RainWalk", "taped", "I", false)
  | 2 => ("RainWalk", "told", "LRainWalk$World;", false)
  | 3 => ("RainWalk", "reader", "LRainWalk$Reader;", true)
  | 4 => ("RainWalk", "leg", "LRainWalk$Leg;", true)
  | 5 => ("RainWalk", "ways", "LRainWalk$Ways;", true)
  | 6 => ("RainWalk", "today", "LRainWalk$Day;", true)
  | 7 => ("RainWalk", "faultNumber", "I", false)
  | 8 => ("RainWalk", "faultPlace", "I", false)
  | _ => ("RainWalk", "refusal", "I", false)
def tyX9 : Nat → FieldType := fun k => match k with
  | 0 => .array .byte
  | 1 => .int
  | 2 => .object "RainWalk$World"
  | 3 => .object "RainWalk$Reader"
  | 4 => .object "RainWalk$Leg"
  | 5 => .object "RainWalk$Ways"
  | 6 => .object "RainWalk$Day"
  | 7 => .int
  | 8 => .int
  | _ => .int
theorem nmX9 : ∀ a, a < 10 → ∀ b, b < 10 → a ≠ b → (TX9 a).2.1 ≠ (TX9 b).2.1 := by decide +kernel
theorem tyX9_ok : ∀ k, k < 10 → parseFieldDescriptor (TX9 k).2.2.1 = some (tyX9 k) := by decide +kernel
abbrev cX9_init : ByteArray := prog_1_method_1_code
def yX9_init : MethodName := ⟨RX9, "<init>", "()V"⟩
abbrev cX9_feed : ByteArray := prog_1_method_2_code
def yX9_feed : MethodName := ⟨RX9, "feed", "(IIIII)I"⟩
abbrev cX9_putBytes : ByteArray := prog_1_method_3_code
def yX9_putBytes : MethodName := ⟨RX9, "putBytes", "(I)V"⟩
abbrev cX9_world : ByteArray := prog_1_method_4_code
def yX9_world : MethodName := ⟨RX9, "world", "(I)I"⟩
abbrev cX9_fault : ByteArray := prog_1_method_5_code
def yX9_fault : MethodName := ⟨RX9, "fault", "()I"⟩
abbrev cX9_where : ByteArray := prog_1_method_6_code
def yX9_where : MethodName := ⟨RX9, "where", "()I"⟩
abbrev cX9_refuse : ByteArray := prog_1_method_7_code
def yX9_refuse : MethodName := ⟨RX9, "refuse", "(I)I"⟩
abbrev cX9_grant : ByteArray := prog_1_method_8_code
def yX9_grant : MethodName := ⟨RX9, "grant", "(I)I"⟩
abbrev cX9_refusedBy : ByteArray := prog_1_method_9_code
def yX9_refusedBy : MethodName := ⟨RX9, "refusedBy", "(I)Z"⟩
abbrev cX9_face : ByteArray := prog_1_method_10_code
def yX9_face : MethodName := ⟨RX9, "face", "(IIIIIIZ)J"⟩
abbrev cX9_wet : ByteArray := prog_1_method_11_code
def yX9_wet : MethodName := ⟨RX9, "wet", "(IIIIIZ)J"⟩
abbrev cX9_mean : ByteArray := prog_1_method_12_code
def yX9_mean : MethodName := ⟨RX9, "mean", "(IIIIIZ)J"⟩
abbrev cX9_minutes : ByteArray := prog_1_method_13_code
def yX9_minutes : MethodName := ⟨RX9, "minutes", "(III)I"⟩
abbrev cX9_air : ByteArray := prog_1_method_14_code
def yX9_air : MethodName := ⟨RX9, "air", "(III)I"⟩
abbrev cX9_held : ByteArray := prog_1_method_15_code
def yX9_held : MethodName := ⟨RX9, "held", "(IIIII)I"⟩
abbrev cX9_best : ByteArray := prog_1_method_16_code
def yX9_best : MethodName := ⟨RX9, "best", "(IIII)I"⟩
abbrev cX9_saves : ByteArray := prog_1_method_17_code
def yX9_saves : MethodName := ⟨RX9, "saves", "(IIIIZ)J"⟩
abbrev cX9_worst : ByteArray := prog_1_method_18_code
def yX9_worst : MethodName := ⟨RX9, "worst", "(IIII)I"⟩
abbrev cX9_even : ByteArray := prog_1_method_19_code
def yX9_even : MethodName := ⟨RX9, "even", "(IIII)I"⟩
abbrev cX9_round : ByteArray := prog_1_method_20_code
def yX9_round : MethodName := ⟨RX9, "round", "(IIIZ)J"⟩
abbrev cX9_driest : ByteArray := prog_1_method_21_code
def yX9_driest : MethodName := ⟨RX9, "driest", "(III)I"⟩
abbrev cX9_lee : ByteArray := prog_1_method_22_code
def yX9_lee : MethodName := ⟨RX9, "lee", "(IIIIIIZ)J"⟩
abbrev cX9_first : ByteArray := prog_1_method_23_code
def yX9_first : MethodName := ⟨RX9, "first", "(IIIIII)I"⟩
abbrev cX9_tripTrouble : ByteArray := prog_1_method_24_code
def yX9_tripTrouble : MethodName := ⟨RX9, "tripTrouble", "(IIII)I"⟩
abbrev cX9_legTrouble : ByteArray := prog_1_method_25_code
def yX9_legTrouble : MethodName := ⟨RX9, "legTrouble", "(IIIII)I"⟩
abbrev cX9_leeTrouble : ByteArray := prog_1_method_26_code
def yX9_leeTrouble : MethodName := ⟨RX9, "leeTrouble", "(IIIIII)I"⟩
abbrev cX9_isWay : ByteArray := prog_1_method_27_code
def yX9_isWay : MethodName := ⟨RX9, "isWay", "(I)Z"⟩
abbrev cX9_isFace : ByteArray := prog_1_method_28_code
def yX9_isFace : MethodName := ⟨RX9, "isFace", "(I)Z"⟩
abbrev cX9_fraction : ByteArray := prog_1_method_29_code
def yX9_fraction : MethodName := ⟨RX9, "fraction", "(JJZ)J"⟩
abbrev cX9_commonDivisor : ByteArray := prog_1_method_30_code
def yX9_commonDivisor : MethodName := ⟨RX9, "commonDivisor", "(JJ)J"⟩
abbrev cX9_least : ByteArray := prog_1_method_31_code
def yX9_least : MethodName := ⟨RX9, "least", "(IIIIIZ)J"⟩
abbrev cX9_there : ByteArray := prog_1_method_32_code
def yX9_there : MethodName := ⟨RX9, "there", "(IIIII)I"⟩
abbrev cX9_steps : ByteArray := prog_1_method_33_code
def yX9_steps : MethodName := ⟨RX9, "steps", "(IIIII)I"⟩
abbrev cX9_step : ByteArray := prog_1_method_34_code
def yX9_step : MethodName := ⟨RX9, "step", "(IIIIII)I"⟩
abbrev cX9_off : ByteArray := prog_1_method_35_code
def yX9_off : MethodName := ⟨RX9, "off", "(IIII)I"⟩
abbrev cX9_placesTrouble : ByteArray := prog_1_method_36_code
def yX9_placesTrouble : MethodName := ⟨RX9, "placesTrouble", "(III)I"⟩
abbrev cX9_isTill : ByteArray := prog_1_method_37_code
def yX9_isTill : MethodName := ⟨RX9, "isTill", "(I)Z"⟩
abbrev cX9_wayTrouble : ByteArray := prog_1_method_38_code
def yX9_wayTrouble : MethodName := ⟨RX9, "wayTrouble", "(IIIII)I"⟩
abbrev cX9_fits : ByteArray := prog_1_method_39_code
def yX9_fits : MethodName := ⟨RX9, "fits", "(I)I"⟩
abbrev cX9_fit : ByteArray := prog_1_method_40_code
def yX9_fit : MethodName := ⟨RX9, "fit", "(II)I"⟩
abbrev cX9_lies : ByteArray := prog_1_method_41_code
def yX9_lies : MethodName := ⟨RX9, "lies", "()I"⟩
abbrev cX9_day : ByteArray := prog_1_method_42_code
def yX9_day : MethodName := ⟨RX9, "day", "(IIII)I"⟩
abbrev cX9_go : ByteArray := prog_1_method_43_code
def yX9_go : MethodName := ⟨RX9, "go", "(III)I"⟩
abbrev cX9_stay : ByteArray := prog_1_method_44_code
def yX9_stay : MethodName := ⟨RX9, "stay", "(I)Z"⟩
abbrev cX9_stayTrouble : ByteArray := prog_1_method_45_code
def yX9_stayTrouble : MethodName := ⟨RX9, "stayTrouble", "(I)I"⟩
abbrev cX9_got : ByteArray := prog_1_method_46_code
def yX9_got : MethodName := ⟨RX9, "got", "(IZ)J"⟩
abbrev cX9_wetness : ByteArray := prog_1_method_47_code
def yX9_wetness : MethodName := ⟨RX9, "wetness", "(Z)J"⟩
abbrev cX9_soaked : ByteArray := prog_1_method_48_code
def yX9_soaked : MethodName := ⟨RX9, "soaked", "()I"⟩
abbrev cX9_coatParts : ByteArray := prog_1_method_49_code
def yX9_coatParts : MethodName := ⟨RX9, "coatParts", "(LRainWalk$Walker;)J"⟩
abbrev cX9_undo : ByteArray := prog_1_method_50_code
def yX9_undo : MethodName := ⟨RX9, "undo", "()Z"⟩
abbrev cX9_mark : ByteArray := prog_1_method_51_code
def yX9_mark : MethodName := ⟨RX9, "mark", "()I"⟩
abbrev cX9_back : ByteArray := prog_1_method_52_code
def yX9_back : MethodName := ⟨RX9, "back", "(I)Z"⟩
abbrev cX9_walker : ByteArray := prog_1_method_53_code
def yX9_walker : MethodName := ⟨RX9, "walker", "(II)I"⟩
abbrev cX9_road : ByteArray := prog_1_method_54_code
def yX9_road : MethodName := ⟨RX9, "road", "(II)I"⟩
abbrev cX9_led : ByteArray := prog_1_method_55_code
def yX9_led : MethodName := ⟨RX9, "led", "(I)I"⟩
abbrev cX9_size : ByteArray := prog_1_method_56_code
def yX9_size : MethodName := ⟨RX9, "size", "(I)I"⟩
abbrev cX9_trouble : ByteArray := prog_1_method_57_code
def yX9_trouble : MethodName := ⟨RX9, "trouble", "()I"⟩
def RX10 : String := "RainWalkModel$World"
def TX10 : u_T := fun k => match k with
  | 0 => ("RainWalkModel$World", "hour", "I", false)
  | 1 => ("RainWalkModel$World", "hours", "I", false)
  | 2 => ("RainWalkModel$World", "places", "I", false)
  | 3 => ("RainWalkModel$World", "roads", "I", false)
  | 4 => ("RainWalkModel$World", "walkers", "I", false)
  | 5 => ("RainWalkModel$World", "seens", "I", false)
  | 6 => ("RainWalkModel$World", "names", "I", false)
  | 7 => ("RainWalkModel$World", "drops", "[I", true)
  | 8 => ("RainWalkModel$World", "down", "[I", true)
  | 9 => ("RainWalkModel$World", "windSide", "[I", true)
  | 10 => ("RainWalkModel$World", "wind", "[I", true)
  | 11 => ("RainWalkModel$World", "chance", "[I", true)
  | 12 => ("RainWalkModel$World", "tree", "[I", true)
  | 13 => ("RainWalkModel$World", "roadFrom", "[I", true)
  | 14 => ("RainWalkModel$World", "roadTo", "[I", true)
  | 15 => ("RainWalkModel$World", "roadSide", "[I", true)
  | 16 => ("RainWalkModel$World", "roadLong", "[I", true)
  | 17 => ("RainWalkModel$World", "awning", "[I", true)
  | 18 => ("RainWalkModel$World", "isInn", "[Z", true)
  | 19 => ("RainWalkModel$World", "kind", "[I", true)
  | 20 => ("RainWalkModel$World", "much", "[I", true)
  | 21 => ("RainWalkModel$World", "top", "[I", true)
  | 22 => ("RainWalkModel$World", "front", "[I", true)
  | 23 => ("RainWalkModel$World", "side", "[I", true)
  | 24 => ("RainWalkModel$World", "slowest", "[I", true)
  | 25 => ("RainWalkModel$World", "fastest", "[I", true)
  | 26 => ("RainWalkModel$World", "seenWho", "[I", true)
  | 27 => ("RainWalkModel$World", "seen", "[I", true)
  | 28 => ("RainWalkModel$World", "name", "[J", true)
  | 29 => ("RainWalkModel$World", "nameSort", "[I", true)
  | _ => ("RainWalkModel$World", "nameNumber", "[I", true)
def tyX10 : Nat → FieldType := fun k => match k with
  | 0 => .int
  | 1 => .int
  | 2 => .int
  | 3 => .int
  | 4 => .int
  | 5 => .int
  | 6 => .int
  | 7 => .array .int
  | 8 => .array .int
  | 9 => .array .int
  | 10 => .array .int
  | 11 => .array .int
  | 12 => .array .int
  | 13 => .array .int
  | 14 => .array .int
  | 15 => .array .int
  | 16 => .array .int
  | 17 => .array .int
  | 18 => .array .boolean
  | 19 => .array .int
  | 20 => .array .int
  | 21 => .array .int
  | 22 => .array .int
  | 23 => .array .int
  | 24 => .array .int
  | 25 => .array .int
  | 26 => .array .int
  | 27 => .array .int
  | 28 => .array .long
  | 29 => .array .int
  | _ => .array .int
theorem nmX10 : ∀ a, a < 31 → ∀ b, b < 31 → a ≠ b → (TX10 a).2.1 ≠ (TX10 b).2.1 := by decide +kernel
theorem tyX10_ok : ∀ k, k < 31 → parseFieldDescriptor (TX10 k).2.2.1 = some (tyX10 k) := by decide +kernel
abbrev cX10_init : ByteArray := prog_13_method_1_code
def yX10_init : MethodName := ⟨RX10, "<init>", "()V"⟩
abbrev cX10_find : ByteArray := prog_13_method_2_code
def yX10_find : MethodName := ⟨RX10, "find", "(J)I"⟩
abbrev cX10_shield : ByteArray := prog_13_method_3_code
def yX10_shield : MethodName := ⟨RX10, "shield", "(I)I"⟩
abbrev cX10_begins : ByteArray := prog_13_method_4_code
def yX10_begins : MethodName := ⟨RX10, "begins", "(II)I"⟩
abbrev cX10_ends : ByteArray := prog_13_method_5_code
def yX10_ends : MethodName := ⟨RX10, "ends", "(II)I"⟩
abbrev cX10_facing : ByteArray := prog_13_method_6_code
def yX10_facing : MethodName := ⟨RX10, "facing", "(II)I"⟩
abbrev cX10_minutes : ByteArray := prog_13_method_7_code
def yX10_minutes : MethodName := ⟨RX10, "minutes", "(II)I"⟩
abbrev cX10_air : ByteArray := prog_13_method_8_code
def yX10_air : MethodName := ⟨RX10, "air", "(III)I"⟩
abbrev cX10_across : ByteArray := prog_13_method_9_code
def yX10_across : MethodName := ⟨RX10, "across", "(III)I"⟩
def RX11 : String := "RainWalkModel"
def TX11 : u_T := fun k => match k with
  | 0 => ("RainWalkModel", "thrown", "I", false)
  | 1 => ("RainWalkModel", "trouble", "I", false)
  | 2 => ("RainWalkModel", "where", "I", false)
  | 3 => ("RainWalkModel", "world", "LRainWalkModel$World;", false)
  | 4 => ("RainWalkModel", "read", "LRainWalkModel$World;", false)
  | 5 => ("RainWalkModel", "tape", "[B", true)
  | 6 => ("RainWalkModel", "taped", "I", false)
  | 7 => ("RainWalkModel", "size", "I", false)
  | 8 => ("RainWalkModel", "spot", "I", false)
  | 9 => ("RainWalkModel", "sort", "I", false)
  | 10 => ("RainWalkModel", "place", "I", false)
  | 11 => ("RainWalkModel", "sign", "I", false)
  | 12 => ("RainWalkModel", "number", "I", false)
  | 13 => ("RainWalkModel", "fault", "I", false)
  | 14 => ("RainWalkModel", "wrongAt", "I", false)
  | 15 => ("RainWalkModel", "word", "J", false)
  | 16 => ("RainWalkModel", "least", "[J", true)
  | 17 => ("RainWalkModel", "arrives", "[I", true)
  | 18 => ("RainWalkModel", "stepBy", "[I", true)
  | 19 => ("RainWalkModel", "who", "I", false)
  | 20 => ("RainWalkModel", "rains", "I", false)
  | 21 => ("RainWalkModel", "d", "[J", true)
  | 22 => ("RainWalkModel", "past", "[J", true)
  | 23 => ("RainWalkModel", "kept", "[J", true)
  | 24 => ("RainWalkModel", "acts", "I", false)
  | _ => ("RainWalkModel", "marks", "I", false)
def tyX11 : Nat → FieldType := fun k => match k with
  | 0 => .int
  | 1 => .int
  | 2 => .int
  | 3 => .object "RainWalkModel$World"
  | 4 => .object "RainWalkModel$World"
  | 5 => .array .byte
  | 6 => .int
  | 7 => .int
  | 8 => .int
  | 9 => .int
  | 10 => .int
  | 11 => .int
  | 12 => .int
  | 13 => .int
  | 14 => .int
  | 15 => .long
  | 16 => .array .long
  | 17 => .array .int
  | 18 => .array .int
  | 19 => .int
  | 20 => .int
  | 21 => .array .long
  | 22 => .array .long
  | 23 => .array .long
  | 24 => .int
  | _ => .int
theorem nmX11 : ∀ a, a < 26 → ∀ b, b < 26 → a ≠ b → (TX11 a).2.1 ≠ (TX11 b).2.1 := by decide +kernel
theorem tyX11_ok : ∀ k, k < 26 → parseFieldDescriptor (TX11 k).2.2.1 = some (tyX11 k) := by decide +kernel
abbrev cX11_init : ByteArray := prog_12_method_1_code
def yX11_init : MethodName := ⟨RX11, "<init>", "()V"⟩
abbrev cX11_refused : ByteArray := prog_12_method_3_code
def yX11_refused : MethodName := ⟨RX11, "refused", "(I)I"⟩
abbrev cX11_lost : ByteArray := prog_12_method_4_code
def yX11_lost : MethodName := ⟨RX11, "lost", "(I)I"⟩
abbrev cX11_denied : ByteArray := prog_12_method_5_code
def yX11_denied : MethodName := ⟨RX11, "denied", "(I)Z"⟩
abbrev cX11_good : ByteArray := prog_12_method_6_code
def yX11_good : MethodName := ⟨RX11, "good", "(I)I"⟩
abbrev cX11_granted : ByteArray := prog_12_method_7_code
def yX11_granted : MethodName := ⟨RX11, "granted", "()Z"⟩
abbrev cX11_in : ByteArray := prog_12_method_8_code
def yX11_in : MethodName := ⟨RX11, "in", "(III)Z"⟩
abbrev cX11_told : ByteArray := prog_12_method_9_code
def yX11_told : MethodName := ⟨RX11, "told", "(JJZ)J"⟩
abbrev cX11_byteAt : ByteArray := prog_12_method_10_code
def yX11_byteAt : MethodName := ⟨RX11, "byteAt", "(I)I"⟩
abbrev cX11_isLetter : ByteArray := prog_12_method_11_code
def yX11_isLetter : MethodName := ⟨RX11, "isLetter", "(I)Z"⟩
abbrev cX11_isDigit : ByteArray := prog_12_method_12_code
def yX11_isDigit : MethodName := ⟨RX11, "isDigit", "(I)Z"⟩
abbrev cX11_wordOf : ByteArray := prog_12_method_13_code
def yX11_wordOf : MethodName := ⟨RX11, "wordOf", "(Ljava/lang/String;)J"⟩
abbrev cX11_goesOn : ByteArray := prog_12_method_14_code
def yX11_goesOn : MethodName := ⟨RX11, "goesOn", "()V"⟩
abbrev cX11_flaw : ByteArray := prog_12_method_15_code
def yX11_flaw : MethodName := ⟨RX11, "flaw", "(I)V"⟩
abbrev cX11_isWord : ByteArray := prog_12_method_16_code
def yX11_isWord : MethodName := ⟨RX11, "isWord", "(Ljava/lang/String;)Z"⟩
abbrev cX11_eatsWord : ByteArray := prog_12_method_17_code
def yX11_eatsWord : MethodName := ⟨RX11, "eatsWord", "(Ljava/lang/String;)Z"⟩
abbrev cX11_eatsSign : ByteArray := prog_12_method_18_code
def yX11_eatsSign : MethodName := ⟨RX11, "eatsSign", "(I)Z"⟩
abbrev cX11_needs : ByteArray := prog_12_method_19_code
def yX11_needs : MethodName := ⟨RX11, "needs", "(Ljava/lang/String;)V"⟩
abbrev cX11_readWhole : ByteArray := prog_12_method_20_code
def yX11_readWhole : MethodName := ⟨RX11, "readWhole", "(II)I"⟩
abbrev cX11_readPart : ByteArray := prog_12_method_21_code
def yX11_readPart : MethodName := ⟨RX11, "readPart", "(Ljava/lang/String;II)I"⟩
abbrev cX11_isName : ByteArray := prog_12_method_22_code
def yX11_isName : MethodName := ⟨RX11, "isName", "()Z"⟩
abbrev cX11_begins : ByteArray := prog_12_method_23_code
def yX11_begins : MethodName := ⟨RX11, "begins", "(II)V"⟩
abbrev cX11_readFresh : ByteArray := prog_12_method_24_code
def yX11_readFresh : MethodName := ⟨RX11, "readFresh", "()J"⟩
abbrev cX11_names : ByteArray := prog_12_method_25_code
def yX11_names : MethodName := ⟨RX11, "names", "(JII)V"⟩
abbrev cX11_known : ByteArray := prog_12_method_26_code
def yX11_known : MethodName := ⟨RX11, "known", "(I)I"⟩
abbrev cX11_readSide : ByteArray := prog_12_method_27_code
def yX11_readSide : MethodName := ⟨RX11, "readSide", "()I"⟩
abbrev cX11_readAll : ByteArray := prog_12_method_28_code
def yX11_readAll : MethodName := ⟨RX11, "readAll", "()V"⟩
abbrev cX11_readLine : ByteArray := prog_12_method_29_code
def yX11_readLine : MethodName := ⟨RX11, "readLine", "()V"⟩
abbrev cX11_readWorld : ByteArray := prog_12_method_30_code
def yX11_readWorld : MethodName := ⟨RX11, "readWorld", "()V"⟩
abbrev cX11_readRain : ByteArray := prog_12_method_31_code
def yX11_readRain : MethodName := ⟨RX11, "readRain", "()V"⟩
abbrev cX11_readPlace : ByteArray := prog_12_method_32_code
def yX11_readPlace : MethodName := ⟨RX11, "readPlace", "()V"⟩
abbrev cX11_readRoad : ByteArray := prog_12_method_33_code
def yX11_readRoad : MethodName := ⟨RX11, "readRoad", "()V"⟩
abbrev cX11_readWalker : ByteArray := prog_12_method_34_code
def yX11_readWalker : MethodName := ⟨RX11, "readWalker", "()V"⟩
abbrev cX11_readSeen : ByteArray := prog_12_method_35_code
def yX11_readSeen : MethodName := ⟨RX11, "readSeen", "()V"⟩
abbrev cX11_feed : ByteArray := prog_12_method_36_code
def yX11_feed : MethodName := ⟨RX11, "feed", "(IIIII)I"⟩
abbrev cX11_world : ByteArray := prog_12_method_37_code
def yX11_world : MethodName := ⟨RX11, "world", "(I)I"⟩
abbrev cX11_fault : ByteArray := prog_12_method_38_code
def yX11_fault : MethodName := ⟨RX11, "fault", "()I"⟩
abbrev cX11_where : ByteArray := prog_12_method_39_code
def yX11_where : MethodName := ⟨RX11, "where", "()I"⟩
abbrev cX11_isWalker : ByteArray := prog_12_method_40_code
def yX11_isWalker : MethodName := ⟨RX11, "isWalker", "(I)Z"⟩
abbrev cX11_isRoad : ByteArray := prog_12_method_41_code
def yX11_isRoad : MethodName := ⟨RX11, "isRoad", "(I)Z"⟩
abbrev cX11_isPlace : ByteArray := prog_12_method_42_code
def yX11_isPlace : MethodName := ⟨RX11, "isPlace", "(I)Z"⟩
abbrev cX11_isHour : ByteArray := prog_12_method_43_code
def yX11_isHour : MethodName := ⟨RX11, "isHour", "(I)Z"⟩
abbrev cX11_isSpeed : ByteArray := prog_12_method_44_code
def yX11_isSpeed : MethodName := ⟨RX11, "isSpeed", "(II)Z"⟩
abbrev cX11_refuses : ByteArray := prog_12_method_45_code
def yX11_refuses : MethodName := ⟨RX11, "refuses", "(IIIII)I"⟩
abbrev cX11_isForward : ByteArray := prog_12_method_46_code
def yX11_isForward : MethodName := ⟨RX11, "isForward", "(IIIII)Z"⟩
abbrev cX11_less : ByteArray := prog_12_method_47_code
def yX11_less : MethodName := ⟨RX11, "less", "(II)I"⟩
abbrev cX11_inTime : ByteArray := prog_12_method_48_code
def yX11_inTime : MethodName := ⟨RX11, "inTime", "(IIIIIIII)I"⟩
abbrev cX11_partsOf : ByteArray := prog_12_method_49_code
def yX11_partsOf : MethodName := ⟨RX11, "partsOf", "(IIIIII)J"⟩
abbrev cX11_wetOf : ByteArray := prog_12_method_50_code
def yX11_wetOf : MethodName := ⟨RX11, "wetOf", "(IIIII)J"⟩
abbrev cX11_face : ByteArray := prog_12_method_51_code
def yX11_face : MethodName := ⟨RX11, "face", "(IIIIIIZ)J"⟩
abbrev cX11_wet : ByteArray := prog_12_method_52_code
def yX11_wet : MethodName := ⟨RX11, "wet", "(IIIIIZ)J"⟩
abbrev cX11_mean : ByteArray := prog_12_method_53_code
def yX11_mean : MethodName := ⟨RX11, "mean", "(IIIIIZ)J"⟩
abbrev cX11_minutes : ByteArray := prog_12_method_54_code
def yX11_minutes : MethodName := ⟨RX11, "minutes", "(III)I"⟩
abbrev cX11_air : ByteArray := prog_12_method_55_code
def yX11_air : MethodName := ⟨RX11, "air", "(III)I"⟩
abbrev cX11_held : ByteArray := prog_12_method_56_code
def yX11_held : MethodName := ⟨RX11, "held", "(IIIII)I"⟩
abbrev cX11_bestOf : ByteArray := prog_12_method_57_code
def yX11_bestOf : MethodName := ⟨RX11, "bestOf", "(IIII)I"⟩
abbrev cX11_best : ByteArray := prog_12_method_58_code
def yX11_best : MethodName := ⟨RX11, "best", "(IIII)I"⟩
abbrev cX11_saves : ByteArray := prog_12_method_59_code
def yX11_saves : MethodName := ⟨RX11, "saves", "(IIIIZ)J"⟩
abbrev cX11_worst : ByteArray := prog_12_method_60_code
def yX11_worst : MethodName := ⟨RX11, "worst", "(IIII)I"⟩
abbrev cX11_even : ByteArray := prog_12_method_61_code
def yX11_even : MethodName := ⟨RX11, "even", "(IIII)I"⟩
abbrev cX11_wetAtBest : ByteArray := prog_12_method_62_code
def yX11_wetAtBest : MethodName := ⟨RX11, "wetAtBest", "(IIII)J"⟩
abbrev cX11_round : ByteArray := prog_12_method_63_code
def yX11_round : MethodName := ⟨RX11, "round", "(IIIZ)J"⟩
abbrev cX11_driest : ByteArray := prog_12_method_64_code
def yX11_driest : MethodName := ⟨RX11, "driest", "(III)I"⟩
abbrev cX11_together : ByteArray := prog_12_method_65_code
def yX11_together : MethodName := ⟨RX11, "together", "(IIIIII)J"⟩
abbrev cX11_refusesTwo : ByteArray := prog_12_method_66_code
def yX11_refusesTwo : MethodName := ⟨RX11, "refusesTwo", "(IIIIII)I"⟩
abbrev cX11_lee : ByteArray := prog_12_method_67_code
def yX11_lee : MethodName := ⟨RX11, "lee", "(IIIIIIZ)J"⟩
abbrev cX11_first : ByteArray := prog_12_method_68_code
def yX11_first : MethodName := ⟨RX11, "first", "(IIIIII)I"⟩
abbrev cX11_spotOf : ByteArray := prog_12_method_69_code
def yX11_spotOf : MethodName := ⟨RX11, "spotOf", "(II)I"⟩
abbrev cX11_hourOf : ByteArray := prog_12_method_70_code
def yX11_hourOf : MethodName := ⟨RX11, "hourOf", "(I)I"⟩
abbrev cX11_meanOf : ByteArray := prog_12_method_71_code
def yX11_meanOf : MethodName := ⟨RX11, "meanOf", "(IIIII)J"⟩
abbrev cX11_drips : ByteArray := prog_12_method_72_code
def yX11_drips : MethodName := ⟨RX11, "drips", "(II)J"⟩
abbrev cX11_canWait : ByteArray := prog_12_method_73_code
def yX11_canWait : MethodName := ⟨RX11, "canWait", "(I)Z"⟩
abbrev cX11_waitsOf : ByteArray := prog_12_method_74_code
def yX11_waitsOf : MethodName := ⟨RX11, "waitsOf", "(III)J"⟩
abbrev cX11_laysWays : ByteArray := prog_12_method_75_code
def yX11_laysWays : MethodName := ⟨RX11, "laysWays", "(III)V"⟩
abbrev cX11_tries : ByteArray := prog_12_method_76_code
def yX11_tries : MethodName := ⟨RX11, "tries", "(IIII)V"⟩
abbrev cX11_takes : ByteArray := prog_12_method_77_code
def yX11_takes : MethodName := ⟨RX11, "takes", "(IIJI)V"⟩
abbrev cX11_refusesWay : ByteArray := prog_12_method_78_code
def yX11_refusesWay : MethodName := ⟨RX11, "refusesWay", "(IIIII)I"⟩
abbrev cX11_least : ByteArray := prog_12_method_79_code
def yX11_least : MethodName := ⟨RX11, "least", "(IIIIIZ)J"⟩
abbrev cX11_there : ByteArray := prog_12_method_80_code
def yX11_there : MethodName := ⟨RX11, "there", "(IIIII)I"⟩
abbrev cX11_stepOf : ByteArray := prog_12_method_81_code
def yX11_stepOf : MethodName := ⟨RX11, "stepOf", "(IIII)I"⟩
abbrev cX11_steps : ByteArray := prog_12_method_82_code
def yX11_steps : MethodName := ⟨RX11, "steps", "(IIIII)I"⟩
abbrev cX11_step : ByteArray := prog_12_method_83_code
def yX11_step : MethodName := ⟨RX11, "step", "(IIIIII)I"⟩
abbrev cX11_off : ByteArray := prog_12_method_84_code
def yX11_off : MethodName := ⟨RX11, "off", "(IIII)I"⟩
abbrev cX11_isSeen : ByteArray := prog_12_method_85_code
def yX11_isSeen : MethodName := ⟨RX11, "isSeen", "(I)Z"⟩
abbrev cX11_fitOf : ByteArray := prog_12_method_86_code
def yX11_fitOf : MethodName := ⟨RX11, "fitOf", "(II)I"⟩
abbrev cX11_fits : ByteArray := prog_12_method_87_code
def yX11_fits : MethodName := ⟨RX11, "fits", "(I)I"⟩
abbrev cX11_fit : ByteArray := prog_12_method_88_code
def yX11_fit : MethodName := ⟨RX11, "fit", "(II)I"⟩
abbrev cX11_lies : ByteArray := prog_12_method_89_code
def yX11_lies : MethodName := ⟨RX11, "lies", "()I"⟩
abbrev cX11_isDay : ByteArray := prog_12_method_90_code
def yX11_isDay : MethodName := ⟨RX11, "isDay", "()Z"⟩
abbrev cX11_day : ByteArray := prog_12_method_91_code
def yX11_day : MethodName := ⟨RX11, "day", "(IIII)I"⟩
abbrev cX11_keeps : ByteArray := prog_12_method_92_code
def yX11_keeps : MethodName := ⟨RX11, "keeps", "()V"⟩
abbrev cX11_rainsIn : ByteArray := prog_12_method_93_code
def yX11_rainsIn : MethodName := ⟨RX11, "rainsIn", "(I)Z"⟩
abbrev cX11_go : ByteArray := prog_12_method_94_code
def yX11_go : MethodName := ⟨RX11, "go", "(III)I"⟩
abbrev cX11_stay : ByteArray := prog_12_method_95_code
def yX11_stay : MethodName := ⟨RX11, "stay", "(I)Z"⟩
abbrev cX11_got : ByteArray := prog_12_method_96_code
def yX11_got : MethodName := ⟨RX11, "got", "(IZ)J"⟩
abbrev cX11_gotInAll : ByteArray := prog_12_method_97_code
def yX11_gotInAll : MethodName := ⟨RX11, "gotInAll", "()J"⟩
abbrev cX11_holds : ByteArray := prog_12_method_98_code
def yX11_holds : MethodName := ⟨RX11, "holds", "()J"⟩
abbrev cX11_wetness : ByteArray := prog_12_method_99_code
def yX11_wetness : MethodName := ⟨RX11, "wetness", "(Z)J"⟩
abbrev cX11_soaked : ByteArray := prog_12_method_100_code
def yX11_soaked : MethodName := ⟨RX11, "soaked", "()I"⟩
abbrev cX11_undo : ByteArray := prog_12_method_101_code
def yX11_undo : MethodName := ⟨RX11, "undo", "()Z"⟩
abbrev cX11_mark : ByteArray := prog_12_method_102_code
def yX11_mark : MethodName := ⟨RX11, "mark", "()I"⟩
abbrev cX11_back : ByteArray := prog_12_method_103_code
def yX11_back : MethodName := ⟨RX11, "back", "(I)Z"⟩
abbrev cX11_walker : ByteArray := prog_12_method_104_code
def yX11_walker : MethodName := ⟨RX11, "walker", "(II)I"⟩
abbrev cX11_road : ByteArray := prog_12_method_105_code
def yX11_road : MethodName := ⟨RX11, "road", "(II)I"⟩
abbrev cX11_led : ByteArray := prog_12_method_106_code
def yX11_led : MethodName := ⟨RX11, "led", "(I)I"⟩
abbrev cX11_size : ByteArray := prog_12_method_107_code
def yX11_size : MethodName := ⟨RX11, "size", "(I)I"⟩
abbrev cX11_trouble : ByteArray := prog_12_method_108_code
def yX11_trouble : MethodName := ⟨RX11, "trouble", "()I"⟩
def RJ0 : String := "java/lang/String"
abbrev cJ0_length_8abf5 : ByteArray := prog_20_method_54_code
def yJ0_length_8abf5 : MethodName := ⟨RJ0, "length", "()I"⟩
abbrev cJ0_charAt_5068e : ByteArray := prog_20_method_56_code
def yJ0_charAt_5068e : MethodName := ⟨RJ0, "charAt", "(I)C"⟩
abbrev cJ0_coder_7d493 : ByteArray := prog_20_method_152_code
def yJ0_coder_7d493 : MethodName := ⟨RJ0, "coder", "()B"⟩
abbrev cJ0_isLatin1_aae02 : ByteArray := prog_20_method_154_code
def yJ0_isLatin1_aae02 : MethodName := ⟨RJ0, "isLatin1", "()Z"⟩
abbrev cJ0_checkIndex_df160 : ByteArray := prog_20_method_155_code
def yJ0_checkIndex_df160 : MethodName := ⟨RJ0, "checkIndex", "(II)V"⟩
def RJ1 : String := "java/lang/StringLatin1"
abbrev cJ1_charAt_3b067 : ByteArray := prog_21_method_2_code
def yJ1_charAt_3b067 : MethodName := ⟨RJ1, "charAt", "([BI)C"⟩
def RJ3 : String := "jdk/internal/util/Preconditions"
abbrev cJ3_checkIndex_8e157 : ByteArray := prog_27_method_11_code
def yJ3_checkIndex_8e157 : MethodName := ⟨RJ3, "checkIndex", "(IILjava/util/function/BiFunction;)I"⟩
def RL : String := "RainWalkLaw"
abbrev cL_led : ByteArray := method_3_code
def yL_led : MethodName := ⟨RL, "led", "(LRainWalk;I[J)I"⟩
abbrev cL_law : ByteArray := code
abbrev vwCl : List vw_C := [(RX0, TX0, 7), (RX1, TX1, 2), (RX2, TX2, 3), (RX3, TX3, 5), (RX4, TX4, 13), (RX5, TX5, 5), (RX6, TX6, 7), (RX7, TX7, 14), (RX8, TX8, 12), (RX9, TX9, 10), (RX10, TX10, 31), (RX11, TX11, 26)]
end
section
/-! the tables' words that keep: each by its place -/
def G : List Cond := lw_tbl.filter goodWord
theorem G_good : ∀ w ∈ G, w ∈ G ∧ ((w.onTables && w.keeps) = true ∨ ∃ ty, w = .arrayClass ty) := fun w h => ⟨h, good_of_word (List.mem_filter.mp h).2⟩
theorem inT1 {w : Cond} (h : w ∈ tables_1_1) : w ∈ lw_tbl := List.mem_append_right _ (List.mem_append_left _ h)
theorem gT1 {w : Cond} (i : Nat) (h : tables_1_1[i]? = some w) (hg : goodWord w = true) : w ∈ G := List.mem_filter.mpr ⟨inT1 (List.mem_of_getElem? h), hg⟩
theorem inT2 {w : Cond} (h : w ∈ tables_1_2) : w ∈ lw_tbl := List.mem_append_right _ (List.mem_append_right _ (List.mem_append_left _ h))
theorem gT2 {w : Cond} (i : Nat) (h : tables_1_2[i]? = some w) (hg : goodWord w = true) : w ∈ G := List.mem_filter.mpr ⟨inT2 (List.mem_of_getElem? h), hg⟩
theorem inT3 {w : Cond} (h : w ∈ tables_1_3) : w ∈ lw_tbl := List.mem_append_right _ (List.mem_append_right _ (List.mem_append_right _ (List.mem_append_left _ h)))
theorem gT3 {w : Cond} (i : Nat) (h : tables_1_3[i]? = some w) (hg : goodWord w = true) : w ∈ G := List.mem_filter.mpr ⟨inT3 (List.mem_of_getElem? h), hg⟩
theorem inT4 {w : Cond} (h : w ∈ tables_1_4) : w ∈ lw_tbl := List.mem_append_right _ (List.mem_append_right _ (List.mem_append_right _ (List.mem_append_right _ (List.mem_append_left _ h))))
theorem gT4 {w : Cond} (i : Nat) (h : tables_1_4[i]? = some w) (hg : goodWord w = true) : w ∈ G := List.mem_filter.mpr ⟨inT4 (List.mem_of_getElem? h), hg⟩
theorem inT5 {w : Cond} (h : w ∈ tables_1_5) : w ∈ lw_tbl := List.mem_append_right _ (List.mem_append_right _ (List.mem_append_right _ (List.mem_append_right _ (List.mem_append_right _ (List.mem_append_left _ h)))))
theorem gT5 {w : Cond} (i : Nat) (h : tables_1_5[i]? = some w) (hg : goodWord w = true) : w ∈ G := List.mem_filter.mpr ⟨inT5 (List.mem_of_getElem? h), hg⟩
theorem inT6 {w : Cond} (h : w ∈ tables_1_6) : w ∈ lw_tbl := List.mem_append_right _ (List.mem_append_right _ (List.mem_append_right _ (List.mem_append_right _ (List.mem_append_right _ (List.mem_append_right _ (List.mem_append_left _ h))))))
theorem gT6 {w : Cond} (i : Nat) (h : tables_1_6[i]? = some w) (hg : goodWord w = true) : w ∈ G := List.mem_filter.mpr ⟨inT6 (List.mem_of_getElem? h), hg⟩
theorem inT7 {w : Cond} (h : w ∈ tables_1_7) : w ∈ lw_tbl := List.mem_append_right _ (List.mem_append_right _ (List.mem_append_right _ (List.mem_append_right _ (List.mem_append_right _ (List.mem_append_right _ (List.mem_append_right _ (List.mem_append_left _ h)))))))
theorem gT7 {w : Cond} (i : Nat) (h : tables_1_7[i]? = some w) (hg : goodWord w = true) : w ∈ G := List.mem_filter.mpr ⟨inT7 (List.mem_of_getElem? h), hg⟩
theorem inT8 {w : Cond} (h : w ∈ tables_1_8) : w ∈ lw_tbl := List.mem_append_right _ (List.mem_append_right _ (List.mem_append_right _ (List.mem_append_right _ (List.mem_append_right _ (List.mem_append_right _ (List.mem_append_right _ (List.mem_append_right _ (h))))))))
theorem gT8 {w : Cond} (i : Nat) (h : tables_1_8[i]? = some w) (hg : goodWord w = true) : w ∈ G := List.mem_filter.mpr ⟨inT8 (List.mem_of_getElem? h), hg⟩
theorem gP {w : Cond} (i : Nat) (h : (k2_sels lw_privs)[i]? = some w) (hg : goodWord w = true) : w ∈ G := List.mem_filter.mpr ⟨List.mem_append_left _ (List.mem_of_getElem? h), hg⟩
theorem g_0 : Jvm.Cond.initialized "RainWalkLaw" ∈ G := gT1 0 rfl rfl
theorem g_1 : Jvm.Cond.initialized "RainWalk" ∈ G := gT1 1 rfl rfl
theorem g_2 : Jvm.Cond.initialized "RainWalk$World" ∈ G := gT1 2 rfl rfl
theorem g_3 : Jvm.Cond.initialized "RainWalk$Rain" ∈ G := gT1 3 rfl rfl
theorem g_4 : Jvm.Cond.initialized "RainWalk$Road" ∈ G := gT1 4 rfl rfl
theorem g_5 : Jvm.Cond.initialized "RainWalk$Walker" ∈ G := gT1 5 rfl rfl
theorem g_6 : Jvm.Cond.initialized "RainWalk$Reader" ∈ G := gT1 6 rfl rfl
theorem g_7 : Jvm.Cond.initialized "RainWalk$Leg" ∈ G := gT1 7 rfl rfl
theorem g_8 : Jvm.Cond.initialized "RainWalk$Ways" ∈ G := gT1 8 rfl rfl
theorem g_9 : Jvm.Cond.initialized "RainWalk$Day" ∈ G := gT1 9 rfl rfl
theorem g_10 : Jvm.Cond.initialized "RainWalk$Moment" ∈ G := gT1 10 rfl rfl
theorem g_11 : Jvm.Cond.initialized "RainWalkModel" ∈ G := gT1 11 rfl rfl
theorem g_12 : Jvm.Cond.initialized "java/lang/Math" ∈ G := gT1 12 rfl rfl
theorem g_13 : Jvm.Cond.initialized "java/lang/String" ∈ G := gT1 13 rfl rfl
theorem g_14 : Jvm.Cond.initialized "java/lang/StringLatin1" ∈ G := gT1 14 rfl rfl
theorem g_15 : Jvm.Cond.initialized "jdk/internal/util/Preconditions" ∈ G := gT1 15 rfl rfl
theorem g_17 : Jvm.Cond.initialized "RainWalkModel$World" ∈ G := gT1 17 rfl rfl
theorem g_18 : Jvm.Cond.initialized "java/lang/Throwable" ∈ G := gT1 18 rfl rfl
theorem g_21 : Jvm.Cond.initialized "java/util/NoSuchElementException" ∈ G := gT1 21 rfl rfl
theorem g_22 : Jvm.Cond.classLink "RainWalkLaw" (8 : Nat) "RainWalk" ∈ G := gT1 22 rfl rfl
theorem g_23 : Jvm.Cond.instantiable "RainWalk" (10 : Nat) ∈ G := gT1 23 rfl rfl
theorem g_24 : Jvm.Cond.methodLink "RainWalkLaw" (15 : Nat) ({ cls := "RainWalk", name := "<init>", desc := "()V" } : Jvm.MethodName) ∈ G := gT1 24 rfl rfl
theorem g_25 : Jvm.Cond.instanceMethod ({ cls := "RainWalk", name := "<init>", desc := "()V" } : Jvm.MethodName) ∈ G := gT1 25 rfl rfl
theorem g_26 : Jvm.Cond.code ({ cls := "RainWalk", name := "<init>", desc := "()V" } : Jvm.MethodName) prog_1_method_1_code (1 : Nat) (Option.none : Option Jvm.ClassFile.FieldType) ∈ G := gT1 26 rfl rfl
theorem g_27 : Jvm.Cond.methodLink "RainWalk" (1 : Nat) ({ cls := "java/lang/Object", name := "<init>", desc := "()V" } : Jvm.MethodName) ∈ G := gT1 27 rfl rfl
theorem g_28 : Jvm.Cond.instanceMethod ({ cls := "java/lang/Object", name := "<init>", desc := "()V" } : Jvm.MethodName) ∈ G := gT1 28 rfl rfl
theorem g_29 : Jvm.Cond.code ({ cls := "java/lang/Object", name := "<init>", desc := "()V" } : Jvm.MethodName) object_method_1_code (1 : Nat) (Option.none : Option Jvm.ClassFile.FieldType) ∈ G := gT1 29 rfl rfl
theorem g_30 : Jvm.Cond.classLink "RainWalk" (13 : Nat) "RainWalk$World" ∈ G := gT1 30 rfl rfl
theorem g_31 : Jvm.Cond.instantiable "RainWalk$World" (12 : Nat) ∈ G := gT1 31 rfl rfl
theorem g_32 : Jvm.Cond.methodLink "RainWalk" (15 : Nat) ({ cls := "RainWalk$World", name := "<init>", desc := "()V" } : Jvm.MethodName) ∈ G := gT1 32 rfl rfl
theorem g_33 : Jvm.Cond.instanceMethod ({ cls := "RainWalk$World", name := "<init>", desc := "()V" } : Jvm.MethodName) ∈ G := gT1 33 rfl rfl
theorem g_34 : Jvm.Cond.code ({ cls := "RainWalk$World", name := "<init>", desc := "()V" } : Jvm.MethodName) prog_10_method_1_code (2 : Nat) (Option.none : Option Jvm.ClassFile.FieldType) ∈ G := gT1 34 rfl rfl
theorem g_35 : Jvm.Cond.methodLink "RainWalk$World" (3 : Nat) ({ cls := "java/lang/Object", name := "<init>", desc := "()V" } : Jvm.MethodName) ∈ G := gT1 35 rfl rfl
theorem g_36 : Jvm.Cond.classLink "RainWalk$World" (9 : Nat) "RainWalk$Rain" ∈ G := gT1 36 rfl rfl
theorem g_38 : Jvm.Cond.classLink "RainWalk$World" (21 : Nat) "RainWalk$Road" ∈ G := gT1 38 rfl rfl
theorem g_40 : Jvm.Cond.classLink "RainWalk$World" (27 : Nat) "RainWalk$Walker" ∈ G := gT1 40 rfl rfl
theorem g_42 : Jvm.Cond.instantiable "RainWalk$Rain" (5 : Nat) ∈ G := gT1 42 rfl rfl
theorem g_44 : Jvm.Cond.instanceMethod ({ cls := "RainWalk$Rain", name := "<init>", desc := "()V" } : Jvm.MethodName) ∈ G := gT1 44 rfl rfl
theorem g_45 : Jvm.Cond.code ({ cls := "RainWalk$Rain", name := "<init>", desc := "()V" } : Jvm.MethodName) prog_5_method_1_code (1 : Nat) (Option.none : Option Jvm.ClassFile.FieldType) ∈ G := gT1 45 rfl rfl
theorem g_46 : Jvm.Cond.methodLink "RainWalk$Rain" (1 : Nat) ({ cls := "java/lang/Object", name := "<init>", desc := "()V" } : Jvm.MethodName) ∈ G := gT1 46 rfl rfl
theorem g_47 : Jvm.Cond.fieldLink "RainWalk$Leg" (27 : Nat) "RainWalk$Rain" "drops" "I" ∈ G := gT1 47 rfl rfl
theorem g_48 : Jvm.Cond.fieldLink "RainWalk$Reader" (193 : Nat) "RainWalk$Rain" "drops" "I" ∈ G := gT1 48 rfl rfl
theorem g_49 : Jvm.Cond.fieldLink "RainWalk$Leg" (39 : Nat) "RainWalk$Rain" "down" "I" ∈ G := gT1 49 rfl rfl
theorem g_50 : Jvm.Cond.fieldLink "RainWalk$Reader" (199 : Nat) "RainWalk$Rain" "down" "I" ∈ G := gT1 50 rfl rfl
theorem g_51 : Jvm.Cond.fieldLink "RainWalk$Road" (22 : Nat) "RainWalk$Rain" "windSide" "I" ∈ G := gT1 51 rfl rfl
theorem g_52 : Jvm.Cond.fieldLink "RainWalk$Reader" (206 : Nat) "RainWalk$Rain" "windSide" "I" ∈ G := gT1 52 rfl rfl
theorem g_53 : Jvm.Cond.fieldLink "RainWalk$Leg" (48 : Nat) "RainWalk$Rain" "wind" "I" ∈ G := gT1 53 rfl rfl
theorem g_54 : Jvm.Cond.fieldLink "RainWalk$Road" (31 : Nat) "RainWalk$Rain" "wind" "I" ∈ G := gT1 54 rfl rfl
theorem g_55 : Jvm.Cond.fieldLink "RainWalk$Reader" (209 : Nat) "RainWalk$Rain" "wind" "I" ∈ G := gT1 55 rfl rfl
theorem g_56 : Jvm.Cond.fieldLink "RainWalk$Day" (61 : Nat) "RainWalk$Rain" "chance" "I" ∈ G := gT1 56 rfl rfl
theorem g_57 : Jvm.Cond.fieldLink "RainWalk$Ways" (120 : Nat) "RainWalk$Rain" "chance" "I" ∈ G := gT1 57 rfl rfl
theorem g_58 : Jvm.Cond.fieldLink "RainWalk" (134 : Nat) "RainWalk$Rain" "chance" "I" ∈ G := gT1 58 rfl rfl
theorem g_59 : Jvm.Cond.fieldLink "RainWalk$Reader" (213 : Nat) "RainWalk$Rain" "chance" "I" ∈ G := gT1 59 rfl rfl
theorem g_60 : Jvm.Cond.lays "RainWalk$Rain" "RainWalk$Rain" "drops" "I" ∈ G := gT1 60 rfl rfl
theorem g_62 : Jvm.Cond.lays "RainWalk$Rain" "RainWalk$Rain" "down" "I" ∈ G := gT1 62 rfl rfl
theorem g_64 : Jvm.Cond.lays "RainWalk$Rain" "RainWalk$Rain" "windSide" "I" ∈ G := gT1 64 rfl rfl
theorem g_66 : Jvm.Cond.lays "RainWalk$Rain" "RainWalk$Rain" "wind" "I" ∈ G := gT1 66 rfl rfl
theorem g_68 : Jvm.Cond.lays "RainWalk$Rain" "RainWalk$Rain" "chance" "I" ∈ G := gT1 68 rfl rfl
theorem g_71 : Jvm.Cond.arrayClass Jvm.ClassFile.FieldType.byte ∈ G := gT1 71 rfl rfl
theorem g_72 : Jvm.Cond.arrayClass Jvm.ClassFile.FieldType.int ∈ G := gT1 72 rfl rfl
theorem g_73 : Jvm.Cond.instantiable "RainWalk$Road" (5 : Nat) ∈ G := gT1 73 rfl rfl
theorem g_75 : Jvm.Cond.instanceMethod ({ cls := "RainWalk$Road", name := "<init>", desc := "()V" } : Jvm.MethodName) ∈ G := gT1 75 rfl rfl
theorem g_76 : Jvm.Cond.code ({ cls := "RainWalk$Road", name := "<init>", desc := "()V" } : Jvm.MethodName) prog_7_method_1_code (1 : Nat) (Option.none : Option Jvm.ClassFile.FieldType) ∈ G := gT1 76 rfl rfl
theorem g_77 : Jvm.Cond.methodLink "RainWalk$Road" (1 : Nat) ({ cls := "java/lang/Object", name := "<init>", desc := "()V" } : Jvm.MethodName) ∈ G := gT1 77 rfl rfl
theorem g_78 : Jvm.Cond.fieldLink "RainWalk$Road" (7 : Nat) "RainWalk$Road" "begin" "I" ∈ G := gT1 78 rfl rfl
theorem g_79 : Jvm.Cond.fieldLink "RainWalk$Reader" (227 : Nat) "RainWalk$Road" "begin" "I" ∈ G := gT1 79 rfl rfl
theorem g_80 : Jvm.Cond.fieldLink "RainWalk$Road" (13 : Nat) "RainWalk$Road" "end" "I" ∈ G := gT1 80 rfl rfl
theorem g_81 : Jvm.Cond.fieldLink "RainWalk$Reader" (235 : Nat) "RainWalk$Road" "end" "I" ∈ G := gT1 81 rfl rfl
theorem g_82 : Jvm.Cond.fieldLink "RainWalk$Road" (19 : Nat) "RainWalk$Road" "side" "I" ∈ G := gT1 82 rfl rfl
theorem g_83 : Jvm.Cond.fieldLink "RainWalk$Reader" (232 : Nat) "RainWalk$Road" "side" "I" ∈ G := gT1 83 rfl rfl
theorem g_84 : Jvm.Cond.fieldLink "RainWalk$Leg" (18 : Nat) "RainWalk$Road" "length" "I" ∈ G := gT1 84 rfl rfl
theorem g_85 : Jvm.Cond.fieldLink "RainWalk$Road" (16 : Nat) "RainWalk$Road" "length" "I" ∈ G := gT1 85 rfl rfl
theorem g_86 : Jvm.Cond.fieldLink "RainWalk$Reader" (234 : Nat) "RainWalk$Road" "length" "I" ∈ G := gT1 86 rfl rfl
theorem g_87 : Jvm.Cond.fieldLink "RainWalk$Leg" (24 : Nat) "RainWalk$Road" "awning" "I" ∈ G := gT1 87 rfl rfl
theorem g_88 : Jvm.Cond.fieldLink "RainWalk$Road" (34 : Nat) "RainWalk$Road" "awning" "I" ∈ G := gT1 88 rfl rfl
theorem g_89 : Jvm.Cond.fieldLink "RainWalk$Reader" (238 : Nat) "RainWalk$Road" "awning" "I" ∈ G := gT1 89 rfl rfl
theorem g_90 : Jvm.Cond.lays "RainWalk$Road" "RainWalk$Road" "begin" "I" ∈ G := gT1 90 rfl rfl
theorem g_92 : Jvm.Cond.lays "RainWalk$Road" "RainWalk$Road" "end" "I" ∈ G := gT1 92 rfl rfl
theorem g_94 : Jvm.Cond.lays "RainWalk$Road" "RainWalk$Road" "side" "I" ∈ G := gT1 94 rfl rfl
theorem g_96 : Jvm.Cond.lays "RainWalk$Road" "RainWalk$Road" "length" "I" ∈ G := gT1 96 rfl rfl
theorem g_98 : Jvm.Cond.lays "RainWalk$Road" "RainWalk$Road" "awning" "I" ∈ G := gT1 98 rfl rfl
theorem g_101 : Jvm.Cond.instantiable "RainWalk$Walker" (7 : Nat) ∈ G := gT1 101 rfl rfl
theorem g_103 : Jvm.Cond.instanceMethod ({ cls := "RainWalk$Walker", name := "<init>", desc := "()V" } : Jvm.MethodName) ∈ G := gT1 103 rfl rfl
theorem g_104 : Jvm.Cond.code ({ cls := "RainWalk$Walker", name := "<init>", desc := "()V" } : Jvm.MethodName) prog_8_method_1_code (1 : Nat) (Option.none : Option Jvm.ClassFile.FieldType) ∈ G := gT1 104 rfl rfl
theorem g_105 : Jvm.Cond.methodLink "RainWalk$Walker" (3 : Nat) ({ cls := "java/lang/Object", name := "<init>", desc := "()V" } : Jvm.MethodName) ∈ G := gT1 105 rfl rfl
theorem g_106 : Jvm.Cond.fieldLink "RainWalk$Walker" (9 : Nat) "RainWalk$Walker" "kind" "I" ∈ G := gT1 106 rfl rfl
theorem g_107 : Jvm.Cond.fieldLink "RainWalk" (167 : Nat) "RainWalk$Walker" "kind" "I" ∈ G := gT1 107 rfl rfl
theorem g_108 : Jvm.Cond.fieldLink "RainWalk$Reader" (264 : Nat) "RainWalk$Walker" "kind" "I" ∈ G := gT1 108 rfl rfl
theorem g_109 : Jvm.Cond.fieldLink "RainWalk$Walker" (15 : Nat) "RainWalk$Walker" "amount" "I" ∈ G := gT1 109 rfl rfl
theorem g_110 : Jvm.Cond.fieldLink "RainWalk$Reader" (273 : Nat) "RainWalk$Walker" "amount" "I" ∈ G := gT1 110 rfl rfl
theorem g_111 : Jvm.Cond.fieldLink "RainWalk" (341 : Nat) "RainWalk$Walker" "amount" "I" ∈ G := gT1 111 rfl rfl
theorem g_112 : Jvm.Cond.fieldLink "RainWalk$Walker" (18 : Nat) "RainWalk$Walker" "top" "I" ∈ G := gT1 112 rfl rfl
theorem g_113 : Jvm.Cond.fieldLink "RainWalk$Leg" (57 : Nat) "RainWalk$Walker" "top" "I" ∈ G := gT1 113 rfl rfl
theorem g_114 : Jvm.Cond.fieldLink "RainWalk$World" (68 : Nat) "RainWalk$Walker" "top" "I" ∈ G := gT1 114 rfl rfl
theorem g_115 : Jvm.Cond.fieldLink "RainWalk$Walker" (21 : Nat) "RainWalk$Walker" "front" "I" ∈ G := gT1 115 rfl rfl
theorem g_116 : Jvm.Cond.fieldLink "RainWalk$Leg" (63 : Nat) "RainWalk$Walker" "front" "I" ∈ G := gT1 116 rfl rfl
theorem g_117 : Jvm.Cond.fieldLink "RainWalk$Walker" (24 : Nat) "RainWalk$Walker" "side" "I" ∈ G := gT1 117 rfl rfl
theorem g_118 : Jvm.Cond.fieldLink "RainWalk$Leg" (78 : Nat) "RainWalk$Walker" "side" "I" ∈ G := gT1 118 rfl rfl
theorem g_119 : Jvm.Cond.fieldLink "RainWalk$Walker" (27 : Nat) "RainWalk$Walker" "slowest" "I" ∈ G := gT1 119 rfl rfl
theorem g_120 : Jvm.Cond.fieldLink "RainWalk$Ways" (102 : Nat) "RainWalk$Walker" "slowest" "I" ∈ G := gT1 120 rfl rfl
theorem g_121 : Jvm.Cond.fieldLink "RainWalk$Leg" (81 : Nat) "RainWalk$Walker" "slowest" "I" ∈ G := gT1 121 rfl rfl
theorem g_122 : Jvm.Cond.fieldLink "RainWalk" (186 : Nat) "RainWalk$Walker" "slowest" "I" ∈ G := gT1 122 rfl rfl
theorem g_123 : Jvm.Cond.fieldLink "RainWalk$Reader" (252 : Nat) "RainWalk$Walker" "slowest" "I" ∈ G := gT1 123 rfl rfl
theorem g_124 : Jvm.Cond.fieldLink "RainWalk$Walker" (30 : Nat) "RainWalk$Walker" "fastest" "I" ∈ G := gT1 124 rfl rfl
theorem g_125 : Jvm.Cond.fieldLink "RainWalk$Ways" (107 : Nat) "RainWalk$Walker" "fastest" "I" ∈ G := gT1 125 rfl rfl
theorem g_126 : Jvm.Cond.fieldLink "RainWalk$Leg" (86 : Nat) "RainWalk$Walker" "fastest" "I" ∈ G := gT1 126 rfl rfl
theorem g_127 : Jvm.Cond.fieldLink "RainWalk$Reader" (259 : Nat) "RainWalk$Walker" "fastest" "I" ∈ G := gT1 127 rfl rfl
theorem g_128 : Jvm.Cond.lays "RainWalk$Walker" "RainWalk$Walker" "kind" "I" ∈ G := gT1 128 rfl rfl
theorem g_130 : Jvm.Cond.lays "RainWalk$Walker" "RainWalk$Walker" "amount" "I" ∈ G := gT1 130 rfl rfl
theorem g_132 : Jvm.Cond.lays "RainWalk$Walker" "RainWalk$Walker" "top" "I" ∈ G := gT1 132 rfl rfl
theorem g_134 : Jvm.Cond.lays "RainWalk$Walker" "RainWalk$Walker" "front" "I" ∈ G := gT1 134 rfl rfl
theorem g_136 : Jvm.Cond.lays "RainWalk$Walker" "RainWalk$Walker" "side" "I" ∈ G := gT1 136 rfl rfl
theorem g_138 : Jvm.Cond.lays "RainWalk$Walker" "RainWalk$Walker" "slowest" "I" ∈ G := gT1 138 rfl rfl
theorem g_140 : Jvm.Cond.lays "RainWalk$Walker" "RainWalk$Walker" "fastest" "I" ∈ G := gT1 140 rfl rfl
theorem g_143 : Jvm.Cond.fieldLink "RainWalk$World" (42 : Nat) "RainWalk$World" "hourMinutes" "I" ∈ G := gT1 143 rfl rfl
theorem g_144 : Jvm.Cond.fieldLink "RainWalk$Reader" (185 : Nat) "RainWalk$World" "hourMinutes" "I" ∈ G := gT1 144 rfl rfl
theorem g_145 : Jvm.Cond.fieldLink "RainWalk" (367 : Nat) "RainWalk$World" "hourMinutes" "I" ∈ G := gT1 145 rfl rfl
theorem g_146 : Jvm.Cond.fieldLink "RainWalk$World" (46 : Nat) "RainWalk$World" "hours" "I" ∈ G := gT1 146 rfl rfl
theorem g_147 : Jvm.Cond.fieldLink "RainWalk$Reader" (45 : Nat) "RainWalk$World" "hours" "I" ∈ G := gT1 147 rfl rfl
theorem g_148 : Jvm.Cond.fieldLink "RainWalk$Ways" (62 : Nat) "RainWalk$World" "hours" "I" ∈ G := gT1 148 rfl rfl
theorem g_149 : Jvm.Cond.fieldLink "RainWalk$Day" (51 : Nat) "RainWalk$World" "hours" "I" ∈ G := gT1 149 rfl rfl
theorem g_150 : Jvm.Cond.fieldLink "RainWalk$Leg" (112 : Nat) "RainWalk$World" "hours" "I" ∈ G := gT1 150 rfl rfl
theorem g_151 : Jvm.Cond.fieldLink "RainWalk" (196 : Nat) "RainWalk$World" "hours" "I" ∈ G := gT1 151 rfl rfl
theorem g_152 : Jvm.Cond.fieldLink "RainWalk$World" (49 : Nat) "RainWalk$World" "places" "I" ∈ G := gT1 152 rfl rfl
theorem g_153 : Jvm.Cond.fieldLink "RainWalk$Reader" (58 : Nat) "RainWalk$World" "places" "I" ∈ G := gT1 153 rfl rfl
theorem g_154 : Jvm.Cond.fieldLink "RainWalk$Ways" (75 : Nat) "RainWalk$World" "places" "I" ∈ G := gT1 154 rfl rfl
theorem g_155 : Jvm.Cond.fieldLink "RainWalk" (370 : Nat) "RainWalk$World" "places" "I" ∈ G := gT1 155 rfl rfl
theorem g_156 : Jvm.Cond.fieldLink "RainWalk$World" (52 : Nat) "RainWalk$World" "roads" "I" ∈ G := gT1 156 rfl rfl
theorem g_157 : Jvm.Cond.fieldLink "RainWalk$Reader" (66 : Nat) "RainWalk$World" "roads" "I" ∈ G := gT1 157 rfl rfl
theorem g_158 : Jvm.Cond.fieldLink "RainWalk$Ways" (95 : Nat) "RainWalk$World" "roads" "I" ∈ G := gT1 158 rfl rfl
theorem g_159 : Jvm.Cond.fieldLink "RainWalk$Leg" (107 : Nat) "RainWalk$World" "roads" "I" ∈ G := gT1 159 rfl rfl
theorem g_160 : Jvm.Cond.fieldLink "RainWalk" (358 : Nat) "RainWalk$World" "roads" "I" ∈ G := gT1 160 rfl rfl
theorem g_161 : Jvm.Cond.fieldLink "RainWalk$World" (55 : Nat) "RainWalk$World" "walkers" "I" ∈ G := gT1 161 rfl rfl
theorem g_162 : Jvm.Cond.fieldLink "RainWalk$Reader" (74 : Nat) "RainWalk$World" "walkers" "I" ∈ G := gT1 162 rfl rfl
theorem g_163 : Jvm.Cond.fieldLink "RainWalk" (86 : Nat) "RainWalk$World" "walkers" "I" ∈ G := gT1 163 rfl rfl
theorem g_164 : Jvm.Cond.fieldLink "RainWalk$World" (58 : Nat) "RainWalk$World" "seens" "I" ∈ G := gT1 164 rfl rfl
theorem g_165 : Jvm.Cond.fieldLink "RainWalk$Reader" (82 : Nat) "RainWalk$World" "seens" "I" ∈ G := gT1 165 rfl rfl
theorem g_166 : Jvm.Cond.fieldLink "RainWalk" (264 : Nat) "RainWalk$World" "seens" "I" ∈ G := gT1 166 rfl rfl
theorem g_167 : Jvm.Cond.fieldLink "RainWalk$World" (11 : Nat) "RainWalk$World" "rain" "[LRainWalk$Rain;" ∈ G := gT1 167 rfl rfl
theorem g_168 : Jvm.Cond.fieldLink "RainWalk$Day" (57 : Nat) "RainWalk$World" "rain" "[LRainWalk$Rain;" ∈ G := gT1 168 rfl rfl
theorem g_169 : Jvm.Cond.fieldLink "RainWalk$Ways" (110 : Nat) "RainWalk$World" "rain" "[LRainWalk$Rain;" ∈ G := gT1 169 rfl rfl
theorem g_170 : Jvm.Cond.fieldLink "RainWalk" (116 : Nat) "RainWalk$World" "rain" "[LRainWalk$Rain;" ∈ G := gT1 170 rfl rfl
theorem g_171 : Jvm.Cond.fieldLink "RainWalk$Leg" (140 : Nat) "RainWalk$World" "rain" "[LRainWalk$Rain;" ∈ G := gT1 171 rfl rfl
theorem g_172 : Jvm.Cond.fieldLink "RainWalk$Reader" (188 : Nat) "RainWalk$World" "rain" "[LRainWalk$Rain;" ∈ G := gT1 172 rfl rfl
theorem g_173 : Jvm.Cond.fieldLink "RainWalk$World" (17 : Nat) "RainWalk$World" "drip" "[I" ∈ G := gT1 173 rfl rfl
theorem g_174 : Jvm.Cond.fieldLink "RainWalk$Reader" (218 : Nat) "RainWalk$World" "drip" "[I" ∈ G := gT1 174 rfl rfl
theorem g_175 : Jvm.Cond.fieldLink "RainWalk$World" (23 : Nat) "RainWalk$World" "road" "[LRainWalk$Road;" ∈ G := gT1 175 rfl rfl
theorem g_176 : Jvm.Cond.fieldLink "RainWalk$Ways" (98 : Nat) "RainWalk$World" "road" "[LRainWalk$Road;" ∈ G := gT1 176 rfl rfl
theorem g_177 : Jvm.Cond.fieldLink "RainWalk" (112 : Nat) "RainWalk$World" "road" "[LRainWalk$Road;" ∈ G := gT1 177 rfl rfl
theorem g_178 : Jvm.Cond.fieldLink "RainWalk$Leg" (136 : Nat) "RainWalk$World" "road" "[LRainWalk$Road;" ∈ G := gT1 178 rfl rfl
theorem g_179 : Jvm.Cond.fieldLink "RainWalk$Reader" (221 : Nat) "RainWalk$World" "road" "[LRainWalk$Road;" ∈ G := gT1 179 rfl rfl
theorem g_180 : Jvm.Cond.fieldLink "RainWalk$World" (29 : Nat) "RainWalk$World" "walker" "[LRainWalk$Walker;" ∈ G := gT1 180 rfl rfl
theorem g_181 : Jvm.Cond.fieldLink "RainWalk$Ways" (89 : Nat) "RainWalk$World" "walker" "[LRainWalk$Walker;" ∈ G := gT1 181 rfl rfl
theorem g_182 : Jvm.Cond.fieldLink "RainWalk" (108 : Nat) "RainWalk$World" "walker" "[LRainWalk$Walker;" ∈ G := gT1 182 rfl rfl
theorem g_183 : Jvm.Cond.fieldLink "RainWalk$Leg" (129 : Nat) "RainWalk$World" "walker" "[LRainWalk$Walker;" ∈ G := gT1 183 rfl rfl
theorem g_184 : Jvm.Cond.fieldLink "RainWalk$Reader" (240 : Nat) "RainWalk$World" "walker" "[LRainWalk$Walker;" ∈ G := gT1 184 rfl rfl
theorem g_185 : Jvm.Cond.fieldLink "RainWalk$World" (33 : Nat) "RainWalk$World" "seenWalker" "[I" ∈ G := gT1 185 rfl rfl
theorem g_186 : Jvm.Cond.fieldLink "RainWalk$Leg" (119 : Nat) "RainWalk$World" "seenWalker" "[I" ∈ G := gT1 186 rfl rfl
theorem g_187 : Jvm.Cond.fieldLink "RainWalk$Reader" (289 : Nat) "RainWalk$World" "seenWalker" "[I" ∈ G := gT1 187 rfl rfl
theorem g_188 : Jvm.Cond.fieldLink "RainWalk$World" (36 : Nat) "RainWalk$World" "seenFaces" "[I" ∈ G := gT1 188 rfl rfl
theorem g_189 : Jvm.Cond.fieldLink "RainWalk$Leg" (144 : Nat) "RainWalk$World" "seenFaces" "[I" ∈ G := gT1 189 rfl rfl
theorem g_190 : Jvm.Cond.fieldLink "RainWalk$Reader" (292 : Nat) "RainWalk$World" "seenFaces" "[I" ∈ G := gT1 190 rfl rfl
theorem g_191 : Jvm.Cond.lays "RainWalk$World" "RainWalk$World" "hourMinutes" "I" ∈ G := gT1 191 rfl rfl
theorem g_193 : Jvm.Cond.lays "RainWalk$World" "RainWalk$World" "hours" "I" ∈ G := gT1 193 rfl rfl
theorem g_195 : Jvm.Cond.lays "RainWalk$World" "RainWalk$World" "places" "I" ∈ G := gT1 195 rfl rfl
theorem g_197 : Jvm.Cond.lays "RainWalk$World" "RainWalk$World" "roads" "I" ∈ G := gT1 197 rfl rfl
theorem g_199 : Jvm.Cond.lays "RainWalk$World" "RainWalk$World" "walkers" "I" ∈ G := gT1 199 rfl rfl
theorem g_201 : Jvm.Cond.lays "RainWalk$World" "RainWalk$World" "seens" "I" ∈ G := gT1 201 rfl rfl
theorem g_203 : Jvm.Cond.laysFinal "RainWalk$World" "RainWalk$World" "rain" "[LRainWalk$Rain;" ∈ G := gT1 203 rfl rfl
theorem g_205 : Jvm.Cond.laysFinal "RainWalk$World" "RainWalk$World" "drip" "[I" ∈ G := gT1 205 rfl rfl
theorem g_207 : Jvm.Cond.laysFinal "RainWalk$World" "RainWalk$World" "road" "[LRainWalk$Road;" ∈ G := gT1 207 rfl rfl
theorem g_209 : Jvm.Cond.laysFinal "RainWalk$World" "RainWalk$World" "walker" "[LRainWalk$Walker;" ∈ G := gT1 209 rfl rfl
theorem g_211 : Jvm.Cond.laysFinal "RainWalk$World" "RainWalk$World" "seenWalker" "[I" ∈ G := gT1 211 rfl rfl
theorem g_213 : Jvm.Cond.laysFinal "RainWalk$World" "RainWalk$World" "seenFaces" "[I" ∈ G := gT1 213 rfl rfl
theorem g_216 : Jvm.Cond.classLink "RainWalk" (20 : Nat) "RainWalk$Reader" ∈ G := gT1 216 rfl rfl
theorem g_217 : Jvm.Cond.instantiable "RainWalk$Reader" (13 : Nat) ∈ G := gT1 217 rfl rfl
theorem g_219 : Jvm.Cond.instanceMethod ({ cls := "RainWalk$Reader", name := "<init>", desc := "()V" } : Jvm.MethodName) ∈ G := gT1 219 rfl rfl
theorem g_220 : Jvm.Cond.code ({ cls := "RainWalk$Reader", name := "<init>", desc := "()V" } : Jvm.MethodName) prog_6_method_1_code (1 : Nat) (Option.none : Option Jvm.ClassFile.FieldType) ∈ G := gT1 220 rfl rfl
theorem g_221 : Jvm.Cond.methodLink "RainWalk$Reader" (3 : Nat) ({ cls := "java/lang/Object", name := "<init>", desc := "()V" } : Jvm.MethodName) ∈ G := gT1 221 rfl rfl
theorem g_222 : Jvm.Cond.classLink "RainWalk$Reader" (15 : Nat) "RainWalk$World" ∈ G := gT1 222 rfl rfl
theorem g_223 : Jvm.Cond.methodLink "RainWalk$Reader" (17 : Nat) ({ cls := "RainWalk$World", name := "<init>", desc := "()V" } : Jvm.MethodName) ∈ G := gT1 223 rfl rfl
theorem g_224 : Jvm.Cond.fieldLink "RainWalk$Reader" (110 : Nat) "RainWalk$Reader" "fault" "I" ∈ G := gT1 224 rfl rfl
theorem g_225 : Jvm.Cond.fieldLink "RainWalk" (64 : Nat) "RainWalk$Reader" "fault" "I" ∈ G := gT1 225 rfl rfl
theorem g_226 : Jvm.Cond.fieldLink "RainWalk$Reader" (113 : Nat) "RainWalk$Reader" "faultAt" "I" ∈ G := gT1 226 rfl rfl
theorem g_227 : Jvm.Cond.fieldLink "RainWalk" (70 : Nat) "RainWalk$Reader" "faultAt" "I" ∈ G := gT1 227 rfl rfl
theorem g_228 : Jvm.Cond.fieldLink "RainWalk$Reader" (9 : Nat) "RainWalk$Reader" "text" "[B" ∈ G := gT1 228 rfl rfl
theorem g_229 : Jvm.Cond.fieldLink "RainWalk$Reader" (104 : Nat) "RainWalk$Reader" "length" "I" ∈ G := gT1 229 rfl rfl
theorem g_230 : Jvm.Cond.fieldLink "RainWalk$Reader" (107 : Nat) "RainWalk$Reader" "at" "I" ∈ G := gT1 230 rfl rfl
theorem g_231 : Jvm.Cond.fieldLink "RainWalk$Reader" (18 : Nat) "RainWalk$Reader" "world" "LRainWalk$World;" ∈ G := gT1 231 rfl rfl
theorem g_232 : Jvm.Cond.fieldLink "RainWalk$Reader" (92 : Nat) "RainWalk$Reader" "sort" "I" ∈ G := gT1 232 rfl rfl
theorem g_233 : Jvm.Cond.fieldLink "RainWalk$Reader" (125 : Nat) "RainWalk$Reader" "start" "I" ∈ G := gT1 233 rfl rfl
theorem g_234 : Jvm.Cond.fieldLink "RainWalk$Reader" (132 : Nat) "RainWalk$Reader" "token" "J" ∈ G := gT1 234 rfl rfl
theorem g_235 : Jvm.Cond.fieldLink "RainWalk$Reader" (147 : Nat) "RainWalk$Reader" "value" "I" ∈ G := gT1 235 rfl rfl
theorem g_236 : Jvm.Cond.fieldLink "RainWalk$Reader" (116 : Nat) "RainWalk$Reader" "names" "I" ∈ G := gT1 236 rfl rfl
theorem g_237 : Jvm.Cond.fieldLink "RainWalk$Reader" (22 : Nat) "RainWalk$Reader" "name" "[J" ∈ G := gT1 237 rfl rfl
theorem g_238 : Jvm.Cond.fieldLink "RainWalk$Reader" (26 : Nat) "RainWalk$Reader" "named" "[I" ∈ G := gT1 238 rfl rfl
theorem g_239 : Jvm.Cond.lays "RainWalk$Reader" "RainWalk$Reader" "fault" "I" ∈ G := gT1 239 rfl rfl
theorem g_241 : Jvm.Cond.lays "RainWalk$Reader" "RainWalk$Reader" "faultAt" "I" ∈ G := gT2 1 rfl rfl
theorem g_243 : Jvm.Cond.lays "RainWalk$Reader" "RainWalk$Reader" "text" "[B" ∈ G := gT2 3 rfl rfl
theorem g_245 : Jvm.Cond.lays "RainWalk$Reader" "RainWalk$Reader" "length" "I" ∈ G := gT2 5 rfl rfl
theorem g_247 : Jvm.Cond.lays "RainWalk$Reader" "RainWalk$Reader" "at" "I" ∈ G := gT2 7 rfl rfl
theorem g_249 : Jvm.Cond.lays "RainWalk$Reader" "RainWalk$Reader" "world" "LRainWalk$World;" ∈ G := gT2 9 rfl rfl
theorem g_251 : Jvm.Cond.lays "RainWalk$Reader" "RainWalk$Reader" "sort" "I" ∈ G := gT2 11 rfl rfl
theorem g_253 : Jvm.Cond.lays "RainWalk$Reader" "RainWalk$Reader" "start" "I" ∈ G := gT2 13 rfl rfl
theorem g_255 : Jvm.Cond.lays "RainWalk$Reader" "RainWalk$Reader" "token" "J" ∈ G := gT2 15 rfl rfl
theorem g_257 : Jvm.Cond.lays "RainWalk$Reader" "RainWalk$Reader" "value" "I" ∈ G := gT2 17 rfl rfl
theorem g_259 : Jvm.Cond.lays "RainWalk$Reader" "RainWalk$Reader" "names" "I" ∈ G := gT2 19 rfl rfl
theorem g_261 : Jvm.Cond.laysFinal "RainWalk$Reader" "RainWalk$Reader" "name" "[J" ∈ G := gT2 21 rfl rfl
theorem g_263 : Jvm.Cond.laysFinal "RainWalk$Reader" "RainWalk$Reader" "named" "[I" ∈ G := gT2 23 rfl rfl
theorem g_266 : Jvm.Cond.arrayClass Jvm.ClassFile.FieldType.long ∈ G := gT2 26 rfl rfl
theorem g_267 : Jvm.Cond.classLink "RainWalk" (27 : Nat) "RainWalk$Leg" ∈ G := gT2 27 rfl rfl
theorem g_268 : Jvm.Cond.instantiable "RainWalk$Leg" (2 : Nat) ∈ G := gT2 28 rfl rfl
theorem g_270 : Jvm.Cond.instanceMethod ({ cls := "RainWalk$Leg", name := "<init>", desc := "()V" } : Jvm.MethodName) ∈ G := gT2 30 rfl rfl
theorem g_271 : Jvm.Cond.code ({ cls := "RainWalk$Leg", name := "<init>", desc := "()V" } : Jvm.MethodName) prog_3_method_1_code (1 : Nat) (Option.none : Option Jvm.ClassFile.FieldType) ∈ G := gT2 31 rfl rfl
theorem g_272 : Jvm.Cond.methodLink "RainWalk$Leg" (3 : Nat) ({ cls := "java/lang/Object", name := "<init>", desc := "()V" } : Jvm.MethodName) ∈ G := gT2 32 rfl rfl
theorem g_273 : Jvm.Cond.fieldLink "RainWalk$Leg" (9 : Nat) "RainWalk$Leg" "faces" "[J" ∈ G := gT2 33 rfl rfl
theorem g_274 : Jvm.Cond.fieldLink "RainWalk" (124 : Nat) "RainWalk$Leg" "faces" "[J" ∈ G := gT2 34 rfl rfl
theorem g_275 : Jvm.Cond.fieldLink "RainWalk$Leg" (15 : Nat) "RainWalk$Leg" "strength" "[J" ∈ G := gT2 35 rfl rfl
theorem g_276 : Jvm.Cond.laysFinal "RainWalk$Leg" "RainWalk$Leg" "faces" "[J" ∈ G := gT2 36 rfl rfl
theorem g_278 : Jvm.Cond.laysFinal "RainWalk$Leg" "RainWalk$Leg" "strength" "[J" ∈ G := gT2 38 rfl rfl
theorem g_281 : Jvm.Cond.classLink "RainWalk" (34 : Nat) "RainWalk$Ways" ∈ G := gT2 41 rfl rfl
theorem g_282 : Jvm.Cond.instantiable "RainWalk$Ways" (14 : Nat) ∈ G := gT2 42 rfl rfl
theorem g_284 : Jvm.Cond.instanceMethod ({ cls := "RainWalk$Ways", name := "<init>", desc := "()V" } : Jvm.MethodName) ∈ G := gT2 44 rfl rfl
theorem g_285 : Jvm.Cond.code ({ cls := "RainWalk$Ways", name := "<init>", desc := "()V" } : Jvm.MethodName) prog_9_method_1_code (1 : Nat) (Option.none : Option Jvm.ClassFile.FieldType) ∈ G := gT2 45 rfl rfl
theorem g_286 : Jvm.Cond.methodLink "RainWalk$Ways" (3 : Nat) ({ cls := "java/lang/Object", name := "<init>", desc := "()V" } : Jvm.MethodName) ∈ G := gT2 46 rfl rfl
theorem g_287 : Jvm.Cond.fieldLink "RainWalk$Ways" (9 : Nat) "RainWalk$Ways" "route" "[I" ∈ G := gT2 47 rfl rfl
theorem g_288 : Jvm.Cond.fieldLink "RainWalk" (228 : Nat) "RainWalk$Ways" "route" "[I" ∈ G := gT2 48 rfl rfl
theorem g_289 : Jvm.Cond.fieldLink "RainWalk$Ways" (15 : Nat) "RainWalk$Ways" "key" "[J" ∈ G := gT2 49 rfl rfl
theorem g_290 : Jvm.Cond.fieldLink "RainWalk$Ways" (19 : Nat) "RainWalk$Ways" "choice" "[I" ∈ G := gT2 50 rfl rfl
theorem g_291 : Jvm.Cond.fieldLink "RainWalk$Ways" (82 : Nat) "RainWalk$Ways" "moves" "I" ∈ G := gT2 51 rfl rfl
theorem g_292 : Jvm.Cond.fieldLink "RainWalk$Ways" (22 : Nat) "RainWalk$Ways" "moveFrom" "[I" ∈ G := gT2 52 rfl rfl
theorem g_293 : Jvm.Cond.fieldLink "RainWalk$Ways" (25 : Nat) "RainWalk$Ways" "moveTo" "[I" ∈ G := gT2 53 rfl rfl
theorem g_294 : Jvm.Cond.fieldLink "RainWalk$Ways" (28 : Nat) "RainWalk$Ways" "moveMinutes" "[I" ∈ G := gT2 54 rfl rfl
theorem g_295 : Jvm.Cond.fieldLink "RainWalk$Ways" (31 : Nat) "RainWalk$Ways" "moveCost" "[J" ∈ G := gT2 55 rfl rfl
theorem g_296 : Jvm.Cond.fieldLink "RainWalk$Ways" (34 : Nat) "RainWalk$Ways" "moveCode" "[I" ∈ G := gT2 56 rfl rfl
theorem g_297 : Jvm.Cond.fieldLink "RainWalk$Ways" (37 : Nat) "RainWalk$Ways" "pricedHour" "I" ∈ G := gT2 57 rfl rfl
theorem g_298 : Jvm.Cond.fieldLink "RainWalk$Ways" (41 : Nat) "RainWalk$Ways" "walker" "I" ∈ G := gT2 58 rfl rfl
theorem g_299 : Jvm.Cond.fieldLink "RainWalk$Ways" (44 : Nat) "RainWalk$Ways" "goal" "I" ∈ G := gT2 59 rfl rfl
theorem g_300 : Jvm.Cond.fieldLink "RainWalk$Ways" (47 : Nat) "RainWalk$Ways" "till" "I" ∈ G := gT2 60 rfl rfl
theorem g_301 : Jvm.Cond.fieldLink "RainWalk$Ways" (53 : Nat) "RainWalk$Ways" "reckoned" "I" ∈ G := gT2 61 rfl rfl
theorem g_302 : Jvm.Cond.lays "RainWalk$Ways" "RainWalk$Ways" "route" "[I" ∈ G := gT2 62 rfl rfl
theorem g_304 : Jvm.Cond.lays "RainWalk$Ways" "RainWalk$Ways" "key" "[J" ∈ G := gT2 64 rfl rfl
theorem g_306 : Jvm.Cond.lays "RainWalk$Ways" "RainWalk$Ways" "choice" "[I" ∈ G := gT2 66 rfl rfl
theorem g_308 : Jvm.Cond.lays "RainWalk$Ways" "RainWalk$Ways" "moves" "I" ∈ G := gT2 68 rfl rfl
theorem g_310 : Jvm.Cond.lays "RainWalk$Ways" "RainWalk$Ways" "moveFrom" "[I" ∈ G := gT2 70 rfl rfl
theorem g_312 : Jvm.Cond.lays "RainWalk$Ways" "RainWalk$Ways" "moveTo" "[I" ∈ G := gT2 72 rfl rfl
theorem g_314 : Jvm.Cond.lays "RainWalk$Ways" "RainWalk$Ways" "moveMinutes" "[I" ∈ G := gT2 74 rfl rfl
theorem g_316 : Jvm.Cond.lays "RainWalk$Ways" "RainWalk$Ways" "moveCost" "[J" ∈ G := gT2 76 rfl rfl
theorem g_318 : Jvm.Cond.lays "RainWalk$Ways" "RainWalk$Ways" "moveCode" "[I" ∈ G := gT2 78 rfl rfl
theorem g_320 : Jvm.Cond.lays "RainWalk$Ways" "RainWalk$Ways" "pricedHour" "I" ∈ G := gT2 80 rfl rfl
theorem g_322 : Jvm.Cond.lays "RainWalk$Ways" "RainWalk$Ways" "walker" "I" ∈ G := gT2 82 rfl rfl
theorem g_324 : Jvm.Cond.lays "RainWalk$Ways" "RainWalk$Ways" "goal" "I" ∈ G := gT2 84 rfl rfl
theorem g_326 : Jvm.Cond.lays "RainWalk$Ways" "RainWalk$Ways" "till" "I" ∈ G := gT2 86 rfl rfl
theorem g_328 : Jvm.Cond.lays "RainWalk$Ways" "RainWalk$Ways" "reckoned" "I" ∈ G := gT2 88 rfl rfl
theorem g_331 : Jvm.Cond.classLink "RainWalk" (41 : Nat) "RainWalk$Day" ∈ G := gT2 91 rfl rfl
theorem g_332 : Jvm.Cond.instantiable "RainWalk$Day" (7 : Nat) ∈ G := gT2 92 rfl rfl
theorem g_333 : Jvm.Cond.methodLink "RainWalk" (43 : Nat) ({ cls := "RainWalk$Day", name := "<init>", desc := "()V" } : Jvm.MethodName) ∈ G := gT2 93 rfl rfl
theorem g_334 : Jvm.Cond.instanceMethod ({ cls := "RainWalk$Day", name := "<init>", desc := "()V" } : Jvm.MethodName) ∈ G := gT2 94 rfl rfl
theorem g_335 : Jvm.Cond.code ({ cls := "RainWalk$Day", name := "<init>", desc := "()V" } : Jvm.MethodName) prog_2_method_1_code (2 : Nat) (Option.none : Option Jvm.ClassFile.FieldType) ∈ G := gT2 95 rfl rfl
theorem g_336 : Jvm.Cond.methodLink "RainWalk$Day" (3 : Nat) ({ cls := "java/lang/Object", name := "<init>", desc := "()V" } : Jvm.MethodName) ∈ G := gT2 96 rfl rfl
theorem g_337 : Jvm.Cond.classLink "RainWalk$Day" (15 : Nat) "RainWalk$Moment" ∈ G := gT2 97 rfl rfl
theorem g_338 : Jvm.Cond.instantiable "RainWalk$Moment" (3 : Nat) ∈ G := gT2 98 rfl rfl
theorem g_340 : Jvm.Cond.instanceMethod ({ cls := "RainWalk$Moment", name := "<init>", desc := "()V" } : Jvm.MethodName) ∈ G := gT2 100 rfl rfl
theorem g_341 : Jvm.Cond.code ({ cls := "RainWalk$Moment", name := "<init>", desc := "()V" } : Jvm.MethodName) prog_4_method_1_code (1 : Nat) (Option.none : Option Jvm.ClassFile.FieldType) ∈ G := gT2 101 rfl rfl
theorem g_342 : Jvm.Cond.methodLink "RainWalk$Moment" (3 : Nat) ({ cls := "java/lang/Object", name := "<init>", desc := "()V" } : Jvm.MethodName) ∈ G := gT2 102 rfl rfl
theorem g_343 : Jvm.Cond.fieldLink "RainWalk$Moment" (15 : Nat) "RainWalk$Moment" "place" "I" ∈ G := gT2 103 rfl rfl
theorem g_344 : Jvm.Cond.fieldLink "RainWalk$Day" (38 : Nat) "RainWalk$Moment" "place" "I" ∈ G := gT2 104 rfl rfl
theorem g_345 : Jvm.Cond.fieldLink "RainWalk" (291 : Nat) "RainWalk$Moment" "place" "I" ∈ G := gT2 105 rfl rfl
theorem g_346 : Jvm.Cond.fieldLink "RainWalk$Moment" (19 : Nat) "RainWalk$Moment" "minute" "I" ∈ G := gT2 106 rfl rfl
theorem g_347 : Jvm.Cond.fieldLink "RainWalk$Day" (41 : Nat) "RainWalk$Moment" "minute" "I" ∈ G := gT2 107 rfl rfl
theorem g_348 : Jvm.Cond.fieldLink "RainWalk" (296 : Nat) "RainWalk$Moment" "minute" "I" ∈ G := gT2 108 rfl rfl
theorem g_349 : Jvm.Cond.fieldLink "RainWalk$Moment" (9 : Nat) "RainWalk$Moment" "got" "[J" ∈ G := gT2 109 rfl rfl
theorem g_350 : Jvm.Cond.fieldLink "RainWalk$Day" (44 : Nat) "RainWalk$Moment" "got" "[J" ∈ G := gT2 110 rfl rfl
theorem g_351 : Jvm.Cond.fieldLink "RainWalk" (322 : Nat) "RainWalk$Moment" "got" "[J" ∈ G := gT2 111 rfl rfl
theorem g_352 : Jvm.Cond.lays "RainWalk$Moment" "RainWalk$Moment" "place" "I" ∈ G := gT2 112 rfl rfl
theorem g_354 : Jvm.Cond.lays "RainWalk$Moment" "RainWalk$Moment" "minute" "I" ∈ G := gT2 114 rfl rfl
theorem g_356 : Jvm.Cond.laysFinal "RainWalk$Moment" "RainWalk$Moment" "got" "[J" ∈ G := gT2 116 rfl rfl
theorem g_360 : Jvm.Cond.fieldLink "RainWalk$Day" (9 : Nat) "RainWalk$Day" "walker" "I" ∈ G := gT2 120 rfl rfl
theorem g_361 : Jvm.Cond.fieldLink "RainWalk" (282 : Nat) "RainWalk$Day" "walker" "I" ∈ G := gT2 121 rfl rfl
theorem g_362 : Jvm.Cond.fieldLink "RainWalk$Day" (48 : Nat) "RainWalk$Day" "rainBits" "I" ∈ G := gT2 122 rfl rfl
theorem g_363 : Jvm.Cond.fieldLink "RainWalk" (276 : Nat) "RainWalk$Day" "rainBits" "I" ∈ G := gT2 123 rfl rfl
theorem g_364 : Jvm.Cond.fieldLink "RainWalk$Day" (29 : Nat) "RainWalk$Day" "undoable" "I" ∈ G := gT2 124 rfl rfl
theorem g_365 : Jvm.Cond.fieldLink "RainWalk" (373 : Nat) "RainWalk$Day" "undoable" "I" ∈ G := gT2 125 rfl rfl
theorem g_366 : Jvm.Cond.fieldLink "RainWalk$Day" (32 : Nat) "RainWalk$Day" "marked" "I" ∈ G := gT2 126 rfl rfl
theorem g_367 : Jvm.Cond.fieldLink "RainWalk" (376 : Nat) "RainWalk$Day" "marked" "I" ∈ G := gT2 127 rfl rfl
theorem g_368 : Jvm.Cond.fieldLink "RainWalk$Day" (18 : Nat) "RainWalk$Day" "now" "LRainWalk$Moment;" ∈ G := gT2 128 rfl rfl
theorem g_369 : Jvm.Cond.fieldLink "RainWalk" (287 : Nat) "RainWalk$Day" "now" "LRainWalk$Moment;" ∈ G := gT2 129 rfl rfl
theorem g_370 : Jvm.Cond.fieldLink "RainWalk$Day" (22 : Nat) "RainWalk$Day" "past" "[LRainWalk$Moment;" ∈ G := gT2 130 rfl rfl
theorem g_371 : Jvm.Cond.fieldLink "RainWalk$Day" (26 : Nat) "RainWalk$Day" "marks" "[LRainWalk$Moment;" ∈ G := gT2 131 rfl rfl
theorem g_372 : Jvm.Cond.lays "RainWalk$Day" "RainWalk$Day" "walker" "I" ∈ G := gT2 132 rfl rfl
theorem g_374 : Jvm.Cond.lays "RainWalk$Day" "RainWalk$Day" "rainBits" "I" ∈ G := gT2 134 rfl rfl
theorem g_376 : Jvm.Cond.lays "RainWalk$Day" "RainWalk$Day" "undoable" "I" ∈ G := gT2 136 rfl rfl
theorem g_378 : Jvm.Cond.lays "RainWalk$Day" "RainWalk$Day" "marked" "I" ∈ G := gT2 138 rfl rfl
theorem g_380 : Jvm.Cond.laysFinal "RainWalk$Day" "RainWalk$Day" "now" "LRainWalk$Moment;" ∈ G := gT2 140 rfl rfl
theorem g_382 : Jvm.Cond.laysFinal "RainWalk$Day" "RainWalk$Day" "past" "[LRainWalk$Moment;" ∈ G := gT2 142 rfl rfl
theorem g_384 : Jvm.Cond.laysFinal "RainWalk$Day" "RainWalk$Day" "marks" "[LRainWalk$Moment;" ∈ G := gT2 144 rfl rfl
theorem g_387 : Jvm.Cond.fieldLink "RainWalk" (9 : Nat) "RainWalk" "tape" "[B" ∈ G := gT2 147 rfl rfl
theorem g_388 : Jvm.Cond.fieldLink "RainWalk" (48 : Nat) "RainWalk" "taped" "I" ∈ G := gT2 148 rfl rfl
theorem g_389 : Jvm.Cond.fieldLink "RainWalk" (16 : Nat) "RainWalk" "told" "LRainWalk$World;" ∈ G := gT2 149 rfl rfl
theorem g_390 : Jvm.Cond.fieldLink "RainWalk" (23 : Nat) "RainWalk" "reader" "LRainWalk$Reader;" ∈ G := gT2 150 rfl rfl
theorem g_391 : Jvm.Cond.fieldLink "RainWalk" (30 : Nat) "RainWalk" "leg" "LRainWalk$Leg;" ∈ G := gT2 151 rfl rfl
theorem g_392 : Jvm.Cond.fieldLink "RainWalk" (37 : Nat) "RainWalk" "ways" "LRainWalk$Ways;" ∈ G := gT2 152 rfl rfl
theorem g_393 : Jvm.Cond.fieldLink "RainWalk" (44 : Nat) "RainWalk" "today" "LRainWalk$Day;" ∈ G := gT2 153 rfl rfl
theorem g_394 : Jvm.Cond.fieldLink "RainWalk" (67 : Nat) "RainWalk" "faultNumber" "I" ∈ G := gT2 154 rfl rfl
theorem g_395 : Jvm.Cond.fieldLink "RainWalk" (73 : Nat) "RainWalk" "faultPlace" "I" ∈ G := gT2 155 rfl rfl
theorem g_396 : Jvm.Cond.fieldLink "RainWalk" (92 : Nat) "RainWalk" "refusal" "I" ∈ G := gT2 156 rfl rfl
theorem g_397 : Jvm.Cond.laysFinal "RainWalk" "RainWalk" "tape" "[B" ∈ G := gT2 157 rfl rfl
theorem g_399 : Jvm.Cond.lays "RainWalk" "RainWalk" "taped" "I" ∈ G := gT2 159 rfl rfl
theorem g_401 : Jvm.Cond.lays "RainWalk" "RainWalk" "told" "LRainWalk$World;" ∈ G := gT2 161 rfl rfl
theorem g_403 : Jvm.Cond.laysFinal "RainWalk" "RainWalk" "reader" "LRainWalk$Reader;" ∈ G := gT2 163 rfl rfl
theorem g_405 : Jvm.Cond.laysFinal "RainWalk" "RainWalk" "leg" "LRainWalk$Leg;" ∈ G := gT2 165 rfl rfl
theorem g_407 : Jvm.Cond.laysFinal "RainWalk" "RainWalk" "ways" "LRainWalk$Ways;" ∈ G := gT2 167 rfl rfl
theorem g_409 : Jvm.Cond.laysFinal "RainWalk" "RainWalk" "today" "LRainWalk$Day;" ∈ G := gT2 169 rfl rfl
theorem g_411 : Jvm.Cond.lays "RainWalk" "RainWalk" "faultNumber" "I" ∈ G := gT2 171 rfl rfl
theorem g_413 : Jvm.Cond.lays "RainWalk" "RainWalk" "faultPlace" "I" ∈ G := gT2 173 rfl rfl
theorem g_415 : Jvm.Cond.lays "RainWalk" "RainWalk" "refusal" "I" ∈ G := gT2 175 rfl rfl
theorem g_418 : Jvm.Cond.methodLink "RainWalkLaw" (19 : Nat) ({ cls := "RainWalk", name := "feed", desc := "(IIIII)I" } : Jvm.MethodName) ∈ G := gT2 178 rfl rfl
theorem g_419 : Jvm.Cond.instanceMethod ({ cls := "RainWalk", name := "feed", desc := "(IIIII)I" } : Jvm.MethodName) ∈ G := gT2 179 rfl rfl
theorem g_420 : Jvm.Cond.selects "RainWalk" ({ cls := "RainWalk", name := "feed", desc := "(IIIII)I" } : Jvm.MethodName) ({ cls := "RainWalk", name := "feed", desc := "(IIIII)I" } : Jvm.MethodName) ∈ G := gT2 180 rfl rfl
theorem g_421 : Jvm.Cond.code ({ cls := "RainWalk", name := "feed", desc := "(IIIII)I" } : Jvm.MethodName) prog_1_method_2_code (6 : Nat) (Option.some Jvm.ClassFile.FieldType.int) ∈ G := gT2 181 rfl rfl
theorem g_422 : Jvm.Cond.methodLink "RainWalk" (52 : Nat) ({ cls := "RainWalk", name := "putBytes", desc := "(I)V" } : Jvm.MethodName) ∈ G := gT2 182 rfl rfl
theorem g_424 : Jvm.Cond.instanceMethod ({ cls := "RainWalk", name := "putBytes", desc := "(I)V" } : Jvm.MethodName) ∈ G := gT2 184 rfl rfl
theorem g_425 : Jvm.Cond.code ({ cls := "RainWalk", name := "putBytes", desc := "(I)V" } : Jvm.MethodName) prog_1_method_3_code (3 : Nat) (Option.none : Option Jvm.ClassFile.FieldType) ∈ G := gT2 185 rfl rfl
theorem g_426 : Jvm.Cond.methodLink "RainWalkLaw" (24 : Nat) ({ cls := "RainWalk", name := "world", desc := "(I)I" } : Jvm.MethodName) ∈ G := gT2 186 rfl rfl
theorem g_427 : Jvm.Cond.instanceMethod ({ cls := "RainWalk", name := "world", desc := "(I)I" } : Jvm.MethodName) ∈ G := gT2 187 rfl rfl
theorem g_428 : Jvm.Cond.selects "RainWalk" ({ cls := "RainWalk", name := "world", desc := "(I)I" } : Jvm.MethodName) ({ cls := "RainWalk", name := "world", desc := "(I)I" } : Jvm.MethodName) ∈ G := gT2 188 rfl rfl
theorem g_429 : Jvm.Cond.code ({ cls := "RainWalk", name := "world", desc := "(I)I" } : Jvm.MethodName) prog_1_method_4_code (3 : Nat) (Option.some Jvm.ClassFile.FieldType.int) ∈ G := gT2 189 rfl rfl
theorem g_430 : Jvm.Cond.methodLink "RainWalk" (56 : Nat) ({ cls := "RainWalk", name := "refuse", desc := "(I)I" } : Jvm.MethodName) ∈ G := gT2 190 rfl rfl
theorem g_432 : Jvm.Cond.instanceMethod ({ cls := "RainWalk", name := "refuse", desc := "(I)I" } : Jvm.MethodName) ∈ G := gT2 192 rfl rfl
theorem g_433 : Jvm.Cond.code ({ cls := "RainWalk", name := "refuse", desc := "(I)I" } : Jvm.MethodName) prog_1_method_7_code (2 : Nat) (Option.some Jvm.ClassFile.FieldType.int) ∈ G := gT2 193 rfl rfl
theorem g_434 : Jvm.Cond.methodLink "RainWalk" (60 : Nat) ({ cls := "RainWalk$Reader", name := "read", desc := "([BI)Z" } : Jvm.MethodName) ∈ G := gT2 194 rfl rfl
theorem g_435 : Jvm.Cond.instanceMethod ({ cls := "RainWalk$Reader", name := "read", desc := "([BI)Z" } : Jvm.MethodName) ∈ G := gT2 195 rfl rfl
theorem g_436 : Jvm.Cond.selects "RainWalk$Reader" ({ cls := "RainWalk$Reader", name := "read", desc := "([BI)Z" } : Jvm.MethodName) ({ cls := "RainWalk$Reader", name := "read", desc := "([BI)Z" } : Jvm.MethodName) ∈ G := gT2 196 rfl rfl
theorem g_437 : Jvm.Cond.code ({ cls := "RainWalk$Reader", name := "read", desc := "([BI)Z" } : Jvm.MethodName) prog_6_method_3_code (5 : Nat) (Option.some Jvm.ClassFile.FieldType.boolean) ∈ G := gT2 197 rfl rfl
theorem g_438 : Jvm.Cond.methodLink "RainWalk$Reader" (30 : Nat) ({ cls := "RainWalk$Reader", name := "open", desc := "([BI)V" } : Jvm.MethodName) ∈ G := gT2 198 rfl rfl
theorem g_440 : Jvm.Cond.instanceMethod ({ cls := "RainWalk$Reader", name := "open", desc := "([BI)V" } : Jvm.MethodName) ∈ G := gT2 200 rfl rfl
theorem g_441 : Jvm.Cond.code ({ cls := "RainWalk$Reader", name := "open", desc := "([BI)V" } : Jvm.MethodName) prog_6_method_4_code (3 : Nat) (Option.none : Option Jvm.ClassFile.FieldType) ∈ G := gT2 201 rfl rfl
theorem g_442 : Jvm.Cond.methodLink "RainWalk$Reader" (98 : Nat) ({ cls := "java/lang/Math", name := "min", desc := "(II)I" } : Jvm.MethodName) ∈ G := gT2 202 rfl rfl
theorem g_443 : Jvm.Cond.static ({ cls := "java/lang/Math", name := "min", desc := "(II)I" } : Jvm.MethodName) ∈ G := gT2 203 rfl rfl
theorem g_444 : Jvm.Cond.code ({ cls := "java/lang/Math", name := "min", desc := "(II)I" } : Jvm.MethodName) prog_18_method_69_code (2 : Nat) (Option.some Jvm.ClassFile.FieldType.int) ∈ G := gT2 204 rfl rfl
theorem g_445 : Jvm.Cond.methodLink "RainWalk$Reader" (119 : Nat) ({ cls := "RainWalk$World", name := "clear", desc := "()V" } : Jvm.MethodName) ∈ G := gT2 205 rfl rfl
theorem g_446 : Jvm.Cond.instanceMethod ({ cls := "RainWalk$World", name := "clear", desc := "()V" } : Jvm.MethodName) ∈ G := gT2 206 rfl rfl
theorem g_447 : Jvm.Cond.selects "RainWalk$World" ({ cls := "RainWalk$World", name := "clear", desc := "()V" } : Jvm.MethodName) ({ cls := "RainWalk$World", name := "clear", desc := "()V" } : Jvm.MethodName) ∈ G := gT2 207 rfl rfl
theorem g_448 : Jvm.Cond.code ({ cls := "RainWalk$World", name := "clear", desc := "()V" } : Jvm.MethodName) prog_10_method_2_code (1 : Nat) (Option.none : Option Jvm.ClassFile.FieldType) ∈ G := gT2 208 rfl rfl
theorem g_449 : Jvm.Cond.methodLink "RainWalk$Reader" (122 : Nat) ({ cls := "RainWalk$Reader", name := "next", desc := "()V" } : Jvm.MethodName) ∈ G := gT2 209 rfl rfl
theorem g_451 : Jvm.Cond.instanceMethod ({ cls := "RainWalk$Reader", name := "next", desc := "()V" } : Jvm.MethodName) ∈ G := gT2 211 rfl rfl
theorem g_452 : Jvm.Cond.code ({ cls := "RainWalk$Reader", name := "next", desc := "()V" } : Jvm.MethodName) prog_6_method_6_code (5 : Nat) (Option.none : Option Jvm.ClassFile.FieldType) ∈ G := gT2 212 rfl rfl
theorem g_453 : Jvm.Cond.methodLink "RainWalk$Reader" (128 : Nat) ({ cls := "RainWalk$Reader", name := "sortAt", desc := "(I)I" } : Jvm.MethodName) ∈ G := gT2 213 rfl rfl
theorem g_455 : Jvm.Cond.instanceMethod ({ cls := "RainWalk$Reader", name := "sortAt", desc := "(I)I" } : Jvm.MethodName) ∈ G := gT2 215 rfl rfl
theorem g_456 : Jvm.Cond.code ({ cls := "RainWalk$Reader", name := "sortAt", desc := "(I)I" } : Jvm.MethodName) prog_6_method_7_code (3 : Nat) (Option.some Jvm.ClassFile.FieldType.int) ∈ G := gT2 216 rfl rfl
theorem g_458 : Jvm.Cond.methodLink "RainWalk$Reader" (35 : Nat) ({ cls := "RainWalk$Reader", name := "is", desc := "(Ljava/lang/String;)Z" } : Jvm.MethodName) ∈ G := gT2 218 rfl rfl
theorem g_460 : Jvm.Cond.instanceMethod ({ cls := "RainWalk$Reader", name := "is", desc := "(Ljava/lang/String;)Z" } : Jvm.MethodName) ∈ G := gT2 220 rfl rfl
theorem g_461 : Jvm.Cond.code ({ cls := "RainWalk$Reader", name := "is", desc := "(Ljava/lang/String;)Z" } : Jvm.MethodName) prog_6_method_8_code (5 : Nat) (Option.some Jvm.ClassFile.FieldType.boolean) ∈ G := gT2 221 rfl rfl
theorem g_462 : Jvm.Cond.methodLink "RainWalk$Reader" (136 : Nat) ({ cls := "java/lang/String", name := "length", desc := "()I" } : Jvm.MethodName) ∈ G := gT2 222 rfl rfl
theorem g_463 : Jvm.Cond.instanceMethod ({ cls := "java/lang/String", name := "length", desc := "()I" } : Jvm.MethodName) ∈ G := gT2 223 rfl rfl
theorem g_464 : Jvm.Cond.selects "java/lang/String" ({ cls := "java/lang/String", name := "length", desc := "()I" } : Jvm.MethodName) ({ cls := "java/lang/String", name := "length", desc := "()I" } : Jvm.MethodName) ∈ G := gT2 224 rfl rfl
theorem g_465 : Jvm.Cond.code ({ cls := "java/lang/String", name := "length", desc := "()I" } : Jvm.MethodName) prog_20_method_54_code (1 : Nat) (Option.some Jvm.ClassFile.FieldType.int) ∈ G := gT2 225 rfl rfl
theorem g_466 : Jvm.Cond.methodLink "java/lang/String" (335 : Nat) ({ cls := "java/lang/String", name := "coder", desc := "()B" } : Jvm.MethodName) ∈ G := gT2 226 rfl rfl
theorem g_467 : Jvm.Cond.instanceMethod ({ cls := "java/lang/String", name := "coder", desc := "()B" } : Jvm.MethodName) ∈ G := gT2 227 rfl rfl
theorem g_468 : Jvm.Cond.selects "java/lang/String" ({ cls := "java/lang/String", name := "coder", desc := "()B" } : Jvm.MethodName) ({ cls := "java/lang/String", name := "coder", desc := "()B" } : Jvm.MethodName) ∈ G := gT2 228 rfl rfl
theorem g_469 : Jvm.Cond.code ({ cls := "java/lang/String", name := "coder", desc := "()B" } : Jvm.MethodName) prog_20_method_152_code (1 : Nat) (Option.some Jvm.ClassFile.FieldType.byte) ∈ G := gT2 229 rfl rfl
theorem g_470 : Jvm.Cond.fieldLink "java/lang/String" (38 : Nat) "java/lang/String" "COMPACT_STRINGS" "Z" ∈ G := gT2 230 rfl rfl
theorem g_472 : Jvm.Cond.constantLong "RainWalk$Reader" (141 : Nat) (32 : Int64) ∈ G := gT2 232 rfl rfl
theorem g_473 : Jvm.Cond.methodLink "RainWalk$Reader" (143 : Nat) ({ cls := "java/lang/String", name := "charAt", desc := "(I)C" } : Jvm.MethodName) ∈ G := gT2 233 rfl rfl
theorem g_474 : Jvm.Cond.instanceMethod ({ cls := "java/lang/String", name := "charAt", desc := "(I)C" } : Jvm.MethodName) ∈ G := gT2 234 rfl rfl
theorem g_475 : Jvm.Cond.selects "java/lang/String" ({ cls := "java/lang/String", name := "charAt", desc := "(I)C" } : Jvm.MethodName) ({ cls := "java/lang/String", name := "charAt", desc := "(I)C" } : Jvm.MethodName) ∈ G := gT2 235 rfl rfl
theorem g_476 : Jvm.Cond.code ({ cls := "java/lang/String", name := "charAt", desc := "(I)C" } : Jvm.MethodName) prog_20_method_56_code (2 : Nat) (Option.some Jvm.ClassFile.FieldType.char) ∈ G := gT2 236 rfl rfl
theorem g_477 : Jvm.Cond.methodLink "java/lang/String" (492 : Nat) ({ cls := "java/lang/String", name := "isLatin1", desc := "()Z" } : Jvm.MethodName) ∈ G := gT2 237 rfl rfl
theorem g_478 : Jvm.Cond.instanceMethod ({ cls := "java/lang/String", name := "isLatin1", desc := "()Z" } : Jvm.MethodName) ∈ G := gT2 238 rfl rfl
theorem g_479 : Jvm.Cond.selects "java/lang/String" ({ cls := "java/lang/String", name := "isLatin1", desc := "()Z" } : Jvm.MethodName) ({ cls := "java/lang/String", name := "isLatin1", desc := "()Z" } : Jvm.MethodName) ∈ G := gT2 239 rfl rfl
theorem g_480 : Jvm.Cond.code ({ cls := "java/lang/String", name := "isLatin1", desc := "()Z" } : Jvm.MethodName) prog_20_method_154_code (1 : Nat) (Option.some Jvm.ClassFile.FieldType.boolean) ∈ G := gT3 0 rfl rfl
theorem g_481 : Jvm.Cond.methodLink "java/lang/String" (495 : Nat) ({ cls := "java/lang/StringLatin1", name := "charAt", desc := "([BI)C" } : Jvm.MethodName) ∈ G := gT3 1 rfl rfl
theorem g_482 : Jvm.Cond.static ({ cls := "java/lang/StringLatin1", name := "charAt", desc := "([BI)C" } : Jvm.MethodName) ∈ G := gT3 2 rfl rfl
theorem g_483 : Jvm.Cond.code ({ cls := "java/lang/StringLatin1", name := "charAt", desc := "([BI)C" } : Jvm.MethodName) prog_21_method_2_code (2 : Nat) (Option.some Jvm.ClassFile.FieldType.char) ∈ G := gT3 3 rfl rfl
theorem g_484 : Jvm.Cond.methodLink "java/lang/StringLatin1" (9 : Nat) ({ cls := "java/lang/String", name := "checkIndex", desc := "(II)V" } : Jvm.MethodName) ∈ G := gT3 4 rfl rfl
theorem g_485 : Jvm.Cond.static ({ cls := "java/lang/String", name := "checkIndex", desc := "(II)V" } : Jvm.MethodName) ∈ G := gT3 5 rfl rfl
theorem g_486 : Jvm.Cond.code ({ cls := "java/lang/String", name := "checkIndex", desc := "(II)V" } : Jvm.MethodName) prog_20_method_155_code (2 : Nat) (Option.none : Option Jvm.ClassFile.FieldType) ∈ G := gT3 6 rfl rfl
theorem g_487 : Jvm.Cond.fieldLink "java/lang/String" (1053 : Nat) "jdk/internal/util/Preconditions" "SIOOBE_FORMATTER" "Ljava/util/function/BiFunction;" ∈ G := gT3 7 rfl rfl
theorem g_489 : Jvm.Cond.methodLink "java/lang/String" (1059 : Nat) ({ cls := "jdk/internal/util/Preconditions", name := "checkIndex", desc := "(IILjava/util/function/BiFunction;)I" } : Jvm.MethodName) ∈ G := gT3 9 rfl rfl
theorem g_490 : Jvm.Cond.static ({ cls := "jdk/internal/util/Preconditions", name := "checkIndex", desc := "(IILjava/util/function/BiFunction;)I" } : Jvm.MethodName) ∈ G := gT3 10 rfl rfl
theorem g_491 : Jvm.Cond.code ({ cls := "jdk/internal/util/Preconditions", name := "checkIndex", desc := "(IILjava/util/function/BiFunction;)I" } : Jvm.MethodName) prog_27_method_11_code (3 : Nat) (Option.some Jvm.ClassFile.FieldType.int) ∈ G := gT3 11 rfl rfl
theorem g_511 : Jvm.Cond.methodLink "RainWalk$Reader" (39 : Nat) ({ cls := "RainWalk$Reader", name := "worldLine", desc := "()Z" } : Jvm.MethodName) ∈ G := gT3 31 rfl rfl
theorem g_513 : Jvm.Cond.instanceMethod ({ cls := "RainWalk$Reader", name := "worldLine", desc := "()Z" } : Jvm.MethodName) ∈ G := gT3 33 rfl rfl
theorem g_514 : Jvm.Cond.code ({ cls := "RainWalk$Reader", name := "worldLine", desc := "()Z" } : Jvm.MethodName) prog_6_method_20_code (1 : Nat) (Option.some Jvm.ClassFile.FieldType.boolean) ∈ G := gT3 34 rfl rfl
theorem g_515 : Jvm.Cond.methodLink "RainWalk$Reader" (176 : Nat) ({ cls := "RainWalk$World", name := "isTold", desc := "()Z" } : Jvm.MethodName) ∈ G := gT3 35 rfl rfl
theorem g_516 : Jvm.Cond.instanceMethod ({ cls := "RainWalk$World", name := "isTold", desc := "()Z" } : Jvm.MethodName) ∈ G := gT3 36 rfl rfl
theorem g_517 : Jvm.Cond.selects "RainWalk$World" ({ cls := "RainWalk$World", name := "isTold", desc := "()Z" } : Jvm.MethodName) ({ cls := "RainWalk$World", name := "isTold", desc := "()Z" } : Jvm.MethodName) ∈ G := gT3 37 rfl rfl
theorem g_518 : Jvm.Cond.code ({ cls := "RainWalk$World", name := "isTold", desc := "()Z" } : Jvm.MethodName) prog_10_method_3_code (1 : Nat) (Option.some Jvm.ClassFile.FieldType.boolean) ∈ G := gT3 38 rfl rfl
theorem g_519 : Jvm.Cond.methodLink "RainWalk$Reader" (88 : Nat) ({ cls := "RainWalk$Reader", name := "fail", desc := "(I)Z" } : Jvm.MethodName) ∈ G := gT3 39 rfl rfl
theorem g_521 : Jvm.Cond.instanceMethod ({ cls := "RainWalk$Reader", name := "fail", desc := "(I)Z" } : Jvm.MethodName) ∈ G := gT3 41 rfl rfl
theorem g_522 : Jvm.Cond.code ({ cls := "RainWalk$Reader", name := "fail", desc := "(I)Z" } : Jvm.MethodName) prog_6_method_5_code (2 : Nat) (Option.some Jvm.ClassFile.FieldType.boolean) ∈ G := gT3 42 rfl rfl
theorem g_524 : Jvm.Cond.methodLink "RainWalk$Reader" (181 : Nat) ({ cls := "RainWalk$Reader", name := "wordAndWhole", desc := "(Ljava/lang/String;II)Z" } : Jvm.MethodName) ∈ G := gT3 44 rfl rfl
theorem g_526 : Jvm.Cond.instanceMethod ({ cls := "RainWalk$Reader", name := "wordAndWhole", desc := "(Ljava/lang/String;II)Z" } : Jvm.MethodName) ∈ G := gT3 46 rfl rfl
theorem g_527 : Jvm.Cond.code ({ cls := "RainWalk$Reader", name := "wordAndWhole", desc := "(Ljava/lang/String;II)Z" } : Jvm.MethodName) prog_6_method_12_code (4 : Nat) (Option.some Jvm.ClassFile.FieldType.boolean) ∈ G := gT3 47 rfl rfl
theorem g_528 : Jvm.Cond.methodLink "RainWalk$Reader" (150 : Nat) ({ cls := "RainWalk$Reader", name := "word", desc := "(Ljava/lang/String;)Z" } : Jvm.MethodName) ∈ G := gT3 48 rfl rfl
theorem g_530 : Jvm.Cond.instanceMethod ({ cls := "RainWalk$Reader", name := "word", desc := "(Ljava/lang/String;)Z" } : Jvm.MethodName) ∈ G := gT3 50 rfl rfl
theorem g_531 : Jvm.Cond.code ({ cls := "RainWalk$Reader", name := "word", desc := "(Ljava/lang/String;)Z" } : Jvm.MethodName) prog_6_method_9_code (2 : Nat) (Option.some Jvm.ClassFile.FieldType.boolean) ∈ G := gT3 51 rfl rfl
theorem g_532 : Jvm.Cond.methodLink "RainWalk$Reader" (153 : Nat) ({ cls := "RainWalk$Reader", name := "whole", desc := "(II)Z" } : Jvm.MethodName) ∈ G := gT3 52 rfl rfl
theorem g_534 : Jvm.Cond.instanceMethod ({ cls := "RainWalk$Reader", name := "whole", desc := "(II)Z" } : Jvm.MethodName) ∈ G := gT3 54 rfl rfl
theorem g_535 : Jvm.Cond.code ({ cls := "RainWalk$Reader", name := "whole", desc := "(II)Z" } : Jvm.MethodName) prog_6_method_11_code (3 : Nat) (Option.some Jvm.ClassFile.FieldType.boolean) ∈ G := gT3 55 rfl rfl
theorem g_537 : Jvm.Cond.methodLink "RainWalk$Reader" (49 : Nat) ({ cls := "RainWalk$Reader", name := "hasRoom", desc := "(II)Z" } : Jvm.MethodName) ∈ G := gT3 57 rfl rfl
theorem g_539 : Jvm.Cond.instanceMethod ({ cls := "RainWalk$Reader", name := "hasRoom", desc := "(II)Z" } : Jvm.MethodName) ∈ G := gT3 59 rfl rfl
theorem g_540 : Jvm.Cond.code ({ cls := "RainWalk$Reader", name := "hasRoom", desc := "(II)Z" } : Jvm.MethodName) prog_6_method_19_code (3 : Nat) (Option.some Jvm.ClassFile.FieldType.boolean) ∈ G := gT3 60 rfl rfl
theorem g_541 : Jvm.Cond.methodLink "RainWalk$Reader" (53 : Nat) ({ cls := "RainWalk$Reader", name := "rainLine", desc := "()Z" } : Jvm.MethodName) ∈ G := gT3 61 rfl rfl
theorem g_543 : Jvm.Cond.instanceMethod ({ cls := "RainWalk$Reader", name := "rainLine", desc := "()Z" } : Jvm.MethodName) ∈ G := gT3 63 rfl rfl
theorem g_544 : Jvm.Cond.code ({ cls := "RainWalk$Reader", name := "rainLine", desc := "()Z" } : Jvm.MethodName) prog_6_method_21_code (2 : Nat) (Option.some Jvm.ClassFile.FieldType.boolean) ∈ G := gT3 64 rfl rfl
theorem g_548 : Jvm.Cond.methodLink "RainWalk$Reader" (203 : Nat) ({ cls := "RainWalk$Reader", name := "side", desc := "()Z" } : Jvm.MethodName) ∈ G := gT3 68 rfl rfl
theorem g_550 : Jvm.Cond.instanceMethod ({ cls := "RainWalk$Reader", name := "side", desc := "()Z" } : Jvm.MethodName) ∈ G := gT3 70 rfl rfl
theorem g_551 : Jvm.Cond.code ({ cls := "RainWalk$Reader", name := "side", desc := "()Z" } : Jvm.MethodName) prog_6_method_13_code (1 : Nat) (Option.some Jvm.ClassFile.FieldType.boolean) ∈ G := gT3 71 rfl rfl
theorem g_558 : Jvm.Cond.methodLink "RainWalk$Reader" (61 : Nat) ({ cls := "RainWalk$Reader", name := "placeLine", desc := "()Z" } : Jvm.MethodName) ∈ G := gT3 78 rfl rfl
theorem g_560 : Jvm.Cond.instanceMethod ({ cls := "RainWalk$Reader", name := "placeLine", desc := "()Z" } : Jvm.MethodName) ∈ G := gT3 80 rfl rfl
theorem g_561 : Jvm.Cond.code ({ cls := "RainWalk$Reader", name := "placeLine", desc := "()Z" } : Jvm.MethodName) prog_6_method_22_code (2 : Nat) (Option.some Jvm.ClassFile.FieldType.boolean) ∈ G := gT3 81 rfl rfl
theorem g_562 : Jvm.Cond.methodLink "RainWalk$Reader" (215 : Nat) ({ cls := "RainWalk$Reader", name := "newName", desc := "(I)Z" } : Jvm.MethodName) ∈ G := gT3 82 rfl rfl
theorem g_564 : Jvm.Cond.instanceMethod ({ cls := "RainWalk$Reader", name := "newName", desc := "(I)Z" } : Jvm.MethodName) ∈ G := gT3 84 rfl rfl
theorem g_565 : Jvm.Cond.code ({ cls := "RainWalk$Reader", name := "newName", desc := "(I)Z" } : Jvm.MethodName) prog_6_method_16_code (2 : Nat) (Option.some Jvm.ClassFile.FieldType.boolean) ∈ G := gT3 85 rfl rfl
theorem g_566 : Jvm.Cond.methodLink "RainWalk$Reader" (170 : Nat) ({ cls := "RainWalk$Reader", name := "canBeName", desc := "()Z" } : Jvm.MethodName) ∈ G := gT3 86 rfl rfl
theorem g_568 : Jvm.Cond.instanceMethod ({ cls := "RainWalk$Reader", name := "canBeName", desc := "()Z" } : Jvm.MethodName) ∈ G := gT3 88 rfl rfl
theorem g_569 : Jvm.Cond.code ({ cls := "RainWalk$Reader", name := "canBeName", desc := "()Z" } : Jvm.MethodName) prog_6_method_14_code (2 : Nat) (Option.some Jvm.ClassFile.FieldType.boolean) ∈ G := gT3 89 rfl rfl
theorem g_576 : Jvm.Cond.methodLink "RainWalk$Reader" (173 : Nat) ({ cls := "RainWalk$Reader", name := "findName", desc := "()I" } : Jvm.MethodName) ∈ G := gT3 96 rfl rfl
theorem g_578 : Jvm.Cond.instanceMethod ({ cls := "RainWalk$Reader", name := "findName", desc := "()I" } : Jvm.MethodName) ∈ G := gT3 98 rfl rfl
theorem g_579 : Jvm.Cond.code ({ cls := "RainWalk$Reader", name := "findName", desc := "()I" } : Jvm.MethodName) prog_6_method_15_code (2 : Nat) (Option.some Jvm.ClassFile.FieldType.int) ∈ G := gT3 99 rfl rfl
theorem g_580 : Jvm.Cond.methodLink "RainWalk$Reader" (69 : Nat) ({ cls := "RainWalk$Reader", name := "roadLine", desc := "()Z" } : Jvm.MethodName) ∈ G := gT3 100 rfl rfl
theorem g_582 : Jvm.Cond.instanceMethod ({ cls := "RainWalk$Reader", name := "roadLine", desc := "()Z" } : Jvm.MethodName) ∈ G := gT3 102 rfl rfl
theorem g_583 : Jvm.Cond.code ({ cls := "RainWalk$Reader", name := "roadLine", desc := "()Z" } : Jvm.MethodName) prog_6_method_23_code (2 : Nat) (Option.some Jvm.ClassFile.FieldType.boolean) ∈ G := gT3 103 rfl rfl
theorem g_584 : Jvm.Cond.methodLink "RainWalk$Reader" (224 : Nat) ({ cls := "RainWalk$Reader", name := "placeBut", desc := "(I)Z" } : Jvm.MethodName) ∈ G := gT3 104 rfl rfl
theorem g_586 : Jvm.Cond.instanceMethod ({ cls := "RainWalk$Reader", name := "placeBut", desc := "(I)Z" } : Jvm.MethodName) ∈ G := gT3 106 rfl rfl
theorem g_587 : Jvm.Cond.code ({ cls := "RainWalk$Reader", name := "placeBut", desc := "(I)Z" } : Jvm.MethodName) prog_6_method_17_code (3 : Nat) (Option.some Jvm.ClassFile.FieldType.boolean) ∈ G := gT3 107 rfl rfl
theorem g_588 : Jvm.Cond.methodLink "RainWalk$Reader" (77 : Nat) ({ cls := "RainWalk$Reader", name := "walkerLine", desc := "()Z" } : Jvm.MethodName) ∈ G := gT3 108 rfl rfl
theorem g_590 : Jvm.Cond.instanceMethod ({ cls := "RainWalk$Reader", name := "walkerLine", desc := "()Z" } : Jvm.MethodName) ∈ G := gT3 110 rfl rfl
theorem g_591 : Jvm.Cond.code ({ cls := "RainWalk$Reader", name := "walkerLine", desc := "()Z" } : Jvm.MethodName) prog_6_method_24_code (2 : Nat) (Option.some Jvm.ClassFile.FieldType.boolean) ∈ G := gT3 111 rfl rfl
theorem g_592 : Jvm.Cond.methodLink "RainWalk$Reader" (243 : Nat) ({ cls := "RainWalk$Reader", name := "kindOf", desc := "(LRainWalk$Walker;)Z" } : Jvm.MethodName) ∈ G := gT3 112 rfl rfl
theorem g_594 : Jvm.Cond.instanceMethod ({ cls := "RainWalk$Reader", name := "kindOf", desc := "(LRainWalk$Walker;)Z" } : Jvm.MethodName) ∈ G := gT3 114 rfl rfl
theorem g_595 : Jvm.Cond.code ({ cls := "RainWalk$Reader", name := "kindOf", desc := "(LRainWalk$Walker;)Z" } : Jvm.MethodName) prog_6_method_25_code (3 : Nat) (Option.some Jvm.ClassFile.FieldType.boolean) ∈ G := gT3 115 rfl rfl
theorem g_600 : Jvm.Cond.methodLink "RainWalk$Reader" (247 : Nat) ({ cls := "RainWalk$Reader", name := "bodyOf", desc := "(LRainWalk$Walker;)Z" } : Jvm.MethodName) ∈ G := gT3 120 rfl rfl
theorem g_602 : Jvm.Cond.instanceMethod ({ cls := "RainWalk$Reader", name := "bodyOf", desc := "(LRainWalk$Walker;)Z" } : Jvm.MethodName) ∈ G := gT3 122 rfl rfl
theorem g_603 : Jvm.Cond.code ({ cls := "RainWalk$Reader", name := "bodyOf", desc := "(LRainWalk$Walker;)Z" } : Jvm.MethodName) prog_6_method_26_code (5 : Nat) (Option.some Jvm.ClassFile.FieldType.boolean) ∈ G := gT3 123 rfl rfl
theorem g_607 : Jvm.Cond.methodLink "RainWalk$Reader" (282 : Nat) ({ cls := "RainWalk$Walker", name := "shape", desc := "(III)V" } : Jvm.MethodName) ∈ G := gT3 127 rfl rfl
theorem g_608 : Jvm.Cond.instanceMethod ({ cls := "RainWalk$Walker", name := "shape", desc := "(III)V" } : Jvm.MethodName) ∈ G := gT3 128 rfl rfl
theorem g_609 : Jvm.Cond.selects "RainWalk$Walker" ({ cls := "RainWalk$Walker", name := "shape", desc := "(III)V" } : Jvm.MethodName) ({ cls := "RainWalk$Walker", name := "shape", desc := "(III)V" } : Jvm.MethodName) ∈ G := gT3 129 rfl rfl
theorem g_610 : Jvm.Cond.code ({ cls := "RainWalk$Walker", name := "shape", desc := "(III)V" } : Jvm.MethodName) prog_8_method_2_code (5 : Nat) (Option.none : Option Jvm.ClassFile.FieldType) ∈ G := gT3 130 rfl rfl
theorem g_613 : Jvm.Cond.methodLink "RainWalk$Reader" (85 : Nat) ({ cls := "RainWalk$Reader", name := "seenLine", desc := "()Z" } : Jvm.MethodName) ∈ G := gT3 133 rfl rfl
theorem g_615 : Jvm.Cond.instanceMethod ({ cls := "RainWalk$Reader", name := "seenLine", desc := "()Z" } : Jvm.MethodName) ∈ G := gT3 135 rfl rfl
theorem g_616 : Jvm.Cond.code ({ cls := "RainWalk$Reader", name := "seenLine", desc := "()Z" } : Jvm.MethodName) prog_6_method_27_code (2 : Nat) (Option.some Jvm.ClassFile.FieldType.boolean) ∈ G := gT3 136 rfl rfl
theorem g_617 : Jvm.Cond.methodLink "RainWalk$Reader" (286 : Nat) ({ cls := "RainWalk$Reader", name := "someWalker", desc := "()Z" } : Jvm.MethodName) ∈ G := gT3 137 rfl rfl
theorem g_619 : Jvm.Cond.instanceMethod ({ cls := "RainWalk$Reader", name := "someWalker", desc := "()Z" } : Jvm.MethodName) ∈ G := gT3 139 rfl rfl
theorem g_620 : Jvm.Cond.code ({ cls := "RainWalk$Reader", name := "someWalker", desc := "()Z" } : Jvm.MethodName) prog_6_method_18_code (2 : Nat) (Option.some Jvm.ClassFile.FieldType.boolean) ∈ G := gT3 140 rfl rfl
theorem g_621 : Jvm.Cond.methodLink "RainWalk$Reader" (95 : Nat) ({ cls := "RainWalk$Reader", name := "sign", desc := "(I)Z" } : Jvm.MethodName) ∈ G := gT3 141 rfl rfl
theorem g_623 : Jvm.Cond.instanceMethod ({ cls := "RainWalk$Reader", name := "sign", desc := "(I)Z" } : Jvm.MethodName) ∈ G := gT3 143 rfl rfl
theorem g_624 : Jvm.Cond.code ({ cls := "RainWalk$Reader", name := "sign", desc := "(I)Z" } : Jvm.MethodName) prog_6_method_10_code (2 : Nat) (Option.some Jvm.ClassFile.FieldType.boolean) ∈ G := gT3 144 rfl rfl
theorem g_625 : Jvm.Cond.methodLink "RainWalk" (76 : Nat) ({ cls := "RainWalk$Reader", name := "exchange", desc := "(LRainWalk$World;)LRainWalk$World;" } : Jvm.MethodName) ∈ G := gT3 145 rfl rfl
theorem g_626 : Jvm.Cond.instanceMethod ({ cls := "RainWalk$Reader", name := "exchange", desc := "(LRainWalk$World;)LRainWalk$World;" } : Jvm.MethodName) ∈ G := gT3 146 rfl rfl
theorem g_627 : Jvm.Cond.selects "RainWalk$Reader" ({ cls := "RainWalk$Reader", name := "exchange", desc := "(LRainWalk$World;)LRainWalk$World;" } : Jvm.MethodName) ({ cls := "RainWalk$Reader", name := "exchange", desc := "(LRainWalk$World;)LRainWalk$World;" } : Jvm.MethodName) ∈ G := gT3 147 rfl rfl
theorem g_628 : Jvm.Cond.code ({ cls := "RainWalk$Reader", name := "exchange", desc := "(LRainWalk$World;)LRainWalk$World;" } : Jvm.MethodName) prog_6_method_2_code (3 : Nat) (Option.some (Jvm.ClassFile.FieldType.object "RainWalk$World")) ∈ G := gT3 148 rfl rfl
theorem g_629 : Jvm.Cond.methodLink "RainWalk" (80 : Nat) ({ cls := "RainWalk$Ways", name := "forget", desc := "()V" } : Jvm.MethodName) ∈ G := gT3 149 rfl rfl
theorem g_630 : Jvm.Cond.instanceMethod ({ cls := "RainWalk$Ways", name := "forget", desc := "()V" } : Jvm.MethodName) ∈ G := gT3 150 rfl rfl
theorem g_631 : Jvm.Cond.selects "RainWalk$Ways" ({ cls := "RainWalk$Ways", name := "forget", desc := "()V" } : Jvm.MethodName) ({ cls := "RainWalk$Ways", name := "forget", desc := "()V" } : Jvm.MethodName) ∈ G := gT3 151 rfl rfl
theorem g_632 : Jvm.Cond.code ({ cls := "RainWalk$Ways", name := "forget", desc := "()V" } : Jvm.MethodName) prog_9_method_2_code (1 : Nat) (Option.none : Option Jvm.ClassFile.FieldType) ∈ G := gT3 152 rfl rfl
theorem g_633 : Jvm.Cond.methodLink "RainWalk" (83 : Nat) ({ cls := "RainWalk$Day", name := "end", desc := "()V" } : Jvm.MethodName) ∈ G := gT3 153 rfl rfl
theorem g_634 : Jvm.Cond.instanceMethod ({ cls := "RainWalk$Day", name := "end", desc := "()V" } : Jvm.MethodName) ∈ G := gT3 154 rfl rfl
theorem g_635 : Jvm.Cond.selects "RainWalk$Day" ({ cls := "RainWalk$Day", name := "end", desc := "()V" } : Jvm.MethodName) ({ cls := "RainWalk$Day", name := "end", desc := "()V" } : Jvm.MethodName) ∈ G := gT3 155 rfl rfl
theorem g_636 : Jvm.Cond.code ({ cls := "RainWalk$Day", name := "end", desc := "()V" } : Jvm.MethodName) prog_2_method_3_code (1 : Nat) (Option.none : Option Jvm.ClassFile.FieldType) ∈ G := gT3 156 rfl rfl
theorem g_637 : Jvm.Cond.methodLink "RainWalk" (89 : Nat) ({ cls := "RainWalk", name := "grant", desc := "(I)I" } : Jvm.MethodName) ∈ G := gT3 157 rfl rfl
theorem g_639 : Jvm.Cond.instanceMethod ({ cls := "RainWalk", name := "grant", desc := "(I)I" } : Jvm.MethodName) ∈ G := gT3 159 rfl rfl
theorem g_640 : Jvm.Cond.code ({ cls := "RainWalk", name := "grant", desc := "(I)I" } : Jvm.MethodName) prog_1_method_8_code (2 : Nat) (Option.some Jvm.ClassFile.FieldType.int) ∈ G := gT3 160 rfl rfl
theorem g_641 : Jvm.Cond.methodLink "RainWalkLaw" (28 : Nat) ({ cls := "RainWalk", name := "fault", desc := "()I" } : Jvm.MethodName) ∈ G := gT3 161 rfl rfl
theorem g_642 : Jvm.Cond.instanceMethod ({ cls := "RainWalk", name := "fault", desc := "()I" } : Jvm.MethodName) ∈ G := gT3 162 rfl rfl
theorem g_643 : Jvm.Cond.selects "RainWalk" ({ cls := "RainWalk", name := "fault", desc := "()I" } : Jvm.MethodName) ({ cls := "RainWalk", name := "fault", desc := "()I" } : Jvm.MethodName) ∈ G := gT3 163 rfl rfl
theorem g_644 : Jvm.Cond.code ({ cls := "RainWalk", name := "fault", desc := "()I" } : Jvm.MethodName) prog_1_method_5_code (1 : Nat) (Option.some Jvm.ClassFile.FieldType.int) ∈ G := gT3 164 rfl rfl
theorem g_645 : Jvm.Cond.methodLink "RainWalkLaw" (33 : Nat) ({ cls := "RainWalk", name := "where", desc := "()I" } : Jvm.MethodName) ∈ G := gT3 165 rfl rfl
theorem g_646 : Jvm.Cond.instanceMethod ({ cls := "RainWalk", name := "where", desc := "()I" } : Jvm.MethodName) ∈ G := gT3 166 rfl rfl
theorem g_647 : Jvm.Cond.selects "RainWalk" ({ cls := "RainWalk", name := "where", desc := "()I" } : Jvm.MethodName) ({ cls := "RainWalk", name := "where", desc := "()I" } : Jvm.MethodName) ∈ G := gT3 167 rfl rfl
theorem g_648 : Jvm.Cond.code ({ cls := "RainWalk", name := "where", desc := "()I" } : Jvm.MethodName) prog_1_method_6_code (1 : Nat) (Option.some Jvm.ClassFile.FieldType.int) ∈ G := gT3 168 rfl rfl
theorem g_649 : Jvm.Cond.methodLink "RainWalkLaw" (37 : Nat) ({ cls := "RainWalk", name := "face", desc := "(IIIIIIZ)J" } : Jvm.MethodName) ∈ G := gT3 169 rfl rfl
theorem g_650 : Jvm.Cond.instanceMethod ({ cls := "RainWalk", name := "face", desc := "(IIIIIIZ)J" } : Jvm.MethodName) ∈ G := gT3 170 rfl rfl
theorem g_651 : Jvm.Cond.selects "RainWalk" ({ cls := "RainWalk", name := "face", desc := "(IIIIIIZ)J" } : Jvm.MethodName) ({ cls := "RainWalk", name := "face", desc := "(IIIIIIZ)J" } : Jvm.MethodName) ∈ G := gT3 171 rfl rfl
theorem g_652 : Jvm.Cond.code ({ cls := "RainWalk", name := "face", desc := "(IIIIIIZ)J" } : Jvm.MethodName) prog_1_method_10_code (9 : Nat) (Option.some Jvm.ClassFile.FieldType.long) ∈ G := gT3 172 rfl rfl
theorem g_653 : Jvm.Cond.methodLink "RainWalk" (95 : Nat) ({ cls := "RainWalk", name := "isFace", desc := "(I)Z" } : Jvm.MethodName) ∈ G := gT3 173 rfl rfl
theorem g_654 : Jvm.Cond.static ({ cls := "RainWalk", name := "isFace", desc := "(I)Z" } : Jvm.MethodName) ∈ G := gT3 174 rfl rfl
theorem g_655 : Jvm.Cond.code ({ cls := "RainWalk", name := "isFace", desc := "(I)Z" } : Jvm.MethodName) prog_1_method_28_code (1 : Nat) (Option.some Jvm.ClassFile.FieldType.boolean) ∈ G := gT3 175 rfl rfl
theorem g_656 : Jvm.Cond.methodLink "RainWalk" (99 : Nat) ({ cls := "RainWalk", name := "legTrouble", desc := "(IIIII)I" } : Jvm.MethodName) ∈ G := gT3 176 rfl rfl
theorem g_658 : Jvm.Cond.instanceMethod ({ cls := "RainWalk", name := "legTrouble", desc := "(IIIII)I" } : Jvm.MethodName) ∈ G := gT3 178 rfl rfl
theorem g_659 : Jvm.Cond.code ({ cls := "RainWalk", name := "legTrouble", desc := "(IIIII)I" } : Jvm.MethodName) prog_1_method_25_code (7 : Nat) (Option.some Jvm.ClassFile.FieldType.int) ∈ G := gT3 179 rfl rfl
theorem g_660 : Jvm.Cond.methodLink "RainWalk" (178 : Nat) ({ cls := "RainWalk", name := "tripTrouble", desc := "(IIII)I" } : Jvm.MethodName) ∈ G := gT3 180 rfl rfl
theorem g_662 : Jvm.Cond.instanceMethod ({ cls := "RainWalk", name := "tripTrouble", desc := "(IIII)I" } : Jvm.MethodName) ∈ G := gT3 182 rfl rfl
theorem g_663 : Jvm.Cond.code ({ cls := "RainWalk", name := "tripTrouble", desc := "(IIII)I" } : Jvm.MethodName) prog_1_method_24_code (6 : Nat) (Option.some Jvm.ClassFile.FieldType.int) ∈ G := gT3 183 rfl rfl
theorem g_664 : Jvm.Cond.methodLink "RainWalk" (141 : Nat) ({ cls := "RainWalk$World", name := "hasWalker", desc := "(I)Z" } : Jvm.MethodName) ∈ G := gT3 184 rfl rfl
theorem g_665 : Jvm.Cond.instanceMethod ({ cls := "RainWalk$World", name := "hasWalker", desc := "(I)Z" } : Jvm.MethodName) ∈ G := gT3 185 rfl rfl
theorem g_666 : Jvm.Cond.selects "RainWalk$World" ({ cls := "RainWalk$World", name := "hasWalker", desc := "(I)Z" } : Jvm.MethodName) ({ cls := "RainWalk$World", name := "hasWalker", desc := "(I)Z" } : Jvm.MethodName) ∈ G := gT3 186 rfl rfl
theorem g_667 : Jvm.Cond.code ({ cls := "RainWalk$World", name := "hasWalker", desc := "(I)Z" } : Jvm.MethodName) prog_10_method_7_code (2 : Nat) (Option.some Jvm.ClassFile.FieldType.boolean) ∈ G := gT3 187 rfl rfl
theorem g_668 : Jvm.Cond.methodLink "RainWalk" (144 : Nat) ({ cls := "RainWalk$World", name := "hasRoad", desc := "(I)Z" } : Jvm.MethodName) ∈ G := gT3 188 rfl rfl
theorem g_669 : Jvm.Cond.instanceMethod ({ cls := "RainWalk$World", name := "hasRoad", desc := "(I)Z" } : Jvm.MethodName) ∈ G := gT3 189 rfl rfl
theorem g_670 : Jvm.Cond.selects "RainWalk$World" ({ cls := "RainWalk$World", name := "hasRoad", desc := "(I)Z" } : Jvm.MethodName) ({ cls := "RainWalk$World", name := "hasRoad", desc := "(I)Z" } : Jvm.MethodName) ∈ G := gT3 190 rfl rfl
theorem g_671 : Jvm.Cond.code ({ cls := "RainWalk$World", name := "hasRoad", desc := "(I)Z" } : Jvm.MethodName) prog_10_method_6_code (2 : Nat) (Option.some Jvm.ClassFile.FieldType.boolean) ∈ G := gT3 191 rfl rfl
theorem g_672 : Jvm.Cond.methodLink "RainWalk" (157 : Nat) ({ cls := "RainWalk", name := "isWay", desc := "(I)Z" } : Jvm.MethodName) ∈ G := gT3 192 rfl rfl
theorem g_673 : Jvm.Cond.static ({ cls := "RainWalk", name := "isWay", desc := "(I)Z" } : Jvm.MethodName) ∈ G := gT3 193 rfl rfl
theorem g_674 : Jvm.Cond.code ({ cls := "RainWalk", name := "isWay", desc := "(I)Z" } : Jvm.MethodName) prog_1_method_27_code (1 : Nat) (Option.some Jvm.ClassFile.FieldType.boolean) ∈ G := gT3 194 rfl rfl
theorem g_675 : Jvm.Cond.methodLink "RainWalk" (160 : Nat) ({ cls := "RainWalk$World", name := "hasHour", desc := "(I)Z" } : Jvm.MethodName) ∈ G := gT3 195 rfl rfl
theorem g_676 : Jvm.Cond.instanceMethod ({ cls := "RainWalk$World", name := "hasHour", desc := "(I)Z" } : Jvm.MethodName) ∈ G := gT3 196 rfl rfl
theorem g_677 : Jvm.Cond.selects "RainWalk$World" ({ cls := "RainWalk$World", name := "hasHour", desc := "(I)Z" } : Jvm.MethodName) ({ cls := "RainWalk$World", name := "hasHour", desc := "(I)Z" } : Jvm.MethodName) ∈ G := gT3 197 rfl rfl
theorem g_678 : Jvm.Cond.code ({ cls := "RainWalk$World", name := "hasHour", desc := "(I)Z" } : Jvm.MethodName) prog_10_method_4_code (2 : Nat) (Option.some Jvm.ClassFile.FieldType.boolean) ∈ G := gT3 198 rfl rfl
theorem g_679 : Jvm.Cond.methodLink "RainWalk" (147 : Nat) ({ cls := "RainWalk$Walker", name := "canGo", desc := "(I)Z" } : Jvm.MethodName) ∈ G := gT3 199 rfl rfl
theorem g_680 : Jvm.Cond.instanceMethod ({ cls := "RainWalk$Walker", name := "canGo", desc := "(I)Z" } : Jvm.MethodName) ∈ G := gT3 200 rfl rfl
theorem g_681 : Jvm.Cond.selects "RainWalk$Walker" ({ cls := "RainWalk$Walker", name := "canGo", desc := "(I)Z" } : Jvm.MethodName) ({ cls := "RainWalk$Walker", name := "canGo", desc := "(I)Z" } : Jvm.MethodName) ∈ G := gT3 201 rfl rfl
theorem g_682 : Jvm.Cond.code ({ cls := "RainWalk$Walker", name := "canGo", desc := "(I)Z" } : Jvm.MethodName) prog_8_method_3_code (2 : Nat) (Option.some Jvm.ClassFile.FieldType.boolean) ∈ G := gT3 202 rfl rfl
theorem g_683 : Jvm.Cond.methodLink "RainWalk" (103 : Nat) ({ cls := "RainWalk", name := "refusedBy", desc := "(I)Z" } : Jvm.MethodName) ∈ G := gT3 203 rfl rfl
theorem g_685 : Jvm.Cond.instanceMethod ({ cls := "RainWalk", name := "refusedBy", desc := "(I)Z" } : Jvm.MethodName) ∈ G := gT3 205 rfl rfl
theorem g_686 : Jvm.Cond.code ({ cls := "RainWalk", name := "refusedBy", desc := "(I)Z" } : Jvm.MethodName) prog_1_method_9_code (2 : Nat) (Option.some Jvm.ClassFile.FieldType.boolean) ∈ G := gT3 206 rfl rfl
theorem g_687 : Jvm.Cond.constantLong "RainWalk" (106 : Nat) (-1 : Int64) ∈ G := gT3 207 rfl rfl
theorem g_688 : Jvm.Cond.methodLink "RainWalk" (120 : Nat) ({ cls := "RainWalk$Leg", name := "wetOf", desc := "(LRainWalk$Walker;LRainWalk$Road;ILRainWalk$Rain;I)J" } : Jvm.MethodName) ∈ G := gT3 208 rfl rfl
theorem g_689 : Jvm.Cond.instanceMethod ({ cls := "RainWalk$Leg", name := "wetOf", desc := "(LRainWalk$Walker;LRainWalk$Road;ILRainWalk$Rain;I)J" } : Jvm.MethodName) ∈ G := gT3 209 rfl rfl
theorem g_690 : Jvm.Cond.selects "RainWalk$Leg" ({ cls := "RainWalk$Leg", name := "wetOf", desc := "(LRainWalk$Walker;LRainWalk$Road;ILRainWalk$Rain;I)J" } : Jvm.MethodName) ({ cls := "RainWalk$Leg", name := "wetOf", desc := "(LRainWalk$Walker;LRainWalk$Road;ILRainWalk$Rain;I)J" } : Jvm.MethodName) ∈ G := gT3 210 rfl rfl
theorem g_691 : Jvm.Cond.code ({ cls := "RainWalk$Leg", name := "wetOf", desc := "(LRainWalk$Walker;LRainWalk$Road;ILRainWalk$Rain;I)J" } : Jvm.MethodName) prog_3_method_4_code (6 : Nat) (Option.some Jvm.ClassFile.FieldType.long) ∈ G := gT3 211 rfl rfl
theorem g_692 : Jvm.Cond.methodLink "RainWalk$Leg" (66 : Nat) ({ cls := "RainWalk$Leg", name := "lay", desc := "(LRainWalk$Road;ILRainWalk$Rain;I)V" } : Jvm.MethodName) ∈ G := gT3 212 rfl rfl
theorem g_693 : Jvm.Cond.instanceMethod ({ cls := "RainWalk$Leg", name := "lay", desc := "(LRainWalk$Road;ILRainWalk$Rain;I)V" } : Jvm.MethodName) ∈ G := gT3 213 rfl rfl
theorem g_694 : Jvm.Cond.selects "RainWalk$Leg" ({ cls := "RainWalk$Leg", name := "lay", desc := "(LRainWalk$Road;ILRainWalk$Rain;I)V" } : Jvm.MethodName) ({ cls := "RainWalk$Leg", name := "lay", desc := "(LRainWalk$Road;ILRainWalk$Rain;I)V" } : Jvm.MethodName) ∈ G := gT3 214 rfl rfl
theorem g_695 : Jvm.Cond.code ({ cls := "RainWalk$Leg", name := "lay", desc := "(LRainWalk$Road;ILRainWalk$Rain;I)V" } : Jvm.MethodName) prog_3_method_2_code (11 : Nat) (Option.none : Option Jvm.ClassFile.FieldType) ∈ G := gT3 215 rfl rfl
theorem g_696 : Jvm.Cond.methodLink "RainWalk$Leg" (32 : Nat) ({ cls := "RainWalk$Road", name := "turnOf", desc := "(ILRainWalk$Rain;)I" } : Jvm.MethodName) ∈ G := gT3 216 rfl rfl
theorem g_697 : Jvm.Cond.instanceMethod ({ cls := "RainWalk$Road", name := "turnOf", desc := "(ILRainWalk$Rain;)I" } : Jvm.MethodName) ∈ G := gT3 217 rfl rfl
theorem g_698 : Jvm.Cond.selects "RainWalk$Road" ({ cls := "RainWalk$Road", name := "turnOf", desc := "(ILRainWalk$Rain;)I" } : Jvm.MethodName) ({ cls := "RainWalk$Road", name := "turnOf", desc := "(ILRainWalk$Rain;)I" } : Jvm.MethodName) ∈ G := gT3 218 rfl rfl
theorem g_699 : Jvm.Cond.code ({ cls := "RainWalk$Road", name := "turnOf", desc := "(ILRainWalk$Rain;)I" } : Jvm.MethodName) prog_7_method_6_code (4 : Nat) (Option.some Jvm.ClassFile.FieldType.int) ∈ G := gT3 219 rfl rfl
theorem g_700 : Jvm.Cond.methodLink "RainWalk$Leg" (36 : Nat) ({ cls := "RainWalk$Road", name := "airAlong", desc := "(ILRainWalk$Rain;)I" } : Jvm.MethodName) ∈ G := gT3 220 rfl rfl
theorem g_701 : Jvm.Cond.instanceMethod ({ cls := "RainWalk$Road", name := "airAlong", desc := "(ILRainWalk$Rain;)I" } : Jvm.MethodName) ∈ G := gT3 221 rfl rfl
theorem g_702 : Jvm.Cond.selects "RainWalk$Road" ({ cls := "RainWalk$Road", name := "airAlong", desc := "(ILRainWalk$Rain;)I" } : Jvm.MethodName) ({ cls := "RainWalk$Road", name := "airAlong", desc := "(ILRainWalk$Rain;)I" } : Jvm.MethodName) ∈ G := gT3 222 rfl rfl
theorem g_703 : Jvm.Cond.code ({ cls := "RainWalk$Road", name := "airAlong", desc := "(ILRainWalk$Rain;)I" } : Jvm.MethodName) prog_7_method_7_code (4 : Nat) (Option.some Jvm.ClassFile.FieldType.int) ∈ G := gT3 223 rfl rfl
theorem g_704 : Jvm.Cond.methodLink "RainWalk$Road" (27 : Nat) ({ cls := "RainWalk$Road", name := "turnOf", desc := "(ILRainWalk$Rain;)I" } : Jvm.MethodName) ∈ G := gT3 224 rfl rfl
theorem g_705 : Jvm.Cond.methodLink "RainWalk$Leg" (42 : Nat) ({ cls := "java/lang/Math", name := "max", desc := "(II)I" } : Jvm.MethodName) ∈ G := gT3 225 rfl rfl
theorem g_706 : Jvm.Cond.static ({ cls := "java/lang/Math", name := "max", desc := "(II)I" } : Jvm.MethodName) ∈ G := gT3 226 rfl rfl
theorem g_707 : Jvm.Cond.code ({ cls := "java/lang/Math", name := "max", desc := "(II)I" } : Jvm.MethodName) prog_18_method_65_code (2 : Nat) (Option.some Jvm.ClassFile.FieldType.int) ∈ G := gT3 227 rfl rfl
theorem g_708 : Jvm.Cond.methodLink "RainWalk$Leg" (70 : Nat) ({ cls := "RainWalk$Leg", name := "soak", desc := "(LRainWalk$Walker;II)J" } : Jvm.MethodName) ∈ G := gT3 228 rfl rfl
theorem g_710 : Jvm.Cond.instanceMethod ({ cls := "RainWalk$Leg", name := "soak", desc := "(LRainWalk$Walker;II)J" } : Jvm.MethodName) ∈ G := gT3 230 rfl rfl
theorem g_711 : Jvm.Cond.code ({ cls := "RainWalk$Leg", name := "soak", desc := "(LRainWalk$Walker;II)J" } : Jvm.MethodName) prog_3_method_6_code (7 : Nat) (Option.some Jvm.ClassFile.FieldType.long) ∈ G := gT3 231 rfl rfl
theorem g_712 : Jvm.Cond.methodLink "RainWalk$Leg" (74 : Nat) ({ cls := "RainWalk$Leg", name := "isForward", desc := "(LRainWalk$Walker;)Z" } : Jvm.MethodName) ∈ G := gT3 232 rfl rfl
theorem g_713 : Jvm.Cond.instanceMethod ({ cls := "RainWalk$Leg", name := "isForward", desc := "(LRainWalk$Walker;)Z" } : Jvm.MethodName) ∈ G := gT3 233 rfl rfl
theorem g_714 : Jvm.Cond.selects "RainWalk$Leg" ({ cls := "RainWalk$Leg", name := "isForward", desc := "(LRainWalk$Walker;)Z" } : Jvm.MethodName) ({ cls := "RainWalk$Leg", name := "isForward", desc := "(LRainWalk$Walker;)Z" } : Jvm.MethodName) ∈ G := gT3 234 rfl rfl
theorem g_715 : Jvm.Cond.code ({ cls := "RainWalk$Leg", name := "isForward", desc := "(LRainWalk$Walker;)Z" } : Jvm.MethodName) prog_3_method_3_code (6 : Nat) (Option.some Jvm.ClassFile.FieldType.boolean) ∈ G := gT3 235 rfl rfl
theorem g_716 : Jvm.Cond.methodLink "RainWalk$Leg" (51 : Nat) ({ cls := "RainWalk$Walker", name := "shield", desc := "()I" } : Jvm.MethodName) ∈ G := gT3 236 rfl rfl
theorem g_717 : Jvm.Cond.instanceMethod ({ cls := "RainWalk$Walker", name := "shield", desc := "()I" } : Jvm.MethodName) ∈ G := gT3 237 rfl rfl
theorem g_718 : Jvm.Cond.selects "RainWalk$Walker" ({ cls := "RainWalk$Walker", name := "shield", desc := "()I" } : Jvm.MethodName) ({ cls := "RainWalk$Walker", name := "shield", desc := "()I" } : Jvm.MethodName) ∈ G := gT3 238 rfl rfl
theorem g_719 : Jvm.Cond.code ({ cls := "RainWalk$Walker", name := "shield", desc := "()I" } : Jvm.MethodName) prog_8_method_4_code (1 : Nat) (Option.some Jvm.ClassFile.FieldType.int) ∈ G := gT3 239 rfl rfl
theorem g_720 : Jvm.Cond.methodLink "RainWalk$Leg" (60 : Nat) ({ cls := "java/lang/Math", name := "min", desc := "(II)I" } : Jvm.MethodName) ∈ G := gT4 0 rfl rfl
theorem g_721 : Jvm.Cond.constantLong "RainWalk" (128 : Nat) (2520 : Int64) ∈ G := gT4 1 rfl rfl
theorem g_722 : Jvm.Cond.methodLink "RainWalk" (130 : Nat) ({ cls := "RainWalk", name := "fraction", desc := "(JJZ)J" } : Jvm.MethodName) ∈ G := gT4 2 rfl rfl
theorem g_723 : Jvm.Cond.static ({ cls := "RainWalk", name := "fraction", desc := "(JJZ)J" } : Jvm.MethodName) ∈ G := gT4 3 rfl rfl
theorem g_724 : Jvm.Cond.code ({ cls := "RainWalk", name := "fraction", desc := "(JJZ)J" } : Jvm.MethodName) prog_1_method_29_code (7 : Nat) (Option.some Jvm.ClassFile.FieldType.long) ∈ G := gT4 4 rfl rfl
theorem g_725 : Jvm.Cond.methodLink "RainWalk" (209 : Nat) ({ cls := "RainWalk", name := "commonDivisor", desc := "(JJ)J" } : Jvm.MethodName) ∈ G := gT4 5 rfl rfl
theorem g_726 : Jvm.Cond.static ({ cls := "RainWalk", name := "commonDivisor", desc := "(JJ)J" } : Jvm.MethodName) ∈ G := gT4 6 rfl rfl
theorem g_727 : Jvm.Cond.code ({ cls := "RainWalk", name := "commonDivisor", desc := "(JJ)J" } : Jvm.MethodName) prog_1_method_30_code (11 : Nat) (Option.some Jvm.ClassFile.FieldType.long) ∈ G := gT4 7 rfl rfl
theorem g_728 : Jvm.Cond.methodLink "RainWalkLaw" (42 : Nat) ({ cls := "RainWalk", name := "wet", desc := "(IIIIIZ)J" } : Jvm.MethodName) ∈ G := gT4 8 rfl rfl
theorem g_729 : Jvm.Cond.instanceMethod ({ cls := "RainWalk", name := "wet", desc := "(IIIIIZ)J" } : Jvm.MethodName) ∈ G := gT4 9 rfl rfl
theorem g_730 : Jvm.Cond.selects "RainWalk" ({ cls := "RainWalk", name := "wet", desc := "(IIIIIZ)J" } : Jvm.MethodName) ({ cls := "RainWalk", name := "wet", desc := "(IIIIIZ)J" } : Jvm.MethodName) ∈ G := gT4 10 rfl rfl
theorem g_731 : Jvm.Cond.code ({ cls := "RainWalk", name := "wet", desc := "(IIIIIZ)J" } : Jvm.MethodName) prog_1_method_11_code (7 : Nat) (Option.some Jvm.ClassFile.FieldType.long) ∈ G := gT4 11 rfl rfl
theorem g_732 : Jvm.Cond.methodLink "RainWalkLaw" (47 : Nat) ({ cls := "RainWalk", name := "mean", desc := "(IIIIIZ)J" } : Jvm.MethodName) ∈ G := gT4 12 rfl rfl
theorem g_733 : Jvm.Cond.instanceMethod ({ cls := "RainWalk", name := "mean", desc := "(IIIIIZ)J" } : Jvm.MethodName) ∈ G := gT4 13 rfl rfl
theorem g_734 : Jvm.Cond.selects "RainWalk" ({ cls := "RainWalk", name := "mean", desc := "(IIIIIZ)J" } : Jvm.MethodName) ({ cls := "RainWalk", name := "mean", desc := "(IIIIIZ)J" } : Jvm.MethodName) ∈ G := gT4 14 rfl rfl
theorem g_735 : Jvm.Cond.code ({ cls := "RainWalk", name := "mean", desc := "(IIIIIZ)J" } : Jvm.MethodName) prog_1_method_12_code (9 : Nat) (Option.some Jvm.ClassFile.FieldType.long) ∈ G := gT4 15 rfl rfl
theorem g_736 : Jvm.Cond.constantLong "RainWalk" (139 : Nat) (252000 : Int64) ∈ G := gT4 16 rfl rfl
theorem g_737 : Jvm.Cond.methodLink "RainWalkLaw" (51 : Nat) ({ cls := "RainWalk", name := "minutes", desc := "(III)I" } : Jvm.MethodName) ∈ G := gT4 17 rfl rfl
theorem g_738 : Jvm.Cond.instanceMethod ({ cls := "RainWalk", name := "minutes", desc := "(III)I" } : Jvm.MethodName) ∈ G := gT4 18 rfl rfl
theorem g_739 : Jvm.Cond.selects "RainWalk" ({ cls := "RainWalk", name := "minutes", desc := "(III)I" } : Jvm.MethodName) ({ cls := "RainWalk", name := "minutes", desc := "(III)I" } : Jvm.MethodName) ∈ G := gT4 19 rfl rfl
theorem g_740 : Jvm.Cond.code ({ cls := "RainWalk", name := "minutes", desc := "(III)I" } : Jvm.MethodName) prog_1_method_13_code (4 : Nat) (Option.some Jvm.ClassFile.FieldType.int) ∈ G := gT4 20 rfl rfl
theorem g_741 : Jvm.Cond.methodLink "RainWalk" (152 : Nat) ({ cls := "RainWalk$Road", name := "minutesAt", desc := "(I)I" } : Jvm.MethodName) ∈ G := gT4 21 rfl rfl
theorem g_742 : Jvm.Cond.instanceMethod ({ cls := "RainWalk$Road", name := "minutesAt", desc := "(I)I" } : Jvm.MethodName) ∈ G := gT4 22 rfl rfl
theorem g_743 : Jvm.Cond.selects "RainWalk$Road" ({ cls := "RainWalk$Road", name := "minutesAt", desc := "(I)I" } : Jvm.MethodName) ({ cls := "RainWalk$Road", name := "minutesAt", desc := "(I)I" } : Jvm.MethodName) ∈ G := gT4 23 rfl rfl
theorem g_744 : Jvm.Cond.code ({ cls := "RainWalk$Road", name := "minutesAt", desc := "(I)I" } : Jvm.MethodName) prog_7_method_5_code (2 : Nat) (Option.some Jvm.ClassFile.FieldType.int) ∈ G := gT4 24 rfl rfl
theorem g_745 : Jvm.Cond.methodLink "RainWalkLaw" (56 : Nat) ({ cls := "RainWalk", name := "air", desc := "(III)I" } : Jvm.MethodName) ∈ G := gT4 25 rfl rfl
theorem g_746 : Jvm.Cond.instanceMethod ({ cls := "RainWalk", name := "air", desc := "(III)I" } : Jvm.MethodName) ∈ G := gT4 26 rfl rfl
theorem g_747 : Jvm.Cond.selects "RainWalk" ({ cls := "RainWalk", name := "air", desc := "(III)I" } : Jvm.MethodName) ({ cls := "RainWalk", name := "air", desc := "(III)I" } : Jvm.MethodName) ∈ G := gT4 27 rfl rfl
theorem g_748 : Jvm.Cond.code ({ cls := "RainWalk", name := "air", desc := "(III)I" } : Jvm.MethodName) prog_1_method_14_code (4 : Nat) (Option.some Jvm.ClassFile.FieldType.int) ∈ G := gT4 28 rfl rfl
theorem g_749 : Jvm.Cond.methodLink "RainWalk" (163 : Nat) ({ cls := "RainWalk$Road", name := "airAlong", desc := "(ILRainWalk$Rain;)I" } : Jvm.MethodName) ∈ G := gT4 29 rfl rfl
theorem g_750 : Jvm.Cond.methodLink "RainWalkLaw" (60 : Nat) ({ cls := "RainWalk", name := "held", desc := "(IIIII)I" } : Jvm.MethodName) ∈ G := gT4 30 rfl rfl
theorem g_751 : Jvm.Cond.instanceMethod ({ cls := "RainWalk", name := "held", desc := "(IIIII)I" } : Jvm.MethodName) ∈ G := gT4 31 rfl rfl
theorem g_752 : Jvm.Cond.selects "RainWalk" ({ cls := "RainWalk", name := "held", desc := "(IIIII)I" } : Jvm.MethodName) ({ cls := "RainWalk", name := "held", desc := "(IIIII)I" } : Jvm.MethodName) ∈ G := gT4 32 rfl rfl
theorem g_753 : Jvm.Cond.code ({ cls := "RainWalk", name := "held", desc := "(IIIII)I" } : Jvm.MethodName) prog_1_method_15_code (6 : Nat) (Option.some Jvm.ClassFile.FieldType.int) ∈ G := gT4 33 rfl rfl
theorem g_754 : Jvm.Cond.methodLink "RainWalk" (170 : Nat) ({ cls := "RainWalk$Leg", name := "lay", desc := "(LRainWalk$Road;ILRainWalk$Rain;I)V" } : Jvm.MethodName) ∈ G := gT4 34 rfl rfl
theorem g_755 : Jvm.Cond.methodLink "RainWalk" (174 : Nat) ({ cls := "RainWalk$Leg", name := "isForward", desc := "(LRainWalk$Walker;)Z" } : Jvm.MethodName) ∈ G := gT4 35 rfl rfl
theorem g_756 : Jvm.Cond.methodLink "RainWalkLaw" (64 : Nat) ({ cls := "RainWalk", name := "best", desc := "(IIII)I" } : Jvm.MethodName) ∈ G := gT4 36 rfl rfl
theorem g_757 : Jvm.Cond.instanceMethod ({ cls := "RainWalk", name := "best", desc := "(IIII)I" } : Jvm.MethodName) ∈ G := gT4 37 rfl rfl
theorem g_758 : Jvm.Cond.selects "RainWalk" ({ cls := "RainWalk", name := "best", desc := "(IIII)I" } : Jvm.MethodName) ({ cls := "RainWalk", name := "best", desc := "(IIII)I" } : Jvm.MethodName) ∈ G := gT4 38 rfl rfl
theorem g_759 : Jvm.Cond.code ({ cls := "RainWalk", name := "best", desc := "(IIII)I" } : Jvm.MethodName) prog_1_method_16_code (5 : Nat) (Option.some Jvm.ClassFile.FieldType.int) ∈ G := gT4 39 rfl rfl
theorem g_760 : Jvm.Cond.methodLink "RainWalk" (182 : Nat) ({ cls := "RainWalk$Leg", name := "bestSpeed", desc := "(LRainWalk$Walker;LRainWalk$Road;ILRainWalk$Rain;)I" } : Jvm.MethodName) ∈ G := gT4 40 rfl rfl
theorem g_761 : Jvm.Cond.instanceMethod ({ cls := "RainWalk$Leg", name := "bestSpeed", desc := "(LRainWalk$Walker;LRainWalk$Road;ILRainWalk$Rain;)I" } : Jvm.MethodName) ∈ G := gT4 41 rfl rfl
theorem g_762 : Jvm.Cond.selects "RainWalk$Leg" ({ cls := "RainWalk$Leg", name := "bestSpeed", desc := "(LRainWalk$Walker;LRainWalk$Road;ILRainWalk$Rain;)I" } : Jvm.MethodName) ({ cls := "RainWalk$Leg", name := "bestSpeed", desc := "(LRainWalk$Walker;LRainWalk$Road;ILRainWalk$Rain;)I" } : Jvm.MethodName) ∈ G := gT4 42 rfl rfl
theorem g_763 : Jvm.Cond.code ({ cls := "RainWalk$Leg", name := "bestSpeed", desc := "(LRainWalk$Walker;LRainWalk$Road;ILRainWalk$Rain;)I" } : Jvm.MethodName) prog_3_method_7_code (11 : Nat) (Option.some Jvm.ClassFile.FieldType.int) ∈ G := gT4 43 rfl rfl
theorem g_764 : Jvm.Cond.constantLong "RainWalk$Leg" (84 : Nat) (4611686018427387904 : Int64) ∈ G := gT4 44 rfl rfl
theorem g_765 : Jvm.Cond.methodLink "RainWalk$Leg" (89 : Nat) ({ cls := "RainWalk$Leg", name := "wetOf", desc := "(LRainWalk$Walker;LRainWalk$Road;ILRainWalk$Rain;I)J" } : Jvm.MethodName) ∈ G := gT4 45 rfl rfl
theorem g_766 : Jvm.Cond.methodLink "RainWalkLaw" (69 : Nat) ({ cls := "RainWalk", name := "saves", desc := "(IIIIZ)J" } : Jvm.MethodName) ∈ G := gT4 46 rfl rfl
theorem g_767 : Jvm.Cond.instanceMethod ({ cls := "RainWalk", name := "saves", desc := "(IIIIZ)J" } : Jvm.MethodName) ∈ G := gT4 47 rfl rfl
theorem g_768 : Jvm.Cond.selects "RainWalk" ({ cls := "RainWalk", name := "saves", desc := "(IIIIZ)J" } : Jvm.MethodName) ({ cls := "RainWalk", name := "saves", desc := "(IIIIZ)J" } : Jvm.MethodName) ∈ G := gT4 48 rfl rfl
theorem g_769 : Jvm.Cond.code ({ cls := "RainWalk", name := "saves", desc := "(IIIIZ)J" } : Jvm.MethodName) prog_1_method_17_code (9 : Nat) (Option.some Jvm.ClassFile.FieldType.long) ∈ G := gT4 49 rfl rfl
theorem g_770 : Jvm.Cond.methodLink "RainWalk" (189 : Nat) ({ cls := "RainWalk$Leg", name := "leastWet", desc := "(LRainWalk$Walker;LRainWalk$Road;ILRainWalk$Rain;)J" } : Jvm.MethodName) ∈ G := gT4 50 rfl rfl
theorem g_771 : Jvm.Cond.instanceMethod ({ cls := "RainWalk$Leg", name := "leastWet", desc := "(LRainWalk$Walker;LRainWalk$Road;ILRainWalk$Rain;)J" } : Jvm.MethodName) ∈ G := gT4 51 rfl rfl
theorem g_772 : Jvm.Cond.selects "RainWalk$Leg" ({ cls := "RainWalk$Leg", name := "leastWet", desc := "(LRainWalk$Walker;LRainWalk$Road;ILRainWalk$Rain;)J" } : Jvm.MethodName) ({ cls := "RainWalk$Leg", name := "leastWet", desc := "(LRainWalk$Walker;LRainWalk$Road;ILRainWalk$Rain;)J" } : Jvm.MethodName) ∈ G := gT4 52 rfl rfl
theorem g_773 : Jvm.Cond.code ({ cls := "RainWalk$Leg", name := "leastWet", desc := "(LRainWalk$Walker;LRainWalk$Road;ILRainWalk$Rain;)J" } : Jvm.MethodName) prog_3_method_9_code (5 : Nat) (Option.some Jvm.ClassFile.FieldType.long) ∈ G := gT4 53 rfl rfl
theorem g_774 : Jvm.Cond.methodLink "RainWalk$Leg" (95 : Nat) ({ cls := "RainWalk$Leg", name := "bestSpeed", desc := "(LRainWalk$Walker;LRainWalk$Road;ILRainWalk$Rain;)I" } : Jvm.MethodName) ∈ G := gT4 54 rfl rfl
theorem g_775 : Jvm.Cond.methodLink "RainWalkLaw" (74 : Nat) ({ cls := "RainWalk", name := "worst", desc := "(IIII)I" } : Jvm.MethodName) ∈ G := gT4 55 rfl rfl
theorem g_776 : Jvm.Cond.instanceMethod ({ cls := "RainWalk", name := "worst", desc := "(IIII)I" } : Jvm.MethodName) ∈ G := gT4 56 rfl rfl
theorem g_777 : Jvm.Cond.selects "RainWalk" ({ cls := "RainWalk", name := "worst", desc := "(IIII)I" } : Jvm.MethodName) ({ cls := "RainWalk", name := "worst", desc := "(IIII)I" } : Jvm.MethodName) ∈ G := gT4 57 rfl rfl
theorem g_778 : Jvm.Cond.code ({ cls := "RainWalk", name := "worst", desc := "(IIII)I" } : Jvm.MethodName) prog_1_method_18_code (5 : Nat) (Option.some Jvm.ClassFile.FieldType.int) ∈ G := gT4 58 rfl rfl
theorem g_779 : Jvm.Cond.methodLink "RainWalk" (193 : Nat) ({ cls := "RainWalk$Leg", name := "worstSpeed", desc := "(LRainWalk$Walker;LRainWalk$Road;ILRainWalk$Rain;)I" } : Jvm.MethodName) ∈ G := gT4 59 rfl rfl
theorem g_780 : Jvm.Cond.instanceMethod ({ cls := "RainWalk$Leg", name := "worstSpeed", desc := "(LRainWalk$Walker;LRainWalk$Road;ILRainWalk$Rain;)I" } : Jvm.MethodName) ∈ G := gT4 60 rfl rfl
theorem g_781 : Jvm.Cond.selects "RainWalk$Leg" ({ cls := "RainWalk$Leg", name := "worstSpeed", desc := "(LRainWalk$Walker;LRainWalk$Road;ILRainWalk$Rain;)I" } : Jvm.MethodName) ({ cls := "RainWalk$Leg", name := "worstSpeed", desc := "(LRainWalk$Walker;LRainWalk$Road;ILRainWalk$Rain;)I" } : Jvm.MethodName) ∈ G := gT4 61 rfl rfl
theorem g_782 : Jvm.Cond.code ({ cls := "RainWalk$Leg", name := "worstSpeed", desc := "(LRainWalk$Walker;LRainWalk$Road;ILRainWalk$Rain;)I" } : Jvm.MethodName) prog_3_method_8_code (11 : Nat) (Option.some Jvm.ClassFile.FieldType.int) ∈ G := gT4 62 rfl rfl
theorem g_783 : Jvm.Cond.constantLong "RainWalk$Leg" (93 : Nat) (-1 : Int64) ∈ G := gT4 63 rfl rfl
theorem g_784 : Jvm.Cond.methodLink "RainWalkLaw" (78 : Nat) ({ cls := "RainWalk", name := "even", desc := "(IIII)I" } : Jvm.MethodName) ∈ G := gT4 64 rfl rfl
theorem g_785 : Jvm.Cond.instanceMethod ({ cls := "RainWalk", name := "even", desc := "(IIII)I" } : Jvm.MethodName) ∈ G := gT4 65 rfl rfl
theorem g_786 : Jvm.Cond.selects "RainWalk" ({ cls := "RainWalk", name := "even", desc := "(IIII)I" } : Jvm.MethodName) ({ cls := "RainWalk", name := "even", desc := "(IIII)I" } : Jvm.MethodName) ∈ G := gT4 66 rfl rfl
theorem g_787 : Jvm.Cond.code ({ cls := "RainWalk", name := "even", desc := "(IIII)I" } : Jvm.MethodName) prog_1_method_19_code (9 : Nat) (Option.some Jvm.ClassFile.FieldType.int) ∈ G := gT4 67 rfl rfl
theorem g_788 : Jvm.Cond.methodLink "RainWalkLaw" (82 : Nat) ({ cls := "RainWalk", name := "round", desc := "(IIIZ)J" } : Jvm.MethodName) ∈ G := gT4 68 rfl rfl
theorem g_789 : Jvm.Cond.instanceMethod ({ cls := "RainWalk", name := "round", desc := "(IIIZ)J" } : Jvm.MethodName) ∈ G := gT4 69 rfl rfl
theorem g_790 : Jvm.Cond.selects "RainWalk" ({ cls := "RainWalk", name := "round", desc := "(IIIZ)J" } : Jvm.MethodName) ({ cls := "RainWalk", name := "round", desc := "(IIIZ)J" } : Jvm.MethodName) ∈ G := gT4 70 rfl rfl
theorem g_791 : Jvm.Cond.code ({ cls := "RainWalk", name := "round", desc := "(IIIZ)J" } : Jvm.MethodName) prog_1_method_20_code (9 : Nat) (Option.some Jvm.ClassFile.FieldType.long) ∈ G := gT4 71 rfl rfl
theorem g_792 : Jvm.Cond.methodLink "RainWalkLaw" (87 : Nat) ({ cls := "RainWalk", name := "driest", desc := "(III)I" } : Jvm.MethodName) ∈ G := gT4 72 rfl rfl
theorem g_793 : Jvm.Cond.instanceMethod ({ cls := "RainWalk", name := "driest", desc := "(III)I" } : Jvm.MethodName) ∈ G := gT4 73 rfl rfl
theorem g_794 : Jvm.Cond.selects "RainWalk" ({ cls := "RainWalk", name := "driest", desc := "(III)I" } : Jvm.MethodName) ({ cls := "RainWalk", name := "driest", desc := "(III)I" } : Jvm.MethodName) ∈ G := gT4 74 rfl rfl
theorem g_795 : Jvm.Cond.code ({ cls := "RainWalk", name := "driest", desc := "(III)I" } : Jvm.MethodName) prog_1_method_21_code (11 : Nat) (Option.some Jvm.ClassFile.FieldType.int) ∈ G := gT4 75 rfl rfl
theorem g_796 : Jvm.Cond.constantLong "RainWalk" (199 : Nat) (4611686018427387904 : Int64) ∈ G := gT4 76 rfl rfl
theorem g_797 : Jvm.Cond.methodLink "RainWalkLaw" (91 : Nat) ({ cls := "RainWalk", name := "lee", desc := "(IIIIIIZ)J" } : Jvm.MethodName) ∈ G := gT4 77 rfl rfl
theorem g_798 : Jvm.Cond.instanceMethod ({ cls := "RainWalk", name := "lee", desc := "(IIIIIIZ)J" } : Jvm.MethodName) ∈ G := gT4 78 rfl rfl
theorem g_799 : Jvm.Cond.selects "RainWalk" ({ cls := "RainWalk", name := "lee", desc := "(IIIIIIZ)J" } : Jvm.MethodName) ({ cls := "RainWalk", name := "lee", desc := "(IIIIIIZ)J" } : Jvm.MethodName) ∈ G := gT4 79 rfl rfl
theorem g_800 : Jvm.Cond.code ({ cls := "RainWalk", name := "lee", desc := "(IIIIIIZ)J" } : Jvm.MethodName) prog_1_method_22_code (8 : Nat) (Option.some Jvm.ClassFile.FieldType.long) ∈ G := gT4 80 rfl rfl
theorem g_801 : Jvm.Cond.methodLink "RainWalk" (201 : Nat) ({ cls := "RainWalk", name := "leeTrouble", desc := "(IIIIII)I" } : Jvm.MethodName) ∈ G := gT4 81 rfl rfl
theorem g_803 : Jvm.Cond.instanceMethod ({ cls := "RainWalk", name := "leeTrouble", desc := "(IIIIII)I" } : Jvm.MethodName) ∈ G := gT4 83 rfl rfl
theorem g_804 : Jvm.Cond.code ({ cls := "RainWalk", name := "leeTrouble", desc := "(IIIIII)I" } : Jvm.MethodName) prog_1_method_26_code (8 : Nat) (Option.some Jvm.ClassFile.FieldType.int) ∈ G := gT4 84 rfl rfl
theorem g_805 : Jvm.Cond.methodLink "RainWalk" (205 : Nat) ({ cls := "RainWalk$Leg", name := "wetInLee", desc := "(LRainWalk$Walker;LRainWalk$Walker;)J" } : Jvm.MethodName) ∈ G := gT4 85 rfl rfl
theorem g_806 : Jvm.Cond.instanceMethod ({ cls := "RainWalk$Leg", name := "wetInLee", desc := "(LRainWalk$Walker;LRainWalk$Walker;)J" } : Jvm.MethodName) ∈ G := gT4 86 rfl rfl
theorem g_807 : Jvm.Cond.selects "RainWalk$Leg" ({ cls := "RainWalk$Leg", name := "wetInLee", desc := "(LRainWalk$Walker;LRainWalk$Walker;)J" } : Jvm.MethodName) ({ cls := "RainWalk$Leg", name := "wetInLee", desc := "(LRainWalk$Walker;LRainWalk$Walker;)J" } : Jvm.MethodName) ∈ G := gT4 87 rfl rfl
theorem g_808 : Jvm.Cond.code ({ cls := "RainWalk$Leg", name := "wetInLee", desc := "(LRainWalk$Walker;LRainWalk$Walker;)J" } : Jvm.MethodName) prog_3_method_5_code (3 : Nat) (Option.some Jvm.ClassFile.FieldType.long) ∈ G := gT4 88 rfl rfl
theorem g_809 : Jvm.Cond.methodLink "RainWalkLaw" (95 : Nat) ({ cls := "RainWalk", name := "first", desc := "(IIIIII)I" } : Jvm.MethodName) ∈ G := gT4 89 rfl rfl
theorem g_810 : Jvm.Cond.instanceMethod ({ cls := "RainWalk", name := "first", desc := "(IIIIII)I" } : Jvm.MethodName) ∈ G := gT4 90 rfl rfl
theorem g_811 : Jvm.Cond.selects "RainWalk" ({ cls := "RainWalk", name := "first", desc := "(IIIIII)I" } : Jvm.MethodName) ({ cls := "RainWalk", name := "first", desc := "(IIIIII)I" } : Jvm.MethodName) ∈ G := gT4 91 rfl rfl
theorem g_812 : Jvm.Cond.code ({ cls := "RainWalk", name := "first", desc := "(IIIIII)I" } : Jvm.MethodName) prog_1_method_23_code (11 : Nat) (Option.some Jvm.ClassFile.FieldType.int) ∈ G := gT4 92 rfl rfl
theorem g_813 : Jvm.Cond.methodLink "RainWalkLaw" (100 : Nat) ({ cls := "RainWalk", name := "least", desc := "(IIIIIZ)J" } : Jvm.MethodName) ∈ G := gT4 93 rfl rfl
theorem g_814 : Jvm.Cond.instanceMethod ({ cls := "RainWalk", name := "least", desc := "(IIIIIZ)J" } : Jvm.MethodName) ∈ G := gT4 94 rfl rfl
theorem g_815 : Jvm.Cond.selects "RainWalk" ({ cls := "RainWalk", name := "least", desc := "(IIIIIZ)J" } : Jvm.MethodName) ({ cls := "RainWalk", name := "least", desc := "(IIIIIZ)J" } : Jvm.MethodName) ∈ G := gT4 95 rfl rfl
theorem g_816 : Jvm.Cond.code ({ cls := "RainWalk", name := "least", desc := "(IIIIIZ)J" } : Jvm.MethodName) prog_1_method_31_code (7 : Nat) (Option.some Jvm.ClassFile.FieldType.long) ∈ G := gT4 96 rfl rfl
theorem g_817 : Jvm.Cond.methodLink "RainWalk" (213 : Nat) ({ cls := "RainWalk", name := "wayTrouble", desc := "(IIIII)I" } : Jvm.MethodName) ∈ G := gT4 97 rfl rfl
theorem g_819 : Jvm.Cond.instanceMethod ({ cls := "RainWalk", name := "wayTrouble", desc := "(IIIII)I" } : Jvm.MethodName) ∈ G := gT4 99 rfl rfl
theorem g_820 : Jvm.Cond.code ({ cls := "RainWalk", name := "wayTrouble", desc := "(IIIII)I" } : Jvm.MethodName) prog_1_method_38_code (7 : Nat) (Option.some Jvm.ClassFile.FieldType.int) ∈ G := gT4 100 rfl rfl
theorem g_821 : Jvm.Cond.methodLink "RainWalk" (232 : Nat) ({ cls := "RainWalk", name := "placesTrouble", desc := "(III)I" } : Jvm.MethodName) ∈ G := gT4 101 rfl rfl
theorem g_823 : Jvm.Cond.instanceMethod ({ cls := "RainWalk", name := "placesTrouble", desc := "(III)I" } : Jvm.MethodName) ∈ G := gT4 103 rfl rfl
theorem g_824 : Jvm.Cond.code ({ cls := "RainWalk", name := "placesTrouble", desc := "(III)I" } : Jvm.MethodName) prog_1_method_36_code (5 : Nat) (Option.some Jvm.ClassFile.FieldType.int) ∈ G := gT4 104 rfl rfl
theorem g_825 : Jvm.Cond.methodLink "RainWalk" (247 : Nat) ({ cls := "RainWalk$World", name := "hasPlace", desc := "(I)Z" } : Jvm.MethodName) ∈ G := gT4 105 rfl rfl
theorem g_826 : Jvm.Cond.instanceMethod ({ cls := "RainWalk$World", name := "hasPlace", desc := "(I)Z" } : Jvm.MethodName) ∈ G := gT4 106 rfl rfl
theorem g_827 : Jvm.Cond.selects "RainWalk$World" ({ cls := "RainWalk$World", name := "hasPlace", desc := "(I)Z" } : Jvm.MethodName) ({ cls := "RainWalk$World", name := "hasPlace", desc := "(I)Z" } : Jvm.MethodName) ∈ G := gT4 107 rfl rfl
theorem g_828 : Jvm.Cond.code ({ cls := "RainWalk$World", name := "hasPlace", desc := "(I)Z" } : Jvm.MethodName) prog_10_method_5_code (2 : Nat) (Option.some Jvm.ClassFile.FieldType.boolean) ∈ G := gT4 108 rfl rfl
theorem g_829 : Jvm.Cond.methodLink "RainWalk" (236 : Nat) ({ cls := "RainWalk", name := "isTill", desc := "(I)Z" } : Jvm.MethodName) ∈ G := gT4 109 rfl rfl
theorem g_830 : Jvm.Cond.static ({ cls := "RainWalk", name := "isTill", desc := "(I)Z" } : Jvm.MethodName) ∈ G := gT4 110 rfl rfl
theorem g_831 : Jvm.Cond.code ({ cls := "RainWalk", name := "isTill", desc := "(I)Z" } : Jvm.MethodName) prog_1_method_37_code (1 : Nat) (Option.some Jvm.ClassFile.FieldType.boolean) ∈ G := gT4 111 rfl rfl
theorem g_832 : Jvm.Cond.methodLink "RainWalk" (239 : Nat) ({ cls := "RainWalk$Ways", name := "reckon", desc := "(LRainWalk$World;LRainWalk$Leg;IIII)V" } : Jvm.MethodName) ∈ G := gT4 112 rfl rfl
theorem g_833 : Jvm.Cond.instanceMethod ({ cls := "RainWalk$Ways", name := "reckon", desc := "(LRainWalk$World;LRainWalk$Leg;IIII)V" } : Jvm.MethodName) ∈ G := gT4 113 rfl rfl
theorem g_834 : Jvm.Cond.selects "RainWalk$Ways" ({ cls := "RainWalk$Ways", name := "reckon", desc := "(LRainWalk$World;LRainWalk$Leg;IIII)V" } : Jvm.MethodName) ({ cls := "RainWalk$Ways", name := "reckon", desc := "(LRainWalk$World;LRainWalk$Leg;IIII)V" } : Jvm.MethodName) ∈ G := gT4 114 rfl rfl
theorem g_835 : Jvm.Cond.code ({ cls := "RainWalk$Ways", name := "reckon", desc := "(LRainWalk$World;LRainWalk$Leg;IIII)V" } : Jvm.MethodName) prog_9_method_4_code (9 : Nat) (Option.none : Option Jvm.ClassFile.FieldType) ∈ G := gT4 115 rfl rfl
theorem g_836 : Jvm.Cond.methodLink "RainWalk$Ways" (50 : Nat) ({ cls := "RainWalk$Ways", name := "makeRows", desc := "()V" } : Jvm.MethodName) ∈ G := gT4 116 rfl rfl
theorem g_838 : Jvm.Cond.instanceMethod ({ cls := "RainWalk$Ways", name := "makeRows", desc := "()V" } : Jvm.MethodName) ∈ G := gT4 118 rfl rfl
theorem g_839 : Jvm.Cond.code ({ cls := "RainWalk$Ways", name := "makeRows", desc := "()V" } : Jvm.MethodName) prog_9_method_3_code (1 : Nat) (Option.none : Option Jvm.ClassFile.FieldType) ∈ G := gT4 119 rfl rfl
theorem g_840 : Jvm.Cond.methodLink "RainWalk$Ways" (56 : Nat) ({ cls := "RainWalk$World", name := "hourOf", desc := "(I)I" } : Jvm.MethodName) ∈ G := gT4 120 rfl rfl
theorem g_841 : Jvm.Cond.instanceMethod ({ cls := "RainWalk$World", name := "hourOf", desc := "(I)I" } : Jvm.MethodName) ∈ G := gT4 121 rfl rfl
theorem g_842 : Jvm.Cond.selects "RainWalk$World" ({ cls := "RainWalk$World", name := "hourOf", desc := "(I)I" } : Jvm.MethodName) ({ cls := "RainWalk$World", name := "hourOf", desc := "(I)I" } : Jvm.MethodName) ∈ G := gT4 122 rfl rfl
theorem g_843 : Jvm.Cond.code ({ cls := "RainWalk$World", name := "hourOf", desc := "(I)I" } : Jvm.MethodName) prog_10_method_9_code (2 : Nat) (Option.some Jvm.ClassFile.FieldType.int) ∈ G := gT4 123 rfl rfl
theorem g_844 : Jvm.Cond.methodLink "RainWalk$Ways" (65 : Nat) ({ cls := "java/lang/Math", name := "min", desc := "(II)I" } : Jvm.MethodName) ∈ G := gT4 124 rfl rfl
theorem g_845 : Jvm.Cond.methodLink "RainWalk$Ways" (71 : Nat) ({ cls := "RainWalk$Ways", name := "price", desc := "(LRainWalk$World;LRainWalk$Leg;I)V" } : Jvm.MethodName) ∈ G := gT4 125 rfl rfl
theorem g_847 : Jvm.Cond.instanceMethod ({ cls := "RainWalk$Ways", name := "price", desc := "(LRainWalk$World;LRainWalk$Leg;I)V" } : Jvm.MethodName) ∈ G := gT4 127 rfl rfl
theorem g_848 : Jvm.Cond.code ({ cls := "RainWalk$Ways", name := "price", desc := "(LRainWalk$World;LRainWalk$Leg;I)V" } : Jvm.MethodName) prog_9_method_5_code (12 : Nat) (Option.none : Option Jvm.ClassFile.FieldType) ∈ G := gT4 128 rfl rfl
theorem g_849 : Jvm.Cond.methodLink "RainWalk$Ways" (85 : Nat) ({ cls := "RainWalk$World", name := "hasWalker", desc := "(I)Z" } : Jvm.MethodName) ∈ G := gT4 129 rfl rfl
theorem g_850 : Jvm.Cond.methodLink "RainWalk$Ways" (92 : Nat) ({ cls := "RainWalk$World", name := "hasHour", desc := "(I)Z" } : Jvm.MethodName) ∈ G := gT4 130 rfl rfl
theorem g_851 : Jvm.Cond.methodLink "RainWalk$Ways" (114 : Nat) ({ cls := "RainWalk$Leg", name := "wetOf", desc := "(LRainWalk$Walker;LRainWalk$Road;ILRainWalk$Rain;I)J" } : Jvm.MethodName) ∈ G := gT4 131 rfl rfl
theorem g_852 : Jvm.Cond.methodLink "RainWalk$Ways" (125 : Nat) ({ cls := "RainWalk$Ways", name := "addLeg", desc := "(LRainWalk$Road;IIJI)V" } : Jvm.MethodName) ∈ G := gT4 132 rfl rfl
theorem g_854 : Jvm.Cond.instanceMethod ({ cls := "RainWalk$Ways", name := "addLeg", desc := "(LRainWalk$Road;IIJI)V" } : Jvm.MethodName) ∈ G := gT4 134 rfl rfl
theorem g_855 : Jvm.Cond.code ({ cls := "RainWalk$Ways", name := "addLeg", desc := "(LRainWalk$Road;IIJI)V" } : Jvm.MethodName) prog_9_method_6_code (9 : Nat) (Option.none : Option Jvm.ClassFile.FieldType) ∈ G := gT4 135 rfl rfl
theorem g_856 : Jvm.Cond.methodLink "RainWalk$Ways" (142 : Nat) ({ cls := "RainWalk$Road", name := "minutesAt", desc := "(I)I" } : Jvm.MethodName) ∈ G := gT4 136 rfl rfl
theorem g_857 : Jvm.Cond.constantLong "RainWalk$Ways" (147 : Nat) (512 : Int64) ∈ G := gT4 137 rfl rfl
theorem g_858 : Jvm.Cond.methodLink "RainWalk$Ways" (149 : Nat) ({ cls := "RainWalk$Road", name := "startOf", desc := "(I)I" } : Jvm.MethodName) ∈ G := gT4 138 rfl rfl
theorem g_859 : Jvm.Cond.instanceMethod ({ cls := "RainWalk$Road", name := "startOf", desc := "(I)I" } : Jvm.MethodName) ∈ G := gT4 139 rfl rfl
theorem g_860 : Jvm.Cond.selects "RainWalk$Road" ({ cls := "RainWalk$Road", name := "startOf", desc := "(I)I" } : Jvm.MethodName) ({ cls := "RainWalk$Road", name := "startOf", desc := "(I)I" } : Jvm.MethodName) ∈ G := gT4 140 rfl rfl
theorem g_861 : Jvm.Cond.code ({ cls := "RainWalk$Road", name := "startOf", desc := "(I)I" } : Jvm.MethodName) prog_7_method_2_code (2 : Nat) (Option.some Jvm.ClassFile.FieldType.int) ∈ G := gT4 141 rfl rfl
theorem g_862 : Jvm.Cond.methodLink "RainWalk$Ways" (152 : Nat) ({ cls := "RainWalk$Road", name := "endOf", desc := "(I)I" } : Jvm.MethodName) ∈ G := gT4 142 rfl rfl
theorem g_863 : Jvm.Cond.instanceMethod ({ cls := "RainWalk$Road", name := "endOf", desc := "(I)I" } : Jvm.MethodName) ∈ G := gT4 143 rfl rfl
theorem g_864 : Jvm.Cond.selects "RainWalk$Road" ({ cls := "RainWalk$Road", name := "endOf", desc := "(I)I" } : Jvm.MethodName) ({ cls := "RainWalk$Road", name := "endOf", desc := "(I)I" } : Jvm.MethodName) ∈ G := gT4 144 rfl rfl
theorem g_865 : Jvm.Cond.code ({ cls := "RainWalk$Road", name := "endOf", desc := "(I)I" } : Jvm.MethodName) prog_7_method_3_code (2 : Nat) (Option.some Jvm.ClassFile.FieldType.int) ∈ G := gT4 145 rfl rfl
theorem g_866 : Jvm.Cond.methodLink "RainWalk$Ways" (138 : Nat) ({ cls := "RainWalk$Ways", name := "addMove", desc := "(IIIJI)V" } : Jvm.MethodName) ∈ G := gT4 146 rfl rfl
theorem g_868 : Jvm.Cond.instanceMethod ({ cls := "RainWalk$Ways", name := "addMove", desc := "(IIIJI)V" } : Jvm.MethodName) ∈ G := gT4 148 rfl rfl
theorem g_869 : Jvm.Cond.code ({ cls := "RainWalk$Ways", name := "addMove", desc := "(IIIJI)V" } : Jvm.MethodName) prog_9_method_7_code (7 : Nat) (Option.none : Option Jvm.ClassFile.FieldType) ∈ G := gT4 149 rfl rfl
theorem g_870 : Jvm.Cond.methodLink "RainWalk$Ways" (129 : Nat) ({ cls := "RainWalk$World", name := "canWait", desc := "(I)Z" } : Jvm.MethodName) ∈ G := gT4 150 rfl rfl
theorem g_871 : Jvm.Cond.instanceMethod ({ cls := "RainWalk$World", name := "canWait", desc := "(I)Z" } : Jvm.MethodName) ∈ G := gT4 151 rfl rfl
theorem g_872 : Jvm.Cond.selects "RainWalk$World" ({ cls := "RainWalk$World", name := "canWait", desc := "(I)Z" } : Jvm.MethodName) ({ cls := "RainWalk$World", name := "canWait", desc := "(I)Z" } : Jvm.MethodName) ∈ G := gT4 152 rfl rfl
theorem g_873 : Jvm.Cond.code ({ cls := "RainWalk$World", name := "canWait", desc := "(I)Z" } : Jvm.MethodName) prog_10_method_10_code (2 : Nat) (Option.some Jvm.ClassFile.FieldType.boolean) ∈ G := gT4 153 rfl rfl
theorem g_874 : Jvm.Cond.methodLink "RainWalk$World" (61 : Nat) ({ cls := "RainWalk$World", name := "hasPlace", desc := "(I)Z" } : Jvm.MethodName) ∈ G := gT4 154 rfl rfl
theorem g_875 : Jvm.Cond.methodLink "RainWalk$Ways" (132 : Nat) ({ cls := "RainWalk$World", name := "dripOn", desc := "(LRainWalk$Walker;I)I" } : Jvm.MethodName) ∈ G := gT4 155 rfl rfl
theorem g_876 : Jvm.Cond.instanceMethod ({ cls := "RainWalk$World", name := "dripOn", desc := "(LRainWalk$Walker;I)I" } : Jvm.MethodName) ∈ G := gT4 156 rfl rfl
theorem g_877 : Jvm.Cond.selects "RainWalk$World" ({ cls := "RainWalk$World", name := "dripOn", desc := "(LRainWalk$Walker;I)I" } : Jvm.MethodName) ({ cls := "RainWalk$World", name := "dripOn", desc := "(LRainWalk$Walker;I)I" } : Jvm.MethodName) ∈ G := gT4 157 rfl rfl
theorem g_878 : Jvm.Cond.code ({ cls := "RainWalk$World", name := "dripOn", desc := "(LRainWalk$Walker;I)I" } : Jvm.MethodName) prog_10_method_11_code (3 : Nat) (Option.some Jvm.ClassFile.FieldType.int) ∈ G := gT4 158 rfl rfl
theorem g_879 : Jvm.Cond.methodLink "RainWalk$World" (65 : Nat) ({ cls := "RainWalk$World", name := "canWait", desc := "(I)Z" } : Jvm.MethodName) ∈ G := gT4 159 rfl rfl
theorem g_880 : Jvm.Cond.methodLink "RainWalk$World" (71 : Nat) ({ cls := "RainWalk$Walker", name := "shield", desc := "()I" } : Jvm.MethodName) ∈ G := gT4 160 rfl rfl
theorem g_881 : Jvm.Cond.methodLink "RainWalk$World" (75 : Nat) ({ cls := "java/lang/Math", name := "max", desc := "(II)I" } : Jvm.MethodName) ∈ G := gT4 161 rfl rfl
theorem g_882 : Jvm.Cond.constantLong "RainWalk$Ways" (136 : Nat) (2520 : Int64) ∈ G := gT4 162 rfl rfl
theorem g_883 : Jvm.Cond.methodLink "RainWalk$Ways" (78 : Nat) ({ cls := "RainWalk$Ways", name := "reckonMinute", desc := "(II)V" } : Jvm.MethodName) ∈ G := gT4 163 rfl rfl
theorem g_885 : Jvm.Cond.instanceMethod ({ cls := "RainWalk$Ways", name := "reckonMinute", desc := "(II)V" } : Jvm.MethodName) ∈ G := gT4 165 rfl rfl
theorem g_886 : Jvm.Cond.code ({ cls := "RainWalk$Ways", name := "reckonMinute", desc := "(II)V" } : Jvm.MethodName) prog_9_method_8_code (9 : Nat) (Option.none : Option Jvm.ClassFile.FieldType) ∈ G := gT4 166 rfl rfl
theorem g_887 : Jvm.Cond.constantLong "RainWalk$Ways" (155 : Nat) (4611686018427387904 : Int64) ∈ G := gT4 167 rfl rfl
theorem g_888 : Jvm.Cond.methodLink "RainWalk" (243 : Nat) ({ cls := "RainWalk$Ways", name := "isOpen", desc := "(II)Z" } : Jvm.MethodName) ∈ G := gT4 168 rfl rfl
theorem g_889 : Jvm.Cond.instanceMethod ({ cls := "RainWalk$Ways", name := "isOpen", desc := "(II)Z" } : Jvm.MethodName) ∈ G := gT4 169 rfl rfl
theorem g_890 : Jvm.Cond.selects "RainWalk$Ways" ({ cls := "RainWalk$Ways", name := "isOpen", desc := "(II)Z" } : Jvm.MethodName) ({ cls := "RainWalk$Ways", name := "isOpen", desc := "(II)Z" } : Jvm.MethodName) ∈ G := gT4 170 rfl rfl
theorem g_891 : Jvm.Cond.code ({ cls := "RainWalk$Ways", name := "isOpen", desc := "(II)Z" } : Jvm.MethodName) prog_9_method_10_code (3 : Nat) (Option.some Jvm.ClassFile.FieldType.boolean) ∈ G := gT4 171 rfl rfl
theorem g_892 : Jvm.Cond.methodLink "RainWalk$Ways" (157 : Nat) ({ cls := "RainWalk$Ways", name := "keyOf", desc := "(II)J" } : Jvm.MethodName) ∈ G := gT4 172 rfl rfl
theorem g_894 : Jvm.Cond.instanceMethod ({ cls := "RainWalk$Ways", name := "keyOf", desc := "(II)J" } : Jvm.MethodName) ∈ G := gT4 174 rfl rfl
theorem g_895 : Jvm.Cond.code ({ cls := "RainWalk$Ways", name := "keyOf", desc := "(II)J" } : Jvm.MethodName) prog_9_method_9_code (4 : Nat) (Option.some Jvm.ClassFile.FieldType.long) ∈ G := gT4 175 rfl rfl
theorem g_896 : Jvm.Cond.methodLink "RainWalk" (216 : Nat) ({ cls := "RainWalk$Ways", name := "meanFrom", desc := "(II)J" } : Jvm.MethodName) ∈ G := gT4 176 rfl rfl
theorem g_897 : Jvm.Cond.instanceMethod ({ cls := "RainWalk$Ways", name := "meanFrom", desc := "(II)J" } : Jvm.MethodName) ∈ G := gT4 177 rfl rfl
theorem g_898 : Jvm.Cond.selects "RainWalk$Ways" ({ cls := "RainWalk$Ways", name := "meanFrom", desc := "(II)J" } : Jvm.MethodName) ({ cls := "RainWalk$Ways", name := "meanFrom", desc := "(II)J" } : Jvm.MethodName) ∈ G := gT4 178 rfl rfl
theorem g_899 : Jvm.Cond.code ({ cls := "RainWalk$Ways", name := "meanFrom", desc := "(II)J" } : Jvm.MethodName) prog_9_method_11_code (3 : Nat) (Option.some Jvm.ClassFile.FieldType.long) ∈ G := gT4 179 rfl rfl
theorem g_900 : Jvm.Cond.methodLink "RainWalkLaw" (104 : Nat) ({ cls := "RainWalk", name := "there", desc := "(IIIII)I" } : Jvm.MethodName) ∈ G := gT4 180 rfl rfl
theorem g_901 : Jvm.Cond.instanceMethod ({ cls := "RainWalk", name := "there", desc := "(IIIII)I" } : Jvm.MethodName) ∈ G := gT4 181 rfl rfl
theorem g_902 : Jvm.Cond.selects "RainWalk" ({ cls := "RainWalk", name := "there", desc := "(IIIII)I" } : Jvm.MethodName) ({ cls := "RainWalk", name := "there", desc := "(IIIII)I" } : Jvm.MethodName) ∈ G := gT4 182 rfl rfl
theorem g_903 : Jvm.Cond.code ({ cls := "RainWalk", name := "there", desc := "(IIIII)I" } : Jvm.MethodName) prog_1_method_32_code (6 : Nat) (Option.some Jvm.ClassFile.FieldType.int) ∈ G := gT4 183 rfl rfl
theorem g_904 : Jvm.Cond.methodLink "RainWalk" (220 : Nat) ({ cls := "RainWalk$Ways", name := "endFrom", desc := "(II)I" } : Jvm.MethodName) ∈ G := gT4 184 rfl rfl
theorem g_905 : Jvm.Cond.instanceMethod ({ cls := "RainWalk$Ways", name := "endFrom", desc := "(II)I" } : Jvm.MethodName) ∈ G := gT4 185 rfl rfl
theorem g_906 : Jvm.Cond.selects "RainWalk$Ways" ({ cls := "RainWalk$Ways", name := "endFrom", desc := "(II)I" } : Jvm.MethodName) ({ cls := "RainWalk$Ways", name := "endFrom", desc := "(II)I" } : Jvm.MethodName) ∈ G := gT4 186 rfl rfl
theorem g_907 : Jvm.Cond.code ({ cls := "RainWalk$Ways", name := "endFrom", desc := "(II)I" } : Jvm.MethodName) prog_9_method_12_code (3 : Nat) (Option.some Jvm.ClassFile.FieldType.int) ∈ G := gT4 187 rfl rfl
theorem g_908 : Jvm.Cond.methodLink "RainWalkLaw" (108 : Nat) ({ cls := "RainWalk", name := "steps", desc := "(IIIII)I" } : Jvm.MethodName) ∈ G := gT4 188 rfl rfl
theorem g_909 : Jvm.Cond.instanceMethod ({ cls := "RainWalk", name := "steps", desc := "(IIIII)I" } : Jvm.MethodName) ∈ G := gT4 189 rfl rfl
theorem g_910 : Jvm.Cond.selects "RainWalk" ({ cls := "RainWalk", name := "steps", desc := "(IIIII)I" } : Jvm.MethodName) ({ cls := "RainWalk", name := "steps", desc := "(IIIII)I" } : Jvm.MethodName) ∈ G := gT4 190 rfl rfl
theorem g_911 : Jvm.Cond.code ({ cls := "RainWalk", name := "steps", desc := "(IIIII)I" } : Jvm.MethodName) prog_1_method_33_code (6 : Nat) (Option.some Jvm.ClassFile.FieldType.int) ∈ G := gT4 191 rfl rfl
theorem g_912 : Jvm.Cond.methodLink "RainWalk" (224 : Nat) ({ cls := "RainWalk$Ways", name := "trace", desc := "(LRainWalk$World;II)I" } : Jvm.MethodName) ∈ G := gT4 192 rfl rfl
theorem g_913 : Jvm.Cond.instanceMethod ({ cls := "RainWalk$Ways", name := "trace", desc := "(LRainWalk$World;II)I" } : Jvm.MethodName) ∈ G := gT4 193 rfl rfl
theorem g_914 : Jvm.Cond.selects "RainWalk$Ways" ({ cls := "RainWalk$Ways", name := "trace", desc := "(LRainWalk$World;II)I" } : Jvm.MethodName) ({ cls := "RainWalk$Ways", name := "trace", desc := "(LRainWalk$World;II)I" } : Jvm.MethodName) ∈ G := gT4 194 rfl rfl
theorem g_915 : Jvm.Cond.code ({ cls := "RainWalk$Ways", name := "trace", desc := "(LRainWalk$World;II)I" } : Jvm.MethodName) prog_9_method_13_code (10 : Nat) (Option.some Jvm.ClassFile.FieldType.int) ∈ G := gT4 195 rfl rfl
theorem g_916 : Jvm.Cond.methodLink "RainWalk$Ways" (161 : Nat) ({ cls := "RainWalk$World", name := "hasRoad", desc := "(I)Z" } : Jvm.MethodName) ∈ G := gT4 196 rfl rfl
theorem g_917 : Jvm.Cond.methodLink "RainWalkLaw" (112 : Nat) ({ cls := "RainWalk", name := "step", desc := "(IIIIII)I" } : Jvm.MethodName) ∈ G := gT4 197 rfl rfl
theorem g_918 : Jvm.Cond.instanceMethod ({ cls := "RainWalk", name := "step", desc := "(IIIIII)I" } : Jvm.MethodName) ∈ G := gT4 198 rfl rfl
theorem g_919 : Jvm.Cond.selects "RainWalk" ({ cls := "RainWalk", name := "step", desc := "(IIIIII)I" } : Jvm.MethodName) ({ cls := "RainWalk", name := "step", desc := "(IIIIII)I" } : Jvm.MethodName) ∈ G := gT4 199 rfl rfl
theorem g_920 : Jvm.Cond.code ({ cls := "RainWalk", name := "step", desc := "(IIIIII)I" } : Jvm.MethodName) prog_1_method_34_code (8 : Nat) (Option.some Jvm.ClassFile.FieldType.int) ∈ G := gT4 200 rfl rfl
theorem g_921 : Jvm.Cond.methodLink "RainWalkLaw" (116 : Nat) ({ cls := "RainWalk", name := "off", desc := "(IIII)I" } : Jvm.MethodName) ∈ G := gT4 201 rfl rfl
theorem g_922 : Jvm.Cond.instanceMethod ({ cls := "RainWalk", name := "off", desc := "(IIII)I" } : Jvm.MethodName) ∈ G := gT4 202 rfl rfl
theorem g_923 : Jvm.Cond.selects "RainWalk" ({ cls := "RainWalk", name := "off", desc := "(IIII)I" } : Jvm.MethodName) ({ cls := "RainWalk", name := "off", desc := "(IIII)I" } : Jvm.MethodName) ∈ G := gT4 203 rfl rfl
theorem g_924 : Jvm.Cond.code ({ cls := "RainWalk", name := "off", desc := "(IIII)I" } : Jvm.MethodName) prog_1_method_35_code (9 : Nat) (Option.some Jvm.ClassFile.FieldType.int) ∈ G := gT4 204 rfl rfl
theorem g_925 : Jvm.Cond.methodLink "RainWalkLaw" (120 : Nat) ({ cls := "RainWalk", name := "fits", desc := "(I)I" } : Jvm.MethodName) ∈ G := gT4 205 rfl rfl
theorem g_926 : Jvm.Cond.instanceMethod ({ cls := "RainWalk", name := "fits", desc := "(I)I" } : Jvm.MethodName) ∈ G := gT4 206 rfl rfl
theorem g_927 : Jvm.Cond.selects "RainWalk" ({ cls := "RainWalk", name := "fits", desc := "(I)I" } : Jvm.MethodName) ({ cls := "RainWalk", name := "fits", desc := "(I)I" } : Jvm.MethodName) ∈ G := gT4 207 rfl rfl
theorem g_928 : Jvm.Cond.code ({ cls := "RainWalk", name := "fits", desc := "(I)I" } : Jvm.MethodName) prog_1_method_39_code (2 : Nat) (Option.some Jvm.ClassFile.FieldType.int) ∈ G := gT4 208 rfl rfl
theorem g_929 : Jvm.Cond.methodLink "RainWalk" (250 : Nat) ({ cls := "RainWalk$World", name := "hasSeen", desc := "(I)Z" } : Jvm.MethodName) ∈ G := gT4 209 rfl rfl
theorem g_930 : Jvm.Cond.instanceMethod ({ cls := "RainWalk$World", name := "hasSeen", desc := "(I)Z" } : Jvm.MethodName) ∈ G := gT4 210 rfl rfl
theorem g_931 : Jvm.Cond.selects "RainWalk$World" ({ cls := "RainWalk$World", name := "hasSeen", desc := "(I)Z" } : Jvm.MethodName) ({ cls := "RainWalk$World", name := "hasSeen", desc := "(I)Z" } : Jvm.MethodName) ∈ G := gT4 211 rfl rfl
theorem g_932 : Jvm.Cond.code ({ cls := "RainWalk$World", name := "hasSeen", desc := "(I)Z" } : Jvm.MethodName) prog_10_method_8_code (2 : Nat) (Option.some Jvm.ClassFile.FieldType.boolean) ∈ G := gT4 212 rfl rfl
theorem g_933 : Jvm.Cond.methodLink "RainWalk" (253 : Nat) ({ cls := "RainWalk$Leg", name := "countFits", desc := "(LRainWalk$World;I)I" } : Jvm.MethodName) ∈ G := gT4 213 rfl rfl
theorem g_934 : Jvm.Cond.instanceMethod ({ cls := "RainWalk$Leg", name := "countFits", desc := "(LRainWalk$World;I)I" } : Jvm.MethodName) ∈ G := gT4 214 rfl rfl
theorem g_935 : Jvm.Cond.selects "RainWalk$Leg" ({ cls := "RainWalk$Leg", name := "countFits", desc := "(LRainWalk$World;I)I" } : Jvm.MethodName) ({ cls := "RainWalk$Leg", name := "countFits", desc := "(LRainWalk$World;I)I" } : Jvm.MethodName) ∈ G := gT4 215 rfl rfl
theorem g_936 : Jvm.Cond.code ({ cls := "RainWalk$Leg", name := "countFits", desc := "(LRainWalk$World;I)I" } : Jvm.MethodName) prog_3_method_10_code (5 : Nat) (Option.some Jvm.ClassFile.FieldType.int) ∈ G := gT4 216 rfl rfl
theorem g_937 : Jvm.Cond.methodLink "RainWalk$Leg" (99 : Nat) ({ cls := "RainWalk$Leg", name := "legsOf", desc := "(LRainWalk$World;)I" } : Jvm.MethodName) ∈ G := gT4 217 rfl rfl
theorem g_938 : Jvm.Cond.static ({ cls := "RainWalk$Leg", name := "legsOf", desc := "(LRainWalk$World;)I" } : Jvm.MethodName) ∈ G := gT4 218 rfl rfl
theorem g_939 : Jvm.Cond.code ({ cls := "RainWalk$Leg", name := "legsOf", desc := "(LRainWalk$World;)I" } : Jvm.MethodName) prog_3_method_12_code (1 : Nat) (Option.some Jvm.ClassFile.FieldType.int) ∈ G := gT4 219 rfl rfl
theorem g_940 : Jvm.Cond.methodLink "RainWalk$Leg" (103 : Nat) ({ cls := "RainWalk$Leg", name := "fitCode", desc := "(LRainWalk$World;II)I" } : Jvm.MethodName) ∈ G := gT4 220 rfl rfl
theorem g_942 : Jvm.Cond.instanceMethod ({ cls := "RainWalk$Leg", name := "fitCode", desc := "(LRainWalk$World;II)I" } : Jvm.MethodName) ∈ G := gT4 222 rfl rfl
theorem g_943 : Jvm.Cond.code ({ cls := "RainWalk$Leg", name := "fitCode", desc := "(LRainWalk$World;II)I" } : Jvm.MethodName) prog_3_method_13_code (9 : Nat) (Option.some Jvm.ClassFile.FieldType.int) ∈ G := gT4 223 rfl rfl
theorem g_944 : Jvm.Cond.methodLink "RainWalk$Leg" (115 : Nat) ({ cls := "RainWalk$World", name := "hasSeen", desc := "(I)Z" } : Jvm.MethodName) ∈ G := gT4 224 rfl rfl
theorem g_945 : Jvm.Cond.methodLink "RainWalk$Leg" (123 : Nat) ({ cls := "RainWalk$World", name := "hasWalker", desc := "(I)Z" } : Jvm.MethodName) ∈ G := gT4 225 rfl rfl
theorem g_946 : Jvm.Cond.methodLink "RainWalk$Leg" (126 : Nat) ({ cls := "RainWalk$World", name := "hasRoad", desc := "(I)Z" } : Jvm.MethodName) ∈ G := gT4 226 rfl rfl
theorem g_947 : Jvm.Cond.methodLink "RainWalk$Leg" (133 : Nat) ({ cls := "RainWalk$Walker", name := "canGo", desc := "(I)Z" } : Jvm.MethodName) ∈ G := gT4 227 rfl rfl
theorem g_948 : Jvm.Cond.constantLong "RainWalk$Leg" (147 : Nat) (2520 : Int64) ∈ G := gT4 228 rfl rfl
theorem g_949 : Jvm.Cond.methodLink "RainWalkLaw" (124 : Nat) ({ cls := "RainWalk", name := "fit", desc := "(II)I" } : Jvm.MethodName) ∈ G := gT4 229 rfl rfl
theorem g_950 : Jvm.Cond.instanceMethod ({ cls := "RainWalk", name := "fit", desc := "(II)I" } : Jvm.MethodName) ∈ G := gT4 230 rfl rfl
theorem g_951 : Jvm.Cond.selects "RainWalk" ({ cls := "RainWalk", name := "fit", desc := "(II)I" } : Jvm.MethodName) ({ cls := "RainWalk", name := "fit", desc := "(II)I" } : Jvm.MethodName) ∈ G := gT4 231 rfl rfl
theorem g_952 : Jvm.Cond.code ({ cls := "RainWalk", name := "fit", desc := "(II)I" } : Jvm.MethodName) prog_1_method_40_code (4 : Nat) (Option.some Jvm.ClassFile.FieldType.int) ∈ G := gT4 232 rfl rfl
theorem g_953 : Jvm.Cond.methodLink "RainWalk" (257 : Nat) ({ cls := "RainWalk$Leg", name := "findFit", desc := "(LRainWalk$World;II)I" } : Jvm.MethodName) ∈ G := gT4 233 rfl rfl
theorem g_954 : Jvm.Cond.instanceMethod ({ cls := "RainWalk$Leg", name := "findFit", desc := "(LRainWalk$World;II)I" } : Jvm.MethodName) ∈ G := gT4 234 rfl rfl
theorem g_955 : Jvm.Cond.selects "RainWalk$Leg" ({ cls := "RainWalk$Leg", name := "findFit", desc := "(LRainWalk$World;II)I" } : Jvm.MethodName) ({ cls := "RainWalk$Leg", name := "findFit", desc := "(LRainWalk$World;II)I" } : Jvm.MethodName) ∈ G := gT4 235 rfl rfl
theorem g_956 : Jvm.Cond.code ({ cls := "RainWalk$Leg", name := "findFit", desc := "(LRainWalk$World;II)I" } : Jvm.MethodName) prog_3_method_11_code (7 : Nat) (Option.some Jvm.ClassFile.FieldType.int) ∈ G := gT4 236 rfl rfl
theorem g_957 : Jvm.Cond.methodLink "RainWalkLaw" (129 : Nat) ({ cls := "RainWalk", name := "lies", desc := "()I" } : Jvm.MethodName) ∈ G := gT4 237 rfl rfl
theorem g_958 : Jvm.Cond.instanceMethod ({ cls := "RainWalk", name := "lies", desc := "()I" } : Jvm.MethodName) ∈ G := gT4 238 rfl rfl
theorem g_959 : Jvm.Cond.selects "RainWalk" ({ cls := "RainWalk", name := "lies", desc := "()I" } : Jvm.MethodName) ({ cls := "RainWalk", name := "lies", desc := "()I" } : Jvm.MethodName) ∈ G := gT4 239 rfl rfl
theorem g_960 : Jvm.Cond.code ({ cls := "RainWalk", name := "lies", desc := "()I" } : Jvm.MethodName) prog_1_method_41_code (3 : Nat) (Option.some Jvm.ClassFile.FieldType.int) ∈ G := gT5 0 rfl rfl
theorem g_961 : Jvm.Cond.methodLink "RainWalk" (260 : Nat) ({ cls := "RainWalk$World", name := "isTold", desc := "()Z" } : Jvm.MethodName) ∈ G := gT5 1 rfl rfl
theorem g_962 : Jvm.Cond.methodLink "RainWalkLaw" (133 : Nat) ({ cls := "RainWalk", name := "day", desc := "(IIII)I" } : Jvm.MethodName) ∈ G := gT5 2 rfl rfl
theorem g_963 : Jvm.Cond.instanceMethod ({ cls := "RainWalk", name := "day", desc := "(IIII)I" } : Jvm.MethodName) ∈ G := gT5 3 rfl rfl
theorem g_964 : Jvm.Cond.selects "RainWalk" ({ cls := "RainWalk", name := "day", desc := "(IIII)I" } : Jvm.MethodName) ({ cls := "RainWalk", name := "day", desc := "(IIII)I" } : Jvm.MethodName) ∈ G := gT5 4 rfl rfl
theorem g_965 : Jvm.Cond.code ({ cls := "RainWalk", name := "day", desc := "(IIII)I" } : Jvm.MethodName) prog_1_method_42_code (5 : Nat) (Option.some Jvm.ClassFile.FieldType.int) ∈ G := gT5 5 rfl rfl
theorem g_966 : Jvm.Cond.constant "RainWalk" (267 : Nat) (65537 : Int32) ∈ G := gT5 6 rfl rfl
theorem g_967 : Jvm.Cond.methodLink "RainWalk" (268 : Nat) ({ cls := "RainWalk$Day", name := "begin", desc := "(III)V" } : Jvm.MethodName) ∈ G := gT5 7 rfl rfl
theorem g_968 : Jvm.Cond.instanceMethod ({ cls := "RainWalk$Day", name := "begin", desc := "(III)V" } : Jvm.MethodName) ∈ G := gT5 8 rfl rfl
theorem g_969 : Jvm.Cond.selects "RainWalk$Day" ({ cls := "RainWalk$Day", name := "begin", desc := "(III)V" } : Jvm.MethodName) ({ cls := "RainWalk$Day", name := "begin", desc := "(III)V" } : Jvm.MethodName) ∈ G := gT5 9 rfl rfl
theorem g_970 : Jvm.Cond.code ({ cls := "RainWalk$Day", name := "begin", desc := "(III)V" } : Jvm.MethodName) prog_2_method_4_code (5 : Nat) (Option.none : Option Jvm.ClassFile.FieldType) ∈ G := gT5 10 rfl rfl
theorem g_971 : Jvm.Cond.methodLink "RainWalk$Day" (35 : Nat) ({ cls := "RainWalk$Day", name := "end", desc := "()V" } : Jvm.MethodName) ∈ G := gT5 11 rfl rfl
theorem g_972 : Jvm.Cond.methodLink "RainWalk" (272 : Nat) ({ cls := "RainWalk$Day", name := "draw", desc := "(LRainWalk$World;I)V" } : Jvm.MethodName) ∈ G := gT5 12 rfl rfl
theorem g_973 : Jvm.Cond.instanceMethod ({ cls := "RainWalk$Day", name := "draw", desc := "(LRainWalk$World;I)V" } : Jvm.MethodName) ∈ G := gT5 13 rfl rfl
theorem g_974 : Jvm.Cond.selects "RainWalk$Day" ({ cls := "RainWalk$Day", name := "draw", desc := "(LRainWalk$World;I)V" } : Jvm.MethodName) ({ cls := "RainWalk$Day", name := "draw", desc := "(LRainWalk$World;I)V" } : Jvm.MethodName) ∈ G := gT5 14 rfl rfl
theorem g_975 : Jvm.Cond.code ({ cls := "RainWalk$Day", name := "draw", desc := "(LRainWalk$World;I)V" } : Jvm.MethodName) prog_2_method_5_code (5 : Nat) (Option.none : Option Jvm.ClassFile.FieldType) ∈ G := gT5 15 rfl rfl
theorem g_976 : Jvm.Cond.constant "RainWalk$Day" (56 : Nat) (65537 : Int32) ∈ G := gT5 16 rfl rfl
theorem g_977 : Jvm.Cond.methodLink "RainWalkLaw" (137 : Nat) ({ cls := "RainWalk", name := "go", desc := "(III)I" } : Jvm.MethodName) ∈ G := gT5 17 rfl rfl
theorem g_978 : Jvm.Cond.instanceMethod ({ cls := "RainWalk", name := "go", desc := "(III)I" } : Jvm.MethodName) ∈ G := gT5 18 rfl rfl
theorem g_979 : Jvm.Cond.selects "RainWalk" ({ cls := "RainWalk", name := "go", desc := "(III)I" } : Jvm.MethodName) ({ cls := "RainWalk", name := "go", desc := "(III)I" } : Jvm.MethodName) ∈ G := gT5 19 rfl rfl
theorem g_980 : Jvm.Cond.code ({ cls := "RainWalk", name := "go", desc := "(III)I" } : Jvm.MethodName) prog_1_method_43_code (8 : Nat) (Option.some Jvm.ClassFile.FieldType.int) ∈ G := gT5 20 rfl rfl
theorem g_981 : Jvm.Cond.methodLink "RainWalk" (279 : Nat) ({ cls := "RainWalk$Day", name := "isOn", desc := "()Z" } : Jvm.MethodName) ∈ G := gT5 21 rfl rfl
theorem g_982 : Jvm.Cond.instanceMethod ({ cls := "RainWalk$Day", name := "isOn", desc := "()Z" } : Jvm.MethodName) ∈ G := gT5 22 rfl rfl
theorem g_983 : Jvm.Cond.selects "RainWalk$Day" ({ cls := "RainWalk$Day", name := "isOn", desc := "()Z" } : Jvm.MethodName) ({ cls := "RainWalk$Day", name := "isOn", desc := "()Z" } : Jvm.MethodName) ∈ G := gT5 23 rfl rfl
theorem g_984 : Jvm.Cond.code ({ cls := "RainWalk$Day", name := "isOn", desc := "()Z" } : Jvm.MethodName) prog_2_method_2_code (1 : Nat) (Option.some Jvm.ClassFile.FieldType.boolean) ∈ G := gT5 24 rfl rfl
theorem g_985 : Jvm.Cond.methodLink "RainWalk" (284 : Nat) ({ cls := "RainWalk$Road", name := "startOf", desc := "(I)I" } : Jvm.MethodName) ∈ G := gT5 25 rfl rfl
theorem g_986 : Jvm.Cond.methodLink "RainWalk" (299 : Nat) ({ cls := "RainWalk$Day", name := "keepForUndo", desc := "()V" } : Jvm.MethodName) ∈ G := gT5 26 rfl rfl
theorem g_987 : Jvm.Cond.instanceMethod ({ cls := "RainWalk$Day", name := "keepForUndo", desc := "()V" } : Jvm.MethodName) ∈ G := gT5 27 rfl rfl
theorem g_988 : Jvm.Cond.selects "RainWalk$Day" ({ cls := "RainWalk$Day", name := "keepForUndo", desc := "()V" } : Jvm.MethodName) ({ cls := "RainWalk$Day", name := "keepForUndo", desc := "()V" } : Jvm.MethodName) ∈ G := gT5 28 rfl rfl
theorem g_989 : Jvm.Cond.code ({ cls := "RainWalk$Day", name := "keepForUndo", desc := "()V" } : Jvm.MethodName) prog_2_method_7_code (3 : Nat) (Option.none : Option Jvm.ClassFile.FieldType) ∈ G := gT5 29 rfl rfl
theorem g_990 : Jvm.Cond.methodLink "RainWalk$Day" (66 : Nat) ({ cls := "RainWalk$Moment", name := "copy", desc := "(LRainWalk$Moment;)V" } : Jvm.MethodName) ∈ G := gT5 30 rfl rfl
theorem g_991 : Jvm.Cond.instanceMethod ({ cls := "RainWalk$Moment", name := "copy", desc := "(LRainWalk$Moment;)V" } : Jvm.MethodName) ∈ G := gT5 31 rfl rfl
theorem g_992 : Jvm.Cond.selects "RainWalk$Moment" ({ cls := "RainWalk$Moment", name := "copy", desc := "(LRainWalk$Moment;)V" } : Jvm.MethodName) ({ cls := "RainWalk$Moment", name := "copy", desc := "(LRainWalk$Moment;)V" } : Jvm.MethodName) ∈ G := gT5 32 rfl rfl
theorem g_993 : Jvm.Cond.code ({ cls := "RainWalk$Moment", name := "copy", desc := "(LRainWalk$Moment;)V" } : Jvm.MethodName) prog_4_method_2_code (3 : Nat) (Option.none : Option Jvm.ClassFile.FieldType) ∈ G := gT5 33 rfl rfl
theorem g_994 : Jvm.Cond.methodLink "RainWalk" (302 : Nat) ({ cls := "RainWalk$World", name := "hourOf", desc := "(I)I" } : Jvm.MethodName) ∈ G := gT5 34 rfl rfl
theorem g_995 : Jvm.Cond.methodLink "RainWalk" (305 : Nat) ({ cls := "RainWalk$Day", name := "rainsIn", desc := "(I)Z" } : Jvm.MethodName) ∈ G := gT5 35 rfl rfl
theorem g_996 : Jvm.Cond.instanceMethod ({ cls := "RainWalk$Day", name := "rainsIn", desc := "(I)Z" } : Jvm.MethodName) ∈ G := gT5 36 rfl rfl
theorem g_997 : Jvm.Cond.selects "RainWalk$Day" ({ cls := "RainWalk$Day", name := "rainsIn", desc := "(I)Z" } : Jvm.MethodName) ({ cls := "RainWalk$Day", name := "rainsIn", desc := "(I)Z" } : Jvm.MethodName) ∈ G := gT5 37 rfl rfl
theorem g_998 : Jvm.Cond.code ({ cls := "RainWalk$Day", name := "rainsIn", desc := "(I)Z" } : Jvm.MethodName) prog_2_method_6_code (2 : Nat) (Option.some Jvm.ClassFile.FieldType.boolean) ∈ G := gT5 38 rfl rfl
theorem g_999 : Jvm.Cond.methodLink "RainWalk" (308 : Nat) ({ cls := "RainWalk$Moment", name := "addFaces", desc := "([J)V" } : Jvm.MethodName) ∈ G := gT5 39 rfl rfl
theorem g_1000 : Jvm.Cond.instanceMethod ({ cls := "RainWalk$Moment", name := "addFaces", desc := "([J)V" } : Jvm.MethodName) ∈ G := gT5 40 rfl rfl
theorem g_1001 : Jvm.Cond.selects "RainWalk$Moment" ({ cls := "RainWalk$Moment", name := "addFaces", desc := "([J)V" } : Jvm.MethodName) ({ cls := "RainWalk$Moment", name := "addFaces", desc := "([J)V" } : Jvm.MethodName) ∈ G := gT5 41 rfl rfl
theorem g_1002 : Jvm.Cond.code ({ cls := "RainWalk$Moment", name := "addFaces", desc := "([J)V" } : Jvm.MethodName) prog_4_method_3_code (3 : Nat) (Option.none : Option Jvm.ClassFile.FieldType) ∈ G := gT5 42 rfl rfl
theorem g_1003 : Jvm.Cond.methodLink "RainWalk" (312 : Nat) ({ cls := "RainWalk$Road", name := "endOf", desc := "(I)I" } : Jvm.MethodName) ∈ G := gT5 43 rfl rfl
theorem g_1004 : Jvm.Cond.methodLink "RainWalkLaw" (141 : Nat) ({ cls := "RainWalk", name := "stay", desc := "(I)Z" } : Jvm.MethodName) ∈ G := gT5 44 rfl rfl
theorem g_1005 : Jvm.Cond.instanceMethod ({ cls := "RainWalk", name := "stay", desc := "(I)Z" } : Jvm.MethodName) ∈ G := gT5 45 rfl rfl
theorem g_1006 : Jvm.Cond.selects "RainWalk" ({ cls := "RainWalk", name := "stay", desc := "(I)Z" } : Jvm.MethodName) ({ cls := "RainWalk", name := "stay", desc := "(I)Z" } : Jvm.MethodName) ∈ G := gT5 46 rfl rfl
theorem g_1007 : Jvm.Cond.code ({ cls := "RainWalk", name := "stay", desc := "(I)Z" } : Jvm.MethodName) prog_1_method_44_code (5 : Nat) (Option.some Jvm.ClassFile.FieldType.boolean) ∈ G := gT5 47 rfl rfl
theorem g_1008 : Jvm.Cond.methodLink "RainWalk" (315 : Nat) ({ cls := "RainWalk", name := "stayTrouble", desc := "(I)I" } : Jvm.MethodName) ∈ G := gT5 48 rfl rfl
theorem g_1010 : Jvm.Cond.instanceMethod ({ cls := "RainWalk", name := "stayTrouble", desc := "(I)I" } : Jvm.MethodName) ∈ G := gT5 50 rfl rfl
theorem g_1011 : Jvm.Cond.code ({ cls := "RainWalk", name := "stayTrouble", desc := "(I)I" } : Jvm.MethodName) prog_1_method_45_code (2 : Nat) (Option.some Jvm.ClassFile.FieldType.int) ∈ G := gT5 51 rfl rfl
theorem g_1012 : Jvm.Cond.methodLink "RainWalk" (325 : Nat) ({ cls := "RainWalk$World", name := "canWait", desc := "(I)Z" } : Jvm.MethodName) ∈ G := gT5 52 rfl rfl
theorem g_1013 : Jvm.Cond.methodLink "RainWalk" (318 : Nat) ({ cls := "RainWalk$World", name := "dripOn", desc := "(LRainWalk$Walker;I)I" } : Jvm.MethodName) ∈ G := gT5 53 rfl rfl
theorem g_1014 : Jvm.Cond.methodLink "RainWalkLaw" (146 : Nat) ({ cls := "RainWalk", name := "got", desc := "(IZ)J" } : Jvm.MethodName) ∈ G := gT5 54 rfl rfl
theorem g_1015 : Jvm.Cond.instanceMethod ({ cls := "RainWalk", name := "got", desc := "(IZ)J" } : Jvm.MethodName) ∈ G := gT5 55 rfl rfl
theorem g_1016 : Jvm.Cond.selects "RainWalk" ({ cls := "RainWalk", name := "got", desc := "(IZ)J" } : Jvm.MethodName) ({ cls := "RainWalk", name := "got", desc := "(IZ)J" } : Jvm.MethodName) ∈ G := gT5 56 rfl rfl
theorem g_1017 : Jvm.Cond.code ({ cls := "RainWalk", name := "got", desc := "(IZ)J" } : Jvm.MethodName) prog_1_method_46_code (3 : Nat) (Option.some Jvm.ClassFile.FieldType.long) ∈ G := gT5 57 rfl rfl
theorem g_1018 : Jvm.Cond.methodLink "RainWalkLaw" (151 : Nat) ({ cls := "RainWalk", name := "wetness", desc := "(Z)J" } : Jvm.MethodName) ∈ G := gT5 58 rfl rfl
theorem g_1019 : Jvm.Cond.instanceMethod ({ cls := "RainWalk", name := "wetness", desc := "(Z)J" } : Jvm.MethodName) ∈ G := gT5 59 rfl rfl
theorem g_1020 : Jvm.Cond.selects "RainWalk" ({ cls := "RainWalk", name := "wetness", desc := "(Z)J" } : Jvm.MethodName) ({ cls := "RainWalk", name := "wetness", desc := "(Z)J" } : Jvm.MethodName) ∈ G := gT5 60 rfl rfl
theorem g_1021 : Jvm.Cond.code ({ cls := "RainWalk", name := "wetness", desc := "(Z)J" } : Jvm.MethodName) prog_1_method_47_code (4 : Nat) (Option.some Jvm.ClassFile.FieldType.long) ∈ G := gT5 61 rfl rfl
theorem g_1022 : Jvm.Cond.methodLink "RainWalk" (328 : Nat) ({ cls := "RainWalk$Moment", name := "allGot", desc := "()J" } : Jvm.MethodName) ∈ G := gT5 62 rfl rfl
theorem g_1023 : Jvm.Cond.instanceMethod ({ cls := "RainWalk$Moment", name := "allGot", desc := "()J" } : Jvm.MethodName) ∈ G := gT5 63 rfl rfl
theorem g_1024 : Jvm.Cond.selects "RainWalk$Moment" ({ cls := "RainWalk$Moment", name := "allGot", desc := "()J" } : Jvm.MethodName) ({ cls := "RainWalk$Moment", name := "allGot", desc := "()J" } : Jvm.MethodName) ∈ G := gT5 64 rfl rfl
theorem g_1025 : Jvm.Cond.code ({ cls := "RainWalk$Moment", name := "allGot", desc := "()J" } : Jvm.MethodName) prog_4_method_4_code (4 : Nat) (Option.some Jvm.ClassFile.FieldType.long) ∈ G := gT5 65 rfl rfl
theorem g_1026 : Jvm.Cond.methodLink "RainWalk" (332 : Nat) ({ cls := "RainWalk", name := "coatParts", desc := "(LRainWalk$Walker;)J" } : Jvm.MethodName) ∈ G := gT5 66 rfl rfl
theorem g_1027 : Jvm.Cond.static ({ cls := "RainWalk", name := "coatParts", desc := "(LRainWalk$Walker;)J" } : Jvm.MethodName) ∈ G := gT5 67 rfl rfl
theorem g_1028 : Jvm.Cond.code ({ cls := "RainWalk", name := "coatParts", desc := "(LRainWalk$Walker;)J" } : Jvm.MethodName) prog_1_method_49_code (1 : Nat) (Option.some Jvm.ClassFile.FieldType.long) ∈ G := gT5 68 rfl rfl
theorem g_1029 : Jvm.Cond.methodLink "RainWalk" (336 : Nat) ({ cls := "java/lang/Math", name := "max", desc := "(JJ)J" } : Jvm.MethodName) ∈ G := gT5 69 rfl rfl
theorem g_1030 : Jvm.Cond.static ({ cls := "java/lang/Math", name := "max", desc := "(JJ)J" } : Jvm.MethodName) ∈ G := gT5 70 rfl rfl
theorem g_1031 : Jvm.Cond.code ({ cls := "java/lang/Math", name := "max", desc := "(JJ)J" } : Jvm.MethodName) prog_18_method_66_code (4 : Nat) (Option.some Jvm.ClassFile.FieldType.long) ∈ G := gT5 71 rfl rfl
theorem g_1032 : Jvm.Cond.methodLink "RainWalkLaw" (156 : Nat) ({ cls := "RainWalk", name := "soaked", desc := "()I" } : Jvm.MethodName) ∈ G := gT5 72 rfl rfl
theorem g_1033 : Jvm.Cond.instanceMethod ({ cls := "RainWalk", name := "soaked", desc := "()I" } : Jvm.MethodName) ∈ G := gT5 73 rfl rfl
theorem g_1034 : Jvm.Cond.selects "RainWalk" ({ cls := "RainWalk", name := "soaked", desc := "()I" } : Jvm.MethodName) ({ cls := "RainWalk", name := "soaked", desc := "()I" } : Jvm.MethodName) ∈ G := gT5 74 rfl rfl
theorem g_1035 : Jvm.Cond.code ({ cls := "RainWalk", name := "soaked", desc := "()I" } : Jvm.MethodName) prog_1_method_48_code (2 : Nat) (Option.some Jvm.ClassFile.FieldType.int) ∈ G := gT5 75 rfl rfl
theorem g_1036 : Jvm.Cond.methodLink "RainWalkLaw" (160 : Nat) ({ cls := "RainWalk", name := "undo", desc := "()Z" } : Jvm.MethodName) ∈ G := gT5 76 rfl rfl
theorem g_1037 : Jvm.Cond.instanceMethod ({ cls := "RainWalk", name := "undo", desc := "()Z" } : Jvm.MethodName) ∈ G := gT5 77 rfl rfl
theorem g_1038 : Jvm.Cond.selects "RainWalk" ({ cls := "RainWalk", name := "undo", desc := "()Z" } : Jvm.MethodName) ({ cls := "RainWalk", name := "undo", desc := "()Z" } : Jvm.MethodName) ∈ G := gT5 78 rfl rfl
theorem g_1039 : Jvm.Cond.code ({ cls := "RainWalk", name := "undo", desc := "()Z" } : Jvm.MethodName) prog_1_method_50_code (1 : Nat) (Option.some Jvm.ClassFile.FieldType.boolean) ∈ G := gT5 79 rfl rfl
theorem g_1040 : Jvm.Cond.methodLink "RainWalk" (344 : Nat) ({ cls := "RainWalk$Day", name := "takeBack", desc := "()Z" } : Jvm.MethodName) ∈ G := gT5 80 rfl rfl
theorem g_1041 : Jvm.Cond.instanceMethod ({ cls := "RainWalk$Day", name := "takeBack", desc := "()Z" } : Jvm.MethodName) ∈ G := gT5 81 rfl rfl
theorem g_1042 : Jvm.Cond.selects "RainWalk$Day" ({ cls := "RainWalk$Day", name := "takeBack", desc := "()Z" } : Jvm.MethodName) ({ cls := "RainWalk$Day", name := "takeBack", desc := "()Z" } : Jvm.MethodName) ∈ G := gT5 82 rfl rfl
theorem g_1043 : Jvm.Cond.code ({ cls := "RainWalk$Day", name := "takeBack", desc := "()Z" } : Jvm.MethodName) prog_2_method_8_code (1 : Nat) (Option.some Jvm.ClassFile.FieldType.boolean) ∈ G := gT5 83 rfl rfl
theorem g_1044 : Jvm.Cond.methodLink "RainWalkLaw" (165 : Nat) ({ cls := "RainWalk", name := "mark", desc := "()I" } : Jvm.MethodName) ∈ G := gT5 84 rfl rfl
theorem g_1045 : Jvm.Cond.instanceMethod ({ cls := "RainWalk", name := "mark", desc := "()I" } : Jvm.MethodName) ∈ G := gT5 85 rfl rfl
theorem g_1046 : Jvm.Cond.selects "RainWalk" ({ cls := "RainWalk", name := "mark", desc := "()I" } : Jvm.MethodName) ({ cls := "RainWalk", name := "mark", desc := "()I" } : Jvm.MethodName) ∈ G := gT5 86 rfl rfl
theorem g_1047 : Jvm.Cond.code ({ cls := "RainWalk", name := "mark", desc := "()I" } : Jvm.MethodName) prog_1_method_51_code (2 : Nat) (Option.some Jvm.ClassFile.FieldType.int) ∈ G := gT5 87 rfl rfl
theorem g_1048 : Jvm.Cond.methodLink "RainWalk" (347 : Nat) ({ cls := "RainWalk$Day", name := "setMark", desc := "()I" } : Jvm.MethodName) ∈ G := gT5 88 rfl rfl
theorem g_1049 : Jvm.Cond.instanceMethod ({ cls := "RainWalk$Day", name := "setMark", desc := "()I" } : Jvm.MethodName) ∈ G := gT5 89 rfl rfl
theorem g_1050 : Jvm.Cond.selects "RainWalk$Day" ({ cls := "RainWalk$Day", name := "setMark", desc := "()I" } : Jvm.MethodName) ({ cls := "RainWalk$Day", name := "setMark", desc := "()I" } : Jvm.MethodName) ∈ G := gT5 90 rfl rfl
theorem g_1051 : Jvm.Cond.code ({ cls := "RainWalk$Day", name := "setMark", desc := "()I" } : Jvm.MethodName) prog_2_method_9_code (1 : Nat) (Option.some Jvm.ClassFile.FieldType.int) ∈ G := gT5 91 rfl rfl
theorem g_1052 : Jvm.Cond.methodLink "RainWalkLaw" (169 : Nat) ({ cls := "RainWalk", name := "back", desc := "(I)Z" } : Jvm.MethodName) ∈ G := gT5 92 rfl rfl
theorem g_1053 : Jvm.Cond.instanceMethod ({ cls := "RainWalk", name := "back", desc := "(I)Z" } : Jvm.MethodName) ∈ G := gT5 93 rfl rfl
theorem g_1054 : Jvm.Cond.selects "RainWalk" ({ cls := "RainWalk", name := "back", desc := "(I)Z" } : Jvm.MethodName) ({ cls := "RainWalk", name := "back", desc := "(I)Z" } : Jvm.MethodName) ∈ G := gT5 94 rfl rfl
theorem g_1055 : Jvm.Cond.code ({ cls := "RainWalk", name := "back", desc := "(I)Z" } : Jvm.MethodName) prog_1_method_52_code (2 : Nat) (Option.some Jvm.ClassFile.FieldType.boolean) ∈ G := gT5 95 rfl rfl
theorem g_1056 : Jvm.Cond.methodLink "RainWalk" (351 : Nat) ({ cls := "RainWalk$Day", name := "returnTo", desc := "(I)Z" } : Jvm.MethodName) ∈ G := gT5 96 rfl rfl
theorem g_1057 : Jvm.Cond.instanceMethod ({ cls := "RainWalk$Day", name := "returnTo", desc := "(I)Z" } : Jvm.MethodName) ∈ G := gT5 97 rfl rfl
theorem g_1058 : Jvm.Cond.selects "RainWalk$Day" ({ cls := "RainWalk$Day", name := "returnTo", desc := "(I)Z" } : Jvm.MethodName) ({ cls := "RainWalk$Day", name := "returnTo", desc := "(I)Z" } : Jvm.MethodName) ∈ G := gT5 98 rfl rfl
theorem g_1059 : Jvm.Cond.code ({ cls := "RainWalk$Day", name := "returnTo", desc := "(I)Z" } : Jvm.MethodName) prog_2_method_10_code (2 : Nat) (Option.some Jvm.ClassFile.FieldType.boolean) ∈ G := gT5 99 rfl rfl
theorem g_1060 : Jvm.Cond.methodLink "RainWalkLaw" (173 : Nat) ({ cls := "RainWalk", name := "walker", desc := "(II)I" } : Jvm.MethodName) ∈ G := gT5 100 rfl rfl
theorem g_1061 : Jvm.Cond.instanceMethod ({ cls := "RainWalk", name := "walker", desc := "(II)I" } : Jvm.MethodName) ∈ G := gT5 101 rfl rfl
theorem g_1062 : Jvm.Cond.selects "RainWalk" ({ cls := "RainWalk", name := "walker", desc := "(II)I" } : Jvm.MethodName) ({ cls := "RainWalk", name := "walker", desc := "(II)I" } : Jvm.MethodName) ∈ G := gT5 102 rfl rfl
theorem g_1063 : Jvm.Cond.code ({ cls := "RainWalk", name := "walker", desc := "(II)I" } : Jvm.MethodName) prog_1_method_53_code (3 : Nat) (Option.some Jvm.ClassFile.FieldType.int) ∈ G := gT5 103 rfl rfl
theorem g_1064 : Jvm.Cond.methodLink "RainWalk" (354 : Nat) ({ cls := "RainWalk$Walker", name := "tell", desc := "(I)I" } : Jvm.MethodName) ∈ G := gT5 104 rfl rfl
theorem g_1065 : Jvm.Cond.instanceMethod ({ cls := "RainWalk$Walker", name := "tell", desc := "(I)I" } : Jvm.MethodName) ∈ G := gT5 105 rfl rfl
theorem g_1066 : Jvm.Cond.selects "RainWalk$Walker" ({ cls := "RainWalk$Walker", name := "tell", desc := "(I)I" } : Jvm.MethodName) ({ cls := "RainWalk$Walker", name := "tell", desc := "(I)I" } : Jvm.MethodName) ∈ G := gT5 106 rfl rfl
theorem g_1067 : Jvm.Cond.code ({ cls := "RainWalk$Walker", name := "tell", desc := "(I)I" } : Jvm.MethodName) prog_8_method_5_code (2 : Nat) (Option.some Jvm.ClassFile.FieldType.int) ∈ G := gT5 107 rfl rfl
theorem g_1068 : Jvm.Cond.methodLink "RainWalkLaw" (177 : Nat) ({ cls := "RainWalk", name := "road", desc := "(II)I" } : Jvm.MethodName) ∈ G := gT5 108 rfl rfl
theorem g_1069 : Jvm.Cond.instanceMethod ({ cls := "RainWalk", name := "road", desc := "(II)I" } : Jvm.MethodName) ∈ G := gT5 109 rfl rfl
theorem g_1070 : Jvm.Cond.selects "RainWalk" ({ cls := "RainWalk", name := "road", desc := "(II)I" } : Jvm.MethodName) ({ cls := "RainWalk", name := "road", desc := "(II)I" } : Jvm.MethodName) ∈ G := gT5 110 rfl rfl
theorem g_1071 : Jvm.Cond.code ({ cls := "RainWalk", name := "road", desc := "(II)I" } : Jvm.MethodName) prog_1_method_54_code (3 : Nat) (Option.some Jvm.ClassFile.FieldType.int) ∈ G := gT5 111 rfl rfl
theorem g_1072 : Jvm.Cond.methodLink "RainWalk" (357 : Nat) ({ cls := "RainWalk$Road", name := "tell", desc := "(I)I" } : Jvm.MethodName) ∈ G := gT5 112 rfl rfl
theorem g_1073 : Jvm.Cond.instanceMethod ({ cls := "RainWalk$Road", name := "tell", desc := "(I)I" } : Jvm.MethodName) ∈ G := gT5 113 rfl rfl
theorem g_1074 : Jvm.Cond.selects "RainWalk$Road" ({ cls := "RainWalk$Road", name := "tell", desc := "(I)I" } : Jvm.MethodName) ({ cls := "RainWalk$Road", name := "tell", desc := "(I)I" } : Jvm.MethodName) ∈ G := gT5 114 rfl rfl
theorem g_1075 : Jvm.Cond.code ({ cls := "RainWalk$Road", name := "tell", desc := "(I)I" } : Jvm.MethodName) prog_7_method_8_code (2 : Nat) (Option.some Jvm.ClassFile.FieldType.int) ∈ G := gT5 115 rfl rfl
theorem g_1076 : Jvm.Cond.methodLink "RainWalkLaw" (187 : Nat) ({ cls := "RainWalk", name := "size", desc := "(I)I" } : Jvm.MethodName) ∈ G := gT5 116 rfl rfl
theorem g_1077 : Jvm.Cond.instanceMethod ({ cls := "RainWalk", name := "size", desc := "(I)I" } : Jvm.MethodName) ∈ G := gT5 117 rfl rfl
theorem g_1078 : Jvm.Cond.selects "RainWalk" ({ cls := "RainWalk", name := "size", desc := "(I)I" } : Jvm.MethodName) ({ cls := "RainWalk", name := "size", desc := "(I)I" } : Jvm.MethodName) ∈ G := gT5 118 rfl rfl
theorem g_1079 : Jvm.Cond.code ({ cls := "RainWalk", name := "size", desc := "(I)I" } : Jvm.MethodName) prog_1_method_56_code (2 : Nat) (Option.some Jvm.ClassFile.FieldType.int) ∈ G := gT5 119 rfl rfl
theorem g_1080 : Jvm.Cond.methodLink "RainWalkLaw" (191 : Nat) ({ cls := "RainWalk", name := "trouble", desc := "()I" } : Jvm.MethodName) ∈ G := gT5 120 rfl rfl
theorem g_1081 : Jvm.Cond.instanceMethod ({ cls := "RainWalk", name := "trouble", desc := "()I" } : Jvm.MethodName) ∈ G := gT5 121 rfl rfl
theorem g_1082 : Jvm.Cond.selects "RainWalk" ({ cls := "RainWalk", name := "trouble", desc := "()I" } : Jvm.MethodName) ({ cls := "RainWalk", name := "trouble", desc := "()I" } : Jvm.MethodName) ∈ G := gT5 122 rfl rfl
theorem g_1083 : Jvm.Cond.code ({ cls := "RainWalk", name := "trouble", desc := "()I" } : Jvm.MethodName) prog_1_method_57_code (1 : Nat) (Option.some Jvm.ClassFile.FieldType.int) ∈ G := gT5 123 rfl rfl
theorem g_1084 : Jvm.Cond.methodLink "RainWalkLaw" (181 : Nat) ({ cls := "RainWalkLaw", name := "led", desc := "(LRainWalk;I[J)I" } : Jvm.MethodName) ∈ G := gT5 124 rfl rfl
theorem g_1087 : Jvm.Cond.classLink "RainWalkLaw" (13 : Nat) "java/util/NoSuchElementException" ∈ G := gT5 127 rfl rfl
theorem g_1088 : Jvm.Cond.methodLink "RainWalkLaw" (7 : Nat) ({ cls := "RainWalk", name := "led", desc := "(I)I" } : Jvm.MethodName) ∈ G := gT5 128 rfl rfl
theorem g_1089 : Jvm.Cond.instanceMethod ({ cls := "RainWalk", name := "led", desc := "(I)I" } : Jvm.MethodName) ∈ G := gT5 129 rfl rfl
theorem g_1090 : Jvm.Cond.selects "RainWalk" ({ cls := "RainWalk", name := "led", desc := "(I)I" } : Jvm.MethodName) ({ cls := "RainWalk", name := "led", desc := "(I)I" } : Jvm.MethodName) ∈ G := gT5 130 rfl rfl
theorem g_1091 : Jvm.Cond.code ({ cls := "RainWalk", name := "led", desc := "(I)I" } : Jvm.MethodName) prog_1_method_55_code (4 : Nat) (Option.some Jvm.ClassFile.FieldType.int) ∈ G := gT5 131 rfl rfl
theorem g_1092 : Jvm.Cond.methodLink "RainWalk" (361 : Nat) ({ cls := "RainWalk$Road", name := "touches", desc := "(I)Z" } : Jvm.MethodName) ∈ G := gT5 132 rfl rfl
theorem g_1093 : Jvm.Cond.instanceMethod ({ cls := "RainWalk$Road", name := "touches", desc := "(I)Z" } : Jvm.MethodName) ∈ G := gT5 133 rfl rfl
theorem g_1094 : Jvm.Cond.selects "RainWalk$Road" ({ cls := "RainWalk$Road", name := "touches", desc := "(I)Z" } : Jvm.MethodName) ({ cls := "RainWalk$Road", name := "touches", desc := "(I)Z" } : Jvm.MethodName) ∈ G := gT5 134 rfl rfl
theorem g_1095 : Jvm.Cond.code ({ cls := "RainWalk$Road", name := "touches", desc := "(I)Z" } : Jvm.MethodName) prog_7_method_4_code (2 : Nat) (Option.some Jvm.ClassFile.FieldType.boolean) ∈ G := gT5 135 rfl rfl
theorem g_1096 : Jvm.Cond.classLink "RainWalk" (364 : Nat) "java/util/NoSuchElementException" ∈ G := gT5 136 rfl rfl
theorem g_1157 : Jvm.Cond.classLink "RainWalkLaw" (16 : Nat) "RainWalkModel" ∈ G := gT5 197 rfl rfl
theorem g_1158 : Jvm.Cond.instantiable "RainWalkModel" (26 : Nat) ∈ G := gT5 198 rfl rfl
theorem g_1159 : Jvm.Cond.methodLink "RainWalkLaw" (18 : Nat) ({ cls := "RainWalkModel", name := "<init>", desc := "()V" } : Jvm.MethodName) ∈ G := gT5 199 rfl rfl
theorem g_1160 : Jvm.Cond.instanceMethod ({ cls := "RainWalkModel", name := "<init>", desc := "()V" } : Jvm.MethodName) ∈ G := gT5 200 rfl rfl
theorem g_1161 : Jvm.Cond.code ({ cls := "RainWalkModel", name := "<init>", desc := "()V" } : Jvm.MethodName) prog_12_method_1_code (1 : Nat) (Option.none : Option Jvm.ClassFile.FieldType) ∈ G := gT5 201 rfl rfl
theorem g_1162 : Jvm.Cond.methodLink "RainWalkModel" (3 : Nat) ({ cls := "java/lang/Object", name := "<init>", desc := "()V" } : Jvm.MethodName) ∈ G := gT5 202 rfl rfl
theorem g_1163 : Jvm.Cond.fieldLink "RainWalkModel" (40 : Nat) "RainWalkModel" "thrown" "I" ∈ G := gT5 203 rfl rfl
theorem g_1164 : Jvm.Cond.fieldLink "RainWalkModel" (43 : Nat) "RainWalkModel" "trouble" "I" ∈ G := gT5 204 rfl rfl
theorem g_1165 : Jvm.Cond.fieldLink "RainWalkModel" (9 : Nat) "RainWalkModel" "where" "I" ∈ G := gT5 205 rfl rfl
theorem g_1166 : Jvm.Cond.fieldLink "RainWalkModel" (338 : Nat) "RainWalkModel" "world" "LRainWalkModel$World;" ∈ G := gT5 206 rfl rfl
theorem g_1167 : Jvm.Cond.fieldLink "RainWalkModel" (147 : Nat) "RainWalkModel" "read" "LRainWalkModel$World;" ∈ G := gT5 207 rfl rfl
theorem g_1168 : Jvm.Cond.fieldLink "RainWalkModel" (13 : Nat) "RainWalkModel" "tape" "[B" ∈ G := gT5 208 rfl rfl
theorem g_1169 : Jvm.Cond.fieldLink "RainWalkModel" (331 : Nat) "RainWalkModel" "taped" "I" ∈ G := gT5 209 rfl rfl
theorem g_1170 : Jvm.Cond.fieldLink "RainWalkModel" (53 : Nat) "RainWalkModel" "size" "I" ∈ G := gT5 210 rfl rfl
theorem g_1171 : Jvm.Cond.fieldLink "RainWalkModel" (71 : Nat) "RainWalkModel" "spot" "I" ∈ G := gT5 211 rfl rfl
theorem g_1172 : Jvm.Cond.fieldLink "RainWalkModel" (68 : Nat) "RainWalkModel" "sort" "I" ∈ G := gT5 212 rfl rfl
theorem g_1173 : Jvm.Cond.fieldLink "RainWalkModel" (77 : Nat) "RainWalkModel" "place" "I" ∈ G := gT5 213 rfl rfl
theorem g_1174 : Jvm.Cond.fieldLink "RainWalkModel" (80 : Nat) "RainWalkModel" "sign" "I" ∈ G := gT5 214 rfl rfl
theorem g_1175 : Jvm.Cond.fieldLink "RainWalkModel" (94 : Nat) "RainWalkModel" "number" "I" ∈ G := gT5 215 rfl rfl
theorem g_1176 : Jvm.Cond.fieldLink "RainWalkModel" (97 : Nat) "RainWalkModel" "fault" "I" ∈ G := gT5 216 rfl rfl
theorem g_1177 : Jvm.Cond.fieldLink "RainWalkModel" (100 : Nat) "RainWalkModel" "wrongAt" "I" ∈ G := gT5 217 rfl rfl
theorem g_1178 : Jvm.Cond.fieldLink "RainWalkModel" (87 : Nat) "RainWalkModel" "word" "J" ∈ G := gT5 218 rfl rfl
theorem g_1179 : Jvm.Cond.fieldLink "RainWalkModel" (17 : Nat) "RainWalkModel" "least" "[J" ∈ G := gT5 219 rfl rfl
theorem g_1180 : Jvm.Cond.fieldLink "RainWalkModel" (21 : Nat) "RainWalkModel" "arrives" "[I" ∈ G := gT5 220 rfl rfl
theorem g_1181 : Jvm.Cond.fieldLink "RainWalkModel" (25 : Nat) "RainWalkModel" "stepBy" "[I" ∈ G := gT5 221 rfl rfl
theorem g_1182 : Jvm.Cond.fieldLink "RainWalkModel" (28 : Nat) "RainWalkModel" "who" "I" ∈ G := gT5 222 rfl rfl
theorem g_1183 : Jvm.Cond.fieldLink "RainWalkModel" (475 : Nat) "RainWalkModel" "rains" "I" ∈ G := gT5 223 rfl rfl
theorem g_1184 : Jvm.Cond.fieldLink "RainWalkModel" (31 : Nat) "RainWalkModel" "d" "[J" ∈ G := gT5 224 rfl rfl
theorem g_1185 : Jvm.Cond.fieldLink "RainWalkModel" (34 : Nat) "RainWalkModel" "past" "[J" ∈ G := gT5 225 rfl rfl
theorem g_1186 : Jvm.Cond.fieldLink "RainWalkModel" (37 : Nat) "RainWalkModel" "kept" "[J" ∈ G := gT5 226 rfl rfl
theorem g_1187 : Jvm.Cond.fieldLink "RainWalkModel" (340 : Nat) "RainWalkModel" "acts" "I" ∈ G := gT5 227 rfl rfl
theorem g_1188 : Jvm.Cond.fieldLink "RainWalkModel" (343 : Nat) "RainWalkModel" "marks" "I" ∈ G := gT5 228 rfl rfl
theorem g_1189 : Jvm.Cond.lays "RainWalkModel" "RainWalkModel" "thrown" "I" ∈ G := gT5 229 rfl rfl
theorem g_1191 : Jvm.Cond.lays "RainWalkModel" "RainWalkModel" "trouble" "I" ∈ G := gT5 231 rfl rfl
theorem g_1193 : Jvm.Cond.lays "RainWalkModel" "RainWalkModel" "where" "I" ∈ G := gT5 233 rfl rfl
theorem g_1195 : Jvm.Cond.lays "RainWalkModel" "RainWalkModel" "world" "LRainWalkModel$World;" ∈ G := gT5 235 rfl rfl
theorem g_1197 : Jvm.Cond.lays "RainWalkModel" "RainWalkModel" "read" "LRainWalkModel$World;" ∈ G := gT5 237 rfl rfl
theorem g_1199 : Jvm.Cond.laysFinal "RainWalkModel" "RainWalkModel" "tape" "[B" ∈ G := gT5 239 rfl rfl
theorem g_1201 : Jvm.Cond.lays "RainWalkModel" "RainWalkModel" "taped" "I" ∈ G := gT6 1 rfl rfl
theorem g_1203 : Jvm.Cond.lays "RainWalkModel" "RainWalkModel" "size" "I" ∈ G := gT6 3 rfl rfl
theorem g_1205 : Jvm.Cond.lays "RainWalkModel" "RainWalkModel" "spot" "I" ∈ G := gT6 5 rfl rfl
theorem g_1207 : Jvm.Cond.lays "RainWalkModel" "RainWalkModel" "sort" "I" ∈ G := gT6 7 rfl rfl
theorem g_1209 : Jvm.Cond.lays "RainWalkModel" "RainWalkModel" "place" "I" ∈ G := gT6 9 rfl rfl
theorem g_1211 : Jvm.Cond.lays "RainWalkModel" "RainWalkModel" "sign" "I" ∈ G := gT6 11 rfl rfl
theorem g_1213 : Jvm.Cond.lays "RainWalkModel" "RainWalkModel" "number" "I" ∈ G := gT6 13 rfl rfl
theorem g_1215 : Jvm.Cond.lays "RainWalkModel" "RainWalkModel" "fault" "I" ∈ G := gT6 15 rfl rfl
theorem g_1217 : Jvm.Cond.lays "RainWalkModel" "RainWalkModel" "wrongAt" "I" ∈ G := gT6 17 rfl rfl
theorem g_1219 : Jvm.Cond.lays "RainWalkModel" "RainWalkModel" "word" "J" ∈ G := gT6 19 rfl rfl
theorem g_1221 : Jvm.Cond.laysFinal "RainWalkModel" "RainWalkModel" "least" "[J" ∈ G := gT6 21 rfl rfl
theorem g_1223 : Jvm.Cond.laysFinal "RainWalkModel" "RainWalkModel" "arrives" "[I" ∈ G := gT6 23 rfl rfl
theorem g_1225 : Jvm.Cond.laysFinal "RainWalkModel" "RainWalkModel" "stepBy" "[I" ∈ G := gT6 25 rfl rfl
theorem g_1227 : Jvm.Cond.lays "RainWalkModel" "RainWalkModel" "who" "I" ∈ G := gT6 27 rfl rfl
theorem g_1229 : Jvm.Cond.lays "RainWalkModel" "RainWalkModel" "rains" "I" ∈ G := gT6 29 rfl rfl
theorem g_1231 : Jvm.Cond.laysFinal "RainWalkModel" "RainWalkModel" "d" "[J" ∈ G := gT6 31 rfl rfl
theorem g_1233 : Jvm.Cond.laysFinal "RainWalkModel" "RainWalkModel" "past" "[J" ∈ G := gT6 33 rfl rfl
theorem g_1235 : Jvm.Cond.laysFinal "RainWalkModel" "RainWalkModel" "kept" "[J" ∈ G := gT6 35 rfl rfl
theorem g_1237 : Jvm.Cond.lays "RainWalkModel" "RainWalkModel" "acts" "I" ∈ G := gT6 37 rfl rfl
theorem g_1239 : Jvm.Cond.lays "RainWalkModel" "RainWalkModel" "marks" "I" ∈ G := gT6 39 rfl rfl
theorem g_1242 : Jvm.Cond.methodLink "RainWalkLaw" (23 : Nat) ({ cls := "RainWalkModel", name := "feed", desc := "(IIIII)I" } : Jvm.MethodName) ∈ G := gT6 42 rfl rfl
theorem g_1243 : Jvm.Cond.instanceMethod ({ cls := "RainWalkModel", name := "feed", desc := "(IIIII)I" } : Jvm.MethodName) ∈ G := gT6 43 rfl rfl
theorem g_1244 : Jvm.Cond.selects "RainWalkModel" ({ cls := "RainWalkModel", name := "feed", desc := "(IIIII)I" } : Jvm.MethodName) ({ cls := "RainWalkModel", name := "feed", desc := "(IIIII)I" } : Jvm.MethodName) ∈ G := gT6 44 rfl rfl
theorem g_1245 : Jvm.Cond.code ({ cls := "RainWalkModel", name := "feed", desc := "(IIIII)I" } : Jvm.MethodName) prog_12_method_36_code (8 : Nat) (Option.some Jvm.ClassFile.FieldType.int) ∈ G := gT6 45 rfl rfl
theorem g_1246 : Jvm.Cond.methodLink "RainWalkLaw" (27 : Nat) ({ cls := "RainWalkModel", name := "world", desc := "(I)I" } : Jvm.MethodName) ∈ G := gT6 46 rfl rfl
theorem g_1247 : Jvm.Cond.instanceMethod ({ cls := "RainWalkModel", name := "world", desc := "(I)I" } : Jvm.MethodName) ∈ G := gT6 47 rfl rfl
theorem g_1248 : Jvm.Cond.selects "RainWalkModel" ({ cls := "RainWalkModel", name := "world", desc := "(I)I" } : Jvm.MethodName) ({ cls := "RainWalkModel", name := "world", desc := "(I)I" } : Jvm.MethodName) ∈ G := gT6 48 rfl rfl
theorem g_1249 : Jvm.Cond.code ({ cls := "RainWalkModel", name := "world", desc := "(I)I" } : Jvm.MethodName) prog_12_method_37_code (2 : Nat) (Option.some Jvm.ClassFile.FieldType.int) ∈ G := gT6 49 rfl rfl
theorem g_1250 : Jvm.Cond.methodLink "RainWalkModel" (46 : Nat) ({ cls := "RainWalkModel", name := "refused", desc := "(I)I" } : Jvm.MethodName) ∈ G := gT6 50 rfl rfl
theorem g_1252 : Jvm.Cond.instanceMethod ({ cls := "RainWalkModel", name := "refused", desc := "(I)I" } : Jvm.MethodName) ∈ G := gT6 52 rfl rfl
theorem g_1253 : Jvm.Cond.code ({ cls := "RainWalkModel", name := "refused", desc := "(I)I" } : Jvm.MethodName) prog_12_method_3_code (2 : Nat) (Option.some Jvm.ClassFile.FieldType.int) ∈ G := gT6 53 rfl rfl
theorem g_1254 : Jvm.Cond.classLink "RainWalkModel" (152 : Nat) "RainWalkModel$World" ∈ G := gT6 54 rfl rfl
theorem g_1255 : Jvm.Cond.instantiable "RainWalkModel$World" (31 : Nat) ∈ G := gT6 55 rfl rfl
theorem g_1257 : Jvm.Cond.instanceMethod ({ cls := "RainWalkModel$World", name := "<init>", desc := "()V" } : Jvm.MethodName) ∈ G := gT6 57 rfl rfl
theorem g_1258 : Jvm.Cond.code ({ cls := "RainWalkModel$World", name := "<init>", desc := "()V" } : Jvm.MethodName) prog_13_method_1_code (1 : Nat) (Option.none : Option Jvm.ClassFile.FieldType) ∈ G := gT6 58 rfl rfl
theorem g_1259 : Jvm.Cond.methodLink "RainWalkModel$World" (3 : Nat) ({ cls := "java/lang/Object", name := "<init>", desc := "()V" } : Jvm.MethodName) ∈ G := gT6 59 rfl rfl
theorem g_1266 : Jvm.Cond.fieldLink "RainWalkModel$World" (86 : Nat) "RainWalkModel$World" "names" "I" ∈ G := gT6 66 rfl rfl
theorem g_1268 : Jvm.Cond.fieldLink "RainWalkModel$World" (9 : Nat) "RainWalkModel$World" "drops" "[I" ∈ G := gT6 68 rfl rfl
theorem g_1270 : Jvm.Cond.fieldLink "RainWalkModel$World" (15 : Nat) "RainWalkModel$World" "down" "[I" ∈ G := gT6 70 rfl rfl
theorem g_1272 : Jvm.Cond.fieldLink "RainWalkModel$World" (18 : Nat) "RainWalkModel$World" "windSide" "[I" ∈ G := gT6 72 rfl rfl
theorem g_1274 : Jvm.Cond.fieldLink "RainWalkModel$World" (21 : Nat) "RainWalkModel$World" "wind" "[I" ∈ G := gT6 74 rfl rfl
theorem g_1276 : Jvm.Cond.fieldLink "RainWalkModel$World" (24 : Nat) "RainWalkModel$World" "chance" "[I" ∈ G := gT6 76 rfl rfl
theorem g_1278 : Jvm.Cond.fieldLink "RainWalkModel$World" (27 : Nat) "RainWalkModel$World" "tree" "[I" ∈ G := gT6 78 rfl rfl
theorem g_1280 : Jvm.Cond.fieldLink "RainWalkModel$World" (30 : Nat) "RainWalkModel$World" "roadFrom" "[I" ∈ G := gT6 80 rfl rfl
theorem g_1282 : Jvm.Cond.fieldLink "RainWalkModel$World" (33 : Nat) "RainWalkModel$World" "roadTo" "[I" ∈ G := gT6 82 rfl rfl
theorem g_1284 : Jvm.Cond.fieldLink "RainWalkModel$World" (36 : Nat) "RainWalkModel$World" "roadSide" "[I" ∈ G := gT6 84 rfl rfl
theorem g_1286 : Jvm.Cond.fieldLink "RainWalkModel$World" (39 : Nat) "RainWalkModel$World" "roadLong" "[I" ∈ G := gT6 86 rfl rfl
theorem g_1288 : Jvm.Cond.fieldLink "RainWalkModel$World" (42 : Nat) "RainWalkModel$World" "awning" "[I" ∈ G := gT6 88 rfl rfl
theorem g_1290 : Jvm.Cond.fieldLink "RainWalkModel$World" (45 : Nat) "RainWalkModel$World" "isInn" "[Z" ∈ G := gT6 90 rfl rfl
theorem g_1292 : Jvm.Cond.fieldLink "RainWalkModel$World" (49 : Nat) "RainWalkModel$World" "kind" "[I" ∈ G := gT6 92 rfl rfl
theorem g_1294 : Jvm.Cond.fieldLink "RainWalkModel$World" (52 : Nat) "RainWalkModel$World" "much" "[I" ∈ G := gT6 94 rfl rfl
theorem g_1296 : Jvm.Cond.fieldLink "RainWalkModel$World" (55 : Nat) "RainWalkModel$World" "top" "[I" ∈ G := gT6 96 rfl rfl
theorem g_1298 : Jvm.Cond.fieldLink "RainWalkModel$World" (58 : Nat) "RainWalkModel$World" "front" "[I" ∈ G := gT6 98 rfl rfl
theorem g_1300 : Jvm.Cond.fieldLink "RainWalkModel$World" (61 : Nat) "RainWalkModel$World" "side" "[I" ∈ G := gT6 100 rfl rfl
theorem g_1302 : Jvm.Cond.fieldLink "RainWalkModel$World" (64 : Nat) "RainWalkModel$World" "slowest" "[I" ∈ G := gT6 102 rfl rfl
theorem g_1304 : Jvm.Cond.fieldLink "RainWalkModel$World" (67 : Nat) "RainWalkModel$World" "fastest" "[I" ∈ G := gT6 104 rfl rfl
theorem g_1306 : Jvm.Cond.fieldLink "RainWalkModel$World" (70 : Nat) "RainWalkModel$World" "seenWho" "[I" ∈ G := gT6 106 rfl rfl
theorem g_1308 : Jvm.Cond.fieldLink "RainWalkModel$World" (73 : Nat) "RainWalkModel$World" "seen" "[I" ∈ G := gT6 108 rfl rfl
theorem g_1310 : Jvm.Cond.fieldLink "RainWalkModel$World" (76 : Nat) "RainWalkModel$World" "name" "[J" ∈ G := gT6 110 rfl rfl
theorem g_1312 : Jvm.Cond.fieldLink "RainWalkModel$World" (80 : Nat) "RainWalkModel$World" "nameSort" "[I" ∈ G := gT6 112 rfl rfl
theorem g_1314 : Jvm.Cond.fieldLink "RainWalkModel$World" (83 : Nat) "RainWalkModel$World" "nameNumber" "[I" ∈ G := gT6 114 rfl rfl
theorem g_1316 : Jvm.Cond.lays "RainWalkModel$World" "RainWalkModel$World" "hour" "I" ∈ G := gT6 116 rfl rfl
theorem g_1318 : Jvm.Cond.lays "RainWalkModel$World" "RainWalkModel$World" "hours" "I" ∈ G := gT6 118 rfl rfl
theorem g_1320 : Jvm.Cond.lays "RainWalkModel$World" "RainWalkModel$World" "places" "I" ∈ G := gT6 120 rfl rfl
theorem g_1322 : Jvm.Cond.lays "RainWalkModel$World" "RainWalkModel$World" "roads" "I" ∈ G := gT6 122 rfl rfl
theorem g_1324 : Jvm.Cond.lays "RainWalkModel$World" "RainWalkModel$World" "walkers" "I" ∈ G := gT6 124 rfl rfl
theorem g_1326 : Jvm.Cond.lays "RainWalkModel$World" "RainWalkModel$World" "seens" "I" ∈ G := gT6 126 rfl rfl
theorem g_1328 : Jvm.Cond.lays "RainWalkModel$World" "RainWalkModel$World" "names" "I" ∈ G := gT6 128 rfl rfl
theorem g_1330 : Jvm.Cond.laysFinal "RainWalkModel$World" "RainWalkModel$World" "drops" "[I" ∈ G := gT6 130 rfl rfl
theorem g_1332 : Jvm.Cond.laysFinal "RainWalkModel$World" "RainWalkModel$World" "down" "[I" ∈ G := gT6 132 rfl rfl
theorem g_1334 : Jvm.Cond.laysFinal "RainWalkModel$World" "RainWalkModel$World" "windSide" "[I" ∈ G := gT6 134 rfl rfl
theorem g_1336 : Jvm.Cond.laysFinal "RainWalkModel$World" "RainWalkModel$World" "wind" "[I" ∈ G := gT6 136 rfl rfl
theorem g_1338 : Jvm.Cond.laysFinal "RainWalkModel$World" "RainWalkModel$World" "chance" "[I" ∈ G := gT6 138 rfl rfl
theorem g_1340 : Jvm.Cond.laysFinal "RainWalkModel$World" "RainWalkModel$World" "tree" "[I" ∈ G := gT6 140 rfl rfl
theorem g_1342 : Jvm.Cond.laysFinal "RainWalkModel$World" "RainWalkModel$World" "roadFrom" "[I" ∈ G := gT6 142 rfl rfl
theorem g_1344 : Jvm.Cond.laysFinal "RainWalkModel$World" "RainWalkModel$World" "roadTo" "[I" ∈ G := gT6 144 rfl rfl
theorem g_1346 : Jvm.Cond.laysFinal "RainWalkModel$World" "RainWalkModel$World" "roadSide" "[I" ∈ G := gT6 146 rfl rfl
theorem g_1348 : Jvm.Cond.laysFinal "RainWalkModel$World" "RainWalkModel$World" "roadLong" "[I" ∈ G := gT6 148 rfl rfl
theorem g_1350 : Jvm.Cond.laysFinal "RainWalkModel$World" "RainWalkModel$World" "awning" "[I" ∈ G := gT6 150 rfl rfl
theorem g_1352 : Jvm.Cond.laysFinal "RainWalkModel$World" "RainWalkModel$World" "isInn" "[Z" ∈ G := gT6 152 rfl rfl
theorem g_1354 : Jvm.Cond.laysFinal "RainWalkModel$World" "RainWalkModel$World" "kind" "[I" ∈ G := gT6 154 rfl rfl
theorem g_1356 : Jvm.Cond.laysFinal "RainWalkModel$World" "RainWalkModel$World" "much" "[I" ∈ G := gT6 156 rfl rfl
theorem g_1358 : Jvm.Cond.laysFinal "RainWalkModel$World" "RainWalkModel$World" "top" "[I" ∈ G := gT6 158 rfl rfl
theorem g_1360 : Jvm.Cond.laysFinal "RainWalkModel$World" "RainWalkModel$World" "front" "[I" ∈ G := gT6 160 rfl rfl
theorem g_1362 : Jvm.Cond.laysFinal "RainWalkModel$World" "RainWalkModel$World" "side" "[I" ∈ G := gT6 162 rfl rfl
theorem g_1364 : Jvm.Cond.laysFinal "RainWalkModel$World" "RainWalkModel$World" "slowest" "[I" ∈ G := gT6 164 rfl rfl
theorem g_1366 : Jvm.Cond.laysFinal "RainWalkModel$World" "RainWalkModel$World" "fastest" "[I" ∈ G := gT6 166 rfl rfl
theorem g_1368 : Jvm.Cond.laysFinal "RainWalkModel$World" "RainWalkModel$World" "seenWho" "[I" ∈ G := gT6 168 rfl rfl
theorem g_1370 : Jvm.Cond.laysFinal "RainWalkModel$World" "RainWalkModel$World" "seen" "[I" ∈ G := gT6 170 rfl rfl
theorem g_1372 : Jvm.Cond.laysFinal "RainWalkModel$World" "RainWalkModel$World" "name" "[J" ∈ G := gT6 172 rfl rfl
theorem g_1374 : Jvm.Cond.laysFinal "RainWalkModel$World" "RainWalkModel$World" "nameSort" "[I" ∈ G := gT6 174 rfl rfl
theorem g_1376 : Jvm.Cond.laysFinal "RainWalkModel$World" "RainWalkModel$World" "nameNumber" "[I" ∈ G := gT6 176 rfl rfl
theorem g_1379 : Jvm.Cond.arrayClass Jvm.ClassFile.FieldType.boolean ∈ G := gT6 179 rfl rfl
theorem g_1380 : Jvm.Cond.methodLink "RainWalkModel" (111 : Nat) ({ cls := "RainWalkModel", name := "goesOn", desc := "()V" } : Jvm.MethodName) ∈ G := gT6 180 rfl rfl
theorem g_1382 : Jvm.Cond.instanceMethod ({ cls := "RainWalkModel", name := "goesOn", desc := "()V" } : Jvm.MethodName) ∈ G := gT6 182 rfl rfl
theorem g_1383 : Jvm.Cond.code ({ cls := "RainWalkModel", name := "goesOn", desc := "()V" } : Jvm.MethodName) prog_12_method_14_code (3 : Nat) (Option.none : Option Jvm.ClassFile.FieldType) ∈ G := gT6 183 rfl rfl
theorem g_1384 : Jvm.Cond.methodLink "RainWalkModel" (74 : Nat) ({ cls := "RainWalkModel", name := "byteAt", desc := "(I)I" } : Jvm.MethodName) ∈ G := gT6 184 rfl rfl
theorem g_1386 : Jvm.Cond.instanceMethod ({ cls := "RainWalkModel", name := "byteAt", desc := "(I)I" } : Jvm.MethodName) ∈ G := gT6 186 rfl rfl
theorem g_1387 : Jvm.Cond.code ({ cls := "RainWalkModel", name := "byteAt", desc := "(I)I" } : Jvm.MethodName) prog_12_method_10_code (2 : Nat) (Option.some Jvm.ClassFile.FieldType.int) ∈ G := gT6 187 rfl rfl
theorem g_1388 : Jvm.Cond.methodLink "RainWalkModel" (83 : Nat) ({ cls := "RainWalkModel", name := "isLetter", desc := "(I)Z" } : Jvm.MethodName) ∈ G := gT6 188 rfl rfl
theorem g_1389 : Jvm.Cond.static ({ cls := "RainWalkModel", name := "isLetter", desc := "(I)Z" } : Jvm.MethodName) ∈ G := gT6 189 rfl rfl
theorem g_1390 : Jvm.Cond.code ({ cls := "RainWalkModel", name := "isLetter", desc := "(I)Z" } : Jvm.MethodName) prog_12_method_11_code (1 : Nat) (Option.some Jvm.ClassFile.FieldType.boolean) ∈ G := gT6 190 rfl rfl
theorem g_1391 : Jvm.Cond.constantLong "RainWalkModel" (62 : Nat) (32 : Int64) ∈ G := gT6 191 rfl rfl
theorem g_1392 : Jvm.Cond.methodLink "RainWalkModel" (91 : Nat) ({ cls := "RainWalkModel", name := "isDigit", desc := "(I)Z" } : Jvm.MethodName) ∈ G := gT6 192 rfl rfl
theorem g_1393 : Jvm.Cond.static ({ cls := "RainWalkModel", name := "isDigit", desc := "(I)Z" } : Jvm.MethodName) ∈ G := gT6 193 rfl rfl
theorem g_1394 : Jvm.Cond.code ({ cls := "RainWalkModel", name := "isDigit", desc := "(I)Z" } : Jvm.MethodName) prog_12_method_12_code (1 : Nat) (Option.some Jvm.ClassFile.FieldType.boolean) ∈ G := gT6 194 rfl rfl
theorem g_1395 : Jvm.Cond.methodLink "RainWalkModel" (335 : Nat) ({ cls := "RainWalkModel", name := "readAll", desc := "()V" } : Jvm.MethodName) ∈ G := gT6 195 rfl rfl
theorem g_1397 : Jvm.Cond.instanceMethod ({ cls := "RainWalkModel", name := "readAll", desc := "()V" } : Jvm.MethodName) ∈ G := gT6 197 rfl rfl
theorem g_1398 : Jvm.Cond.code ({ cls := "RainWalkModel", name := "readAll", desc := "()V" } : Jvm.MethodName) prog_12_method_28_code (2 : Nat) (Option.none : Option Jvm.ClassFile.FieldType) ∈ G := gT6 198 rfl rfl
theorem g_1399 : Jvm.Cond.methodLink "RainWalkModel" (184 : Nat) ({ cls := "RainWalkModel", name := "readLine", desc := "()V" } : Jvm.MethodName) ∈ G := gT6 199 rfl rfl
theorem g_1401 : Jvm.Cond.instanceMethod ({ cls := "RainWalkModel", name := "readLine", desc := "()V" } : Jvm.MethodName) ∈ G := gT6 201 rfl rfl
theorem g_1402 : Jvm.Cond.code ({ cls := "RainWalkModel", name := "readLine", desc := "()V" } : Jvm.MethodName) prog_12_method_29_code (1 : Nat) (Option.none : Option Jvm.ClassFile.FieldType) ∈ G := gT6 202 rfl rfl
theorem g_1404 : Jvm.Cond.methodLink "RainWalkModel" (107 : Nat) ({ cls := "RainWalkModel", name := "isWord", desc := "(Ljava/lang/String;)Z" } : Jvm.MethodName) ∈ G := gT6 204 rfl rfl
theorem g_1406 : Jvm.Cond.instanceMethod ({ cls := "RainWalkModel", name := "isWord", desc := "(Ljava/lang/String;)Z" } : Jvm.MethodName) ∈ G := gT6 206 rfl rfl
theorem g_1407 : Jvm.Cond.code ({ cls := "RainWalkModel", name := "isWord", desc := "(Ljava/lang/String;)Z" } : Jvm.MethodName) prog_12_method_16_code (2 : Nat) (Option.some Jvm.ClassFile.FieldType.boolean) ∈ G := gT6 207 rfl rfl
theorem g_1408 : Jvm.Cond.methodLink "RainWalkModel" (103 : Nat) ({ cls := "RainWalkModel", name := "wordOf", desc := "(Ljava/lang/String;)J" } : Jvm.MethodName) ∈ G := gT6 208 rfl rfl
theorem g_1409 : Jvm.Cond.static ({ cls := "RainWalkModel", name := "wordOf", desc := "(Ljava/lang/String;)J" } : Jvm.MethodName) ∈ G := gT6 209 rfl rfl
theorem g_1410 : Jvm.Cond.code ({ cls := "RainWalkModel", name := "wordOf", desc := "(Ljava/lang/String;)J" } : Jvm.MethodName) prog_12_method_13_code (4 : Nat) (Option.some Jvm.ClassFile.FieldType.long) ∈ G := gT6 210 rfl rfl
theorem g_1411 : Jvm.Cond.methodLink "RainWalkModel" (56 : Nat) ({ cls := "java/lang/String", name := "length", desc := "()I" } : Jvm.MethodName) ∈ G := gT6 211 rfl rfl
theorem g_1412 : Jvm.Cond.methodLink "RainWalkModel" (64 : Nat) ({ cls := "java/lang/String", name := "charAt", desc := "(I)C" } : Jvm.MethodName) ∈ G := gT6 212 rfl rfl
theorem g_1413 : Jvm.Cond.methodLink "RainWalkModel" (196 : Nat) ({ cls := "RainWalkModel", name := "readWorld", desc := "()V" } : Jvm.MethodName) ∈ G := gT6 213 rfl rfl
theorem g_1415 : Jvm.Cond.instanceMethod ({ cls := "RainWalkModel", name := "readWorld", desc := "()V" } : Jvm.MethodName) ∈ G := gT6 215 rfl rfl
theorem g_1416 : Jvm.Cond.code ({ cls := "RainWalkModel", name := "readWorld", desc := "()V" } : Jvm.MethodName) prog_12_method_30_code (2 : Nat) (Option.none : Option Jvm.ClassFile.FieldType) ∈ G := gT6 216 rfl rfl
theorem g_1417 : Jvm.Cond.methodLink "RainWalkModel" (114 : Nat) ({ cls := "RainWalkModel", name := "flaw", desc := "(I)V" } : Jvm.MethodName) ∈ G := gT6 217 rfl rfl
theorem g_1419 : Jvm.Cond.instanceMethod ({ cls := "RainWalkModel", name := "flaw", desc := "(I)V" } : Jvm.MethodName) ∈ G := gT6 219 rfl rfl
theorem g_1420 : Jvm.Cond.code ({ cls := "RainWalkModel", name := "flaw", desc := "(I)V" } : Jvm.MethodName) prog_12_method_15_code (2 : Nat) (Option.none : Option Jvm.ClassFile.FieldType) ∈ G := gT6 220 rfl rfl
theorem g_1422 : Jvm.Cond.methodLink "RainWalkModel" (215 : Nat) ({ cls := "RainWalkModel", name := "readPart", desc := "(Ljava/lang/String;II)I" } : Jvm.MethodName) ∈ G := gT6 222 rfl rfl
theorem g_1424 : Jvm.Cond.instanceMethod ({ cls := "RainWalkModel", name := "readPart", desc := "(Ljava/lang/String;II)I" } : Jvm.MethodName) ∈ G := gT6 224 rfl rfl
theorem g_1425 : Jvm.Cond.code ({ cls := "RainWalkModel", name := "readPart", desc := "(Ljava/lang/String;II)I" } : Jvm.MethodName) prog_12_method_21_code (4 : Nat) (Option.some Jvm.ClassFile.FieldType.int) ∈ G := gT6 225 rfl rfl
theorem g_1426 : Jvm.Cond.methodLink "RainWalkModel" (122 : Nat) ({ cls := "RainWalkModel", name := "needs", desc := "(Ljava/lang/String;)V" } : Jvm.MethodName) ∈ G := gT6 226 rfl rfl
theorem g_1428 : Jvm.Cond.instanceMethod ({ cls := "RainWalkModel", name := "needs", desc := "(Ljava/lang/String;)V" } : Jvm.MethodName) ∈ G := gT6 228 rfl rfl
theorem g_1429 : Jvm.Cond.code ({ cls := "RainWalkModel", name := "needs", desc := "(Ljava/lang/String;)V" } : Jvm.MethodName) prog_12_method_19_code (2 : Nat) (Option.none : Option Jvm.ClassFile.FieldType) ∈ G := gT6 229 rfl rfl
theorem g_1430 : Jvm.Cond.methodLink "RainWalkModel" (126 : Nat) ({ cls := "RainWalkModel", name := "readWhole", desc := "(II)I" } : Jvm.MethodName) ∈ G := gT6 230 rfl rfl
theorem g_1432 : Jvm.Cond.instanceMethod ({ cls := "RainWalkModel", name := "readWhole", desc := "(II)I" } : Jvm.MethodName) ∈ G := gT6 232 rfl rfl
theorem g_1433 : Jvm.Cond.code ({ cls := "RainWalkModel", name := "readWhole", desc := "(II)I" } : Jvm.MethodName) prog_12_method_20_code (4 : Nat) (Option.some Jvm.ClassFile.FieldType.int) ∈ G := gT6 233 rfl rfl
theorem g_1434 : Jvm.Cond.methodLink "RainWalkModel" (118 : Nat) ({ cls := "RainWalkModel", name := "in", desc := "(III)Z" } : Jvm.MethodName) ∈ G := gT6 234 rfl rfl
theorem g_1435 : Jvm.Cond.static ({ cls := "RainWalkModel", name := "in", desc := "(III)Z" } : Jvm.MethodName) ∈ G := gT6 235 rfl rfl
theorem g_1436 : Jvm.Cond.code ({ cls := "RainWalkModel", name := "in", desc := "(III)Z" } : Jvm.MethodName) prog_12_method_8_code (3 : Nat) (Option.some Jvm.ClassFile.FieldType.boolean) ∈ G := gT6 236 rfl rfl
theorem g_1438 : Jvm.Cond.methodLink "RainWalkModel" (199 : Nat) ({ cls := "RainWalkModel", name := "readRain", desc := "()V" } : Jvm.MethodName) ∈ G := gT6 238 rfl rfl
theorem g_1440 : Jvm.Cond.instanceMethod ({ cls := "RainWalkModel", name := "readRain", desc := "()V" } : Jvm.MethodName) ∈ G := gT7 0 rfl rfl
theorem g_1441 : Jvm.Cond.code ({ cls := "RainWalkModel", name := "readRain", desc := "()V" } : Jvm.MethodName) prog_12_method_31_code (6 : Nat) (Option.none : Option Jvm.ClassFile.FieldType) ∈ G := gT7 1 rfl rfl
theorem g_1442 : Jvm.Cond.methodLink "RainWalkModel" (222 : Nat) ({ cls := "RainWalkModel", name := "begins", desc := "(II)V" } : Jvm.MethodName) ∈ G := gT7 2 rfl rfl
theorem g_1444 : Jvm.Cond.instanceMethod ({ cls := "RainWalkModel", name := "begins", desc := "(II)V" } : Jvm.MethodName) ∈ G := gT7 4 rfl rfl
theorem g_1445 : Jvm.Cond.code ({ cls := "RainWalkModel", name := "begins", desc := "(II)V" } : Jvm.MethodName) prog_12_method_23_code (3 : Nat) (Option.none : Option Jvm.ClassFile.FieldType) ∈ G := gT7 5 rfl rfl
theorem g_1449 : Jvm.Cond.methodLink "RainWalkModel" (232 : Nat) ({ cls := "RainWalkModel", name := "readSide", desc := "()I" } : Jvm.MethodName) ∈ G := gT7 9 rfl rfl
theorem g_1451 : Jvm.Cond.instanceMethod ({ cls := "RainWalkModel", name := "readSide", desc := "()I" } : Jvm.MethodName) ∈ G := gT7 11 rfl rfl
theorem g_1452 : Jvm.Cond.code ({ cls := "RainWalkModel", name := "readSide", desc := "()I" } : Jvm.MethodName) prog_12_method_27_code (2 : Nat) (Option.some Jvm.ClassFile.FieldType.int) ∈ G := gT7 12 rfl rfl
theorem g_1459 : Jvm.Cond.methodLink "RainWalkModel" (202 : Nat) ({ cls := "RainWalkModel", name := "readPlace", desc := "()V" } : Jvm.MethodName) ∈ G := gT7 19 rfl rfl
theorem g_1461 : Jvm.Cond.instanceMethod ({ cls := "RainWalkModel", name := "readPlace", desc := "()V" } : Jvm.MethodName) ∈ G := gT7 21 rfl rfl
theorem g_1462 : Jvm.Cond.code ({ cls := "RainWalkModel", name := "readPlace", desc := "()V" } : Jvm.MethodName) prog_12_method_32_code (5 : Nat) (Option.none : Option Jvm.ClassFile.FieldType) ∈ G := gT7 22 rfl rfl
theorem g_1463 : Jvm.Cond.methodLink "RainWalkModel" (248 : Nat) ({ cls := "RainWalkModel", name := "readFresh", desc := "()J" } : Jvm.MethodName) ∈ G := gT7 23 rfl rfl
theorem g_1465 : Jvm.Cond.instanceMethod ({ cls := "RainWalkModel", name := "readFresh", desc := "()J" } : Jvm.MethodName) ∈ G := gT7 25 rfl rfl
theorem g_1466 : Jvm.Cond.code ({ cls := "RainWalkModel", name := "readFresh", desc := "()J" } : Jvm.MethodName) prog_12_method_24_code (3 : Nat) (Option.some Jvm.ClassFile.FieldType.long) ∈ G := gT7 26 rfl rfl
theorem g_1467 : Jvm.Cond.methodLink "RainWalkModel" (156 : Nat) ({ cls := "RainWalkModel", name := "isName", desc := "()Z" } : Jvm.MethodName) ∈ G := gT7 27 rfl rfl
theorem g_1469 : Jvm.Cond.instanceMethod ({ cls := "RainWalkModel", name := "isName", desc := "()Z" } : Jvm.MethodName) ∈ G := gT7 29 rfl rfl
theorem g_1470 : Jvm.Cond.code ({ cls := "RainWalkModel", name := "isName", desc := "()Z" } : Jvm.MethodName) prog_12_method_22_code (1 : Nat) (Option.some Jvm.ClassFile.FieldType.boolean) ∈ G := gT7 30 rfl rfl
theorem g_1477 : Jvm.Cond.methodLink "RainWalkModel" (160 : Nat) ({ cls := "RainWalkModel$World", name := "find", desc := "(J)I" } : Jvm.MethodName) ∈ G := gT7 37 rfl rfl
theorem g_1478 : Jvm.Cond.instanceMethod ({ cls := "RainWalkModel$World", name := "find", desc := "(J)I" } : Jvm.MethodName) ∈ G := gT7 38 rfl rfl
theorem g_1479 : Jvm.Cond.selects "RainWalkModel$World" ({ cls := "RainWalkModel$World", name := "find", desc := "(J)I" } : Jvm.MethodName) ({ cls := "RainWalkModel$World", name := "find", desc := "(J)I" } : Jvm.MethodName) ∈ G := gT7 39 rfl rfl
theorem g_1480 : Jvm.Cond.code ({ cls := "RainWalkModel$World", name := "find", desc := "(J)I" } : Jvm.MethodName) prog_13_method_2_code (4 : Nat) (Option.some Jvm.ClassFile.FieldType.int) ∈ G := gT7 40 rfl rfl
theorem g_1481 : Jvm.Cond.methodLink "RainWalkModel" (252 : Nat) ({ cls := "RainWalkModel", name := "eatsWord", desc := "(Ljava/lang/String;)Z" } : Jvm.MethodName) ∈ G := gT7 41 rfl rfl
theorem g_1483 : Jvm.Cond.instanceMethod ({ cls := "RainWalkModel", name := "eatsWord", desc := "(Ljava/lang/String;)Z" } : Jvm.MethodName) ∈ G := gT7 43 rfl rfl
theorem g_1484 : Jvm.Cond.code ({ cls := "RainWalkModel", name := "eatsWord", desc := "(Ljava/lang/String;)Z" } : Jvm.MethodName) prog_12_method_17_code (3 : Nat) (Option.some Jvm.ClassFile.FieldType.boolean) ∈ G := gT7 44 rfl rfl
theorem g_1485 : Jvm.Cond.methodLink "RainWalkModel" (255 : Nat) ({ cls := "RainWalkModel", name := "names", desc := "(JII)V" } : Jvm.MethodName) ∈ G := gT7 45 rfl rfl
theorem g_1487 : Jvm.Cond.instanceMethod ({ cls := "RainWalkModel", name := "names", desc := "(JII)V" } : Jvm.MethodName) ∈ G := gT7 47 rfl rfl
theorem g_1488 : Jvm.Cond.code ({ cls := "RainWalkModel", name := "names", desc := "(JII)V" } : Jvm.MethodName) prog_12_method_25_code (5 : Nat) (Option.none : Option Jvm.ClassFile.FieldType) ∈ G := gT7 48 rfl rfl
theorem g_1489 : Jvm.Cond.methodLink "RainWalkModel" (205 : Nat) ({ cls := "RainWalkModel", name := "readRoad", desc := "()V" } : Jvm.MethodName) ∈ G := gT7 49 rfl rfl
theorem g_1491 : Jvm.Cond.instanceMethod ({ cls := "RainWalkModel", name := "readRoad", desc := "()V" } : Jvm.MethodName) ∈ G := gT7 51 rfl rfl
theorem g_1492 : Jvm.Cond.code ({ cls := "RainWalkModel", name := "readRoad", desc := "()V" } : Jvm.MethodName) prog_12_method_33_code (7 : Nat) (Option.none : Option Jvm.ClassFile.FieldType) ∈ G := gT7 52 rfl rfl
theorem g_1493 : Jvm.Cond.methodLink "RainWalkModel" (267 : Nat) ({ cls := "RainWalkModel", name := "known", desc := "(I)I" } : Jvm.MethodName) ∈ G := gT7 53 rfl rfl
theorem g_1495 : Jvm.Cond.instanceMethod ({ cls := "RainWalkModel", name := "known", desc := "(I)I" } : Jvm.MethodName) ∈ G := gT7 55 rfl rfl
theorem g_1496 : Jvm.Cond.code ({ cls := "RainWalkModel", name := "known", desc := "(I)I" } : Jvm.MethodName) prog_12_method_26_code (3 : Nat) (Option.some Jvm.ClassFile.FieldType.int) ∈ G := gT7 56 rfl rfl
theorem g_1497 : Jvm.Cond.methodLink "RainWalkModel" (208 : Nat) ({ cls := "RainWalkModel", name := "readWalker", desc := "()V" } : Jvm.MethodName) ∈ G := gT7 57 rfl rfl
theorem g_1499 : Jvm.Cond.instanceMethod ({ cls := "RainWalkModel", name := "readWalker", desc := "()V" } : Jvm.MethodName) ∈ G := gT7 59 rfl rfl
theorem g_1500 : Jvm.Cond.code ({ cls := "RainWalkModel", name := "readWalker", desc := "()V" } : Jvm.MethodName) prog_12_method_34_code (12 : Nat) (Option.none : Option Jvm.ClassFile.FieldType) ∈ G := gT7 60 rfl rfl
theorem g_1510 : Jvm.Cond.methodLink "RainWalkModel" (211 : Nat) ({ cls := "RainWalkModel", name := "readSeen", desc := "()V" } : Jvm.MethodName) ∈ G := gT7 70 rfl rfl
theorem g_1512 : Jvm.Cond.instanceMethod ({ cls := "RainWalkModel", name := "readSeen", desc := "()V" } : Jvm.MethodName) ∈ G := gT7 72 rfl rfl
theorem g_1513 : Jvm.Cond.code ({ cls := "RainWalkModel", name := "readSeen", desc := "()V" } : Jvm.MethodName) prog_12_method_35_code (4 : Nat) (Option.none : Option Jvm.ClassFile.FieldType) ∈ G := gT7 73 rfl rfl
theorem g_1514 : Jvm.Cond.methodLink "RainWalkModel" (187 : Nat) ({ cls := "RainWalkModel", name := "eatsSign", desc := "(I)Z" } : Jvm.MethodName) ∈ G := gT7 74 rfl rfl
theorem g_1516 : Jvm.Cond.instanceMethod ({ cls := "RainWalkModel", name := "eatsSign", desc := "(I)Z" } : Jvm.MethodName) ∈ G := gT7 76 rfl rfl
theorem g_1517 : Jvm.Cond.code ({ cls := "RainWalkModel", name := "eatsSign", desc := "(I)Z" } : Jvm.MethodName) prog_12_method_18_code (3 : Nat) (Option.some Jvm.ClassFile.FieldType.boolean) ∈ G := gT7 77 rfl rfl
theorem g_1518 : Jvm.Cond.methodLink "RainWalkModel" (50 : Nat) ({ cls := "RainWalkModel", name := "good", desc := "(I)I" } : Jvm.MethodName) ∈ G := gT7 78 rfl rfl
theorem g_1520 : Jvm.Cond.instanceMethod ({ cls := "RainWalkModel", name := "good", desc := "(I)I" } : Jvm.MethodName) ∈ G := gT7 80 rfl rfl
theorem g_1521 : Jvm.Cond.code ({ cls := "RainWalkModel", name := "good", desc := "(I)I" } : Jvm.MethodName) prog_12_method_6_code (2 : Nat) (Option.some Jvm.ClassFile.FieldType.int) ∈ G := gT7 81 rfl rfl
theorem g_1522 : Jvm.Cond.methodLink "RainWalkLaw" (32 : Nat) ({ cls := "RainWalkModel", name := "fault", desc := "()I" } : Jvm.MethodName) ∈ G := gT7 82 rfl rfl
theorem g_1523 : Jvm.Cond.instanceMethod ({ cls := "RainWalkModel", name := "fault", desc := "()I" } : Jvm.MethodName) ∈ G := gT7 83 rfl rfl
theorem g_1524 : Jvm.Cond.selects "RainWalkModel" ({ cls := "RainWalkModel", name := "fault", desc := "()I" } : Jvm.MethodName) ({ cls := "RainWalkModel", name := "fault", desc := "()I" } : Jvm.MethodName) ∈ G := gT7 84 rfl rfl
theorem g_1525 : Jvm.Cond.code ({ cls := "RainWalkModel", name := "fault", desc := "()I" } : Jvm.MethodName) prog_12_method_38_code (1 : Nat) (Option.some Jvm.ClassFile.FieldType.int) ∈ G := gT7 85 rfl rfl
theorem g_1526 : Jvm.Cond.methodLink "RainWalkLaw" (36 : Nat) ({ cls := "RainWalkModel", name := "where", desc := "()I" } : Jvm.MethodName) ∈ G := gT7 86 rfl rfl
theorem g_1527 : Jvm.Cond.instanceMethod ({ cls := "RainWalkModel", name := "where", desc := "()I" } : Jvm.MethodName) ∈ G := gT7 87 rfl rfl
theorem g_1528 : Jvm.Cond.selects "RainWalkModel" ({ cls := "RainWalkModel", name := "where", desc := "()I" } : Jvm.MethodName) ({ cls := "RainWalkModel", name := "where", desc := "()I" } : Jvm.MethodName) ∈ G := gT7 88 rfl rfl
theorem g_1529 : Jvm.Cond.code ({ cls := "RainWalkModel", name := "where", desc := "()I" } : Jvm.MethodName) prog_12_method_39_code (1 : Nat) (Option.some Jvm.ClassFile.FieldType.int) ∈ G := gT7 89 rfl rfl
theorem g_1530 : Jvm.Cond.methodLink "RainWalkLaw" (41 : Nat) ({ cls := "RainWalkModel", name := "face", desc := "(IIIIIIZ)J" } : Jvm.MethodName) ∈ G := gT7 90 rfl rfl
theorem g_1531 : Jvm.Cond.instanceMethod ({ cls := "RainWalkModel", name := "face", desc := "(IIIIIIZ)J" } : Jvm.MethodName) ∈ G := gT7 91 rfl rfl
theorem g_1532 : Jvm.Cond.selects "RainWalkModel" ({ cls := "RainWalkModel", name := "face", desc := "(IIIIIIZ)J" } : Jvm.MethodName) ({ cls := "RainWalkModel", name := "face", desc := "(IIIIIIZ)J" } : Jvm.MethodName) ∈ G := gT7 92 rfl rfl
theorem g_1533 : Jvm.Cond.code ({ cls := "RainWalkModel", name := "face", desc := "(IIIIIIZ)J" } : Jvm.MethodName) prog_12_method_51_code (9 : Nat) (Option.some Jvm.ClassFile.FieldType.long) ∈ G := gT7 93 rfl rfl
theorem g_1534 : Jvm.Cond.methodLink "RainWalkModel" (383 : Nat) ({ cls := "RainWalkModel", name := "refuses", desc := "(IIIII)I" } : Jvm.MethodName) ∈ G := gT7 94 rfl rfl
theorem g_1536 : Jvm.Cond.instanceMethod ({ cls := "RainWalkModel", name := "refuses", desc := "(IIIII)I" } : Jvm.MethodName) ∈ G := gT7 96 rfl rfl
theorem g_1537 : Jvm.Cond.code ({ cls := "RainWalkModel", name := "refuses", desc := "(IIIII)I" } : Jvm.MethodName) prog_12_method_45_code (6 : Nat) (Option.some Jvm.ClassFile.FieldType.int) ∈ G := gT7 97 rfl rfl
theorem g_1538 : Jvm.Cond.methodLink "RainWalkModel" (346 : Nat) ({ cls := "RainWalkModel", name := "isWalker", desc := "(I)Z" } : Jvm.MethodName) ∈ G := gT7 98 rfl rfl
theorem g_1540 : Jvm.Cond.instanceMethod ({ cls := "RainWalkModel", name := "isWalker", desc := "(I)Z" } : Jvm.MethodName) ∈ G := gT7 100 rfl rfl
theorem g_1541 : Jvm.Cond.code ({ cls := "RainWalkModel", name := "isWalker", desc := "(I)Z" } : Jvm.MethodName) prog_12_method_40_code (2 : Nat) (Option.some Jvm.ClassFile.FieldType.boolean) ∈ G := gT7 101 rfl rfl
theorem g_1542 : Jvm.Cond.methodLink "RainWalkModel" (349 : Nat) ({ cls := "RainWalkModel", name := "isRoad", desc := "(I)Z" } : Jvm.MethodName) ∈ G := gT7 102 rfl rfl
theorem g_1544 : Jvm.Cond.instanceMethod ({ cls := "RainWalkModel", name := "isRoad", desc := "(I)Z" } : Jvm.MethodName) ∈ G := gT7 104 rfl rfl
theorem g_1545 : Jvm.Cond.code ({ cls := "RainWalkModel", name := "isRoad", desc := "(I)Z" } : Jvm.MethodName) prog_12_method_41_code (2 : Nat) (Option.some Jvm.ClassFile.FieldType.boolean) ∈ G := gT7 105 rfl rfl
theorem g_1546 : Jvm.Cond.methodLink "RainWalkModel" (352 : Nat) ({ cls := "RainWalkModel", name := "isHour", desc := "(I)Z" } : Jvm.MethodName) ∈ G := gT7 106 rfl rfl
theorem g_1548 : Jvm.Cond.instanceMethod ({ cls := "RainWalkModel", name := "isHour", desc := "(I)Z" } : Jvm.MethodName) ∈ G := gT7 108 rfl rfl
theorem g_1549 : Jvm.Cond.code ({ cls := "RainWalkModel", name := "isHour", desc := "(I)Z" } : Jvm.MethodName) prog_12_method_43_code (2 : Nat) (Option.some Jvm.ClassFile.FieldType.boolean) ∈ G := gT7 109 rfl rfl
theorem g_1550 : Jvm.Cond.methodLink "RainWalkModel" (355 : Nat) ({ cls := "RainWalkModel", name := "isSpeed", desc := "(II)Z" } : Jvm.MethodName) ∈ G := gT7 110 rfl rfl
theorem g_1552 : Jvm.Cond.instanceMethod ({ cls := "RainWalkModel", name := "isSpeed", desc := "(II)Z" } : Jvm.MethodName) ∈ G := gT7 112 rfl rfl
theorem g_1553 : Jvm.Cond.code ({ cls := "RainWalkModel", name := "isSpeed", desc := "(II)Z" } : Jvm.MethodName) prog_12_method_44_code (3 : Nat) (Option.some Jvm.ClassFile.FieldType.boolean) ∈ G := gT7 113 rfl rfl
theorem g_1554 : Jvm.Cond.methodLink "RainWalkModel" (379 : Nat) ({ cls := "RainWalkModel", name := "partsOf", desc := "(IIIIII)J" } : Jvm.MethodName) ∈ G := gT7 114 rfl rfl
theorem g_1556 : Jvm.Cond.instanceMethod ({ cls := "RainWalkModel", name := "partsOf", desc := "(IIIIII)J" } : Jvm.MethodName) ∈ G := gT7 116 rfl rfl
theorem g_1557 : Jvm.Cond.code ({ cls := "RainWalkModel", name := "partsOf", desc := "(IIIIII)J" } : Jvm.MethodName) prog_12_method_49_code (7 : Nat) (Option.some Jvm.ClassFile.FieldType.long) ∈ G := gT7 117 rfl rfl
theorem g_1558 : Jvm.Cond.methodLink "RainWalkModel" (375 : Nat) ({ cls := "RainWalkModel", name := "inTime", desc := "(IIIIIIII)I" } : Jvm.MethodName) ∈ G := gT7 118 rfl rfl
theorem g_1560 : Jvm.Cond.instanceMethod ({ cls := "RainWalkModel", name := "inTime", desc := "(IIIIIIII)I" } : Jvm.MethodName) ∈ G := gT7 120 rfl rfl
theorem g_1561 : Jvm.Cond.code ({ cls := "RainWalkModel", name := "inTime", desc := "(IIIIIIII)I" } : Jvm.MethodName) prog_12_method_48_code (14 : Nat) (Option.some Jvm.ClassFile.FieldType.int) ∈ G := gT7 121 rfl rfl
theorem g_1562 : Jvm.Cond.methodLink "RainWalkModel" (361 : Nat) ({ cls := "RainWalkModel$World", name := "air", desc := "(III)I" } : Jvm.MethodName) ∈ G := gT7 122 rfl rfl
theorem g_1563 : Jvm.Cond.instanceMethod ({ cls := "RainWalkModel$World", name := "air", desc := "(III)I" } : Jvm.MethodName) ∈ G := gT7 123 rfl rfl
theorem g_1564 : Jvm.Cond.selects "RainWalkModel$World" ({ cls := "RainWalkModel$World", name := "air", desc := "(III)I" } : Jvm.MethodName) ({ cls := "RainWalkModel$World", name := "air", desc := "(III)I" } : Jvm.MethodName) ∈ G := gT7 124 rfl rfl
theorem g_1565 : Jvm.Cond.code ({ cls := "RainWalkModel$World", name := "air", desc := "(III)I" } : Jvm.MethodName) prog_13_method_8_code (5 : Nat) (Option.some Jvm.ClassFile.FieldType.int) ∈ G := gT7 125 rfl rfl
theorem g_1566 : Jvm.Cond.methodLink "RainWalkModel$World" (90 : Nat) ({ cls := "RainWalkModel$World", name := "facing", desc := "(II)I" } : Jvm.MethodName) ∈ G := gT7 126 rfl rfl
theorem g_1567 : Jvm.Cond.instanceMethod ({ cls := "RainWalkModel$World", name := "facing", desc := "(II)I" } : Jvm.MethodName) ∈ G := gT7 127 rfl rfl
theorem g_1568 : Jvm.Cond.selects "RainWalkModel$World" ({ cls := "RainWalkModel$World", name := "facing", desc := "(II)I" } : Jvm.MethodName) ({ cls := "RainWalkModel$World", name := "facing", desc := "(II)I" } : Jvm.MethodName) ∈ G := gT7 128 rfl rfl
theorem g_1569 : Jvm.Cond.code ({ cls := "RainWalkModel$World", name := "facing", desc := "(II)I" } : Jvm.MethodName) prog_13_method_6_code (3 : Nat) (Option.some Jvm.ClassFile.FieldType.int) ∈ G := gT7 129 rfl rfl
theorem g_1570 : Jvm.Cond.methodLink "RainWalkModel" (365 : Nat) ({ cls := "RainWalkModel$World", name := "across", desc := "(III)I" } : Jvm.MethodName) ∈ G := gT7 130 rfl rfl
theorem g_1571 : Jvm.Cond.instanceMethod ({ cls := "RainWalkModel$World", name := "across", desc := "(III)I" } : Jvm.MethodName) ∈ G := gT7 131 rfl rfl
theorem g_1572 : Jvm.Cond.selects "RainWalkModel$World" ({ cls := "RainWalkModel$World", name := "across", desc := "(III)I" } : Jvm.MethodName) ({ cls := "RainWalkModel$World", name := "across", desc := "(III)I" } : Jvm.MethodName) ∈ G := gT7 132 rfl rfl
theorem g_1573 : Jvm.Cond.code ({ cls := "RainWalkModel$World", name := "across", desc := "(III)I" } : Jvm.MethodName) prog_13_method_9_code (5 : Nat) (Option.some Jvm.ClassFile.FieldType.int) ∈ G := gT7 133 rfl rfl
theorem g_1574 : Jvm.Cond.methodLink "RainWalkModel" (368 : Nat) ({ cls := "RainWalkModel", name := "isForward", desc := "(IIIII)Z" } : Jvm.MethodName) ∈ G := gT7 134 rfl rfl
theorem g_1576 : Jvm.Cond.instanceMethod ({ cls := "RainWalkModel", name := "isForward", desc := "(IIIII)Z" } : Jvm.MethodName) ∈ G := gT7 136 rfl rfl
theorem g_1577 : Jvm.Cond.code ({ cls := "RainWalkModel", name := "isForward", desc := "(IIIII)Z" } : Jvm.MethodName) prog_12_method_46_code (11 : Nat) (Option.some Jvm.ClassFile.FieldType.boolean) ∈ G := gT7 137 rfl rfl
theorem g_1578 : Jvm.Cond.methodLink "RainWalkModel" (359 : Nat) ({ cls := "RainWalkModel$World", name := "shield", desc := "(I)I" } : Jvm.MethodName) ∈ G := gT7 138 rfl rfl
theorem g_1579 : Jvm.Cond.instanceMethod ({ cls := "RainWalkModel$World", name := "shield", desc := "(I)I" } : Jvm.MethodName) ∈ G := gT7 139 rfl rfl
theorem g_1580 : Jvm.Cond.selects "RainWalkModel$World" ({ cls := "RainWalkModel$World", name := "shield", desc := "(I)I" } : Jvm.MethodName) ({ cls := "RainWalkModel$World", name := "shield", desc := "(I)I" } : Jvm.MethodName) ∈ G := gT7 140 rfl rfl
theorem g_1581 : Jvm.Cond.code ({ cls := "RainWalkModel$World", name := "shield", desc := "(I)I" } : Jvm.MethodName) prog_13_method_3_code (2 : Nat) (Option.some Jvm.ClassFile.FieldType.int) ∈ G := gT7 141 rfl rfl
theorem g_1582 : Jvm.Cond.methodLink "RainWalkModel" (372 : Nat) ({ cls := "RainWalkModel", name := "less", desc := "(II)I" } : Jvm.MethodName) ∈ G := gT7 142 rfl rfl
theorem g_1583 : Jvm.Cond.static ({ cls := "RainWalkModel", name := "less", desc := "(II)I" } : Jvm.MethodName) ∈ G := gT7 143 rfl rfl
theorem g_1584 : Jvm.Cond.code ({ cls := "RainWalkModel", name := "less", desc := "(II)I" } : Jvm.MethodName) prog_12_method_47_code (2 : Nat) (Option.some Jvm.ClassFile.FieldType.int) ∈ G := gT7 144 rfl rfl
theorem g_1585 : Jvm.Cond.constantLong "RainWalkModel" (387 : Nat) (2520 : Int64) ∈ G := gT7 145 rfl rfl
theorem g_1586 : Jvm.Cond.methodLink "RainWalkModel" (389 : Nat) ({ cls := "RainWalkModel", name := "told", desc := "(JJZ)J" } : Jvm.MethodName) ∈ G := gT7 146 rfl rfl
theorem g_1588 : Jvm.Cond.instanceMethod ({ cls := "RainWalkModel", name := "told", desc := "(JJZ)J" } : Jvm.MethodName) ∈ G := gT7 148 rfl rfl
theorem g_1589 : Jvm.Cond.code ({ cls := "RainWalkModel", name := "told", desc := "(JJZ)J" } : Jvm.MethodName) prog_12_method_9_code (12 : Nat) (Option.some Jvm.ClassFile.FieldType.long) ∈ G := gT7 149 rfl rfl
theorem g_1590 : Jvm.Cond.methodLink "RainWalkLaw" (46 : Nat) ({ cls := "RainWalkModel", name := "wet", desc := "(IIIIIZ)J" } : Jvm.MethodName) ∈ G := gT7 150 rfl rfl
theorem g_1591 : Jvm.Cond.instanceMethod ({ cls := "RainWalkModel", name := "wet", desc := "(IIIIIZ)J" } : Jvm.MethodName) ∈ G := gT7 151 rfl rfl
theorem g_1592 : Jvm.Cond.selects "RainWalkModel" ({ cls := "RainWalkModel", name := "wet", desc := "(IIIIIZ)J" } : Jvm.MethodName) ({ cls := "RainWalkModel", name := "wet", desc := "(IIIIIZ)J" } : Jvm.MethodName) ∈ G := gT7 152 rfl rfl
theorem g_1593 : Jvm.Cond.code ({ cls := "RainWalkModel", name := "wet", desc := "(IIIIIZ)J" } : Jvm.MethodName) prog_12_method_52_code (8 : Nat) (Option.some Jvm.ClassFile.FieldType.long) ∈ G := gT7 153 rfl rfl
theorem g_1594 : Jvm.Cond.methodLink "RainWalkModel" (393 : Nat) ({ cls := "RainWalkModel", name := "wetOf", desc := "(IIIII)J" } : Jvm.MethodName) ∈ G := gT7 154 rfl rfl
theorem g_1596 : Jvm.Cond.instanceMethod ({ cls := "RainWalkModel", name := "wetOf", desc := "(IIIII)J" } : Jvm.MethodName) ∈ G := gT7 156 rfl rfl
theorem g_1597 : Jvm.Cond.code ({ cls := "RainWalkModel", name := "wetOf", desc := "(IIIII)J" } : Jvm.MethodName) prog_12_method_50_code (9 : Nat) (Option.some Jvm.ClassFile.FieldType.long) ∈ G := gT7 157 rfl rfl
theorem g_1598 : Jvm.Cond.methodLink "RainWalkLaw" (50 : Nat) ({ cls := "RainWalkModel", name := "mean", desc := "(IIIIIZ)J" } : Jvm.MethodName) ∈ G := gT7 158 rfl rfl
theorem g_1599 : Jvm.Cond.instanceMethod ({ cls := "RainWalkModel", name := "mean", desc := "(IIIIIZ)J" } : Jvm.MethodName) ∈ G := gT7 159 rfl rfl
theorem g_1600 : Jvm.Cond.selects "RainWalkModel" ({ cls := "RainWalkModel", name := "mean", desc := "(IIIIIZ)J" } : Jvm.MethodName) ({ cls := "RainWalkModel", name := "mean", desc := "(IIIIIZ)J" } : Jvm.MethodName) ∈ G := gT7 160 rfl rfl
theorem g_1601 : Jvm.Cond.code ({ cls := "RainWalkModel", name := "mean", desc := "(IIIIIZ)J" } : Jvm.MethodName) prog_12_method_53_code (8 : Nat) (Option.some Jvm.ClassFile.FieldType.long) ∈ G := gT7 161 rfl rfl
theorem g_1602 : Jvm.Cond.constantLong "RainWalkModel" (397 : Nat) (252000 : Int64) ∈ G := gT7 162 rfl rfl
theorem g_1603 : Jvm.Cond.methodLink "RainWalkLaw" (55 : Nat) ({ cls := "RainWalkModel", name := "minutes", desc := "(III)I" } : Jvm.MethodName) ∈ G := gT7 163 rfl rfl
theorem g_1604 : Jvm.Cond.instanceMethod ({ cls := "RainWalkModel", name := "minutes", desc := "(III)I" } : Jvm.MethodName) ∈ G := gT7 164 rfl rfl
theorem g_1605 : Jvm.Cond.selects "RainWalkModel" ({ cls := "RainWalkModel", name := "minutes", desc := "(III)I" } : Jvm.MethodName) ({ cls := "RainWalkModel", name := "minutes", desc := "(III)I" } : Jvm.MethodName) ∈ G := gT7 165 rfl rfl
theorem g_1606 : Jvm.Cond.code ({ cls := "RainWalkModel", name := "minutes", desc := "(III)I" } : Jvm.MethodName) prog_12_method_54_code (4 : Nat) (Option.some Jvm.ClassFile.FieldType.int) ∈ G := gT7 166 rfl rfl
theorem g_1607 : Jvm.Cond.methodLink "RainWalkModel" (399 : Nat) ({ cls := "RainWalkModel$World", name := "minutes", desc := "(II)I" } : Jvm.MethodName) ∈ G := gT7 167 rfl rfl
theorem g_1608 : Jvm.Cond.instanceMethod ({ cls := "RainWalkModel$World", name := "minutes", desc := "(II)I" } : Jvm.MethodName) ∈ G := gT7 168 rfl rfl
theorem g_1609 : Jvm.Cond.selects "RainWalkModel$World" ({ cls := "RainWalkModel$World", name := "minutes", desc := "(II)I" } : Jvm.MethodName) ({ cls := "RainWalkModel$World", name := "minutes", desc := "(II)I" } : Jvm.MethodName) ∈ G := gT7 169 rfl rfl
theorem g_1610 : Jvm.Cond.code ({ cls := "RainWalkModel$World", name := "minutes", desc := "(II)I" } : Jvm.MethodName) prog_13_method_7_code (3 : Nat) (Option.some Jvm.ClassFile.FieldType.int) ∈ G := gT7 170 rfl rfl
theorem g_1611 : Jvm.Cond.methodLink "RainWalkLaw" (59 : Nat) ({ cls := "RainWalkModel", name := "air", desc := "(III)I" } : Jvm.MethodName) ∈ G := gT7 171 rfl rfl
theorem g_1612 : Jvm.Cond.instanceMethod ({ cls := "RainWalkModel", name := "air", desc := "(III)I" } : Jvm.MethodName) ∈ G := gT7 172 rfl rfl
theorem g_1613 : Jvm.Cond.selects "RainWalkModel" ({ cls := "RainWalkModel", name := "air", desc := "(III)I" } : Jvm.MethodName) ({ cls := "RainWalkModel", name := "air", desc := "(III)I" } : Jvm.MethodName) ∈ G := gT7 173 rfl rfl
theorem g_1614 : Jvm.Cond.code ({ cls := "RainWalkModel", name := "air", desc := "(III)I" } : Jvm.MethodName) prog_12_method_55_code (4 : Nat) (Option.some Jvm.ClassFile.FieldType.int) ∈ G := gT7 174 rfl rfl
theorem g_1615 : Jvm.Cond.methodLink "RainWalkModel" (402 : Nat) ({ cls := "RainWalkModel", name := "lost", desc := "(I)I" } : Jvm.MethodName) ∈ G := gT7 175 rfl rfl
theorem g_1617 : Jvm.Cond.instanceMethod ({ cls := "RainWalkModel", name := "lost", desc := "(I)I" } : Jvm.MethodName) ∈ G := gT7 177 rfl rfl
theorem g_1618 : Jvm.Cond.code ({ cls := "RainWalkModel", name := "lost", desc := "(I)I" } : Jvm.MethodName) prog_12_method_4_code (2 : Nat) (Option.some Jvm.ClassFile.FieldType.int) ∈ G := gT7 178 rfl rfl
theorem g_1619 : Jvm.Cond.methodLink "RainWalkLaw" (63 : Nat) ({ cls := "RainWalkModel", name := "held", desc := "(IIIII)I" } : Jvm.MethodName) ∈ G := gT7 179 rfl rfl
theorem g_1620 : Jvm.Cond.instanceMethod ({ cls := "RainWalkModel", name := "held", desc := "(IIIII)I" } : Jvm.MethodName) ∈ G := gT7 180 rfl rfl
theorem g_1621 : Jvm.Cond.selects "RainWalkModel" ({ cls := "RainWalkModel", name := "held", desc := "(IIIII)I" } : Jvm.MethodName) ({ cls := "RainWalkModel", name := "held", desc := "(IIIII)I" } : Jvm.MethodName) ∈ G := gT7 181 rfl rfl
theorem g_1622 : Jvm.Cond.code ({ cls := "RainWalkModel", name := "held", desc := "(IIIII)I" } : Jvm.MethodName) prog_12_method_56_code (7 : Nat) (Option.some Jvm.ClassFile.FieldType.int) ∈ G := gT7 182 rfl rfl
theorem g_1623 : Jvm.Cond.methodLink "RainWalkLaw" (68 : Nat) ({ cls := "RainWalkModel", name := "best", desc := "(IIII)I" } : Jvm.MethodName) ∈ G := gT7 183 rfl rfl
theorem g_1624 : Jvm.Cond.instanceMethod ({ cls := "RainWalkModel", name := "best", desc := "(IIII)I" } : Jvm.MethodName) ∈ G := gT7 184 rfl rfl
theorem g_1625 : Jvm.Cond.selects "RainWalkModel" ({ cls := "RainWalkModel", name := "best", desc := "(IIII)I" } : Jvm.MethodName) ({ cls := "RainWalkModel", name := "best", desc := "(IIII)I" } : Jvm.MethodName) ∈ G := gT7 185 rfl rfl
theorem g_1626 : Jvm.Cond.code ({ cls := "RainWalkModel", name := "best", desc := "(IIII)I" } : Jvm.MethodName) prog_12_method_58_code (5 : Nat) (Option.some Jvm.ClassFile.FieldType.int) ∈ G := gT7 186 rfl rfl
theorem g_1627 : Jvm.Cond.methodLink "RainWalkModel" (405 : Nat) ({ cls := "RainWalkModel", name := "bestOf", desc := "(IIII)I" } : Jvm.MethodName) ∈ G := gT7 187 rfl rfl
theorem g_1629 : Jvm.Cond.instanceMethod ({ cls := "RainWalkModel", name := "bestOf", desc := "(IIII)I" } : Jvm.MethodName) ∈ G := gT7 189 rfl rfl
theorem g_1630 : Jvm.Cond.code ({ cls := "RainWalkModel", name := "bestOf", desc := "(IIII)I" } : Jvm.MethodName) prog_12_method_57_code (7 : Nat) (Option.some Jvm.ClassFile.FieldType.int) ∈ G := gT7 190 rfl rfl
theorem g_1631 : Jvm.Cond.methodLink "RainWalkLaw" (73 : Nat) ({ cls := "RainWalkModel", name := "saves", desc := "(IIIIZ)J" } : Jvm.MethodName) ∈ G := gT7 191 rfl rfl
theorem g_1632 : Jvm.Cond.instanceMethod ({ cls := "RainWalkModel", name := "saves", desc := "(IIIIZ)J" } : Jvm.MethodName) ∈ G := gT7 192 rfl rfl
theorem g_1633 : Jvm.Cond.selects "RainWalkModel" ({ cls := "RainWalkModel", name := "saves", desc := "(IIIIZ)J" } : Jvm.MethodName) ({ cls := "RainWalkModel", name := "saves", desc := "(IIIIZ)J" } : Jvm.MethodName) ∈ G := gT7 193 rfl rfl
theorem g_1634 : Jvm.Cond.code ({ cls := "RainWalkModel", name := "saves", desc := "(IIIIZ)J" } : Jvm.MethodName) prog_12_method_59_code (6 : Nat) (Option.some Jvm.ClassFile.FieldType.long) ∈ G := gT7 194 rfl rfl
theorem g_1635 : Jvm.Cond.methodLink "RainWalkLaw" (77 : Nat) ({ cls := "RainWalkModel", name := "worst", desc := "(IIII)I" } : Jvm.MethodName) ∈ G := gT7 195 rfl rfl
theorem g_1636 : Jvm.Cond.instanceMethod ({ cls := "RainWalkModel", name := "worst", desc := "(IIII)I" } : Jvm.MethodName) ∈ G := gT7 196 rfl rfl
theorem g_1637 : Jvm.Cond.selects "RainWalkModel" ({ cls := "RainWalkModel", name := "worst", desc := "(IIII)I" } : Jvm.MethodName) ({ cls := "RainWalkModel", name := "worst", desc := "(IIII)I" } : Jvm.MethodName) ∈ G := gT7 197 rfl rfl
theorem g_1638 : Jvm.Cond.code ({ cls := "RainWalkModel", name := "worst", desc := "(IIII)I" } : Jvm.MethodName) prog_12_method_60_code (7 : Nat) (Option.some Jvm.ClassFile.FieldType.int) ∈ G := gT7 198 rfl rfl
theorem g_1639 : Jvm.Cond.methodLink "RainWalkLaw" (81 : Nat) ({ cls := "RainWalkModel", name := "even", desc := "(IIII)I" } : Jvm.MethodName) ∈ G := gT7 199 rfl rfl
theorem g_1640 : Jvm.Cond.instanceMethod ({ cls := "RainWalkModel", name := "even", desc := "(IIII)I" } : Jvm.MethodName) ∈ G := gT7 200 rfl rfl
theorem g_1641 : Jvm.Cond.selects "RainWalkModel" ({ cls := "RainWalkModel", name := "even", desc := "(IIII)I" } : Jvm.MethodName) ({ cls := "RainWalkModel", name := "even", desc := "(IIII)I" } : Jvm.MethodName) ∈ G := gT7 201 rfl rfl
theorem g_1642 : Jvm.Cond.code ({ cls := "RainWalkModel", name := "even", desc := "(IIII)I" } : Jvm.MethodName) prog_12_method_61_code (7 : Nat) (Option.some Jvm.ClassFile.FieldType.int) ∈ G := gT7 202 rfl rfl
theorem g_1643 : Jvm.Cond.methodLink "RainWalkLaw" (86 : Nat) ({ cls := "RainWalkModel", name := "round", desc := "(IIIZ)J" } : Jvm.MethodName) ∈ G := gT7 203 rfl rfl
theorem g_1644 : Jvm.Cond.instanceMethod ({ cls := "RainWalkModel", name := "round", desc := "(IIIZ)J" } : Jvm.MethodName) ∈ G := gT7 204 rfl rfl
theorem g_1645 : Jvm.Cond.selects "RainWalkModel" ({ cls := "RainWalkModel", name := "round", desc := "(IIIZ)J" } : Jvm.MethodName) ({ cls := "RainWalkModel", name := "round", desc := "(IIIZ)J" } : Jvm.MethodName) ∈ G := gT7 205 rfl rfl
theorem g_1646 : Jvm.Cond.code ({ cls := "RainWalkModel", name := "round", desc := "(IIIZ)J" } : Jvm.MethodName) prog_12_method_63_code (5 : Nat) (Option.some Jvm.ClassFile.FieldType.long) ∈ G := gT7 206 rfl rfl
theorem g_1647 : Jvm.Cond.methodLink "RainWalkModel" (409 : Nat) ({ cls := "RainWalkModel", name := "wetAtBest", desc := "(IIII)J" } : Jvm.MethodName) ∈ G := gT7 207 rfl rfl
theorem g_1649 : Jvm.Cond.instanceMethod ({ cls := "RainWalkModel", name := "wetAtBest", desc := "(IIII)J" } : Jvm.MethodName) ∈ G := gT7 209 rfl rfl
theorem g_1650 : Jvm.Cond.code ({ cls := "RainWalkModel", name := "wetAtBest", desc := "(IIII)J" } : Jvm.MethodName) prog_12_method_62_code (5 : Nat) (Option.some Jvm.ClassFile.FieldType.long) ∈ G := gT7 210 rfl rfl
theorem g_1651 : Jvm.Cond.methodLink "RainWalkLaw" (90 : Nat) ({ cls := "RainWalkModel", name := "driest", desc := "(III)I" } : Jvm.MethodName) ∈ G := gT7 211 rfl rfl
theorem g_1652 : Jvm.Cond.instanceMethod ({ cls := "RainWalkModel", name := "driest", desc := "(III)I" } : Jvm.MethodName) ∈ G := gT7 212 rfl rfl
theorem g_1653 : Jvm.Cond.selects "RainWalkModel" ({ cls := "RainWalkModel", name := "driest", desc := "(III)I" } : Jvm.MethodName) ({ cls := "RainWalkModel", name := "driest", desc := "(III)I" } : Jvm.MethodName) ∈ G := gT7 213 rfl rfl
theorem g_1654 : Jvm.Cond.code ({ cls := "RainWalkModel", name := "driest", desc := "(III)I" } : Jvm.MethodName) prog_12_method_64_code (10 : Nat) (Option.some Jvm.ClassFile.FieldType.int) ∈ G := gT7 214 rfl rfl
theorem g_1655 : Jvm.Cond.methodLink "RainWalkLaw" (94 : Nat) ({ cls := "RainWalkModel", name := "lee", desc := "(IIIIIIZ)J" } : Jvm.MethodName) ∈ G := gT7 215 rfl rfl
theorem g_1656 : Jvm.Cond.instanceMethod ({ cls := "RainWalkModel", name := "lee", desc := "(IIIIIIZ)J" } : Jvm.MethodName) ∈ G := gT7 216 rfl rfl
theorem g_1657 : Jvm.Cond.selects "RainWalkModel" ({ cls := "RainWalkModel", name := "lee", desc := "(IIIIIIZ)J" } : Jvm.MethodName) ({ cls := "RainWalkModel", name := "lee", desc := "(IIIIIIZ)J" } : Jvm.MethodName) ∈ G := gT7 217 rfl rfl
theorem g_1658 : Jvm.Cond.code ({ cls := "RainWalkModel", name := "lee", desc := "(IIIIIIZ)J" } : Jvm.MethodName) prog_12_method_67_code (9 : Nat) (Option.some Jvm.ClassFile.FieldType.long) ∈ G := gT7 218 rfl rfl
theorem g_1659 : Jvm.Cond.methodLink "RainWalkModel" (413 : Nat) ({ cls := "RainWalkModel", name := "refusesTwo", desc := "(IIIIII)I" } : Jvm.MethodName) ∈ G := gT7 219 rfl rfl
theorem g_1661 : Jvm.Cond.instanceMethod ({ cls := "RainWalkModel", name := "refusesTwo", desc := "(IIIIII)I" } : Jvm.MethodName) ∈ G := gT7 221 rfl rfl
theorem g_1662 : Jvm.Cond.code ({ cls := "RainWalkModel", name := "refusesTwo", desc := "(IIIIII)I" } : Jvm.MethodName) prog_12_method_66_code (8 : Nat) (Option.some Jvm.ClassFile.FieldType.int) ∈ G := gT7 222 rfl rfl
theorem g_1663 : Jvm.Cond.methodLink "RainWalkModel" (417 : Nat) ({ cls := "RainWalkModel", name := "together", desc := "(IIIIII)J" } : Jvm.MethodName) ∈ G := gT7 223 rfl rfl
theorem g_1665 : Jvm.Cond.instanceMethod ({ cls := "RainWalkModel", name := "together", desc := "(IIIIII)J" } : Jvm.MethodName) ∈ G := gT7 225 rfl rfl
theorem g_1666 : Jvm.Cond.code ({ cls := "RainWalkModel", name := "together", desc := "(IIIIII)J" } : Jvm.MethodName) prog_12_method_65_code (10 : Nat) (Option.some Jvm.ClassFile.FieldType.long) ∈ G := gT7 226 rfl rfl
theorem g_1667 : Jvm.Cond.methodLink "RainWalkLaw" (99 : Nat) ({ cls := "RainWalkModel", name := "first", desc := "(IIIIII)I" } : Jvm.MethodName) ∈ G := gT7 227 rfl rfl
theorem g_1668 : Jvm.Cond.instanceMethod ({ cls := "RainWalkModel", name := "first", desc := "(IIIIII)I" } : Jvm.MethodName) ∈ G := gT7 228 rfl rfl
theorem g_1669 : Jvm.Cond.selects "RainWalkModel" ({ cls := "RainWalkModel", name := "first", desc := "(IIIIII)I" } : Jvm.MethodName) ({ cls := "RainWalkModel", name := "first", desc := "(IIIIII)I" } : Jvm.MethodName) ∈ G := gT7 229 rfl rfl
theorem g_1670 : Jvm.Cond.code ({ cls := "RainWalkModel", name := "first", desc := "(IIIIII)I" } : Jvm.MethodName) prog_12_method_68_code (12 : Nat) (Option.some Jvm.ClassFile.FieldType.int) ∈ G := gT7 230 rfl rfl
theorem g_1671 : Jvm.Cond.methodLink "RainWalkLaw" (103 : Nat) ({ cls := "RainWalkModel", name := "least", desc := "(IIIIIZ)J" } : Jvm.MethodName) ∈ G := gT7 231 rfl rfl
theorem g_1672 : Jvm.Cond.instanceMethod ({ cls := "RainWalkModel", name := "least", desc := "(IIIIIZ)J" } : Jvm.MethodName) ∈ G := gT7 232 rfl rfl
theorem g_1673 : Jvm.Cond.selects "RainWalkModel" ({ cls := "RainWalkModel", name := "least", desc := "(IIIIIZ)J" } : Jvm.MethodName) ({ cls := "RainWalkModel", name := "least", desc := "(IIIIIZ)J" } : Jvm.MethodName) ∈ G := gT7 233 rfl rfl
theorem g_1674 : Jvm.Cond.code ({ cls := "RainWalkModel", name := "least", desc := "(IIIIIZ)J" } : Jvm.MethodName) prog_12_method_79_code (8 : Nat) (Option.some Jvm.ClassFile.FieldType.long) ∈ G := gT7 234 rfl rfl
theorem g_1675 : Jvm.Cond.methodLink "RainWalkModel" (462 : Nat) ({ cls := "RainWalkModel", name := "refusesWay", desc := "(IIIII)I" } : Jvm.MethodName) ∈ G := gT7 235 rfl rfl
theorem g_1677 : Jvm.Cond.instanceMethod ({ cls := "RainWalkModel", name := "refusesWay", desc := "(IIIII)I" } : Jvm.MethodName) ∈ G := gT7 237 rfl rfl
theorem g_1678 : Jvm.Cond.code ({ cls := "RainWalkModel", name := "refusesWay", desc := "(IIIII)I" } : Jvm.MethodName) prog_12_method_78_code (6 : Nat) (Option.some Jvm.ClassFile.FieldType.int) ∈ G := gT7 238 rfl rfl
theorem g_1679 : Jvm.Cond.methodLink "RainWalkModel" (455 : Nat) ({ cls := "RainWalkModel", name := "isPlace", desc := "(I)Z" } : Jvm.MethodName) ∈ G := gT7 239 rfl rfl
theorem g_1681 : Jvm.Cond.instanceMethod ({ cls := "RainWalkModel", name := "isPlace", desc := "(I)Z" } : Jvm.MethodName) ∈ G := gT8 1 rfl rfl
theorem g_1682 : Jvm.Cond.code ({ cls := "RainWalkModel", name := "isPlace", desc := "(I)Z" } : Jvm.MethodName) prog_12_method_42_code (2 : Nat) (Option.some Jvm.ClassFile.FieldType.boolean) ∈ G := gT8 2 rfl rfl
theorem g_1683 : Jvm.Cond.methodLink "RainWalkModel" (458 : Nat) ({ cls := "RainWalkModel", name := "laysWays", desc := "(III)V" } : Jvm.MethodName) ∈ G := gT8 3 rfl rfl
theorem g_1685 : Jvm.Cond.instanceMethod ({ cls := "RainWalkModel", name := "laysWays", desc := "(III)V" } : Jvm.MethodName) ∈ G := gT8 5 rfl rfl
theorem g_1686 : Jvm.Cond.code ({ cls := "RainWalkModel", name := "laysWays", desc := "(III)V" } : Jvm.MethodName) prog_12_method_75_code (7 : Nat) (Option.none : Option Jvm.ClassFile.FieldType) ∈ G := gT8 6 rfl rfl
theorem g_1687 : Jvm.Cond.methodLink "RainWalkModel" (427 : Nat) ({ cls := "RainWalkModel", name := "spotOf", desc := "(II)I" } : Jvm.MethodName) ∈ G := gT8 7 rfl rfl
theorem g_1688 : Jvm.Cond.static ({ cls := "RainWalkModel", name := "spotOf", desc := "(II)I" } : Jvm.MethodName) ∈ G := gT8 8 rfl rfl
theorem g_1689 : Jvm.Cond.code ({ cls := "RainWalkModel", name := "spotOf", desc := "(II)I" } : Jvm.MethodName) prog_12_method_69_code (2 : Nat) (Option.some Jvm.ClassFile.FieldType.int) ∈ G := gT8 9 rfl rfl
theorem g_1690 : Jvm.Cond.constantLong "RainWalkModel" (430 : Nat) (-1 : Int64) ∈ G := gT8 10 rfl rfl
theorem g_1691 : Jvm.Cond.methodLink "RainWalkModel" (432 : Nat) ({ cls := "RainWalkModel", name := "tries", desc := "(IIII)V" } : Jvm.MethodName) ∈ G := gT8 11 rfl rfl
theorem g_1693 : Jvm.Cond.instanceMethod ({ cls := "RainWalkModel", name := "tries", desc := "(IIII)V" } : Jvm.MethodName) ∈ G := gT8 13 rfl rfl
theorem g_1694 : Jvm.Cond.code ({ cls := "RainWalkModel", name := "tries", desc := "(IIII)V" } : Jvm.MethodName) prog_12_method_76_code (9 : Nat) (Option.none : Option Jvm.ClassFile.FieldType) ∈ G := gT8 14 rfl rfl
theorem g_1695 : Jvm.Cond.methodLink "RainWalkModel" (436 : Nat) ({ cls := "RainWalkModel$World", name := "begins", desc := "(II)I" } : Jvm.MethodName) ∈ G := gT8 15 rfl rfl
theorem g_1696 : Jvm.Cond.instanceMethod ({ cls := "RainWalkModel$World", name := "begins", desc := "(II)I" } : Jvm.MethodName) ∈ G := gT8 16 rfl rfl
theorem g_1697 : Jvm.Cond.selects "RainWalkModel$World" ({ cls := "RainWalkModel$World", name := "begins", desc := "(II)I" } : Jvm.MethodName) ({ cls := "RainWalkModel$World", name := "begins", desc := "(II)I" } : Jvm.MethodName) ∈ G := gT8 17 rfl rfl
theorem g_1698 : Jvm.Cond.code ({ cls := "RainWalkModel$World", name := "begins", desc := "(II)I" } : Jvm.MethodName) prog_13_method_4_code (3 : Nat) (Option.some Jvm.ClassFile.FieldType.int) ∈ G := gT8 18 rfl rfl
theorem g_1699 : Jvm.Cond.methodLink "RainWalkModel" (438 : Nat) ({ cls := "RainWalkModel$World", name := "ends", desc := "(II)I" } : Jvm.MethodName) ∈ G := gT8 19 rfl rfl
theorem g_1700 : Jvm.Cond.instanceMethod ({ cls := "RainWalkModel$World", name := "ends", desc := "(II)I" } : Jvm.MethodName) ∈ G := gT8 20 rfl rfl
theorem g_1701 : Jvm.Cond.selects "RainWalkModel$World" ({ cls := "RainWalkModel$World", name := "ends", desc := "(II)I" } : Jvm.MethodName) ({ cls := "RainWalkModel$World", name := "ends", desc := "(II)I" } : Jvm.MethodName) ∈ G := gT8 21 rfl rfl
theorem g_1702 : Jvm.Cond.code ({ cls := "RainWalkModel$World", name := "ends", desc := "(II)I" } : Jvm.MethodName) prog_13_method_5_code (3 : Nat) (Option.some Jvm.ClassFile.FieldType.int) ∈ G := gT8 22 rfl rfl
theorem g_1703 : Jvm.Cond.methodLink "RainWalkModel" (441 : Nat) ({ cls := "RainWalkModel", name := "meanOf", desc := "(IIIII)J" } : Jvm.MethodName) ∈ G := gT8 23 rfl rfl
theorem g_1705 : Jvm.Cond.instanceMethod ({ cls := "RainWalkModel", name := "meanOf", desc := "(IIIII)J" } : Jvm.MethodName) ∈ G := gT8 25 rfl rfl
theorem g_1706 : Jvm.Cond.code ({ cls := "RainWalkModel", name := "meanOf", desc := "(IIIII)J" } : Jvm.MethodName) prog_12_method_71_code (7 : Nat) (Option.some Jvm.ClassFile.FieldType.long) ∈ G := gT8 26 rfl rfl
theorem g_1707 : Jvm.Cond.methodLink "RainWalkModel" (420 : Nat) ({ cls := "RainWalkModel", name := "hourOf", desc := "(I)I" } : Jvm.MethodName) ∈ G := gT8 27 rfl rfl
theorem g_1709 : Jvm.Cond.instanceMethod ({ cls := "RainWalkModel", name := "hourOf", desc := "(I)I" } : Jvm.MethodName) ∈ G := gT8 29 rfl rfl
theorem g_1710 : Jvm.Cond.code ({ cls := "RainWalkModel", name := "hourOf", desc := "(I)I" } : Jvm.MethodName) prog_12_method_70_code (2 : Nat) (Option.some Jvm.ClassFile.FieldType.int) ∈ G := gT8 30 rfl rfl
theorem g_1711 : Jvm.Cond.methodLink "RainWalkModel" (444 : Nat) ({ cls := "RainWalkModel", name := "takes", desc := "(IIJI)V" } : Jvm.MethodName) ∈ G := gT8 31 rfl rfl
theorem g_1713 : Jvm.Cond.instanceMethod ({ cls := "RainWalkModel", name := "takes", desc := "(IIJI)V" } : Jvm.MethodName) ∈ G := gT8 33 rfl rfl
theorem g_1714 : Jvm.Cond.code ({ cls := "RainWalkModel", name := "takes", desc := "(IIJI)V" } : Jvm.MethodName) prog_12_method_77_code (8 : Nat) (Option.none : Option Jvm.ClassFile.FieldType) ∈ G := gT8 34 rfl rfl
theorem g_1715 : Jvm.Cond.methodLink "RainWalkModel" (448 : Nat) ({ cls := "RainWalkModel", name := "canWait", desc := "(I)Z" } : Jvm.MethodName) ∈ G := gT8 35 rfl rfl
theorem g_1717 : Jvm.Cond.instanceMethod ({ cls := "RainWalkModel", name := "canWait", desc := "(I)Z" } : Jvm.MethodName) ∈ G := gT8 37 rfl rfl
theorem g_1718 : Jvm.Cond.code ({ cls := "RainWalkModel", name := "canWait", desc := "(I)Z" } : Jvm.MethodName) prog_12_method_73_code (2 : Nat) (Option.some Jvm.ClassFile.FieldType.boolean) ∈ G := gT8 38 rfl rfl
theorem g_1719 : Jvm.Cond.methodLink "RainWalkModel" (451 : Nat) ({ cls := "RainWalkModel", name := "waitsOf", desc := "(III)J" } : Jvm.MethodName) ∈ G := gT8 39 rfl rfl
theorem g_1721 : Jvm.Cond.instanceMethod ({ cls := "RainWalkModel", name := "waitsOf", desc := "(III)J" } : Jvm.MethodName) ∈ G := gT8 41 rfl rfl
theorem g_1722 : Jvm.Cond.code ({ cls := "RainWalkModel", name := "waitsOf", desc := "(III)J" } : Jvm.MethodName) prog_12_method_74_code (5 : Nat) (Option.some Jvm.ClassFile.FieldType.long) ∈ G := gT8 42 rfl rfl
theorem g_1723 : Jvm.Cond.methodLink "RainWalkModel" (423 : Nat) ({ cls := "RainWalkModel", name := "drips", desc := "(II)J" } : Jvm.MethodName) ∈ G := gT8 43 rfl rfl
theorem g_1725 : Jvm.Cond.instanceMethod ({ cls := "RainWalkModel", name := "drips", desc := "(II)J" } : Jvm.MethodName) ∈ G := gT8 45 rfl rfl
theorem g_1726 : Jvm.Cond.code ({ cls := "RainWalkModel", name := "drips", desc := "(II)J" } : Jvm.MethodName) prog_12_method_72_code (3 : Nat) (Option.some Jvm.ClassFile.FieldType.long) ∈ G := gT8 46 rfl rfl
theorem g_1727 : Jvm.Cond.methodLink "RainWalkLaw" (107 : Nat) ({ cls := "RainWalkModel", name := "there", desc := "(IIIII)I" } : Jvm.MethodName) ∈ G := gT8 47 rfl rfl
theorem g_1728 : Jvm.Cond.instanceMethod ({ cls := "RainWalkModel", name := "there", desc := "(IIIII)I" } : Jvm.MethodName) ∈ G := gT8 48 rfl rfl
theorem g_1729 : Jvm.Cond.selects "RainWalkModel" ({ cls := "RainWalkModel", name := "there", desc := "(IIIII)I" } : Jvm.MethodName) ({ cls := "RainWalkModel", name := "there", desc := "(IIIII)I" } : Jvm.MethodName) ∈ G := gT8 49 rfl rfl
theorem g_1730 : Jvm.Cond.code ({ cls := "RainWalkModel", name := "there", desc := "(IIIII)I" } : Jvm.MethodName) prog_12_method_80_code (7 : Nat) (Option.some Jvm.ClassFile.FieldType.int) ∈ G := gT8 50 rfl rfl
theorem g_1731 : Jvm.Cond.methodLink "RainWalkLaw" (111 : Nat) ({ cls := "RainWalkModel", name := "steps", desc := "(IIIII)I" } : Jvm.MethodName) ∈ G := gT8 51 rfl rfl
theorem g_1732 : Jvm.Cond.instanceMethod ({ cls := "RainWalkModel", name := "steps", desc := "(IIIII)I" } : Jvm.MethodName) ∈ G := gT8 52 rfl rfl
theorem g_1733 : Jvm.Cond.selects "RainWalkModel" ({ cls := "RainWalkModel", name := "steps", desc := "(IIIII)I" } : Jvm.MethodName) ({ cls := "RainWalkModel", name := "steps", desc := "(IIIII)I" } : Jvm.MethodName) ∈ G := gT8 53 rfl rfl
theorem g_1734 : Jvm.Cond.code ({ cls := "RainWalkModel", name := "steps", desc := "(IIIII)I" } : Jvm.MethodName) prog_12_method_82_code (7 : Nat) (Option.some Jvm.ClassFile.FieldType.int) ∈ G := gT8 54 rfl rfl
theorem g_1735 : Jvm.Cond.methodLink "RainWalkModel" (465 : Nat) ({ cls := "RainWalkModel", name := "stepOf", desc := "(IIII)I" } : Jvm.MethodName) ∈ G := gT8 55 rfl rfl
theorem g_1737 : Jvm.Cond.instanceMethod ({ cls := "RainWalkModel", name := "stepOf", desc := "(IIII)I" } : Jvm.MethodName) ∈ G := gT8 57 rfl rfl
theorem g_1738 : Jvm.Cond.code ({ cls := "RainWalkModel", name := "stepOf", desc := "(IIII)I" } : Jvm.MethodName) prog_12_method_81_code (9 : Nat) (Option.some Jvm.ClassFile.FieldType.int) ∈ G := gT8 58 rfl rfl
theorem g_1739 : Jvm.Cond.methodLink "RainWalkLaw" (115 : Nat) ({ cls := "RainWalkModel", name := "step", desc := "(IIIIII)I" } : Jvm.MethodName) ∈ G := gT8 59 rfl rfl
theorem g_1740 : Jvm.Cond.instanceMethod ({ cls := "RainWalkModel", name := "step", desc := "(IIIIII)I" } : Jvm.MethodName) ∈ G := gT8 60 rfl rfl
theorem g_1741 : Jvm.Cond.selects "RainWalkModel" ({ cls := "RainWalkModel", name := "step", desc := "(IIIIII)I" } : Jvm.MethodName) ({ cls := "RainWalkModel", name := "step", desc := "(IIIIII)I" } : Jvm.MethodName) ∈ G := gT8 61 rfl rfl
theorem g_1742 : Jvm.Cond.code ({ cls := "RainWalkModel", name := "step", desc := "(IIIIII)I" } : Jvm.MethodName) prog_12_method_83_code (9 : Nat) (Option.some Jvm.ClassFile.FieldType.int) ∈ G := gT8 62 rfl rfl
theorem g_1743 : Jvm.Cond.methodLink "RainWalkLaw" (119 : Nat) ({ cls := "RainWalkModel", name := "off", desc := "(IIII)I" } : Jvm.MethodName) ∈ G := gT8 63 rfl rfl
theorem g_1744 : Jvm.Cond.instanceMethod ({ cls := "RainWalkModel", name := "off", desc := "(IIII)I" } : Jvm.MethodName) ∈ G := gT8 64 rfl rfl
theorem g_1745 : Jvm.Cond.selects "RainWalkModel" ({ cls := "RainWalkModel", name := "off", desc := "(IIII)I" } : Jvm.MethodName) ({ cls := "RainWalkModel", name := "off", desc := "(IIII)I" } : Jvm.MethodName) ∈ G := gT8 65 rfl rfl
theorem g_1746 : Jvm.Cond.code ({ cls := "RainWalkModel", name := "off", desc := "(IIII)I" } : Jvm.MethodName) prog_12_method_84_code (7 : Nat) (Option.some Jvm.ClassFile.FieldType.int) ∈ G := gT8 66 rfl rfl
theorem g_1747 : Jvm.Cond.methodLink "RainWalkLaw" (123 : Nat) ({ cls := "RainWalkModel", name := "fits", desc := "(I)I" } : Jvm.MethodName) ∈ G := gT8 67 rfl rfl
theorem g_1748 : Jvm.Cond.instanceMethod ({ cls := "RainWalkModel", name := "fits", desc := "(I)I" } : Jvm.MethodName) ∈ G := gT8 68 rfl rfl
theorem g_1749 : Jvm.Cond.selects "RainWalkModel" ({ cls := "RainWalkModel", name := "fits", desc := "(I)I" } : Jvm.MethodName) ({ cls := "RainWalkModel", name := "fits", desc := "(I)I" } : Jvm.MethodName) ∈ G := gT8 69 rfl rfl
theorem g_1750 : Jvm.Cond.code ({ cls := "RainWalkModel", name := "fits", desc := "(I)I" } : Jvm.MethodName) prog_12_method_87_code (2 : Nat) (Option.some Jvm.ClassFile.FieldType.int) ∈ G := gT8 70 rfl rfl
theorem g_1751 : Jvm.Cond.methodLink "RainWalkModel" (468 : Nat) ({ cls := "RainWalkModel", name := "isSeen", desc := "(I)Z" } : Jvm.MethodName) ∈ G := gT8 71 rfl rfl
theorem g_1753 : Jvm.Cond.instanceMethod ({ cls := "RainWalkModel", name := "isSeen", desc := "(I)Z" } : Jvm.MethodName) ∈ G := gT8 73 rfl rfl
theorem g_1754 : Jvm.Cond.code ({ cls := "RainWalkModel", name := "isSeen", desc := "(I)Z" } : Jvm.MethodName) prog_12_method_85_code (2 : Nat) (Option.some Jvm.ClassFile.FieldType.boolean) ∈ G := gT8 74 rfl rfl
theorem g_1755 : Jvm.Cond.methodLink "RainWalkModel" (471 : Nat) ({ cls := "RainWalkModel", name := "fitOf", desc := "(II)I" } : Jvm.MethodName) ∈ G := gT8 75 rfl rfl
theorem g_1757 : Jvm.Cond.instanceMethod ({ cls := "RainWalkModel", name := "fitOf", desc := "(II)I" } : Jvm.MethodName) ∈ G := gT8 77 rfl rfl
theorem g_1758 : Jvm.Cond.code ({ cls := "RainWalkModel", name := "fitOf", desc := "(II)I" } : Jvm.MethodName) prog_12_method_86_code (11 : Nat) (Option.some Jvm.ClassFile.FieldType.int) ∈ G := gT8 78 rfl rfl
theorem g_1759 : Jvm.Cond.methodLink "RainWalkLaw" (128 : Nat) ({ cls := "RainWalkModel", name := "fit", desc := "(II)I" } : Jvm.MethodName) ∈ G := gT8 79 rfl rfl
theorem g_1760 : Jvm.Cond.instanceMethod ({ cls := "RainWalkModel", name := "fit", desc := "(II)I" } : Jvm.MethodName) ∈ G := gT8 80 rfl rfl
theorem g_1761 : Jvm.Cond.selects "RainWalkModel" ({ cls := "RainWalkModel", name := "fit", desc := "(II)I" } : Jvm.MethodName) ({ cls := "RainWalkModel", name := "fit", desc := "(II)I" } : Jvm.MethodName) ∈ G := gT8 81 rfl rfl
theorem g_1762 : Jvm.Cond.code ({ cls := "RainWalkModel", name := "fit", desc := "(II)I" } : Jvm.MethodName) prog_12_method_88_code (4 : Nat) (Option.some Jvm.ClassFile.FieldType.int) ∈ G := gT8 82 rfl rfl
theorem g_1763 : Jvm.Cond.methodLink "RainWalkLaw" (132 : Nat) ({ cls := "RainWalkModel", name := "lies", desc := "()I" } : Jvm.MethodName) ∈ G := gT8 83 rfl rfl
theorem g_1764 : Jvm.Cond.instanceMethod ({ cls := "RainWalkModel", name := "lies", desc := "()I" } : Jvm.MethodName) ∈ G := gT8 84 rfl rfl
theorem g_1765 : Jvm.Cond.selects "RainWalkModel" ({ cls := "RainWalkModel", name := "lies", desc := "()I" } : Jvm.MethodName) ({ cls := "RainWalkModel", name := "lies", desc := "()I" } : Jvm.MethodName) ∈ G := gT8 85 rfl rfl
theorem g_1766 : Jvm.Cond.code ({ cls := "RainWalkModel", name := "lies", desc := "()I" } : Jvm.MethodName) prog_12_method_89_code (3 : Nat) (Option.some Jvm.ClassFile.FieldType.int) ∈ G := gT8 86 rfl rfl
theorem g_1767 : Jvm.Cond.methodLink "RainWalkLaw" (136 : Nat) ({ cls := "RainWalkModel", name := "day", desc := "(IIII)I" } : Jvm.MethodName) ∈ G := gT8 87 rfl rfl
theorem g_1768 : Jvm.Cond.instanceMethod ({ cls := "RainWalkModel", name := "day", desc := "(IIII)I" } : Jvm.MethodName) ∈ G := gT8 88 rfl rfl
theorem g_1769 : Jvm.Cond.selects "RainWalkModel" ({ cls := "RainWalkModel", name := "day", desc := "(IIII)I" } : Jvm.MethodName) ({ cls := "RainWalkModel", name := "day", desc := "(IIII)I" } : Jvm.MethodName) ∈ G := gT8 89 rfl rfl
theorem g_1770 : Jvm.Cond.code ({ cls := "RainWalkModel", name := "day", desc := "(IIII)I" } : Jvm.MethodName) prog_12_method_91_code (7 : Nat) (Option.some Jvm.ClassFile.FieldType.int) ∈ G := gT8 90 rfl rfl
theorem g_1771 : Jvm.Cond.constant "RainWalkModel" (474 : Nat) (65536 : Int32) ∈ G := gT8 91 rfl rfl
theorem g_1772 : Jvm.Cond.constantLong "RainWalkModel" (478 : Nat) (75 : Int64) ∈ G := gT8 92 rfl rfl
theorem g_1773 : Jvm.Cond.constantLong "RainWalkModel" (480 : Nat) (74 : Int64) ∈ G := gT8 93 rfl rfl
theorem g_1774 : Jvm.Cond.constantLong "RainWalkModel" (482 : Nat) (65537 : Int64) ∈ G := gT8 94 rfl rfl
theorem g_1775 : Jvm.Cond.methodLink "RainWalkLaw" (140 : Nat) ({ cls := "RainWalkModel", name := "go", desc := "(III)I" } : Jvm.MethodName) ∈ G := gT8 95 rfl rfl
theorem g_1776 : Jvm.Cond.instanceMethod ({ cls := "RainWalkModel", name := "go", desc := "(III)I" } : Jvm.MethodName) ∈ G := gT8 96 rfl rfl
theorem g_1777 : Jvm.Cond.selects "RainWalkModel" ({ cls := "RainWalkModel", name := "go", desc := "(III)I" } : Jvm.MethodName) ({ cls := "RainWalkModel", name := "go", desc := "(III)I" } : Jvm.MethodName) ∈ G := gT8 97 rfl rfl
theorem g_1778 : Jvm.Cond.code ({ cls := "RainWalkModel", name := "go", desc := "(III)I" } : Jvm.MethodName) prog_12_method_94_code (6 : Nat) (Option.some Jvm.ClassFile.FieldType.int) ∈ G := gT8 98 rfl rfl
theorem g_1779 : Jvm.Cond.methodLink "RainWalkModel" (484 : Nat) ({ cls := "RainWalkModel", name := "isDay", desc := "()Z" } : Jvm.MethodName) ∈ G := gT8 99 rfl rfl
theorem g_1781 : Jvm.Cond.instanceMethod ({ cls := "RainWalkModel", name := "isDay", desc := "()Z" } : Jvm.MethodName) ∈ G := gT8 101 rfl rfl
theorem g_1782 : Jvm.Cond.code ({ cls := "RainWalkModel", name := "isDay", desc := "()Z" } : Jvm.MethodName) prog_12_method_90_code (1 : Nat) (Option.some Jvm.ClassFile.FieldType.boolean) ∈ G := gT8 102 rfl rfl
theorem g_1783 : Jvm.Cond.methodLink "RainWalkModel" (487 : Nat) ({ cls := "RainWalkModel", name := "keeps", desc := "()V" } : Jvm.MethodName) ∈ G := gT8 103 rfl rfl
theorem g_1785 : Jvm.Cond.instanceMethod ({ cls := "RainWalkModel", name := "keeps", desc := "()V" } : Jvm.MethodName) ∈ G := gT8 105 rfl rfl
theorem g_1786 : Jvm.Cond.code ({ cls := "RainWalkModel", name := "keeps", desc := "()V" } : Jvm.MethodName) prog_12_method_92_code (2 : Nat) (Option.none : Option Jvm.ClassFile.FieldType) ∈ G := gT8 106 rfl rfl
theorem g_1787 : Jvm.Cond.methodLink "RainWalkModel" (490 : Nat) ({ cls := "RainWalkModel", name := "rainsIn", desc := "(I)Z" } : Jvm.MethodName) ∈ G := gT8 107 rfl rfl
theorem g_1789 : Jvm.Cond.instanceMethod ({ cls := "RainWalkModel", name := "rainsIn", desc := "(I)Z" } : Jvm.MethodName) ∈ G := gT8 109 rfl rfl
theorem g_1790 : Jvm.Cond.code ({ cls := "RainWalkModel", name := "rainsIn", desc := "(I)Z" } : Jvm.MethodName) prog_12_method_93_code (3 : Nat) (Option.some Jvm.ClassFile.FieldType.boolean) ∈ G := gT8 110 rfl rfl
theorem g_1791 : Jvm.Cond.methodLink "RainWalkLaw" (145 : Nat) ({ cls := "RainWalkModel", name := "stay", desc := "(I)Z" } : Jvm.MethodName) ∈ G := gT8 111 rfl rfl
theorem g_1792 : Jvm.Cond.instanceMethod ({ cls := "RainWalkModel", name := "stay", desc := "(I)Z" } : Jvm.MethodName) ∈ G := gT8 112 rfl rfl
theorem g_1793 : Jvm.Cond.selects "RainWalkModel" ({ cls := "RainWalkModel", name := "stay", desc := "(I)Z" } : Jvm.MethodName) ({ cls := "RainWalkModel", name := "stay", desc := "(I)Z" } : Jvm.MethodName) ∈ G := gT8 113 rfl rfl
theorem g_1794 : Jvm.Cond.code ({ cls := "RainWalkModel", name := "stay", desc := "(I)Z" } : Jvm.MethodName) prog_12_method_95_code (4 : Nat) (Option.some Jvm.ClassFile.FieldType.boolean) ∈ G := gT8 114 rfl rfl
theorem g_1795 : Jvm.Cond.methodLink "RainWalkModel" (493 : Nat) ({ cls := "RainWalkModel", name := "denied", desc := "(I)Z" } : Jvm.MethodName) ∈ G := gT8 115 rfl rfl
theorem g_1797 : Jvm.Cond.instanceMethod ({ cls := "RainWalkModel", name := "denied", desc := "(I)Z" } : Jvm.MethodName) ∈ G := gT8 117 rfl rfl
theorem g_1798 : Jvm.Cond.code ({ cls := "RainWalkModel", name := "denied", desc := "(I)Z" } : Jvm.MethodName) prog_12_method_5_code (2 : Nat) (Option.some Jvm.ClassFile.FieldType.boolean) ∈ G := gT8 118 rfl rfl
theorem g_1799 : Jvm.Cond.constantLong "RainWalkModel" (496 : Nat) (999 : Int64) ∈ G := gT8 119 rfl rfl
theorem g_1800 : Jvm.Cond.methodLink "RainWalkModel" (498 : Nat) ({ cls := "RainWalkModel", name := "granted", desc := "()Z" } : Jvm.MethodName) ∈ G := gT8 120 rfl rfl
theorem g_1802 : Jvm.Cond.instanceMethod ({ cls := "RainWalkModel", name := "granted", desc := "()Z" } : Jvm.MethodName) ∈ G := gT8 122 rfl rfl
theorem g_1803 : Jvm.Cond.code ({ cls := "RainWalkModel", name := "granted", desc := "()Z" } : Jvm.MethodName) prog_12_method_7_code (1 : Nat) (Option.some Jvm.ClassFile.FieldType.boolean) ∈ G := gT8 123 rfl rfl
theorem g_1804 : Jvm.Cond.methodLink "RainWalkLaw" (150 : Nat) ({ cls := "RainWalkModel", name := "got", desc := "(IZ)J" } : Jvm.MethodName) ∈ G := gT8 124 rfl rfl
theorem g_1805 : Jvm.Cond.instanceMethod ({ cls := "RainWalkModel", name := "got", desc := "(IZ)J" } : Jvm.MethodName) ∈ G := gT8 125 rfl rfl
theorem g_1806 : Jvm.Cond.selects "RainWalkModel" ({ cls := "RainWalkModel", name := "got", desc := "(IZ)J" } : Jvm.MethodName) ({ cls := "RainWalkModel", name := "got", desc := "(IZ)J" } : Jvm.MethodName) ∈ G := gT8 126 rfl rfl
theorem g_1807 : Jvm.Cond.code ({ cls := "RainWalkModel", name := "got", desc := "(IZ)J" } : Jvm.MethodName) prog_12_method_96_code (3 : Nat) (Option.some Jvm.ClassFile.FieldType.long) ∈ G := gT8 127 rfl rfl
theorem g_1808 : Jvm.Cond.methodLink "RainWalkLaw" (155 : Nat) ({ cls := "RainWalkModel", name := "wetness", desc := "(Z)J" } : Jvm.MethodName) ∈ G := gT8 128 rfl rfl
theorem g_1809 : Jvm.Cond.instanceMethod ({ cls := "RainWalkModel", name := "wetness", desc := "(Z)J" } : Jvm.MethodName) ∈ G := gT8 129 rfl rfl
theorem g_1810 : Jvm.Cond.selects "RainWalkModel" ({ cls := "RainWalkModel", name := "wetness", desc := "(Z)J" } : Jvm.MethodName) ({ cls := "RainWalkModel", name := "wetness", desc := "(Z)J" } : Jvm.MethodName) ∈ G := gT8 130 rfl rfl
theorem g_1811 : Jvm.Cond.code ({ cls := "RainWalkModel", name := "wetness", desc := "(Z)J" } : Jvm.MethodName) prog_12_method_99_code (4 : Nat) (Option.some Jvm.ClassFile.FieldType.long) ∈ G := gT8 131 rfl rfl
theorem g_1812 : Jvm.Cond.methodLink "RainWalkModel" (501 : Nat) ({ cls := "RainWalkModel", name := "gotInAll", desc := "()J" } : Jvm.MethodName) ∈ G := gT8 132 rfl rfl
theorem g_1814 : Jvm.Cond.instanceMethod ({ cls := "RainWalkModel", name := "gotInAll", desc := "()J" } : Jvm.MethodName) ∈ G := gT8 134 rfl rfl
theorem g_1815 : Jvm.Cond.code ({ cls := "RainWalkModel", name := "gotInAll", desc := "()J" } : Jvm.MethodName) prog_12_method_97_code (4 : Nat) (Option.some Jvm.ClassFile.FieldType.long) ∈ G := gT8 135 rfl rfl
theorem g_1816 : Jvm.Cond.methodLink "RainWalkModel" (504 : Nat) ({ cls := "RainWalkModel", name := "holds", desc := "()J" } : Jvm.MethodName) ∈ G := gT8 136 rfl rfl
theorem g_1818 : Jvm.Cond.instanceMethod ({ cls := "RainWalkModel", name := "holds", desc := "()J" } : Jvm.MethodName) ∈ G := gT8 138 rfl rfl
theorem g_1819 : Jvm.Cond.code ({ cls := "RainWalkModel", name := "holds", desc := "()J" } : Jvm.MethodName) prog_12_method_98_code (1 : Nat) (Option.some Jvm.ClassFile.FieldType.long) ∈ G := gT8 139 rfl rfl
theorem g_1820 : Jvm.Cond.methodLink "RainWalkLaw" (159 : Nat) ({ cls := "RainWalkModel", name := "soaked", desc := "()I" } : Jvm.MethodName) ∈ G := gT8 140 rfl rfl
theorem g_1821 : Jvm.Cond.instanceMethod ({ cls := "RainWalkModel", name := "soaked", desc := "()I" } : Jvm.MethodName) ∈ G := gT8 141 rfl rfl
theorem g_1822 : Jvm.Cond.selects "RainWalkModel" ({ cls := "RainWalkModel", name := "soaked", desc := "()I" } : Jvm.MethodName) ({ cls := "RainWalkModel", name := "soaked", desc := "()I" } : Jvm.MethodName) ∈ G := gT8 142 rfl rfl
theorem g_1823 : Jvm.Cond.code ({ cls := "RainWalkModel", name := "soaked", desc := "()I" } : Jvm.MethodName) prog_12_method_100_code (1 : Nat) (Option.some Jvm.ClassFile.FieldType.int) ∈ G := gT8 143 rfl rfl
theorem g_1824 : Jvm.Cond.methodLink "RainWalkLaw" (164 : Nat) ({ cls := "RainWalkModel", name := "undo", desc := "()Z" } : Jvm.MethodName) ∈ G := gT8 144 rfl rfl
theorem g_1825 : Jvm.Cond.instanceMethod ({ cls := "RainWalkModel", name := "undo", desc := "()Z" } : Jvm.MethodName) ∈ G := gT8 145 rfl rfl
theorem g_1826 : Jvm.Cond.selects "RainWalkModel" ({ cls := "RainWalkModel", name := "undo", desc := "()Z" } : Jvm.MethodName) ({ cls := "RainWalkModel", name := "undo", desc := "()Z" } : Jvm.MethodName) ∈ G := gT8 146 rfl rfl
theorem g_1827 : Jvm.Cond.code ({ cls := "RainWalkModel", name := "undo", desc := "()Z" } : Jvm.MethodName) prog_12_method_101_code (2 : Nat) (Option.some Jvm.ClassFile.FieldType.boolean) ∈ G := gT8 147 rfl rfl
theorem g_1828 : Jvm.Cond.methodLink "RainWalkLaw" (168 : Nat) ({ cls := "RainWalkModel", name := "mark", desc := "()I" } : Jvm.MethodName) ∈ G := gT8 148 rfl rfl
theorem g_1829 : Jvm.Cond.instanceMethod ({ cls := "RainWalkModel", name := "mark", desc := "()I" } : Jvm.MethodName) ∈ G := gT8 149 rfl rfl
theorem g_1830 : Jvm.Cond.selects "RainWalkModel" ({ cls := "RainWalkModel", name := "mark", desc := "()I" } : Jvm.MethodName) ({ cls := "RainWalkModel", name := "mark", desc := "()I" } : Jvm.MethodName) ∈ G := gT8 150 rfl rfl
theorem g_1831 : Jvm.Cond.code ({ cls := "RainWalkModel", name := "mark", desc := "()I" } : Jvm.MethodName) prog_12_method_102_code (2 : Nat) (Option.some Jvm.ClassFile.FieldType.int) ∈ G := gT8 151 rfl rfl
theorem g_1832 : Jvm.Cond.methodLink "RainWalkLaw" (172 : Nat) ({ cls := "RainWalkModel", name := "back", desc := "(I)Z" } : Jvm.MethodName) ∈ G := gT8 152 rfl rfl
theorem g_1833 : Jvm.Cond.instanceMethod ({ cls := "RainWalkModel", name := "back", desc := "(I)Z" } : Jvm.MethodName) ∈ G := gT8 153 rfl rfl
theorem g_1834 : Jvm.Cond.selects "RainWalkModel" ({ cls := "RainWalkModel", name := "back", desc := "(I)Z" } : Jvm.MethodName) ({ cls := "RainWalkModel", name := "back", desc := "(I)Z" } : Jvm.MethodName) ∈ G := gT8 154 rfl rfl
theorem g_1835 : Jvm.Cond.code ({ cls := "RainWalkModel", name := "back", desc := "(I)Z" } : Jvm.MethodName) prog_12_method_103_code (3 : Nat) (Option.some Jvm.ClassFile.FieldType.boolean) ∈ G := gT8 155 rfl rfl
theorem g_1836 : Jvm.Cond.methodLink "RainWalkLaw" (176 : Nat) ({ cls := "RainWalkModel", name := "walker", desc := "(II)I" } : Jvm.MethodName) ∈ G := gT8 156 rfl rfl
theorem g_1837 : Jvm.Cond.instanceMethod ({ cls := "RainWalkModel", name := "walker", desc := "(II)I" } : Jvm.MethodName) ∈ G := gT8 157 rfl rfl
theorem g_1838 : Jvm.Cond.selects "RainWalkModel" ({ cls := "RainWalkModel", name := "walker", desc := "(II)I" } : Jvm.MethodName) ({ cls := "RainWalkModel", name := "walker", desc := "(II)I" } : Jvm.MethodName) ∈ G := gT8 158 rfl rfl
theorem g_1839 : Jvm.Cond.code ({ cls := "RainWalkModel", name := "walker", desc := "(II)I" } : Jvm.MethodName) prog_12_method_104_code (3 : Nat) (Option.some Jvm.ClassFile.FieldType.int) ∈ G := gT8 159 rfl rfl
theorem g_1840 : Jvm.Cond.methodLink "RainWalkLaw" (180 : Nat) ({ cls := "RainWalkModel", name := "road", desc := "(II)I" } : Jvm.MethodName) ∈ G := gT8 160 rfl rfl
theorem g_1841 : Jvm.Cond.instanceMethod ({ cls := "RainWalkModel", name := "road", desc := "(II)I" } : Jvm.MethodName) ∈ G := gT8 161 rfl rfl
theorem g_1842 : Jvm.Cond.selects "RainWalkModel" ({ cls := "RainWalkModel", name := "road", desc := "(II)I" } : Jvm.MethodName) ({ cls := "RainWalkModel", name := "road", desc := "(II)I" } : Jvm.MethodName) ∈ G := gT8 162 rfl rfl
theorem g_1843 : Jvm.Cond.code ({ cls := "RainWalkModel", name := "road", desc := "(II)I" } : Jvm.MethodName) prog_12_method_105_code (3 : Nat) (Option.some Jvm.ClassFile.FieldType.int) ∈ G := gT8 163 rfl rfl
theorem g_1844 : Jvm.Cond.methodLink "RainWalkLaw" (186 : Nat) ({ cls := "RainWalkModel", name := "led", desc := "(I)I" } : Jvm.MethodName) ∈ G := gT8 164 rfl rfl
theorem g_1845 : Jvm.Cond.instanceMethod ({ cls := "RainWalkModel", name := "led", desc := "(I)I" } : Jvm.MethodName) ∈ G := gT8 165 rfl rfl
theorem g_1846 : Jvm.Cond.selects "RainWalkModel" ({ cls := "RainWalkModel", name := "led", desc := "(I)I" } : Jvm.MethodName) ({ cls := "RainWalkModel", name := "led", desc := "(I)I" } : Jvm.MethodName) ∈ G := gT8 166 rfl rfl
theorem g_1847 : Jvm.Cond.code ({ cls := "RainWalkModel", name := "led", desc := "(I)I" } : Jvm.MethodName) prog_12_method_106_code (4 : Nat) (Option.some Jvm.ClassFile.FieldType.int) ∈ G := gT8 167 rfl rfl
theorem g_1848 : Jvm.Cond.methodLink "RainWalkLaw" (190 : Nat) ({ cls := "RainWalkModel", name := "size", desc := "(I)I" } : Jvm.MethodName) ∈ G := gT8 168 rfl rfl
theorem g_1849 : Jvm.Cond.instanceMethod ({ cls := "RainWalkModel", name := "size", desc := "(I)I" } : Jvm.MethodName) ∈ G := gT8 169 rfl rfl
theorem g_1850 : Jvm.Cond.selects "RainWalkModel" ({ cls := "RainWalkModel", name := "size", desc := "(I)I" } : Jvm.MethodName) ({ cls := "RainWalkModel", name := "size", desc := "(I)I" } : Jvm.MethodName) ∈ G := gT8 170 rfl rfl
theorem g_1851 : Jvm.Cond.code ({ cls := "RainWalkModel", name := "size", desc := "(I)I" } : Jvm.MethodName) prog_12_method_107_code (2 : Nat) (Option.some Jvm.ClassFile.FieldType.int) ∈ G := gT8 171 rfl rfl
theorem g_1852 : Jvm.Cond.methodLink "RainWalkLaw" (194 : Nat) ({ cls := "RainWalkModel", name := "trouble", desc := "()I" } : Jvm.MethodName) ∈ G := gT8 172 rfl rfl
theorem g_1853 : Jvm.Cond.instanceMethod ({ cls := "RainWalkModel", name := "trouble", desc := "()I" } : Jvm.MethodName) ∈ G := gT8 173 rfl rfl
theorem g_1854 : Jvm.Cond.selects "RainWalkModel" ({ cls := "RainWalkModel", name := "trouble", desc := "()I" } : Jvm.MethodName) ({ cls := "RainWalkModel", name := "trouble", desc := "()I" } : Jvm.MethodName) ∈ G := gT8 174 rfl rfl
theorem g_1855 : Jvm.Cond.code ({ cls := "RainWalkModel", name := "trouble", desc := "()I" } : Jvm.MethodName) prog_12_method_108_code (1 : Nat) (Option.some Jvm.ClassFile.FieldType.int) ∈ G := gT8 175 rfl rfl
theorem g_1872 : Jvm.Cond.fieldLink "java/lang/String" (9 : Nat) "java/lang/String" "value" "[B" ∈ G := gT8 192 rfl rfl
theorem g_1873 : Jvm.Cond.fieldLink "java/lang/String" (15 : Nat) "java/lang/String" "coder" "B" ∈ G := gT8 193 rfl rfl
theorem gp_0 : Cond.selects "RainWalk" (⟨"RainWalk", "putBytes", "(I)V"⟩ : MethodName) (⟨"RainWalk", "putBytes", "(I)V"⟩ : MethodName) ∈ G := gP 0 rfl rfl
theorem gp_1 : Cond.selects "RainWalk" (⟨"RainWalk", "refuse", "(I)I"⟩ : MethodName) (⟨"RainWalk", "refuse", "(I)I"⟩ : MethodName) ∈ G := gP 1 rfl rfl
theorem gp_2 : Cond.selects "RainWalk$Reader" (⟨"RainWalk$Reader", "open", "([BI)V"⟩ : MethodName) (⟨"RainWalk$Reader", "open", "([BI)V"⟩ : MethodName) ∈ G := gP 2 rfl rfl
theorem gp_3 : Cond.selects "RainWalk$Reader" (⟨"RainWalk$Reader", "next", "()V"⟩ : MethodName) (⟨"RainWalk$Reader", "next", "()V"⟩ : MethodName) ∈ G := gP 3 rfl rfl
theorem gp_4 : Cond.selects "RainWalk$Reader" (⟨"RainWalk$Reader", "sortAt", "(I)I"⟩ : MethodName) (⟨"RainWalk$Reader", "sortAt", "(I)I"⟩ : MethodName) ∈ G := gP 4 rfl rfl
theorem gp_5 : Cond.selects "RainWalk$Reader" (⟨"RainWalk$Reader", "is", "(Ljava/lang/String;)Z"⟩ : MethodName) (⟨"RainWalk$Reader", "is", "(Ljava/lang/String;)Z"⟩ : MethodName) ∈ G := gP 5 rfl rfl
theorem gp_6 : Cond.selects "RainWalk$Reader" (⟨"RainWalk$Reader", "worldLine", "()Z"⟩ : MethodName) (⟨"RainWalk$Reader", "worldLine", "()Z"⟩ : MethodName) ∈ G := gP 6 rfl rfl
theorem gp_7 : Cond.selects "RainWalk$Reader" (⟨"RainWalk$Reader", "fail", "(I)Z"⟩ : MethodName) (⟨"RainWalk$Reader", "fail", "(I)Z"⟩ : MethodName) ∈ G := gP 7 rfl rfl
theorem gp_8 : Cond.selects "RainWalk$Reader" (⟨"RainWalk$Reader", "wordAndWhole", "(Ljava/lang/String;II)Z"⟩ : MethodName) (⟨"RainWalk$Reader", "wordAndWhole", "(Ljava/lang/String;II)Z"⟩ : MethodName) ∈ G := gP 8 rfl rfl
theorem gp_9 : Cond.selects "RainWalk$Reader" (⟨"RainWalk$Reader", "word", "(Ljava/lang/String;)Z"⟩ : MethodName) (⟨"RainWalk$Reader", "word", "(Ljava/lang/String;)Z"⟩ : MethodName) ∈ G := gP 9 rfl rfl
theorem gp_10 : Cond.selects "RainWalk$Reader" (⟨"RainWalk$Reader", "whole", "(II)Z"⟩ : MethodName) (⟨"RainWalk$Reader", "whole", "(II)Z"⟩ : MethodName) ∈ G := gP 10 rfl rfl
theorem gp_11 : Cond.selects "RainWalk$Reader" (⟨"RainWalk$Reader", "hasRoom", "(II)Z"⟩ : MethodName) (⟨"RainWalk$Reader", "hasRoom", "(II)Z"⟩ : MethodName) ∈ G := gP 11 rfl rfl
theorem gp_12 : Cond.selects "RainWalk$Reader" (⟨"RainWalk$Reader", "rainLine", "()Z"⟩ : MethodName) (⟨"RainWalk$Reader", "rainLine", "()Z"⟩ : MethodName) ∈ G := gP 12 rfl rfl
theorem gp_13 : Cond.selects "RainWalk$Reader" (⟨"RainWalk$Reader", "side", "()Z"⟩ : MethodName) (⟨"RainWalk$Reader", "side", "()Z"⟩ : MethodName) ∈ G := gP 13 rfl rfl
theorem gp_14 : Cond.selects "RainWalk$Reader" (⟨"RainWalk$Reader", "placeLine", "()Z"⟩ : MethodName) (⟨"RainWalk$Reader", "placeLine", "()Z"⟩ : MethodName) ∈ G := gP 14 rfl rfl
theorem gp_15 : Cond.selects "RainWalk$Reader" (⟨"RainWalk$Reader", "newName", "(I)Z"⟩ : MethodName) (⟨"RainWalk$Reader", "newName", "(I)Z"⟩ : MethodName) ∈ G := gP 15 rfl rfl
theorem gp_16 : Cond.selects "RainWalk$Reader" (⟨"RainWalk$Reader", "canBeName", "()Z"⟩ : MethodName) (⟨"RainWalk$Reader", "canBeName", "()Z"⟩ : MethodName) ∈ G := gP 16 rfl rfl
theorem gp_17 : Cond.selects "RainWalk$Reader" (⟨"RainWalk$Reader", "findName", "()I"⟩ : MethodName) (⟨"RainWalk$Reader", "findName", "()I"⟩ : MethodName) ∈ G := gP 17 rfl rfl
theorem gp_18 : Cond.selects "RainWalk$Reader" (⟨"RainWalk$Reader", "roadLine", "()Z"⟩ : MethodName) (⟨"RainWalk$Reader", "roadLine", "()Z"⟩ : MethodName) ∈ G := gP 18 rfl rfl
theorem gp_19 : Cond.selects "RainWalk$Reader" (⟨"RainWalk$Reader", "placeBut", "(I)Z"⟩ : MethodName) (⟨"RainWalk$Reader", "placeBut", "(I)Z"⟩ : MethodName) ∈ G := gP 19 rfl rfl
theorem gp_20 : Cond.selects "RainWalk$Reader" (⟨"RainWalk$Reader", "walkerLine", "()Z"⟩ : MethodName) (⟨"RainWalk$Reader", "walkerLine", "()Z"⟩ : MethodName) ∈ G := gP 20 rfl rfl
theorem gp_21 : Cond.selects "RainWalk$Reader" (⟨"RainWalk$Reader", "kindOf", "(LRainWalk$Walker;)Z"⟩ : MethodName) (⟨"RainWalk$Reader", "kindOf", "(LRainWalk$Walker;)Z"⟩ : MethodName) ∈ G := gP 21 rfl rfl
theorem gp_22 : Cond.selects "RainWalk$Reader" (⟨"RainWalk$Reader", "bodyOf", "(LRainWalk$Walker;)Z"⟩ : MethodName) (⟨"RainWalk$Reader", "bodyOf", "(LRainWalk$Walker;)Z"⟩ : MethodName) ∈ G := gP 22 rfl rfl
theorem gp_23 : Cond.selects "RainWalk$Reader" (⟨"RainWalk$Reader", "seenLine", "()Z"⟩ : MethodName) (⟨"RainWalk$Reader", "seenLine", "()Z"⟩ : MethodName) ∈ G := gP 23 rfl rfl
theorem gp_24 : Cond.selects "RainWalk$Reader" (⟨"RainWalk$Reader", "someWalker", "()Z"⟩ : MethodName) (⟨"RainWalk$Reader", "someWalker", "()Z"⟩ : MethodName) ∈ G := gP 24 rfl rfl
theorem gp_25 : Cond.selects "RainWalk$Reader" (⟨"RainWalk$Reader", "sign", "(I)Z"⟩ : MethodName) (⟨"RainWalk$Reader", "sign", "(I)Z"⟩ : MethodName) ∈ G := gP 25 rfl rfl
theorem gp_26 : Cond.selects "RainWalk" (⟨"RainWalk", "grant", "(I)I"⟩ : MethodName) (⟨"RainWalk", "grant", "(I)I"⟩ : MethodName) ∈ G := gP 26 rfl rfl
theorem gp_27 : Cond.selects "RainWalk" (⟨"RainWalk", "legTrouble", "(IIIII)I"⟩ : MethodName) (⟨"RainWalk", "legTrouble", "(IIIII)I"⟩ : MethodName) ∈ G := gP 27 rfl rfl
theorem gp_28 : Cond.selects "RainWalk" (⟨"RainWalk", "tripTrouble", "(IIII)I"⟩ : MethodName) (⟨"RainWalk", "tripTrouble", "(IIII)I"⟩ : MethodName) ∈ G := gP 28 rfl rfl
theorem gp_29 : Cond.selects "RainWalk" (⟨"RainWalk", "refusedBy", "(I)Z"⟩ : MethodName) (⟨"RainWalk", "refusedBy", "(I)Z"⟩ : MethodName) ∈ G := gP 29 rfl rfl
theorem gp_30 : Cond.selects "RainWalk$Leg" (⟨"RainWalk$Leg", "soak", "(LRainWalk$Walker;II)J"⟩ : MethodName) (⟨"RainWalk$Leg", "soak", "(LRainWalk$Walker;II)J"⟩ : MethodName) ∈ G := gP 30 rfl rfl
theorem gp_31 : Cond.selects "RainWalk" (⟨"RainWalk", "leeTrouble", "(IIIIII)I"⟩ : MethodName) (⟨"RainWalk", "leeTrouble", "(IIIIII)I"⟩ : MethodName) ∈ G := gP 31 rfl rfl
theorem gp_32 : Cond.selects "RainWalk" (⟨"RainWalk", "wayTrouble", "(IIIII)I"⟩ : MethodName) (⟨"RainWalk", "wayTrouble", "(IIIII)I"⟩ : MethodName) ∈ G := gP 32 rfl rfl
theorem gp_33 : Cond.selects "RainWalk" (⟨"RainWalk", "placesTrouble", "(III)I"⟩ : MethodName) (⟨"RainWalk", "placesTrouble", "(III)I"⟩ : MethodName) ∈ G := gP 33 rfl rfl
theorem gp_34 : Cond.selects "RainWalk$Ways" (⟨"RainWalk$Ways", "makeRows", "()V"⟩ : MethodName) (⟨"RainWalk$Ways", "makeRows", "()V"⟩ : MethodName) ∈ G := gP 34 rfl rfl
theorem gp_35 : Cond.selects "RainWalk$Ways" (⟨"RainWalk$Ways", "price", "(LRainWalk$World;LRainWalk$Leg;I)V"⟩ : MethodName) (⟨"RainWalk$Ways", "price", "(LRainWalk$World;LRainWalk$Leg;I)V"⟩ : MethodName) ∈ G := gP 35 rfl rfl
theorem gp_36 : Cond.selects "RainWalk$Ways" (⟨"RainWalk$Ways", "addLeg", "(LRainWalk$Road;IIJI)V"⟩ : MethodName) (⟨"RainWalk$Ways", "addLeg", "(LRainWalk$Road;IIJI)V"⟩ : MethodName) ∈ G := gP 36 rfl rfl
theorem gp_37 : Cond.selects "RainWalk$Ways" (⟨"RainWalk$Ways", "addMove", "(IIIJI)V"⟩ : MethodName) (⟨"RainWalk$Ways", "addMove", "(IIIJI)V"⟩ : MethodName) ∈ G := gP 37 rfl rfl
theorem gp_38 : Cond.selects "RainWalk$Ways" (⟨"RainWalk$Ways", "reckonMinute", "(II)V"⟩ : MethodName) (⟨"RainWalk$Ways", "reckonMinute", "(II)V"⟩ : MethodName) ∈ G := gP 38 rfl rfl
theorem gp_39 : Cond.selects "RainWalk$Ways" (⟨"RainWalk$Ways", "keyOf", "(II)J"⟩ : MethodName) (⟨"RainWalk$Ways", "keyOf", "(II)J"⟩ : MethodName) ∈ G := gP 39 rfl rfl
theorem gp_40 : Cond.selects "RainWalk$Leg" (⟨"RainWalk$Leg", "fitCode", "(LRainWalk$World;II)I"⟩ : MethodName) (⟨"RainWalk$Leg", "fitCode", "(LRainWalk$World;II)I"⟩ : MethodName) ∈ G := gP 40 rfl rfl
theorem gp_41 : Cond.selects "RainWalk" (⟨"RainWalk", "stayTrouble", "(I)I"⟩ : MethodName) (⟨"RainWalk", "stayTrouble", "(I)I"⟩ : MethodName) ∈ G := gP 41 rfl rfl
theorem gp_43 : Cond.selects "RainWalkModel" (⟨"RainWalkModel", "refused", "(I)I"⟩ : MethodName) (⟨"RainWalkModel", "refused", "(I)I"⟩ : MethodName) ∈ G := gP 43 rfl rfl
theorem gp_44 : Cond.selects "RainWalkModel" (⟨"RainWalkModel", "goesOn", "()V"⟩ : MethodName) (⟨"RainWalkModel", "goesOn", "()V"⟩ : MethodName) ∈ G := gP 44 rfl rfl
theorem gp_45 : Cond.selects "RainWalkModel" (⟨"RainWalkModel", "byteAt", "(I)I"⟩ : MethodName) (⟨"RainWalkModel", "byteAt", "(I)I"⟩ : MethodName) ∈ G := gP 45 rfl rfl
theorem gp_46 : Cond.selects "RainWalkModel" (⟨"RainWalkModel", "readAll", "()V"⟩ : MethodName) (⟨"RainWalkModel", "readAll", "()V"⟩ : MethodName) ∈ G := gP 46 rfl rfl
theorem gp_47 : Cond.selects "RainWalkModel" (⟨"RainWalkModel", "readLine", "()V"⟩ : MethodName) (⟨"RainWalkModel", "readLine", "()V"⟩ : MethodName) ∈ G := gP 47 rfl rfl
theorem gp_48 : Cond.selects "RainWalkModel" (⟨"RainWalkModel", "isWord", "(Ljava/lang/String;)Z"⟩ : MethodName) (⟨"RainWalkModel", "isWord", "(Ljava/lang/String;)Z"⟩ : MethodName) ∈ G := gP 48 rfl rfl
theorem gp_49 : Cond.selects "RainWalkModel" (⟨"RainWalkModel", "readWorld", "()V"⟩ : MethodName) (⟨"RainWalkModel", "readWorld", "()V"⟩ : MethodName) ∈ G := gP 49 rfl rfl
theorem gp_50 : Cond.selects "RainWalkModel" (⟨"RainWalkModel", "flaw", "(I)V"⟩ : MethodName) (⟨"RainWalkModel", "flaw", "(I)V"⟩ : MethodName) ∈ G := gP 50 rfl rfl
theorem gp_51 : Cond.selects "RainWalkModel" (⟨"RainWalkModel", "readPart", "(Ljava/lang/String;II)I"⟩ : MethodName) (⟨"RainWalkModel", "readPart", "(Ljava/lang/String;II)I"⟩ : MethodName) ∈ G := gP 51 rfl rfl
theorem gp_52 : Cond.selects "RainWalkModel" (⟨"RainWalkModel", "needs", "(Ljava/lang/String;)V"⟩ : MethodName) (⟨"RainWalkModel", "needs", "(Ljava/lang/String;)V"⟩ : MethodName) ∈ G := gP 52 rfl rfl
theorem gp_53 : Cond.selects "RainWalkModel" (⟨"RainWalkModel", "readWhole", "(II)I"⟩ : MethodName) (⟨"RainWalkModel", "readWhole", "(II)I"⟩ : MethodName) ∈ G := gP 53 rfl rfl
theorem gp_54 : Cond.selects "RainWalkModel" (⟨"RainWalkModel", "readRain", "()V"⟩ : MethodName) (⟨"RainWalkModel", "readRain", "()V"⟩ : MethodName) ∈ G := gP 54 rfl rfl
theorem gp_55 : Cond.selects "RainWalkModel" (⟨"RainWalkModel", "begins", "(II)V"⟩ : MethodName) (⟨"RainWalkModel", "begins", "(II)V"⟩ : MethodName) ∈ G := gP 55 rfl rfl
theorem gp_56 : Cond.selects "RainWalkModel" (⟨"RainWalkModel", "readSide", "()I"⟩ : MethodName) (⟨"RainWalkModel", "readSide", "()I"⟩ : MethodName) ∈ G := gP 56 rfl rfl
theorem gp_57 : Cond.selects "RainWalkModel" (⟨"RainWalkModel", "readPlace", "()V"⟩ : MethodName) (⟨"RainWalkModel", "readPlace", "()V"⟩ : MethodName) ∈ G := gP 57 rfl rfl
theorem gp_58 : Cond.selects "RainWalkModel" (⟨"RainWalkModel", "readFresh", "()J"⟩ : MethodName) (⟨"RainWalkModel", "readFresh", "()J"⟩ : MethodName) ∈ G := gP 58 rfl rfl
theorem gp_59 : Cond.selects "RainWalkModel" (⟨"RainWalkModel", "isName", "()Z"⟩ : MethodName) (⟨"RainWalkModel", "isName", "()Z"⟩ : MethodName) ∈ G := gP 59 rfl rfl
theorem gp_60 : Cond.selects "RainWalkModel" (⟨"RainWalkModel", "eatsWord", "(Ljava/lang/String;)Z"⟩ : MethodName) (⟨"RainWalkModel", "eatsWord", "(Ljava/lang/String;)Z"⟩ : MethodName) ∈ G := gP 60 rfl rfl
theorem gp_61 : Cond.selects "RainWalkModel" (⟨"RainWalkModel", "names", "(JII)V"⟩ : MethodName) (⟨"RainWalkModel", "names", "(JII)V"⟩ : MethodName) ∈ G := gP 61 rfl rfl
theorem gp_62 : Cond.selects "RainWalkModel" (⟨"RainWalkModel", "readRoad", "()V"⟩ : MethodName) (⟨"RainWalkModel", "readRoad", "()V"⟩ : MethodName) ∈ G := gP 62 rfl rfl
theorem gp_63 : Cond.selects "RainWalkModel" (⟨"RainWalkModel", "known", "(I)I"⟩ : MethodName) (⟨"RainWalkModel", "known", "(I)I"⟩ : MethodName) ∈ G := gP 63 rfl rfl
theorem gp_64 : Cond.selects "RainWalkModel" (⟨"RainWalkModel", "readWalker", "()V"⟩ : MethodName) (⟨"RainWalkModel", "readWalker", "()V"⟩ : MethodName) ∈ G := gP 64 rfl rfl
theorem gp_65 : Cond.selects "RainWalkModel" (⟨"RainWalkModel", "readSeen", "()V"⟩ : MethodName) (⟨"RainWalkModel", "readSeen", "()V"⟩ : MethodName) ∈ G := gP 65 rfl rfl
theorem gp_66 : Cond.selects "RainWalkModel" (⟨"RainWalkModel", "eatsSign", "(I)Z"⟩ : MethodName) (⟨"RainWalkModel", "eatsSign", "(I)Z"⟩ : MethodName) ∈ G := gP 66 rfl rfl
theorem gp_67 : Cond.selects "RainWalkModel" (⟨"RainWalkModel", "good", "(I)I"⟩ : MethodName) (⟨"RainWalkModel", "good", "(I)I"⟩ : MethodName) ∈ G := gP 67 rfl rfl
theorem gp_68 : Cond.selects "RainWalkModel" (⟨"RainWalkModel", "refuses", "(IIIII)I"⟩ : MethodName) (⟨"RainWalkModel", "refuses", "(IIIII)I"⟩ : MethodName) ∈ G := gP 68 rfl rfl
theorem gp_69 : Cond.selects "RainWalkModel" (⟨"RainWalkModel", "isWalker", "(I)Z"⟩ : MethodName) (⟨"RainWalkModel", "isWalker", "(I)Z"⟩ : MethodName) ∈ G := gP 69 rfl rfl
theorem gp_70 : Cond.selects "RainWalkModel" (⟨"RainWalkModel", "isRoad", "(I)Z"⟩ : MethodName) (⟨"RainWalkModel", "isRoad", "(I)Z"⟩ : MethodName) ∈ G := gP 70 rfl rfl
theorem gp_71 : Cond.selects "RainWalkModel" (⟨"RainWalkModel", "isHour", "(I)Z"⟩ : MethodName) (⟨"RainWalkModel", "isHour", "(I)Z"⟩ : MethodName) ∈ G := gP 71 rfl rfl
theorem gp_72 : Cond.selects "RainWalkModel" (⟨"RainWalkModel", "isSpeed", "(II)Z"⟩ : MethodName) (⟨"RainWalkModel", "isSpeed", "(II)Z"⟩ : MethodName) ∈ G := gP 72 rfl rfl
theorem gp_73 : Cond.selects "RainWalkModel" (⟨"RainWalkModel", "partsOf", "(IIIIII)J"⟩ : MethodName) (⟨"RainWalkModel", "partsOf", "(IIIIII)J"⟩ : MethodName) ∈ G := gP 73 rfl rfl
theorem gp_74 : Cond.selects "RainWalkModel" (⟨"RainWalkModel", "inTime", "(IIIIIIII)I"⟩ : MethodName) (⟨"RainWalkModel", "inTime", "(IIIIIIII)I"⟩ : MethodName) ∈ G := gP 74 rfl rfl
theorem gp_75 : Cond.selects "RainWalkModel" (⟨"RainWalkModel", "isForward", "(IIIII)Z"⟩ : MethodName) (⟨"RainWalkModel", "isForward", "(IIIII)Z"⟩ : MethodName) ∈ G := gP 75 rfl rfl
theorem gp_76 : Cond.selects "RainWalkModel" (⟨"RainWalkModel", "told", "(JJZ)J"⟩ : MethodName) (⟨"RainWalkModel", "told", "(JJZ)J"⟩ : MethodName) ∈ G := gP 76 rfl rfl
theorem gp_77 : Cond.selects "RainWalkModel" (⟨"RainWalkModel", "wetOf", "(IIIII)J"⟩ : MethodName) (⟨"RainWalkModel", "wetOf", "(IIIII)J"⟩ : MethodName) ∈ G := gP 77 rfl rfl
theorem gp_78 : Cond.selects "RainWalkModel" (⟨"RainWalkModel", "lost", "(I)I"⟩ : MethodName) (⟨"RainWalkModel", "lost", "(I)I"⟩ : MethodName) ∈ G := gP 78 rfl rfl
theorem gp_79 : Cond.selects "RainWalkModel" (⟨"RainWalkModel", "bestOf", "(IIII)I"⟩ : MethodName) (⟨"RainWalkModel", "bestOf", "(IIII)I"⟩ : MethodName) ∈ G := gP 79 rfl rfl
theorem gp_80 : Cond.selects "RainWalkModel" (⟨"RainWalkModel", "wetAtBest", "(IIII)J"⟩ : MethodName) (⟨"RainWalkModel", "wetAtBest", "(IIII)J"⟩ : MethodName) ∈ G := gP 80 rfl rfl
theorem gp_81 : Cond.selects "RainWalkModel" (⟨"RainWalkModel", "refusesTwo", "(IIIIII)I"⟩ : MethodName) (⟨"RainWalkModel", "refusesTwo", "(IIIIII)I"⟩ : MethodName) ∈ G := gP 81 rfl rfl
theorem gp_82 : Cond.selects "RainWalkModel" (⟨"RainWalkModel", "together", "(IIIIII)J"⟩ : MethodName) (⟨"RainWalkModel", "together", "(IIIIII)J"⟩ : MethodName) ∈ G := gP 82 rfl rfl
theorem gp_83 : Cond.selects "RainWalkModel" (⟨"RainWalkModel", "refusesWay", "(IIIII)I"⟩ : MethodName) (⟨"RainWalkModel", "refusesWay", "(IIIII)I"⟩ : MethodName) ∈ G := gP 83 rfl rfl
theorem gp_84 : Cond.selects "RainWalkModel" (⟨"RainWalkModel", "isPlace", "(I)Z"⟩ : MethodName) (⟨"RainWalkModel", "isPlace", "(I)Z"⟩ : MethodName) ∈ G := gP 84 rfl rfl
theorem gp_85 : Cond.selects "RainWalkModel" (⟨"RainWalkModel", "laysWays", "(III)V"⟩ : MethodName) (⟨"RainWalkModel", "laysWays", "(III)V"⟩ : MethodName) ∈ G := gP 85 rfl rfl
theorem gp_86 : Cond.selects "RainWalkModel" (⟨"RainWalkModel", "tries", "(IIII)V"⟩ : MethodName) (⟨"RainWalkModel", "tries", "(IIII)V"⟩ : MethodName) ∈ G := gP 86 rfl rfl
theorem gp_87 : Cond.selects "RainWalkModel" (⟨"RainWalkModel", "meanOf", "(IIIII)J"⟩ : MethodName) (⟨"RainWalkModel", "meanOf", "(IIIII)J"⟩ : MethodName) ∈ G := gP 87 rfl rfl
theorem gp_88 : Cond.selects "RainWalkModel" (⟨"RainWalkModel", "hourOf", "(I)I"⟩ : MethodName) (⟨"RainWalkModel", "hourOf", "(I)I"⟩ : MethodName) ∈ G := gP 88 rfl rfl
theorem gp_89 : Cond.selects "RainWalkModel" (⟨"RainWalkModel", "takes", "(IIJI)V"⟩ : MethodName) (⟨"RainWalkModel", "takes", "(IIJI)V"⟩ : MethodName) ∈ G := gP 89 rfl rfl
theorem gp_90 : Cond.selects "RainWalkModel" (⟨"RainWalkModel", "canWait", "(I)Z"⟩ : MethodName) (⟨"RainWalkModel", "canWait", "(I)Z"⟩ : MethodName) ∈ G := gP 90 rfl rfl
theorem gp_91 : Cond.selects "RainWalkModel" (⟨"RainWalkModel", "waitsOf", "(III)J"⟩ : MethodName) (⟨"RainWalkModel", "waitsOf", "(III)J"⟩ : MethodName) ∈ G := gP 91 rfl rfl
theorem gp_92 : Cond.selects "RainWalkModel" (⟨"RainWalkModel", "drips", "(II)J"⟩ : MethodName) (⟨"RainWalkModel", "drips", "(II)J"⟩ : MethodName) ∈ G := gP 92 rfl rfl
theorem gp_93 : Cond.selects "RainWalkModel" (⟨"RainWalkModel", "stepOf", "(IIII)I"⟩ : MethodName) (⟨"RainWalkModel", "stepOf", "(IIII)I"⟩ : MethodName) ∈ G := gP 93 rfl rfl
theorem gp_94 : Cond.selects "RainWalkModel" (⟨"RainWalkModel", "isSeen", "(I)Z"⟩ : MethodName) (⟨"RainWalkModel", "isSeen", "(I)Z"⟩ : MethodName) ∈ G := gP 94 rfl rfl
theorem gp_95 : Cond.selects "RainWalkModel" (⟨"RainWalkModel", "fitOf", "(II)I"⟩ : MethodName) (⟨"RainWalkModel", "fitOf", "(II)I"⟩ : MethodName) ∈ G := gP 95 rfl rfl
theorem gp_96 : Cond.selects "RainWalkModel" (⟨"RainWalkModel", "isDay", "()Z"⟩ : MethodName) (⟨"RainWalkModel", "isDay", "()Z"⟩ : MethodName) ∈ G := gP 96 rfl rfl
theorem gp_97 : Cond.selects "RainWalkModel" (⟨"RainWalkModel", "keeps", "()V"⟩ : MethodName) (⟨"RainWalkModel", "keeps", "()V"⟩ : MethodName) ∈ G := gP 97 rfl rfl
theorem gp_98 : Cond.selects "RainWalkModel" (⟨"RainWalkModel", "rainsIn", "(I)Z"⟩ : MethodName) (⟨"RainWalkModel", "rainsIn", "(I)Z"⟩ : MethodName) ∈ G := gP 98 rfl rfl
theorem gp_99 : Cond.selects "RainWalkModel" (⟨"RainWalkModel", "denied", "(I)Z"⟩ : MethodName) (⟨"RainWalkModel", "denied", "(I)Z"⟩ : MethodName) ∈ G := gP 99 rfl rfl
theorem gp_100 : Cond.selects "RainWalkModel" (⟨"RainWalkModel", "granted", "()Z"⟩ : MethodName) (⟨"RainWalkModel", "granted", "()Z"⟩ : MethodName) ∈ G := gP 100 rfl rfl
theorem gp_101 : Cond.selects "RainWalkModel" (⟨"RainWalkModel", "gotInAll", "()J"⟩ : MethodName) (⟨"RainWalkModel", "gotInAll", "()J"⟩ : MethodName) ∈ G := gP 101 rfl rfl
theorem gp_102 : Cond.selects "RainWalkModel" (⟨"RainWalkModel", "holds", "()J"⟩ : MethodName) (⟨"RainWalkModel", "holds", "()J"⟩ : MethodName) ∈ G := gP 102 rfl rfl
/-- links to what is private in the nest; the string constants -/
def NF : List (String × Nat × String × String × String × String) := [("RainWalkModel", 151, "RainWalkModel$World", "hour", "I", "RainWalkModel"), ("RainWalkModel", 219, "RainWalkModel$World", "hours", "I", "RainWalkModel"), ("RainWalkModel", 190, "RainWalkModel$World", "places", "I", "RainWalkModel"), ("RainWalkModel", 264, "RainWalkModel$World", "roads", "I", "RainWalkModel"), ("RainWalkModel", 193, "RainWalkModel$World", "walkers", "I", "RainWalkModel"), ("RainWalkModel", 323, "RainWalkModel$World", "seens", "I", "RainWalkModel"), ("RainWalkModel", 167, "RainWalkModel$World", "names", "I", "RainWalkModel"), ("RainWalkModel", 237, "RainWalkModel$World", "drops", "[I", "RainWalkModel"), ("RainWalkModel", 239, "RainWalkModel$World", "down", "[I", "RainWalkModel"), ("RainWalkModel", 241, "RainWalkModel$World", "windSide", "[I", "RainWalkModel"), ("RainWalkModel", 244, "RainWalkModel$World", "wind", "[I", "RainWalkModel"), ("RainWalkModel", 246, "RainWalkModel$World", "chance", "[I", "RainWalkModel"), ("RainWalkModel", 262, "RainWalkModel$World", "tree", "[I", "RainWalkModel"), ("RainWalkModel", 270, "RainWalkModel$World", "roadFrom", "[I", "RainWalkModel"), ("RainWalkModel", 273, "RainWalkModel$World", "roadTo", "[I", "RainWalkModel"), ("RainWalkModel", 276, "RainWalkModel$World", "roadSide", "[I", "RainWalkModel"), ("RainWalkModel", 279, "RainWalkModel$World", "roadLong", "[I", "RainWalkModel"), ("RainWalkModel", 282, "RainWalkModel$World", "awning", "[I", "RainWalkModel"), ("RainWalkModel", 258, "RainWalkModel$World", "isInn", "[Z", "RainWalkModel"), ("RainWalkModel", 302, "RainWalkModel$World", "kind", "[I", "RainWalkModel"), ("RainWalkModel", 305, "RainWalkModel$World", "much", "[I", "RainWalkModel"), ("RainWalkModel", 308, "RainWalkModel$World", "top", "[I", "RainWalkModel"), ("RainWalkModel", 311, "RainWalkModel$World", "front", "[I", "RainWalkModel"), ("RainWalkModel", 314, "RainWalkModel$World", "side", "[I", "RainWalkModel"), ("RainWalkModel", 317, "RainWalkModel$World", "slowest", "[I", "RainWalkModel"), ("RainWalkModel", 320, "RainWalkModel$World", "fastest", "[I", "RainWalkModel"), ("RainWalkModel", 328, "RainWalkModel$World", "seenWho", "[I", "RainWalkModel"), ("RainWalkModel", 326, "RainWalkModel$World", "seen", "[I", "RainWalkModel"), ("RainWalkModel", 164, "RainWalkModel$World", "name", "[J", "RainWalkModel"), ("RainWalkModel", 170, "RainWalkModel$World", "nameSort", "[I", "RainWalkModel"), ("RainWalkModel", 173, "RainWalkModel$World", "nameNumber", "[I", "RainWalkModel")]
def NM : List (String × Nat × MethodName × String) := [("RainWalk$World", 39, ⟨"RainWalk$Rain", "<init>", "()V"⟩, "RainWalk"), ("RainWalk$World", 40, ⟨"RainWalk$Road", "<init>", "()V"⟩, "RainWalk"), ("RainWalk$World", 41, ⟨"RainWalk$Walker", "<init>", "()V"⟩, "RainWalk"), ("RainWalk", 22, ⟨"RainWalk$Reader", "<init>", "()V"⟩, "RainWalk"), ("RainWalk", 29, ⟨"RainWalk$Leg", "<init>", "()V"⟩, "RainWalk"), ("RainWalk", 36, ⟨"RainWalk$Ways", "<init>", "()V"⟩, "RainWalk"), ("RainWalk$Day", 17, ⟨"RainWalk$Moment", "<init>", "()V"⟩, "RainWalk"), ("RainWalkModel", 334, ⟨"RainWalkModel$World", "<init>", "()V"⟩, "RainWalkModel")]
def SR : List (String × Nat × String) := [("RainWalk$Reader", 34, "world"), ("RainWalk$Reader", 179, "hour"), ("RainWalk$Reader", 43, "rain"), ("RainWalk$Reader", 191, "drops"), ("RainWalk$Reader", 197, "down"), ("RainWalk$Reader", 201, "wind"), ("RainWalk$Reader", 156, "north"), ("RainWalk$Reader", 158, "east"), ("RainWalk$Reader", 160, "south"), ("RainWalk$Reader", 162, "west"), ("RainWalk$Reader", 211, "chance"), ("RainWalk$Reader", 56, "place"), ("RainWalk$Reader", 64, "road"), ("RainWalk$Reader", 72, "walker"), ("RainWalk$Reader", 80, "seen"), ("RainWalk$Reader", 164, "inn"), ("RainWalk$Reader", 166, "tree"), ("RainWalk$Reader", 168, "awning"), ("RainWalk$Reader", 262, "bent"), ("RainWalk$Reader", 267, "coat"), ("RainWalk$Reader", 269, "shield"), ("RainWalk$Reader", 271, "plain"), ("RainWalk$Reader", 276, "broad"), ("RainWalk$Reader", 278, "deep"), ("RainWalk$Reader", 280, "high"), ("RainWalk$Reader", 250, "from"), ("RainWalk$Reader", 257, "to"), ("RainWalkModel", 130, "world"), ("RainWalkModel", 214, "hour"), ("RainWalkModel", 132, "rain"), ("RainWalkModel", 226, "drops"), ("RainWalkModel", 228, "down"), ("RainWalkModel", 230, "wind"), ("RainWalkModel", 176, "north"), ("RainWalkModel", 178, "east"), ("RainWalkModel", 180, "south"), ("RainWalkModel", 182, "west"), ("RainWalkModel", 235, "chance"), ("RainWalkModel", 134, "place"), ("RainWalkModel", 135, "road"), ("RainWalkModel", 137, "walker"), ("RainWalkModel", 139, "seen"), ("RainWalkModel", 141, "inn"), ("RainWalkModel", 143, "tree"), ("RainWalkModel", 145, "awning"), ("RainWalkModel", 284, "plain"), ("RainWalkModel", 286, "bent"), ("RainWalkModel", 288, "coat"), ("RainWalkModel", 290, "shield"), ("RainWalkModel", 292, "broad"), ("RainWalkModel", 294, "deep"), ("RainWalkModel", 296, "high"), ("RainWalkModel", 298, "from"), ("RainWalkModel", 300, "to")]
def sByt : List (List Int32) := [[119, 111, 114, 108, 100], [104, 111, 117, 114], [114, 97, 105, 110], [100, 114, 111, 112, 115], [100, 111, 119, 110], [119, 105, 110, 100], [110, 111, 114, 116, 104], [101, 97, 115, 116], [115, 111, 117, 116, 104], [119, 101, 115, 116], [99, 104, 97, 110, 99, 101], [112, 108, 97, 99, 101], [114, 111, 97, 100], [119, 97, 108, 107, 101, 114], [115, 101, 101, 110], [105, 110, 110], [116, 114, 101, 101], [97, 119, 110, 105, 110, 103], [98, 101, 110, 116], [99, 111, 97, 116], [115, 104, 105, 101, 108, 100], [112, 108, 97, 105, 110], [98, 114, 111, 97, 100], [100, 101, 101, 112], [104, 105, 103, 104], [102, 114, 111, 109], [116, 111], [119, 111, 114, 108, 100], [104, 111, 117, 114], [114, 97, 105, 110], [100, 114, 111, 112, 115], [100, 111, 119, 110], [119, 105, 110, 100], [110, 111, 114, 116, 104], [101, 97, 115, 116], [115, 111, 117, 116, 104], [119, 101, 115, 116], [99, 104, 97, 110, 99, 101], [112, 108, 97, 99, 101], [114, 111, 97, 100], [119, 97, 108, 107, 101, 114], [115, 101, 101, 110], [105, 110, 110], [116, 114, 101, 101], [97, 119, 110, 105, 110, 103], [112, 108, 97, 105, 110], [98, 101, 110, 116], [99, 111, 97, 116], [115, 104, 105, 101, 108, 100], [98, 114, 111, 97, 100], [100, 101, 101, 112], [104, 105, 103, 104], [102, 114, 111, 109], [116, 111]]
def sLen : List Nat := [5, 4, 4, 5, 4, 4, 5, 4, 5, 4, 6, 5, 4, 6, 4, 3, 4, 6, 4, 4, 6, 5, 5, 4, 4, 4, 2, 5, 4, 4, 5, 4, 4, 5, 4, 5, 4, 6, 5, 4, 6, 4, 3, 4, 6, 5, 4, 4, 6, 5, 4, 4, 4, 2]
theorem cw_0 : ∀ w ∈ u_ws RX0 TX0 7, w ∈ G := by
  intro w hw
  obtain ⟨z, hz, rfl⟩ := List.mem_map.mp hw
  have hz := List.mem_range.mp hz
  match z, hz with
    | 0, _ => exact g_372
    | 1, _ => exact g_374
    | 2, _ => exact g_376
    | 3, _ => exact g_378
    | 4, _ => exact g_380
    | 5, _ => exact g_382
    | 6, _ => exact g_384
    | z + 7, hz => exact absurd hz (by omega)
theorem cw_1 : ∀ w ∈ u_ws RX1 TX1 2, w ∈ G := by
  intro w hw
  obtain ⟨z, hz, rfl⟩ := List.mem_map.mp hw
  have hz := List.mem_range.mp hz
  match z, hz with
    | 0, _ => exact g_276
    | 1, _ => exact g_278
    | z + 2, hz => exact absurd hz (by omega)
theorem cw_2 : ∀ w ∈ u_ws RX2 TX2 3, w ∈ G := by
  intro w hw
  obtain ⟨z, hz, rfl⟩ := List.mem_map.mp hw
  have hz := List.mem_range.mp hz
  match z, hz with
    | 0, _ => exact g_352
    | 1, _ => exact g_354
    | 2, _ => exact g_356
    | z + 3, hz => exact absurd hz (by omega)
theorem cw_3 : ∀ w ∈ u_ws RX3 TX3 5, w ∈ G := by
  intro w hw
  obtain ⟨z, hz, rfl⟩ := List.mem_map.mp hw
  have hz := List.mem_range.mp hz
  match z, hz with
    | 0, _ => exact g_60
    | 1, _ => exact g_62
    | 2, _ => exact g_64
    | 3, _ => exact g_66
    | 4, _ => exact g_68
    | z + 5, hz => exact absurd hz (by omega)
theorem cw_4 : ∀ w ∈ u_ws RX4 TX4 13, w ∈ G := by
  intro w hw
  obtain ⟨z, hz, rfl⟩ := List.mem_map.mp hw
  have hz := List.mem_range.mp hz
  match z, hz with
    | 0, _ => exact g_239
    | 1, _ => exact g_241
    | 2, _ => exact g_243
    | 3, _ => exact g_245
    | 4, _ => exact g_247
    | 5, _ => exact g_249
    | 6, _ => exact g_251
    | 7, _ => exact g_253
    | 8, _ => exact g_255
    | 9, _ => exact g_257
    | 10, _ => exact g_259
    | 11, _ => exact g_261
    | 12, _ => exact g_263
    | z + 13, hz => exact absurd hz (by omega)
theorem cw_5 : ∀ w ∈ u_ws RX5 TX5 5, w ∈ G := by
  intro w hw
  obtain ⟨z, hz, rfl⟩ := List.mem_map.mp hw
  have hz := List.mem_range.mp hz
  match z, hz with
    | 0, _ => exact g_90
    | 1, _ => exact g_92
    | 2, _ => exact g_94
    | 3, _ => exact g_96
    | 4, _ => exact g_98
    | z + 5, hz => exact absurd hz (by omega)
theorem cw_6 : ∀ w ∈ u_ws RX6 TX6 7, w ∈ G := by
  intro w hw
  obtain ⟨z, hz, rfl⟩ := List.mem_map.mp hw
  have hz := List.mem_range.mp hz
  match z, hz with
    | 0, _ => exact g_128
    | 1, _ => exact g_130
    | 2, _ => exact g_132
    | 3, _ => exact g_134
    | 4, _ => exact g_136
    | 5, _ => exact g_138
    | 6, _ => exact g_140
    | z + 7, hz => exact absurd hz (by omega)
theorem cw_7 : ∀ w ∈ u_ws RX7 TX7 14, w ∈ G := by
  intro w hw
  obtain ⟨z, hz, rfl⟩ := List.mem_map.mp hw
  have hz := List.mem_range.mp hz
  match z, hz with
    | 0, _ => exact g_302
    | 1, _ => exact g_304
    | 2, _ => exact g_306
    | 3, _ => exact g_308
    | 4, _ => exact g_310
    | 5, _ => exact g_312
    | 6, _ => exact g_314
    | 7, _ => exact g_316
    | 8, _ => exact g_318
    | 9, _ => exact g_320
    | 10, _ => exact g_322
    | 11, _ => exact g_324
    | 12, _ => exact g_326
    | 13, _ => exact g_328
    | z + 14, hz => exact absurd hz (by omega)
theorem cw_8 : ∀ w ∈ u_ws RX8 TX8 12, w ∈ G := by
  intro w hw
  obtain ⟨z, hz, rfl⟩ := List.mem_map.mp hw
  have hz := List.mem_range.mp hz
  match z, hz with
    | 0, _ => exact g_191
    | 1, _ => exact g_193
    | 2, _ => exact g_195
    | 3, _ => exact g_197
    | 4, _ => exact g_199
    | 5, _ => exact g_201
    | 6, _ => exact g_203
    | 7, _ => exact g_205
    | 8, _ => exact g_207
    | 9, _ => exact g_209
    | 10, _ => exact g_211
    | 11, _ => exact g_213
    | z + 12, hz => exact absurd hz (by omega)
theorem cw_9 : ∀ w ∈ u_ws RX9 TX9 10, w ∈ G := by
  intro w hw
  obtain ⟨z, hz, rfl⟩ := List.mem_map.mp hw
  have hz := List.mem_range.mp hz
  match z, hz with
    | 0, _ => exact g_397
    | 1, _ => exact g_399
    | 2, _ => exact g_401
    | 3, _ => exact g_403
    | 4, _ => exact g_405
    | 5, _ => exact g_407
    | 6, _ => exact g_409
    | 7, _ => exact g_411
    | 8, _ => exact g_413
    | 9, _ => exact g_415
    | z + 10, hz => exact absurd hz (by omega)
theorem cw_10 : ∀ w ∈ u_ws RX10 TX10 31, w ∈ G := by
  intro w hw
  obtain ⟨z, hz, rfl⟩ := List.mem_map.mp hw
  have hz := List.mem_range.mp hz
  match z, hz with
    | 0, _ => exact g_1316
    | 1, _ => exact g_1318
    | 2, _ => exact g_1320
    | 3, _ => exact g_1322
    | 4, _ => exact g_1324
    | 5, _ => exact g_1326
    | 6, _ => exact g_1328
    | 7, _ => exact g_1330
    | 8, _ => exact g_1332
    | 9, _ => exact g_1334
    | 10, _ => exact g_1336
    | 11, _ => exact g_1338
    | 12, _ => exact g_1340
    | 13, _ => exact g_1342
    | 14, _ => exact g_1344
    | 15, _ => exact g_1346
    | 16, _ => exact g_1348
    | 17, _ => exact g_1350
    | 18, _ => exact g_1352
    | 19, _ => exact g_1354
    | 20, _ => exact g_1356
    | 21, _ => exact g_1358
    | 22, _ => exact g_1360
    | 23, _ => exact g_1362
    | 24, _ => exact g_1364
    | 25, _ => exact g_1366
    | 26, _ => exact g_1368
    | 27, _ => exact g_1370
    | 28, _ => exact g_1372
    | 29, _ => exact g_1374
    | 30, _ => exact g_1376
    | z + 31, hz => exact absurd hz (by omega)
theorem cw_11 : ∀ w ∈ u_ws RX11 TX11 26, w ∈ G := by
  intro w hw
  obtain ⟨z, hz, rfl⟩ := List.mem_map.mp hw
  have hz := List.mem_range.mp hz
  match z, hz with
    | 0, _ => exact g_1189
    | 1, _ => exact g_1191
    | 2, _ => exact g_1193
    | 3, _ => exact g_1195
    | 4, _ => exact g_1197
    | 5, _ => exact g_1199
    | 6, _ => exact g_1201
    | 7, _ => exact g_1203
    | 8, _ => exact g_1205
    | 9, _ => exact g_1207
    | 10, _ => exact g_1209
    | 11, _ => exact g_1211
    | 12, _ => exact g_1213
    | 13, _ => exact g_1215
    | 14, _ => exact g_1217
    | 15, _ => exact g_1219
    | 16, _ => exact g_1221
    | 17, _ => exact g_1223
    | 18, _ => exact g_1225
    | 19, _ => exact g_1227
    | 20, _ => exact g_1229
    | 21, _ => exact g_1231
    | 22, _ => exact g_1233
    | 23, _ => exact g_1235
    | 24, _ => exact g_1237
    | 25, _ => exact g_1239
    | z + 26, hz => exact absurd hz (by omega)
/-- what the words say of the classes: every class's words stand; its fields' types; its names are apart -/
def CL (q : vw_C) : Prop := (∀ w ∈ u_ws q.1 q.2.1 q.2.2, w ∈ G) ∧ ∃ ty : Nat → FieldType, (∀ z, z < q.2.2 → parseFieldDescriptor (q.2.1 z).2.2.1 = some (ty z)) ∧ (∀ a, a < q.2.2 → ∀ b, b < q.2.2 → a ≠ b → (q.2.1 a).2.1 ≠ (q.2.1 b).2.1)
theorem CLs : ∀ (ci : Nat) (q : vw_C), vwCl[ci]? = some q → CL q := by
  intro ci q h
  match ci, h with
  | 0, h => cases h; exact ⟨cw_0, tyX0, tyX0_ok, nmX0⟩
  | 1, h => cases h; exact ⟨cw_1, tyX1, tyX1_ok, nmX1⟩
  | 2, h => cases h; exact ⟨cw_2, tyX2, tyX2_ok, nmX2⟩
  | 3, h => cases h; exact ⟨cw_3, tyX3, tyX3_ok, nmX3⟩
  | 4, h => cases h; exact ⟨cw_4, tyX4, tyX4_ok, nmX4⟩
  | 5, h => cases h; exact ⟨cw_5, tyX5, tyX5_ok, nmX5⟩
  | 6, h => cases h; exact ⟨cw_6, tyX6, tyX6_ok, nmX6⟩
  | 7, h => cases h; exact ⟨cw_7, tyX7, tyX7_ok, nmX7⟩
  | 8, h => cases h; exact ⟨cw_8, tyX8, tyX8_ok, nmX8⟩
  | 9, h => cases h; exact ⟨cw_9, tyX9, tyX9_ok, nmX9⟩
  | 10, h => cases h; exact ⟨cw_10, tyX10, tyX10_ok, nmX10⟩
  | 11, h => cases h; exact ⟨cw_11, tyX11, tyX11_ok, nmX11⟩
  | z + 12, h => simp [vwCl] at h
end
section
/-! THE POOL: all cells of the class, of the reference and of the law's own, as functions of their addresses. K is the kind (0 to 11: the classes of vwCl; 12 bytes, 13 ints, 14 longs, 15 booleans, 16 Moments, 17 Rains, 18 Roads, 19 Walkers), N an array's length; I, J, R what stands at a place: an object's field, an array's element. -/
abbrev HS : Type := List Nat × (Nat → Nat) × (Nat → Nat) × (Nat → Nat → Int32) × (Nat → Nat → Int64) × (Nat → Nat → Option Nat)
def hL (S : HS) : List Nat := S.1
def hK (S : HS) : Nat → Nat := S.2.1
def hN (S : HS) : Nat → Nat := S.2.2.1
def fI (S : HS) : Nat → Nat → Int32 := S.2.2.2.1
def fJ (S : HS) : Nat → Nat → Int64 := S.2.2.2.2.1
def fR (S : HS) : Nat → Nat → Option Nat := S.2.2.2.2.2
def u2 {α : Type} (f : Nat → Nat → α) (a j : Nat) (v : α) : Nat → Nat → α := fun b i => if b = a ∧ i = j then v else f b i
def sI (S : HS) (a j : Nat) (v : Int32) : HS := (hL S, hK S, hN S, u2 (fI S) a j v, fJ S, fR S)
def sJ (S : HS) (a j : Nat) (v : Int64) : HS := (hL S, hK S, hN S, fI S, u2 (fJ S) a j v, fR S)
def sR (S : HS) (a j : Nat) (v : Option Nat) : HS := (hL S, hK S, hN S, fI S, fJ S, u2 (fR S) a j v)
def nW (S : HS) (a k n : Nat) : HS := (hL S ++ [a], va_up (hK S) a k, va_up (hN S) a n, va_up (fI S) a (fun _ => 0), va_up (fJ S) a (fun _ => 0), va_up (fR S) a (fun _ => none))
/-- a is an object (an array) of kind k -/
def ob (S : HS) (a k : Nat) : Prop := a ∈ hL S ∧ hK S a = k
/-- what was there is there, of its kind and length -/
def Gr (S S' : HS) : Prop := ∀ a, a ∈ hL S → a ∈ hL S' ∧ hK S' a = hK S a ∧ hN S' a = hN S a
theorem gr_rf (S : HS) : Gr S S := fun _ h => ⟨h, rfl, rfl⟩
theorem gr_tr {S T U : HS} (h : Gr S T) (g : Gr T U) : Gr S U := fun a ha => ⟨(g a (h a ha).1).1, (g a (h a ha).1).2.1.trans (h a ha).2.1, (g a (h a ha).1).2.2.trans (h a ha).2.2⟩
theorem gr_ob {S T : HS} (h : Gr S T) {a k : Nat} (g : ob S a k) : ob T a k := ⟨(h a g.1).1, (h a g.1).2.1.trans g.2⟩
theorem gr_len {S T : HS} (h : Gr S T) {a k : Nat} (g : ob S a k) : hN T a = hN S a := (h a g.1).2.2
theorem gr_sR {S T : HS} (h : Gr S T) (a j : Nat) (v : Option Nat) : Gr S (sR T a j v) := h
theorem gr_nW {S T : HS} (h : Gr S T) {a : Nat} (k n : Nat) (ha : a ∉ hL T) : Gr S (nW T a k n) := fun b hb => by
  have h1 := h b hb
  have hba : b ≠ a := fun q => ha (q ▸ h1.1)
  refine ⟨List.mem_append_left _ h1.1, ?_, ?_⟩
  · show va_up (hK T) a k b = _
    rw [va_up_ne _ _ hba]; exact h1.2.1
  · show va_up (hN T) a n b = _
    rw [va_up_ne _ _ hba]; exact h1.2.2
/-- the types of the classes' fields: 0 an int, 1 a long, 2 a reference -/
def kt : List (List Nat) := [[0, 0, 0, 0, 2, 2, 2], [2, 2], [0, 0, 2], [0, 0, 0, 0, 0], [0, 0, 2, 0, 0, 2, 0, 0, 1, 0, 0, 2, 2], [0, 0, 0, 0, 0], [0, 0, 0, 0, 0, 0, 0], [2, 2, 2, 0, 2, 2, 2, 2, 2, 0, 0, 0, 0, 0], [0, 0, 0, 0, 0, 0, 2, 2, 2, 2, 2, 2], [2, 0, 2, 2, 2, 2, 2, 0, 0, 0], [0, 0, 0, 0, 0, 0, 0, 2, 2, 2, 2, 2, 2, 2, 2, 2, 2, 2, 2, 2, 2, 2, 2, 2, 2, 2, 2, 2, 2, 2, 2], [0, 0, 0, 2, 2, 2, 0, 0, 0, 0, 0, 0, 0, 0, 0, 1, 2, 2, 2, 0, 0, 2, 2, 2, 0, 0]]
def vOf (S : HS) (a t j : Nat) : Value := if t = 0 then .int (fI S a j) else if t = 1 then .long (fJ S a j) else va_rf (fR S a j)
def fsGo (S : HS) (a : Nat) : Nat → List Nat → List Value
  | _, [] => []
  | j, t :: ts => vOf S a t j :: fsGo S a (j + 1) ts
def aOf (S : HS) (a k : Nat) : vp_A := (hN S a, if k = 14 then .inr (.inl (fJ S a)) else if k < 16 then .inl (fI S a) else .inr (.inr (.inr (.inr (fR S a)))))
def cE (cy : Nat → ClassId) (S : HS) (a : Nat) : va_E := if hK S a < 12 then .inr (hK S a, fsGo S a 0 (kt.getD (hK S a) [])) else .inl (cy (hK S a), aOf S a (hK S a))
def pw (cy : Nat → ClassId) (S : HS) : va_W := va_pl (hL S) (cE cy S)
def tys (cy : Nat → ClassId) : List (ClassId × FieldType) := [(cy 12, .byte), (cy 13, .int), (cy 14, .long), (cy 15, .boolean), (cy 16, .object RX2), (cy 17, .object RX3), (cy 18, .object RX5), (cy 19, .object RX6)]
theorem fs_get (S : HS) (a : Nat) : ∀ (ts : List Nat) (i j : Nat), (fsGo S a i ts)[j]? = (ts[j]?).map (fun t => vOf S a t (i + j))
  | [], i, j => by simp [fsGo]
  | t :: ts, i, 0 => by simp [fsGo]
  | t :: ts, i, j + 1 => by
    have := fs_get S a ts (i + 1) j
    simp only [fsGo, List.getElem?_cons_succ]
    rw [this, Nat.add_right_comm i 1 j]; rfl
theorem fs_len (S : HS) (a : Nat) : ∀ (ts : List Nat) (i : Nat), (fsGo S a i ts).length = ts.length
  | [], i => rfl
  | t :: ts, i => by simp [fsGo, fs_len S a ts (i + 1)]
theorem fs_same {S T : HS} {a : Nat} : ∀ (ts : List Nat) (i : Nat), (∀ j t, ts[j]? = some t → vOf S a t (i + j) = vOf T a t (i + j)) → fsGo S a i ts = fsGo T a i ts
  | [], i, _ => rfl
  | t :: ts, i, h => by
    have h0 := h 0 t rfl
    have h1 := fs_same (S := S) (T := T) (a := a) ts (i + 1) (fun j u hu => by rw [Nat.add_right_comm i 1 j]; exact h (j + 1) u hu)
    simp only [fsGo]
    rw [h1]
    exact congrArg (· :: _) h0
theorem fs_set {S T : HS} {a : Nat} {v : Value} (ts : List Nat) (i k : Nat) {t : Nat} (ht : ts[k]? = some t) (hv : vOf T a t (i + k) = v) (h : ∀ j t, ts[j]? = some t → j ≠ k → vOf S a t (i + j) = vOf T a t (i + j)) : fsGo T a i ts = (fsGo S a i ts).set k v := by
  apply List.ext_getElem?
  intro j
  by_cases hj : j = k
  · subst hj
    have hl : j < (fsGo S a i ts).length := by rw [fs_len]; exact (List.getElem?_eq_some_iff.mp ht).1
    rw [List.getElem?_set_self hl, fs_get, ht, ← hv]; rfl
  · rw [List.getElem?_set_ne (Ne.symm hj), fs_get, fs_get]
    cases hq : ts[j]? with
    | none => rfl
    | some u => exact congrArg some (h j u hq hj).symm
theorem u2_self {α : Type} (f : Nat → Nat → α) (a j : Nat) (v : α) : u2 f a j v a j = v := by simp [u2]
theorem u2_ne {α : Type} (f : Nat → Nat → α) {a j b i : Nat} (v : α) (h : ¬ (b = a ∧ i = j)) : u2 f a j v b i = f b i := by simp only [u2, if_neg h]
theorem u2_row {α : Type} (f : Nat → Nat → α) {a j b : Nat} (v : α) (h : b ≠ a) : u2 f a j v b = f b := by
  funext i
  exact u2_ne f v (fun q => h q.1)
theorem cE_obj {cy : Nat → ClassId} {S : HS} {a k : Nat} (h : hK S a = k) (hk : k < 12) : cE cy S a = .inr (k, fsGo S a 0 (kt.getD k [])) := by
  simp only [cE, h, if_pos hk]
theorem cE_arr {cy : Nat → ClassId} {S : HS} {a k : Nat} (h : hK S a = k) (hk : ¬ k < 12) : cE cy S a = .inl (cy k, aOf S a k) := by
  simp only [cE, h, if_neg hk]
theorem aOf_ne {S T : HS} {a k : Nat} (h0 : hN S a = hN T a) (h1 : fI S a = fI T a) (h2 : fJ S a = fJ T a) (h3 : fR S a = fR T a) : aOf S a k = aOf T a k := by
  simp only [aOf, h0, h1, h2, h3]
theorem vOf_ne {S T : HS} {a : Nat} (h1 : fI S a = fI T a) (h2 : fJ S a = fJ T a) (h3 : fR S a = fR T a) (t j : Nat) : vOf S a t j = vOf T a t j := by
  simp only [vOf, h1, h2, h3]
theorem cE_ne {cy : Nat → ClassId} {S T : HS} {a : Nat} (hk : hK S a = hK T a) (h0 : hN S a = hN T a) (h1 : fI S a = fI T a) (h2 : fJ S a = fJ T a) (h3 : fR S a = fR T a) : cE cy S a = cE cy T a := by
  unfold cE
  rw [hk, aOf_ne h0 h1 h2 h3, fs_same (S := S) (T := T) _ 0 (fun j t _ => vOf_ne h1 h2 h3 t _)]
/-- a place of a pool is set: the world's list, changed at one place -/
theorem pw_set {cy : Nat → ClassId} {A : Nat → Prop} {S T : HS} {a k0 : Nat} {e : va_E} (hD : va_D A (pw cy S)) (ha : a ∈ hL S) (hk : (pw cy S)[k0]? = some (a, cE cy S a)) (hL' : hL T = hL S) (hs : cE cy T a = e) (hne : ∀ b, b ≠ a → cE cy T b = cE cy S b) : (pw cy S).set k0 (a, e) = pw cy T := by
  have h := va_pl_set (X := []) (e := e) hD ha hk
  have h2 : (pw cy S).set k0 (a, e) = va_pl (hL S) (va_up (cE cy S) a e) := h
  rw [h2]
  unfold pw
  rw [hL']
  refine va_pl_congr (fun b => ?_)
  by_cases hb : b = a
  · subst hb; rw [va_up_self, hs]
  · rw [va_up_ne _ _ hb, hne b hb]
theorem pw_get {cy : Nat → ClassId} {S : HS} {a : Nat} (ha : a ∈ hL S) : ∃ k : Nat, (pw cy S)[k]? = some (a, cE cy S a) := va_pl_get (X := []) ha
theorem pw_new {cy : Nat → ClassId} {S : HS} {a k n : Nat} {e : va_E} (ha : a ∉ hL S) (he : cE cy (nW S a k n) a = e) : pw cy S ++ [(a, e)] = pw cy (nW S a k n) := by
  unfold pw
  rw [va_pl_push ha]
  show va_pl (hL S ++ [a]) _ = va_pl (hL S ++ [a]) _
  refine va_pl_congr (fun b => ?_)
  by_cases hb : b = a
  · subst hb; rw [va_up_self, he]
  · rw [va_up_ne _ _ hb]
    exact cE_ne (va_up_ne _ _ hb).symm (va_up_ne _ _ hb).symm (va_up_ne _ _ hb).symm (va_up_ne _ _ hb).symm (va_up_ne _ _ hb).symm
theorem pw_sI {cy : Nat → ClassId} {A : Nat → Prop} {S : HS} {a k k0 j : Nat} {v : Int32} (hD : va_D A (pw cy S)) (ho : ob S a k) (hk12 : k < 12) (hk : (pw cy S)[k0]? = some (a, cE cy S a)) (ht : (kt.getD k [])[j]? = some 0) : (pw cy S).set k0 (a, .inr (k, (fsGo S a 0 (kt.getD k [])).set j (.int v))) = pw cy (sI S a j v) := by
  refine pw_set hD ho.1 hk rfl ?_ (fun b hb => cE_ne rfl rfl (u2_row _ _ hb) rfl rfl)
  rw [cE_obj (S := sI S a j v) (k := k) ho.2 hk12]
  refine congrArg (fun z => Sum.inr (k, z)) (fs_set (S := S) _ 0 j ht ?_ ?_)
  · show Value.int (u2 (fI S) a j v a (0 + j)) = _
    rw [Nat.zero_add, u2_self]
  · intro i t hi hij
    rw [Nat.zero_add]
    show vOf S a t i = (if t = 0 then Value.int (u2 (fI S) a j v a i) else if t = 1 then .long (fJ S a i) else va_rf (fR S a i))
    rw [u2_ne _ _ (fun q => hij q.2)]; rfl
theorem pw_sJ {cy : Nat → ClassId} {A : Nat → Prop} {S : HS} {a k k0 j : Nat} {v : Int64} (hD : va_D A (pw cy S)) (ho : ob S a k) (hk12 : k < 12) (hk : (pw cy S)[k0]? = some (a, cE cy S a)) (ht : (kt.getD k [])[j]? = some 1) : (pw cy S).set k0 (a, .inr (k, (fsGo S a 0 (kt.getD k [])).set j (.long v))) = pw cy (sJ S a j v) := by
  refine pw_set hD ho.1 hk rfl ?_ (fun b hb => cE_ne rfl rfl rfl (u2_row _ _ hb) rfl)
  rw [cE_obj (S := sJ S a j v) (k := k) ho.2 hk12]
  refine congrArg (fun z => Sum.inr (k, z)) (fs_set (S := S) _ 0 j ht ?_ ?_)
  · show Value.long (u2 (fJ S) a j v a (0 + j)) = _
    rw [Nat.zero_add, u2_self]
  · intro i t hi hij
    rw [Nat.zero_add]
    show vOf S a t i = (if t = 0 then Value.int (fI S a i) else if t = 1 then .long (u2 (fJ S) a j v a i) else va_rf (fR S a i))
    rw [u2_ne _ _ (fun q => hij q.2)]; rfl
theorem pw_sR {cy : Nat → ClassId} {A : Nat → Prop} {S : HS} {a k k0 j : Nat} {v : Option Nat} (hD : va_D A (pw cy S)) (ho : ob S a k) (hk12 : k < 12) (hk : (pw cy S)[k0]? = some (a, cE cy S a)) (ht : (kt.getD k [])[j]? = some 2) : (pw cy S).set k0 (a, .inr (k, (fsGo S a 0 (kt.getD k [])).set j (va_rf v))) = pw cy (sR S a j v) := by
  refine pw_set hD ho.1 hk rfl ?_ (fun b hb => cE_ne rfl rfl rfl rfl (u2_row _ _ hb))
  rw [cE_obj (S := sR S a j v) (k := k) ho.2 hk12]
  refine congrArg (fun z => Sum.inr (k, z)) (fs_set (S := S) _ 0 j ht ?_ ?_)
  · show va_rf (u2 (fR S) a j v a (0 + j)) = _
    rw [Nat.zero_add, u2_self]
  · intro i t hi hij
    rw [Nat.zero_add]
    show vOf S a t i = (if t = 0 then Value.int (fI S a i) else if t = 1 then .long (fJ S a i) else va_rf (u2 (fR S) a j v a i))
    rw [u2_ne _ _ (fun q => hij q.2)]; rfl
theorem u2_upd (f : Nat → Nat → Int32) (a j : Nat) (v : Int32) : u2 f a j v a = upd (f a) j v := by
  funext i
  by_cases h : i = j
  · subst h; simp [u2, upd]
  · simp [u2, upd, h]
theorem u2_updL (f : Nat → Nat → Int64) (a j : Nat) (v : Int64) : u2 f a j v a = vp_updL (f a) j v := by
  funext i
  by_cases h : i = j
  · subst h; simp [u2, vp_updL]
  · simp [u2, vp_updL, h]
theorem u2_up {α : Type} (f : Nat → Nat → α) (a j : Nat) (v : α) : u2 f a j v a = va_up (f a) j v := by
  funext i
  by_cases h : i = j
  · subst h; simp [u2, va_up]
  · simp [u2, va_up, h]
theorem pw_aI {cy : Nat → ClassId} {A : Nat → Prop} {S : HS} {a k k0 j : Nat} {v : Int32} (hD : va_D A (pw cy S)) (ho : ob S a k) (hk1 : ¬ k < 12) (hk2 : k < 16) (hk3 : k ≠ 14) (hk : (pw cy S)[k0]? = some (a, cE cy S a)) : (pw cy S).set k0 (a, .inl (cy k, (hN S a, .inl (upd (fI S a) j v)))) = pw cy (sI S a j v) := by
  refine pw_set hD ho.1 hk rfl ?_ (fun b hb => cE_ne rfl rfl (u2_row _ _ hb) rfl rfl)
  rw [cE_arr (S := sI S a j v) (k := k) ho.2 hk1]
  show Sum.inl (cy k, (hN S a, _)) = _
  rw [if_neg hk3, if_pos hk2]
  show Sum.inl (cy k, (hN S a, Sum.inl (u2 (fI S) a j v a))) = _
  rw [u2_upd]
theorem pw_aJ {cy : Nat → ClassId} {A : Nat → Prop} {S : HS} {a k0 j : Nat} {v : Int64} (hD : va_D A (pw cy S)) (ho : ob S a 14) (hk : (pw cy S)[k0]? = some (a, cE cy S a)) : (pw cy S).set k0 (a, .inl (cy 14, (hN S a, .inr (.inl (vp_updL (fJ S a) j v))))) = pw cy (sJ S a j v) := by
  refine pw_set hD ho.1 hk rfl ?_ (fun b hb => cE_ne rfl rfl rfl (u2_row _ _ hb) rfl)
  rw [cE_arr (S := sJ S a j v) (k := 14) ho.2 (by decide)]
  show Sum.inl (cy 14, (hN S a, Sum.inr (Sum.inl (u2 (fJ S) a j v a)))) = _
  rw [u2_updL]
theorem pw_aR {cy : Nat → ClassId} {A : Nat → Prop} {S : HS} {a k k0 j : Nat} {v : Option Nat} (hD : va_D A (pw cy S)) (ho : ob S a k) (hk1 : ¬ k < 16) (hk : (pw cy S)[k0]? = some (a, cE cy S a)) : (pw cy S).set k0 (a, .inl (cy k, (hN S a, .inr (.inr (.inr (.inr (va_up (fR S a) j v))))))) = pw cy (sR S a j v) := by
  refine pw_set hD ho.1 hk rfl ?_ (fun b hb => cE_ne rfl rfl rfl rfl (u2_row _ _ hb))
  rw [cE_arr (S := sR S a j v) (k := k) ho.2 (by omega)]
  show Sum.inl (cy k, (hN S a, _)) = _
  rw [if_neg (by omega), if_neg hk1]
  show Sum.inl (cy k, (hN S a, Sum.inr (Sum.inr (Sum.inr (Sum.inr (u2 (fR S) a j v a)))))) = _
  rw [u2_up]
end
section
/-- what stands fast: the classes' numbers and slots, the arrays' classes, the strings' cells and their bytes' -/
abbrev EE : Type := va_G × (Nat → ClassId) × (Nat → Nat) × (Nat → Nat)
def eD (E : EE) : va_G := E.1
def ey (E : EE) : Nat → ClassId := E.2.1
def eK (E : EE) : Nat → Nat := E.2.2.1
def eV (E : EE) : Nat → Nat := E.2.2.2
def SS (E : EE) (A : Nat → Prop) (U : State) (H : Heap) : Prop := ∀ i : Nat, i < 54 → va_O "java/lang/String" (eK E i) A U H ∧ va_OF "java/lang/String" "coder" "B" (.int 0) (eK E i) A U H ∧ va_OF "java/lang/String" "value" "[B" (.ref (eV E i)) (eK E i) A U H ∧ va_T .byte (eV E i) (sLen.getD i 0) (fun j => .int ((sByt.getD i []).getD j 0)) A U H
def EV (E : EE) (A : Nat → Prop) (U : State) (H : Heap) : Prop := va_K (eD E) vwCl (tys (ey E)) U ∧ (∀ q ∈ NF, va_Nw (.fieldLinkNest q.1 q.2.1 q.2.2.1 q.2.2.2.1 q.2.2.2.2.1 q.2.2.2.2.2) U) ∧ (∀ q ∈ NM, va_Nw (.methodLinkNest q.1 q.2.1 q.2.2.1 q.2.2.2) U) ∧ (∀ C ∈ [RX2, RX3, RX5, RX6], va_AO C U) ∧ (∀ (i : Nat) (q : String × Nat × String), SR[i]? = some q → vk_R q.1 q.2.1 q.2.2 (eK E i) U) ∧ SS E A U H ∧ va_Z "java/lang/String" "COMPACT_STRINGS" "Z" (.int 1) A U H ∧ va_Zq "jdk/internal/util/Preconditions" "SIOOBE_FORMATTER" "Ljava/util/function/BiFunction;" A U H
theorem EV.call {E : EE} {A0 A1 : Nat → Prop} {s U : State} {H : Heap} {locs : List Loc} (h : EV E A0 s s.heap) (hS : va_S A0 s.heap H locs) (hA : ∀ q, A1 q → A0 q) (hW : s.WarmedH U.vm) (hU : U.heap = H) : EV E A1 U U.heap := by
  obtain ⟨h1, h2, h3, h4, h5, h6, h7, h8⟩ := h
  have hq : ∀ a : Nat, a < s.heap.size → ¬ A0 a → U.heap[a]? = s.heap[a]? := fun a ha hn => by rw [hU]; exact hS.2.1 a ha hn
  refine ⟨va_K.moved hW.alike h1, fun q hq => (h2 q hq).warmF hW, fun q hq => (h3 q hq).warmM hW, fun C hC => (h4 C hC).moved hW.alike, fun i q hi => (h5 i q hi).warm hW, fun i hi => ?_, ((h7.kept hq).moved hW.alike).narrow hA, ((h8.kept hq).moved hW.alike).narrow hA⟩
  obtain ⟨a, b, c, d⟩ := h6 i hi
  exact ⟨((va_O.moved hW.alike a).kept hq).narrow hA, ((va_OF.moved hW.alike b).kept hq).narrow hA, ((va_OF.moved hW.alike c).kept hq).narrow hA, ((va_T.moved hW.alike d).kept hq).narrow hA⟩
/-! WS: the machine at pc, with these locals, this stack and this pool, comes to its end. One row an instruction. -/
abbrev CX : Type := Program × Launch × Env × Room × State × MethodId × Array Value × List Frame × Method × Code × EE × HS × (Nat → Prop) × (State → Prop)
def xp (X : CX) : Program := X.1
def xl (X : CX) : Launch := X.2.1
def xe (X : CX) : Env := X.2.2.1
def xR (X : CX) : Room := X.2.2.2.1
def xs (X : CX) : State := X.2.2.2.2.1
def xm (X : CX) : MethodId := X.2.2.2.2.2.1
def xa (X : CX) : Array Value := X.2.2.2.2.2.2.1
def xb (X : CX) : List Frame := X.2.2.2.2.2.2.2.1
def xh (X : CX) : Method := X.2.2.2.2.2.2.2.2.1
def xc (X : CX) : Code := X.2.2.2.2.2.2.2.2.2.1
def xE (X : CX) : EE := X.2.2.2.2.2.2.2.2.2.2.1
def x0 (X : CX) : HS := X.2.2.2.2.2.2.2.2.2.2.2.1
def xA (X : CX) : Nat → Prop := X.2.2.2.2.2.2.2.2.2.2.2.2.1
def xQ (X : CX) : State → Prop := X.2.2.2.2.2.2.2.2.2.2.2.2.2
def Cx (X : CX) (cc : ByteArray) (own : String) (nL : Nat) (rm : Room) : Prop := (xp X).tables.exec = Jvm.exec ∧ (xc X).code = cc ∧ (xc X).maxLocals = nL ∧ (xs X).vm.findClass own = some (xm X).cls ∧ (∀ w ∈ G, w.before (xa X) (xs X) = true) ∧ EV (xE X) (xA X) (xs X) (xs X).heap ∧ (∀ q : Nat, (xs X).heap.size ≤ q → xA X q) ∧ xR X = rm
def WS (X : CX) (nL k n pc : Nat) (lv : List (Nat × Value)) (st : List Value) (S : HS) : Prop := ∀ (H : Heap) (locs : List Loc) (ls : Array Slot), va_P (eD (xE X)) vwCl (pw (ey (xE X)) S) H → va_D (xA X) (pw (ey (xE X)) S) → va_S (xA X) (xs X).heap H locs → Gr (x0 X) S → lv_has ls nL lv → W (xp X) (xl X) (xe X) (xR X) (xs X) (xm X) (xa X) (xb X) (xh X) (xc X) H locs k n (xQ X) (F0 (xm X) pc ls st)
section Rows
variable {X : CX} {cc : ByteArray} {own : String} {nL k n pc : Nat} {lv lv' : List (Nat × Value)} {st : List Value} {S : HS} {rm : Room}
theorem r_sub (ks : List Nat) (hl : lv_pick lv ks = lv') (h : WS X nL k n pc lv' st S) : WS X nL k n pc lv st S := fun H locs ls hP hD hS hG hv => h H locs ls hP hD hS hG (lv_sub hv ks hl)
theorem r_wide {k' n' : Nat} (h1 : k ≤ k') (h2 : n ≤ n') (h : WS X nL k' n' pc lv st S) : WS X nL k n pc lv st S := fun H locs ls hP hD hS hG hv => W.widen h1 h2 (h H locs ls hP hD hS hG hv)
theorem r_topi {e : Int32} (h : ∀ x, x = e → WS X nL k n pc lv (.int x :: st) S) : WS X nL k n pc lv (.int e :: st) S := h e rfl
theorem r_topl {e : Int64} (h : ∀ x, x = e → WS X nL k n pc lv (.long x :: st) S) : WS X nL k n pc lv (.long e :: st) S := h e rfl
theorem r_heap (h : ∀ T, T = S → WS X nL k n pc lv st T) : WS X nL k n pc lv st S := h S rfl
theorem r_iconst (C : Cx X cc own nL rm) {z : Int} {v : Int32} (hd : decode cc pc = .ok (.iconst z, 1)) (hz : Int32.ofInt z = v) (h : WS X nL k n (pc + 1) lv (.int v :: st) S) : WS X nL k n pc lv st S := fun H locs ls hP hD hS hG hv => lv_iconst C.1 C.2.1 hd hz (h H locs ls hP hD hS hG hv)
theorem r_bipush (C : Cx X cc own nL rm) {z : Int} {v : Int32} (hd : decode cc pc = .ok (.bipush z, 2)) (hz : (Int8.ofInt z).toInt32 = v) (h : WS X nL k n (pc + 2) lv (.int v :: st) S) : WS X nL k n pc lv st S := fun H locs ls hP hD hS hG hv => lv_bipush C.1 C.2.1 hd hz (h H locs ls hP hD hS hG hv)
theorem r_sipush (C : Cx X cc own nL rm) {z : Int} {v : Int32} (hd : decode cc pc = .ok (.sipush z, 3)) (hz : (Int16.ofInt z).toInt32 = v) (h : WS X nL k n (pc + 3) lv (.int v :: st) S) : WS X nL k n pc lv st S := fun H locs ls hP hD hS hG hv => lv_sipush C.1 C.2.1 hd hz (h H locs ls hP hD hS hG hv)
theorem r_lconst (C : Cx X cc own nL rm) {z : Fin 2} {v : Int64} (hd : decode cc pc = .ok (.lconst z, 1)) (hz : Int64.ofNat (z : Nat) = v) (h : WS X nL k n (pc + 1) lv (.long v :: st) S) : WS X nL k n pc lv st S := fun H locs ls hP hD hS hG hv => lv_lconst C.1 C.2.1 hd hz (h H locs ls hP hD hS hG hv)
theorem r_ldc (C : Cx X cc own nL rm) {i : Nat} {v : Int32} (hd : decode cc pc = .ok (.ldc i, 2)) (hw : Cond.constant own i v ∈ G) (h : WS X nL k n (pc + 2) lv (.int v :: st) S) : WS X nL k n pc lv st S := fun H locs ls hP hD hS hG hv => lv_ldc C.1 C.2.1 C.2.2.2.1 (C.2.2.2.2.1 _ hw) hd (h H locs ls hP hD hS hG hv)
theorem r_ldcw (C : Cx X cc own nL rm) {i : Nat} {v : Int32} (hd : decode cc pc = .ok (.ldc_w i, 3)) (hw : Cond.constant own i v ∈ G) (h : WS X nL k n (pc + 3) lv (.int v :: st) S) : WS X nL k n pc lv st S := fun H locs ls hP hD hS hG hv => lv_ldcw C.1 C.2.1 C.2.2.2.1 (C.2.2.2.2.1 _ hw) hd (h H locs ls hP hD hS hG hv)
theorem r_ldc2 (C : Cx X cc own nL rm) {i : Nat} {v : Int64} (hd : decode cc pc = .ok (.ldc2_w i, 3)) (hw : Cond.constantLong own i v ∈ G) (h : WS X nL k n (pc + 3) lv (.long v :: st) S) : WS X nL k n pc lv st S := fun H locs ls hP hD hS hG hv => lv_ldc2 C.1 C.2.1 C.2.2.2.1 (C.2.2.2.2.1 _ hw) hd (h H locs ls hP hD hS hG hv)
theorem r_iload_n (C : Cx X cc own nL rm) {q : Fin 4} {v : Int32} (hd : decode cc pc = .ok (.iload_n q, 1)) (z : Nat) (hz : lv[z]? = some ((q : Nat), .int v)) (h : WS X nL k n (pc + 1) lv (.int v :: st) S) : WS X nL k n pc lv st S := fun H locs ls hP hD hS hG hv => lv_iload_n C.1 C.2.1 hd rfl (lv_at hv z hz) (h H locs ls hP hD hS hG hv)
theorem r_iload (C : Cx X cc own nL rm) {i : Nat} {v : Int32} (hd : decode cc pc = .ok (.iload i, 2)) (z : Nat) (hz : lv[z]? = some (i, .int v)) (h : WS X nL k n (pc + 2) lv (.int v :: st) S) : WS X nL k n pc lv st S := fun H locs ls hP hD hS hG hv => lv_iload C.1 C.2.1 hd (lv_at hv z hz) (h H locs ls hP hD hS hG hv)
theorem r_istore_n (C : Cx X cc own nL rm) {q : Fin 4} {i : Nat} {v : Int32} (hd : decode cc pc = .ok (.istore_n q, 1)) (hi : (q : Nat) = i) (hn : i < nL) (hl : (i, Value.int v) :: lv.filter (fun q => !(q.1 == i) && !(q.1 + 1 == i && q.2.category == 2)) = lv') (h : WS X nL k n (pc + 1) lv' st S) : WS X nL k n pc lv (.int v :: st) S := fun H locs ls hP hD hS hG hv => lv_istore_n C.1 C.2.1 hd hi hv hn hl (fun ls hv => h H locs ls hP hD hS hG hv)
theorem r_istore (C : Cx X cc own nL rm) {i : Nat} {v : Int32} (hd : decode cc pc = .ok (.istore i, 2)) (hn : i < nL) (hl : (i, Value.int v) :: lv.filter (fun q => !(q.1 == i) && !(q.1 + 1 == i && q.2.category == 2)) = lv') (h : WS X nL k n (pc + 2) lv' st S) : WS X nL k n pc lv (.int v :: st) S := fun H locs ls hP hD hS hG hv => lv_istore C.1 C.2.1 hd hv hn hl (fun ls hv => h H locs ls hP hD hS hG hv)
theorem r_lload_n (C : Cx X cc own nL rm) {q : Fin 4} {v : Int64} (hd : decode cc pc = .ok (.lload_n q, 1)) (z : Nat) (hz : lv[z]? = some ((q : Nat), .long v)) (h : WS X nL k n (pc + 1) lv (.long v :: st) S) : WS X nL k n pc lv st S := fun H locs ls hP hD hS hG hv => lv_lload_n C.1 C.2.1 hd rfl (lv_at hv z hz) (h H locs ls hP hD hS hG hv)
theorem r_lload (C : Cx X cc own nL rm) {i : Nat} {v : Int64} (hd : decode cc pc = .ok (.lload i, 2)) (z : Nat) (hz : lv[z]? = some (i, .long v)) (h : WS X nL k n (pc + 2) lv (.long v :: st) S) : WS X nL k n pc lv st S := fun H locs ls hP hD hS hG hv => lv_lload C.1 C.2.1 hd (lv_at hv z hz) (h H locs ls hP hD hS hG hv)
theorem r_lstore_n (C : Cx X cc own nL rm) {q : Fin 4} {i : Nat} {v : Int64} (hd : decode cc pc = .ok (.lstore_n q, 1)) (hi : (q : Nat) = i) (hn : i + 1 < nL) (hl : (i, Value.long v) :: lv.filter (fun q => !(q.1 == i) && (!(q.1 == i + 1) && !(q.1 + 1 == i && q.2.category == 2))) = lv') (h : WS X nL k n (pc + 1) lv' st S) : WS X nL k n pc lv (.long v :: st) S := fun H locs ls hP hD hS hG hv => lv_lstore_n C.1 C.2.1 hd hi hv hn hl (fun ls hv => h H locs ls hP hD hS hG hv)
theorem r_lstore (C : Cx X cc own nL rm) {i : Nat} {v : Int64} (hd : decode cc pc = .ok (.lstore i, 2)) (hn : i + 1 < nL) (hl : (i, Value.long v) :: lv.filter (fun q => !(q.1 == i) && (!(q.1 == i + 1) && !(q.1 + 1 == i && q.2.category == 2))) = lv') (h : WS X nL k n (pc + 2) lv' st S) : WS X nL k n pc lv (.long v :: st) S := fun H locs ls hP hD hS hG hv => lv_lstore C.1 C.2.1 hd hv hn hl (fun ls hv => h H locs ls hP hD hS hG hv)
theorem r_aload_n (C : Cx X cc own nL rm) {q : Fin 4} {v : Nat} (hd : decode cc pc = .ok (.aload_n q, 1)) (z : Nat) (hz : lv[z]? = some ((q : Nat), .ref v)) (h : WS X nL k n (pc + 1) lv (.ref v :: st) S) : WS X nL k n pc lv st S := fun H locs ls hP hD hS hG hv => lv_aload_n C.1 C.2.1 hd rfl (lv_at hv z hz) (h H locs ls hP hD hS hG hv)
theorem r_aload (C : Cx X cc own nL rm) {i : Nat} {v : Nat} (hd : decode cc pc = .ok (.aload i, 2)) (z : Nat) (hz : lv[z]? = some (i, .ref v)) (h : WS X nL k n (pc + 2) lv (.ref v :: st) S) : WS X nL k n pc lv st S := fun H locs ls hP hD hS hG hv => lv_aload C.1 C.2.1 hd (lv_at hv z hz) (h H locs ls hP hD hS hG hv)
theorem r_astore_n (C : Cx X cc own nL rm) {q : Fin 4} {i : Nat} {v : Nat} (hd : decode cc pc = .ok (.astore_n q, 1)) (hi : (q : Nat) = i) (hn : i < nL) (hl : (i, Value.ref v) :: lv.filter (fun q => !(q.1 == i) && !(q.1 + 1 == i && q.2.category == 2)) = lv') (h : WS X nL k n (pc + 1) lv' st S) : WS X nL k n pc lv (.ref v :: st) S := fun H locs ls hP hD hS hG hv => lv_astore_n C.1 C.2.1 hd hi hv hn hl (fun ls hv => h H locs ls hP hD hS hG hv)
theorem r_astore (C : Cx X cc own nL rm) {i : Nat} {v : Nat} (hd : decode cc pc = .ok (.astore i, 2)) (hn : i < nL) (hl : (i, Value.ref v) :: lv.filter (fun q => !(q.1 == i) && !(q.1 + 1 == i && q.2.category == 2)) = lv') (h : WS X nL k n (pc + 2) lv' st S) : WS X nL k n pc lv (.ref v :: st) S := fun H locs ls hP hD hS hG hv => lv_astore C.1 C.2.1 hd hv hn hl (fun ls hv => h H locs ls hP hD hS hG hv)
theorem r_iinc (C : Cx X cc own nL rm) {i : Nat} {z : Int} {x v : Int32} (hd : decode cc pc = .ok (.iinc i z, 3)) (g : Nat) (hg : lv[g]? = some (i, .int x)) (hx : x + Int32.ofInt z = v) (hn : i < nL) (hl : (i, Value.int v) :: lv.filter (fun q => !(q.1 == i) && !(q.1 + 1 == i && q.2.category == 2)) = lv') (h : WS X nL k n (pc + 3) lv' st S) : WS X nL k n pc lv st S := fun H locs ls hP hD hS hG hv => lv_iinc C.1 C.2.1 hd hv hg hx hn hl (fun ls hv => h H locs ls hP hD hS hG hv)
theorem r_iadd (C : Cx X cc own nL rm) {a b : Int32} (hd : decode cc pc = .ok (.iadd, 1))  (h : WS X nL k n (pc + 1) lv (.int (a + b) :: st) S) : WS X nL k n pc lv (.int b :: .int a :: st) S := fun H locs ls hP hD hS hG hv => lv_iadd C.1 C.2.1 hd (h H locs ls hP hD hS hG hv)
theorem r_isub (C : Cx X cc own nL rm) {a b : Int32} (hd : decode cc pc = .ok (.isub, 1))  (h : WS X nL k n (pc + 1) lv (.int (a - b) :: st) S) : WS X nL k n pc lv (.int b :: .int a :: st) S := fun H locs ls hP hD hS hG hv => lv_isub C.1 C.2.1 hd (h H locs ls hP hD hS hG hv)
theorem r_imul (C : Cx X cc own nL rm) {a b : Int32} (hd : decode cc pc = .ok (.imul, 1))  (h : WS X nL k n (pc + 1) lv (.int (a * b) :: st) S) : WS X nL k n pc lv (.int b :: .int a :: st) S := fun H locs ls hP hD hS hG hv => lv_imul C.1 C.2.1 hd (h H locs ls hP hD hS hG hv)
theorem r_iand (C : Cx X cc own nL rm) {a b : Int32} (hd : decode cc pc = .ok (.iand, 1))  (h : WS X nL k n (pc + 1) lv (.int (a &&& b) :: st) S) : WS X nL k n pc lv (.int b :: .int a :: st) S := fun H locs ls hP hD hS hG hv => lv_iand C.1 C.2.1 hd (h H locs ls hP hD hS hG hv)
theorem r_ior (C : Cx X cc own nL rm) {a b : Int32} (hd : decode cc pc = .ok (.ior, 1))  (h : WS X nL k n (pc + 1) lv (.int (a ||| b) :: st) S) : WS X nL k n pc lv (.int b :: .int a :: st) S := fun H locs ls hP hD hS hG hv => lv_ior C.1 C.2.1 hd (h H locs ls hP hD hS hG hv)
theorem r_ladd (C : Cx X cc own nL rm) {a b : Int64} (hd : decode cc pc = .ok (.ladd, 1))  (h : WS X nL k n (pc + 1) lv (.long (a + b) :: st) S) : WS X nL k n pc lv (.long b :: .long a :: st) S := fun H locs ls hP hD hS hG hv => lv_ladd C.1 C.2.1 hd (h H locs ls hP hD hS hG hv)
theorem r_lsub (C : Cx X cc own nL rm) {a b : Int64} (hd : decode cc pc = .ok (.lsub, 1))  (h : WS X nL k n (pc + 1) lv (.long (a - b) :: st) S) : WS X nL k n pc lv (.long b :: .long a :: st) S := fun H locs ls hP hD hS hG hv => lv_lsub C.1 C.2.1 hd (h H locs ls hP hD hS hG hv)
theorem r_lmul (C : Cx X cc own nL rm) {a b : Int64} (hd : decode cc pc = .ok (.lmul, 1))  (h : WS X nL k n (pc + 1) lv (.long (a * b) :: st) S) : WS X nL k n pc lv (.long b :: .long a :: st) S := fun H locs ls hP hD hS hG hv => lv_lmul C.1 C.2.1 hd (h H locs ls hP hD hS hG hv)
theorem r_idiv (C : Cx X cc own nL rm) {a b : Int32} (hd : decode cc pc = .ok (.idiv, 1)) (hb : ¬ b = 0) (h : WS X nL k n (pc + 1) lv (.int (a / b) :: st) S) : WS X nL k n pc lv (.int b :: .int a :: st) S := fun H locs ls hP hD hS hG hv => lv_idiv C.1 C.2.1 hd hb (h H locs ls hP hD hS hG hv)
theorem r_irem (C : Cx X cc own nL rm) {a b : Int32} (hd : decode cc pc = .ok (.irem, 1)) (hb : ¬ b = 0) (h : WS X nL k n (pc + 1) lv (.int (a - a / b * b) :: st) S) : WS X nL k n pc lv (.int b :: .int a :: st) S := fun H locs ls hP hD hS hG hv => lv_irem C.1 C.2.1 hd hb (h H locs ls hP hD hS hG hv)
theorem r_ldiv (C : Cx X cc own nL rm) {a b : Int64} (hd : decode cc pc = .ok (.ldiv, 1)) (hb : ¬ b = 0) (h : WS X nL k n (pc + 1) lv (.long (a / b) :: st) S) : WS X nL k n pc lv (.long b :: .long a :: st) S := fun H locs ls hP hD hS hG hv => lv_ldiv C.1 C.2.1 hd hb (h H locs ls hP hD hS hG hv)
theorem r_lrem (C : Cx X cc own nL rm) {a b : Int64} (hd : decode cc pc = .ok (.lrem, 1)) (hb : ¬ b = 0) (h : WS X nL k n (pc + 1) lv (.long (a - a / b * b) :: st) S) : WS X nL k n pc lv (.long b :: .long a :: st) S := fun H locs ls hP hD hS hG hv => lv_lrem C.1 C.2.1 hd hb (h H locs ls hP hD hS hG hv)
theorem r_ineg (C : Cx X cc own nL rm) {a : Int32} (hd : decode cc pc = .ok (.ineg, 1))  (h : WS X nL k n (pc + 1) lv (.int (-a) :: st) S) : WS X nL k n pc lv (.int a :: st) S := fun H locs ls hP hD hS hG hv => lv_ineg C.1 C.2.1 hd (h H locs ls hP hD hS hG hv)
theorem r_ishl (C : Cx X cc own nL rm) {a b : Int32} (hd : decode cc pc = .ok (.ishl, 1))  (h : WS X nL k n (pc + 1) lv (.int (a <<< (b &&& 31)) :: st) S) : WS X nL k n pc lv (.int b :: .int a :: st) S := fun H locs ls hP hD hS hG hv => lv_ishl C.1 C.2.1 hd (h H locs ls hP hD hS hG hv)
theorem r_ishr (C : Cx X cc own nL rm) {a b : Int32} (hd : decode cc pc = .ok (.ishr, 1))  (h : WS X nL k n (pc + 1) lv (.int (a >>> (b &&& 31)) :: st) S) : WS X nL k n pc lv (.int b :: .int a :: st) S := fun H locs ls hP hD hS hG hv => lv_ishr C.1 C.2.1 hd (h H locs ls hP hD hS hG hv)
theorem r_iushr (C : Cx X cc own nL rm) {a b : Int32} (hd : decode cc pc = .ok (.iushr, 1))  (h : WS X nL k n (pc + 1) lv (.int (a.toUInt32 >>> (b.toUInt32 &&& Int32.toUInt32 31)).toInt32 :: st) S) : WS X nL k n pc lv (.int b :: .int a :: st) S := fun H locs ls hP hD hS hG hv => lv_iushr C.1 C.2.1 hd rfl (h H locs ls hP hD hS hG hv)
theorem r_i2l (C : Cx X cc own nL rm) {a : Int32} (hd : decode cc pc = .ok (.i2l, 1))  (h : WS X nL k n (pc + 1) lv (.long a.toInt64 :: st) S) : WS X nL k n pc lv (.int a :: st) S := fun H locs ls hP hD hS hG hv => lv_i2l C.1 C.2.1 hd rfl (h H locs ls hP hD hS hG hv)
theorem r_l2i (C : Cx X cc own nL rm) {a : Int64} (hd : decode cc pc = .ok (.l2i, 1))  (h : WS X nL k n (pc + 1) lv (.int a.toInt32 :: st) S) : WS X nL k n pc lv (.long a :: st) S := fun H locs ls hP hD hS hG hv => lv_l2i C.1 C.2.1 hd rfl (h H locs ls hP hD hS hG hv)
theorem r_i2b (C : Cx X cc own nL rm) {a : Int32} (hd : decode cc pc = .ok (.i2b, 1))  (h : WS X nL k n (pc + 1) lv (.int a.toInt8.toInt32 :: st) S) : WS X nL k n pc lv (.int a :: st) S := fun H locs ls hP hD hS hG hv => lv_i2b C.1 C.2.1 hd rfl (h H locs ls hP hD hS hG hv)
theorem r_lcmp (C : Cx X cc own nL rm) {a b : Int64} (hd : decode cc pc = .ok (.lcmp, 1))  (h : WS X nL k n (pc + 1) lv (.int (lg_cmp a b) :: st) S) : WS X nL k n pc lv (.long b :: .long a :: st) S := fun H locs ls hP hD hS hG hv => W.lcmp C.1 C.2.1 hd (h H locs ls hP hD hS hG hv)
theorem r_dup (C : Cx X cc own nL rm) {v : Value} (hd : decode cc pc = .ok (.dup, 1)) (hc : v.category = 1) (h : WS X nL k n (pc + 1) lv (v :: v :: st) S) : WS X nL k n pc lv (v :: st) S := fun H locs ls hP hD hS hG hv => lv_dup C.1 C.2.1 hd hc (h H locs ls hP hD hS hG hv)
theorem r_pop (C : Cx X cc own nL rm) {v : Value} (hd : decode cc pc = .ok (.pop, 1)) (hc : v.category = 1) (h : WS X nL k n (pc + 1) lv st S) : WS X nL k n pc lv (v :: st) S := fun H locs ls hP hD hS hG hv => lv_pop C.1 C.2.1 hd hc (h H locs ls hP hD hS hG hv)
theorem r_pop2 (C : Cx X cc own nL rm) {v : Value} (hd : decode cc pc = .ok (.pop2, 1)) (hc : v.category = 2) (h : WS X nL k n (pc + 1) lv st S) : WS X nL k n pc lv (v :: st) S := fun H locs ls hP hD hS hG hv => lv_pop2_2 C.1 C.2.1 hd hc (h H locs ls hP hD hS hG hv)
theorem r_dup2 (C : Cx X cc own nL rm) {v w : Value} (hd : decode cc pc = .ok (.dup2, 1)) (hc : v.category = 1) (hw : w.category = 1) (h : WS X nL k n (pc + 1) lv (v :: w :: v :: w :: st) S) : WS X nL k n pc lv (v :: w :: st) S := fun H locs ls hP hD hS hG hv => lv_dup2_11 C.1 C.2.1 hd hc hw (h H locs ls hP hD hS hG hv)
theorem r_if_eq (C : Cx X cc own nL rm) {x : Int32} {off : Int} {tgt : Nat} (hd : decode cc pc = .ok (.ifCond .eq off, 3)) (ht : (pc : Int) + off = (tgt : Int)) (h : x = 0 → WS X nL k n tgt lv st S) (h2 : ¬ x = 0 → WS X nL k n (pc + 3) lv st S) : WS X nL k n pc lv (.int x :: st) S := fun H locs ls hP hD hS hG hv => lv_if_eq C.1 C.2.1 hd ht (fun q => h q H locs ls hP hD hS hG hv) (fun q => h2 q H locs ls hP hD hS hG hv)
theorem r_icmp_eq (C : Cx X cc own nL rm) {x y : Int32} {off : Int} {tgt : Nat} (hd : decode cc pc = .ok (.if_icmp .eq off, 3)) (ht : (pc : Int) + off = (tgt : Int)) (h : x = y → WS X nL k n tgt lv st S) (h2 : ¬ x = y → WS X nL k n (pc + 3) lv st S) : WS X nL k n pc lv (.int y :: .int x :: st) S := fun H locs ls hP hD hS hG hv => lv_icmp_eq C.1 C.2.1 hd ht (fun q => h q H locs ls hP hD hS hG hv) (fun q => h2 q H locs ls hP hD hS hG hv)
theorem r_if_ne (C : Cx X cc own nL rm) {x : Int32} {off : Int} {tgt : Nat} (hd : decode cc pc = .ok (.ifCond .ne off, 3)) (ht : (pc : Int) + off = (tgt : Int)) (h : ¬ x = 0 → WS X nL k n tgt lv st S) (h2 : x = 0 → WS X nL k n (pc + 3) lv st S) : WS X nL k n pc lv (.int x :: st) S := fun H locs ls hP hD hS hG hv => lv_if_ne C.1 C.2.1 hd ht (fun q => h q H locs ls hP hD hS hG hv) (fun q => h2 q H locs ls hP hD hS hG hv)
theorem r_icmp_ne (C : Cx X cc own nL rm) {x y : Int32} {off : Int} {tgt : Nat} (hd : decode cc pc = .ok (.if_icmp .ne off, 3)) (ht : (pc : Int) + off = (tgt : Int)) (h : ¬ x = y → WS X nL k n tgt lv st S) (h2 : x = y → WS X nL k n (pc + 3) lv st S) : WS X nL k n pc lv (.int y :: .int x :: st) S := fun H locs ls hP hD hS hG hv => lv_icmp_ne C.1 C.2.1 hd ht (fun q => h q H locs ls hP hD hS hG hv) (fun q => h2 q H locs ls hP hD hS hG hv)
theorem r_if_lt (C : Cx X cc own nL rm) {x : Int32} {off : Int} {tgt : Nat} (hd : decode cc pc = .ok (.ifCond .lt off, 3)) (ht : (pc : Int) + off = (tgt : Int)) (h : x < 0 → WS X nL k n tgt lv st S) (h2 : ¬ x < 0 → WS X nL k n (pc + 3) lv st S) : WS X nL k n pc lv (.int x :: st) S := fun H locs ls hP hD hS hG hv => lv_if_lt C.1 C.2.1 hd ht (fun q => h q H locs ls hP hD hS hG hv) (fun q => h2 q H locs ls hP hD hS hG hv)
theorem r_icmp_lt (C : Cx X cc own nL rm) {x y : Int32} {off : Int} {tgt : Nat} (hd : decode cc pc = .ok (.if_icmp .lt off, 3)) (ht : (pc : Int) + off = (tgt : Int)) (h : x < y → WS X nL k n tgt lv st S) (h2 : ¬ x < y → WS X nL k n (pc + 3) lv st S) : WS X nL k n pc lv (.int y :: .int x :: st) S := fun H locs ls hP hD hS hG hv => lv_icmp_lt C.1 C.2.1 hd ht (fun q => h q H locs ls hP hD hS hG hv) (fun q => h2 q H locs ls hP hD hS hG hv)
theorem r_if_ge (C : Cx X cc own nL rm) {x : Int32} {off : Int} {tgt : Nat} (hd : decode cc pc = .ok (.ifCond .ge off, 3)) (ht : (pc : Int) + off = (tgt : Int)) (h : 0 ≤ x → WS X nL k n tgt lv st S) (h2 : ¬ 0 ≤ x → WS X nL k n (pc + 3) lv st S) : WS X nL k n pc lv (.int x :: st) S := fun H locs ls hP hD hS hG hv => lv_if_ge C.1 C.2.1 hd ht (fun q => h q H locs ls hP hD hS hG hv) (fun q => h2 q H locs ls hP hD hS hG hv)
theorem r_icmp_ge (C : Cx X cc own nL rm) {x y : Int32} {off : Int} {tgt : Nat} (hd : decode cc pc = .ok (.if_icmp .ge off, 3)) (ht : (pc : Int) + off = (tgt : Int)) (h : y ≤ x → WS X nL k n tgt lv st S) (h2 : ¬ y ≤ x → WS X nL k n (pc + 3) lv st S) : WS X nL k n pc lv (.int y :: .int x :: st) S := fun H locs ls hP hD hS hG hv => lv_icmp_ge C.1 C.2.1 hd ht (fun q => h q H locs ls hP hD hS hG hv) (fun q => h2 q H locs ls hP hD hS hG hv)
theorem r_if_gt (C : Cx X cc own nL rm) {x : Int32} {off : Int} {tgt : Nat} (hd : decode cc pc = .ok (.ifCond .gt off, 3)) (ht : (pc : Int) + off = (tgt : Int)) (h : 0 < x → WS X nL k n tgt lv st S) (h2 : ¬ 0 < x → WS X nL k n (pc + 3) lv st S) : WS X nL k n pc lv (.int x :: st) S := fun H locs ls hP hD hS hG hv => lv_if_gt C.1 C.2.1 hd ht (fun q => h q H locs ls hP hD hS hG hv) (fun q => h2 q H locs ls hP hD hS hG hv)
theorem r_icmp_gt (C : Cx X cc own nL rm) {x y : Int32} {off : Int} {tgt : Nat} (hd : decode cc pc = .ok (.if_icmp .gt off, 3)) (ht : (pc : Int) + off = (tgt : Int)) (h : y < x → WS X nL k n tgt lv st S) (h2 : ¬ y < x → WS X nL k n (pc + 3) lv st S) : WS X nL k n pc lv (.int y :: .int x :: st) S := fun H locs ls hP hD hS hG hv => lv_icmp_gt C.1 C.2.1 hd ht (fun q => h q H locs ls hP hD hS hG hv) (fun q => h2 q H locs ls hP hD hS hG hv)
theorem r_if_le (C : Cx X cc own nL rm) {x : Int32} {off : Int} {tgt : Nat} (hd : decode cc pc = .ok (.ifCond .le off, 3)) (ht : (pc : Int) + off = (tgt : Int)) (h : x ≤ 0 → WS X nL k n tgt lv st S) (h2 : ¬ x ≤ 0 → WS X nL k n (pc + 3) lv st S) : WS X nL k n pc lv (.int x :: st) S := fun H locs ls hP hD hS hG hv => lv_if_le C.1 C.2.1 hd ht (fun q => h q H locs ls hP hD hS hG hv) (fun q => h2 q H locs ls hP hD hS hG hv)
theorem r_icmp_le (C : Cx X cc own nL rm) {x y : Int32} {off : Int} {tgt : Nat} (hd : decode cc pc = .ok (.if_icmp .le off, 3)) (ht : (pc : Int) + off = (tgt : Int)) (h : x ≤ y → WS X nL k n tgt lv st S) (h2 : ¬ x ≤ y → WS X nL k n (pc + 3) lv st S) : WS X nL k n pc lv (.int y :: .int x :: st) S := fun H locs ls hP hD hS hG hv => lv_icmp_le C.1 C.2.1 hd ht (fun q => h q H locs ls hP hD hS hG hv) (fun q => h2 q H locs ls hP hD hS hG hv)
theorem r_goto (C : Cx X cc own nL rm) {off : Int} {tgt : Nat} (hd : decode cc pc = .ok (.goto off, 3)) (ht : (pc : Int) + off = (tgt : Int)) (h : WS X nL k n tgt lv st S) : WS X nL k n pc lv st S := fun H locs ls hP hD hS hG hv => lv_goto C.1 C.2.1 hd ht (h H locs ls hP hD hS hG hv)
theorem r_tableOut (C : Cx X cc own nL rm) {dflt lo hi : Int} {offs : Array Int} {len : Nat} {x : Int32} {tgt : Nat} (hd : decode cc pc = .ok (.tableswitch dflt lo hi offs, len)) (hx : x.toInt < lo ∨ hi < x.toInt) (ht : (pc : Int) + dflt = (tgt : Int)) (h : WS X nL k n tgt lv st S) : WS X nL k n pc lv (.int x :: st) S := fun H locs ls hP hD hS hG hv => lv_tableOut C.1 C.2.1 hd hx ht (h H locs ls hP hD hS hG hv)
theorem r_tableIn (C : Cx X cc own nL rm) {dflt lo hi : Int} {offs : Array Int} {len : Nat} {x : Int32} {off : Int} {tgt : Nat} (hd : decode cc pc = .ok (.tableswitch dflt lo hi offs, len)) (h1 : ¬ x.toInt < lo) (h2 : ¬ hi < x.toInt) (ho : offs[(x.toInt - lo).toNat]? = some off) (ht : (pc : Int) + off = (tgt : Int)) (h : WS X nL k n tgt lv st S) : WS X nL k n pc lv (.int x :: st) S := fun H locs ls hP hD hS hG hv => lv_tableIn C.1 C.2.1 hd h1 h2 ho ht (h H locs ls hP hD hS hG hv)
theorem r_lookup (C : Cx X cc own nL rm) {dflt : Int} {ps : Array (Int × Int)} {len : Nat} {x : Int32} {off : Int} {tgt : Nat} (hd : decode cc pc = .ok (.lookupswitch dflt ps, len)) (hp : (ps.toList.zip (ps.toList.drop 1)).all (fun (a, next) => a.1 < next.1) = true) (ho : Op.lookupswitch.offset ps.toList dflt x.toInt = off) (ht : (pc : Int) + off = (tgt : Int)) (h : WS X nL k n tgt lv st S) : WS X nL k n pc lv (.int x :: st) S := fun H locs ls hP hD hS hG hv => lv_lookup C.1 C.2.1 hd hp ho ht (h H locs ls hP hD hS hG hv)
/-- a field's link: own class, index, class, place, type -/
def FL (own : String) (i ci j t : Nat) : Prop := ∃ q : vw_C, vwCl[ci]? = some q ∧ j < q.2.2 ∧ ci < 12 ∧ Cond.fieldLink own i (q.2.1 j).1 (q.2.1 j).2.1 (q.2.1 j).2.2.1 ∈ G ∧ (kt.getD ci [])[j]? = some t
/-- the same, of a nest mate's -/
def FN (own : String) (i ci j t : Nat) : Prop := ∃ (q : vw_C) (host : String), vwCl[ci]? = some q ∧ j < q.2.2 ∧ ci < 12 ∧ (own, i, (q.2.1 j).1, (q.2.1 j).2.1, (q.2.1 j).2.2.1, host) ∈ NF ∧ (kt.getD ci [])[j]? = some t
/-- what may be written there -/
def okv (t : Nat) (ty : FieldType) : Prop := if t = 0 then (∀ x : Int32, narrow ty (.int x) = .int x ∧ fits ty (.int x) = true) else if t = 1 then (∀ x : Int64, narrow ty (.long x) = .long x ∧ fits ty (.long x) = true) else ∀ a : Nat, narrow ty (.ref a) = .ref a ∧ fits ty (.ref a) = true
def FP (own : String) (i ci j t : Nat) (fin : Bool) : Prop := FL own i ci j t ∧ ∃ (q : vw_C) (ty : FieldType), vwCl[ci]? = some q ∧ (q.2.1 j).2.2.2 = fin ∧ parseFieldDescriptor (q.2.1 j).2.2.1 = some ty ∧ okv t ty
def FPF (own : String) (i ci j t : Nat) : Prop := FP own i ci j t true ∧ ∃ q : vw_C, vwCl[ci]? = some q ∧ (q.2.1 j).1 = own
def FPN (own : String) (i ci j t : Nat) : Prop := FN own i ci j t ∧ ∃ (q : vw_C) (ty : FieldType), vwCl[ci]? = some q ∧ (q.2.1 j).2.2.2 = false ∧ parseFieldDescriptor (q.2.1 j).2.2.1 = some ty ∧ okv t ty
theorem fs_at {a ci j t : Nat} (ht : (kt.getD ci [])[j]? = some t) : (fsGo S a 0 (kt.getD ci []))[j]? = some (vOf S a t j) := by rw [fs_get, ht, Nat.zero_add]; rfl
theorem fs_lt {a ci j t : Nat} (ht : (kt.getD ci [])[j]? = some t) : j < (fsGo S a 0 (kt.getD ci [])).length := by rw [fs_len]; exact (List.getElem?_eq_some_iff.mp ht).1
theorem w_get (C : Cx X cc own nL rm) {i ci j t a : Nat} (hf : FL own i ci j t) (hd : decode cc pc = .ok (.getfield i, 3)) (ho : ob S a ci) (h : WS X nL k n (pc + 3) lv (vOf S a t j :: st) S) : WS X nL k n pc lv (.ref a :: st) S := fun H locs ls hP hD hS hG hv => by
  obtain ⟨q, hq, hj, h12, hw, ht⟩ := hf
  obtain ⟨k0, hk0⟩ := pw_get (cy := ey (xE X)) ho.1
  rw [cE_obj ho.2 h12] at hk0
  exact va_get (C := q.1) (T := q.2.1) (N := q.2.2) C.1 C.2.1 C.2.2.2.2.1 (CLs ci q hq).1 C.2.2.2.1 C.2.2.2.2.2.1.1 hP k0 hk0 hq j hj (C.2.2.2.2.1 _ hw) (fun _ z => z) (fs_at ht) hd (h H locs ls hP hD hS hG hv)
theorem r_geti (C : Cx X cc own nL rm) {i ci j a : Nat} (hf : FL own i ci j 0) (hd : decode cc pc = .ok (.getfield i, 3)) (ho : ob S a ci) (h : WS X nL k n (pc + 3) lv (.int (fI S a j) :: st) S) : WS X nL k n pc lv (.ref a :: st) S := w_get C hf hd ho h
theorem r_getl (C : Cx X cc own nL rm) {i ci j a : Nat} (hf : FL own i ci j 1) (hd : decode cc pc = .ok (.getfield i, 3)) (ho : ob S a ci) (h : WS X nL k n (pc + 3) lv (.long (fJ S a j) :: st) S) : WS X nL k n pc lv (.ref a :: st) S := w_get C hf hd ho h
theorem r_getr (C : Cx X cc own nL rm) {i ci j a b : Nat} (hf : FL own i ci j 2) (hd : decode cc pc = .ok (.getfield i, 3)) (ho : ob S a ci) (hb : fR S a j = some b) (h : WS X nL k n (pc + 3) lv (.ref b :: st) S) : WS X nL k n pc lv (.ref a :: st) S := w_get C hf hd ho (show WS X nL k n (pc + 3) lv (va_rf (fR S a j) :: st) S by rw [hb]; exact h)
theorem r_get0 (C : Cx X cc own nL rm) {i ci j a : Nat} (hf : FL own i ci j 2) (hd : decode cc pc = .ok (.getfield i, 3)) (ho : ob S a ci) (hb : fR S a j = none) (h : WS X nL k n (pc + 3) lv (.null :: st) S) : WS X nL k n pc lv (.ref a :: st) S := w_get C hf hd ho (show WS X nL k n (pc + 3) lv (va_rf (fR S a j) :: st) S by rw [hb]; exact h)
theorem w_getN (C : Cx X cc own nL rm) {i ci j t a : Nat} (hf : FN own i ci j t) (hd : decode cc pc = .ok (.getfield i, 3)) (ho : ob S a ci) (h : WS X nL k n (pc + 3) lv (vOf S a t j :: st) S) : WS X nL k n pc lv (.ref a :: st) S := fun H locs ls hP hD hS hG hv => by
  obtain ⟨q, host, hq, hj, h12, hw, ht⟩ := hf
  obtain ⟨k0, hk0⟩ := pw_get (cy := ey (xE X)) ho.1
  rw [cE_obj ho.2 h12] at hk0
  exact va_getN (C := q.1) (T := q.2.1) (N := q.2.2) C.1 C.2.1 C.2.2.2.2.1 (CLs ci q hq).1 C.2.2.2.1 C.2.2.2.2.2.1.1 hP k0 hk0 hq j hj (C.2.2.2.2.2.1.2.1 _ hw) (fun _ z => z) (fs_at ht) hd (h H locs ls hP hD hS hG hv)
theorem r_getNi (C : Cx X cc own nL rm) {i ci j a : Nat} (hf : FN own i ci j 0) (hd : decode cc pc = .ok (.getfield i, 3)) (ho : ob S a ci) (h : WS X nL k n (pc + 3) lv (.int (fI S a j) :: st) S) : WS X nL k n pc lv (.ref a :: st) S := w_getN C hf hd ho h
theorem r_getNr (C : Cx X cc own nL rm) {i ci j a b : Nat} (hf : FN own i ci j 2) (hd : decode cc pc = .ok (.getfield i, 3)) (ho : ob S a ci) (hb : fR S a j = some b) (h : WS X nL k n (pc + 3) lv (.ref b :: st) S) : WS X nL k n pc lv (.ref a :: st) S := w_getN C hf hd ho (show WS X nL k n (pc + 3) lv (va_rf (fR S a j) :: st) S by rw [hb]; exact h)
theorem r_puti (C : Cx X cc own nL rm) {i ci j a : Nat} {v : Int32} (hf : FP own i ci j 0 false) (hd : decode cc pc = .ok (.putfield i, 3)) (ho : ob S a ci) (h : WS X nL k n (pc + 3) lv st (sI S a j v)) : WS X nL k n pc lv (.int v :: .ref a :: st) S := fun H locs ls hP hD hS hG hv => by
  obtain ⟨⟨q, hq, hj, h12, hw, ht⟩, q2, ty, hq2, hfin, hpd, hok⟩ := hf
  cases hq.symm.trans hq2
  obtain ⟨k0, hk0⟩ := pw_get (cy := ey (xE X)) ho.1
  have hset := pw_sI (v := v) hD ho h12 hk0 ht
  rw [cE_obj ho.2 h12] at hk0
  obtain ⟨hin, ty0, hty, hnm⟩ := CLs ci q hq
  refine va_put (C := q.1) (T := q.2.1) (N := q.2.2) C.1 C.2.1 C.2.2.2.2.1 hin ty0 hty hnm C.2.2.2.1 C.2.2.2.2.2.1.1 hP hD hS k0 hk0 hq j hj (C.2.2.2.2.1 _ hw) (fun _ z => z) hfin  hpd (hok v).1 (hok v).2 (fs_lt ht) hd (fun H1 locs1 hP1 hD1 hS1 => ?_)
  have hP2 := hset ▸ hP1
  have hD2 := hset ▸ hD1
  exact h H1 locs1 ls hP2 hD2 hS1 hG hv
theorem r_putl (C : Cx X cc own nL rm) {i ci j a : Nat} {v : Int64} (hf : FP own i ci j 1 false) (hd : decode cc pc = .ok (.putfield i, 3)) (ho : ob S a ci) (h : WS X nL k n (pc + 3) lv st (sJ S a j v)) : WS X nL k n pc lv (.long v :: .ref a :: st) S := fun H locs ls hP hD hS hG hv => by
  obtain ⟨⟨q, hq, hj, h12, hw, ht⟩, q2, ty, hq2, hfin, hpd, hok⟩ := hf
  cases hq.symm.trans hq2
  obtain ⟨k0, hk0⟩ := pw_get (cy := ey (xE X)) ho.1
  have hset := pw_sJ (v := v) hD ho h12 hk0 ht
  rw [cE_obj ho.2 h12] at hk0
  obtain ⟨hin, ty0, hty, hnm⟩ := CLs ci q hq
  refine va_put (C := q.1) (T := q.2.1) (N := q.2.2) C.1 C.2.1 C.2.2.2.2.1 hin ty0 hty hnm C.2.2.2.1 C.2.2.2.2.2.1.1 hP hD hS k0 hk0 hq j hj (C.2.2.2.2.1 _ hw) (fun _ z => z) hfin  hpd (hok v).1 (hok v).2 (fs_lt ht) hd (fun H1 locs1 hP1 hD1 hS1 => ?_)
  have hP2 := hset ▸ hP1
  have hD2 := hset ▸ hD1
  exact h H1 locs1 ls hP2 hD2 hS1 hG hv
theorem r_putr (C : Cx X cc own nL rm) {i ci j a : Nat} {v : Nat} (hf : FP own i ci j 2 false) (hd : decode cc pc = .ok (.putfield i, 3)) (ho : ob S a ci) (h : WS X nL k n (pc + 3) lv st (sR S a j (some v))) : WS X nL k n pc lv (.ref v :: .ref a :: st) S := fun H locs ls hP hD hS hG hv => by
  obtain ⟨⟨q, hq, hj, h12, hw, ht⟩, q2, ty, hq2, hfin, hpd, hok⟩ := hf
  cases hq.symm.trans hq2
  obtain ⟨k0, hk0⟩ := pw_get (cy := ey (xE X)) ho.1
  have hset := pw_sR (v := (some v)) hD ho h12 hk0 ht
  rw [cE_obj ho.2 h12] at hk0
  obtain ⟨hin, ty0, hty, hnm⟩ := CLs ci q hq
  refine va_put (C := q.1) (T := q.2.1) (N := q.2.2) C.1 C.2.1 C.2.2.2.2.1 hin ty0 hty hnm C.2.2.2.1 C.2.2.2.2.2.1.1 hP hD hS k0 hk0 hq j hj (C.2.2.2.2.1 _ hw) (fun _ z => z) hfin  hpd (hok v).1 (hok v).2 (fs_lt ht) hd (fun H1 locs1 hP1 hD1 hS1 => ?_)
  have hP2 := hset ▸ hP1
  have hD2 := hset ▸ hD1
  exact h H1 locs1 ls hP2 hD2 hS1 hG hv
theorem r_putNi (C : Cx X cc own nL rm) {i ci j a : Nat} {v : Int32} (hf : FPN own i ci j 0) (hd : decode cc pc = .ok (.putfield i, 3)) (ho : ob S a ci) (h : WS X nL k n (pc + 3) lv st (sI S a j v)) : WS X nL k n pc lv (.int v :: .ref a :: st) S := fun H locs ls hP hD hS hG hv => by
  obtain ⟨⟨q, host, hq, hj, h12, hw, ht⟩, q2, ty, hq2, hfin, hpd, hok⟩ := hf
  cases hq.symm.trans hq2
  obtain ⟨k0, hk0⟩ := pw_get (cy := ey (xE X)) ho.1
  have hset := pw_sI (v := v) hD ho h12 hk0 ht
  rw [cE_obj ho.2 h12] at hk0
  obtain ⟨hin, ty0, hty, hnm⟩ := CLs ci q hq
  refine va_putN (C := q.1) (T := q.2.1) (N := q.2.2) C.1 C.2.1 C.2.2.2.2.1 hin ty0 hty hnm C.2.2.2.1 C.2.2.2.2.2.1.1 hP hD hS k0 hk0 hq j hj (C.2.2.2.2.2.1.2.1 _ hw) (fun _ z => z) hfin  hpd (hok v).1 (hok v).2 (fs_lt ht) hd (fun H1 locs1 hP1 hD1 hS1 => ?_)
  have hP2 := hset ▸ hP1
  have hD2 := hset ▸ hD1
  exact h H1 locs1 ls hP2 hD2 hS1 hG hv
theorem r_putFr (C : Cx X cc own nL rm) {i ci j a : Nat} {v : Nat} (hf : FPF own i ci j 2) (hin2 : (xh X).name = "<init>") (hd : decode cc pc = .ok (.putfield i, 3)) (ho : ob S a ci) (h : WS X nL k n (pc + 3) lv st (sR S a j (some v))) : WS X nL k n pc lv (.ref v :: .ref a :: st) S := fun H locs ls hP hD hS hG hv => by
  obtain ⟨⟨⟨q, hq, hj, h12, hw, ht⟩, q2, ty, hq2, hfin, hpd, hok⟩, q3, hq3, hdecl⟩ := hf
  cases hq.symm.trans hq3
  cases hq.symm.trans hq2
  obtain ⟨k0, hk0⟩ := pw_get (cy := ey (xE X)) ho.1
  have hset := pw_sR (v := (some v)) hD ho h12 hk0 ht
  rw [cE_obj ho.2 h12] at hk0
  obtain ⟨hin, ty0, hty, hnm⟩ := CLs ci q hq
  refine va_putF (C := q.1) (T := q.2.1) (N := q.2.2) C.1 C.2.1 C.2.2.2.2.1 hin ty0 hty hnm C.2.2.2.1 C.2.2.2.2.2.1.1 hP hD hS k0 hk0 hq j hj (C.2.2.2.2.1 _ hw) (fun _ z => z) hfin hin2 hdecl hpd (hok v).1 (hok v).2 (fs_lt ht) hd (fun H1 locs1 hP1 hD1 hS1 => ?_)
  have hP2 := hset ▸ hP1
  have hD2 := hset ▸ hD1
  exact h H1 locs1 ls hP2 hD2 hS1 hG hv
theorem r_ifnull (C : Cx X cc own nL rm) {a : Nat} {off : Int} (hd : decode cc pc = .ok (.ifnull off, 3)) (h : WS X nL k n (pc + 3) lv st S) : WS X nL k n pc lv (.ref a :: st) S := fun H locs ls hP hD hS hG hv => lv_ifnull C.1 C.2.1 hd (h H locs ls hP hD hS hG hv)
theorem r_ifnull0 (C : Cx X cc own nL rm) {off : Int} {tgt : Nat} (hd : decode cc pc = .ok (.ifnull off, 3)) (ht : (pc : Int) + off = (tgt : Int)) (h : WS X nL k n tgt lv st S) : WS X nL k n pc lv (.null :: st) S := fun H locs ls hP hD hS hG hv => lv_ifnullN C.1 C.2.1 hd ht (h H locs ls hP hD hS hG hv)
theorem r_ifnonnull (C : Cx X cc own nL rm) {a : Nat} {off : Int} {tgt : Nat} (hd : decode cc pc = .ok (.ifnonnull off, 3)) (ht : (pc : Int) + off = (tgt : Int)) (h : WS X nL k n tgt lv st S) : WS X nL k n pc lv (.ref a :: st) S := fun H locs ls hP hD hS hG hv => lv_ifnonnull C.1 C.2.1 hd ht (h H locs ls hP hD hS hG hv)
theorem r_ifnonnull0 (C : Cx X cc own nL rm) {off : Int} (hd : decode cc pc = .ok (.ifnonnull off, 3)) (h : WS X nL k n (pc + 3) lv st S) : WS X nL k n pc lv (.null :: st) S := fun H locs ls hP hD hS hG hv => lv_ifnonnullN C.1 C.2.1 hd (h H locs ls hP hD hS hG hv)
/-- an array's cell in the pool -/
theorem a_I {E : EE} {a q : Nat} (ho : ob S a q) (h1 : ¬ q < 12) (h2 : q < 16) (h3 : q ≠ 14) {k0 : Nat} (hk : (pw (ey E) S)[k0]? = some (a, cE (ey E) S a)) : (pw (ey E) S)[k0]? = some (a, .inl (ey E q, hN S a, .inl (fI S a))) := by
  rw [hk, cE_arr ho.2 h1, aOf, if_neg h3, if_pos h2]
theorem a_J {E : EE} {a : Nat} (ho : ob S a 14) {k0 : Nat} (hk : (pw (ey E) S)[k0]? = some (a, cE (ey E) S a)) : (pw (ey E) S)[k0]? = some (a, .inl (ey E 14, hN S a, .inr (.inl (fJ S a)))) := by
  rw [hk, cE_arr ho.2 (by decide)]; rfl
theorem a_R {E : EE} {a q : Nat} (ho : ob S a q) (h1 : ¬ q < 16) {k0 : Nat} (hk : (pw (ey E) S)[k0]? = some (a, cE (ey E) S a)) : (pw (ey E) S)[k0]? = some (a, .inl (ey E q, hN S a, .inr (.inr (.inr (.inr (fR S a)))))) := by
  rw [hk, cE_arr ho.2 (by omega), aOf, if_neg (by omega), if_neg h1]
theorem r_iald (C : Cx X cc own nL rm) {a : Nat} {i : Int32} (hd : decode cc pc = .ok (.iaload, 1)) (ho : ob S a 13) (hi : vp_in i (hN S a)) (h : WS X nL k n (pc + 1) lv (.int (fI S a i.toNatClampNeg) :: st) S) : WS X nL k n pc lv (.int i :: .ref a :: st) S := fun H locs ls hP hD hS hG hv => by
  obtain ⟨k0, hk0⟩ := pw_get (cy := ey (xE X)) ho.1
  exact va_iald C.1 C.2.1 C.2.2.2.2.2.1.1 hP k0 1 (a_I ho (by decide) (by decide) (by decide) hk0) rfl hi hd (h H locs ls hP hD hS hG hv)
theorem r_bald (C : Cx X cc own nL rm) {a : Nat} {i : Int32} (hd : decode cc pc = .ok (.baload, 1)) (ho : ob S a 12) (hi : vp_in i (hN S a)) (h : WS X nL k n (pc + 1) lv (.int (fI S a i.toNatClampNeg) :: st) S) : WS X nL k n pc lv (.int i :: .ref a :: st) S := fun H locs ls hP hD hS hG hv => by
  obtain ⟨k0, hk0⟩ := pw_get (cy := ey (xE X)) ho.1
  exact va_bald C.1 C.2.1 C.2.2.2.2.2.1.1 hP k0 0 (a_I ho (by decide) (by decide) (by decide) hk0) rfl hi hd (h H locs ls hP hD hS hG hv)
theorem r_zald (C : Cx X cc own nL rm) {a : Nat} {i : Int32} (hd : decode cc pc = .ok (.baload, 1)) (ho : ob S a 15) (hi : vp_in i (hN S a)) (h : WS X nL k n (pc + 1) lv (.int (fI S a i.toNatClampNeg) :: st) S) : WS X nL k n pc lv (.int i :: .ref a :: st) S := fun H locs ls hP hD hS hG hv => by
  obtain ⟨k0, hk0⟩ := pw_get (cy := ey (xE X)) ho.1
  exact va_zald C.1 C.2.1 C.2.2.2.2.2.1.1 hP k0 3 (a_I ho (by decide) (by decide) (by decide) hk0) rfl hi hd (h H locs ls hP hD hS hG hv)
theorem r_lald (C : Cx X cc own nL rm) {a : Nat} {i : Int32} (hd : decode cc pc = .ok (.laload, 1)) (ho : ob S a 14) (hi : vp_in i (hN S a)) (h : WS X nL k n (pc + 1) lv (.long (fJ S a i.toNatClampNeg) :: st) S) : WS X nL k n pc lv (.int i :: .ref a :: st) S := fun H locs ls hP hD hS hG hv => by
  obtain ⟨k0, hk0⟩ := pw_get (cy := ey (xE X)) ho.1
  exact va_lald C.1 C.2.1 C.2.2.2.2.2.1.1 hP k0 2 (a_J ho hk0) rfl hi hd (h H locs ls hP hD hS hG hv)
theorem r_aald16 (C : Cx X cc own nL rm) {a b : Nat} {i : Int32} (hd : decode cc pc = .ok (.aaload, 1)) (ho : ob S a 16) (hi : vp_in i (hN S a)) (hb : fR S a i.toNatClampNeg = some b) (h : WS X nL k n (pc + 1) lv (.ref b :: st) S) : WS X nL k n pc lv (.int i :: .ref a :: st) S := fun H locs ls hP hD hS hG hv => by
  obtain ⟨k0, hk0⟩ := pw_get (cy := ey (xE X)) ho.1
  refine va_aldq (C := RX2) C.1 C.2.1 C.2.2.2.2.2.1.1 hP k0 4 (a_R ho (by decide) hk0) rfl hi hd ?_
  rw [hb]
  exact h H locs ls hP hD hS hG hv
theorem r_aast16 (C : Cx X cc own nL rm) {a v : Nat} {i : Int32} (hd : decode cc pc = .ok (.aastore, 1)) (ho : ob S a 16) (hi : vp_in i (hN S a)) (hb : ob S v 2) (h : WS X nL k n (pc + 1) lv st (sR S a i.toNatClampNeg (some v))) : WS X nL k n pc lv (.ref v :: .int i :: .ref a :: st) S := fun H locs ls hP hD hS hG hv => by
  obtain ⟨k0, hk0⟩ := pw_get (cy := ey (xE X)) ho.1
  obtain ⟨k1, hk1⟩ := pw_get (cy := ey (xE X)) hb.1
  rw [cE_obj hb.2 (by decide)] at hk1
  have hset := pw_aR (v := some v) (j := i.toNatClampNeg) hD ho (by decide) hk0
  refine va_astq (r := (RX2, TX2, _)) C.1 C.2.1 C.2.2.2.2.2.1.1 hP hD hS k0 4 k1 2 (a_R ho (by decide) hk0) rfl hk1 rfl hi hd (fun H1 locs1 hP1 hD1 hS1 => ?_)
  have hP2 := hset ▸ hP1
  have hD2 := hset ▸ hD1
  exact h H1 locs1 ls hP2 hD2 hS1 hG hv
theorem r_aald17 (C : Cx X cc own nL rm) {a b : Nat} {i : Int32} (hd : decode cc pc = .ok (.aaload, 1)) (ho : ob S a 17) (hi : vp_in i (hN S a)) (hb : fR S a i.toNatClampNeg = some b) (h : WS X nL k n (pc + 1) lv (.ref b :: st) S) : WS X nL k n pc lv (.int i :: .ref a :: st) S := fun H locs ls hP hD hS hG hv => by
  obtain ⟨k0, hk0⟩ := pw_get (cy := ey (xE X)) ho.1
  refine va_aldq (C := RX3) C.1 C.2.1 C.2.2.2.2.2.1.1 hP k0 5 (a_R ho (by decide) hk0) rfl hi hd ?_
  rw [hb]
  exact h H locs ls hP hD hS hG hv
theorem r_aast17 (C : Cx X cc own nL rm) {a v : Nat} {i : Int32} (hd : decode cc pc = .ok (.aastore, 1)) (ho : ob S a 17) (hi : vp_in i (hN S a)) (hb : ob S v 3) (h : WS X nL k n (pc + 1) lv st (sR S a i.toNatClampNeg (some v))) : WS X nL k n pc lv (.ref v :: .int i :: .ref a :: st) S := fun H locs ls hP hD hS hG hv => by
  obtain ⟨k0, hk0⟩ := pw_get (cy := ey (xE X)) ho.1
  obtain ⟨k1, hk1⟩ := pw_get (cy := ey (xE X)) hb.1
  rw [cE_obj hb.2 (by decide)] at hk1
  have hset := pw_aR (v := some v) (j := i.toNatClampNeg) hD ho (by decide) hk0
  refine va_astq (r := (RX3, TX3, _)) C.1 C.2.1 C.2.2.2.2.2.1.1 hP hD hS k0 5 k1 3 (a_R ho (by decide) hk0) rfl hk1 rfl hi hd (fun H1 locs1 hP1 hD1 hS1 => ?_)
  have hP2 := hset ▸ hP1
  have hD2 := hset ▸ hD1
  exact h H1 locs1 ls hP2 hD2 hS1 hG hv
theorem r_aald18 (C : Cx X cc own nL rm) {a b : Nat} {i : Int32} (hd : decode cc pc = .ok (.aaload, 1)) (ho : ob S a 18) (hi : vp_in i (hN S a)) (hb : fR S a i.toNatClampNeg = some b) (h : WS X nL k n (pc + 1) lv (.ref b :: st) S) : WS X nL k n pc lv (.int i :: .ref a :: st) S := fun H locs ls hP hD hS hG hv => by
  obtain ⟨k0, hk0⟩ := pw_get (cy := ey (xE X)) ho.1
  refine va_aldq (C := RX5) C.1 C.2.1 C.2.2.2.2.2.1.1 hP k0 6 (a_R ho (by decide) hk0) rfl hi hd ?_
  rw [hb]
  exact h H locs ls hP hD hS hG hv
theorem r_aast18 (C : Cx X cc own nL rm) {a v : Nat} {i : Int32} (hd : decode cc pc = .ok (.aastore, 1)) (ho : ob S a 18) (hi : vp_in i (hN S a)) (hb : ob S v 5) (h : WS X nL k n (pc + 1) lv st (sR S a i.toNatClampNeg (some v))) : WS X nL k n pc lv (.ref v :: .int i :: .ref a :: st) S := fun H locs ls hP hD hS hG hv => by
  obtain ⟨k0, hk0⟩ := pw_get (cy := ey (xE X)) ho.1
  obtain ⟨k1, hk1⟩ := pw_get (cy := ey (xE X)) hb.1
  rw [cE_obj hb.2 (by decide)] at hk1
  have hset := pw_aR (v := some v) (j := i.toNatClampNeg) hD ho (by decide) hk0
  refine va_astq (r := (RX5, TX5, _)) C.1 C.2.1 C.2.2.2.2.2.1.1 hP hD hS k0 6 k1 5 (a_R ho (by decide) hk0) rfl hk1 rfl hi hd (fun H1 locs1 hP1 hD1 hS1 => ?_)
  have hP2 := hset ▸ hP1
  have hD2 := hset ▸ hD1
  exact h H1 locs1 ls hP2 hD2 hS1 hG hv
theorem r_aald19 (C : Cx X cc own nL rm) {a b : Nat} {i : Int32} (hd : decode cc pc = .ok (.aaload, 1)) (ho : ob S a 19) (hi : vp_in i (hN S a)) (hb : fR S a i.toNatClampNeg = some b) (h : WS X nL k n (pc + 1) lv (.ref b :: st) S) : WS X nL k n pc lv (.int i :: .ref a :: st) S := fun H locs ls hP hD hS hG hv => by
  obtain ⟨k0, hk0⟩ := pw_get (cy := ey (xE X)) ho.1
  refine va_aldq (C := RX6) C.1 C.2.1 C.2.2.2.2.2.1.1 hP k0 7 (a_R ho (by decide) hk0) rfl hi hd ?_
  rw [hb]
  exact h H locs ls hP hD hS hG hv
theorem r_aast19 (C : Cx X cc own nL rm) {a v : Nat} {i : Int32} (hd : decode cc pc = .ok (.aastore, 1)) (ho : ob S a 19) (hi : vp_in i (hN S a)) (hb : ob S v 6) (h : WS X nL k n (pc + 1) lv st (sR S a i.toNatClampNeg (some v))) : WS X nL k n pc lv (.ref v :: .int i :: .ref a :: st) S := fun H locs ls hP hD hS hG hv => by
  obtain ⟨k0, hk0⟩ := pw_get (cy := ey (xE X)) ho.1
  obtain ⟨k1, hk1⟩ := pw_get (cy := ey (xE X)) hb.1
  rw [cE_obj hb.2 (by decide)] at hk1
  have hset := pw_aR (v := some v) (j := i.toNatClampNeg) hD ho (by decide) hk0
  refine va_astq (r := (RX6, TX6, _)) C.1 C.2.1 C.2.2.2.2.2.1.1 hP hD hS k0 7 k1 6 (a_R ho (by decide) hk0) rfl hk1 rfl hi hd (fun H1 locs1 hP1 hD1 hS1 => ?_)
  have hP2 := hset ▸ hP1
  have hD2 := hset ▸ hD1
  exact h H1 locs1 ls hP2 hD2 hS1 hG hv
theorem r_iast (C : Cx X cc own nL rm) {a : Nat} {i x : Int32} (hd : decode cc pc = .ok (.iastore, 1)) (ho : ob S a 13) (hi : vp_in i (hN S a)) (h : WS X nL k n (pc + 1) lv st (sI S a i.toNatClampNeg x)) : WS X nL k n pc lv (.int x :: .int i :: .ref a :: st) S := fun H locs ls hP hD hS hG hv => by
  obtain ⟨k0, hk0⟩ := pw_get (cy := ey (xE X)) ho.1
  have hset := pw_aI (v := x) (j := i.toNatClampNeg) hD ho (by decide) (by decide) (by decide) hk0
  refine va_iast C.1 C.2.1 C.2.2.2.2.2.1.1 hP hD hS k0 1 (a_I ho (by decide) (by decide) (by decide) hk0) rfl hi hd (fun H1 locs1 hP1 hD1 hS1 => ?_)
  have hP2 := hset ▸ hP1
  have hD2 := hset ▸ hD1
  exact h H1 locs1 ls hP2 hD2 hS1 hG hv
theorem r_bast (C : Cx X cc own nL rm) {a : Nat} {i x : Int32} (hd : decode cc pc = .ok (.bastore, 1)) (ho : ob S a 12) (hi : vp_in i (hN S a)) (h : WS X nL k n (pc + 1) lv st (sI S a i.toNatClampNeg (vp_nar .byte x))) : WS X nL k n pc lv (.int x :: .int i :: .ref a :: st) S := fun H locs ls hP hD hS hG hv => by
  obtain ⟨k0, hk0⟩ := pw_get (cy := ey (xE X)) ho.1
  have hset := pw_aI (v := (vp_nar .byte x)) (j := i.toNatClampNeg) hD ho (by decide) (by decide) (by decide) hk0
  refine va_bast C.1 C.2.1 C.2.2.2.2.2.1.1 hP hD hS k0 0 (a_I ho (by decide) (by decide) (by decide) hk0) rfl hi hd (fun H1 locs1 hP1 hD1 hS1 => ?_)
  have hP2 := hset ▸ hP1
  have hD2 := hset ▸ hD1
  exact h H1 locs1 ls hP2 hD2 hS1 hG hv
theorem r_zast (C : Cx X cc own nL rm) {a : Nat} {i x : Int32} (hd : decode cc pc = .ok (.bastore, 1)) (ho : ob S a 15) (hi : vp_in i (hN S a)) (h : WS X nL k n (pc + 1) lv st (sI S a i.toNatClampNeg (vp_nar .boolean x))) : WS X nL k n pc lv (.int x :: .int i :: .ref a :: st) S := fun H locs ls hP hD hS hG hv => by
  obtain ⟨k0, hk0⟩ := pw_get (cy := ey (xE X)) ho.1
  have hset := pw_aI (v := (vp_nar .boolean x)) (j := i.toNatClampNeg) hD ho (by decide) (by decide) (by decide) hk0
  refine va_zast C.1 C.2.1 C.2.2.2.2.2.1.1 hP hD hS k0 3 (a_I ho (by decide) (by decide) (by decide) hk0) rfl hi hd (fun H1 locs1 hP1 hD1 hS1 => ?_)
  have hP2 := hset ▸ hP1
  have hD2 := hset ▸ hD1
  exact h H1 locs1 ls hP2 hD2 hS1 hG hv
theorem r_last (C : Cx X cc own nL rm) {a : Nat} {i : Int32} {x : Int64} (hd : decode cc pc = .ok (.lastore, 1)) (ho : ob S a 14) (hi : vp_in i (hN S a)) (h : WS X nL k n (pc + 1) lv st (sJ S a i.toNatClampNeg x)) : WS X nL k n pc lv (.long x :: .int i :: .ref a :: st) S := fun H locs ls hP hD hS hG hv => by
  obtain ⟨k0, hk0⟩ := pw_get (cy := ey (xE X)) ho.1
  have hset := pw_aJ (v := x) (j := i.toNatClampNeg) hD ho hk0
  refine va_last C.1 C.2.1 C.2.2.2.2.2.1.1 hP hD hS k0 2 (a_J ho hk0) rfl hi hd (fun H1 locs1 hP1 hD1 hS1 => ?_)
  have hP2 := hset ▸ hP1
  have hD2 := hset ▸ hD1
  exact h H1 locs1 ls hP2 hD2 hS1 hG hv
theorem r_alen12 (C : Cx X cc own nL rm) {a : Nat} (hd : decode cc pc = .ok (.arraylength, 1)) (ho : ob S a 12) (h : WS X nL k n (pc + 1) lv (.int (nI (hN S a)) :: st) S) : WS X nL k n pc lv (.ref a :: st) S := fun H locs ls hP hD hS hG hv => by
  obtain ⟨k0, hk0⟩ := pw_get (cy := ey (xE X)) ho.1
  rw [cE_arr ho.2 (by decide)] at hk0
  exact va_alen C.1 C.2.1 C.2.2.2.2.2.1.1 hP k0 0 hk0 (ty := .byte) rfl rfl hd (h H locs ls hP hD hS hG hv)
theorem r_alen13 (C : Cx X cc own nL rm) {a : Nat} (hd : decode cc pc = .ok (.arraylength, 1)) (ho : ob S a 13) (h : WS X nL k n (pc + 1) lv (.int (nI (hN S a)) :: st) S) : WS X nL k n pc lv (.ref a :: st) S := fun H locs ls hP hD hS hG hv => by
  obtain ⟨k0, hk0⟩ := pw_get (cy := ey (xE X)) ho.1
  rw [cE_arr ho.2 (by decide)] at hk0
  exact va_alen C.1 C.2.1 C.2.2.2.2.2.1.1 hP k0 1 hk0 (ty := .int) rfl rfl hd (h H locs ls hP hD hS hG hv)
theorem r_alen14 (C : Cx X cc own nL rm) {a : Nat} (hd : decode cc pc = .ok (.arraylength, 1)) (ho : ob S a 14) (h : WS X nL k n (pc + 1) lv (.int (nI (hN S a)) :: st) S) : WS X nL k n pc lv (.ref a :: st) S := fun H locs ls hP hD hS hG hv => by
  obtain ⟨k0, hk0⟩ := pw_get (cy := ey (xE X)) ho.1
  rw [cE_arr ho.2 (by decide)] at hk0
  exact va_alen C.1 C.2.1 C.2.2.2.2.2.1.1 hP k0 2 hk0 (ty := .long) rfl rfl hd (h H locs ls hP hD hS hG hv)
theorem r_alen16 (C : Cx X cc own nL rm) {a : Nat} (hd : decode cc pc = .ok (.arraylength, 1)) (ho : ob S a 16) (h : WS X nL k n (pc + 1) lv (.int (nI (hN S a)) :: st) S) : WS X nL k n pc lv (.ref a :: st) S := fun H locs ls hP hD hS hG hv => by
  obtain ⟨k0, hk0⟩ := pw_get (cy := ey (xE X)) ho.1
  rw [cE_arr ho.2 (by decide)] at hk0
  exact va_alen C.1 C.2.1 C.2.2.2.2.2.1.1 hP k0 4 hk0 (ty := .object RX2) rfl rfl hd (h H locs ls hP hD hS hG hv)
theorem r_alen17 (C : Cx X cc own nL rm) {a : Nat} (hd : decode cc pc = .ok (.arraylength, 1)) (ho : ob S a 17) (h : WS X nL k n (pc + 1) lv (.int (nI (hN S a)) :: st) S) : WS X nL k n pc lv (.ref a :: st) S := fun H locs ls hP hD hS hG hv => by
  obtain ⟨k0, hk0⟩ := pw_get (cy := ey (xE X)) ho.1
  rw [cE_arr ho.2 (by decide)] at hk0
  exact va_alen C.1 C.2.1 C.2.2.2.2.2.1.1 hP k0 5 hk0 (ty := .object RX3) rfl rfl hd (h H locs ls hP hD hS hG hv)
theorem r_alen18 (C : Cx X cc own nL rm) {a : Nat} (hd : decode cc pc = .ok (.arraylength, 1)) (ho : ob S a 18) (h : WS X nL k n (pc + 1) lv (.int (nI (hN S a)) :: st) S) : WS X nL k n pc lv (.ref a :: st) S := fun H locs ls hP hD hS hG hv => by
  obtain ⟨k0, hk0⟩ := pw_get (cy := ey (xE X)) ho.1
  rw [cE_arr ho.2 (by decide)] at hk0
  exact va_alen C.1 C.2.1 C.2.2.2.2.2.1.1 hP k0 6 hk0 (ty := .object RX5) rfl rfl hd (h H locs ls hP hD hS hG hv)
theorem r_alen19 (C : Cx X cc own nL rm) {a : Nat} (hd : decode cc pc = .ok (.arraylength, 1)) (ho : ob S a 19) (h : WS X nL k n (pc + 1) lv (.int (nI (hN S a)) :: st) S) : WS X nL k n pc lv (.ref a :: st) S := fun H locs ls hP hD hS hG hv => by
  obtain ⟨k0, hk0⟩ := pw_get (cy := ey (xE X)) ho.1
  rw [cE_arr ho.2 (by decide)] at hk0
  exact va_alen C.1 C.2.1 C.2.2.2.2.2.1.1 hP k0 7 hk0 (ty := .object RX6) rfl rfl hd (h H locs ls hP hD hS hG hv)
end Rows
end
section
section Makings
variable {X : CX} {cc : ByteArray} {own : String} {nL k n pc : Nat} {lv lv' : List (Nat × Value)} {st : List Value} {S : HS} {rm : Room}
def dvk (t : Nat) : Value := if t = 0 then .int 0 else if t = 1 then .long 0 else .null
/-- a class that can be made from here -/
def NC (own : String) (i ci N : Nat) : Prop := ∃ (C : String) (T : u_T) (ty : Nat → FieldType), vwCl[ci]? = some (C, T, N) ∧ ci < 12 ∧ Cond.classLink own i C ∈ G ∧ Cond.instantiable C N ∈ G ∧ Cond.initialized C ∈ G ∧ (∀ z, z < N → parseFieldDescriptor (T z).2.2.1 = some (ty z)) ∧ ∀ z, z < N → ∃ t, (kt.getD ci [])[z]? = some t ∧ defaultValue (ty z) = dvk t
theorem nW_K (S : HS) (a z N : Nat) : hK (nW S a z N) a = z := va_up_self _ _ _
theorem nw_val (a ci t j : Nat) : vOf (nW S a ci 0) a t j = dvk t := by
  unfold vOf dvk
  by_cases h0 : t = 0
  · rw [if_pos h0, if_pos h0]
    show Value.int (va_up (fI S) a (fun _ => 0) a j) = _
    rw [va_up_self]
  · rw [if_neg h0, if_neg h0]
    by_cases h1 : t = 1
    · rw [if_pos h1, if_pos h1]
      show Value.long (va_up (fJ S) a (fun _ => 0) a j) = _
      rw [va_up_self]
    · rw [if_neg h1, if_neg h1]
      show va_rf (va_up (fR S) a (fun _ => none) a j) = _
      rw [va_up_self]; rfl
theorem nw_fs (a ci : Nat) : ∀ (ts : List Nat) (i : Nat), fsGo (nW S a ci 0) a i ts = ts.map dvk
  | [], i => rfl
  | t :: ts, i => by rw [fsGo, List.map_cons, nw_val, nw_fs a ci ts (i + 1)]
theorem pw_out {cy : Nat → ClassId} {A : Nat → Prop} {a : Nat} {e : va_E} (hD : va_D A (pw cy S ++ [(a, e)])) : a ∉ hL S := fun h => by
  obtain ⟨k0, hk0⟩ := pw_get (cy := cy) h
  have hl := (List.getElem?_eq_some_iff.mp hk0).1
  have h1 : (pw cy S ++ [(a, e)])[k0]? = some (a, cE cy S a) := by rw [List.getElem?_append_left hl]; exact hk0
  have h2 : (pw cy S ++ [(a, e)])[(pw cy S).length]? = some (a, e) := by rw [List.getElem?_append_right (Nat.le_refl _), Nat.sub_self]; rfl
  have := hD.1 _ _ _ _ h1 h2 rfl
  omega
theorem r_new (C : Cx X cc own nL rm) {i ci N : Nat} (hc : NC own i ci N) (hd : decode cc pc = .ok (.new i, 3)) (h1 : k + 1 ≤ rm.cells) (h2 : n + N ≤ rm.slots) (h : ∀ a, a ∉ hL S → WS X nL (k + 1) (n + N) (pc + 3) lv (.ref a :: st) (nW S a ci 0)) : WS X nL k n pc lv st S := fun H locs ls hP hD hS hG hv => by
  obtain ⟨Cn, T, ty, hq, h12, hw1, hw2, hw3, hty, hdv⟩ := hc
  have hR := C.2.2.2.2.2.2.2
  refine va_new (C := Cn) (T := T) (N := N) (ci := ci) (fs := (kt.getD ci []).map dvk) C.1 C.2.1 C.2.2.2.2.1 (CLs ci _ hq).1 ty hty C.2.2.2.1 (C.2.2.2.2.1 _ hw1) (C.2.2.2.2.1 _ hw2) (C.2.2.2.2.1 _ hw3) C.2.2.2.2.2.1.1 hP hD hS C.2.2.2.2.2.2.1 hq (fun j hj => ?_) (by rw [hR]; exact h1) (by rw [hR]; exact h2) hd (fun q H1 hP1 hD1 hS1 => ?_)
  · obtain ⟨t, ht, hv⟩ := hdv j hj
    have hg : ((kt.getD ci []).map dvk)[j]? = some (dvk t) := by rw [List.getElem?_map, ht]; rfl
    unfold vp_V
    rw [hv, List.getD_eq_getElem?_getD, hg]; rfl
  · have hq := pw_out hD1
    have he : pw (ey (xE X)) S ++ [(q, .inr (ci, (kt.getD ci []).map dvk))] = pw (ey (xE X)) (nW S q ci 0) := by
      refine pw_new hq ?_
      rw [cE_obj (nW_K S q ci 0) h12, nw_fs]
    rw [he] at hP1 hD1
    exact h q hq H1 locs ls hP1 hD1 hS1 (gr_nW hG ci 0 hq) hv
theorem r_newa12 (C : Cx X cc own nL rm) {x : Int32} {N : Nat} (hw : Cond.arrayClass .byte ∈ G) (hd : decode cc pc = .ok (.newarray .byte, 2)) (hx : ¬ x < 0) (hx2 : x.toNatClampNeg = N) (hb : N * 8 ≤ 536870912) (h1 : k + 1 ≤ rm.cells) (h2 : n + N ≤ rm.slots) (h : ∀ a, a ∉ hL S → WS X nL (k + 1) (n + N) (pc + 2) lv (.ref a :: st) (nW S a 12 N)) : WS X nL k n pc lv (.int x :: st) S := fun H locs ls hP hD hS hG hv => by
  have hR := C.2.2.2.2.2.2.2
  have hK0 := C.2.2.2.2.2.1.1
  refine va_newa (atype := .byte) (ty := .byte) (N' := N) (a0 := (N, .inl (fun _ => 0))) C.1 C.2.1 (C.2.2.2.2.1 _ hw) rfl hK0 hP hD hS C.2.2.2.2.2.2.1 (fun _ => rfl) hx hx2 (Nat.le_trans (Nat.mul_le_mul_left N (by decide)) hb) (by rw [hR]; exact h1) (by rw [hR]; exact h2) hd (fun q cA H1 hK1 hP1 hD1 hS1 => ?_)
  have e1 : (xs X).vm.findClass _ = some (ey (xE X) 12) := (hK0.2 0 _ rfl).2
  have e2 : (xs X).vm.findClass _ = some cA := (hK1.2 8 _ rfl).2
  cases e1.symm.trans e2
  have hq := pw_out hD1
  have he : pw (ey (xE X)) S ++ [(q, .inl (ey (xE X) 12, (N, .inl (fun _ => 0))))] = pw (ey (xE X)) (nW S q 12 N) := by
    refine pw_new hq ?_
    rw [cE_arr (nW_K S q 12 N) (by decide)]
    refine congrArg (fun z => Sum.inl (ey (xE X) 12, z)) ?_
    show (va_up (hN S) q N q, _) = _
    rw [va_up_self]
    refine congrArg (fun z => (N, z)) ?_
    show Sum.inl (va_up (fI S) q (fun _ => 0) q) = _
    rw [va_up_self]
  rw [he] at hP1 hD1
  exact h q hq H1 locs ls hP1 hD1 hS1 (gr_nW hG 12 N hq) hv
theorem r_newa13 (C : Cx X cc own nL rm) {x : Int32} {N : Nat} (hw : Cond.arrayClass .int ∈ G) (hd : decode cc pc = .ok (.newarray .int, 2)) (hx : ¬ x < 0) (hx2 : x.toNatClampNeg = N) (hb : N * 8 ≤ 536870912) (h1 : k + 1 ≤ rm.cells) (h2 : n + N ≤ rm.slots) (h : ∀ a, a ∉ hL S → WS X nL (k + 1) (n + N) (pc + 2) lv (.ref a :: st) (nW S a 13 N)) : WS X nL k n pc lv (.int x :: st) S := fun H locs ls hP hD hS hG hv => by
  have hR := C.2.2.2.2.2.2.2
  have hK0 := C.2.2.2.2.2.1.1
  refine va_newa (atype := .int) (ty := .int) (N' := N) (a0 := (N, .inl (fun _ => 0))) C.1 C.2.1 (C.2.2.2.2.1 _ hw) rfl hK0 hP hD hS C.2.2.2.2.2.2.1 (fun _ => rfl) hx hx2 (Nat.le_trans (Nat.mul_le_mul_left N (by decide)) hb) (by rw [hR]; exact h1) (by rw [hR]; exact h2) hd (fun q cA H1 hK1 hP1 hD1 hS1 => ?_)
  have e1 : (xs X).vm.findClass _ = some (ey (xE X) 13) := (hK0.2 1 _ rfl).2
  have e2 : (xs X).vm.findClass _ = some cA := (hK1.2 8 _ rfl).2
  cases e1.symm.trans e2
  have hq := pw_out hD1
  have he : pw (ey (xE X)) S ++ [(q, .inl (ey (xE X) 13, (N, .inl (fun _ => 0))))] = pw (ey (xE X)) (nW S q 13 N) := by
    refine pw_new hq ?_
    rw [cE_arr (nW_K S q 13 N) (by decide)]
    refine congrArg (fun z => Sum.inl (ey (xE X) 13, z)) ?_
    show (va_up (hN S) q N q, _) = _
    rw [va_up_self]
    refine congrArg (fun z => (N, z)) ?_
    show Sum.inl (va_up (fI S) q (fun _ => 0) q) = _
    rw [va_up_self]
  rw [he] at hP1 hD1
  exact h q hq H1 locs ls hP1 hD1 hS1 (gr_nW hG 13 N hq) hv
theorem r_newa14 (C : Cx X cc own nL rm) {x : Int32} {N : Nat} (hw : Cond.arrayClass .long ∈ G) (hd : decode cc pc = .ok (.newarray .long, 2)) (hx : ¬ x < 0) (hx2 : x.toNatClampNeg = N) (hb : N * 8 ≤ 536870912) (h1 : k + 1 ≤ rm.cells) (h2 : n + N ≤ rm.slots) (h : ∀ a, a ∉ hL S → WS X nL (k + 1) (n + N) (pc + 2) lv (.ref a :: st) (nW S a 14 N)) : WS X nL k n pc lv (.int x :: st) S := fun H locs ls hP hD hS hG hv => by
  have hR := C.2.2.2.2.2.2.2
  have hK0 := C.2.2.2.2.2.1.1
  refine va_newa (atype := .long) (ty := .long) (N' := N) (a0 := (N, .inr (.inl (fun _ => 0)))) C.1 C.2.1 (C.2.2.2.2.1 _ hw) rfl hK0 hP hD hS C.2.2.2.2.2.2.1 (fun _ => rfl) hx hx2 (Nat.le_trans (Nat.mul_le_mul_left N (by decide)) hb) (by rw [hR]; exact h1) (by rw [hR]; exact h2) hd (fun q cA H1 hK1 hP1 hD1 hS1 => ?_)
  have e1 : (xs X).vm.findClass _ = some (ey (xE X) 14) := (hK0.2 2 _ rfl).2
  have e2 : (xs X).vm.findClass _ = some cA := (hK1.2 8 _ rfl).2
  cases e1.symm.trans e2
  have hq := pw_out hD1
  have he : pw (ey (xE X)) S ++ [(q, .inl (ey (xE X) 14, (N, .inr (.inl (fun _ => 0)))))] = pw (ey (xE X)) (nW S q 14 N) := by
    refine pw_new hq ?_
    rw [cE_arr (nW_K S q 14 N) (by decide)]
    refine congrArg (fun z => Sum.inl (ey (xE X) 14, z)) ?_
    show (va_up (hN S) q N q, _) = _
    rw [va_up_self]
    refine congrArg (fun z => (N, z)) ?_
    show Sum.inr (Sum.inl (va_up (fJ S) q (fun _ => 0) q)) = _
    rw [va_up_self]
  rw [he] at hP1 hD1
  exact h q hq H1 locs ls hP1 hD1 hS1 (gr_nW hG 14 N hq) hv
theorem r_newa15 (C : Cx X cc own nL rm) {x : Int32} {N : Nat} (hw : Cond.arrayClass .boolean ∈ G) (hd : decode cc pc = .ok (.newarray .boolean, 2)) (hx : ¬ x < 0) (hx2 : x.toNatClampNeg = N) (hb : N * 8 ≤ 536870912) (h1 : k + 1 ≤ rm.cells) (h2 : n + N ≤ rm.slots) (h : ∀ a, a ∉ hL S → WS X nL (k + 1) (n + N) (pc + 2) lv (.ref a :: st) (nW S a 15 N)) : WS X nL k n pc lv (.int x :: st) S := fun H locs ls hP hD hS hG hv => by
  have hR := C.2.2.2.2.2.2.2
  have hK0 := C.2.2.2.2.2.1.1
  refine va_newa (atype := .boolean) (ty := .boolean) (N' := N) (a0 := (N, .inl (fun _ => 0))) C.1 C.2.1 (C.2.2.2.2.1 _ hw) rfl hK0 hP hD hS C.2.2.2.2.2.2.1 (fun _ => rfl) hx hx2 (Nat.le_trans (Nat.mul_le_mul_left N (by decide)) hb) (by rw [hR]; exact h1) (by rw [hR]; exact h2) hd (fun q cA H1 hK1 hP1 hD1 hS1 => ?_)
  have e1 : (xs X).vm.findClass _ = some (ey (xE X) 15) := (hK0.2 3 _ rfl).2
  have e2 : (xs X).vm.findClass _ = some cA := (hK1.2 8 _ rfl).2
  cases e1.symm.trans e2
  have hq := pw_out hD1
  have he : pw (ey (xE X)) S ++ [(q, .inl (ey (xE X) 15, (N, .inl (fun _ => 0))))] = pw (ey (xE X)) (nW S q 15 N) := by
    refine pw_new hq ?_
    rw [cE_arr (nW_K S q 15 N) (by decide)]
    refine congrArg (fun z => Sum.inl (ey (xE X) 15, z)) ?_
    show (va_up (hN S) q N q, _) = _
    rw [va_up_self]
    refine congrArg (fun z => (N, z)) ?_
    show Sum.inl (va_up (fI S) q (fun _ => 0) q) = _
    rw [va_up_self]
  rw [he] at hP1 hD1
  exact h q hq H1 locs ls hP1 hD1 hS1 (gr_nW hG 15 N hq) hv
theorem r_newa16 (C : Cx X cc own nL rm) {x : Int32} {N i : Nat} (hw : Cond.classLink own i RX2 ∈ G) (hd : decode cc pc = .ok (.anewarray i, 3)) (hx : ¬ x < 0) (hx2 : x.toNatClampNeg = N) (hb : N * 8 ≤ 536870912) (h1 : k + 1 ≤ rm.cells) (h2 : n + N ≤ rm.slots) (h : ∀ a, a ∉ hL S → WS X nL (k + 1) (n + N) (pc + 3) lv (.ref a :: st) (nW S a 16 N)) : WS X nL k n pc lv (.int x :: st) S := fun H locs ls hP hD hS hG hv => by
  have hR := C.2.2.2.2.2.2.2
  have hK0 := C.2.2.2.2.2.1.1
  refine va_newq (C := RX2) (N' := N) C.1 C.2.1 C.2.2.2.1 (C.2.2.2.2.1 _ hw) (C.2.2.2.2.2.1.2.2.2.1 _ (List.mem_of_getElem? (i := 0) rfl)) hK0 hP hD hS C.2.2.2.2.2.2.1 hx hx2 (Nat.le_trans (Nat.mul_le_mul_left N (by decide)) hb) (by rw [hR]; exact h1) (by rw [hR]; exact h2) hd (fun q cA H1 hK1 hP1 hD1 hS1 => ?_)
  have e1 : (xs X).vm.findClass _ = some (ey (xE X) 16) := (hK0.2 4 _ rfl).2.choose_spec.choose_spec.2.2.2
  have e2 : (xs X).vm.findClass _ = some cA := (hK1.2 8 _ rfl).2.choose_spec.choose_spec.2.2.2
  cases e1.symm.trans e2
  have hq := pw_out hD1
  have he : pw (ey (xE X)) S ++ [(q, .inl (ey (xE X) 16, (N, .inr (.inr (.inr (.inr (fun _ => none)))))))] = pw (ey (xE X)) (nW S q 16 N) := by
    refine pw_new hq ?_
    rw [cE_arr (nW_K S q 16 N) (by decide)]
    refine congrArg (fun z => Sum.inl (ey (xE X) 16, z)) ?_
    show (va_up (hN S) q N q, _) = _
    rw [va_up_self]
    refine congrArg (fun z => (N, z)) ?_
    show Sum.inr (Sum.inr (Sum.inr (Sum.inr (va_up (fR S) q (fun _ => none) q)))) = _
    rw [va_up_self]
  rw [he] at hP1 hD1
  exact h q hq H1 locs ls hP1 hD1 hS1 (gr_nW hG 16 N hq) hv
theorem r_newa17 (C : Cx X cc own nL rm) {x : Int32} {N i : Nat} (hw : Cond.classLink own i RX3 ∈ G) (hd : decode cc pc = .ok (.anewarray i, 3)) (hx : ¬ x < 0) (hx2 : x.toNatClampNeg = N) (hb : N * 8 ≤ 536870912) (h1 : k + 1 ≤ rm.cells) (h2 : n + N ≤ rm.slots) (h : ∀ a, a ∉ hL S → WS X nL (k + 1) (n + N) (pc + 3) lv (.ref a :: st) (nW S a 17 N)) : WS X nL k n pc lv (.int x :: st) S := fun H locs ls hP hD hS hG hv => by
  have hR := C.2.2.2.2.2.2.2
  have hK0 := C.2.2.2.2.2.1.1
  refine va_newq (C := RX3) (N' := N) C.1 C.2.1 C.2.2.2.1 (C.2.2.2.2.1 _ hw) (C.2.2.2.2.2.1.2.2.2.1 _ (List.mem_of_getElem? (i := 1) rfl)) hK0 hP hD hS C.2.2.2.2.2.2.1 hx hx2 (Nat.le_trans (Nat.mul_le_mul_left N (by decide)) hb) (by rw [hR]; exact h1) (by rw [hR]; exact h2) hd (fun q cA H1 hK1 hP1 hD1 hS1 => ?_)
  have e1 : (xs X).vm.findClass _ = some (ey (xE X) 17) := (hK0.2 5 _ rfl).2.choose_spec.choose_spec.2.2.2
  have e2 : (xs X).vm.findClass _ = some cA := (hK1.2 8 _ rfl).2.choose_spec.choose_spec.2.2.2
  cases e1.symm.trans e2
  have hq := pw_out hD1
  have he : pw (ey (xE X)) S ++ [(q, .inl (ey (xE X) 17, (N, .inr (.inr (.inr (.inr (fun _ => none)))))))] = pw (ey (xE X)) (nW S q 17 N) := by
    refine pw_new hq ?_
    rw [cE_arr (nW_K S q 17 N) (by decide)]
    refine congrArg (fun z => Sum.inl (ey (xE X) 17, z)) ?_
    show (va_up (hN S) q N q, _) = _
    rw [va_up_self]
    refine congrArg (fun z => (N, z)) ?_
    show Sum.inr (Sum.inr (Sum.inr (Sum.inr (va_up (fR S) q (fun _ => none) q)))) = _
    rw [va_up_self]
  rw [he] at hP1 hD1
  exact h q hq H1 locs ls hP1 hD1 hS1 (gr_nW hG 17 N hq) hv
theorem r_newa18 (C : Cx X cc own nL rm) {x : Int32} {N i : Nat} (hw : Cond.classLink own i RX5 ∈ G) (hd : decode cc pc = .ok (.anewarray i, 3)) (hx : ¬ x < 0) (hx2 : x.toNatClampNeg = N) (hb : N * 8 ≤ 536870912) (h1 : k + 1 ≤ rm.cells) (h2 : n + N ≤ rm.slots) (h : ∀ a, a ∉ hL S → WS X nL (k + 1) (n + N) (pc + 3) lv (.ref a :: st) (nW S a 18 N)) : WS X nL k n pc lv (.int x :: st) S := fun H locs ls hP hD hS hG hv => by
  have hR := C.2.2.2.2.2.2.2
  have hK0 := C.2.2.2.2.2.1.1
  refine va_newq (C := RX5) (N' := N) C.1 C.2.1 C.2.2.2.1 (C.2.2.2.2.1 _ hw) (C.2.2.2.2.2.1.2.2.2.1 _ (List.mem_of_getElem? (i := 2) rfl)) hK0 hP hD hS C.2.2.2.2.2.2.1 hx hx2 (Nat.le_trans (Nat.mul_le_mul_left N (by decide)) hb) (by rw [hR]; exact h1) (by rw [hR]; exact h2) hd (fun q cA H1 hK1 hP1 hD1 hS1 => ?_)
  have e1 : (xs X).vm.findClass _ = some (ey (xE X) 18) := (hK0.2 6 _ rfl).2.choose_spec.choose_spec.2.2.2
  have e2 : (xs X).vm.findClass _ = some cA := (hK1.2 8 _ rfl).2.choose_spec.choose_spec.2.2.2
  cases e1.symm.trans e2
  have hq := pw_out hD1
  have he : pw (ey (xE X)) S ++ [(q, .inl (ey (xE X) 18, (N, .inr (.inr (.inr (.inr (fun _ => none)))))))] = pw (ey (xE X)) (nW S q 18 N) := by
    refine pw_new hq ?_
    rw [cE_arr (nW_K S q 18 N) (by decide)]
    refine congrArg (fun z => Sum.inl (ey (xE X) 18, z)) ?_
    show (va_up (hN S) q N q, _) = _
    rw [va_up_self]
    refine congrArg (fun z => (N, z)) ?_
    show Sum.inr (Sum.inr (Sum.inr (Sum.inr (va_up (fR S) q (fun _ => none) q)))) = _
    rw [va_up_self]
  rw [he] at hP1 hD1
  exact h q hq H1 locs ls hP1 hD1 hS1 (gr_nW hG 18 N hq) hv
theorem r_newa19 (C : Cx X cc own nL rm) {x : Int32} {N i : Nat} (hw : Cond.classLink own i RX6 ∈ G) (hd : decode cc pc = .ok (.anewarray i, 3)) (hx : ¬ x < 0) (hx2 : x.toNatClampNeg = N) (hb : N * 8 ≤ 536870912) (h1 : k + 1 ≤ rm.cells) (h2 : n + N ≤ rm.slots) (h : ∀ a, a ∉ hL S → WS X nL (k + 1) (n + N) (pc + 3) lv (.ref a :: st) (nW S a 19 N)) : WS X nL k n pc lv (.int x :: st) S := fun H locs ls hP hD hS hG hv => by
  have hR := C.2.2.2.2.2.2.2
  have hK0 := C.2.2.2.2.2.1.1
  refine va_newq (C := RX6) (N' := N) C.1 C.2.1 C.2.2.2.1 (C.2.2.2.2.1 _ hw) (C.2.2.2.2.2.1.2.2.2.1 _ (List.mem_of_getElem? (i := 3) rfl)) hK0 hP hD hS C.2.2.2.2.2.2.1 hx hx2 (Nat.le_trans (Nat.mul_le_mul_left N (by decide)) hb) (by rw [hR]; exact h1) (by rw [hR]; exact h2) hd (fun q cA H1 hK1 hP1 hD1 hS1 => ?_)
  have e1 : (xs X).vm.findClass _ = some (ey (xE X) 19) := (hK0.2 7 _ rfl).2.choose_spec.choose_spec.2.2.2
  have e2 : (xs X).vm.findClass _ = some cA := (hK1.2 8 _ rfl).2.choose_spec.choose_spec.2.2.2
  cases e1.symm.trans e2
  have hq := pw_out hD1
  have he : pw (ey (xE X)) S ++ [(q, .inl (ey (xE X) 19, (N, .inr (.inr (.inr (.inr (fun _ => none)))))))] = pw (ey (xE X)) (nW S q 19 N) := by
    refine pw_new hq ?_
    rw [cE_arr (nW_K S q 19 N) (by decide)]
    refine congrArg (fun z => Sum.inl (ey (xE X) 19, z)) ?_
    show (va_up (hN S) q N q, _) = _
    rw [va_up_self]
    refine congrArg (fun z => (N, z)) ?_
    show Sum.inr (Sum.inr (Sum.inr (Sum.inr (va_up (fR S) q (fun _ => none) q)))) = _
    rw [va_up_self]
  rw [he] at hP1 hD1
  exact h q hq H1 locs ls hP1 hD1 hS1 (gr_nW hG 19 N hq) hv
end Makings
/-! CONTRACTS: a method over the whole pool -/
def mP (E : EE) (sz : Nat) (S : HS) (av : List Value) : Array Value → State → Prop := va_Pc av (fun U => U.heap.size = sz ∧ va_P (eD E) vwCl (pw (ey E) S) U.heap ∧ va_D (fun _ => True) (pw (ey E) S) ∧ EV E (va_A (pw (ey E) S) sz) U U.heap)
def mA (E : EE) (S : HS) (sz : Nat) : Nat → Prop := va_A (pw (ey E) S) sz
def mB (E : EE) (A : Nat → Prop) (S0 S' : HS) (t : State) : Prop := va_P (eD E) vwCl (pw (ey E) S') t.heap ∧ va_D A (pw (ey E) S') ∧ Gr S0 S'
def mW (y : MethodName) (cc : ByteArray) (nL : Nat) (ret : Option FieldType) : List Cond := Cond.code y cc nL ret :: G
def MI (l : Launch) (y : MethodName) (cc : ByteArray) (nL : Nat) (ret : Option FieldType) (rm : Room) (E : EE) (S : HS) (av : List Value) (Q : Int32 → HS → Prop) : Prop := ∀ sz, Met l y (mW y cc nL ret) rm (mP E sz S av) (va_Qi Q (mB E (mA E S sz) S) (mA E S sz)) rm.cells rm.slots (mA E S sz)
def MJ (l : Launch) (y : MethodName) (cc : ByteArray) (nL : Nat) (ret : Option FieldType) (rm : Room) (E : EE) (S : HS) (av : List Value) (Q : Int64 → HS → Prop) : Prop := ∀ sz, Met l y (mW y cc nL ret) rm (mP E sz S av) (va_Ql Q (mB E (mA E S sz) S) (mA E S sz)) rm.cells rm.slots (mA E S sz)
def MV (l : Launch) (y : MethodName) (cc : ByteArray) (nL : Nat) (ret : Option FieldType) (rm : Room) (E : EE) (S : HS) (av : List Value) (Q : HS → Prop) : Prop := ∀ sz, Met l y (mW y cc nL ret) rm (mP E sz S av) (va_Qv Q (mB E (mA E S sz) S) (mA E S sz)) rm.cells rm.slots (mA E S sz)
def MR (l : Launch) (y : MethodName) (cc : ByteArray) (nL : Nat) (ret : Option FieldType) (rm : Room) (E : EE) (S : HS) (av : List Value) (Q : Option Nat → HS → Prop) : Prop := ∀ sz, Met l y (mW y cc nL ret) rm (mP E sz S av) (va_Qq Q (mB E (mA E S sz) S) (mA E S sz)) rm.cells rm.slots (mA E S sz)
/-- a boolean -/
def bl (r : Int32) : Prop := r = 0 ∨ r = 1
theorem bl_narrow {r : Int32} (h : bl r) : narrow .boolean (.int r) = .int r := by rcases h with rfl | rfl <;> rfl
theorem mP_blind (E : EE) (sz : Nat) (S : HS) (av : List Value) : FrameBlind (mP E sz S av) := fun a U g mk q => by
  obtain ⟨q0, q1, qP, qD, qE⟩ := q
  refine ⟨q0, q1, qP, qD, ?_⟩
  exact EV.call (s := U) (U := U.calling g mk a) (H := U.heap) (locs := []) qE va_S.rf (fun _ h => h) (State.WarmedH.refl U) rfl
def ReI (X : CX) (rm : Room) (Q : Int32 → HS → Prop) : Prop := xQ X = MQ (xb X) (va_Qi Q (mB (xE X) (xA X) (x0 X)) (xA X)) (xa X) (xs X) rm.cells rm.slots (xA X) ∧ (xh X).locks = false
def ReJ (X : CX) (rm : Room) (Q : Int64 → HS → Prop) : Prop := xQ X = MQ (xb X) (va_Ql Q (mB (xE X) (xA X) (x0 X)) (xA X)) (xa X) (xs X) rm.cells rm.slots (xA X) ∧ (xh X).locks = false
def ReV (X : CX) (rm : Room) (Q : HS → Prop) : Prop := xQ X = MQ (xb X) (va_Qv Q (mB (xE X) (xA X) (x0 X)) (xA X)) (xa X) (xs X) rm.cells rm.slots (xA X) ∧ (xh X).locks = false
def ReR (X : CX) (rm : Room) (Q : Option Nat → HS → Prop) : Prop := xQ X = MQ (xb X) (va_Qq Q (mB (xE X) (xA X) (x0 X)) (xA X)) (xa X) (xs X) rm.cells rm.slots (xA X) ∧ (xh X).locks = false
section Returns
variable {X : CX} {cc : ByteArray} {own : String} {nL k n pc : Nat} {lv lv' : List (Nat × Value)} {st : List Value} {S : HS} {rm : Room}
theorem r_iret (C : Cx X cc own nL rm) {Q : Int32 → HS → Prop} (E : ReI X rm Q) (ht : (xh X).sig.returnType = some .int) {v : Int32} (hd : decode cc pc = .ok (.ireturn, 1)) (h1 : k ≤ rm.cells) (h2 : n ≤ rm.slots) (h : Q v S) : WS X nL k n pc lv [.int v] S := fun H locs ls hP hD hS hG hv => by
  rw [E.1]
  refine W.widen h1 h2 ?_
  exact W.iret C.1 C.2.1 ht (fun t htt _ => ⟨⟨v, S, rfl, h, by rw [htt]; exact hP, hD, hG⟩, hS.F htt⟩) hS.2.2 hd (hlocks := E.2)
theorem r_zret (C : Cx X cc own nL rm) {Q : Int32 → HS → Prop} (E : ReI X rm (fun r S' => bl r ∧ Q r S')) (ht : (xh X).sig.returnType = some .boolean) {v : Int32} (hd : decode cc pc = .ok (.ireturn, 1)) (h1 : k ≤ rm.cells) (h2 : n ≤ rm.slots) (hb : bl v) (h : Q v S) : WS X nL k n pc lv [.int v] S := fun H locs ls hP hD hS hG hv => by
  rw [E.1]
  refine W.widen h1 h2 ?_
  exact W.zret C.1 C.2.1 ht (bl_narrow hb) (fun t htt _ => ⟨⟨v, S, rfl, ⟨hb, h⟩, by rw [htt]; exact hP, hD, hG⟩, hS.F htt⟩) hS.2.2 hd (hlocks := E.2)
theorem r_lret (C : Cx X cc own nL rm) {Q : Int64 → HS → Prop} (E : ReJ X rm Q) (ht : (xh X).sig.returnType = some .long) {v : Int64} (hd : decode cc pc = .ok (.lreturn, 1)) (h1 : k ≤ rm.cells) (h2 : n ≤ rm.slots) (h : Q v S) : WS X nL k n pc lv [.long v] S := fun H locs ls hP hD hS hG hv => by
  rw [E.1]
  refine W.widen h1 h2 ?_
  exact W.lret C.1 C.2.1 ht (fun t htt _ => ⟨⟨v, S, rfl, h, by rw [htt]; exact hP, hD, hG⟩, hS.F htt⟩) hS.2.2 hd (hlocks := E.2)
theorem r_vret (C : Cx X cc own nL rm) {Q : HS → Prop} (E : ReV X rm Q) (ht : (xh X).sig.returnType = none) (hd : decode cc pc = .ok (.return_, 1)) (h1 : k ≤ rm.cells) (h2 : n ≤ rm.slots) (h : Q S) : WS X nL k n pc lv [] S := fun H locs ls hP hD hS hG hv => by
  rw [E.1]
  refine W.widen h1 h2 ?_
  exact W.vret C.1 C.2.1 ht (fun t htt _ => ⟨⟨S, rfl, h, by rw [htt]; exact hP, hD, hG⟩, hS.F htt⟩) hS.2.2 hd (hlocks := E.2)
theorem r_aret (C : Cx X cc own nL rm) {Q : Option Nat → HS → Prop} (E : ReR X rm Q) {rt : FieldType} (ht : (xh X).sig.returnType = some rt) (hrt : (∃ n, rt = .object n) ∨ ∃ t, rt = .array t) {v : Nat} (hd : decode cc pc = .ok (.areturn, 1)) (h1 : k ≤ rm.cells) (h2 : n ≤ rm.slots) (h : Q (some v) S) : WS X nL k n pc lv [.ref v] S := fun H locs ls hP hD hS hG hv => by
  rw [E.1]
  refine W.widen h1 h2 ?_
  exact W.aret C.1 C.2.1 ht hrt (Or.inr ⟨v, rfl⟩) (fun t htt _ => ⟨⟨some v, S, rfl, h, by rw [htt]; exact hP, hD, hG⟩, hS.F htt⟩) hS.2.2 hd (hlocks := E.2)
end Returns
/-- a method is opened: its body from its entry -/
theorem openI {l : Launch} {y : MethodName} {cc : ByteArray} {nL : Nat} {ret : Option FieldType} {rm : Room} {E : EE} {S : HS} {av : List Value} {Q : Int32 → HS → Prop} (hy : plainName y.cls = true) (hlen : (lg_sl av).length ≤ nL) (body : ∀ X : CX, Cx X cc y.cls nL rm → ReI X rm Q → (xh X).sig.returnType = ret → (xh X).name = y.name → xE X = E → xl X = l → WS X nL 0 0 0 (lv_args 0 av) [] S) : MI l y cc nL ret rm E S av Q := by
  intro sz
  refine Met.ofW (cc := cc) (maxL := nL) (ret := ret) hy rfl ?_
  intro p e s m args below meth c s₁ B hml hv
  obtain ⟨rfl, hsz, hP, hD, hE⟩ := hv
  subst hsz
  have hts := atoms_spec (ws := mW y cc nL ret) B.pre
  have hw := body (p, l, e, rm, s, m, _, below, meth, c, E, S, mA E S s.heap.size, MQ below (va_Qi Q (mB E (mA E S s.heap.size) S) (mA E S s.heap.size)) _ s rm.cells rm.slots (mA E S s.heap.size)) ⟨B.exec, B.bytes, hml, findClass_of_methodNamed B.named, fun w h => hts w (List.mem_cons_of_mem _ h), hE, fun q h => Or.inr h, rfl⟩ ⟨rfl, B.notSynchronized⟩ B.returns (name_of_methodNamed B.named B.method).1 rfl rfl
  have hl := lv_entry av (n := nL) hlen
  rw [lg_entry_eq]
  exact hw s.heap [] _ hP hD.self va_S.rf (gr_rf S) hl
/-- a method is opened: its body from its entry -/
theorem openJ {l : Launch} {y : MethodName} {cc : ByteArray} {nL : Nat} {ret : Option FieldType} {rm : Room} {E : EE} {S : HS} {av : List Value} {Q : Int64 → HS → Prop} (hy : plainName y.cls = true) (hlen : (lg_sl av).length ≤ nL) (body : ∀ X : CX, Cx X cc y.cls nL rm → ReJ X rm Q → (xh X).sig.returnType = ret → (xh X).name = y.name → xE X = E → xl X = l → WS X nL 0 0 0 (lv_args 0 av) [] S) : MJ l y cc nL ret rm E S av Q := by
  intro sz
  refine Met.ofW (cc := cc) (maxL := nL) (ret := ret) hy rfl ?_
  intro p e s m args below meth c s₁ B hml hv
  obtain ⟨rfl, hsz, hP, hD, hE⟩ := hv
  subst hsz
  have hts := atoms_spec (ws := mW y cc nL ret) B.pre
  have hw := body (p, l, e, rm, s, m, _, below, meth, c, E, S, mA E S s.heap.size, MQ below (va_Ql Q (mB E (mA E S s.heap.size) S) (mA E S s.heap.size)) _ s rm.cells rm.slots (mA E S s.heap.size)) ⟨B.exec, B.bytes, hml, findClass_of_methodNamed B.named, fun w h => hts w (List.mem_cons_of_mem _ h), hE, fun q h => Or.inr h, rfl⟩ ⟨rfl, B.notSynchronized⟩ B.returns (name_of_methodNamed B.named B.method).1 rfl rfl
  have hl := lv_entry av (n := nL) hlen
  rw [lg_entry_eq]
  exact hw s.heap [] _ hP hD.self va_S.rf (gr_rf S) hl
/-- a method is opened: its body from its entry -/
theorem openV {l : Launch} {y : MethodName} {cc : ByteArray} {nL : Nat} {ret : Option FieldType} {rm : Room} {E : EE} {S : HS} {av : List Value} {Q : HS → Prop} (hy : plainName y.cls = true) (hlen : (lg_sl av).length ≤ nL) (body : ∀ X : CX, Cx X cc y.cls nL rm → ReV X rm Q → (xh X).sig.returnType = ret → (xh X).name = y.name → xE X = E → xl X = l → WS X nL 0 0 0 (lv_args 0 av) [] S) : MV l y cc nL ret rm E S av Q := by
  intro sz
  refine Met.ofW (cc := cc) (maxL := nL) (ret := ret) hy rfl ?_
  intro p e s m args below meth c s₁ B hml hv
  obtain ⟨rfl, hsz, hP, hD, hE⟩ := hv
  subst hsz
  have hts := atoms_spec (ws := mW y cc nL ret) B.pre
  have hw := body (p, l, e, rm, s, m, _, below, meth, c, E, S, mA E S s.heap.size, MQ below (va_Qv Q (mB E (mA E S s.heap.size) S) (mA E S s.heap.size)) _ s rm.cells rm.slots (mA E S s.heap.size)) ⟨B.exec, B.bytes, hml, findClass_of_methodNamed B.named, fun w h => hts w (List.mem_cons_of_mem _ h), hE, fun q h => Or.inr h, rfl⟩ ⟨rfl, B.notSynchronized⟩ B.returns (name_of_methodNamed B.named B.method).1 rfl rfl
  have hl := lv_entry av (n := nL) hlen
  rw [lg_entry_eq]
  exact hw s.heap [] _ hP hD.self va_S.rf (gr_rf S) hl
/-- a method is opened: its body from its entry -/
theorem openR {l : Launch} {y : MethodName} {cc : ByteArray} {nL : Nat} {ret : Option FieldType} {rm : Room} {E : EE} {S : HS} {av : List Value} {Q : Option Nat → HS → Prop} (hy : plainName y.cls = true) (hlen : (lg_sl av).length ≤ nL) (body : ∀ X : CX, Cx X cc y.cls nL rm → ReR X rm Q → (xh X).sig.returnType = ret → (xh X).name = y.name → xE X = E → xl X = l → WS X nL 0 0 0 (lv_args 0 av) [] S) : MR l y cc nL ret rm E S av Q := by
  intro sz
  refine Met.ofW (cc := cc) (maxL := nL) (ret := ret) hy rfl ?_
  intro p e s m args below meth c s₁ B hml hv
  obtain ⟨rfl, hsz, hP, hD, hE⟩ := hv
  subst hsz
  have hts := atoms_spec (ws := mW y cc nL ret) B.pre
  have hw := body (p, l, e, rm, s, m, _, below, meth, c, E, S, mA E S s.heap.size, MQ below (va_Qq Q (mB E (mA E S s.heap.size) S) (mA E S s.heap.size)) _ s rm.cells rm.slots (mA E S s.heap.size)) ⟨B.exec, B.bytes, hml, findClass_of_methodNamed B.named, fun w h => hts w (List.mem_cons_of_mem _ h), hE, fun q h => Or.inr h, rfl⟩ ⟨rfl, B.notSynchronized⟩ B.returns (name_of_methodNamed B.named B.method).1 rfl rfl
  have hl := lv_entry av (n := nL) hlen
  rw [lg_entry_eq]
  exact hw s.heap [] _ hP hD.self va_S.rf (gr_rf S) hl
/-- what the words say of a callee: by its class (virtual), static, made -/
def YV (y : MethodName) (cc : ByteArray) (nL : Nat) (ret : Option FieldType) (ci nA : Nat) : Prop := (∃ q : vw_C, vwCl[ci]? = some q ∧ y.cls = q.1) ∧ ci < 12 ∧ Cond.instanceMethod y ∈ G ∧ Cond.selects y.cls y y ∈ G ∧ Cond.initialized y.cls ∈ G ∧ Cond.code y cc nL ret ∈ G ∧ y.cls ≠ "java/lang/invoke/MethodHandle" ∧ y.cls ≠ "java/lang/invoke/VarHandle" ∧ (parseMethodDescriptor y.desc).map (fun d => d.parameters.length) = some nA
def YS (y : MethodName) (cc : ByteArray) (nL : Nat) (ret : Option FieldType) (nA : Nat) : Prop := Cond.static y ∈ G ∧ Cond.initialized y.cls ∈ G ∧ Cond.code y cc nL ret ∈ G ∧ y.cls ≠ "java/lang/invoke/MethodHandle" ∧ y.cls ≠ "java/lang/invoke/VarHandle" ∧ (parseMethodDescriptor y.desc).map (fun d => d.parameters.length) = some nA
def YI (y : MethodName) (cc : ByteArray) (nL : Nat) (nA : Nat) : Prop := Cond.instanceMethod y ∈ G ∧ Cond.initialized y.cls ∈ G ∧ Cond.code y cc nL none ∈ G ∧ y.name = "<init>" ∧ y.cls ≠ "java/lang/invoke/MethodHandle" ∧ y.cls ≠ "java/lang/invoke/VarHandle" ∧ (parseMethodDescriptor y.desc).map (fun d => d.parameters.length) = some nA
theorem gdW {y : MethodName} {cc : ByteArray} {nL : Nat} {ret : Option FieldType} (h : Cond.code y cc nL ret ∈ G) : GoodIn G (mW y cc nL ret) := fun w hw => by
  rcases List.mem_cons.mp hw with rfl | hw
  · exact G_good _ h
  · exact G_good _ hw
theorem gdV {own : String} {i : Nat} {y : MethodName} {cc : ByteArray} {nL : Nat} {ret : Option FieldType} (h1 : Cond.methodLink own i y ∈ G) (h2 : Cond.instanceMethod y ∈ G) (h3 : Cond.selects y.cls y y ∈ G) (h4 : Cond.initialized y.cls ∈ G) (h5 : Cond.code y cc nL ret ∈ G) : GoodIn G (wsV own i y.cls y (mW y cc nL ret)) := fun w hw => by
  rcases List.mem_append.mp hw with hw | hw
  · simp only [List.mem_cons, List.not_mem_nil, or_false] at hw
    rcases hw with rfl | rfl | rfl | rfl
    · exact G_good _ h1
    · exact G_good _ h2
    · exact G_good _ h3
    · exact G_good _ h4
  · exact gdW h5 w hw
theorem gdS {own : String} {i : Nat} {y : MethodName} {cc : ByteArray} {nL : Nat} {ret : Option FieldType} (h1 : Cond.methodLink own i y ∈ G) (h2 : Cond.static y ∈ G) (h4 : Cond.initialized own ∈ G) (h5 : Cond.code y cc nL ret ∈ G) : GoodIn G (wsS own i y (mW y cc nL ret)) := fun w hw => by
  rcases List.mem_append.mp hw with hw | hw
  · simp only [List.mem_cons, List.not_mem_nil, or_false] at hw
    rcases hw with rfl | rfl | rfl
    · exact G_good _ h1
    · exact G_good _ h2
    · exact G_good _ h4
  · exact gdW h5 w hw
section Calls
variable {X : CX} {cc : ByteArray} {own : String} {nL k n pc : Nat} {lv lv' : List (Nat × Value)} {st rest : List Value} {S : HS} {rm : Room}
/-- the callee's pool is the caller's -/
theorem pl_free {H : Heap} {locs : List Loc} (C : Cx X cc own nL rm) (hD : va_D (xA X) (pw (ey (xE X)) S)) (hS : va_S (xA X) (xs X).heap H locs) : ∀ q, mA (xE X) S H.size q → xA X q := fun q h => by
  rcases h with ⟨z, e, h⟩ | h
  · exact hD.2 z _ h
  · exact C.2.2.2.2.2.2.1 q (Nat.le_trans hS.1 h)
theorem pl_pre {H : Heap} {locs : List Loc} (C : Cx X cc own nL rm) (av : List Value) (hP : va_P (eD (xE X)) vwCl (pw (ey (xE X)) S) H) (hD : va_D (xA X) (pw (ey (xE X)) S)) (hS : va_S (xA X) (xs X).heap H locs) : ∀ U : State, U.heap = H → (xs X).WarmedH U.vm → mP (xE X) H.size S av av.toArray U := fun U hU hW => by
  refine ⟨rfl, by rw [hU], by rw [hU]; exact hP, hD.weaken (fun _ _ _ _ => trivial), ?_⟩
  exact C.2.2.2.2.2.1.call hS (pl_free C hD hS) hW hU
theorem r_callVi (C : Cx X cc own nL rm) {y : MethodName} {bytes : ByteArray} {nL2 nA i : Nat} {ci : Nat} {a : Nat} {ret : Option FieldType} {rm2 : Room} {Q : Int32 → HS → Prop} (ho : ob S a ci) (As : List Value) (hY : YV y bytes nL2 ret ci nA) (hw : Cond.methodLink own i y ∈ G) (hM : MI (xl X) y bytes nL2 ret rm2 (xE X) S (.ref a :: As) Q) (hd : decode cc pc = .ok (.invokevirtual i, 3)) (hst : st = As.reverse ++ .ref a :: rest) (hn : As.length = nA) (hsum : (rest.map fun v => v.category).sum ≤ 8) (hrm : rm2.frames + 1 ≤ rm.frames ∧ 8 + (nL2 + 11) + rm2.locals ≤ rm.locals) (hcs : k + rm2.cells ≤ rm.cells ∧ n + rm2.slots ≤ rm.slots) (h : ∀ (r : Int32) (T : HS), Q r T → Gr S T → WS X nL (k + rm2.cells) (n + rm2.slots) (pc + 3) lv (.int r :: rest) T) : WS X nL k n pc lv st S := fun H locs ls hP hD hS hG hv => by
  have hR := C.2.2.2.2.2.2.2
  obtain ⟨⟨q, hq, hyq⟩, h12, w2, w3, w4, w5, w6, w7, w8⟩ := hY
  obtain ⟨k0, hk0⟩ := pw_get (cy := ey (xE X)) ho.1
  rw [cE_obj ho.2 h12] at hk0
  have hrec : ∃ cell : Cell, H[a]? = some cell ∧ cell.vm.isStatics = false ∧ (xs X).vm.findClass y.cls = some cell.cls := by
    rw [hyq]; exact va_recv C.2.2.2.2.2.1.1 hP hq hk0
  refine va_calli (va_runV (As := As) (rest := rest) ⟨C.1, C.2.1, C.2.2.1, C.2.2.2.1, C.2.2.2.2.1⟩ (hM H.size) (cwV nA C.2.2.2.2.1 (gdV hw w2 w3 w4 w5) rfl rfl rfl ⟨rfl, w6, w7, w8⟩ (by rw [hR]; exact hrm)) ⟨mP_blind _ _ _ _, hrec, pl_pre C (.ref a :: As) hP hD hS⟩ rfl hn hv.1 hst (lv_room hsum) hd (by rw [hR]; exact hcs)) hS (fun q _ h => pl_free C hD hS q h) (pl_free C hD hS) (fun r u t H1 locs1 ht hvm hp hB hz hk hS1 => ?_)
  have hP1 := hB.1
  rw [ht] at hP1
  exact h r u hp hB.2.2 H1 locs1 ls hP1 (hB.2.1.weaken (fun _ q _ z => pl_free C hD hS q.1 z)) hS1 (gr_tr hG hB.2.2) hv
theorem r_callVl (C : Cx X cc own nL rm) {y : MethodName} {bytes : ByteArray} {nL2 nA i : Nat} {ci : Nat} {a : Nat} {ret : Option FieldType} {rm2 : Room} {Q : Int64 → HS → Prop} (ho : ob S a ci) (As : List Value) (hY : YV y bytes nL2 ret ci nA) (hw : Cond.methodLink own i y ∈ G) (hM : MJ (xl X) y bytes nL2 ret rm2 (xE X) S (.ref a :: As) Q) (hd : decode cc pc = .ok (.invokevirtual i, 3)) (hst : st = As.reverse ++ .ref a :: rest) (hn : As.length = nA) (hsum : (rest.map fun v => v.category).sum ≤ 8) (hrm : rm2.frames + 1 ≤ rm.frames ∧ 8 + (nL2 + 11) + rm2.locals ≤ rm.locals) (hcs : k + rm2.cells ≤ rm.cells ∧ n + rm2.slots ≤ rm.slots) (h : ∀ (r : Int64) (T : HS), Q r T → Gr S T → WS X nL (k + rm2.cells) (n + rm2.slots) (pc + 3) lv (.long r :: rest) T) : WS X nL k n pc lv st S := fun H locs ls hP hD hS hG hv => by
  have hR := C.2.2.2.2.2.2.2
  obtain ⟨⟨q, hq, hyq⟩, h12, w2, w3, w4, w5, w6, w7, w8⟩ := hY
  obtain ⟨k0, hk0⟩ := pw_get (cy := ey (xE X)) ho.1
  rw [cE_obj ho.2 h12] at hk0
  have hrec : ∃ cell : Cell, H[a]? = some cell ∧ cell.vm.isStatics = false ∧ (xs X).vm.findClass y.cls = some cell.cls := by
    rw [hyq]; exact va_recv C.2.2.2.2.2.1.1 hP hq hk0
  refine va_calll (va_runV (As := As) (rest := rest) ⟨C.1, C.2.1, C.2.2.1, C.2.2.2.1, C.2.2.2.2.1⟩ (hM H.size) (cwV nA C.2.2.2.2.1 (gdV hw w2 w3 w4 w5) rfl rfl rfl ⟨rfl, w6, w7, w8⟩ (by rw [hR]; exact hrm)) ⟨mP_blind _ _ _ _, hrec, pl_pre C (.ref a :: As) hP hD hS⟩ rfl hn hv.1 hst (lv_room hsum) hd (by rw [hR]; exact hcs)) hS (fun q _ h => pl_free C hD hS q h) (pl_free C hD hS) (fun r u t H1 locs1 ht hvm hp hB hz hk hS1 => ?_)
  have hP1 := hB.1
  rw [ht] at hP1
  exact h r u hp hB.2.2 H1 locs1 ls hP1 (hB.2.1.weaken (fun _ q _ z => pl_free C hD hS q.1 z)) hS1 (gr_tr hG hB.2.2) hv
theorem r_callVv (C : Cx X cc own nL rm) {y : MethodName} {bytes : ByteArray} {nL2 nA i : Nat} {ci : Nat} {a : Nat} {ret : Option FieldType} {rm2 : Room} {Q : HS → Prop} (ho : ob S a ci) (As : List Value) (hY : YV y bytes nL2 ret ci nA) (hw : Cond.methodLink own i y ∈ G) (hM : MV (xl X) y bytes nL2 ret rm2 (xE X) S (.ref a :: As) Q) (hd : decode cc pc = .ok (.invokevirtual i, 3)) (hst : st = As.reverse ++ .ref a :: rest) (hn : As.length = nA) (hsum : (rest.map fun v => v.category).sum ≤ 8) (hrm : rm2.frames + 1 ≤ rm.frames ∧ 8 + (nL2 + 11) + rm2.locals ≤ rm.locals) (hcs : k + rm2.cells ≤ rm.cells ∧ n + rm2.slots ≤ rm.slots) (h : ∀ T : HS, Q T → Gr S T → WS X nL (k + rm2.cells) (n + rm2.slots) (pc + 3) lv rest T) : WS X nL k n pc lv st S := fun H locs ls hP hD hS hG hv => by
  have hR := C.2.2.2.2.2.2.2
  obtain ⟨⟨q, hq, hyq⟩, h12, w2, w3, w4, w5, w6, w7, w8⟩ := hY
  obtain ⟨k0, hk0⟩ := pw_get (cy := ey (xE X)) ho.1
  rw [cE_obj ho.2 h12] at hk0
  have hrec : ∃ cell : Cell, H[a]? = some cell ∧ cell.vm.isStatics = false ∧ (xs X).vm.findClass y.cls = some cell.cls := by
    rw [hyq]; exact va_recv C.2.2.2.2.2.1.1 hP hq hk0
  refine va_callv (va_runV (As := As) (rest := rest) ⟨C.1, C.2.1, C.2.2.1, C.2.2.2.1, C.2.2.2.2.1⟩ (hM H.size) (cwV nA C.2.2.2.2.1 (gdV hw w2 w3 w4 w5) rfl rfl rfl ⟨rfl, w6, w7, w8⟩ (by rw [hR]; exact hrm)) ⟨mP_blind _ _ _ _, hrec, pl_pre C (.ref a :: As) hP hD hS⟩ rfl hn hv.1 hst (lv_room hsum) hd (by rw [hR]; exact hcs)) hS (fun q _ h => pl_free C hD hS q h) (pl_free C hD hS) (fun u t H1 locs1 ht hvm hp hB hz hk hS1 => ?_)
  have hP1 := hB.1
  rw [ht] at hP1
  exact h u hp hB.2.2 H1 locs1 ls hP1 (hB.2.1.weaken (fun _ q _ z => pl_free C hD hS q.1 z)) hS1 (gr_tr hG hB.2.2) hv
theorem r_callVr (C : Cx X cc own nL rm) {y : MethodName} {bytes : ByteArray} {nL2 nA i : Nat} {ci : Nat} {a : Nat} {ret : Option FieldType} {rm2 : Room} {Q : Option Nat → HS → Prop} (ho : ob S a ci) (As : List Value) (hY : YV y bytes nL2 ret ci nA) (hw : Cond.methodLink own i y ∈ G) (hM : MR (xl X) y bytes nL2 ret rm2 (xE X) S (.ref a :: As) Q) (hd : decode cc pc = .ok (.invokevirtual i, 3)) (hst : st = As.reverse ++ .ref a :: rest) (hn : As.length = nA) (hsum : (rest.map fun v => v.category).sum ≤ 8) (hrm : rm2.frames + 1 ≤ rm.frames ∧ 8 + (nL2 + 11) + rm2.locals ≤ rm.locals) (hcs : k + rm2.cells ≤ rm.cells ∧ n + rm2.slots ≤ rm.slots) (h : ∀ (r : Option Nat) (T : HS), Q r T → Gr S T → WS X nL (k + rm2.cells) (n + rm2.slots) (pc + 3) lv (va_rf r :: rest) T) : WS X nL k n pc lv st S := fun H locs ls hP hD hS hG hv => by
  have hR := C.2.2.2.2.2.2.2
  obtain ⟨⟨q, hq, hyq⟩, h12, w2, w3, w4, w5, w6, w7, w8⟩ := hY
  obtain ⟨k0, hk0⟩ := pw_get (cy := ey (xE X)) ho.1
  rw [cE_obj ho.2 h12] at hk0
  have hrec : ∃ cell : Cell, H[a]? = some cell ∧ cell.vm.isStatics = false ∧ (xs X).vm.findClass y.cls = some cell.cls := by
    rw [hyq]; exact va_recv C.2.2.2.2.2.1.1 hP hq hk0
  refine va_callq (va_runV (As := As) (rest := rest) ⟨C.1, C.2.1, C.2.2.1, C.2.2.2.1, C.2.2.2.2.1⟩ (hM H.size) (cwV nA C.2.2.2.2.1 (gdV hw w2 w3 w4 w5) rfl rfl rfl ⟨rfl, w6, w7, w8⟩ (by rw [hR]; exact hrm)) ⟨mP_blind _ _ _ _, hrec, pl_pre C (.ref a :: As) hP hD hS⟩ rfl hn hv.1 hst (lv_room hsum) hd (by rw [hR]; exact hcs)) hS (fun q _ h => pl_free C hD hS q h) (pl_free C hD hS) (fun r u t H1 locs1 ht hvm hp hB hz hk hS1 => ?_)
  have hP1 := hB.1
  rw [ht] at hP1
  exact h r u hp hB.2.2 H1 locs1 ls hP1 (hB.2.1.weaken (fun _ q _ z => pl_free C hD hS q.1 z)) hS1 (gr_tr hG hB.2.2) hv
theorem r_callSi (C : Cx X cc own nL rm) {y : MethodName} {bytes : ByteArray} {nL2 nA i : Nat}  {ret : Option FieldType} {rm2 : Room} {Q : Int32 → HS → Prop} (hyo : y.cls = own) (As : List Value) (hY : YS y bytes nL2 ret nA) (hw : Cond.methodLink own i y ∈ G) (hM : MI (xl X) y bytes nL2 ret rm2 (xE X) S As Q) (hd : decode cc pc = .ok (.invokestatic i, 3)) (hst : st = As.reverse ++ rest) (hn : As.length = nA) (hsum : (rest.map fun v => v.category).sum ≤ 8) (hrm : rm2.frames + 1 ≤ rm.frames ∧ 8 + (nL2 + 11) + rm2.locals ≤ rm.locals) (hcs : k + rm2.cells ≤ rm.cells ∧ n + rm2.slots ≤ rm.slots) (h : ∀ (r : Int32) (T : HS), Q r T → Gr S T → WS X nL (k + rm2.cells) (n + rm2.slots) (pc + 3) lv (.int r :: rest) T) : WS X nL k n pc lv st S := fun H locs ls hP hD hS hG hv => by
  have hR := C.2.2.2.2.2.2.2
  obtain ⟨w2, w4, w5, w6, w7, w8⟩ := hY
  refine va_calli (va_runS (As := As) (rest := rest) ⟨C.1, C.2.1, C.2.2.1, C.2.2.2.1, C.2.2.2.2.1⟩ (hM H.size) (cwS nA C.2.2.2.2.1 (gdS hw w2 (hyo ▸ w4) w5) rfl rfl rfl ⟨hyo, w6, w7, w8⟩ (by rw [hR]; exact hrm)) ⟨mP_blind _ _ _ _, pl_pre C As hP hD hS⟩ rfl hn hv.1 hst (lv_room hsum) hd (by rw [hR]; exact hcs)) hS (fun q _ h => pl_free C hD hS q h) (pl_free C hD hS) (fun r u t H1 locs1 ht hvm hp hB hz hk hS1 => ?_)
  have hP1 := hB.1
  rw [ht] at hP1
  exact h r u hp hB.2.2 H1 locs1 ls hP1 (hB.2.1.weaken (fun _ q _ z => pl_free C hD hS q.1 z)) hS1 (gr_tr hG hB.2.2) hv
theorem r_callSl (C : Cx X cc own nL rm) {y : MethodName} {bytes : ByteArray} {nL2 nA i : Nat}  {ret : Option FieldType} {rm2 : Room} {Q : Int64 → HS → Prop} (hyo : y.cls = own) (As : List Value) (hY : YS y bytes nL2 ret nA) (hw : Cond.methodLink own i y ∈ G) (hM : MJ (xl X) y bytes nL2 ret rm2 (xE X) S As Q) (hd : decode cc pc = .ok (.invokestatic i, 3)) (hst : st = As.reverse ++ rest) (hn : As.length = nA) (hsum : (rest.map fun v => v.category).sum ≤ 8) (hrm : rm2.frames + 1 ≤ rm.frames ∧ 8 + (nL2 + 11) + rm2.locals ≤ rm.locals) (hcs : k + rm2.cells ≤ rm.cells ∧ n + rm2.slots ≤ rm.slots) (h : ∀ (r : Int64) (T : HS), Q r T → Gr S T → WS X nL (k + rm2.cells) (n + rm2.slots) (pc + 3) lv (.long r :: rest) T) : WS X nL k n pc lv st S := fun H locs ls hP hD hS hG hv => by
  have hR := C.2.2.2.2.2.2.2
  obtain ⟨w2, w4, w5, w6, w7, w8⟩ := hY
  refine va_calll (va_runS (As := As) (rest := rest) ⟨C.1, C.2.1, C.2.2.1, C.2.2.2.1, C.2.2.2.2.1⟩ (hM H.size) (cwS nA C.2.2.2.2.1 (gdS hw w2 (hyo ▸ w4) w5) rfl rfl rfl ⟨hyo, w6, w7, w8⟩ (by rw [hR]; exact hrm)) ⟨mP_blind _ _ _ _, pl_pre C As hP hD hS⟩ rfl hn hv.1 hst (lv_room hsum) hd (by rw [hR]; exact hcs)) hS (fun q _ h => pl_free C hD hS q h) (pl_free C hD hS) (fun r u t H1 locs1 ht hvm hp hB hz hk hS1 => ?_)
  have hP1 := hB.1
  rw [ht] at hP1
  exact h r u hp hB.2.2 H1 locs1 ls hP1 (hB.2.1.weaken (fun _ q _ z => pl_free C hD hS q.1 z)) hS1 (gr_tr hG hB.2.2) hv
theorem r_callIv (C : Cx X cc own nL rm) {y : MethodName} {bytes : ByteArray} {nL2 nA i : Nat} {a : Nat} {rm2 : Room} {Q : HS → Prop} (As : List Value) (hY : YI y bytes nL2 nA) (hw : Cond.methodLink own i y ∈ G) (hM : MV (xl X) y bytes nL2 none rm2 (xE X) S (.ref a :: As) Q) (hd : decode cc pc = .ok (.invokespecial i, 3)) (hst : st = As.reverse ++ .ref a :: rest) (hn : As.length = nA) (hsum : (rest.map fun v => v.category).sum ≤ 8) (hrm : rm2.frames + 1 ≤ rm.frames ∧ 8 + (nL2 + 11) + rm2.locals ≤ rm.locals) (hcs : k + rm2.cells ≤ rm.cells ∧ n + rm2.slots ≤ rm.slots) (h : ∀ T : HS, Q T → Gr S T → WS X nL (k + rm2.cells) (n + rm2.slots) (pc + 3) lv rest T) : WS X nL k n pc lv st S := fun H locs ls hP hD hS hG hv => by
  have hR := C.2.2.2.2.2.2.2
  obtain ⟨w2, w4, w5, wn, w6, w7, w8⟩ := hY
  refine va_callv (va_runI (As := As) (rest := rest) ⟨C.1, C.2.1, C.2.2.1, C.2.2.2.1, C.2.2.2.2.1⟩ (hM H.size) (cwI nA C.2.2.2.2.1 (gdW w5) rfl rfl rfl (C.2.2.2.2.1 _ w4) (C.2.2.2.2.1 _ hw) (C.2.2.2.2.1 _ w2) wn ⟨w6, w7, w8⟩ (by rw [hR]; exact hrm)) ⟨mP_blind _ _ _ _, pl_pre C (.ref a :: As) hP hD hS⟩ rfl hn hv.1 hst (lv_room hsum) hd (by rw [hR]; exact hcs)) hS (fun q _ h => pl_free C hD hS q h) (pl_free C hD hS) (fun u t H1 locs1 ht hvm hp hB hz hk hS1 => ?_)
  have hP1 := hB.1
  rw [ht] at hP1
  exact h u hp hB.2.2 H1 locs1 ls hP1 (hB.2.1.weaken (fun _ q _ z => pl_free C hD hS q.1 z)) hS1 (gr_tr hG hB.2.2) hv
theorem r_callNv (C : Cx X cc own nL rm) {y : MethodName} {bytes : ByteArray} {nL2 nA i : Nat} {a : Nat} {host : String} {rm2 : Room} {Q : HS → Prop} (As : List Value) (hY : YI y bytes nL2 nA) (hw : (own, i, y, host) ∈ NM) (hM : MV (xl X) y bytes nL2 none rm2 (xE X) S (.ref a :: As) Q) (hd : decode cc pc = .ok (.invokespecial i, 3)) (hst : st = As.reverse ++ .ref a :: rest) (hn : As.length = nA) (hsum : (rest.map fun v => v.category).sum ≤ 8) (hrm : rm2.frames + 1 ≤ rm.frames ∧ 8 + (nL2 + 11) + rm2.locals ≤ rm.locals) (hcs : k + rm2.cells ≤ rm.cells ∧ n + rm2.slots ≤ rm.slots) (h : ∀ T : HS, Q T → Gr S T → WS X nL (k + rm2.cells) (n + rm2.slots) (pc + 3) lv rest T) : WS X nL k n pc lv st S := fun H locs ls hP hD hS hG hv => by
  have hR := C.2.2.2.2.2.2.2
  obtain ⟨w2, w4, w5, wn, w6, w7, w8⟩ := hY
  refine va_callv (va_runIN (As := As) (rest := rest) (host := host) ⟨C.1, C.2.1, C.2.2.1, C.2.2.2.1, C.2.2.2.2.1⟩ (hM H.size) ⟨va_cnB nA C.2.2.2.2.1 (gdW w5) rfl rfl rfl (C.2.2.2.2.2.1.2.2.1 _ hw) (C.2.2.2.2.1 _ w4) ⟨w6, w7, w8⟩ (by rw [hR]; exact hrm), wn, C.2.2.2.2.1 _ w2⟩ ⟨mP_blind _ _ _ _, pl_pre C (.ref a :: As) hP hD hS⟩ rfl hn hv.1 hst (lv_room hsum) hd (by rw [hR]; exact hcs)) hS (fun q _ h => pl_free C hD hS q h) (pl_free C hD hS) (fun u t H1 locs1 ht hvm hp hB hz hk hS1 => ?_)
  have hP1 := hB.1
  rw [ht] at hP1
  exact h u hp hB.2.2 H1 locs1 ls hP1 (hB.2.1.weaken (fun _ q _ z => pl_free C hD hS q.1 z)) hS1 (gr_tr hG hB.2.2) hv
end Calls
end
