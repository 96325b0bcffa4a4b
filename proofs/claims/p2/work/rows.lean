section
/-! ===== BEGIN words of one list among another's, by their places ===== -/
theorem goodIn_r {big : List Cond} (ws : List Cond) (ps : List Nat) (hp : ws = ps.filterMap (fun i => big[i]?)) (h : ws.all goodWord = true) : GoodIn big ws := by
  intro w hw
  have h1 := List.all_eq_true.mp h w hw
  rw [hp] at hw
  obtain ⟨i, -, hi⟩ := List.mem_filterMap.mp hw
  have hm : w ∈ big := by first | exact List.mem_of_getElem? hi | exact List.getElem?_mem hi
  exact ⟨hm, good_of_word h1⟩
theorem goodIn_app {big a b : List Cond} (ha : GoodIn big a) (hb : GoodIn big b) : GoodIn big (a ++ b) := fun w h => (List.mem_append.mp h).elim (ha w) (hb w)
theorem goodIn_ca {big a b : List Cond} {c : Cond} (ha : GoodIn big (c :: a)) (hb : GoodIn big b) : GoodIn big (c :: (a ++ b)) := fun w h => (List.mem_cons.mp h).elim (fun e => ha w (List.mem_cons.mpr (Or.inl e))) (fun h => (List.mem_append.mp h).elim (fun h => ha w (List.mem_cons.mpr (Or.inr h))) (hb w))
theorem goodIn_sub {big ws : List Cond} (hm : ∀ w ∈ ws, w ∈ big) (h : ws.all goodWord = true) : GoodIn big ws := fun w hw => ⟨hm w hw, good_of_word (List.all_eq_true.mp h w hw)⟩
/-! ===== END ===== -/

/-! ===== BEGIN printed: names, fields, word lists, decode rows ===== -/
def RX0 : String := "IceHall$HourSet"
def TX0 : u_T := fun k => match k with
  | _ => ("IceHall$HourSet", "words", "[J", true)
def tyX0 : Nat → FieldType := fun k => match k with
  | _ => .array .long
abbrev wsX00 : List Cond := u_ws RX0 TX0 1
theorem nmX0 : ∀ a, a < 1 → ∀ b, b < 1 → a ≠ b → (TX0 a).2.1 ≠ (TX0 b).2.1 := by decide +kernel
theorem tyX0_ok : ∀ k, k < 1 → parseFieldDescriptor (TX0 k).2.2.1 = some (tyX0 k) := by decide +kernel
abbrev cX0_init : ByteArray := prog_2_method_1_code
def yX0_init : MethodName := ⟨RX0, "<init>", "()V"⟩
abbrev cX0_has : ByteArray := prog_2_method_2_code
def yX0_has : MethodName := ⟨RX0, "has", "(I)Z"⟩
abbrev cX0_put : ByteArray := prog_2_method_3_code
def yX0_put : MethodName := ⟨RX0, "put", "(I)V"⟩
abbrev cX0_drop : ByteArray := prog_2_method_4_code
def yX0_drop : MethodName := ⟨RX0, "drop", "(I)V"⟩
def RX1 : String := "IceHall$Ice"
def TX1 : u_T := fun k => match k with
  | 0 => ("IceHall$Ice", "taken", "LIceHall$HourSet;", true)
  | 1 => ("IceHall$Ice", "closed", "LIceHall$HourSet;", true)
  | 2 => ("IceHall$Ice", "closings", "I", false)
  | 3 => ("IceHall$Ice", "thickness", "I", false)
  | 4 => ("IceHall$Ice", "ruts", "I", false)
  | 5 => ("IceHall$Ice", "shaved", "I", false)
  | 6 => ("IceHall$Ice", "flooded", "I", false)
  | 7 => ("IceHall$Ice", "melted", "I", false)
  | 8 => ("IceHall$Ice", "toShave", "I", false)
  | _ => ("IceHall$Ice", "toFlood", "I", false)
def tyX1 : Nat → FieldType := fun k => match k with
  | 0 => .object "IceHall$HourSet"
  | 1 => .object "IceHall$HourSet"
  | 2 => .int
  | 3 => .int
  | 4 => .int
  | 5 => .int
  | 6 => .int
  | 7 => .int
  | 8 => .int
  | _ => .int
abbrev wsX10 : List Cond := u_ws RX1 TX1 10
theorem nmX1 : ∀ a, a < 10 → ∀ b, b < 10 → a ≠ b → (TX1 a).2.1 ≠ (TX1 b).2.1 := by decide +kernel
theorem tyX1_ok : ∀ k, k < 10 → parseFieldDescriptor (TX1 k).2.2.1 = some (tyX1 k) := by decide +kernel
abbrev cX1_init : ByteArray := prog_3_method_1_code
def yX1_init : MethodName := ⟨RX1, "<init>", "()V"⟩
abbrev cX1_hasRoom : ByteArray := prog_3_method_2_code
def yX1_hasRoom : MethodName := ⟨RX1, "hasRoom", "(II)Z"⟩
abbrev cX1_runThrough : ByteArray := prog_3_method_3_code
def yX1_runThrough : MethodName := ⟨RX1, "runThrough", "(I)I"⟩
abbrev cX1_tellCut : ByteArray := prog_3_method_4_code
def yX1_tellCut : MethodName := ⟨RX1, "tellCut", "(II)V"⟩
abbrev cX1_melt : ByteArray := prog_3_method_5_code
def yX1_melt : MethodName := ⟨RX1, "melt", "(I)V"⟩
abbrev cX1_decide : ByteArray := prog_3_method_6_code
def yX1_decide : MethodName := ⟨RX1, "decide", "(LIceHall$Session;)V"⟩
abbrev cX1_shave : ByteArray := prog_3_method_7_code
def yX1_shave : MethodName := ⟨RX1, "shave", "()V"⟩
abbrev cX1_freeze : ByteArray := prog_3_method_8_code
def yX1_freeze : MethodName := ⟨RX1, "freeze", "(I)V"⟩
def RX2 : String := "IceHall$Mover"
def TX2 : u_T := fun k => match k with
  | 0 => ("IceHall$Mover", "firstIce", "LIceHall$Ice;", true)
  | 1 => ("IceHall$Mover", "secondIce", "LIceHall$Ice;", true)
  | 2 => ("IceHall$Mover", "moved", "[LIceHall$Session;", true)
  | 3 => ("IceHall$Mover", "row", "[I", true)
  | 4 => ("IceHall$Mover", "bestRow", "[I", true)
  | 5 => ("IceHall$Mover", "leastFrom", "[I", true)
  | 6 => ("IceHall$Mover", "size", "I", false)
  | 7 => ("IceHall$Mover", "bestCost", "I", false)
  | 8 => ("IceHall$Mover", "earliest", "I", false)
  | _ => ("IceHall$Mover", "restMost", "I", false)
def tyX2 : Nat → FieldType := fun k => match k with
  | 0 => .object "IceHall$Ice"
  | 1 => .object "IceHall$Ice"
  | 2 => .array (.object "IceHall$Session")
  | 3 => .array .int
  | 4 => .array .int
  | 5 => .array .int
  | 6 => .int
  | 7 => .int
  | 8 => .int
  | _ => .int
abbrev wsX20 : List Cond := u_ws RX2 TX2 10
theorem nmX2 : ∀ a, a < 10 → ∀ b, b < 10 → a ≠ b → (TX2 a).2.1 ≠ (TX2 b).2.1 := by decide +kernel
theorem tyX2_ok : ∀ k, k < 10 → parseFieldDescriptor (TX2 k).2.2.1 = some (tyX2 k) := by decide +kernel
abbrev cX2_init : ByteArray := prog_4_method_1_code
def yX2_init : MethodName := ⟨RX2, "<init>", "(LIceHall$Ice;LIceHall$Ice;)V"⟩
abbrev cX2_begin : ByteArray := prog_4_method_2_code
def yX2_begin : MethodName := ⟨RX2, "begin", "()V"⟩
abbrev cX2_add : ByteArray := prog_4_method_3_code
def yX2_add : MethodName := ⟨RX2, "add", "(LIceHall$Session;)Z"⟩
abbrev cX2_search : ByteArray := prog_4_method_4_code
def yX2_search : MethodName := ⟨RX2, "search", "(II)V"⟩
abbrev cX2_carryOut : ByteArray := prog_4_method_5_code
def yX2_carryOut : MethodName := ⟨RX2, "carryOut", "()I"⟩
abbrev cX2_searchFrom : ByteArray := prog_4_method_6_code
def yX2_searchFrom : MethodName := ⟨RX2, "searchFrom", "(LIceHall$Mover;II)V"⟩
abbrev cX2_keepBest : ByteArray := prog_4_method_7_code
def yX2_keepBest : MethodName := ⟨RX2, "keepBest", "(I)V"⟩
abbrev cX2_leastAlone : ByteArray := prog_4_method_8_code
def yX2_leastAlone : MethodName := ⟨RX2, "leastAlone", "(I)I"⟩
abbrev cX2_canGo : ByteArray := prog_4_method_9_code
def yX2_canGo : MethodName := ⟨RX2, "canGo", "(II)Z"⟩
abbrev cX2_hourOf : ByteArray := prog_4_method_10_code
def yX2_hourOf : MethodName := ⟨RX2, "hourOf", "(II)I"⟩
abbrev cX2_iceOfWay : ByteArray := prog_4_method_11_code
def yX2_iceOfWay : MethodName := ⟨RX2, "iceOfWay", "(I)LIceHall$Ice;"⟩
abbrev cX2_shiftOf : ByteArray := prog_4_method_12_code
def yX2_shiftOf : MethodName := ⟨RX2, "shiftOf", "(I)I"⟩
abbrev cX2_costOf : ByteArray := prog_4_method_13_code
def yX2_costOf : MethodName := ⟨RX2, "costOf", "(I)I"⟩
def RX3 : String := "IceHall$Planner"
def TX3 : u_T := fun k => match k with
  | 0 => ("IceHall$Planner", "wantedAhead", "[I", true)
  | 1 => ("IceHall$Planner", "priceIn", "[I", true)
  | 2 => ("IceHall$Planner", "best", "[I", true)
  | 3 => ("IceHall$Planner", "row", "[I", true)
  | 4 => ("IceHall$Planner", "rowSize", "I", false)
  | 5 => ("IceHall$Planner", "size", "I", false)
  | 6 => ("IceHall$Planner", "store", "I", false)
  | 7 => ("IceHall$Planner", "storeMost", "I", false)
  | _ => ("IceHall$Planner", "working", "I", false)
def tyX3 : Nat → FieldType := fun k => match k with
  | 0 => .array .int
  | 1 => .array .int
  | 2 => .array .int
  | 3 => .array .int
  | 4 => .int
  | 5 => .int
  | 6 => .int
  | 7 => .int
  | _ => .int
abbrev wsX30 : List Cond := u_ws RX3 TX3 9
theorem nmX3 : ∀ a, a < 9 → ∀ b, b < 9 → a ≠ b → (TX3 a).2.1 ≠ (TX3 b).2.1 := by decide +kernel
theorem tyX3_ok : ∀ k, k < 9 → parseFieldDescriptor (TX3 k).2.2.1 = some (tyX3 k) := by decide +kernel
abbrev cX3_init : ByteArray := prog_5_method_1_code
def yX3_init : MethodName := ⟨RX3, "<init>", "()V"⟩
abbrev cX3_begin : ByteArray := prog_5_method_2_code
def yX3_begin : MethodName := ⟨RX3, "begin", "()V"⟩
abbrev cX3_addHour : ByteArray := prog_5_method_3_code
def yX3_addHour : MethodName := ⟨RX3, "addHour", "(II)V"⟩
abbrev cX3_solve : ByteArray := prog_5_method_4_code
def yX3_solve : MethodName := ⟨RX3, "solve", "(III)I"⟩
abbrev cX3_leastOver : ByteArray := prog_5_method_5_code
def yX3_leastOver : MethodName := ⟨RX3, "leastOver", "(II)I"⟩
abbrev cX3_keepRow : ByteArray := prog_5_method_6_code
def yX3_keepRow : MethodName := ⟨RX3, "keepRow", "()V"⟩
abbrev cX3_leastOn : ByteArray := prog_5_method_7_code
def yX3_leastOn : MethodName := ⟨RX3, "leastOn", "(II)I"⟩
abbrev cX3_weightWith : ByteArray := prog_5_method_8_code
def yX3_weightWith : MethodName := ⟨RX3, "weightWith", "(III)I"⟩
def RX4 : String := "IceHall$Rights"
def TX4 : u_T := fun k => match k with
  | 0 => ("IceHall$Rights", "clocks", "I", false)
  | 1 => ("IceHall$Rights", "days", "I", false)
  | 2 => ("IceHall$Rights", "kinds", "I", false)
  | 3 => ("IceHall$Rights", "inWeek", "I", false)
  | 4 => ("IceHall$Rights", "fee", "I", false)
  | _ => ("IceHall$Rights", "hundredths", "I", false)
def tyX4 : Nat → FieldType := fun k => match k with
  | 0 => .int
  | 1 => .int
  | 2 => .int
  | 3 => .int
  | 4 => .int
  | _ => .int
abbrev wsX40 : List Cond := u_ws RX4 TX4 6
theorem nmX4 : ∀ a, a < 6 → ∀ b, b < 6 → a ≠ b → (TX4 a).2.1 ≠ (TX4 b).2.1 := by decide +kernel
theorem tyX4_ok : ∀ k, k < 6 → parseFieldDescriptor (TX4 k).2.2.1 = some (tyX4 k) := by decide +kernel
abbrev cX4_init : ByteArray := prog_6_method_1_code
def yX4_init : MethodName := ⟨RX4, "<init>", "()V"⟩
abbrev cX4_let : ByteArray := prog_6_method_2_code
def yX4_let : MethodName := ⟨RX4, "let", "(II)Z"⟩
abbrev cX4_isIn : ByteArray := prog_6_method_3_code
def yX4_isIn : MethodName := ⟨RX4, "isIn", "(II)Z"⟩
def RX5 : String := "IceHall$RightsReader"
def TX5 : u_T := fun k => match k with
  | 0 => ("IceHall$RightsReader", "tape", "LIceHall$Tape;", true)
  | 1 => ("IceHall$RightsReader", "end", "I", false)
  | 2 => ("IceHall$RightsReader", "place", "I", false)
  | _ => ("IceHall$RightsReader", "fault", "I", false)
def tyX5 : Nat → FieldType := fun k => match k with
  | 0 => .object "IceHall$Tape"
  | 1 => .int
  | 2 => .int
  | _ => .int
abbrev wsX50 : List Cond := u_ws RX5 TX5 4
theorem nmX5 : ∀ a, a < 4 → ∀ b, b < 4 → a ≠ b → (TX5 a).2.1 ≠ (TX5 b).2.1 := by decide +kernel
theorem tyX5_ok : ∀ k, k < 4 → parseFieldDescriptor (TX5 k).2.2.1 = some (tyX5 k) := by decide +kernel
abbrev cX5_init : ByteArray := prog_7_method_1_code
def yX5_init : MethodName := ⟨RX5, "<init>", "(LIceHall$Tape;)V"⟩
abbrev cX5_readInto : ByteArray := prog_7_method_2_code
def yX5_readInto : MethodName := ⟨RX5, "readInto", "(LIceHall$Rights;I)I"⟩
abbrev cX5_readClause : ByteArray := prog_7_method_3_code
def yX5_readClause : MethodName := ⟨RX5, "readClause", "(LIceHall$Rights;)I"⟩
abbrev cX5_readOn : ByteArray := prog_7_method_4_code
def yX5_readOn : MethodName := ⟨RX5, "readOn", "()Z"⟩
abbrev cX5_readWindow : ByteArray := prog_7_method_5_code
def yX5_readWindow : MethodName := ⟨RX5, "readWindow", "()I"⟩
abbrev cX5_readDigits : ByteArray := prog_7_method_6_code
def yX5_readDigits : MethodName := ⟨RX5, "readDigits", "(II)I"⟩
abbrev cX5_readNumber : ByteArray := prog_7_method_7_code
def yX5_readNumber : MethodName := ⟨RX5, "readNumber", "(II)I"⟩
abbrev cX5_isDigit : ByteArray := prog_7_method_8_code
def yX5_isDigit : MethodName := ⟨RX5, "isDigit", "()Z"⟩
abbrev cX5_peek : ByteArray := prog_7_method_9_code
def yX5_peek : MethodName := ⟨RX5, "peek", "()I"⟩
abbrev cX5_fail : ByteArray := prog_7_method_10_code
def yX5_fail : MethodName := ⟨RX5, "fail", "(II)V"⟩
def RX6 : String := "IceHall$Session"
def TX6 : u_T := fun k => match k with
  | 0 => ("IceHall$Session", "byClub", "I", true)
  | 1 => ("IceHall$Session", "kind", "I", true)
  | 2 => ("IceHall$Session", "fee", "I", true)
  | 3 => ("IceHall$Session", "hundredths", "I", true)
  | 4 => ("IceHall$Session", "onSheet", "I", false)
  | 5 => ("IceHall$Session", "hour", "I", false)
  | 6 => ("IceHall$Session", "state", "I", false)
  | 7 => ("IceHall$Session", "whyLost", "I", false)
  | 8 => ("IceHall$Session", "owes", "I", false)
  | _ => ("IceHall$Session", "timesMoved", "I", false)
def tyX6 : Nat → FieldType := fun k => match k with
  | 0 => .int
  | 1 => .int
  | 2 => .int
  | 3 => .int
  | 4 => .int
  | 5 => .int
  | 6 => .int
  | 7 => .int
  | 8 => .int
  | _ => .int
abbrev wsX60 : List Cond := u_ws RX6 TX6 10
theorem nmX6 : ∀ a, a < 10 → ∀ b, b < 10 → a ≠ b → (TX6 a).2.1 ≠ (TX6 b).2.1 := by decide +kernel
theorem tyX6_ok : ∀ k, k < 10 → parseFieldDescriptor (TX6 k).2.2.1 = some (tyX6 k) := by decide +kernel
abbrev cX6_init : ByteArray := prog_8_method_1_code
def yX6_init : MethodName := ⟨RX6, "<init>", "(IIIILIceHall$Rights;)V"⟩
abbrev cX6_stands : ByteArray := prog_8_method_2_code
def yX6_stands : MethodName := ⟨RX6, "stands", "()Z"⟩
abbrev cX6_hold : ByteArray := prog_8_method_3_code
def yX6_hold : MethodName := ⟨RX6, "hold", "()V"⟩
abbrev cX6_lose : ByteArray := prog_8_method_4_code
def yX6_lose : MethodName := ⟨RX6, "lose", "(I)V"⟩
abbrev cX6_moveTo : ByteArray := prog_8_method_5_code
def yX6_moveTo : MethodName := ⟨RX6, "moveTo", "(II)V"⟩
def RX7 : String := "IceHall$Tape"
def TX7 : u_T := fun k => match k with
  | 0 => ("IceHall$Tape", "bytes", "[B", true)
  | _ => ("IceHall$Tape", "size", "I", false)
def tyX7 : Nat → FieldType := fun k => match k with
  | 0 => .array .byte
  | _ => .int
abbrev wsX70 : List Cond := u_ws RX7 TX7 2
theorem nmX7 : ∀ a, a < 2 → ∀ b, b < 2 → a ≠ b → (TX7 a).2.1 ≠ (TX7 b).2.1 := by decide +kernel
theorem tyX7_ok : ∀ k, k < 2 → parseFieldDescriptor (TX7 k).2.2.1 = some (tyX7 k) := by decide +kernel
abbrev cX7_init : ByteArray := prog_9_method_1_code
def yX7_init : MethodName := ⟨RX7, "<init>", "()V"⟩
abbrev cX7_addWord : ByteArray := prog_9_method_2_code
def yX7_addWord : MethodName := ⟨RX7, "addWord", "(I)V"⟩
def RX8 : String := "IceHall"
def TX8 : u_T := fun k => match k with
  | 0 => ("IceHall", "firstIce", "LIceHall$Ice;", true)
  | 1 => ("IceHall", "secondIce", "LIceHall$Ice;", true)
  | 2 => ("IceHall", "rightsInForce", "[LIceHall$Rights;", true)
  | 3 => ("IceHall", "sessions", "[LIceHall$Session;", true)
  | 4 => ("IceHall", "prices", "[I", true)
  | 5 => ("IceHall", "tape", "LIceHall$Tape;", true)
  | 6 => ("IceHall", "reader", "LIceHall$RightsReader;", true)
  | 7 => ("IceHall", "mover", "LIceHall$Mover;", true)
  | 8 => ("IceHall", "planner", "LIceHall$Planner;", true)
  | 9 => ("IceHall", "everBooked", "I", false)
  | 10 => ("IceHall", "now", "I", false)
  | 11 => ("IceHall", "store", "I", false)
  | 12 => ("IceHall", "storeMost", "I", false)
  | 13 => ("IceHall", "working", "I", false)
  | 14 => ("IceHall", "restMost", "I", false)
  | 15 => ("IceHall", "spilt", "I", false)
  | 16 => ("IceHall", "cost", "I", false)
  | _ => ("IceHall", "waste", "I", false)
def tyX8 : Nat → FieldType := fun k => match k with
  | 0 => .object "IceHall$Ice"
  | 1 => .object "IceHall$Ice"
  | 2 => .array (.object "IceHall$Rights")
  | 3 => .array (.object "IceHall$Session")
  | 4 => .array .int
  | 5 => .object "IceHall$Tape"
  | 6 => .object "IceHall$RightsReader"
  | 7 => .object "IceHall$Mover"
  | 8 => .object "IceHall$Planner"
  | 9 => .int
  | 10 => .int
  | 11 => .int
  | 12 => .int
  | 13 => .int
  | 14 => .int
  | 15 => .int
  | 16 => .int
  | _ => .int
abbrev wsX80 : List Cond := u_ws RX8 TX8 18
theorem nmX8 : ∀ a, a < 18 → ∀ b, b < 18 → a ≠ b → (TX8 a).2.1 ≠ (TX8 b).2.1 := by decide +kernel
theorem tyX8_ok : ∀ k, k < 18 → parseFieldDescriptor (TX8 k).2.2.1 = some (tyX8 k) := by decide +kernel
abbrev cX8_init : ByteArray := prog_1_method_1_code
def yX8_init : MethodName := ⟨RX8, "<init>", "()V"⟩
abbrev cX8_feed : ByteArray := prog_1_method_2_code
def yX8_feed : MethodName := ⟨RX8, "feed", "(IIIII)I"⟩
abbrev cX8_rights : ByteArray := prog_1_method_3_code
def yX8_rights : MethodName := ⟨RX8, "rights", "(II)I"⟩
abbrev cX8_most : ByteArray := prog_1_method_4_code
def yX8_most : MethodName := ⟨RX8, "most", "(I)Z"⟩
abbrev cX8_compressors : ByteArray := prog_1_method_5_code
def yX8_compressors : MethodName := ⟨RX8, "compressors", "(I)Z"⟩
abbrev cX8_price : ByteArray := prog_1_method_6_code
def yX8_price : MethodName := ⟨RX8, "price", "(II)Z"⟩
abbrev cX8_rest : ByteArray := prog_1_method_7_code
def yX8_rest : MethodName := ⟨RX8, "rest", "(I)Z"⟩
abbrev cX8_book : ByteArray := prog_1_method_8_code
def yX8_book : MethodName := ⟨RX8, "book", "(IIII)I"⟩
abbrev cX8_cancel : ByteArray := prog_1_method_9_code
def yX8_cancel : MethodName := ⟨RX8, "cancel", "(I)Z"⟩
abbrev cX8_cut : ByteArray := prog_1_method_10_code
def yX8_cut : MethodName := ⟨RX8, "cut", "(III)Z"⟩
abbrev cX8_close : ByteArray := prog_1_method_11_code
def yX8_close : MethodName := ⟨RX8, "close", "(III)I"⟩
abbrev cX8_step : ByteArray := prog_1_method_12_code
def yX8_step : MethodName := ⟨RX8, "step", "(II)I"⟩
abbrev cX8_plan : ByteArray := prog_1_method_13_code
def yX8_plan : MethodName := ⟨RX8, "plan", "(II)I"⟩
abbrev cX8_planned : ByteArray := prog_1_method_14_code
def yX8_planned : MethodName := ⟨RX8, "planned", "(I)I"⟩
abbrev cX8_part : ByteArray := prog_1_method_15_code
def yX8_part : MethodName := ⟨RX8, "part", "(II)I"⟩
abbrev cX8_look : ByteArray := prog_1_method_16_code
def yX8_look : MethodName := ⟨RX8, "look", "(II)I"⟩
abbrev cX8_at : ByteArray := prog_1_method_17_code
def yX8_at : MethodName := ⟨RX8, "at", "(II)I"⟩
abbrev cX8_sheet : ByteArray := prog_1_method_18_code
def yX8_sheet : MethodName := ⟨RX8, "sheet", "(II)I"⟩
abbrev cX8_club : ByteArray := prog_1_method_19_code
def yX8_club : MethodName := ⟨RX8, "club", "(II)I"⟩
abbrev cX8_count : ByteArray := prog_1_method_20_code
def yX8_count : MethodName := ⟨RX8, "count", "(I)I"⟩
abbrev cX8_isBelow : ByteArray := prog_1_method_21_code
def yX8_isBelow : MethodName := ⟨RX8, "isBelow", "(II)Z"⟩
abbrev cX8_isTenths : ByteArray := prog_1_method_22_code
def yX8_isTenths : MethodName := ⟨RX8, "isTenths", "(I)Z"⟩
abbrev cX8_isWarmth : ByteArray := prog_1_method_23_code
def yX8_isWarmth : MethodName := ⟨RX8, "isWarmth", "(I)Z"⟩
abbrev cX8_wantOfWarmth : ByteArray := prog_1_method_24_code
def yX8_wantOfWarmth : MethodName := ⟨RX8, "wantOfWarmth", "(I)I"⟩
abbrev cX8_ofKind : ByteArray := prog_1_method_25_code
def yX8_ofKind : MethodName := ⟨RX8, "ofKind", "([II)I"⟩
abbrev cX8_iceOf : ByteArray := prog_1_method_26_code
def yX8_iceOf : MethodName := ⟨RX8, "iceOf", "(I)LIceHall$Ice;"⟩
abbrev cX8_sessionOf : ByteArray := prog_1_method_27_code
def yX8_sessionOf : MethodName := ⟨RX8, "sessionOf", "(I)LIceHall$Session;"⟩
abbrev cX8_numberAt : ByteArray := prog_1_method_28_code
def yX8_numberAt : MethodName := ⟨RX8, "numberAt", "(II)I"⟩
abbrev cX8_standingAt : ByteArray := prog_1_method_29_code
def yX8_standingAt : MethodName := ⟨RX8, "standingAt", "(II)LIceHall$Session;"⟩
abbrev cX8_heatOf : ByteArray := prog_1_method_30_code
def yX8_heatOf : MethodName := ⟨RX8, "heatOf", "(LIceHall$Session;)I"⟩
abbrev cX8_countInWeek : ByteArray := prog_1_method_31_code
def yX8_countInWeek : MethodName := ⟨RX8, "countInWeek", "(II)I"⟩
abbrev cX8_countInState : ByteArray := prog_1_method_32_code
def yX8_countInState : MethodName := ⟨RX8, "countInState", "(II)I"⟩
abbrev cX8_owedBy : ByteArray := prog_1_method_33_code
def yX8_owedBy : MethodName := ⟨RX8, "owedBy", "(I)I"⟩
abbrev cX8_gatherSessions : ByteArray := prog_1_method_34_code
def yX8_gatherSessions : MethodName := ⟨RX8, "gatherSessions", "(III)Z"⟩
abbrev cX8_runCompressors : ByteArray := prog_1_method_35_code
def yX8_runCompressors : MethodName := ⟨RX8, "runCompressors", "(I)V"⟩
abbrev cX8_passHour : ByteArray := prog_1_method_36_code
def yX8_passHour : MethodName := ⟨RX8, "passHour", "(II)V"⟩
abbrev cX8_makeCut : ByteArray := prog_1_method_37_code
def yX8_makeCut : MethodName := ⟨RX8, "makeCut", "(LIceHall$Ice;)V"⟩
abbrev cX8_partOf : ByteArray := prog_1_method_38_code
def yX8_partOf : MethodName := ⟨RX8, "partOf", "(III)I"⟩
def RX9 : String := "IceHallModel"
def TX9 : u_T := fun k => match k with
  | 0 => ("IceHallModel", "tape", "[B", true)
  | 1 => ("IceHallModel", "taped", "I", false)
  | 2 => ("IceHallModel", "place", "I", false)
  | 3 => ("IceHallModel", "size", "I", false)
  | 4 => ("IceHallModel", "fault", "I", false)
  | 5 => ("IceHallModel", "clocks", "[I", true)
  | 6 => ("IceHallModel", "daysOf", "[I", true)
  | 7 => ("IceHallModel", "kinds", "[I", true)
  | 8 => ("IceHallModel", "limit", "[I", true)
  | 9 => ("IceHallModel", "fee", "[I", true)
  | 10 => ("IceHallModel", "hundredths", "[I", true)
  | 11 => ("IceHallModel", "saidClocks", "I", false)
  | 12 => ("IceHallModel", "saidDays", "I", false)
  | 13 => ("IceHallModel", "saidKinds", "I", false)
  | 14 => ("IceHallModel", "saidLimit", "I", false)
  | 15 => ("IceHallModel", "saidFee", "I", false)
  | 16 => ("IceHallModel", "saidHundredths", "I", false)
  | 17 => ("IceHallModel", "number", "I", false)
  | 18 => ("IceHallModel", "now", "I", false)
  | 19 => ("IceHallModel", "store", "I", false)
  | 20 => ("IceHallModel", "spilt", "I", false)
  | 21 => ("IceHallModel", "cost", "I", false)
  | 22 => ("IceHallModel", "waste", "I", false)
  | 23 => ("IceHallModel", "mostOf", "I", false)
  | 24 => ("IceHallModel", "working", "I", false)
  | 25 => ("IceHallModel", "restOf", "I", false)
  | 26 => ("IceHallModel", "priceOf", "[I", true)
  | 27 => ("IceHallModel", "thick", "[I", true)
  | 28 => ("IceHallModel", "ruts", "[I", true)
  | 29 => ("IceHallModel", "shaved", "[I", true)
  | 30 => ("IceHallModel", "flooded", "[I", true)
  | 31 => ("IceHallModel", "melted", "[I", true)
  | 32 => ("IceHallModel", "cutShave", "[I", true)
  | 33 => ("IceHallModel", "cutFlood", "[I", true)
  | 34 => ("IceHallModel", "hasCut", "[Z", true)
  | 35 => ("IceHallModel", "sessions", "I", false)
  | 36 => ("IceHallModel", "closings", "I", false)
  | 37 => ("IceHallModel", "clubOf", "[I", true)
  | 38 => ("IceHallModel", "kindOf", "[I", true)
  | 39 => ("IceHallModel", "sheetOf", "[I", true)
  | 40 => ("IceHallModel", "hourOf", "[I", true)
  | 41 => ("IceHallModel", "state", "[I", true)
  | 42 => ("IceHallModel", "why", "[I", true)
  | 43 => ("IceHallModel", "feeOf", "[I", true)
  | 44 => ("IceHallModel", "partOf", "[I", true)
  | 45 => ("IceHallModel", "moved", "[I", true)
  | 46 => ("IceHallModel", "closedSheet", "[I", true)
  | 47 => ("IceHallModel", "closedFrom", "[I", true)
  | 48 => ("IceHallModel", "closedTo", "[I", true)
  | 49 => ("IceHallModel", "out", "[I", true)
  | 50 => ("IceHallModel", "way", "[I", true)
  | 51 => ("IceHallModel", "best", "[I", true)
  | 52 => ("IceHallModel", "wayHour", "[I", true)
  | 53 => ("IceHallModel", "outs", "I", false)
  | 54 => ("IceHallModel", "bestLeft", "I", false)
  | 55 => ("IceHallModel", "bestHours", "I", false)
  | 56 => ("IceHallModel", "wants", "[I", true)
  | 57 => ("IceHallModel", "row", "[I", true)
  | 58 => ("IceHallModel", "bestRow", "[I", true)
  | 59 => ("IceHallModel", "told", "[I", true)
  | 60 => ("IceHallModel", "toldMany", "I", false)
  | 61 => ("IceHallModel", "share", "[I", true)
  | _ => ("IceHallModel", "over", "[J", true)
def tyX9 : Nat → FieldType := fun k => match k with
  | 0 => .array .byte
  | 1 => .int
  | 2 => .int
  | 3 => .int
  | 4 => .int
  | 5 => .array .int
  | 6 => .array .int
  | 7 => .array .int
  | 8 => .array .int
  | 9 => .array .int
  | 10 => .array .int
  | 11 => .int
  | 12 => .int
  | 13 => .int
  | 14 => .int
  | 15 => .int
  | 16 => .int
  | 17 => .int
  | 18 => .int
  | 19 => .int
  | 20 => .int
  | 21 => .int
  | 22 => .int
  | 23 => .int
  | 24 => .int
  | 25 => .int
  | 26 => .array .int
  | 27 => .array .int
  | 28 => .array .int
  | 29 => .array .int
  | 30 => .array .int
  | 31 => .array .int
  | 32 => .array .int
  | 33 => .array .int
  | 34 => .array .boolean
  | 35 => .int
  | 36 => .int
  | 37 => .array .int
  | 38 => .array .int
  | 39 => .array .int
  | 40 => .array .int
  | 41 => .array .int
  | 42 => .array .int
  | 43 => .array .int
  | 44 => .array .int
  | 45 => .array .int
  | 46 => .array .int
  | 47 => .array .int
  | 48 => .array .int
  | 49 => .array .int
  | 50 => .array .int
  | 51 => .array .int
  | 52 => .array .int
  | 53 => .int
  | 54 => .int
  | 55 => .int
  | 56 => .array .int
  | 57 => .array .int
  | 58 => .array .int
  | 59 => .array .int
  | 60 => .int
  | 61 => .array .int
  | _ => .array .long
abbrev wsX90 : List Cond := u_ws RX9 TX9 63
theorem nmX9 : ∀ a, a < 63 → ∀ b, b < 63 → a ≠ b → (TX9 a).2.1 ≠ (TX9 b).2.1 := by decide +kernel
theorem tyX9_ok : ∀ k, k < 63 → parseFieldDescriptor (TX9 k).2.2.1 = some (tyX9 k) := by decide +kernel
abbrev cX9_init : ByteArray := prog_11_method_1_code
def yX9_init : MethodName := ⟨RX9, "<init>", "()V"⟩
abbrev cX9_types : ByteArray := prog_11_method_2_code
def yX9_types : MethodName := ⟨RX9, "types", "(I)V"⟩
abbrev cX9_feed : ByteArray := prog_11_method_3_code
def yX9_feed : MethodName := ⟨RX9, "feed", "(IIIII)I"⟩
abbrev cX9_here : ByteArray := prog_11_method_4_code
def yX9_here : MethodName := ⟨RX9, "here", "()I"⟩
abbrev cX9_isDigit : ByteArray := prog_11_method_5_code
def yX9_isDigit : MethodName := ⟨RX9, "isDigit", "()Z"⟩
abbrev cX9_wrong : ByteArray := prog_11_method_6_code
def yX9_wrong : MethodName := ⟨RX9, "wrong", "(II)Z"⟩
abbrev cX9_reads : ByteArray := prog_11_method_7_code
def yX9_reads : MethodName := ⟨RX9, "reads", "(II)Z"⟩
abbrev cX9_readsSet : ByteArray := prog_11_method_8_code
def yX9_readsSet : MethodName := ⟨RX9, "readsSet", "(II)Z"⟩
abbrev cX9_readsClause : ByteArray := prog_11_method_9_code
def yX9_readsClause : MethodName := ⟨RX9, "readsClause", "()Z"⟩
abbrev cX9_readsText : ByteArray := prog_11_method_10_code
def yX9_readsText : MethodName := ⟨RX9, "readsText", "()Z"⟩
abbrev cX9_rights : ByteArray := prog_11_method_11_code
def yX9_rights : MethodName := ⟨RX9, "rights", "(II)I"⟩
abbrev cX9_most : ByteArray := prog_11_method_12_code
def yX9_most : MethodName := ⟨RX9, "most", "(I)Z"⟩
abbrev cX9_compressors : ByteArray := prog_11_method_13_code
def yX9_compressors : MethodName := ⟨RX9, "compressors", "(I)Z"⟩
abbrev cX9_price : ByteArray := prog_11_method_14_code
def yX9_price : MethodName := ⟨RX9, "price", "(II)Z"⟩
abbrev cX9_rest : ByteArray := prog_11_method_15_code
def yX9_rest : MethodName := ⟨RX9, "rest", "(I)Z"⟩
abbrev cX9_rutsOf : ByteArray := prog_11_method_16_code
def yX9_rutsOf : MethodName := ⟨RX9, "rutsOf", "(I)I"⟩
abbrev cX9_heatOf : ByteArray := prog_11_method_17_code
def yX9_heatOf : MethodName := ⟨RX9, "heatOf", "(I)I"⟩
abbrev cX9_isClub : ByteArray := prog_11_method_18_code
def yX9_isClub : MethodName := ⟨RX9, "isClub", "(I)Z"⟩
abbrev cX9_isSheet : ByteArray := prog_11_method_19_code
def yX9_isSheet : MethodName := ⟨RX9, "isSheet", "(I)Z"⟩
abbrev cX9_isClosed : ByteArray := prog_11_method_20_code
def yX9_isClosed : MethodName := ⟨RX9, "isClosed", "(II)Z"⟩
abbrev cX9_standing : ByteArray := prog_11_method_21_code
def yX9_standing : MethodName := ⟨RX9, "standing", "(II)I"⟩
abbrev cX9_inRow : ByteArray := prog_11_method_22_code
def yX9_inRow : MethodName := ⟨RX9, "inRow", "(II)I"⟩
abbrev cX9_inWeek : ByteArray := prog_11_method_23_code
def yX9_inWeek : MethodName := ⟨RX9, "inWeek", "(II)I"⟩
abbrev cX9_book : ByteArray := prog_11_method_24_code
def yX9_book : MethodName := ⟨RX9, "book", "(IIII)I"⟩
abbrev cX9_isSession : ByteArray := prog_11_method_25_code
def yX9_isSession : MethodName := ⟨RX9, "isSession", "(I)Z"⟩
abbrev cX9_cancel : ByteArray := prog_11_method_26_code
def yX9_cancel : MethodName := ⟨RX9, "cancel", "(I)Z"⟩
abbrev cX9_cut : ByteArray := prog_11_method_27_code
def yX9_cut : MethodName := ⟨RX9, "cut", "(III)Z"⟩
abbrev cX9_behind : ByteArray := prog_11_method_28_code
def yX9_behind : MethodName := ⟨RX9, "behind", "(I)I"⟩
abbrev cX9_stands : ByteArray := prog_11_method_29_code
def yX9_stands : MethodName := ⟨RX9, "stands", "()Z"⟩
abbrev cX9_isLess : ByteArray := prog_11_method_30_code
def yX9_isLess : MethodName := ⟨RX9, "isLess", "()Z"⟩
abbrev cX9_tries : ByteArray := prog_11_method_31_code
def yX9_tries : MethodName := ⟨RX9, "tries", "()V"⟩
abbrev cX9_close : ByteArray := prog_11_method_32_code
def yX9_close : MethodName := ⟨RX9, "close", "(III)I"⟩
abbrev cX9_halfOf : ByteArray := prog_11_method_33_code
def yX9_halfOf : MethodName := ⟨RX9, "halfOf", "(I)I"⟩
abbrev cX9_melts : ByteArray := prog_11_method_34_code
def yX9_melts : MethodName := ⟨RX9, "melts", "(II)V"⟩
abbrev cX9_holds : ByteArray := prog_11_method_35_code
def yX9_holds : MethodName := ⟨RX9, "holds", "(II)V"⟩
abbrev cX9_cuts : ByteArray := prog_11_method_36_code
def yX9_cuts : MethodName := ⟨RX9, "cuts", "(I)V"⟩
abbrev cX9_step : ByteArray := prog_11_method_37_code
def yX9_step : MethodName := ⟨RX9, "step", "(II)I"⟩
abbrev cX9_plan : ByteArray := prog_11_method_38_code
def yX9_plan : MethodName := ⟨RX9, "plan", "(II)I"⟩
abbrev cX9_planned : ByteArray := prog_11_method_39_code
def yX9_planned : MethodName := ⟨RX9, "planned", "(I)I"⟩
abbrev cX9_inState : ByteArray := prog_11_method_40_code
def yX9_inState : MethodName := ⟨RX9, "inState", "(II)I"⟩
abbrev cX9_owes : ByteArray := prog_11_method_41_code
def yX9_owes : MethodName := ⟨RX9, "owes", "(I)I"⟩
abbrev cX9_part : ByteArray := prog_11_method_42_code
def yX9_part : MethodName := ⟨RX9, "part", "(II)I"⟩
abbrev cX9_look : ByteArray := prog_11_method_43_code
def yX9_look : MethodName := ⟨RX9, "look", "(II)I"⟩
abbrev cX9_at : ByteArray := prog_11_method_44_code
def yX9_at : MethodName := ⟨RX9, "at", "(II)I"⟩
abbrev cX9_sheet : ByteArray := prog_11_method_45_code
def yX9_sheet : MethodName := ⟨RX9, "sheet", "(II)I"⟩
abbrev cX9_club : ByteArray := prog_11_method_46_code
def yX9_club : MethodName := ⟨RX9, "club", "(II)I"⟩
abbrev cX9_count : ByteArray := prog_11_method_47_code
def yX9_count : MethodName := ⟨RX9, "count", "(I)I"⟩
def RJ9 : String := "java/lang/Math"
def TJ9 : u_T := fun k => match k with
  | _ => ("", "", "", false)
def tyJ9 : Nat → FieldType := fun k => match k with
  | _ => .int
abbrev wsJ90 : List Cond := u_ws RJ9 TJ9 0
theorem nmJ9 : ∀ a, a < 0 → ∀ b, b < 0 → a ≠ b → (TJ9 a).2.1 ≠ (TJ9 b).2.1 := by decide +kernel
theorem tyJ9_ok : ∀ k, k < 0 → parseFieldDescriptor (TJ9 k).2.2.1 = some (tyJ9 k) := by decide +kernel
abbrev cJ9_abs_0f7a4 : ByteArray := prog_12_method_59_code
def yJ9_abs_0f7a4 : MethodName := ⟨RJ9, "abs", "(I)I"⟩
abbrev cJ9_max_7cf53 : ByteArray := prog_12_method_65_code
def yJ9_max_7cf53 : MethodName := ⟨RJ9, "max", "(II)I"⟩
abbrev cJ9_min_7cf53 : ByteArray := prog_12_method_69_code
def yJ9_min_7cf53 : MethodName := ⟨RJ9, "min", "(II)I"⟩
def RJ10 : String := "java/lang/System"
def TJ10 : u_T := fun k => match k with
  | _ => ("", "", "", false)
def tyJ10 : Nat → FieldType := fun k => match k with
  | _ => .int
abbrev wsJ100 : List Cond := u_ws RJ10 TJ10 0
theorem nmJ10 : ∀ a, a < 0 → ∀ b, b < 0 → a ≠ b → (TJ10 a).2.1 ≠ (TJ10 b).2.1 := by decide +kernel
theorem tyJ10_ok : ∀ k, k < 0 → parseFieldDescriptor (TJ10 k).2.2.1 = some (tyJ10 k) := by decide +kernel
def RL : String := "IceHallLaw"
abbrev cL_law : ByteArray := code
def yL_law : MethodName := ⟨RL, "law", "([I)Z"⟩
def wsX0_init : List Cond := .code yX0_init cX0_init 1 none :: ([.methodLink RX0 3 objectInit, .instanceMethod objectInit, .code objectInit ⟨#[0xb1]⟩ 1 none, .arrayClass .long, .fieldLink RX0 9 "IceHall$HourSet" "words" "[J"] ++ wsX00)
def wsX0_has : List Cond := .code yX0_has cX0_has 2 (some .boolean) :: ([.fieldLink RX0 9 "IceHall$HourSet" "words" "[J"] ++ wsX00)
def wsX0_put : List Cond := .code yX0_put cX0_put 2 none :: ([.fieldLink RX0 9 "IceHall$HourSet" "words" "[J"] ++ wsX00)
def wsX0_drop : List Cond := .code yX0_drop cX0_drop 2 none :: ([.fieldLink RX0 9 "IceHall$HourSet" "words" "[J", .constantLong RX0 13 (-1)] ++ wsX00)
def wsX1_init : List Cond := .code yX1_init cX1_init 1 none :: ([.methodLink RX1 3 objectInit, .instanceMethod objectInit, .code objectInit ⟨#[0xb1]⟩ 1 none, .classLink RX1 9 RX0, .instantiable RX0 1, .initialized RX0, .fieldLink RX1 12 "IceHall$Ice" "taken" "LIceHall$HourSet;", .fieldLink RX1 18 "IceHall$Ice" "closed" "LIceHall$HourSet;", .fieldLink RX1 21 "IceHall$Ice" "closings" "I", .fieldLink RX1 25 "IceHall$Ice" "thickness" "I", .fieldLink RX1 28 "IceHall$Ice" "ruts" "I", .fieldLink RX1 31 "IceHall$Ice" "shaved" "I", .fieldLink RX1 34 "IceHall$Ice" "flooded" "I", .fieldLink RX1 37 "IceHall$Ice" "melted" "I", .fieldLink RX1 40 "IceHall$Ice" "toShave" "I", .fieldLink RX1 43 "IceHall$Ice" "toFlood" "I", .instanceMethod yX0_init, .code yX0_init cX0_init 1 none, .methodLink RX0 3 objectInit, .arrayClass .long, .fieldLink RX0 9 "IceHall$HourSet" "words" "[J"] ++ wsX00 ++ wsX10)
def wsX1_runThrough : List Cond := .code yX1_runThrough cX1_runThrough 4 (some .int) :: ([.fieldLink RX1 12 "IceHall$Ice" "taken" "LIceHall$HourSet;", .methodLink RX1 46 yX0_has, .instanceMethod yX0_has, .selects RX0 yX0_has yX0_has, .initialized RX0, .code yX0_has cX0_has 2 (some .boolean), .fieldLink RX0 9 "IceHall$HourSet" "words" "[J"] ++ wsX10 ++ wsX00)
def wsX1_hasRoom : List Cond := .code yX1_hasRoom cX1_hasRoom 3 (some .boolean) :: ([.fieldLink RX1 12 "IceHall$Ice" "taken" "LIceHall$HourSet;", .fieldLink RX1 18 "IceHall$Ice" "closed" "LIceHall$HourSet;", .methodLink RX1 46 yX0_has, .instanceMethod yX0_has, .selects RX0 yX0_has yX0_has, .initialized RX0, .code yX0_has cX0_has 2 (some .boolean), .fieldLink RX0 9 "IceHall$HourSet" "words" "[J", .methodLink RX1 50 yX1_runThrough, .instanceMethod yX1_runThrough, .selects RX1 yX1_runThrough yX1_runThrough, .initialized RX1, .code yX1_runThrough cX1_runThrough 4 (some .int)] ++ wsX10 ++ wsX00)
def wsX1_tellCut : List Cond := .code yX1_tellCut cX1_tellCut 3 none :: ([.fieldLink RX1 40 "IceHall$Ice" "toShave" "I", .fieldLink RX1 43 "IceHall$Ice" "toFlood" "I"] ++ wsX10)
def wsX1_melt : List Cond := .code yX1_melt cX1_melt 3 none :: ([.fieldLink RX1 25 "IceHall$Ice" "thickness" "I", .methodLink RX1 54 Lib.Math.min.name, .static Lib.Math.min.name, .initialized "java/lang/Math", .code Lib.Math.min.name Lib.Math.min.code 2 (some .int), .fieldLink RX1 37 "IceHall$Ice" "melted" "I"] ++ wsX10)
def wsX6_lose : List Cond := .code yX6_lose cX6_lose 2 none :: ([.fieldLink RX6 9 "IceHall$Session" "state" "I", .fieldLink RX6 15 "IceHall$Session" "whyLost" "I"] ++ wsX60)
def wsX6_hold : List Cond := .code yX6_hold cX6_hold 1 none :: ([.fieldLink RX6 9 "IceHall$Session" "state" "I", .fieldLink RX6 41 "IceHall$Session" "fee" "I", .fieldLink RX6 18 "IceHall$Session" "owes" "I"] ++ wsX60)
def wsX8_isBelow : List Cond := .code yX8_isBelow cX8_isBelow 2 (some .boolean) :: ([])
def wsX8_ofKind : List Cond := .code yX8_ofKind cX8_ofKind 2 (some .int) :: ([.methodLink RX8 88 yX8_isBelow, .static yX8_isBelow, .initialized RX8, .code yX8_isBelow cX8_isBelow 2 (some .boolean)])
def wsX1_decide : List Cond := .code yX1_decide cX1_decide 2 none :: ([.fieldLink RX1 25 "IceHall$Ice" "thickness" "I", .fieldLink RX1 28 "IceHall$Ice" "ruts" "I", .fieldLink RX1 73 "IceHall$Session" "kind" "I", .methodLink RX1 60 yX6_lose, .instanceMethod yX6_lose, .selects RX6 yX6_lose yX6_lose, .initialized RX6, .code yX6_lose cX6_lose 2 none, .fieldLink RX6 9 "IceHall$Session" "state" "I", .fieldLink RX6 15 "IceHall$Session" "whyLost" "I", .methodLink RX1 66 yX6_hold, .instanceMethod yX6_hold, .selects RX6 yX6_hold yX6_hold, .code yX6_hold cX6_hold 1 none, .fieldLink RX6 41 "IceHall$Session" "fee" "I", .fieldLink RX6 18 "IceHall$Session" "owes" "I", .static yX8_ofKind, .initialized RX8, .code yX8_ofKind cX8_ofKind 2 (some .int), .methodLink RX8 88 yX8_isBelow, .static yX8_isBelow, .code yX8_isBelow cX8_isBelow 2 (some .boolean)] ++ wsX10 ++ wsX60)
def wsX1_shave : List Cond := .code yX1_shave cX1_shave 2 none :: ([.fieldLink RX1 40 "IceHall$Ice" "toShave" "I", .fieldLink RX1 25 "IceHall$Ice" "thickness" "I", .methodLink RX1 54 Lib.Math.min.name, .static Lib.Math.min.name, .initialized "java/lang/Math", .code Lib.Math.min.name Lib.Math.min.code 2 (some .int), .fieldLink RX1 31 "IceHall$Ice" "shaved" "I", .fieldLink RX1 28 "IceHall$Ice" "ruts" "I", .methodLink RX1 80 Lib.Math.max.name, .static Lib.Math.max.name, .code Lib.Math.max.name Lib.Math.max.code 2 (some .int)] ++ wsX10)
def wsX1_freeze : List Cond := .code yX1_freeze cX1_freeze 2 none :: ([.fieldLink RX1 25 "IceHall$Ice" "thickness" "I", .fieldLink RX1 34 "IceHall$Ice" "flooded" "I"] ++ wsX10)
def wsX2_init : List Cond := .code yX2_init cX2_init 3 none :: ([.methodLink RX2 3 objectInit, .instanceMethod objectInit, .code objectInit ⟨#[0xb1]⟩ 1 none, .classLink RX2 9 RX6, .fieldLink RX2 11 "IceHall$Mover" "moved" "[LIceHall$Session;", .arrayClass .int, .fieldLink RX2 17 "IceHall$Mover" "row" "[I", .fieldLink RX2 21 "IceHall$Mover" "bestRow" "[I", .fieldLink RX2 24 "IceHall$Mover" "leastFrom" "[I", .fieldLink RX2 27 "IceHall$Mover" "firstIce" "LIceHall$Ice;", .fieldLink RX2 31 "IceHall$Mover" "secondIce" "LIceHall$Ice;"] ++ wsX20)
def wsX2_begin : List Cond := .code yX2_begin cX2_begin 1 none :: ([.fieldLink RX2 34 "IceHall$Mover" "size" "I"] ++ wsX20)
def wsX2_add : List Cond := .code yX2_add cX2_add 2 (some .boolean) :: ([.fieldLink RX2 34 "IceHall$Mover" "size" "I", .fieldLink RX2 11 "IceHall$Mover" "moved" "[LIceHall$Session;", .static yX8_isBelow, .initialized RX8, .code yX8_isBelow cX8_isBelow 2 (some .boolean)] ++ wsX20)
def wsX2_shiftOf : List Cond := .code yX2_shiftOf cX2_shiftOf 2 (some .int) :: ([.static yX8_isBelow, .initialized RX8, .code yX8_isBelow cX8_isBelow 2 (some .boolean)])
def wsX2_hourOf : List Cond := .code yX2_hourOf cX2_hourOf 4 (some .int) :: ([.fieldLink RX2 11 "IceHall$Mover" "moved" "[LIceHall$Session;", .fieldLink RX2 107 "IceHall$Session" "hour" "I", .static yX8_isBelow, .initialized RX8, .code yX8_isBelow cX8_isBelow 2 (some .boolean), .methodLink RX2 110 yX2_shiftOf, .static yX2_shiftOf, .initialized RX2, .code yX2_shiftOf cX2_shiftOf 2 (some .int)] ++ wsX20 ++ wsX60)
def wsX2_iceOfWay : List Cond := .code yX2_iceOfWay cX2_iceOfWay 2 (some (.object "IceHall$Ice")) :: ([.fieldLink RX2 27 "IceHall$Mover" "firstIce" "LIceHall$Ice;", .fieldLink RX2 31 "IceHall$Mover" "secondIce" "LIceHall$Ice;"] ++ wsX20)
def wsX2_canGo_r1 : List Cond := [Cond.fieldLink RX2 42 "IceHall$Mover" "earliest" "I", Cond.fieldLink RX2 45 "IceHall$Mover" "restMost" "I", Cond.methodLink RX2 62 yX2_hourOf, Cond.instanceMethod yX2_hourOf, Cond.selects RX2 yX2_hourOf yX2_hourOf, Cond.initialized RX2, Cond.code yX2_hourOf cX2_hourOf 4 (some .int), Cond.fieldLink RX2 11 "IceHall$Mover" "moved" "[LIceHall$Session;", Cond.fieldLink RX2 107 "IceHall$Session" "hour" "I", Cond.static yX8_isBelow, Cond.initialized RX8, Cond.code yX8_isBelow cX8_isBelow 2 (some .boolean), Cond.methodLink RX2 110 yX2_shiftOf, Cond.static yX2_shiftOf, Cond.code yX2_shiftOf cX2_shiftOf 2 (some .int), Cond.methodLink RX2 66 yX2_iceOfWay, Cond.instanceMethod yX2_iceOfWay, Cond.selects RX2 yX2_iceOfWay yX2_iceOfWay, Cond.code yX2_iceOfWay cX2_iceOfWay 2 (some (.object "IceHall$Ice")), Cond.fieldLink RX2 27 "IceHall$Mover" "firstIce" "LIceHall$Ice;", Cond.fieldLink RX2 31 "IceHall$Mover" "secondIce" "LIceHall$Ice;", Cond.methodLink RX2 104 yX1_hasRoom, Cond.instanceMethod yX1_hasRoom, Cond.selects RX1 yX1_hasRoom yX1_hasRoom]
def wsX2_canGo_r2 : List Cond := [Cond.initialized RX1, Cond.code yX1_hasRoom cX1_hasRoom 3 (some .boolean), Cond.fieldLink RX1 12 "IceHall$Ice" "taken" "LIceHall$HourSet;", Cond.fieldLink RX1 18 "IceHall$Ice" "closed" "LIceHall$HourSet;", Cond.methodLink RX1 46 yX0_has, Cond.instanceMethod yX0_has, Cond.selects RX0 yX0_has yX0_has, Cond.initialized RX0, Cond.code yX0_has cX0_has 2 (some .boolean), Cond.fieldLink RX0 9 "IceHall$HourSet" "words" "[J", Cond.methodLink RX1 50 yX1_runThrough, Cond.instanceMethod yX1_runThrough, Cond.selects RX1 yX1_runThrough yX1_runThrough, Cond.code yX1_runThrough cX1_runThrough 4 (some .int)]
def wsX2_canGo : List Cond := .code yX2_canGo cX2_canGo 4 (some .boolean) :: ((wsX2_canGo_r1 ++ wsX2_canGo_r2) ++ wsX20 ++ wsX60 ++ wsX10 ++ wsX00)
def wsX2_costOf : List Cond := .code yX2_costOf cX2_costOf 1 (some .int) :: ([.methodLink RX2 116 Lib.Math.abs.name, .static Lib.Math.abs.name, .initialized "java/lang/Math", .code Lib.Math.abs.name Lib.Math.abs.code 1 (some .int), .methodLink RX2 110 yX2_shiftOf, .static yX2_shiftOf, .initialized RX2, .code yX2_shiftOf cX2_shiftOf 2 (some .int), .static yX8_isBelow, .initialized RX8, .code yX8_isBelow cX8_isBelow 2 (some .boolean)])
def wsX2_leastAlone_r1 : List Cond := [Cond.methodLink RX2 92 yX2_canGo, Cond.instanceMethod yX2_canGo, Cond.selects RX2 yX2_canGo yX2_canGo, Cond.initialized RX2, Cond.code yX2_canGo cX2_canGo 4 (some .boolean), Cond.fieldLink RX2 42 "IceHall$Mover" "earliest" "I", Cond.fieldLink RX2 45 "IceHall$Mover" "restMost" "I", Cond.methodLink RX2 62 yX2_hourOf, Cond.instanceMethod yX2_hourOf, Cond.selects RX2 yX2_hourOf yX2_hourOf, Cond.code yX2_hourOf cX2_hourOf 4 (some .int), Cond.fieldLink RX2 11 "IceHall$Mover" "moved" "[LIceHall$Session;", Cond.fieldLink RX2 107 "IceHall$Session" "hour" "I", Cond.static yX8_isBelow, Cond.initialized RX8, Cond.code yX8_isBelow cX8_isBelow 2 (some .boolean), Cond.methodLink RX2 110 yX2_shiftOf, Cond.static yX2_shiftOf, Cond.code yX2_shiftOf cX2_shiftOf 2 (some .int), Cond.methodLink RX2 66 yX2_iceOfWay, Cond.instanceMethod yX2_iceOfWay, Cond.selects RX2 yX2_iceOfWay yX2_iceOfWay, Cond.code yX2_iceOfWay cX2_iceOfWay 2 (some (.object "IceHall$Ice")), Cond.fieldLink RX2 27 "IceHall$Mover" "firstIce" "LIceHall$Ice;"]
def wsX2_leastAlone_r2 : List Cond := [Cond.fieldLink RX2 31 "IceHall$Mover" "secondIce" "LIceHall$Ice;", Cond.methodLink RX2 104 yX1_hasRoom, Cond.instanceMethod yX1_hasRoom, Cond.selects RX1 yX1_hasRoom yX1_hasRoom, Cond.initialized RX1, Cond.code yX1_hasRoom cX1_hasRoom 3 (some .boolean), Cond.fieldLink RX1 12 "IceHall$Ice" "taken" "LIceHall$HourSet;", Cond.fieldLink RX1 18 "IceHall$Ice" "closed" "LIceHall$HourSet;", Cond.methodLink RX1 46 yX0_has, Cond.instanceMethod yX0_has, Cond.selects RX0 yX0_has yX0_has, Cond.initialized RX0, Cond.code yX0_has cX0_has 2 (some .boolean), Cond.fieldLink RX0 9 "IceHall$HourSet" "words" "[J", Cond.methodLink RX1 50 yX1_runThrough, Cond.instanceMethod yX1_runThrough, Cond.selects RX1 yX1_runThrough yX1_runThrough, Cond.code yX1_runThrough cX1_runThrough 4 (some .int), Cond.methodLink RX2 89 yX2_costOf, Cond.static yX2_costOf, Cond.code yX2_costOf cX2_costOf 1 (some .int), Cond.methodLink RX2 116 Lib.Math.abs.name, Cond.static Lib.Math.abs.name, Cond.initialized "java/lang/Math"]
def wsX2_leastAlone_r3 : List Cond := [Cond.code Lib.Math.abs.name Lib.Math.abs.code 1 (some .int)]
def wsX2_leastAlone : List Cond := .code yX2_leastAlone cX2_leastAlone 3 (some .int) :: ((wsX2_leastAlone_r1 ++ (wsX2_leastAlone_r2 ++ wsX2_leastAlone_r3)) ++ wsX20 ++ wsX60 ++ wsX10 ++ wsX00)
def wsX2_keepBest : List Cond := .code yX2_keepBest cX2_keepBest 2 none :: ([.fieldLink RX2 48 "IceHall$Mover" "bestCost" "I", .fieldLink RX2 17 "IceHall$Mover" "row" "[I", .fieldLink RX2 21 "IceHall$Mover" "bestRow" "[I", .methodLink RX2 98 arraycopyName, .native arraycopyName, .static arraycopyName, .initialized "java/lang/System"] ++ wsX20)
def wsX2_searchFrom_r1 : List Cond := [Cond.fieldLink RX2 34 "IceHall$Mover" "size" "I", Cond.fieldLink RX2 24 "IceHall$Mover" "leastFrom" "[I", Cond.fieldLink RX2 48 "IceHall$Mover" "bestCost" "I", Cond.fieldLink RX2 17 "IceHall$Mover" "row" "[I", Cond.fieldLink RX2 70 "IceHall$Ice" "taken" "LIceHall$HourSet;", Cond.methodLink RX2 86 yX2_keepBest, Cond.instanceMethod yX2_keepBest, Cond.selects RX2 yX2_keepBest yX2_keepBest, Cond.initialized RX2, Cond.code yX2_keepBest cX2_keepBest 2 none, Cond.fieldLink RX2 21 "IceHall$Mover" "bestRow" "[I", Cond.methodLink RX2 98 arraycopyName, Cond.native arraycopyName, Cond.static arraycopyName, Cond.initialized "java/lang/System", Cond.methodLink RX2 89 yX2_costOf, Cond.static yX2_costOf, Cond.code yX2_costOf cX2_costOf 1 (some .int), Cond.methodLink RX2 116 Lib.Math.abs.name, Cond.static Lib.Math.abs.name, Cond.initialized "java/lang/Math", Cond.code Lib.Math.abs.name Lib.Math.abs.code 1 (some .int), Cond.methodLink RX2 110 yX2_shiftOf, Cond.static yX2_shiftOf]
def wsX2_searchFrom_r2 : List Cond := [Cond.code yX2_shiftOf cX2_shiftOf 2 (some .int), Cond.static yX8_isBelow, Cond.initialized RX8, Cond.code yX8_isBelow cX8_isBelow 2 (some .boolean), Cond.methodLink RX2 55 yX2_searchFrom, Cond.static yX2_searchFrom, Cond.methodLink RX2 92 yX2_canGo, Cond.instanceMethod yX2_canGo, Cond.selects RX2 yX2_canGo yX2_canGo, Cond.code yX2_canGo cX2_canGo 4 (some .boolean), Cond.fieldLink RX2 42 "IceHall$Mover" "earliest" "I", Cond.fieldLink RX2 45 "IceHall$Mover" "restMost" "I", Cond.methodLink RX2 62 yX2_hourOf, Cond.instanceMethod yX2_hourOf, Cond.selects RX2 yX2_hourOf yX2_hourOf, Cond.code yX2_hourOf cX2_hourOf 4 (some .int), Cond.fieldLink RX2 11 "IceHall$Mover" "moved" "[LIceHall$Session;", Cond.fieldLink RX2 107 "IceHall$Session" "hour" "I", Cond.methodLink RX2 66 yX2_iceOfWay, Cond.instanceMethod yX2_iceOfWay, Cond.selects RX2 yX2_iceOfWay yX2_iceOfWay, Cond.code yX2_iceOfWay cX2_iceOfWay 2 (some (.object "IceHall$Ice")), Cond.fieldLink RX2 27 "IceHall$Mover" "firstIce" "LIceHall$Ice;", Cond.fieldLink RX2 31 "IceHall$Mover" "secondIce" "LIceHall$Ice;"]
def wsX2_searchFrom_r3 : List Cond := [Cond.methodLink RX2 104 yX1_hasRoom, Cond.instanceMethod yX1_hasRoom, Cond.selects RX1 yX1_hasRoom yX1_hasRoom, Cond.initialized RX1, Cond.code yX1_hasRoom cX1_hasRoom 3 (some .boolean), Cond.fieldLink RX1 12 "IceHall$Ice" "taken" "LIceHall$HourSet;", Cond.fieldLink RX1 18 "IceHall$Ice" "closed" "LIceHall$HourSet;", Cond.methodLink RX1 46 yX0_has, Cond.instanceMethod yX0_has, Cond.selects RX0 yX0_has yX0_has, Cond.initialized RX0, Cond.code yX0_has cX0_has 2 (some .boolean), Cond.fieldLink RX0 9 "IceHall$HourSet" "words" "[J", Cond.methodLink RX1 50 yX1_runThrough, Cond.instanceMethod yX1_runThrough, Cond.selects RX1 yX1_runThrough yX1_runThrough, Cond.code yX1_runThrough cX1_runThrough 4 (some .int), Cond.methodLink RX2 76 yX0_put, Cond.instanceMethod yX0_put, Cond.selects RX0 yX0_put yX0_put, Cond.code yX0_put cX0_put 2 none, Cond.methodLink RX2 95 yX0_drop, Cond.instanceMethod yX0_drop, Cond.selects RX0 yX0_drop yX0_drop]
def wsX2_searchFrom_r4 : List Cond := [Cond.code yX0_drop cX0_drop 2 none, Cond.constantLong RX0 13 (-1)]
def wsX2_searchFrom : List Cond := .code yX2_searchFrom cX2_searchFrom 7 none :: ((wsX2_searchFrom_r1 ++ (wsX2_searchFrom_r2 ++ (wsX2_searchFrom_r3 ++ wsX2_searchFrom_r4))) ++ wsX20 ++ wsX10 ++ wsX60 ++ wsX00)
def wsX2_search_r1 : List Cond := [Cond.fieldLink RX2 42 "IceHall$Mover" "earliest" "I", Cond.fieldLink RX2 45 "IceHall$Mover" "restMost" "I", Cond.fieldLink RX2 48 "IceHall$Mover" "bestCost" "I", Cond.fieldLink RX2 34 "IceHall$Mover" "size" "I", Cond.fieldLink RX2 24 "IceHall$Mover" "leastFrom" "[I", Cond.methodLink RX2 51 yX2_leastAlone, Cond.instanceMethod yX2_leastAlone, Cond.selects RX2 yX2_leastAlone yX2_leastAlone, Cond.initialized RX2, Cond.code yX2_leastAlone cX2_leastAlone 3 (some .int), Cond.methodLink RX2 92 yX2_canGo, Cond.instanceMethod yX2_canGo, Cond.selects RX2 yX2_canGo yX2_canGo, Cond.code yX2_canGo cX2_canGo 4 (some .boolean), Cond.methodLink RX2 62 yX2_hourOf, Cond.instanceMethod yX2_hourOf, Cond.selects RX2 yX2_hourOf yX2_hourOf, Cond.code yX2_hourOf cX2_hourOf 4 (some .int), Cond.fieldLink RX2 11 "IceHall$Mover" "moved" "[LIceHall$Session;", Cond.fieldLink RX2 107 "IceHall$Session" "hour" "I", Cond.static yX8_isBelow, Cond.initialized RX8, Cond.code yX8_isBelow cX8_isBelow 2 (some .boolean), Cond.methodLink RX2 110 yX2_shiftOf]
def wsX2_search_r2 : List Cond := [Cond.static yX2_shiftOf, Cond.code yX2_shiftOf cX2_shiftOf 2 (some .int), Cond.methodLink RX2 66 yX2_iceOfWay, Cond.instanceMethod yX2_iceOfWay, Cond.selects RX2 yX2_iceOfWay yX2_iceOfWay, Cond.code yX2_iceOfWay cX2_iceOfWay 2 (some (.object "IceHall$Ice")), Cond.fieldLink RX2 27 "IceHall$Mover" "firstIce" "LIceHall$Ice;", Cond.fieldLink RX2 31 "IceHall$Mover" "secondIce" "LIceHall$Ice;", Cond.methodLink RX2 104 yX1_hasRoom, Cond.instanceMethod yX1_hasRoom, Cond.selects RX1 yX1_hasRoom yX1_hasRoom, Cond.initialized RX1, Cond.code yX1_hasRoom cX1_hasRoom 3 (some .boolean), Cond.fieldLink RX1 12 "IceHall$Ice" "taken" "LIceHall$HourSet;", Cond.fieldLink RX1 18 "IceHall$Ice" "closed" "LIceHall$HourSet;", Cond.methodLink RX1 46 yX0_has, Cond.instanceMethod yX0_has, Cond.selects RX0 yX0_has yX0_has, Cond.initialized RX0, Cond.code yX0_has cX0_has 2 (some .boolean), Cond.fieldLink RX0 9 "IceHall$HourSet" "words" "[J", Cond.methodLink RX1 50 yX1_runThrough, Cond.instanceMethod yX1_runThrough, Cond.selects RX1 yX1_runThrough yX1_runThrough]
def wsX2_search_r3 : List Cond := [Cond.code yX1_runThrough cX1_runThrough 4 (some .int), Cond.methodLink RX2 89 yX2_costOf, Cond.static yX2_costOf, Cond.code yX2_costOf cX2_costOf 1 (some .int), Cond.methodLink RX2 116 Lib.Math.abs.name, Cond.static Lib.Math.abs.name, Cond.initialized "java/lang/Math", Cond.code Lib.Math.abs.name Lib.Math.abs.code 1 (some .int), Cond.methodLink RX2 55 yX2_searchFrom, Cond.static yX2_searchFrom, Cond.code yX2_searchFrom cX2_searchFrom 7 none, Cond.fieldLink RX2 17 "IceHall$Mover" "row" "[I", Cond.fieldLink RX2 70 "IceHall$Ice" "taken" "LIceHall$HourSet;", Cond.methodLink RX2 86 yX2_keepBest, Cond.instanceMethod yX2_keepBest, Cond.selects RX2 yX2_keepBest yX2_keepBest, Cond.code yX2_keepBest cX2_keepBest 2 none, Cond.fieldLink RX2 21 "IceHall$Mover" "bestRow" "[I", Cond.methodLink RX2 98 arraycopyName, Cond.native arraycopyName, Cond.static arraycopyName, Cond.initialized "java/lang/System", Cond.methodLink RX2 76 yX0_put, Cond.instanceMethod yX0_put]
def wsX2_search_r4 : List Cond := [Cond.selects RX0 yX0_put yX0_put, Cond.code yX0_put cX0_put 2 none, Cond.methodLink RX2 95 yX0_drop, Cond.instanceMethod yX0_drop, Cond.selects RX0 yX0_drop yX0_drop, Cond.code yX0_drop cX0_drop 2 none, Cond.constantLong RX0 13 (-1)]
def wsX2_search : List Cond := .code yX2_search cX2_search 5 none :: ((wsX2_search_r1 ++ (wsX2_search_r2 ++ (wsX2_search_r3 ++ wsX2_search_r4))) ++ wsX20 ++ wsX60 ++ wsX10 ++ wsX00)
def wsX6_moveTo : List Cond := .code yX6_moveTo cX6_moveTo 3 none :: ([.fieldLink RX6 30 "IceHall$Session" "onSheet" "I", .fieldLink RX6 33 "IceHall$Session" "hour" "I", .fieldLink RX6 21 "IceHall$Session" "timesMoved" "I"] ++ wsX60)
def wsX2_carryOut_r1 : List Cond := [Cond.fieldLink RX2 34 "IceHall$Mover" "size" "I", Cond.fieldLink RX2 11 "IceHall$Mover" "moved" "[LIceHall$Session;", Cond.fieldLink RX2 21 "IceHall$Mover" "bestRow" "[I", Cond.fieldLink RX2 59 "IceHall$Session" "state" "I", Cond.fieldLink RX2 70 "IceHall$Ice" "taken" "LIceHall$HourSet;", Cond.methodLink RX2 62 yX2_hourOf, Cond.instanceMethod yX2_hourOf, Cond.selects RX2 yX2_hourOf yX2_hourOf, Cond.initialized RX2, Cond.code yX2_hourOf cX2_hourOf 4 (some .int), Cond.fieldLink RX2 107 "IceHall$Session" "hour" "I", Cond.static yX8_isBelow, Cond.initialized RX8, Cond.code yX8_isBelow cX8_isBelow 2 (some .boolean), Cond.methodLink RX2 110 yX2_shiftOf, Cond.static yX2_shiftOf, Cond.code yX2_shiftOf cX2_shiftOf 2 (some .int), Cond.methodLink RX2 66 yX2_iceOfWay, Cond.instanceMethod yX2_iceOfWay, Cond.selects RX2 yX2_iceOfWay yX2_iceOfWay, Cond.code yX2_iceOfWay cX2_iceOfWay 2 (some (.object "IceHall$Ice")), Cond.fieldLink RX2 27 "IceHall$Mover" "firstIce" "LIceHall$Ice;", Cond.fieldLink RX2 31 "IceHall$Mover" "secondIce" "LIceHall$Ice;", Cond.methodLink RX2 76 yX0_put]
def wsX2_carryOut_r2 : List Cond := [Cond.instanceMethod yX0_put, Cond.selects RX0 yX0_put yX0_put, Cond.initialized RX0, Cond.code yX0_put cX0_put 2 none, Cond.fieldLink RX0 9 "IceHall$HourSet" "words" "[J", Cond.methodLink RX2 82 yX6_moveTo, Cond.instanceMethod yX6_moveTo, Cond.selects RX6 yX6_moveTo yX6_moveTo, Cond.initialized RX6, Cond.code yX6_moveTo cX6_moveTo 3 none, Cond.fieldLink RX6 30 "IceHall$Session" "onSheet" "I", Cond.fieldLink RX6 33 "IceHall$Session" "hour" "I", Cond.fieldLink RX6 21 "IceHall$Session" "timesMoved" "I"]
def wsX2_carryOut : List Cond := .code yX2_carryOut cX2_carryOut 5 (some .int) :: ((wsX2_carryOut_r1 ++ wsX2_carryOut_r2) ++ wsX20 ++ wsX60 ++ wsX10 ++ wsX00)
def wsX3_init : List Cond := .code yX3_init cX3_init 1 none :: ([.methodLink RX3 3 objectInit, .instanceMethod objectInit, .code objectInit ⟨#[0xb1]⟩ 1 none, .arrayClass .int, .fieldLink RX3 9 "IceHall$Planner" "wantedAhead" "[I", .fieldLink RX3 15 "IceHall$Planner" "priceIn" "[I", .fieldLink RX3 18 "IceHall$Planner" "best" "[I", .fieldLink RX3 21 "IceHall$Planner" "row" "[I", .fieldLink RX3 24 "IceHall$Planner" "rowSize" "I"] ++ wsX30)
def wsX3_begin : List Cond := .code yX3_begin cX3_begin 1 none :: ([.fieldLink RX3 28 "IceHall$Planner" "size" "I"] ++ wsX30)
def wsX3_addHour : List Cond := .code yX3_addHour cX3_addHour 3 none :: ([.fieldLink RX3 28 "IceHall$Planner" "size" "I", .fieldLink RX3 15 "IceHall$Planner" "priceIn" "[I", .fieldLink RX3 9 "IceHall$Planner" "wantedAhead" "[I", .static yX8_isBelow, .initialized RX8, .code yX8_isBelow cX8_isBelow 2 (some .boolean)] ++ wsX30)
def wsX3_weightWith : List Cond := .code yX3_weightWith cX3_weightWith 6 (some .int) :: ([.fieldLink RX3 35 "IceHall$Planner" "store" "I", .fieldLink RX3 9 "IceHall$Planner" "wantedAhead" "[I", .fieldLink RX3 38 "IceHall$Planner" "storeMost" "I", .constant RX3 48 (1000000000), .fieldLink RX3 18 "IceHall$Planner" "best" "[I", .fieldLink RX3 15 "IceHall$Planner" "priceIn" "[I", .static yX8_isBelow, .initialized RX8, .code yX8_isBelow cX8_isBelow 2 (some .boolean)] ++ wsX30)
def wsX3_leastOver : List Cond := .code yX3_leastOver cX3_leastOver 5 (some .int) :: ([.constant RX3 48 (1000000000), .fieldLink RX3 41 "IceHall$Planner" "working" "I", .methodLink RX3 56 Lib.Math.min.name, .static Lib.Math.min.name, .initialized "java/lang/Math", .code Lib.Math.min.name Lib.Math.min.code 2 (some .int), .methodLink RX3 52 yX3_weightWith, .instanceMethod yX3_weightWith, .selects RX3 yX3_weightWith yX3_weightWith, .initialized RX3, .code yX3_weightWith cX3_weightWith 6 (some .int), .fieldLink RX3 35 "IceHall$Planner" "store" "I", .fieldLink RX3 9 "IceHall$Planner" "wantedAhead" "[I", .fieldLink RX3 38 "IceHall$Planner" "storeMost" "I", .fieldLink RX3 18 "IceHall$Planner" "best" "[I", .fieldLink RX3 15 "IceHall$Planner" "priceIn" "[I", .static yX8_isBelow, .initialized RX8, .code yX8_isBelow cX8_isBelow 2 (some .boolean)] ++ wsX30)
def wsX3_leastOn : List Cond := .code yX3_leastOn cX3_leastOn 5 (some .int) :: ([.fieldLink RX3 41 "IceHall$Planner" "working" "I", .methodLink RX3 44 yX3_leastOver, .instanceMethod yX3_leastOver, .selects RX3 yX3_leastOver yX3_leastOver, .initialized RX3, .code yX3_leastOver cX3_leastOver 5 (some .int), .constant RX3 48 (1000000000), .methodLink RX3 56 Lib.Math.min.name, .static Lib.Math.min.name, .initialized "java/lang/Math", .code Lib.Math.min.name Lib.Math.min.code 2 (some .int), .methodLink RX3 52 yX3_weightWith, .instanceMethod yX3_weightWith, .selects RX3 yX3_weightWith yX3_weightWith, .code yX3_weightWith cX3_weightWith 6 (some .int), .fieldLink RX3 35 "IceHall$Planner" "store" "I", .fieldLink RX3 9 "IceHall$Planner" "wantedAhead" "[I", .fieldLink RX3 38 "IceHall$Planner" "storeMost" "I", .fieldLink RX3 18 "IceHall$Planner" "best" "[I", .fieldLink RX3 15 "IceHall$Planner" "priceIn" "[I", .static yX8_isBelow, .initialized RX8, .code yX8_isBelow cX8_isBelow 2 (some .boolean)] ++ wsX30)
def wsX3_keepRow_r1 : List Cond := [Cond.fieldLink RX3 28 "IceHall$Planner" "size" "I", Cond.fieldLink RX3 24 "IceHall$Planner" "rowSize" "I", Cond.fieldLink RX3 21 "IceHall$Planner" "row" "[I", Cond.methodLink RX3 61 yX3_leastOn, Cond.instanceMethod yX3_leastOn, Cond.selects RX3 yX3_leastOn yX3_leastOn, Cond.initialized RX3, Cond.code yX3_leastOn cX3_leastOn 5 (some .int), Cond.fieldLink RX3 41 "IceHall$Planner" "working" "I", Cond.methodLink RX3 44 yX3_leastOver, Cond.instanceMethod yX3_leastOver, Cond.selects RX3 yX3_leastOver yX3_leastOver, Cond.code yX3_leastOver cX3_leastOver 5 (some .int), Cond.constant RX3 48 (1000000000), Cond.methodLink RX3 56 Lib.Math.min.name, Cond.static Lib.Math.min.name, Cond.initialized "java/lang/Math", Cond.code Lib.Math.min.name Lib.Math.min.code 2 (some .int), Cond.methodLink RX3 52 yX3_weightWith, Cond.instanceMethod yX3_weightWith, Cond.selects RX3 yX3_weightWith yX3_weightWith, Cond.code yX3_weightWith cX3_weightWith 6 (some .int), Cond.fieldLink RX3 35 "IceHall$Planner" "store" "I", Cond.fieldLink RX3 9 "IceHall$Planner" "wantedAhead" "[I"]
def wsX3_keepRow_r2 : List Cond := [Cond.fieldLink RX3 38 "IceHall$Planner" "storeMost" "I", Cond.fieldLink RX3 18 "IceHall$Planner" "best" "[I", Cond.fieldLink RX3 15 "IceHall$Planner" "priceIn" "[I", Cond.static yX8_isBelow, Cond.initialized RX8, Cond.code yX8_isBelow cX8_isBelow 2 (some .boolean)]
def wsX3_keepRow : List Cond := .code yX3_keepRow cX3_keepRow 4 none :: ((wsX3_keepRow_r1 ++ wsX3_keepRow_r2) ++ wsX30)
def wsX3_solve_r1 : List Cond := [Cond.fieldLink RX3 35 "IceHall$Planner" "store" "I", Cond.fieldLink RX3 38 "IceHall$Planner" "storeMost" "I", Cond.fieldLink RX3 41 "IceHall$Planner" "working" "I", Cond.fieldLink RX3 18 "IceHall$Planner" "best" "[I", Cond.fieldLink RX3 28 "IceHall$Planner" "size" "I", Cond.constant RX3 48 (1000000000), Cond.methodLink RX3 44 yX3_leastOver, Cond.instanceMethod yX3_leastOver, Cond.selects RX3 yX3_leastOver yX3_leastOver, Cond.initialized RX3, Cond.code yX3_leastOver cX3_leastOver 5 (some .int), Cond.methodLink RX3 56 Lib.Math.min.name, Cond.static Lib.Math.min.name, Cond.initialized "java/lang/Math", Cond.code Lib.Math.min.name Lib.Math.min.code 2 (some .int), Cond.methodLink RX3 52 yX3_weightWith, Cond.instanceMethod yX3_weightWith, Cond.selects RX3 yX3_weightWith yX3_weightWith, Cond.code yX3_weightWith cX3_weightWith 6 (some .int), Cond.fieldLink RX3 9 "IceHall$Planner" "wantedAhead" "[I", Cond.fieldLink RX3 15 "IceHall$Planner" "priceIn" "[I", Cond.static yX8_isBelow, Cond.initialized RX8, Cond.code yX8_isBelow cX8_isBelow 2 (some .boolean)]
def wsX3_solve_r2 : List Cond := [Cond.methodLink RX3 49 yX3_keepRow, Cond.instanceMethod yX3_keepRow, Cond.selects RX3 yX3_keepRow yX3_keepRow, Cond.code yX3_keepRow cX3_keepRow 4 none, Cond.fieldLink RX3 24 "IceHall$Planner" "rowSize" "I", Cond.fieldLink RX3 21 "IceHall$Planner" "row" "[I", Cond.methodLink RX3 61 yX3_leastOn, Cond.instanceMethod yX3_leastOn, Cond.selects RX3 yX3_leastOn yX3_leastOn, Cond.code yX3_leastOn cX3_leastOn 5 (some .int)]
def wsX3_solve : List Cond := .code yX3_solve cX3_solve 6 (some .int) :: ((wsX3_solve_r1 ++ wsX3_solve_r2) ++ wsX30)
def wsX4_init : List Cond := .code yX4_init cX4_init 1 none :: ([.methodLink RX4 3 objectInit, .instanceMethod objectInit, .code objectInit ⟨#[0xb1]⟩ 1 none, .constant RX4 11 (16777215), .fieldLink RX4 12 "IceHall$Rights" "clocks" "I", .fieldLink RX4 16 "IceHall$Rights" "days" "I", .fieldLink RX4 19 "IceHall$Rights" "kinds" "I", .fieldLink RX4 22 "IceHall$Rights" "inWeek" "I", .fieldLink RX4 25 "IceHall$Rights" "fee" "I", .fieldLink RX4 28 "IceHall$Rights" "hundredths" "I"] ++ wsX40)
def wsX4_isIn : List Cond := .code yX4_isIn cX4_isIn 2 (some .boolean) :: ([])
def wsX4_let : List Cond := .code yX4_let cX4_let 3 (some .boolean) :: ([.fieldLink RX4 12 "IceHall$Rights" "clocks" "I", .fieldLink RX4 16 "IceHall$Rights" "days" "I", .fieldLink RX4 19 "IceHall$Rights" "kinds" "I", .methodLink RX4 31 yX4_isIn, .static yX4_isIn, .initialized RX4, .code yX4_isIn cX4_isIn 2 (some .boolean)] ++ wsX40)
def wsX5_init : List Cond := .code yX5_init cX5_init 2 none :: ([.methodLink RX5 3 objectInit, .instanceMethod objectInit, .code objectInit ⟨#[0xb1]⟩ 1 none, .fieldLink RX5 9 "IceHall$RightsReader" "tape" "LIceHall$Tape;"] ++ wsX50)
def wsX5_peek : List Cond := .code yX5_peek cX5_peek 1 (some .int) :: ([.fieldLink RX5 19 "IceHall$RightsReader" "place" "I", .fieldLink RX5 15 "IceHall$RightsReader" "end" "I", .fieldLink RX5 9 "IceHall$RightsReader" "tape" "LIceHall$Tape;", .fieldLink RX5 74 "IceHall$Tape" "bytes" "[B"] ++ wsX50 ++ wsX70)
def wsX5_isDigit : List Cond := .code yX5_isDigit cX5_isDigit 2 (some .boolean) :: ([.methodLink RX5 38 yX5_peek, .instanceMethod yX5_peek, .selects RX5 yX5_peek yX5_peek, .initialized RX5, .code yX5_peek cX5_peek 1 (some .int), .fieldLink RX5 19 "IceHall$RightsReader" "place" "I", .fieldLink RX5 15 "IceHall$RightsReader" "end" "I", .fieldLink RX5 9 "IceHall$RightsReader" "tape" "LIceHall$Tape;", .fieldLink RX5 74 "IceHall$Tape" "bytes" "[B"] ++ wsX50 ++ wsX70)
def wsX5_fail : List Cond := .code yX5_fail cX5_fail 3 none :: ([.fieldLink RX5 22 "IceHall$RightsReader" "fault" "I"] ++ wsX50)
def wsX5_readNumber : List Cond := .code yX5_readNumber cX5_readNumber 6 (some .int) :: ([.fieldLink RX5 19 "IceHall$RightsReader" "place" "I", .methodLink RX5 71 yX5_isDigit, .instanceMethod yX5_isDigit, .selects RX5 yX5_isDigit yX5_isDigit, .initialized RX5, .code yX5_isDigit cX5_isDigit 2 (some .boolean), .methodLink RX5 38 yX5_peek, .instanceMethod yX5_peek, .selects RX5 yX5_peek yX5_peek, .code yX5_peek cX5_peek 1 (some .int), .fieldLink RX5 15 "IceHall$RightsReader" "end" "I", .fieldLink RX5 9 "IceHall$RightsReader" "tape" "LIceHall$Tape;", .fieldLink RX5 74 "IceHall$Tape" "bytes" "[B", .methodLink RX5 67 yX5_fail, .instanceMethod yX5_fail, .selects RX5 yX5_fail yX5_fail, .code yX5_fail cX5_fail 3 none, .fieldLink RX5 22 "IceHall$RightsReader" "fault" "I"] ++ wsX50 ++ wsX70)
def wsX5_readWindow : List Cond := .code yX5_readWindow cX5_readWindow 3 (some .int) :: ([.fieldLink RX5 22 "IceHall$RightsReader" "fault" "I", .fieldLink RX5 19 "IceHall$RightsReader" "place" "I", .methodLink RX5 55 yX5_readNumber, .instanceMethod yX5_readNumber, .selects RX5 yX5_readNumber yX5_readNumber, .initialized RX5, .code yX5_readNumber cX5_readNumber 6 (some .int), .methodLink RX5 71 yX5_isDigit, .instanceMethod yX5_isDigit, .selects RX5 yX5_isDigit yX5_isDigit, .code yX5_isDigit cX5_isDigit 2 (some .boolean), .methodLink RX5 38 yX5_peek, .instanceMethod yX5_peek, .selects RX5 yX5_peek yX5_peek, .code yX5_peek cX5_peek 1 (some .int), .fieldLink RX5 15 "IceHall$RightsReader" "end" "I", .fieldLink RX5 9 "IceHall$RightsReader" "tape" "LIceHall$Tape;", .fieldLink RX5 74 "IceHall$Tape" "bytes" "[B", .methodLink RX5 67 yX5_fail, .instanceMethod yX5_fail, .selects RX5 yX5_fail yX5_fail, .code yX5_fail cX5_fail 3 none] ++ wsX50 ++ wsX70)
def wsX5_readDigits : List Cond := .code yX5_readDigits cX5_readDigits 7 (some .int) :: ([.fieldLink RX5 19 "IceHall$RightsReader" "place" "I", .methodLink RX5 71 yX5_isDigit, .instanceMethod yX5_isDigit, .selects RX5 yX5_isDigit yX5_isDigit, .initialized RX5, .code yX5_isDigit cX5_isDigit 2 (some .boolean), .methodLink RX5 38 yX5_peek, .instanceMethod yX5_peek, .selects RX5 yX5_peek yX5_peek, .code yX5_peek cX5_peek 1 (some .int), .fieldLink RX5 15 "IceHall$RightsReader" "end" "I", .fieldLink RX5 9 "IceHall$RightsReader" "tape" "LIceHall$Tape;", .fieldLink RX5 74 "IceHall$Tape" "bytes" "[B", .methodLink RX5 67 yX5_fail, .instanceMethod yX5_fail, .selects RX5 yX5_fail yX5_fail, .code yX5_fail cX5_fail 3 none, .fieldLink RX5 22 "IceHall$RightsReader" "fault" "I"] ++ wsX50 ++ wsX70)
def wsX5_readClause_r1 : List Cond := [Cond.fieldLink RX5 19 "IceHall$RightsReader" "place" "I", Cond.fieldLink RX5 49 "IceHall$Rights" "days" "I", Cond.fieldLink RX5 52 "IceHall$Rights" "kinds" "I", Cond.fieldLink RX5 58 "IceHall$Rights" "inWeek" "I", Cond.fieldLink RX5 61 "IceHall$Rights" "fee" "I", Cond.fieldLink RX5 64 "IceHall$Rights" "hundredths" "I", Cond.methodLink RX5 38 yX5_peek, Cond.instanceMethod yX5_peek, Cond.selects RX5 yX5_peek yX5_peek, Cond.initialized RX5, Cond.code yX5_peek cX5_peek 1 (some .int), Cond.fieldLink RX5 15 "IceHall$RightsReader" "end" "I", Cond.fieldLink RX5 9 "IceHall$RightsReader" "tape" "LIceHall$Tape;", Cond.fieldLink RX5 74 "IceHall$Tape" "bytes" "[B", Cond.methodLink RX5 42 yX5_readWindow, Cond.instanceMethod yX5_readWindow, Cond.selects RX5 yX5_readWindow yX5_readWindow, Cond.code yX5_readWindow cX5_readWindow 3 (some .int), Cond.fieldLink RX5 22 "IceHall$RightsReader" "fault" "I", Cond.methodLink RX5 55 yX5_readNumber, Cond.instanceMethod yX5_readNumber, Cond.selects RX5 yX5_readNumber yX5_readNumber, Cond.code yX5_readNumber cX5_readNumber 6 (some .int), Cond.methodLink RX5 71 yX5_isDigit]
def wsX5_readClause_r2 : List Cond := [Cond.instanceMethod yX5_isDigit, Cond.selects RX5 yX5_isDigit yX5_isDigit, Cond.code yX5_isDigit cX5_isDigit 2 (some .boolean), Cond.methodLink RX5 67 yX5_fail, Cond.instanceMethod yX5_fail, Cond.selects RX5 yX5_fail yX5_fail, Cond.code yX5_fail cX5_fail 3 none, Cond.methodLink RX5 45 yX5_readDigits, Cond.instanceMethod yX5_readDigits, Cond.selects RX5 yX5_readDigits yX5_readDigits, Cond.code yX5_readDigits cX5_readDigits 7 (some .int)]
def wsX5_readClause : List Cond := .code yX5_readClause cX5_readClause 3 (some .int) :: ((wsX5_readClause_r1 ++ wsX5_readClause_r2) ++ wsX50 ++ wsX40 ++ wsX70)
def wsX5_readOn : List Cond := .code yX5_readOn cX5_readOn 2 (some .boolean) :: ([.fieldLink RX5 19 "IceHall$RightsReader" "place" "I", .methodLink RX5 38 yX5_peek, .instanceMethod yX5_peek, .selects RX5 yX5_peek yX5_peek, .initialized RX5, .code yX5_peek cX5_peek 1 (some .int), .fieldLink RX5 15 "IceHall$RightsReader" "end" "I", .fieldLink RX5 9 "IceHall$RightsReader" "tape" "LIceHall$Tape;", .fieldLink RX5 74 "IceHall$Tape" "bytes" "[B", .methodLink RX5 67 yX5_fail, .instanceMethod yX5_fail, .selects RX5 yX5_fail yX5_fail, .code yX5_fail cX5_fail 3 none, .fieldLink RX5 22 "IceHall$RightsReader" "fault" "I"] ++ wsX50 ++ wsX70)
def wsX5_readInto_r1 : List Cond := [Cond.fieldLink RX5 15 "IceHall$RightsReader" "end" "I", Cond.fieldLink RX5 19 "IceHall$RightsReader" "place" "I", Cond.fieldLink RX5 22 "IceHall$RightsReader" "fault" "I", Cond.fieldLink RX5 33 "IceHall$Rights" "clocks" "I", Cond.methodLink RX5 25 yX5_readClause, Cond.instanceMethod yX5_readClause, Cond.selects RX5 yX5_readClause yX5_readClause, Cond.initialized RX5, Cond.code yX5_readClause cX5_readClause 3 (some .int), Cond.fieldLink RX5 49 "IceHall$Rights" "days" "I", Cond.fieldLink RX5 52 "IceHall$Rights" "kinds" "I", Cond.fieldLink RX5 58 "IceHall$Rights" "inWeek" "I", Cond.fieldLink RX5 61 "IceHall$Rights" "fee" "I", Cond.fieldLink RX5 64 "IceHall$Rights" "hundredths" "I", Cond.methodLink RX5 38 yX5_peek, Cond.instanceMethod yX5_peek, Cond.selects RX5 yX5_peek yX5_peek, Cond.code yX5_peek cX5_peek 1 (some .int), Cond.fieldLink RX5 9 "IceHall$RightsReader" "tape" "LIceHall$Tape;", Cond.fieldLink RX5 74 "IceHall$Tape" "bytes" "[B", Cond.methodLink RX5 42 yX5_readWindow, Cond.instanceMethod yX5_readWindow, Cond.selects RX5 yX5_readWindow yX5_readWindow, Cond.code yX5_readWindow cX5_readWindow 3 (some .int)]
def wsX5_readInto_r2 : List Cond := [Cond.methodLink RX5 55 yX5_readNumber, Cond.instanceMethod yX5_readNumber, Cond.selects RX5 yX5_readNumber yX5_readNumber, Cond.code yX5_readNumber cX5_readNumber 6 (some .int), Cond.methodLink RX5 71 yX5_isDigit, Cond.instanceMethod yX5_isDigit, Cond.selects RX5 yX5_isDigit yX5_isDigit, Cond.code yX5_isDigit cX5_isDigit 2 (some .boolean), Cond.methodLink RX5 67 yX5_fail, Cond.instanceMethod yX5_fail, Cond.selects RX5 yX5_fail yX5_fail, Cond.code yX5_fail cX5_fail 3 none, Cond.methodLink RX5 45 yX5_readDigits, Cond.instanceMethod yX5_readDigits, Cond.selects RX5 yX5_readDigits yX5_readDigits, Cond.code yX5_readDigits cX5_readDigits 7 (some .int), Cond.methodLink RX5 29 yX5_readOn, Cond.instanceMethod yX5_readOn, Cond.selects RX5 yX5_readOn yX5_readOn, Cond.code yX5_readOn cX5_readOn 2 (some .boolean)]
def wsX5_readInto : List Cond := .code yX5_readInto cX5_readInto 6 (some .int) :: ((wsX5_readInto_r1 ++ wsX5_readInto_r2) ++ wsX50 ++ wsX40 ++ wsX70)
def wsX6_init : List Cond := .code yX6_init cX6_init 6 none :: ([.methodLink RX6 3 objectInit, .instanceMethod objectInit, .code objectInit ⟨#[0xb1]⟩ 1 none, .fieldLink RX6 9 "IceHall$Session" "state" "I", .fieldLink RX6 15 "IceHall$Session" "whyLost" "I", .fieldLink RX6 18 "IceHall$Session" "owes" "I", .fieldLink RX6 21 "IceHall$Session" "timesMoved" "I", .fieldLink RX6 24 "IceHall$Session" "byClub" "I", .fieldLink RX6 27 "IceHall$Session" "kind" "I", .fieldLink RX6 30 "IceHall$Session" "onSheet" "I", .fieldLink RX6 33 "IceHall$Session" "hour" "I", .fieldLink RX6 36 "IceHall$Rights" "fee" "I", .fieldLink RX6 41 "IceHall$Session" "fee" "I", .fieldLink RX6 42 "IceHall$Rights" "hundredths" "I", .fieldLink RX6 45 "IceHall$Session" "hundredths" "I"] ++ wsX60 ++ wsX40)
def wsX6_stands : List Cond := .code yX6_stands cX6_stands 1 (some .boolean) :: ([.fieldLink RX6 9 "IceHall$Session" "state" "I"] ++ wsX60)
def wsX7_init : List Cond := .code yX7_init cX7_init 1 none :: ([.methodLink RX7 3 objectInit, .instanceMethod objectInit, .code objectInit ⟨#[0xb1]⟩ 1 none, .arrayClass .byte, .fieldLink RX7 9 "IceHall$Tape" "bytes" "[B", .fieldLink RX7 15 "IceHall$Tape" "size" "I"] ++ wsX70)
def wsX7_addWord : List Cond := .code yX7_addWord cX7_addWord 3 none :: ([.fieldLink RX7 15 "IceHall$Tape" "size" "I", .fieldLink RX7 9 "IceHall$Tape" "bytes" "[B", .static yX8_isBelow, .initialized RX8, .code yX8_isBelow cX8_isBelow 2 (some .boolean)] ++ wsX70)
def wsX8_init_r1 : List Cond := [Cond.methodLink RX8 1 objectInit, Cond.instanceMethod objectInit, Cond.code objectInit ⟨#[0xb1]⟩ 1 none, Cond.classLink RX8 7 RX1, Cond.instantiable RX1 10, Cond.initialized RX1, Cond.fieldLink RX8 10 "IceHall" "firstIce" "LIceHall$Ice;", Cond.fieldLink RX8 16 "IceHall" "secondIce" "LIceHall$Ice;", Cond.classLink RX8 19 RX4, Cond.fieldLink RX8 21 "IceHall" "rightsInForce" "[LIceHall$Rights;", Cond.instantiable RX4 6, Cond.initialized RX4, Cond.classLink RX8 26 RX6, Cond.fieldLink RX8 28 "IceHall" "sessions" "[LIceHall$Session;", Cond.arrayClass .int, Cond.fieldLink RX8 32 "IceHall" "prices" "[I", Cond.classLink RX8 36 RX7, Cond.instantiable RX7 2, Cond.initialized RX7, Cond.fieldLink RX8 39 "IceHall" "tape" "LIceHall$Tape;", Cond.classLink RX8 43 RX5, Cond.instantiable RX5 4, Cond.initialized RX5, Cond.fieldLink RX8 48 "IceHall" "reader" "LIceHall$RightsReader;"]
def wsX8_init_r2 : List Cond := [Cond.classLink RX8 52 RX2, Cond.instantiable RX2 10, Cond.initialized RX2, Cond.fieldLink RX8 57 "IceHall" "mover" "LIceHall$Mover;", Cond.classLink RX8 61 RX3, Cond.instantiable RX3 9, Cond.initialized RX3, Cond.fieldLink RX8 64 "IceHall" "planner" "LIceHall$Planner;", Cond.fieldLink RX8 68 "IceHall" "store" "I", Cond.fieldLink RX8 72 "IceHall" "storeMost" "I", Cond.fieldLink RX8 75 "IceHall" "working" "I", Cond.fieldLink RX8 78 "IceHall" "restMost" "I", Cond.instanceMethod yX1_init, Cond.code yX1_init cX1_init 1 none, Cond.methodLink RX1 3 objectInit, Cond.classLink RX1 9 RX0, Cond.instantiable RX0 1, Cond.initialized RX0, Cond.fieldLink RX1 12 "IceHall$Ice" "taken" "LIceHall$HourSet;", Cond.fieldLink RX1 18 "IceHall$Ice" "closed" "LIceHall$HourSet;", Cond.fieldLink RX1 21 "IceHall$Ice" "closings" "I", Cond.fieldLink RX1 25 "IceHall$Ice" "thickness" "I", Cond.fieldLink RX1 28 "IceHall$Ice" "ruts" "I", Cond.fieldLink RX1 31 "IceHall$Ice" "shaved" "I"]
def wsX8_init_r3 : List Cond := [Cond.fieldLink RX1 34 "IceHall$Ice" "flooded" "I", Cond.fieldLink RX1 37 "IceHall$Ice" "melted" "I", Cond.fieldLink RX1 40 "IceHall$Ice" "toShave" "I", Cond.fieldLink RX1 43 "IceHall$Ice" "toFlood" "I", Cond.instanceMethod yX0_init, Cond.code yX0_init cX0_init 1 none, Cond.methodLink RX0 3 objectInit, Cond.arrayClass .long, Cond.fieldLink RX0 9 "IceHall$HourSet" "words" "[J", Cond.instanceMethod yX4_init, Cond.code yX4_init cX4_init 1 none, Cond.methodLink RX4 3 objectInit, Cond.constant RX4 11 (16777215), Cond.fieldLink RX4 12 "IceHall$Rights" "clocks" "I", Cond.fieldLink RX4 16 "IceHall$Rights" "days" "I", Cond.fieldLink RX4 19 "IceHall$Rights" "kinds" "I", Cond.fieldLink RX4 22 "IceHall$Rights" "inWeek" "I", Cond.fieldLink RX4 25 "IceHall$Rights" "fee" "I", Cond.fieldLink RX4 28 "IceHall$Rights" "hundredths" "I", Cond.instanceMethod yX7_init, Cond.code yX7_init cX7_init 1 none, Cond.methodLink RX7 3 objectInit, Cond.arrayClass .byte, Cond.fieldLink RX7 9 "IceHall$Tape" "bytes" "[B"]
def wsX8_init_r4 : List Cond := [Cond.fieldLink RX7 15 "IceHall$Tape" "size" "I", Cond.methodLink RX8 45 yX5_init, Cond.instanceMethod yX5_init, Cond.code yX5_init cX5_init 2 none, Cond.methodLink RX5 3 objectInit, Cond.fieldLink RX5 9 "IceHall$RightsReader" "tape" "LIceHall$Tape;", Cond.methodLink RX8 54 yX2_init, Cond.instanceMethod yX2_init, Cond.code yX2_init cX2_init 3 none, Cond.methodLink RX2 3 objectInit, Cond.classLink RX2 9 RX6, Cond.fieldLink RX2 11 "IceHall$Mover" "moved" "[LIceHall$Session;", Cond.fieldLink RX2 17 "IceHall$Mover" "row" "[I", Cond.fieldLink RX2 21 "IceHall$Mover" "bestRow" "[I", Cond.fieldLink RX2 24 "IceHall$Mover" "leastFrom" "[I", Cond.fieldLink RX2 27 "IceHall$Mover" "firstIce" "LIceHall$Ice;", Cond.fieldLink RX2 31 "IceHall$Mover" "secondIce" "LIceHall$Ice;", Cond.instanceMethod yX3_init, Cond.code yX3_init cX3_init 1 none, Cond.methodLink RX3 3 objectInit, Cond.fieldLink RX3 9 "IceHall$Planner" "wantedAhead" "[I", Cond.fieldLink RX3 15 "IceHall$Planner" "priceIn" "[I", Cond.fieldLink RX3 18 "IceHall$Planner" "best" "[I", Cond.fieldLink RX3 21 "IceHall$Planner" "row" "[I"]
def wsX8_init_r5 : List Cond := [Cond.fieldLink RX3 24 "IceHall$Planner" "rowSize" "I"]
def wsX8_init : List Cond := .code yX8_init cX8_init 3 none :: ((wsX8_init_r1 ++ (wsX8_init_r2 ++ (wsX8_init_r3 ++ (wsX8_init_r4 ++ wsX8_init_r5)))) ++ wsX10 ++ wsX80 ++ wsX40 ++ wsX70 ++ wsX50 ++ wsX20 ++ wsX30 ++ wsX00)
def wsX8_feed : List Cond := .code yX8_feed cX8_feed 6 (some .int) :: ([.fieldLink RX8 39 "IceHall" "tape" "LIceHall$Tape;", .fieldLink RX8 81 "IceHall$Tape" "size" "I", .methodLink RX8 84 yX7_addWord, .instanceMethod yX7_addWord, .selects RX7 yX7_addWord yX7_addWord, .initialized RX7, .code yX7_addWord cX7_addWord 3 none, .fieldLink RX7 15 "IceHall$Tape" "size" "I", .fieldLink RX7 9 "IceHall$Tape" "bytes" "[B", .static yX8_isBelow, .initialized RX8, .code yX8_isBelow cX8_isBelow 2 (some .boolean)] ++ wsX80 ++ wsX70)
def wsX8_rights_r1 : List Cond := [Cond.fieldLink RX8 39 "IceHall" "tape" "LIceHall$Tape;", Cond.fieldLink RX8 81 "IceHall$Tape" "size" "I", Cond.classLink RX8 19 RX4, Cond.instantiable RX4 6, Cond.initialized RX4, Cond.fieldLink RX8 48 "IceHall" "reader" "LIceHall$RightsReader;", Cond.fieldLink RX8 21 "IceHall" "rightsInForce" "[LIceHall$Rights;", Cond.methodLink RX8 88 yX8_isBelow, Cond.static yX8_isBelow, Cond.initialized RX8, Cond.code yX8_isBelow cX8_isBelow 2 (some .boolean), Cond.instanceMethod yX4_init, Cond.code yX4_init cX4_init 1 none, Cond.methodLink RX4 3 objectInit, Cond.instanceMethod objectInit, Cond.code objectInit ⟨#[0xb1]⟩ 1 none, Cond.constant RX4 11 (16777215), Cond.fieldLink RX4 12 "IceHall$Rights" "clocks" "I", Cond.fieldLink RX4 16 "IceHall$Rights" "days" "I", Cond.fieldLink RX4 19 "IceHall$Rights" "kinds" "I", Cond.fieldLink RX4 22 "IceHall$Rights" "inWeek" "I", Cond.fieldLink RX4 25 "IceHall$Rights" "fee" "I", Cond.fieldLink RX4 28 "IceHall$Rights" "hundredths" "I", Cond.methodLink RX8 92 yX5_readInto]
def wsX8_rights_r2 : List Cond := [Cond.instanceMethod yX5_readInto, Cond.selects RX5 yX5_readInto yX5_readInto, Cond.initialized RX5, Cond.code yX5_readInto cX5_readInto 6 (some .int), Cond.fieldLink RX5 15 "IceHall$RightsReader" "end" "I", Cond.fieldLink RX5 19 "IceHall$RightsReader" "place" "I", Cond.fieldLink RX5 22 "IceHall$RightsReader" "fault" "I", Cond.fieldLink RX5 33 "IceHall$Rights" "clocks" "I", Cond.methodLink RX5 25 yX5_readClause, Cond.instanceMethod yX5_readClause, Cond.selects RX5 yX5_readClause yX5_readClause, Cond.code yX5_readClause cX5_readClause 3 (some .int), Cond.fieldLink RX5 49 "IceHall$Rights" "days" "I", Cond.fieldLink RX5 52 "IceHall$Rights" "kinds" "I", Cond.fieldLink RX5 58 "IceHall$Rights" "inWeek" "I", Cond.fieldLink RX5 61 "IceHall$Rights" "fee" "I", Cond.fieldLink RX5 64 "IceHall$Rights" "hundredths" "I", Cond.methodLink RX5 38 yX5_peek, Cond.instanceMethod yX5_peek, Cond.selects RX5 yX5_peek yX5_peek, Cond.code yX5_peek cX5_peek 1 (some .int), Cond.fieldLink RX5 9 "IceHall$RightsReader" "tape" "LIceHall$Tape;", Cond.fieldLink RX5 74 "IceHall$Tape" "bytes" "[B", Cond.methodLink RX5 42 yX5_readWindow]
def wsX8_rights_r3 : List Cond := [Cond.instanceMethod yX5_readWindow, Cond.selects RX5 yX5_readWindow yX5_readWindow, Cond.code yX5_readWindow cX5_readWindow 3 (some .int), Cond.methodLink RX5 55 yX5_readNumber, Cond.instanceMethod yX5_readNumber, Cond.selects RX5 yX5_readNumber yX5_readNumber, Cond.code yX5_readNumber cX5_readNumber 6 (some .int), Cond.methodLink RX5 71 yX5_isDigit, Cond.instanceMethod yX5_isDigit, Cond.selects RX5 yX5_isDigit yX5_isDigit, Cond.code yX5_isDigit cX5_isDigit 2 (some .boolean), Cond.methodLink RX5 67 yX5_fail, Cond.instanceMethod yX5_fail, Cond.selects RX5 yX5_fail yX5_fail, Cond.code yX5_fail cX5_fail 3 none, Cond.methodLink RX5 45 yX5_readDigits, Cond.instanceMethod yX5_readDigits, Cond.selects RX5 yX5_readDigits yX5_readDigits, Cond.code yX5_readDigits cX5_readDigits 7 (some .int), Cond.methodLink RX5 29 yX5_readOn, Cond.instanceMethod yX5_readOn, Cond.selects RX5 yX5_readOn yX5_readOn, Cond.code yX5_readOn cX5_readOn 2 (some .boolean)]
def wsX8_rights : List Cond := .code yX8_rights cX8_rights 5 (some .int) :: ((wsX8_rights_r1 ++ (wsX8_rights_r2 ++ wsX8_rights_r3)) ++ wsX80 ++ wsX70 ++ wsX40 ++ wsX50)
def wsX8_most : List Cond := .code yX8_most cX8_most 2 (some .boolean) :: ([.fieldLink RX8 72 "IceHall" "storeMost" "I"] ++ wsX80)
def wsX8_compressors : List Cond := .code yX8_compressors cX8_compressors 2 (some .boolean) :: ([.fieldLink RX8 75 "IceHall" "working" "I"] ++ wsX80)
def wsX8_price : List Cond := .code yX8_price cX8_price 3 (some .boolean) :: ([.fieldLink RX8 32 "IceHall" "prices" "[I", .methodLink RX8 88 yX8_isBelow, .static yX8_isBelow, .initialized RX8, .code yX8_isBelow cX8_isBelow 2 (some .boolean)] ++ wsX80)
def wsX8_rest : List Cond := .code yX8_rest cX8_rest 2 (some .boolean) :: ([.fieldLink RX8 78 "IceHall" "restMost" "I"] ++ wsX80)
def wsX8_sessionOf : List Cond := .code yX8_sessionOf cX8_sessionOf 2 (some (.object "IceHall$Session")) :: ([.fieldLink RX8 99 "IceHall" "everBooked" "I", .fieldLink RX8 28 "IceHall" "sessions" "[LIceHall$Session;"] ++ wsX80)
def wsX8_countInWeek : List Cond := .code yX8_countInWeek cX8_countInWeek 6 (some .int) :: ([.fieldLink RX8 99 "IceHall" "everBooked" "I", .fieldLink RX8 225 "IceHall$Session" "byClub" "I", .fieldLink RX8 141 "IceHall$Session" "hour" "I", .methodLink RX8 131 yX8_sessionOf, .instanceMethod yX8_sessionOf, .selects RX8 yX8_sessionOf yX8_sessionOf, .initialized RX8, .code yX8_sessionOf cX8_sessionOf 2 (some (.object "IceHall$Session")), .fieldLink RX8 28 "IceHall" "sessions" "[LIceHall$Session;", .methodLink RX8 270 yX6_stands, .instanceMethod yX6_stands, .selects RX6 yX6_stands yX6_stands, .initialized RX6, .code yX6_stands cX6_stands 1 (some .boolean), .fieldLink RX6 9 "IceHall$Session" "state" "I"] ++ wsX80 ++ wsX60)
def wsX8_iceOf : List Cond := .code yX8_iceOf cX8_iceOf 2 (some (.object "IceHall$Ice")) :: ([.fieldLink RX8 10 "IceHall" "firstIce" "LIceHall$Ice;", .fieldLink RX8 16 "IceHall" "secondIce" "LIceHall$Ice;"] ++ wsX80)
def wsX8_book_r1 : List Cond := [Cond.fieldLink RX8 96 "IceHall" "now" "I", Cond.fieldLink RX8 99 "IceHall" "everBooked" "I", Cond.fieldLink RX8 21 "IceHall" "rightsInForce" "[LIceHall$Rights;", Cond.fieldLink RX8 109 "IceHall$Rights" "inWeek" "I", Cond.fieldLink RX8 78 "IceHall" "restMost" "I", Cond.fieldLink RX8 119 "IceHall$Ice" "taken" "LIceHall$HourSet;", Cond.fieldLink RX8 28 "IceHall" "sessions" "[LIceHall$Session;", Cond.classLink RX8 26 RX6, Cond.instantiable RX6 10, Cond.initialized RX6, Cond.methodLink RX8 88 yX8_isBelow, Cond.static yX8_isBelow, Cond.initialized RX8, Cond.code yX8_isBelow cX8_isBelow 2 (some .boolean), Cond.methodLink RX8 102 yX4_let, Cond.instanceMethod yX4_let, Cond.selects RX4 yX4_let yX4_let, Cond.initialized RX4, Cond.code yX4_let cX4_let 3 (some .boolean), Cond.fieldLink RX4 12 "IceHall$Rights" "clocks" "I", Cond.fieldLink RX4 16 "IceHall$Rights" "days" "I", Cond.fieldLink RX4 19 "IceHall$Rights" "kinds" "I", Cond.methodLink RX4 31 yX4_isIn, Cond.static yX4_isIn]
def wsX8_book_r2 : List Cond := [Cond.code yX4_isIn cX4_isIn 2 (some .boolean), Cond.methodLink RX8 105 yX8_countInWeek, Cond.instanceMethod yX8_countInWeek, Cond.selects RX8 yX8_countInWeek yX8_countInWeek, Cond.code yX8_countInWeek cX8_countInWeek 6 (some .int), Cond.fieldLink RX8 225 "IceHall$Session" "byClub" "I", Cond.fieldLink RX8 141 "IceHall$Session" "hour" "I", Cond.methodLink RX8 131 yX8_sessionOf, Cond.instanceMethod yX8_sessionOf, Cond.selects RX8 yX8_sessionOf yX8_sessionOf, Cond.code yX8_sessionOf cX8_sessionOf 2 (some (.object "IceHall$Session")), Cond.methodLink RX8 270 yX6_stands, Cond.instanceMethod yX6_stands, Cond.selects RX6 yX6_stands yX6_stands, Cond.code yX6_stands cX6_stands 1 (some .boolean), Cond.fieldLink RX6 9 "IceHall$Session" "state" "I", Cond.methodLink RX8 112 yX8_iceOf, Cond.instanceMethod yX8_iceOf, Cond.selects RX8 yX8_iceOf yX8_iceOf, Cond.code yX8_iceOf cX8_iceOf 2 (some (.object "IceHall$Ice")), Cond.fieldLink RX8 10 "IceHall" "firstIce" "LIceHall$Ice;", Cond.fieldLink RX8 16 "IceHall" "secondIce" "LIceHall$Ice;", Cond.methodLink RX8 116 yX1_hasRoom, Cond.instanceMethod yX1_hasRoom]
def wsX8_book_r3 : List Cond := [Cond.selects RX1 yX1_hasRoom yX1_hasRoom, Cond.initialized RX1, Cond.code yX1_hasRoom cX1_hasRoom 3 (some .boolean), Cond.fieldLink RX1 12 "IceHall$Ice" "taken" "LIceHall$HourSet;", Cond.fieldLink RX1 18 "IceHall$Ice" "closed" "LIceHall$HourSet;", Cond.methodLink RX1 46 yX0_has, Cond.instanceMethod yX0_has, Cond.selects RX0 yX0_has yX0_has, Cond.initialized RX0, Cond.code yX0_has cX0_has 2 (some .boolean), Cond.fieldLink RX0 9 "IceHall$HourSet" "words" "[J", Cond.methodLink RX1 50 yX1_runThrough, Cond.instanceMethod yX1_runThrough, Cond.selects RX1 yX1_runThrough yX1_runThrough, Cond.code yX1_runThrough cX1_runThrough 4 (some .int), Cond.methodLink RX8 123 yX0_put, Cond.instanceMethod yX0_put, Cond.selects RX0 yX0_put yX0_put, Cond.code yX0_put cX0_put 2 none, Cond.methodLink RX8 128 yX6_init, Cond.instanceMethod yX6_init, Cond.code yX6_init cX6_init 6 none, Cond.methodLink RX6 3 objectInit, Cond.instanceMethod objectInit]
def wsX8_book_r4 : List Cond := [Cond.code objectInit ⟨#[0xb1]⟩ 1 none, Cond.fieldLink RX6 15 "IceHall$Session" "whyLost" "I", Cond.fieldLink RX6 18 "IceHall$Session" "owes" "I", Cond.fieldLink RX6 21 "IceHall$Session" "timesMoved" "I", Cond.fieldLink RX6 24 "IceHall$Session" "byClub" "I", Cond.fieldLink RX6 27 "IceHall$Session" "kind" "I", Cond.fieldLink RX6 30 "IceHall$Session" "onSheet" "I", Cond.fieldLink RX6 33 "IceHall$Session" "hour" "I", Cond.fieldLink RX6 36 "IceHall$Rights" "fee" "I", Cond.fieldLink RX6 41 "IceHall$Session" "fee" "I", Cond.fieldLink RX6 42 "IceHall$Rights" "hundredths" "I", Cond.fieldLink RX6 45 "IceHall$Session" "hundredths" "I"]
def wsX8_book : List Cond := .code yX8_book cX8_book 7 (some .int) :: ((wsX8_book_r1 ++ (wsX8_book_r2 ++ (wsX8_book_r3 ++ wsX8_book_r4))) ++ wsX80 ++ wsX40 ++ wsX10 ++ wsX60 ++ wsX00)
def wsX8_cancel_r1 : List Cond := [Cond.fieldLink RX8 135 "IceHall$Session" "state" "I", Cond.fieldLink RX8 138 "IceHall$Session" "onSheet" "I", Cond.fieldLink RX8 119 "IceHall$Ice" "taken" "LIceHall$HourSet;", Cond.fieldLink RX8 141 "IceHall$Session" "hour" "I", Cond.fieldLink RX8 147 "IceHall$Session" "fee" "I", Cond.fieldLink RX8 150 "IceHall$Session" "hundredths" "I", Cond.fieldLink RX8 153 "IceHall$Session" "owes" "I", Cond.methodLink RX8 131 yX8_sessionOf, Cond.instanceMethod yX8_sessionOf, Cond.selects RX8 yX8_sessionOf yX8_sessionOf, Cond.initialized RX8, Cond.code yX8_sessionOf cX8_sessionOf 2 (some (.object "IceHall$Session")), Cond.fieldLink RX8 99 "IceHall" "everBooked" "I", Cond.fieldLink RX8 28 "IceHall" "sessions" "[LIceHall$Session;", Cond.methodLink RX8 112 yX8_iceOf, Cond.instanceMethod yX8_iceOf, Cond.selects RX8 yX8_iceOf yX8_iceOf, Cond.code yX8_iceOf cX8_iceOf 2 (some (.object "IceHall$Ice")), Cond.fieldLink RX8 10 "IceHall" "firstIce" "LIceHall$Ice;", Cond.fieldLink RX8 16 "IceHall" "secondIce" "LIceHall$Ice;", Cond.methodLink RX8 144 yX0_drop, Cond.instanceMethod yX0_drop, Cond.selects RX0 yX0_drop yX0_drop, Cond.initialized RX0]
def wsX8_cancel_r2 : List Cond := [Cond.code yX0_drop cX0_drop 2 none, Cond.fieldLink RX0 9 "IceHall$HourSet" "words" "[J", Cond.constantLong RX0 13 (-1)]
def wsX8_cancel : List Cond := .code yX8_cancel cX8_cancel 3 (some .boolean) :: ((wsX8_cancel_r1 ++ wsX8_cancel_r2) ++ wsX60 ++ wsX10 ++ wsX80 ++ wsX00)
def wsX8_isTenths : List Cond := .code yX8_isTenths cX8_isTenths 1 (some .boolean) :: ([])
def wsX8_cut : List Cond := .code yX8_cut cX8_cut 4 (some .boolean) :: ([.methodLink RX8 88 yX8_isBelow, .static yX8_isBelow, .initialized RX8, .code yX8_isBelow cX8_isBelow 2 (some .boolean), .methodLink RX8 156 yX8_isTenths, .static yX8_isTenths, .code yX8_isTenths cX8_isTenths 1 (some .boolean), .methodLink RX8 112 yX8_iceOf, .instanceMethod yX8_iceOf, .selects RX8 yX8_iceOf yX8_iceOf, .code yX8_iceOf cX8_iceOf 2 (some (.object "IceHall$Ice")), .fieldLink RX8 10 "IceHall" "firstIce" "LIceHall$Ice;", .fieldLink RX8 16 "IceHall" "secondIce" "LIceHall$Ice;", .methodLink RX8 160 yX1_tellCut, .instanceMethod yX1_tellCut, .selects RX1 yX1_tellCut yX1_tellCut, .initialized RX1, .code yX1_tellCut cX1_tellCut 3 none, .fieldLink RX1 40 "IceHall$Ice" "toShave" "I", .fieldLink RX1 43 "IceHall$Ice" "toFlood" "I"] ++ wsX80 ++ wsX10)
def wsX8_gatherSessions_r1 : List Cond := [Cond.fieldLink RX8 57 "IceHall" "mover" "LIceHall$Mover;", Cond.fieldLink RX8 99 "IceHall" "everBooked" "I", Cond.fieldLink RX8 138 "IceHall$Session" "onSheet" "I", Cond.fieldLink RX8 141 "IceHall$Session" "hour" "I", Cond.methodLink RX8 281 yX2_begin, Cond.instanceMethod yX2_begin, Cond.selects RX2 yX2_begin yX2_begin, Cond.initialized RX2, Cond.code yX2_begin cX2_begin 1 none, Cond.fieldLink RX2 34 "IceHall$Mover" "size" "I", Cond.methodLink RX8 131 yX8_sessionOf, Cond.instanceMethod yX8_sessionOf, Cond.selects RX8 yX8_sessionOf yX8_sessionOf, Cond.initialized RX8, Cond.code yX8_sessionOf cX8_sessionOf 2 (some (.object "IceHall$Session")), Cond.fieldLink RX8 28 "IceHall" "sessions" "[LIceHall$Session;", Cond.methodLink RX8 270 yX6_stands, Cond.instanceMethod yX6_stands, Cond.selects RX6 yX6_stands yX6_stands, Cond.initialized RX6, Cond.code yX6_stands cX6_stands 1 (some .boolean), Cond.fieldLink RX6 9 "IceHall$Session" "state" "I", Cond.methodLink RX8 282 yX2_add, Cond.instanceMethod yX2_add]
def wsX8_gatherSessions_r2 : List Cond := [Cond.selects RX2 yX2_add yX2_add, Cond.code yX2_add cX2_add 2 (some .boolean), Cond.fieldLink RX2 11 "IceHall$Mover" "moved" "[LIceHall$Session;", Cond.static yX8_isBelow, Cond.code yX8_isBelow cX8_isBelow 2 (some .boolean)]
def wsX8_gatherSessions : List Cond := .code yX8_gatherSessions cX8_gatherSessions 6 (some .boolean) :: ((wsX8_gatherSessions_r1 ++ wsX8_gatherSessions_r2) ++ wsX80 ++ wsX60 ++ wsX20)
def wsX8_close_r1 : List Cond := [Cond.fieldLink RX8 96 "IceHall" "now" "I", Cond.fieldLink RX8 164 "IceHall$Ice" "closings" "I", Cond.fieldLink RX8 119 "IceHall$Ice" "taken" "LIceHall$HourSet;", Cond.fieldLink RX8 171 "IceHall$Ice" "closed" "LIceHall$HourSet;", Cond.fieldLink RX8 57 "IceHall" "mover" "LIceHall$Mover;", Cond.fieldLink RX8 78 "IceHall" "restMost" "I", Cond.methodLink RX8 88 yX8_isBelow, Cond.static yX8_isBelow, Cond.initialized RX8, Cond.code yX8_isBelow cX8_isBelow 2 (some .boolean), Cond.methodLink RX8 112 yX8_iceOf, Cond.instanceMethod yX8_iceOf, Cond.selects RX8 yX8_iceOf yX8_iceOf, Cond.code yX8_iceOf cX8_iceOf 2 (some (.object "IceHall$Ice")), Cond.fieldLink RX8 10 "IceHall" "firstIce" "LIceHall$Ice;", Cond.fieldLink RX8 16 "IceHall" "secondIce" "LIceHall$Ice;", Cond.methodLink RX8 167 yX8_gatherSessions, Cond.instanceMethod yX8_gatherSessions, Cond.selects RX8 yX8_gatherSessions yX8_gatherSessions, Cond.code yX8_gatherSessions cX8_gatherSessions 6 (some .boolean), Cond.fieldLink RX8 99 "IceHall" "everBooked" "I", Cond.fieldLink RX8 138 "IceHall$Session" "onSheet" "I", Cond.fieldLink RX8 141 "IceHall$Session" "hour" "I", Cond.methodLink RX8 281 yX2_begin]
def wsX8_close_r2 : List Cond := [Cond.instanceMethod yX2_begin, Cond.selects RX2 yX2_begin yX2_begin, Cond.initialized RX2, Cond.code yX2_begin cX2_begin 1 none, Cond.fieldLink RX2 34 "IceHall$Mover" "size" "I", Cond.methodLink RX8 131 yX8_sessionOf, Cond.instanceMethod yX8_sessionOf, Cond.selects RX8 yX8_sessionOf yX8_sessionOf, Cond.code yX8_sessionOf cX8_sessionOf 2 (some (.object "IceHall$Session")), Cond.fieldLink RX8 28 "IceHall" "sessions" "[LIceHall$Session;", Cond.methodLink RX8 270 yX6_stands, Cond.instanceMethod yX6_stands, Cond.selects RX6 yX6_stands yX6_stands, Cond.initialized RX6, Cond.code yX6_stands cX6_stands 1 (some .boolean), Cond.fieldLink RX6 9 "IceHall$Session" "state" "I", Cond.methodLink RX8 282 yX2_add, Cond.instanceMethod yX2_add, Cond.selects RX2 yX2_add yX2_add, Cond.code yX2_add cX2_add 2 (some .boolean), Cond.fieldLink RX2 11 "IceHall$Mover" "moved" "[LIceHall$Session;", Cond.methodLink RX8 144 yX0_drop, Cond.instanceMethod yX0_drop, Cond.selects RX0 yX0_drop yX0_drop]
def wsX8_close_r3 : List Cond := [Cond.initialized RX0, Cond.code yX0_drop cX0_drop 2 none, Cond.fieldLink RX0 9 "IceHall$HourSet" "words" "[J", Cond.constantLong RX0 13 (-1), Cond.methodLink RX8 123 yX0_put, Cond.instanceMethod yX0_put, Cond.selects RX0 yX0_put yX0_put, Cond.code yX0_put cX0_put 2 none, Cond.methodLink RX8 174 yX2_search, Cond.instanceMethod yX2_search, Cond.selects RX2 yX2_search yX2_search, Cond.code yX2_search cX2_search 5 none, Cond.fieldLink RX2 42 "IceHall$Mover" "earliest" "I", Cond.fieldLink RX2 45 "IceHall$Mover" "restMost" "I", Cond.fieldLink RX2 48 "IceHall$Mover" "bestCost" "I", Cond.fieldLink RX2 24 "IceHall$Mover" "leastFrom" "[I", Cond.methodLink RX2 51 yX2_leastAlone, Cond.instanceMethod yX2_leastAlone, Cond.selects RX2 yX2_leastAlone yX2_leastAlone, Cond.code yX2_leastAlone cX2_leastAlone 3 (some .int), Cond.methodLink RX2 92 yX2_canGo, Cond.instanceMethod yX2_canGo, Cond.selects RX2 yX2_canGo yX2_canGo, Cond.code yX2_canGo cX2_canGo 4 (some .boolean)]
def wsX8_close_r4 : List Cond := [Cond.methodLink RX2 62 yX2_hourOf, Cond.instanceMethod yX2_hourOf, Cond.selects RX2 yX2_hourOf yX2_hourOf, Cond.code yX2_hourOf cX2_hourOf 4 (some .int), Cond.fieldLink RX2 107 "IceHall$Session" "hour" "I", Cond.methodLink RX2 110 yX2_shiftOf, Cond.static yX2_shiftOf, Cond.code yX2_shiftOf cX2_shiftOf 2 (some .int), Cond.methodLink RX2 66 yX2_iceOfWay, Cond.instanceMethod yX2_iceOfWay, Cond.selects RX2 yX2_iceOfWay yX2_iceOfWay, Cond.code yX2_iceOfWay cX2_iceOfWay 2 (some (.object "IceHall$Ice")), Cond.fieldLink RX2 27 "IceHall$Mover" "firstIce" "LIceHall$Ice;", Cond.fieldLink RX2 31 "IceHall$Mover" "secondIce" "LIceHall$Ice;", Cond.methodLink RX2 104 yX1_hasRoom, Cond.instanceMethod yX1_hasRoom, Cond.selects RX1 yX1_hasRoom yX1_hasRoom, Cond.initialized RX1, Cond.code yX1_hasRoom cX1_hasRoom 3 (some .boolean), Cond.fieldLink RX1 12 "IceHall$Ice" "taken" "LIceHall$HourSet;", Cond.fieldLink RX1 18 "IceHall$Ice" "closed" "LIceHall$HourSet;", Cond.methodLink RX1 46 yX0_has, Cond.instanceMethod yX0_has, Cond.selects RX0 yX0_has yX0_has]
def wsX8_close_r5 : List Cond := [Cond.code yX0_has cX0_has 2 (some .boolean), Cond.methodLink RX1 50 yX1_runThrough, Cond.instanceMethod yX1_runThrough, Cond.selects RX1 yX1_runThrough yX1_runThrough, Cond.code yX1_runThrough cX1_runThrough 4 (some .int), Cond.methodLink RX2 89 yX2_costOf, Cond.static yX2_costOf, Cond.code yX2_costOf cX2_costOf 1 (some .int), Cond.methodLink RX2 116 Lib.Math.abs.name, Cond.static Lib.Math.abs.name, Cond.initialized "java/lang/Math", Cond.code Lib.Math.abs.name Lib.Math.abs.code 1 (some .int), Cond.methodLink RX2 55 yX2_searchFrom, Cond.static yX2_searchFrom, Cond.code yX2_searchFrom cX2_searchFrom 7 none, Cond.fieldLink RX2 17 "IceHall$Mover" "row" "[I", Cond.fieldLink RX2 70 "IceHall$Ice" "taken" "LIceHall$HourSet;", Cond.methodLink RX2 86 yX2_keepBest, Cond.instanceMethod yX2_keepBest, Cond.selects RX2 yX2_keepBest yX2_keepBest, Cond.code yX2_keepBest cX2_keepBest 2 none, Cond.fieldLink RX2 21 "IceHall$Mover" "bestRow" "[I", Cond.methodLink RX2 98 arraycopyName, Cond.native arraycopyName]
def wsX8_close_r6 : List Cond := [Cond.static arraycopyName, Cond.initialized "java/lang/System", Cond.methodLink RX2 76 yX0_put, Cond.methodLink RX2 95 yX0_drop, Cond.methodLink RX8 177 yX2_carryOut, Cond.instanceMethod yX2_carryOut, Cond.selects RX2 yX2_carryOut yX2_carryOut, Cond.code yX2_carryOut cX2_carryOut 5 (some .int), Cond.fieldLink RX2 59 "IceHall$Session" "state" "I", Cond.methodLink RX2 82 yX6_moveTo, Cond.instanceMethod yX6_moveTo, Cond.selects RX6 yX6_moveTo yX6_moveTo, Cond.code yX6_moveTo cX6_moveTo 3 none, Cond.fieldLink RX6 30 "IceHall$Session" "onSheet" "I", Cond.fieldLink RX6 33 "IceHall$Session" "hour" "I", Cond.fieldLink RX6 21 "IceHall$Session" "timesMoved" "I"]
def wsX8_close : List Cond := .code yX8_close cX8_close 6 (some .int) :: ((wsX8_close_r1 ++ (wsX8_close_r2 ++ (wsX8_close_r3 ++ (wsX8_close_r4 ++ (wsX8_close_r5 ++ wsX8_close_r6))))) ++ wsX80 ++ wsX10 ++ wsX60 ++ wsX20 ++ wsX00)
def wsX8_isWarmth : List Cond := .code yX8_isWarmth cX8_isWarmth 1 (some .boolean) :: ([])
def wsX8_runCompressors : List Cond := .code yX8_runCompressors cX8_runCompressors 2 none :: ([.fieldLink RX8 264 "IceHall" "cost" "I", .fieldLink RX8 32 "IceHall" "prices" "[I", .fieldLink RX8 96 "IceHall" "now" "I", .fieldLink RX8 68 "IceHall" "store" "I", .fieldLink RX8 72 "IceHall" "storeMost" "I", .fieldLink RX8 261 "IceHall" "spilt" "I"] ++ wsX80)
def wsX8_wantOfWarmth : List Cond := .code yX8_wantOfWarmth cX8_wantOfWarmth 1 (some .int) :: ([])
def wsX8_numberAt_r1 : List Cond := [Cond.fieldLink RX8 119 "IceHall$Ice" "taken" "LIceHall$HourSet;", Cond.fieldLink RX8 99 "IceHall" "everBooked" "I", Cond.fieldLink RX8 138 "IceHall$Session" "onSheet" "I", Cond.fieldLink RX8 141 "IceHall$Session" "hour" "I", Cond.methodLink RX8 112 yX8_iceOf, Cond.instanceMethod yX8_iceOf, Cond.selects RX8 yX8_iceOf yX8_iceOf, Cond.initialized RX8, Cond.code yX8_iceOf cX8_iceOf 2 (some (.object "IceHall$Ice")), Cond.fieldLink RX8 10 "IceHall" "firstIce" "LIceHall$Ice;", Cond.fieldLink RX8 16 "IceHall" "secondIce" "LIceHall$Ice;", Cond.methodLink RX8 255 yX0_has, Cond.instanceMethod yX0_has, Cond.selects RX0 yX0_has yX0_has, Cond.initialized RX0, Cond.code yX0_has cX0_has 2 (some .boolean), Cond.fieldLink RX0 9 "IceHall$HourSet" "words" "[J", Cond.methodLink RX8 131 yX8_sessionOf, Cond.instanceMethod yX8_sessionOf, Cond.selects RX8 yX8_sessionOf yX8_sessionOf, Cond.code yX8_sessionOf cX8_sessionOf 2 (some (.object "IceHall$Session")), Cond.fieldLink RX8 28 "IceHall" "sessions" "[LIceHall$Session;", Cond.methodLink RX8 270 yX6_stands, Cond.instanceMethod yX6_stands]
def wsX8_numberAt_r2 : List Cond := [Cond.selects RX6 yX6_stands yX6_stands, Cond.initialized RX6, Cond.code yX6_stands cX6_stands 1 (some .boolean), Cond.fieldLink RX6 9 "IceHall$Session" "state" "I"]
def wsX8_numberAt : List Cond := .code yX8_numberAt cX8_numberAt 5 (some .int) :: ((wsX8_numberAt_r1 ++ wsX8_numberAt_r2) ++ wsX10 ++ wsX80 ++ wsX60 ++ wsX00)
def wsX8_standingAt_r1 : List Cond := [Cond.methodLink RX8 237 yX8_numberAt, Cond.instanceMethod yX8_numberAt, Cond.selects RX8 yX8_numberAt yX8_numberAt, Cond.initialized RX8, Cond.code yX8_numberAt cX8_numberAt 5 (some .int), Cond.fieldLink RX8 119 "IceHall$Ice" "taken" "LIceHall$HourSet;", Cond.fieldLink RX8 99 "IceHall" "everBooked" "I", Cond.fieldLink RX8 138 "IceHall$Session" "onSheet" "I", Cond.fieldLink RX8 141 "IceHall$Session" "hour" "I", Cond.methodLink RX8 112 yX8_iceOf, Cond.instanceMethod yX8_iceOf, Cond.selects RX8 yX8_iceOf yX8_iceOf, Cond.code yX8_iceOf cX8_iceOf 2 (some (.object "IceHall$Ice")), Cond.fieldLink RX8 10 "IceHall" "firstIce" "LIceHall$Ice;", Cond.fieldLink RX8 16 "IceHall" "secondIce" "LIceHall$Ice;", Cond.methodLink RX8 255 yX0_has, Cond.instanceMethod yX0_has, Cond.selects RX0 yX0_has yX0_has, Cond.initialized RX0, Cond.code yX0_has cX0_has 2 (some .boolean), Cond.fieldLink RX0 9 "IceHall$HourSet" "words" "[J", Cond.methodLink RX8 131 yX8_sessionOf, Cond.instanceMethod yX8_sessionOf, Cond.selects RX8 yX8_sessionOf yX8_sessionOf]
def wsX8_standingAt_r2 : List Cond := [Cond.code yX8_sessionOf cX8_sessionOf 2 (some (.object "IceHall$Session")), Cond.fieldLink RX8 28 "IceHall" "sessions" "[LIceHall$Session;", Cond.methodLink RX8 270 yX6_stands, Cond.instanceMethod yX6_stands, Cond.selects RX6 yX6_stands yX6_stands, Cond.initialized RX6, Cond.code yX6_stands cX6_stands 1 (some .boolean), Cond.fieldLink RX6 9 "IceHall$Session" "state" "I"]
def wsX8_standingAt : List Cond := .code yX8_standingAt cX8_standingAt 3 (some (.object "IceHall$Session")) :: ((wsX8_standingAt_r1 ++ wsX8_standingAt_r2) ++ wsX10 ++ wsX80 ++ wsX60 ++ wsX00)
def wsX8_heatOf : List Cond := .code yX8_heatOf cX8_heatOf 1 (some .int) :: ([.fieldLink RX8 274 "IceHall" "HEAT_OF_KIND" "[I", .fieldLink RX8 228 "IceHall$Session" "kind" "I", .methodLink RX8 277 yX8_ofKind, .static yX8_ofKind, .initialized RX8, .code yX8_ofKind cX8_ofKind 2 (some .int), .methodLink RX8 88 yX8_isBelow, .static yX8_isBelow, .code yX8_isBelow cX8_isBelow 2 (some .boolean)] ++ wsX60)
def wsX8_makeCut_r1 : List Cond := [Cond.fieldLink RX8 305 "IceHall$Ice" "toFlood" "I", Cond.fieldLink RX8 68 "IceHall" "store" "I", Cond.methodLink RX8 286 Lib.Math.min.name, Cond.static Lib.Math.min.name, Cond.initialized "java/lang/Math", Cond.code Lib.Math.min.name Lib.Math.min.code 2 (some .int), Cond.fieldLink RX8 267 "IceHall" "waste" "I", Cond.methodLink RX8 302 yX1_shave, Cond.instanceMethod yX1_shave, Cond.selects RX1 yX1_shave yX1_shave, Cond.initialized RX1, Cond.code yX1_shave cX1_shave 2 none, Cond.fieldLink RX1 40 "IceHall$Ice" "toShave" "I", Cond.fieldLink RX1 25 "IceHall$Ice" "thickness" "I", Cond.methodLink RX1 54 Lib.Math.min.name, Cond.fieldLink RX1 31 "IceHall$Ice" "shaved" "I", Cond.fieldLink RX1 28 "IceHall$Ice" "ruts" "I", Cond.methodLink RX1 80 Lib.Math.max.name, Cond.static Lib.Math.max.name, Cond.code Lib.Math.max.name Lib.Math.max.code 2 (some .int), Cond.methodLink RX8 308 yX1_freeze, Cond.instanceMethod yX1_freeze, Cond.selects RX1 yX1_freeze yX1_freeze, Cond.code yX1_freeze cX1_freeze 2 none]
def wsX8_makeCut_r2 : List Cond := [Cond.fieldLink RX1 34 "IceHall$Ice" "flooded" "I", Cond.methodLink RX8 160 yX1_tellCut, Cond.instanceMethod yX1_tellCut, Cond.selects RX1 yX1_tellCut yX1_tellCut, Cond.code yX1_tellCut cX1_tellCut 3 none, Cond.fieldLink RX1 43 "IceHall$Ice" "toFlood" "I"]
def wsX8_makeCut : List Cond := .code yX8_makeCut cX8_makeCut 3 none :: ((wsX8_makeCut_r1 ++ wsX8_makeCut_r2) ++ wsX10 ++ wsX80)
def wsX8_passHour_r1 : List Cond := [Cond.fieldLink RX8 96 "IceHall" "now" "I", Cond.fieldLink RX8 68 "IceHall" "store" "I", Cond.methodLink RX8 286 Lib.Math.min.name, Cond.static Lib.Math.min.name, Cond.initialized "java/lang/Math", Cond.code Lib.Math.min.name Lib.Math.min.code 2 (some .int), Cond.fieldLink RX8 171 "IceHall$Ice" "closed" "LIceHall$HourSet;", Cond.methodLink RX8 112 yX8_iceOf, Cond.instanceMethod yX8_iceOf, Cond.selects RX8 yX8_iceOf yX8_iceOf, Cond.initialized RX8, Cond.code yX8_iceOf cX8_iceOf 2 (some (.object "IceHall$Ice")), Cond.fieldLink RX8 10 "IceHall" "firstIce" "LIceHall$Ice;", Cond.fieldLink RX8 16 "IceHall" "secondIce" "LIceHall$Ice;", Cond.methodLink RX8 197 yX8_standingAt, Cond.instanceMethod yX8_standingAt, Cond.selects RX8 yX8_standingAt yX8_standingAt, Cond.code yX8_standingAt cX8_standingAt 3 (some (.object "IceHall$Session")), Cond.methodLink RX8 237 yX8_numberAt, Cond.instanceMethod yX8_numberAt, Cond.selects RX8 yX8_numberAt yX8_numberAt, Cond.code yX8_numberAt cX8_numberAt 5 (some .int), Cond.fieldLink RX8 119 "IceHall$Ice" "taken" "LIceHall$HourSet;", Cond.fieldLink RX8 99 "IceHall" "everBooked" "I"]
def wsX8_passHour_r2 : List Cond := [Cond.fieldLink RX8 138 "IceHall$Session" "onSheet" "I", Cond.fieldLink RX8 141 "IceHall$Session" "hour" "I", Cond.methodLink RX8 255 yX0_has, Cond.instanceMethod yX0_has, Cond.selects RX0 yX0_has yX0_has, Cond.initialized RX0, Cond.code yX0_has cX0_has 2 (some .boolean), Cond.fieldLink RX0 9 "IceHall$HourSet" "words" "[J", Cond.methodLink RX8 131 yX8_sessionOf, Cond.instanceMethod yX8_sessionOf, Cond.selects RX8 yX8_sessionOf yX8_sessionOf, Cond.code yX8_sessionOf cX8_sessionOf 2 (some (.object "IceHall$Session")), Cond.fieldLink RX8 28 "IceHall" "sessions" "[LIceHall$Session;", Cond.methodLink RX8 270 yX6_stands, Cond.instanceMethod yX6_stands, Cond.selects RX6 yX6_stands yX6_stands, Cond.initialized RX6, Cond.code yX6_stands cX6_stands 1 (some .boolean), Cond.fieldLink RX6 9 "IceHall$Session" "state" "I", Cond.methodLink RX8 201 yX8_heatOf, Cond.static yX8_heatOf, Cond.code yX8_heatOf cX8_heatOf 1 (some .int), Cond.fieldLink RX8 274 "IceHall" "HEAT_OF_KIND" "[I", Cond.fieldLink RX8 228 "IceHall$Session" "kind" "I"]
def wsX8_passHour_r3 : List Cond := [Cond.methodLink RX8 277 yX8_ofKind, Cond.static yX8_ofKind, Cond.code yX8_ofKind cX8_ofKind 2 (some .int), Cond.methodLink RX8 88 yX8_isBelow, Cond.static yX8_isBelow, Cond.code yX8_isBelow cX8_isBelow 2 (some .boolean), Cond.methodLink RX8 291 yX1_melt, Cond.instanceMethod yX1_melt, Cond.selects RX1 yX1_melt yX1_melt, Cond.initialized RX1, Cond.code yX1_melt cX1_melt 3 none, Cond.fieldLink RX1 25 "IceHall$Ice" "thickness" "I", Cond.methodLink RX1 54 Lib.Math.min.name, Cond.fieldLink RX1 37 "IceHall$Ice" "melted" "I", Cond.methodLink RX8 294 yX1_decide, Cond.instanceMethod yX1_decide, Cond.selects RX1 yX1_decide yX1_decide, Cond.code yX1_decide cX1_decide 2 none, Cond.fieldLink RX1 28 "IceHall$Ice" "ruts" "I", Cond.fieldLink RX1 73 "IceHall$Session" "kind" "I", Cond.methodLink RX1 60 yX6_lose, Cond.instanceMethod yX6_lose, Cond.selects RX6 yX6_lose yX6_lose, Cond.code yX6_lose cX6_lose 2 none]
def wsX8_passHour_r4 : List Cond := [Cond.fieldLink RX6 15 "IceHall$Session" "whyLost" "I", Cond.methodLink RX1 66 yX6_hold, Cond.instanceMethod yX6_hold, Cond.selects RX6 yX6_hold yX6_hold, Cond.code yX6_hold cX6_hold 1 none, Cond.fieldLink RX6 41 "IceHall$Session" "fee" "I", Cond.fieldLink RX6 18 "IceHall$Session" "owes" "I", Cond.methodLink RX8 298 yX8_makeCut, Cond.instanceMethod yX8_makeCut, Cond.selects RX8 yX8_makeCut yX8_makeCut, Cond.code yX8_makeCut cX8_makeCut 3 none, Cond.fieldLink RX8 305 "IceHall$Ice" "toFlood" "I", Cond.fieldLink RX8 267 "IceHall" "waste" "I", Cond.methodLink RX8 302 yX1_shave, Cond.instanceMethod yX1_shave, Cond.selects RX1 yX1_shave yX1_shave, Cond.code yX1_shave cX1_shave 2 none, Cond.fieldLink RX1 40 "IceHall$Ice" "toShave" "I", Cond.fieldLink RX1 31 "IceHall$Ice" "shaved" "I", Cond.methodLink RX1 80 Lib.Math.max.name, Cond.static Lib.Math.max.name, Cond.code Lib.Math.max.name Lib.Math.max.code 2 (some .int), Cond.methodLink RX8 308 yX1_freeze, Cond.instanceMethod yX1_freeze]
def wsX8_passHour_r5 : List Cond := [Cond.selects RX1 yX1_freeze yX1_freeze, Cond.code yX1_freeze cX1_freeze 2 none, Cond.fieldLink RX1 34 "IceHall$Ice" "flooded" "I", Cond.methodLink RX8 160 yX1_tellCut, Cond.instanceMethod yX1_tellCut, Cond.selects RX1 yX1_tellCut yX1_tellCut, Cond.code yX1_tellCut cX1_tellCut 3 none, Cond.fieldLink RX1 43 "IceHall$Ice" "toFlood" "I"]
def wsX8_passHour : List Cond := .code yX8_passHour cX8_passHour 7 none :: ((wsX8_passHour_r1 ++ (wsX8_passHour_r2 ++ (wsX8_passHour_r3 ++ (wsX8_passHour_r4 ++ wsX8_passHour_r5)))) ++ wsX80 ++ wsX10 ++ wsX60 ++ wsX00)
def wsX8_step_r1 : List Cond := [Cond.fieldLink RX8 75 "IceHall" "working" "I", Cond.fieldLink RX8 96 "IceHall" "now" "I", Cond.methodLink RX8 181 yX8_isWarmth, Cond.static yX8_isWarmth, Cond.initialized RX8, Cond.code yX8_isWarmth cX8_isWarmth 1 (some .boolean), Cond.methodLink RX8 184 yX8_runCompressors, Cond.instanceMethod yX8_runCompressors, Cond.selects RX8 yX8_runCompressors yX8_runCompressors, Cond.code yX8_runCompressors cX8_runCompressors 2 none, Cond.fieldLink RX8 264 "IceHall" "cost" "I", Cond.fieldLink RX8 32 "IceHall" "prices" "[I", Cond.fieldLink RX8 68 "IceHall" "store" "I", Cond.fieldLink RX8 72 "IceHall" "storeMost" "I", Cond.fieldLink RX8 261 "IceHall" "spilt" "I", Cond.methodLink RX8 187 yX8_wantOfWarmth, Cond.static yX8_wantOfWarmth, Cond.code yX8_wantOfWarmth cX8_wantOfWarmth 1 (some .int), Cond.methodLink RX8 191 yX8_passHour, Cond.instanceMethod yX8_passHour, Cond.selects RX8 yX8_passHour yX8_passHour, Cond.code yX8_passHour cX8_passHour 7 none, Cond.methodLink RX8 286 Lib.Math.min.name, Cond.static Lib.Math.min.name]
def wsX8_step_r2 : List Cond := [Cond.initialized "java/lang/Math", Cond.code Lib.Math.min.name Lib.Math.min.code 2 (some .int), Cond.fieldLink RX8 171 "IceHall$Ice" "closed" "LIceHall$HourSet;", Cond.methodLink RX8 112 yX8_iceOf, Cond.instanceMethod yX8_iceOf, Cond.selects RX8 yX8_iceOf yX8_iceOf, Cond.code yX8_iceOf cX8_iceOf 2 (some (.object "IceHall$Ice")), Cond.fieldLink RX8 10 "IceHall" "firstIce" "LIceHall$Ice;", Cond.fieldLink RX8 16 "IceHall" "secondIce" "LIceHall$Ice;", Cond.methodLink RX8 197 yX8_standingAt, Cond.instanceMethod yX8_standingAt, Cond.selects RX8 yX8_standingAt yX8_standingAt, Cond.code yX8_standingAt cX8_standingAt 3 (some (.object "IceHall$Session")), Cond.methodLink RX8 237 yX8_numberAt, Cond.instanceMethod yX8_numberAt, Cond.selects RX8 yX8_numberAt yX8_numberAt, Cond.code yX8_numberAt cX8_numberAt 5 (some .int), Cond.fieldLink RX8 119 "IceHall$Ice" "taken" "LIceHall$HourSet;", Cond.fieldLink RX8 99 "IceHall" "everBooked" "I", Cond.fieldLink RX8 138 "IceHall$Session" "onSheet" "I", Cond.fieldLink RX8 141 "IceHall$Session" "hour" "I", Cond.methodLink RX8 255 yX0_has, Cond.instanceMethod yX0_has, Cond.selects RX0 yX0_has yX0_has]
def wsX8_step_r3 : List Cond := [Cond.initialized RX0, Cond.code yX0_has cX0_has 2 (some .boolean), Cond.fieldLink RX0 9 "IceHall$HourSet" "words" "[J", Cond.methodLink RX8 131 yX8_sessionOf, Cond.instanceMethod yX8_sessionOf, Cond.selects RX8 yX8_sessionOf yX8_sessionOf, Cond.code yX8_sessionOf cX8_sessionOf 2 (some (.object "IceHall$Session")), Cond.fieldLink RX8 28 "IceHall" "sessions" "[LIceHall$Session;", Cond.methodLink RX8 270 yX6_stands, Cond.instanceMethod yX6_stands, Cond.selects RX6 yX6_stands yX6_stands, Cond.initialized RX6, Cond.code yX6_stands cX6_stands 1 (some .boolean), Cond.fieldLink RX6 9 "IceHall$Session" "state" "I", Cond.methodLink RX8 201 yX8_heatOf, Cond.static yX8_heatOf, Cond.code yX8_heatOf cX8_heatOf 1 (some .int), Cond.fieldLink RX8 274 "IceHall" "HEAT_OF_KIND" "[I", Cond.fieldLink RX8 228 "IceHall$Session" "kind" "I", Cond.methodLink RX8 277 yX8_ofKind, Cond.static yX8_ofKind, Cond.code yX8_ofKind cX8_ofKind 2 (some .int), Cond.methodLink RX8 88 yX8_isBelow, Cond.static yX8_isBelow]
def wsX8_step_r4 : List Cond := [Cond.code yX8_isBelow cX8_isBelow 2 (some .boolean), Cond.methodLink RX8 291 yX1_melt, Cond.instanceMethod yX1_melt, Cond.selects RX1 yX1_melt yX1_melt, Cond.initialized RX1, Cond.code yX1_melt cX1_melt 3 none, Cond.fieldLink RX1 25 "IceHall$Ice" "thickness" "I", Cond.methodLink RX1 54 Lib.Math.min.name, Cond.fieldLink RX1 37 "IceHall$Ice" "melted" "I", Cond.methodLink RX8 294 yX1_decide, Cond.instanceMethod yX1_decide, Cond.selects RX1 yX1_decide yX1_decide, Cond.code yX1_decide cX1_decide 2 none, Cond.fieldLink RX1 28 "IceHall$Ice" "ruts" "I", Cond.fieldLink RX1 73 "IceHall$Session" "kind" "I", Cond.methodLink RX1 60 yX6_lose, Cond.instanceMethod yX6_lose, Cond.selects RX6 yX6_lose yX6_lose, Cond.code yX6_lose cX6_lose 2 none, Cond.fieldLink RX6 15 "IceHall$Session" "whyLost" "I", Cond.methodLink RX1 66 yX6_hold, Cond.instanceMethod yX6_hold, Cond.selects RX6 yX6_hold yX6_hold, Cond.code yX6_hold cX6_hold 1 none]
def wsX8_step_r5 : List Cond := [Cond.fieldLink RX6 41 "IceHall$Session" "fee" "I", Cond.fieldLink RX6 18 "IceHall$Session" "owes" "I", Cond.methodLink RX8 298 yX8_makeCut, Cond.instanceMethod yX8_makeCut, Cond.selects RX8 yX8_makeCut yX8_makeCut, Cond.code yX8_makeCut cX8_makeCut 3 none, Cond.fieldLink RX8 305 "IceHall$Ice" "toFlood" "I", Cond.fieldLink RX8 267 "IceHall" "waste" "I", Cond.methodLink RX8 302 yX1_shave, Cond.instanceMethod yX1_shave, Cond.selects RX1 yX1_shave yX1_shave, Cond.code yX1_shave cX1_shave 2 none, Cond.fieldLink RX1 40 "IceHall$Ice" "toShave" "I", Cond.fieldLink RX1 31 "IceHall$Ice" "shaved" "I", Cond.methodLink RX1 80 Lib.Math.max.name, Cond.static Lib.Math.max.name, Cond.code Lib.Math.max.name Lib.Math.max.code 2 (some .int), Cond.methodLink RX8 308 yX1_freeze, Cond.instanceMethod yX1_freeze, Cond.selects RX1 yX1_freeze yX1_freeze, Cond.code yX1_freeze cX1_freeze 2 none, Cond.fieldLink RX1 34 "IceHall$Ice" "flooded" "I", Cond.methodLink RX8 160 yX1_tellCut, Cond.instanceMethod yX1_tellCut]
def wsX8_step_r6 : List Cond := [Cond.selects RX1 yX1_tellCut yX1_tellCut, Cond.code yX1_tellCut cX1_tellCut 3 none, Cond.fieldLink RX1 43 "IceHall$Ice" "toFlood" "I"]
def wsX8_step : List Cond := .code yX8_step cX8_step 4 (some .int) :: ((wsX8_step_r1 ++ (wsX8_step_r2 ++ (wsX8_step_r3 ++ (wsX8_step_r4 ++ (wsX8_step_r5 ++ wsX8_step_r6))))) ++ wsX80 ++ wsX10 ++ wsX60 ++ wsX00)
def wsX8_plan_r1 : List Cond := [Cond.fieldLink RX8 64 "IceHall" "planner" "LIceHall$Planner;", Cond.fieldLink RX8 96 "IceHall" "now" "I", Cond.fieldLink RX8 32 "IceHall" "prices" "[I", Cond.fieldLink RX8 68 "IceHall" "store" "I", Cond.fieldLink RX8 72 "IceHall" "storeMost" "I", Cond.fieldLink RX8 75 "IceHall" "working" "I", Cond.methodLink RX8 181 yX8_isWarmth, Cond.static yX8_isWarmth, Cond.initialized RX8, Cond.code yX8_isWarmth cX8_isWarmth 1 (some .boolean), Cond.methodLink RX8 194 yX3_begin, Cond.instanceMethod yX3_begin, Cond.selects RX3 yX3_begin yX3_begin, Cond.initialized RX3, Cond.code yX3_begin cX3_begin 1 none, Cond.fieldLink RX3 28 "IceHall$Planner" "size" "I", Cond.methodLink RX8 197 yX8_standingAt, Cond.instanceMethod yX8_standingAt, Cond.selects RX8 yX8_standingAt yX8_standingAt, Cond.code yX8_standingAt cX8_standingAt 3 (some (.object "IceHall$Session")), Cond.methodLink RX8 237 yX8_numberAt, Cond.instanceMethod yX8_numberAt, Cond.selects RX8 yX8_numberAt yX8_numberAt, Cond.code yX8_numberAt cX8_numberAt 5 (some .int)]
def wsX8_plan_r2 : List Cond := [Cond.fieldLink RX8 119 "IceHall$Ice" "taken" "LIceHall$HourSet;", Cond.fieldLink RX8 99 "IceHall" "everBooked" "I", Cond.fieldLink RX8 138 "IceHall$Session" "onSheet" "I", Cond.fieldLink RX8 141 "IceHall$Session" "hour" "I", Cond.methodLink RX8 112 yX8_iceOf, Cond.instanceMethod yX8_iceOf, Cond.selects RX8 yX8_iceOf yX8_iceOf, Cond.code yX8_iceOf cX8_iceOf 2 (some (.object "IceHall$Ice")), Cond.fieldLink RX8 10 "IceHall" "firstIce" "LIceHall$Ice;", Cond.fieldLink RX8 16 "IceHall" "secondIce" "LIceHall$Ice;", Cond.methodLink RX8 255 yX0_has, Cond.instanceMethod yX0_has, Cond.selects RX0 yX0_has yX0_has, Cond.initialized RX0, Cond.code yX0_has cX0_has 2 (some .boolean), Cond.fieldLink RX0 9 "IceHall$HourSet" "words" "[J", Cond.methodLink RX8 131 yX8_sessionOf, Cond.instanceMethod yX8_sessionOf, Cond.selects RX8 yX8_sessionOf yX8_sessionOf, Cond.code yX8_sessionOf cX8_sessionOf 2 (some (.object "IceHall$Session")), Cond.fieldLink RX8 28 "IceHall" "sessions" "[LIceHall$Session;", Cond.methodLink RX8 270 yX6_stands, Cond.instanceMethod yX6_stands, Cond.selects RX6 yX6_stands yX6_stands]
def wsX8_plan_r3 : List Cond := [Cond.initialized RX6, Cond.code yX6_stands cX6_stands 1 (some .boolean), Cond.fieldLink RX6 9 "IceHall$Session" "state" "I", Cond.methodLink RX8 201 yX8_heatOf, Cond.static yX8_heatOf, Cond.code yX8_heatOf cX8_heatOf 1 (some .int), Cond.fieldLink RX8 274 "IceHall" "HEAT_OF_KIND" "[I", Cond.fieldLink RX8 228 "IceHall$Session" "kind" "I", Cond.methodLink RX8 277 yX8_ofKind, Cond.static yX8_ofKind, Cond.code yX8_ofKind cX8_ofKind 2 (some .int), Cond.methodLink RX8 88 yX8_isBelow, Cond.static yX8_isBelow, Cond.code yX8_isBelow cX8_isBelow 2 (some .boolean), Cond.methodLink RX8 187 yX8_wantOfWarmth, Cond.static yX8_wantOfWarmth, Cond.code yX8_wantOfWarmth cX8_wantOfWarmth 1 (some .int), Cond.methodLink RX8 205 yX3_addHour, Cond.instanceMethod yX3_addHour, Cond.selects RX3 yX3_addHour yX3_addHour, Cond.code yX3_addHour cX3_addHour 3 none, Cond.fieldLink RX3 15 "IceHall$Planner" "priceIn" "[I", Cond.fieldLink RX3 9 "IceHall$Planner" "wantedAhead" "[I", Cond.methodLink RX8 208 yX3_solve]
def wsX8_plan_r4 : List Cond := [Cond.instanceMethod yX3_solve, Cond.selects RX3 yX3_solve yX3_solve, Cond.code yX3_solve cX3_solve 6 (some .int), Cond.fieldLink RX3 35 "IceHall$Planner" "store" "I", Cond.fieldLink RX3 38 "IceHall$Planner" "storeMost" "I", Cond.fieldLink RX3 41 "IceHall$Planner" "working" "I", Cond.fieldLink RX3 18 "IceHall$Planner" "best" "[I", Cond.constant RX3 48 (1000000000), Cond.methodLink RX3 44 yX3_leastOver, Cond.instanceMethod yX3_leastOver, Cond.selects RX3 yX3_leastOver yX3_leastOver, Cond.code yX3_leastOver cX3_leastOver 5 (some .int), Cond.methodLink RX3 56 Lib.Math.min.name, Cond.static Lib.Math.min.name, Cond.initialized "java/lang/Math", Cond.code Lib.Math.min.name Lib.Math.min.code 2 (some .int), Cond.methodLink RX3 52 yX3_weightWith, Cond.instanceMethod yX3_weightWith, Cond.selects RX3 yX3_weightWith yX3_weightWith, Cond.code yX3_weightWith cX3_weightWith 6 (some .int), Cond.methodLink RX3 49 yX3_keepRow, Cond.instanceMethod yX3_keepRow, Cond.selects RX3 yX3_keepRow yX3_keepRow, Cond.code yX3_keepRow cX3_keepRow 4 none]
def wsX8_plan_r5 : List Cond := [Cond.fieldLink RX3 24 "IceHall$Planner" "rowSize" "I", Cond.fieldLink RX3 21 "IceHall$Planner" "row" "[I", Cond.methodLink RX3 61 yX3_leastOn, Cond.instanceMethod yX3_leastOn, Cond.selects RX3 yX3_leastOn yX3_leastOn, Cond.code yX3_leastOn cX3_leastOn 5 (some .int)]
def wsX8_plan : List Cond := .code yX8_plan cX8_plan 6 (some .int) :: ((wsX8_plan_r1 ++ (wsX8_plan_r2 ++ (wsX8_plan_r3 ++ (wsX8_plan_r4 ++ wsX8_plan_r5)))) ++ wsX80 ++ wsX30 ++ wsX10 ++ wsX60 ++ wsX00)
def wsX8_planned : List Cond := .code yX8_planned cX8_planned 2 (some .int) :: ([.fieldLink RX8 64 "IceHall" "planner" "LIceHall$Planner;", .fieldLink RX8 212 "IceHall$Planner" "rowSize" "I", .fieldLink RX8 215 "IceHall$Planner" "row" "[I", .methodLink RX8 88 yX8_isBelow, .static yX8_isBelow, .initialized RX8, .code yX8_isBelow cX8_isBelow 2 (some .boolean)] ++ wsX80 ++ wsX30)
def wsX8_countInState : List Cond := .code yX8_countInState cX8_countInState 6 (some .int) :: ([.fieldLink RX8 99 "IceHall" "everBooked" "I", .fieldLink RX8 225 "IceHall$Session" "byClub" "I", .fieldLink RX8 135 "IceHall$Session" "state" "I", .methodLink RX8 131 yX8_sessionOf, .instanceMethod yX8_sessionOf, .selects RX8 yX8_sessionOf yX8_sessionOf, .initialized RX8, .code yX8_sessionOf cX8_sessionOf 2 (some (.object "IceHall$Session")), .fieldLink RX8 28 "IceHall" "sessions" "[LIceHall$Session;"] ++ wsX80 ++ wsX60)
def wsX8_partOf : List Cond := .code yX8_partOf cX8_partOf 10 (some .int) :: ([.methodLink RX8 219 yX8_countInState, .instanceMethod yX8_countInState, .selects RX8 yX8_countInState yX8_countInState, .initialized RX8, .code yX8_countInState cX8_countInState 6 (some .int), .fieldLink RX8 99 "IceHall" "everBooked" "I", .fieldLink RX8 225 "IceHall$Session" "byClub" "I", .fieldLink RX8 135 "IceHall$Session" "state" "I", .methodLink RX8 131 yX8_sessionOf, .instanceMethod yX8_sessionOf, .selects RX8 yX8_sessionOf yX8_sessionOf, .code yX8_sessionOf cX8_sessionOf 2 (some (.object "IceHall$Session")), .fieldLink RX8 28 "IceHall" "sessions" "[LIceHall$Session;"] ++ wsX80 ++ wsX60)
def wsX8_part : List Cond := .code yX8_part cX8_part 5 (some .int) :: ([.constant RX8 218 (100000), .methodLink RX8 88 yX8_isBelow, .static yX8_isBelow, .initialized RX8, .code yX8_isBelow cX8_isBelow 2 (some .boolean), .methodLink RX8 219 yX8_countInState, .instanceMethod yX8_countInState, .selects RX8 yX8_countInState yX8_countInState, .code yX8_countInState cX8_countInState 6 (some .int), .fieldLink RX8 99 "IceHall" "everBooked" "I", .fieldLink RX8 225 "IceHall$Session" "byClub" "I", .fieldLink RX8 135 "IceHall$Session" "state" "I", .methodLink RX8 131 yX8_sessionOf, .instanceMethod yX8_sessionOf, .selects RX8 yX8_sessionOf yX8_sessionOf, .code yX8_sessionOf cX8_sessionOf 2 (some (.object "IceHall$Session")), .fieldLink RX8 28 "IceHall" "sessions" "[LIceHall$Session;", .methodLink RX8 222 yX8_partOf, .instanceMethod yX8_partOf, .selects RX8 yX8_partOf yX8_partOf, .code yX8_partOf cX8_partOf 10 (some .int)] ++ wsX80 ++ wsX60)
def wsX8_look : List Cond := .code yX8_look cX8_look 4 (some .int) :: ([.fieldLink RX8 225 "IceHall$Session" "byClub" "I", .fieldLink RX8 228 "IceHall$Session" "kind" "I", .fieldLink RX8 138 "IceHall$Session" "onSheet" "I", .fieldLink RX8 141 "IceHall$Session" "hour" "I", .fieldLink RX8 135 "IceHall$Session" "state" "I", .fieldLink RX8 231 "IceHall$Session" "whyLost" "I", .fieldLink RX8 147 "IceHall$Session" "fee" "I", .fieldLink RX8 153 "IceHall$Session" "owes" "I", .fieldLink RX8 234 "IceHall$Session" "timesMoved" "I", .methodLink RX8 131 yX8_sessionOf, .instanceMethod yX8_sessionOf, .selects RX8 yX8_sessionOf yX8_sessionOf, .initialized RX8, .code yX8_sessionOf cX8_sessionOf 2 (some (.object "IceHall$Session")), .fieldLink RX8 99 "IceHall" "everBooked" "I", .fieldLink RX8 28 "IceHall" "sessions" "[LIceHall$Session;"] ++ wsX60 ++ wsX80)
def wsX8_at_r1 : List Cond := [Cond.methodLink RX8 88 yX8_isBelow, Cond.static yX8_isBelow, Cond.initialized RX8, Cond.code yX8_isBelow cX8_isBelow 2 (some .boolean), Cond.methodLink RX8 237 yX8_numberAt, Cond.instanceMethod yX8_numberAt, Cond.selects RX8 yX8_numberAt yX8_numberAt, Cond.code yX8_numberAt cX8_numberAt 5 (some .int), Cond.fieldLink RX8 119 "IceHall$Ice" "taken" "LIceHall$HourSet;", Cond.fieldLink RX8 99 "IceHall" "everBooked" "I", Cond.fieldLink RX8 138 "IceHall$Session" "onSheet" "I", Cond.fieldLink RX8 141 "IceHall$Session" "hour" "I", Cond.methodLink RX8 112 yX8_iceOf, Cond.instanceMethod yX8_iceOf, Cond.selects RX8 yX8_iceOf yX8_iceOf, Cond.code yX8_iceOf cX8_iceOf 2 (some (.object "IceHall$Ice")), Cond.fieldLink RX8 10 "IceHall" "firstIce" "LIceHall$Ice;", Cond.fieldLink RX8 16 "IceHall" "secondIce" "LIceHall$Ice;", Cond.methodLink RX8 255 yX0_has, Cond.instanceMethod yX0_has, Cond.selects RX0 yX0_has yX0_has, Cond.initialized RX0, Cond.code yX0_has cX0_has 2 (some .boolean), Cond.fieldLink RX0 9 "IceHall$HourSet" "words" "[J"]
def wsX8_at_r2 : List Cond := [Cond.methodLink RX8 131 yX8_sessionOf, Cond.instanceMethod yX8_sessionOf, Cond.selects RX8 yX8_sessionOf yX8_sessionOf, Cond.code yX8_sessionOf cX8_sessionOf 2 (some (.object "IceHall$Session")), Cond.fieldLink RX8 28 "IceHall" "sessions" "[LIceHall$Session;", Cond.methodLink RX8 270 yX6_stands, Cond.instanceMethod yX6_stands, Cond.selects RX6 yX6_stands yX6_stands, Cond.initialized RX6, Cond.code yX6_stands cX6_stands 1 (some .boolean), Cond.fieldLink RX6 9 "IceHall$Session" "state" "I"]
def wsX8_at : List Cond := .code yX8_at cX8_at 3 (some .int) :: ((wsX8_at_r1 ++ wsX8_at_r2) ++ wsX10 ++ wsX80 ++ wsX60 ++ wsX00)
def wsX8_sheet : List Cond := .code yX8_sheet cX8_sheet 4 (some .int) :: ([.fieldLink RX8 240 "IceHall$Ice" "thickness" "I", .fieldLink RX8 243 "IceHall$Ice" "ruts" "I", .fieldLink RX8 246 "IceHall$Ice" "shaved" "I", .fieldLink RX8 249 "IceHall$Ice" "flooded" "I", .fieldLink RX8 252 "IceHall$Ice" "melted" "I", .fieldLink RX8 171 "IceHall$Ice" "closed" "LIceHall$HourSet;", .fieldLink RX8 96 "IceHall" "now" "I", .methodLink RX8 88 yX8_isBelow, .static yX8_isBelow, .initialized RX8, .code yX8_isBelow cX8_isBelow 2 (some .boolean), .methodLink RX8 112 yX8_iceOf, .instanceMethod yX8_iceOf, .selects RX8 yX8_iceOf yX8_iceOf, .code yX8_iceOf cX8_iceOf 2 (some (.object "IceHall$Ice")), .fieldLink RX8 10 "IceHall" "firstIce" "LIceHall$Ice;", .fieldLink RX8 16 "IceHall" "secondIce" "LIceHall$Ice;", .methodLink RX8 255 yX0_has, .instanceMethod yX0_has, .selects RX0 yX0_has yX0_has, .initialized RX0, .code yX0_has cX0_has 2 (some .boolean), .fieldLink RX0 9 "IceHall$HourSet" "words" "[J"] ++ wsX10 ++ wsX80 ++ wsX00)
def wsX8_owedBy : List Cond := .code yX8_owedBy cX8_owedBy 5 (some .int) :: ([.fieldLink RX8 99 "IceHall" "everBooked" "I", .fieldLink RX8 225 "IceHall$Session" "byClub" "I", .fieldLink RX8 153 "IceHall$Session" "owes" "I", .methodLink RX8 131 yX8_sessionOf, .instanceMethod yX8_sessionOf, .selects RX8 yX8_sessionOf yX8_sessionOf, .initialized RX8, .code yX8_sessionOf cX8_sessionOf 2 (some (.object "IceHall$Session")), .fieldLink RX8 28 "IceHall" "sessions" "[LIceHall$Session;"] ++ wsX80 ++ wsX60)
def wsX8_club : List Cond := .code yX8_club cX8_club 3 (some .int) :: ([.methodLink RX8 88 yX8_isBelow, .static yX8_isBelow, .initialized RX8, .code yX8_isBelow cX8_isBelow 2 (some .boolean), .methodLink RX8 219 yX8_countInState, .instanceMethod yX8_countInState, .selects RX8 yX8_countInState yX8_countInState, .code yX8_countInState cX8_countInState 6 (some .int), .fieldLink RX8 99 "IceHall" "everBooked" "I", .fieldLink RX8 225 "IceHall$Session" "byClub" "I", .fieldLink RX8 135 "IceHall$Session" "state" "I", .methodLink RX8 131 yX8_sessionOf, .instanceMethod yX8_sessionOf, .selects RX8 yX8_sessionOf yX8_sessionOf, .code yX8_sessionOf cX8_sessionOf 2 (some (.object "IceHall$Session")), .fieldLink RX8 28 "IceHall" "sessions" "[LIceHall$Session;", .methodLink RX8 258 yX8_owedBy, .instanceMethod yX8_owedBy, .selects RX8 yX8_owedBy yX8_owedBy, .code yX8_owedBy cX8_owedBy 5 (some .int), .fieldLink RX8 153 "IceHall$Session" "owes" "I"] ++ wsX80 ++ wsX60)
def wsX8_count : List Cond := .code yX8_count cX8_count 2 (some .int) :: ([.fieldLink RX8 96 "IceHall" "now" "I", .fieldLink RX8 68 "IceHall" "store" "I", .fieldLink RX8 261 "IceHall" "spilt" "I", .fieldLink RX8 264 "IceHall" "cost" "I", .fieldLink RX8 267 "IceHall" "waste" "I", .fieldLink RX8 99 "IceHall" "everBooked" "I", .fieldLink RX8 72 "IceHall" "storeMost" "I", .fieldLink RX8 75 "IceHall" "working" "I", .fieldLink RX8 78 "IceHall" "restMost" "I", .fieldLink RX8 39 "IceHall" "tape" "LIceHall$Tape;", .fieldLink RX8 81 "IceHall$Tape" "size" "I", .fieldLink RX8 32 "IceHall" "prices" "[I"] ++ wsX80 ++ wsX70)
def wsX9_init_r1 : List Cond := [Cond.methodLink RX9 1 objectInit, Cond.instanceMethod objectInit, Cond.code objectInit ⟨#[0xb1]⟩ 1 none, Cond.arrayClass .byte, Cond.fieldLink RX9 7 "IceHallModel" "tape" "[B", Cond.arrayClass .int, Cond.fieldLink RX9 13 "IceHallModel" "clocks" "[I", Cond.fieldLink RX9 17 "IceHallModel" "daysOf" "[I", Cond.fieldLink RX9 20 "IceHallModel" "kinds" "[I", Cond.fieldLink RX9 23 "IceHallModel" "limit" "[I", Cond.fieldLink RX9 26 "IceHallModel" "fee" "[I", Cond.fieldLink RX9 29 "IceHallModel" "hundredths" "[I", Cond.fieldLink RX9 32 "IceHallModel" "store" "I", Cond.fieldLink RX9 36 "IceHallModel" "mostOf" "I", Cond.fieldLink RX9 39 "IceHallModel" "working" "I", Cond.fieldLink RX9 42 "IceHallModel" "restOf" "I", Cond.fieldLink RX9 45 "IceHallModel" "priceOf" "[I", Cond.fieldLink RX9 48 "IceHallModel" "thick" "[I", Cond.fieldLink RX9 51 "IceHallModel" "ruts" "[I", Cond.fieldLink RX9 54 "IceHallModel" "shaved" "[I", Cond.fieldLink RX9 57 "IceHallModel" "flooded" "[I", Cond.fieldLink RX9 60 "IceHallModel" "melted" "[I", Cond.fieldLink RX9 63 "IceHallModel" "cutShave" "[I", Cond.fieldLink RX9 66 "IceHallModel" "cutFlood" "[I"]
def wsX9_init_r2 : List Cond := [Cond.arrayClass .boolean, Cond.fieldLink RX9 69 "IceHallModel" "hasCut" "[Z", Cond.fieldLink RX9 73 "IceHallModel" "clubOf" "[I", Cond.fieldLink RX9 76 "IceHallModel" "kindOf" "[I", Cond.fieldLink RX9 79 "IceHallModel" "sheetOf" "[I", Cond.fieldLink RX9 82 "IceHallModel" "hourOf" "[I", Cond.fieldLink RX9 85 "IceHallModel" "state" "[I", Cond.fieldLink RX9 88 "IceHallModel" "why" "[I", Cond.fieldLink RX9 91 "IceHallModel" "feeOf" "[I", Cond.fieldLink RX9 94 "IceHallModel" "partOf" "[I", Cond.fieldLink RX9 97 "IceHallModel" "moved" "[I", Cond.fieldLink RX9 100 "IceHallModel" "closedSheet" "[I", Cond.fieldLink RX9 103 "IceHallModel" "closedFrom" "[I", Cond.fieldLink RX9 106 "IceHallModel" "closedTo" "[I", Cond.fieldLink RX9 109 "IceHallModel" "out" "[I", Cond.fieldLink RX9 112 "IceHallModel" "way" "[I", Cond.fieldLink RX9 115 "IceHallModel" "best" "[I", Cond.fieldLink RX9 118 "IceHallModel" "wayHour" "[I", Cond.fieldLink RX9 121 "IceHallModel" "wants" "[I", Cond.fieldLink RX9 124 "IceHallModel" "row" "[I", Cond.fieldLink RX9 127 "IceHallModel" "bestRow" "[I", Cond.fieldLink RX9 130 "IceHallModel" "told" "[I", Cond.fieldLink RX9 133 "IceHallModel" "share" "[I", Cond.arrayClass .long]
def wsX9_init_r3 : List Cond := [Cond.fieldLink RX9 136 "IceHallModel" "over" "[J", Cond.constant RX9 140 (16777215)]
def wsX9_init : List Cond := .code yX9_init cX9_init 2 none :: ((wsX9_init_r1 ++ (wsX9_init_r2 ++ wsX9_init_r3)) ++ wsX90)
def wsX9_types : List Cond := .code yX9_types cX9_types 3 none :: ([.fieldLink RX9 7 "IceHallModel" "tape" "[B", .fieldLink RX9 141 "IceHallModel" "taped" "I"] ++ wsX90)
def wsX9_feed : List Cond := .code yX9_feed cX9_feed 6 (some .int) :: ([.fieldLink RX9 141 "IceHallModel" "taped" "I", .methodLink RX9 144 yX9_types, .instanceMethod yX9_types, .selects RX9 yX9_types yX9_types, .initialized RX9, .code yX9_types cX9_types 3 none, .fieldLink RX9 7 "IceHallModel" "tape" "[B"] ++ wsX90)
def wsX9_here : List Cond := .code yX9_here cX9_here 1 (some .int) :: ([.fieldLink RX9 148 "IceHallModel" "place" "I", .fieldLink RX9 151 "IceHallModel" "size" "I", .fieldLink RX9 7 "IceHallModel" "tape" "[B"] ++ wsX90)
def wsX9_isDigit : List Cond := .code yX9_isDigit cX9_isDigit 1 (some .boolean) :: ([.methodLink RX9 154 yX9_here, .instanceMethod yX9_here, .selects RX9 yX9_here yX9_here, .initialized RX9, .code yX9_here cX9_here 1 (some .int), .fieldLink RX9 148 "IceHallModel" "place" "I", .fieldLink RX9 151 "IceHallModel" "size" "I", .fieldLink RX9 7 "IceHallModel" "tape" "[B"] ++ wsX90)
def wsX9_wrong : List Cond := .code yX9_wrong cX9_wrong 3 (some .boolean) :: ([.fieldLink RX9 158 "IceHallModel" "fault" "I"] ++ wsX90)
def wsX9_reads : List Cond := .code yX9_reads cX9_reads 4 (some .boolean) :: ([.fieldLink RX9 148 "IceHallModel" "place" "I", .fieldLink RX9 161 "IceHallModel" "number" "I", .methodLink RX9 164 yX9_isDigit, .instanceMethod yX9_isDigit, .selects RX9 yX9_isDigit yX9_isDigit, .initialized RX9, .code yX9_isDigit cX9_isDigit 1 (some .boolean), .methodLink RX9 154 yX9_here, .instanceMethod yX9_here, .selects RX9 yX9_here yX9_here, .code yX9_here cX9_here 1 (some .int), .fieldLink RX9 151 "IceHallModel" "size" "I", .fieldLink RX9 7 "IceHallModel" "tape" "[B", .methodLink RX9 168 yX9_wrong, .instanceMethod yX9_wrong, .selects RX9 yX9_wrong yX9_wrong, .code yX9_wrong cX9_wrong 3 (some .boolean), .fieldLink RX9 158 "IceHallModel" "fault" "I"] ++ wsX90)
def wsX9_readsSet : List Cond := .code yX9_readsSet cX9_readsSet 4 (some .boolean) :: ([.fieldLink RX9 161 "IceHallModel" "number" "I", .fieldLink RX9 148 "IceHallModel" "place" "I", .methodLink RX9 164 yX9_isDigit, .instanceMethod yX9_isDigit, .selects RX9 yX9_isDigit yX9_isDigit, .initialized RX9, .code yX9_isDigit cX9_isDigit 1 (some .boolean), .methodLink RX9 154 yX9_here, .instanceMethod yX9_here, .selects RX9 yX9_here yX9_here, .code yX9_here cX9_here 1 (some .int), .fieldLink RX9 151 "IceHallModel" "size" "I", .fieldLink RX9 7 "IceHallModel" "tape" "[B", .methodLink RX9 168 yX9_wrong, .instanceMethod yX9_wrong, .selects RX9 yX9_wrong yX9_wrong, .code yX9_wrong cX9_wrong 3 (some .boolean), .fieldLink RX9 158 "IceHallModel" "fault" "I"] ++ wsX90)
def wsX9_readsClause_r1 : List Cond := [Cond.fieldLink RX9 148 "IceHallModel" "place" "I", Cond.fieldLink RX9 161 "IceHallModel" "number" "I", Cond.fieldLink RX9 175 "IceHallModel" "saidClocks" "I", Cond.fieldLink RX9 181 "IceHallModel" "saidDays" "I", Cond.fieldLink RX9 184 "IceHallModel" "saidKinds" "I", Cond.fieldLink RX9 187 "IceHallModel" "saidLimit" "I", Cond.fieldLink RX9 190 "IceHallModel" "saidFee" "I", Cond.fieldLink RX9 193 "IceHallModel" "saidHundredths" "I", Cond.methodLink RX9 154 yX9_here, Cond.instanceMethod yX9_here, Cond.selects RX9 yX9_here yX9_here, Cond.initialized RX9, Cond.code yX9_here cX9_here 1 (some .int), Cond.fieldLink RX9 151 "IceHallModel" "size" "I", Cond.fieldLink RX9 7 "IceHallModel" "tape" "[B", Cond.methodLink RX9 168 yX9_wrong, Cond.instanceMethod yX9_wrong, Cond.selects RX9 yX9_wrong yX9_wrong, Cond.code yX9_wrong cX9_wrong 3 (some .boolean), Cond.fieldLink RX9 158 "IceHallModel" "fault" "I", Cond.methodLink RX9 172 yX9_reads, Cond.instanceMethod yX9_reads, Cond.selects RX9 yX9_reads yX9_reads, Cond.code yX9_reads cX9_reads 4 (some .boolean)]
def wsX9_readsClause_r2 : List Cond := [Cond.methodLink RX9 164 yX9_isDigit, Cond.instanceMethod yX9_isDigit, Cond.selects RX9 yX9_isDigit yX9_isDigit, Cond.code yX9_isDigit cX9_isDigit 1 (some .boolean), Cond.methodLink RX9 178 yX9_readsSet, Cond.instanceMethod yX9_readsSet, Cond.selects RX9 yX9_readsSet yX9_readsSet, Cond.code yX9_readsSet cX9_readsSet 4 (some .boolean)]
def wsX9_readsClause : List Cond := .code yX9_readsClause cX9_readsClause 4 (some .boolean) :: ((wsX9_readsClause_r1 ++ wsX9_readsClause_r2) ++ wsX90)
def wsX9_readsText_r1 : List Cond := [Cond.fieldLink RX9 148 "IceHallModel" "place" "I", Cond.fieldLink RX9 151 "IceHallModel" "size" "I", Cond.methodLink RX9 196 yX9_readsClause, Cond.instanceMethod yX9_readsClause, Cond.selects RX9 yX9_readsClause yX9_readsClause, Cond.initialized RX9, Cond.code yX9_readsClause cX9_readsClause 4 (some .boolean), Cond.fieldLink RX9 161 "IceHallModel" "number" "I", Cond.fieldLink RX9 175 "IceHallModel" "saidClocks" "I", Cond.fieldLink RX9 181 "IceHallModel" "saidDays" "I", Cond.fieldLink RX9 184 "IceHallModel" "saidKinds" "I", Cond.fieldLink RX9 187 "IceHallModel" "saidLimit" "I", Cond.fieldLink RX9 190 "IceHallModel" "saidFee" "I", Cond.fieldLink RX9 193 "IceHallModel" "saidHundredths" "I", Cond.methodLink RX9 154 yX9_here, Cond.instanceMethod yX9_here, Cond.selects RX9 yX9_here yX9_here, Cond.code yX9_here cX9_here 1 (some .int), Cond.fieldLink RX9 7 "IceHallModel" "tape" "[B", Cond.methodLink RX9 168 yX9_wrong, Cond.instanceMethod yX9_wrong, Cond.selects RX9 yX9_wrong yX9_wrong, Cond.code yX9_wrong cX9_wrong 3 (some .boolean), Cond.fieldLink RX9 158 "IceHallModel" "fault" "I"]
def wsX9_readsText_r2 : List Cond := [Cond.methodLink RX9 172 yX9_reads, Cond.instanceMethod yX9_reads, Cond.selects RX9 yX9_reads yX9_reads, Cond.code yX9_reads cX9_reads 4 (some .boolean), Cond.methodLink RX9 164 yX9_isDigit, Cond.instanceMethod yX9_isDigit, Cond.selects RX9 yX9_isDigit yX9_isDigit, Cond.code yX9_isDigit cX9_isDigit 1 (some .boolean), Cond.methodLink RX9 178 yX9_readsSet, Cond.instanceMethod yX9_readsSet, Cond.selects RX9 yX9_readsSet yX9_readsSet, Cond.code yX9_readsSet cX9_readsSet 4 (some .boolean)]
def wsX9_readsText : List Cond := .code yX9_readsText cX9_readsText 2 (some .boolean) :: ((wsX9_readsText_r1 ++ wsX9_readsText_r2) ++ wsX90)
def wsX9_rights_r1 : List Cond := [Cond.fieldLink RX9 141 "IceHallModel" "taped" "I", Cond.fieldLink RX9 148 "IceHallModel" "place" "I", Cond.fieldLink RX9 151 "IceHallModel" "size" "I", Cond.fieldLink RX9 158 "IceHallModel" "fault" "I", Cond.fieldLink RX9 175 "IceHallModel" "saidClocks" "I", Cond.fieldLink RX9 181 "IceHallModel" "saidDays" "I", Cond.fieldLink RX9 184 "IceHallModel" "saidKinds" "I", Cond.fieldLink RX9 187 "IceHallModel" "saidLimit" "I", Cond.fieldLink RX9 190 "IceHallModel" "saidFee" "I", Cond.fieldLink RX9 193 "IceHallModel" "saidHundredths" "I", Cond.fieldLink RX9 13 "IceHallModel" "clocks" "[I", Cond.constant RX9 140 (16777215), Cond.fieldLink RX9 17 "IceHallModel" "daysOf" "[I", Cond.fieldLink RX9 20 "IceHallModel" "kinds" "[I", Cond.fieldLink RX9 23 "IceHallModel" "limit" "[I", Cond.fieldLink RX9 26 "IceHallModel" "fee" "[I", Cond.fieldLink RX9 29 "IceHallModel" "hundredths" "[I", Cond.methodLink RX9 199 yX9_readsText, Cond.instanceMethod yX9_readsText, Cond.selects RX9 yX9_readsText yX9_readsText, Cond.initialized RX9, Cond.code yX9_readsText cX9_readsText 2 (some .boolean), Cond.methodLink RX9 196 yX9_readsClause, Cond.instanceMethod yX9_readsClause]
def wsX9_rights_r2 : List Cond := [Cond.selects RX9 yX9_readsClause yX9_readsClause, Cond.code yX9_readsClause cX9_readsClause 4 (some .boolean), Cond.fieldLink RX9 161 "IceHallModel" "number" "I", Cond.methodLink RX9 154 yX9_here, Cond.instanceMethod yX9_here, Cond.selects RX9 yX9_here yX9_here, Cond.code yX9_here cX9_here 1 (some .int), Cond.fieldLink RX9 7 "IceHallModel" "tape" "[B", Cond.methodLink RX9 168 yX9_wrong, Cond.instanceMethod yX9_wrong, Cond.selects RX9 yX9_wrong yX9_wrong, Cond.code yX9_wrong cX9_wrong 3 (some .boolean), Cond.methodLink RX9 172 yX9_reads, Cond.instanceMethod yX9_reads, Cond.selects RX9 yX9_reads yX9_reads, Cond.code yX9_reads cX9_reads 4 (some .boolean), Cond.methodLink RX9 164 yX9_isDigit, Cond.instanceMethod yX9_isDigit, Cond.selects RX9 yX9_isDigit yX9_isDigit, Cond.code yX9_isDigit cX9_isDigit 1 (some .boolean), Cond.methodLink RX9 178 yX9_readsSet, Cond.instanceMethod yX9_readsSet, Cond.selects RX9 yX9_readsSet yX9_readsSet, Cond.code yX9_readsSet cX9_readsSet 4 (some .boolean)]
def wsX9_rights : List Cond := .code yX9_rights cX9_rights 4 (some .int) :: ((wsX9_rights_r1 ++ wsX9_rights_r2) ++ wsX90)
def wsX9_most : List Cond := .code yX9_most cX9_most 2 (some .boolean) :: ([.fieldLink RX9 36 "IceHallModel" "mostOf" "I"] ++ wsX90)
def wsX9_compressors : List Cond := .code yX9_compressors cX9_compressors 2 (some .boolean) :: ([.fieldLink RX9 39 "IceHallModel" "working" "I"] ++ wsX90)
def wsX9_price : List Cond := .code yX9_price cX9_price 3 (some .boolean) :: ([.fieldLink RX9 45 "IceHallModel" "priceOf" "[I"] ++ wsX90)
def wsX9_rest : List Cond := .code yX9_rest cX9_rest 2 (some .boolean) :: ([.fieldLink RX9 42 "IceHallModel" "restOf" "I"] ++ wsX90)
def wsX9_rutsOf : List Cond := .code yX9_rutsOf cX9_rutsOf 1 (some .int) :: ([])
def wsX9_heatOf : List Cond := .code yX9_heatOf cX9_heatOf 1 (some .int) :: ([])
def wsX9_isClub : List Cond := .code yX9_isClub cX9_isClub 1 (some .boolean) :: ([])
def wsX9_isSheet : List Cond := .code yX9_isSheet cX9_isSheet 1 (some .boolean) :: ([])
def wsX9_isClosed : List Cond := .code yX9_isClosed cX9_isClosed 4 (some .boolean) :: ([.fieldLink RX9 202 "IceHallModel" "closings" "I", .fieldLink RX9 100 "IceHallModel" "closedSheet" "[I", .fieldLink RX9 103 "IceHallModel" "closedFrom" "[I", .fieldLink RX9 106 "IceHallModel" "closedTo" "[I"] ++ wsX90)
def wsX9_standing : List Cond := .code yX9_standing cX9_standing 4 (some .int) :: ([.fieldLink RX9 205 "IceHallModel" "sessions" "I", .fieldLink RX9 85 "IceHallModel" "state" "[I", .fieldLink RX9 79 "IceHallModel" "sheetOf" "[I", .fieldLink RX9 82 "IceHallModel" "hourOf" "[I"] ++ wsX90)
def wsX9_inRow : List Cond := .code yX9_inRow cX9_inRow 5 (some .int) :: ([.methodLink RX9 208 yX9_standing, .instanceMethod yX9_standing, .selects RX9 yX9_standing yX9_standing, .initialized RX9, .code yX9_standing cX9_standing 4 (some .int), .fieldLink RX9 205 "IceHallModel" "sessions" "I", .fieldLink RX9 85 "IceHallModel" "state" "[I", .fieldLink RX9 79 "IceHallModel" "sheetOf" "[I", .fieldLink RX9 82 "IceHallModel" "hourOf" "[I"] ++ wsX90)
def wsX9_inWeek : List Cond := .code yX9_inWeek cX9_inWeek 5 (some .int) :: ([.fieldLink RX9 205 "IceHallModel" "sessions" "I", .fieldLink RX9 73 "IceHallModel" "clubOf" "[I", .fieldLink RX9 85 "IceHallModel" "state" "[I", .fieldLink RX9 82 "IceHallModel" "hourOf" "[I"] ++ wsX90)
def wsX9_book_r1 : List Cond := [Cond.fieldLink RX9 219 "IceHallModel" "now" "I", Cond.fieldLink RX9 205 "IceHallModel" "sessions" "I", Cond.fieldLink RX9 13 "IceHallModel" "clocks" "[I", Cond.fieldLink RX9 17 "IceHallModel" "daysOf" "[I", Cond.fieldLink RX9 20 "IceHallModel" "kinds" "[I", Cond.fieldLink RX9 23 "IceHallModel" "limit" "[I", Cond.fieldLink RX9 42 "IceHallModel" "restOf" "I", Cond.fieldLink RX9 73 "IceHallModel" "clubOf" "[I", Cond.fieldLink RX9 76 "IceHallModel" "kindOf" "[I", Cond.fieldLink RX9 79 "IceHallModel" "sheetOf" "[I", Cond.fieldLink RX9 82 "IceHallModel" "hourOf" "[I", Cond.fieldLink RX9 85 "IceHallModel" "state" "[I", Cond.fieldLink RX9 88 "IceHallModel" "why" "[I", Cond.fieldLink RX9 91 "IceHallModel" "feeOf" "[I", Cond.fieldLink RX9 26 "IceHallModel" "fee" "[I", Cond.fieldLink RX9 94 "IceHallModel" "partOf" "[I", Cond.fieldLink RX9 29 "IceHallModel" "hundredths" "[I", Cond.fieldLink RX9 97 "IceHallModel" "moved" "[I", Cond.methodLink RX9 212 yX9_isClub, Cond.static yX9_isClub, Cond.initialized RX9, Cond.code yX9_isClub cX9_isClub 1 (some .boolean), Cond.methodLink RX9 216 yX9_isSheet, Cond.static yX9_isSheet]
def wsX9_book_r2 : List Cond := [Cond.code yX9_isSheet cX9_isSheet 1 (some .boolean), Cond.methodLink RX9 208 yX9_standing, Cond.instanceMethod yX9_standing, Cond.selects RX9 yX9_standing yX9_standing, Cond.code yX9_standing cX9_standing 4 (some .int), Cond.methodLink RX9 222 yX9_isClosed, Cond.instanceMethod yX9_isClosed, Cond.selects RX9 yX9_isClosed yX9_isClosed, Cond.code yX9_isClosed cX9_isClosed 4 (some .boolean), Cond.fieldLink RX9 202 "IceHallModel" "closings" "I", Cond.fieldLink RX9 100 "IceHallModel" "closedSheet" "[I", Cond.fieldLink RX9 103 "IceHallModel" "closedFrom" "[I", Cond.fieldLink RX9 106 "IceHallModel" "closedTo" "[I", Cond.methodLink RX9 225 yX9_inWeek, Cond.instanceMethod yX9_inWeek, Cond.selects RX9 yX9_inWeek yX9_inWeek, Cond.code yX9_inWeek cX9_inWeek 5 (some .int), Cond.methodLink RX9 228 yX9_inRow, Cond.instanceMethod yX9_inRow, Cond.selects RX9 yX9_inRow yX9_inRow, Cond.code yX9_inRow cX9_inRow 5 (some .int)]
def wsX9_book : List Cond := .code yX9_book cX9_book 6 (some .int) :: ((wsX9_book_r1 ++ wsX9_book_r2) ++ wsX90)
def wsX9_isSession : List Cond := .code yX9_isSession cX9_isSession 2 (some .boolean) :: ([.fieldLink RX9 205 "IceHallModel" "sessions" "I"] ++ wsX90)
def wsX9_cancel : List Cond := .code yX9_cancel cX9_cancel 2 (some .boolean) :: ([.fieldLink RX9 85 "IceHallModel" "state" "[I", .methodLink RX9 231 yX9_isSession, .instanceMethod yX9_isSession, .selects RX9 yX9_isSession yX9_isSession, .initialized RX9, .code yX9_isSession cX9_isSession 2 (some .boolean), .fieldLink RX9 205 "IceHallModel" "sessions" "I"] ++ wsX90)
def wsX9_cut : List Cond := .code yX9_cut cX9_cut 4 (some .boolean) :: ([.fieldLink RX9 69 "IceHallModel" "hasCut" "[Z", .fieldLink RX9 63 "IceHallModel" "cutShave" "[I", .fieldLink RX9 66 "IceHallModel" "cutFlood" "[I", .methodLink RX9 216 yX9_isSheet, .static yX9_isSheet, .initialized RX9, .code yX9_isSheet cX9_isSheet 1 (some .boolean)] ++ wsX90)
def wsX9_behind : List Cond := .code yX9_behind cX9_behind 1 (some .int) :: ([])
def wsX9_stands_r1 : List Cond := [Cond.fieldLink RX9 234 "IceHallModel" "outs" "I", Cond.fieldLink RX9 112 "IceHallModel" "way" "[I", Cond.fieldLink RX9 118 "IceHallModel" "wayHour" "[I", Cond.fieldLink RX9 219 "IceHallModel" "now" "I", Cond.fieldLink RX9 85 "IceHallModel" "state" "[I", Cond.fieldLink RX9 109 "IceHallModel" "out" "[I", Cond.fieldLink RX9 79 "IceHallModel" "sheetOf" "[I", Cond.fieldLink RX9 82 "IceHallModel" "hourOf" "[I", Cond.fieldLink RX9 42 "IceHallModel" "restOf" "I", Cond.methodLink RX9 237 yX9_behind, Cond.static yX9_behind, Cond.initialized RX9, Cond.code yX9_behind cX9_behind 1 (some .int), Cond.methodLink RX9 222 yX9_isClosed, Cond.instanceMethod yX9_isClosed, Cond.selects RX9 yX9_isClosed yX9_isClosed, Cond.code yX9_isClosed cX9_isClosed 4 (some .boolean), Cond.fieldLink RX9 202 "IceHallModel" "closings" "I", Cond.fieldLink RX9 100 "IceHallModel" "closedSheet" "[I", Cond.fieldLink RX9 103 "IceHallModel" "closedFrom" "[I", Cond.fieldLink RX9 106 "IceHallModel" "closedTo" "[I", Cond.methodLink RX9 208 yX9_standing, Cond.instanceMethod yX9_standing, Cond.selects RX9 yX9_standing yX9_standing]
def wsX9_stands_r2 : List Cond := [Cond.code yX9_standing cX9_standing 4 (some .int), Cond.fieldLink RX9 205 "IceHallModel" "sessions" "I", Cond.methodLink RX9 228 yX9_inRow, Cond.instanceMethod yX9_inRow, Cond.selects RX9 yX9_inRow yX9_inRow, Cond.code yX9_inRow cX9_inRow 5 (some .int)]
def wsX9_stands : List Cond := .code yX9_stands cX9_stands 5 (some .boolean) :: ((wsX9_stands_r1 ++ wsX9_stands_r2) ++ wsX90)
def wsX9_isLess : List Cond := .code yX9_isLess cX9_isLess 2 (some .boolean) :: ([.fieldLink RX9 234 "IceHallModel" "outs" "I", .fieldLink RX9 112 "IceHallModel" "way" "[I", .fieldLink RX9 115 "IceHallModel" "best" "[I"] ++ wsX90)
def wsX9_tries_r1 : List Cond := [Cond.fieldLink RX9 234 "IceHallModel" "outs" "I", Cond.fieldLink RX9 112 "IceHallModel" "way" "[I", Cond.fieldLink RX9 241 "IceHallModel" "bestLeft" "I", Cond.fieldLink RX9 244 "IceHallModel" "bestHours" "I", Cond.fieldLink RX9 115 "IceHallModel" "best" "[I", Cond.methodLink RX9 237 yX9_behind, Cond.static yX9_behind, Cond.initialized RX9, Cond.code yX9_behind cX9_behind 1 (some .int), Cond.methodLink RX9 247 yX9_isLess, Cond.instanceMethod yX9_isLess, Cond.selects RX9 yX9_isLess yX9_isLess, Cond.code yX9_isLess cX9_isLess 2 (some .boolean), Cond.methodLink RX9 250 yX9_stands, Cond.instanceMethod yX9_stands, Cond.selects RX9 yX9_stands yX9_stands, Cond.code yX9_stands cX9_stands 5 (some .boolean), Cond.fieldLink RX9 118 "IceHallModel" "wayHour" "[I", Cond.fieldLink RX9 219 "IceHallModel" "now" "I", Cond.fieldLink RX9 85 "IceHallModel" "state" "[I", Cond.fieldLink RX9 109 "IceHallModel" "out" "[I", Cond.fieldLink RX9 79 "IceHallModel" "sheetOf" "[I", Cond.fieldLink RX9 82 "IceHallModel" "hourOf" "[I", Cond.fieldLink RX9 42 "IceHallModel" "restOf" "I"]
def wsX9_tries_r2 : List Cond := [Cond.methodLink RX9 222 yX9_isClosed, Cond.instanceMethod yX9_isClosed, Cond.selects RX9 yX9_isClosed yX9_isClosed, Cond.code yX9_isClosed cX9_isClosed 4 (some .boolean), Cond.fieldLink RX9 202 "IceHallModel" "closings" "I", Cond.fieldLink RX9 100 "IceHallModel" "closedSheet" "[I", Cond.fieldLink RX9 103 "IceHallModel" "closedFrom" "[I", Cond.fieldLink RX9 106 "IceHallModel" "closedTo" "[I", Cond.methodLink RX9 208 yX9_standing, Cond.instanceMethod yX9_standing, Cond.selects RX9 yX9_standing yX9_standing, Cond.code yX9_standing cX9_standing 4 (some .int), Cond.fieldLink RX9 205 "IceHallModel" "sessions" "I", Cond.methodLink RX9 228 yX9_inRow, Cond.instanceMethod yX9_inRow, Cond.selects RX9 yX9_inRow yX9_inRow, Cond.code yX9_inRow cX9_inRow 5 (some .int)]
def wsX9_tries : List Cond := .code yX9_tries cX9_tries 5 none :: ((wsX9_tries_r1 ++ wsX9_tries_r2) ++ wsX90)
def wsX9_close_r1 : List Cond := [Cond.fieldLink RX9 219 "IceHallModel" "now" "I", Cond.fieldLink RX9 202 "IceHallModel" "closings" "I", Cond.fieldLink RX9 234 "IceHallModel" "outs" "I", Cond.fieldLink RX9 205 "IceHallModel" "sessions" "I", Cond.fieldLink RX9 85 "IceHallModel" "state" "[I", Cond.fieldLink RX9 79 "IceHallModel" "sheetOf" "[I", Cond.fieldLink RX9 82 "IceHallModel" "hourOf" "[I", Cond.fieldLink RX9 109 "IceHallModel" "out" "[I", Cond.fieldLink RX9 118 "IceHallModel" "wayHour" "[I", Cond.fieldLink RX9 100 "IceHallModel" "closedSheet" "[I", Cond.fieldLink RX9 103 "IceHallModel" "closedFrom" "[I", Cond.fieldLink RX9 106 "IceHallModel" "closedTo" "[I", Cond.fieldLink RX9 241 "IceHallModel" "bestLeft" "I", Cond.fieldLink RX9 112 "IceHallModel" "way" "[I", Cond.fieldLink RX9 115 "IceHallModel" "best" "[I", Cond.fieldLink RX9 97 "IceHallModel" "moved" "[I", Cond.methodLink RX9 216 yX9_isSheet, Cond.static yX9_isSheet, Cond.initialized RX9, Cond.code yX9_isSheet cX9_isSheet 1 (some .boolean), Cond.methodLink RX9 253 yX9_tries, Cond.instanceMethod yX9_tries, Cond.selects RX9 yX9_tries yX9_tries, Cond.code yX9_tries cX9_tries 5 none]
def wsX9_close_r2 : List Cond := [Cond.fieldLink RX9 244 "IceHallModel" "bestHours" "I", Cond.methodLink RX9 237 yX9_behind, Cond.static yX9_behind, Cond.code yX9_behind cX9_behind 1 (some .int), Cond.methodLink RX9 247 yX9_isLess, Cond.instanceMethod yX9_isLess, Cond.selects RX9 yX9_isLess yX9_isLess, Cond.code yX9_isLess cX9_isLess 2 (some .boolean), Cond.methodLink RX9 250 yX9_stands, Cond.instanceMethod yX9_stands, Cond.selects RX9 yX9_stands yX9_stands, Cond.code yX9_stands cX9_stands 5 (some .boolean), Cond.fieldLink RX9 42 "IceHallModel" "restOf" "I", Cond.methodLink RX9 222 yX9_isClosed, Cond.instanceMethod yX9_isClosed, Cond.selects RX9 yX9_isClosed yX9_isClosed, Cond.code yX9_isClosed cX9_isClosed 4 (some .boolean), Cond.methodLink RX9 208 yX9_standing, Cond.instanceMethod yX9_standing, Cond.selects RX9 yX9_standing yX9_standing, Cond.code yX9_standing cX9_standing 4 (some .int), Cond.methodLink RX9 228 yX9_inRow, Cond.instanceMethod yX9_inRow, Cond.selects RX9 yX9_inRow yX9_inRow]
def wsX9_close_r3 : List Cond := [Cond.code yX9_inRow cX9_inRow 5 (some .int)]
def wsX9_close : List Cond := .code yX9_close cX9_close 8 (some .int) :: ((wsX9_close_r1 ++ (wsX9_close_r2 ++ wsX9_close_r3)) ++ wsX90)
def wsX9_halfOf : List Cond := .code yX9_halfOf cX9_halfOf 1 (some .int) :: ([])
def wsX9_melts : List Cond := .code yX9_melts cX9_melts 6 none :: ([.fieldLink RX9 32 "IceHallModel" "store" "I", .fieldLink RX9 48 "IceHallModel" "thick" "[I", .fieldLink RX9 60 "IceHallModel" "melted" "[I"] ++ wsX90)
def wsX9_holds : List Cond := .code yX9_holds cX9_holds 3 none :: ([.fieldLink RX9 88 "IceHallModel" "why" "[I", .fieldLink RX9 48 "IceHallModel" "thick" "[I", .fieldLink RX9 51 "IceHallModel" "ruts" "[I", .fieldLink RX9 85 "IceHallModel" "state" "[I", .fieldLink RX9 76 "IceHallModel" "kindOf" "[I", .methodLink RX9 256 yX9_rutsOf, .static yX9_rutsOf, .initialized RX9, .code yX9_rutsOf cX9_rutsOf 1 (some .int)] ++ wsX90)
def wsX9_cuts : List Cond := .code yX9_cuts cX9_cuts 4 none :: ([.fieldLink RX9 69 "IceHallModel" "hasCut" "[Z", .fieldLink RX9 63 "IceHallModel" "cutShave" "[I", .fieldLink RX9 48 "IceHallModel" "thick" "[I", .fieldLink RX9 54 "IceHallModel" "shaved" "[I", .fieldLink RX9 51 "IceHallModel" "ruts" "[I", .fieldLink RX9 66 "IceHallModel" "cutFlood" "[I", .fieldLink RX9 32 "IceHallModel" "store" "I", .fieldLink RX9 57 "IceHallModel" "flooded" "[I", .fieldLink RX9 259 "IceHallModel" "waste" "I"] ++ wsX90)
def wsX9_step_r1 : List Cond := [Cond.fieldLink RX9 39 "IceHallModel" "working" "I", Cond.fieldLink RX9 219 "IceHallModel" "now" "I", Cond.fieldLink RX9 32 "IceHallModel" "store" "I", Cond.fieldLink RX9 262 "IceHallModel" "cost" "I", Cond.fieldLink RX9 45 "IceHallModel" "priceOf" "[I", Cond.fieldLink RX9 36 "IceHallModel" "mostOf" "I", Cond.fieldLink RX9 265 "IceHallModel" "spilt" "I", Cond.fieldLink RX9 76 "IceHallModel" "kindOf" "[I", Cond.fieldLink RX9 69 "IceHallModel" "hasCut" "[Z", Cond.methodLink RX9 208 yX9_standing, Cond.instanceMethod yX9_standing, Cond.selects RX9 yX9_standing yX9_standing, Cond.initialized RX9, Cond.code yX9_standing cX9_standing 4 (some .int), Cond.fieldLink RX9 205 "IceHallModel" "sessions" "I", Cond.fieldLink RX9 85 "IceHallModel" "state" "[I", Cond.fieldLink RX9 79 "IceHallModel" "sheetOf" "[I", Cond.fieldLink RX9 82 "IceHallModel" "hourOf" "[I", Cond.methodLink RX9 268 yX9_halfOf, Cond.static yX9_halfOf, Cond.code yX9_halfOf cX9_halfOf 1 (some .int), Cond.methodLink RX9 271 yX9_heatOf, Cond.static yX9_heatOf, Cond.code yX9_heatOf cX9_heatOf 1 (some .int)]
def wsX9_step_r2 : List Cond := [Cond.methodLink RX9 274 yX9_melts, Cond.instanceMethod yX9_melts, Cond.selects RX9 yX9_melts yX9_melts, Cond.code yX9_melts cX9_melts 6 none, Cond.fieldLink RX9 48 "IceHallModel" "thick" "[I", Cond.fieldLink RX9 60 "IceHallModel" "melted" "[I", Cond.methodLink RX9 278 yX9_holds, Cond.instanceMethod yX9_holds, Cond.selects RX9 yX9_holds yX9_holds, Cond.code yX9_holds cX9_holds 3 none, Cond.fieldLink RX9 88 "IceHallModel" "why" "[I", Cond.fieldLink RX9 51 "IceHallModel" "ruts" "[I", Cond.methodLink RX9 256 yX9_rutsOf, Cond.static yX9_rutsOf, Cond.code yX9_rutsOf cX9_rutsOf 1 (some .int), Cond.methodLink RX9 222 yX9_isClosed, Cond.instanceMethod yX9_isClosed, Cond.selects RX9 yX9_isClosed yX9_isClosed, Cond.code yX9_isClosed cX9_isClosed 4 (some .boolean), Cond.fieldLink RX9 202 "IceHallModel" "closings" "I", Cond.fieldLink RX9 100 "IceHallModel" "closedSheet" "[I", Cond.fieldLink RX9 103 "IceHallModel" "closedFrom" "[I", Cond.fieldLink RX9 106 "IceHallModel" "closedTo" "[I", Cond.methodLink RX9 281 yX9_cuts]
def wsX9_step_r3 : List Cond := [Cond.instanceMethod yX9_cuts, Cond.selects RX9 yX9_cuts yX9_cuts, Cond.code yX9_cuts cX9_cuts 4 none, Cond.fieldLink RX9 63 "IceHallModel" "cutShave" "[I", Cond.fieldLink RX9 54 "IceHallModel" "shaved" "[I", Cond.fieldLink RX9 66 "IceHallModel" "cutFlood" "[I", Cond.fieldLink RX9 57 "IceHallModel" "flooded" "[I", Cond.fieldLink RX9 259 "IceHallModel" "waste" "I"]
def wsX9_step : List Cond := .code yX9_step cX9_step 5 (some .int) :: ((wsX9_step_r1 ++ (wsX9_step_r2 ++ wsX9_step_r3)) ++ wsX90)
def wsX9_plan_r1 : List Cond := [Cond.fieldLink RX9 121 "IceHallModel" "wants" "[I", Cond.fieldLink RX9 219 "IceHallModel" "now" "I", Cond.fieldLink RX9 76 "IceHallModel" "kindOf" "[I", Cond.fieldLink RX9 124 "IceHallModel" "row" "[I", Cond.fieldLink RX9 32 "IceHallModel" "store" "I", Cond.fieldLink RX9 45 "IceHallModel" "priceOf" "[I", Cond.fieldLink RX9 39 "IceHallModel" "working" "I", Cond.fieldLink RX9 36 "IceHallModel" "mostOf" "I", Cond.fieldLink RX9 127 "IceHallModel" "bestRow" "[I", Cond.fieldLink RX9 284 "IceHallModel" "toldMany" "I", Cond.fieldLink RX9 130 "IceHallModel" "told" "[I", Cond.methodLink RX9 268 yX9_halfOf, Cond.static yX9_halfOf, Cond.initialized RX9, Cond.code yX9_halfOf cX9_halfOf 1 (some .int), Cond.methodLink RX9 208 yX9_standing, Cond.instanceMethod yX9_standing, Cond.selects RX9 yX9_standing yX9_standing, Cond.code yX9_standing cX9_standing 4 (some .int), Cond.fieldLink RX9 205 "IceHallModel" "sessions" "I", Cond.fieldLink RX9 85 "IceHallModel" "state" "[I", Cond.fieldLink RX9 79 "IceHallModel" "sheetOf" "[I", Cond.fieldLink RX9 82 "IceHallModel" "hourOf" "[I", Cond.methodLink RX9 271 yX9_heatOf]
def wsX9_plan_r2 : List Cond := [Cond.static yX9_heatOf, Cond.code yX9_heatOf cX9_heatOf 1 (some .int)]
def wsX9_plan : List Cond := .code yX9_plan cX9_plan 13 (some .int) :: ((wsX9_plan_r1 ++ wsX9_plan_r2) ++ wsX90)
def wsX9_planned : List Cond := .code yX9_planned cX9_planned 2 (some .int) :: ([.fieldLink RX9 284 "IceHallModel" "toldMany" "I", .fieldLink RX9 130 "IceHallModel" "told" "[I"] ++ wsX90)
def wsX9_inState : List Cond := .code yX9_inState cX9_inState 5 (some .int) :: ([.fieldLink RX9 205 "IceHallModel" "sessions" "I", .fieldLink RX9 73 "IceHallModel" "clubOf" "[I", .fieldLink RX9 85 "IceHallModel" "state" "[I"] ++ wsX90)
def wsX9_owes : List Cond := .code yX9_owes cX9_owes 2 (some .int) :: ([.fieldLink RX9 85 "IceHallModel" "state" "[I", .fieldLink RX9 91 "IceHallModel" "feeOf" "[I", .fieldLink RX9 94 "IceHallModel" "partOf" "[I"] ++ wsX90)
def wsX9_part : List Cond := .code yX9_part cX9_part 8 (some .int) :: ([.constant RX9 287 (100000), .fieldLink RX9 133 "IceHallModel" "share" "[I", .fieldLink RX9 136 "IceHallModel" "over" "[J", .constantLong RX9 291 (-1), .methodLink RX9 212 yX9_isClub, .static yX9_isClub, .initialized RX9, .code yX9_isClub cX9_isClub 1 (some .boolean), .methodLink RX9 288 yX9_inState, .instanceMethod yX9_inState, .selects RX9 yX9_inState yX9_inState, .code yX9_inState cX9_inState 5 (some .int), .fieldLink RX9 205 "IceHallModel" "sessions" "I", .fieldLink RX9 73 "IceHallModel" "clubOf" "[I", .fieldLink RX9 85 "IceHallModel" "state" "[I"] ++ wsX90)
def wsX9_look : List Cond := .code yX9_look cX9_look 3 (some .int) :: ([.fieldLink RX9 73 "IceHallModel" "clubOf" "[I", .fieldLink RX9 76 "IceHallModel" "kindOf" "[I", .fieldLink RX9 79 "IceHallModel" "sheetOf" "[I", .fieldLink RX9 82 "IceHallModel" "hourOf" "[I", .fieldLink RX9 85 "IceHallModel" "state" "[I", .fieldLink RX9 88 "IceHallModel" "why" "[I", .fieldLink RX9 91 "IceHallModel" "feeOf" "[I", .fieldLink RX9 97 "IceHallModel" "moved" "[I", .methodLink RX9 231 yX9_isSession, .instanceMethod yX9_isSession, .selects RX9 yX9_isSession yX9_isSession, .initialized RX9, .code yX9_isSession cX9_isSession 2 (some .boolean), .fieldLink RX9 205 "IceHallModel" "sessions" "I", .methodLink RX9 293 yX9_owes, .instanceMethod yX9_owes, .selects RX9 yX9_owes yX9_owes, .code yX9_owes cX9_owes 2 (some .int), .fieldLink RX9 94 "IceHallModel" "partOf" "[I"] ++ wsX90)
def wsX9_at : List Cond := .code yX9_at cX9_at 3 (some .int) :: ([.methodLink RX9 216 yX9_isSheet, .static yX9_isSheet, .initialized RX9, .code yX9_isSheet cX9_isSheet 1 (some .boolean), .methodLink RX9 208 yX9_standing, .instanceMethod yX9_standing, .selects RX9 yX9_standing yX9_standing, .code yX9_standing cX9_standing 4 (some .int), .fieldLink RX9 205 "IceHallModel" "sessions" "I", .fieldLink RX9 85 "IceHallModel" "state" "[I", .fieldLink RX9 79 "IceHallModel" "sheetOf" "[I", .fieldLink RX9 82 "IceHallModel" "hourOf" "[I"] ++ wsX90)
def wsX9_sheet : List Cond := .code yX9_sheet cX9_sheet 3 (some .int) :: ([.fieldLink RX9 48 "IceHallModel" "thick" "[I", .fieldLink RX9 51 "IceHallModel" "ruts" "[I", .fieldLink RX9 54 "IceHallModel" "shaved" "[I", .fieldLink RX9 57 "IceHallModel" "flooded" "[I", .fieldLink RX9 60 "IceHallModel" "melted" "[I", .fieldLink RX9 219 "IceHallModel" "now" "I", .methodLink RX9 216 yX9_isSheet, .static yX9_isSheet, .initialized RX9, .code yX9_isSheet cX9_isSheet 1 (some .boolean), .methodLink RX9 222 yX9_isClosed, .instanceMethod yX9_isClosed, .selects RX9 yX9_isClosed yX9_isClosed, .code yX9_isClosed cX9_isClosed 4 (some .boolean), .fieldLink RX9 202 "IceHallModel" "closings" "I", .fieldLink RX9 100 "IceHallModel" "closedSheet" "[I", .fieldLink RX9 103 "IceHallModel" "closedFrom" "[I", .fieldLink RX9 106 "IceHallModel" "closedTo" "[I"] ++ wsX90)
def wsX9_club : List Cond := .code yX9_club cX9_club 5 (some .int) :: ([.fieldLink RX9 205 "IceHallModel" "sessions" "I", .fieldLink RX9 73 "IceHallModel" "clubOf" "[I", .methodLink RX9 212 yX9_isClub, .static yX9_isClub, .initialized RX9, .code yX9_isClub cX9_isClub 1 (some .boolean), .methodLink RX9 288 yX9_inState, .instanceMethod yX9_inState, .selects RX9 yX9_inState yX9_inState, .code yX9_inState cX9_inState 5 (some .int), .fieldLink RX9 85 "IceHallModel" "state" "[I", .methodLink RX9 293 yX9_owes, .instanceMethod yX9_owes, .selects RX9 yX9_owes yX9_owes, .code yX9_owes cX9_owes 2 (some .int), .fieldLink RX9 91 "IceHallModel" "feeOf" "[I", .fieldLink RX9 94 "IceHallModel" "partOf" "[I"] ++ wsX90)
def wsX9_count : List Cond := .code yX9_count cX9_count 2 (some .int) :: ([.fieldLink RX9 219 "IceHallModel" "now" "I", .fieldLink RX9 32 "IceHallModel" "store" "I", .fieldLink RX9 265 "IceHallModel" "spilt" "I", .fieldLink RX9 262 "IceHallModel" "cost" "I", .fieldLink RX9 259 "IceHallModel" "waste" "I", .fieldLink RX9 205 "IceHallModel" "sessions" "I", .fieldLink RX9 36 "IceHallModel" "mostOf" "I", .fieldLink RX9 39 "IceHallModel" "working" "I", .fieldLink RX9 42 "IceHallModel" "restOf" "I", .fieldLink RX9 141 "IceHallModel" "taped" "I", .fieldLink RX9 45 "IceHallModel" "priceOf" "[I"] ++ wsX90)
def wsJ9_abs_0f7a4 : List Cond := .code yJ9_abs_0f7a4 cJ9_abs_0f7a4 1 (some .int) :: ([])
def wsJ9_max_7cf53 : List Cond := .code yJ9_max_7cf53 cJ9_max_7cf53 2 (some .int) :: ([])
def wsJ9_min_7cf53 : List Cond := .code yJ9_min_7cf53 cJ9_min_7cf53 2 (some .int) :: ([])
abbrev vwCl : List vw_C := [(RX0, TX0, 1), (RX1, TX1, 10), (RX2, TX2, 10), (RX3, TX3, 9), (RX4, TX4, 6), (RX5, TX5, 4), (RX6, TX6, 10), (RX7, TX7, 2), (RX8, TX8, 18), (RX9, TX9, 63)]
end
section
theorem dX0_init_0 : decode cX0_init 0 = .ok (.aload_n 0, 1) := by decide +kernel
theorem dX0_init_1 : decode cX0_init 1 = .ok (.invokespecial 3, 3) := by decide +kernel
theorem dX0_init_4 : decode cX0_init 4 = .ok (.aload_n 0, 1) := by decide +kernel
theorem dX0_init_5 : decode cX0_init 5 = .ok (.bipush 32, 2) := by decide +kernel
theorem dX0_init_7 : decode cX0_init 7 = .ok (.newarray .long, 2) := by decide +kernel
theorem dX0_init_9 : decode cX0_init 9 = .ok (.putfield 9, 3) := by decide +kernel
theorem dX0_init_12 : decode cX0_init 12 = .ok (.return_, 1) := by decide +kernel
theorem dX0_has_0 : decode cX0_has 0 = .ok (.iload_n 1, 1) := by decide +kernel
theorem dX0_has_1 : decode cX0_has 1 = .ok (.ifCond .lt 35, 3) := by decide +kernel
theorem dX0_has_4 : decode cX0_has 4 = .ok (.iload_n 1, 1) := by decide +kernel
theorem dX0_has_5 : decode cX0_has 5 = .ok (.sipush 2048, 3) := by decide +kernel
theorem dX0_has_8 : decode cX0_has 8 = .ok (.if_icmp .ge 28, 3) := by decide +kernel
theorem dX0_has_11 : decode cX0_has 11 = .ok (.aload_n 0, 1) := by decide +kernel
theorem dX0_has_12 : decode cX0_has 12 = .ok (.getfield 9, 3) := by decide +kernel
theorem dX0_has_15 : decode cX0_has 15 = .ok (.iload_n 1, 1) := by decide +kernel
theorem dX0_has_16 : decode cX0_has 16 = .ok (.bipush 64, 2) := by decide +kernel
theorem dX0_has_18 : decode cX0_has 18 = .ok (.idiv, 1) := by decide +kernel
theorem dX0_has_19 : decode cX0_has 19 = .ok (.laload, 1) := by decide +kernel
theorem dX0_has_20 : decode cX0_has 20 = .ok (.iload_n 1, 1) := by decide +kernel
theorem dX0_has_21 : decode cX0_has 21 = .ok (.bipush 64, 2) := by decide +kernel
theorem dX0_has_23 : decode cX0_has 23 = .ok (.irem, 1) := by decide +kernel
theorem dX0_has_24 : decode cX0_has 24 = .ok (.lushr, 1) := by decide +kernel
theorem dX0_has_25 : decode cX0_has 25 = .ok (.lconst 1, 1) := by decide +kernel
theorem dX0_has_26 : decode cX0_has 26 = .ok (.land, 1) := by decide +kernel
theorem dX0_has_27 : decode cX0_has 27 = .ok (.lconst 0, 1) := by decide +kernel
theorem dX0_has_28 : decode cX0_has 28 = .ok (.lcmp, 1) := by decide +kernel
theorem dX0_has_29 : decode cX0_has 29 = .ok (.ifCond .eq 7, 3) := by decide +kernel
theorem dX0_has_32 : decode cX0_has 32 = .ok (.iconst 1, 1) := by decide +kernel
theorem dX0_has_33 : decode cX0_has 33 = .ok (.goto 4, 3) := by decide +kernel
theorem dX0_has_36 : decode cX0_has 36 = .ok (.iconst 0, 1) := by decide +kernel
theorem dX0_has_37 : decode cX0_has 37 = .ok (.ireturn, 1) := by decide +kernel
theorem dX0_put_0 : decode cX0_put 0 = .ok (.iload_n 1, 1) := by decide +kernel
theorem dX0_put_1 : decode cX0_put 1 = .ok (.ifCond .lt 28, 3) := by decide +kernel
theorem dX0_put_4 : decode cX0_put 4 = .ok (.iload_n 1, 1) := by decide +kernel
theorem dX0_put_5 : decode cX0_put 5 = .ok (.sipush 2048, 3) := by decide +kernel
theorem dX0_put_8 : decode cX0_put 8 = .ok (.if_icmp .ge 21, 3) := by decide +kernel
theorem dX0_put_11 : decode cX0_put 11 = .ok (.aload_n 0, 1) := by decide +kernel
theorem dX0_put_12 : decode cX0_put 12 = .ok (.getfield 9, 3) := by decide +kernel
theorem dX0_put_15 : decode cX0_put 15 = .ok (.iload_n 1, 1) := by decide +kernel
theorem dX0_put_16 : decode cX0_put 16 = .ok (.bipush 64, 2) := by decide +kernel
theorem dX0_put_18 : decode cX0_put 18 = .ok (.idiv, 1) := by decide +kernel
theorem dX0_put_19 : decode cX0_put 19 = .ok (.dup2, 1) := by decide +kernel
theorem dX0_put_20 : decode cX0_put 20 = .ok (.laload, 1) := by decide +kernel
theorem dX0_put_21 : decode cX0_put 21 = .ok (.lconst 1, 1) := by decide +kernel
theorem dX0_put_22 : decode cX0_put 22 = .ok (.iload_n 1, 1) := by decide +kernel
theorem dX0_put_23 : decode cX0_put 23 = .ok (.bipush 64, 2) := by decide +kernel
theorem dX0_put_25 : decode cX0_put 25 = .ok (.irem, 1) := by decide +kernel
theorem dX0_put_26 : decode cX0_put 26 = .ok (.lshl, 1) := by decide +kernel
theorem dX0_put_27 : decode cX0_put 27 = .ok (.lor, 1) := by decide +kernel
theorem dX0_put_28 : decode cX0_put 28 = .ok (.lastore, 1) := by decide +kernel
theorem dX0_put_29 : decode cX0_put 29 = .ok (.return_, 1) := by decide +kernel
theorem dX0_drop_0 : decode cX0_drop 0 = .ok (.iload_n 1, 1) := by decide +kernel
theorem dX0_drop_1 : decode cX0_drop 1 = .ok (.ifCond .lt 32, 3) := by decide +kernel
theorem dX0_drop_4 : decode cX0_drop 4 = .ok (.iload_n 1, 1) := by decide +kernel
theorem dX0_drop_5 : decode cX0_drop 5 = .ok (.sipush 2048, 3) := by decide +kernel
theorem dX0_drop_8 : decode cX0_drop 8 = .ok (.if_icmp .ge 25, 3) := by decide +kernel
theorem dX0_drop_11 : decode cX0_drop 11 = .ok (.aload_n 0, 1) := by decide +kernel
theorem dX0_drop_12 : decode cX0_drop 12 = .ok (.getfield 9, 3) := by decide +kernel
theorem dX0_drop_15 : decode cX0_drop 15 = .ok (.iload_n 1, 1) := by decide +kernel
theorem dX0_drop_16 : decode cX0_drop 16 = .ok (.bipush 64, 2) := by decide +kernel
theorem dX0_drop_18 : decode cX0_drop 18 = .ok (.idiv, 1) := by decide +kernel
theorem dX0_drop_19 : decode cX0_drop 19 = .ok (.dup2, 1) := by decide +kernel
theorem dX0_drop_20 : decode cX0_drop 20 = .ok (.laload, 1) := by decide +kernel
theorem dX0_drop_21 : decode cX0_drop 21 = .ok (.lconst 1, 1) := by decide +kernel
theorem dX0_drop_22 : decode cX0_drop 22 = .ok (.iload_n 1, 1) := by decide +kernel
theorem dX0_drop_23 : decode cX0_drop 23 = .ok (.bipush 64, 2) := by decide +kernel
theorem dX0_drop_25 : decode cX0_drop 25 = .ok (.irem, 1) := by decide +kernel
theorem dX0_drop_26 : decode cX0_drop 26 = .ok (.lshl, 1) := by decide +kernel
theorem dX0_drop_27 : decode cX0_drop 27 = .ok (.ldc2_w 13, 3) := by decide +kernel
theorem dX0_drop_30 : decode cX0_drop 30 = .ok (.lxor, 1) := by decide +kernel
theorem dX0_drop_31 : decode cX0_drop 31 = .ok (.land, 1) := by decide +kernel
theorem dX0_drop_32 : decode cX0_drop 32 = .ok (.lastore, 1) := by decide +kernel
theorem dX0_drop_33 : decode cX0_drop 33 = .ok (.return_, 1) := by decide +kernel
set_option maxRecDepth 20000 in
theorem ggX1_init_X0_init : GoodIn wsX1_init wsX0_init := goodIn_r _ [18, 19, 2, 3, 20, 21, 22] (by decide +kernel) (by decide +kernel)
set_option maxRecDepth 20000 in
theorem gX1_init_X0_init_n11 : GoodIn wsX1_init (wsX0_init) := ggX1_init_X0_init
theorem dX1_init_0 : decode cX1_init 0 = .ok (.aload_n 0, 1) := by decide +kernel
theorem dX1_init_1 : decode cX1_init 1 = .ok (.invokespecial 3, 3) := by decide +kernel
theorem dX1_init_4 : decode cX1_init 4 = .ok (.aload_n 0, 1) := by decide +kernel
theorem dX1_init_5 : decode cX1_init 5 = .ok (.new 9, 3) := by decide +kernel
theorem dX1_init_8 : decode cX1_init 8 = .ok (.dup, 1) := by decide +kernel
theorem dX1_init_9 : decode cX1_init 9 = .ok (.invokespecial 11, 3) := by decide +kernel
theorem dX1_init_12 : decode cX1_init 12 = .ok (.putfield 12, 3) := by decide +kernel
theorem dX1_init_15 : decode cX1_init 15 = .ok (.aload_n 0, 1) := by decide +kernel
theorem dX1_init_16 : decode cX1_init 16 = .ok (.new 9, 3) := by decide +kernel
theorem dX1_init_19 : decode cX1_init 19 = .ok (.dup, 1) := by decide +kernel
theorem dX1_init_20 : decode cX1_init 20 = .ok (.invokespecial 11, 3) := by decide +kernel
theorem dX1_init_23 : decode cX1_init 23 = .ok (.putfield 18, 3) := by decide +kernel
theorem dX1_init_26 : decode cX1_init 26 = .ok (.aload_n 0, 1) := by decide +kernel
theorem dX1_init_27 : decode cX1_init 27 = .ok (.iconst 0, 1) := by decide +kernel
theorem dX1_init_28 : decode cX1_init 28 = .ok (.putfield 21, 3) := by decide +kernel
theorem dX1_init_31 : decode cX1_init 31 = .ok (.aload_n 0, 1) := by decide +kernel
theorem dX1_init_32 : decode cX1_init 32 = .ok (.sipush 300, 3) := by decide +kernel
theorem dX1_init_35 : decode cX1_init 35 = .ok (.putfield 25, 3) := by decide +kernel
theorem dX1_init_38 : decode cX1_init 38 = .ok (.aload_n 0, 1) := by decide +kernel
theorem dX1_init_39 : decode cX1_init 39 = .ok (.iconst 0, 1) := by decide +kernel
theorem dX1_init_40 : decode cX1_init 40 = .ok (.putfield 28, 3) := by decide +kernel
theorem dX1_init_43 : decode cX1_init 43 = .ok (.aload_n 0, 1) := by decide +kernel
theorem dX1_init_44 : decode cX1_init 44 = .ok (.iconst 0, 1) := by decide +kernel
theorem dX1_init_45 : decode cX1_init 45 = .ok (.putfield 31, 3) := by decide +kernel
theorem dX1_init_48 : decode cX1_init 48 = .ok (.aload_n 0, 1) := by decide +kernel
theorem dX1_init_49 : decode cX1_init 49 = .ok (.iconst 0, 1) := by decide +kernel
theorem dX1_init_50 : decode cX1_init 50 = .ok (.putfield 34, 3) := by decide +kernel
theorem dX1_init_53 : decode cX1_init 53 = .ok (.aload_n 0, 1) := by decide +kernel
theorem dX1_init_54 : decode cX1_init 54 = .ok (.iconst 0, 1) := by decide +kernel
theorem dX1_init_55 : decode cX1_init 55 = .ok (.putfield 37, 3) := by decide +kernel
theorem dX1_init_58 : decode cX1_init 58 = .ok (.aload_n 0, 1) := by decide +kernel
theorem dX1_init_59 : decode cX1_init 59 = .ok (.iconst 0, 1) := by decide +kernel
theorem dX1_init_60 : decode cX1_init 60 = .ok (.putfield 40, 3) := by decide +kernel
theorem dX1_init_63 : decode cX1_init 63 = .ok (.aload_n 0, 1) := by decide +kernel
theorem dX1_init_64 : decode cX1_init 64 = .ok (.iconst 0, 1) := by decide +kernel
theorem dX1_init_65 : decode cX1_init 65 = .ok (.putfield 43, 3) := by decide +kernel
theorem dX1_init_68 : decode cX1_init 68 = .ok (.return_, 1) := by decide +kernel
set_option maxRecDepth 20000 in
theorem ggX1_hasRoom_X0_has : GoodIn wsX1_hasRoom wsX0_has := goodIn_r _ [7, 8, 24] (by decide +kernel) (by decide +kernel)
set_option maxRecDepth 20000 in
theorem gX1_hasRoom_X0_has : GoodIn wsX1_hasRoom (wsV RX1 46 RX0 yX0_has wsX0_has) := goodIn_app (goodIn_of _ (by decide +kernel)) ggX1_hasRoom_X0_has
set_option maxRecDepth 20000 in
theorem ggX1_hasRoom_X1_runThrough : GoodIn wsX1_hasRoom wsX1_runThrough := goodIn_r _ [13, 1, 3, 4, 5, 6, 7, 8, 14, 15, 16, 17, 18, 19, 20, 21, 22, 23, 24] (by decide +kernel) (by decide +kernel)
set_option maxRecDepth 20000 in
theorem gX1_hasRoom_X1_runThrough : GoodIn wsX1_hasRoom (wsV RX1 50 RX1 yX1_runThrough wsX1_runThrough) := goodIn_app (goodIn_of _ (by decide +kernel)) ggX1_hasRoom_X1_runThrough
theorem dX1_hasRoom_0 : decode cX1_hasRoom 0 = .ok (.aload_n 0, 1) := by decide +kernel
theorem dX1_hasRoom_1 : decode cX1_hasRoom 1 = .ok (.getfield 12, 3) := by decide +kernel
theorem dX1_hasRoom_4 : decode cX1_hasRoom 4 = .ok (.iload_n 1, 1) := by decide +kernel
theorem dX1_hasRoom_5 : decode cX1_hasRoom 5 = .ok (.invokevirtual 46, 3) := by decide +kernel
theorem dX1_hasRoom_8 : decode cX1_hasRoom 8 = .ok (.ifCond .ne 27, 3) := by decide +kernel
theorem dX1_hasRoom_11 : decode cX1_hasRoom 11 = .ok (.aload_n 0, 1) := by decide +kernel
theorem dX1_hasRoom_12 : decode cX1_hasRoom 12 = .ok (.getfield 18, 3) := by decide +kernel
theorem dX1_hasRoom_15 : decode cX1_hasRoom 15 = .ok (.iload_n 1, 1) := by decide +kernel
theorem dX1_hasRoom_16 : decode cX1_hasRoom 16 = .ok (.invokevirtual 46, 3) := by decide +kernel
theorem dX1_hasRoom_19 : decode cX1_hasRoom 19 = .ok (.ifCond .ne 16, 3) := by decide +kernel
theorem dX1_hasRoom_22 : decode cX1_hasRoom 22 = .ok (.aload_n 0, 1) := by decide +kernel
theorem dX1_hasRoom_23 : decode cX1_hasRoom 23 = .ok (.iload_n 1, 1) := by decide +kernel
theorem dX1_hasRoom_24 : decode cX1_hasRoom 24 = .ok (.invokevirtual 50, 3) := by decide +kernel
theorem dX1_hasRoom_27 : decode cX1_hasRoom 27 = .ok (.iload_n 2, 1) := by decide +kernel
theorem dX1_hasRoom_28 : decode cX1_hasRoom 28 = .ok (.if_icmp .gt 7, 3) := by decide +kernel
theorem dX1_hasRoom_31 : decode cX1_hasRoom 31 = .ok (.iconst 1, 1) := by decide +kernel
theorem dX1_hasRoom_32 : decode cX1_hasRoom 32 = .ok (.goto 4, 3) := by decide +kernel
theorem dX1_hasRoom_35 : decode cX1_hasRoom 35 = .ok (.iconst 0, 1) := by decide +kernel
theorem dX1_hasRoom_36 : decode cX1_hasRoom 36 = .ok (.ireturn, 1) := by decide +kernel
set_option maxRecDepth 20000 in
theorem ggX1_runThrough_X0_has : GoodIn wsX1_runThrough wsX0_has := goodIn_r _ [6, 7, 18] (by decide +kernel) (by decide +kernel)
set_option maxRecDepth 20000 in
theorem gX1_runThrough_X0_has : GoodIn wsX1_runThrough (wsV RX1 46 RX0 yX0_has wsX0_has) := goodIn_app (goodIn_of _ (by decide +kernel)) ggX1_runThrough_X0_has
theorem dX1_runThrough_0 : decode cX1_runThrough 0 = .ok (.iconst 1, 1) := by decide +kernel
theorem dX1_runThrough_1 : decode cX1_runThrough 1 = .ok (.istore_n 2, 1) := by decide +kernel
theorem dX1_runThrough_2 : decode cX1_runThrough 2 = .ok (.iload_n 1, 1) := by decide +kernel
theorem dX1_runThrough_3 : decode cX1_runThrough 3 = .ok (.iconst 1, 1) := by decide +kernel
theorem dX1_runThrough_4 : decode cX1_runThrough 4 = .ok (.isub, 1) := by decide +kernel
theorem dX1_runThrough_5 : decode cX1_runThrough 5 = .ok (.istore_n 3, 1) := by decide +kernel
theorem dX1_runThrough_6 : decode cX1_runThrough 6 = .ok (.iload_n 3, 1) := by decide +kernel
theorem dX1_runThrough_7 : decode cX1_runThrough 7 = .ok (.ifCond .lt 23, 3) := by decide +kernel
theorem dX1_runThrough_10 : decode cX1_runThrough 10 = .ok (.aload_n 0, 1) := by decide +kernel
theorem dX1_runThrough_11 : decode cX1_runThrough 11 = .ok (.getfield 12, 3) := by decide +kernel
theorem dX1_runThrough_14 : decode cX1_runThrough 14 = .ok (.iload_n 3, 1) := by decide +kernel
theorem dX1_runThrough_15 : decode cX1_runThrough 15 = .ok (.invokevirtual 46, 3) := by decide +kernel
theorem dX1_runThrough_18 : decode cX1_runThrough 18 = .ok (.ifCond .eq 12, 3) := by decide +kernel
theorem dX1_runThrough_21 : decode cX1_runThrough 21 = .ok (.iinc 2 1, 3) := by decide +kernel
theorem dX1_runThrough_24 : decode cX1_runThrough 24 = .ok (.iinc 3 (-1), 3) := by decide +kernel
theorem dX1_runThrough_27 : decode cX1_runThrough 27 = .ok (.goto (-21), 3) := by decide +kernel
theorem dX1_runThrough_30 : decode cX1_runThrough 30 = .ok (.iload_n 1, 1) := by decide +kernel
theorem dX1_runThrough_31 : decode cX1_runThrough 31 = .ok (.iconst 1, 1) := by decide +kernel
theorem dX1_runThrough_32 : decode cX1_runThrough 32 = .ok (.iadd, 1) := by decide +kernel
theorem dX1_runThrough_33 : decode cX1_runThrough 33 = .ok (.istore_n 3, 1) := by decide +kernel
theorem dX1_runThrough_34 : decode cX1_runThrough 34 = .ok (.iload_n 3, 1) := by decide +kernel
theorem dX1_runThrough_35 : decode cX1_runThrough 35 = .ok (.sipush 2048, 3) := by decide +kernel
theorem dX1_runThrough_38 : decode cX1_runThrough 38 = .ok (.if_icmp .ge 23, 3) := by decide +kernel
theorem dX1_runThrough_41 : decode cX1_runThrough 41 = .ok (.aload_n 0, 1) := by decide +kernel
theorem dX1_runThrough_42 : decode cX1_runThrough 42 = .ok (.getfield 12, 3) := by decide +kernel
theorem dX1_runThrough_45 : decode cX1_runThrough 45 = .ok (.iload_n 3, 1) := by decide +kernel
theorem dX1_runThrough_46 : decode cX1_runThrough 46 = .ok (.invokevirtual 46, 3) := by decide +kernel
theorem dX1_runThrough_49 : decode cX1_runThrough 49 = .ok (.ifCond .eq 12, 3) := by decide +kernel
theorem dX1_runThrough_52 : decode cX1_runThrough 52 = .ok (.iinc 2 1, 3) := by decide +kernel
theorem dX1_runThrough_55 : decode cX1_runThrough 55 = .ok (.iinc 3 1, 3) := by decide +kernel
theorem dX1_runThrough_58 : decode cX1_runThrough 58 = .ok (.goto (-24), 3) := by decide +kernel
theorem dX1_runThrough_61 : decode cX1_runThrough 61 = .ok (.iload_n 2, 1) := by decide +kernel
theorem dX1_runThrough_62 : decode cX1_runThrough 62 = .ok (.ireturn, 1) := by decide +kernel
theorem dX1_tellCut_0 : decode cX1_tellCut 0 = .ok (.aload_n 0, 1) := by decide +kernel
theorem dX1_tellCut_1 : decode cX1_tellCut 1 = .ok (.iload_n 1, 1) := by decide +kernel
theorem dX1_tellCut_2 : decode cX1_tellCut 2 = .ok (.putfield 40, 3) := by decide +kernel
theorem dX1_tellCut_5 : decode cX1_tellCut 5 = .ok (.aload_n 0, 1) := by decide +kernel
theorem dX1_tellCut_6 : decode cX1_tellCut 6 = .ok (.iload_n 2, 1) := by decide +kernel
theorem dX1_tellCut_7 : decode cX1_tellCut 7 = .ok (.putfield 43, 3) := by decide +kernel
theorem dX1_tellCut_10 : decode cX1_tellCut 10 = .ok (.return_, 1) := by decide +kernel
theorem dX1_melt_0 : decode cX1_melt 0 = .ok (.iload_n 1, 1) := by decide +kernel
theorem dX1_melt_1 : decode cX1_melt 1 = .ok (.aload_n 0, 1) := by decide +kernel
theorem dX1_melt_2 : decode cX1_melt 2 = .ok (.getfield 25, 3) := by decide +kernel
theorem dX1_melt_5 : decode cX1_melt 5 = .ok (.invokestatic 54, 3) := by decide +kernel
theorem dX1_melt_8 : decode cX1_melt 8 = .ok (.istore_n 2, 1) := by decide +kernel
theorem dX1_melt_9 : decode cX1_melt 9 = .ok (.aload_n 0, 1) := by decide +kernel
theorem dX1_melt_10 : decode cX1_melt 10 = .ok (.dup, 1) := by decide +kernel
theorem dX1_melt_11 : decode cX1_melt 11 = .ok (.getfield 25, 3) := by decide +kernel
theorem dX1_melt_14 : decode cX1_melt 14 = .ok (.iload_n 2, 1) := by decide +kernel
theorem dX1_melt_15 : decode cX1_melt 15 = .ok (.isub, 1) := by decide +kernel
theorem dX1_melt_16 : decode cX1_melt 16 = .ok (.putfield 25, 3) := by decide +kernel
theorem dX1_melt_19 : decode cX1_melt 19 = .ok (.aload_n 0, 1) := by decide +kernel
theorem dX1_melt_20 : decode cX1_melt 20 = .ok (.dup, 1) := by decide +kernel
theorem dX1_melt_21 : decode cX1_melt 21 = .ok (.getfield 37, 3) := by decide +kernel
theorem dX1_melt_24 : decode cX1_melt 24 = .ok (.iload_n 2, 1) := by decide +kernel
theorem dX1_melt_25 : decode cX1_melt 25 = .ok (.iadd, 1) := by decide +kernel
theorem dX1_melt_26 : decode cX1_melt 26 = .ok (.putfield 37, 3) := by decide +kernel
theorem dX1_melt_29 : decode cX1_melt 29 = .ok (.return_, 1) := by decide +kernel
set_option maxRecDepth 20000 in
theorem ggX1_decide_X6_lose : GoodIn wsX1_decide wsX6_lose := goodIn_r _ [8, 9, 10, 33, 34, 35, 36, 37, 38, 39, 40, 41, 42] (by decide +kernel) (by decide +kernel)
set_option maxRecDepth 20000 in
theorem gX1_decide_X6_lose : GoodIn wsX1_decide (wsV RX1 60 RX6 yX6_lose wsX6_lose) := goodIn_app (goodIn_of _ (by decide +kernel)) ggX1_decide_X6_lose
set_option maxRecDepth 20000 in
theorem ggX1_decide_X6_hold : GoodIn wsX1_decide wsX6_hold := goodIn_r _ [14, 9, 15, 16, 33, 34, 35, 36, 37, 38, 39, 40, 41, 42] (by decide +kernel) (by decide +kernel)
set_option maxRecDepth 20000 in
theorem gX1_decide_X6_hold : GoodIn wsX1_decide (wsV RX1 66 RX6 yX6_hold wsX6_hold) := goodIn_app (goodIn_of _ (by decide +kernel)) ggX1_decide_X6_hold
set_option maxRecDepth 20000 in
theorem ggX1_decide_X8_ofKind : GoodIn wsX1_decide wsX8_ofKind := goodIn_r _ [19, 20, 21, 18, 22] (by decide +kernel) (by decide +kernel)
set_option maxRecDepth 20000 in
theorem gX1_decide_X8_ofKind_n76 : GoodIn wsX1_decide (wsX8_ofKind) := ggX1_decide_X8_ofKind
theorem dX1_decide_0 : decode cX1_decide 0 = .ok (.aload_n 0, 1) := by decide +kernel
theorem dX1_decide_1 : decode cX1_decide 1 = .ok (.getfield 25, 3) := by decide +kernel
theorem dX1_decide_4 : decode cX1_decide 4 = .ok (.sipush 200, 3) := by decide +kernel
theorem dX1_decide_7 : decode cX1_decide 7 = .ok (.if_icmp .ge 11, 3) := by decide +kernel
theorem dX1_decide_10 : decode cX1_decide 10 = .ok (.aload_n 1, 1) := by decide +kernel
theorem dX1_decide_11 : decode cX1_decide 11 = .ok (.iconst 1, 1) := by decide +kernel
theorem dX1_decide_12 : decode cX1_decide 12 = .ok (.invokevirtual 60, 3) := by decide +kernel
theorem dX1_decide_15 : decode cX1_decide 15 = .ok (.goto 61, 3) := by decide +kernel
theorem dX1_decide_18 : decode cX1_decide 18 = .ok (.aload_n 0, 1) := by decide +kernel
theorem dX1_decide_19 : decode cX1_decide 19 = .ok (.getfield 25, 3) := by decide +kernel
theorem dX1_decide_22 : decode cX1_decide 22 = .ok (.sipush 450, 3) := by decide +kernel
theorem dX1_decide_25 : decode cX1_decide 25 = .ok (.if_icmp .le 11, 3) := by decide +kernel
theorem dX1_decide_28 : decode cX1_decide 28 = .ok (.aload_n 1, 1) := by decide +kernel
theorem dX1_decide_29 : decode cX1_decide 29 = .ok (.iconst 2, 1) := by decide +kernel
theorem dX1_decide_30 : decode cX1_decide 30 = .ok (.invokevirtual 60, 3) := by decide +kernel
theorem dX1_decide_33 : decode cX1_decide 33 = .ok (.goto 43, 3) := by decide +kernel
theorem dX1_decide_36 : decode cX1_decide 36 = .ok (.aload_n 0, 1) := by decide +kernel
theorem dX1_decide_37 : decode cX1_decide 37 = .ok (.getfield 28, 3) := by decide +kernel
theorem dX1_decide_40 : decode cX1_decide 40 = .ok (.bipush 60, 2) := by decide +kernel
theorem dX1_decide_42 : decode cX1_decide 42 = .ok (.if_icmp .le 11, 3) := by decide +kernel
theorem dX1_decide_45 : decode cX1_decide 45 = .ok (.aload_n 1, 1) := by decide +kernel
theorem dX1_decide_46 : decode cX1_decide 46 = .ok (.iconst 3, 1) := by decide +kernel
theorem dX1_decide_47 : decode cX1_decide 47 = .ok (.invokevirtual 60, 3) := by decide +kernel
theorem dX1_decide_50 : decode cX1_decide 50 = .ok (.goto 26, 3) := by decide +kernel
theorem dX1_decide_53 : decode cX1_decide 53 = .ok (.aload_n 1, 1) := by decide +kernel
theorem dX1_decide_54 : decode cX1_decide 54 = .ok (.invokevirtual 66, 3) := by decide +kernel
theorem dX1_decide_57 : decode cX1_decide 57 = .ok (.aload_n 0, 1) := by decide +kernel
theorem dX1_decide_58 : decode cX1_decide 58 = .ok (.dup, 1) := by decide +kernel
theorem dX1_decide_59 : decode cX1_decide 59 = .ok (.getfield 28, 3) := by decide +kernel
theorem dX1_decide_62 : decode cX1_decide 62 = .ok (.getstatic 69, 3) := by decide +kernel
theorem dX1_decide_65 : decode cX1_decide 65 = .ok (.aload_n 1, 1) := by decide +kernel
theorem dX1_decide_66 : decode cX1_decide 66 = .ok (.getfield 73, 3) := by decide +kernel
theorem dX1_decide_69 : decode cX1_decide 69 = .ok (.invokestatic 76, 3) := by decide +kernel
theorem dX1_decide_72 : decode cX1_decide 72 = .ok (.iadd, 1) := by decide +kernel
theorem dX1_decide_73 : decode cX1_decide 73 = .ok (.putfield 28, 3) := by decide +kernel
theorem dX1_decide_76 : decode cX1_decide 76 = .ok (.return_, 1) := by decide +kernel
theorem dX1_shave_0 : decode cX1_shave 0 = .ok (.aload_n 0, 1) := by decide +kernel
theorem dX1_shave_1 : decode cX1_shave 1 = .ok (.getfield 40, 3) := by decide +kernel
theorem dX1_shave_4 : decode cX1_shave 4 = .ok (.aload_n 0, 1) := by decide +kernel
theorem dX1_shave_5 : decode cX1_shave 5 = .ok (.getfield 25, 3) := by decide +kernel
theorem dX1_shave_8 : decode cX1_shave 8 = .ok (.invokestatic 54, 3) := by decide +kernel
theorem dX1_shave_11 : decode cX1_shave 11 = .ok (.istore_n 1, 1) := by decide +kernel
theorem dX1_shave_12 : decode cX1_shave 12 = .ok (.aload_n 0, 1) := by decide +kernel
theorem dX1_shave_13 : decode cX1_shave 13 = .ok (.dup, 1) := by decide +kernel
theorem dX1_shave_14 : decode cX1_shave 14 = .ok (.getfield 25, 3) := by decide +kernel
theorem dX1_shave_17 : decode cX1_shave 17 = .ok (.iload_n 1, 1) := by decide +kernel
theorem dX1_shave_18 : decode cX1_shave 18 = .ok (.isub, 1) := by decide +kernel
theorem dX1_shave_19 : decode cX1_shave 19 = .ok (.putfield 25, 3) := by decide +kernel
theorem dX1_shave_22 : decode cX1_shave 22 = .ok (.aload_n 0, 1) := by decide +kernel
theorem dX1_shave_23 : decode cX1_shave 23 = .ok (.dup, 1) := by decide +kernel
theorem dX1_shave_24 : decode cX1_shave 24 = .ok (.getfield 31, 3) := by decide +kernel
theorem dX1_shave_27 : decode cX1_shave 27 = .ok (.iload_n 1, 1) := by decide +kernel
theorem dX1_shave_28 : decode cX1_shave 28 = .ok (.iadd, 1) := by decide +kernel
theorem dX1_shave_29 : decode cX1_shave 29 = .ok (.putfield 31, 3) := by decide +kernel
theorem dX1_shave_32 : decode cX1_shave 32 = .ok (.aload_n 0, 1) := by decide +kernel
theorem dX1_shave_33 : decode cX1_shave 33 = .ok (.iconst 0, 1) := by decide +kernel
theorem dX1_shave_34 : decode cX1_shave 34 = .ok (.aload_n 0, 1) := by decide +kernel
theorem dX1_shave_35 : decode cX1_shave 35 = .ok (.getfield 28, 3) := by decide +kernel
theorem dX1_shave_38 : decode cX1_shave 38 = .ok (.iload_n 1, 1) := by decide +kernel
theorem dX1_shave_39 : decode cX1_shave 39 = .ok (.bipush 10, 2) := by decide +kernel
theorem dX1_shave_41 : decode cX1_shave 41 = .ok (.imul, 1) := by decide +kernel
theorem dX1_shave_42 : decode cX1_shave 42 = .ok (.isub, 1) := by decide +kernel
theorem dX1_shave_43 : decode cX1_shave 43 = .ok (.invokestatic 80, 3) := by decide +kernel
theorem dX1_shave_46 : decode cX1_shave 46 = .ok (.putfield 28, 3) := by decide +kernel
theorem dX1_shave_49 : decode cX1_shave 49 = .ok (.return_, 1) := by decide +kernel
theorem dX1_freeze_0 : decode cX1_freeze 0 = .ok (.aload_n 0, 1) := by decide +kernel
theorem dX1_freeze_1 : decode cX1_freeze 1 = .ok (.dup, 1) := by decide +kernel
theorem dX1_freeze_2 : decode cX1_freeze 2 = .ok (.getfield 25, 3) := by decide +kernel
theorem dX1_freeze_5 : decode cX1_freeze 5 = .ok (.iload_n 1, 1) := by decide +kernel
theorem dX1_freeze_6 : decode cX1_freeze 6 = .ok (.iadd, 1) := by decide +kernel
theorem dX1_freeze_7 : decode cX1_freeze 7 = .ok (.putfield 25, 3) := by decide +kernel
theorem dX1_freeze_10 : decode cX1_freeze 10 = .ok (.aload_n 0, 1) := by decide +kernel
theorem dX1_freeze_11 : decode cX1_freeze 11 = .ok (.dup, 1) := by decide +kernel
theorem dX1_freeze_12 : decode cX1_freeze 12 = .ok (.getfield 34, 3) := by decide +kernel
theorem dX1_freeze_15 : decode cX1_freeze 15 = .ok (.iload_n 1, 1) := by decide +kernel
theorem dX1_freeze_16 : decode cX1_freeze 16 = .ok (.iadd, 1) := by decide +kernel
theorem dX1_freeze_17 : decode cX1_freeze 17 = .ok (.putfield 34, 3) := by decide +kernel
theorem dX1_freeze_20 : decode cX1_freeze 20 = .ok (.return_, 1) := by decide +kernel
theorem dX2_init_0 : decode cX2_init 0 = .ok (.aload_n 0, 1) := by decide +kernel
theorem dX2_init_1 : decode cX2_init 1 = .ok (.invokespecial 3, 3) := by decide +kernel
theorem dX2_init_4 : decode cX2_init 4 = .ok (.aload_n 0, 1) := by decide +kernel
theorem dX2_init_5 : decode cX2_init 5 = .ok (.iconst 5, 1) := by decide +kernel
theorem dX2_init_6 : decode cX2_init 6 = .ok (.anewarray 9, 3) := by decide +kernel
theorem dX2_init_9 : decode cX2_init 9 = .ok (.putfield 11, 3) := by decide +kernel
theorem dX2_init_12 : decode cX2_init 12 = .ok (.aload_n 0, 1) := by decide +kernel
theorem dX2_init_13 : decode cX2_init 13 = .ok (.iconst 5, 1) := by decide +kernel
theorem dX2_init_14 : decode cX2_init 14 = .ok (.newarray .int, 2) := by decide +kernel
theorem dX2_init_16 : decode cX2_init 16 = .ok (.putfield 17, 3) := by decide +kernel
theorem dX2_init_19 : decode cX2_init 19 = .ok (.aload_n 0, 1) := by decide +kernel
theorem dX2_init_20 : decode cX2_init 20 = .ok (.iconst 5, 1) := by decide +kernel
theorem dX2_init_21 : decode cX2_init 21 = .ok (.newarray .int, 2) := by decide +kernel
theorem dX2_init_23 : decode cX2_init 23 = .ok (.putfield 21, 3) := by decide +kernel
theorem dX2_init_26 : decode cX2_init 26 = .ok (.aload_n 0, 1) := by decide +kernel
theorem dX2_init_27 : decode cX2_init 27 = .ok (.bipush 6, 2) := by decide +kernel
theorem dX2_init_29 : decode cX2_init 29 = .ok (.newarray .int, 2) := by decide +kernel
theorem dX2_init_31 : decode cX2_init 31 = .ok (.putfield 24, 3) := by decide +kernel
theorem dX2_init_34 : decode cX2_init 34 = .ok (.aload_n 0, 1) := by decide +kernel
theorem dX2_init_35 : decode cX2_init 35 = .ok (.aload_n 1, 1) := by decide +kernel
theorem dX2_init_36 : decode cX2_init 36 = .ok (.putfield 27, 3) := by decide +kernel
theorem dX2_init_39 : decode cX2_init 39 = .ok (.aload_n 0, 1) := by decide +kernel
theorem dX2_init_40 : decode cX2_init 40 = .ok (.aload_n 2, 1) := by decide +kernel
theorem dX2_init_41 : decode cX2_init 41 = .ok (.putfield 31, 3) := by decide +kernel
theorem dX2_init_44 : decode cX2_init 44 = .ok (.return_, 1) := by decide +kernel
theorem dX2_begin_0 : decode cX2_begin 0 = .ok (.aload_n 0, 1) := by decide +kernel
theorem dX2_begin_1 : decode cX2_begin 1 = .ok (.iconst 0, 1) := by decide +kernel
theorem dX2_begin_2 : decode cX2_begin 2 = .ok (.putfield 34, 3) := by decide +kernel
theorem dX2_begin_5 : decode cX2_begin 5 = .ok (.return_, 1) := by decide +kernel
set_option maxRecDepth 20000 in
theorem ggX2_add_X8_isBelow : GoodIn wsX2_add wsX8_isBelow := goodIn_r _ [5] (by decide +kernel) (by decide +kernel)
set_option maxRecDepth 20000 in
theorem gX2_add_X8_isBelow_n38 : GoodIn wsX2_add (wsX8_isBelow) := ggX2_add_X8_isBelow
theorem dX2_add_0 : decode cX2_add 0 = .ok (.aload_n 0, 1) := by decide +kernel
theorem dX2_add_1 : decode cX2_add 1 = .ok (.getfield 34, 3) := by decide +kernel
theorem dX2_add_4 : decode cX2_add 4 = .ok (.iconst 5, 1) := by decide +kernel
theorem dX2_add_5 : decode cX2_add 5 = .ok (.invokestatic 38, 3) := by decide +kernel
theorem dX2_add_8 : decode cX2_add 8 = .ok (.ifCond .ne 5, 3) := by decide +kernel
theorem dX2_add_11 : decode cX2_add 11 = .ok (.iconst 0, 1) := by decide +kernel
theorem dX2_add_12 : decode cX2_add 12 = .ok (.ireturn, 1) := by decide +kernel
theorem dX2_add_13 : decode cX2_add 13 = .ok (.aload_n 0, 1) := by decide +kernel
theorem dX2_add_14 : decode cX2_add 14 = .ok (.getfield 11, 3) := by decide +kernel
theorem dX2_add_17 : decode cX2_add 17 = .ok (.aload_n 0, 1) := by decide +kernel
theorem dX2_add_18 : decode cX2_add 18 = .ok (.getfield 34, 3) := by decide +kernel
theorem dX2_add_21 : decode cX2_add 21 = .ok (.aload_n 1, 1) := by decide +kernel
theorem dX2_add_22 : decode cX2_add 22 = .ok (.aastore, 1) := by decide +kernel
theorem dX2_add_23 : decode cX2_add 23 = .ok (.aload_n 0, 1) := by decide +kernel
theorem dX2_add_24 : decode cX2_add 24 = .ok (.dup, 1) := by decide +kernel
theorem dX2_add_25 : decode cX2_add 25 = .ok (.getfield 34, 3) := by decide +kernel
theorem dX2_add_28 : decode cX2_add 28 = .ok (.iconst 1, 1) := by decide +kernel
theorem dX2_add_29 : decode cX2_add 29 = .ok (.iadd, 1) := by decide +kernel
theorem dX2_add_30 : decode cX2_add 30 = .ok (.putfield 34, 3) := by decide +kernel
theorem dX2_add_33 : decode cX2_add 33 = .ok (.iconst 1, 1) := by decide +kernel
theorem dX2_add_34 : decode cX2_add 34 = .ok (.ireturn, 1) := by decide +kernel
set_option maxRecDepth 20000 in
theorem ggX2_search_X2_leastAlone : GoodIn wsX2_search wsX2_leastAlone := goodIn_r _ [10, 11, 12, 13, 9, 14, 1, 2, 15, 16, 17, 18, 19, 20, 21, 22, 23, 24, 25, 26, 27, 28, 29, 30, 31, 32, 33, 34, 35, 36, 37, 38, 39, 40, 41, 42, 43, 44, 45, 46, 47, 48, 49, 50, 51, 52, 53, 54, 55, 56, 80, 81, 82, 83, 84, 85, 86, 87, 88, 89, 90, 91, 92, 93, 94, 95, 96, 97, 98, 99, 100, 101, 102, 103, 104, 105, 106, 107, 108, 109, 110] (by decide +kernel) (by decide +kernel)
set_option maxRecDepth 20000 in
theorem gX2_search_X2_leastAlone : GoodIn wsX2_search (wsV RX2 51 RX2 yX2_leastAlone wsX2_leastAlone) := goodIn_app (goodIn_of _ (by decide +kernel)) ggX2_search_X2_leastAlone
set_option maxRecDepth 20000 in
theorem ggX2_search_X2_searchFrom : GoodIn wsX2_search wsX2_searchFrom := goodIn_r _ [59, 4, 5, 3, 60, 61, 62, 63, 64, 9, 65, 66, 67, 68, 69, 70, 50, 51, 52, 53, 54, 55, 56, 24, 25, 26, 21, 22, 23, 57, 58, 11, 12, 13, 14, 1, 2, 15, 16, 17, 18, 19, 20, 27, 28, 29, 30, 31, 32, 33, 34, 35, 36, 37, 38, 39, 40, 41, 42, 43, 44, 45, 46, 47, 48, 49, 71, 72, 73, 74, 75, 76, 77, 78, 79, 80, 81, 82, 83, 84, 85, 86, 87, 88, 89, 100, 101, 102, 103, 104, 105, 106, 107, 108, 109, 90, 91, 92, 93, 94, 95, 96, 97, 98, 99, 110] (by decide +kernel) (by decide +kernel)
set_option maxRecDepth 20000 in
theorem gX2_search_X2_searchFrom : GoodIn wsX2_search (va_wsS RX2 55 yX2_searchFrom wsX2_searchFrom) := goodIn_app (goodIn_of _ (by decide +kernel)) ggX2_search_X2_searchFrom
theorem dX2_search_0 : decode cX2_search 0 = .ok (.aload_n 0, 1) := by decide +kernel
theorem dX2_search_1 : decode cX2_search 1 = .ok (.iload_n 1, 1) := by decide +kernel
theorem dX2_search_2 : decode cX2_search 2 = .ok (.putfield 42, 3) := by decide +kernel
theorem dX2_search_5 : decode cX2_search 5 = .ok (.aload_n 0, 1) := by decide +kernel
theorem dX2_search_6 : decode cX2_search 6 = .ok (.iload_n 2, 1) := by decide +kernel
theorem dX2_search_7 : decode cX2_search 7 = .ok (.putfield 45, 3) := by decide +kernel
theorem dX2_search_10 : decode cX2_search 10 = .ok (.aload_n 0, 1) := by decide +kernel
theorem dX2_search_11 : decode cX2_search 11 = .ok (.sipush 600, 3) := by decide +kernel
theorem dX2_search_14 : decode cX2_search 14 = .ok (.putfield 48, 3) := by decide +kernel
theorem dX2_search_17 : decode cX2_search 17 = .ok (.iconst 0, 1) := by decide +kernel
theorem dX2_search_18 : decode cX2_search 18 = .ok (.istore_n 3, 1) := by decide +kernel
theorem dX2_search_19 : decode cX2_search 19 = .ok (.iconst 5, 1) := by decide +kernel
theorem dX2_search_20 : decode cX2_search 20 = .ok (.istore 4, 2) := by decide +kernel
theorem dX2_search_22 : decode cX2_search 22 = .ok (.iload 4, 2) := by decide +kernel
theorem dX2_search_24 : decode cX2_search 24 = .ok (.ifCond .lt 39, 3) := by decide +kernel
theorem dX2_search_27 : decode cX2_search 27 = .ok (.iload_n 3, 1) := by decide +kernel
theorem dX2_search_28 : decode cX2_search 28 = .ok (.iload 4, 2) := by decide +kernel
theorem dX2_search_30 : decode cX2_search 30 = .ok (.aload_n 0, 1) := by decide +kernel
theorem dX2_search_31 : decode cX2_search 31 = .ok (.getfield 34, 3) := by decide +kernel
theorem dX2_search_34 : decode cX2_search 34 = .ok (.if_icmp .ge 12, 3) := by decide +kernel
theorem dX2_search_37 : decode cX2_search 37 = .ok (.aload_n 0, 1) := by decide +kernel
theorem dX2_search_38 : decode cX2_search 38 = .ok (.iload 4, 2) := by decide +kernel
theorem dX2_search_40 : decode cX2_search 40 = .ok (.invokevirtual 51, 3) := by decide +kernel
theorem dX2_search_43 : decode cX2_search 43 = .ok (.goto 4, 3) := by decide +kernel
theorem dX2_search_46 : decode cX2_search 46 = .ok (.iconst 0, 1) := by decide +kernel
theorem dX2_search_47 : decode cX2_search 47 = .ok (.iadd, 1) := by decide +kernel
theorem dX2_search_48 : decode cX2_search 48 = .ok (.istore_n 3, 1) := by decide +kernel
theorem dX2_search_49 : decode cX2_search 49 = .ok (.aload_n 0, 1) := by decide +kernel
theorem dX2_search_50 : decode cX2_search 50 = .ok (.getfield 24, 3) := by decide +kernel
theorem dX2_search_53 : decode cX2_search 53 = .ok (.iload 4, 2) := by decide +kernel
theorem dX2_search_55 : decode cX2_search 55 = .ok (.iload_n 3, 1) := by decide +kernel
theorem dX2_search_56 : decode cX2_search 56 = .ok (.iastore, 1) := by decide +kernel
theorem dX2_search_57 : decode cX2_search 57 = .ok (.iinc 4 (-1), 3) := by decide +kernel
theorem dX2_search_60 : decode cX2_search 60 = .ok (.goto (-38), 3) := by decide +kernel
theorem dX2_search_63 : decode cX2_search 63 = .ok (.aload_n 0, 1) := by decide +kernel
theorem dX2_search_64 : decode cX2_search 64 = .ok (.iconst 0, 1) := by decide +kernel
theorem dX2_search_65 : decode cX2_search 65 = .ok (.iconst 0, 1) := by decide +kernel
theorem dX2_search_66 : decode cX2_search 66 = .ok (.invokestatic 55, 3) := by decide +kernel
theorem dX2_search_69 : decode cX2_search 69 = .ok (.return_, 1) := by decide +kernel
set_option maxRecDepth 20000 in
theorem ggX2_carryOut_X2_hourOf : GoodIn wsX2_carryOut wsX2_hourOf := goodIn_r _ [10, 2, 11, 12, 13, 14, 15, 16, 9, 17, 38, 39, 40, 41, 42, 43, 44, 45, 46, 47, 48, 49, 50, 51, 52, 53, 54, 55, 56, 57] (by decide +kernel) (by decide +kernel)
set_option maxRecDepth 20000 in
theorem gX2_carryOut_X2_hourOf : GoodIn wsX2_carryOut (wsV RX2 62 RX2 yX2_hourOf wsX2_hourOf) := goodIn_app (goodIn_of _ (by decide +kernel)) ggX2_carryOut_X2_hourOf
set_option maxRecDepth 20000 in
theorem ggX2_carryOut_X2_iceOfWay : GoodIn wsX2_carryOut wsX2_iceOfWay := goodIn_r _ [21, 22, 23, 38, 39, 40, 41, 42, 43, 44, 45, 46, 47] (by decide +kernel) (by decide +kernel)
set_option maxRecDepth 20000 in
theorem gX2_carryOut_X2_iceOfWay : GoodIn wsX2_carryOut (wsV RX2 66 RX2 yX2_iceOfWay wsX2_iceOfWay) := goodIn_app (goodIn_of _ (by decide +kernel)) ggX2_carryOut_X2_iceOfWay
set_option maxRecDepth 20000 in
theorem ggX2_carryOut_X0_put : GoodIn wsX2_carryOut wsX0_put := goodIn_r _ [28, 29, 68] (by decide +kernel) (by decide +kernel)
set_option maxRecDepth 20000 in
theorem gX2_carryOut_X0_put : GoodIn wsX2_carryOut (wsV RX2 76 RX0 yX0_put wsX0_put) := goodIn_app (goodIn_of _ (by decide +kernel)) ggX2_carryOut_X0_put
set_option maxRecDepth 20000 in
theorem ggX2_carryOut_X6_moveTo : GoodIn wsX2_carryOut wsX6_moveTo := goodIn_r _ [34, 35, 36, 37, 48, 49, 50, 51, 52, 53, 54, 55, 56, 57] (by decide +kernel) (by decide +kernel)
set_option maxRecDepth 20000 in
theorem gX2_carryOut_X6_moveTo : GoodIn wsX2_carryOut (wsV RX2 82 RX6 yX6_moveTo wsX6_moveTo) := goodIn_app (goodIn_of _ (by decide +kernel)) ggX2_carryOut_X6_moveTo
theorem dX2_carryOut_0 : decode cX2_carryOut 0 = .ok (.iconst 0, 1) := by decide +kernel
theorem dX2_carryOut_1 : decode cX2_carryOut 1 = .ok (.istore_n 1, 1) := by decide +kernel
theorem dX2_carryOut_2 : decode cX2_carryOut 2 = .ok (.iconst 0, 1) := by decide +kernel
theorem dX2_carryOut_3 : decode cX2_carryOut 3 = .ok (.istore_n 2, 1) := by decide +kernel
theorem dX2_carryOut_4 : decode cX2_carryOut 4 = .ok (.iload_n 2, 1) := by decide +kernel
theorem dX2_carryOut_5 : decode cX2_carryOut 5 = .ok (.aload_n 0, 1) := by decide +kernel
theorem dX2_carryOut_6 : decode cX2_carryOut 6 = .ok (.getfield 34, 3) := by decide +kernel
theorem dX2_carryOut_9 : decode cX2_carryOut 9 = .ok (.if_icmp .ge 96, 3) := by decide +kernel
theorem dX2_carryOut_12 : decode cX2_carryOut 12 = .ok (.iload_n 2, 1) := by decide +kernel
theorem dX2_carryOut_13 : decode cX2_carryOut 13 = .ok (.iconst 5, 1) := by decide +kernel
theorem dX2_carryOut_14 : decode cX2_carryOut 14 = .ok (.if_icmp .ge 91, 3) := by decide +kernel
theorem dX2_carryOut_17 : decode cX2_carryOut 17 = .ok (.aload_n 0, 1) := by decide +kernel
theorem dX2_carryOut_18 : decode cX2_carryOut 18 = .ok (.getfield 11, 3) := by decide +kernel
theorem dX2_carryOut_21 : decode cX2_carryOut 21 = .ok (.iload_n 2, 1) := by decide +kernel
theorem dX2_carryOut_22 : decode cX2_carryOut 22 = .ok (.aaload, 1) := by decide +kernel
theorem dX2_carryOut_23 : decode cX2_carryOut 23 = .ok (.astore_n 3, 1) := by decide +kernel
theorem dX2_carryOut_24 : decode cX2_carryOut 24 = .ok (.aload_n 3, 1) := by decide +kernel
theorem dX2_carryOut_25 : decode cX2_carryOut 25 = .ok (.ifnull 25, 3) := by decide +kernel
theorem dX2_carryOut_28 : decode cX2_carryOut 28 = .ok (.aload_n 0, 1) := by decide +kernel
theorem dX2_carryOut_29 : decode cX2_carryOut 29 = .ok (.getfield 21, 3) := by decide +kernel
theorem dX2_carryOut_32 : decode cX2_carryOut 32 = .ok (.iload_n 2, 1) := by decide +kernel
theorem dX2_carryOut_33 : decode cX2_carryOut 33 = .ok (.iaload, 1) := by decide +kernel
theorem dX2_carryOut_34 : decode cX2_carryOut 34 = .ok (.bipush 14, 2) := by decide +kernel
theorem dX2_carryOut_36 : decode cX2_carryOut 36 = .ok (.if_icmp .ne 14, 3) := by decide +kernel
theorem dX2_carryOut_39 : decode cX2_carryOut 39 = .ok (.aload_n 3, 1) := by decide +kernel
theorem dX2_carryOut_40 : decode cX2_carryOut 40 = .ok (.iconst 4, 1) := by decide +kernel
theorem dX2_carryOut_41 : decode cX2_carryOut 41 = .ok (.putfield 59, 3) := by decide +kernel
theorem dX2_carryOut_44 : decode cX2_carryOut 44 = .ok (.iinc 1 1, 3) := by decide +kernel
theorem dX2_carryOut_47 : decode cX2_carryOut 47 = .ok (.goto 52, 3) := by decide +kernel
theorem dX2_carryOut_50 : decode cX2_carryOut 50 = .ok (.aload_n 3, 1) := by decide +kernel
theorem dX2_carryOut_51 : decode cX2_carryOut 51 = .ok (.ifnull 48, 3) := by decide +kernel
theorem dX2_carryOut_54 : decode cX2_carryOut 54 = .ok (.aload_n 0, 1) := by decide +kernel
theorem dX2_carryOut_55 : decode cX2_carryOut 55 = .ok (.iload_n 2, 1) := by decide +kernel
theorem dX2_carryOut_56 : decode cX2_carryOut 56 = .ok (.aload_n 0, 1) := by decide +kernel
theorem dX2_carryOut_57 : decode cX2_carryOut 57 = .ok (.getfield 21, 3) := by decide +kernel
theorem dX2_carryOut_60 : decode cX2_carryOut 60 = .ok (.iload_n 2, 1) := by decide +kernel
theorem dX2_carryOut_61 : decode cX2_carryOut 61 = .ok (.iaload, 1) := by decide +kernel
theorem dX2_carryOut_62 : decode cX2_carryOut 62 = .ok (.invokevirtual 62, 3) := by decide +kernel
theorem dX2_carryOut_65 : decode cX2_carryOut 65 = .ok (.istore 4, 2) := by decide +kernel
theorem dX2_carryOut_67 : decode cX2_carryOut 67 = .ok (.aload_n 0, 1) := by decide +kernel
theorem dX2_carryOut_68 : decode cX2_carryOut 68 = .ok (.aload_n 0, 1) := by decide +kernel
theorem dX2_carryOut_69 : decode cX2_carryOut 69 = .ok (.getfield 21, 3) := by decide +kernel
theorem dX2_carryOut_72 : decode cX2_carryOut 72 = .ok (.iload_n 2, 1) := by decide +kernel
theorem dX2_carryOut_73 : decode cX2_carryOut 73 = .ok (.iaload, 1) := by decide +kernel
theorem dX2_carryOut_74 : decode cX2_carryOut 74 = .ok (.invokevirtual 66, 3) := by decide +kernel
theorem dX2_carryOut_77 : decode cX2_carryOut 77 = .ok (.getfield 70, 3) := by decide +kernel
theorem dX2_carryOut_80 : decode cX2_carryOut 80 = .ok (.iload 4, 2) := by decide +kernel
theorem dX2_carryOut_82 : decode cX2_carryOut 82 = .ok (.invokevirtual 76, 3) := by decide +kernel
theorem dX2_carryOut_85 : decode cX2_carryOut 85 = .ok (.aload_n 3, 1) := by decide +kernel
theorem dX2_carryOut_86 : decode cX2_carryOut 86 = .ok (.aload_n 0, 1) := by decide +kernel
theorem dX2_carryOut_87 : decode cX2_carryOut 87 = .ok (.getfield 21, 3) := by decide +kernel
theorem dX2_carryOut_90 : decode cX2_carryOut 90 = .ok (.iload_n 2, 1) := by decide +kernel
theorem dX2_carryOut_91 : decode cX2_carryOut 91 = .ok (.iaload, 1) := by decide +kernel
theorem dX2_carryOut_92 : decode cX2_carryOut 92 = .ok (.iconst 2, 1) := by decide +kernel
theorem dX2_carryOut_93 : decode cX2_carryOut 93 = .ok (.irem, 1) := by decide +kernel
theorem dX2_carryOut_94 : decode cX2_carryOut 94 = .ok (.iload 4, 2) := by decide +kernel
theorem dX2_carryOut_96 : decode cX2_carryOut 96 = .ok (.invokevirtual 82, 3) := by decide +kernel
theorem dX2_carryOut_99 : decode cX2_carryOut 99 = .ok (.iinc 2 1, 3) := by decide +kernel
theorem dX2_carryOut_102 : decode cX2_carryOut 102 = .ok (.goto (-98), 3) := by decide +kernel
theorem dX2_carryOut_105 : decode cX2_carryOut 105 = .ok (.iload_n 1, 1) := by decide +kernel
theorem dX2_carryOut_106 : decode cX2_carryOut 106 = .ok (.ireturn, 1) := by decide +kernel
set_option maxRecDepth 20000 in
theorem ggX2_searchFrom_X2_keepBest : GoodIn wsX2_searchFrom wsX2_keepBest := goodIn_r _ [10, 3, 4, 11, 12, 13, 14, 15, 75, 76, 77, 78, 79, 80, 81, 82, 83, 84] (by decide +kernel) (by decide +kernel)
set_option maxRecDepth 20000 in
theorem gX2_searchFrom_X2_keepBest : GoodIn wsX2_searchFrom (wsV RX2 86 RX2 yX2_keepBest wsX2_keepBest) := goodIn_app (goodIn_of _ (by decide +kernel)) ggX2_searchFrom_X2_keepBest
set_option maxRecDepth 20000 in
theorem ggX2_searchFrom_X2_costOf : GoodIn wsX2_searchFrom wsX2_costOf := goodIn_r _ [18, 19, 20, 21, 22, 23, 24, 9, 25, 26, 27, 28] (by decide +kernel) (by decide +kernel)
set_option maxRecDepth 20000 in
theorem gX2_searchFrom_X2_costOf : GoodIn wsX2_searchFrom (va_wsS RX2 89 yX2_costOf wsX2_costOf) := goodIn_app (goodIn_of _ (by decide +kernel)) ggX2_searchFrom_X2_costOf
set_option maxRecDepth 20000 in
theorem ggX2_searchFrom_X2_searchFrom : GoodIn wsX2_searchFrom wsX2_searchFrom := goodIn_r _ [0, 1, 2, 3, 4, 5, 6, 7, 8, 9, 10, 11, 12, 13, 14, 15, 16, 17, 18, 19, 20, 21, 22, 23, 24, 25, 26, 27, 28, 29, 30, 31, 32, 33, 34, 35, 36, 37, 38, 39, 40, 41, 42, 43, 44, 45, 46, 47, 48, 49, 50, 51, 52, 53, 54, 55, 56, 57, 58, 59, 60, 61, 62, 63, 64, 65, 66, 67, 68, 69, 70, 71, 72, 73, 74, 75, 76, 77, 78, 79, 80, 81, 82, 83, 84, 85, 86, 87, 88, 89, 90, 91, 92, 93, 94, 95, 96, 97, 98, 99, 100, 101, 102, 103, 104, 105] (by decide +kernel) (by decide +kernel)
set_option maxRecDepth 20000 in
theorem gX2_searchFrom_X2_searchFrom : GoodIn wsX2_searchFrom (va_wsS RX2 55 yX2_searchFrom wsX2_searchFrom) := goodIn_app (goodIn_of _ (by decide +kernel)) ggX2_searchFrom_X2_searchFrom
set_option maxRecDepth 20000 in
theorem ggX2_searchFrom_X2_canGo : GoodIn wsX2_searchFrom wsX2_canGo := goodIn_r _ [34, 35, 36, 37, 38, 39, 9, 40, 41, 42, 26, 27, 28, 23, 24, 25, 43, 44, 45, 46, 47, 48, 49, 50, 51, 52, 53, 54, 55, 56, 57, 58, 59, 60, 61, 62, 63, 64, 65, 75, 76, 77, 78, 79, 80, 81, 82, 83, 84, 95, 96, 97, 98, 99, 100, 101, 102, 103, 104, 85, 86, 87, 88, 89, 90, 91, 92, 93, 94, 105] (by decide +kernel) (by decide +kernel)
set_option maxRecDepth 20000 in
theorem gX2_searchFrom_X2_canGo : GoodIn wsX2_searchFrom (wsV RX2 92 RX2 yX2_canGo wsX2_canGo) := goodIn_app (goodIn_of _ (by decide +kernel)) ggX2_searchFrom_X2_canGo
set_option maxRecDepth 20000 in
theorem ggX2_searchFrom_X2_iceOfWay : GoodIn wsX2_searchFrom wsX2_iceOfWay := goodIn_r _ [46, 47, 48, 75, 76, 77, 78, 79, 80, 81, 82, 83, 84] (by decide +kernel) (by decide +kernel)
set_option maxRecDepth 20000 in
theorem gX2_searchFrom_X2_iceOfWay : GoodIn wsX2_searchFrom (wsV RX2 66 RX2 yX2_iceOfWay wsX2_iceOfWay) := goodIn_app (goodIn_of _ (by decide +kernel)) ggX2_searchFrom_X2_iceOfWay
set_option maxRecDepth 20000 in
theorem ggX2_searchFrom_X2_hourOf : GoodIn wsX2_searchFrom wsX2_hourOf := goodIn_r _ [40, 41, 42, 26, 27, 28, 23, 24, 9, 25, 75, 76, 77, 78, 79, 80, 81, 82, 83, 84, 95, 96, 97, 98, 99, 100, 101, 102, 103, 104] (by decide +kernel) (by decide +kernel)
set_option maxRecDepth 20000 in
theorem gX2_searchFrom_X2_hourOf : GoodIn wsX2_searchFrom (wsV RX2 62 RX2 yX2_hourOf wsX2_hourOf) := goodIn_app (goodIn_of _ (by decide +kernel)) ggX2_searchFrom_X2_hourOf
set_option maxRecDepth 20000 in
theorem ggX2_searchFrom_X0_put : GoodIn wsX2_searchFrom wsX0_put := goodIn_r _ [69, 61, 105] (by decide +kernel) (by decide +kernel)
set_option maxRecDepth 20000 in
theorem gX2_searchFrom_X0_put : GoodIn wsX2_searchFrom (wsV RX2 76 RX0 yX0_put wsX0_put) := goodIn_app (goodIn_of _ (by decide +kernel)) ggX2_searchFrom_X0_put
set_option maxRecDepth 20000 in
theorem ggX2_searchFrom_X0_drop : GoodIn wsX2_searchFrom wsX0_drop := goodIn_r _ [73, 61, 74, 105] (by decide +kernel) (by decide +kernel)
set_option maxRecDepth 20000 in
theorem gX2_searchFrom_X0_drop : GoodIn wsX2_searchFrom (wsV RX2 95 RX0 yX0_drop wsX0_drop) := goodIn_app (goodIn_of _ (by decide +kernel)) ggX2_searchFrom_X0_drop
theorem dX2_searchFrom_0 : decode cX2_searchFrom 0 = .ok (.iload_n 1, 1) := by decide +kernel
theorem dX2_searchFrom_1 : decode cX2_searchFrom 1 = .ok (.aload_n 0, 1) := by decide +kernel
theorem dX2_searchFrom_2 : decode cX2_searchFrom 2 = .ok (.getfield 34, 3) := by decide +kernel
theorem dX2_searchFrom_5 : decode cX2_searchFrom 5 = .ok (.if_icmp .ge 8, 3) := by decide +kernel
theorem dX2_searchFrom_8 : decode cX2_searchFrom 8 = .ok (.iload_n 1, 1) := by decide +kernel
theorem dX2_searchFrom_9 : decode cX2_searchFrom 9 = .ok (.iconst 5, 1) := by decide +kernel
theorem dX2_searchFrom_10 : decode cX2_searchFrom 10 = .ok (.if_icmp .lt 9, 3) := by decide +kernel
theorem dX2_searchFrom_13 : decode cX2_searchFrom 13 = .ok (.aload_n 0, 1) := by decide +kernel
theorem dX2_searchFrom_14 : decode cX2_searchFrom 14 = .ok (.iload_n 2, 1) := by decide +kernel
theorem dX2_searchFrom_15 : decode cX2_searchFrom 15 = .ok (.invokevirtual 86, 3) := by decide +kernel
theorem dX2_searchFrom_18 : decode cX2_searchFrom 18 = .ok (.return_, 1) := by decide +kernel
theorem dX2_searchFrom_19 : decode cX2_searchFrom 19 = .ok (.iconst 0, 1) := by decide +kernel
theorem dX2_searchFrom_20 : decode cX2_searchFrom 20 = .ok (.istore_n 3, 1) := by decide +kernel
theorem dX2_searchFrom_21 : decode cX2_searchFrom 21 = .ok (.iload_n 3, 1) := by decide +kernel
theorem dX2_searchFrom_22 : decode cX2_searchFrom 22 = .ok (.bipush 14, 2) := by decide +kernel
theorem dX2_searchFrom_24 : decode cX2_searchFrom 24 = .ok (.if_icmp .gt 111, 3) := by decide +kernel
theorem dX2_searchFrom_27 : decode cX2_searchFrom 27 = .ok (.iload_n 2, 1) := by decide +kernel
theorem dX2_searchFrom_28 : decode cX2_searchFrom 28 = .ok (.iload_n 3, 1) := by decide +kernel
theorem dX2_searchFrom_29 : decode cX2_searchFrom 29 = .ok (.invokestatic 89, 3) := by decide +kernel
theorem dX2_searchFrom_32 : decode cX2_searchFrom 32 = .ok (.iadd, 1) := by decide +kernel
theorem dX2_searchFrom_33 : decode cX2_searchFrom 33 = .ok (.istore 4, 2) := by decide +kernel
theorem dX2_searchFrom_35 : decode cX2_searchFrom 35 = .ok (.iload 4, 2) := by decide +kernel
theorem dX2_searchFrom_37 : decode cX2_searchFrom 37 = .ok (.aload_n 0, 1) := by decide +kernel
theorem dX2_searchFrom_38 : decode cX2_searchFrom 38 = .ok (.getfield 24, 3) := by decide +kernel
theorem dX2_searchFrom_41 : decode cX2_searchFrom 41 = .ok (.iload_n 1, 1) := by decide +kernel
theorem dX2_searchFrom_42 : decode cX2_searchFrom 42 = .ok (.iconst 1, 1) := by decide +kernel
theorem dX2_searchFrom_43 : decode cX2_searchFrom 43 = .ok (.iadd, 1) := by decide +kernel
theorem dX2_searchFrom_44 : decode cX2_searchFrom 44 = .ok (.iaload, 1) := by decide +kernel
theorem dX2_searchFrom_45 : decode cX2_searchFrom 45 = .ok (.iadd, 1) := by decide +kernel
theorem dX2_searchFrom_46 : decode cX2_searchFrom 46 = .ok (.aload_n 0, 1) := by decide +kernel
theorem dX2_searchFrom_47 : decode cX2_searchFrom 47 = .ok (.getfield 48, 3) := by decide +kernel
theorem dX2_searchFrom_50 : decode cX2_searchFrom 50 = .ok (.if_icmp .lt 4, 3) := by decide +kernel
theorem dX2_searchFrom_53 : decode cX2_searchFrom 53 = .ok (.return_, 1) := by decide +kernel
theorem dX2_searchFrom_54 : decode cX2_searchFrom 54 = .ok (.aload_n 0, 1) := by decide +kernel
theorem dX2_searchFrom_55 : decode cX2_searchFrom 55 = .ok (.getfield 17, 3) := by decide +kernel
theorem dX2_searchFrom_58 : decode cX2_searchFrom 58 = .ok (.iload_n 1, 1) := by decide +kernel
theorem dX2_searchFrom_59 : decode cX2_searchFrom 59 = .ok (.iload_n 3, 1) := by decide +kernel
theorem dX2_searchFrom_60 : decode cX2_searchFrom 60 = .ok (.iastore, 1) := by decide +kernel
theorem dX2_searchFrom_61 : decode cX2_searchFrom 61 = .ok (.iload_n 3, 1) := by decide +kernel
theorem dX2_searchFrom_62 : decode cX2_searchFrom 62 = .ok (.bipush 14, 2) := by decide +kernel
theorem dX2_searchFrom_64 : decode cX2_searchFrom 64 = .ok (.if_icmp .ne 15, 3) := by decide +kernel
theorem dX2_searchFrom_67 : decode cX2_searchFrom 67 = .ok (.aload_n 0, 1) := by decide +kernel
theorem dX2_searchFrom_68 : decode cX2_searchFrom 68 = .ok (.iload_n 1, 1) := by decide +kernel
theorem dX2_searchFrom_69 : decode cX2_searchFrom 69 = .ok (.iconst 1, 1) := by decide +kernel
theorem dX2_searchFrom_70 : decode cX2_searchFrom 70 = .ok (.iadd, 1) := by decide +kernel
theorem dX2_searchFrom_71 : decode cX2_searchFrom 71 = .ok (.iload 4, 2) := by decide +kernel
theorem dX2_searchFrom_73 : decode cX2_searchFrom 73 = .ok (.invokestatic 55, 3) := by decide +kernel
theorem dX2_searchFrom_76 : decode cX2_searchFrom 76 = .ok (.goto 53, 3) := by decide +kernel
theorem dX2_searchFrom_79 : decode cX2_searchFrom 79 = .ok (.aload_n 0, 1) := by decide +kernel
theorem dX2_searchFrom_80 : decode cX2_searchFrom 80 = .ok (.iload_n 1, 1) := by decide +kernel
theorem dX2_searchFrom_81 : decode cX2_searchFrom 81 = .ok (.iload_n 3, 1) := by decide +kernel
theorem dX2_searchFrom_82 : decode cX2_searchFrom 82 = .ok (.invokevirtual 92, 3) := by decide +kernel
theorem dX2_searchFrom_85 : decode cX2_searchFrom 85 = .ok (.ifCond .eq 44, 3) := by decide +kernel
theorem dX2_searchFrom_88 : decode cX2_searchFrom 88 = .ok (.aload_n 0, 1) := by decide +kernel
theorem dX2_searchFrom_89 : decode cX2_searchFrom 89 = .ok (.iload_n 3, 1) := by decide +kernel
theorem dX2_searchFrom_90 : decode cX2_searchFrom 90 = .ok (.invokevirtual 66, 3) := by decide +kernel
theorem dX2_searchFrom_93 : decode cX2_searchFrom 93 = .ok (.getfield 70, 3) := by decide +kernel
theorem dX2_searchFrom_96 : decode cX2_searchFrom 96 = .ok (.astore 5, 2) := by decide +kernel
theorem dX2_searchFrom_98 : decode cX2_searchFrom 98 = .ok (.aload_n 0, 1) := by decide +kernel
theorem dX2_searchFrom_99 : decode cX2_searchFrom 99 = .ok (.iload_n 1, 1) := by decide +kernel
theorem dX2_searchFrom_100 : decode cX2_searchFrom 100 = .ok (.iload_n 3, 1) := by decide +kernel
theorem dX2_searchFrom_101 : decode cX2_searchFrom 101 = .ok (.invokevirtual 62, 3) := by decide +kernel
theorem dX2_searchFrom_104 : decode cX2_searchFrom 104 = .ok (.istore 6, 2) := by decide +kernel
theorem dX2_searchFrom_106 : decode cX2_searchFrom 106 = .ok (.aload 5, 2) := by decide +kernel
theorem dX2_searchFrom_108 : decode cX2_searchFrom 108 = .ok (.iload 6, 2) := by decide +kernel
theorem dX2_searchFrom_110 : decode cX2_searchFrom 110 = .ok (.invokevirtual 76, 3) := by decide +kernel
theorem dX2_searchFrom_113 : decode cX2_searchFrom 113 = .ok (.aload_n 0, 1) := by decide +kernel
theorem dX2_searchFrom_114 : decode cX2_searchFrom 114 = .ok (.iload_n 1, 1) := by decide +kernel
theorem dX2_searchFrom_115 : decode cX2_searchFrom 115 = .ok (.iconst 1, 1) := by decide +kernel
theorem dX2_searchFrom_116 : decode cX2_searchFrom 116 = .ok (.iadd, 1) := by decide +kernel
theorem dX2_searchFrom_117 : decode cX2_searchFrom 117 = .ok (.iload 4, 2) := by decide +kernel
theorem dX2_searchFrom_119 : decode cX2_searchFrom 119 = .ok (.invokestatic 55, 3) := by decide +kernel
theorem dX2_searchFrom_122 : decode cX2_searchFrom 122 = .ok (.aload 5, 2) := by decide +kernel
theorem dX2_searchFrom_124 : decode cX2_searchFrom 124 = .ok (.iload 6, 2) := by decide +kernel
theorem dX2_searchFrom_126 : decode cX2_searchFrom 126 = .ok (.invokevirtual 95, 3) := by decide +kernel
theorem dX2_searchFrom_129 : decode cX2_searchFrom 129 = .ok (.iinc 3 1, 3) := by decide +kernel
theorem dX2_searchFrom_132 : decode cX2_searchFrom 132 = .ok (.goto (-111), 3) := by decide +kernel
theorem dX2_searchFrom_135 : decode cX2_searchFrom 135 = .ok (.return_, 1) := by decide +kernel
theorem dX2_keepBest_0 : decode cX2_keepBest 0 = .ok (.iload_n 1, 1) := by decide +kernel
theorem dX2_keepBest_1 : decode cX2_keepBest 1 = .ok (.aload_n 0, 1) := by decide +kernel
theorem dX2_keepBest_2 : decode cX2_keepBest 2 = .ok (.getfield 48, 3) := by decide +kernel
theorem dX2_keepBest_5 : decode cX2_keepBest 5 = .ok (.if_icmp .ge 22, 3) := by decide +kernel
theorem dX2_keepBest_8 : decode cX2_keepBest 8 = .ok (.aload_n 0, 1) := by decide +kernel
theorem dX2_keepBest_9 : decode cX2_keepBest 9 = .ok (.iload_n 1, 1) := by decide +kernel
theorem dX2_keepBest_10 : decode cX2_keepBest 10 = .ok (.putfield 48, 3) := by decide +kernel
theorem dX2_keepBest_13 : decode cX2_keepBest 13 = .ok (.aload_n 0, 1) := by decide +kernel
theorem dX2_keepBest_14 : decode cX2_keepBest 14 = .ok (.getfield 17, 3) := by decide +kernel
theorem dX2_keepBest_17 : decode cX2_keepBest 17 = .ok (.iconst 0, 1) := by decide +kernel
theorem dX2_keepBest_18 : decode cX2_keepBest 18 = .ok (.aload_n 0, 1) := by decide +kernel
theorem dX2_keepBest_19 : decode cX2_keepBest 19 = .ok (.getfield 21, 3) := by decide +kernel
theorem dX2_keepBest_22 : decode cX2_keepBest 22 = .ok (.iconst 0, 1) := by decide +kernel
theorem dX2_keepBest_23 : decode cX2_keepBest 23 = .ok (.iconst 5, 1) := by decide +kernel
theorem dX2_keepBest_24 : decode cX2_keepBest 24 = .ok (.invokestatic 98, 3) := by decide +kernel
theorem dX2_keepBest_27 : decode cX2_keepBest 27 = .ok (.return_, 1) := by decide +kernel
set_option maxRecDepth 20000 in
theorem ggX2_leastAlone_X2_canGo : GoodIn wsX2_leastAlone wsX2_canGo := goodIn_r _ [5, 6, 7, 8, 9, 10, 4, 11, 12, 13, 14, 15, 16, 17, 18, 19, 20, 21, 22, 23, 24, 25, 26, 27, 28, 29, 30, 31, 32, 33, 34, 35, 36, 37, 38, 39, 40, 41, 42, 50, 51, 52, 53, 54, 55, 56, 57, 58, 59, 60, 61, 62, 63, 64, 65, 66, 67, 68, 69, 70, 71, 72, 73, 74, 75, 76, 77, 78, 79, 80] (by decide +kernel) (by decide +kernel)
set_option maxRecDepth 20000 in
theorem gX2_leastAlone_X2_canGo : GoodIn wsX2_leastAlone (wsV RX2 92 RX2 yX2_canGo wsX2_canGo) := goodIn_app (goodIn_of _ (by decide +kernel)) ggX2_leastAlone_X2_canGo
set_option maxRecDepth 20000 in
theorem ggX2_leastAlone_X2_costOf : GoodIn wsX2_leastAlone wsX2_costOf := goodIn_r _ [45, 46, 47, 48, 49, 17, 18, 4, 19, 14, 15, 16] (by decide +kernel) (by decide +kernel)
set_option maxRecDepth 20000 in
theorem gX2_leastAlone_X2_costOf : GoodIn wsX2_leastAlone (va_wsS RX2 89 yX2_costOf wsX2_costOf) := goodIn_app (goodIn_of _ (by decide +kernel)) ggX2_leastAlone_X2_costOf
theorem dX2_leastAlone_0 : decode cX2_leastAlone 0 = .ok (.iconst 0, 1) := by decide +kernel
theorem dX2_leastAlone_1 : decode cX2_leastAlone 1 = .ok (.istore_n 2, 1) := by decide +kernel
theorem dX2_leastAlone_2 : decode cX2_leastAlone 2 = .ok (.iload_n 2, 1) := by decide +kernel
theorem dX2_leastAlone_3 : decode cX2_leastAlone 3 = .ok (.bipush 14, 2) := by decide +kernel
theorem dX2_leastAlone_5 : decode cX2_leastAlone 5 = .ok (.if_icmp .ge 23, 3) := by decide +kernel
theorem dX2_leastAlone_8 : decode cX2_leastAlone 8 = .ok (.aload_n 0, 1) := by decide +kernel
theorem dX2_leastAlone_9 : decode cX2_leastAlone 9 = .ok (.iload_n 1, 1) := by decide +kernel
theorem dX2_leastAlone_10 : decode cX2_leastAlone 10 = .ok (.iload_n 2, 1) := by decide +kernel
theorem dX2_leastAlone_11 : decode cX2_leastAlone 11 = .ok (.invokevirtual 92, 3) := by decide +kernel
theorem dX2_leastAlone_14 : decode cX2_leastAlone 14 = .ok (.ifCond .eq 8, 3) := by decide +kernel
theorem dX2_leastAlone_17 : decode cX2_leastAlone 17 = .ok (.iload_n 2, 1) := by decide +kernel
theorem dX2_leastAlone_18 : decode cX2_leastAlone 18 = .ok (.invokestatic 89, 3) := by decide +kernel
theorem dX2_leastAlone_21 : decode cX2_leastAlone 21 = .ok (.ireturn, 1) := by decide +kernel
theorem dX2_leastAlone_22 : decode cX2_leastAlone 22 = .ok (.iinc 2 1, 3) := by decide +kernel
theorem dX2_leastAlone_25 : decode cX2_leastAlone 25 = .ok (.goto (-23), 3) := by decide +kernel
theorem dX2_leastAlone_28 : decode cX2_leastAlone 28 = .ok (.bipush 100, 2) := by decide +kernel
theorem dX2_leastAlone_30 : decode cX2_leastAlone 30 = .ok (.ireturn, 1) := by decide +kernel
set_option maxRecDepth 20000 in
theorem ggX2_canGo_X2_hourOf : GoodIn wsX2_canGo wsX2_hourOf := goodIn_r _ [7, 8, 9, 10, 11, 12, 13, 14, 6, 15, 39, 40, 41, 42, 43, 44, 45, 46, 47, 48, 49, 50, 51, 52, 53, 54, 55, 56, 57, 58] (by decide +kernel) (by decide +kernel)
set_option maxRecDepth 20000 in
theorem gX2_canGo_X2_hourOf : GoodIn wsX2_canGo (wsV RX2 62 RX2 yX2_hourOf wsX2_hourOf) := goodIn_app (goodIn_of _ (by decide +kernel)) ggX2_canGo_X2_hourOf
set_option maxRecDepth 20000 in
theorem ggX2_canGo_X2_iceOfWay : GoodIn wsX2_canGo wsX2_iceOfWay := goodIn_r _ [19, 20, 21, 39, 40, 41, 42, 43, 44, 45, 46, 47, 48] (by decide +kernel) (by decide +kernel)
set_option maxRecDepth 20000 in
theorem gX2_canGo_X2_iceOfWay : GoodIn wsX2_canGo (wsV RX2 66 RX2 yX2_iceOfWay wsX2_iceOfWay) := goodIn_app (goodIn_of _ (by decide +kernel)) ggX2_canGo_X2_iceOfWay
set_option maxRecDepth 20000 in
theorem ggX2_canGo_X1_hasRoom : GoodIn wsX2_canGo wsX1_hasRoom := goodIn_r _ [26, 27, 28, 29, 30, 31, 32, 33, 34, 35, 36, 37, 25, 38, 59, 60, 61, 62, 63, 64, 65, 66, 67, 68, 69] (by decide +kernel) (by decide +kernel)
set_option maxRecDepth 20000 in
theorem gX2_canGo_X1_hasRoom : GoodIn wsX2_canGo (wsV RX2 104 RX1 yX1_hasRoom wsX1_hasRoom) := goodIn_app (goodIn_of _ (by decide +kernel)) ggX2_canGo_X1_hasRoom
theorem dX2_canGo_0 : decode cX2_canGo 0 = .ok (.aload_n 0, 1) := by decide +kernel
theorem dX2_canGo_1 : decode cX2_canGo 1 = .ok (.iload_n 1, 1) := by decide +kernel
theorem dX2_canGo_2 : decode cX2_canGo 2 = .ok (.iload_n 2, 1) := by decide +kernel
theorem dX2_canGo_3 : decode cX2_canGo 3 = .ok (.invokevirtual 62, 3) := by decide +kernel
theorem dX2_canGo_6 : decode cX2_canGo 6 = .ok (.istore_n 3, 1) := by decide +kernel
theorem dX2_canGo_7 : decode cX2_canGo 7 = .ok (.iload_n 3, 1) := by decide +kernel
theorem dX2_canGo_8 : decode cX2_canGo 8 = .ok (.aload_n 0, 1) := by decide +kernel
theorem dX2_canGo_9 : decode cX2_canGo 9 = .ok (.getfield 42, 3) := by decide +kernel
theorem dX2_canGo_12 : decode cX2_canGo 12 = .ok (.if_icmp .lt 23, 3) := by decide +kernel
theorem dX2_canGo_15 : decode cX2_canGo 15 = .ok (.aload_n 0, 1) := by decide +kernel
theorem dX2_canGo_16 : decode cX2_canGo 16 = .ok (.iload_n 2, 1) := by decide +kernel
theorem dX2_canGo_17 : decode cX2_canGo 17 = .ok (.invokevirtual 66, 3) := by decide +kernel
theorem dX2_canGo_20 : decode cX2_canGo 20 = .ok (.iload_n 3, 1) := by decide +kernel
theorem dX2_canGo_21 : decode cX2_canGo 21 = .ok (.aload_n 0, 1) := by decide +kernel
theorem dX2_canGo_22 : decode cX2_canGo 22 = .ok (.getfield 45, 3) := by decide +kernel
theorem dX2_canGo_25 : decode cX2_canGo 25 = .ok (.invokevirtual 104, 3) := by decide +kernel
theorem dX2_canGo_28 : decode cX2_canGo 28 = .ok (.ifCond .eq 7, 3) := by decide +kernel
theorem dX2_canGo_31 : decode cX2_canGo 31 = .ok (.iconst 1, 1) := by decide +kernel
theorem dX2_canGo_32 : decode cX2_canGo 32 = .ok (.goto 4, 3) := by decide +kernel
theorem dX2_canGo_35 : decode cX2_canGo 35 = .ok (.iconst 0, 1) := by decide +kernel
theorem dX2_canGo_36 : decode cX2_canGo 36 = .ok (.ireturn, 1) := by decide +kernel
set_option maxRecDepth 20000 in
theorem ggX2_hourOf_X8_isBelow : GoodIn wsX2_hourOf wsX8_isBelow := goodIn_r _ [5] (by decide +kernel) (by decide +kernel)
set_option maxRecDepth 20000 in
theorem gX2_hourOf_X8_isBelow_n38 : GoodIn wsX2_hourOf (wsX8_isBelow) := ggX2_hourOf_X8_isBelow
set_option maxRecDepth 20000 in
theorem ggX2_hourOf_X2_shiftOf : GoodIn wsX2_hourOf wsX2_shiftOf := goodIn_r _ [9, 3, 4, 5] (by decide +kernel) (by decide +kernel)
set_option maxRecDepth 20000 in
theorem gX2_hourOf_X2_shiftOf : GoodIn wsX2_hourOf (va_wsS RX2 110 yX2_shiftOf wsX2_shiftOf) := goodIn_app (goodIn_of _ (by decide +kernel)) ggX2_hourOf_X2_shiftOf
theorem dX2_hourOf_0 : decode cX2_hourOf 0 = .ok (.iload_n 1, 1) := by decide +kernel
theorem dX2_hourOf_1 : decode cX2_hourOf 1 = .ok (.iconst 5, 1) := by decide +kernel
theorem dX2_hourOf_2 : decode cX2_hourOf 2 = .ok (.invokestatic 38, 3) := by decide +kernel
theorem dX2_hourOf_5 : decode cX2_hourOf 5 = .ok (.ifCond .eq 12, 3) := by decide +kernel
theorem dX2_hourOf_8 : decode cX2_hourOf 8 = .ok (.aload_n 0, 1) := by decide +kernel
theorem dX2_hourOf_9 : decode cX2_hourOf 9 = .ok (.getfield 11, 3) := by decide +kernel
theorem dX2_hourOf_12 : decode cX2_hourOf 12 = .ok (.iload_n 1, 1) := by decide +kernel
theorem dX2_hourOf_13 : decode cX2_hourOf 13 = .ok (.aaload, 1) := by decide +kernel
theorem dX2_hourOf_14 : decode cX2_hourOf 14 = .ok (.goto 4, 3) := by decide +kernel
theorem dX2_hourOf_17 : decode cX2_hourOf 17 = .ok (.aconst_null, 1) := by decide +kernel
theorem dX2_hourOf_18 : decode cX2_hourOf 18 = .ok (.astore_n 3, 1) := by decide +kernel
theorem dX2_hourOf_19 : decode cX2_hourOf 19 = .ok (.aload_n 3, 1) := by decide +kernel
theorem dX2_hourOf_20 : decode cX2_hourOf 20 = .ok (.ifnonnull 7, 3) := by decide +kernel
theorem dX2_hourOf_23 : decode cX2_hourOf 23 = .ok (.iconst (-1), 1) := by decide +kernel
theorem dX2_hourOf_24 : decode cX2_hourOf 24 = .ok (.goto 12, 3) := by decide +kernel
theorem dX2_hourOf_27 : decode cX2_hourOf 27 = .ok (.aload_n 3, 1) := by decide +kernel
theorem dX2_hourOf_28 : decode cX2_hourOf 28 = .ok (.getfield 107, 3) := by decide +kernel
theorem dX2_hourOf_31 : decode cX2_hourOf 31 = .ok (.iload_n 2, 1) := by decide +kernel
theorem dX2_hourOf_32 : decode cX2_hourOf 32 = .ok (.invokestatic 110, 3) := by decide +kernel
theorem dX2_hourOf_35 : decode cX2_hourOf 35 = .ok (.iadd, 1) := by decide +kernel
theorem dX2_hourOf_36 : decode cX2_hourOf 36 = .ok (.ireturn, 1) := by decide +kernel
theorem dX2_iceOfWay_0 : decode cX2_iceOfWay 0 = .ok (.iload_n 1, 1) := by decide +kernel
theorem dX2_iceOfWay_1 : decode cX2_iceOfWay 1 = .ok (.iconst 2, 1) := by decide +kernel
theorem dX2_iceOfWay_2 : decode cX2_iceOfWay 2 = .ok (.irem, 1) := by decide +kernel
theorem dX2_iceOfWay_3 : decode cX2_iceOfWay 3 = .ok (.ifCond .ne 10, 3) := by decide +kernel
theorem dX2_iceOfWay_6 : decode cX2_iceOfWay 6 = .ok (.aload_n 0, 1) := by decide +kernel
theorem dX2_iceOfWay_7 : decode cX2_iceOfWay 7 = .ok (.getfield 27, 3) := by decide +kernel
theorem dX2_iceOfWay_10 : decode cX2_iceOfWay 10 = .ok (.goto 7, 3) := by decide +kernel
theorem dX2_iceOfWay_13 : decode cX2_iceOfWay 13 = .ok (.aload_n 0, 1) := by decide +kernel
theorem dX2_iceOfWay_14 : decode cX2_iceOfWay 14 = .ok (.getfield 31, 3) := by decide +kernel
theorem dX2_iceOfWay_17 : decode cX2_iceOfWay 17 = .ok (.areturn, 1) := by decide +kernel
set_option maxRecDepth 20000 in
theorem ggX2_shiftOf_X8_isBelow : GoodIn wsX2_shiftOf wsX8_isBelow := goodIn_r _ [3] (by decide +kernel) (by decide +kernel)
set_option maxRecDepth 20000 in
theorem gX2_shiftOf_X8_isBelow_n38 : GoodIn wsX2_shiftOf (wsX8_isBelow) := ggX2_shiftOf_X8_isBelow
theorem dX2_shiftOf_0 : decode cX2_shiftOf 0 = .ok (.iload_n 0, 1) := by decide +kernel
theorem dX2_shiftOf_1 : decode cX2_shiftOf 1 = .ok (.iconst 2, 1) := by decide +kernel
theorem dX2_shiftOf_2 : decode cX2_shiftOf 2 = .ok (.idiv, 1) := by decide +kernel
theorem dX2_shiftOf_3 : decode cX2_shiftOf 3 = .ok (.istore_n 1, 1) := by decide +kernel
theorem dX2_shiftOf_4 : decode cX2_shiftOf 4 = .ok (.iload_n 1, 1) := by decide +kernel
theorem dX2_shiftOf_5 : decode cX2_shiftOf 5 = .ok (.getstatic 113, 3) := by decide +kernel
theorem dX2_shiftOf_8 : decode cX2_shiftOf 8 = .ok (.arraylength, 1) := by decide +kernel
theorem dX2_shiftOf_9 : decode cX2_shiftOf 9 = .ok (.invokestatic 38, 3) := by decide +kernel
theorem dX2_shiftOf_12 : decode cX2_shiftOf 12 = .ok (.ifCond .eq 11, 3) := by decide +kernel
theorem dX2_shiftOf_15 : decode cX2_shiftOf 15 = .ok (.getstatic 113, 3) := by decide +kernel
theorem dX2_shiftOf_18 : decode cX2_shiftOf 18 = .ok (.iload_n 1, 1) := by decide +kernel
theorem dX2_shiftOf_19 : decode cX2_shiftOf 19 = .ok (.iaload, 1) := by decide +kernel
theorem dX2_shiftOf_20 : decode cX2_shiftOf 20 = .ok (.goto 4, 3) := by decide +kernel
theorem dX2_shiftOf_23 : decode cX2_shiftOf 23 = .ok (.iconst 0, 1) := by decide +kernel
theorem dX2_shiftOf_24 : decode cX2_shiftOf 24 = .ok (.ireturn, 1) := by decide +kernel
set_option maxRecDepth 20000 in
theorem ggX2_costOf_X2_shiftOf : GoodIn wsX2_costOf wsX2_shiftOf := goodIn_r _ [8, 9, 10, 11] (by decide +kernel) (by decide +kernel)
set_option maxRecDepth 20000 in
theorem gX2_costOf_X2_shiftOf : GoodIn wsX2_costOf (va_wsS RX2 110 yX2_shiftOf wsX2_shiftOf) := goodIn_app (goodIn_of _ (by decide +kernel)) ggX2_costOf_X2_shiftOf
theorem dX2_costOf_0 : decode cX2_costOf 0 = .ok (.iload_n 0, 1) := by decide +kernel
theorem dX2_costOf_1 : decode cX2_costOf 1 = .ok (.bipush 14, 2) := by decide +kernel
theorem dX2_costOf_3 : decode cX2_costOf 3 = .ok (.if_icmp .ne 8, 3) := by decide +kernel
theorem dX2_costOf_6 : decode cX2_costOf 6 = .ok (.bipush 100, 2) := by decide +kernel
theorem dX2_costOf_8 : decode cX2_costOf 8 = .ok (.goto 10, 3) := by decide +kernel
theorem dX2_costOf_11 : decode cX2_costOf 11 = .ok (.iload_n 0, 1) := by decide +kernel
theorem dX2_costOf_12 : decode cX2_costOf 12 = .ok (.invokestatic 110, 3) := by decide +kernel
theorem dX2_costOf_15 : decode cX2_costOf 15 = .ok (.invokestatic 116, 3) := by decide +kernel
theorem dX2_costOf_18 : decode cX2_costOf 18 = .ok (.ireturn, 1) := by decide +kernel
theorem dX3_init_0 : decode cX3_init 0 = .ok (.aload_n 0, 1) := by decide +kernel
theorem dX3_init_1 : decode cX3_init 1 = .ok (.invokespecial 3, 3) := by decide +kernel
theorem dX3_init_4 : decode cX3_init 4 = .ok (.aload_n 0, 1) := by decide +kernel
theorem dX3_init_5 : decode cX3_init 5 = .ok (.bipush 9, 2) := by decide +kernel
theorem dX3_init_7 : decode cX3_init 7 = .ok (.newarray .int, 2) := by decide +kernel
theorem dX3_init_9 : decode cX3_init 9 = .ok (.putfield 9, 3) := by decide +kernel
theorem dX3_init_12 : decode cX3_init 12 = .ok (.aload_n 0, 1) := by decide +kernel
theorem dX3_init_13 : decode cX3_init 13 = .ok (.bipush 8, 2) := by decide +kernel
theorem dX3_init_15 : decode cX3_init 15 = .ok (.newarray .int, 2) := by decide +kernel
theorem dX3_init_17 : decode cX3_init 17 = .ok (.putfield 15, 3) := by decide +kernel
theorem dX3_init_20 : decode cX3_init 20 = .ok (.aload_n 0, 1) := by decide +kernel
theorem dX3_init_21 : decode cX3_init 21 = .ok (.sipush 225, 3) := by decide +kernel
theorem dX3_init_24 : decode cX3_init 24 = .ok (.newarray .int, 2) := by decide +kernel
theorem dX3_init_26 : decode cX3_init 26 = .ok (.putfield 18, 3) := by decide +kernel
theorem dX3_init_29 : decode cX3_init 29 = .ok (.aload_n 0, 1) := by decide +kernel
theorem dX3_init_30 : decode cX3_init 30 = .ok (.bipush 8, 2) := by decide +kernel
theorem dX3_init_32 : decode cX3_init 32 = .ok (.newarray .int, 2) := by decide +kernel
theorem dX3_init_34 : decode cX3_init 34 = .ok (.putfield 21, 3) := by decide +kernel
theorem dX3_init_37 : decode cX3_init 37 = .ok (.aload_n 0, 1) := by decide +kernel
theorem dX3_init_38 : decode cX3_init 38 = .ok (.iconst 0, 1) := by decide +kernel
theorem dX3_init_39 : decode cX3_init 39 = .ok (.putfield 24, 3) := by decide +kernel
theorem dX3_init_42 : decode cX3_init 42 = .ok (.return_, 1) := by decide +kernel
theorem dX3_begin_0 : decode cX3_begin 0 = .ok (.aload_n 0, 1) := by decide +kernel
theorem dX3_begin_1 : decode cX3_begin 1 = .ok (.iconst 0, 1) := by decide +kernel
theorem dX3_begin_2 : decode cX3_begin 2 = .ok (.putfield 28, 3) := by decide +kernel
theorem dX3_begin_5 : decode cX3_begin 5 = .ok (.return_, 1) := by decide +kernel
set_option maxRecDepth 20000 in
theorem ggX3_addHour_X8_isBelow : GoodIn wsX3_addHour wsX8_isBelow := goodIn_r _ [6] (by decide +kernel) (by decide +kernel)
set_option maxRecDepth 20000 in
theorem gX3_addHour_X8_isBelow_n31 : GoodIn wsX3_addHour (wsX8_isBelow) := ggX3_addHour_X8_isBelow
theorem dX3_addHour_0 : decode cX3_addHour 0 = .ok (.aload_n 0, 1) := by decide +kernel
theorem dX3_addHour_1 : decode cX3_addHour 1 = .ok (.getfield 28, 3) := by decide +kernel
theorem dX3_addHour_4 : decode cX3_addHour 4 = .ok (.bipush 8, 2) := by decide +kernel
theorem dX3_addHour_6 : decode cX3_addHour 6 = .ok (.invokestatic 31, 3) := by decide +kernel
theorem dX3_addHour_9 : decode cX3_addHour 9 = .ok (.ifCond .eq 45, 3) := by decide +kernel
theorem dX3_addHour_12 : decode cX3_addHour 12 = .ok (.aload_n 0, 1) := by decide +kernel
theorem dX3_addHour_13 : decode cX3_addHour 13 = .ok (.getfield 15, 3) := by decide +kernel
theorem dX3_addHour_16 : decode cX3_addHour 16 = .ok (.aload_n 0, 1) := by decide +kernel
theorem dX3_addHour_17 : decode cX3_addHour 17 = .ok (.getfield 28, 3) := by decide +kernel
theorem dX3_addHour_20 : decode cX3_addHour 20 = .ok (.iload_n 2, 1) := by decide +kernel
theorem dX3_addHour_21 : decode cX3_addHour 21 = .ok (.iastore, 1) := by decide +kernel
theorem dX3_addHour_22 : decode cX3_addHour 22 = .ok (.aload_n 0, 1) := by decide +kernel
theorem dX3_addHour_23 : decode cX3_addHour 23 = .ok (.getfield 9, 3) := by decide +kernel
theorem dX3_addHour_26 : decode cX3_addHour 26 = .ok (.aload_n 0, 1) := by decide +kernel
theorem dX3_addHour_27 : decode cX3_addHour 27 = .ok (.getfield 28, 3) := by decide +kernel
theorem dX3_addHour_30 : decode cX3_addHour 30 = .ok (.iconst 1, 1) := by decide +kernel
theorem dX3_addHour_31 : decode cX3_addHour 31 = .ok (.iadd, 1) := by decide +kernel
theorem dX3_addHour_32 : decode cX3_addHour 32 = .ok (.aload_n 0, 1) := by decide +kernel
theorem dX3_addHour_33 : decode cX3_addHour 33 = .ok (.getfield 9, 3) := by decide +kernel
theorem dX3_addHour_36 : decode cX3_addHour 36 = .ok (.aload_n 0, 1) := by decide +kernel
theorem dX3_addHour_37 : decode cX3_addHour 37 = .ok (.getfield 28, 3) := by decide +kernel
theorem dX3_addHour_40 : decode cX3_addHour 40 = .ok (.iaload, 1) := by decide +kernel
theorem dX3_addHour_41 : decode cX3_addHour 41 = .ok (.iload_n 1, 1) := by decide +kernel
theorem dX3_addHour_42 : decode cX3_addHour 42 = .ok (.iadd, 1) := by decide +kernel
theorem dX3_addHour_43 : decode cX3_addHour 43 = .ok (.iastore, 1) := by decide +kernel
theorem dX3_addHour_44 : decode cX3_addHour 44 = .ok (.aload_n 0, 1) := by decide +kernel
theorem dX3_addHour_45 : decode cX3_addHour 45 = .ok (.dup, 1) := by decide +kernel
theorem dX3_addHour_46 : decode cX3_addHour 46 = .ok (.getfield 28, 3) := by decide +kernel
theorem dX3_addHour_49 : decode cX3_addHour 49 = .ok (.iconst 1, 1) := by decide +kernel
theorem dX3_addHour_50 : decode cX3_addHour 50 = .ok (.iadd, 1) := by decide +kernel
theorem dX3_addHour_51 : decode cX3_addHour 51 = .ok (.putfield 28, 3) := by decide +kernel
theorem dX3_addHour_54 : decode cX3_addHour 54 = .ok (.return_, 1) := by decide +kernel
set_option maxRecDepth 20000 in
theorem ggX3_solve_X3_leastOver : GoodIn wsX3_solve wsX3_leastOver := goodIn_r _ [11, 6, 3, 12, 13, 14, 15, 16, 17, 18, 10, 19, 1, 20, 2, 4, 21, 22, 23, 24, 35, 36, 37, 38, 39, 40, 41, 42, 43] (by decide +kernel) (by decide +kernel)
set_option maxRecDepth 20000 in
theorem gX3_solve_X3_leastOver : GoodIn wsX3_solve (wsV RX3 44 RX3 yX3_leastOver wsX3_leastOver) := goodIn_app (goodIn_of _ (by decide +kernel)) ggX3_solve_X3_leastOver
set_option maxRecDepth 20000 in
theorem ggX3_solve_X3_keepRow : GoodIn wsX3_solve wsX3_keepRow := goodIn_r _ [28, 5, 29, 30, 31, 32, 33, 10, 34, 3, 7, 8, 9, 11, 6, 12, 13, 14, 15, 16, 17, 18, 19, 1, 20, 2, 4, 21, 22, 23, 24, 35, 36, 37, 38, 39, 40, 41, 42, 43] (by decide +kernel) (by decide +kernel)
set_option maxRecDepth 20000 in
theorem gX3_solve_X3_keepRow : GoodIn wsX3_solve (wsV RX3 49 RX3 yX3_keepRow wsX3_keepRow) := goodIn_app (goodIn_of _ (by decide +kernel)) ggX3_solve_X3_keepRow
theorem dX3_solve_0 : decode cX3_solve 0 = .ok (.aload_n 0, 1) := by decide +kernel
theorem dX3_solve_1 : decode cX3_solve 1 = .ok (.iload_n 1, 1) := by decide +kernel
theorem dX3_solve_2 : decode cX3_solve 2 = .ok (.putfield 35, 3) := by decide +kernel
theorem dX3_solve_5 : decode cX3_solve 5 = .ok (.aload_n 0, 1) := by decide +kernel
theorem dX3_solve_6 : decode cX3_solve 6 = .ok (.iload_n 2, 1) := by decide +kernel
theorem dX3_solve_7 : decode cX3_solve 7 = .ok (.putfield 38, 3) := by decide +kernel
theorem dX3_solve_10 : decode cX3_solve 10 = .ok (.aload_n 0, 1) := by decide +kernel
theorem dX3_solve_11 : decode cX3_solve 11 = .ok (.iload_n 3, 1) := by decide +kernel
theorem dX3_solve_12 : decode cX3_solve 12 = .ok (.putfield 41, 3) := by decide +kernel
theorem dX3_solve_15 : decode cX3_solve 15 = .ok (.iconst 0, 1) := by decide +kernel
theorem dX3_solve_16 : decode cX3_solve 16 = .ok (.istore 4, 2) := by decide +kernel
theorem dX3_solve_18 : decode cX3_solve 18 = .ok (.iload 4, 2) := by decide +kernel
theorem dX3_solve_20 : decode cX3_solve 20 = .ok (.bipush 25, 2) := by decide +kernel
theorem dX3_solve_22 : decode cX3_solve 22 = .ok (.if_icmp .ge 25, 3) := by decide +kernel
theorem dX3_solve_25 : decode cX3_solve 25 = .ok (.aload_n 0, 1) := by decide +kernel
theorem dX3_solve_26 : decode cX3_solve 26 = .ok (.getfield 18, 3) := by decide +kernel
theorem dX3_solve_29 : decode cX3_solve 29 = .ok (.aload_n 0, 1) := by decide +kernel
theorem dX3_solve_30 : decode cX3_solve 30 = .ok (.getfield 28, 3) := by decide +kernel
theorem dX3_solve_33 : decode cX3_solve 33 = .ok (.bipush 25, 2) := by decide +kernel
theorem dX3_solve_35 : decode cX3_solve 35 = .ok (.imul, 1) := by decide +kernel
theorem dX3_solve_36 : decode cX3_solve 36 = .ok (.iload 4, 2) := by decide +kernel
theorem dX3_solve_38 : decode cX3_solve 38 = .ok (.iadd, 1) := by decide +kernel
theorem dX3_solve_39 : decode cX3_solve 39 = .ok (.iconst 0, 1) := by decide +kernel
theorem dX3_solve_40 : decode cX3_solve 40 = .ok (.iastore, 1) := by decide +kernel
theorem dX3_solve_41 : decode cX3_solve 41 = .ok (.iinc 4 1, 3) := by decide +kernel
theorem dX3_solve_44 : decode cX3_solve 44 = .ok (.goto (-26), 3) := by decide +kernel
theorem dX3_solve_47 : decode cX3_solve 47 = .ok (.aload_n 0, 1) := by decide +kernel
theorem dX3_solve_48 : decode cX3_solve 48 = .ok (.getfield 28, 3) := by decide +kernel
theorem dX3_solve_51 : decode cX3_solve 51 = .ok (.iconst 1, 1) := by decide +kernel
theorem dX3_solve_52 : decode cX3_solve 52 = .ok (.isub, 1) := by decide +kernel
theorem dX3_solve_53 : decode cX3_solve 53 = .ok (.istore 4, 2) := by decide +kernel
theorem dX3_solve_55 : decode cX3_solve 55 = .ok (.iload 4, 2) := by decide +kernel
theorem dX3_solve_57 : decode cX3_solve 57 = .ok (.ifCond .lt 48, 3) := by decide +kernel
theorem dX3_solve_60 : decode cX3_solve 60 = .ok (.iconst 0, 1) := by decide +kernel
theorem dX3_solve_61 : decode cX3_solve 61 = .ok (.istore 5, 2) := by decide +kernel
theorem dX3_solve_63 : decode cX3_solve 63 = .ok (.iload 5, 2) := by decide +kernel
theorem dX3_solve_65 : decode cX3_solve 65 = .ok (.iload 4, 2) := by decide +kernel
theorem dX3_solve_67 : decode cX3_solve 67 = .ok (.iconst 3, 1) := by decide +kernel
theorem dX3_solve_68 : decode cX3_solve 68 = .ok (.imul, 1) := by decide +kernel
theorem dX3_solve_69 : decode cX3_solve 69 = .ok (.if_icmp .gt 30, 3) := by decide +kernel
theorem dX3_solve_72 : decode cX3_solve 72 = .ok (.aload_n 0, 1) := by decide +kernel
theorem dX3_solve_73 : decode cX3_solve 73 = .ok (.getfield 18, 3) := by decide +kernel
theorem dX3_solve_76 : decode cX3_solve 76 = .ok (.iload 4, 2) := by decide +kernel
theorem dX3_solve_78 : decode cX3_solve 78 = .ok (.bipush 25, 2) := by decide +kernel
theorem dX3_solve_80 : decode cX3_solve 80 = .ok (.imul, 1) := by decide +kernel
theorem dX3_solve_81 : decode cX3_solve 81 = .ok (.iload 5, 2) := by decide +kernel
theorem dX3_solve_83 : decode cX3_solve 83 = .ok (.iadd, 1) := by decide +kernel
theorem dX3_solve_84 : decode cX3_solve 84 = .ok (.aload_n 0, 1) := by decide +kernel
theorem dX3_solve_85 : decode cX3_solve 85 = .ok (.iload 4, 2) := by decide +kernel
theorem dX3_solve_87 : decode cX3_solve 87 = .ok (.iload 5, 2) := by decide +kernel
theorem dX3_solve_89 : decode cX3_solve 89 = .ok (.invokevirtual 44, 3) := by decide +kernel
theorem dX3_solve_92 : decode cX3_solve 92 = .ok (.iastore, 1) := by decide +kernel
theorem dX3_solve_93 : decode cX3_solve 93 = .ok (.iinc 5 1, 3) := by decide +kernel
theorem dX3_solve_96 : decode cX3_solve 96 = .ok (.goto (-33), 3) := by decide +kernel
theorem dX3_solve_99 : decode cX3_solve 99 = .ok (.iinc 4 (-1), 3) := by decide +kernel
theorem dX3_solve_102 : decode cX3_solve 102 = .ok (.goto (-47), 3) := by decide +kernel
theorem dX3_solve_105 : decode cX3_solve 105 = .ok (.aload_n 0, 1) := by decide +kernel
theorem dX3_solve_106 : decode cX3_solve 106 = .ok (.getfield 18, 3) := by decide +kernel
theorem dX3_solve_109 : decode cX3_solve 109 = .ok (.iconst 0, 1) := by decide +kernel
theorem dX3_solve_110 : decode cX3_solve 110 = .ok (.iaload, 1) := by decide +kernel
theorem dX3_solve_111 : decode cX3_solve 111 = .ok (.ldc 48, 2) := by decide +kernel
theorem dX3_solve_113 : decode cX3_solve 113 = .ok (.if_icmp .lt 5, 3) := by decide +kernel
theorem dX3_solve_116 : decode cX3_solve 116 = .ok (.iconst (-1), 1) := by decide +kernel
theorem dX3_solve_117 : decode cX3_solve 117 = .ok (.ireturn, 1) := by decide +kernel
theorem dX3_solve_118 : decode cX3_solve 118 = .ok (.aload_n 0, 1) := by decide +kernel
theorem dX3_solve_119 : decode cX3_solve 119 = .ok (.invokevirtual 49, 3) := by decide +kernel
theorem dX3_solve_122 : decode cX3_solve 122 = .ok (.aload_n 0, 1) := by decide +kernel
theorem dX3_solve_123 : decode cX3_solve 123 = .ok (.getfield 18, 3) := by decide +kernel
theorem dX3_solve_126 : decode cX3_solve 126 = .ok (.iconst 0, 1) := by decide +kernel
theorem dX3_solve_127 : decode cX3_solve 127 = .ok (.iaload, 1) := by decide +kernel
theorem dX3_solve_128 : decode cX3_solve 128 = .ok (.bipush 100, 2) := by decide +kernel
theorem dX3_solve_130 : decode cX3_solve 130 = .ok (.idiv, 1) := by decide +kernel
theorem dX3_solve_131 : decode cX3_solve 131 = .ok (.ireturn, 1) := by decide +kernel
set_option maxRecDepth 20000 in
theorem ggX3_leastOver_X3_weightWith : GoodIn wsX3_leastOver wsX3_weightWith := goodIn_r _ [11, 12, 13, 14, 1, 15, 16, 17, 18, 19, 20, 21, 22, 23, 24, 25, 26, 27, 28] (by decide +kernel) (by decide +kernel)
set_option maxRecDepth 20000 in
theorem gX3_leastOver_X3_weightWith : GoodIn wsX3_leastOver (wsV RX3 52 RX3 yX3_weightWith wsX3_weightWith) := goodIn_app (goodIn_of _ (by decide +kernel)) ggX3_leastOver_X3_weightWith
theorem dX3_leastOver_0 : decode cX3_leastOver 0 = .ok (.ldc 48, 2) := by decide +kernel
theorem dX3_leastOver_2 : decode cX3_leastOver 2 = .ok (.istore_n 3, 1) := by decide +kernel
theorem dX3_leastOver_3 : decode cX3_leastOver 3 = .ok (.iconst 0, 1) := by decide +kernel
theorem dX3_leastOver_4 : decode cX3_leastOver 4 = .ok (.istore 4, 2) := by decide +kernel
theorem dX3_leastOver_6 : decode cX3_leastOver 6 = .ok (.iload 4, 2) := by decide +kernel
theorem dX3_leastOver_8 : decode cX3_leastOver 8 = .ok (.aload_n 0, 1) := by decide +kernel
theorem dX3_leastOver_9 : decode cX3_leastOver 9 = .ok (.getfield 41, 3) := by decide +kernel
theorem dX3_leastOver_12 : decode cX3_leastOver 12 = .ok (.if_icmp .gt 22, 3) := by decide +kernel
theorem dX3_leastOver_15 : decode cX3_leastOver 15 = .ok (.iload_n 3, 1) := by decide +kernel
theorem dX3_leastOver_16 : decode cX3_leastOver 16 = .ok (.aload_n 0, 1) := by decide +kernel
theorem dX3_leastOver_17 : decode cX3_leastOver 17 = .ok (.iload_n 1, 1) := by decide +kernel
theorem dX3_leastOver_18 : decode cX3_leastOver 18 = .ok (.iload_n 2, 1) := by decide +kernel
theorem dX3_leastOver_19 : decode cX3_leastOver 19 = .ok (.iload 4, 2) := by decide +kernel
theorem dX3_leastOver_21 : decode cX3_leastOver 21 = .ok (.invokevirtual 52, 3) := by decide +kernel
theorem dX3_leastOver_24 : decode cX3_leastOver 24 = .ok (.invokestatic 56, 3) := by decide +kernel
theorem dX3_leastOver_27 : decode cX3_leastOver 27 = .ok (.istore_n 3, 1) := by decide +kernel
theorem dX3_leastOver_28 : decode cX3_leastOver 28 = .ok (.iinc 4 1, 3) := by decide +kernel
theorem dX3_leastOver_31 : decode cX3_leastOver 31 = .ok (.goto (-25), 3) := by decide +kernel
theorem dX3_leastOver_34 : decode cX3_leastOver 34 = .ok (.iload_n 3, 1) := by decide +kernel
theorem dX3_leastOver_35 : decode cX3_leastOver 35 = .ok (.ireturn, 1) := by decide +kernel
set_option maxRecDepth 20000 in
theorem ggX3_keepRow_X3_leastOn : GoodIn wsX3_keepRow wsX3_leastOn := goodIn_r _ [8, 9, 10, 11, 12, 7, 13, 14, 15, 16, 17, 18, 19, 20, 21, 22, 23, 24, 25, 26, 27, 28, 29, 30, 31, 32, 33, 34, 35, 36, 37, 38, 39] (by decide +kernel) (by decide +kernel)
set_option maxRecDepth 20000 in
theorem gX3_keepRow_X3_leastOn : GoodIn wsX3_keepRow (wsV RX3 61 RX3 yX3_leastOn wsX3_leastOn) := goodIn_app (goodIn_of _ (by decide +kernel)) ggX3_keepRow_X3_leastOn
theorem dX3_keepRow_0 : decode cX3_keepRow 0 = .ok (.aload_n 0, 1) := by decide +kernel
theorem dX3_keepRow_1 : decode cX3_keepRow 1 = .ok (.aload_n 0, 1) := by decide +kernel
theorem dX3_keepRow_2 : decode cX3_keepRow 2 = .ok (.getfield 28, 3) := by decide +kernel
theorem dX3_keepRow_5 : decode cX3_keepRow 5 = .ok (.putfield 24, 3) := by decide +kernel
theorem dX3_keepRow_8 : decode cX3_keepRow 8 = .ok (.iconst 0, 1) := by decide +kernel
theorem dX3_keepRow_9 : decode cX3_keepRow 9 = .ok (.istore_n 1, 1) := by decide +kernel
theorem dX3_keepRow_10 : decode cX3_keepRow 10 = .ok (.iconst 0, 1) := by decide +kernel
theorem dX3_keepRow_11 : decode cX3_keepRow 11 = .ok (.istore_n 2, 1) := by decide +kernel
theorem dX3_keepRow_12 : decode cX3_keepRow 12 = .ok (.iload_n 2, 1) := by decide +kernel
theorem dX3_keepRow_13 : decode cX3_keepRow 13 = .ok (.aload_n 0, 1) := by decide +kernel
theorem dX3_keepRow_14 : decode cX3_keepRow 14 = .ok (.getfield 28, 3) := by decide +kernel
theorem dX3_keepRow_17 : decode cX3_keepRow 17 = .ok (.if_icmp .ge 27, 3) := by decide +kernel
theorem dX3_keepRow_20 : decode cX3_keepRow 20 = .ok (.aload_n 0, 1) := by decide +kernel
theorem dX3_keepRow_21 : decode cX3_keepRow 21 = .ok (.iload_n 2, 1) := by decide +kernel
theorem dX3_keepRow_22 : decode cX3_keepRow 22 = .ok (.iload_n 1, 1) := by decide +kernel
theorem dX3_keepRow_23 : decode cX3_keepRow 23 = .ok (.invokevirtual 61, 3) := by decide +kernel
theorem dX3_keepRow_26 : decode cX3_keepRow 26 = .ok (.istore_n 3, 1) := by decide +kernel
theorem dX3_keepRow_27 : decode cX3_keepRow 27 = .ok (.aload_n 0, 1) := by decide +kernel
theorem dX3_keepRow_28 : decode cX3_keepRow 28 = .ok (.getfield 21, 3) := by decide +kernel
theorem dX3_keepRow_31 : decode cX3_keepRow 31 = .ok (.iload_n 2, 1) := by decide +kernel
theorem dX3_keepRow_32 : decode cX3_keepRow 32 = .ok (.iload_n 3, 1) := by decide +kernel
theorem dX3_keepRow_33 : decode cX3_keepRow 33 = .ok (.iastore, 1) := by decide +kernel
theorem dX3_keepRow_34 : decode cX3_keepRow 34 = .ok (.iload_n 1, 1) := by decide +kernel
theorem dX3_keepRow_35 : decode cX3_keepRow 35 = .ok (.iload_n 3, 1) := by decide +kernel
theorem dX3_keepRow_36 : decode cX3_keepRow 36 = .ok (.iadd, 1) := by decide +kernel
theorem dX3_keepRow_37 : decode cX3_keepRow 37 = .ok (.istore_n 1, 1) := by decide +kernel
theorem dX3_keepRow_38 : decode cX3_keepRow 38 = .ok (.iinc 2 1, 3) := by decide +kernel
theorem dX3_keepRow_41 : decode cX3_keepRow 41 = .ok (.goto (-29), 3) := by decide +kernel
theorem dX3_keepRow_44 : decode cX3_keepRow 44 = .ok (.return_, 1) := by decide +kernel
set_option maxRecDepth 20000 in
theorem ggX3_leastOn_X3_leastOver : GoodIn wsX3_leastOn wsX3_leastOver := goodIn_r _ [6, 7, 1, 8, 9, 10, 11, 12, 13, 14, 5, 15, 16, 17, 18, 19, 20, 21, 22, 23, 24, 25, 26, 27, 28, 29, 30, 31, 32] (by decide +kernel) (by decide +kernel)
set_option maxRecDepth 20000 in
theorem gX3_leastOn_X3_leastOver : GoodIn wsX3_leastOn (wsV RX3 44 RX3 yX3_leastOver wsX3_leastOver) := goodIn_app (goodIn_of _ (by decide +kernel)) ggX3_leastOn_X3_leastOver
set_option maxRecDepth 20000 in
theorem ggX3_leastOn_X3_weightWith : GoodIn wsX3_leastOn wsX3_weightWith := goodIn_r _ [15, 16, 17, 18, 7, 19, 20, 21, 22, 23, 24, 25, 26, 27, 28, 29, 30, 31, 32] (by decide +kernel) (by decide +kernel)
set_option maxRecDepth 20000 in
theorem gX3_leastOn_X3_weightWith : GoodIn wsX3_leastOn (wsV RX3 52 RX3 yX3_weightWith wsX3_weightWith) := goodIn_app (goodIn_of _ (by decide +kernel)) ggX3_leastOn_X3_weightWith
theorem dX3_leastOn_0 : decode cX3_leastOn 0 = .ok (.aload_n 0, 1) := by decide +kernel
theorem dX3_leastOn_1 : decode cX3_leastOn 1 = .ok (.iload_n 1, 1) := by decide +kernel
theorem dX3_leastOn_2 : decode cX3_leastOn 2 = .ok (.iload_n 2, 1) := by decide +kernel
theorem dX3_leastOn_3 : decode cX3_leastOn 3 = .ok (.invokevirtual 44, 3) := by decide +kernel
theorem dX3_leastOn_6 : decode cX3_leastOn 6 = .ok (.istore_n 3, 1) := by decide +kernel
theorem dX3_leastOn_7 : decode cX3_leastOn 7 = .ok (.iconst 0, 1) := by decide +kernel
theorem dX3_leastOn_8 : decode cX3_leastOn 8 = .ok (.istore 4, 2) := by decide +kernel
theorem dX3_leastOn_10 : decode cX3_leastOn 10 = .ok (.iload 4, 2) := by decide +kernel
theorem dX3_leastOn_12 : decode cX3_leastOn 12 = .ok (.aload_n 0, 1) := by decide +kernel
theorem dX3_leastOn_13 : decode cX3_leastOn 13 = .ok (.getfield 41, 3) := by decide +kernel
theorem dX3_leastOn_16 : decode cX3_leastOn 16 = .ok (.if_icmp .ge 24, 3) := by decide +kernel
theorem dX3_leastOn_19 : decode cX3_leastOn 19 = .ok (.aload_n 0, 1) := by decide +kernel
theorem dX3_leastOn_20 : decode cX3_leastOn 20 = .ok (.iload_n 1, 1) := by decide +kernel
theorem dX3_leastOn_21 : decode cX3_leastOn 21 = .ok (.iload_n 2, 1) := by decide +kernel
theorem dX3_leastOn_22 : decode cX3_leastOn 22 = .ok (.iload 4, 2) := by decide +kernel
theorem dX3_leastOn_24 : decode cX3_leastOn 24 = .ok (.invokevirtual 52, 3) := by decide +kernel
theorem dX3_leastOn_27 : decode cX3_leastOn 27 = .ok (.iload_n 3, 1) := by decide +kernel
theorem dX3_leastOn_28 : decode cX3_leastOn 28 = .ok (.if_icmp .ne 6, 3) := by decide +kernel
theorem dX3_leastOn_31 : decode cX3_leastOn 31 = .ok (.iload 4, 2) := by decide +kernel
theorem dX3_leastOn_33 : decode cX3_leastOn 33 = .ok (.ireturn, 1) := by decide +kernel
theorem dX3_leastOn_34 : decode cX3_leastOn 34 = .ok (.iinc 4 1, 3) := by decide +kernel
theorem dX3_leastOn_37 : decode cX3_leastOn 37 = .ok (.goto (-27), 3) := by decide +kernel
theorem dX3_leastOn_40 : decode cX3_leastOn 40 = .ok (.aload_n 0, 1) := by decide +kernel
theorem dX3_leastOn_41 : decode cX3_leastOn 41 = .ok (.getfield 41, 3) := by decide +kernel
theorem dX3_leastOn_44 : decode cX3_leastOn 44 = .ok (.ireturn, 1) := by decide +kernel
set_option maxRecDepth 20000 in
theorem ggX3_weightWith_X8_isBelow : GoodIn wsX3_weightWith wsX8_isBelow := goodIn_r _ [9] (by decide +kernel) (by decide +kernel)
set_option maxRecDepth 20000 in
theorem gX3_weightWith_X8_isBelow_n31 : GoodIn wsX3_weightWith (wsX8_isBelow) := ggX3_weightWith_X8_isBelow
theorem dX3_weightWith_0 : decode cX3_weightWith 0 = .ok (.aload_n 0, 1) := by decide +kernel
theorem dX3_weightWith_1 : decode cX3_weightWith 1 = .ok (.getfield 35, 3) := by decide +kernel
theorem dX3_weightWith_4 : decode cX3_weightWith 4 = .ok (.bipush 20, 2) := by decide +kernel
theorem dX3_weightWith_6 : decode cX3_weightWith 6 = .ok (.iload_n 2, 1) := by decide +kernel
theorem dX3_weightWith_7 : decode cX3_weightWith 7 = .ok (.iload_n 3, 1) := by decide +kernel
theorem dX3_weightWith_8 : decode cX3_weightWith 8 = .ok (.iadd, 1) := by decide +kernel
theorem dX3_weightWith_9 : decode cX3_weightWith 9 = .ok (.imul, 1) := by decide +kernel
theorem dX3_weightWith_10 : decode cX3_weightWith 10 = .ok (.iadd, 1) := by decide +kernel
theorem dX3_weightWith_11 : decode cX3_weightWith 11 = .ok (.istore 4, 2) := by decide +kernel
theorem dX3_weightWith_13 : decode cX3_weightWith 13 = .ok (.iload_n 1, 1) := by decide +kernel
theorem dX3_weightWith_14 : decode cX3_weightWith 14 = .ok (.iconst 1, 1) := by decide +kernel
theorem dX3_weightWith_15 : decode cX3_weightWith 15 = .ok (.iadd, 1) := by decide +kernel
theorem dX3_weightWith_16 : decode cX3_weightWith 16 = .ok (.bipush 25, 2) := by decide +kernel
theorem dX3_weightWith_18 : decode cX3_weightWith 18 = .ok (.imul, 1) := by decide +kernel
theorem dX3_weightWith_19 : decode cX3_weightWith 19 = .ok (.iload_n 2, 1) := by decide +kernel
theorem dX3_weightWith_20 : decode cX3_weightWith 20 = .ok (.iadd, 1) := by decide +kernel
theorem dX3_weightWith_21 : decode cX3_weightWith 21 = .ok (.iload_n 3, 1) := by decide +kernel
theorem dX3_weightWith_22 : decode cX3_weightWith 22 = .ok (.iadd, 1) := by decide +kernel
theorem dX3_weightWith_23 : decode cX3_weightWith 23 = .ok (.istore 5, 2) := by decide +kernel
theorem dX3_weightWith_25 : decode cX3_weightWith 25 = .ok (.iload 4, 2) := by decide +kernel
theorem dX3_weightWith_27 : decode cX3_weightWith 27 = .ok (.aload_n 0, 1) := by decide +kernel
theorem dX3_weightWith_28 : decode cX3_weightWith 28 = .ok (.getfield 9, 3) := by decide +kernel
theorem dX3_weightWith_31 : decode cX3_weightWith 31 = .ok (.iload_n 1, 1) := by decide +kernel
theorem dX3_weightWith_32 : decode cX3_weightWith 32 = .ok (.iaload, 1) := by decide +kernel
theorem dX3_weightWith_33 : decode cX3_weightWith 33 = .ok (.isub, 1) := by decide +kernel
theorem dX3_weightWith_34 : decode cX3_weightWith 34 = .ok (.aload_n 0, 1) := by decide +kernel
theorem dX3_weightWith_35 : decode cX3_weightWith 35 = .ok (.getfield 38, 3) := by decide +kernel
theorem dX3_weightWith_38 : decode cX3_weightWith 38 = .ok (.if_icmp .gt 17, 3) := by decide +kernel
theorem dX3_weightWith_41 : decode cX3_weightWith 41 = .ok (.iload 4, 2) := by decide +kernel
theorem dX3_weightWith_43 : decode cX3_weightWith 43 = .ok (.aload_n 0, 1) := by decide +kernel
theorem dX3_weightWith_44 : decode cX3_weightWith 44 = .ok (.getfield 9, 3) := by decide +kernel
theorem dX3_weightWith_47 : decode cX3_weightWith 47 = .ok (.iload_n 1, 1) := by decide +kernel
theorem dX3_weightWith_48 : decode cX3_weightWith 48 = .ok (.iconst 1, 1) := by decide +kernel
theorem dX3_weightWith_49 : decode cX3_weightWith 49 = .ok (.iadd, 1) := by decide +kernel
theorem dX3_weightWith_50 : decode cX3_weightWith 50 = .ok (.iaload, 1) := by decide +kernel
theorem dX3_weightWith_51 : decode cX3_weightWith 51 = .ok (.isub, 1) := by decide +kernel
theorem dX3_weightWith_52 : decode cX3_weightWith 52 = .ok (.ifCond .ge 6, 3) := by decide +kernel
theorem dX3_weightWith_55 : decode cX3_weightWith 55 = .ok (.ldc 48, 2) := by decide +kernel
theorem dX3_weightWith_57 : decode cX3_weightWith 57 = .ok (.ireturn, 1) := by decide +kernel
theorem dX3_weightWith_58 : decode cX3_weightWith 58 = .ok (.iload 5, 2) := by decide +kernel
theorem dX3_weightWith_60 : decode cX3_weightWith 60 = .ok (.aload_n 0, 1) := by decide +kernel
theorem dX3_weightWith_61 : decode cX3_weightWith 61 = .ok (.getfield 18, 3) := by decide +kernel
theorem dX3_weightWith_64 : decode cX3_weightWith 64 = .ok (.arraylength, 1) := by decide +kernel
theorem dX3_weightWith_65 : decode cX3_weightWith 65 = .ok (.invokestatic 31, 3) := by decide +kernel
theorem dX3_weightWith_68 : decode cX3_weightWith 68 = .ok (.ifCond .eq 15, 3) := by decide +kernel
theorem dX3_weightWith_71 : decode cX3_weightWith 71 = .ok (.aload_n 0, 1) := by decide +kernel
theorem dX3_weightWith_72 : decode cX3_weightWith 72 = .ok (.getfield 18, 3) := by decide +kernel
theorem dX3_weightWith_75 : decode cX3_weightWith 75 = .ok (.iload 5, 2) := by decide +kernel
theorem dX3_weightWith_77 : decode cX3_weightWith 77 = .ok (.iaload, 1) := by decide +kernel
theorem dX3_weightWith_78 : decode cX3_weightWith 78 = .ok (.ldc 48, 2) := by decide +kernel
theorem dX3_weightWith_80 : decode cX3_weightWith 80 = .ok (.if_icmp .lt 6, 3) := by decide +kernel
theorem dX3_weightWith_83 : decode cX3_weightWith 83 = .ok (.ldc 48, 2) := by decide +kernel
theorem dX3_weightWith_85 : decode cX3_weightWith 85 = .ok (.ireturn, 1) := by decide +kernel
theorem dX3_weightWith_86 : decode cX3_weightWith 86 = .ok (.aload_n 0, 1) := by decide +kernel
theorem dX3_weightWith_87 : decode cX3_weightWith 87 = .ok (.getfield 18, 3) := by decide +kernel
theorem dX3_weightWith_90 : decode cX3_weightWith 90 = .ok (.iload 5, 2) := by decide +kernel
theorem dX3_weightWith_92 : decode cX3_weightWith 92 = .ok (.iaload, 1) := by decide +kernel
theorem dX3_weightWith_93 : decode cX3_weightWith 93 = .ok (.iload_n 3, 1) := by decide +kernel
theorem dX3_weightWith_94 : decode cX3_weightWith 94 = .ok (.aload_n 0, 1) := by decide +kernel
theorem dX3_weightWith_95 : decode cX3_weightWith 95 = .ok (.getfield 15, 3) := by decide +kernel
theorem dX3_weightWith_98 : decode cX3_weightWith 98 = .ok (.iload_n 1, 1) := by decide +kernel
theorem dX3_weightWith_99 : decode cX3_weightWith 99 = .ok (.iaload, 1) := by decide +kernel
theorem dX3_weightWith_100 : decode cX3_weightWith 100 = .ok (.bipush 100, 2) := by decide +kernel
theorem dX3_weightWith_102 : decode cX3_weightWith 102 = .ok (.imul, 1) := by decide +kernel
theorem dX3_weightWith_103 : decode cX3_weightWith 103 = .ok (.iconst 1, 1) := by decide +kernel
theorem dX3_weightWith_104 : decode cX3_weightWith 104 = .ok (.iadd, 1) := by decide +kernel
theorem dX3_weightWith_105 : decode cX3_weightWith 105 = .ok (.imul, 1) := by decide +kernel
theorem dX3_weightWith_106 : decode cX3_weightWith 106 = .ok (.iadd, 1) := by decide +kernel
theorem dX3_weightWith_107 : decode cX3_weightWith 107 = .ok (.ireturn, 1) := by decide +kernel
theorem dX4_init_0 : decode cX4_init 0 = .ok (.aload_n 0, 1) := by decide +kernel
theorem dX4_init_1 : decode cX4_init 1 = .ok (.invokespecial 3, 3) := by decide +kernel
theorem dX4_init_4 : decode cX4_init 4 = .ok (.aload_n 0, 1) := by decide +kernel
theorem dX4_init_5 : decode cX4_init 5 = .ok (.ldc 11, 2) := by decide +kernel
theorem dX4_init_7 : decode cX4_init 7 = .ok (.putfield 12, 3) := by decide +kernel
theorem dX4_init_10 : decode cX4_init 10 = .ok (.aload_n 0, 1) := by decide +kernel
theorem dX4_init_11 : decode cX4_init 11 = .ok (.bipush 127, 2) := by decide +kernel
theorem dX4_init_13 : decode cX4_init 13 = .ok (.putfield 16, 3) := by decide +kernel
theorem dX4_init_16 : decode cX4_init 16 = .ok (.aload_n 0, 1) := by decide +kernel
theorem dX4_init_17 : decode cX4_init 17 = .ok (.bipush 15, 2) := by decide +kernel
theorem dX4_init_19 : decode cX4_init 19 = .ok (.putfield 19, 3) := by decide +kernel
theorem dX4_init_22 : decode cX4_init 22 = .ok (.aload_n 0, 1) := by decide +kernel
theorem dX4_init_23 : decode cX4_init 23 = .ok (.sipush 168, 3) := by decide +kernel
theorem dX4_init_26 : decode cX4_init 26 = .ok (.putfield 22, 3) := by decide +kernel
theorem dX4_init_29 : decode cX4_init 29 = .ok (.aload_n 0, 1) := by decide +kernel
theorem dX4_init_30 : decode cX4_init 30 = .ok (.bipush 100, 2) := by decide +kernel
theorem dX4_init_32 : decode cX4_init 32 = .ok (.putfield 25, 3) := by decide +kernel
theorem dX4_init_35 : decode cX4_init 35 = .ok (.aload_n 0, 1) := by decide +kernel
theorem dX4_init_36 : decode cX4_init 36 = .ok (.bipush 50, 2) := by decide +kernel
theorem dX4_init_38 : decode cX4_init 38 = .ok (.putfield 28, 3) := by decide +kernel
theorem dX4_init_41 : decode cX4_init 41 = .ok (.return_, 1) := by decide +kernel
set_option maxRecDepth 20000 in
theorem ggX4_let_X4_isIn : GoodIn wsX4_let wsX4_isIn := goodIn_r _ [7] (by decide +kernel) (by decide +kernel)
set_option maxRecDepth 20000 in
theorem gX4_let_X4_isIn : GoodIn wsX4_let (va_wsS RX4 31 yX4_isIn wsX4_isIn) := goodIn_app (goodIn_of _ (by decide +kernel)) ggX4_let_X4_isIn
theorem dX4_let_0 : decode cX4_let 0 = .ok (.aload_n 0, 1) := by decide +kernel
theorem dX4_let_1 : decode cX4_let 1 = .ok (.getfield 12, 3) := by decide +kernel
theorem dX4_let_4 : decode cX4_let 4 = .ok (.iload_n 2, 1) := by decide +kernel
theorem dX4_let_5 : decode cX4_let 5 = .ok (.bipush 24, 2) := by decide +kernel
theorem dX4_let_7 : decode cX4_let 7 = .ok (.irem, 1) := by decide +kernel
theorem dX4_let_8 : decode cX4_let 8 = .ok (.invokestatic 31, 3) := by decide +kernel
theorem dX4_let_11 : decode cX4_let 11 = .ok (.ifCond .eq 35, 3) := by decide +kernel
theorem dX4_let_14 : decode cX4_let 14 = .ok (.aload_n 0, 1) := by decide +kernel
theorem dX4_let_15 : decode cX4_let 15 = .ok (.getfield 16, 3) := by decide +kernel
theorem dX4_let_18 : decode cX4_let 18 = .ok (.iload_n 2, 1) := by decide +kernel
theorem dX4_let_19 : decode cX4_let 19 = .ok (.bipush 24, 2) := by decide +kernel
theorem dX4_let_21 : decode cX4_let 21 = .ok (.idiv, 1) := by decide +kernel
theorem dX4_let_22 : decode cX4_let 22 = .ok (.bipush 7, 2) := by decide +kernel
theorem dX4_let_24 : decode cX4_let 24 = .ok (.irem, 1) := by decide +kernel
theorem dX4_let_25 : decode cX4_let 25 = .ok (.invokestatic 31, 3) := by decide +kernel
theorem dX4_let_28 : decode cX4_let 28 = .ok (.ifCond .eq 18, 3) := by decide +kernel
theorem dX4_let_31 : decode cX4_let 31 = .ok (.aload_n 0, 1) := by decide +kernel
theorem dX4_let_32 : decode cX4_let 32 = .ok (.getfield 19, 3) := by decide +kernel
theorem dX4_let_35 : decode cX4_let 35 = .ok (.iload_n 1, 1) := by decide +kernel
theorem dX4_let_36 : decode cX4_let 36 = .ok (.invokestatic 31, 3) := by decide +kernel
theorem dX4_let_39 : decode cX4_let 39 = .ok (.ifCond .eq 7, 3) := by decide +kernel
theorem dX4_let_42 : decode cX4_let 42 = .ok (.iconst 1, 1) := by decide +kernel
theorem dX4_let_43 : decode cX4_let 43 = .ok (.goto 4, 3) := by decide +kernel
theorem dX4_let_46 : decode cX4_let 46 = .ok (.iconst 0, 1) := by decide +kernel
theorem dX4_let_47 : decode cX4_let 47 = .ok (.ireturn, 1) := by decide +kernel
theorem dX4_isIn_0 : decode cX4_isIn 0 = .ok (.iload_n 0, 1) := by decide +kernel
theorem dX4_isIn_1 : decode cX4_isIn 1 = .ok (.iload_n 1, 1) := by decide +kernel
theorem dX4_isIn_2 : decode cX4_isIn 2 = .ok (.ishr, 1) := by decide +kernel
theorem dX4_isIn_3 : decode cX4_isIn 3 = .ok (.iconst 1, 1) := by decide +kernel
theorem dX4_isIn_4 : decode cX4_isIn 4 = .ok (.iand, 1) := by decide +kernel
theorem dX4_isIn_5 : decode cX4_isIn 5 = .ok (.ifCond .eq 7, 3) := by decide +kernel
theorem dX4_isIn_8 : decode cX4_isIn 8 = .ok (.iconst 1, 1) := by decide +kernel
theorem dX4_isIn_9 : decode cX4_isIn 9 = .ok (.goto 4, 3) := by decide +kernel
theorem dX4_isIn_12 : decode cX4_isIn 12 = .ok (.iconst 0, 1) := by decide +kernel
theorem dX4_isIn_13 : decode cX4_isIn 13 = .ok (.ireturn, 1) := by decide +kernel
end
section
theorem dX5_init_0 : decode cX5_init 0 = .ok (.aload_n 0, 1) := by decide +kernel
theorem dX5_init_1 : decode cX5_init 1 = .ok (.invokespecial 3, 3) := by decide +kernel
theorem dX5_init_4 : decode cX5_init 4 = .ok (.aload_n 0, 1) := by decide +kernel
theorem dX5_init_5 : decode cX5_init 5 = .ok (.aload_n 1, 1) := by decide +kernel
theorem dX5_init_6 : decode cX5_init 6 = .ok (.putfield 9, 3) := by decide +kernel
theorem dX5_init_9 : decode cX5_init 9 = .ok (.return_, 1) := by decide +kernel
set_option maxRecDepth 20000 in
theorem ggX5_readInto_X5_readClause : GoodIn wsX5_readInto wsX5_readClause := goodIn_r _ [9, 2, 10, 11, 12, 13, 14, 15, 16, 17, 8, 18, 1, 19, 20, 21, 22, 23, 24, 3, 25, 26, 27, 28, 29, 30, 31, 32, 33, 34, 35, 36, 37, 38, 39, 40, 45, 46, 47, 48, 49, 50, 51, 52, 53, 54, 55, 56] (by decide +kernel) (by decide +kernel)
set_option maxRecDepth 20000 in
theorem gX5_readInto_X5_readClause : GoodIn wsX5_readInto (wsV RX5 25 RX5 yX5_readClause wsX5_readClause) := goodIn_app (goodIn_of _ (by decide +kernel)) ggX5_readInto_X5_readClause
set_option maxRecDepth 20000 in
theorem ggX5_readInto_X5_readOn : GoodIn wsX5_readInto wsX5_readOn := goodIn_r _ [44, 2, 15, 16, 17, 8, 18, 1, 19, 20, 33, 34, 35, 36, 3, 45, 46, 47, 48, 55, 56] (by decide +kernel) (by decide +kernel)
set_option maxRecDepth 20000 in
theorem gX5_readInto_X5_readOn : GoodIn wsX5_readInto (wsV RX5 29 RX5 yX5_readOn wsX5_readOn) := goodIn_app (goodIn_of _ (by decide +kernel)) ggX5_readInto_X5_readOn
theorem dX5_readInto_0 : decode cX5_readInto 0 = .ok (.aload_n 0, 1) := by decide +kernel
theorem dX5_readInto_1 : decode cX5_readInto 1 = .ok (.iload_n 2, 1) := by decide +kernel
theorem dX5_readInto_2 : decode cX5_readInto 2 = .ok (.putfield 15, 3) := by decide +kernel
theorem dX5_readInto_5 : decode cX5_readInto 5 = .ok (.aload_n 0, 1) := by decide +kernel
theorem dX5_readInto_6 : decode cX5_readInto 6 = .ok (.iconst 0, 1) := by decide +kernel
theorem dX5_readInto_7 : decode cX5_readInto 7 = .ok (.putfield 19, 3) := by decide +kernel
theorem dX5_readInto_10 : decode cX5_readInto 10 = .ok (.aload_n 0, 1) := by decide +kernel
theorem dX5_readInto_11 : decode cX5_readInto 11 = .ok (.iconst 0, 1) := by decide +kernel
theorem dX5_readInto_12 : decode cX5_readInto 12 = .ok (.putfield 22, 3) := by decide +kernel
theorem dX5_readInto_15 : decode cX5_readInto 15 = .ok (.iconst 0, 1) := by decide +kernel
theorem dX5_readInto_16 : decode cX5_readInto 16 = .ok (.istore_n 3, 1) := by decide +kernel
theorem dX5_readInto_17 : decode cX5_readInto 17 = .ok (.iconst 1, 1) := by decide +kernel
theorem dX5_readInto_18 : decode cX5_readInto 18 = .ok (.istore 4, 2) := by decide +kernel
theorem dX5_readInto_20 : decode cX5_readInto 20 = .ok (.iconst 0, 1) := by decide +kernel
theorem dX5_readInto_21 : decode cX5_readInto 21 = .ok (.istore 5, 2) := by decide +kernel
theorem dX5_readInto_23 : decode cX5_readInto 23 = .ok (.iload 5, 2) := by decide +kernel
theorem dX5_readInto_25 : decode cX5_readInto 25 = .ok (.bipush 80, 2) := by decide +kernel
theorem dX5_readInto_27 : decode cX5_readInto 27 = .ok (.if_icmp .gt 43, 3) := by decide +kernel
theorem dX5_readInto_30 : decode cX5_readInto 30 = .ok (.iload 4, 2) := by decide +kernel
theorem dX5_readInto_32 : decode cX5_readInto 32 = .ok (.ifCond .eq 38, 3) := by decide +kernel
theorem dX5_readInto_35 : decode cX5_readInto 35 = .ok (.iload_n 3, 1) := by decide +kernel
theorem dX5_readInto_36 : decode cX5_readInto 36 = .ok (.aload_n 0, 1) := by decide +kernel
theorem dX5_readInto_37 : decode cX5_readInto 37 = .ok (.aload_n 1, 1) := by decide +kernel
theorem dX5_readInto_38 : decode cX5_readInto 38 = .ok (.invokevirtual 25, 3) := by decide +kernel
theorem dX5_readInto_41 : decode cX5_readInto 41 = .ok (.ior, 1) := by decide +kernel
theorem dX5_readInto_42 : decode cX5_readInto 42 = .ok (.istore_n 3, 1) := by decide +kernel
theorem dX5_readInto_43 : decode cX5_readInto 43 = .ok (.aload_n 0, 1) := by decide +kernel
theorem dX5_readInto_44 : decode cX5_readInto 44 = .ok (.getfield 22, 3) := by decide +kernel
theorem dX5_readInto_47 : decode cX5_readInto 47 = .ok (.ifCond .ne 14, 3) := by decide +kernel
theorem dX5_readInto_50 : decode cX5_readInto 50 = .ok (.aload_n 0, 1) := by decide +kernel
theorem dX5_readInto_51 : decode cX5_readInto 51 = .ok (.invokevirtual 29, 3) := by decide +kernel
theorem dX5_readInto_54 : decode cX5_readInto 54 = .ok (.ifCond .eq 7, 3) := by decide +kernel
theorem dX5_readInto_57 : decode cX5_readInto 57 = .ok (.iconst 1, 1) := by decide +kernel
theorem dX5_readInto_58 : decode cX5_readInto 58 = .ok (.goto 4, 3) := by decide +kernel
theorem dX5_readInto_61 : decode cX5_readInto 61 = .ok (.iconst 0, 1) := by decide +kernel
theorem dX5_readInto_62 : decode cX5_readInto 62 = .ok (.istore 4, 2) := by decide +kernel
theorem dX5_readInto_64 : decode cX5_readInto 64 = .ok (.iinc 5 1, 3) := by decide +kernel
theorem dX5_readInto_67 : decode cX5_readInto 67 = .ok (.goto (-44), 3) := by decide +kernel
theorem dX5_readInto_70 : decode cX5_readInto 70 = .ok (.iload_n 3, 1) := by decide +kernel
theorem dX5_readInto_71 : decode cX5_readInto 71 = .ok (.ifCond .eq 8, 3) := by decide +kernel
theorem dX5_readInto_74 : decode cX5_readInto 74 = .ok (.aload_n 1, 1) := by decide +kernel
theorem dX5_readInto_75 : decode cX5_readInto 75 = .ok (.iload_n 3, 1) := by decide +kernel
theorem dX5_readInto_76 : decode cX5_readInto 76 = .ok (.putfield 33, 3) := by decide +kernel
theorem dX5_readInto_79 : decode cX5_readInto 79 = .ok (.aload_n 0, 1) := by decide +kernel
theorem dX5_readInto_80 : decode cX5_readInto 80 = .ok (.getfield 22, 3) := by decide +kernel
theorem dX5_readInto_83 : decode cX5_readInto 83 = .ok (.ireturn, 1) := by decide +kernel
set_option maxRecDepth 20000 in
theorem ggX5_readClause_X5_peek : GoodIn wsX5_readClause wsX5_peek := goodIn_r _ [11, 1, 12, 13, 14, 36, 37, 38, 39, 46, 47] (by decide +kernel) (by decide +kernel)
set_option maxRecDepth 20000 in
theorem gX5_readClause_X5_peek : GoodIn wsX5_readClause (wsV RX5 38 RX5 yX5_peek wsX5_peek) := goodIn_app (goodIn_of _ (by decide +kernel)) ggX5_readClause_X5_peek
set_option maxRecDepth 20000 in
theorem ggX5_readClause_X5_readWindow : GoodIn wsX5_readClause wsX5_readWindow := goodIn_r _ [18, 19, 1, 20, 21, 22, 10, 23, 24, 25, 26, 27, 7, 8, 9, 11, 12, 13, 14, 28, 29, 30, 31, 36, 37, 38, 39, 46, 47] (by decide +kernel) (by decide +kernel)
set_option maxRecDepth 20000 in
theorem gX5_readClause_X5_readWindow : GoodIn wsX5_readClause (wsV RX5 42 RX5 yX5_readWindow wsX5_readWindow) := goodIn_app (goodIn_of _ (by decide +kernel)) ggX5_readClause_X5_readWindow
set_option maxRecDepth 20000 in
theorem ggX5_readClause_X5_readDigits : GoodIn wsX5_readClause wsX5_readDigits := goodIn_r _ [35, 1, 24, 25, 26, 10, 27, 7, 8, 9, 11, 12, 13, 14, 28, 29, 30, 31, 19, 36, 37, 38, 39, 46, 47] (by decide +kernel) (by decide +kernel)
set_option maxRecDepth 20000 in
theorem gX5_readClause_X5_readDigits : GoodIn wsX5_readClause (wsV RX5 45 RX5 yX5_readDigits wsX5_readDigits) := goodIn_app (goodIn_of _ (by decide +kernel)) ggX5_readClause_X5_readDigits
set_option maxRecDepth 20000 in
theorem ggX5_readClause_X5_readNumber : GoodIn wsX5_readClause wsX5_readNumber := goodIn_r _ [23, 1, 24, 25, 26, 10, 27, 7, 8, 9, 11, 12, 13, 14, 28, 29, 30, 31, 19, 36, 37, 38, 39, 46, 47] (by decide +kernel) (by decide +kernel)
set_option maxRecDepth 20000 in
theorem gX5_readClause_X5_readNumber : GoodIn wsX5_readClause (wsV RX5 55 RX5 yX5_readNumber wsX5_readNumber) := goodIn_app (goodIn_of _ (by decide +kernel)) ggX5_readClause_X5_readNumber
set_option maxRecDepth 20000 in
theorem ggX5_readClause_X5_fail : GoodIn wsX5_readClause wsX5_fail := goodIn_r _ [31, 19, 36, 37, 38, 39] (by decide +kernel) (by decide +kernel)
set_option maxRecDepth 20000 in
theorem gX5_readClause_X5_fail : GoodIn wsX5_readClause (wsV RX5 67 RX5 yX5_fail wsX5_fail) := goodIn_app (goodIn_of _ (by decide +kernel)) ggX5_readClause_X5_fail
theorem dX5_readClause_0 : decode cX5_readClause 0 = .ok (.aload_n 0, 1) := by decide +kernel
theorem dX5_readClause_1 : decode cX5_readClause 1 = .ok (.invokevirtual 38, 3) := by decide +kernel
theorem dX5_readClause_4 : decode cX5_readClause 4 = .ok (.istore_n 2, 1) := by decide +kernel
theorem dX5_readClause_5 : decode cX5_readClause 5 = .ok (.aload_n 0, 1) := by decide +kernel
theorem dX5_readClause_6 : decode cX5_readClause 6 = .ok (.dup, 1) := by decide +kernel
theorem dX5_readClause_7 : decode cX5_readClause 7 = .ok (.getfield 19, 3) := by decide +kernel
theorem dX5_readClause_10 : decode cX5_readClause 10 = .ok (.iconst 1, 1) := by decide +kernel
theorem dX5_readClause_11 : decode cX5_readClause 11 = .ok (.iadd, 1) := by decide +kernel
theorem dX5_readClause_12 : decode cX5_readClause 12 = .ok (.putfield 19, 3) := by decide +kernel
theorem dX5_readClause_15 : decode cX5_readClause 15 = .ok (.iload_n 2, 1) := by decide +kernel
theorem dX5_readClause_16 : decode cX5_readClause 16 = .ok (.lookupswitch 132 #[(99, 119), (100, 65), (102, 105), (107, 79), (110, 91), (119, 60)], 60) := by decide +kernel
theorem dX5_readClause_76 : decode cX5_readClause 76 = .ok (.aload_n 0, 1) := by decide +kernel
theorem dX5_readClause_77 : decode cX5_readClause 77 = .ok (.invokevirtual 42, 3) := by decide +kernel
theorem dX5_readClause_80 : decode cX5_readClause 80 = .ok (.ireturn, 1) := by decide +kernel
theorem dX5_readClause_81 : decode cX5_readClause 81 = .ok (.aload_n 1, 1) := by decide +kernel
theorem dX5_readClause_82 : decode cX5_readClause 82 = .ok (.aload_n 0, 1) := by decide +kernel
theorem dX5_readClause_83 : decode cX5_readClause 83 = .ok (.bipush 6, 2) := by decide +kernel
theorem dX5_readClause_85 : decode cX5_readClause 85 = .ok (.bipush 7, 2) := by decide +kernel
theorem dX5_readClause_87 : decode cX5_readClause 87 = .ok (.invokevirtual 45, 3) := by decide +kernel
theorem dX5_readClause_90 : decode cX5_readClause 90 = .ok (.putfield 49, 3) := by decide +kernel
theorem dX5_readClause_93 : decode cX5_readClause 93 = .ok (.iconst 0, 1) := by decide +kernel
theorem dX5_readClause_94 : decode cX5_readClause 94 = .ok (.ireturn, 1) := by decide +kernel
theorem dX5_readClause_95 : decode cX5_readClause 95 = .ok (.aload_n 1, 1) := by decide +kernel
theorem dX5_readClause_96 : decode cX5_readClause 96 = .ok (.aload_n 0, 1) := by decide +kernel
theorem dX5_readClause_97 : decode cX5_readClause 97 = .ok (.iconst 3, 1) := by decide +kernel
theorem dX5_readClause_98 : decode cX5_readClause 98 = .ok (.iconst 4, 1) := by decide +kernel
theorem dX5_readClause_99 : decode cX5_readClause 99 = .ok (.invokevirtual 45, 3) := by decide +kernel
theorem dX5_readClause_102 : decode cX5_readClause 102 = .ok (.putfield 52, 3) := by decide +kernel
theorem dX5_readClause_105 : decode cX5_readClause 105 = .ok (.iconst 0, 1) := by decide +kernel
theorem dX5_readClause_106 : decode cX5_readClause 106 = .ok (.ireturn, 1) := by decide +kernel
theorem dX5_readClause_107 : decode cX5_readClause 107 = .ok (.aload_n 1, 1) := by decide +kernel
theorem dX5_readClause_108 : decode cX5_readClause 108 = .ok (.aload_n 0, 1) := by decide +kernel
theorem dX5_readClause_109 : decode cX5_readClause 109 = .ok (.iconst 0, 1) := by decide +kernel
theorem dX5_readClause_110 : decode cX5_readClause 110 = .ok (.sipush 999, 3) := by decide +kernel
theorem dX5_readClause_113 : decode cX5_readClause 113 = .ok (.invokevirtual 55, 3) := by decide +kernel
theorem dX5_readClause_116 : decode cX5_readClause 116 = .ok (.putfield 58, 3) := by decide +kernel
theorem dX5_readClause_119 : decode cX5_readClause 119 = .ok (.iconst 0, 1) := by decide +kernel
theorem dX5_readClause_120 : decode cX5_readClause 120 = .ok (.ireturn, 1) := by decide +kernel
theorem dX5_readClause_121 : decode cX5_readClause 121 = .ok (.aload_n 1, 1) := by decide +kernel
theorem dX5_readClause_122 : decode cX5_readClause 122 = .ok (.aload_n 0, 1) := by decide +kernel
theorem dX5_readClause_123 : decode cX5_readClause 123 = .ok (.iconst 0, 1) := by decide +kernel
theorem dX5_readClause_124 : decode cX5_readClause 124 = .ok (.sipush 9999, 3) := by decide +kernel
theorem dX5_readClause_127 : decode cX5_readClause 127 = .ok (.invokevirtual 55, 3) := by decide +kernel
theorem dX5_readClause_130 : decode cX5_readClause 130 = .ok (.putfield 61, 3) := by decide +kernel
theorem dX5_readClause_133 : decode cX5_readClause 133 = .ok (.iconst 0, 1) := by decide +kernel
theorem dX5_readClause_134 : decode cX5_readClause 134 = .ok (.ireturn, 1) := by decide +kernel
theorem dX5_readClause_135 : decode cX5_readClause 135 = .ok (.aload_n 1, 1) := by decide +kernel
theorem dX5_readClause_136 : decode cX5_readClause 136 = .ok (.aload_n 0, 1) := by decide +kernel
theorem dX5_readClause_137 : decode cX5_readClause 137 = .ok (.iconst 0, 1) := by decide +kernel
theorem dX5_readClause_138 : decode cX5_readClause 138 = .ok (.bipush 100, 2) := by decide +kernel
theorem dX5_readClause_140 : decode cX5_readClause 140 = .ok (.invokevirtual 55, 3) := by decide +kernel
theorem dX5_readClause_143 : decode cX5_readClause 143 = .ok (.putfield 64, 3) := by decide +kernel
theorem dX5_readClause_146 : decode cX5_readClause 146 = .ok (.iconst 0, 1) := by decide +kernel
theorem dX5_readClause_147 : decode cX5_readClause 147 = .ok (.ireturn, 1) := by decide +kernel
theorem dX5_readClause_148 : decode cX5_readClause 148 = .ok (.aload_n 0, 1) := by decide +kernel
theorem dX5_readClause_149 : decode cX5_readClause 149 = .ok (.iconst 1, 1) := by decide +kernel
theorem dX5_readClause_150 : decode cX5_readClause 150 = .ok (.aload_n 0, 1) := by decide +kernel
theorem dX5_readClause_151 : decode cX5_readClause 151 = .ok (.getfield 19, 3) := by decide +kernel
theorem dX5_readClause_154 : decode cX5_readClause 154 = .ok (.iconst 1, 1) := by decide +kernel
theorem dX5_readClause_155 : decode cX5_readClause 155 = .ok (.isub, 1) := by decide +kernel
theorem dX5_readClause_156 : decode cX5_readClause 156 = .ok (.invokevirtual 67, 3) := by decide +kernel
theorem dX5_readClause_159 : decode cX5_readClause 159 = .ok (.iconst 0, 1) := by decide +kernel
theorem dX5_readClause_160 : decode cX5_readClause 160 = .ok (.ireturn, 1) := by decide +kernel
set_option maxRecDepth 20000 in
theorem ggX5_readOn_X5_peek : GoodIn wsX5_readOn wsX5_peek := goodIn_r _ [6, 1, 7, 8, 9, 15, 16, 17, 18, 19, 20] (by decide +kernel) (by decide +kernel)
set_option maxRecDepth 20000 in
theorem gX5_readOn_X5_peek : GoodIn wsX5_readOn (wsV RX5 38 RX5 yX5_peek wsX5_peek) := goodIn_app (goodIn_of _ (by decide +kernel)) ggX5_readOn_X5_peek
set_option maxRecDepth 20000 in
theorem ggX5_readOn_X5_fail : GoodIn wsX5_readOn wsX5_fail := goodIn_r _ [13, 14, 15, 16, 17, 18] (by decide +kernel) (by decide +kernel)
set_option maxRecDepth 20000 in
theorem gX5_readOn_X5_fail : GoodIn wsX5_readOn (wsV RX5 67 RX5 yX5_fail wsX5_fail) := goodIn_app (goodIn_of _ (by decide +kernel)) ggX5_readOn_X5_fail
theorem dX5_readOn_0 : decode cX5_readOn 0 = .ok (.aload_n 0, 1) := by decide +kernel
theorem dX5_readOn_1 : decode cX5_readOn 1 = .ok (.invokevirtual 38, 3) := by decide +kernel
theorem dX5_readOn_4 : decode cX5_readOn 4 = .ok (.istore_n 1, 1) := by decide +kernel
theorem dX5_readOn_5 : decode cX5_readOn 5 = .ok (.iload_n 1, 1) := by decide +kernel
theorem dX5_readOn_6 : decode cX5_readOn 6 = .ok (.iconst (-1), 1) := by decide +kernel
theorem dX5_readOn_7 : decode cX5_readOn 7 = .ok (.if_icmp .ne 5, 3) := by decide +kernel
theorem dX5_readOn_10 : decode cX5_readOn 10 = .ok (.iconst 0, 1) := by decide +kernel
theorem dX5_readOn_11 : decode cX5_readOn 11 = .ok (.ireturn, 1) := by decide +kernel
theorem dX5_readOn_12 : decode cX5_readOn 12 = .ok (.iload_n 1, 1) := by decide +kernel
theorem dX5_readOn_13 : decode cX5_readOn 13 = .ok (.bipush 59, 2) := by decide +kernel
theorem dX5_readOn_15 : decode cX5_readOn 15 = .ok (.if_icmp .eq 14, 3) := by decide +kernel
theorem dX5_readOn_18 : decode cX5_readOn 18 = .ok (.aload_n 0, 1) := by decide +kernel
theorem dX5_readOn_19 : decode cX5_readOn 19 = .ok (.iconst 1, 1) := by decide +kernel
theorem dX5_readOn_20 : decode cX5_readOn 20 = .ok (.aload_n 0, 1) := by decide +kernel
theorem dX5_readOn_21 : decode cX5_readOn 21 = .ok (.getfield 19, 3) := by decide +kernel
theorem dX5_readOn_24 : decode cX5_readOn 24 = .ok (.invokevirtual 67, 3) := by decide +kernel
theorem dX5_readOn_27 : decode cX5_readOn 27 = .ok (.iconst 0, 1) := by decide +kernel
theorem dX5_readOn_28 : decode cX5_readOn 28 = .ok (.ireturn, 1) := by decide +kernel
theorem dX5_readOn_29 : decode cX5_readOn 29 = .ok (.aload_n 0, 1) := by decide +kernel
theorem dX5_readOn_30 : decode cX5_readOn 30 = .ok (.dup, 1) := by decide +kernel
theorem dX5_readOn_31 : decode cX5_readOn 31 = .ok (.getfield 19, 3) := by decide +kernel
theorem dX5_readOn_34 : decode cX5_readOn 34 = .ok (.iconst 1, 1) := by decide +kernel
theorem dX5_readOn_35 : decode cX5_readOn 35 = .ok (.iadd, 1) := by decide +kernel
theorem dX5_readOn_36 : decode cX5_readOn 36 = .ok (.putfield 19, 3) := by decide +kernel
theorem dX5_readOn_39 : decode cX5_readOn 39 = .ok (.iconst 1, 1) := by decide +kernel
theorem dX5_readOn_40 : decode cX5_readOn 40 = .ok (.ireturn, 1) := by decide +kernel
set_option maxRecDepth 20000 in
theorem ggX5_readWindow_X5_readNumber : GoodIn wsX5_readWindow wsX5_readNumber := goodIn_r _ [7, 2, 8, 9, 10, 6, 11, 12, 13, 14, 15, 16, 17, 18, 19, 20, 21, 22, 1, 23, 24, 25, 26, 27, 28] (by decide +kernel) (by decide +kernel)
set_option maxRecDepth 20000 in
theorem gX5_readWindow_X5_readNumber : GoodIn wsX5_readWindow (wsV RX5 55 RX5 yX5_readNumber wsX5_readNumber) := goodIn_app (goodIn_of _ (by decide +kernel)) ggX5_readWindow_X5_readNumber
set_option maxRecDepth 20000 in
theorem ggX5_readWindow_X5_peek : GoodIn wsX5_readWindow wsX5_peek := goodIn_r _ [15, 2, 16, 17, 18, 23, 24, 25, 26, 27, 28] (by decide +kernel) (by decide +kernel)
set_option maxRecDepth 20000 in
theorem gX5_readWindow_X5_peek : GoodIn wsX5_readWindow (wsV RX5 38 RX5 yX5_peek wsX5_peek) := goodIn_app (goodIn_of _ (by decide +kernel)) ggX5_readWindow_X5_peek
set_option maxRecDepth 20000 in
theorem ggX5_readWindow_X5_fail : GoodIn wsX5_readWindow wsX5_fail := goodIn_r _ [22, 1, 23, 24, 25, 26] (by decide +kernel) (by decide +kernel)
set_option maxRecDepth 20000 in
theorem gX5_readWindow_X5_fail : GoodIn wsX5_readWindow (wsV RX5 67 RX5 yX5_fail wsX5_fail) := goodIn_app (goodIn_of _ (by decide +kernel)) ggX5_readWindow_X5_fail
theorem dX5_readWindow_0 : decode cX5_readWindow 0 = .ok (.aload_n 0, 1) := by decide +kernel
theorem dX5_readWindow_1 : decode cX5_readWindow 1 = .ok (.iconst 0, 1) := by decide +kernel
theorem dX5_readWindow_2 : decode cX5_readWindow 2 = .ok (.bipush 23, 2) := by decide +kernel
theorem dX5_readWindow_4 : decode cX5_readWindow 4 = .ok (.invokevirtual 55, 3) := by decide +kernel
theorem dX5_readWindow_7 : decode cX5_readWindow 7 = .ok (.istore_n 1, 1) := by decide +kernel
theorem dX5_readWindow_8 : decode cX5_readWindow 8 = .ok (.aload_n 0, 1) := by decide +kernel
theorem dX5_readWindow_9 : decode cX5_readWindow 9 = .ok (.getfield 22, 3) := by decide +kernel
theorem dX5_readWindow_12 : decode cX5_readWindow 12 = .ok (.ifCond .eq 5, 3) := by decide +kernel
theorem dX5_readWindow_15 : decode cX5_readWindow 15 = .ok (.iconst 0, 1) := by decide +kernel
theorem dX5_readWindow_16 : decode cX5_readWindow 16 = .ok (.ireturn, 1) := by decide +kernel
theorem dX5_readWindow_17 : decode cX5_readWindow 17 = .ok (.aload_n 0, 1) := by decide +kernel
theorem dX5_readWindow_18 : decode cX5_readWindow 18 = .ok (.invokevirtual 38, 3) := by decide +kernel
theorem dX5_readWindow_21 : decode cX5_readWindow 21 = .ok (.bipush 45, 2) := by decide +kernel
theorem dX5_readWindow_23 : decode cX5_readWindow 23 = .ok (.if_icmp .eq 14, 3) := by decide +kernel
theorem dX5_readWindow_26 : decode cX5_readWindow 26 = .ok (.aload_n 0, 1) := by decide +kernel
theorem dX5_readWindow_27 : decode cX5_readWindow 27 = .ok (.iconst 1, 1) := by decide +kernel
theorem dX5_readWindow_28 : decode cX5_readWindow 28 = .ok (.aload_n 0, 1) := by decide +kernel
theorem dX5_readWindow_29 : decode cX5_readWindow 29 = .ok (.getfield 19, 3) := by decide +kernel
theorem dX5_readWindow_32 : decode cX5_readWindow 32 = .ok (.invokevirtual 67, 3) := by decide +kernel
theorem dX5_readWindow_35 : decode cX5_readWindow 35 = .ok (.iconst 0, 1) := by decide +kernel
theorem dX5_readWindow_36 : decode cX5_readWindow 36 = .ok (.ireturn, 1) := by decide +kernel
theorem dX5_readWindow_37 : decode cX5_readWindow 37 = .ok (.aload_n 0, 1) := by decide +kernel
theorem dX5_readWindow_38 : decode cX5_readWindow 38 = .ok (.dup, 1) := by decide +kernel
theorem dX5_readWindow_39 : decode cX5_readWindow 39 = .ok (.getfield 19, 3) := by decide +kernel
theorem dX5_readWindow_42 : decode cX5_readWindow 42 = .ok (.iconst 1, 1) := by decide +kernel
theorem dX5_readWindow_43 : decode cX5_readWindow 43 = .ok (.iadd, 1) := by decide +kernel
theorem dX5_readWindow_44 : decode cX5_readWindow 44 = .ok (.putfield 19, 3) := by decide +kernel
theorem dX5_readWindow_47 : decode cX5_readWindow 47 = .ok (.aload_n 0, 1) := by decide +kernel
theorem dX5_readWindow_48 : decode cX5_readWindow 48 = .ok (.iload_n 1, 1) := by decide +kernel
theorem dX5_readWindow_49 : decode cX5_readWindow 49 = .ok (.iconst 1, 1) := by decide +kernel
theorem dX5_readWindow_50 : decode cX5_readWindow 50 = .ok (.iadd, 1) := by decide +kernel
theorem dX5_readWindow_51 : decode cX5_readWindow 51 = .ok (.bipush 24, 2) := by decide +kernel
theorem dX5_readWindow_53 : decode cX5_readWindow 53 = .ok (.invokevirtual 55, 3) := by decide +kernel
theorem dX5_readWindow_56 : decode cX5_readWindow 56 = .ok (.istore_n 2, 1) := by decide +kernel
theorem dX5_readWindow_57 : decode cX5_readWindow 57 = .ok (.aload_n 0, 1) := by decide +kernel
theorem dX5_readWindow_58 : decode cX5_readWindow 58 = .ok (.getfield 22, 3) := by decide +kernel
theorem dX5_readWindow_61 : decode cX5_readWindow 61 = .ok (.ifCond .ne 13, 3) := by decide +kernel
theorem dX5_readWindow_64 : decode cX5_readWindow 64 = .ok (.iconst 1, 1) := by decide +kernel
theorem dX5_readWindow_65 : decode cX5_readWindow 65 = .ok (.iload_n 2, 1) := by decide +kernel
theorem dX5_readWindow_66 : decode cX5_readWindow 66 = .ok (.ishl, 1) := by decide +kernel
theorem dX5_readWindow_67 : decode cX5_readWindow 67 = .ok (.iconst 1, 1) := by decide +kernel
theorem dX5_readWindow_68 : decode cX5_readWindow 68 = .ok (.iload_n 1, 1) := by decide +kernel
theorem dX5_readWindow_69 : decode cX5_readWindow 69 = .ok (.ishl, 1) := by decide +kernel
theorem dX5_readWindow_70 : decode cX5_readWindow 70 = .ok (.isub, 1) := by decide +kernel
theorem dX5_readWindow_71 : decode cX5_readWindow 71 = .ok (.goto 4, 3) := by decide +kernel
theorem dX5_readWindow_74 : decode cX5_readWindow 74 = .ok (.iconst 0, 1) := by decide +kernel
theorem dX5_readWindow_75 : decode cX5_readWindow 75 = .ok (.ireturn, 1) := by decide +kernel
set_option maxRecDepth 20000 in
theorem ggX5_readDigits_X5_isDigit : GoodIn wsX5_readDigits wsX5_isDigit := goodIn_r _ [6, 7, 8, 9, 5, 10, 1, 11, 12, 13, 19, 20, 21, 22, 23, 24] (by decide +kernel) (by decide +kernel)
set_option maxRecDepth 20000 in
theorem gX5_readDigits_X5_isDigit : GoodIn wsX5_readDigits (wsV RX5 71 RX5 yX5_isDigit wsX5_isDigit) := goodIn_app (goodIn_of _ (by decide +kernel)) ggX5_readDigits_X5_isDigit
set_option maxRecDepth 20000 in
theorem ggX5_readDigits_X5_peek : GoodIn wsX5_readDigits wsX5_peek := goodIn_r _ [10, 1, 11, 12, 13, 19, 20, 21, 22, 23, 24] (by decide +kernel) (by decide +kernel)
set_option maxRecDepth 20000 in
theorem gX5_readDigits_X5_peek : GoodIn wsX5_readDigits (wsV RX5 38 RX5 yX5_peek wsX5_peek) := goodIn_app (goodIn_of _ (by decide +kernel)) ggX5_readDigits_X5_peek
set_option maxRecDepth 20000 in
theorem ggX5_readDigits_X5_fail : GoodIn wsX5_readDigits wsX5_fail := goodIn_r _ [17, 18, 19, 20, 21, 22] (by decide +kernel) (by decide +kernel)
set_option maxRecDepth 20000 in
theorem gX5_readDigits_X5_fail : GoodIn wsX5_readDigits (wsV RX5 67 RX5 yX5_fail wsX5_fail) := goodIn_app (goodIn_of _ (by decide +kernel)) ggX5_readDigits_X5_fail
theorem dX5_readDigits_0 : decode cX5_readDigits 0 = .ok (.iconst 0, 1) := by decide +kernel
theorem dX5_readDigits_1 : decode cX5_readDigits 1 = .ok (.istore_n 3, 1) := by decide +kernel
theorem dX5_readDigits_2 : decode cX5_readDigits 2 = .ok (.aload_n 0, 1) := by decide +kernel
theorem dX5_readDigits_3 : decode cX5_readDigits 3 = .ok (.getfield 19, 3) := by decide +kernel
theorem dX5_readDigits_6 : decode cX5_readDigits 6 = .ok (.istore 4, 2) := by decide +kernel
theorem dX5_readDigits_8 : decode cX5_readDigits 8 = .ok (.iconst 0, 1) := by decide +kernel
theorem dX5_readDigits_9 : decode cX5_readDigits 9 = .ok (.istore 5, 2) := by decide +kernel
theorem dX5_readDigits_11 : decode cX5_readDigits 11 = .ok (.iload 5, 2) := by decide +kernel
theorem dX5_readDigits_13 : decode cX5_readDigits 13 = .ok (.iload_n 2, 1) := by decide +kernel
theorem dX5_readDigits_14 : decode cX5_readDigits 14 = .ok (.if_icmp .ge 59, 3) := by decide +kernel
theorem dX5_readDigits_17 : decode cX5_readDigits 17 = .ok (.aload_n 0, 1) := by decide +kernel
theorem dX5_readDigits_18 : decode cX5_readDigits 18 = .ok (.invokevirtual 71, 3) := by decide +kernel
theorem dX5_readDigits_21 : decode cX5_readDigits 21 = .ok (.ifCond .eq 52, 3) := by decide +kernel
theorem dX5_readDigits_24 : decode cX5_readDigits 24 = .ok (.aload_n 0, 1) := by decide +kernel
theorem dX5_readDigits_25 : decode cX5_readDigits 25 = .ok (.invokevirtual 38, 3) := by decide +kernel
theorem dX5_readDigits_28 : decode cX5_readDigits 28 = .ok (.bipush 48, 2) := by decide +kernel
theorem dX5_readDigits_30 : decode cX5_readDigits 30 = .ok (.isub, 1) := by decide +kernel
theorem dX5_readDigits_31 : decode cX5_readDigits 31 = .ok (.istore 6, 2) := by decide +kernel
theorem dX5_readDigits_33 : decode cX5_readDigits 33 = .ok (.iload 6, 2) := by decide +kernel
theorem dX5_readDigits_35 : decode cX5_readDigits 35 = .ok (.iload_n 1, 1) := by decide +kernel
theorem dX5_readDigits_36 : decode cX5_readDigits 36 = .ok (.if_icmp .le 14, 3) := by decide +kernel
theorem dX5_readDigits_39 : decode cX5_readDigits 39 = .ok (.aload_n 0, 1) := by decide +kernel
theorem dX5_readDigits_40 : decode cX5_readDigits 40 = .ok (.iconst 2, 1) := by decide +kernel
theorem dX5_readDigits_41 : decode cX5_readDigits 41 = .ok (.aload_n 0, 1) := by decide +kernel
theorem dX5_readDigits_42 : decode cX5_readDigits 42 = .ok (.getfield 19, 3) := by decide +kernel
theorem dX5_readDigits_45 : decode cX5_readDigits 45 = .ok (.invokevirtual 67, 3) := by decide +kernel
theorem dX5_readDigits_48 : decode cX5_readDigits 48 = .ok (.iload_n 3, 1) := by decide +kernel
theorem dX5_readDigits_49 : decode cX5_readDigits 49 = .ok (.ireturn, 1) := by decide +kernel
theorem dX5_readDigits_50 : decode cX5_readDigits 50 = .ok (.iload_n 3, 1) := by decide +kernel
theorem dX5_readDigits_51 : decode cX5_readDigits 51 = .ok (.iconst 1, 1) := by decide +kernel
theorem dX5_readDigits_52 : decode cX5_readDigits 52 = .ok (.iload 6, 2) := by decide +kernel
theorem dX5_readDigits_54 : decode cX5_readDigits 54 = .ok (.ishl, 1) := by decide +kernel
theorem dX5_readDigits_55 : decode cX5_readDigits 55 = .ok (.ior, 1) := by decide +kernel
theorem dX5_readDigits_56 : decode cX5_readDigits 56 = .ok (.istore_n 3, 1) := by decide +kernel
theorem dX5_readDigits_57 : decode cX5_readDigits 57 = .ok (.aload_n 0, 1) := by decide +kernel
theorem dX5_readDigits_58 : decode cX5_readDigits 58 = .ok (.dup, 1) := by decide +kernel
theorem dX5_readDigits_59 : decode cX5_readDigits 59 = .ok (.getfield 19, 3) := by decide +kernel
theorem dX5_readDigits_62 : decode cX5_readDigits 62 = .ok (.iconst 1, 1) := by decide +kernel
theorem dX5_readDigits_63 : decode cX5_readDigits 63 = .ok (.iadd, 1) := by decide +kernel
theorem dX5_readDigits_64 : decode cX5_readDigits 64 = .ok (.putfield 19, 3) := by decide +kernel
theorem dX5_readDigits_67 : decode cX5_readDigits 67 = .ok (.iinc 5 1, 3) := by decide +kernel
theorem dX5_readDigits_70 : decode cX5_readDigits 70 = .ok (.goto (-59), 3) := by decide +kernel
theorem dX5_readDigits_73 : decode cX5_readDigits 73 = .ok (.aload_n 0, 1) := by decide +kernel
theorem dX5_readDigits_74 : decode cX5_readDigits 74 = .ok (.getfield 19, 3) := by decide +kernel
theorem dX5_readDigits_77 : decode cX5_readDigits 77 = .ok (.iload 4, 2) := by decide +kernel
theorem dX5_readDigits_79 : decode cX5_readDigits 79 = .ok (.if_icmp .eq 10, 3) := by decide +kernel
theorem dX5_readDigits_82 : decode cX5_readDigits 82 = .ok (.aload_n 0, 1) := by decide +kernel
theorem dX5_readDigits_83 : decode cX5_readDigits 83 = .ok (.invokevirtual 71, 3) := by decide +kernel
theorem dX5_readDigits_86 : decode cX5_readDigits 86 = .ok (.ifCond .eq 12, 3) := by decide +kernel
theorem dX5_readDigits_89 : decode cX5_readDigits 89 = .ok (.aload_n 0, 1) := by decide +kernel
theorem dX5_readDigits_90 : decode cX5_readDigits 90 = .ok (.iconst 1, 1) := by decide +kernel
theorem dX5_readDigits_91 : decode cX5_readDigits 91 = .ok (.aload_n 0, 1) := by decide +kernel
theorem dX5_readDigits_92 : decode cX5_readDigits 92 = .ok (.getfield 19, 3) := by decide +kernel
theorem dX5_readDigits_95 : decode cX5_readDigits 95 = .ok (.invokevirtual 67, 3) := by decide +kernel
theorem dX5_readDigits_98 : decode cX5_readDigits 98 = .ok (.iload_n 3, 1) := by decide +kernel
theorem dX5_readDigits_99 : decode cX5_readDigits 99 = .ok (.ireturn, 1) := by decide +kernel
set_option maxRecDepth 20000 in
theorem ggX5_readNumber_X5_isDigit : GoodIn wsX5_readNumber wsX5_isDigit := goodIn_r _ [6, 7, 8, 9, 5, 10, 1, 11, 12, 13, 19, 20, 21, 22, 23, 24] (by decide +kernel) (by decide +kernel)
set_option maxRecDepth 20000 in
theorem gX5_readNumber_X5_isDigit : GoodIn wsX5_readNumber (wsV RX5 71 RX5 yX5_isDigit wsX5_isDigit) := goodIn_app (goodIn_of _ (by decide +kernel)) ggX5_readNumber_X5_isDigit
set_option maxRecDepth 20000 in
theorem ggX5_readNumber_X5_peek : GoodIn wsX5_readNumber wsX5_peek := goodIn_r _ [10, 1, 11, 12, 13, 19, 20, 21, 22, 23, 24] (by decide +kernel) (by decide +kernel)
set_option maxRecDepth 20000 in
theorem gX5_readNumber_X5_peek : GoodIn wsX5_readNumber (wsV RX5 38 RX5 yX5_peek wsX5_peek) := goodIn_app (goodIn_of _ (by decide +kernel)) ggX5_readNumber_X5_peek
set_option maxRecDepth 20000 in
theorem ggX5_readNumber_X5_fail : GoodIn wsX5_readNumber wsX5_fail := goodIn_r _ [17, 18, 19, 20, 21, 22] (by decide +kernel) (by decide +kernel)
set_option maxRecDepth 20000 in
theorem gX5_readNumber_X5_fail : GoodIn wsX5_readNumber (wsV RX5 67 RX5 yX5_fail wsX5_fail) := goodIn_app (goodIn_of _ (by decide +kernel)) ggX5_readNumber_X5_fail
theorem dX5_readNumber_0 : decode cX5_readNumber 0 = .ok (.iconst 0, 1) := by decide +kernel
theorem dX5_readNumber_1 : decode cX5_readNumber 1 = .ok (.istore_n 3, 1) := by decide +kernel
theorem dX5_readNumber_2 : decode cX5_readNumber 2 = .ok (.aload_n 0, 1) := by decide +kernel
theorem dX5_readNumber_3 : decode cX5_readNumber 3 = .ok (.getfield 19, 3) := by decide +kernel
theorem dX5_readNumber_6 : decode cX5_readNumber 6 = .ok (.istore 4, 2) := by decide +kernel
theorem dX5_readNumber_8 : decode cX5_readNumber 8 = .ok (.iconst 0, 1) := by decide +kernel
theorem dX5_readNumber_9 : decode cX5_readNumber 9 = .ok (.istore 5, 2) := by decide +kernel
theorem dX5_readNumber_11 : decode cX5_readNumber 11 = .ok (.iload 5, 2) := by decide +kernel
theorem dX5_readNumber_13 : decode cX5_readNumber 13 = .ok (.iconst 4, 1) := by decide +kernel
theorem dX5_readNumber_14 : decode cX5_readNumber 14 = .ok (.if_icmp .ge 39, 3) := by decide +kernel
theorem dX5_readNumber_17 : decode cX5_readNumber 17 = .ok (.aload_n 0, 1) := by decide +kernel
theorem dX5_readNumber_18 : decode cX5_readNumber 18 = .ok (.invokevirtual 71, 3) := by decide +kernel
theorem dX5_readNumber_21 : decode cX5_readNumber 21 = .ok (.ifCond .eq 32, 3) := by decide +kernel
theorem dX5_readNumber_24 : decode cX5_readNumber 24 = .ok (.iload_n 3, 1) := by decide +kernel
theorem dX5_readNumber_25 : decode cX5_readNumber 25 = .ok (.bipush 10, 2) := by decide +kernel
theorem dX5_readNumber_27 : decode cX5_readNumber 27 = .ok (.imul, 1) := by decide +kernel
theorem dX5_readNumber_28 : decode cX5_readNumber 28 = .ok (.aload_n 0, 1) := by decide +kernel
theorem dX5_readNumber_29 : decode cX5_readNumber 29 = .ok (.invokevirtual 38, 3) := by decide +kernel
theorem dX5_readNumber_32 : decode cX5_readNumber 32 = .ok (.iadd, 1) := by decide +kernel
theorem dX5_readNumber_33 : decode cX5_readNumber 33 = .ok (.bipush 48, 2) := by decide +kernel
theorem dX5_readNumber_35 : decode cX5_readNumber 35 = .ok (.isub, 1) := by decide +kernel
theorem dX5_readNumber_36 : decode cX5_readNumber 36 = .ok (.istore_n 3, 1) := by decide +kernel
theorem dX5_readNumber_37 : decode cX5_readNumber 37 = .ok (.aload_n 0, 1) := by decide +kernel
theorem dX5_readNumber_38 : decode cX5_readNumber 38 = .ok (.dup, 1) := by decide +kernel
theorem dX5_readNumber_39 : decode cX5_readNumber 39 = .ok (.getfield 19, 3) := by decide +kernel
theorem dX5_readNumber_42 : decode cX5_readNumber 42 = .ok (.iconst 1, 1) := by decide +kernel
theorem dX5_readNumber_43 : decode cX5_readNumber 43 = .ok (.iadd, 1) := by decide +kernel
theorem dX5_readNumber_44 : decode cX5_readNumber 44 = .ok (.putfield 19, 3) := by decide +kernel
theorem dX5_readNumber_47 : decode cX5_readNumber 47 = .ok (.iinc 5 1, 3) := by decide +kernel
theorem dX5_readNumber_50 : decode cX5_readNumber 50 = .ok (.goto (-39), 3) := by decide +kernel
theorem dX5_readNumber_53 : decode cX5_readNumber 53 = .ok (.aload_n 0, 1) := by decide +kernel
theorem dX5_readNumber_54 : decode cX5_readNumber 54 = .ok (.getfield 19, 3) := by decide +kernel
theorem dX5_readNumber_57 : decode cX5_readNumber 57 = .ok (.iload 4, 2) := by decide +kernel
theorem dX5_readNumber_59 : decode cX5_readNumber 59 = .ok (.if_icmp .eq 10, 3) := by decide +kernel
theorem dX5_readNumber_62 : decode cX5_readNumber 62 = .ok (.aload_n 0, 1) := by decide +kernel
theorem dX5_readNumber_63 : decode cX5_readNumber 63 = .ok (.invokevirtual 71, 3) := by decide +kernel
theorem dX5_readNumber_66 : decode cX5_readNumber 66 = .ok (.ifCond .eq 15, 3) := by decide +kernel
theorem dX5_readNumber_69 : decode cX5_readNumber 69 = .ok (.aload_n 0, 1) := by decide +kernel
theorem dX5_readNumber_70 : decode cX5_readNumber 70 = .ok (.iconst 1, 1) := by decide +kernel
theorem dX5_readNumber_71 : decode cX5_readNumber 71 = .ok (.aload_n 0, 1) := by decide +kernel
theorem dX5_readNumber_72 : decode cX5_readNumber 72 = .ok (.getfield 19, 3) := by decide +kernel
theorem dX5_readNumber_75 : decode cX5_readNumber 75 = .ok (.invokevirtual 67, 3) := by decide +kernel
theorem dX5_readNumber_78 : decode cX5_readNumber 78 = .ok (.goto 20, 3) := by decide +kernel
theorem dX5_readNumber_81 : decode cX5_readNumber 81 = .ok (.iload_n 3, 1) := by decide +kernel
theorem dX5_readNumber_82 : decode cX5_readNumber 82 = .ok (.iload_n 1, 1) := by decide +kernel
theorem dX5_readNumber_83 : decode cX5_readNumber 83 = .ok (.if_icmp .lt 8, 3) := by decide +kernel
theorem dX5_readNumber_86 : decode cX5_readNumber 86 = .ok (.iload_n 3, 1) := by decide +kernel
theorem dX5_readNumber_87 : decode cX5_readNumber 87 = .ok (.iload_n 2, 1) := by decide +kernel
theorem dX5_readNumber_88 : decode cX5_readNumber 88 = .ok (.if_icmp .le 10, 3) := by decide +kernel
theorem dX5_readNumber_91 : decode cX5_readNumber 91 = .ok (.aload_n 0, 1) := by decide +kernel
theorem dX5_readNumber_92 : decode cX5_readNumber 92 = .ok (.iconst 2, 1) := by decide +kernel
theorem dX5_readNumber_93 : decode cX5_readNumber 93 = .ok (.iload 4, 2) := by decide +kernel
theorem dX5_readNumber_95 : decode cX5_readNumber 95 = .ok (.invokevirtual 67, 3) := by decide +kernel
theorem dX5_readNumber_98 : decode cX5_readNumber 98 = .ok (.iload_n 3, 1) := by decide +kernel
theorem dX5_readNumber_99 : decode cX5_readNumber 99 = .ok (.ireturn, 1) := by decide +kernel
set_option maxRecDepth 20000 in
theorem ggX5_isDigit_X5_peek : GoodIn wsX5_isDigit wsX5_peek := goodIn_r _ [5, 6, 7, 8, 9, 10, 11, 12, 13, 14, 15] (by decide +kernel) (by decide +kernel)
set_option maxRecDepth 20000 in
theorem gX5_isDigit_X5_peek : GoodIn wsX5_isDigit (wsV RX5 38 RX5 yX5_peek wsX5_peek) := goodIn_app (goodIn_of _ (by decide +kernel)) ggX5_isDigit_X5_peek
theorem dX5_isDigit_0 : decode cX5_isDigit 0 = .ok (.aload_n 0, 1) := by decide +kernel
theorem dX5_isDigit_1 : decode cX5_isDigit 1 = .ok (.invokevirtual 38, 3) := by decide +kernel
theorem dX5_isDigit_4 : decode cX5_isDigit 4 = .ok (.istore_n 1, 1) := by decide +kernel
theorem dX5_isDigit_5 : decode cX5_isDigit 5 = .ok (.iload_n 1, 1) := by decide +kernel
theorem dX5_isDigit_6 : decode cX5_isDigit 6 = .ok (.bipush 48, 2) := by decide +kernel
theorem dX5_isDigit_8 : decode cX5_isDigit 8 = .ok (.if_icmp .lt 13, 3) := by decide +kernel
theorem dX5_isDigit_11 : decode cX5_isDigit 11 = .ok (.iload_n 1, 1) := by decide +kernel
theorem dX5_isDigit_12 : decode cX5_isDigit 12 = .ok (.bipush 57, 2) := by decide +kernel
theorem dX5_isDigit_14 : decode cX5_isDigit 14 = .ok (.if_icmp .gt 7, 3) := by decide +kernel
theorem dX5_isDigit_17 : decode cX5_isDigit 17 = .ok (.iconst 1, 1) := by decide +kernel
theorem dX5_isDigit_18 : decode cX5_isDigit 18 = .ok (.goto 4, 3) := by decide +kernel
theorem dX5_isDigit_21 : decode cX5_isDigit 21 = .ok (.iconst 0, 1) := by decide +kernel
theorem dX5_isDigit_22 : decode cX5_isDigit 22 = .ok (.ireturn, 1) := by decide +kernel
theorem dX5_peek_0 : decode cX5_peek 0 = .ok (.aload_n 0, 1) := by decide +kernel
theorem dX5_peek_1 : decode cX5_peek 1 = .ok (.getfield 19, 3) := by decide +kernel
theorem dX5_peek_4 : decode cX5_peek 4 = .ok (.ifCond .lt 42, 3) := by decide +kernel
theorem dX5_peek_7 : decode cX5_peek 7 = .ok (.aload_n 0, 1) := by decide +kernel
theorem dX5_peek_8 : decode cX5_peek 8 = .ok (.getfield 19, 3) := by decide +kernel
theorem dX5_peek_11 : decode cX5_peek 11 = .ok (.aload_n 0, 1) := by decide +kernel
theorem dX5_peek_12 : decode cX5_peek 12 = .ok (.getfield 15, 3) := by decide +kernel
theorem dX5_peek_15 : decode cX5_peek 15 = .ok (.if_icmp .ge 31, 3) := by decide +kernel
theorem dX5_peek_18 : decode cX5_peek 18 = .ok (.aload_n 0, 1) := by decide +kernel
theorem dX5_peek_19 : decode cX5_peek 19 = .ok (.getfield 19, 3) := by decide +kernel
theorem dX5_peek_22 : decode cX5_peek 22 = .ok (.bipush 80, 2) := by decide +kernel
theorem dX5_peek_24 : decode cX5_peek 24 = .ok (.if_icmp .ge 22, 3) := by decide +kernel
theorem dX5_peek_27 : decode cX5_peek 27 = .ok (.aload_n 0, 1) := by decide +kernel
theorem dX5_peek_28 : decode cX5_peek 28 = .ok (.getfield 9, 3) := by decide +kernel
theorem dX5_peek_31 : decode cX5_peek 31 = .ok (.getfield 74, 3) := by decide +kernel
theorem dX5_peek_34 : decode cX5_peek 34 = .ok (.aload_n 0, 1) := by decide +kernel
theorem dX5_peek_35 : decode cX5_peek 35 = .ok (.getfield 19, 3) := by decide +kernel
theorem dX5_peek_38 : decode cX5_peek 38 = .ok (.baload, 1) := by decide +kernel
theorem dX5_peek_39 : decode cX5_peek 39 = .ok (.sipush 255, 3) := by decide +kernel
theorem dX5_peek_42 : decode cX5_peek 42 = .ok (.iand, 1) := by decide +kernel
theorem dX5_peek_43 : decode cX5_peek 43 = .ok (.goto 4, 3) := by decide +kernel
theorem dX5_peek_46 : decode cX5_peek 46 = .ok (.iconst (-1), 1) := by decide +kernel
theorem dX5_peek_47 : decode cX5_peek 47 = .ok (.ireturn, 1) := by decide +kernel
theorem dX5_fail_0 : decode cX5_fail 0 = .ok (.aload_n 0, 1) := by decide +kernel
theorem dX5_fail_1 : decode cX5_fail 1 = .ok (.bipush 100, 2) := by decide +kernel
theorem dX5_fail_3 : decode cX5_fail 3 = .ok (.iload_n 1, 1) := by decide +kernel
theorem dX5_fail_4 : decode cX5_fail 4 = .ok (.imul, 1) := by decide +kernel
theorem dX5_fail_5 : decode cX5_fail 5 = .ok (.iload_n 2, 1) := by decide +kernel
theorem dX5_fail_6 : decode cX5_fail 6 = .ok (.iadd, 1) := by decide +kernel
theorem dX5_fail_7 : decode cX5_fail 7 = .ok (.putfield 22, 3) := by decide +kernel
theorem dX5_fail_10 : decode cX5_fail 10 = .ok (.return_, 1) := by decide +kernel
theorem dX6_init_0 : decode cX6_init 0 = .ok (.aload_n 0, 1) := by decide +kernel
theorem dX6_init_1 : decode cX6_init 1 = .ok (.invokespecial 3, 3) := by decide +kernel
theorem dX6_init_4 : decode cX6_init 4 = .ok (.aload_n 0, 1) := by decide +kernel
theorem dX6_init_5 : decode cX6_init 5 = .ok (.iconst 0, 1) := by decide +kernel
theorem dX6_init_6 : decode cX6_init 6 = .ok (.putfield 9, 3) := by decide +kernel
theorem dX6_init_9 : decode cX6_init 9 = .ok (.aload_n 0, 1) := by decide +kernel
theorem dX6_init_10 : decode cX6_init 10 = .ok (.iconst 0, 1) := by decide +kernel
theorem dX6_init_11 : decode cX6_init 11 = .ok (.putfield 15, 3) := by decide +kernel
theorem dX6_init_14 : decode cX6_init 14 = .ok (.aload_n 0, 1) := by decide +kernel
theorem dX6_init_15 : decode cX6_init 15 = .ok (.iconst 0, 1) := by decide +kernel
theorem dX6_init_16 : decode cX6_init 16 = .ok (.putfield 18, 3) := by decide +kernel
theorem dX6_init_19 : decode cX6_init 19 = .ok (.aload_n 0, 1) := by decide +kernel
theorem dX6_init_20 : decode cX6_init 20 = .ok (.iconst 0, 1) := by decide +kernel
theorem dX6_init_21 : decode cX6_init 21 = .ok (.putfield 21, 3) := by decide +kernel
theorem dX6_init_24 : decode cX6_init 24 = .ok (.aload_n 0, 1) := by decide +kernel
theorem dX6_init_25 : decode cX6_init 25 = .ok (.iload_n 1, 1) := by decide +kernel
theorem dX6_init_26 : decode cX6_init 26 = .ok (.putfield 24, 3) := by decide +kernel
theorem dX6_init_29 : decode cX6_init 29 = .ok (.aload_n 0, 1) := by decide +kernel
theorem dX6_init_30 : decode cX6_init 30 = .ok (.iload_n 2, 1) := by decide +kernel
theorem dX6_init_31 : decode cX6_init 31 = .ok (.putfield 27, 3) := by decide +kernel
theorem dX6_init_34 : decode cX6_init 34 = .ok (.aload_n 0, 1) := by decide +kernel
theorem dX6_init_35 : decode cX6_init 35 = .ok (.iload_n 3, 1) := by decide +kernel
theorem dX6_init_36 : decode cX6_init 36 = .ok (.putfield 30, 3) := by decide +kernel
theorem dX6_init_39 : decode cX6_init 39 = .ok (.aload_n 0, 1) := by decide +kernel
theorem dX6_init_40 : decode cX6_init 40 = .ok (.iload 4, 2) := by decide +kernel
theorem dX6_init_42 : decode cX6_init 42 = .ok (.putfield 33, 3) := by decide +kernel
theorem dX6_init_45 : decode cX6_init 45 = .ok (.aload_n 0, 1) := by decide +kernel
theorem dX6_init_46 : decode cX6_init 46 = .ok (.aload 5, 2) := by decide +kernel
theorem dX6_init_48 : decode cX6_init 48 = .ok (.ifnonnull 7, 3) := by decide +kernel
theorem dX6_init_51 : decode cX6_init 51 = .ok (.iconst 0, 1) := by decide +kernel
theorem dX6_init_52 : decode cX6_init 52 = .ok (.goto 8, 3) := by decide +kernel
theorem dX6_init_55 : decode cX6_init 55 = .ok (.aload 5, 2) := by decide +kernel
theorem dX6_init_57 : decode cX6_init 57 = .ok (.getfield 36, 3) := by decide +kernel
theorem dX6_init_60 : decode cX6_init 60 = .ok (.putfield 41, 3) := by decide +kernel
theorem dX6_init_63 : decode cX6_init 63 = .ok (.aload_n 0, 1) := by decide +kernel
theorem dX6_init_64 : decode cX6_init 64 = .ok (.aload 5, 2) := by decide +kernel
theorem dX6_init_66 : decode cX6_init 66 = .ok (.ifnonnull 7, 3) := by decide +kernel
theorem dX6_init_69 : decode cX6_init 69 = .ok (.iconst 0, 1) := by decide +kernel
theorem dX6_init_70 : decode cX6_init 70 = .ok (.goto 8, 3) := by decide +kernel
theorem dX6_init_73 : decode cX6_init 73 = .ok (.aload 5, 2) := by decide +kernel
theorem dX6_init_75 : decode cX6_init 75 = .ok (.getfield 42, 3) := by decide +kernel
theorem dX6_init_78 : decode cX6_init 78 = .ok (.putfield 45, 3) := by decide +kernel
theorem dX6_init_81 : decode cX6_init 81 = .ok (.return_, 1) := by decide +kernel
theorem dX6_stands_0 : decode cX6_stands 0 = .ok (.aload_n 0, 1) := by decide +kernel
theorem dX6_stands_1 : decode cX6_stands 1 = .ok (.getfield 9, 3) := by decide +kernel
theorem dX6_stands_4 : decode cX6_stands 4 = .ok (.ifCond .eq 19, 3) := by decide +kernel
theorem dX6_stands_7 : decode cX6_stands 7 = .ok (.aload_n 0, 1) := by decide +kernel
theorem dX6_stands_8 : decode cX6_stands 8 = .ok (.getfield 9, 3) := by decide +kernel
theorem dX6_stands_11 : decode cX6_stands 11 = .ok (.iconst 1, 1) := by decide +kernel
theorem dX6_stands_12 : decode cX6_stands 12 = .ok (.if_icmp .eq 11, 3) := by decide +kernel
theorem dX6_stands_15 : decode cX6_stands 15 = .ok (.aload_n 0, 1) := by decide +kernel
theorem dX6_stands_16 : decode cX6_stands 16 = .ok (.getfield 9, 3) := by decide +kernel
theorem dX6_stands_19 : decode cX6_stands 19 = .ok (.iconst 2, 1) := by decide +kernel
theorem dX6_stands_20 : decode cX6_stands 20 = .ok (.if_icmp .ne 7, 3) := by decide +kernel
theorem dX6_stands_23 : decode cX6_stands 23 = .ok (.iconst 1, 1) := by decide +kernel
theorem dX6_stands_24 : decode cX6_stands 24 = .ok (.goto 4, 3) := by decide +kernel
theorem dX6_stands_27 : decode cX6_stands 27 = .ok (.iconst 0, 1) := by decide +kernel
theorem dX6_stands_28 : decode cX6_stands 28 = .ok (.ireturn, 1) := by decide +kernel
theorem dX6_hold_0 : decode cX6_hold 0 = .ok (.aload_n 0, 1) := by decide +kernel
theorem dX6_hold_1 : decode cX6_hold 1 = .ok (.iconst 1, 1) := by decide +kernel
theorem dX6_hold_2 : decode cX6_hold 2 = .ok (.putfield 9, 3) := by decide +kernel
theorem dX6_hold_5 : decode cX6_hold 5 = .ok (.aload_n 0, 1) := by decide +kernel
theorem dX6_hold_6 : decode cX6_hold 6 = .ok (.aload_n 0, 1) := by decide +kernel
theorem dX6_hold_7 : decode cX6_hold 7 = .ok (.getfield 41, 3) := by decide +kernel
theorem dX6_hold_10 : decode cX6_hold 10 = .ok (.putfield 18, 3) := by decide +kernel
theorem dX6_hold_13 : decode cX6_hold 13 = .ok (.return_, 1) := by decide +kernel
theorem dX6_lose_0 : decode cX6_lose 0 = .ok (.aload_n 0, 1) := by decide +kernel
theorem dX6_lose_1 : decode cX6_lose 1 = .ok (.iconst 2, 1) := by decide +kernel
theorem dX6_lose_2 : decode cX6_lose 2 = .ok (.putfield 9, 3) := by decide +kernel
theorem dX6_lose_5 : decode cX6_lose 5 = .ok (.aload_n 0, 1) := by decide +kernel
theorem dX6_lose_6 : decode cX6_lose 6 = .ok (.iload_n 1, 1) := by decide +kernel
theorem dX6_lose_7 : decode cX6_lose 7 = .ok (.putfield 15, 3) := by decide +kernel
theorem dX6_lose_10 : decode cX6_lose 10 = .ok (.return_, 1) := by decide +kernel
theorem dX6_moveTo_0 : decode cX6_moveTo 0 = .ok (.aload_n 0, 1) := by decide +kernel
theorem dX6_moveTo_1 : decode cX6_moveTo 1 = .ok (.iload_n 1, 1) := by decide +kernel
theorem dX6_moveTo_2 : decode cX6_moveTo 2 = .ok (.putfield 30, 3) := by decide +kernel
theorem dX6_moveTo_5 : decode cX6_moveTo 5 = .ok (.aload_n 0, 1) := by decide +kernel
theorem dX6_moveTo_6 : decode cX6_moveTo 6 = .ok (.iload_n 2, 1) := by decide +kernel
theorem dX6_moveTo_7 : decode cX6_moveTo 7 = .ok (.putfield 33, 3) := by decide +kernel
theorem dX6_moveTo_10 : decode cX6_moveTo 10 = .ok (.aload_n 0, 1) := by decide +kernel
theorem dX6_moveTo_11 : decode cX6_moveTo 11 = .ok (.dup, 1) := by decide +kernel
theorem dX6_moveTo_12 : decode cX6_moveTo 12 = .ok (.getfield 21, 3) := by decide +kernel
theorem dX6_moveTo_15 : decode cX6_moveTo 15 = .ok (.iconst 1, 1) := by decide +kernel
theorem dX6_moveTo_16 : decode cX6_moveTo 16 = .ok (.iadd, 1) := by decide +kernel
theorem dX6_moveTo_17 : decode cX6_moveTo 17 = .ok (.putfield 21, 3) := by decide +kernel
theorem dX6_moveTo_20 : decode cX6_moveTo 20 = .ok (.return_, 1) := by decide +kernel
theorem dX7_init_0 : decode cX7_init 0 = .ok (.aload_n 0, 1) := by decide +kernel
theorem dX7_init_1 : decode cX7_init 1 = .ok (.invokespecial 3, 3) := by decide +kernel
theorem dX7_init_4 : decode cX7_init 4 = .ok (.aload_n 0, 1) := by decide +kernel
theorem dX7_init_5 : decode cX7_init 5 = .ok (.bipush 80, 2) := by decide +kernel
theorem dX7_init_7 : decode cX7_init 7 = .ok (.newarray .byte, 2) := by decide +kernel
theorem dX7_init_9 : decode cX7_init 9 = .ok (.putfield 9, 3) := by decide +kernel
theorem dX7_init_12 : decode cX7_init 12 = .ok (.aload_n 0, 1) := by decide +kernel
theorem dX7_init_13 : decode cX7_init 13 = .ok (.iconst 0, 1) := by decide +kernel
theorem dX7_init_14 : decode cX7_init 14 = .ok (.putfield 15, 3) := by decide +kernel
theorem dX7_init_17 : decode cX7_init 17 = .ok (.return_, 1) := by decide +kernel
set_option maxRecDepth 20000 in
theorem ggX7_addWord_X8_isBelow : GoodIn wsX7_addWord wsX8_isBelow := goodIn_r _ [5] (by decide +kernel) (by decide +kernel)
set_option maxRecDepth 20000 in
theorem gX7_addWord_X8_isBelow_n19 : GoodIn wsX7_addWord (wsX8_isBelow) := ggX7_addWord_X8_isBelow
theorem dX7_addWord_0 : decode cX7_addWord 0 = .ok (.bipush 24, 2) := by decide +kernel
theorem dX7_addWord_2 : decode cX7_addWord 2 = .ok (.istore_n 2, 1) := by decide +kernel
theorem dX7_addWord_3 : decode cX7_addWord 3 = .ok (.iload_n 2, 1) := by decide +kernel
theorem dX7_addWord_4 : decode cX7_addWord 4 = .ok (.ifCond .lt 44, 3) := by decide +kernel
theorem dX7_addWord_7 : decode cX7_addWord 7 = .ok (.aload_n 0, 1) := by decide +kernel
theorem dX7_addWord_8 : decode cX7_addWord 8 = .ok (.getfield 15, 3) := by decide +kernel
theorem dX7_addWord_11 : decode cX7_addWord 11 = .ok (.bipush 80, 2) := by decide +kernel
theorem dX7_addWord_13 : decode cX7_addWord 13 = .ok (.invokestatic 19, 3) := by decide +kernel
theorem dX7_addWord_16 : decode cX7_addWord 16 = .ok (.ifCond .eq 26, 3) := by decide +kernel
theorem dX7_addWord_19 : decode cX7_addWord 19 = .ok (.aload_n 0, 1) := by decide +kernel
theorem dX7_addWord_20 : decode cX7_addWord 20 = .ok (.getfield 9, 3) := by decide +kernel
theorem dX7_addWord_23 : decode cX7_addWord 23 = .ok (.aload_n 0, 1) := by decide +kernel
theorem dX7_addWord_24 : decode cX7_addWord 24 = .ok (.getfield 15, 3) := by decide +kernel
theorem dX7_addWord_27 : decode cX7_addWord 27 = .ok (.iload_n 1, 1) := by decide +kernel
theorem dX7_addWord_28 : decode cX7_addWord 28 = .ok (.iload_n 2, 1) := by decide +kernel
theorem dX7_addWord_29 : decode cX7_addWord 29 = .ok (.ishr, 1) := by decide +kernel
theorem dX7_addWord_30 : decode cX7_addWord 30 = .ok (.i2b, 1) := by decide +kernel
theorem dX7_addWord_31 : decode cX7_addWord 31 = .ok (.bastore, 1) := by decide +kernel
theorem dX7_addWord_32 : decode cX7_addWord 32 = .ok (.aload_n 0, 1) := by decide +kernel
theorem dX7_addWord_33 : decode cX7_addWord 33 = .ok (.dup, 1) := by decide +kernel
theorem dX7_addWord_34 : decode cX7_addWord 34 = .ok (.getfield 15, 3) := by decide +kernel
theorem dX7_addWord_37 : decode cX7_addWord 37 = .ok (.iconst 1, 1) := by decide +kernel
theorem dX7_addWord_38 : decode cX7_addWord 38 = .ok (.iadd, 1) := by decide +kernel
theorem dX7_addWord_39 : decode cX7_addWord 39 = .ok (.putfield 15, 3) := by decide +kernel
theorem dX7_addWord_42 : decode cX7_addWord 42 = .ok (.iinc 2 (-8), 3) := by decide +kernel
theorem dX7_addWord_45 : decode cX7_addWord 45 = .ok (.goto (-42), 3) := by decide +kernel
theorem dX7_addWord_48 : decode cX7_addWord 48 = .ok (.return_, 1) := by decide +kernel
end
section
set_option maxRecDepth 20000 in
theorem ggX8_init_X1_init : GoodIn wsX8_init wsX1_init := goodIn_r _ [38, 39, 2, 3, 40, 41, 42, 43, 44, 45, 46, 47, 48, 49, 50, 51, 52, 53, 54, 55, 56, 57, 157, 98, 99, 100, 101, 102, 103, 104, 105, 106, 107] (by decide +kernel) (by decide +kernel)
set_option maxRecDepth 20000 in
theorem gX8_init_X1_init_n9 : GoodIn wsX8_init (wsX1_init) := ggX8_init_X1_init
set_option maxRecDepth 20000 in
theorem ggX8_init_X4_init : GoodIn wsX8_init wsX4_init := goodIn_r _ [59, 60, 2, 3, 61, 62, 63, 64, 65, 66, 67, 126, 127, 128, 129, 130, 131] (by decide +kernel) (by decide +kernel)
set_option maxRecDepth 20000 in
theorem gX8_init_X4_init_n25 : GoodIn wsX8_init (wsX4_init) := ggX8_init_X4_init
set_option maxRecDepth 20000 in
theorem ggX8_init_X7_init : GoodIn wsX8_init wsX7_init := goodIn_r _ [69, 70, 2, 3, 71, 72, 73, 132, 133] (by decide +kernel) (by decide +kernel)
set_option maxRecDepth 20000 in
theorem gX8_init_X7_init_n38 : GoodIn wsX8_init (wsX7_init) := ggX8_init_X7_init
set_option maxRecDepth 20000 in
theorem ggX8_init_X5_init : GoodIn wsX8_init wsX5_init := goodIn_r _ [76, 77, 2, 3, 78, 134, 135, 136, 137] (by decide +kernel) (by decide +kernel)
set_option maxRecDepth 20000 in
theorem gX8_init_X5_init : GoodIn wsX8_init (wsX5_init) := ggX8_init_X5_init
set_option maxRecDepth 20000 in
theorem ggX8_init_X2_init : GoodIn wsX8_init wsX2_init := goodIn_r _ [81, 82, 2, 3, 83, 84, 15, 85, 86, 87, 88, 89, 138, 139, 140, 141, 142, 143, 144, 145, 146, 147] (by decide +kernel) (by decide +kernel)
set_option maxRecDepth 20000 in
theorem gX8_init_X2_init : GoodIn wsX8_init (wsX2_init) := ggX8_init_X2_init
set_option maxRecDepth 20000 in
theorem ggX8_init_X3_init : GoodIn wsX8_init wsX3_init := goodIn_r _ [91, 92, 2, 3, 15, 93, 94, 95, 96, 97, 148, 149, 150, 151, 152, 153, 154, 155, 156] (by decide +kernel) (by decide +kernel)
set_option maxRecDepth 20000 in
theorem gX8_init_X3_init_n63 : GoodIn wsX8_init (wsX3_init) := ggX8_init_X3_init
theorem dX8_init_0 : decode cX8_init 0 = .ok (.aload_n 0, 1) := by decide +kernel
theorem dX8_init_1 : decode cX8_init 1 = .ok (.invokespecial 1, 3) := by decide +kernel
theorem dX8_init_4 : decode cX8_init 4 = .ok (.aload_n 0, 1) := by decide +kernel
theorem dX8_init_5 : decode cX8_init 5 = .ok (.new 7, 3) := by decide +kernel
theorem dX8_init_8 : decode cX8_init 8 = .ok (.dup, 1) := by decide +kernel
theorem dX8_init_9 : decode cX8_init 9 = .ok (.invokespecial 9, 3) := by decide +kernel
theorem dX8_init_12 : decode cX8_init 12 = .ok (.putfield 10, 3) := by decide +kernel
theorem dX8_init_15 : decode cX8_init 15 = .ok (.aload_n 0, 1) := by decide +kernel
theorem dX8_init_16 : decode cX8_init 16 = .ok (.new 7, 3) := by decide +kernel
theorem dX8_init_19 : decode cX8_init 19 = .ok (.dup, 1) := by decide +kernel
theorem dX8_init_20 : decode cX8_init 20 = .ok (.invokespecial 9, 3) := by decide +kernel
theorem dX8_init_23 : decode cX8_init 23 = .ok (.putfield 16, 3) := by decide +kernel
theorem dX8_init_26 : decode cX8_init 26 = .ok (.aload_n 0, 1) := by decide +kernel
theorem dX8_init_27 : decode cX8_init 27 = .ok (.bipush 6, 2) := by decide +kernel
theorem dX8_init_29 : decode cX8_init 29 = .ok (.anewarray 19, 3) := by decide +kernel
theorem dX8_init_32 : decode cX8_init 32 = .ok (.putfield 21, 3) := by decide +kernel
theorem dX8_init_35 : decode cX8_init 35 = .ok (.new 19, 3) := by decide +kernel
theorem dX8_init_38 : decode cX8_init 38 = .ok (.dup, 1) := by decide +kernel
theorem dX8_init_39 : decode cX8_init 39 = .ok (.invokespecial 25, 3) := by decide +kernel
theorem dX8_init_42 : decode cX8_init 42 = .ok (.astore_n 1, 1) := by decide +kernel
theorem dX8_init_43 : decode cX8_init 43 = .ok (.iconst 0, 1) := by decide +kernel
theorem dX8_init_44 : decode cX8_init 44 = .ok (.istore_n 2, 1) := by decide +kernel
theorem dX8_init_45 : decode cX8_init 45 = .ok (.iload_n 2, 1) := by decide +kernel
theorem dX8_init_46 : decode cX8_init 46 = .ok (.bipush 6, 2) := by decide +kernel
theorem dX8_init_48 : decode cX8_init 48 = .ok (.if_icmp .ge 16, 3) := by decide +kernel
theorem dX8_init_51 : decode cX8_init 51 = .ok (.aload_n 0, 1) := by decide +kernel
theorem dX8_init_52 : decode cX8_init 52 = .ok (.getfield 21, 3) := by decide +kernel
theorem dX8_init_55 : decode cX8_init 55 = .ok (.iload_n 2, 1) := by decide +kernel
theorem dX8_init_56 : decode cX8_init 56 = .ok (.aload_n 1, 1) := by decide +kernel
theorem dX8_init_57 : decode cX8_init 57 = .ok (.aastore, 1) := by decide +kernel
theorem dX8_init_58 : decode cX8_init 58 = .ok (.iinc 2 1, 3) := by decide +kernel
theorem dX8_init_61 : decode cX8_init 61 = .ok (.goto (-16), 3) := by decide +kernel
theorem dX8_init_64 : decode cX8_init 64 = .ok (.aload_n 0, 1) := by decide +kernel
theorem dX8_init_65 : decode cX8_init 65 = .ok (.sipush 200, 3) := by decide +kernel
theorem dX8_init_68 : decode cX8_init 68 = .ok (.anewarray 26, 3) := by decide +kernel
theorem dX8_init_71 : decode cX8_init 71 = .ok (.putfield 28, 3) := by decide +kernel
theorem dX8_init_74 : decode cX8_init 74 = .ok (.aload_n 0, 1) := by decide +kernel
theorem dX8_init_75 : decode cX8_init 75 = .ok (.bipush 24, 2) := by decide +kernel
theorem dX8_init_77 : decode cX8_init 77 = .ok (.newarray .int, 2) := by decide +kernel
theorem dX8_init_79 : decode cX8_init 79 = .ok (.putfield 32, 3) := by decide +kernel
theorem dX8_init_82 : decode cX8_init 82 = .ok (.iconst 0, 1) := by decide +kernel
theorem dX8_init_83 : decode cX8_init 83 = .ok (.istore_n 2, 1) := by decide +kernel
theorem dX8_init_84 : decode cX8_init 84 = .ok (.iload_n 2, 1) := by decide +kernel
theorem dX8_init_85 : decode cX8_init 85 = .ok (.bipush 24, 2) := by decide +kernel
theorem dX8_init_87 : decode cX8_init 87 = .ok (.if_icmp .ge 17, 3) := by decide +kernel
theorem dX8_init_90 : decode cX8_init 90 = .ok (.aload_n 0, 1) := by decide +kernel
theorem dX8_init_91 : decode cX8_init 91 = .ok (.getfield 32, 3) := by decide +kernel
theorem dX8_init_94 : decode cX8_init 94 = .ok (.iload_n 2, 1) := by decide +kernel
theorem dX8_init_95 : decode cX8_init 95 = .ok (.bipush 10, 2) := by decide +kernel
theorem dX8_init_97 : decode cX8_init 97 = .ok (.iastore, 1) := by decide +kernel
theorem dX8_init_98 : decode cX8_init 98 = .ok (.iinc 2 1, 3) := by decide +kernel
theorem dX8_init_101 : decode cX8_init 101 = .ok (.goto (-17), 3) := by decide +kernel
theorem dX8_init_104 : decode cX8_init 104 = .ok (.aload_n 0, 1) := by decide +kernel
theorem dX8_init_105 : decode cX8_init 105 = .ok (.new 36, 3) := by decide +kernel
theorem dX8_init_108 : decode cX8_init 108 = .ok (.dup, 1) := by decide +kernel
theorem dX8_init_109 : decode cX8_init 109 = .ok (.invokespecial 38, 3) := by decide +kernel
theorem dX8_init_112 : decode cX8_init 112 = .ok (.putfield 39, 3) := by decide +kernel
theorem dX8_init_115 : decode cX8_init 115 = .ok (.aload_n 0, 1) := by decide +kernel
theorem dX8_init_116 : decode cX8_init 116 = .ok (.new 43, 3) := by decide +kernel
theorem dX8_init_119 : decode cX8_init 119 = .ok (.dup, 1) := by decide +kernel
theorem dX8_init_120 : decode cX8_init 120 = .ok (.aload_n 0, 1) := by decide +kernel
theorem dX8_init_121 : decode cX8_init 121 = .ok (.getfield 39, 3) := by decide +kernel
theorem dX8_init_124 : decode cX8_init 124 = .ok (.invokespecial 45, 3) := by decide +kernel
theorem dX8_init_127 : decode cX8_init 127 = .ok (.putfield 48, 3) := by decide +kernel
theorem dX8_init_130 : decode cX8_init 130 = .ok (.aload_n 0, 1) := by decide +kernel
theorem dX8_init_131 : decode cX8_init 131 = .ok (.new 52, 3) := by decide +kernel
theorem dX8_init_134 : decode cX8_init 134 = .ok (.dup, 1) := by decide +kernel
theorem dX8_init_135 : decode cX8_init 135 = .ok (.aload_n 0, 1) := by decide +kernel
theorem dX8_init_136 : decode cX8_init 136 = .ok (.getfield 10, 3) := by decide +kernel
theorem dX8_init_139 : decode cX8_init 139 = .ok (.aload_n 0, 1) := by decide +kernel
theorem dX8_init_140 : decode cX8_init 140 = .ok (.getfield 16, 3) := by decide +kernel
theorem dX8_init_143 : decode cX8_init 143 = .ok (.invokespecial 54, 3) := by decide +kernel
theorem dX8_init_146 : decode cX8_init 146 = .ok (.putfield 57, 3) := by decide +kernel
theorem dX8_init_149 : decode cX8_init 149 = .ok (.aload_n 0, 1) := by decide +kernel
theorem dX8_init_150 : decode cX8_init 150 = .ok (.new 61, 3) := by decide +kernel
theorem dX8_init_153 : decode cX8_init 153 = .ok (.dup, 1) := by decide +kernel
theorem dX8_init_154 : decode cX8_init 154 = .ok (.invokespecial 63, 3) := by decide +kernel
theorem dX8_init_157 : decode cX8_init 157 = .ok (.putfield 64, 3) := by decide +kernel
theorem dX8_init_160 : decode cX8_init 160 = .ok (.aload_n 0, 1) := by decide +kernel
theorem dX8_init_161 : decode cX8_init 161 = .ok (.sipush 200, 3) := by decide +kernel
theorem dX8_init_164 : decode cX8_init 164 = .ok (.putfield 68, 3) := by decide +kernel
theorem dX8_init_167 : decode cX8_init 167 = .ok (.aload_n 0, 1) := by decide +kernel
theorem dX8_init_168 : decode cX8_init 168 = .ok (.sipush 400, 3) := by decide +kernel
theorem dX8_init_171 : decode cX8_init 171 = .ok (.putfield 72, 3) := by decide +kernel
theorem dX8_init_174 : decode cX8_init 174 = .ok (.aload_n 0, 1) := by decide +kernel
theorem dX8_init_175 : decode cX8_init 175 = .ok (.iconst 3, 1) := by decide +kernel
theorem dX8_init_176 : decode cX8_init 176 = .ok (.putfield 75, 3) := by decide +kernel
theorem dX8_init_179 : decode cX8_init 179 = .ok (.aload_n 0, 1) := by decide +kernel
theorem dX8_init_180 : decode cX8_init 180 = .ok (.iconst 2, 1) := by decide +kernel
theorem dX8_init_181 : decode cX8_init 181 = .ok (.putfield 78, 3) := by decide +kernel
theorem dX8_init_184 : decode cX8_init 184 = .ok (.return_, 1) := by decide +kernel
set_option maxRecDepth 20000 in
theorem ggX8_feed_X7_addWord : GoodIn wsX8_feed wsX7_addWord := goodIn_r _ [7, 8, 9, 10, 11, 12, 31, 32] (by decide +kernel) (by decide +kernel)
set_option maxRecDepth 20000 in
theorem gX8_feed_X7_addWord : GoodIn wsX8_feed (wsV RX8 84 RX7 yX7_addWord wsX7_addWord) := goodIn_app (goodIn_of _ (by decide +kernel)) ggX8_feed_X7_addWord
theorem dX8_feed_0 : decode cX8_feed 0 = .ok (.aload_n 0, 1) := by decide +kernel
theorem dX8_feed_1 : decode cX8_feed 1 = .ok (.getfield 39, 3) := by decide +kernel
theorem dX8_feed_4 : decode cX8_feed 4 = .ok (.getfield 81, 3) := by decide +kernel
theorem dX8_feed_7 : decode cX8_feed 7 = .ok (.bipush 20, 2) := by decide +kernel
theorem dX8_feed_9 : decode cX8_feed 9 = .ok (.iadd, 1) := by decide +kernel
theorem dX8_feed_10 : decode cX8_feed 10 = .ok (.bipush 80, 2) := by decide +kernel
theorem dX8_feed_12 : decode cX8_feed 12 = .ok (.if_icmp .le 5, 3) := by decide +kernel
theorem dX8_feed_15 : decode cX8_feed 15 = .ok (.iconst (-1), 1) := by decide +kernel
theorem dX8_feed_16 : decode cX8_feed 16 = .ok (.ireturn, 1) := by decide +kernel
theorem dX8_feed_17 : decode cX8_feed 17 = .ok (.aload_n 0, 1) := by decide +kernel
theorem dX8_feed_18 : decode cX8_feed 18 = .ok (.getfield 39, 3) := by decide +kernel
theorem dX8_feed_21 : decode cX8_feed 21 = .ok (.iload_n 1, 1) := by decide +kernel
theorem dX8_feed_22 : decode cX8_feed 22 = .ok (.invokevirtual 84, 3) := by decide +kernel
theorem dX8_feed_25 : decode cX8_feed 25 = .ok (.aload_n 0, 1) := by decide +kernel
theorem dX8_feed_26 : decode cX8_feed 26 = .ok (.getfield 39, 3) := by decide +kernel
theorem dX8_feed_29 : decode cX8_feed 29 = .ok (.iload_n 2, 1) := by decide +kernel
theorem dX8_feed_30 : decode cX8_feed 30 = .ok (.invokevirtual 84, 3) := by decide +kernel
theorem dX8_feed_33 : decode cX8_feed 33 = .ok (.aload_n 0, 1) := by decide +kernel
theorem dX8_feed_34 : decode cX8_feed 34 = .ok (.getfield 39, 3) := by decide +kernel
theorem dX8_feed_37 : decode cX8_feed 37 = .ok (.iload_n 3, 1) := by decide +kernel
theorem dX8_feed_38 : decode cX8_feed 38 = .ok (.invokevirtual 84, 3) := by decide +kernel
theorem dX8_feed_41 : decode cX8_feed 41 = .ok (.aload_n 0, 1) := by decide +kernel
theorem dX8_feed_42 : decode cX8_feed 42 = .ok (.getfield 39, 3) := by decide +kernel
theorem dX8_feed_45 : decode cX8_feed 45 = .ok (.iload 4, 2) := by decide +kernel
theorem dX8_feed_47 : decode cX8_feed 47 = .ok (.invokevirtual 84, 3) := by decide +kernel
theorem dX8_feed_50 : decode cX8_feed 50 = .ok (.aload_n 0, 1) := by decide +kernel
theorem dX8_feed_51 : decode cX8_feed 51 = .ok (.getfield 39, 3) := by decide +kernel
theorem dX8_feed_54 : decode cX8_feed 54 = .ok (.iload 5, 2) := by decide +kernel
theorem dX8_feed_56 : decode cX8_feed 56 = .ok (.invokevirtual 84, 3) := by decide +kernel
theorem dX8_feed_59 : decode cX8_feed 59 = .ok (.aload_n 0, 1) := by decide +kernel
theorem dX8_feed_60 : decode cX8_feed 60 = .ok (.getfield 39, 3) := by decide +kernel
theorem dX8_feed_63 : decode cX8_feed 63 = .ok (.getfield 81, 3) := by decide +kernel
theorem dX8_feed_66 : decode cX8_feed 66 = .ok (.ireturn, 1) := by decide +kernel
set_option maxRecDepth 20000 in
theorem ggX8_rights_X8_isBelow : GoodIn wsX8_rights wsX8_isBelow := goodIn_r _ [11] (by decide +kernel) (by decide +kernel)
set_option maxRecDepth 20000 in
theorem gX8_rights_X8_isBelow : GoodIn wsX8_rights (va_wsS RX8 88 yX8_isBelow wsX8_isBelow) := goodIn_app (goodIn_of _ (by decide +kernel)) ggX8_rights_X8_isBelow
set_option maxRecDepth 20000 in
theorem ggX8_rights_X4_init : GoodIn wsX8_rights wsX4_init := goodIn_r _ [13, 14, 15, 16, 17, 18, 19, 20, 21, 22, 23, 92, 93, 94, 95, 96, 97] (by decide +kernel) (by decide +kernel)
set_option maxRecDepth 20000 in
theorem gX8_rights_X4_init_n25 : GoodIn wsX8_rights (wsX4_init) := ggX8_rights_X4_init
set_option maxRecDepth 20000 in
theorem ggX8_rights_X5_readInto : GoodIn wsX8_rights wsX5_readInto := goodIn_r _ [28, 29, 30, 31, 32, 33, 34, 35, 27, 36, 37, 38, 39, 40, 41, 42, 43, 44, 45, 46, 47, 48, 49, 50, 51, 52, 53, 54, 55, 56, 57, 58, 59, 60, 61, 62, 63, 64, 65, 66, 67, 68, 69, 70, 71, 98, 99, 100, 101, 92, 93, 94, 95, 96, 97, 90, 91] (by decide +kernel) (by decide +kernel)
set_option maxRecDepth 20000 in
theorem gX8_rights_X5_readInto : GoodIn wsX8_rights (wsV RX8 92 RX5 yX5_readInto wsX5_readInto) := goodIn_app (goodIn_of _ (by decide +kernel)) ggX8_rights_X5_readInto
theorem dX8_rights_0 : decode cX8_rights 0 = .ok (.iload_n 1, 1) := by decide +kernel
theorem dX8_rights_1 : decode cX8_rights 1 = .ok (.bipush 6, 2) := by decide +kernel
theorem dX8_rights_3 : decode cX8_rights 3 = .ok (.invokestatic 88, 3) := by decide +kernel
theorem dX8_rights_6 : decode cX8_rights 6 = .ok (.ifCond .eq 18, 3) := by decide +kernel
theorem dX8_rights_9 : decode cX8_rights 9 = .ok (.iload_n 2, 1) := by decide +kernel
theorem dX8_rights_10 : decode cX8_rights 10 = .ok (.ifCond .lt 14, 3) := by decide +kernel
theorem dX8_rights_13 : decode cX8_rights 13 = .ok (.iload_n 2, 1) := by decide +kernel
theorem dX8_rights_14 : decode cX8_rights 14 = .ok (.aload_n 0, 1) := by decide +kernel
theorem dX8_rights_15 : decode cX8_rights 15 = .ok (.getfield 39, 3) := by decide +kernel
theorem dX8_rights_18 : decode cX8_rights 18 = .ok (.getfield 81, 3) := by decide +kernel
theorem dX8_rights_21 : decode cX8_rights 21 = .ok (.if_icmp .le 5, 3) := by decide +kernel
theorem dX8_rights_24 : decode cX8_rights 24 = .ok (.iconst (-1), 1) := by decide +kernel
theorem dX8_rights_25 : decode cX8_rights 25 = .ok (.ireturn, 1) := by decide +kernel
theorem dX8_rights_26 : decode cX8_rights 26 = .ok (.new 19, 3) := by decide +kernel
theorem dX8_rights_29 : decode cX8_rights 29 = .ok (.dup, 1) := by decide +kernel
theorem dX8_rights_30 : decode cX8_rights 30 = .ok (.invokespecial 25, 3) := by decide +kernel
theorem dX8_rights_33 : decode cX8_rights 33 = .ok (.astore_n 3, 1) := by decide +kernel
theorem dX8_rights_34 : decode cX8_rights 34 = .ok (.aload_n 0, 1) := by decide +kernel
theorem dX8_rights_35 : decode cX8_rights 35 = .ok (.getfield 48, 3) := by decide +kernel
theorem dX8_rights_38 : decode cX8_rights 38 = .ok (.aload_n 3, 1) := by decide +kernel
theorem dX8_rights_39 : decode cX8_rights 39 = .ok (.iload_n 2, 1) := by decide +kernel
theorem dX8_rights_40 : decode cX8_rights 40 = .ok (.invokevirtual 92, 3) := by decide +kernel
theorem dX8_rights_43 : decode cX8_rights 43 = .ok (.istore 4, 2) := by decide +kernel
theorem dX8_rights_45 : decode cX8_rights 45 = .ok (.aload_n 0, 1) := by decide +kernel
theorem dX8_rights_46 : decode cX8_rights 46 = .ok (.getfield 39, 3) := by decide +kernel
theorem dX8_rights_49 : decode cX8_rights 49 = .ok (.iconst 0, 1) := by decide +kernel
theorem dX8_rights_50 : decode cX8_rights 50 = .ok (.putfield 81, 3) := by decide +kernel
theorem dX8_rights_53 : decode cX8_rights 53 = .ok (.iload 4, 2) := by decide +kernel
theorem dX8_rights_55 : decode cX8_rights 55 = .ok (.ifCond .ne 10, 3) := by decide +kernel
theorem dX8_rights_58 : decode cX8_rights 58 = .ok (.aload_n 0, 1) := by decide +kernel
theorem dX8_rights_59 : decode cX8_rights 59 = .ok (.getfield 21, 3) := by decide +kernel
theorem dX8_rights_62 : decode cX8_rights 62 = .ok (.iload_n 1, 1) := by decide +kernel
theorem dX8_rights_63 : decode cX8_rights 63 = .ok (.aload_n 3, 1) := by decide +kernel
theorem dX8_rights_64 : decode cX8_rights 64 = .ok (.aastore, 1) := by decide +kernel
theorem dX8_rights_65 : decode cX8_rights 65 = .ok (.iload 4, 2) := by decide +kernel
theorem dX8_rights_67 : decode cX8_rights 67 = .ok (.ireturn, 1) := by decide +kernel
theorem dX8_most_0 : decode cX8_most 0 = .ok (.iload_n 1, 1) := by decide +kernel
theorem dX8_most_1 : decode cX8_most 1 = .ok (.iconst 1, 1) := by decide +kernel
theorem dX8_most_2 : decode cX8_most 2 = .ok (.if_icmp .lt 10, 3) := by decide +kernel
theorem dX8_most_5 : decode cX8_most 5 = .ok (.iload_n 1, 1) := by decide +kernel
theorem dX8_most_6 : decode cX8_most 6 = .ok (.sipush 2000, 3) := by decide +kernel
theorem dX8_most_9 : decode cX8_most 9 = .ok (.if_icmp .le 5, 3) := by decide +kernel
theorem dX8_most_12 : decode cX8_most 12 = .ok (.iconst 0, 1) := by decide +kernel
theorem dX8_most_13 : decode cX8_most 13 = .ok (.ireturn, 1) := by decide +kernel
theorem dX8_most_14 : decode cX8_most 14 = .ok (.aload_n 0, 1) := by decide +kernel
theorem dX8_most_15 : decode cX8_most 15 = .ok (.iload_n 1, 1) := by decide +kernel
theorem dX8_most_16 : decode cX8_most 16 = .ok (.putfield 72, 3) := by decide +kernel
theorem dX8_most_19 : decode cX8_most 19 = .ok (.iconst 1, 1) := by decide +kernel
theorem dX8_most_20 : decode cX8_most 20 = .ok (.ireturn, 1) := by decide +kernel
theorem dX8_compressors_0 : decode cX8_compressors 0 = .ok (.iload_n 1, 1) := by decide +kernel
theorem dX8_compressors_1 : decode cX8_compressors 1 = .ok (.ifCond .lt 8, 3) := by decide +kernel
theorem dX8_compressors_4 : decode cX8_compressors 4 = .ok (.iload_n 1, 1) := by decide +kernel
theorem dX8_compressors_5 : decode cX8_compressors 5 = .ok (.iconst 3, 1) := by decide +kernel
theorem dX8_compressors_6 : decode cX8_compressors 6 = .ok (.if_icmp .le 5, 3) := by decide +kernel
theorem dX8_compressors_9 : decode cX8_compressors 9 = .ok (.iconst 0, 1) := by decide +kernel
theorem dX8_compressors_10 : decode cX8_compressors 10 = .ok (.ireturn, 1) := by decide +kernel
theorem dX8_compressors_11 : decode cX8_compressors 11 = .ok (.aload_n 0, 1) := by decide +kernel
theorem dX8_compressors_12 : decode cX8_compressors 12 = .ok (.iload_n 1, 1) := by decide +kernel
theorem dX8_compressors_13 : decode cX8_compressors 13 = .ok (.putfield 75, 3) := by decide +kernel
theorem dX8_compressors_16 : decode cX8_compressors 16 = .ok (.iconst 1, 1) := by decide +kernel
theorem dX8_compressors_17 : decode cX8_compressors 17 = .ok (.ireturn, 1) := by decide +kernel
set_option maxRecDepth 20000 in
theorem ggX8_price_X8_isBelow : GoodIn wsX8_price wsX8_isBelow := goodIn_r _ [5] (by decide +kernel) (by decide +kernel)
set_option maxRecDepth 20000 in
theorem gX8_price_X8_isBelow : GoodIn wsX8_price (va_wsS RX8 88 yX8_isBelow wsX8_isBelow) := goodIn_app (goodIn_of _ (by decide +kernel)) ggX8_price_X8_isBelow
theorem dX8_price_0 : decode cX8_price 0 = .ok (.iload_n 1, 1) := by decide +kernel
theorem dX8_price_1 : decode cX8_price 1 = .ok (.bipush 24, 2) := by decide +kernel
theorem dX8_price_3 : decode cX8_price 3 = .ok (.invokestatic 88, 3) := by decide +kernel
theorem dX8_price_6 : decode cX8_price 6 = .ok (.ifCond .eq 13, 3) := by decide +kernel
theorem dX8_price_9 : decode cX8_price 9 = .ok (.iload_n 2, 1) := by decide +kernel
theorem dX8_price_10 : decode cX8_price 10 = .ok (.ifCond .lt 9, 3) := by decide +kernel
theorem dX8_price_13 : decode cX8_price 13 = .ok (.iload_n 2, 1) := by decide +kernel
theorem dX8_price_14 : decode cX8_price 14 = .ok (.bipush 99, 2) := by decide +kernel
theorem dX8_price_16 : decode cX8_price 16 = .ok (.if_icmp .le 5, 3) := by decide +kernel
theorem dX8_price_19 : decode cX8_price 19 = .ok (.iconst 0, 1) := by decide +kernel
theorem dX8_price_20 : decode cX8_price 20 = .ok (.ireturn, 1) := by decide +kernel
theorem dX8_price_21 : decode cX8_price 21 = .ok (.aload_n 0, 1) := by decide +kernel
theorem dX8_price_22 : decode cX8_price 22 = .ok (.getfield 32, 3) := by decide +kernel
theorem dX8_price_25 : decode cX8_price 25 = .ok (.iload_n 1, 1) := by decide +kernel
theorem dX8_price_26 : decode cX8_price 26 = .ok (.iload_n 2, 1) := by decide +kernel
theorem dX8_price_27 : decode cX8_price 27 = .ok (.iastore, 1) := by decide +kernel
theorem dX8_price_28 : decode cX8_price 28 = .ok (.iconst 1, 1) := by decide +kernel
theorem dX8_price_29 : decode cX8_price 29 = .ok (.ireturn, 1) := by decide +kernel
theorem dX8_rest_0 : decode cX8_rest 0 = .ok (.iload_n 1, 1) := by decide +kernel
theorem dX8_rest_1 : decode cX8_rest 1 = .ok (.iconst 1, 1) := by decide +kernel
theorem dX8_rest_2 : decode cX8_rest 2 = .ok (.if_icmp .lt 9, 3) := by decide +kernel
theorem dX8_rest_5 : decode cX8_rest 5 = .ok (.iload_n 1, 1) := by decide +kernel
theorem dX8_rest_6 : decode cX8_rest 6 = .ok (.bipush 12, 2) := by decide +kernel
theorem dX8_rest_8 : decode cX8_rest 8 = .ok (.if_icmp .le 5, 3) := by decide +kernel
theorem dX8_rest_11 : decode cX8_rest 11 = .ok (.iconst 0, 1) := by decide +kernel
theorem dX8_rest_12 : decode cX8_rest 12 = .ok (.ireturn, 1) := by decide +kernel
theorem dX8_rest_13 : decode cX8_rest 13 = .ok (.aload_n 0, 1) := by decide +kernel
theorem dX8_rest_14 : decode cX8_rest 14 = .ok (.iload_n 1, 1) := by decide +kernel
theorem dX8_rest_15 : decode cX8_rest 15 = .ok (.putfield 78, 3) := by decide +kernel
theorem dX8_rest_18 : decode cX8_rest 18 = .ok (.iconst 1, 1) := by decide +kernel
theorem dX8_rest_19 : decode cX8_rest 19 = .ok (.ireturn, 1) := by decide +kernel
set_option maxRecDepth 20000 in
theorem ggX8_book_X8_isBelow : GoodIn wsX8_book wsX8_isBelow := goodIn_r _ [14] (by decide +kernel) (by decide +kernel)
set_option maxRecDepth 20000 in
theorem gX8_book_X8_isBelow : GoodIn wsX8_book (va_wsS RX8 88 yX8_isBelow wsX8_isBelow) := goodIn_app (goodIn_of _ (by decide +kernel)) ggX8_book_X8_isBelow
set_option maxRecDepth 20000 in
theorem ggX8_book_X4_let : GoodIn wsX8_book wsX4_let := goodIn_r _ [19, 20, 21, 22, 23, 24, 18, 25, 103, 104, 105, 106, 107, 108] (by decide +kernel) (by decide +kernel)
set_option maxRecDepth 20000 in
theorem gX8_book_X4_let : GoodIn wsX8_book (wsV RX8 102 RX4 yX4_let wsX4_let) := goodIn_app (goodIn_of _ (by decide +kernel)) ggX8_book_X4_let
set_option maxRecDepth 20000 in
theorem ggX8_book_X8_countInWeek : GoodIn wsX8_book wsX8_countInWeek := goodIn_r _ [29, 2, 30, 31, 32, 33, 34, 13, 35, 7, 36, 37, 38, 10, 39, 40, 85, 86, 87, 88, 89, 90, 91, 92, 93, 94, 95, 96, 97, 98, 99, 100, 101, 102, 119, 120, 121, 122, 123, 124, 125, 126, 127, 128] (by decide +kernel) (by decide +kernel)
set_option maxRecDepth 20000 in
theorem gX8_book_X8_countInWeek : GoodIn wsX8_book (wsV RX8 105 RX8 yX8_countInWeek wsX8_countInWeek) := goodIn_app (goodIn_of _ (by decide +kernel)) ggX8_book_X8_countInWeek
set_option maxRecDepth 20000 in
theorem ggX8_book_X8_iceOf : GoodIn wsX8_book wsX8_iceOf := goodIn_r _ [44, 45, 46, 85, 86, 87, 88, 89, 90, 91, 92, 93, 94, 95, 96, 97, 98, 99, 100, 101, 102] (by decide +kernel) (by decide +kernel)
set_option maxRecDepth 20000 in
theorem gX8_book_X8_iceOf : GoodIn wsX8_book (wsV RX8 112 RX8 yX8_iceOf wsX8_iceOf) := goodIn_app (goodIn_of _ (by decide +kernel)) ggX8_book_X8_iceOf
set_option maxRecDepth 20000 in
theorem ggX8_book_X1_hasRoom : GoodIn wsX8_book wsX1_hasRoom := goodIn_r _ [51, 52, 53, 54, 55, 56, 57, 58, 59, 60, 61, 62, 50, 63, 109, 110, 111, 112, 113, 114, 115, 116, 117, 118, 129] (by decide +kernel) (by decide +kernel)
set_option maxRecDepth 20000 in
theorem gX8_book_X1_hasRoom : GoodIn wsX8_book (wsV RX8 116 RX1 yX1_hasRoom wsX1_hasRoom) := goodIn_app (goodIn_of _ (by decide +kernel)) ggX8_book_X1_hasRoom
set_option maxRecDepth 20000 in
theorem ggX8_book_X0_put : GoodIn wsX8_book wsX0_put := goodIn_r _ [67, 59, 129] (by decide +kernel) (by decide +kernel)
set_option maxRecDepth 20000 in
theorem gX8_book_X0_put : GoodIn wsX8_book (wsV RX8 123 RX0 yX0_put wsX0_put) := goodIn_app (goodIn_of _ (by decide +kernel)) ggX8_book_X0_put
set_option maxRecDepth 20000 in
theorem ggX8_book_X6_init : GoodIn wsX8_book wsX6_init := goodIn_r _ [70, 71, 72, 73, 40, 74, 75, 76, 77, 78, 79, 80, 81, 82, 83, 84, 119, 120, 121, 122, 123, 124, 125, 126, 127, 128, 103, 104, 105, 106, 107, 108] (by decide +kernel) (by decide +kernel)
set_option maxRecDepth 20000 in
theorem gX8_book_X6_init : GoodIn wsX8_book (wsX6_init) := ggX8_book_X6_init
theorem dX8_book_0 : decode cX8_book 0 = .ok (.iload_n 1, 1) := by decide +kernel
theorem dX8_book_1 : decode cX8_book 1 = .ok (.bipush 6, 2) := by decide +kernel
theorem dX8_book_3 : decode cX8_book 3 = .ok (.invokestatic 88, 3) := by decide +kernel
theorem dX8_book_6 : decode cX8_book 6 = .ok (.ifCond .eq 19, 3) := by decide +kernel
theorem dX8_book_9 : decode cX8_book 9 = .ok (.iload_n 2, 1) := by decide +kernel
theorem dX8_book_10 : decode cX8_book 10 = .ok (.iconst 4, 1) := by decide +kernel
theorem dX8_book_11 : decode cX8_book 11 = .ok (.invokestatic 88, 3) := by decide +kernel
theorem dX8_book_14 : decode cX8_book 14 = .ok (.ifCond .eq 11, 3) := by decide +kernel
theorem dX8_book_17 : decode cX8_book 17 = .ok (.iload_n 3, 1) := by decide +kernel
theorem dX8_book_18 : decode cX8_book 18 = .ok (.iconst 2, 1) := by decide +kernel
theorem dX8_book_19 : decode cX8_book 19 = .ok (.invokestatic 88, 3) := by decide +kernel
theorem dX8_book_22 : decode cX8_book 22 = .ok (.ifCond .ne 5, 3) := by decide +kernel
theorem dX8_book_25 : decode cX8_book 25 = .ok (.iconst (-1), 1) := by decide +kernel
theorem dX8_book_26 : decode cX8_book 26 = .ok (.ireturn, 1) := by decide +kernel
theorem dX8_book_27 : decode cX8_book 27 = .ok (.iload 4, 2) := by decide +kernel
theorem dX8_book_29 : decode cX8_book 29 = .ok (.aload_n 0, 1) := by decide +kernel
theorem dX8_book_30 : decode cX8_book 30 = .ok (.getfield 96, 3) := by decide +kernel
theorem dX8_book_33 : decode cX8_book 33 = .ok (.if_icmp .lt 26, 3) := by decide +kernel
theorem dX8_book_36 : decode cX8_book 36 = .ok (.iload 4, 2) := by decide +kernel
theorem dX8_book_38 : decode cX8_book 38 = .ok (.aload_n 0, 1) := by decide +kernel
theorem dX8_book_39 : decode cX8_book 39 = .ok (.getfield 96, 3) := by decide +kernel
theorem dX8_book_42 : decode cX8_book 42 = .ok (.sipush 999, 3) := by decide +kernel
theorem dX8_book_45 : decode cX8_book 45 = .ok (.iadd, 1) := by decide +kernel
theorem dX8_book_46 : decode cX8_book 46 = .ok (.if_icmp .gt 13, 3) := by decide +kernel
theorem dX8_book_49 : decode cX8_book 49 = .ok (.aload_n 0, 1) := by decide +kernel
theorem dX8_book_50 : decode cX8_book 50 = .ok (.getfield 99, 3) := by decide +kernel
theorem dX8_book_53 : decode cX8_book 53 = .ok (.sipush 200, 3) := by decide +kernel
theorem dX8_book_56 : decode cX8_book 56 = .ok (.if_icmp .lt 5, 3) := by decide +kernel
theorem dX8_book_59 : decode cX8_book 59 = .ok (.iconst (-1), 1) := by decide +kernel
theorem dX8_book_60 : decode cX8_book 60 = .ok (.ireturn, 1) := by decide +kernel
theorem dX8_book_61 : decode cX8_book 61 = .ok (.aload_n 0, 1) := by decide +kernel
theorem dX8_book_62 : decode cX8_book 62 = .ok (.getfield 21, 3) := by decide +kernel
theorem dX8_book_65 : decode cX8_book 65 = .ok (.iload_n 1, 1) := by decide +kernel
theorem dX8_book_66 : decode cX8_book 66 = .ok (.aaload, 1) := by decide +kernel
theorem dX8_book_67 : decode cX8_book 67 = .ok (.astore 5, 2) := by decide +kernel
theorem dX8_book_69 : decode cX8_book 69 = .ok (.aload 5, 2) := by decide +kernel
theorem dX8_book_71 : decode cX8_book 71 = .ok (.ifnull 14, 3) := by decide +kernel
theorem dX8_book_74 : decode cX8_book 74 = .ok (.aload 5, 2) := by decide +kernel
theorem dX8_book_76 : decode cX8_book 76 = .ok (.iload_n 2, 1) := by decide +kernel
theorem dX8_book_77 : decode cX8_book 77 = .ok (.iload 4, 2) := by decide +kernel
theorem dX8_book_79 : decode cX8_book 79 = .ok (.invokevirtual 102, 3) := by decide +kernel
theorem dX8_book_82 : decode cX8_book 82 = .ok (.ifCond .ne 5, 3) := by decide +kernel
theorem dX8_book_85 : decode cX8_book 85 = .ok (.iconst (-1), 1) := by decide +kernel
theorem dX8_book_86 : decode cX8_book 86 = .ok (.ireturn, 1) := by decide +kernel
theorem dX8_book_87 : decode cX8_book 87 = .ok (.aload_n 0, 1) := by decide +kernel
theorem dX8_book_88 : decode cX8_book 88 = .ok (.iload_n 1, 1) := by decide +kernel
theorem dX8_book_89 : decode cX8_book 89 = .ok (.iload 4, 2) := by decide +kernel
theorem dX8_book_91 : decode cX8_book 91 = .ok (.sipush 168, 3) := by decide +kernel
theorem dX8_book_94 : decode cX8_book 94 = .ok (.idiv, 1) := by decide +kernel
theorem dX8_book_95 : decode cX8_book 95 = .ok (.invokevirtual 105, 3) := by decide +kernel
theorem dX8_book_98 : decode cX8_book 98 = .ok (.aload 5, 2) := by decide +kernel
theorem dX8_book_100 : decode cX8_book 100 = .ok (.getfield 109, 3) := by decide +kernel
theorem dX8_book_103 : decode cX8_book 103 = .ok (.if_icmp .lt 5, 3) := by decide +kernel
theorem dX8_book_106 : decode cX8_book 106 = .ok (.iconst (-1), 1) := by decide +kernel
theorem dX8_book_107 : decode cX8_book 107 = .ok (.ireturn, 1) := by decide +kernel
theorem dX8_book_108 : decode cX8_book 108 = .ok (.aload_n 0, 1) := by decide +kernel
theorem dX8_book_109 : decode cX8_book 109 = .ok (.iload_n 3, 1) := by decide +kernel
theorem dX8_book_110 : decode cX8_book 110 = .ok (.invokevirtual 112, 3) := by decide +kernel
theorem dX8_book_113 : decode cX8_book 113 = .ok (.astore 6, 2) := by decide +kernel
theorem dX8_book_115 : decode cX8_book 115 = .ok (.aload 6, 2) := by decide +kernel
theorem dX8_book_117 : decode cX8_book 117 = .ok (.iload 4, 2) := by decide +kernel
theorem dX8_book_119 : decode cX8_book 119 = .ok (.aload_n 0, 1) := by decide +kernel
theorem dX8_book_120 : decode cX8_book 120 = .ok (.getfield 78, 3) := by decide +kernel
theorem dX8_book_123 : decode cX8_book 123 = .ok (.invokevirtual 116, 3) := by decide +kernel
theorem dX8_book_126 : decode cX8_book 126 = .ok (.ifCond .ne 5, 3) := by decide +kernel
theorem dX8_book_129 : decode cX8_book 129 = .ok (.iconst (-1), 1) := by decide +kernel
theorem dX8_book_130 : decode cX8_book 130 = .ok (.ireturn, 1) := by decide +kernel
theorem dX8_book_131 : decode cX8_book 131 = .ok (.aload 6, 2) := by decide +kernel
theorem dX8_book_133 : decode cX8_book 133 = .ok (.getfield 119, 3) := by decide +kernel
theorem dX8_book_136 : decode cX8_book 136 = .ok (.iload 4, 2) := by decide +kernel
theorem dX8_book_138 : decode cX8_book 138 = .ok (.invokevirtual 123, 3) := by decide +kernel
theorem dX8_book_141 : decode cX8_book 141 = .ok (.aload_n 0, 1) := by decide +kernel
theorem dX8_book_142 : decode cX8_book 142 = .ok (.getfield 28, 3) := by decide +kernel
theorem dX8_book_145 : decode cX8_book 145 = .ok (.aload_n 0, 1) := by decide +kernel
theorem dX8_book_146 : decode cX8_book 146 = .ok (.getfield 99, 3) := by decide +kernel
theorem dX8_book_149 : decode cX8_book 149 = .ok (.new 26, 3) := by decide +kernel
theorem dX8_book_152 : decode cX8_book 152 = .ok (.dup, 1) := by decide +kernel
theorem dX8_book_153 : decode cX8_book 153 = .ok (.iload_n 1, 1) := by decide +kernel
theorem dX8_book_154 : decode cX8_book 154 = .ok (.iload_n 2, 1) := by decide +kernel
theorem dX8_book_155 : decode cX8_book 155 = .ok (.iload_n 3, 1) := by decide +kernel
theorem dX8_book_156 : decode cX8_book 156 = .ok (.iload 4, 2) := by decide +kernel
theorem dX8_book_158 : decode cX8_book 158 = .ok (.aload 5, 2) := by decide +kernel
theorem dX8_book_160 : decode cX8_book 160 = .ok (.invokespecial 128, 3) := by decide +kernel
theorem dX8_book_163 : decode cX8_book 163 = .ok (.aastore, 1) := by decide +kernel
theorem dX8_book_164 : decode cX8_book 164 = .ok (.aload_n 0, 1) := by decide +kernel
theorem dX8_book_165 : decode cX8_book 165 = .ok (.dup, 1) := by decide +kernel
theorem dX8_book_166 : decode cX8_book 166 = .ok (.getfield 99, 3) := by decide +kernel
theorem dX8_book_169 : decode cX8_book 169 = .ok (.iconst 1, 1) := by decide +kernel
theorem dX8_book_170 : decode cX8_book 170 = .ok (.iadd, 1) := by decide +kernel
theorem dX8_book_171 : decode cX8_book 171 = .ok (.putfield 99, 3) := by decide +kernel
theorem dX8_book_174 : decode cX8_book 174 = .ok (.aload_n 0, 1) := by decide +kernel
theorem dX8_book_175 : decode cX8_book 175 = .ok (.getfield 99, 3) := by decide +kernel
theorem dX8_book_178 : decode cX8_book 178 = .ok (.iconst 1, 1) := by decide +kernel
theorem dX8_book_179 : decode cX8_book 179 = .ok (.isub, 1) := by decide +kernel
theorem dX8_book_180 : decode cX8_book 180 = .ok (.ireturn, 1) := by decide +kernel
set_option maxRecDepth 20000 in
theorem ggX8_cancel_X8_sessionOf : GoodIn wsX8_cancel wsX8_sessionOf := goodIn_r _ [12, 13, 14, 48, 49, 50, 51, 52, 53, 54, 55, 56, 57, 58, 59, 60, 61, 62, 63, 64, 65] (by decide +kernel) (by decide +kernel)
set_option maxRecDepth 20000 in
theorem gX8_cancel_X8_sessionOf : GoodIn wsX8_cancel (wsV RX8 131 RX8 yX8_sessionOf wsX8_sessionOf) := goodIn_app (goodIn_of _ (by decide +kernel)) ggX8_cancel_X8_sessionOf
set_option maxRecDepth 20000 in
theorem ggX8_cancel_X8_iceOf : GoodIn wsX8_cancel wsX8_iceOf := goodIn_r _ [18, 19, 20, 48, 49, 50, 51, 52, 53, 54, 55, 56, 57, 58, 59, 60, 61, 62, 63, 64, 65] (by decide +kernel) (by decide +kernel)
set_option maxRecDepth 20000 in
theorem gX8_cancel_X8_iceOf : GoodIn wsX8_cancel (wsV RX8 112 RX8 yX8_iceOf wsX8_iceOf) := goodIn_app (goodIn_of _ (by decide +kernel)) ggX8_cancel_X8_iceOf
set_option maxRecDepth 20000 in
theorem ggX8_cancel_X0_drop : GoodIn wsX8_cancel wsX0_drop := goodIn_r _ [25, 26, 27, 66] (by decide +kernel) (by decide +kernel)
set_option maxRecDepth 20000 in
theorem gX8_cancel_X0_drop : GoodIn wsX8_cancel (wsV RX8 144 RX0 yX0_drop wsX0_drop) := goodIn_app (goodIn_of _ (by decide +kernel)) ggX8_cancel_X0_drop
theorem dX8_cancel_0 : decode cX8_cancel 0 = .ok (.aload_n 0, 1) := by decide +kernel
theorem dX8_cancel_1 : decode cX8_cancel 1 = .ok (.iload_n 1, 1) := by decide +kernel
theorem dX8_cancel_2 : decode cX8_cancel 2 = .ok (.invokevirtual 131, 3) := by decide +kernel
theorem dX8_cancel_5 : decode cX8_cancel 5 = .ok (.astore_n 2, 1) := by decide +kernel
theorem dX8_cancel_6 : decode cX8_cancel 6 = .ok (.aload_n 2, 1) := by decide +kernel
theorem dX8_cancel_7 : decode cX8_cancel 7 = .ok (.ifnull 10, 3) := by decide +kernel
theorem dX8_cancel_10 : decode cX8_cancel 10 = .ok (.aload_n 2, 1) := by decide +kernel
theorem dX8_cancel_11 : decode cX8_cancel 11 = .ok (.getfield 135, 3) := by decide +kernel
theorem dX8_cancel_14 : decode cX8_cancel 14 = .ok (.ifCond .eq 5, 3) := by decide +kernel
theorem dX8_cancel_17 : decode cX8_cancel 17 = .ok (.iconst 0, 1) := by decide +kernel
theorem dX8_cancel_18 : decode cX8_cancel 18 = .ok (.ireturn, 1) := by decide +kernel
theorem dX8_cancel_19 : decode cX8_cancel 19 = .ok (.aload_n 0, 1) := by decide +kernel
theorem dX8_cancel_20 : decode cX8_cancel 20 = .ok (.aload_n 2, 1) := by decide +kernel
theorem dX8_cancel_21 : decode cX8_cancel 21 = .ok (.getfield 138, 3) := by decide +kernel
theorem dX8_cancel_24 : decode cX8_cancel 24 = .ok (.invokevirtual 112, 3) := by decide +kernel
theorem dX8_cancel_27 : decode cX8_cancel 27 = .ok (.getfield 119, 3) := by decide +kernel
theorem dX8_cancel_30 : decode cX8_cancel 30 = .ok (.aload_n 2, 1) := by decide +kernel
theorem dX8_cancel_31 : decode cX8_cancel 31 = .ok (.getfield 141, 3) := by decide +kernel
theorem dX8_cancel_34 : decode cX8_cancel 34 = .ok (.invokevirtual 144, 3) := by decide +kernel
theorem dX8_cancel_37 : decode cX8_cancel 37 = .ok (.aload_n 2, 1) := by decide +kernel
theorem dX8_cancel_38 : decode cX8_cancel 38 = .ok (.iconst 3, 1) := by decide +kernel
theorem dX8_cancel_39 : decode cX8_cancel 39 = .ok (.putfield 135, 3) := by decide +kernel
theorem dX8_cancel_42 : decode cX8_cancel 42 = .ok (.aload_n 2, 1) := by decide +kernel
theorem dX8_cancel_43 : decode cX8_cancel 43 = .ok (.aload_n 2, 1) := by decide +kernel
theorem dX8_cancel_44 : decode cX8_cancel 44 = .ok (.getfield 147, 3) := by decide +kernel
theorem dX8_cancel_47 : decode cX8_cancel 47 = .ok (.aload_n 2, 1) := by decide +kernel
theorem dX8_cancel_48 : decode cX8_cancel 48 = .ok (.getfield 150, 3) := by decide +kernel
theorem dX8_cancel_51 : decode cX8_cancel 51 = .ok (.imul, 1) := by decide +kernel
theorem dX8_cancel_52 : decode cX8_cancel 52 = .ok (.bipush 100, 2) := by decide +kernel
theorem dX8_cancel_54 : decode cX8_cancel 54 = .ok (.idiv, 1) := by decide +kernel
theorem dX8_cancel_55 : decode cX8_cancel 55 = .ok (.putfield 153, 3) := by decide +kernel
theorem dX8_cancel_58 : decode cX8_cancel 58 = .ok (.iconst 1, 1) := by decide +kernel
theorem dX8_cancel_59 : decode cX8_cancel 59 = .ok (.ireturn, 1) := by decide +kernel
set_option maxRecDepth 20000 in
theorem ggX8_cut_X8_isBelow : GoodIn wsX8_cut wsX8_isBelow := goodIn_r _ [4] (by decide +kernel) (by decide +kernel)
set_option maxRecDepth 20000 in
theorem gX8_cut_X8_isBelow : GoodIn wsX8_cut (va_wsS RX8 88 yX8_isBelow wsX8_isBelow) := goodIn_app (goodIn_of _ (by decide +kernel)) ggX8_cut_X8_isBelow
set_option maxRecDepth 20000 in
theorem ggX8_cut_X8_isTenths : GoodIn wsX8_cut wsX8_isTenths := goodIn_r _ [7] (by decide +kernel) (by decide +kernel)
set_option maxRecDepth 20000 in
theorem gX8_cut_X8_isTenths : GoodIn wsX8_cut (va_wsS RX8 156 yX8_isTenths wsX8_isTenths) := goodIn_app (goodIn_of _ (by decide +kernel)) ggX8_cut_X8_isTenths
set_option maxRecDepth 20000 in
theorem ggX8_cut_X8_iceOf : GoodIn wsX8_cut wsX8_iceOf := goodIn_r _ [11, 12, 13, 21, 22, 23, 24, 25, 26, 27, 28, 29, 30, 31, 32, 33, 34, 35, 36, 37, 38] (by decide +kernel) (by decide +kernel)
set_option maxRecDepth 20000 in
theorem gX8_cut_X8_iceOf : GoodIn wsX8_cut (wsV RX8 112 RX8 yX8_iceOf wsX8_iceOf) := goodIn_app (goodIn_of _ (by decide +kernel)) ggX8_cut_X8_iceOf
set_option maxRecDepth 20000 in
theorem ggX8_cut_X1_tellCut : GoodIn wsX8_cut wsX1_tellCut := goodIn_r _ [18, 19, 20, 39, 40, 41, 42, 43, 44, 45, 46, 47, 48] (by decide +kernel) (by decide +kernel)
set_option maxRecDepth 20000 in
theorem gX8_cut_X1_tellCut : GoodIn wsX8_cut (wsV RX8 160 RX1 yX1_tellCut wsX1_tellCut) := goodIn_app (goodIn_of _ (by decide +kernel)) ggX8_cut_X1_tellCut
theorem dX8_cut_0 : decode cX8_cut 0 = .ok (.iload_n 1, 1) := by decide +kernel
theorem dX8_cut_1 : decode cX8_cut 1 = .ok (.iconst 2, 1) := by decide +kernel
theorem dX8_cut_2 : decode cX8_cut 2 = .ok (.invokestatic 88, 3) := by decide +kernel
theorem dX8_cut_5 : decode cX8_cut 5 = .ok (.ifCond .eq 17, 3) := by decide +kernel
theorem dX8_cut_8 : decode cX8_cut 8 = .ok (.iload_n 2, 1) := by decide +kernel
theorem dX8_cut_9 : decode cX8_cut 9 = .ok (.invokestatic 156, 3) := by decide +kernel
theorem dX8_cut_12 : decode cX8_cut 12 = .ok (.ifCond .eq 10, 3) := by decide +kernel
theorem dX8_cut_15 : decode cX8_cut 15 = .ok (.iload_n 3, 1) := by decide +kernel
theorem dX8_cut_16 : decode cX8_cut 16 = .ok (.invokestatic 156, 3) := by decide +kernel
theorem dX8_cut_19 : decode cX8_cut 19 = .ok (.ifCond .ne 5, 3) := by decide +kernel
theorem dX8_cut_22 : decode cX8_cut 22 = .ok (.iconst 0, 1) := by decide +kernel
theorem dX8_cut_23 : decode cX8_cut 23 = .ok (.ireturn, 1) := by decide +kernel
theorem dX8_cut_24 : decode cX8_cut 24 = .ok (.aload_n 0, 1) := by decide +kernel
theorem dX8_cut_25 : decode cX8_cut 25 = .ok (.iload_n 1, 1) := by decide +kernel
theorem dX8_cut_26 : decode cX8_cut 26 = .ok (.invokevirtual 112, 3) := by decide +kernel
theorem dX8_cut_29 : decode cX8_cut 29 = .ok (.iload_n 2, 1) := by decide +kernel
theorem dX8_cut_30 : decode cX8_cut 30 = .ok (.iload_n 3, 1) := by decide +kernel
theorem dX8_cut_31 : decode cX8_cut 31 = .ok (.invokevirtual 160, 3) := by decide +kernel
theorem dX8_cut_34 : decode cX8_cut 34 = .ok (.iconst 1, 1) := by decide +kernel
theorem dX8_cut_35 : decode cX8_cut 35 = .ok (.ireturn, 1) := by decide +kernel
set_option maxRecDepth 20000 in
theorem ggX8_close_X8_isBelow : GoodIn wsX8_close wsX8_isBelow := goodIn_r _ [10] (by decide +kernel) (by decide +kernel)
set_option maxRecDepth 20000 in
theorem gX8_close_X8_isBelow : GoodIn wsX8_close (va_wsS RX8 88 yX8_isBelow wsX8_isBelow) := goodIn_app (goodIn_of _ (by decide +kernel)) ggX8_close_X8_isBelow
set_option maxRecDepth 20000 in
theorem ggX8_close_X8_iceOf : GoodIn wsX8_close wsX8_iceOf := goodIn_r _ [14, 15, 16, 137, 138, 139, 140, 141, 142, 143, 144, 145, 146, 147, 148, 149, 150, 151, 152, 153, 154] (by decide +kernel) (by decide +kernel)
set_option maxRecDepth 20000 in
theorem gX8_close_X8_iceOf : GoodIn wsX8_close (wsV RX8 112 RX8 yX8_iceOf wsX8_iceOf) := goodIn_app (goodIn_of _ (by decide +kernel)) ggX8_close_X8_iceOf
set_option maxRecDepth 20000 in
theorem ggX8_close_X8_gatherSessions : GoodIn wsX8_close wsX8_gatherSessions := goodIn_r _ [20, 5, 21, 22, 23, 24, 25, 26, 27, 28, 29, 30, 31, 32, 9, 33, 34, 35, 36, 37, 38, 39, 40, 41, 42, 43, 44, 45, 8, 10, 137, 138, 139, 140, 141, 142, 143, 144, 145, 146, 147, 148, 149, 150, 151, 152, 153, 154, 165, 166, 167, 168, 169, 170, 171, 172, 173, 174, 175, 176, 177, 178, 179, 180, 181, 182, 183, 184] (by decide +kernel) (by decide +kernel)
set_option maxRecDepth 20000 in
theorem gX8_close_X8_gatherSessions : GoodIn wsX8_close (wsV RX8 167 RX8 yX8_gatherSessions wsX8_gatherSessions) := goodIn_app (goodIn_of _ (by decide +kernel)) ggX8_close_X8_gatherSessions
set_option maxRecDepth 20000 in
theorem ggX8_close_X0_drop : GoodIn wsX8_close wsX0_drop := goodIn_r _ [50, 51, 52, 185] (by decide +kernel) (by decide +kernel)
set_option maxRecDepth 20000 in
theorem gX8_close_X0_drop : GoodIn wsX8_close (wsV RX8 144 RX0 yX0_drop wsX0_drop) := goodIn_app (goodIn_of _ (by decide +kernel)) ggX8_close_X0_drop
set_option maxRecDepth 20000 in
theorem ggX8_close_X0_put : GoodIn wsX8_close wsX0_put := goodIn_r _ [56, 51, 185] (by decide +kernel) (by decide +kernel)
set_option maxRecDepth 20000 in
theorem gX8_close_X0_put : GoodIn wsX8_close (wsV RX8 123 RX0 yX0_put wsX0_put) := goodIn_app (goodIn_of _ (by decide +kernel)) ggX8_close_X0_put
set_option maxRecDepth 20000 in
theorem ggX8_close_X2_search : GoodIn wsX8_close wsX2_search := goodIn_r _ [60, 61, 62, 63, 29, 64, 65, 66, 67, 27, 68, 69, 70, 71, 72, 73, 74, 75, 76, 45, 77, 8, 9, 10, 78, 79, 80, 81, 82, 83, 84, 85, 86, 87, 88, 89, 90, 91, 92, 93, 94, 95, 96, 49, 97, 51, 98, 99, 100, 101, 102, 103, 104, 105, 106, 107, 108, 109, 110, 111, 112, 113, 114, 115, 116, 117, 118, 119, 120, 121, 122, 123, 54, 55, 56, 124, 47, 48, 50, 52, 175, 176, 177, 178, 179, 180, 181, 182, 183, 184, 165, 166, 167, 168, 169, 170, 171, 172, 173, 174, 155, 156, 157, 158, 159, 160, 161, 162, 163, 164, 185] (by decide +kernel) (by decide +kernel)
set_option maxRecDepth 20000 in
theorem gX8_close_X2_search : GoodIn wsX8_close (wsV RX8 174 RX2 yX2_search wsX2_search) := goodIn_app (goodIn_of _ (by decide +kernel)) ggX8_close_X2_search
set_option maxRecDepth 20000 in
theorem ggX8_close_X2_carryOut : GoodIn wsX8_close wsX2_carryOut := goodIn_r _ [128, 29, 45, 118, 129, 113, 73, 74, 75, 27, 76, 77, 8, 9, 10, 78, 79, 80, 81, 82, 83, 84, 85, 86, 123, 54, 55, 49, 56, 51, 130, 131, 132, 38, 133, 134, 135, 136, 175, 176, 177, 178, 179, 180, 181, 182, 183, 184, 165, 166, 167, 168, 169, 170, 171, 172, 173, 174, 155, 156, 157, 158, 159, 160, 161, 162, 163, 164, 185] (by decide +kernel) (by decide +kernel)
set_option maxRecDepth 20000 in
theorem gX8_close_X2_carryOut : GoodIn wsX8_close (wsV RX8 177 RX2 yX2_carryOut wsX2_carryOut) := goodIn_app (goodIn_of _ (by decide +kernel)) ggX8_close_X2_carryOut
theorem dX8_close_0 : decode cX8_close 0 = .ok (.iload_n 1, 1) := by decide +kernel
theorem dX8_close_1 : decode cX8_close 1 = .ok (.iconst 2, 1) := by decide +kernel
theorem dX8_close_2 : decode cX8_close 2 = .ok (.invokestatic 88, 3) := by decide +kernel
theorem dX8_close_5 : decode cX8_close 5 = .ok (.ifCond .eq 28, 3) := by decide +kernel
theorem dX8_close_8 : decode cX8_close 8 = .ok (.iload_n 2, 1) := by decide +kernel
theorem dX8_close_9 : decode cX8_close 9 = .ok (.aload_n 0, 1) := by decide +kernel
theorem dX8_close_10 : decode cX8_close 10 = .ok (.getfield 96, 3) := by decide +kernel
theorem dX8_close_13 : decode cX8_close 13 = .ok (.if_icmp .lt 20, 3) := by decide +kernel
theorem dX8_close_16 : decode cX8_close 16 = .ok (.iload_n 3, 1) := by decide +kernel
theorem dX8_close_17 : decode cX8_close 17 = .ok (.iload_n 2, 1) := by decide +kernel
theorem dX8_close_18 : decode cX8_close 18 = .ok (.if_icmp .le 15, 3) := by decide +kernel
theorem dX8_close_21 : decode cX8_close 21 = .ok (.iload_n 3, 1) := by decide +kernel
theorem dX8_close_22 : decode cX8_close 22 = .ok (.aload_n 0, 1) := by decide +kernel
theorem dX8_close_23 : decode cX8_close 23 = .ok (.getfield 96, 3) := by decide +kernel
theorem dX8_close_26 : decode cX8_close 26 = .ok (.sipush 1000, 3) := by decide +kernel
theorem dX8_close_29 : decode cX8_close 29 = .ok (.iadd, 1) := by decide +kernel
theorem dX8_close_30 : decode cX8_close 30 = .ok (.if_icmp .le 5, 3) := by decide +kernel
theorem dX8_close_33 : decode cX8_close 33 = .ok (.iconst (-1), 1) := by decide +kernel
theorem dX8_close_34 : decode cX8_close 34 = .ok (.ireturn, 1) := by decide +kernel
theorem dX8_close_35 : decode cX8_close 35 = .ok (.aload_n 0, 1) := by decide +kernel
theorem dX8_close_36 : decode cX8_close 36 = .ok (.iload_n 1, 1) := by decide +kernel
theorem dX8_close_37 : decode cX8_close 37 = .ok (.invokevirtual 112, 3) := by decide +kernel
theorem dX8_close_40 : decode cX8_close 40 = .ok (.astore 4, 2) := by decide +kernel
theorem dX8_close_42 : decode cX8_close 42 = .ok (.iload_n 3, 1) := by decide +kernel
theorem dX8_close_43 : decode cX8_close 43 = .ok (.iload_n 2, 1) := by decide +kernel
theorem dX8_close_44 : decode cX8_close 44 = .ok (.isub, 1) := by decide +kernel
theorem dX8_close_45 : decode cX8_close 45 = .ok (.bipush 100, 2) := by decide +kernel
theorem dX8_close_47 : decode cX8_close 47 = .ok (.if_icmp .gt 13, 3) := by decide +kernel
theorem dX8_close_50 : decode cX8_close 50 = .ok (.aload 4, 2) := by decide +kernel
theorem dX8_close_52 : decode cX8_close 52 = .ok (.getfield 164, 3) := by decide +kernel
theorem dX8_close_55 : decode cX8_close 55 = .ok (.bipush 10, 2) := by decide +kernel
theorem dX8_close_57 : decode cX8_close 57 = .ok (.if_icmp .lt 5, 3) := by decide +kernel
theorem dX8_close_60 : decode cX8_close 60 = .ok (.iconst (-1), 1) := by decide +kernel
theorem dX8_close_61 : decode cX8_close 61 = .ok (.ireturn, 1) := by decide +kernel
theorem dX8_close_62 : decode cX8_close 62 = .ok (.aload_n 0, 1) := by decide +kernel
theorem dX8_close_63 : decode cX8_close 63 = .ok (.iload_n 1, 1) := by decide +kernel
theorem dX8_close_64 : decode cX8_close 64 = .ok (.iload_n 2, 1) := by decide +kernel
theorem dX8_close_65 : decode cX8_close 65 = .ok (.iload_n 3, 1) := by decide +kernel
theorem dX8_close_66 : decode cX8_close 66 = .ok (.invokevirtual 167, 3) := by decide +kernel
theorem dX8_close_69 : decode cX8_close 69 = .ok (.ifCond .ne 5, 3) := by decide +kernel
theorem dX8_close_72 : decode cX8_close 72 = .ok (.iconst (-1), 1) := by decide +kernel
theorem dX8_close_73 : decode cX8_close 73 = .ok (.ireturn, 1) := by decide +kernel
theorem dX8_close_74 : decode cX8_close 74 = .ok (.aload 4, 2) := by decide +kernel
theorem dX8_close_76 : decode cX8_close 76 = .ok (.dup, 1) := by decide +kernel
theorem dX8_close_77 : decode cX8_close 77 = .ok (.getfield 164, 3) := by decide +kernel
theorem dX8_close_80 : decode cX8_close 80 = .ok (.iconst 1, 1) := by decide +kernel
theorem dX8_close_81 : decode cX8_close 81 = .ok (.iadd, 1) := by decide +kernel
theorem dX8_close_82 : decode cX8_close 82 = .ok (.putfield 164, 3) := by decide +kernel
theorem dX8_close_85 : decode cX8_close 85 = .ok (.iload_n 2, 1) := by decide +kernel
theorem dX8_close_86 : decode cX8_close 86 = .ok (.istore 5, 2) := by decide +kernel
theorem dX8_close_88 : decode cX8_close 88 = .ok (.iload 5, 2) := by decide +kernel
theorem dX8_close_90 : decode cX8_close 90 = .ok (.iload_n 3, 1) := by decide +kernel
theorem dX8_close_91 : decode cX8_close 91 = .ok (.if_icmp .ge 29, 3) := by decide +kernel
theorem dX8_close_94 : decode cX8_close 94 = .ok (.aload 4, 2) := by decide +kernel
theorem dX8_close_96 : decode cX8_close 96 = .ok (.getfield 119, 3) := by decide +kernel
theorem dX8_close_99 : decode cX8_close 99 = .ok (.iload 5, 2) := by decide +kernel
theorem dX8_close_101 : decode cX8_close 101 = .ok (.invokevirtual 144, 3) := by decide +kernel
theorem dX8_close_104 : decode cX8_close 104 = .ok (.aload 4, 2) := by decide +kernel
theorem dX8_close_106 : decode cX8_close 106 = .ok (.getfield 171, 3) := by decide +kernel
theorem dX8_close_109 : decode cX8_close 109 = .ok (.iload 5, 2) := by decide +kernel
theorem dX8_close_111 : decode cX8_close 111 = .ok (.invokevirtual 123, 3) := by decide +kernel
theorem dX8_close_114 : decode cX8_close 114 = .ok (.iinc 5 1, 3) := by decide +kernel
theorem dX8_close_117 : decode cX8_close 117 = .ok (.goto (-29), 3) := by decide +kernel
theorem dX8_close_120 : decode cX8_close 120 = .ok (.aload_n 0, 1) := by decide +kernel
theorem dX8_close_121 : decode cX8_close 121 = .ok (.getfield 57, 3) := by decide +kernel
theorem dX8_close_124 : decode cX8_close 124 = .ok (.aload_n 0, 1) := by decide +kernel
theorem dX8_close_125 : decode cX8_close 125 = .ok (.getfield 96, 3) := by decide +kernel
theorem dX8_close_128 : decode cX8_close 128 = .ok (.aload_n 0, 1) := by decide +kernel
theorem dX8_close_129 : decode cX8_close 129 = .ok (.getfield 78, 3) := by decide +kernel
theorem dX8_close_132 : decode cX8_close 132 = .ok (.invokevirtual 174, 3) := by decide +kernel
theorem dX8_close_135 : decode cX8_close 135 = .ok (.aload_n 0, 1) := by decide +kernel
theorem dX8_close_136 : decode cX8_close 136 = .ok (.getfield 57, 3) := by decide +kernel
theorem dX8_close_139 : decode cX8_close 139 = .ok (.invokevirtual 177, 3) := by decide +kernel
theorem dX8_close_142 : decode cX8_close 142 = .ok (.ireturn, 1) := by decide +kernel
set_option maxRecDepth 20000 in
theorem ggX8_step_X8_isWarmth : GoodIn wsX8_step wsX8_isWarmth := goodIn_r _ [6] (by decide +kernel) (by decide +kernel)
set_option maxRecDepth 20000 in
theorem gX8_step_X8_isWarmth : GoodIn wsX8_step (va_wsS RX8 181 yX8_isWarmth wsX8_isWarmth) := goodIn_app (goodIn_of _ (by decide +kernel)) ggX8_step_X8_isWarmth
set_option maxRecDepth 20000 in
theorem ggX8_step_X8_runCompressors : GoodIn wsX8_step wsX8_runCompressors := goodIn_r _ [10, 11, 12, 2, 13, 14, 15, 124, 125, 126, 127, 128, 129, 130, 131, 132, 133, 134, 135, 136, 137, 138, 139, 140, 141] (by decide +kernel) (by decide +kernel)
set_option maxRecDepth 20000 in
theorem gX8_step_X8_runCompressors : GoodIn wsX8_step (wsV RX8 184 RX8 yX8_runCompressors wsX8_runCompressors) := goodIn_app (goodIn_of _ (by decide +kernel)) ggX8_step_X8_runCompressors
set_option maxRecDepth 20000 in
theorem ggX8_step_X8_wantOfWarmth : GoodIn wsX8_step wsX8_wantOfWarmth := goodIn_r _ [18] (by decide +kernel) (by decide +kernel)
set_option maxRecDepth 20000 in
theorem gX8_step_X8_wantOfWarmth : GoodIn wsX8_step (va_wsS RX8 187 yX8_wantOfWarmth wsX8_wantOfWarmth) := goodIn_app (goodIn_of _ (by decide +kernel)) ggX8_step_X8_wantOfWarmth
set_option maxRecDepth 20000 in
theorem ggX8_step_X8_passHour : GoodIn wsX8_step wsX8_passHour := goodIn_r _ [22, 2, 13, 23, 24, 25, 26, 27, 28, 29, 30, 5, 31, 32, 33, 34, 35, 36, 37, 38, 39, 40, 41, 42, 43, 44, 45, 46, 47, 48, 49, 50, 51, 52, 53, 54, 55, 56, 57, 58, 59, 60, 61, 62, 63, 64, 65, 66, 67, 68, 69, 70, 71, 72, 73, 74, 75, 76, 77, 78, 79, 80, 81, 82, 83, 84, 85, 86, 87, 88, 89, 90, 91, 92, 93, 94, 95, 96, 97, 98, 99, 100, 101, 102, 103, 104, 105, 106, 107, 108, 109, 110, 111, 112, 113, 114, 115, 116, 117, 118, 119, 120, 121, 122, 123, 124, 125, 126, 127, 128, 129, 130, 131, 132, 133, 134, 135, 136, 137, 138, 139, 140, 141, 142, 143, 144, 145, 146, 147, 148, 149, 150, 151, 152, 153, 154, 155, 156, 157, 158, 159, 160, 161, 162] (by decide +kernel) (by decide +kernel)
set_option maxRecDepth 20000 in
theorem gX8_step_X8_passHour : GoodIn wsX8_step (wsV RX8 191 RX8 yX8_passHour wsX8_passHour) := goodIn_app (goodIn_of _ (by decide +kernel)) ggX8_step_X8_passHour
theorem dX8_step_0 : decode cX8_step 0 = .ok (.iload_n 1, 1) := by decide +kernel
theorem dX8_step_1 : decode cX8_step 1 = .ok (.invokestatic 181, 3) := by decide +kernel
theorem dX8_step_4 : decode cX8_step 4 = .ok (.ifCond .eq 25, 3) := by decide +kernel
theorem dX8_step_7 : decode cX8_step 7 = .ok (.iload_n 2, 1) := by decide +kernel
theorem dX8_step_8 : decode cX8_step 8 = .ok (.ifCond .lt 21, 3) := by decide +kernel
theorem dX8_step_11 : decode cX8_step 11 = .ok (.iload_n 2, 1) := by decide +kernel
theorem dX8_step_12 : decode cX8_step 12 = .ok (.aload_n 0, 1) := by decide +kernel
theorem dX8_step_13 : decode cX8_step 13 = .ok (.getfield 75, 3) := by decide +kernel
theorem dX8_step_16 : decode cX8_step 16 = .ok (.if_icmp .gt 13, 3) := by decide +kernel
theorem dX8_step_19 : decode cX8_step 19 = .ok (.aload_n 0, 1) := by decide +kernel
theorem dX8_step_20 : decode cX8_step 20 = .ok (.getfield 96, 3) := by decide +kernel
theorem dX8_step_23 : decode cX8_step 23 = .ok (.sipush 990, 3) := by decide +kernel
theorem dX8_step_26 : decode cX8_step 26 = .ok (.if_icmp .lt 5, 3) := by decide +kernel
theorem dX8_step_29 : decode cX8_step 29 = .ok (.iconst (-1), 1) := by decide +kernel
theorem dX8_step_30 : decode cX8_step 30 = .ok (.ireturn, 1) := by decide +kernel
theorem dX8_step_31 : decode cX8_step 31 = .ok (.aload_n 0, 1) := by decide +kernel
theorem dX8_step_32 : decode cX8_step 32 = .ok (.iload_n 2, 1) := by decide +kernel
theorem dX8_step_33 : decode cX8_step 33 = .ok (.invokevirtual 184, 3) := by decide +kernel
theorem dX8_step_36 : decode cX8_step 36 = .ok (.iload_n 1, 1) := by decide +kernel
theorem dX8_step_37 : decode cX8_step 37 = .ok (.invokestatic 187, 3) := by decide +kernel
theorem dX8_step_40 : decode cX8_step 40 = .ok (.istore_n 3, 1) := by decide +kernel
theorem dX8_step_41 : decode cX8_step 41 = .ok (.aload_n 0, 1) := by decide +kernel
theorem dX8_step_42 : decode cX8_step 42 = .ok (.iconst 0, 1) := by decide +kernel
theorem dX8_step_43 : decode cX8_step 43 = .ok (.iload_n 3, 1) := by decide +kernel
theorem dX8_step_44 : decode cX8_step 44 = .ok (.invokevirtual 191, 3) := by decide +kernel
theorem dX8_step_47 : decode cX8_step 47 = .ok (.aload_n 0, 1) := by decide +kernel
theorem dX8_step_48 : decode cX8_step 48 = .ok (.iconst 1, 1) := by decide +kernel
theorem dX8_step_49 : decode cX8_step 49 = .ok (.iload_n 3, 1) := by decide +kernel
theorem dX8_step_50 : decode cX8_step 50 = .ok (.invokevirtual 191, 3) := by decide +kernel
theorem dX8_step_53 : decode cX8_step 53 = .ok (.aload_n 0, 1) := by decide +kernel
theorem dX8_step_54 : decode cX8_step 54 = .ok (.dup, 1) := by decide +kernel
theorem dX8_step_55 : decode cX8_step 55 = .ok (.getfield 96, 3) := by decide +kernel
theorem dX8_step_58 : decode cX8_step 58 = .ok (.iconst 1, 1) := by decide +kernel
theorem dX8_step_59 : decode cX8_step 59 = .ok (.iadd, 1) := by decide +kernel
theorem dX8_step_60 : decode cX8_step 60 = .ok (.putfield 96, 3) := by decide +kernel
theorem dX8_step_63 : decode cX8_step 63 = .ok (.aload_n 0, 1) := by decide +kernel
theorem dX8_step_64 : decode cX8_step 64 = .ok (.getfield 96, 3) := by decide +kernel
theorem dX8_step_67 : decode cX8_step 67 = .ok (.ireturn, 1) := by decide +kernel
set_option maxRecDepth 20000 in
theorem ggX8_plan_X8_isWarmth : GoodIn wsX8_plan wsX8_isWarmth := goodIn_r _ [10] (by decide +kernel) (by decide +kernel)
set_option maxRecDepth 20000 in
theorem gX8_plan_X8_isWarmth : GoodIn wsX8_plan (va_wsS RX8 181 yX8_isWarmth wsX8_isWarmth) := goodIn_app (goodIn_of _ (by decide +kernel)) ggX8_plan_X8_isWarmth
set_option maxRecDepth 20000 in
theorem ggX8_plan_X3_begin : GoodIn wsX8_plan wsX3_begin := goodIn_r _ [15, 16, 121, 122, 123, 124, 125, 126, 127, 128, 129] (by decide +kernel) (by decide +kernel)
set_option maxRecDepth 20000 in
theorem gX8_plan_X3_begin : GoodIn wsX8_plan (wsV RX8 194 RX3 yX3_begin wsX3_begin) := goodIn_app (goodIn_of _ (by decide +kernel)) ggX8_plan_X3_begin
set_option maxRecDepth 20000 in
theorem ggX8_plan_X8_standingAt : GoodIn wsX8_plan wsX8_standingAt := goodIn_r _ [20, 21, 22, 23, 9, 24, 25, 26, 27, 28, 29, 30, 31, 32, 33, 34, 35, 36, 37, 38, 39, 40, 41, 42, 43, 44, 45, 46, 47, 48, 49, 50, 51, 130, 131, 132, 133, 134, 135, 136, 137, 138, 139, 103, 104, 105, 106, 107, 108, 109, 110, 111, 112, 113, 114, 115, 116, 117, 118, 119, 120, 140, 141, 142, 143, 144, 145, 146, 147, 148, 149, 150] (by decide +kernel) (by decide +kernel)
set_option maxRecDepth 20000 in
theorem gX8_plan_X8_standingAt : GoodIn wsX8_plan (wsV RX8 197 RX8 yX8_standingAt wsX8_standingAt) := goodIn_app (goodIn_of _ (by decide +kernel)) ggX8_plan_X8_standingAt
set_option maxRecDepth 20000 in
theorem ggX8_plan_X8_heatOf : GoodIn wsX8_plan wsX8_heatOf := goodIn_r _ [54, 55, 56, 57, 58, 9, 59, 60, 61, 62, 140, 141, 142, 143, 144, 145, 146, 147, 148, 149] (by decide +kernel) (by decide +kernel)
set_option maxRecDepth 20000 in
theorem gX8_plan_X8_heatOf : GoodIn wsX8_plan (va_wsS RX8 201 yX8_heatOf wsX8_heatOf) := goodIn_app (goodIn_of _ (by decide +kernel)) ggX8_plan_X8_heatOf
set_option maxRecDepth 20000 in
theorem ggX8_plan_X8_wantOfWarmth : GoodIn wsX8_plan wsX8_wantOfWarmth := goodIn_r _ [65] (by decide +kernel) (by decide +kernel)
set_option maxRecDepth 20000 in
theorem gX8_plan_X8_wantOfWarmth : GoodIn wsX8_plan (va_wsS RX8 187 yX8_wantOfWarmth wsX8_wantOfWarmth) := goodIn_app (goodIn_of _ (by decide +kernel)) ggX8_plan_X8_wantOfWarmth
set_option maxRecDepth 20000 in
theorem ggX8_plan_X3_addHour : GoodIn wsX8_plan wsX3_addHour := goodIn_r _ [69, 16, 70, 71, 61, 9, 62, 121, 122, 123, 124, 125, 126, 127, 128, 129] (by decide +kernel) (by decide +kernel)
set_option maxRecDepth 20000 in
theorem gX8_plan_X3_addHour : GoodIn wsX8_plan (wsV RX8 205 RX3 yX3_addHour wsX3_addHour) := goodIn_app (goodIn_of _ (by decide +kernel)) ggX8_plan_X3_addHour
set_option maxRecDepth 20000 in
theorem ggX8_plan_X3_solve : GoodIn wsX8_plan wsX3_solve := goodIn_r _ [75, 76, 77, 78, 79, 16, 80, 81, 82, 83, 14, 84, 85, 86, 87, 88, 89, 90, 91, 92, 71, 70, 61, 9, 62, 93, 94, 95, 96, 97, 98, 99, 100, 101, 102, 121, 122, 123, 124, 125, 126, 127, 128, 129] (by decide +kernel) (by decide +kernel)
set_option maxRecDepth 20000 in
theorem gX8_plan_X3_solve : GoodIn wsX8_plan (wsV RX8 208 RX3 yX3_solve wsX3_solve) := goodIn_app (goodIn_of _ (by decide +kernel)) ggX8_plan_X3_solve
theorem dX8_plan_0 : decode cX8_plan 0 = .ok (.iload_n 1, 1) := by decide +kernel
theorem dX8_plan_1 : decode cX8_plan 1 = .ok (.iconst 1, 1) := by decide +kernel
theorem dX8_plan_2 : decode cX8_plan 2 = .ok (.if_icmp .lt 16, 3) := by decide +kernel
theorem dX8_plan_5 : decode cX8_plan 5 = .ok (.iload_n 1, 1) := by decide +kernel
theorem dX8_plan_6 : decode cX8_plan 6 = .ok (.bipush 8, 2) := by decide +kernel
theorem dX8_plan_8 : decode cX8_plan 8 = .ok (.if_icmp .gt 10, 3) := by decide +kernel
theorem dX8_plan_11 : decode cX8_plan 11 = .ok (.iload_n 2, 1) := by decide +kernel
theorem dX8_plan_12 : decode cX8_plan 12 = .ok (.invokestatic 181, 3) := by decide +kernel
theorem dX8_plan_15 : decode cX8_plan 15 = .ok (.ifCond .ne 5, 3) := by decide +kernel
theorem dX8_plan_18 : decode cX8_plan 18 = .ok (.iconst (-1), 1) := by decide +kernel
theorem dX8_plan_19 : decode cX8_plan 19 = .ok (.ireturn, 1) := by decide +kernel
theorem dX8_plan_20 : decode cX8_plan 20 = .ok (.aload_n 0, 1) := by decide +kernel
theorem dX8_plan_21 : decode cX8_plan 21 = .ok (.getfield 64, 3) := by decide +kernel
theorem dX8_plan_24 : decode cX8_plan 24 = .ok (.invokevirtual 194, 3) := by decide +kernel
theorem dX8_plan_27 : decode cX8_plan 27 = .ok (.iconst 0, 1) := by decide +kernel
theorem dX8_plan_28 : decode cX8_plan 28 = .ok (.istore_n 3, 1) := by decide +kernel
theorem dX8_plan_29 : decode cX8_plan 29 = .ok (.iload_n 3, 1) := by decide +kernel
theorem dX8_plan_30 : decode cX8_plan 30 = .ok (.iload_n 1, 1) := by decide +kernel
theorem dX8_plan_31 : decode cX8_plan 31 = .ok (.if_icmp .ge 66, 3) := by decide +kernel
theorem dX8_plan_34 : decode cX8_plan 34 = .ok (.aload_n 0, 1) := by decide +kernel
theorem dX8_plan_35 : decode cX8_plan 35 = .ok (.getfield 96, 3) := by decide +kernel
theorem dX8_plan_38 : decode cX8_plan 38 = .ok (.iload_n 3, 1) := by decide +kernel
theorem dX8_plan_39 : decode cX8_plan 39 = .ok (.iadd, 1) := by decide +kernel
theorem dX8_plan_40 : decode cX8_plan 40 = .ok (.istore 4, 2) := by decide +kernel
theorem dX8_plan_42 : decode cX8_plan 42 = .ok (.aload_n 0, 1) := by decide +kernel
theorem dX8_plan_43 : decode cX8_plan 43 = .ok (.iconst 0, 1) := by decide +kernel
theorem dX8_plan_44 : decode cX8_plan 44 = .ok (.iload 4, 2) := by decide +kernel
theorem dX8_plan_46 : decode cX8_plan 46 = .ok (.invokevirtual 197, 3) := by decide +kernel
theorem dX8_plan_49 : decode cX8_plan 49 = .ok (.invokestatic 201, 3) := by decide +kernel
theorem dX8_plan_52 : decode cX8_plan 52 = .ok (.aload_n 0, 1) := by decide +kernel
theorem dX8_plan_53 : decode cX8_plan 53 = .ok (.iconst 1, 1) := by decide +kernel
theorem dX8_plan_54 : decode cX8_plan 54 = .ok (.iload 4, 2) := by decide +kernel
theorem dX8_plan_56 : decode cX8_plan 56 = .ok (.invokevirtual 197, 3) := by decide +kernel
theorem dX8_plan_59 : decode cX8_plan 59 = .ok (.invokestatic 201, 3) := by decide +kernel
theorem dX8_plan_62 : decode cX8_plan 62 = .ok (.iadd, 1) := by decide +kernel
theorem dX8_plan_63 : decode cX8_plan 63 = .ok (.istore 5, 2) := by decide +kernel
theorem dX8_plan_65 : decode cX8_plan 65 = .ok (.aload_n 0, 1) := by decide +kernel
theorem dX8_plan_66 : decode cX8_plan 66 = .ok (.getfield 64, 3) := by decide +kernel
theorem dX8_plan_69 : decode cX8_plan 69 = .ok (.iload 5, 2) := by decide +kernel
theorem dX8_plan_71 : decode cX8_plan 71 = .ok (.iconst 2, 1) := by decide +kernel
theorem dX8_plan_72 : decode cX8_plan 72 = .ok (.iload_n 2, 1) := by decide +kernel
theorem dX8_plan_73 : decode cX8_plan 73 = .ok (.invokestatic 187, 3) := by decide +kernel
theorem dX8_plan_76 : decode cX8_plan 76 = .ok (.imul, 1) := by decide +kernel
theorem dX8_plan_77 : decode cX8_plan 77 = .ok (.iadd, 1) := by decide +kernel
theorem dX8_plan_78 : decode cX8_plan 78 = .ok (.aload_n 0, 1) := by decide +kernel
theorem dX8_plan_79 : decode cX8_plan 79 = .ok (.getfield 32, 3) := by decide +kernel
theorem dX8_plan_82 : decode cX8_plan 82 = .ok (.iload 4, 2) := by decide +kernel
theorem dX8_plan_84 : decode cX8_plan 84 = .ok (.bipush 24, 2) := by decide +kernel
theorem dX8_plan_86 : decode cX8_plan 86 = .ok (.irem, 1) := by decide +kernel
theorem dX8_plan_87 : decode cX8_plan 87 = .ok (.iaload, 1) := by decide +kernel
theorem dX8_plan_88 : decode cX8_plan 88 = .ok (.invokevirtual 205, 3) := by decide +kernel
theorem dX8_plan_91 : decode cX8_plan 91 = .ok (.iinc 3 1, 3) := by decide +kernel
theorem dX8_plan_94 : decode cX8_plan 94 = .ok (.goto (-65), 3) := by decide +kernel
theorem dX8_plan_97 : decode cX8_plan 97 = .ok (.aload_n 0, 1) := by decide +kernel
theorem dX8_plan_98 : decode cX8_plan 98 = .ok (.getfield 64, 3) := by decide +kernel
theorem dX8_plan_101 : decode cX8_plan 101 = .ok (.aload_n 0, 1) := by decide +kernel
theorem dX8_plan_102 : decode cX8_plan 102 = .ok (.getfield 68, 3) := by decide +kernel
theorem dX8_plan_105 : decode cX8_plan 105 = .ok (.aload_n 0, 1) := by decide +kernel
theorem dX8_plan_106 : decode cX8_plan 106 = .ok (.getfield 72, 3) := by decide +kernel
theorem dX8_plan_109 : decode cX8_plan 109 = .ok (.aload_n 0, 1) := by decide +kernel
theorem dX8_plan_110 : decode cX8_plan 110 = .ok (.getfield 75, 3) := by decide +kernel
theorem dX8_plan_113 : decode cX8_plan 113 = .ok (.invokevirtual 208, 3) := by decide +kernel
theorem dX8_plan_116 : decode cX8_plan 116 = .ok (.ireturn, 1) := by decide +kernel
set_option maxRecDepth 20000 in
theorem ggX8_planned_X8_isBelow : GoodIn wsX8_planned wsX8_isBelow := goodIn_r _ [7] (by decide +kernel) (by decide +kernel)
set_option maxRecDepth 20000 in
theorem gX8_planned_X8_isBelow : GoodIn wsX8_planned (va_wsS RX8 88 yX8_isBelow wsX8_isBelow) := goodIn_app (goodIn_of _ (by decide +kernel)) ggX8_planned_X8_isBelow
theorem dX8_planned_0 : decode cX8_planned 0 = .ok (.iload_n 1, 1) := by decide +kernel
theorem dX8_planned_1 : decode cX8_planned 1 = .ok (.aload_n 0, 1) := by decide +kernel
theorem dX8_planned_2 : decode cX8_planned 2 = .ok (.getfield 64, 3) := by decide +kernel
theorem dX8_planned_5 : decode cX8_planned 5 = .ok (.getfield 212, 3) := by decide +kernel
theorem dX8_planned_8 : decode cX8_planned 8 = .ok (.invokestatic 88, 3) := by decide +kernel
theorem dX8_planned_11 : decode cX8_planned 11 = .ok (.ifCond .eq 15, 3) := by decide +kernel
theorem dX8_planned_14 : decode cX8_planned 14 = .ok (.aload_n 0, 1) := by decide +kernel
theorem dX8_planned_15 : decode cX8_planned 15 = .ok (.getfield 64, 3) := by decide +kernel
theorem dX8_planned_18 : decode cX8_planned 18 = .ok (.getfield 215, 3) := by decide +kernel
theorem dX8_planned_21 : decode cX8_planned 21 = .ok (.iload_n 1, 1) := by decide +kernel
theorem dX8_planned_22 : decode cX8_planned 22 = .ok (.iaload, 1) := by decide +kernel
theorem dX8_planned_23 : decode cX8_planned 23 = .ok (.goto 4, 3) := by decide +kernel
theorem dX8_planned_26 : decode cX8_planned 26 = .ok (.iconst (-1), 1) := by decide +kernel
theorem dX8_planned_27 : decode cX8_planned 27 = .ok (.ireturn, 1) := by decide +kernel
set_option maxRecDepth 20000 in
theorem ggX8_part_X8_isBelow : GoodIn wsX8_part wsX8_isBelow := goodIn_r _ [5] (by decide +kernel) (by decide +kernel)
set_option maxRecDepth 20000 in
theorem gX8_part_X8_isBelow : GoodIn wsX8_part (va_wsS RX8 88 yX8_isBelow wsX8_isBelow) := goodIn_app (goodIn_of _ (by decide +kernel)) ggX8_part_X8_isBelow
set_option maxRecDepth 20000 in
theorem ggX8_part_X8_countInState : GoodIn wsX8_part wsX8_countInState := goodIn_r _ [9, 10, 11, 12, 13, 14, 15, 4, 16, 17, 22, 23, 24, 25, 26, 27, 28, 29, 30, 31, 32, 33, 34, 35, 36, 37, 38, 39, 40, 41, 42, 43, 44, 45, 46, 47, 48, 49] (by decide +kernel) (by decide +kernel)
set_option maxRecDepth 20000 in
theorem gX8_part_X8_countInState : GoodIn wsX8_part (wsV RX8 219 RX8 yX8_countInState wsX8_countInState) := goodIn_app (goodIn_of _ (by decide +kernel)) ggX8_part_X8_countInState
set_option maxRecDepth 20000 in
theorem ggX8_part_X8_partOf : GoodIn wsX8_part wsX8_partOf := goodIn_r _ [21, 6, 7, 8, 4, 9, 10, 11, 12, 13, 14, 15, 16, 17, 22, 23, 24, 25, 26, 27, 28, 29, 30, 31, 32, 33, 34, 35, 36, 37, 38, 39, 40, 41, 42, 43, 44, 45, 46, 47, 48, 49] (by decide +kernel) (by decide +kernel)
set_option maxRecDepth 20000 in
theorem gX8_part_X8_partOf : GoodIn wsX8_part (wsV RX8 222 RX8 yX8_partOf wsX8_partOf) := goodIn_app (goodIn_of _ (by decide +kernel)) ggX8_part_X8_partOf
theorem dX8_part_0 : decode cX8_part 0 = .ok (.iload_n 1, 1) := by decide +kernel
theorem dX8_part_1 : decode cX8_part 1 = .ok (.bipush 6, 2) := by decide +kernel
theorem dX8_part_3 : decode cX8_part 3 = .ok (.invokestatic 88, 3) := by decide +kernel
theorem dX8_part_6 : decode cX8_part 6 = .ok (.ifCond .eq 13, 3) := by decide +kernel
theorem dX8_part_9 : decode cX8_part 9 = .ok (.iload_n 2, 1) := by decide +kernel
theorem dX8_part_10 : decode cX8_part 10 = .ok (.ifCond .lt 9, 3) := by decide +kernel
theorem dX8_part_13 : decode cX8_part 13 = .ok (.iload_n 2, 1) := by decide +kernel
theorem dX8_part_14 : decode cX8_part 14 = .ok (.ldc 218, 2) := by decide +kernel
theorem dX8_part_16 : decode cX8_part 16 = .ok (.if_icmp .le 5, 3) := by decide +kernel
theorem dX8_part_19 : decode cX8_part 19 = .ok (.iconst (-1), 1) := by decide +kernel
theorem dX8_part_20 : decode cX8_part 20 = .ok (.ireturn, 1) := by decide +kernel
theorem dX8_part_21 : decode cX8_part 21 = .ok (.iconst 0, 1) := by decide +kernel
theorem dX8_part_22 : decode cX8_part 22 = .ok (.istore_n 3, 1) := by decide +kernel
theorem dX8_part_23 : decode cX8_part 23 = .ok (.iconst 0, 1) := by decide +kernel
theorem dX8_part_24 : decode cX8_part 24 = .ok (.istore 4, 2) := by decide +kernel
theorem dX8_part_26 : decode cX8_part 26 = .ok (.iload 4, 2) := by decide +kernel
theorem dX8_part_28 : decode cX8_part 28 = .ok (.bipush 6, 2) := by decide +kernel
theorem dX8_part_30 : decode cX8_part 30 = .ok (.if_icmp .ge 19, 3) := by decide +kernel
theorem dX8_part_33 : decode cX8_part 33 = .ok (.iload_n 3, 1) := by decide +kernel
theorem dX8_part_34 : decode cX8_part 34 = .ok (.aload_n 0, 1) := by decide +kernel
theorem dX8_part_35 : decode cX8_part 35 = .ok (.iload 4, 2) := by decide +kernel
theorem dX8_part_37 : decode cX8_part 37 = .ok (.iconst 1, 1) := by decide +kernel
theorem dX8_part_38 : decode cX8_part 38 = .ok (.invokevirtual 219, 3) := by decide +kernel
theorem dX8_part_41 : decode cX8_part 41 = .ok (.iadd, 1) := by decide +kernel
theorem dX8_part_42 : decode cX8_part 42 = .ok (.istore_n 3, 1) := by decide +kernel
theorem dX8_part_43 : decode cX8_part 43 = .ok (.iinc 4 1, 3) := by decide +kernel
theorem dX8_part_46 : decode cX8_part 46 = .ok (.goto (-20), 3) := by decide +kernel
theorem dX8_part_49 : decode cX8_part 49 = .ok (.aload_n 0, 1) := by decide +kernel
theorem dX8_part_50 : decode cX8_part 50 = .ok (.iload_n 1, 1) := by decide +kernel
theorem dX8_part_51 : decode cX8_part 51 = .ok (.iload_n 2, 1) := by decide +kernel
theorem dX8_part_52 : decode cX8_part 52 = .ok (.iload_n 3, 1) := by decide +kernel
theorem dX8_part_53 : decode cX8_part 53 = .ok (.invokevirtual 222, 3) := by decide +kernel
theorem dX8_part_56 : decode cX8_part 56 = .ok (.ireturn, 1) := by decide +kernel
end
section
set_option maxRecDepth 20000 in
theorem ggX8_look_X8_sessionOf : GoodIn wsX8_look wsX8_sessionOf := goodIn_r _ [14, 15, 16, 27, 28, 29, 30, 31, 32, 33, 34, 35, 36, 37, 38, 39, 40, 41, 42, 43, 44] (by decide +kernel) (by decide +kernel)
set_option maxRecDepth 20000 in
theorem gX8_look_X8_sessionOf : GoodIn wsX8_look (wsV RX8 131 RX8 yX8_sessionOf wsX8_sessionOf) := goodIn_app (goodIn_of _ (by decide +kernel)) ggX8_look_X8_sessionOf
theorem dX8_look_0 : decode cX8_look 0 = .ok (.aload_n 0, 1) := by decide +kernel
theorem dX8_look_1 : decode cX8_look 1 = .ok (.iload_n 1, 1) := by decide +kernel
theorem dX8_look_2 : decode cX8_look 2 = .ok (.invokevirtual 131, 3) := by decide +kernel
theorem dX8_look_5 : decode cX8_look 5 = .ok (.astore_n 3, 1) := by decide +kernel
theorem dX8_look_6 : decode cX8_look 6 = .ok (.aload_n 3, 1) := by decide +kernel
theorem dX8_look_7 : decode cX8_look 7 = .ok (.ifnonnull 5, 3) := by decide +kernel
theorem dX8_look_10 : decode cX8_look 10 = .ok (.iconst (-1), 1) := by decide +kernel
theorem dX8_look_11 : decode cX8_look 11 = .ok (.ireturn, 1) := by decide +kernel
theorem dX8_look_12 : decode cX8_look 12 = .ok (.iload_n 2, 1) := by decide +kernel
theorem dX8_look_13 : decode cX8_look 13 = .ok (.tableswitch 96 0 8 #[51, 56, 61, 66, 71, 76, 81, 86, 91], 51) := by decide +kernel
theorem dX8_look_64 : decode cX8_look 64 = .ok (.aload_n 3, 1) := by decide +kernel
theorem dX8_look_65 : decode cX8_look 65 = .ok (.getfield 225, 3) := by decide +kernel
theorem dX8_look_68 : decode cX8_look 68 = .ok (.ireturn, 1) := by decide +kernel
theorem dX8_look_69 : decode cX8_look 69 = .ok (.aload_n 3, 1) := by decide +kernel
theorem dX8_look_70 : decode cX8_look 70 = .ok (.getfield 228, 3) := by decide +kernel
theorem dX8_look_73 : decode cX8_look 73 = .ok (.ireturn, 1) := by decide +kernel
theorem dX8_look_74 : decode cX8_look 74 = .ok (.aload_n 3, 1) := by decide +kernel
theorem dX8_look_75 : decode cX8_look 75 = .ok (.getfield 138, 3) := by decide +kernel
theorem dX8_look_78 : decode cX8_look 78 = .ok (.ireturn, 1) := by decide +kernel
theorem dX8_look_79 : decode cX8_look 79 = .ok (.aload_n 3, 1) := by decide +kernel
theorem dX8_look_80 : decode cX8_look 80 = .ok (.getfield 141, 3) := by decide +kernel
theorem dX8_look_83 : decode cX8_look 83 = .ok (.ireturn, 1) := by decide +kernel
theorem dX8_look_84 : decode cX8_look 84 = .ok (.aload_n 3, 1) := by decide +kernel
theorem dX8_look_85 : decode cX8_look 85 = .ok (.getfield 135, 3) := by decide +kernel
theorem dX8_look_88 : decode cX8_look 88 = .ok (.ireturn, 1) := by decide +kernel
theorem dX8_look_89 : decode cX8_look 89 = .ok (.aload_n 3, 1) := by decide +kernel
theorem dX8_look_90 : decode cX8_look 90 = .ok (.getfield 231, 3) := by decide +kernel
theorem dX8_look_93 : decode cX8_look 93 = .ok (.ireturn, 1) := by decide +kernel
theorem dX8_look_94 : decode cX8_look 94 = .ok (.aload_n 3, 1) := by decide +kernel
theorem dX8_look_95 : decode cX8_look 95 = .ok (.getfield 147, 3) := by decide +kernel
theorem dX8_look_98 : decode cX8_look 98 = .ok (.ireturn, 1) := by decide +kernel
theorem dX8_look_99 : decode cX8_look 99 = .ok (.aload_n 3, 1) := by decide +kernel
theorem dX8_look_100 : decode cX8_look 100 = .ok (.getfield 153, 3) := by decide +kernel
theorem dX8_look_103 : decode cX8_look 103 = .ok (.ireturn, 1) := by decide +kernel
theorem dX8_look_104 : decode cX8_look 104 = .ok (.aload_n 3, 1) := by decide +kernel
theorem dX8_look_105 : decode cX8_look 105 = .ok (.getfield 234, 3) := by decide +kernel
theorem dX8_look_108 : decode cX8_look 108 = .ok (.ireturn, 1) := by decide +kernel
theorem dX8_look_109 : decode cX8_look 109 = .ok (.iconst (-1), 1) := by decide +kernel
theorem dX8_look_110 : decode cX8_look 110 = .ok (.ireturn, 1) := by decide +kernel
set_option maxRecDepth 20000 in
theorem ggX8_at_X8_isBelow : GoodIn wsX8_at wsX8_isBelow := goodIn_r _ [4] (by decide +kernel) (by decide +kernel)
set_option maxRecDepth 20000 in
theorem gX8_at_X8_isBelow : GoodIn wsX8_at (va_wsS RX8 88 yX8_isBelow wsX8_isBelow) := goodIn_app (goodIn_of _ (by decide +kernel)) ggX8_at_X8_isBelow
set_option maxRecDepth 20000 in
theorem ggX8_at_X8_numberAt : GoodIn wsX8_at wsX8_numberAt := goodIn_r _ [8, 9, 10, 11, 12, 13, 14, 15, 3, 16, 17, 18, 19, 20, 21, 22, 23, 24, 25, 26, 27, 28, 29, 30, 31, 32, 33, 34, 35, 36, 37, 38, 39, 40, 41, 42, 43, 44, 45, 46, 47, 48, 49, 50, 51, 52, 53, 54, 55, 56, 57, 58, 59, 60, 61, 62, 63, 64, 65, 66, 67, 68, 69, 70, 71, 72, 73, 74] (by decide +kernel) (by decide +kernel)
set_option maxRecDepth 20000 in
theorem gX8_at_X8_numberAt : GoodIn wsX8_at (wsV RX8 237 RX8 yX8_numberAt wsX8_numberAt) := goodIn_app (goodIn_of _ (by decide +kernel)) ggX8_at_X8_numberAt
theorem dX8_at_0 : decode cX8_at 0 = .ok (.iload_n 1, 1) := by decide +kernel
theorem dX8_at_1 : decode cX8_at 1 = .ok (.iconst 2, 1) := by decide +kernel
theorem dX8_at_2 : decode cX8_at 2 = .ok (.invokestatic 88, 3) := by decide +kernel
theorem dX8_at_5 : decode cX8_at 5 = .ok (.ifCond .eq 12, 3) := by decide +kernel
theorem dX8_at_8 : decode cX8_at 8 = .ok (.aload_n 0, 1) := by decide +kernel
theorem dX8_at_9 : decode cX8_at 9 = .ok (.iload_n 1, 1) := by decide +kernel
theorem dX8_at_10 : decode cX8_at 10 = .ok (.iload_n 2, 1) := by decide +kernel
theorem dX8_at_11 : decode cX8_at 11 = .ok (.invokevirtual 237, 3) := by decide +kernel
theorem dX8_at_14 : decode cX8_at 14 = .ok (.goto 4, 3) := by decide +kernel
theorem dX8_at_17 : decode cX8_at 17 = .ok (.iconst (-1), 1) := by decide +kernel
theorem dX8_at_18 : decode cX8_at 18 = .ok (.ireturn, 1) := by decide +kernel
set_option maxRecDepth 20000 in
theorem ggX8_sheet_X8_isBelow : GoodIn wsX8_sheet wsX8_isBelow := goodIn_r _ [11] (by decide +kernel) (by decide +kernel)
set_option maxRecDepth 20000 in
theorem gX8_sheet_X8_isBelow : GoodIn wsX8_sheet (va_wsS RX8 88 yX8_isBelow wsX8_isBelow) := goodIn_app (goodIn_of _ (by decide +kernel)) ggX8_sheet_X8_isBelow
set_option maxRecDepth 20000 in
theorem ggX8_sheet_X8_iceOf : GoodIn wsX8_sheet wsX8_iceOf := goodIn_r _ [15, 16, 17, 34, 35, 36, 37, 38, 39, 40, 41, 42, 43, 44, 45, 46, 47, 48, 49, 50, 51] (by decide +kernel) (by decide +kernel)
set_option maxRecDepth 20000 in
theorem gX8_sheet_X8_iceOf : GoodIn wsX8_sheet (wsV RX8 112 RX8 yX8_iceOf wsX8_iceOf) := goodIn_app (goodIn_of _ (by decide +kernel)) ggX8_sheet_X8_iceOf
set_option maxRecDepth 20000 in
theorem ggX8_sheet_X0_has : GoodIn wsX8_sheet wsX0_has := goodIn_r _ [22, 23, 52] (by decide +kernel) (by decide +kernel)
set_option maxRecDepth 20000 in
theorem gX8_sheet_X0_has : GoodIn wsX8_sheet (wsV RX8 255 RX0 yX0_has wsX0_has) := goodIn_app (goodIn_of _ (by decide +kernel)) ggX8_sheet_X0_has
theorem dX8_sheet_0 : decode cX8_sheet 0 = .ok (.iload_n 1, 1) := by decide +kernel
theorem dX8_sheet_1 : decode cX8_sheet 1 = .ok (.iconst 2, 1) := by decide +kernel
theorem dX8_sheet_2 : decode cX8_sheet 2 = .ok (.invokestatic 88, 3) := by decide +kernel
theorem dX8_sheet_5 : decode cX8_sheet 5 = .ok (.ifCond .ne 5, 3) := by decide +kernel
theorem dX8_sheet_8 : decode cX8_sheet 8 = .ok (.iconst (-1), 1) := by decide +kernel
theorem dX8_sheet_9 : decode cX8_sheet 9 = .ok (.ireturn, 1) := by decide +kernel
theorem dX8_sheet_10 : decode cX8_sheet 10 = .ok (.aload_n 0, 1) := by decide +kernel
theorem dX8_sheet_11 : decode cX8_sheet 11 = .ok (.iload_n 1, 1) := by decide +kernel
theorem dX8_sheet_12 : decode cX8_sheet 12 = .ok (.invokevirtual 112, 3) := by decide +kernel
theorem dX8_sheet_15 : decode cX8_sheet 15 = .ok (.astore_n 3, 1) := by decide +kernel
theorem dX8_sheet_16 : decode cX8_sheet 16 = .ok (.iload_n 2, 1) := by decide +kernel
theorem dX8_sheet_17 : decode cX8_sheet 17 = .ok (.tableswitch 84 0 5 #[39, 44, 49, 54, 59, 64], 39) := by decide +kernel
theorem dX8_sheet_56 : decode cX8_sheet 56 = .ok (.aload_n 3, 1) := by decide +kernel
theorem dX8_sheet_57 : decode cX8_sheet 57 = .ok (.getfield 240, 3) := by decide +kernel
theorem dX8_sheet_60 : decode cX8_sheet 60 = .ok (.ireturn, 1) := by decide +kernel
theorem dX8_sheet_61 : decode cX8_sheet 61 = .ok (.aload_n 3, 1) := by decide +kernel
theorem dX8_sheet_62 : decode cX8_sheet 62 = .ok (.getfield 243, 3) := by decide +kernel
theorem dX8_sheet_65 : decode cX8_sheet 65 = .ok (.ireturn, 1) := by decide +kernel
theorem dX8_sheet_66 : decode cX8_sheet 66 = .ok (.aload_n 3, 1) := by decide +kernel
theorem dX8_sheet_67 : decode cX8_sheet 67 = .ok (.getfield 246, 3) := by decide +kernel
theorem dX8_sheet_70 : decode cX8_sheet 70 = .ok (.ireturn, 1) := by decide +kernel
theorem dX8_sheet_71 : decode cX8_sheet 71 = .ok (.aload_n 3, 1) := by decide +kernel
theorem dX8_sheet_72 : decode cX8_sheet 72 = .ok (.getfield 249, 3) := by decide +kernel
theorem dX8_sheet_75 : decode cX8_sheet 75 = .ok (.ireturn, 1) := by decide +kernel
theorem dX8_sheet_76 : decode cX8_sheet 76 = .ok (.aload_n 3, 1) := by decide +kernel
theorem dX8_sheet_77 : decode cX8_sheet 77 = .ok (.getfield 252, 3) := by decide +kernel
theorem dX8_sheet_80 : decode cX8_sheet 80 = .ok (.ireturn, 1) := by decide +kernel
theorem dX8_sheet_81 : decode cX8_sheet 81 = .ok (.aload_n 3, 1) := by decide +kernel
theorem dX8_sheet_82 : decode cX8_sheet 82 = .ok (.getfield 171, 3) := by decide +kernel
theorem dX8_sheet_85 : decode cX8_sheet 85 = .ok (.aload_n 0, 1) := by decide +kernel
theorem dX8_sheet_86 : decode cX8_sheet 86 = .ok (.getfield 96, 3) := by decide +kernel
theorem dX8_sheet_89 : decode cX8_sheet 89 = .ok (.invokevirtual 255, 3) := by decide +kernel
theorem dX8_sheet_92 : decode cX8_sheet 92 = .ok (.ifCond .eq 7, 3) := by decide +kernel
theorem dX8_sheet_95 : decode cX8_sheet 95 = .ok (.iconst 1, 1) := by decide +kernel
theorem dX8_sheet_96 : decode cX8_sheet 96 = .ok (.goto 4, 3) := by decide +kernel
theorem dX8_sheet_99 : decode cX8_sheet 99 = .ok (.iconst 0, 1) := by decide +kernel
theorem dX8_sheet_100 : decode cX8_sheet 100 = .ok (.ireturn, 1) := by decide +kernel
theorem dX8_sheet_101 : decode cX8_sheet 101 = .ok (.iconst (-1), 1) := by decide +kernel
theorem dX8_sheet_102 : decode cX8_sheet 102 = .ok (.ireturn, 1) := by decide +kernel
set_option maxRecDepth 20000 in
theorem ggX8_club_X8_isBelow : GoodIn wsX8_club wsX8_isBelow := goodIn_r _ [4] (by decide +kernel) (by decide +kernel)
set_option maxRecDepth 20000 in
theorem gX8_club_X8_isBelow : GoodIn wsX8_club (va_wsS RX8 88 yX8_isBelow wsX8_isBelow) := goodIn_app (goodIn_of _ (by decide +kernel)) ggX8_club_X8_isBelow
set_option maxRecDepth 20000 in
theorem ggX8_club_X8_countInState : GoodIn wsX8_club wsX8_countInState := goodIn_r _ [8, 9, 10, 11, 12, 13, 14, 3, 15, 16, 22, 23, 24, 25, 26, 27, 28, 29, 30, 31, 32, 33, 34, 35, 36, 37, 38, 39, 40, 41, 42, 43, 44, 45, 46, 47, 48, 49] (by decide +kernel) (by decide +kernel)
set_option maxRecDepth 20000 in
theorem gX8_club_X8_countInState : GoodIn wsX8_club (wsV RX8 219 RX8 yX8_countInState wsX8_countInState) := goodIn_app (goodIn_of _ (by decide +kernel)) ggX8_club_X8_countInState
set_option maxRecDepth 20000 in
theorem ggX8_club_X8_owedBy : GoodIn wsX8_club wsX8_owedBy := goodIn_r _ [20, 9, 10, 21, 12, 13, 14, 3, 15, 16, 22, 23, 24, 25, 26, 27, 28, 29, 30, 31, 32, 33, 34, 35, 36, 37, 38, 39, 40, 41, 42, 43, 44, 45, 46, 47, 48, 49] (by decide +kernel) (by decide +kernel)
set_option maxRecDepth 20000 in
theorem gX8_club_X8_owedBy : GoodIn wsX8_club (wsV RX8 258 RX8 yX8_owedBy wsX8_owedBy) := goodIn_app (goodIn_of _ (by decide +kernel)) ggX8_club_X8_owedBy
theorem dX8_club_0 : decode cX8_club 0 = .ok (.iload_n 1, 1) := by decide +kernel
theorem dX8_club_1 : decode cX8_club 1 = .ok (.bipush 6, 2) := by decide +kernel
theorem dX8_club_3 : decode cX8_club 3 = .ok (.invokestatic 88, 3) := by decide +kernel
theorem dX8_club_6 : decode cX8_club 6 = .ok (.ifCond .ne 5, 3) := by decide +kernel
theorem dX8_club_9 : decode cX8_club 9 = .ok (.iconst (-1), 1) := by decide +kernel
theorem dX8_club_10 : decode cX8_club 10 = .ok (.ireturn, 1) := by decide +kernel
theorem dX8_club_11 : decode cX8_club 11 = .ok (.iload_n 2, 1) := by decide +kernel
theorem dX8_club_12 : decode cX8_club 12 = .ok (.tableswitch 59 0 3 #[32, 39, 46, 53], 32) := by decide +kernel
theorem dX8_club_44 : decode cX8_club 44 = .ok (.aload_n 0, 1) := by decide +kernel
theorem dX8_club_45 : decode cX8_club 45 = .ok (.iload_n 1, 1) := by decide +kernel
theorem dX8_club_46 : decode cX8_club 46 = .ok (.iconst 1, 1) := by decide +kernel
theorem dX8_club_47 : decode cX8_club 47 = .ok (.invokevirtual 219, 3) := by decide +kernel
theorem dX8_club_50 : decode cX8_club 50 = .ok (.ireturn, 1) := by decide +kernel
theorem dX8_club_51 : decode cX8_club 51 = .ok (.aload_n 0, 1) := by decide +kernel
theorem dX8_club_52 : decode cX8_club 52 = .ok (.iload_n 1, 1) := by decide +kernel
theorem dX8_club_53 : decode cX8_club 53 = .ok (.iconst 2, 1) := by decide +kernel
theorem dX8_club_54 : decode cX8_club 54 = .ok (.invokevirtual 219, 3) := by decide +kernel
theorem dX8_club_57 : decode cX8_club 57 = .ok (.ireturn, 1) := by decide +kernel
theorem dX8_club_58 : decode cX8_club 58 = .ok (.aload_n 0, 1) := by decide +kernel
theorem dX8_club_59 : decode cX8_club 59 = .ok (.iload_n 1, 1) := by decide +kernel
theorem dX8_club_60 : decode cX8_club 60 = .ok (.iconst 0, 1) := by decide +kernel
theorem dX8_club_61 : decode cX8_club 61 = .ok (.invokevirtual 219, 3) := by decide +kernel
theorem dX8_club_64 : decode cX8_club 64 = .ok (.ireturn, 1) := by decide +kernel
theorem dX8_club_65 : decode cX8_club 65 = .ok (.aload_n 0, 1) := by decide +kernel
theorem dX8_club_66 : decode cX8_club 66 = .ok (.iload_n 1, 1) := by decide +kernel
theorem dX8_club_67 : decode cX8_club 67 = .ok (.invokevirtual 258, 3) := by decide +kernel
theorem dX8_club_70 : decode cX8_club 70 = .ok (.ireturn, 1) := by decide +kernel
theorem dX8_club_71 : decode cX8_club 71 = .ok (.iconst (-1), 1) := by decide +kernel
theorem dX8_club_72 : decode cX8_club 72 = .ok (.ireturn, 1) := by decide +kernel
theorem dX8_count_0 : decode cX8_count 0 = .ok (.iload_n 1, 1) := by decide +kernel
theorem dX8_count_1 : decode cX8_count 1 = .ok (.tableswitch 108 0 9 #[55, 60, 65, 70, 75, 80, 85, 90, 95, 100], 55) := by decide +kernel
theorem dX8_count_56 : decode cX8_count 56 = .ok (.aload_n 0, 1) := by decide +kernel
theorem dX8_count_57 : decode cX8_count 57 = .ok (.getfield 96, 3) := by decide +kernel
theorem dX8_count_60 : decode cX8_count 60 = .ok (.ireturn, 1) := by decide +kernel
theorem dX8_count_61 : decode cX8_count 61 = .ok (.aload_n 0, 1) := by decide +kernel
theorem dX8_count_62 : decode cX8_count 62 = .ok (.getfield 68, 3) := by decide +kernel
theorem dX8_count_65 : decode cX8_count 65 = .ok (.ireturn, 1) := by decide +kernel
theorem dX8_count_66 : decode cX8_count 66 = .ok (.aload_n 0, 1) := by decide +kernel
theorem dX8_count_67 : decode cX8_count 67 = .ok (.getfield 261, 3) := by decide +kernel
theorem dX8_count_70 : decode cX8_count 70 = .ok (.ireturn, 1) := by decide +kernel
theorem dX8_count_71 : decode cX8_count 71 = .ok (.aload_n 0, 1) := by decide +kernel
theorem dX8_count_72 : decode cX8_count 72 = .ok (.getfield 264, 3) := by decide +kernel
theorem dX8_count_75 : decode cX8_count 75 = .ok (.ireturn, 1) := by decide +kernel
theorem dX8_count_76 : decode cX8_count 76 = .ok (.aload_n 0, 1) := by decide +kernel
theorem dX8_count_77 : decode cX8_count 77 = .ok (.getfield 267, 3) := by decide +kernel
theorem dX8_count_80 : decode cX8_count 80 = .ok (.ireturn, 1) := by decide +kernel
theorem dX8_count_81 : decode cX8_count 81 = .ok (.aload_n 0, 1) := by decide +kernel
theorem dX8_count_82 : decode cX8_count 82 = .ok (.getfield 99, 3) := by decide +kernel
theorem dX8_count_85 : decode cX8_count 85 = .ok (.ireturn, 1) := by decide +kernel
theorem dX8_count_86 : decode cX8_count 86 = .ok (.aload_n 0, 1) := by decide +kernel
theorem dX8_count_87 : decode cX8_count 87 = .ok (.getfield 72, 3) := by decide +kernel
theorem dX8_count_90 : decode cX8_count 90 = .ok (.ireturn, 1) := by decide +kernel
theorem dX8_count_91 : decode cX8_count 91 = .ok (.aload_n 0, 1) := by decide +kernel
theorem dX8_count_92 : decode cX8_count 92 = .ok (.getfield 75, 3) := by decide +kernel
theorem dX8_count_95 : decode cX8_count 95 = .ok (.ireturn, 1) := by decide +kernel
theorem dX8_count_96 : decode cX8_count 96 = .ok (.aload_n 0, 1) := by decide +kernel
theorem dX8_count_97 : decode cX8_count 97 = .ok (.getfield 78, 3) := by decide +kernel
theorem dX8_count_100 : decode cX8_count 100 = .ok (.ireturn, 1) := by decide +kernel
theorem dX8_count_101 : decode cX8_count 101 = .ok (.aload_n 0, 1) := by decide +kernel
theorem dX8_count_102 : decode cX8_count 102 = .ok (.getfield 39, 3) := by decide +kernel
theorem dX8_count_105 : decode cX8_count 105 = .ok (.getfield 81, 3) := by decide +kernel
theorem dX8_count_108 : decode cX8_count 108 = .ok (.ireturn, 1) := by decide +kernel
theorem dX8_count_109 : decode cX8_count 109 = .ok (.iload_n 1, 1) := by decide +kernel
theorem dX8_count_110 : decode cX8_count 110 = .ok (.bipush 10, 2) := by decide +kernel
theorem dX8_count_112 : decode cX8_count 112 = .ok (.if_icmp .lt 21, 3) := by decide +kernel
theorem dX8_count_115 : decode cX8_count 115 = .ok (.iload_n 1, 1) := by decide +kernel
theorem dX8_count_116 : decode cX8_count 116 = .ok (.bipush 34, 2) := by decide +kernel
theorem dX8_count_118 : decode cX8_count 118 = .ok (.if_icmp .ge 15, 3) := by decide +kernel
theorem dX8_count_121 : decode cX8_count 121 = .ok (.aload_n 0, 1) := by decide +kernel
theorem dX8_count_122 : decode cX8_count 122 = .ok (.getfield 32, 3) := by decide +kernel
theorem dX8_count_125 : decode cX8_count 125 = .ok (.iload_n 1, 1) := by decide +kernel
theorem dX8_count_126 : decode cX8_count 126 = .ok (.bipush 10, 2) := by decide +kernel
theorem dX8_count_128 : decode cX8_count 128 = .ok (.isub, 1) := by decide +kernel
theorem dX8_count_129 : decode cX8_count 129 = .ok (.iaload, 1) := by decide +kernel
theorem dX8_count_130 : decode cX8_count 130 = .ok (.goto 4, 3) := by decide +kernel
theorem dX8_count_133 : decode cX8_count 133 = .ok (.iconst (-1), 1) := by decide +kernel
theorem dX8_count_134 : decode cX8_count 134 = .ok (.ireturn, 1) := by decide +kernel
theorem dX8_isBelow_0 : decode cX8_isBelow 0 = .ok (.iload_n 0, 1) := by decide +kernel
theorem dX8_isBelow_1 : decode cX8_isBelow 1 = .ok (.ifCond .lt 12, 3) := by decide +kernel
theorem dX8_isBelow_4 : decode cX8_isBelow 4 = .ok (.iload_n 0, 1) := by decide +kernel
theorem dX8_isBelow_5 : decode cX8_isBelow 5 = .ok (.iload_n 1, 1) := by decide +kernel
theorem dX8_isBelow_6 : decode cX8_isBelow 6 = .ok (.if_icmp .ge 7, 3) := by decide +kernel
theorem dX8_isBelow_9 : decode cX8_isBelow 9 = .ok (.iconst 1, 1) := by decide +kernel
theorem dX8_isBelow_10 : decode cX8_isBelow 10 = .ok (.goto 4, 3) := by decide +kernel
theorem dX8_isBelow_13 : decode cX8_isBelow 13 = .ok (.iconst 0, 1) := by decide +kernel
theorem dX8_isBelow_14 : decode cX8_isBelow 14 = .ok (.ireturn, 1) := by decide +kernel
theorem dX8_isTenths_0 : decode cX8_isTenths 0 = .ok (.iload_n 0, 1) := by decide +kernel
theorem dX8_isTenths_1 : decode cX8_isTenths 1 = .ok (.ifCond .lt 13, 3) := by decide +kernel
theorem dX8_isTenths_4 : decode cX8_isTenths 4 = .ok (.iload_n 0, 1) := by decide +kernel
theorem dX8_isTenths_5 : decode cX8_isTenths 5 = .ok (.bipush 20, 2) := by decide +kernel
theorem dX8_isTenths_7 : decode cX8_isTenths 7 = .ok (.if_icmp .gt 7, 3) := by decide +kernel
theorem dX8_isTenths_10 : decode cX8_isTenths 10 = .ok (.iconst 1, 1) := by decide +kernel
theorem dX8_isTenths_11 : decode cX8_isTenths 11 = .ok (.goto 4, 3) := by decide +kernel
theorem dX8_isTenths_14 : decode cX8_isTenths 14 = .ok (.iconst 0, 1) := by decide +kernel
theorem dX8_isTenths_15 : decode cX8_isTenths 15 = .ok (.ireturn, 1) := by decide +kernel
theorem dX8_isWarmth_0 : decode cX8_isWarmth 0 = .ok (.iload_n 0, 1) := by decide +kernel
theorem dX8_isWarmth_1 : decode cX8_isWarmth 1 = .ok (.bipush (-20), 2) := by decide +kernel
theorem dX8_isWarmth_3 : decode cX8_isWarmth 3 = .ok (.if_icmp .lt 13, 3) := by decide +kernel
theorem dX8_isWarmth_6 : decode cX8_isWarmth 6 = .ok (.iload_n 0, 1) := by decide +kernel
theorem dX8_isWarmth_7 : decode cX8_isWarmth 7 = .ok (.bipush 40, 2) := by decide +kernel
theorem dX8_isWarmth_9 : decode cX8_isWarmth 9 = .ok (.if_icmp .gt 7, 3) := by decide +kernel
theorem dX8_isWarmth_12 : decode cX8_isWarmth 12 = .ok (.iconst 1, 1) := by decide +kernel
theorem dX8_isWarmth_13 : decode cX8_isWarmth 13 = .ok (.goto 4, 3) := by decide +kernel
theorem dX8_isWarmth_16 : decode cX8_isWarmth 16 = .ok (.iconst 0, 1) := by decide +kernel
theorem dX8_isWarmth_17 : decode cX8_isWarmth 17 = .ok (.ireturn, 1) := by decide +kernel
theorem dX8_wantOfWarmth_0 : decode cX8_wantOfWarmth 0 = .ok (.iload_n 0, 1) := by decide +kernel
theorem dX8_wantOfWarmth_1 : decode cX8_wantOfWarmth 1 = .ok (.ifCond .le 9, 3) := by decide +kernel
theorem dX8_wantOfWarmth_4 : decode cX8_wantOfWarmth 4 = .ok (.iload_n 0, 1) := by decide +kernel
theorem dX8_wantOfWarmth_5 : decode cX8_wantOfWarmth 5 = .ok (.iconst 2, 1) := by decide +kernel
theorem dX8_wantOfWarmth_6 : decode cX8_wantOfWarmth 6 = .ok (.idiv, 1) := by decide +kernel
theorem dX8_wantOfWarmth_7 : decode cX8_wantOfWarmth 7 = .ok (.goto 4, 3) := by decide +kernel
theorem dX8_wantOfWarmth_10 : decode cX8_wantOfWarmth 10 = .ok (.iconst 0, 1) := by decide +kernel
theorem dX8_wantOfWarmth_11 : decode cX8_wantOfWarmth 11 = .ok (.ireturn, 1) := by decide +kernel
set_option maxRecDepth 20000 in
theorem ggX8_ofKind_X8_isBelow : GoodIn wsX8_ofKind wsX8_isBelow := goodIn_r _ [4] (by decide +kernel) (by decide +kernel)
set_option maxRecDepth 20000 in
theorem gX8_ofKind_X8_isBelow : GoodIn wsX8_ofKind (va_wsS RX8 88 yX8_isBelow wsX8_isBelow) := goodIn_app (goodIn_of _ (by decide +kernel)) ggX8_ofKind_X8_isBelow
theorem dX8_ofKind_0 : decode cX8_ofKind 0 = .ok (.iload_n 1, 1) := by decide +kernel
theorem dX8_ofKind_1 : decode cX8_ofKind 1 = .ok (.aload_n 0, 1) := by decide +kernel
theorem dX8_ofKind_2 : decode cX8_ofKind 2 = .ok (.arraylength, 1) := by decide +kernel
theorem dX8_ofKind_3 : decode cX8_ofKind 3 = .ok (.invokestatic 88, 3) := by decide +kernel
theorem dX8_ofKind_6 : decode cX8_ofKind 6 = .ok (.ifCond .eq 9, 3) := by decide +kernel
theorem dX8_ofKind_9 : decode cX8_ofKind 9 = .ok (.aload_n 0, 1) := by decide +kernel
theorem dX8_ofKind_10 : decode cX8_ofKind 10 = .ok (.iload_n 1, 1) := by decide +kernel
theorem dX8_ofKind_11 : decode cX8_ofKind 11 = .ok (.iaload, 1) := by decide +kernel
theorem dX8_ofKind_12 : decode cX8_ofKind 12 = .ok (.goto 4, 3) := by decide +kernel
theorem dX8_ofKind_15 : decode cX8_ofKind 15 = .ok (.iconst 0, 1) := by decide +kernel
theorem dX8_ofKind_16 : decode cX8_ofKind 16 = .ok (.ireturn, 1) := by decide +kernel
theorem dX8_iceOf_0 : decode cX8_iceOf 0 = .ok (.iload_n 1, 1) := by decide +kernel
theorem dX8_iceOf_1 : decode cX8_iceOf 1 = .ok (.ifCond .ne 10, 3) := by decide +kernel
theorem dX8_iceOf_4 : decode cX8_iceOf 4 = .ok (.aload_n 0, 1) := by decide +kernel
theorem dX8_iceOf_5 : decode cX8_iceOf 5 = .ok (.getfield 10, 3) := by decide +kernel
theorem dX8_iceOf_8 : decode cX8_iceOf 8 = .ok (.goto 7, 3) := by decide +kernel
theorem dX8_iceOf_11 : decode cX8_iceOf 11 = .ok (.aload_n 0, 1) := by decide +kernel
theorem dX8_iceOf_12 : decode cX8_iceOf 12 = .ok (.getfield 16, 3) := by decide +kernel
theorem dX8_iceOf_15 : decode cX8_iceOf 15 = .ok (.areturn, 1) := by decide +kernel
theorem dX8_sessionOf_0 : decode cX8_sessionOf 0 = .ok (.iload_n 1, 1) := by decide +kernel
theorem dX8_sessionOf_1 : decode cX8_sessionOf 1 = .ok (.ifCond .lt 27, 3) := by decide +kernel
theorem dX8_sessionOf_4 : decode cX8_sessionOf 4 = .ok (.iload_n 1, 1) := by decide +kernel
theorem dX8_sessionOf_5 : decode cX8_sessionOf 5 = .ok (.aload_n 0, 1) := by decide +kernel
theorem dX8_sessionOf_6 : decode cX8_sessionOf 6 = .ok (.getfield 99, 3) := by decide +kernel
theorem dX8_sessionOf_9 : decode cX8_sessionOf 9 = .ok (.if_icmp .ge 19, 3) := by decide +kernel
theorem dX8_sessionOf_12 : decode cX8_sessionOf 12 = .ok (.iload_n 1, 1) := by decide +kernel
theorem dX8_sessionOf_13 : decode cX8_sessionOf 13 = .ok (.sipush 200, 3) := by decide +kernel
theorem dX8_sessionOf_16 : decode cX8_sessionOf 16 = .ok (.if_icmp .ge 12, 3) := by decide +kernel
theorem dX8_sessionOf_19 : decode cX8_sessionOf 19 = .ok (.aload_n 0, 1) := by decide +kernel
theorem dX8_sessionOf_20 : decode cX8_sessionOf 20 = .ok (.getfield 28, 3) := by decide +kernel
theorem dX8_sessionOf_23 : decode cX8_sessionOf 23 = .ok (.iload_n 1, 1) := by decide +kernel
theorem dX8_sessionOf_24 : decode cX8_sessionOf 24 = .ok (.aaload, 1) := by decide +kernel
theorem dX8_sessionOf_25 : decode cX8_sessionOf 25 = .ok (.goto 4, 3) := by decide +kernel
theorem dX8_sessionOf_28 : decode cX8_sessionOf 28 = .ok (.aconst_null, 1) := by decide +kernel
theorem dX8_sessionOf_29 : decode cX8_sessionOf 29 = .ok (.areturn, 1) := by decide +kernel
set_option maxRecDepth 20000 in
theorem ggX8_numberAt_X8_iceOf : GoodIn wsX8_numberAt wsX8_iceOf := goodIn_r _ [9, 10, 11, 39, 40, 41, 42, 43, 44, 45, 46, 47, 48, 49, 50, 51, 52, 53, 54, 55, 56] (by decide +kernel) (by decide +kernel)
set_option maxRecDepth 20000 in
theorem gX8_numberAt_X8_iceOf : GoodIn wsX8_numberAt (wsV RX8 112 RX8 yX8_iceOf wsX8_iceOf) := goodIn_app (goodIn_of _ (by decide +kernel)) ggX8_numberAt_X8_iceOf
set_option maxRecDepth 20000 in
theorem ggX8_numberAt_X0_has : GoodIn wsX8_numberAt wsX0_has := goodIn_r _ [16, 17, 67] (by decide +kernel) (by decide +kernel)
set_option maxRecDepth 20000 in
theorem gX8_numberAt_X0_has : GoodIn wsX8_numberAt (wsV RX8 255 RX0 yX0_has wsX0_has) := goodIn_app (goodIn_of _ (by decide +kernel)) ggX8_numberAt_X0_has
set_option maxRecDepth 20000 in
theorem ggX8_numberAt_X8_sessionOf : GoodIn wsX8_numberAt wsX8_sessionOf := goodIn_r _ [21, 2, 22, 39, 40, 41, 42, 43, 44, 45, 46, 47, 48, 49, 50, 51, 52, 53, 54, 55, 56] (by decide +kernel) (by decide +kernel)
set_option maxRecDepth 20000 in
theorem gX8_numberAt_X8_sessionOf : GoodIn wsX8_numberAt (wsV RX8 131 RX8 yX8_sessionOf wsX8_sessionOf) := goodIn_app (goodIn_of _ (by decide +kernel)) ggX8_numberAt_X8_sessionOf
set_option maxRecDepth 20000 in
theorem ggX8_numberAt_X6_stands : GoodIn wsX8_numberAt wsX6_stands := goodIn_r _ [27, 28, 57, 58, 59, 60, 61, 62, 63, 64, 65, 66] (by decide +kernel) (by decide +kernel)
set_option maxRecDepth 20000 in
theorem gX8_numberAt_X6_stands : GoodIn wsX8_numberAt (wsV RX8 270 RX6 yX6_stands wsX6_stands) := goodIn_app (goodIn_of _ (by decide +kernel)) ggX8_numberAt_X6_stands
theorem dX8_numberAt_0 : decode cX8_numberAt 0 = .ok (.aload_n 0, 1) := by decide +kernel
theorem dX8_numberAt_1 : decode cX8_numberAt 1 = .ok (.iload_n 1, 1) := by decide +kernel
theorem dX8_numberAt_2 : decode cX8_numberAt 2 = .ok (.invokevirtual 112, 3) := by decide +kernel
theorem dX8_numberAt_5 : decode cX8_numberAt 5 = .ok (.getfield 119, 3) := by decide +kernel
theorem dX8_numberAt_8 : decode cX8_numberAt 8 = .ok (.iload_n 2, 1) := by decide +kernel
theorem dX8_numberAt_9 : decode cX8_numberAt 9 = .ok (.invokevirtual 255, 3) := by decide +kernel
theorem dX8_numberAt_12 : decode cX8_numberAt 12 = .ok (.ifCond .ne 5, 3) := by decide +kernel
theorem dX8_numberAt_15 : decode cX8_numberAt 15 = .ok (.iconst (-1), 1) := by decide +kernel
theorem dX8_numberAt_16 : decode cX8_numberAt 16 = .ok (.ireturn, 1) := by decide +kernel
theorem dX8_numberAt_17 : decode cX8_numberAt 17 = .ok (.iconst 0, 1) := by decide +kernel
theorem dX8_numberAt_18 : decode cX8_numberAt 18 = .ok (.istore_n 3, 1) := by decide +kernel
theorem dX8_numberAt_19 : decode cX8_numberAt 19 = .ok (.iload_n 3, 1) := by decide +kernel
theorem dX8_numberAt_20 : decode cX8_numberAt 20 = .ok (.aload_n 0, 1) := by decide +kernel
theorem dX8_numberAt_21 : decode cX8_numberAt 21 = .ok (.getfield 99, 3) := by decide +kernel
theorem dX8_numberAt_24 : decode cX8_numberAt 24 = .ok (.if_icmp .ge 49, 3) := by decide +kernel
theorem dX8_numberAt_27 : decode cX8_numberAt 27 = .ok (.aload_n 0, 1) := by decide +kernel
theorem dX8_numberAt_28 : decode cX8_numberAt 28 = .ok (.iload_n 3, 1) := by decide +kernel
theorem dX8_numberAt_29 : decode cX8_numberAt 29 = .ok (.invokevirtual 131, 3) := by decide +kernel
theorem dX8_numberAt_32 : decode cX8_numberAt 32 = .ok (.astore 4, 2) := by decide +kernel
theorem dX8_numberAt_34 : decode cX8_numberAt 34 = .ok (.aload 4, 2) := by decide +kernel
theorem dX8_numberAt_36 : decode cX8_numberAt 36 = .ok (.ifnull 31, 3) := by decide +kernel
theorem dX8_numberAt_39 : decode cX8_numberAt 39 = .ok (.aload 4, 2) := by decide +kernel
theorem dX8_numberAt_41 : decode cX8_numberAt 41 = .ok (.invokevirtual 270, 3) := by decide +kernel
theorem dX8_numberAt_44 : decode cX8_numberAt 44 = .ok (.ifCond .eq 23, 3) := by decide +kernel
theorem dX8_numberAt_47 : decode cX8_numberAt 47 = .ok (.aload 4, 2) := by decide +kernel
theorem dX8_numberAt_49 : decode cX8_numberAt 49 = .ok (.getfield 138, 3) := by decide +kernel
theorem dX8_numberAt_52 : decode cX8_numberAt 52 = .ok (.iload_n 1, 1) := by decide +kernel
theorem dX8_numberAt_53 : decode cX8_numberAt 53 = .ok (.if_icmp .ne 14, 3) := by decide +kernel
theorem dX8_numberAt_56 : decode cX8_numberAt 56 = .ok (.aload 4, 2) := by decide +kernel
theorem dX8_numberAt_58 : decode cX8_numberAt 58 = .ok (.getfield 141, 3) := by decide +kernel
theorem dX8_numberAt_61 : decode cX8_numberAt 61 = .ok (.iload_n 2, 1) := by decide +kernel
theorem dX8_numberAt_62 : decode cX8_numberAt 62 = .ok (.if_icmp .ne 5, 3) := by decide +kernel
theorem dX8_numberAt_65 : decode cX8_numberAt 65 = .ok (.iload_n 3, 1) := by decide +kernel
theorem dX8_numberAt_66 : decode cX8_numberAt 66 = .ok (.ireturn, 1) := by decide +kernel
theorem dX8_numberAt_67 : decode cX8_numberAt 67 = .ok (.iinc 3 1, 3) := by decide +kernel
theorem dX8_numberAt_70 : decode cX8_numberAt 70 = .ok (.goto (-51), 3) := by decide +kernel
theorem dX8_numberAt_73 : decode cX8_numberAt 73 = .ok (.iconst (-1), 1) := by decide +kernel
theorem dX8_numberAt_74 : decode cX8_numberAt 74 = .ok (.ireturn, 1) := by decide +kernel
set_option maxRecDepth 20000 in
theorem ggX8_standingAt_X8_numberAt : GoodIn wsX8_standingAt wsX8_numberAt := goodIn_r _ [5, 6, 7, 8, 9, 10, 11, 12, 4, 13, 14, 15, 16, 17, 18, 19, 20, 21, 22, 23, 24, 25, 26, 27, 28, 29, 30, 31, 32, 33, 34, 35, 36, 37, 38, 39, 40, 41, 42, 43, 44, 45, 46, 47, 48, 49, 50, 51, 52, 53, 54, 55, 56, 57, 58, 59, 60, 61, 62, 63, 64, 65, 66, 67, 68, 69, 70, 71] (by decide +kernel) (by decide +kernel)
set_option maxRecDepth 20000 in
theorem gX8_standingAt_X8_numberAt : GoodIn wsX8_standingAt (wsV RX8 237 RX8 yX8_numberAt wsX8_numberAt) := goodIn_app (goodIn_of _ (by decide +kernel)) ggX8_standingAt_X8_numberAt
set_option maxRecDepth 20000 in
theorem ggX8_standingAt_X8_sessionOf : GoodIn wsX8_standingAt wsX8_sessionOf := goodIn_r _ [25, 7, 26, 43, 44, 45, 46, 47, 48, 49, 50, 51, 52, 53, 54, 55, 56, 57, 58, 59, 60] (by decide +kernel) (by decide +kernel)
set_option maxRecDepth 20000 in
theorem gX8_standingAt_X8_sessionOf : GoodIn wsX8_standingAt (wsV RX8 131 RX8 yX8_sessionOf wsX8_sessionOf) := goodIn_app (goodIn_of _ (by decide +kernel)) ggX8_standingAt_X8_sessionOf
theorem dX8_standingAt_0 : decode cX8_standingAt 0 = .ok (.aload_n 0, 1) := by decide +kernel
theorem dX8_standingAt_1 : decode cX8_standingAt 1 = .ok (.aload_n 0, 1) := by decide +kernel
theorem dX8_standingAt_2 : decode cX8_standingAt 2 = .ok (.iload_n 1, 1) := by decide +kernel
theorem dX8_standingAt_3 : decode cX8_standingAt 3 = .ok (.iload_n 2, 1) := by decide +kernel
theorem dX8_standingAt_4 : decode cX8_standingAt 4 = .ok (.invokevirtual 237, 3) := by decide +kernel
theorem dX8_standingAt_7 : decode cX8_standingAt 7 = .ok (.invokevirtual 131, 3) := by decide +kernel
theorem dX8_standingAt_10 : decode cX8_standingAt 10 = .ok (.areturn, 1) := by decide +kernel
set_option maxRecDepth 20000 in
theorem ggX8_heatOf_X8_ofKind : GoodIn wsX8_heatOf wsX8_ofKind := goodIn_r _ [6, 7, 8, 5, 9] (by decide +kernel) (by decide +kernel)
set_option maxRecDepth 20000 in
theorem gX8_heatOf_X8_ofKind : GoodIn wsX8_heatOf (va_wsS RX8 277 yX8_ofKind wsX8_ofKind) := goodIn_app (goodIn_of _ (by decide +kernel)) ggX8_heatOf_X8_ofKind
theorem dX8_heatOf_0 : decode cX8_heatOf 0 = .ok (.aload_n 0, 1) := by decide +kernel
theorem dX8_heatOf_1 : decode cX8_heatOf 1 = .ok (.ifnonnull 7, 3) := by decide +kernel
theorem dX8_heatOf_4 : decode cX8_heatOf 4 = .ok (.iconst 0, 1) := by decide +kernel
theorem dX8_heatOf_5 : decode cX8_heatOf 5 = .ok (.goto 13, 3) := by decide +kernel
theorem dX8_heatOf_8 : decode cX8_heatOf 8 = .ok (.getstatic 274, 3) := by decide +kernel
theorem dX8_heatOf_11 : decode cX8_heatOf 11 = .ok (.aload_n 0, 1) := by decide +kernel
theorem dX8_heatOf_12 : decode cX8_heatOf 12 = .ok (.getfield 228, 3) := by decide +kernel
theorem dX8_heatOf_15 : decode cX8_heatOf 15 = .ok (.invokestatic 277, 3) := by decide +kernel
theorem dX8_heatOf_18 : decode cX8_heatOf 18 = .ok (.ireturn, 1) := by decide +kernel
set_option maxRecDepth 20000 in
theorem ggX8_countInWeek_X8_sessionOf : GoodIn wsX8_countInWeek wsX8_sessionOf := goodIn_r _ [8, 1, 9, 16, 17, 18, 19, 20, 21, 22, 23, 24, 25, 26, 27, 28, 29, 30, 31, 32, 33] (by decide +kernel) (by decide +kernel)
set_option maxRecDepth 20000 in
theorem gX8_countInWeek_X8_sessionOf : GoodIn wsX8_countInWeek (wsV RX8 131 RX8 yX8_sessionOf wsX8_sessionOf) := goodIn_app (goodIn_of _ (by decide +kernel)) ggX8_countInWeek_X8_sessionOf
set_option maxRecDepth 20000 in
theorem ggX8_countInWeek_X6_stands : GoodIn wsX8_countInWeek wsX6_stands := goodIn_r _ [14, 15, 34, 35, 36, 37, 38, 39, 40, 41, 42, 43] (by decide +kernel) (by decide +kernel)
set_option maxRecDepth 20000 in
theorem gX8_countInWeek_X6_stands : GoodIn wsX8_countInWeek (wsV RX8 270 RX6 yX6_stands wsX6_stands) := goodIn_app (goodIn_of _ (by decide +kernel)) ggX8_countInWeek_X6_stands
theorem dX8_countInWeek_0 : decode cX8_countInWeek 0 = .ok (.iconst 0, 1) := by decide +kernel
theorem dX8_countInWeek_1 : decode cX8_countInWeek 1 = .ok (.istore_n 3, 1) := by decide +kernel
theorem dX8_countInWeek_2 : decode cX8_countInWeek 2 = .ok (.iconst 0, 1) := by decide +kernel
theorem dX8_countInWeek_3 : decode cX8_countInWeek 3 = .ok (.istore 4, 2) := by decide +kernel
theorem dX8_countInWeek_5 : decode cX8_countInWeek 5 = .ok (.iload 4, 2) := by decide +kernel
theorem dX8_countInWeek_7 : decode cX8_countInWeek 7 = .ok (.aload_n 0, 1) := by decide +kernel
theorem dX8_countInWeek_8 : decode cX8_countInWeek 8 = .ok (.getfield 99, 3) := by decide +kernel
theorem dX8_countInWeek_11 : decode cX8_countInWeek 11 = .ok (.if_icmp .ge 55, 3) := by decide +kernel
theorem dX8_countInWeek_14 : decode cX8_countInWeek 14 = .ok (.aload_n 0, 1) := by decide +kernel
theorem dX8_countInWeek_15 : decode cX8_countInWeek 15 = .ok (.iload 4, 2) := by decide +kernel
theorem dX8_countInWeek_17 : decode cX8_countInWeek 17 = .ok (.invokevirtual 131, 3) := by decide +kernel
theorem dX8_countInWeek_20 : decode cX8_countInWeek 20 = .ok (.astore 5, 2) := by decide +kernel
theorem dX8_countInWeek_22 : decode cX8_countInWeek 22 = .ok (.aload 5, 2) := by decide +kernel
theorem dX8_countInWeek_24 : decode cX8_countInWeek 24 = .ok (.ifnull 36, 3) := by decide +kernel
theorem dX8_countInWeek_27 : decode cX8_countInWeek 27 = .ok (.aload 5, 2) := by decide +kernel
theorem dX8_countInWeek_29 : decode cX8_countInWeek 29 = .ok (.getfield 225, 3) := by decide +kernel
theorem dX8_countInWeek_32 : decode cX8_countInWeek 32 = .ok (.iload_n 1, 1) := by decide +kernel
theorem dX8_countInWeek_33 : decode cX8_countInWeek 33 = .ok (.if_icmp .ne 27, 3) := by decide +kernel
theorem dX8_countInWeek_36 : decode cX8_countInWeek 36 = .ok (.aload 5, 2) := by decide +kernel
theorem dX8_countInWeek_38 : decode cX8_countInWeek 38 = .ok (.invokevirtual 270, 3) := by decide +kernel
theorem dX8_countInWeek_41 : decode cX8_countInWeek 41 = .ok (.ifCond .eq 19, 3) := by decide +kernel
theorem dX8_countInWeek_44 : decode cX8_countInWeek 44 = .ok (.aload 5, 2) := by decide +kernel
theorem dX8_countInWeek_46 : decode cX8_countInWeek 46 = .ok (.getfield 141, 3) := by decide +kernel
theorem dX8_countInWeek_49 : decode cX8_countInWeek 49 = .ok (.sipush 168, 3) := by decide +kernel
theorem dX8_countInWeek_52 : decode cX8_countInWeek 52 = .ok (.idiv, 1) := by decide +kernel
theorem dX8_countInWeek_53 : decode cX8_countInWeek 53 = .ok (.iload_n 2, 1) := by decide +kernel
theorem dX8_countInWeek_54 : decode cX8_countInWeek 54 = .ok (.if_icmp .ne 6, 3) := by decide +kernel
theorem dX8_countInWeek_57 : decode cX8_countInWeek 57 = .ok (.iinc 3 1, 3) := by decide +kernel
theorem dX8_countInWeek_60 : decode cX8_countInWeek 60 = .ok (.iinc 4 1, 3) := by decide +kernel
theorem dX8_countInWeek_63 : decode cX8_countInWeek 63 = .ok (.goto (-58), 3) := by decide +kernel
theorem dX8_countInWeek_66 : decode cX8_countInWeek 66 = .ok (.iload_n 3, 1) := by decide +kernel
theorem dX8_countInWeek_67 : decode cX8_countInWeek 67 = .ok (.ireturn, 1) := by decide +kernel
set_option maxRecDepth 20000 in
theorem ggX8_countInState_X8_sessionOf : GoodIn wsX8_countInState wsX8_sessionOf := goodIn_r _ [8, 1, 9, 10, 11, 12, 13, 14, 15, 16, 17, 18, 19, 20, 21, 22, 23, 24, 25, 26, 27] (by decide +kernel) (by decide +kernel)
set_option maxRecDepth 20000 in
theorem gX8_countInState_X8_sessionOf : GoodIn wsX8_countInState (wsV RX8 131 RX8 yX8_sessionOf wsX8_sessionOf) := goodIn_app (goodIn_of _ (by decide +kernel)) ggX8_countInState_X8_sessionOf
theorem dX8_countInState_0 : decode cX8_countInState 0 = .ok (.iconst 0, 1) := by decide +kernel
theorem dX8_countInState_1 : decode cX8_countInState 1 = .ok (.istore_n 3, 1) := by decide +kernel
theorem dX8_countInState_2 : decode cX8_countInState 2 = .ok (.iconst 0, 1) := by decide +kernel
theorem dX8_countInState_3 : decode cX8_countInState 3 = .ok (.istore 4, 2) := by decide +kernel
theorem dX8_countInState_5 : decode cX8_countInState 5 = .ok (.iload 4, 2) := by decide +kernel
theorem dX8_countInState_7 : decode cX8_countInState 7 = .ok (.aload_n 0, 1) := by decide +kernel
theorem dX8_countInState_8 : decode cX8_countInState 8 = .ok (.getfield 99, 3) := by decide +kernel
theorem dX8_countInState_11 : decode cX8_countInState 11 = .ok (.if_icmp .ge 43, 3) := by decide +kernel
theorem dX8_countInState_14 : decode cX8_countInState 14 = .ok (.aload_n 0, 1) := by decide +kernel
theorem dX8_countInState_15 : decode cX8_countInState 15 = .ok (.iload 4, 2) := by decide +kernel
theorem dX8_countInState_17 : decode cX8_countInState 17 = .ok (.invokevirtual 131, 3) := by decide +kernel
theorem dX8_countInState_20 : decode cX8_countInState 20 = .ok (.astore 5, 2) := by decide +kernel
theorem dX8_countInState_22 : decode cX8_countInState 22 = .ok (.aload 5, 2) := by decide +kernel
theorem dX8_countInState_24 : decode cX8_countInState 24 = .ok (.ifnull 24, 3) := by decide +kernel
theorem dX8_countInState_27 : decode cX8_countInState 27 = .ok (.aload 5, 2) := by decide +kernel
theorem dX8_countInState_29 : decode cX8_countInState 29 = .ok (.getfield 225, 3) := by decide +kernel
theorem dX8_countInState_32 : decode cX8_countInState 32 = .ok (.iload_n 1, 1) := by decide +kernel
theorem dX8_countInState_33 : decode cX8_countInState 33 = .ok (.if_icmp .ne 15, 3) := by decide +kernel
theorem dX8_countInState_36 : decode cX8_countInState 36 = .ok (.aload 5, 2) := by decide +kernel
theorem dX8_countInState_38 : decode cX8_countInState 38 = .ok (.getfield 135, 3) := by decide +kernel
theorem dX8_countInState_41 : decode cX8_countInState 41 = .ok (.iload_n 2, 1) := by decide +kernel
theorem dX8_countInState_42 : decode cX8_countInState 42 = .ok (.if_icmp .ne 6, 3) := by decide +kernel
theorem dX8_countInState_45 : decode cX8_countInState 45 = .ok (.iinc 3 1, 3) := by decide +kernel
theorem dX8_countInState_48 : decode cX8_countInState 48 = .ok (.iinc 4 1, 3) := by decide +kernel
theorem dX8_countInState_51 : decode cX8_countInState 51 = .ok (.goto (-46), 3) := by decide +kernel
theorem dX8_countInState_54 : decode cX8_countInState 54 = .ok (.iload_n 3, 1) := by decide +kernel
theorem dX8_countInState_55 : decode cX8_countInState 55 = .ok (.ireturn, 1) := by decide +kernel
set_option maxRecDepth 20000 in
theorem ggX8_owedBy_X8_sessionOf : GoodIn wsX8_owedBy wsX8_sessionOf := goodIn_r _ [8, 1, 9, 10, 11, 12, 13, 14, 15, 16, 17, 18, 19, 20, 21, 22, 23, 24, 25, 26, 27] (by decide +kernel) (by decide +kernel)
set_option maxRecDepth 20000 in
theorem gX8_owedBy_X8_sessionOf : GoodIn wsX8_owedBy (wsV RX8 131 RX8 yX8_sessionOf wsX8_sessionOf) := goodIn_app (goodIn_of _ (by decide +kernel)) ggX8_owedBy_X8_sessionOf
theorem dX8_owedBy_0 : decode cX8_owedBy 0 = .ok (.iconst 0, 1) := by decide +kernel
theorem dX8_owedBy_1 : decode cX8_owedBy 1 = .ok (.istore_n 2, 1) := by decide +kernel
theorem dX8_owedBy_2 : decode cX8_owedBy 2 = .ok (.iconst 0, 1) := by decide +kernel
theorem dX8_owedBy_3 : decode cX8_owedBy 3 = .ok (.istore_n 3, 1) := by decide +kernel
theorem dX8_owedBy_4 : decode cX8_owedBy 4 = .ok (.iload_n 3, 1) := by decide +kernel
theorem dX8_owedBy_5 : decode cX8_owedBy 5 = .ok (.aload_n 0, 1) := by decide +kernel
theorem dX8_owedBy_6 : decode cX8_owedBy 6 = .ok (.getfield 99, 3) := by decide +kernel
theorem dX8_owedBy_9 : decode cX8_owedBy 9 = .ok (.if_icmp .ge 38, 3) := by decide +kernel
theorem dX8_owedBy_12 : decode cX8_owedBy 12 = .ok (.aload_n 0, 1) := by decide +kernel
theorem dX8_owedBy_13 : decode cX8_owedBy 13 = .ok (.iload_n 3, 1) := by decide +kernel
theorem dX8_owedBy_14 : decode cX8_owedBy 14 = .ok (.invokevirtual 131, 3) := by decide +kernel
theorem dX8_owedBy_17 : decode cX8_owedBy 17 = .ok (.astore 4, 2) := by decide +kernel
theorem dX8_owedBy_19 : decode cX8_owedBy 19 = .ok (.aload 4, 2) := by decide +kernel
theorem dX8_owedBy_21 : decode cX8_owedBy 21 = .ok (.ifnull 20, 3) := by decide +kernel
theorem dX8_owedBy_24 : decode cX8_owedBy 24 = .ok (.aload 4, 2) := by decide +kernel
theorem dX8_owedBy_26 : decode cX8_owedBy 26 = .ok (.getfield 225, 3) := by decide +kernel
theorem dX8_owedBy_29 : decode cX8_owedBy 29 = .ok (.iload_n 1, 1) := by decide +kernel
theorem dX8_owedBy_30 : decode cX8_owedBy 30 = .ok (.if_icmp .ne 11, 3) := by decide +kernel
theorem dX8_owedBy_33 : decode cX8_owedBy 33 = .ok (.iload_n 2, 1) := by decide +kernel
theorem dX8_owedBy_34 : decode cX8_owedBy 34 = .ok (.aload 4, 2) := by decide +kernel
theorem dX8_owedBy_36 : decode cX8_owedBy 36 = .ok (.getfield 153, 3) := by decide +kernel
theorem dX8_owedBy_39 : decode cX8_owedBy 39 = .ok (.iadd, 1) := by decide +kernel
theorem dX8_owedBy_40 : decode cX8_owedBy 40 = .ok (.istore_n 2, 1) := by decide +kernel
theorem dX8_owedBy_41 : decode cX8_owedBy 41 = .ok (.iinc 3 1, 3) := by decide +kernel
theorem dX8_owedBy_44 : decode cX8_owedBy 44 = .ok (.goto (-40), 3) := by decide +kernel
theorem dX8_owedBy_47 : decode cX8_owedBy 47 = .ok (.iload_n 2, 1) := by decide +kernel
theorem dX8_owedBy_48 : decode cX8_owedBy 48 = .ok (.ireturn, 1) := by decide +kernel
set_option maxRecDepth 20000 in
theorem ggX8_gatherSessions_X2_begin : GoodIn wsX8_gatherSessions wsX2_begin := goodIn_r _ [9, 10, 58, 59, 60, 61, 62, 63, 64, 65, 66, 67] (by decide +kernel) (by decide +kernel)
set_option maxRecDepth 20000 in
theorem gX8_gatherSessions_X2_begin : GoodIn wsX8_gatherSessions (wsV RX8 281 RX2 yX2_begin wsX2_begin) := goodIn_app (goodIn_of _ (by decide +kernel)) ggX8_gatherSessions_X2_begin
set_option maxRecDepth 20000 in
theorem ggX8_gatherSessions_X8_sessionOf : GoodIn wsX8_gatherSessions wsX8_sessionOf := goodIn_r _ [15, 2, 16, 30, 31, 32, 33, 34, 35, 36, 37, 38, 39, 40, 41, 42, 43, 44, 45, 46, 47] (by decide +kernel) (by decide +kernel)
set_option maxRecDepth 20000 in
theorem gX8_gatherSessions_X8_sessionOf : GoodIn wsX8_gatherSessions (wsV RX8 131 RX8 yX8_sessionOf wsX8_sessionOf) := goodIn_app (goodIn_of _ (by decide +kernel)) ggX8_gatherSessions_X8_sessionOf
set_option maxRecDepth 20000 in
theorem ggX8_gatherSessions_X6_stands : GoodIn wsX8_gatherSessions wsX6_stands := goodIn_r _ [21, 22, 48, 49, 50, 51, 52, 53, 54, 55, 56, 57] (by decide +kernel) (by decide +kernel)
set_option maxRecDepth 20000 in
theorem gX8_gatherSessions_X6_stands : GoodIn wsX8_gatherSessions (wsV RX8 270 RX6 yX6_stands wsX6_stands) := goodIn_app (goodIn_of _ (by decide +kernel)) ggX8_gatherSessions_X6_stands
set_option maxRecDepth 20000 in
theorem ggX8_gatherSessions_X2_add : GoodIn wsX8_gatherSessions wsX2_add := goodIn_r _ [26, 10, 27, 28, 14, 29, 58, 59, 60, 61, 62, 63, 64, 65, 66, 67] (by decide +kernel) (by decide +kernel)
set_option maxRecDepth 20000 in
theorem gX8_gatherSessions_X2_add : GoodIn wsX8_gatherSessions (wsV RX8 282 RX2 yX2_add wsX2_add) := goodIn_app (goodIn_of _ (by decide +kernel)) ggX8_gatherSessions_X2_add
theorem dX8_gatherSessions_0 : decode cX8_gatherSessions 0 = .ok (.aload_n 0, 1) := by decide +kernel
theorem dX8_gatherSessions_1 : decode cX8_gatherSessions 1 = .ok (.getfield 57, 3) := by decide +kernel
theorem dX8_gatherSessions_4 : decode cX8_gatherSessions 4 = .ok (.invokevirtual 281, 3) := by decide +kernel
theorem dX8_gatherSessions_7 : decode cX8_gatherSessions 7 = .ok (.iconst 0, 1) := by decide +kernel
theorem dX8_gatherSessions_8 : decode cX8_gatherSessions 8 = .ok (.istore 4, 2) := by decide +kernel
theorem dX8_gatherSessions_10 : decode cX8_gatherSessions 10 = .ok (.iload 4, 2) := by decide +kernel
theorem dX8_gatherSessions_12 : decode cX8_gatherSessions 12 = .ok (.aload_n 0, 1) := by decide +kernel
theorem dX8_gatherSessions_13 : decode cX8_gatherSessions 13 = .ok (.getfield 99, 3) := by decide +kernel
theorem dX8_gatherSessions_16 : decode cX8_gatherSessions 16 = .ok (.if_icmp .ge 71, 3) := by decide +kernel
theorem dX8_gatherSessions_19 : decode cX8_gatherSessions 19 = .ok (.aload_n 0, 1) := by decide +kernel
theorem dX8_gatherSessions_20 : decode cX8_gatherSessions 20 = .ok (.iload 4, 2) := by decide +kernel
theorem dX8_gatherSessions_22 : decode cX8_gatherSessions 22 = .ok (.invokevirtual 131, 3) := by decide +kernel
theorem dX8_gatherSessions_25 : decode cX8_gatherSessions 25 = .ok (.astore 5, 2) := by decide +kernel
theorem dX8_gatherSessions_27 : decode cX8_gatherSessions 27 = .ok (.aload 5, 2) := by decide +kernel
theorem dX8_gatherSessions_29 : decode cX8_gatherSessions 29 = .ok (.ifnull 52, 3) := by decide +kernel
theorem dX8_gatherSessions_32 : decode cX8_gatherSessions 32 = .ok (.aload 5, 2) := by decide +kernel
theorem dX8_gatherSessions_34 : decode cX8_gatherSessions 34 = .ok (.invokevirtual 270, 3) := by decide +kernel
theorem dX8_gatherSessions_37 : decode cX8_gatherSessions 37 = .ok (.ifCond .eq 44, 3) := by decide +kernel
theorem dX8_gatherSessions_40 : decode cX8_gatherSessions 40 = .ok (.aload 5, 2) := by decide +kernel
theorem dX8_gatherSessions_42 : decode cX8_gatherSessions 42 = .ok (.getfield 138, 3) := by decide +kernel
theorem dX8_gatherSessions_45 : decode cX8_gatherSessions 45 = .ok (.iload_n 1, 1) := by decide +kernel
theorem dX8_gatherSessions_46 : decode cX8_gatherSessions 46 = .ok (.if_icmp .ne 35, 3) := by decide +kernel
theorem dX8_gatherSessions_49 : decode cX8_gatherSessions 49 = .ok (.aload 5, 2) := by decide +kernel
theorem dX8_gatherSessions_51 : decode cX8_gatherSessions 51 = .ok (.getfield 141, 3) := by decide +kernel
theorem dX8_gatherSessions_54 : decode cX8_gatherSessions 54 = .ok (.iload_n 2, 1) := by decide +kernel
theorem dX8_gatherSessions_55 : decode cX8_gatherSessions 55 = .ok (.if_icmp .lt 26, 3) := by decide +kernel
theorem dX8_gatherSessions_58 : decode cX8_gatherSessions 58 = .ok (.aload 5, 2) := by decide +kernel
theorem dX8_gatherSessions_60 : decode cX8_gatherSessions 60 = .ok (.getfield 141, 3) := by decide +kernel
theorem dX8_gatherSessions_63 : decode cX8_gatherSessions 63 = .ok (.iload_n 3, 1) := by decide +kernel
theorem dX8_gatherSessions_64 : decode cX8_gatherSessions 64 = .ok (.if_icmp .ge 17, 3) := by decide +kernel
theorem dX8_gatherSessions_67 : decode cX8_gatherSessions 67 = .ok (.aload_n 0, 1) := by decide +kernel
theorem dX8_gatherSessions_68 : decode cX8_gatherSessions 68 = .ok (.getfield 57, 3) := by decide +kernel
theorem dX8_gatherSessions_71 : decode cX8_gatherSessions 71 = .ok (.aload 5, 2) := by decide +kernel
theorem dX8_gatherSessions_73 : decode cX8_gatherSessions 73 = .ok (.invokevirtual 282, 3) := by decide +kernel
theorem dX8_gatherSessions_76 : decode cX8_gatherSessions 76 = .ok (.ifCond .ne 5, 3) := by decide +kernel
theorem dX8_gatherSessions_79 : decode cX8_gatherSessions 79 = .ok (.iconst 0, 1) := by decide +kernel
theorem dX8_gatherSessions_80 : decode cX8_gatherSessions 80 = .ok (.ireturn, 1) := by decide +kernel
theorem dX8_gatherSessions_81 : decode cX8_gatherSessions 81 = .ok (.iinc 4 1, 3) := by decide +kernel
theorem dX8_gatherSessions_84 : decode cX8_gatherSessions 84 = .ok (.goto (-74), 3) := by decide +kernel
theorem dX8_gatherSessions_87 : decode cX8_gatherSessions 87 = .ok (.iconst 1, 1) := by decide +kernel
theorem dX8_gatherSessions_88 : decode cX8_gatherSessions 88 = .ok (.ireturn, 1) := by decide +kernel
theorem dX8_runCompressors_0 : decode cX8_runCompressors 0 = .ok (.aload_n 0, 1) := by decide +kernel
theorem dX8_runCompressors_1 : decode cX8_runCompressors 1 = .ok (.dup, 1) := by decide +kernel
theorem dX8_runCompressors_2 : decode cX8_runCompressors 2 = .ok (.getfield 264, 3) := by decide +kernel
theorem dX8_runCompressors_5 : decode cX8_runCompressors 5 = .ok (.iload_n 1, 1) := by decide +kernel
theorem dX8_runCompressors_6 : decode cX8_runCompressors 6 = .ok (.aload_n 0, 1) := by decide +kernel
theorem dX8_runCompressors_7 : decode cX8_runCompressors 7 = .ok (.getfield 32, 3) := by decide +kernel
theorem dX8_runCompressors_10 : decode cX8_runCompressors 10 = .ok (.aload_n 0, 1) := by decide +kernel
theorem dX8_runCompressors_11 : decode cX8_runCompressors 11 = .ok (.getfield 96, 3) := by decide +kernel
theorem dX8_runCompressors_14 : decode cX8_runCompressors 14 = .ok (.bipush 24, 2) := by decide +kernel
theorem dX8_runCompressors_16 : decode cX8_runCompressors 16 = .ok (.irem, 1) := by decide +kernel
theorem dX8_runCompressors_17 : decode cX8_runCompressors 17 = .ok (.iaload, 1) := by decide +kernel
theorem dX8_runCompressors_18 : decode cX8_runCompressors 18 = .ok (.imul, 1) := by decide +kernel
theorem dX8_runCompressors_19 : decode cX8_runCompressors 19 = .ok (.iadd, 1) := by decide +kernel
theorem dX8_runCompressors_20 : decode cX8_runCompressors 20 = .ok (.putfield 264, 3) := by decide +kernel
theorem dX8_runCompressors_23 : decode cX8_runCompressors 23 = .ok (.aload_n 0, 1) := by decide +kernel
theorem dX8_runCompressors_24 : decode cX8_runCompressors 24 = .ok (.dup, 1) := by decide +kernel
theorem dX8_runCompressors_25 : decode cX8_runCompressors 25 = .ok (.getfield 68, 3) := by decide +kernel
theorem dX8_runCompressors_28 : decode cX8_runCompressors 28 = .ok (.iload_n 1, 1) := by decide +kernel
theorem dX8_runCompressors_29 : decode cX8_runCompressors 29 = .ok (.bipush 20, 2) := by decide +kernel
theorem dX8_runCompressors_31 : decode cX8_runCompressors 31 = .ok (.imul, 1) := by decide +kernel
theorem dX8_runCompressors_32 : decode cX8_runCompressors 32 = .ok (.iadd, 1) := by decide +kernel
theorem dX8_runCompressors_33 : decode cX8_runCompressors 33 = .ok (.putfield 68, 3) := by decide +kernel
theorem dX8_runCompressors_36 : decode cX8_runCompressors 36 = .ok (.aload_n 0, 1) := by decide +kernel
theorem dX8_runCompressors_37 : decode cX8_runCompressors 37 = .ok (.getfield 68, 3) := by decide +kernel
theorem dX8_runCompressors_40 : decode cX8_runCompressors 40 = .ok (.aload_n 0, 1) := by decide +kernel
theorem dX8_runCompressors_41 : decode cX8_runCompressors 41 = .ok (.getfield 72, 3) := by decide +kernel
theorem dX8_runCompressors_44 : decode cX8_runCompressors 44 = .ok (.if_icmp .le 29, 3) := by decide +kernel
theorem dX8_runCompressors_47 : decode cX8_runCompressors 47 = .ok (.aload_n 0, 1) := by decide +kernel
theorem dX8_runCompressors_48 : decode cX8_runCompressors 48 = .ok (.dup, 1) := by decide +kernel
theorem dX8_runCompressors_49 : decode cX8_runCompressors 49 = .ok (.getfield 261, 3) := by decide +kernel
theorem dX8_runCompressors_52 : decode cX8_runCompressors 52 = .ok (.aload_n 0, 1) := by decide +kernel
theorem dX8_runCompressors_53 : decode cX8_runCompressors 53 = .ok (.getfield 68, 3) := by decide +kernel
theorem dX8_runCompressors_56 : decode cX8_runCompressors 56 = .ok (.aload_n 0, 1) := by decide +kernel
theorem dX8_runCompressors_57 : decode cX8_runCompressors 57 = .ok (.getfield 72, 3) := by decide +kernel
theorem dX8_runCompressors_60 : decode cX8_runCompressors 60 = .ok (.isub, 1) := by decide +kernel
theorem dX8_runCompressors_61 : decode cX8_runCompressors 61 = .ok (.iadd, 1) := by decide +kernel
theorem dX8_runCompressors_62 : decode cX8_runCompressors 62 = .ok (.putfield 261, 3) := by decide +kernel
theorem dX8_runCompressors_65 : decode cX8_runCompressors 65 = .ok (.aload_n 0, 1) := by decide +kernel
theorem dX8_runCompressors_66 : decode cX8_runCompressors 66 = .ok (.aload_n 0, 1) := by decide +kernel
theorem dX8_runCompressors_67 : decode cX8_runCompressors 67 = .ok (.getfield 72, 3) := by decide +kernel
theorem dX8_runCompressors_70 : decode cX8_runCompressors 70 = .ok (.putfield 68, 3) := by decide +kernel
theorem dX8_runCompressors_73 : decode cX8_runCompressors 73 = .ok (.return_, 1) := by decide +kernel
set_option maxRecDepth 20000 in
theorem ggX8_passHour_X8_iceOf : GoodIn wsX8_passHour wsX8_iceOf := goodIn_r _ [12, 13, 14, 105, 106, 107, 108, 109, 110, 111, 112, 113, 114, 115, 116, 117, 118, 119, 120, 121, 122] (by decide +kernel) (by decide +kernel)
set_option maxRecDepth 20000 in
theorem gX8_passHour_X8_iceOf : GoodIn wsX8_passHour (wsV RX8 112 RX8 yX8_iceOf wsX8_iceOf) := goodIn_app (goodIn_of _ (by decide +kernel)) ggX8_passHour_X8_iceOf
set_option maxRecDepth 20000 in
theorem ggX8_passHour_X8_standingAt : GoodIn wsX8_passHour wsX8_standingAt := goodIn_r _ [18, 19, 20, 21, 11, 22, 23, 24, 25, 26, 8, 9, 10, 12, 13, 14, 27, 28, 29, 30, 31, 32, 33, 34, 35, 36, 37, 38, 39, 40, 41, 42, 43, 123, 124, 125, 126, 127, 128, 129, 130, 131, 132, 105, 106, 107, 108, 109, 110, 111, 112, 113, 114, 115, 116, 117, 118, 119, 120, 121, 122, 133, 134, 135, 136, 137, 138, 139, 140, 141, 142, 143] (by decide +kernel) (by decide +kernel)
set_option maxRecDepth 20000 in
theorem gX8_passHour_X8_standingAt : GoodIn wsX8_passHour (wsV RX8 197 RX8 yX8_standingAt wsX8_standingAt) := goodIn_app (goodIn_of _ (by decide +kernel)) ggX8_passHour_X8_standingAt
set_option maxRecDepth 20000 in
theorem ggX8_passHour_X8_heatOf : GoodIn wsX8_passHour wsX8_heatOf := goodIn_r _ [46, 47, 48, 49, 50, 11, 51, 52, 53, 54, 133, 134, 135, 136, 137, 138, 139, 140, 141, 142] (by decide +kernel) (by decide +kernel)
set_option maxRecDepth 20000 in
theorem gX8_passHour_X8_heatOf : GoodIn wsX8_passHour (va_wsS RX8 201 yX8_heatOf wsX8_heatOf) := goodIn_app (goodIn_of _ (by decide +kernel)) ggX8_passHour_X8_heatOf
set_option maxRecDepth 20000 in
theorem ggX8_passHour_X1_melt : GoodIn wsX8_passHour wsX1_melt := goodIn_r _ [59, 60, 61, 4, 5, 6, 62, 123, 124, 125, 126, 127, 128, 129, 130, 131, 132] (by decide +kernel) (by decide +kernel)
set_option maxRecDepth 20000 in
theorem gX8_passHour_X1_melt : GoodIn wsX8_passHour (wsV RX8 291 RX1 yX1_melt wsX1_melt) := goodIn_app (goodIn_of _ (by decide +kernel)) ggX8_passHour_X1_melt
set_option maxRecDepth 20000 in
theorem ggX8_passHour_X1_decide : GoodIn wsX8_passHour wsX1_decide := goodIn_r _ [66, 60, 67, 68, 69, 70, 71, 41, 72, 43, 73, 74, 75, 76, 77, 78, 79, 50, 11, 51, 52, 53, 54, 123, 124, 125, 126, 127, 128, 129, 130, 131, 132, 133, 134, 135, 136, 137, 138, 139, 140, 141, 142] (by decide +kernel) (by decide +kernel)
set_option maxRecDepth 20000 in
theorem gX8_passHour_X1_decide : GoodIn wsX8_passHour (wsV RX8 294 RX1 yX1_decide wsX1_decide) := goodIn_app (goodIn_of _ (by decide +kernel)) ggX8_passHour_X1_decide
set_option maxRecDepth 20000 in
theorem ggX8_passHour_X0_has : GoodIn wsX8_passHour wsX0_has := goodIn_r _ [31, 32, 143] (by decide +kernel) (by decide +kernel)
set_option maxRecDepth 20000 in
theorem gX8_passHour_X0_has : GoodIn wsX8_passHour (wsV RX8 255 RX0 yX0_has wsX0_has) := goodIn_app (goodIn_of _ (by decide +kernel)) ggX8_passHour_X0_has
set_option maxRecDepth 20000 in
theorem ggX8_passHour_X8_makeCut : GoodIn wsX8_passHour wsX8_makeCut := goodIn_r _ [83, 84, 2, 3, 4, 5, 6, 85, 86, 87, 88, 58, 89, 90, 60, 61, 91, 67, 92, 93, 94, 95, 96, 97, 98, 99, 100, 101, 102, 103, 104, 123, 124, 125, 126, 127, 128, 129, 130, 131, 132, 105, 106, 107, 108, 109, 110, 111, 112, 113, 114, 115, 116, 117, 118, 119, 120, 121, 122] (by decide +kernel) (by decide +kernel)
set_option maxRecDepth 20000 in
theorem gX8_passHour_X8_makeCut : GoodIn wsX8_passHour (wsV RX8 298 RX8 yX8_makeCut wsX8_makeCut) := goodIn_app (goodIn_of _ (by decide +kernel)) ggX8_passHour_X8_makeCut
theorem dX8_passHour_0 : decode cX8_passHour 0 = .ok (.aload_n 0, 1) := by decide +kernel
theorem dX8_passHour_1 : decode cX8_passHour 1 = .ok (.iload_n 1, 1) := by decide +kernel
theorem dX8_passHour_2 : decode cX8_passHour 2 = .ok (.invokevirtual 112, 3) := by decide +kernel
theorem dX8_passHour_5 : decode cX8_passHour 5 = .ok (.astore_n 3, 1) := by decide +kernel
theorem dX8_passHour_6 : decode cX8_passHour 6 = .ok (.aload_n 0, 1) := by decide +kernel
theorem dX8_passHour_7 : decode cX8_passHour 7 = .ok (.iload_n 1, 1) := by decide +kernel
theorem dX8_passHour_8 : decode cX8_passHour 8 = .ok (.aload_n 0, 1) := by decide +kernel
theorem dX8_passHour_9 : decode cX8_passHour 9 = .ok (.getfield 96, 3) := by decide +kernel
theorem dX8_passHour_12 : decode cX8_passHour 12 = .ok (.invokevirtual 197, 3) := by decide +kernel
theorem dX8_passHour_15 : decode cX8_passHour 15 = .ok (.astore 4, 2) := by decide +kernel
theorem dX8_passHour_17 : decode cX8_passHour 17 = .ok (.iload_n 2, 1) := by decide +kernel
theorem dX8_passHour_18 : decode cX8_passHour 18 = .ok (.aload 4, 2) := by decide +kernel
theorem dX8_passHour_20 : decode cX8_passHour 20 = .ok (.invokestatic 201, 3) := by decide +kernel
theorem dX8_passHour_23 : decode cX8_passHour 23 = .ok (.iadd, 1) := by decide +kernel
theorem dX8_passHour_24 : decode cX8_passHour 24 = .ok (.istore 5, 2) := by decide +kernel
theorem dX8_passHour_26 : decode cX8_passHour 26 = .ok (.iload 5, 2) := by decide +kernel
theorem dX8_passHour_28 : decode cX8_passHour 28 = .ok (.aload_n 0, 1) := by decide +kernel
theorem dX8_passHour_29 : decode cX8_passHour 29 = .ok (.getfield 68, 3) := by decide +kernel
theorem dX8_passHour_32 : decode cX8_passHour 32 = .ok (.invokestatic 286, 3) := by decide +kernel
theorem dX8_passHour_35 : decode cX8_passHour 35 = .ok (.istore 6, 2) := by decide +kernel
theorem dX8_passHour_37 : decode cX8_passHour 37 = .ok (.aload_n 0, 1) := by decide +kernel
theorem dX8_passHour_38 : decode cX8_passHour 38 = .ok (.dup, 1) := by decide +kernel
theorem dX8_passHour_39 : decode cX8_passHour 39 = .ok (.getfield 68, 3) := by decide +kernel
theorem dX8_passHour_42 : decode cX8_passHour 42 = .ok (.iload 6, 2) := by decide +kernel
theorem dX8_passHour_44 : decode cX8_passHour 44 = .ok (.isub, 1) := by decide +kernel
theorem dX8_passHour_45 : decode cX8_passHour 45 = .ok (.putfield 68, 3) := by decide +kernel
theorem dX8_passHour_48 : decode cX8_passHour 48 = .ok (.aload_n 3, 1) := by decide +kernel
theorem dX8_passHour_49 : decode cX8_passHour 49 = .ok (.iload 5, 2) := by decide +kernel
theorem dX8_passHour_51 : decode cX8_passHour 51 = .ok (.iload 6, 2) := by decide +kernel
theorem dX8_passHour_53 : decode cX8_passHour 53 = .ok (.isub, 1) := by decide +kernel
theorem dX8_passHour_54 : decode cX8_passHour 54 = .ok (.invokevirtual 291, 3) := by decide +kernel
theorem dX8_passHour_57 : decode cX8_passHour 57 = .ok (.aload 4, 2) := by decide +kernel
theorem dX8_passHour_59 : decode cX8_passHour 59 = .ok (.ifnull 12, 3) := by decide +kernel
theorem dX8_passHour_62 : decode cX8_passHour 62 = .ok (.aload_n 3, 1) := by decide +kernel
theorem dX8_passHour_63 : decode cX8_passHour 63 = .ok (.aload 4, 2) := by decide +kernel
theorem dX8_passHour_65 : decode cX8_passHour 65 = .ok (.invokevirtual 294, 3) := by decide +kernel
theorem dX8_passHour_68 : decode cX8_passHour 68 = .ok (.goto 22, 3) := by decide +kernel
theorem dX8_passHour_71 : decode cX8_passHour 71 = .ok (.aload_n 3, 1) := by decide +kernel
theorem dX8_passHour_72 : decode cX8_passHour 72 = .ok (.getfield 171, 3) := by decide +kernel
theorem dX8_passHour_75 : decode cX8_passHour 75 = .ok (.aload_n 0, 1) := by decide +kernel
theorem dX8_passHour_76 : decode cX8_passHour 76 = .ok (.getfield 96, 3) := by decide +kernel
theorem dX8_passHour_79 : decode cX8_passHour 79 = .ok (.invokevirtual 255, 3) := by decide +kernel
theorem dX8_passHour_82 : decode cX8_passHour 82 = .ok (.ifCond .ne 8, 3) := by decide +kernel
theorem dX8_passHour_85 : decode cX8_passHour 85 = .ok (.aload_n 0, 1) := by decide +kernel
theorem dX8_passHour_86 : decode cX8_passHour 86 = .ok (.aload_n 3, 1) := by decide +kernel
theorem dX8_passHour_87 : decode cX8_passHour 87 = .ok (.invokevirtual 298, 3) := by decide +kernel
theorem dX8_passHour_90 : decode cX8_passHour 90 = .ok (.return_, 1) := by decide +kernel
set_option maxRecDepth 20000 in
theorem ggX8_makeCut_X1_shave : GoodIn wsX8_makeCut wsX1_shave := goodIn_r _ [12, 13, 14, 15, 4, 5, 6, 16, 17, 18, 19, 20, 31, 32, 33, 34, 35, 36, 37, 38, 39, 40] (by decide +kernel) (by decide +kernel)
set_option maxRecDepth 20000 in
theorem gX8_makeCut_X1_shave : GoodIn wsX8_makeCut (wsV RX8 302 RX1 yX1_shave wsX1_shave) := goodIn_app (goodIn_of _ (by decide +kernel)) ggX8_makeCut_X1_shave
set_option maxRecDepth 20000 in
theorem ggX8_makeCut_X1_freeze : GoodIn wsX8_makeCut wsX1_freeze := goodIn_r _ [24, 14, 25, 31, 32, 33, 34, 35, 36, 37, 38, 39, 40] (by decide +kernel) (by decide +kernel)
set_option maxRecDepth 20000 in
theorem gX8_makeCut_X1_freeze : GoodIn wsX8_makeCut (wsV RX8 308 RX1 yX1_freeze wsX1_freeze) := goodIn_app (goodIn_of _ (by decide +kernel)) ggX8_makeCut_X1_freeze
set_option maxRecDepth 20000 in
theorem ggX8_makeCut_X1_tellCut : GoodIn wsX8_makeCut wsX1_tellCut := goodIn_r _ [29, 13, 30, 31, 32, 33, 34, 35, 36, 37, 38, 39, 40] (by decide +kernel) (by decide +kernel)
set_option maxRecDepth 20000 in
theorem gX8_makeCut_X1_tellCut : GoodIn wsX8_makeCut (wsV RX8 160 RX1 yX1_tellCut wsX1_tellCut) := goodIn_app (goodIn_of _ (by decide +kernel)) ggX8_makeCut_X1_tellCut
theorem dX8_makeCut_0 : decode cX8_makeCut 0 = .ok (.aload_n 1, 1) := by decide +kernel
theorem dX8_makeCut_1 : decode cX8_makeCut 1 = .ok (.invokevirtual 302, 3) := by decide +kernel
theorem dX8_makeCut_4 : decode cX8_makeCut 4 = .ok (.aload_n 1, 1) := by decide +kernel
theorem dX8_makeCut_5 : decode cX8_makeCut 5 = .ok (.getfield 305, 3) := by decide +kernel
theorem dX8_makeCut_8 : decode cX8_makeCut 8 = .ok (.aload_n 0, 1) := by decide +kernel
theorem dX8_makeCut_9 : decode cX8_makeCut 9 = .ok (.getfield 68, 3) := by decide +kernel
theorem dX8_makeCut_12 : decode cX8_makeCut 12 = .ok (.iconst 3, 1) := by decide +kernel
theorem dX8_makeCut_13 : decode cX8_makeCut 13 = .ok (.idiv, 1) := by decide +kernel
theorem dX8_makeCut_14 : decode cX8_makeCut 14 = .ok (.invokestatic 286, 3) := by decide +kernel
theorem dX8_makeCut_17 : decode cX8_makeCut 17 = .ok (.istore_n 2, 1) := by decide +kernel
theorem dX8_makeCut_18 : decode cX8_makeCut 18 = .ok (.aload_n 0, 1) := by decide +kernel
theorem dX8_makeCut_19 : decode cX8_makeCut 19 = .ok (.dup, 1) := by decide +kernel
theorem dX8_makeCut_20 : decode cX8_makeCut 20 = .ok (.getfield 68, 3) := by decide +kernel
theorem dX8_makeCut_23 : decode cX8_makeCut 23 = .ok (.iload_n 2, 1) := by decide +kernel
theorem dX8_makeCut_24 : decode cX8_makeCut 24 = .ok (.iconst 3, 1) := by decide +kernel
theorem dX8_makeCut_25 : decode cX8_makeCut 25 = .ok (.imul, 1) := by decide +kernel
theorem dX8_makeCut_26 : decode cX8_makeCut 26 = .ok (.isub, 1) := by decide +kernel
theorem dX8_makeCut_27 : decode cX8_makeCut 27 = .ok (.putfield 68, 3) := by decide +kernel
theorem dX8_makeCut_30 : decode cX8_makeCut 30 = .ok (.aload_n 0, 1) := by decide +kernel
theorem dX8_makeCut_31 : decode cX8_makeCut 31 = .ok (.dup, 1) := by decide +kernel
theorem dX8_makeCut_32 : decode cX8_makeCut 32 = .ok (.getfield 267, 3) := by decide +kernel
theorem dX8_makeCut_35 : decode cX8_makeCut 35 = .ok (.aload_n 1, 1) := by decide +kernel
theorem dX8_makeCut_36 : decode cX8_makeCut 36 = .ok (.getfield 305, 3) := by decide +kernel
theorem dX8_makeCut_39 : decode cX8_makeCut 39 = .ok (.iload_n 2, 1) := by decide +kernel
theorem dX8_makeCut_40 : decode cX8_makeCut 40 = .ok (.isub, 1) := by decide +kernel
theorem dX8_makeCut_41 : decode cX8_makeCut 41 = .ok (.iadd, 1) := by decide +kernel
theorem dX8_makeCut_42 : decode cX8_makeCut 42 = .ok (.putfield 267, 3) := by decide +kernel
theorem dX8_makeCut_45 : decode cX8_makeCut 45 = .ok (.aload_n 1, 1) := by decide +kernel
theorem dX8_makeCut_46 : decode cX8_makeCut 46 = .ok (.iload_n 2, 1) := by decide +kernel
theorem dX8_makeCut_47 : decode cX8_makeCut 47 = .ok (.invokevirtual 308, 3) := by decide +kernel
theorem dX8_makeCut_50 : decode cX8_makeCut 50 = .ok (.aload_n 1, 1) := by decide +kernel
theorem dX8_makeCut_51 : decode cX8_makeCut 51 = .ok (.iconst 0, 1) := by decide +kernel
theorem dX8_makeCut_52 : decode cX8_makeCut 52 = .ok (.iconst 0, 1) := by decide +kernel
theorem dX8_makeCut_53 : decode cX8_makeCut 53 = .ok (.invokevirtual 160, 3) := by decide +kernel
theorem dX8_makeCut_56 : decode cX8_makeCut 56 = .ok (.return_, 1) := by decide +kernel
set_option maxRecDepth 20000 in
theorem ggX8_partOf_X8_countInState : GoodIn wsX8_partOf wsX8_countInState := goodIn_r _ [5, 6, 7, 8, 9, 10, 11, 4, 12, 13, 14, 15, 16, 17, 18, 19, 20, 21, 22, 23, 24, 25, 26, 27, 28, 29, 30, 31, 32, 33, 34, 35, 36, 37, 38, 39, 40, 41] (by decide +kernel) (by decide +kernel)
set_option maxRecDepth 20000 in
theorem gX8_partOf_X8_countInState : GoodIn wsX8_partOf (wsV RX8 219 RX8 yX8_countInState wsX8_countInState) := goodIn_app (goodIn_of _ (by decide +kernel)) ggX8_partOf_X8_countInState
theorem dX8_partOf_0 : decode cX8_partOf 0 = .ok (.iload_n 3, 1) := by decide +kernel
theorem dX8_partOf_1 : decode cX8_partOf 1 = .ok (.ifCond .gt 5, 3) := by decide +kernel
theorem dX8_partOf_4 : decode cX8_partOf 4 = .ok (.iconst (-1), 1) := by decide +kernel
theorem dX8_partOf_5 : decode cX8_partOf 5 = .ok (.ireturn, 1) := by decide +kernel
theorem dX8_partOf_6 : decode cX8_partOf 6 = .ok (.iload_n 2, 1) := by decide +kernel
theorem dX8_partOf_7 : decode cX8_partOf 7 = .ok (.istore 4, 2) := by decide +kernel
theorem dX8_partOf_9 : decode cX8_partOf 9 = .ok (.iconst 0, 1) := by decide +kernel
theorem dX8_partOf_10 : decode cX8_partOf 10 = .ok (.istore 5, 2) := by decide +kernel
theorem dX8_partOf_12 : decode cX8_partOf 12 = .ok (.iload_n 2, 1) := by decide +kernel
theorem dX8_partOf_13 : decode cX8_partOf 13 = .ok (.aload_n 0, 1) := by decide +kernel
theorem dX8_partOf_14 : decode cX8_partOf 14 = .ok (.iload_n 1, 1) := by decide +kernel
theorem dX8_partOf_15 : decode cX8_partOf 15 = .ok (.iconst 1, 1) := by decide +kernel
theorem dX8_partOf_16 : decode cX8_partOf 16 = .ok (.invokevirtual 219, 3) := by decide +kernel
theorem dX8_partOf_19 : decode cX8_partOf 19 = .ok (.imul, 1) := by decide +kernel
theorem dX8_partOf_20 : decode cX8_partOf 20 = .ok (.istore 6, 2) := by decide +kernel
theorem dX8_partOf_22 : decode cX8_partOf 22 = .ok (.iconst 0, 1) := by decide +kernel
theorem dX8_partOf_23 : decode cX8_partOf 23 = .ok (.istore 7, 2) := by decide +kernel
theorem dX8_partOf_25 : decode cX8_partOf 25 = .ok (.iload 7, 2) := by decide +kernel
theorem dX8_partOf_27 : decode cX8_partOf 27 = .ok (.bipush 6, 2) := by decide +kernel
theorem dX8_partOf_29 : decode cX8_partOf 29 = .ok (.if_icmp .ge 72, 3) := by decide +kernel
theorem dX8_partOf_32 : decode cX8_partOf 32 = .ok (.iload_n 2, 1) := by decide +kernel
theorem dX8_partOf_33 : decode cX8_partOf 33 = .ok (.aload_n 0, 1) := by decide +kernel
theorem dX8_partOf_34 : decode cX8_partOf 34 = .ok (.iload 7, 2) := by decide +kernel
theorem dX8_partOf_36 : decode cX8_partOf 36 = .ok (.iconst 1, 1) := by decide +kernel
theorem dX8_partOf_37 : decode cX8_partOf 37 = .ok (.invokevirtual 219, 3) := by decide +kernel
theorem dX8_partOf_40 : decode cX8_partOf 40 = .ok (.imul, 1) := by decide +kernel
theorem dX8_partOf_41 : decode cX8_partOf 41 = .ok (.istore 8, 2) := by decide +kernel
theorem dX8_partOf_43 : decode cX8_partOf 43 = .ok (.iload 4, 2) := by decide +kernel
theorem dX8_partOf_45 : decode cX8_partOf 45 = .ok (.iload 8, 2) := by decide +kernel
theorem dX8_partOf_47 : decode cX8_partOf 47 = .ok (.iload_n 3, 1) := by decide +kernel
theorem dX8_partOf_48 : decode cX8_partOf 48 = .ok (.idiv, 1) := by decide +kernel
theorem dX8_partOf_49 : decode cX8_partOf 49 = .ok (.isub, 1) := by decide +kernel
theorem dX8_partOf_50 : decode cX8_partOf 50 = .ok (.istore 4, 2) := by decide +kernel
theorem dX8_partOf_52 : decode cX8_partOf 52 = .ok (.iload 7, 2) := by decide +kernel
theorem dX8_partOf_54 : decode cX8_partOf 54 = .ok (.iload_n 1, 1) := by decide +kernel
theorem dX8_partOf_55 : decode cX8_partOf 55 = .ok (.if_icmp .ge 18, 3) := by decide +kernel
theorem dX8_partOf_58 : decode cX8_partOf 58 = .ok (.iload 8, 2) := by decide +kernel
theorem dX8_partOf_60 : decode cX8_partOf 60 = .ok (.iload_n 3, 1) := by decide +kernel
theorem dX8_partOf_61 : decode cX8_partOf 61 = .ok (.irem, 1) := by decide +kernel
theorem dX8_partOf_62 : decode cX8_partOf 62 = .ok (.iload 6, 2) := by decide +kernel
theorem dX8_partOf_64 : decode cX8_partOf 64 = .ok (.iload_n 3, 1) := by decide +kernel
theorem dX8_partOf_65 : decode cX8_partOf 65 = .ok (.irem, 1) := by decide +kernel
theorem dX8_partOf_66 : decode cX8_partOf 66 = .ok (.if_icmp .ne 7, 3) := by decide +kernel
theorem dX8_partOf_69 : decode cX8_partOf 69 = .ok (.iconst 1, 1) := by decide +kernel
theorem dX8_partOf_70 : decode cX8_partOf 70 = .ok (.goto 4, 3) := by decide +kernel
theorem dX8_partOf_73 : decode cX8_partOf 73 = .ok (.iconst 0, 1) := by decide +kernel
theorem dX8_partOf_74 : decode cX8_partOf 74 = .ok (.istore 9, 2) := by decide +kernel
theorem dX8_partOf_76 : decode cX8_partOf 76 = .ok (.iload 9, 2) := by decide +kernel
theorem dX8_partOf_78 : decode cX8_partOf 78 = .ok (.ifCond .ne 14, 3) := by decide +kernel
theorem dX8_partOf_81 : decode cX8_partOf 81 = .ok (.iload 8, 2) := by decide +kernel
theorem dX8_partOf_83 : decode cX8_partOf 83 = .ok (.iload_n 3, 1) := by decide +kernel
theorem dX8_partOf_84 : decode cX8_partOf 84 = .ok (.irem, 1) := by decide +kernel
theorem dX8_partOf_85 : decode cX8_partOf 85 = .ok (.iload 6, 2) := by decide +kernel
theorem dX8_partOf_87 : decode cX8_partOf 87 = .ok (.iload_n 3, 1) := by decide +kernel
theorem dX8_partOf_88 : decode cX8_partOf 88 = .ok (.irem, 1) := by decide +kernel
theorem dX8_partOf_89 : decode cX8_partOf 89 = .ok (.if_icmp .le 6, 3) := by decide +kernel
theorem dX8_partOf_92 : decode cX8_partOf 92 = .ok (.iinc 5 1, 3) := by decide +kernel
theorem dX8_partOf_95 : decode cX8_partOf 95 = .ok (.iinc 7 1, 3) := by decide +kernel
theorem dX8_partOf_98 : decode cX8_partOf 98 = .ok (.goto (-73), 3) := by decide +kernel
theorem dX8_partOf_101 : decode cX8_partOf 101 = .ok (.iload 6, 2) := by decide +kernel
theorem dX8_partOf_103 : decode cX8_partOf 103 = .ok (.iload_n 3, 1) := by decide +kernel
theorem dX8_partOf_104 : decode cX8_partOf 104 = .ok (.idiv, 1) := by decide +kernel
theorem dX8_partOf_105 : decode cX8_partOf 105 = .ok (.iload 5, 2) := by decide +kernel
theorem dX8_partOf_107 : decode cX8_partOf 107 = .ok (.iload 4, 2) := by decide +kernel
theorem dX8_partOf_109 : decode cX8_partOf 109 = .ok (.if_icmp .ge 7, 3) := by decide +kernel
theorem dX8_partOf_112 : decode cX8_partOf 112 = .ok (.iconst 1, 1) := by decide +kernel
theorem dX8_partOf_113 : decode cX8_partOf 113 = .ok (.goto 4, 3) := by decide +kernel
theorem dX8_partOf_116 : decode cX8_partOf 116 = .ok (.iconst 0, 1) := by decide +kernel
theorem dX8_partOf_117 : decode cX8_partOf 117 = .ok (.iadd, 1) := by decide +kernel
theorem dX8_partOf_118 : decode cX8_partOf 118 = .ok (.ireturn, 1) := by decide +kernel
end
section
theorem dX9_init_0 : decode cX9_init 0 = .ok (.aload_n 0, 1) := by decide +kernel
theorem dX9_init_1 : decode cX9_init 1 = .ok (.invokespecial 1, 3) := by decide +kernel
theorem dX9_init_4 : decode cX9_init 4 = .ok (.aload_n 0, 1) := by decide +kernel
theorem dX9_init_5 : decode cX9_init 5 = .ok (.bipush 80, 2) := by decide +kernel
theorem dX9_init_7 : decode cX9_init 7 = .ok (.newarray .byte, 2) := by decide +kernel
theorem dX9_init_9 : decode cX9_init 9 = .ok (.putfield 7, 3) := by decide +kernel
theorem dX9_init_12 : decode cX9_init 12 = .ok (.aload_n 0, 1) := by decide +kernel
theorem dX9_init_13 : decode cX9_init 13 = .ok (.bipush 6, 2) := by decide +kernel
theorem dX9_init_15 : decode cX9_init 15 = .ok (.newarray .int, 2) := by decide +kernel
theorem dX9_init_17 : decode cX9_init 17 = .ok (.putfield 13, 3) := by decide +kernel
theorem dX9_init_20 : decode cX9_init 20 = .ok (.aload_n 0, 1) := by decide +kernel
theorem dX9_init_21 : decode cX9_init 21 = .ok (.bipush 6, 2) := by decide +kernel
theorem dX9_init_23 : decode cX9_init 23 = .ok (.newarray .int, 2) := by decide +kernel
theorem dX9_init_25 : decode cX9_init 25 = .ok (.putfield 17, 3) := by decide +kernel
theorem dX9_init_28 : decode cX9_init 28 = .ok (.aload_n 0, 1) := by decide +kernel
theorem dX9_init_29 : decode cX9_init 29 = .ok (.bipush 6, 2) := by decide +kernel
theorem dX9_init_31 : decode cX9_init 31 = .ok (.newarray .int, 2) := by decide +kernel
theorem dX9_init_33 : decode cX9_init 33 = .ok (.putfield 20, 3) := by decide +kernel
theorem dX9_init_36 : decode cX9_init 36 = .ok (.aload_n 0, 1) := by decide +kernel
theorem dX9_init_37 : decode cX9_init 37 = .ok (.bipush 6, 2) := by decide +kernel
theorem dX9_init_39 : decode cX9_init 39 = .ok (.newarray .int, 2) := by decide +kernel
theorem dX9_init_41 : decode cX9_init 41 = .ok (.putfield 23, 3) := by decide +kernel
theorem dX9_init_44 : decode cX9_init 44 = .ok (.aload_n 0, 1) := by decide +kernel
theorem dX9_init_45 : decode cX9_init 45 = .ok (.bipush 6, 2) := by decide +kernel
theorem dX9_init_47 : decode cX9_init 47 = .ok (.newarray .int, 2) := by decide +kernel
theorem dX9_init_49 : decode cX9_init 49 = .ok (.putfield 26, 3) := by decide +kernel
theorem dX9_init_52 : decode cX9_init 52 = .ok (.aload_n 0, 1) := by decide +kernel
theorem dX9_init_53 : decode cX9_init 53 = .ok (.bipush 6, 2) := by decide +kernel
theorem dX9_init_55 : decode cX9_init 55 = .ok (.newarray .int, 2) := by decide +kernel
theorem dX9_init_57 : decode cX9_init 57 = .ok (.putfield 29, 3) := by decide +kernel
theorem dX9_init_60 : decode cX9_init 60 = .ok (.aload_n 0, 1) := by decide +kernel
theorem dX9_init_61 : decode cX9_init 61 = .ok (.sipush 200, 3) := by decide +kernel
theorem dX9_init_64 : decode cX9_init 64 = .ok (.putfield 32, 3) := by decide +kernel
theorem dX9_init_67 : decode cX9_init 67 = .ok (.aload_n 0, 1) := by decide +kernel
theorem dX9_init_68 : decode cX9_init 68 = .ok (.sipush 400, 3) := by decide +kernel
theorem dX9_init_71 : decode cX9_init 71 = .ok (.putfield 36, 3) := by decide +kernel
theorem dX9_init_74 : decode cX9_init 74 = .ok (.aload_n 0, 1) := by decide +kernel
theorem dX9_init_75 : decode cX9_init 75 = .ok (.iconst 3, 1) := by decide +kernel
theorem dX9_init_76 : decode cX9_init 76 = .ok (.putfield 39, 3) := by decide +kernel
theorem dX9_init_79 : decode cX9_init 79 = .ok (.aload_n 0, 1) := by decide +kernel
theorem dX9_init_80 : decode cX9_init 80 = .ok (.iconst 2, 1) := by decide +kernel
theorem dX9_init_81 : decode cX9_init 81 = .ok (.putfield 42, 3) := by decide +kernel
theorem dX9_init_84 : decode cX9_init 84 = .ok (.aload_n 0, 1) := by decide +kernel
theorem dX9_init_85 : decode cX9_init 85 = .ok (.bipush 24, 2) := by decide +kernel
theorem dX9_init_87 : decode cX9_init 87 = .ok (.newarray .int, 2) := by decide +kernel
theorem dX9_init_89 : decode cX9_init 89 = .ok (.putfield 45, 3) := by decide +kernel
theorem dX9_init_92 : decode cX9_init 92 = .ok (.aload_n 0, 1) := by decide +kernel
theorem dX9_init_93 : decode cX9_init 93 = .ok (.iconst 2, 1) := by decide +kernel
theorem dX9_init_94 : decode cX9_init 94 = .ok (.newarray .int, 2) := by decide +kernel
theorem dX9_init_96 : decode cX9_init 96 = .ok (.putfield 48, 3) := by decide +kernel
theorem dX9_init_99 : decode cX9_init 99 = .ok (.aload_n 0, 1) := by decide +kernel
theorem dX9_init_100 : decode cX9_init 100 = .ok (.iconst 2, 1) := by decide +kernel
theorem dX9_init_101 : decode cX9_init 101 = .ok (.newarray .int, 2) := by decide +kernel
theorem dX9_init_103 : decode cX9_init 103 = .ok (.putfield 51, 3) := by decide +kernel
theorem dX9_init_106 : decode cX9_init 106 = .ok (.aload_n 0, 1) := by decide +kernel
theorem dX9_init_107 : decode cX9_init 107 = .ok (.iconst 2, 1) := by decide +kernel
theorem dX9_init_108 : decode cX9_init 108 = .ok (.newarray .int, 2) := by decide +kernel
theorem dX9_init_110 : decode cX9_init 110 = .ok (.putfield 54, 3) := by decide +kernel
theorem dX9_init_113 : decode cX9_init 113 = .ok (.aload_n 0, 1) := by decide +kernel
theorem dX9_init_114 : decode cX9_init 114 = .ok (.iconst 2, 1) := by decide +kernel
theorem dX9_init_115 : decode cX9_init 115 = .ok (.newarray .int, 2) := by decide +kernel
theorem dX9_init_117 : decode cX9_init 117 = .ok (.putfield 57, 3) := by decide +kernel
theorem dX9_init_120 : decode cX9_init 120 = .ok (.aload_n 0, 1) := by decide +kernel
theorem dX9_init_121 : decode cX9_init 121 = .ok (.iconst 2, 1) := by decide +kernel
theorem dX9_init_122 : decode cX9_init 122 = .ok (.newarray .int, 2) := by decide +kernel
theorem dX9_init_124 : decode cX9_init 124 = .ok (.putfield 60, 3) := by decide +kernel
theorem dX9_init_127 : decode cX9_init 127 = .ok (.aload_n 0, 1) := by decide +kernel
theorem dX9_init_128 : decode cX9_init 128 = .ok (.iconst 2, 1) := by decide +kernel
theorem dX9_init_129 : decode cX9_init 129 = .ok (.newarray .int, 2) := by decide +kernel
theorem dX9_init_131 : decode cX9_init 131 = .ok (.putfield 63, 3) := by decide +kernel
theorem dX9_init_134 : decode cX9_init 134 = .ok (.aload_n 0, 1) := by decide +kernel
theorem dX9_init_135 : decode cX9_init 135 = .ok (.iconst 2, 1) := by decide +kernel
theorem dX9_init_136 : decode cX9_init 136 = .ok (.newarray .int, 2) := by decide +kernel
theorem dX9_init_138 : decode cX9_init 138 = .ok (.putfield 66, 3) := by decide +kernel
theorem dX9_init_141 : decode cX9_init 141 = .ok (.aload_n 0, 1) := by decide +kernel
theorem dX9_init_142 : decode cX9_init 142 = .ok (.iconst 2, 1) := by decide +kernel
theorem dX9_init_143 : decode cX9_init 143 = .ok (.newarray .boolean, 2) := by decide +kernel
theorem dX9_init_145 : decode cX9_init 145 = .ok (.putfield 69, 3) := by decide +kernel
theorem dX9_init_148 : decode cX9_init 148 = .ok (.aload_n 0, 1) := by decide +kernel
theorem dX9_init_149 : decode cX9_init 149 = .ok (.sipush 200, 3) := by decide +kernel
theorem dX9_init_152 : decode cX9_init 152 = .ok (.newarray .int, 2) := by decide +kernel
theorem dX9_init_154 : decode cX9_init 154 = .ok (.putfield 73, 3) := by decide +kernel
theorem dX9_init_157 : decode cX9_init 157 = .ok (.aload_n 0, 1) := by decide +kernel
theorem dX9_init_158 : decode cX9_init 158 = .ok (.sipush 200, 3) := by decide +kernel
theorem dX9_init_161 : decode cX9_init 161 = .ok (.newarray .int, 2) := by decide +kernel
theorem dX9_init_163 : decode cX9_init 163 = .ok (.putfield 76, 3) := by decide +kernel
theorem dX9_init_166 : decode cX9_init 166 = .ok (.aload_n 0, 1) := by decide +kernel
theorem dX9_init_167 : decode cX9_init 167 = .ok (.sipush 200, 3) := by decide +kernel
theorem dX9_init_170 : decode cX9_init 170 = .ok (.newarray .int, 2) := by decide +kernel
theorem dX9_init_172 : decode cX9_init 172 = .ok (.putfield 79, 3) := by decide +kernel
theorem dX9_init_175 : decode cX9_init 175 = .ok (.aload_n 0, 1) := by decide +kernel
theorem dX9_init_176 : decode cX9_init 176 = .ok (.sipush 200, 3) := by decide +kernel
theorem dX9_init_179 : decode cX9_init 179 = .ok (.newarray .int, 2) := by decide +kernel
theorem dX9_init_181 : decode cX9_init 181 = .ok (.putfield 82, 3) := by decide +kernel
theorem dX9_init_184 : decode cX9_init 184 = .ok (.aload_n 0, 1) := by decide +kernel
theorem dX9_init_185 : decode cX9_init 185 = .ok (.sipush 200, 3) := by decide +kernel
theorem dX9_init_188 : decode cX9_init 188 = .ok (.newarray .int, 2) := by decide +kernel
theorem dX9_init_190 : decode cX9_init 190 = .ok (.putfield 85, 3) := by decide +kernel
theorem dX9_init_193 : decode cX9_init 193 = .ok (.aload_n 0, 1) := by decide +kernel
theorem dX9_init_194 : decode cX9_init 194 = .ok (.sipush 200, 3) := by decide +kernel
theorem dX9_init_197 : decode cX9_init 197 = .ok (.newarray .int, 2) := by decide +kernel
theorem dX9_init_199 : decode cX9_init 199 = .ok (.putfield 88, 3) := by decide +kernel
theorem dX9_init_202 : decode cX9_init 202 = .ok (.aload_n 0, 1) := by decide +kernel
theorem dX9_init_203 : decode cX9_init 203 = .ok (.sipush 200, 3) := by decide +kernel
theorem dX9_init_206 : decode cX9_init 206 = .ok (.newarray .int, 2) := by decide +kernel
theorem dX9_init_208 : decode cX9_init 208 = .ok (.putfield 91, 3) := by decide +kernel
theorem dX9_init_211 : decode cX9_init 211 = .ok (.aload_n 0, 1) := by decide +kernel
theorem dX9_init_212 : decode cX9_init 212 = .ok (.sipush 200, 3) := by decide +kernel
theorem dX9_init_215 : decode cX9_init 215 = .ok (.newarray .int, 2) := by decide +kernel
theorem dX9_init_217 : decode cX9_init 217 = .ok (.putfield 94, 3) := by decide +kernel
theorem dX9_init_220 : decode cX9_init 220 = .ok (.aload_n 0, 1) := by decide +kernel
theorem dX9_init_221 : decode cX9_init 221 = .ok (.sipush 200, 3) := by decide +kernel
theorem dX9_init_224 : decode cX9_init 224 = .ok (.newarray .int, 2) := by decide +kernel
theorem dX9_init_226 : decode cX9_init 226 = .ok (.putfield 97, 3) := by decide +kernel
theorem dX9_init_229 : decode cX9_init 229 = .ok (.aload_n 0, 1) := by decide +kernel
theorem dX9_init_230 : decode cX9_init 230 = .ok (.bipush 10, 2) := by decide +kernel
theorem dX9_init_232 : decode cX9_init 232 = .ok (.newarray .int, 2) := by decide +kernel
theorem dX9_init_234 : decode cX9_init 234 = .ok (.putfield 100, 3) := by decide +kernel
theorem dX9_init_237 : decode cX9_init 237 = .ok (.aload_n 0, 1) := by decide +kernel
theorem dX9_init_238 : decode cX9_init 238 = .ok (.bipush 10, 2) := by decide +kernel
theorem dX9_init_240 : decode cX9_init 240 = .ok (.newarray .int, 2) := by decide +kernel
theorem dX9_init_242 : decode cX9_init 242 = .ok (.putfield 103, 3) := by decide +kernel
theorem dX9_init_245 : decode cX9_init 245 = .ok (.aload_n 0, 1) := by decide +kernel
theorem dX9_init_246 : decode cX9_init 246 = .ok (.bipush 10, 2) := by decide +kernel
theorem dX9_init_248 : decode cX9_init 248 = .ok (.newarray .int, 2) := by decide +kernel
theorem dX9_init_250 : decode cX9_init 250 = .ok (.putfield 106, 3) := by decide +kernel
theorem dX9_init_253 : decode cX9_init 253 = .ok (.aload_n 0, 1) := by decide +kernel
theorem dX9_init_254 : decode cX9_init 254 = .ok (.iconst 5, 1) := by decide +kernel
theorem dX9_init_255 : decode cX9_init 255 = .ok (.newarray .int, 2) := by decide +kernel
theorem dX9_init_257 : decode cX9_init 257 = .ok (.putfield 109, 3) := by decide +kernel
theorem dX9_init_260 : decode cX9_init 260 = .ok (.aload_n 0, 1) := by decide +kernel
theorem dX9_init_261 : decode cX9_init 261 = .ok (.iconst 5, 1) := by decide +kernel
theorem dX9_init_262 : decode cX9_init 262 = .ok (.newarray .int, 2) := by decide +kernel
theorem dX9_init_264 : decode cX9_init 264 = .ok (.putfield 112, 3) := by decide +kernel
theorem dX9_init_267 : decode cX9_init 267 = .ok (.aload_n 0, 1) := by decide +kernel
theorem dX9_init_268 : decode cX9_init 268 = .ok (.iconst 5, 1) := by decide +kernel
theorem dX9_init_269 : decode cX9_init 269 = .ok (.newarray .int, 2) := by decide +kernel
theorem dX9_init_271 : decode cX9_init 271 = .ok (.putfield 115, 3) := by decide +kernel
theorem dX9_init_274 : decode cX9_init 274 = .ok (.aload_n 0, 1) := by decide +kernel
theorem dX9_init_275 : decode cX9_init 275 = .ok (.iconst 5, 1) := by decide +kernel
theorem dX9_init_276 : decode cX9_init 276 = .ok (.newarray .int, 2) := by decide +kernel
theorem dX9_init_278 : decode cX9_init 278 = .ok (.putfield 118, 3) := by decide +kernel
theorem dX9_init_281 : decode cX9_init 281 = .ok (.aload_n 0, 1) := by decide +kernel
theorem dX9_init_282 : decode cX9_init 282 = .ok (.bipush 8, 2) := by decide +kernel
theorem dX9_init_284 : decode cX9_init 284 = .ok (.newarray .int, 2) := by decide +kernel
theorem dX9_init_286 : decode cX9_init 286 = .ok (.putfield 121, 3) := by decide +kernel
theorem dX9_init_289 : decode cX9_init 289 = .ok (.aload_n 0, 1) := by decide +kernel
theorem dX9_init_290 : decode cX9_init 290 = .ok (.bipush 8, 2) := by decide +kernel
theorem dX9_init_292 : decode cX9_init 292 = .ok (.newarray .int, 2) := by decide +kernel
theorem dX9_init_294 : decode cX9_init 294 = .ok (.putfield 124, 3) := by decide +kernel
theorem dX9_init_297 : decode cX9_init 297 = .ok (.aload_n 0, 1) := by decide +kernel
theorem dX9_init_298 : decode cX9_init 298 = .ok (.bipush 8, 2) := by decide +kernel
theorem dX9_init_300 : decode cX9_init 300 = .ok (.newarray .int, 2) := by decide +kernel
theorem dX9_init_302 : decode cX9_init 302 = .ok (.putfield 127, 3) := by decide +kernel
theorem dX9_init_305 : decode cX9_init 305 = .ok (.aload_n 0, 1) := by decide +kernel
theorem dX9_init_306 : decode cX9_init 306 = .ok (.bipush 8, 2) := by decide +kernel
theorem dX9_init_308 : decode cX9_init 308 = .ok (.newarray .int, 2) := by decide +kernel
theorem dX9_init_310 : decode cX9_init 310 = .ok (.putfield 130, 3) := by decide +kernel
theorem dX9_init_313 : decode cX9_init 313 = .ok (.aload_n 0, 1) := by decide +kernel
theorem dX9_init_314 : decode cX9_init 314 = .ok (.bipush 6, 2) := by decide +kernel
theorem dX9_init_316 : decode cX9_init 316 = .ok (.newarray .int, 2) := by decide +kernel
theorem dX9_init_318 : decode cX9_init 318 = .ok (.putfield 133, 3) := by decide +kernel
theorem dX9_init_321 : decode cX9_init 321 = .ok (.aload_n 0, 1) := by decide +kernel
theorem dX9_init_322 : decode cX9_init 322 = .ok (.bipush 6, 2) := by decide +kernel
theorem dX9_init_324 : decode cX9_init 324 = .ok (.newarray .long, 2) := by decide +kernel
theorem dX9_init_326 : decode cX9_init 326 = .ok (.putfield 136, 3) := by decide +kernel
theorem dX9_init_329 : decode cX9_init 329 = .ok (.aload_n 0, 1) := by decide +kernel
theorem dX9_init_330 : decode cX9_init 330 = .ok (.getfield 48, 3) := by decide +kernel
theorem dX9_init_333 : decode cX9_init 333 = .ok (.iconst 0, 1) := by decide +kernel
theorem dX9_init_334 : decode cX9_init 334 = .ok (.sipush 300, 3) := by decide +kernel
theorem dX9_init_337 : decode cX9_init 337 = .ok (.iastore, 1) := by decide +kernel
theorem dX9_init_338 : decode cX9_init 338 = .ok (.aload_n 0, 1) := by decide +kernel
theorem dX9_init_339 : decode cX9_init 339 = .ok (.getfield 48, 3) := by decide +kernel
theorem dX9_init_342 : decode cX9_init 342 = .ok (.iconst 1, 1) := by decide +kernel
theorem dX9_init_343 : decode cX9_init 343 = .ok (.sipush 300, 3) := by decide +kernel
theorem dX9_init_346 : decode cX9_init 346 = .ok (.iastore, 1) := by decide +kernel
theorem dX9_init_347 : decode cX9_init 347 = .ok (.iconst 0, 1) := by decide +kernel
theorem dX9_init_348 : decode cX9_init 348 = .ok (.istore_n 1, 1) := by decide +kernel
theorem dX9_init_349 : decode cX9_init 349 = .ok (.iload_n 1, 1) := by decide +kernel
theorem dX9_init_350 : decode cX9_init 350 = .ok (.bipush 24, 2) := by decide +kernel
theorem dX9_init_352 : decode cX9_init 352 = .ok (.if_icmp .ge 17, 3) := by decide +kernel
theorem dX9_init_355 : decode cX9_init 355 = .ok (.aload_n 0, 1) := by decide +kernel
theorem dX9_init_356 : decode cX9_init 356 = .ok (.getfield 45, 3) := by decide +kernel
theorem dX9_init_359 : decode cX9_init 359 = .ok (.iload_n 1, 1) := by decide +kernel
theorem dX9_init_360 : decode cX9_init 360 = .ok (.bipush 10, 2) := by decide +kernel
theorem dX9_init_362 : decode cX9_init 362 = .ok (.iastore, 1) := by decide +kernel
theorem dX9_init_363 : decode cX9_init 363 = .ok (.iinc 1 1, 3) := by decide +kernel
theorem dX9_init_366 : decode cX9_init 366 = .ok (.goto (-17), 3) := by decide +kernel
theorem dX9_init_369 : decode cX9_init 369 = .ok (.iconst 0, 1) := by decide +kernel
theorem dX9_init_370 : decode cX9_init 370 = .ok (.istore_n 1, 1) := by decide +kernel
theorem dX9_init_371 : decode cX9_init 371 = .ok (.iload_n 1, 1) := by decide +kernel
theorem dX9_init_372 : decode cX9_init 372 = .ok (.bipush 6, 2) := by decide +kernel
theorem dX9_init_374 : decode cX9_init 374 = .ok (.if_icmp .ge 58, 3) := by decide +kernel
theorem dX9_init_377 : decode cX9_init 377 = .ok (.aload_n 0, 1) := by decide +kernel
theorem dX9_init_378 : decode cX9_init 378 = .ok (.getfield 13, 3) := by decide +kernel
theorem dX9_init_381 : decode cX9_init 381 = .ok (.iload_n 1, 1) := by decide +kernel
theorem dX9_init_382 : decode cX9_init 382 = .ok (.ldc 140, 2) := by decide +kernel
theorem dX9_init_384 : decode cX9_init 384 = .ok (.iastore, 1) := by decide +kernel
theorem dX9_init_385 : decode cX9_init 385 = .ok (.aload_n 0, 1) := by decide +kernel
theorem dX9_init_386 : decode cX9_init 386 = .ok (.getfield 17, 3) := by decide +kernel
theorem dX9_init_389 : decode cX9_init 389 = .ok (.iload_n 1, 1) := by decide +kernel
theorem dX9_init_390 : decode cX9_init 390 = .ok (.bipush 127, 2) := by decide +kernel
theorem dX9_init_392 : decode cX9_init 392 = .ok (.iastore, 1) := by decide +kernel
theorem dX9_init_393 : decode cX9_init 393 = .ok (.aload_n 0, 1) := by decide +kernel
theorem dX9_init_394 : decode cX9_init 394 = .ok (.getfield 20, 3) := by decide +kernel
theorem dX9_init_397 : decode cX9_init 397 = .ok (.iload_n 1, 1) := by decide +kernel
theorem dX9_init_398 : decode cX9_init 398 = .ok (.bipush 15, 2) := by decide +kernel
theorem dX9_init_400 : decode cX9_init 400 = .ok (.iastore, 1) := by decide +kernel
theorem dX9_init_401 : decode cX9_init 401 = .ok (.aload_n 0, 1) := by decide +kernel
theorem dX9_init_402 : decode cX9_init 402 = .ok (.getfield 23, 3) := by decide +kernel
theorem dX9_init_405 : decode cX9_init 405 = .ok (.iload_n 1, 1) := by decide +kernel
theorem dX9_init_406 : decode cX9_init 406 = .ok (.sipush 168, 3) := by decide +kernel
theorem dX9_init_409 : decode cX9_init 409 = .ok (.iastore, 1) := by decide +kernel
theorem dX9_init_410 : decode cX9_init 410 = .ok (.aload_n 0, 1) := by decide +kernel
theorem dX9_init_411 : decode cX9_init 411 = .ok (.getfield 26, 3) := by decide +kernel
theorem dX9_init_414 : decode cX9_init 414 = .ok (.iload_n 1, 1) := by decide +kernel
theorem dX9_init_415 : decode cX9_init 415 = .ok (.bipush 100, 2) := by decide +kernel
theorem dX9_init_417 : decode cX9_init 417 = .ok (.iastore, 1) := by decide +kernel
theorem dX9_init_418 : decode cX9_init 418 = .ok (.aload_n 0, 1) := by decide +kernel
theorem dX9_init_419 : decode cX9_init 419 = .ok (.getfield 29, 3) := by decide +kernel
theorem dX9_init_422 : decode cX9_init 422 = .ok (.iload_n 1, 1) := by decide +kernel
theorem dX9_init_423 : decode cX9_init 423 = .ok (.bipush 50, 2) := by decide +kernel
theorem dX9_init_425 : decode cX9_init 425 = .ok (.iastore, 1) := by decide +kernel
theorem dX9_init_426 : decode cX9_init 426 = .ok (.iinc 1 1, 3) := by decide +kernel
theorem dX9_init_429 : decode cX9_init 429 = .ok (.goto (-58), 3) := by decide +kernel
theorem dX9_init_432 : decode cX9_init 432 = .ok (.return_, 1) := by decide +kernel
theorem dX9_types_0 : decode cX9_types 0 = .ok (.iconst 3, 1) := by decide +kernel
theorem dX9_types_1 : decode cX9_types 1 = .ok (.istore_n 2, 1) := by decide +kernel
theorem dX9_types_2 : decode cX9_types 2 = .ok (.iload_n 2, 1) := by decide +kernel
theorem dX9_types_3 : decode cX9_types 3 = .ok (.ifCond .lt 35, 3) := by decide +kernel
theorem dX9_types_6 : decode cX9_types 6 = .ok (.aload_n 0, 1) := by decide +kernel
theorem dX9_types_7 : decode cX9_types 7 = .ok (.getfield 7, 3) := by decide +kernel
theorem dX9_types_10 : decode cX9_types 10 = .ok (.aload_n 0, 1) := by decide +kernel
theorem dX9_types_11 : decode cX9_types 11 = .ok (.getfield 141, 3) := by decide +kernel
theorem dX9_types_14 : decode cX9_types 14 = .ok (.iload_n 1, 1) := by decide +kernel
theorem dX9_types_15 : decode cX9_types 15 = .ok (.bipush 8, 2) := by decide +kernel
theorem dX9_types_17 : decode cX9_types 17 = .ok (.iload_n 2, 1) := by decide +kernel
theorem dX9_types_18 : decode cX9_types 18 = .ok (.imul, 1) := by decide +kernel
theorem dX9_types_19 : decode cX9_types 19 = .ok (.ishr, 1) := by decide +kernel
theorem dX9_types_20 : decode cX9_types 20 = .ok (.i2b, 1) := by decide +kernel
theorem dX9_types_21 : decode cX9_types 21 = .ok (.bastore, 1) := by decide +kernel
theorem dX9_types_22 : decode cX9_types 22 = .ok (.aload_n 0, 1) := by decide +kernel
theorem dX9_types_23 : decode cX9_types 23 = .ok (.aload_n 0, 1) := by decide +kernel
theorem dX9_types_24 : decode cX9_types 24 = .ok (.getfield 141, 3) := by decide +kernel
theorem dX9_types_27 : decode cX9_types 27 = .ok (.iconst 1, 1) := by decide +kernel
theorem dX9_types_28 : decode cX9_types 28 = .ok (.iadd, 1) := by decide +kernel
theorem dX9_types_29 : decode cX9_types 29 = .ok (.putfield 141, 3) := by decide +kernel
theorem dX9_types_32 : decode cX9_types 32 = .ok (.iinc 2 (-1), 3) := by decide +kernel
theorem dX9_types_35 : decode cX9_types 35 = .ok (.goto (-33), 3) := by decide +kernel
theorem dX9_types_38 : decode cX9_types 38 = .ok (.return_, 1) := by decide +kernel
set_option maxRecDepth 20000 in
theorem ggX9_feed_X9_types : GoodIn wsX9_feed wsX9_types := goodIn_r _ [6, 7, 1, 8, 9, 10, 11, 12, 13, 14, 15, 16, 17, 18, 19, 20, 21, 22, 23, 24, 25, 26, 27, 28, 29, 30, 31, 32, 33, 34, 35, 36, 37, 38, 39, 40, 41, 42, 43, 44, 45, 46, 47, 48, 49, 50, 51, 52, 53, 54, 55, 56, 57, 58, 59, 60, 61, 62, 63, 64, 65, 66, 67, 68, 69, 70] (by decide +kernel) (by decide +kernel)
set_option maxRecDepth 20000 in
theorem gX9_feed_X9_types : GoodIn wsX9_feed (wsV RX9 144 RX9 yX9_types wsX9_types) := goodIn_app (goodIn_of _ (by decide +kernel)) ggX9_feed_X9_types
theorem dX9_feed_0 : decode cX9_feed 0 = .ok (.aload_n 0, 1) := by decide +kernel
theorem dX9_feed_1 : decode cX9_feed 1 = .ok (.getfield 141, 3) := by decide +kernel
theorem dX9_feed_4 : decode cX9_feed 4 = .ok (.bipush 20, 2) := by decide +kernel
theorem dX9_feed_6 : decode cX9_feed 6 = .ok (.iadd, 1) := by decide +kernel
theorem dX9_feed_7 : decode cX9_feed 7 = .ok (.bipush 80, 2) := by decide +kernel
theorem dX9_feed_9 : decode cX9_feed 9 = .ok (.if_icmp .le 5, 3) := by decide +kernel
theorem dX9_feed_12 : decode cX9_feed 12 = .ok (.iconst (-1), 1) := by decide +kernel
theorem dX9_feed_13 : decode cX9_feed 13 = .ok (.ireturn, 1) := by decide +kernel
theorem dX9_feed_14 : decode cX9_feed 14 = .ok (.aload_n 0, 1) := by decide +kernel
theorem dX9_feed_15 : decode cX9_feed 15 = .ok (.iload_n 1, 1) := by decide +kernel
theorem dX9_feed_16 : decode cX9_feed 16 = .ok (.invokevirtual 144, 3) := by decide +kernel
theorem dX9_feed_19 : decode cX9_feed 19 = .ok (.aload_n 0, 1) := by decide +kernel
theorem dX9_feed_20 : decode cX9_feed 20 = .ok (.iload_n 2, 1) := by decide +kernel
theorem dX9_feed_21 : decode cX9_feed 21 = .ok (.invokevirtual 144, 3) := by decide +kernel
theorem dX9_feed_24 : decode cX9_feed 24 = .ok (.aload_n 0, 1) := by decide +kernel
theorem dX9_feed_25 : decode cX9_feed 25 = .ok (.iload_n 3, 1) := by decide +kernel
theorem dX9_feed_26 : decode cX9_feed 26 = .ok (.invokevirtual 144, 3) := by decide +kernel
theorem dX9_feed_29 : decode cX9_feed 29 = .ok (.aload_n 0, 1) := by decide +kernel
theorem dX9_feed_30 : decode cX9_feed 30 = .ok (.iload 4, 2) := by decide +kernel
theorem dX9_feed_32 : decode cX9_feed 32 = .ok (.invokevirtual 144, 3) := by decide +kernel
theorem dX9_feed_35 : decode cX9_feed 35 = .ok (.aload_n 0, 1) := by decide +kernel
theorem dX9_feed_36 : decode cX9_feed 36 = .ok (.iload 5, 2) := by decide +kernel
theorem dX9_feed_38 : decode cX9_feed 38 = .ok (.invokevirtual 144, 3) := by decide +kernel
theorem dX9_feed_41 : decode cX9_feed 41 = .ok (.aload_n 0, 1) := by decide +kernel
theorem dX9_feed_42 : decode cX9_feed 42 = .ok (.getfield 141, 3) := by decide +kernel
theorem dX9_feed_45 : decode cX9_feed 45 = .ok (.ireturn, 1) := by decide +kernel
theorem dX9_here_0 : decode cX9_here 0 = .ok (.aload_n 0, 1) := by decide +kernel
theorem dX9_here_1 : decode cX9_here 1 = .ok (.getfield 148, 3) := by decide +kernel
theorem dX9_here_4 : decode cX9_here 4 = .ok (.aload_n 0, 1) := by decide +kernel
theorem dX9_here_5 : decode cX9_here 5 = .ok (.getfield 151, 3) := by decide +kernel
theorem dX9_here_8 : decode cX9_here 8 = .ok (.if_icmp .ge 19, 3) := by decide +kernel
theorem dX9_here_11 : decode cX9_here 11 = .ok (.aload_n 0, 1) := by decide +kernel
theorem dX9_here_12 : decode cX9_here 12 = .ok (.getfield 7, 3) := by decide +kernel
theorem dX9_here_15 : decode cX9_here 15 = .ok (.aload_n 0, 1) := by decide +kernel
theorem dX9_here_16 : decode cX9_here 16 = .ok (.getfield 148, 3) := by decide +kernel
theorem dX9_here_19 : decode cX9_here 19 = .ok (.baload, 1) := by decide +kernel
theorem dX9_here_20 : decode cX9_here 20 = .ok (.sipush 255, 3) := by decide +kernel
theorem dX9_here_23 : decode cX9_here 23 = .ok (.iand, 1) := by decide +kernel
theorem dX9_here_24 : decode cX9_here 24 = .ok (.goto 4, 3) := by decide +kernel
theorem dX9_here_27 : decode cX9_here 27 = .ok (.iconst 0, 1) := by decide +kernel
theorem dX9_here_28 : decode cX9_here 28 = .ok (.ireturn, 1) := by decide +kernel
set_option maxRecDepth 20000 in
theorem ggX9_isDigit_X9_here : GoodIn wsX9_isDigit wsX9_here := goodIn_r _ [5, 6, 7, 8, 9, 10, 11, 12, 13, 14, 15, 16, 17, 18, 19, 20, 21, 22, 23, 24, 25, 26, 27, 28, 29, 30, 31, 32, 33, 34, 35, 36, 37, 38, 39, 40, 41, 42, 43, 44, 45, 46, 47, 48, 49, 50, 51, 52, 53, 54, 55, 56, 57, 58, 59, 60, 61, 62, 63, 64, 65, 66, 67, 68, 69, 70, 71] (by decide +kernel) (by decide +kernel)
set_option maxRecDepth 20000 in
theorem gX9_isDigit_X9_here : GoodIn wsX9_isDigit (wsV RX9 154 RX9 yX9_here wsX9_here) := goodIn_app (goodIn_of _ (by decide +kernel)) ggX9_isDigit_X9_here
theorem dX9_isDigit_0 : decode cX9_isDigit 0 = .ok (.aload_n 0, 1) := by decide +kernel
theorem dX9_isDigit_1 : decode cX9_isDigit 1 = .ok (.invokevirtual 154, 3) := by decide +kernel
theorem dX9_isDigit_4 : decode cX9_isDigit 4 = .ok (.bipush 48, 2) := by decide +kernel
theorem dX9_isDigit_6 : decode cX9_isDigit 6 = .ok (.if_icmp .lt 16, 3) := by decide +kernel
theorem dX9_isDigit_9 : decode cX9_isDigit 9 = .ok (.aload_n 0, 1) := by decide +kernel
theorem dX9_isDigit_10 : decode cX9_isDigit 10 = .ok (.invokevirtual 154, 3) := by decide +kernel
theorem dX9_isDigit_13 : decode cX9_isDigit 13 = .ok (.bipush 57, 2) := by decide +kernel
theorem dX9_isDigit_15 : decode cX9_isDigit 15 = .ok (.if_icmp .gt 7, 3) := by decide +kernel
theorem dX9_isDigit_18 : decode cX9_isDigit 18 = .ok (.iconst 1, 1) := by decide +kernel
theorem dX9_isDigit_19 : decode cX9_isDigit 19 = .ok (.goto 4, 3) := by decide +kernel
theorem dX9_isDigit_22 : decode cX9_isDigit 22 = .ok (.iconst 0, 1) := by decide +kernel
theorem dX9_isDigit_23 : decode cX9_isDigit 23 = .ok (.ireturn, 1) := by decide +kernel
theorem dX9_wrong_0 : decode cX9_wrong 0 = .ok (.aload_n 0, 1) := by decide +kernel
theorem dX9_wrong_1 : decode cX9_wrong 1 = .ok (.bipush 100, 2) := by decide +kernel
theorem dX9_wrong_3 : decode cX9_wrong 3 = .ok (.iload_n 1, 1) := by decide +kernel
theorem dX9_wrong_4 : decode cX9_wrong 4 = .ok (.imul, 1) := by decide +kernel
theorem dX9_wrong_5 : decode cX9_wrong 5 = .ok (.iload_n 2, 1) := by decide +kernel
theorem dX9_wrong_6 : decode cX9_wrong 6 = .ok (.iadd, 1) := by decide +kernel
theorem dX9_wrong_7 : decode cX9_wrong 7 = .ok (.putfield 158, 3) := by decide +kernel
theorem dX9_wrong_10 : decode cX9_wrong 10 = .ok (.iconst 0, 1) := by decide +kernel
theorem dX9_wrong_11 : decode cX9_wrong 11 = .ok (.ireturn, 1) := by decide +kernel
set_option maxRecDepth 20000 in
theorem ggX9_reads_X9_isDigit : GoodIn wsX9_reads wsX9_isDigit := goodIn_r _ [7, 8, 9, 10, 6, 11, 1, 12, 13, 19, 20, 21, 22, 23, 24, 25, 26, 27, 28, 29, 30, 31, 32, 33, 34, 35, 36, 37, 38, 39, 40, 41, 42, 43, 44, 45, 46, 47, 48, 49, 50, 51, 52, 53, 54, 55, 56, 57, 58, 59, 60, 61, 62, 63, 64, 65, 66, 67, 68, 69, 70, 71, 72, 73, 74, 75, 76, 77, 78, 79, 80, 81] (by decide +kernel) (by decide +kernel)
set_option maxRecDepth 20000 in
theorem gX9_reads_X9_isDigit : GoodIn wsX9_reads (wsV RX9 164 RX9 yX9_isDigit wsX9_isDigit) := goodIn_app (goodIn_of _ (by decide +kernel)) ggX9_reads_X9_isDigit
set_option maxRecDepth 20000 in
theorem ggX9_reads_X9_wrong : GoodIn wsX9_reads wsX9_wrong := goodIn_r _ [17, 18, 19, 20, 21, 22, 23, 24, 25, 26, 27, 28, 29, 30, 31, 32, 33, 34, 35, 36, 37, 38, 39, 40, 41, 42, 43, 44, 45, 46, 47, 48, 49, 50, 51, 52, 53, 54, 55, 56, 57, 58, 59, 60, 61, 62, 63, 64, 65, 66, 67, 68, 69, 70, 71, 72, 73, 74, 75, 76, 77, 78, 79, 80, 81] (by decide +kernel) (by decide +kernel)
set_option maxRecDepth 20000 in
theorem gX9_reads_X9_wrong : GoodIn wsX9_reads (wsV RX9 168 RX9 yX9_wrong wsX9_wrong) := goodIn_app (goodIn_of _ (by decide +kernel)) ggX9_reads_X9_wrong
set_option maxRecDepth 20000 in
theorem ggX9_reads_X9_here : GoodIn wsX9_reads wsX9_here := goodIn_r _ [11, 1, 12, 13, 19, 20, 21, 22, 23, 24, 25, 26, 27, 28, 29, 30, 31, 32, 33, 34, 35, 36, 37, 38, 39, 40, 41, 42, 43, 44, 45, 46, 47, 48, 49, 50, 51, 52, 53, 54, 55, 56, 57, 58, 59, 60, 61, 62, 63, 64, 65, 66, 67, 68, 69, 70, 71, 72, 73, 74, 75, 76, 77, 78, 79, 80, 81] (by decide +kernel) (by decide +kernel)
set_option maxRecDepth 20000 in
theorem gX9_reads_X9_here : GoodIn wsX9_reads (wsV RX9 154 RX9 yX9_here wsX9_here) := goodIn_app (goodIn_of _ (by decide +kernel)) ggX9_reads_X9_here
theorem dX9_reads_0 : decode cX9_reads 0 = .ok (.aload_n 0, 1) := by decide +kernel
theorem dX9_reads_1 : decode cX9_reads 1 = .ok (.getfield 148, 3) := by decide +kernel
theorem dX9_reads_4 : decode cX9_reads 4 = .ok (.istore_n 3, 1) := by decide +kernel
theorem dX9_reads_5 : decode cX9_reads 5 = .ok (.aload_n 0, 1) := by decide +kernel
theorem dX9_reads_6 : decode cX9_reads 6 = .ok (.iconst 0, 1) := by decide +kernel
theorem dX9_reads_7 : decode cX9_reads 7 = .ok (.putfield 161, 3) := by decide +kernel
theorem dX9_reads_10 : decode cX9_reads 10 = .ok (.aload_n 0, 1) := by decide +kernel
theorem dX9_reads_11 : decode cX9_reads 11 = .ok (.invokevirtual 164, 3) := by decide +kernel
theorem dX9_reads_14 : decode cX9_reads 14 = .ok (.ifCond .eq 55, 3) := by decide +kernel
theorem dX9_reads_17 : decode cX9_reads 17 = .ok (.aload_n 0, 1) := by decide +kernel
theorem dX9_reads_18 : decode cX9_reads 18 = .ok (.getfield 148, 3) := by decide +kernel
theorem dX9_reads_21 : decode cX9_reads 21 = .ok (.iload_n 3, 1) := by decide +kernel
theorem dX9_reads_22 : decode cX9_reads 22 = .ok (.iconst 4, 1) := by decide +kernel
theorem dX9_reads_23 : decode cX9_reads 23 = .ok (.iadd, 1) := by decide +kernel
theorem dX9_reads_24 : decode cX9_reads 24 = .ok (.if_icmp .ne 13, 3) := by decide +kernel
theorem dX9_reads_27 : decode cX9_reads 27 = .ok (.aload_n 0, 1) := by decide +kernel
theorem dX9_reads_28 : decode cX9_reads 28 = .ok (.iconst 1, 1) := by decide +kernel
theorem dX9_reads_29 : decode cX9_reads 29 = .ok (.aload_n 0, 1) := by decide +kernel
theorem dX9_reads_30 : decode cX9_reads 30 = .ok (.getfield 148, 3) := by decide +kernel
theorem dX9_reads_33 : decode cX9_reads 33 = .ok (.invokevirtual 168, 3) := by decide +kernel
theorem dX9_reads_36 : decode cX9_reads 36 = .ok (.ireturn, 1) := by decide +kernel
theorem dX9_reads_37 : decode cX9_reads 37 = .ok (.aload_n 0, 1) := by decide +kernel
theorem dX9_reads_38 : decode cX9_reads 38 = .ok (.bipush 10, 2) := by decide +kernel
theorem dX9_reads_40 : decode cX9_reads 40 = .ok (.aload_n 0, 1) := by decide +kernel
theorem dX9_reads_41 : decode cX9_reads 41 = .ok (.getfield 161, 3) := by decide +kernel
theorem dX9_reads_44 : decode cX9_reads 44 = .ok (.imul, 1) := by decide +kernel
theorem dX9_reads_45 : decode cX9_reads 45 = .ok (.aload_n 0, 1) := by decide +kernel
theorem dX9_reads_46 : decode cX9_reads 46 = .ok (.invokevirtual 154, 3) := by decide +kernel
theorem dX9_reads_49 : decode cX9_reads 49 = .ok (.iadd, 1) := by decide +kernel
theorem dX9_reads_50 : decode cX9_reads 50 = .ok (.bipush 48, 2) := by decide +kernel
theorem dX9_reads_52 : decode cX9_reads 52 = .ok (.isub, 1) := by decide +kernel
theorem dX9_reads_53 : decode cX9_reads 53 = .ok (.putfield 161, 3) := by decide +kernel
theorem dX9_reads_56 : decode cX9_reads 56 = .ok (.aload_n 0, 1) := by decide +kernel
theorem dX9_reads_57 : decode cX9_reads 57 = .ok (.aload_n 0, 1) := by decide +kernel
theorem dX9_reads_58 : decode cX9_reads 58 = .ok (.getfield 148, 3) := by decide +kernel
theorem dX9_reads_61 : decode cX9_reads 61 = .ok (.iconst 1, 1) := by decide +kernel
theorem dX9_reads_62 : decode cX9_reads 62 = .ok (.iadd, 1) := by decide +kernel
theorem dX9_reads_63 : decode cX9_reads 63 = .ok (.putfield 148, 3) := by decide +kernel
theorem dX9_reads_66 : decode cX9_reads 66 = .ok (.goto (-56), 3) := by decide +kernel
theorem dX9_reads_69 : decode cX9_reads 69 = .ok (.aload_n 0, 1) := by decide +kernel
theorem dX9_reads_70 : decode cX9_reads 70 = .ok (.getfield 148, 3) := by decide +kernel
theorem dX9_reads_73 : decode cX9_reads 73 = .ok (.iload_n 3, 1) := by decide +kernel
theorem dX9_reads_74 : decode cX9_reads 74 = .ok (.if_icmp .ne 13, 3) := by decide +kernel
theorem dX9_reads_77 : decode cX9_reads 77 = .ok (.aload_n 0, 1) := by decide +kernel
theorem dX9_reads_78 : decode cX9_reads 78 = .ok (.iconst 1, 1) := by decide +kernel
theorem dX9_reads_79 : decode cX9_reads 79 = .ok (.aload_n 0, 1) := by decide +kernel
theorem dX9_reads_80 : decode cX9_reads 80 = .ok (.getfield 148, 3) := by decide +kernel
theorem dX9_reads_83 : decode cX9_reads 83 = .ok (.invokevirtual 168, 3) := by decide +kernel
theorem dX9_reads_86 : decode cX9_reads 86 = .ok (.ireturn, 1) := by decide +kernel
theorem dX9_reads_87 : decode cX9_reads 87 = .ok (.aload_n 0, 1) := by decide +kernel
theorem dX9_reads_88 : decode cX9_reads 88 = .ok (.getfield 161, 3) := by decide +kernel
theorem dX9_reads_91 : decode cX9_reads 91 = .ok (.iload_n 1, 1) := by decide +kernel
theorem dX9_reads_92 : decode cX9_reads 92 = .ok (.if_icmp .lt 11, 3) := by decide +kernel
theorem dX9_reads_95 : decode cX9_reads 95 = .ok (.aload_n 0, 1) := by decide +kernel
theorem dX9_reads_96 : decode cX9_reads 96 = .ok (.getfield 161, 3) := by decide +kernel
theorem dX9_reads_99 : decode cX9_reads 99 = .ok (.iload_n 2, 1) := by decide +kernel
theorem dX9_reads_100 : decode cX9_reads 100 = .ok (.if_icmp .le 12, 3) := by decide +kernel
theorem dX9_reads_103 : decode cX9_reads 103 = .ok (.aload_n 0, 1) := by decide +kernel
theorem dX9_reads_104 : decode cX9_reads 104 = .ok (.iconst 2, 1) := by decide +kernel
theorem dX9_reads_105 : decode cX9_reads 105 = .ok (.iload_n 3, 1) := by decide +kernel
theorem dX9_reads_106 : decode cX9_reads 106 = .ok (.invokevirtual 168, 3) := by decide +kernel
theorem dX9_reads_109 : decode cX9_reads 109 = .ok (.ifCond .eq 7, 3) := by decide +kernel
theorem dX9_reads_112 : decode cX9_reads 112 = .ok (.iconst 1, 1) := by decide +kernel
theorem dX9_reads_113 : decode cX9_reads 113 = .ok (.goto 4, 3) := by decide +kernel
theorem dX9_reads_116 : decode cX9_reads 116 = .ok (.iconst 0, 1) := by decide +kernel
theorem dX9_reads_117 : decode cX9_reads 117 = .ok (.ireturn, 1) := by decide +kernel
set_option maxRecDepth 20000 in
theorem ggX9_readsSet_X9_isDigit : GoodIn wsX9_readsSet wsX9_isDigit := goodIn_r _ [7, 8, 9, 10, 6, 11, 2, 12, 13, 19, 20, 21, 22, 23, 24, 25, 26, 27, 28, 29, 30, 31, 32, 33, 34, 35, 36, 37, 38, 39, 40, 41, 42, 43, 44, 45, 46, 47, 48, 49, 50, 51, 52, 53, 54, 55, 56, 57, 58, 59, 60, 61, 62, 63, 64, 65, 66, 67, 68, 69, 70, 71, 72, 73, 74, 75, 76, 77, 78, 79, 80, 81] (by decide +kernel) (by decide +kernel)
set_option maxRecDepth 20000 in
theorem gX9_readsSet_X9_isDigit : GoodIn wsX9_readsSet (wsV RX9 164 RX9 yX9_isDigit wsX9_isDigit) := goodIn_app (goodIn_of _ (by decide +kernel)) ggX9_readsSet_X9_isDigit
set_option maxRecDepth 20000 in
theorem ggX9_readsSet_X9_wrong : GoodIn wsX9_readsSet wsX9_wrong := goodIn_r _ [17, 18, 19, 20, 21, 22, 23, 24, 25, 26, 27, 28, 29, 30, 31, 32, 33, 34, 35, 36, 37, 38, 39, 40, 41, 42, 43, 44, 45, 46, 47, 48, 49, 50, 51, 52, 53, 54, 55, 56, 57, 58, 59, 60, 61, 62, 63, 64, 65, 66, 67, 68, 69, 70, 71, 72, 73, 74, 75, 76, 77, 78, 79, 80, 81] (by decide +kernel) (by decide +kernel)
set_option maxRecDepth 20000 in
theorem gX9_readsSet_X9_wrong : GoodIn wsX9_readsSet (wsV RX9 168 RX9 yX9_wrong wsX9_wrong) := goodIn_app (goodIn_of _ (by decide +kernel)) ggX9_readsSet_X9_wrong
set_option maxRecDepth 20000 in
theorem ggX9_readsSet_X9_here : GoodIn wsX9_readsSet wsX9_here := goodIn_r _ [11, 2, 12, 13, 19, 20, 21, 22, 23, 24, 25, 26, 27, 28, 29, 30, 31, 32, 33, 34, 35, 36, 37, 38, 39, 40, 41, 42, 43, 44, 45, 46, 47, 48, 49, 50, 51, 52, 53, 54, 55, 56, 57, 58, 59, 60, 61, 62, 63, 64, 65, 66, 67, 68, 69, 70, 71, 72, 73, 74, 75, 76, 77, 78, 79, 80, 81] (by decide +kernel) (by decide +kernel)
set_option maxRecDepth 20000 in
theorem gX9_readsSet_X9_here : GoodIn wsX9_readsSet (wsV RX9 154 RX9 yX9_here wsX9_here) := goodIn_app (goodIn_of _ (by decide +kernel)) ggX9_readsSet_X9_here
theorem dX9_readsSet_0 : decode cX9_readsSet 0 = .ok (.aload_n 0, 1) := by decide +kernel
theorem dX9_readsSet_1 : decode cX9_readsSet 1 = .ok (.iconst 0, 1) := by decide +kernel
theorem dX9_readsSet_2 : decode cX9_readsSet 2 = .ok (.putfield 161, 3) := by decide +kernel
theorem dX9_readsSet_5 : decode cX9_readsSet 5 = .ok (.aload_n 0, 1) := by decide +kernel
theorem dX9_readsSet_6 : decode cX9_readsSet 6 = .ok (.getfield 148, 3) := by decide +kernel
theorem dX9_readsSet_9 : decode cX9_readsSet 9 = .ok (.istore_n 3, 1) := by decide +kernel
theorem dX9_readsSet_10 : decode cX9_readsSet 10 = .ok (.aload_n 0, 1) := by decide +kernel
theorem dX9_readsSet_11 : decode cX9_readsSet 11 = .ok (.invokevirtual 164, 3) := by decide +kernel
theorem dX9_readsSet_14 : decode cX9_readsSet 14 = .ok (.ifCond .eq 75, 3) := by decide +kernel
theorem dX9_readsSet_17 : decode cX9_readsSet 17 = .ok (.aload_n 0, 1) := by decide +kernel
theorem dX9_readsSet_18 : decode cX9_readsSet 18 = .ok (.getfield 148, 3) := by decide +kernel
theorem dX9_readsSet_21 : decode cX9_readsSet 21 = .ok (.iload_n 3, 1) := by decide +kernel
theorem dX9_readsSet_22 : decode cX9_readsSet 22 = .ok (.iload_n 1, 1) := by decide +kernel
theorem dX9_readsSet_23 : decode cX9_readsSet 23 = .ok (.iadd, 1) := by decide +kernel
theorem dX9_readsSet_24 : decode cX9_readsSet 24 = .ok (.if_icmp .ne 13, 3) := by decide +kernel
theorem dX9_readsSet_27 : decode cX9_readsSet 27 = .ok (.aload_n 0, 1) := by decide +kernel
theorem dX9_readsSet_28 : decode cX9_readsSet 28 = .ok (.iconst 1, 1) := by decide +kernel
theorem dX9_readsSet_29 : decode cX9_readsSet 29 = .ok (.aload_n 0, 1) := by decide +kernel
theorem dX9_readsSet_30 : decode cX9_readsSet 30 = .ok (.getfield 148, 3) := by decide +kernel
theorem dX9_readsSet_33 : decode cX9_readsSet 33 = .ok (.invokevirtual 168, 3) := by decide +kernel
theorem dX9_readsSet_36 : decode cX9_readsSet 36 = .ok (.ireturn, 1) := by decide +kernel
theorem dX9_readsSet_37 : decode cX9_readsSet 37 = .ok (.aload_n 0, 1) := by decide +kernel
theorem dX9_readsSet_38 : decode cX9_readsSet 38 = .ok (.invokevirtual 154, 3) := by decide +kernel
theorem dX9_readsSet_41 : decode cX9_readsSet 41 = .ok (.bipush 48, 2) := by decide +kernel
theorem dX9_readsSet_43 : decode cX9_readsSet 43 = .ok (.isub, 1) := by decide +kernel
theorem dX9_readsSet_44 : decode cX9_readsSet 44 = .ok (.iload_n 2, 1) := by decide +kernel
theorem dX9_readsSet_45 : decode cX9_readsSet 45 = .ok (.if_icmp .lt 13, 3) := by decide +kernel
theorem dX9_readsSet_48 : decode cX9_readsSet 48 = .ok (.aload_n 0, 1) := by decide +kernel
theorem dX9_readsSet_49 : decode cX9_readsSet 49 = .ok (.iconst 2, 1) := by decide +kernel
theorem dX9_readsSet_50 : decode cX9_readsSet 50 = .ok (.aload_n 0, 1) := by decide +kernel
theorem dX9_readsSet_51 : decode cX9_readsSet 51 = .ok (.getfield 148, 3) := by decide +kernel
theorem dX9_readsSet_54 : decode cX9_readsSet 54 = .ok (.invokevirtual 168, 3) := by decide +kernel
theorem dX9_readsSet_57 : decode cX9_readsSet 57 = .ok (.ireturn, 1) := by decide +kernel
theorem dX9_readsSet_58 : decode cX9_readsSet 58 = .ok (.aload_n 0, 1) := by decide +kernel
theorem dX9_readsSet_59 : decode cX9_readsSet 59 = .ok (.aload_n 0, 1) := by decide +kernel
theorem dX9_readsSet_60 : decode cX9_readsSet 60 = .ok (.getfield 161, 3) := by decide +kernel
theorem dX9_readsSet_63 : decode cX9_readsSet 63 = .ok (.iconst 1, 1) := by decide +kernel
theorem dX9_readsSet_64 : decode cX9_readsSet 64 = .ok (.aload_n 0, 1) := by decide +kernel
theorem dX9_readsSet_65 : decode cX9_readsSet 65 = .ok (.invokevirtual 154, 3) := by decide +kernel
theorem dX9_readsSet_68 : decode cX9_readsSet 68 = .ok (.bipush 48, 2) := by decide +kernel
theorem dX9_readsSet_70 : decode cX9_readsSet 70 = .ok (.isub, 1) := by decide +kernel
theorem dX9_readsSet_71 : decode cX9_readsSet 71 = .ok (.ishl, 1) := by decide +kernel
theorem dX9_readsSet_72 : decode cX9_readsSet 72 = .ok (.ior, 1) := by decide +kernel
theorem dX9_readsSet_73 : decode cX9_readsSet 73 = .ok (.putfield 161, 3) := by decide +kernel
theorem dX9_readsSet_76 : decode cX9_readsSet 76 = .ok (.aload_n 0, 1) := by decide +kernel
theorem dX9_readsSet_77 : decode cX9_readsSet 77 = .ok (.aload_n 0, 1) := by decide +kernel
theorem dX9_readsSet_78 : decode cX9_readsSet 78 = .ok (.getfield 148, 3) := by decide +kernel
theorem dX9_readsSet_81 : decode cX9_readsSet 81 = .ok (.iconst 1, 1) := by decide +kernel
theorem dX9_readsSet_82 : decode cX9_readsSet 82 = .ok (.iadd, 1) := by decide +kernel
theorem dX9_readsSet_83 : decode cX9_readsSet 83 = .ok (.putfield 148, 3) := by decide +kernel
theorem dX9_readsSet_86 : decode cX9_readsSet 86 = .ok (.goto (-76), 3) := by decide +kernel
theorem dX9_readsSet_89 : decode cX9_readsSet 89 = .ok (.aload_n 0, 1) := by decide +kernel
theorem dX9_readsSet_90 : decode cX9_readsSet 90 = .ok (.getfield 148, 3) := by decide +kernel
theorem dX9_readsSet_93 : decode cX9_readsSet 93 = .ok (.iload_n 3, 1) := by decide +kernel
theorem dX9_readsSet_94 : decode cX9_readsSet 94 = .ok (.if_icmp .gt 15, 3) := by decide +kernel
theorem dX9_readsSet_97 : decode cX9_readsSet 97 = .ok (.aload_n 0, 1) := by decide +kernel
theorem dX9_readsSet_98 : decode cX9_readsSet 98 = .ok (.iconst 1, 1) := by decide +kernel
theorem dX9_readsSet_99 : decode cX9_readsSet 99 = .ok (.aload_n 0, 1) := by decide +kernel
theorem dX9_readsSet_100 : decode cX9_readsSet 100 = .ok (.getfield 148, 3) := by decide +kernel
theorem dX9_readsSet_103 : decode cX9_readsSet 103 = .ok (.invokevirtual 168, 3) := by decide +kernel
theorem dX9_readsSet_106 : decode cX9_readsSet 106 = .ok (.ifCond .eq 7, 3) := by decide +kernel
theorem dX9_readsSet_109 : decode cX9_readsSet 109 = .ok (.iconst 1, 1) := by decide +kernel
theorem dX9_readsSet_110 : decode cX9_readsSet 110 = .ok (.goto 4, 3) := by decide +kernel
theorem dX9_readsSet_113 : decode cX9_readsSet 113 = .ok (.iconst 0, 1) := by decide +kernel
theorem dX9_readsSet_114 : decode cX9_readsSet 114 = .ok (.ireturn, 1) := by decide +kernel
set_option maxRecDepth 20000 in
theorem ggX9_readsClause_X9_here : GoodIn wsX9_readsClause wsX9_here := goodIn_r _ [13, 1, 14, 15, 33, 34, 35, 36, 37, 38, 39, 40, 41, 42, 43, 44, 45, 46, 47, 48, 49, 50, 51, 52, 53, 54, 55, 56, 57, 58, 59, 60, 61, 62, 63, 64, 65, 66, 67, 68, 69, 70, 71, 72, 73, 74, 75, 76, 77, 78, 79, 80, 81, 82, 83, 84, 85, 86, 87, 88, 89, 90, 91, 92, 93, 94, 95] (by decide +kernel) (by decide +kernel)
set_option maxRecDepth 20000 in
theorem gX9_readsClause_X9_here : GoodIn wsX9_readsClause (wsV RX9 154 RX9 yX9_here wsX9_here) := goodIn_app (goodIn_of _ (by decide +kernel)) ggX9_readsClause_X9_here
set_option maxRecDepth 20000 in
theorem ggX9_readsClause_X9_wrong : GoodIn wsX9_readsClause wsX9_wrong := goodIn_r _ [19, 20, 33, 34, 35, 36, 37, 38, 39, 40, 41, 42, 43, 44, 45, 46, 47, 48, 49, 50, 51, 52, 53, 54, 55, 56, 57, 58, 59, 60, 61, 62, 63, 64, 65, 66, 67, 68, 69, 70, 71, 72, 73, 74, 75, 76, 77, 78, 79, 80, 81, 82, 83, 84, 85, 86, 87, 88, 89, 90, 91, 92, 93, 94, 95] (by decide +kernel) (by decide +kernel)
set_option maxRecDepth 20000 in
theorem gX9_readsClause_X9_wrong : GoodIn wsX9_readsClause (wsV RX9 168 RX9 yX9_wrong wsX9_wrong) := goodIn_app (goodIn_of _ (by decide +kernel)) ggX9_readsClause_X9_wrong
set_option maxRecDepth 20000 in
theorem ggX9_readsClause_X9_reads : GoodIn wsX9_readsClause wsX9_reads := goodIn_r _ [24, 1, 2, 25, 26, 27, 12, 28, 9, 10, 11, 13, 14, 15, 16, 17, 18, 19, 20, 33, 34, 35, 36, 37, 38, 39, 40, 41, 42, 43, 44, 45, 46, 47, 48, 49, 50, 51, 52, 53, 54, 55, 56, 57, 58, 59, 60, 61, 62, 63, 64, 65, 66, 67, 68, 69, 70, 71, 72, 73, 74, 75, 76, 77, 78, 79, 80, 81, 82, 83, 84, 85, 86, 87, 88, 89, 90, 91, 92, 93, 94, 95] (by decide +kernel) (by decide +kernel)
set_option maxRecDepth 20000 in
theorem gX9_readsClause_X9_reads : GoodIn wsX9_readsClause (wsV RX9 172 RX9 yX9_reads wsX9_reads) := goodIn_app (goodIn_of _ (by decide +kernel)) ggX9_readsClause_X9_reads
set_option maxRecDepth 20000 in
theorem ggX9_readsClause_X9_readsSet : GoodIn wsX9_readsClause wsX9_readsSet := goodIn_r _ [32, 2, 1, 25, 26, 27, 12, 28, 9, 10, 11, 13, 14, 15, 16, 17, 18, 19, 20, 33, 34, 35, 36, 37, 38, 39, 40, 41, 42, 43, 44, 45, 46, 47, 48, 49, 50, 51, 52, 53, 54, 55, 56, 57, 58, 59, 60, 61, 62, 63, 64, 65, 66, 67, 68, 69, 70, 71, 72, 73, 74, 75, 76, 77, 78, 79, 80, 81, 82, 83, 84, 85, 86, 87, 88, 89, 90, 91, 92, 93, 94, 95] (by decide +kernel) (by decide +kernel)
set_option maxRecDepth 20000 in
theorem gX9_readsClause_X9_readsSet : GoodIn wsX9_readsClause (wsV RX9 178 RX9 yX9_readsSet wsX9_readsSet) := goodIn_app (goodIn_of _ (by decide +kernel)) ggX9_readsClause_X9_readsSet
theorem dX9_readsClause_0 : decode cX9_readsClause 0 = .ok (.aload_n 0, 1) := by decide +kernel
theorem dX9_readsClause_1 : decode cX9_readsClause 1 = .ok (.invokevirtual 154, 3) := by decide +kernel
theorem dX9_readsClause_4 : decode cX9_readsClause 4 = .ok (.istore_n 1, 1) := by decide +kernel
theorem dX9_readsClause_5 : decode cX9_readsClause 5 = .ok (.iload_n 1, 1) := by decide +kernel
theorem dX9_readsClause_6 : decode cX9_readsClause 6 = .ok (.bipush 119, 2) := by decide +kernel
theorem dX9_readsClause_8 : decode cX9_readsClause 8 = .ok (.if_icmp .eq 43, 3) := by decide +kernel
theorem dX9_readsClause_11 : decode cX9_readsClause 11 = .ok (.iload_n 1, 1) := by decide +kernel
theorem dX9_readsClause_12 : decode cX9_readsClause 12 = .ok (.bipush 100, 2) := by decide +kernel
theorem dX9_readsClause_14 : decode cX9_readsClause 14 = .ok (.if_icmp .eq 37, 3) := by decide +kernel
theorem dX9_readsClause_17 : decode cX9_readsClause 17 = .ok (.iload_n 1, 1) := by decide +kernel
theorem dX9_readsClause_18 : decode cX9_readsClause 18 = .ok (.bipush 107, 2) := by decide +kernel
theorem dX9_readsClause_20 : decode cX9_readsClause 20 = .ok (.if_icmp .eq 31, 3) := by decide +kernel
theorem dX9_readsClause_23 : decode cX9_readsClause 23 = .ok (.iload_n 1, 1) := by decide +kernel
theorem dX9_readsClause_24 : decode cX9_readsClause 24 = .ok (.bipush 110, 2) := by decide +kernel
theorem dX9_readsClause_26 : decode cX9_readsClause 26 = .ok (.if_icmp .eq 25, 3) := by decide +kernel
theorem dX9_readsClause_29 : decode cX9_readsClause 29 = .ok (.iload_n 1, 1) := by decide +kernel
theorem dX9_readsClause_30 : decode cX9_readsClause 30 = .ok (.bipush 102, 2) := by decide +kernel
theorem dX9_readsClause_32 : decode cX9_readsClause 32 = .ok (.if_icmp .eq 19, 3) := by decide +kernel
theorem dX9_readsClause_35 : decode cX9_readsClause 35 = .ok (.iload_n 1, 1) := by decide +kernel
theorem dX9_readsClause_36 : decode cX9_readsClause 36 = .ok (.bipush 99, 2) := by decide +kernel
theorem dX9_readsClause_38 : decode cX9_readsClause 38 = .ok (.if_icmp .eq 13, 3) := by decide +kernel
theorem dX9_readsClause_41 : decode cX9_readsClause 41 = .ok (.aload_n 0, 1) := by decide +kernel
theorem dX9_readsClause_42 : decode cX9_readsClause 42 = .ok (.iconst 1, 1) := by decide +kernel
theorem dX9_readsClause_43 : decode cX9_readsClause 43 = .ok (.aload_n 0, 1) := by decide +kernel
theorem dX9_readsClause_44 : decode cX9_readsClause 44 = .ok (.getfield 148, 3) := by decide +kernel
theorem dX9_readsClause_47 : decode cX9_readsClause 47 = .ok (.invokevirtual 168, 3) := by decide +kernel
theorem dX9_readsClause_50 : decode cX9_readsClause 50 = .ok (.ireturn, 1) := by decide +kernel
theorem dX9_readsClause_51 : decode cX9_readsClause 51 = .ok (.aload_n 0, 1) := by decide +kernel
theorem dX9_readsClause_52 : decode cX9_readsClause 52 = .ok (.aload_n 0, 1) := by decide +kernel
theorem dX9_readsClause_53 : decode cX9_readsClause 53 = .ok (.getfield 148, 3) := by decide +kernel
theorem dX9_readsClause_56 : decode cX9_readsClause 56 = .ok (.iconst 1, 1) := by decide +kernel
theorem dX9_readsClause_57 : decode cX9_readsClause 57 = .ok (.iadd, 1) := by decide +kernel
theorem dX9_readsClause_58 : decode cX9_readsClause 58 = .ok (.putfield 148, 3) := by decide +kernel
theorem dX9_readsClause_61 : decode cX9_readsClause 61 = .ok (.iload_n 1, 1) := by decide +kernel
theorem dX9_readsClause_62 : decode cX9_readsClause 62 = .ok (.lookupswitch 230 #[(100, 140), (102, 207), (107, 163), (110, 184), (119, 50)], 50) := by decide +kernel
theorem dX9_readsClause_112 : decode cX9_readsClause 112 = .ok (.aload_n 0, 1) := by decide +kernel
theorem dX9_readsClause_113 : decode cX9_readsClause 113 = .ok (.iconst 0, 1) := by decide +kernel
theorem dX9_readsClause_114 : decode cX9_readsClause 114 = .ok (.bipush 23, 2) := by decide +kernel
theorem dX9_readsClause_116 : decode cX9_readsClause 116 = .ok (.invokevirtual 172, 3) := by decide +kernel
theorem dX9_readsClause_119 : decode cX9_readsClause 119 = .ok (.ifCond .ne 5, 3) := by decide +kernel
theorem dX9_readsClause_122 : decode cX9_readsClause 122 = .ok (.iconst 0, 1) := by decide +kernel
theorem dX9_readsClause_123 : decode cX9_readsClause 123 = .ok (.ireturn, 1) := by decide +kernel
theorem dX9_readsClause_124 : decode cX9_readsClause 124 = .ok (.aload_n 0, 1) := by decide +kernel
theorem dX9_readsClause_125 : decode cX9_readsClause 125 = .ok (.getfield 161, 3) := by decide +kernel
theorem dX9_readsClause_128 : decode cX9_readsClause 128 = .ok (.istore_n 2, 1) := by decide +kernel
theorem dX9_readsClause_129 : decode cX9_readsClause 129 = .ok (.aload_n 0, 1) := by decide +kernel
theorem dX9_readsClause_130 : decode cX9_readsClause 130 = .ok (.invokevirtual 154, 3) := by decide +kernel
theorem dX9_readsClause_133 : decode cX9_readsClause 133 = .ok (.bipush 45, 2) := by decide +kernel
theorem dX9_readsClause_135 : decode cX9_readsClause 135 = .ok (.if_icmp .eq 13, 3) := by decide +kernel
theorem dX9_readsClause_138 : decode cX9_readsClause 138 = .ok (.aload_n 0, 1) := by decide +kernel
theorem dX9_readsClause_139 : decode cX9_readsClause 139 = .ok (.iconst 1, 1) := by decide +kernel
theorem dX9_readsClause_140 : decode cX9_readsClause 140 = .ok (.aload_n 0, 1) := by decide +kernel
theorem dX9_readsClause_141 : decode cX9_readsClause 141 = .ok (.getfield 148, 3) := by decide +kernel
theorem dX9_readsClause_144 : decode cX9_readsClause 144 = .ok (.invokevirtual 168, 3) := by decide +kernel
theorem dX9_readsClause_147 : decode cX9_readsClause 147 = .ok (.ireturn, 1) := by decide +kernel
theorem dX9_readsClause_148 : decode cX9_readsClause 148 = .ok (.aload_n 0, 1) := by decide +kernel
theorem dX9_readsClause_149 : decode cX9_readsClause 149 = .ok (.aload_n 0, 1) := by decide +kernel
theorem dX9_readsClause_150 : decode cX9_readsClause 150 = .ok (.getfield 148, 3) := by decide +kernel
theorem dX9_readsClause_153 : decode cX9_readsClause 153 = .ok (.iconst 1, 1) := by decide +kernel
theorem dX9_readsClause_154 : decode cX9_readsClause 154 = .ok (.iadd, 1) := by decide +kernel
theorem dX9_readsClause_155 : decode cX9_readsClause 155 = .ok (.putfield 148, 3) := by decide +kernel
theorem dX9_readsClause_158 : decode cX9_readsClause 158 = .ok (.aload_n 0, 1) := by decide +kernel
theorem dX9_readsClause_159 : decode cX9_readsClause 159 = .ok (.iload_n 2, 1) := by decide +kernel
theorem dX9_readsClause_160 : decode cX9_readsClause 160 = .ok (.iconst 1, 1) := by decide +kernel
theorem dX9_readsClause_161 : decode cX9_readsClause 161 = .ok (.iadd, 1) := by decide +kernel
theorem dX9_readsClause_162 : decode cX9_readsClause 162 = .ok (.bipush 24, 2) := by decide +kernel
theorem dX9_readsClause_164 : decode cX9_readsClause 164 = .ok (.invokevirtual 172, 3) := by decide +kernel
theorem dX9_readsClause_167 : decode cX9_readsClause 167 = .ok (.ifCond .ne 5, 3) := by decide +kernel
theorem dX9_readsClause_170 : decode cX9_readsClause 170 = .ok (.iconst 0, 1) := by decide +kernel
theorem dX9_readsClause_171 : decode cX9_readsClause 171 = .ok (.ireturn, 1) := by decide +kernel
theorem dX9_readsClause_172 : decode cX9_readsClause 172 = .ok (.iload_n 2, 1) := by decide +kernel
theorem dX9_readsClause_173 : decode cX9_readsClause 173 = .ok (.istore_n 3, 1) := by decide +kernel
theorem dX9_readsClause_174 : decode cX9_readsClause 174 = .ok (.iload_n 3, 1) := by decide +kernel
theorem dX9_readsClause_175 : decode cX9_readsClause 175 = .ok (.aload_n 0, 1) := by decide +kernel
theorem dX9_readsClause_176 : decode cX9_readsClause 176 = .ok (.getfield 161, 3) := by decide +kernel
theorem dX9_readsClause_179 : decode cX9_readsClause 179 = .ok (.if_icmp .ge 21, 3) := by decide +kernel
theorem dX9_readsClause_182 : decode cX9_readsClause 182 = .ok (.aload_n 0, 1) := by decide +kernel
theorem dX9_readsClause_183 : decode cX9_readsClause 183 = .ok (.aload_n 0, 1) := by decide +kernel
theorem dX9_readsClause_184 : decode cX9_readsClause 184 = .ok (.getfield 175, 3) := by decide +kernel
theorem dX9_readsClause_187 : decode cX9_readsClause 187 = .ok (.iconst 1, 1) := by decide +kernel
theorem dX9_readsClause_188 : decode cX9_readsClause 188 = .ok (.iload_n 3, 1) := by decide +kernel
theorem dX9_readsClause_189 : decode cX9_readsClause 189 = .ok (.ishl, 1) := by decide +kernel
theorem dX9_readsClause_190 : decode cX9_readsClause 190 = .ok (.ior, 1) := by decide +kernel
theorem dX9_readsClause_191 : decode cX9_readsClause 191 = .ok (.putfield 175, 3) := by decide +kernel
theorem dX9_readsClause_194 : decode cX9_readsClause 194 = .ok (.iinc 3 1, 3) := by decide +kernel
theorem dX9_readsClause_197 : decode cX9_readsClause 197 = .ok (.goto (-23), 3) := by decide +kernel
theorem dX9_readsClause_200 : decode cX9_readsClause 200 = .ok (.iconst 1, 1) := by decide +kernel
theorem dX9_readsClause_201 : decode cX9_readsClause 201 = .ok (.ireturn, 1) := by decide +kernel
theorem dX9_readsClause_202 : decode cX9_readsClause 202 = .ok (.aload_n 0, 1) := by decide +kernel
theorem dX9_readsClause_203 : decode cX9_readsClause 203 = .ok (.bipush 7, 2) := by decide +kernel
theorem dX9_readsClause_205 : decode cX9_readsClause 205 = .ok (.bipush 7, 2) := by decide +kernel
theorem dX9_readsClause_207 : decode cX9_readsClause 207 = .ok (.invokevirtual 178, 3) := by decide +kernel
theorem dX9_readsClause_210 : decode cX9_readsClause 210 = .ok (.ifCond .ne 5, 3) := by decide +kernel
theorem dX9_readsClause_213 : decode cX9_readsClause 213 = .ok (.iconst 0, 1) := by decide +kernel
theorem dX9_readsClause_214 : decode cX9_readsClause 214 = .ok (.ireturn, 1) := by decide +kernel
theorem dX9_readsClause_215 : decode cX9_readsClause 215 = .ok (.aload_n 0, 1) := by decide +kernel
theorem dX9_readsClause_216 : decode cX9_readsClause 216 = .ok (.aload_n 0, 1) := by decide +kernel
theorem dX9_readsClause_217 : decode cX9_readsClause 217 = .ok (.getfield 161, 3) := by decide +kernel
theorem dX9_readsClause_220 : decode cX9_readsClause 220 = .ok (.putfield 181, 3) := by decide +kernel
theorem dX9_readsClause_223 : decode cX9_readsClause 223 = .ok (.iconst 1, 1) := by decide +kernel
theorem dX9_readsClause_224 : decode cX9_readsClause 224 = .ok (.ireturn, 1) := by decide +kernel
theorem dX9_readsClause_225 : decode cX9_readsClause 225 = .ok (.aload_n 0, 1) := by decide +kernel
theorem dX9_readsClause_226 : decode cX9_readsClause 226 = .ok (.iconst 4, 1) := by decide +kernel
theorem dX9_readsClause_227 : decode cX9_readsClause 227 = .ok (.iconst 4, 1) := by decide +kernel
theorem dX9_readsClause_228 : decode cX9_readsClause 228 = .ok (.invokevirtual 178, 3) := by decide +kernel
theorem dX9_readsClause_231 : decode cX9_readsClause 231 = .ok (.ifCond .ne 5, 3) := by decide +kernel
theorem dX9_readsClause_234 : decode cX9_readsClause 234 = .ok (.iconst 0, 1) := by decide +kernel
theorem dX9_readsClause_235 : decode cX9_readsClause 235 = .ok (.ireturn, 1) := by decide +kernel
theorem dX9_readsClause_236 : decode cX9_readsClause 236 = .ok (.aload_n 0, 1) := by decide +kernel
theorem dX9_readsClause_237 : decode cX9_readsClause 237 = .ok (.aload_n 0, 1) := by decide +kernel
theorem dX9_readsClause_238 : decode cX9_readsClause 238 = .ok (.getfield 161, 3) := by decide +kernel
theorem dX9_readsClause_241 : decode cX9_readsClause 241 = .ok (.putfield 184, 3) := by decide +kernel
theorem dX9_readsClause_244 : decode cX9_readsClause 244 = .ok (.iconst 1, 1) := by decide +kernel
theorem dX9_readsClause_245 : decode cX9_readsClause 245 = .ok (.ireturn, 1) := by decide +kernel
theorem dX9_readsClause_246 : decode cX9_readsClause 246 = .ok (.aload_n 0, 1) := by decide +kernel
theorem dX9_readsClause_247 : decode cX9_readsClause 247 = .ok (.iconst 0, 1) := by decide +kernel
theorem dX9_readsClause_248 : decode cX9_readsClause 248 = .ok (.sipush 999, 3) := by decide +kernel
theorem dX9_readsClause_251 : decode cX9_readsClause 251 = .ok (.invokevirtual 172, 3) := by decide +kernel
theorem dX9_readsClause_254 : decode cX9_readsClause 254 = .ok (.ifCond .ne 5, 3) := by decide +kernel
theorem dX9_readsClause_257 : decode cX9_readsClause 257 = .ok (.iconst 0, 1) := by decide +kernel
theorem dX9_readsClause_258 : decode cX9_readsClause 258 = .ok (.ireturn, 1) := by decide +kernel
theorem dX9_readsClause_259 : decode cX9_readsClause 259 = .ok (.aload_n 0, 1) := by decide +kernel
theorem dX9_readsClause_260 : decode cX9_readsClause 260 = .ok (.aload_n 0, 1) := by decide +kernel
theorem dX9_readsClause_261 : decode cX9_readsClause 261 = .ok (.getfield 161, 3) := by decide +kernel
theorem dX9_readsClause_264 : decode cX9_readsClause 264 = .ok (.putfield 187, 3) := by decide +kernel
theorem dX9_readsClause_267 : decode cX9_readsClause 267 = .ok (.iconst 1, 1) := by decide +kernel
theorem dX9_readsClause_268 : decode cX9_readsClause 268 = .ok (.ireturn, 1) := by decide +kernel
theorem dX9_readsClause_269 : decode cX9_readsClause 269 = .ok (.aload_n 0, 1) := by decide +kernel
theorem dX9_readsClause_270 : decode cX9_readsClause 270 = .ok (.iconst 0, 1) := by decide +kernel
theorem dX9_readsClause_271 : decode cX9_readsClause 271 = .ok (.sipush 9999, 3) := by decide +kernel
theorem dX9_readsClause_274 : decode cX9_readsClause 274 = .ok (.invokevirtual 172, 3) := by decide +kernel
theorem dX9_readsClause_277 : decode cX9_readsClause 277 = .ok (.ifCond .ne 5, 3) := by decide +kernel
theorem dX9_readsClause_280 : decode cX9_readsClause 280 = .ok (.iconst 0, 1) := by decide +kernel
theorem dX9_readsClause_281 : decode cX9_readsClause 281 = .ok (.ireturn, 1) := by decide +kernel
theorem dX9_readsClause_282 : decode cX9_readsClause 282 = .ok (.aload_n 0, 1) := by decide +kernel
theorem dX9_readsClause_283 : decode cX9_readsClause 283 = .ok (.aload_n 0, 1) := by decide +kernel
theorem dX9_readsClause_284 : decode cX9_readsClause 284 = .ok (.getfield 161, 3) := by decide +kernel
theorem dX9_readsClause_287 : decode cX9_readsClause 287 = .ok (.putfield 190, 3) := by decide +kernel
theorem dX9_readsClause_290 : decode cX9_readsClause 290 = .ok (.iconst 1, 1) := by decide +kernel
theorem dX9_readsClause_291 : decode cX9_readsClause 291 = .ok (.ireturn, 1) := by decide +kernel
theorem dX9_readsClause_292 : decode cX9_readsClause 292 = .ok (.aload_n 0, 1) := by decide +kernel
theorem dX9_readsClause_293 : decode cX9_readsClause 293 = .ok (.iconst 0, 1) := by decide +kernel
theorem dX9_readsClause_294 : decode cX9_readsClause 294 = .ok (.bipush 100, 2) := by decide +kernel
theorem dX9_readsClause_296 : decode cX9_readsClause 296 = .ok (.invokevirtual 172, 3) := by decide +kernel
theorem dX9_readsClause_299 : decode cX9_readsClause 299 = .ok (.ifCond .ne 5, 3) := by decide +kernel
theorem dX9_readsClause_302 : decode cX9_readsClause 302 = .ok (.iconst 0, 1) := by decide +kernel
theorem dX9_readsClause_303 : decode cX9_readsClause 303 = .ok (.ireturn, 1) := by decide +kernel
theorem dX9_readsClause_304 : decode cX9_readsClause 304 = .ok (.aload_n 0, 1) := by decide +kernel
theorem dX9_readsClause_305 : decode cX9_readsClause 305 = .ok (.aload_n 0, 1) := by decide +kernel
theorem dX9_readsClause_306 : decode cX9_readsClause 306 = .ok (.getfield 161, 3) := by decide +kernel
theorem dX9_readsClause_309 : decode cX9_readsClause 309 = .ok (.putfield 193, 3) := by decide +kernel
theorem dX9_readsClause_312 : decode cX9_readsClause 312 = .ok (.iconst 1, 1) := by decide +kernel
theorem dX9_readsClause_313 : decode cX9_readsClause 313 = .ok (.ireturn, 1) := by decide +kernel
set_option maxRecDepth 20000 in
theorem ggX9_readsText_X9_readsClause : GoodIn wsX9_readsText wsX9_readsClause := goodIn_r _ [7, 1, 8, 9, 10, 11, 12, 13, 14, 15, 16, 17, 6, 18, 2, 19, 20, 21, 22, 23, 24, 25, 26, 27, 28, 29, 30, 31, 32, 33, 34, 35, 36, 37, 38, 39, 40, 41, 42, 43, 44, 45, 46, 47, 48, 49, 50, 51, 52, 53, 54, 55, 56, 57, 58, 59, 60, 61, 62, 63, 64, 65, 66, 67, 68, 69, 70, 71, 72, 73, 74, 75, 76, 77, 78, 79, 80, 81, 82, 83, 84, 85, 86, 87, 88, 89, 90, 91, 92, 93, 94, 95, 96, 97, 98, 99] (by decide +kernel) (by decide +kernel)
set_option maxRecDepth 20000 in
theorem gX9_readsText_X9_readsClause : GoodIn wsX9_readsText (wsV RX9 196 RX9 yX9_readsClause wsX9_readsClause) := goodIn_app (goodIn_of _ (by decide +kernel)) ggX9_readsText_X9_readsClause
set_option maxRecDepth 20000 in
theorem ggX9_readsText_X9_here : GoodIn wsX9_readsText wsX9_here := goodIn_r _ [18, 1, 2, 19, 37, 38, 39, 40, 41, 42, 43, 44, 45, 46, 47, 48, 49, 50, 51, 52, 53, 54, 55, 56, 57, 58, 59, 60, 61, 62, 63, 64, 65, 66, 67, 68, 69, 70, 71, 72, 73, 74, 75, 76, 77, 78, 79, 80, 81, 82, 83, 84, 85, 86, 87, 88, 89, 90, 91, 92, 93, 94, 95, 96, 97, 98, 99] (by decide +kernel) (by decide +kernel)
set_option maxRecDepth 20000 in
theorem gX9_readsText_X9_here : GoodIn wsX9_readsText (wsV RX9 154 RX9 yX9_here wsX9_here) := goodIn_app (goodIn_of _ (by decide +kernel)) ggX9_readsText_X9_here
set_option maxRecDepth 20000 in
theorem ggX9_readsText_X9_wrong : GoodIn wsX9_readsText wsX9_wrong := goodIn_r _ [23, 24, 37, 38, 39, 40, 41, 42, 43, 44, 45, 46, 47, 48, 49, 50, 51, 52, 53, 54, 55, 56, 57, 58, 59, 60, 61, 62, 63, 64, 65, 66, 67, 68, 69, 70, 71, 72, 73, 74, 75, 76, 77, 78, 79, 80, 81, 82, 83, 84, 85, 86, 87, 88, 89, 90, 91, 92, 93, 94, 95, 96, 97, 98, 99] (by decide +kernel) (by decide +kernel)
set_option maxRecDepth 20000 in
theorem gX9_readsText_X9_wrong : GoodIn wsX9_readsText (wsV RX9 168 RX9 yX9_wrong wsX9_wrong) := goodIn_app (goodIn_of _ (by decide +kernel)) ggX9_readsText_X9_wrong
theorem dX9_readsText_0 : decode cX9_readsText 0 = .ok (.iconst 1, 1) := by decide +kernel
theorem dX9_readsText_1 : decode cX9_readsText 1 = .ok (.istore_n 1, 1) := by decide +kernel
theorem dX9_readsText_2 : decode cX9_readsText 2 = .ok (.iload_n 1, 1) := by decide +kernel
theorem dX9_readsText_3 : decode cX9_readsText 3 = .ok (.ifCond .eq 65, 3) := by decide +kernel
theorem dX9_readsText_6 : decode cX9_readsText 6 = .ok (.aload_n 0, 1) := by decide +kernel
theorem dX9_readsText_7 : decode cX9_readsText 7 = .ok (.invokevirtual 196, 3) := by decide +kernel
theorem dX9_readsText_10 : decode cX9_readsText 10 = .ok (.ifCond .ne 5, 3) := by decide +kernel
theorem dX9_readsText_13 : decode cX9_readsText 13 = .ok (.iconst 0, 1) := by decide +kernel
theorem dX9_readsText_14 : decode cX9_readsText 14 = .ok (.ireturn, 1) := by decide +kernel
theorem dX9_readsText_15 : decode cX9_readsText 15 = .ok (.aload_n 0, 1) := by decide +kernel
theorem dX9_readsText_16 : decode cX9_readsText 16 = .ok (.getfield 148, 3) := by decide +kernel
theorem dX9_readsText_19 : decode cX9_readsText 19 = .ok (.aload_n 0, 1) := by decide +kernel
theorem dX9_readsText_20 : decode cX9_readsText 20 = .ok (.getfield 151, 3) := by decide +kernel
theorem dX9_readsText_23 : decode cX9_readsText 23 = .ok (.if_icmp .ge 7, 3) := by decide +kernel
theorem dX9_readsText_26 : decode cX9_readsText 26 = .ok (.iconst 1, 1) := by decide +kernel
theorem dX9_readsText_27 : decode cX9_readsText 27 = .ok (.goto 4, 3) := by decide +kernel
theorem dX9_readsText_30 : decode cX9_readsText 30 = .ok (.iconst 0, 1) := by decide +kernel
theorem dX9_readsText_31 : decode cX9_readsText 31 = .ok (.istore_n 1, 1) := by decide +kernel
theorem dX9_readsText_32 : decode cX9_readsText 32 = .ok (.iload_n 1, 1) := by decide +kernel
theorem dX9_readsText_33 : decode cX9_readsText 33 = .ok (.ifCond .eq 22, 3) := by decide +kernel
theorem dX9_readsText_36 : decode cX9_readsText 36 = .ok (.aload_n 0, 1) := by decide +kernel
theorem dX9_readsText_37 : decode cX9_readsText 37 = .ok (.invokevirtual 154, 3) := by decide +kernel
theorem dX9_readsText_40 : decode cX9_readsText 40 = .ok (.bipush 59, 2) := by decide +kernel
theorem dX9_readsText_42 : decode cX9_readsText 42 = .ok (.if_icmp .eq 13, 3) := by decide +kernel
theorem dX9_readsText_45 : decode cX9_readsText 45 = .ok (.aload_n 0, 1) := by decide +kernel
theorem dX9_readsText_46 : decode cX9_readsText 46 = .ok (.iconst 1, 1) := by decide +kernel
theorem dX9_readsText_47 : decode cX9_readsText 47 = .ok (.aload_n 0, 1) := by decide +kernel
theorem dX9_readsText_48 : decode cX9_readsText 48 = .ok (.getfield 148, 3) := by decide +kernel
theorem dX9_readsText_51 : decode cX9_readsText 51 = .ok (.invokevirtual 168, 3) := by decide +kernel
theorem dX9_readsText_54 : decode cX9_readsText 54 = .ok (.ireturn, 1) := by decide +kernel
theorem dX9_readsText_55 : decode cX9_readsText 55 = .ok (.aload_n 0, 1) := by decide +kernel
theorem dX9_readsText_56 : decode cX9_readsText 56 = .ok (.aload_n 0, 1) := by decide +kernel
theorem dX9_readsText_57 : decode cX9_readsText 57 = .ok (.getfield 148, 3) := by decide +kernel
theorem dX9_readsText_60 : decode cX9_readsText 60 = .ok (.iconst 1, 1) := by decide +kernel
theorem dX9_readsText_61 : decode cX9_readsText 61 = .ok (.iadd, 1) := by decide +kernel
theorem dX9_readsText_62 : decode cX9_readsText 62 = .ok (.putfield 148, 3) := by decide +kernel
theorem dX9_readsText_65 : decode cX9_readsText 65 = .ok (.goto (-63), 3) := by decide +kernel
theorem dX9_readsText_68 : decode cX9_readsText 68 = .ok (.iconst 1, 1) := by decide +kernel
theorem dX9_readsText_69 : decode cX9_readsText 69 = .ok (.ireturn, 1) := by decide +kernel
set_option maxRecDepth 20000 in
theorem ggX9_rights_X9_readsText : GoodIn wsX9_rights wsX9_readsText := goodIn_r _ [22, 2, 3, 23, 24, 25, 21, 26, 27, 5, 6, 7, 8, 9, 10, 28, 29, 30, 31, 32, 33, 34, 35, 36, 4, 37, 38, 39, 40, 41, 42, 43, 44, 45, 46, 47, 48, 49, 50, 51, 52, 53, 54, 55, 56, 57, 58, 59, 60, 61, 62, 63, 64, 65, 66, 67, 68, 69, 70, 71, 72, 73, 74, 75, 76, 77, 78, 79, 80, 81, 82, 83, 84, 85, 86, 87, 88, 89, 90, 91, 92, 93, 94, 95, 96, 97, 98, 99, 100, 101, 102, 103, 104, 105, 106, 107, 108, 109, 110, 111] (by decide +kernel) (by decide +kernel)
set_option maxRecDepth 20000 in
theorem gX9_rights_X9_readsText : GoodIn wsX9_rights (wsV RX9 199 RX9 yX9_readsText wsX9_readsText) := goodIn_app (goodIn_of _ (by decide +kernel)) ggX9_rights_X9_readsText
theorem dX9_rights_0 : decode cX9_rights 0 = .ok (.iload_n 1, 1) := by decide +kernel
theorem dX9_rights_1 : decode cX9_rights 1 = .ok (.ifCond .lt 21, 3) := by decide +kernel
theorem dX9_rights_4 : decode cX9_rights 4 = .ok (.iload_n 1, 1) := by decide +kernel
theorem dX9_rights_5 : decode cX9_rights 5 = .ok (.bipush 6, 2) := by decide +kernel
theorem dX9_rights_7 : decode cX9_rights 7 = .ok (.if_icmp .ge 15, 3) := by decide +kernel
theorem dX9_rights_10 : decode cX9_rights 10 = .ok (.iload_n 2, 1) := by decide +kernel
theorem dX9_rights_11 : decode cX9_rights 11 = .ok (.ifCond .lt 11, 3) := by decide +kernel
theorem dX9_rights_14 : decode cX9_rights 14 = .ok (.iload_n 2, 1) := by decide +kernel
theorem dX9_rights_15 : decode cX9_rights 15 = .ok (.aload_n 0, 1) := by decide +kernel
theorem dX9_rights_16 : decode cX9_rights 16 = .ok (.getfield 141, 3) := by decide +kernel
theorem dX9_rights_19 : decode cX9_rights 19 = .ok (.if_icmp .le 5, 3) := by decide +kernel
theorem dX9_rights_22 : decode cX9_rights 22 = .ok (.iconst (-1), 1) := by decide +kernel
theorem dX9_rights_23 : decode cX9_rights 23 = .ok (.ireturn, 1) := by decide +kernel
theorem dX9_rights_24 : decode cX9_rights 24 = .ok (.aload_n 0, 1) := by decide +kernel
theorem dX9_rights_25 : decode cX9_rights 25 = .ok (.iconst 0, 1) := by decide +kernel
theorem dX9_rights_26 : decode cX9_rights 26 = .ok (.putfield 148, 3) := by decide +kernel
theorem dX9_rights_29 : decode cX9_rights 29 = .ok (.aload_n 0, 1) := by decide +kernel
theorem dX9_rights_30 : decode cX9_rights 30 = .ok (.iload_n 2, 1) := by decide +kernel
theorem dX9_rights_31 : decode cX9_rights 31 = .ok (.putfield 151, 3) := by decide +kernel
theorem dX9_rights_34 : decode cX9_rights 34 = .ok (.aload_n 0, 1) := by decide +kernel
theorem dX9_rights_35 : decode cX9_rights 35 = .ok (.iconst 0, 1) := by decide +kernel
theorem dX9_rights_36 : decode cX9_rights 36 = .ok (.putfield 158, 3) := by decide +kernel
theorem dX9_rights_39 : decode cX9_rights 39 = .ok (.aload_n 0, 1) := by decide +kernel
theorem dX9_rights_40 : decode cX9_rights 40 = .ok (.iconst 0, 1) := by decide +kernel
theorem dX9_rights_41 : decode cX9_rights 41 = .ok (.putfield 175, 3) := by decide +kernel
theorem dX9_rights_44 : decode cX9_rights 44 = .ok (.aload_n 0, 1) := by decide +kernel
theorem dX9_rights_45 : decode cX9_rights 45 = .ok (.bipush 127, 2) := by decide +kernel
theorem dX9_rights_47 : decode cX9_rights 47 = .ok (.putfield 181, 3) := by decide +kernel
theorem dX9_rights_50 : decode cX9_rights 50 = .ok (.aload_n 0, 1) := by decide +kernel
theorem dX9_rights_51 : decode cX9_rights 51 = .ok (.bipush 15, 2) := by decide +kernel
theorem dX9_rights_53 : decode cX9_rights 53 = .ok (.putfield 184, 3) := by decide +kernel
theorem dX9_rights_56 : decode cX9_rights 56 = .ok (.aload_n 0, 1) := by decide +kernel
theorem dX9_rights_57 : decode cX9_rights 57 = .ok (.sipush 168, 3) := by decide +kernel
theorem dX9_rights_60 : decode cX9_rights 60 = .ok (.putfield 187, 3) := by decide +kernel
theorem dX9_rights_63 : decode cX9_rights 63 = .ok (.aload_n 0, 1) := by decide +kernel
theorem dX9_rights_64 : decode cX9_rights 64 = .ok (.bipush 100, 2) := by decide +kernel
theorem dX9_rights_66 : decode cX9_rights 66 = .ok (.putfield 190, 3) := by decide +kernel
theorem dX9_rights_69 : decode cX9_rights 69 = .ok (.aload_n 0, 1) := by decide +kernel
theorem dX9_rights_70 : decode cX9_rights 70 = .ok (.bipush 50, 2) := by decide +kernel
theorem dX9_rights_72 : decode cX9_rights 72 = .ok (.putfield 193, 3) := by decide +kernel
theorem dX9_rights_75 : decode cX9_rights 75 = .ok (.aload_n 0, 1) := by decide +kernel
theorem dX9_rights_76 : decode cX9_rights 76 = .ok (.invokevirtual 199, 3) := by decide +kernel
theorem dX9_rights_79 : decode cX9_rights 79 = .ok (.istore_n 3, 1) := by decide +kernel
theorem dX9_rights_80 : decode cX9_rights 80 = .ok (.aload_n 0, 1) := by decide +kernel
theorem dX9_rights_81 : decode cX9_rights 81 = .ok (.iconst 0, 1) := by decide +kernel
theorem dX9_rights_82 : decode cX9_rights 82 = .ok (.putfield 141, 3) := by decide +kernel
theorem dX9_rights_85 : decode cX9_rights 85 = .ok (.iload_n 3, 1) := by decide +kernel
theorem dX9_rights_86 : decode cX9_rights 86 = .ok (.ifCond .ne 8, 3) := by decide +kernel
theorem dX9_rights_89 : decode cX9_rights 89 = .ok (.aload_n 0, 1) := by decide +kernel
theorem dX9_rights_90 : decode cX9_rights 90 = .ok (.getfield 158, 3) := by decide +kernel
theorem dX9_rights_93 : decode cX9_rights 93 = .ok (.ireturn, 1) := by decide +kernel
theorem dX9_rights_94 : decode cX9_rights 94 = .ok (.aload_n 0, 1) := by decide +kernel
theorem dX9_rights_95 : decode cX9_rights 95 = .ok (.getfield 13, 3) := by decide +kernel
theorem dX9_rights_98 : decode cX9_rights 98 = .ok (.iload_n 1, 1) := by decide +kernel
theorem dX9_rights_99 : decode cX9_rights 99 = .ok (.aload_n 0, 1) := by decide +kernel
theorem dX9_rights_100 : decode cX9_rights 100 = .ok (.getfield 175, 3) := by decide +kernel
theorem dX9_rights_103 : decode cX9_rights 103 = .ok (.ifCond .ne 8, 3) := by decide +kernel
theorem dX9_rights_106 : decode cX9_rights 106 = .ok (.ldc 140, 2) := by decide +kernel
theorem dX9_rights_108 : decode cX9_rights 108 = .ok (.goto 7, 3) := by decide +kernel
theorem dX9_rights_111 : decode cX9_rights 111 = .ok (.aload_n 0, 1) := by decide +kernel
theorem dX9_rights_112 : decode cX9_rights 112 = .ok (.getfield 175, 3) := by decide +kernel
theorem dX9_rights_115 : decode cX9_rights 115 = .ok (.iastore, 1) := by decide +kernel
theorem dX9_rights_116 : decode cX9_rights 116 = .ok (.aload_n 0, 1) := by decide +kernel
theorem dX9_rights_117 : decode cX9_rights 117 = .ok (.getfield 17, 3) := by decide +kernel
theorem dX9_rights_120 : decode cX9_rights 120 = .ok (.iload_n 1, 1) := by decide +kernel
theorem dX9_rights_121 : decode cX9_rights 121 = .ok (.aload_n 0, 1) := by decide +kernel
theorem dX9_rights_122 : decode cX9_rights 122 = .ok (.getfield 181, 3) := by decide +kernel
theorem dX9_rights_125 : decode cX9_rights 125 = .ok (.iastore, 1) := by decide +kernel
theorem dX9_rights_126 : decode cX9_rights 126 = .ok (.aload_n 0, 1) := by decide +kernel
theorem dX9_rights_127 : decode cX9_rights 127 = .ok (.getfield 20, 3) := by decide +kernel
theorem dX9_rights_130 : decode cX9_rights 130 = .ok (.iload_n 1, 1) := by decide +kernel
theorem dX9_rights_131 : decode cX9_rights 131 = .ok (.aload_n 0, 1) := by decide +kernel
theorem dX9_rights_132 : decode cX9_rights 132 = .ok (.getfield 184, 3) := by decide +kernel
theorem dX9_rights_135 : decode cX9_rights 135 = .ok (.iastore, 1) := by decide +kernel
theorem dX9_rights_136 : decode cX9_rights 136 = .ok (.aload_n 0, 1) := by decide +kernel
theorem dX9_rights_137 : decode cX9_rights 137 = .ok (.getfield 23, 3) := by decide +kernel
theorem dX9_rights_140 : decode cX9_rights 140 = .ok (.iload_n 1, 1) := by decide +kernel
theorem dX9_rights_141 : decode cX9_rights 141 = .ok (.aload_n 0, 1) := by decide +kernel
theorem dX9_rights_142 : decode cX9_rights 142 = .ok (.getfield 187, 3) := by decide +kernel
theorem dX9_rights_145 : decode cX9_rights 145 = .ok (.iastore, 1) := by decide +kernel
theorem dX9_rights_146 : decode cX9_rights 146 = .ok (.aload_n 0, 1) := by decide +kernel
theorem dX9_rights_147 : decode cX9_rights 147 = .ok (.getfield 26, 3) := by decide +kernel
theorem dX9_rights_150 : decode cX9_rights 150 = .ok (.iload_n 1, 1) := by decide +kernel
theorem dX9_rights_151 : decode cX9_rights 151 = .ok (.aload_n 0, 1) := by decide +kernel
theorem dX9_rights_152 : decode cX9_rights 152 = .ok (.getfield 190, 3) := by decide +kernel
theorem dX9_rights_155 : decode cX9_rights 155 = .ok (.iastore, 1) := by decide +kernel
theorem dX9_rights_156 : decode cX9_rights 156 = .ok (.aload_n 0, 1) := by decide +kernel
theorem dX9_rights_157 : decode cX9_rights 157 = .ok (.getfield 29, 3) := by decide +kernel
theorem dX9_rights_160 : decode cX9_rights 160 = .ok (.iload_n 1, 1) := by decide +kernel
theorem dX9_rights_161 : decode cX9_rights 161 = .ok (.aload_n 0, 1) := by decide +kernel
theorem dX9_rights_162 : decode cX9_rights 162 = .ok (.getfield 193, 3) := by decide +kernel
theorem dX9_rights_165 : decode cX9_rights 165 = .ok (.iastore, 1) := by decide +kernel
theorem dX9_rights_166 : decode cX9_rights 166 = .ok (.iconst 0, 1) := by decide +kernel
theorem dX9_rights_167 : decode cX9_rights 167 = .ok (.ireturn, 1) := by decide +kernel
theorem dX9_most_0 : decode cX9_most 0 = .ok (.iload_n 1, 1) := by decide +kernel
theorem dX9_most_1 : decode cX9_most 1 = .ok (.iconst 1, 1) := by decide +kernel
theorem dX9_most_2 : decode cX9_most 2 = .ok (.if_icmp .lt 10, 3) := by decide +kernel
theorem dX9_most_5 : decode cX9_most 5 = .ok (.iload_n 1, 1) := by decide +kernel
theorem dX9_most_6 : decode cX9_most 6 = .ok (.sipush 2000, 3) := by decide +kernel
theorem dX9_most_9 : decode cX9_most 9 = .ok (.if_icmp .le 5, 3) := by decide +kernel
theorem dX9_most_12 : decode cX9_most 12 = .ok (.iconst 0, 1) := by decide +kernel
theorem dX9_most_13 : decode cX9_most 13 = .ok (.ireturn, 1) := by decide +kernel
theorem dX9_most_14 : decode cX9_most 14 = .ok (.aload_n 0, 1) := by decide +kernel
theorem dX9_most_15 : decode cX9_most 15 = .ok (.iload_n 1, 1) := by decide +kernel
theorem dX9_most_16 : decode cX9_most 16 = .ok (.putfield 36, 3) := by decide +kernel
theorem dX9_most_19 : decode cX9_most 19 = .ok (.iconst 1, 1) := by decide +kernel
theorem dX9_most_20 : decode cX9_most 20 = .ok (.ireturn, 1) := by decide +kernel
theorem dX9_compressors_0 : decode cX9_compressors 0 = .ok (.iload_n 1, 1) := by decide +kernel
theorem dX9_compressors_1 : decode cX9_compressors 1 = .ok (.ifCond .lt 8, 3) := by decide +kernel
theorem dX9_compressors_4 : decode cX9_compressors 4 = .ok (.iload_n 1, 1) := by decide +kernel
theorem dX9_compressors_5 : decode cX9_compressors 5 = .ok (.iconst 3, 1) := by decide +kernel
theorem dX9_compressors_6 : decode cX9_compressors 6 = .ok (.if_icmp .le 5, 3) := by decide +kernel
theorem dX9_compressors_9 : decode cX9_compressors 9 = .ok (.iconst 0, 1) := by decide +kernel
theorem dX9_compressors_10 : decode cX9_compressors 10 = .ok (.ireturn, 1) := by decide +kernel
theorem dX9_compressors_11 : decode cX9_compressors 11 = .ok (.aload_n 0, 1) := by decide +kernel
theorem dX9_compressors_12 : decode cX9_compressors 12 = .ok (.iload_n 1, 1) := by decide +kernel
theorem dX9_compressors_13 : decode cX9_compressors 13 = .ok (.putfield 39, 3) := by decide +kernel
theorem dX9_compressors_16 : decode cX9_compressors 16 = .ok (.iconst 1, 1) := by decide +kernel
theorem dX9_compressors_17 : decode cX9_compressors 17 = .ok (.ireturn, 1) := by decide +kernel
theorem dX9_price_0 : decode cX9_price 0 = .ok (.iload_n 1, 1) := by decide +kernel
theorem dX9_price_1 : decode cX9_price 1 = .ok (.ifCond .lt 19, 3) := by decide +kernel
theorem dX9_price_4 : decode cX9_price 4 = .ok (.iload_n 1, 1) := by decide +kernel
theorem dX9_price_5 : decode cX9_price 5 = .ok (.bipush 23, 2) := by decide +kernel
theorem dX9_price_7 : decode cX9_price 7 = .ok (.if_icmp .gt 13, 3) := by decide +kernel
theorem dX9_price_10 : decode cX9_price 10 = .ok (.iload_n 2, 1) := by decide +kernel
theorem dX9_price_11 : decode cX9_price 11 = .ok (.ifCond .lt 9, 3) := by decide +kernel
theorem dX9_price_14 : decode cX9_price 14 = .ok (.iload_n 2, 1) := by decide +kernel
theorem dX9_price_15 : decode cX9_price 15 = .ok (.bipush 99, 2) := by decide +kernel
theorem dX9_price_17 : decode cX9_price 17 = .ok (.if_icmp .le 5, 3) := by decide +kernel
theorem dX9_price_20 : decode cX9_price 20 = .ok (.iconst 0, 1) := by decide +kernel
theorem dX9_price_21 : decode cX9_price 21 = .ok (.ireturn, 1) := by decide +kernel
theorem dX9_price_22 : decode cX9_price 22 = .ok (.aload_n 0, 1) := by decide +kernel
theorem dX9_price_23 : decode cX9_price 23 = .ok (.getfield 45, 3) := by decide +kernel
theorem dX9_price_26 : decode cX9_price 26 = .ok (.iload_n 1, 1) := by decide +kernel
theorem dX9_price_27 : decode cX9_price 27 = .ok (.iload_n 2, 1) := by decide +kernel
theorem dX9_price_28 : decode cX9_price 28 = .ok (.iastore, 1) := by decide +kernel
theorem dX9_price_29 : decode cX9_price 29 = .ok (.iconst 1, 1) := by decide +kernel
theorem dX9_price_30 : decode cX9_price 30 = .ok (.ireturn, 1) := by decide +kernel
theorem dX9_rest_0 : decode cX9_rest 0 = .ok (.iload_n 1, 1) := by decide +kernel
theorem dX9_rest_1 : decode cX9_rest 1 = .ok (.iconst 1, 1) := by decide +kernel
theorem dX9_rest_2 : decode cX9_rest 2 = .ok (.if_icmp .lt 9, 3) := by decide +kernel
theorem dX9_rest_5 : decode cX9_rest 5 = .ok (.iload_n 1, 1) := by decide +kernel
theorem dX9_rest_6 : decode cX9_rest 6 = .ok (.bipush 12, 2) := by decide +kernel
theorem dX9_rest_8 : decode cX9_rest 8 = .ok (.if_icmp .le 5, 3) := by decide +kernel
theorem dX9_rest_11 : decode cX9_rest 11 = .ok (.iconst 0, 1) := by decide +kernel
theorem dX9_rest_12 : decode cX9_rest 12 = .ok (.ireturn, 1) := by decide +kernel
theorem dX9_rest_13 : decode cX9_rest 13 = .ok (.aload_n 0, 1) := by decide +kernel
theorem dX9_rest_14 : decode cX9_rest 14 = .ok (.iload_n 1, 1) := by decide +kernel
theorem dX9_rest_15 : decode cX9_rest 15 = .ok (.putfield 42, 3) := by decide +kernel
theorem dX9_rest_18 : decode cX9_rest 18 = .ok (.iconst 1, 1) := by decide +kernel
theorem dX9_rest_19 : decode cX9_rest 19 = .ok (.ireturn, 1) := by decide +kernel
theorem dX9_rutsOf_0 : decode cX9_rutsOf 0 = .ok (.iload_n 0, 1) := by decide +kernel
theorem dX9_rutsOf_1 : decode cX9_rutsOf 1 = .ok (.ifCond .ne 8, 3) := by decide +kernel
theorem dX9_rutsOf_4 : decode cX9_rutsOf 4 = .ok (.bipush 10, 2) := by decide +kernel
theorem dX9_rutsOf_6 : decode cX9_rutsOf 6 = .ok (.goto 24, 3) := by decide +kernel
theorem dX9_rutsOf_9 : decode cX9_rutsOf 9 = .ok (.iload_n 0, 1) := by decide +kernel
theorem dX9_rutsOf_10 : decode cX9_rutsOf 10 = .ok (.iconst 1, 1) := by decide +kernel
theorem dX9_rutsOf_11 : decode cX9_rutsOf 11 = .ok (.if_icmp .ne 8, 3) := by decide +kernel
theorem dX9_rutsOf_14 : decode cX9_rutsOf 14 = .ok (.bipush 30, 2) := by decide +kernel
theorem dX9_rutsOf_16 : decode cX9_rutsOf 16 = .ok (.goto 14, 3) := by decide +kernel
theorem dX9_rutsOf_19 : decode cX9_rutsOf 19 = .ok (.iload_n 0, 1) := by decide +kernel
theorem dX9_rutsOf_20 : decode cX9_rutsOf 20 = .ok (.iconst 2, 1) := by decide +kernel
theorem dX9_rutsOf_21 : decode cX9_rutsOf 21 = .ok (.if_icmp .ne 8, 3) := by decide +kernel
theorem dX9_rutsOf_24 : decode cX9_rutsOf 24 = .ok (.bipush 20, 2) := by decide +kernel
theorem dX9_rutsOf_26 : decode cX9_rutsOf 26 = .ok (.goto 4, 3) := by decide +kernel
theorem dX9_rutsOf_29 : decode cX9_rutsOf 29 = .ok (.iconst 5, 1) := by decide +kernel
theorem dX9_rutsOf_30 : decode cX9_rutsOf 30 = .ok (.ireturn, 1) := by decide +kernel
theorem dX9_heatOf_0 : decode cX9_heatOf 0 = .ok (.iload_n 0, 1) := by decide +kernel
theorem dX9_heatOf_1 : decode cX9_heatOf 1 = .ok (.ifCond .ne 7, 3) := by decide +kernel
theorem dX9_heatOf_4 : decode cX9_heatOf 4 = .ok (.iconst 4, 1) := by decide +kernel
theorem dX9_heatOf_5 : decode cX9_heatOf 5 = .ok (.goto 24, 3) := by decide +kernel
theorem dX9_heatOf_8 : decode cX9_heatOf 8 = .ok (.iload_n 0, 1) := by decide +kernel
theorem dX9_heatOf_9 : decode cX9_heatOf 9 = .ok (.iconst 1, 1) := by decide +kernel
theorem dX9_heatOf_10 : decode cX9_heatOf 10 = .ok (.if_icmp .ne 8, 3) := by decide +kernel
theorem dX9_heatOf_13 : decode cX9_heatOf 13 = .ok (.bipush 9, 2) := by decide +kernel
theorem dX9_heatOf_15 : decode cX9_heatOf 15 = .ok (.goto 14, 3) := by decide +kernel
theorem dX9_heatOf_18 : decode cX9_heatOf 18 = .ok (.iload_n 0, 1) := by decide +kernel
theorem dX9_heatOf_19 : decode cX9_heatOf 19 = .ok (.iconst 2, 1) := by decide +kernel
theorem dX9_heatOf_20 : decode cX9_heatOf 20 = .ok (.if_icmp .ne 8, 3) := by decide +kernel
theorem dX9_heatOf_23 : decode cX9_heatOf 23 = .ok (.bipush 6, 2) := by decide +kernel
theorem dX9_heatOf_25 : decode cX9_heatOf 25 = .ok (.goto 4, 3) := by decide +kernel
theorem dX9_heatOf_28 : decode cX9_heatOf 28 = .ok (.iconst 2, 1) := by decide +kernel
theorem dX9_heatOf_29 : decode cX9_heatOf 29 = .ok (.ireturn, 1) := by decide +kernel
theorem dX9_isClub_0 : decode cX9_isClub 0 = .ok (.iload_n 0, 1) := by decide +kernel
theorem dX9_isClub_1 : decode cX9_isClub 1 = .ok (.ifCond .lt 13, 3) := by decide +kernel
theorem dX9_isClub_4 : decode cX9_isClub 4 = .ok (.iload_n 0, 1) := by decide +kernel
theorem dX9_isClub_5 : decode cX9_isClub 5 = .ok (.bipush 6, 2) := by decide +kernel
theorem dX9_isClub_7 : decode cX9_isClub 7 = .ok (.if_icmp .ge 7, 3) := by decide +kernel
theorem dX9_isClub_10 : decode cX9_isClub 10 = .ok (.iconst 1, 1) := by decide +kernel
theorem dX9_isClub_11 : decode cX9_isClub 11 = .ok (.goto 4, 3) := by decide +kernel
theorem dX9_isClub_14 : decode cX9_isClub 14 = .ok (.iconst 0, 1) := by decide +kernel
theorem dX9_isClub_15 : decode cX9_isClub 15 = .ok (.ireturn, 1) := by decide +kernel
theorem dX9_isSheet_0 : decode cX9_isSheet 0 = .ok (.iload_n 0, 1) := by decide +kernel
theorem dX9_isSheet_1 : decode cX9_isSheet 1 = .ok (.ifCond .lt 12, 3) := by decide +kernel
theorem dX9_isSheet_4 : decode cX9_isSheet 4 = .ok (.iload_n 0, 1) := by decide +kernel
theorem dX9_isSheet_5 : decode cX9_isSheet 5 = .ok (.iconst 2, 1) := by decide +kernel
theorem dX9_isSheet_6 : decode cX9_isSheet 6 = .ok (.if_icmp .ge 7, 3) := by decide +kernel
theorem dX9_isSheet_9 : decode cX9_isSheet 9 = .ok (.iconst 1, 1) := by decide +kernel
theorem dX9_isSheet_10 : decode cX9_isSheet 10 = .ok (.goto 4, 3) := by decide +kernel
theorem dX9_isSheet_13 : decode cX9_isSheet 13 = .ok (.iconst 0, 1) := by decide +kernel
theorem dX9_isSheet_14 : decode cX9_isSheet 14 = .ok (.ireturn, 1) := by decide +kernel
end
section
theorem dX9_isClosed_0 : decode cX9_isClosed 0 = .ok (.iconst 0, 1) := by decide +kernel
theorem dX9_isClosed_1 : decode cX9_isClosed 1 = .ok (.istore_n 3, 1) := by decide +kernel
theorem dX9_isClosed_2 : decode cX9_isClosed 2 = .ok (.iload_n 3, 1) := by decide +kernel
theorem dX9_isClosed_3 : decode cX9_isClosed 3 = .ok (.aload_n 0, 1) := by decide +kernel
theorem dX9_isClosed_4 : decode cX9_isClosed 4 = .ok (.getfield 202, 3) := by decide +kernel
theorem dX9_isClosed_7 : decode cX9_isClosed 7 = .ok (.if_icmp .ge 41, 3) := by decide +kernel
theorem dX9_isClosed_10 : decode cX9_isClosed 10 = .ok (.aload_n 0, 1) := by decide +kernel
theorem dX9_isClosed_11 : decode cX9_isClosed 11 = .ok (.getfield 100, 3) := by decide +kernel
theorem dX9_isClosed_14 : decode cX9_isClosed 14 = .ok (.iload_n 3, 1) := by decide +kernel
theorem dX9_isClosed_15 : decode cX9_isClosed 15 = .ok (.iaload, 1) := by decide +kernel
theorem dX9_isClosed_16 : decode cX9_isClosed 16 = .ok (.iload_n 1, 1) := by decide +kernel
theorem dX9_isClosed_17 : decode cX9_isClosed 17 = .ok (.if_icmp .ne 25, 3) := by decide +kernel
theorem dX9_isClosed_20 : decode cX9_isClosed 20 = .ok (.iload_n 2, 1) := by decide +kernel
theorem dX9_isClosed_21 : decode cX9_isClosed 21 = .ok (.aload_n 0, 1) := by decide +kernel
theorem dX9_isClosed_22 : decode cX9_isClosed 22 = .ok (.getfield 103, 3) := by decide +kernel
theorem dX9_isClosed_25 : decode cX9_isClosed 25 = .ok (.iload_n 3, 1) := by decide +kernel
theorem dX9_isClosed_26 : decode cX9_isClosed 26 = .ok (.iaload, 1) := by decide +kernel
theorem dX9_isClosed_27 : decode cX9_isClosed 27 = .ok (.if_icmp .lt 15, 3) := by decide +kernel
theorem dX9_isClosed_30 : decode cX9_isClosed 30 = .ok (.iload_n 2, 1) := by decide +kernel
theorem dX9_isClosed_31 : decode cX9_isClosed 31 = .ok (.aload_n 0, 1) := by decide +kernel
theorem dX9_isClosed_32 : decode cX9_isClosed 32 = .ok (.getfield 106, 3) := by decide +kernel
theorem dX9_isClosed_35 : decode cX9_isClosed 35 = .ok (.iload_n 3, 1) := by decide +kernel
theorem dX9_isClosed_36 : decode cX9_isClosed 36 = .ok (.iaload, 1) := by decide +kernel
theorem dX9_isClosed_37 : decode cX9_isClosed 37 = .ok (.if_icmp .ge 5, 3) := by decide +kernel
theorem dX9_isClosed_40 : decode cX9_isClosed 40 = .ok (.iconst 1, 1) := by decide +kernel
theorem dX9_isClosed_41 : decode cX9_isClosed 41 = .ok (.ireturn, 1) := by decide +kernel
theorem dX9_isClosed_42 : decode cX9_isClosed 42 = .ok (.iinc 3 1, 3) := by decide +kernel
theorem dX9_isClosed_45 : decode cX9_isClosed 45 = .ok (.goto (-43), 3) := by decide +kernel
theorem dX9_isClosed_48 : decode cX9_isClosed 48 = .ok (.iconst 0, 1) := by decide +kernel
theorem dX9_isClosed_49 : decode cX9_isClosed 49 = .ok (.ireturn, 1) := by decide +kernel
theorem dX9_standing_0 : decode cX9_standing 0 = .ok (.iconst 0, 1) := by decide +kernel
theorem dX9_standing_1 : decode cX9_standing 1 = .ok (.istore_n 3, 1) := by decide +kernel
theorem dX9_standing_2 : decode cX9_standing 2 = .ok (.iload_n 3, 1) := by decide +kernel
theorem dX9_standing_3 : decode cX9_standing 3 = .ok (.aload_n 0, 1) := by decide +kernel
theorem dX9_standing_4 : decode cX9_standing 4 = .ok (.getfield 205, 3) := by decide +kernel
theorem dX9_standing_7 : decode cX9_standing 7 = .ok (.if_icmp .ge 41, 3) := by decide +kernel
theorem dX9_standing_10 : decode cX9_standing 10 = .ok (.aload_n 0, 1) := by decide +kernel
theorem dX9_standing_11 : decode cX9_standing 11 = .ok (.getfield 85, 3) := by decide +kernel
theorem dX9_standing_14 : decode cX9_standing 14 = .ok (.iload_n 3, 1) := by decide +kernel
theorem dX9_standing_15 : decode cX9_standing 15 = .ok (.iaload, 1) := by decide +kernel
theorem dX9_standing_16 : decode cX9_standing 16 = .ok (.iconst 2, 1) := by decide +kernel
theorem dX9_standing_17 : decode cX9_standing 17 = .ok (.if_icmp .gt 25, 3) := by decide +kernel
theorem dX9_standing_20 : decode cX9_standing 20 = .ok (.aload_n 0, 1) := by decide +kernel
theorem dX9_standing_21 : decode cX9_standing 21 = .ok (.getfield 79, 3) := by decide +kernel
theorem dX9_standing_24 : decode cX9_standing 24 = .ok (.iload_n 3, 1) := by decide +kernel
theorem dX9_standing_25 : decode cX9_standing 25 = .ok (.iaload, 1) := by decide +kernel
theorem dX9_standing_26 : decode cX9_standing 26 = .ok (.iload_n 1, 1) := by decide +kernel
theorem dX9_standing_27 : decode cX9_standing 27 = .ok (.if_icmp .ne 15, 3) := by decide +kernel
theorem dX9_standing_30 : decode cX9_standing 30 = .ok (.aload_n 0, 1) := by decide +kernel
theorem dX9_standing_31 : decode cX9_standing 31 = .ok (.getfield 82, 3) := by decide +kernel
theorem dX9_standing_34 : decode cX9_standing 34 = .ok (.iload_n 3, 1) := by decide +kernel
theorem dX9_standing_35 : decode cX9_standing 35 = .ok (.iaload, 1) := by decide +kernel
theorem dX9_standing_36 : decode cX9_standing 36 = .ok (.iload_n 2, 1) := by decide +kernel
theorem dX9_standing_37 : decode cX9_standing 37 = .ok (.if_icmp .ne 5, 3) := by decide +kernel
theorem dX9_standing_40 : decode cX9_standing 40 = .ok (.iload_n 3, 1) := by decide +kernel
theorem dX9_standing_41 : decode cX9_standing 41 = .ok (.ireturn, 1) := by decide +kernel
theorem dX9_standing_42 : decode cX9_standing 42 = .ok (.iinc 3 1, 3) := by decide +kernel
theorem dX9_standing_45 : decode cX9_standing 45 = .ok (.goto (-43), 3) := by decide +kernel
theorem dX9_standing_48 : decode cX9_standing 48 = .ok (.iconst (-1), 1) := by decide +kernel
theorem dX9_standing_49 : decode cX9_standing 49 = .ok (.ireturn, 1) := by decide +kernel
set_option maxRecDepth 20000 in
theorem ggX9_inRow_X9_standing : GoodIn wsX9_inRow wsX9_standing := goodIn_r _ [5, 6, 7, 8, 9, 10, 11, 12, 13, 14, 15, 16, 17, 18, 19, 20, 21, 22, 23, 24, 25, 26, 27, 28, 29, 30, 31, 32, 33, 34, 35, 36, 37, 38, 39, 40, 41, 42, 43, 44, 45, 46, 47, 48, 49, 50, 51, 52, 53, 54, 55, 56, 57, 58, 59, 60, 61, 62, 63, 64, 65, 66, 67, 68, 69, 70, 71, 72] (by decide +kernel) (by decide +kernel)
set_option maxRecDepth 20000 in
theorem gX9_inRow_X9_standing : GoodIn wsX9_inRow (wsV RX9 208 RX9 yX9_standing wsX9_standing) := goodIn_app (goodIn_of _ (by decide +kernel)) ggX9_inRow_X9_standing
theorem dX9_inRow_0 : decode cX9_inRow 0 = .ok (.iconst 1, 1) := by decide +kernel
theorem dX9_inRow_1 : decode cX9_inRow 1 = .ok (.istore_n 3, 1) := by decide +kernel
theorem dX9_inRow_2 : decode cX9_inRow 2 = .ok (.iload_n 2, 1) := by decide +kernel
theorem dX9_inRow_3 : decode cX9_inRow 3 = .ok (.iconst 1, 1) := by decide +kernel
theorem dX9_inRow_4 : decode cX9_inRow 4 = .ok (.isub, 1) := by decide +kernel
theorem dX9_inRow_5 : decode cX9_inRow 5 = .ok (.istore 4, 2) := by decide +kernel
theorem dX9_inRow_7 : decode cX9_inRow 7 = .ok (.aload_n 0, 1) := by decide +kernel
theorem dX9_inRow_8 : decode cX9_inRow 8 = .ok (.iload_n 1, 1) := by decide +kernel
theorem dX9_inRow_9 : decode cX9_inRow 9 = .ok (.iload 4, 2) := by decide +kernel
theorem dX9_inRow_11 : decode cX9_inRow 11 = .ok (.invokevirtual 208, 3) := by decide +kernel
theorem dX9_inRow_14 : decode cX9_inRow 14 = .ok (.iconst (-1), 1) := by decide +kernel
theorem dX9_inRow_15 : decode cX9_inRow 15 = .ok (.if_icmp .eq 16, 3) := by decide +kernel
theorem dX9_inRow_18 : decode cX9_inRow 18 = .ok (.iload_n 3, 1) := by decide +kernel
theorem dX9_inRow_19 : decode cX9_inRow 19 = .ok (.iconst 1, 1) := by decide +kernel
theorem dX9_inRow_20 : decode cX9_inRow 20 = .ok (.iadd, 1) := by decide +kernel
theorem dX9_inRow_21 : decode cX9_inRow 21 = .ok (.istore_n 3, 1) := by decide +kernel
theorem dX9_inRow_22 : decode cX9_inRow 22 = .ok (.iload 4, 2) := by decide +kernel
theorem dX9_inRow_24 : decode cX9_inRow 24 = .ok (.iconst 1, 1) := by decide +kernel
theorem dX9_inRow_25 : decode cX9_inRow 25 = .ok (.isub, 1) := by decide +kernel
theorem dX9_inRow_26 : decode cX9_inRow 26 = .ok (.istore 4, 2) := by decide +kernel
theorem dX9_inRow_28 : decode cX9_inRow 28 = .ok (.goto (-21), 3) := by decide +kernel
theorem dX9_inRow_31 : decode cX9_inRow 31 = .ok (.iload_n 2, 1) := by decide +kernel
theorem dX9_inRow_32 : decode cX9_inRow 32 = .ok (.iconst 1, 1) := by decide +kernel
theorem dX9_inRow_33 : decode cX9_inRow 33 = .ok (.iadd, 1) := by decide +kernel
theorem dX9_inRow_34 : decode cX9_inRow 34 = .ok (.istore 4, 2) := by decide +kernel
theorem dX9_inRow_36 : decode cX9_inRow 36 = .ok (.aload_n 0, 1) := by decide +kernel
theorem dX9_inRow_37 : decode cX9_inRow 37 = .ok (.iload_n 1, 1) := by decide +kernel
theorem dX9_inRow_38 : decode cX9_inRow 38 = .ok (.iload 4, 2) := by decide +kernel
theorem dX9_inRow_40 : decode cX9_inRow 40 = .ok (.invokevirtual 208, 3) := by decide +kernel
theorem dX9_inRow_43 : decode cX9_inRow 43 = .ok (.iconst (-1), 1) := by decide +kernel
theorem dX9_inRow_44 : decode cX9_inRow 44 = .ok (.if_icmp .eq 16, 3) := by decide +kernel
theorem dX9_inRow_47 : decode cX9_inRow 47 = .ok (.iload_n 3, 1) := by decide +kernel
theorem dX9_inRow_48 : decode cX9_inRow 48 = .ok (.iconst 1, 1) := by decide +kernel
theorem dX9_inRow_49 : decode cX9_inRow 49 = .ok (.iadd, 1) := by decide +kernel
theorem dX9_inRow_50 : decode cX9_inRow 50 = .ok (.istore_n 3, 1) := by decide +kernel
theorem dX9_inRow_51 : decode cX9_inRow 51 = .ok (.iload 4, 2) := by decide +kernel
theorem dX9_inRow_53 : decode cX9_inRow 53 = .ok (.iconst 1, 1) := by decide +kernel
theorem dX9_inRow_54 : decode cX9_inRow 54 = .ok (.iadd, 1) := by decide +kernel
theorem dX9_inRow_55 : decode cX9_inRow 55 = .ok (.istore 4, 2) := by decide +kernel
theorem dX9_inRow_57 : decode cX9_inRow 57 = .ok (.goto (-21), 3) := by decide +kernel
theorem dX9_inRow_60 : decode cX9_inRow 60 = .ok (.iload_n 3, 1) := by decide +kernel
theorem dX9_inRow_61 : decode cX9_inRow 61 = .ok (.ireturn, 1) := by decide +kernel
theorem dX9_inWeek_0 : decode cX9_inWeek 0 = .ok (.iconst 0, 1) := by decide +kernel
theorem dX9_inWeek_1 : decode cX9_inWeek 1 = .ok (.istore_n 3, 1) := by decide +kernel
theorem dX9_inWeek_2 : decode cX9_inWeek 2 = .ok (.iconst 0, 1) := by decide +kernel
theorem dX9_inWeek_3 : decode cX9_inWeek 3 = .ok (.istore 4, 2) := by decide +kernel
theorem dX9_inWeek_5 : decode cX9_inWeek 5 = .ok (.iload 4, 2) := by decide +kernel
theorem dX9_inWeek_7 : decode cX9_inWeek 7 = .ok (.aload_n 0, 1) := by decide +kernel
theorem dX9_inWeek_8 : decode cX9_inWeek 8 = .ok (.getfield 205, 3) := by decide +kernel
theorem dX9_inWeek_11 : decode cX9_inWeek 11 = .ok (.if_icmp .ge 54, 3) := by decide +kernel
theorem dX9_inWeek_14 : decode cX9_inWeek 14 = .ok (.iload_n 3, 1) := by decide +kernel
theorem dX9_inWeek_15 : decode cX9_inWeek 15 = .ok (.aload_n 0, 1) := by decide +kernel
theorem dX9_inWeek_16 : decode cX9_inWeek 16 = .ok (.getfield 73, 3) := by decide +kernel
theorem dX9_inWeek_19 : decode cX9_inWeek 19 = .ok (.iload 4, 2) := by decide +kernel
theorem dX9_inWeek_21 : decode cX9_inWeek 21 = .ok (.iaload, 1) := by decide +kernel
theorem dX9_inWeek_22 : decode cX9_inWeek 22 = .ok (.iload_n 1, 1) := by decide +kernel
theorem dX9_inWeek_23 : decode cX9_inWeek 23 = .ok (.if_icmp .ne 33, 3) := by decide +kernel
theorem dX9_inWeek_26 : decode cX9_inWeek 26 = .ok (.aload_n 0, 1) := by decide +kernel
theorem dX9_inWeek_27 : decode cX9_inWeek 27 = .ok (.getfield 85, 3) := by decide +kernel
theorem dX9_inWeek_30 : decode cX9_inWeek 30 = .ok (.iload 4, 2) := by decide +kernel
theorem dX9_inWeek_32 : decode cX9_inWeek 32 = .ok (.iaload, 1) := by decide +kernel
theorem dX9_inWeek_33 : decode cX9_inWeek 33 = .ok (.iconst 2, 1) := by decide +kernel
theorem dX9_inWeek_34 : decode cX9_inWeek 34 = .ok (.if_icmp .gt 22, 3) := by decide +kernel
theorem dX9_inWeek_37 : decode cX9_inWeek 37 = .ok (.aload_n 0, 1) := by decide +kernel
theorem dX9_inWeek_38 : decode cX9_inWeek 38 = .ok (.getfield 82, 3) := by decide +kernel
theorem dX9_inWeek_41 : decode cX9_inWeek 41 = .ok (.iload 4, 2) := by decide +kernel
theorem dX9_inWeek_43 : decode cX9_inWeek 43 = .ok (.iaload, 1) := by decide +kernel
theorem dX9_inWeek_44 : decode cX9_inWeek 44 = .ok (.sipush 168, 3) := by decide +kernel
theorem dX9_inWeek_47 : decode cX9_inWeek 47 = .ok (.idiv, 1) := by decide +kernel
theorem dX9_inWeek_48 : decode cX9_inWeek 48 = .ok (.iload_n 2, 1) := by decide +kernel
theorem dX9_inWeek_49 : decode cX9_inWeek 49 = .ok (.if_icmp .ne 7, 3) := by decide +kernel
theorem dX9_inWeek_52 : decode cX9_inWeek 52 = .ok (.iconst 1, 1) := by decide +kernel
theorem dX9_inWeek_53 : decode cX9_inWeek 53 = .ok (.goto 4, 3) := by decide +kernel
theorem dX9_inWeek_56 : decode cX9_inWeek 56 = .ok (.iconst 0, 1) := by decide +kernel
theorem dX9_inWeek_57 : decode cX9_inWeek 57 = .ok (.iadd, 1) := by decide +kernel
theorem dX9_inWeek_58 : decode cX9_inWeek 58 = .ok (.istore_n 3, 1) := by decide +kernel
theorem dX9_inWeek_59 : decode cX9_inWeek 59 = .ok (.iinc 4 1, 3) := by decide +kernel
theorem dX9_inWeek_62 : decode cX9_inWeek 62 = .ok (.goto (-57), 3) := by decide +kernel
theorem dX9_inWeek_65 : decode cX9_inWeek 65 = .ok (.iload_n 3, 1) := by decide +kernel
theorem dX9_inWeek_66 : decode cX9_inWeek 66 = .ok (.ireturn, 1) := by decide +kernel
set_option maxRecDepth 20000 in
theorem ggX9_book_X9_isClub : GoodIn wsX9_book wsX9_isClub := goodIn_r _ [22] (by decide +kernel) (by decide +kernel)
set_option maxRecDepth 20000 in
theorem gX9_book_X9_isClub : GoodIn wsX9_book (va_wsS RX9 212 yX9_isClub wsX9_isClub) := goodIn_app (goodIn_of _ (by decide +kernel)) ggX9_book_X9_isClub
set_option maxRecDepth 20000 in
theorem ggX9_book_X9_isSheet : GoodIn wsX9_book wsX9_isSheet := goodIn_r _ [25] (by decide +kernel) (by decide +kernel)
set_option maxRecDepth 20000 in
theorem gX9_book_X9_isSheet : GoodIn wsX9_book (va_wsS RX9 216 yX9_isSheet wsX9_isSheet) := goodIn_app (goodIn_of _ (by decide +kernel)) ggX9_book_X9_isSheet
set_option maxRecDepth 20000 in
theorem ggX9_book_X9_standing : GoodIn wsX9_book wsX9_standing := goodIn_r _ [29, 2, 12, 10, 11, 46, 47, 48, 49, 50, 51, 52, 53, 54, 55, 56, 57, 58, 59, 60, 61, 62, 63, 64, 65, 66, 67, 68, 69, 70, 71, 72, 73, 74, 75, 76, 77, 78, 79, 80, 81, 82, 83, 84, 85, 86, 87, 88, 89, 90, 91, 92, 93, 94, 95, 96, 97, 98, 99, 100, 101, 102, 103, 104, 105, 106, 107, 108] (by decide +kernel) (by decide +kernel)
set_option maxRecDepth 20000 in
theorem gX9_book_X9_standing : GoodIn wsX9_book (wsV RX9 208 RX9 yX9_standing wsX9_standing) := goodIn_app (goodIn_of _ (by decide +kernel)) ggX9_book_X9_standing
set_option maxRecDepth 20000 in
theorem ggX9_book_X9_isClosed : GoodIn wsX9_book wsX9_isClosed := goodIn_r _ [33, 34, 35, 36, 37, 46, 47, 48, 49, 50, 51, 52, 53, 54, 55, 56, 57, 58, 59, 60, 61, 62, 63, 64, 65, 66, 67, 68, 69, 70, 71, 72, 73, 74, 75, 76, 77, 78, 79, 80, 81, 82, 83, 84, 85, 86, 87, 88, 89, 90, 91, 92, 93, 94, 95, 96, 97, 98, 99, 100, 101, 102, 103, 104, 105, 106, 107, 108] (by decide +kernel) (by decide +kernel)
set_option maxRecDepth 20000 in
theorem gX9_book_X9_isClosed : GoodIn wsX9_book (wsV RX9 222 RX9 yX9_isClosed wsX9_isClosed) := goodIn_app (goodIn_of _ (by decide +kernel)) ggX9_book_X9_isClosed
set_option maxRecDepth 20000 in
theorem ggX9_book_X9_inWeek : GoodIn wsX9_book wsX9_inWeek := goodIn_r _ [41, 2, 8, 12, 11, 46, 47, 48, 49, 50, 51, 52, 53, 54, 55, 56, 57, 58, 59, 60, 61, 62, 63, 64, 65, 66, 67, 68, 69, 70, 71, 72, 73, 74, 75, 76, 77, 78, 79, 80, 81, 82, 83, 84, 85, 86, 87, 88, 89, 90, 91, 92, 93, 94, 95, 96, 97, 98, 99, 100, 101, 102, 103, 104, 105, 106, 107, 108] (by decide +kernel) (by decide +kernel)
set_option maxRecDepth 20000 in
theorem gX9_book_X9_inWeek : GoodIn wsX9_book (wsV RX9 225 RX9 yX9_inWeek wsX9_inWeek) := goodIn_app (goodIn_of _ (by decide +kernel)) ggX9_book_X9_inWeek
set_option maxRecDepth 20000 in
theorem ggX9_book_X9_inRow : GoodIn wsX9_book wsX9_inRow := goodIn_r _ [45, 26, 27, 28, 21, 29, 2, 12, 10, 11, 46, 47, 48, 49, 50, 51, 52, 53, 54, 55, 56, 57, 58, 59, 60, 61, 62, 63, 64, 65, 66, 67, 68, 69, 70, 71, 72, 73, 74, 75, 76, 77, 78, 79, 80, 81, 82, 83, 84, 85, 86, 87, 88, 89, 90, 91, 92, 93, 94, 95, 96, 97, 98, 99, 100, 101, 102, 103, 104, 105, 106, 107, 108] (by decide +kernel) (by decide +kernel)
set_option maxRecDepth 20000 in
theorem gX9_book_X9_inRow : GoodIn wsX9_book (wsV RX9 228 RX9 yX9_inRow wsX9_inRow) := goodIn_app (goodIn_of _ (by decide +kernel)) ggX9_book_X9_inRow
theorem dX9_book_0 : decode cX9_book 0 = .ok (.iload_n 1, 1) := by decide +kernel
theorem dX9_book_1 : decode cX9_book 1 = .ok (.invokestatic 212, 3) := by decide +kernel
theorem dX9_book_4 : decode cX9_book 4 = .ok (.ifCond .eq 51, 3) := by decide +kernel
theorem dX9_book_7 : decode cX9_book 7 = .ok (.iload_n 2, 1) := by decide +kernel
theorem dX9_book_8 : decode cX9_book 8 = .ok (.ifCond .lt 47, 3) := by decide +kernel
theorem dX9_book_11 : decode cX9_book 11 = .ok (.iload_n 2, 1) := by decide +kernel
theorem dX9_book_12 : decode cX9_book 12 = .ok (.iconst 3, 1) := by decide +kernel
theorem dX9_book_13 : decode cX9_book 13 = .ok (.if_icmp .gt 42, 3) := by decide +kernel
theorem dX9_book_16 : decode cX9_book 16 = .ok (.iload_n 3, 1) := by decide +kernel
theorem dX9_book_17 : decode cX9_book 17 = .ok (.invokestatic 216, 3) := by decide +kernel
theorem dX9_book_20 : decode cX9_book 20 = .ok (.ifCond .eq 35, 3) := by decide +kernel
theorem dX9_book_23 : decode cX9_book 23 = .ok (.iload 4, 2) := by decide +kernel
theorem dX9_book_25 : decode cX9_book 25 = .ok (.aload_n 0, 1) := by decide +kernel
theorem dX9_book_26 : decode cX9_book 26 = .ok (.getfield 219, 3) := by decide +kernel
theorem dX9_book_29 : decode cX9_book 29 = .ok (.if_icmp .lt 26, 3) := by decide +kernel
theorem dX9_book_32 : decode cX9_book 32 = .ok (.iload 4, 2) := by decide +kernel
theorem dX9_book_34 : decode cX9_book 34 = .ok (.aload_n 0, 1) := by decide +kernel
theorem dX9_book_35 : decode cX9_book 35 = .ok (.getfield 219, 3) := by decide +kernel
theorem dX9_book_38 : decode cX9_book 38 = .ok (.sipush 999, 3) := by decide +kernel
theorem dX9_book_41 : decode cX9_book 41 = .ok (.iadd, 1) := by decide +kernel
theorem dX9_book_42 : decode cX9_book 42 = .ok (.if_icmp .gt 13, 3) := by decide +kernel
theorem dX9_book_45 : decode cX9_book 45 = .ok (.aload_n 0, 1) := by decide +kernel
theorem dX9_book_46 : decode cX9_book 46 = .ok (.getfield 205, 3) := by decide +kernel
theorem dX9_book_49 : decode cX9_book 49 = .ok (.sipush 200, 3) := by decide +kernel
theorem dX9_book_52 : decode cX9_book 52 = .ok (.if_icmp .ne 5, 3) := by decide +kernel
theorem dX9_book_55 : decode cX9_book 55 = .ok (.iconst (-1), 1) := by decide +kernel
theorem dX9_book_56 : decode cX9_book 56 = .ok (.ireturn, 1) := by decide +kernel
theorem dX9_book_57 : decode cX9_book 57 = .ok (.aload_n 0, 1) := by decide +kernel
theorem dX9_book_58 : decode cX9_book 58 = .ok (.iload_n 3, 1) := by decide +kernel
theorem dX9_book_59 : decode cX9_book 59 = .ok (.iload 4, 2) := by decide +kernel
theorem dX9_book_61 : decode cX9_book 61 = .ok (.invokevirtual 208, 3) := by decide +kernel
theorem dX9_book_64 : decode cX9_book 64 = .ok (.iconst (-1), 1) := by decide +kernel
theorem dX9_book_65 : decode cX9_book 65 = .ok (.if_icmp .ne 13, 3) := by decide +kernel
theorem dX9_book_68 : decode cX9_book 68 = .ok (.aload_n 0, 1) := by decide +kernel
theorem dX9_book_69 : decode cX9_book 69 = .ok (.iload_n 3, 1) := by decide +kernel
theorem dX9_book_70 : decode cX9_book 70 = .ok (.iload 4, 2) := by decide +kernel
theorem dX9_book_72 : decode cX9_book 72 = .ok (.invokevirtual 222, 3) := by decide +kernel
theorem dX9_book_75 : decode cX9_book 75 = .ok (.ifCond .eq 5, 3) := by decide +kernel
theorem dX9_book_78 : decode cX9_book 78 = .ok (.iconst (-1), 1) := by decide +kernel
theorem dX9_book_79 : decode cX9_book 79 = .ok (.ireturn, 1) := by decide +kernel
theorem dX9_book_80 : decode cX9_book 80 = .ok (.aload_n 0, 1) := by decide +kernel
theorem dX9_book_81 : decode cX9_book 81 = .ok (.getfield 13, 3) := by decide +kernel
theorem dX9_book_84 : decode cX9_book 84 = .ok (.iload_n 1, 1) := by decide +kernel
theorem dX9_book_85 : decode cX9_book 85 = .ok (.iaload, 1) := by decide +kernel
theorem dX9_book_86 : decode cX9_book 86 = .ok (.iload 4, 2) := by decide +kernel
theorem dX9_book_88 : decode cX9_book 88 = .ok (.bipush 24, 2) := by decide +kernel
theorem dX9_book_90 : decode cX9_book 90 = .ok (.irem, 1) := by decide +kernel
theorem dX9_book_91 : decode cX9_book 91 = .ok (.ishr, 1) := by decide +kernel
theorem dX9_book_92 : decode cX9_book 92 = .ok (.iconst 1, 1) := by decide +kernel
theorem dX9_book_93 : decode cX9_book 93 = .ok (.iand, 1) := by decide +kernel
theorem dX9_book_94 : decode cX9_book 94 = .ok (.iconst 1, 1) := by decide +kernel
theorem dX9_book_95 : decode cX9_book 95 = .ok (.if_icmp .ne 62, 3) := by decide +kernel
theorem dX9_book_98 : decode cX9_book 98 = .ok (.aload_n 0, 1) := by decide +kernel
theorem dX9_book_99 : decode cX9_book 99 = .ok (.getfield 17, 3) := by decide +kernel
theorem dX9_book_102 : decode cX9_book 102 = .ok (.iload_n 1, 1) := by decide +kernel
theorem dX9_book_103 : decode cX9_book 103 = .ok (.iaload, 1) := by decide +kernel
theorem dX9_book_104 : decode cX9_book 104 = .ok (.iload 4, 2) := by decide +kernel
theorem dX9_book_106 : decode cX9_book 106 = .ok (.bipush 24, 2) := by decide +kernel
theorem dX9_book_108 : decode cX9_book 108 = .ok (.idiv, 1) := by decide +kernel
theorem dX9_book_109 : decode cX9_book 109 = .ok (.bipush 7, 2) := by decide +kernel
theorem dX9_book_111 : decode cX9_book 111 = .ok (.irem, 1) := by decide +kernel
theorem dX9_book_112 : decode cX9_book 112 = .ok (.ishr, 1) := by decide +kernel
theorem dX9_book_113 : decode cX9_book 113 = .ok (.iconst 1, 1) := by decide +kernel
theorem dX9_book_114 : decode cX9_book 114 = .ok (.iand, 1) := by decide +kernel
theorem dX9_book_115 : decode cX9_book 115 = .ok (.iconst 1, 1) := by decide +kernel
theorem dX9_book_116 : decode cX9_book 116 = .ok (.if_icmp .ne 41, 3) := by decide +kernel
theorem dX9_book_119 : decode cX9_book 119 = .ok (.aload_n 0, 1) := by decide +kernel
theorem dX9_book_120 : decode cX9_book 120 = .ok (.getfield 20, 3) := by decide +kernel
theorem dX9_book_123 : decode cX9_book 123 = .ok (.iload_n 1, 1) := by decide +kernel
theorem dX9_book_124 : decode cX9_book 124 = .ok (.iaload, 1) := by decide +kernel
theorem dX9_book_125 : decode cX9_book 125 = .ok (.iload_n 2, 1) := by decide +kernel
theorem dX9_book_126 : decode cX9_book 126 = .ok (.ishr, 1) := by decide +kernel
theorem dX9_book_127 : decode cX9_book 127 = .ok (.iconst 1, 1) := by decide +kernel
theorem dX9_book_128 : decode cX9_book 128 = .ok (.iand, 1) := by decide +kernel
theorem dX9_book_129 : decode cX9_book 129 = .ok (.iconst 1, 1) := by decide +kernel
theorem dX9_book_130 : decode cX9_book 130 = .ok (.if_icmp .ne 27, 3) := by decide +kernel
theorem dX9_book_133 : decode cX9_book 133 = .ok (.aload_n 0, 1) := by decide +kernel
theorem dX9_book_134 : decode cX9_book 134 = .ok (.iload_n 1, 1) := by decide +kernel
theorem dX9_book_135 : decode cX9_book 135 = .ok (.iload 4, 2) := by decide +kernel
theorem dX9_book_137 : decode cX9_book 137 = .ok (.sipush 168, 3) := by decide +kernel
theorem dX9_book_140 : decode cX9_book 140 = .ok (.idiv, 1) := by decide +kernel
theorem dX9_book_141 : decode cX9_book 141 = .ok (.invokevirtual 225, 3) := by decide +kernel
theorem dX9_book_144 : decode cX9_book 144 = .ok (.aload_n 0, 1) := by decide +kernel
theorem dX9_book_145 : decode cX9_book 145 = .ok (.getfield 23, 3) := by decide +kernel
theorem dX9_book_148 : decode cX9_book 148 = .ok (.iload_n 1, 1) := by decide +kernel
theorem dX9_book_149 : decode cX9_book 149 = .ok (.iaload, 1) := by decide +kernel
theorem dX9_book_150 : decode cX9_book 150 = .ok (.if_icmp .ge 7, 3) := by decide +kernel
theorem dX9_book_153 : decode cX9_book 153 = .ok (.iconst 1, 1) := by decide +kernel
theorem dX9_book_154 : decode cX9_book 154 = .ok (.goto 4, 3) := by decide +kernel
theorem dX9_book_157 : decode cX9_book 157 = .ok (.iconst 0, 1) := by decide +kernel
theorem dX9_book_158 : decode cX9_book 158 = .ok (.istore 5, 2) := by decide +kernel
theorem dX9_book_160 : decode cX9_book 160 = .ok (.iload 5, 2) := by decide +kernel
theorem dX9_book_162 : decode cX9_book 162 = .ok (.ifCond .eq 17, 3) := by decide +kernel
theorem dX9_book_165 : decode cX9_book 165 = .ok (.aload_n 0, 1) := by decide +kernel
theorem dX9_book_166 : decode cX9_book 166 = .ok (.iload_n 3, 1) := by decide +kernel
theorem dX9_book_167 : decode cX9_book 167 = .ok (.iload 4, 2) := by decide +kernel
theorem dX9_book_169 : decode cX9_book 169 = .ok (.invokevirtual 228, 3) := by decide +kernel
theorem dX9_book_172 : decode cX9_book 172 = .ok (.aload_n 0, 1) := by decide +kernel
theorem dX9_book_173 : decode cX9_book 173 = .ok (.getfield 42, 3) := by decide +kernel
theorem dX9_book_176 : decode cX9_book 176 = .ok (.if_icmp .le 5, 3) := by decide +kernel
theorem dX9_book_179 : decode cX9_book 179 = .ok (.iconst (-1), 1) := by decide +kernel
theorem dX9_book_180 : decode cX9_book 180 = .ok (.ireturn, 1) := by decide +kernel
theorem dX9_book_181 : decode cX9_book 181 = .ok (.aload_n 0, 1) := by decide +kernel
theorem dX9_book_182 : decode cX9_book 182 = .ok (.getfield 73, 3) := by decide +kernel
theorem dX9_book_185 : decode cX9_book 185 = .ok (.aload_n 0, 1) := by decide +kernel
theorem dX9_book_186 : decode cX9_book 186 = .ok (.getfield 205, 3) := by decide +kernel
theorem dX9_book_189 : decode cX9_book 189 = .ok (.iload_n 1, 1) := by decide +kernel
theorem dX9_book_190 : decode cX9_book 190 = .ok (.iastore, 1) := by decide +kernel
theorem dX9_book_191 : decode cX9_book 191 = .ok (.aload_n 0, 1) := by decide +kernel
theorem dX9_book_192 : decode cX9_book 192 = .ok (.getfield 76, 3) := by decide +kernel
theorem dX9_book_195 : decode cX9_book 195 = .ok (.aload_n 0, 1) := by decide +kernel
theorem dX9_book_196 : decode cX9_book 196 = .ok (.getfield 205, 3) := by decide +kernel
theorem dX9_book_199 : decode cX9_book 199 = .ok (.iload_n 2, 1) := by decide +kernel
theorem dX9_book_200 : decode cX9_book 200 = .ok (.iastore, 1) := by decide +kernel
theorem dX9_book_201 : decode cX9_book 201 = .ok (.aload_n 0, 1) := by decide +kernel
theorem dX9_book_202 : decode cX9_book 202 = .ok (.getfield 79, 3) := by decide +kernel
theorem dX9_book_205 : decode cX9_book 205 = .ok (.aload_n 0, 1) := by decide +kernel
theorem dX9_book_206 : decode cX9_book 206 = .ok (.getfield 205, 3) := by decide +kernel
theorem dX9_book_209 : decode cX9_book 209 = .ok (.iload_n 3, 1) := by decide +kernel
theorem dX9_book_210 : decode cX9_book 210 = .ok (.iastore, 1) := by decide +kernel
theorem dX9_book_211 : decode cX9_book 211 = .ok (.aload_n 0, 1) := by decide +kernel
theorem dX9_book_212 : decode cX9_book 212 = .ok (.getfield 82, 3) := by decide +kernel
theorem dX9_book_215 : decode cX9_book 215 = .ok (.aload_n 0, 1) := by decide +kernel
theorem dX9_book_216 : decode cX9_book 216 = .ok (.getfield 205, 3) := by decide +kernel
theorem dX9_book_219 : decode cX9_book 219 = .ok (.iload 4, 2) := by decide +kernel
theorem dX9_book_221 : decode cX9_book 221 = .ok (.iastore, 1) := by decide +kernel
theorem dX9_book_222 : decode cX9_book 222 = .ok (.aload_n 0, 1) := by decide +kernel
theorem dX9_book_223 : decode cX9_book 223 = .ok (.getfield 85, 3) := by decide +kernel
theorem dX9_book_226 : decode cX9_book 226 = .ok (.aload_n 0, 1) := by decide +kernel
theorem dX9_book_227 : decode cX9_book 227 = .ok (.getfield 205, 3) := by decide +kernel
theorem dX9_book_230 : decode cX9_book 230 = .ok (.iconst 0, 1) := by decide +kernel
theorem dX9_book_231 : decode cX9_book 231 = .ok (.iastore, 1) := by decide +kernel
theorem dX9_book_232 : decode cX9_book 232 = .ok (.aload_n 0, 1) := by decide +kernel
theorem dX9_book_233 : decode cX9_book 233 = .ok (.getfield 88, 3) := by decide +kernel
theorem dX9_book_236 : decode cX9_book 236 = .ok (.aload_n 0, 1) := by decide +kernel
theorem dX9_book_237 : decode cX9_book 237 = .ok (.getfield 205, 3) := by decide +kernel
theorem dX9_book_240 : decode cX9_book 240 = .ok (.iconst 0, 1) := by decide +kernel
theorem dX9_book_241 : decode cX9_book 241 = .ok (.iastore, 1) := by decide +kernel
theorem dX9_book_242 : decode cX9_book 242 = .ok (.aload_n 0, 1) := by decide +kernel
theorem dX9_book_243 : decode cX9_book 243 = .ok (.getfield 91, 3) := by decide +kernel
theorem dX9_book_246 : decode cX9_book 246 = .ok (.aload_n 0, 1) := by decide +kernel
theorem dX9_book_247 : decode cX9_book 247 = .ok (.getfield 205, 3) := by decide +kernel
theorem dX9_book_250 : decode cX9_book 250 = .ok (.aload_n 0, 1) := by decide +kernel
theorem dX9_book_251 : decode cX9_book 251 = .ok (.getfield 26, 3) := by decide +kernel
theorem dX9_book_254 : decode cX9_book 254 = .ok (.iload_n 1, 1) := by decide +kernel
theorem dX9_book_255 : decode cX9_book 255 = .ok (.iaload, 1) := by decide +kernel
theorem dX9_book_256 : decode cX9_book 256 = .ok (.iastore, 1) := by decide +kernel
theorem dX9_book_257 : decode cX9_book 257 = .ok (.aload_n 0, 1) := by decide +kernel
theorem dX9_book_258 : decode cX9_book 258 = .ok (.getfield 94, 3) := by decide +kernel
theorem dX9_book_261 : decode cX9_book 261 = .ok (.aload_n 0, 1) := by decide +kernel
theorem dX9_book_262 : decode cX9_book 262 = .ok (.getfield 205, 3) := by decide +kernel
theorem dX9_book_265 : decode cX9_book 265 = .ok (.aload_n 0, 1) := by decide +kernel
theorem dX9_book_266 : decode cX9_book 266 = .ok (.getfield 29, 3) := by decide +kernel
theorem dX9_book_269 : decode cX9_book 269 = .ok (.iload_n 1, 1) := by decide +kernel
theorem dX9_book_270 : decode cX9_book 270 = .ok (.iaload, 1) := by decide +kernel
theorem dX9_book_271 : decode cX9_book 271 = .ok (.iastore, 1) := by decide +kernel
theorem dX9_book_272 : decode cX9_book 272 = .ok (.aload_n 0, 1) := by decide +kernel
theorem dX9_book_273 : decode cX9_book 273 = .ok (.getfield 97, 3) := by decide +kernel
theorem dX9_book_276 : decode cX9_book 276 = .ok (.aload_n 0, 1) := by decide +kernel
theorem dX9_book_277 : decode cX9_book 277 = .ok (.getfield 205, 3) := by decide +kernel
theorem dX9_book_280 : decode cX9_book 280 = .ok (.iconst 0, 1) := by decide +kernel
theorem dX9_book_281 : decode cX9_book 281 = .ok (.iastore, 1) := by decide +kernel
theorem dX9_book_282 : decode cX9_book 282 = .ok (.aload_n 0, 1) := by decide +kernel
theorem dX9_book_283 : decode cX9_book 283 = .ok (.aload_n 0, 1) := by decide +kernel
theorem dX9_book_284 : decode cX9_book 284 = .ok (.getfield 205, 3) := by decide +kernel
theorem dX9_book_287 : decode cX9_book 287 = .ok (.iconst 1, 1) := by decide +kernel
theorem dX9_book_288 : decode cX9_book 288 = .ok (.iadd, 1) := by decide +kernel
theorem dX9_book_289 : decode cX9_book 289 = .ok (.putfield 205, 3) := by decide +kernel
theorem dX9_book_292 : decode cX9_book 292 = .ok (.aload_n 0, 1) := by decide +kernel
theorem dX9_book_293 : decode cX9_book 293 = .ok (.getfield 205, 3) := by decide +kernel
theorem dX9_book_296 : decode cX9_book 296 = .ok (.iconst 1, 1) := by decide +kernel
theorem dX9_book_297 : decode cX9_book 297 = .ok (.isub, 1) := by decide +kernel
theorem dX9_book_298 : decode cX9_book 298 = .ok (.ireturn, 1) := by decide +kernel
theorem dX9_isSession_0 : decode cX9_isSession 0 = .ok (.iload_n 1, 1) := by decide +kernel
theorem dX9_isSession_1 : decode cX9_isSession 1 = .ok (.ifCond .lt 15, 3) := by decide +kernel
theorem dX9_isSession_4 : decode cX9_isSession 4 = .ok (.iload_n 1, 1) := by decide +kernel
theorem dX9_isSession_5 : decode cX9_isSession 5 = .ok (.aload_n 0, 1) := by decide +kernel
theorem dX9_isSession_6 : decode cX9_isSession 6 = .ok (.getfield 205, 3) := by decide +kernel
theorem dX9_isSession_9 : decode cX9_isSession 9 = .ok (.if_icmp .ge 7, 3) := by decide +kernel
theorem dX9_isSession_12 : decode cX9_isSession 12 = .ok (.iconst 1, 1) := by decide +kernel
theorem dX9_isSession_13 : decode cX9_isSession 13 = .ok (.goto 4, 3) := by decide +kernel
theorem dX9_isSession_16 : decode cX9_isSession 16 = .ok (.iconst 0, 1) := by decide +kernel
theorem dX9_isSession_17 : decode cX9_isSession 17 = .ok (.ireturn, 1) := by decide +kernel
set_option maxRecDepth 20000 in
theorem ggX9_cancel_X9_isSession : GoodIn wsX9_cancel wsX9_isSession := goodIn_r _ [6, 7, 8, 9, 10, 11, 12, 13, 14, 15, 16, 17, 18, 19, 20, 21, 22, 23, 24, 25, 26, 27, 28, 29, 30, 31, 32, 33, 34, 35, 36, 37, 38, 39, 40, 41, 42, 43, 44, 45, 46, 47, 48, 49, 50, 51, 52, 53, 54, 55, 56, 57, 58, 59, 60, 61, 62, 63, 64, 65, 66, 67, 68, 69, 70] (by decide +kernel) (by decide +kernel)
set_option maxRecDepth 20000 in
theorem gX9_cancel_X9_isSession : GoodIn wsX9_cancel (wsV RX9 231 RX9 yX9_isSession wsX9_isSession) := goodIn_app (goodIn_of _ (by decide +kernel)) ggX9_cancel_X9_isSession
theorem dX9_cancel_0 : decode cX9_cancel 0 = .ok (.aload_n 0, 1) := by decide +kernel
theorem dX9_cancel_1 : decode cX9_cancel 1 = .ok (.iload_n 1, 1) := by decide +kernel
theorem dX9_cancel_2 : decode cX9_cancel 2 = .ok (.invokevirtual 231, 3) := by decide +kernel
theorem dX9_cancel_5 : decode cX9_cancel 5 = .ok (.ifCond .eq 12, 3) := by decide +kernel
theorem dX9_cancel_8 : decode cX9_cancel 8 = .ok (.aload_n 0, 1) := by decide +kernel
theorem dX9_cancel_9 : decode cX9_cancel 9 = .ok (.getfield 85, 3) := by decide +kernel
theorem dX9_cancel_12 : decode cX9_cancel 12 = .ok (.iload_n 1, 1) := by decide +kernel
theorem dX9_cancel_13 : decode cX9_cancel 13 = .ok (.iaload, 1) := by decide +kernel
theorem dX9_cancel_14 : decode cX9_cancel 14 = .ok (.ifCond .eq 5, 3) := by decide +kernel
theorem dX9_cancel_17 : decode cX9_cancel 17 = .ok (.iconst 0, 1) := by decide +kernel
theorem dX9_cancel_18 : decode cX9_cancel 18 = .ok (.ireturn, 1) := by decide +kernel
theorem dX9_cancel_19 : decode cX9_cancel 19 = .ok (.aload_n 0, 1) := by decide +kernel
theorem dX9_cancel_20 : decode cX9_cancel 20 = .ok (.getfield 85, 3) := by decide +kernel
theorem dX9_cancel_23 : decode cX9_cancel 23 = .ok (.iload_n 1, 1) := by decide +kernel
theorem dX9_cancel_24 : decode cX9_cancel 24 = .ok (.iconst 3, 1) := by decide +kernel
theorem dX9_cancel_25 : decode cX9_cancel 25 = .ok (.iastore, 1) := by decide +kernel
theorem dX9_cancel_26 : decode cX9_cancel 26 = .ok (.iconst 1, 1) := by decide +kernel
theorem dX9_cancel_27 : decode cX9_cancel 27 = .ok (.ireturn, 1) := by decide +kernel
set_option maxRecDepth 20000 in
theorem ggX9_cut_X9_isSheet : GoodIn wsX9_cut wsX9_isSheet := goodIn_r _ [7] (by decide +kernel) (by decide +kernel)
set_option maxRecDepth 20000 in
theorem gX9_cut_X9_isSheet : GoodIn wsX9_cut (va_wsS RX9 216 yX9_isSheet wsX9_isSheet) := goodIn_app (goodIn_of _ (by decide +kernel)) ggX9_cut_X9_isSheet
theorem dX9_cut_0 : decode cX9_cut 0 = .ok (.iload_n 1, 1) := by decide +kernel
theorem dX9_cut_1 : decode cX9_cut 1 = .ok (.invokestatic 216, 3) := by decide +kernel
theorem dX9_cut_4 : decode cX9_cut 4 = .ok (.ifCond .eq 23, 3) := by decide +kernel
theorem dX9_cut_7 : decode cX9_cut 7 = .ok (.iload_n 2, 1) := by decide +kernel
theorem dX9_cut_8 : decode cX9_cut 8 = .ok (.ifCond .lt 19, 3) := by decide +kernel
theorem dX9_cut_11 : decode cX9_cut 11 = .ok (.iload_n 2, 1) := by decide +kernel
theorem dX9_cut_12 : decode cX9_cut 12 = .ok (.bipush 20, 2) := by decide +kernel
theorem dX9_cut_14 : decode cX9_cut 14 = .ok (.if_icmp .gt 13, 3) := by decide +kernel
theorem dX9_cut_17 : decode cX9_cut 17 = .ok (.iload_n 3, 1) := by decide +kernel
theorem dX9_cut_18 : decode cX9_cut 18 = .ok (.ifCond .lt 9, 3) := by decide +kernel
theorem dX9_cut_21 : decode cX9_cut 21 = .ok (.iload_n 3, 1) := by decide +kernel
theorem dX9_cut_22 : decode cX9_cut 22 = .ok (.bipush 20, 2) := by decide +kernel
theorem dX9_cut_24 : decode cX9_cut 24 = .ok (.if_icmp .le 5, 3) := by decide +kernel
theorem dX9_cut_27 : decode cX9_cut 27 = .ok (.iconst 0, 1) := by decide +kernel
theorem dX9_cut_28 : decode cX9_cut 28 = .ok (.ireturn, 1) := by decide +kernel
theorem dX9_cut_29 : decode cX9_cut 29 = .ok (.aload_n 0, 1) := by decide +kernel
theorem dX9_cut_30 : decode cX9_cut 30 = .ok (.getfield 69, 3) := by decide +kernel
theorem dX9_cut_33 : decode cX9_cut 33 = .ok (.iload_n 1, 1) := by decide +kernel
theorem dX9_cut_34 : decode cX9_cut 34 = .ok (.iconst 1, 1) := by decide +kernel
theorem dX9_cut_35 : decode cX9_cut 35 = .ok (.bastore, 1) := by decide +kernel
theorem dX9_cut_36 : decode cX9_cut 36 = .ok (.aload_n 0, 1) := by decide +kernel
theorem dX9_cut_37 : decode cX9_cut 37 = .ok (.getfield 63, 3) := by decide +kernel
theorem dX9_cut_40 : decode cX9_cut 40 = .ok (.iload_n 1, 1) := by decide +kernel
theorem dX9_cut_41 : decode cX9_cut 41 = .ok (.iload_n 2, 1) := by decide +kernel
theorem dX9_cut_42 : decode cX9_cut 42 = .ok (.iastore, 1) := by decide +kernel
theorem dX9_cut_43 : decode cX9_cut 43 = .ok (.aload_n 0, 1) := by decide +kernel
theorem dX9_cut_44 : decode cX9_cut 44 = .ok (.getfield 66, 3) := by decide +kernel
theorem dX9_cut_47 : decode cX9_cut 47 = .ok (.iload_n 1, 1) := by decide +kernel
theorem dX9_cut_48 : decode cX9_cut 48 = .ok (.iload_n 3, 1) := by decide +kernel
theorem dX9_cut_49 : decode cX9_cut 49 = .ok (.iastore, 1) := by decide +kernel
theorem dX9_cut_50 : decode cX9_cut 50 = .ok (.iconst 1, 1) := by decide +kernel
theorem dX9_cut_51 : decode cX9_cut 51 = .ok (.ireturn, 1) := by decide +kernel
theorem dX9_behind_0 : decode cX9_behind 0 = .ok (.iload_n 0, 1) := by decide +kernel
theorem dX9_behind_1 : decode cX9_behind 1 = .ok (.ifCond .ne 7, 3) := by decide +kernel
theorem dX9_behind_4 : decode cX9_behind 4 = .ok (.iconst 0, 1) := by decide +kernel
theorem dX9_behind_5 : decode cX9_behind 5 = .ok (.goto 22, 3) := by decide +kernel
theorem dX9_behind_8 : decode cX9_behind 8 = .ok (.iload_n 0, 1) := by decide +kernel
theorem dX9_behind_9 : decode cX9_behind 9 = .ok (.iconst 2, 1) := by decide +kernel
theorem dX9_behind_10 : decode cX9_behind 10 = .ok (.irem, 1) := by decide +kernel
theorem dX9_behind_11 : decode cX9_behind 11 = .ok (.iconst 1, 1) := by decide +kernel
theorem dX9_behind_12 : decode cX9_behind 12 = .ok (.if_icmp .ne 12, 3) := by decide +kernel
theorem dX9_behind_15 : decode cX9_behind 15 = .ok (.iload_n 0, 1) := by decide +kernel
theorem dX9_behind_16 : decode cX9_behind 16 = .ok (.iconst 1, 1) := by decide +kernel
theorem dX9_behind_17 : decode cX9_behind 17 = .ok (.iadd, 1) := by decide +kernel
theorem dX9_behind_18 : decode cX9_behind 18 = .ok (.ineg, 1) := by decide +kernel
theorem dX9_behind_19 : decode cX9_behind 19 = .ok (.iconst 2, 1) := by decide +kernel
theorem dX9_behind_20 : decode cX9_behind 20 = .ok (.idiv, 1) := by decide +kernel
theorem dX9_behind_21 : decode cX9_behind 21 = .ok (.goto 6, 3) := by decide +kernel
theorem dX9_behind_24 : decode cX9_behind 24 = .ok (.iload_n 0, 1) := by decide +kernel
theorem dX9_behind_25 : decode cX9_behind 25 = .ok (.iconst 2, 1) := by decide +kernel
theorem dX9_behind_26 : decode cX9_behind 26 = .ok (.idiv, 1) := by decide +kernel
theorem dX9_behind_27 : decode cX9_behind 27 = .ok (.ireturn, 1) := by decide +kernel
set_option maxRecDepth 20000 in
theorem ggX9_stands_X9_behind : GoodIn wsX9_stands wsX9_behind := goodIn_r _ [13] (by decide +kernel) (by decide +kernel)
set_option maxRecDepth 20000 in
theorem gX9_stands_X9_behind : GoodIn wsX9_stands (va_wsS RX9 237 yX9_behind wsX9_behind) := goodIn_app (goodIn_of _ (by decide +kernel)) ggX9_stands_X9_behind
set_option maxRecDepth 20000 in
theorem ggX9_stands_X9_isClosed : GoodIn wsX9_stands wsX9_isClosed := goodIn_r _ [17, 18, 19, 20, 21, 31, 32, 33, 34, 35, 36, 37, 38, 39, 40, 41, 42, 43, 44, 45, 46, 47, 48, 49, 50, 51, 52, 53, 54, 55, 56, 57, 58, 59, 60, 61, 62, 63, 64, 65, 66, 67, 68, 69, 70, 71, 72, 73, 74, 75, 76, 77, 78, 79, 80, 81, 82, 83, 84, 85, 86, 87, 88, 89, 90, 91, 92, 93] (by decide +kernel) (by decide +kernel)
set_option maxRecDepth 20000 in
theorem gX9_stands_X9_isClosed : GoodIn wsX9_stands (wsV RX9 222 RX9 yX9_isClosed wsX9_isClosed) := goodIn_app (goodIn_of _ (by decide +kernel)) ggX9_stands_X9_isClosed
set_option maxRecDepth 20000 in
theorem ggX9_stands_X9_standing : GoodIn wsX9_stands wsX9_standing := goodIn_r _ [25, 26, 5, 7, 8, 31, 32, 33, 34, 35, 36, 37, 38, 39, 40, 41, 42, 43, 44, 45, 46, 47, 48, 49, 50, 51, 52, 53, 54, 55, 56, 57, 58, 59, 60, 61, 62, 63, 64, 65, 66, 67, 68, 69, 70, 71, 72, 73, 74, 75, 76, 77, 78, 79, 80, 81, 82, 83, 84, 85, 86, 87, 88, 89, 90, 91, 92, 93] (by decide +kernel) (by decide +kernel)
set_option maxRecDepth 20000 in
theorem gX9_stands_X9_standing : GoodIn wsX9_stands (wsV RX9 208 RX9 yX9_standing wsX9_standing) := goodIn_app (goodIn_of _ (by decide +kernel)) ggX9_stands_X9_standing
set_option maxRecDepth 20000 in
theorem ggX9_stands_X9_inRow : GoodIn wsX9_stands wsX9_inRow := goodIn_r _ [30, 22, 23, 24, 12, 25, 26, 5, 7, 8, 31, 32, 33, 34, 35, 36, 37, 38, 39, 40, 41, 42, 43, 44, 45, 46, 47, 48, 49, 50, 51, 52, 53, 54, 55, 56, 57, 58, 59, 60, 61, 62, 63, 64, 65, 66, 67, 68, 69, 70, 71, 72, 73, 74, 75, 76, 77, 78, 79, 80, 81, 82, 83, 84, 85, 86, 87, 88, 89, 90, 91, 92, 93] (by decide +kernel) (by decide +kernel)
set_option maxRecDepth 20000 in
theorem gX9_stands_X9_inRow : GoodIn wsX9_stands (wsV RX9 228 RX9 yX9_inRow wsX9_inRow) := goodIn_app (goodIn_of _ (by decide +kernel)) ggX9_stands_X9_inRow
theorem dX9_stands_0 : decode cX9_stands 0 = .ok (.iconst 1, 1) := by decide +kernel
theorem dX9_stands_1 : decode cX9_stands 1 = .ok (.istore_n 1, 1) := by decide +kernel
theorem dX9_stands_2 : decode cX9_stands 2 = .ok (.iconst 0, 1) := by decide +kernel
theorem dX9_stands_3 : decode cX9_stands 3 = .ok (.istore_n 2, 1) := by decide +kernel
theorem dX9_stands_4 : decode cX9_stands 4 = .ok (.iload_n 1, 1) := by decide +kernel
theorem dX9_stands_5 : decode cX9_stands 5 = .ok (.ifCond .eq 139, 3) := by decide +kernel
theorem dX9_stands_8 : decode cX9_stands 8 = .ok (.iload_n 2, 1) := by decide +kernel
theorem dX9_stands_9 : decode cX9_stands 9 = .ok (.aload_n 0, 1) := by decide +kernel
theorem dX9_stands_10 : decode cX9_stands 10 = .ok (.getfield 234, 3) := by decide +kernel
theorem dX9_stands_13 : decode cX9_stands 13 = .ok (.if_icmp .ge 131, 3) := by decide +kernel
theorem dX9_stands_16 : decode cX9_stands 16 = .ok (.aload_n 0, 1) := by decide +kernel
theorem dX9_stands_17 : decode cX9_stands 17 = .ok (.getfield 112, 3) := by decide +kernel
theorem dX9_stands_20 : decode cX9_stands 20 = .ok (.iload_n 2, 1) := by decide +kernel
theorem dX9_stands_21 : decode cX9_stands 21 = .ok (.iaload, 1) := by decide +kernel
theorem dX9_stands_22 : decode cX9_stands 22 = .ok (.bipush 14, 2) := by decide +kernel
theorem dX9_stands_24 : decode cX9_stands 24 = .ok (.if_icmp .eq 109, 3) := by decide +kernel
theorem dX9_stands_27 : decode cX9_stands 27 = .ok (.aload_n 0, 1) := by decide +kernel
theorem dX9_stands_28 : decode cX9_stands 28 = .ok (.getfield 112, 3) := by decide +kernel
theorem dX9_stands_31 : decode cX9_stands 31 = .ok (.iload_n 2, 1) := by decide +kernel
theorem dX9_stands_32 : decode cX9_stands 32 = .ok (.iaload, 1) := by decide +kernel
theorem dX9_stands_33 : decode cX9_stands 33 = .ok (.iconst 2, 1) := by decide +kernel
theorem dX9_stands_34 : decode cX9_stands 34 = .ok (.irem, 1) := by decide +kernel
theorem dX9_stands_35 : decode cX9_stands 35 = .ok (.istore_n 3, 1) := by decide +kernel
theorem dX9_stands_36 : decode cX9_stands 36 = .ok (.aload_n 0, 1) := by decide +kernel
theorem dX9_stands_37 : decode cX9_stands 37 = .ok (.getfield 118, 3) := by decide +kernel
theorem dX9_stands_40 : decode cX9_stands 40 = .ok (.iload_n 2, 1) := by decide +kernel
theorem dX9_stands_41 : decode cX9_stands 41 = .ok (.iaload, 1) := by decide +kernel
theorem dX9_stands_42 : decode cX9_stands 42 = .ok (.aload_n 0, 1) := by decide +kernel
theorem dX9_stands_43 : decode cX9_stands 43 = .ok (.getfield 112, 3) := by decide +kernel
theorem dX9_stands_46 : decode cX9_stands 46 = .ok (.iload_n 2, 1) := by decide +kernel
theorem dX9_stands_47 : decode cX9_stands 47 = .ok (.iaload, 1) := by decide +kernel
theorem dX9_stands_48 : decode cX9_stands 48 = .ok (.iconst 2, 1) := by decide +kernel
theorem dX9_stands_49 : decode cX9_stands 49 = .ok (.idiv, 1) := by decide +kernel
theorem dX9_stands_50 : decode cX9_stands 50 = .ok (.invokestatic 237, 3) := by decide +kernel
theorem dX9_stands_53 : decode cX9_stands 53 = .ok (.iadd, 1) := by decide +kernel
theorem dX9_stands_54 : decode cX9_stands 54 = .ok (.istore 4, 2) := by decide +kernel
theorem dX9_stands_56 : decode cX9_stands 56 = .ok (.iload 4, 2) := by decide +kernel
theorem dX9_stands_58 : decode cX9_stands 58 = .ok (.aload_n 0, 1) := by decide +kernel
theorem dX9_stands_59 : decode cX9_stands 59 = .ok (.getfield 219, 3) := by decide +kernel
theorem dX9_stands_62 : decode cX9_stands 62 = .ok (.if_icmp .lt 28, 3) := by decide +kernel
theorem dX9_stands_65 : decode cX9_stands 65 = .ok (.aload_n 0, 1) := by decide +kernel
theorem dX9_stands_66 : decode cX9_stands 66 = .ok (.iload_n 3, 1) := by decide +kernel
theorem dX9_stands_67 : decode cX9_stands 67 = .ok (.iload 4, 2) := by decide +kernel
theorem dX9_stands_69 : decode cX9_stands 69 = .ok (.invokevirtual 222, 3) := by decide +kernel
theorem dX9_stands_72 : decode cX9_stands 72 = .ok (.ifCond .ne 18, 3) := by decide +kernel
theorem dX9_stands_75 : decode cX9_stands 75 = .ok (.aload_n 0, 1) := by decide +kernel
theorem dX9_stands_76 : decode cX9_stands 76 = .ok (.iload_n 3, 1) := by decide +kernel
theorem dX9_stands_77 : decode cX9_stands 77 = .ok (.iload 4, 2) := by decide +kernel
theorem dX9_stands_79 : decode cX9_stands 79 = .ok (.invokevirtual 208, 3) := by decide +kernel
theorem dX9_stands_82 : decode cX9_stands 82 = .ok (.iconst (-1), 1) := by decide +kernel
theorem dX9_stands_83 : decode cX9_stands 83 = .ok (.if_icmp .ne 7, 3) := by decide +kernel
theorem dX9_stands_86 : decode cX9_stands 86 = .ok (.iconst 1, 1) := by decide +kernel
theorem dX9_stands_87 : decode cX9_stands 87 = .ok (.goto 4, 3) := by decide +kernel
theorem dX9_stands_90 : decode cX9_stands 90 = .ok (.iconst 0, 1) := by decide +kernel
theorem dX9_stands_91 : decode cX9_stands 91 = .ok (.istore_n 1, 1) := by decide +kernel
theorem dX9_stands_92 : decode cX9_stands 92 = .ok (.iload_n 1, 1) := by decide +kernel
theorem dX9_stands_93 : decode cX9_stands 93 = .ok (.ifCond .eq 40, 3) := by decide +kernel
theorem dX9_stands_96 : decode cX9_stands 96 = .ok (.aload_n 0, 1) := by decide +kernel
theorem dX9_stands_97 : decode cX9_stands 97 = .ok (.getfield 85, 3) := by decide +kernel
theorem dX9_stands_100 : decode cX9_stands 100 = .ok (.aload_n 0, 1) := by decide +kernel
theorem dX9_stands_101 : decode cX9_stands 101 = .ok (.getfield 109, 3) := by decide +kernel
theorem dX9_stands_104 : decode cX9_stands 104 = .ok (.iload_n 2, 1) := by decide +kernel
theorem dX9_stands_105 : decode cX9_stands 105 = .ok (.iaload, 1) := by decide +kernel
theorem dX9_stands_106 : decode cX9_stands 106 = .ok (.iconst 0, 1) := by decide +kernel
theorem dX9_stands_107 : decode cX9_stands 107 = .ok (.iastore, 1) := by decide +kernel
theorem dX9_stands_108 : decode cX9_stands 108 = .ok (.aload_n 0, 1) := by decide +kernel
theorem dX9_stands_109 : decode cX9_stands 109 = .ok (.getfield 79, 3) := by decide +kernel
theorem dX9_stands_112 : decode cX9_stands 112 = .ok (.aload_n 0, 1) := by decide +kernel
theorem dX9_stands_113 : decode cX9_stands 113 = .ok (.getfield 109, 3) := by decide +kernel
theorem dX9_stands_116 : decode cX9_stands 116 = .ok (.iload_n 2, 1) := by decide +kernel
theorem dX9_stands_117 : decode cX9_stands 117 = .ok (.iaload, 1) := by decide +kernel
theorem dX9_stands_118 : decode cX9_stands 118 = .ok (.iload_n 3, 1) := by decide +kernel
theorem dX9_stands_119 : decode cX9_stands 119 = .ok (.iastore, 1) := by decide +kernel
theorem dX9_stands_120 : decode cX9_stands 120 = .ok (.aload_n 0, 1) := by decide +kernel
theorem dX9_stands_121 : decode cX9_stands 121 = .ok (.getfield 82, 3) := by decide +kernel
theorem dX9_stands_124 : decode cX9_stands 124 = .ok (.aload_n 0, 1) := by decide +kernel
theorem dX9_stands_125 : decode cX9_stands 125 = .ok (.getfield 109, 3) := by decide +kernel
theorem dX9_stands_128 : decode cX9_stands 128 = .ok (.iload_n 2, 1) := by decide +kernel
theorem dX9_stands_129 : decode cX9_stands 129 = .ok (.iaload, 1) := by decide +kernel
theorem dX9_stands_130 : decode cX9_stands 130 = .ok (.iload 4, 2) := by decide +kernel
theorem dX9_stands_132 : decode cX9_stands 132 = .ok (.iastore, 1) := by decide +kernel
theorem dX9_stands_133 : decode cX9_stands 133 = .ok (.iload_n 1, 1) := by decide +kernel
theorem dX9_stands_134 : decode cX9_stands 134 = .ok (.ifCond .eq (-130), 3) := by decide +kernel
theorem dX9_stands_137 : decode cX9_stands 137 = .ok (.iload_n 2, 1) := by decide +kernel
theorem dX9_stands_138 : decode cX9_stands 138 = .ok (.iconst 1, 1) := by decide +kernel
theorem dX9_stands_139 : decode cX9_stands 139 = .ok (.iadd, 1) := by decide +kernel
theorem dX9_stands_140 : decode cX9_stands 140 = .ok (.istore_n 2, 1) := by decide +kernel
theorem dX9_stands_141 : decode cX9_stands 141 = .ok (.goto (-137), 3) := by decide +kernel
theorem dX9_stands_144 : decode cX9_stands 144 = .ok (.iconst 0, 1) := by decide +kernel
theorem dX9_stands_145 : decode cX9_stands 145 = .ok (.istore_n 3, 1) := by decide +kernel
theorem dX9_stands_146 : decode cX9_stands 146 = .ok (.iload_n 3, 1) := by decide +kernel
theorem dX9_stands_147 : decode cX9_stands 147 = .ok (.iload_n 2, 1) := by decide +kernel
theorem dX9_stands_148 : decode cX9_stands 148 = .ok (.if_icmp .ge 63, 3) := by decide +kernel
theorem dX9_stands_151 : decode cX9_stands 151 = .ok (.iload_n 1, 1) := by decide +kernel
theorem dX9_stands_152 : decode cX9_stands 152 = .ok (.ifCond .eq 59, 3) := by decide +kernel
theorem dX9_stands_155 : decode cX9_stands 155 = .ok (.aload_n 0, 1) := by decide +kernel
theorem dX9_stands_156 : decode cX9_stands 156 = .ok (.getfield 112, 3) := by decide +kernel
theorem dX9_stands_159 : decode cX9_stands 159 = .ok (.iload_n 3, 1) := by decide +kernel
theorem dX9_stands_160 : decode cX9_stands 160 = .ok (.iaload, 1) := by decide +kernel
theorem dX9_stands_161 : decode cX9_stands 161 = .ok (.bipush 14, 2) := by decide +kernel
theorem dX9_stands_163 : decode cX9_stands 163 = .ok (.if_icmp .eq 36, 3) := by decide +kernel
theorem dX9_stands_166 : decode cX9_stands 166 = .ok (.aload_n 0, 1) := by decide +kernel
theorem dX9_stands_167 : decode cX9_stands 167 = .ok (.aload_n 0, 1) := by decide +kernel
theorem dX9_stands_168 : decode cX9_stands 168 = .ok (.getfield 79, 3) := by decide +kernel
theorem dX9_stands_171 : decode cX9_stands 171 = .ok (.aload_n 0, 1) := by decide +kernel
theorem dX9_stands_172 : decode cX9_stands 172 = .ok (.getfield 109, 3) := by decide +kernel
theorem dX9_stands_175 : decode cX9_stands 175 = .ok (.iload_n 3, 1) := by decide +kernel
theorem dX9_stands_176 : decode cX9_stands 176 = .ok (.iaload, 1) := by decide +kernel
theorem dX9_stands_177 : decode cX9_stands 177 = .ok (.iaload, 1) := by decide +kernel
theorem dX9_stands_178 : decode cX9_stands 178 = .ok (.aload_n 0, 1) := by decide +kernel
theorem dX9_stands_179 : decode cX9_stands 179 = .ok (.getfield 82, 3) := by decide +kernel
theorem dX9_stands_182 : decode cX9_stands 182 = .ok (.aload_n 0, 1) := by decide +kernel
theorem dX9_stands_183 : decode cX9_stands 183 = .ok (.getfield 109, 3) := by decide +kernel
theorem dX9_stands_186 : decode cX9_stands 186 = .ok (.iload_n 3, 1) := by decide +kernel
theorem dX9_stands_187 : decode cX9_stands 187 = .ok (.iaload, 1) := by decide +kernel
theorem dX9_stands_188 : decode cX9_stands 188 = .ok (.iaload, 1) := by decide +kernel
theorem dX9_stands_189 : decode cX9_stands 189 = .ok (.invokevirtual 228, 3) := by decide +kernel
theorem dX9_stands_192 : decode cX9_stands 192 = .ok (.aload_n 0, 1) := by decide +kernel
theorem dX9_stands_193 : decode cX9_stands 193 = .ok (.getfield 42, 3) := by decide +kernel
theorem dX9_stands_196 : decode cX9_stands 196 = .ok (.if_icmp .gt 7, 3) := by decide +kernel
theorem dX9_stands_199 : decode cX9_stands 199 = .ok (.iconst 1, 1) := by decide +kernel
theorem dX9_stands_200 : decode cX9_stands 200 = .ok (.goto 4, 3) := by decide +kernel
theorem dX9_stands_203 : decode cX9_stands 203 = .ok (.iconst 0, 1) := by decide +kernel
theorem dX9_stands_204 : decode cX9_stands 204 = .ok (.istore_n 1, 1) := by decide +kernel
theorem dX9_stands_205 : decode cX9_stands 205 = .ok (.iinc 3 1, 3) := by decide +kernel
theorem dX9_stands_208 : decode cX9_stands 208 = .ok (.goto (-62), 3) := by decide +kernel
theorem dX9_stands_211 : decode cX9_stands 211 = .ok (.iconst 0, 1) := by decide +kernel
theorem dX9_stands_212 : decode cX9_stands 212 = .ok (.istore_n 3, 1) := by decide +kernel
theorem dX9_stands_213 : decode cX9_stands 213 = .ok (.iload_n 3, 1) := by decide +kernel
theorem dX9_stands_214 : decode cX9_stands 214 = .ok (.aload_n 0, 1) := by decide +kernel
theorem dX9_stands_215 : decode cX9_stands 215 = .ok (.getfield 234, 3) := by decide +kernel
theorem dX9_stands_218 : decode cX9_stands 218 = .ok (.if_icmp .ge 21, 3) := by decide +kernel
theorem dX9_stands_221 : decode cX9_stands 221 = .ok (.aload_n 0, 1) := by decide +kernel
theorem dX9_stands_222 : decode cX9_stands 222 = .ok (.getfield 85, 3) := by decide +kernel
theorem dX9_stands_225 : decode cX9_stands 225 = .ok (.aload_n 0, 1) := by decide +kernel
theorem dX9_stands_226 : decode cX9_stands 226 = .ok (.getfield 109, 3) := by decide +kernel
theorem dX9_stands_229 : decode cX9_stands 229 = .ok (.iload_n 3, 1) := by decide +kernel
theorem dX9_stands_230 : decode cX9_stands 230 = .ok (.iaload, 1) := by decide +kernel
theorem dX9_stands_231 : decode cX9_stands 231 = .ok (.iconst 4, 1) := by decide +kernel
theorem dX9_stands_232 : decode cX9_stands 232 = .ok (.iastore, 1) := by decide +kernel
theorem dX9_stands_233 : decode cX9_stands 233 = .ok (.iinc 3 1, 3) := by decide +kernel
theorem dX9_stands_236 : decode cX9_stands 236 = .ok (.goto (-23), 3) := by decide +kernel
theorem dX9_stands_239 : decode cX9_stands 239 = .ok (.iload_n 1, 1) := by decide +kernel
theorem dX9_stands_240 : decode cX9_stands 240 = .ok (.ireturn, 1) := by decide +kernel
theorem dX9_isLess_0 : decode cX9_isLess 0 = .ok (.iconst 0, 1) := by decide +kernel
theorem dX9_isLess_1 : decode cX9_isLess 1 = .ok (.istore_n 1, 1) := by decide +kernel
theorem dX9_isLess_2 : decode cX9_isLess 2 = .ok (.iload_n 1, 1) := by decide +kernel
theorem dX9_isLess_3 : decode cX9_isLess 3 = .ok (.aload_n 0, 1) := by decide +kernel
theorem dX9_isLess_4 : decode cX9_isLess 4 = .ok (.getfield 234, 3) := by decide +kernel
theorem dX9_isLess_7 : decode cX9_isLess 7 = .ok (.if_icmp .ge 45, 3) := by decide +kernel
theorem dX9_isLess_10 : decode cX9_isLess 10 = .ok (.aload_n 0, 1) := by decide +kernel
theorem dX9_isLess_11 : decode cX9_isLess 11 = .ok (.getfield 112, 3) := by decide +kernel
theorem dX9_isLess_14 : decode cX9_isLess 14 = .ok (.iload_n 1, 1) := by decide +kernel
theorem dX9_isLess_15 : decode cX9_isLess 15 = .ok (.iaload, 1) := by decide +kernel
theorem dX9_isLess_16 : decode cX9_isLess 16 = .ok (.aload_n 0, 1) := by decide +kernel
theorem dX9_isLess_17 : decode cX9_isLess 17 = .ok (.getfield 115, 3) := by decide +kernel
theorem dX9_isLess_20 : decode cX9_isLess 20 = .ok (.iload_n 1, 1) := by decide +kernel
theorem dX9_isLess_21 : decode cX9_isLess 21 = .ok (.iaload, 1) := by decide +kernel
theorem dX9_isLess_22 : decode cX9_isLess 22 = .ok (.if_icmp .eq 24, 3) := by decide +kernel
theorem dX9_isLess_25 : decode cX9_isLess 25 = .ok (.aload_n 0, 1) := by decide +kernel
theorem dX9_isLess_26 : decode cX9_isLess 26 = .ok (.getfield 112, 3) := by decide +kernel
theorem dX9_isLess_29 : decode cX9_isLess 29 = .ok (.iload_n 1, 1) := by decide +kernel
theorem dX9_isLess_30 : decode cX9_isLess 30 = .ok (.iaload, 1) := by decide +kernel
theorem dX9_isLess_31 : decode cX9_isLess 31 = .ok (.aload_n 0, 1) := by decide +kernel
theorem dX9_isLess_32 : decode cX9_isLess 32 = .ok (.getfield 115, 3) := by decide +kernel
theorem dX9_isLess_35 : decode cX9_isLess 35 = .ok (.iload_n 1, 1) := by decide +kernel
theorem dX9_isLess_36 : decode cX9_isLess 36 = .ok (.iaload, 1) := by decide +kernel
theorem dX9_isLess_37 : decode cX9_isLess 37 = .ok (.if_icmp .ge 7, 3) := by decide +kernel
theorem dX9_isLess_40 : decode cX9_isLess 40 = .ok (.iconst 1, 1) := by decide +kernel
theorem dX9_isLess_41 : decode cX9_isLess 41 = .ok (.goto 4, 3) := by decide +kernel
theorem dX9_isLess_44 : decode cX9_isLess 44 = .ok (.iconst 0, 1) := by decide +kernel
theorem dX9_isLess_45 : decode cX9_isLess 45 = .ok (.ireturn, 1) := by decide +kernel
theorem dX9_isLess_46 : decode cX9_isLess 46 = .ok (.iinc 1 1, 3) := by decide +kernel
theorem dX9_isLess_49 : decode cX9_isLess 49 = .ok (.goto (-47), 3) := by decide +kernel
theorem dX9_isLess_52 : decode cX9_isLess 52 = .ok (.iconst 0, 1) := by decide +kernel
theorem dX9_isLess_53 : decode cX9_isLess 53 = .ok (.ireturn, 1) := by decide +kernel
set_option maxRecDepth 20000 in
theorem ggX9_tries_X9_behind : GoodIn wsX9_tries wsX9_behind := goodIn_r _ [9] (by decide +kernel) (by decide +kernel)
set_option maxRecDepth 20000 in
theorem gX9_tries_X9_behind : GoodIn wsX9_tries (va_wsS RX9 237 yX9_behind wsX9_behind) := goodIn_app (goodIn_of _ (by decide +kernel)) ggX9_tries_X9_behind
set_option maxRecDepth 20000 in
theorem ggX9_tries_X9_isLess : GoodIn wsX9_tries wsX9_isLess := goodIn_r _ [13, 1, 2, 5, 42, 43, 44, 45, 46, 47, 48, 49, 50, 51, 52, 53, 54, 55, 56, 57, 58, 59, 60, 61, 62, 63, 64, 65, 66, 67, 68, 69, 70, 71, 72, 73, 74, 75, 76, 77, 78, 79, 80, 81, 82, 83, 84, 85, 86, 87, 88, 89, 90, 91, 92, 93, 94, 95, 96, 97, 98, 99, 100, 101, 102, 103, 104] (by decide +kernel) (by decide +kernel)
set_option maxRecDepth 20000 in
theorem gX9_tries_X9_isLess : GoodIn wsX9_tries (wsV RX9 247 RX9 yX9_isLess wsX9_isLess) := goodIn_app (goodIn_of _ (by decide +kernel)) ggX9_tries_X9_isLess
set_option maxRecDepth 20000 in
theorem ggX9_tries_X9_stands : GoodIn wsX9_tries wsX9_stands := goodIn_r _ [17, 1, 2, 18, 19, 20, 21, 22, 23, 24, 6, 7, 8, 9, 25, 26, 27, 28, 29, 30, 31, 32, 33, 34, 35, 36, 37, 38, 39, 40, 41, 42, 43, 44, 45, 46, 47, 48, 49, 50, 51, 52, 53, 54, 55, 56, 57, 58, 59, 60, 61, 62, 63, 64, 65, 66, 67, 68, 69, 70, 71, 72, 73, 74, 75, 76, 77, 78, 79, 80, 81, 82, 83, 84, 85, 86, 87, 88, 89, 90, 91, 92, 93, 94, 95, 96, 97, 98, 99, 100, 101, 102, 103, 104] (by decide +kernel) (by decide +kernel)
set_option maxRecDepth 20000 in
theorem gX9_tries_X9_stands : GoodIn wsX9_tries (wsV RX9 250 RX9 yX9_stands wsX9_stands) := goodIn_app (goodIn_of _ (by decide +kernel)) ggX9_tries_X9_stands
theorem dX9_tries_0 : decode cX9_tries 0 = .ok (.iconst 0, 1) := by decide +kernel
theorem dX9_tries_1 : decode cX9_tries 1 = .ok (.istore_n 1, 1) := by decide +kernel
theorem dX9_tries_2 : decode cX9_tries 2 = .ok (.iconst 0, 1) := by decide +kernel
theorem dX9_tries_3 : decode cX9_tries 3 = .ok (.istore_n 2, 1) := by decide +kernel
theorem dX9_tries_4 : decode cX9_tries 4 = .ok (.iconst 0, 1) := by decide +kernel
theorem dX9_tries_5 : decode cX9_tries 5 = .ok (.istore_n 3, 1) := by decide +kernel
theorem dX9_tries_6 : decode cX9_tries 6 = .ok (.iload_n 3, 1) := by decide +kernel
theorem dX9_tries_7 : decode cX9_tries 7 = .ok (.aload_n 0, 1) := by decide +kernel
theorem dX9_tries_8 : decode cX9_tries 8 = .ok (.getfield 234, 3) := by decide +kernel
theorem dX9_tries_11 : decode cX9_tries 11 = .ok (.if_icmp .ge 72, 3) := by decide +kernel
theorem dX9_tries_14 : decode cX9_tries 14 = .ok (.aload_n 0, 1) := by decide +kernel
theorem dX9_tries_15 : decode cX9_tries 15 = .ok (.getfield 112, 3) := by decide +kernel
theorem dX9_tries_18 : decode cX9_tries 18 = .ok (.iload_n 3, 1) := by decide +kernel
theorem dX9_tries_19 : decode cX9_tries 19 = .ok (.iaload, 1) := by decide +kernel
theorem dX9_tries_20 : decode cX9_tries 20 = .ok (.iconst 2, 1) := by decide +kernel
theorem dX9_tries_21 : decode cX9_tries 21 = .ok (.idiv, 1) := by decide +kernel
theorem dX9_tries_22 : decode cX9_tries 22 = .ok (.invokestatic 237, 3) := by decide +kernel
theorem dX9_tries_25 : decode cX9_tries 25 = .ok (.istore 4, 2) := by decide +kernel
theorem dX9_tries_27 : decode cX9_tries 27 = .ok (.iload_n 1, 1) := by decide +kernel
theorem dX9_tries_28 : decode cX9_tries 28 = .ok (.aload_n 0, 1) := by decide +kernel
theorem dX9_tries_29 : decode cX9_tries 29 = .ok (.getfield 112, 3) := by decide +kernel
theorem dX9_tries_32 : decode cX9_tries 32 = .ok (.iload_n 3, 1) := by decide +kernel
theorem dX9_tries_33 : decode cX9_tries 33 = .ok (.iaload, 1) := by decide +kernel
theorem dX9_tries_34 : decode cX9_tries 34 = .ok (.bipush 14, 2) := by decide +kernel
theorem dX9_tries_36 : decode cX9_tries 36 = .ok (.if_icmp .ne 7, 3) := by decide +kernel
theorem dX9_tries_39 : decode cX9_tries 39 = .ok (.iconst 1, 1) := by decide +kernel
theorem dX9_tries_40 : decode cX9_tries 40 = .ok (.goto 4, 3) := by decide +kernel
theorem dX9_tries_43 : decode cX9_tries 43 = .ok (.iconst 0, 1) := by decide +kernel
theorem dX9_tries_44 : decode cX9_tries 44 = .ok (.iadd, 1) := by decide +kernel
theorem dX9_tries_45 : decode cX9_tries 45 = .ok (.istore_n 1, 1) := by decide +kernel
theorem dX9_tries_46 : decode cX9_tries 46 = .ok (.iload_n 2, 1) := by decide +kernel
theorem dX9_tries_47 : decode cX9_tries 47 = .ok (.aload_n 0, 1) := by decide +kernel
theorem dX9_tries_48 : decode cX9_tries 48 = .ok (.getfield 112, 3) := by decide +kernel
theorem dX9_tries_51 : decode cX9_tries 51 = .ok (.iload_n 3, 1) := by decide +kernel
theorem dX9_tries_52 : decode cX9_tries 52 = .ok (.iaload, 1) := by decide +kernel
theorem dX9_tries_53 : decode cX9_tries 53 = .ok (.bipush 14, 2) := by decide +kernel
theorem dX9_tries_55 : decode cX9_tries 55 = .ok (.if_icmp .ne 7, 3) := by decide +kernel
theorem dX9_tries_58 : decode cX9_tries 58 = .ok (.iconst 0, 1) := by decide +kernel
theorem dX9_tries_59 : decode cX9_tries 59 = .ok (.goto 16, 3) := by decide +kernel
theorem dX9_tries_62 : decode cX9_tries 62 = .ok (.iload 4, 2) := by decide +kernel
theorem dX9_tries_64 : decode cX9_tries 64 = .ok (.ifCond .ge 9, 3) := by decide +kernel
theorem dX9_tries_67 : decode cX9_tries 67 = .ok (.iload 4, 2) := by decide +kernel
theorem dX9_tries_69 : decode cX9_tries 69 = .ok (.ineg, 1) := by decide +kernel
theorem dX9_tries_70 : decode cX9_tries 70 = .ok (.goto 5, 3) := by decide +kernel
theorem dX9_tries_73 : decode cX9_tries 73 = .ok (.iload 4, 2) := by decide +kernel
theorem dX9_tries_75 : decode cX9_tries 75 = .ok (.iadd, 1) := by decide +kernel
theorem dX9_tries_76 : decode cX9_tries 76 = .ok (.istore_n 2, 1) := by decide +kernel
theorem dX9_tries_77 : decode cX9_tries 77 = .ok (.iinc 3 1, 3) := by decide +kernel
theorem dX9_tries_80 : decode cX9_tries 80 = .ok (.goto (-74), 3) := by decide +kernel
theorem dX9_tries_83 : decode cX9_tries 83 = .ok (.aload_n 0, 1) := by decide +kernel
theorem dX9_tries_84 : decode cX9_tries 84 = .ok (.getfield 241, 3) := by decide +kernel
theorem dX9_tries_87 : decode cX9_tries 87 = .ok (.iconst (-1), 1) := by decide +kernel
theorem dX9_tries_88 : decode cX9_tries 88 = .ok (.if_icmp .eq 42, 3) := by decide +kernel
theorem dX9_tries_91 : decode cX9_tries 91 = .ok (.iload_n 1, 1) := by decide +kernel
theorem dX9_tries_92 : decode cX9_tries 92 = .ok (.aload_n 0, 1) := by decide +kernel
theorem dX9_tries_93 : decode cX9_tries 93 = .ok (.getfield 241, 3) := by decide +kernel
theorem dX9_tries_96 : decode cX9_tries 96 = .ok (.if_icmp .lt 34, 3) := by decide +kernel
theorem dX9_tries_99 : decode cX9_tries 99 = .ok (.iload_n 1, 1) := by decide +kernel
theorem dX9_tries_100 : decode cX9_tries 100 = .ok (.aload_n 0, 1) := by decide +kernel
theorem dX9_tries_101 : decode cX9_tries 101 = .ok (.getfield 241, 3) := by decide +kernel
theorem dX9_tries_104 : decode cX9_tries 104 = .ok (.if_icmp .ne 30, 3) := by decide +kernel
theorem dX9_tries_107 : decode cX9_tries 107 = .ok (.iload_n 2, 1) := by decide +kernel
theorem dX9_tries_108 : decode cX9_tries 108 = .ok (.aload_n 0, 1) := by decide +kernel
theorem dX9_tries_109 : decode cX9_tries 109 = .ok (.getfield 244, 3) := by decide +kernel
theorem dX9_tries_112 : decode cX9_tries 112 = .ok (.if_icmp .lt 18, 3) := by decide +kernel
theorem dX9_tries_115 : decode cX9_tries 115 = .ok (.iload_n 2, 1) := by decide +kernel
theorem dX9_tries_116 : decode cX9_tries 116 = .ok (.aload_n 0, 1) := by decide +kernel
theorem dX9_tries_117 : decode cX9_tries 117 = .ok (.getfield 244, 3) := by decide +kernel
theorem dX9_tries_120 : decode cX9_tries 120 = .ok (.if_icmp .ne 14, 3) := by decide +kernel
theorem dX9_tries_123 : decode cX9_tries 123 = .ok (.aload_n 0, 1) := by decide +kernel
theorem dX9_tries_124 : decode cX9_tries 124 = .ok (.invokevirtual 247, 3) := by decide +kernel
theorem dX9_tries_127 : decode cX9_tries 127 = .ok (.ifCond .eq 7, 3) := by decide +kernel
theorem dX9_tries_130 : decode cX9_tries 130 = .ok (.iconst 1, 1) := by decide +kernel
theorem dX9_tries_131 : decode cX9_tries 131 = .ok (.goto 4, 3) := by decide +kernel
theorem dX9_tries_134 : decode cX9_tries 134 = .ok (.iconst 0, 1) := by decide +kernel
theorem dX9_tries_135 : decode cX9_tries 135 = .ok (.istore_n 3, 1) := by decide +kernel
theorem dX9_tries_136 : decode cX9_tries 136 = .ok (.iload_n 3, 1) := by decide +kernel
theorem dX9_tries_137 : decode cX9_tries 137 = .ok (.ifCond .eq 10, 3) := by decide +kernel
theorem dX9_tries_140 : decode cX9_tries 140 = .ok (.aload_n 0, 1) := by decide +kernel
theorem dX9_tries_141 : decode cX9_tries 141 = .ok (.invokevirtual 250, 3) := by decide +kernel
theorem dX9_tries_144 : decode cX9_tries 144 = .ok (.ifCond .ne 4, 3) := by decide +kernel
theorem dX9_tries_147 : decode cX9_tries 147 = .ok (.return_, 1) := by decide +kernel
theorem dX9_tries_148 : decode cX9_tries 148 = .ok (.aload_n 0, 1) := by decide +kernel
theorem dX9_tries_149 : decode cX9_tries 149 = .ok (.iload_n 1, 1) := by decide +kernel
theorem dX9_tries_150 : decode cX9_tries 150 = .ok (.putfield 241, 3) := by decide +kernel
theorem dX9_tries_153 : decode cX9_tries 153 = .ok (.aload_n 0, 1) := by decide +kernel
theorem dX9_tries_154 : decode cX9_tries 154 = .ok (.iload_n 2, 1) := by decide +kernel
theorem dX9_tries_155 : decode cX9_tries 155 = .ok (.putfield 244, 3) := by decide +kernel
theorem dX9_tries_158 : decode cX9_tries 158 = .ok (.iconst 0, 1) := by decide +kernel
theorem dX9_tries_159 : decode cX9_tries 159 = .ok (.istore 4, 2) := by decide +kernel
theorem dX9_tries_161 : decode cX9_tries 161 = .ok (.iload 4, 2) := by decide +kernel
theorem dX9_tries_163 : decode cX9_tries 163 = .ok (.aload_n 0, 1) := by decide +kernel
theorem dX9_tries_164 : decode cX9_tries 164 = .ok (.getfield 234, 3) := by decide +kernel
theorem dX9_tries_167 : decode cX9_tries 167 = .ok (.if_icmp .ge 23, 3) := by decide +kernel
theorem dX9_tries_170 : decode cX9_tries 170 = .ok (.aload_n 0, 1) := by decide +kernel
theorem dX9_tries_171 : decode cX9_tries 171 = .ok (.getfield 115, 3) := by decide +kernel
theorem dX9_tries_174 : decode cX9_tries 174 = .ok (.iload 4, 2) := by decide +kernel
theorem dX9_tries_176 : decode cX9_tries 176 = .ok (.aload_n 0, 1) := by decide +kernel
theorem dX9_tries_177 : decode cX9_tries 177 = .ok (.getfield 112, 3) := by decide +kernel
theorem dX9_tries_180 : decode cX9_tries 180 = .ok (.iload 4, 2) := by decide +kernel
theorem dX9_tries_182 : decode cX9_tries 182 = .ok (.iaload, 1) := by decide +kernel
theorem dX9_tries_183 : decode cX9_tries 183 = .ok (.iastore, 1) := by decide +kernel
theorem dX9_tries_184 : decode cX9_tries 184 = .ok (.iinc 4 1, 3) := by decide +kernel
theorem dX9_tries_187 : decode cX9_tries 187 = .ok (.goto (-26), 3) := by decide +kernel
theorem dX9_tries_190 : decode cX9_tries 190 = .ok (.return_, 1) := by decide +kernel
set_option maxRecDepth 20000 in
theorem ggX9_close_X9_isSheet : GoodIn wsX9_close wsX9_isSheet := goodIn_r _ [20] (by decide +kernel) (by decide +kernel)
set_option maxRecDepth 20000 in
theorem gX9_close_X9_isSheet : GoodIn wsX9_close (va_wsS RX9 216 yX9_isSheet wsX9_isSheet) := goodIn_app (goodIn_of _ (by decide +kernel)) ggX9_close_X9_isSheet
set_option maxRecDepth 20000 in
theorem ggX9_close_X9_tries : GoodIn wsX9_close wsX9_tries := goodIn_r _ [24, 3, 14, 13, 25, 15, 26, 27, 19, 28, 29, 30, 31, 32, 33, 34, 35, 36, 9, 1, 5, 8, 6, 7, 37, 38, 39, 40, 41, 2, 10, 11, 12, 42, 43, 44, 45, 4, 46, 47, 48, 49, 50, 51, 52, 53, 54, 55, 56, 57, 58, 59, 60, 61, 62, 63, 64, 65, 66, 67, 68, 69, 70, 71, 72, 73, 74, 75, 76, 77, 78, 79, 80, 81, 82, 83, 84, 85, 86, 87, 88, 89, 90, 91, 92, 93, 94, 95, 96, 97, 98, 99, 100, 101, 102, 103, 104, 105, 106, 107, 108, 109, 110, 111, 112] (by decide +kernel) (by decide +kernel)
set_option maxRecDepth 20000 in
theorem gX9_close_X9_tries : GoodIn wsX9_close (wsV RX9 253 RX9 yX9_tries wsX9_tries) := goodIn_app (goodIn_of _ (by decide +kernel)) ggX9_close_X9_tries
set_option maxRecDepth 20000 in
theorem ggX9_close_X9_behind : GoodIn wsX9_close wsX9_behind := goodIn_r _ [28] (by decide +kernel) (by decide +kernel)
set_option maxRecDepth 20000 in
theorem gX9_close_X9_behind : GoodIn wsX9_close (va_wsS RX9 237 yX9_behind wsX9_behind) := goodIn_app (goodIn_of _ (by decide +kernel)) ggX9_close_X9_behind
theorem dX9_close_0 : decode cX9_close 0 = .ok (.iload_n 1, 1) := by decide +kernel
theorem dX9_close_1 : decode cX9_close 1 = .ok (.invokestatic 216, 3) := by decide +kernel
theorem dX9_close_4 : decode cX9_close 4 = .ok (.ifCond .eq 45, 3) := by decide +kernel
theorem dX9_close_7 : decode cX9_close 7 = .ok (.iload_n 2, 1) := by decide +kernel
theorem dX9_close_8 : decode cX9_close 8 = .ok (.aload_n 0, 1) := by decide +kernel
theorem dX9_close_9 : decode cX9_close 9 = .ok (.getfield 219, 3) := by decide +kernel
theorem dX9_close_12 : decode cX9_close 12 = .ok (.if_icmp .lt 37, 3) := by decide +kernel
theorem dX9_close_15 : decode cX9_close 15 = .ok (.iload_n 3, 1) := by decide +kernel
theorem dX9_close_16 : decode cX9_close 16 = .ok (.iload_n 2, 1) := by decide +kernel
theorem dX9_close_17 : decode cX9_close 17 = .ok (.if_icmp .le 32, 3) := by decide +kernel
theorem dX9_close_20 : decode cX9_close 20 = .ok (.iload_n 3, 1) := by decide +kernel
theorem dX9_close_21 : decode cX9_close 21 = .ok (.aload_n 0, 1) := by decide +kernel
theorem dX9_close_22 : decode cX9_close 22 = .ok (.getfield 219, 3) := by decide +kernel
theorem dX9_close_25 : decode cX9_close 25 = .ok (.sipush 1000, 3) := by decide +kernel
theorem dX9_close_28 : decode cX9_close 28 = .ok (.iadd, 1) := by decide +kernel
theorem dX9_close_29 : decode cX9_close 29 = .ok (.if_icmp .gt 20, 3) := by decide +kernel
theorem dX9_close_32 : decode cX9_close 32 = .ok (.iload_n 3, 1) := by decide +kernel
theorem dX9_close_33 : decode cX9_close 33 = .ok (.iload_n 2, 1) := by decide +kernel
theorem dX9_close_34 : decode cX9_close 34 = .ok (.isub, 1) := by decide +kernel
theorem dX9_close_35 : decode cX9_close 35 = .ok (.bipush 100, 2) := by decide +kernel
theorem dX9_close_37 : decode cX9_close 37 = .ok (.if_icmp .gt 12, 3) := by decide +kernel
theorem dX9_close_40 : decode cX9_close 40 = .ok (.aload_n 0, 1) := by decide +kernel
theorem dX9_close_41 : decode cX9_close 41 = .ok (.getfield 202, 3) := by decide +kernel
theorem dX9_close_44 : decode cX9_close 44 = .ok (.bipush 10, 2) := by decide +kernel
theorem dX9_close_46 : decode cX9_close 46 = .ok (.if_icmp .ne 5, 3) := by decide +kernel
theorem dX9_close_49 : decode cX9_close 49 = .ok (.iconst (-1), 1) := by decide +kernel
theorem dX9_close_50 : decode cX9_close 50 = .ok (.ireturn, 1) := by decide +kernel
theorem dX9_close_51 : decode cX9_close 51 = .ok (.aload_n 0, 1) := by decide +kernel
theorem dX9_close_52 : decode cX9_close 52 = .ok (.iconst 0, 1) := by decide +kernel
theorem dX9_close_53 : decode cX9_close 53 = .ok (.putfield 234, 3) := by decide +kernel
theorem dX9_close_56 : decode cX9_close 56 = .ok (.iconst 0, 1) := by decide +kernel
theorem dX9_close_57 : decode cX9_close 57 = .ok (.istore 4, 2) := by decide +kernel
theorem dX9_close_59 : decode cX9_close 59 = .ok (.iload 4, 2) := by decide +kernel
theorem dX9_close_61 : decode cX9_close 61 = .ok (.aload_n 0, 1) := by decide +kernel
theorem dX9_close_62 : decode cX9_close 62 = .ok (.getfield 205, 3) := by decide +kernel
theorem dX9_close_65 : decode cX9_close 65 = .ok (.if_icmp .ge 102, 3) := by decide +kernel
theorem dX9_close_68 : decode cX9_close 68 = .ok (.aload_n 0, 1) := by decide +kernel
theorem dX9_close_69 : decode cX9_close 69 = .ok (.getfield 85, 3) := by decide +kernel
theorem dX9_close_72 : decode cX9_close 72 = .ok (.iload 4, 2) := by decide +kernel
theorem dX9_close_74 : decode cX9_close 74 = .ok (.iaload, 1) := by decide +kernel
theorem dX9_close_75 : decode cX9_close 75 = .ok (.ifCond .ne 86, 3) := by decide +kernel
theorem dX9_close_78 : decode cX9_close 78 = .ok (.aload_n 0, 1) := by decide +kernel
theorem dX9_close_79 : decode cX9_close 79 = .ok (.getfield 79, 3) := by decide +kernel
theorem dX9_close_82 : decode cX9_close 82 = .ok (.iload 4, 2) := by decide +kernel
theorem dX9_close_84 : decode cX9_close 84 = .ok (.iaload, 1) := by decide +kernel
theorem dX9_close_85 : decode cX9_close 85 = .ok (.iload_n 1, 1) := by decide +kernel
theorem dX9_close_86 : decode cX9_close 86 = .ok (.if_icmp .ne 75, 3) := by decide +kernel
theorem dX9_close_89 : decode cX9_close 89 = .ok (.aload_n 0, 1) := by decide +kernel
theorem dX9_close_90 : decode cX9_close 90 = .ok (.getfield 82, 3) := by decide +kernel
theorem dX9_close_93 : decode cX9_close 93 = .ok (.iload 4, 2) := by decide +kernel
theorem dX9_close_95 : decode cX9_close 95 = .ok (.iaload, 1) := by decide +kernel
theorem dX9_close_96 : decode cX9_close 96 = .ok (.iload_n 2, 1) := by decide +kernel
theorem dX9_close_97 : decode cX9_close 97 = .ok (.if_icmp .lt 64, 3) := by decide +kernel
theorem dX9_close_100 : decode cX9_close 100 = .ok (.aload_n 0, 1) := by decide +kernel
theorem dX9_close_101 : decode cX9_close 101 = .ok (.getfield 82, 3) := by decide +kernel
theorem dX9_close_104 : decode cX9_close 104 = .ok (.iload 4, 2) := by decide +kernel
theorem dX9_close_106 : decode cX9_close 106 = .ok (.iaload, 1) := by decide +kernel
theorem dX9_close_107 : decode cX9_close 107 = .ok (.iload_n 3, 1) := by decide +kernel
theorem dX9_close_108 : decode cX9_close 108 = .ok (.if_icmp .lt 6, 3) := by decide +kernel
theorem dX9_close_111 : decode cX9_close 111 = .ok (.goto 50, 3) := by decide +kernel
theorem dX9_close_114 : decode cX9_close 114 = .ok (.aload_n 0, 1) := by decide +kernel
theorem dX9_close_115 : decode cX9_close 115 = .ok (.getfield 234, 3) := by decide +kernel
theorem dX9_close_118 : decode cX9_close 118 = .ok (.iconst 5, 1) := by decide +kernel
theorem dX9_close_119 : decode cX9_close 119 = .ok (.if_icmp .ne 5, 3) := by decide +kernel
theorem dX9_close_122 : decode cX9_close 122 = .ok (.iconst (-1), 1) := by decide +kernel
theorem dX9_close_123 : decode cX9_close 123 = .ok (.ireturn, 1) := by decide +kernel
theorem dX9_close_124 : decode cX9_close 124 = .ok (.aload_n 0, 1) := by decide +kernel
theorem dX9_close_125 : decode cX9_close 125 = .ok (.getfield 109, 3) := by decide +kernel
theorem dX9_close_128 : decode cX9_close 128 = .ok (.aload_n 0, 1) := by decide +kernel
theorem dX9_close_129 : decode cX9_close 129 = .ok (.getfield 234, 3) := by decide +kernel
theorem dX9_close_132 : decode cX9_close 132 = .ok (.iload 4, 2) := by decide +kernel
theorem dX9_close_134 : decode cX9_close 134 = .ok (.iastore, 1) := by decide +kernel
theorem dX9_close_135 : decode cX9_close 135 = .ok (.aload_n 0, 1) := by decide +kernel
theorem dX9_close_136 : decode cX9_close 136 = .ok (.getfield 118, 3) := by decide +kernel
theorem dX9_close_139 : decode cX9_close 139 = .ok (.aload_n 0, 1) := by decide +kernel
theorem dX9_close_140 : decode cX9_close 140 = .ok (.getfield 234, 3) := by decide +kernel
theorem dX9_close_143 : decode cX9_close 143 = .ok (.aload_n 0, 1) := by decide +kernel
theorem dX9_close_144 : decode cX9_close 144 = .ok (.getfield 82, 3) := by decide +kernel
theorem dX9_close_147 : decode cX9_close 147 = .ok (.iload 4, 2) := by decide +kernel
theorem dX9_close_149 : decode cX9_close 149 = .ok (.iaload, 1) := by decide +kernel
theorem dX9_close_150 : decode cX9_close 150 = .ok (.iastore, 1) := by decide +kernel
theorem dX9_close_151 : decode cX9_close 151 = .ok (.aload_n 0, 1) := by decide +kernel
theorem dX9_close_152 : decode cX9_close 152 = .ok (.aload_n 0, 1) := by decide +kernel
theorem dX9_close_153 : decode cX9_close 153 = .ok (.getfield 234, 3) := by decide +kernel
theorem dX9_close_156 : decode cX9_close 156 = .ok (.iconst 1, 1) := by decide +kernel
theorem dX9_close_157 : decode cX9_close 157 = .ok (.iadd, 1) := by decide +kernel
theorem dX9_close_158 : decode cX9_close 158 = .ok (.putfield 234, 3) := by decide +kernel
theorem dX9_close_161 : decode cX9_close 161 = .ok (.iinc 4 1, 3) := by decide +kernel
theorem dX9_close_164 : decode cX9_close 164 = .ok (.goto (-105), 3) := by decide +kernel
theorem dX9_close_167 : decode cX9_close 167 = .ok (.aload_n 0, 1) := by decide +kernel
theorem dX9_close_168 : decode cX9_close 168 = .ok (.getfield 100, 3) := by decide +kernel
theorem dX9_close_171 : decode cX9_close 171 = .ok (.aload_n 0, 1) := by decide +kernel
theorem dX9_close_172 : decode cX9_close 172 = .ok (.getfield 202, 3) := by decide +kernel
theorem dX9_close_175 : decode cX9_close 175 = .ok (.iload_n 1, 1) := by decide +kernel
theorem dX9_close_176 : decode cX9_close 176 = .ok (.iastore, 1) := by decide +kernel
theorem dX9_close_177 : decode cX9_close 177 = .ok (.aload_n 0, 1) := by decide +kernel
theorem dX9_close_178 : decode cX9_close 178 = .ok (.getfield 103, 3) := by decide +kernel
theorem dX9_close_181 : decode cX9_close 181 = .ok (.aload_n 0, 1) := by decide +kernel
theorem dX9_close_182 : decode cX9_close 182 = .ok (.getfield 202, 3) := by decide +kernel
theorem dX9_close_185 : decode cX9_close 185 = .ok (.iload_n 2, 1) := by decide +kernel
theorem dX9_close_186 : decode cX9_close 186 = .ok (.iastore, 1) := by decide +kernel
theorem dX9_close_187 : decode cX9_close 187 = .ok (.aload_n 0, 1) := by decide +kernel
theorem dX9_close_188 : decode cX9_close 188 = .ok (.getfield 106, 3) := by decide +kernel
theorem dX9_close_191 : decode cX9_close 191 = .ok (.aload_n 0, 1) := by decide +kernel
theorem dX9_close_192 : decode cX9_close 192 = .ok (.getfield 202, 3) := by decide +kernel
theorem dX9_close_195 : decode cX9_close 195 = .ok (.iload_n 3, 1) := by decide +kernel
theorem dX9_close_196 : decode cX9_close 196 = .ok (.iastore, 1) := by decide +kernel
theorem dX9_close_197 : decode cX9_close 197 = .ok (.aload_n 0, 1) := by decide +kernel
theorem dX9_close_198 : decode cX9_close 198 = .ok (.aload_n 0, 1) := by decide +kernel
theorem dX9_close_199 : decode cX9_close 199 = .ok (.getfield 202, 3) := by decide +kernel
theorem dX9_close_202 : decode cX9_close 202 = .ok (.iconst 1, 1) := by decide +kernel
theorem dX9_close_203 : decode cX9_close 203 = .ok (.iadd, 1) := by decide +kernel
theorem dX9_close_204 : decode cX9_close 204 = .ok (.putfield 202, 3) := by decide +kernel
theorem dX9_close_207 : decode cX9_close 207 = .ok (.iconst 1, 1) := by decide +kernel
theorem dX9_close_208 : decode cX9_close 208 = .ok (.istore 4, 2) := by decide +kernel
theorem dX9_close_210 : decode cX9_close 210 = .ok (.iconst 0, 1) := by decide +kernel
theorem dX9_close_211 : decode cX9_close 211 = .ok (.istore 5, 2) := by decide +kernel
theorem dX9_close_213 : decode cX9_close 213 = .ok (.iload 5, 2) := by decide +kernel
theorem dX9_close_215 : decode cX9_close 215 = .ok (.aload_n 0, 1) := by decide +kernel
theorem dX9_close_216 : decode cX9_close 216 = .ok (.getfield 234, 3) := by decide +kernel
theorem dX9_close_219 : decode cX9_close 219 = .ok (.if_icmp .ge 29, 3) := by decide +kernel
theorem dX9_close_222 : decode cX9_close 222 = .ok (.aload_n 0, 1) := by decide +kernel
theorem dX9_close_223 : decode cX9_close 223 = .ok (.getfield 85, 3) := by decide +kernel
theorem dX9_close_226 : decode cX9_close 226 = .ok (.aload_n 0, 1) := by decide +kernel
theorem dX9_close_227 : decode cX9_close 227 = .ok (.getfield 109, 3) := by decide +kernel
theorem dX9_close_230 : decode cX9_close 230 = .ok (.iload 5, 2) := by decide +kernel
theorem dX9_close_232 : decode cX9_close 232 = .ok (.iaload, 1) := by decide +kernel
theorem dX9_close_233 : decode cX9_close 233 = .ok (.iconst 4, 1) := by decide +kernel
theorem dX9_close_234 : decode cX9_close 234 = .ok (.iastore, 1) := by decide +kernel
theorem dX9_close_235 : decode cX9_close 235 = .ok (.bipush 15, 2) := by decide +kernel
theorem dX9_close_237 : decode cX9_close 237 = .ok (.iload 4, 2) := by decide +kernel
theorem dX9_close_239 : decode cX9_close 239 = .ok (.imul, 1) := by decide +kernel
theorem dX9_close_240 : decode cX9_close 240 = .ok (.istore 4, 2) := by decide +kernel
theorem dX9_close_242 : decode cX9_close 242 = .ok (.iinc 5 1, 3) := by decide +kernel
theorem dX9_close_245 : decode cX9_close 245 = .ok (.goto (-32), 3) := by decide +kernel
theorem dX9_close_248 : decode cX9_close 248 = .ok (.aload_n 0, 1) := by decide +kernel
theorem dX9_close_249 : decode cX9_close 249 = .ok (.iconst (-1), 1) := by decide +kernel
theorem dX9_close_250 : decode cX9_close 250 = .ok (.putfield 241, 3) := by decide +kernel
theorem dX9_close_253 : decode cX9_close 253 = .ok (.iconst 0, 1) := by decide +kernel
theorem dX9_close_254 : decode cX9_close 254 = .ok (.istore 5, 2) := by decide +kernel
theorem dX9_close_256 : decode cX9_close 256 = .ok (.iload 5, 2) := by decide +kernel
theorem dX9_close_258 : decode cX9_close 258 = .ok (.iload 4, 2) := by decide +kernel
theorem dX9_close_260 : decode cX9_close 260 = .ok (.if_icmp .ge 55, 3) := by decide +kernel
theorem dX9_close_263 : decode cX9_close 263 = .ok (.iload 5, 2) := by decide +kernel
theorem dX9_close_265 : decode cX9_close 265 = .ok (.istore 6, 2) := by decide +kernel
theorem dX9_close_267 : decode cX9_close 267 = .ok (.aload_n 0, 1) := by decide +kernel
theorem dX9_close_268 : decode cX9_close 268 = .ok (.getfield 234, 3) := by decide +kernel
theorem dX9_close_271 : decode cX9_close 271 = .ok (.iconst 1, 1) := by decide +kernel
theorem dX9_close_272 : decode cX9_close 272 = .ok (.isub, 1) := by decide +kernel
theorem dX9_close_273 : decode cX9_close 273 = .ok (.istore 7, 2) := by decide +kernel
theorem dX9_close_275 : decode cX9_close 275 = .ok (.iload 7, 2) := by decide +kernel
theorem dX9_close_277 : decode cX9_close 277 = .ok (.ifCond .lt 28, 3) := by decide +kernel
theorem dX9_close_280 : decode cX9_close 280 = .ok (.aload_n 0, 1) := by decide +kernel
theorem dX9_close_281 : decode cX9_close 281 = .ok (.getfield 112, 3) := by decide +kernel
theorem dX9_close_284 : decode cX9_close 284 = .ok (.iload 7, 2) := by decide +kernel
theorem dX9_close_286 : decode cX9_close 286 = .ok (.iload 6, 2) := by decide +kernel
theorem dX9_close_288 : decode cX9_close 288 = .ok (.bipush 15, 2) := by decide +kernel
theorem dX9_close_290 : decode cX9_close 290 = .ok (.irem, 1) := by decide +kernel
theorem dX9_close_291 : decode cX9_close 291 = .ok (.iastore, 1) := by decide +kernel
theorem dX9_close_292 : decode cX9_close 292 = .ok (.iload 6, 2) := by decide +kernel
theorem dX9_close_294 : decode cX9_close 294 = .ok (.bipush 15, 2) := by decide +kernel
theorem dX9_close_296 : decode cX9_close 296 = .ok (.idiv, 1) := by decide +kernel
theorem dX9_close_297 : decode cX9_close 297 = .ok (.istore 6, 2) := by decide +kernel
theorem dX9_close_299 : decode cX9_close 299 = .ok (.iinc 7 (-1), 3) := by decide +kernel
theorem dX9_close_302 : decode cX9_close 302 = .ok (.goto (-27), 3) := by decide +kernel
theorem dX9_close_305 : decode cX9_close 305 = .ok (.aload_n 0, 1) := by decide +kernel
theorem dX9_close_306 : decode cX9_close 306 = .ok (.invokevirtual 253, 3) := by decide +kernel
theorem dX9_close_309 : decode cX9_close 309 = .ok (.iinc 5 1, 3) := by decide +kernel
theorem dX9_close_312 : decode cX9_close 312 = .ok (.goto (-56), 3) := by decide +kernel
theorem dX9_close_315 : decode cX9_close 315 = .ok (.iconst 0, 1) := by decide +kernel
theorem dX9_close_316 : decode cX9_close 316 = .ok (.istore 5, 2) := by decide +kernel
theorem dX9_close_318 : decode cX9_close 318 = .ok (.iload 5, 2) := by decide +kernel
theorem dX9_close_320 : decode cX9_close 320 = .ok (.aload_n 0, 1) := by decide +kernel
theorem dX9_close_321 : decode cX9_close 321 = .ok (.getfield 234, 3) := by decide +kernel
theorem dX9_close_324 : decode cX9_close 324 = .ok (.if_icmp .ge 171, 3) := by decide +kernel
theorem dX9_close_327 : decode cX9_close 327 = .ok (.aload_n 0, 1) := by decide +kernel
theorem dX9_close_328 : decode cX9_close 328 = .ok (.getfield 79, 3) := by decide +kernel
theorem dX9_close_331 : decode cX9_close 331 = .ok (.aload_n 0, 1) := by decide +kernel
theorem dX9_close_332 : decode cX9_close 332 = .ok (.getfield 109, 3) := by decide +kernel
theorem dX9_close_335 : decode cX9_close 335 = .ok (.iload 5, 2) := by decide +kernel
theorem dX9_close_337 : decode cX9_close 337 = .ok (.iaload, 1) := by decide +kernel
theorem dX9_close_338 : decode cX9_close 338 = .ok (.aload_n 0, 1) := by decide +kernel
theorem dX9_close_339 : decode cX9_close 339 = .ok (.getfield 115, 3) := by decide +kernel
theorem dX9_close_342 : decode cX9_close 342 = .ok (.iload 5, 2) := by decide +kernel
theorem dX9_close_344 : decode cX9_close 344 = .ok (.iaload, 1) := by decide +kernel
theorem dX9_close_345 : decode cX9_close 345 = .ok (.bipush 14, 2) := by decide +kernel
theorem dX9_close_347 : decode cX9_close 347 = .ok (.if_icmp .ne 7, 3) := by decide +kernel
theorem dX9_close_350 : decode cX9_close 350 = .ok (.iload_n 1, 1) := by decide +kernel
theorem dX9_close_351 : decode cX9_close 351 = .ok (.goto 12, 3) := by decide +kernel
theorem dX9_close_354 : decode cX9_close 354 = .ok (.aload_n 0, 1) := by decide +kernel
theorem dX9_close_355 : decode cX9_close 355 = .ok (.getfield 115, 3) := by decide +kernel
theorem dX9_close_358 : decode cX9_close 358 = .ok (.iload 5, 2) := by decide +kernel
theorem dX9_close_360 : decode cX9_close 360 = .ok (.iaload, 1) := by decide +kernel
theorem dX9_close_361 : decode cX9_close 361 = .ok (.iconst 2, 1) := by decide +kernel
theorem dX9_close_362 : decode cX9_close 362 = .ok (.irem, 1) := by decide +kernel
theorem dX9_close_363 : decode cX9_close 363 = .ok (.iastore, 1) := by decide +kernel
theorem dX9_close_364 : decode cX9_close 364 = .ok (.aload_n 0, 1) := by decide +kernel
theorem dX9_close_365 : decode cX9_close 365 = .ok (.getfield 82, 3) := by decide +kernel
theorem dX9_close_368 : decode cX9_close 368 = .ok (.aload_n 0, 1) := by decide +kernel
theorem dX9_close_369 : decode cX9_close 369 = .ok (.getfield 109, 3) := by decide +kernel
theorem dX9_close_372 : decode cX9_close 372 = .ok (.iload 5, 2) := by decide +kernel
theorem dX9_close_374 : decode cX9_close 374 = .ok (.iaload, 1) := by decide +kernel
theorem dX9_close_375 : decode cX9_close 375 = .ok (.aload_n 0, 1) := by decide +kernel
theorem dX9_close_376 : decode cX9_close 376 = .ok (.getfield 115, 3) := by decide +kernel
theorem dX9_close_379 : decode cX9_close 379 = .ok (.iload 5, 2) := by decide +kernel
theorem dX9_close_381 : decode cX9_close 381 = .ok (.iaload, 1) := by decide +kernel
theorem dX9_close_382 : decode cX9_close 382 = .ok (.bipush 14, 2) := by decide +kernel
theorem dX9_close_384 : decode cX9_close 384 = .ok (.if_icmp .ne 13, 3) := by decide +kernel
theorem dX9_close_387 : decode cX9_close 387 = .ok (.aload_n 0, 1) := by decide +kernel
theorem dX9_close_388 : decode cX9_close 388 = .ok (.getfield 118, 3) := by decide +kernel
theorem dX9_close_391 : decode cX9_close 391 = .ok (.iload 5, 2) := by decide +kernel
theorem dX9_close_393 : decode cX9_close 393 = .ok (.iaload, 1) := by decide +kernel
theorem dX9_close_394 : decode cX9_close 394 = .ok (.goto 23, 3) := by decide +kernel
theorem dX9_close_397 : decode cX9_close 397 = .ok (.aload_n 0, 1) := by decide +kernel
theorem dX9_close_398 : decode cX9_close 398 = .ok (.getfield 118, 3) := by decide +kernel
theorem dX9_close_401 : decode cX9_close 401 = .ok (.iload 5, 2) := by decide +kernel
theorem dX9_close_403 : decode cX9_close 403 = .ok (.iaload, 1) := by decide +kernel
theorem dX9_close_404 : decode cX9_close 404 = .ok (.aload_n 0, 1) := by decide +kernel
theorem dX9_close_405 : decode cX9_close 405 = .ok (.getfield 115, 3) := by decide +kernel
theorem dX9_close_408 : decode cX9_close 408 = .ok (.iload 5, 2) := by decide +kernel
theorem dX9_close_410 : decode cX9_close 410 = .ok (.iaload, 1) := by decide +kernel
theorem dX9_close_411 : decode cX9_close 411 = .ok (.iconst 2, 1) := by decide +kernel
theorem dX9_close_412 : decode cX9_close 412 = .ok (.idiv, 1) := by decide +kernel
theorem dX9_close_413 : decode cX9_close 413 = .ok (.invokestatic 237, 3) := by decide +kernel
theorem dX9_close_416 : decode cX9_close 416 = .ok (.iadd, 1) := by decide +kernel
theorem dX9_close_417 : decode cX9_close 417 = .ok (.iastore, 1) := by decide +kernel
theorem dX9_close_418 : decode cX9_close 418 = .ok (.aload_n 0, 1) := by decide +kernel
theorem dX9_close_419 : decode cX9_close 419 = .ok (.getfield 85, 3) := by decide +kernel
theorem dX9_close_422 : decode cX9_close 422 = .ok (.aload_n 0, 1) := by decide +kernel
theorem dX9_close_423 : decode cX9_close 423 = .ok (.getfield 109, 3) := by decide +kernel
theorem dX9_close_426 : decode cX9_close 426 = .ok (.iload 5, 2) := by decide +kernel
theorem dX9_close_428 : decode cX9_close 428 = .ok (.iaload, 1) := by decide +kernel
theorem dX9_close_429 : decode cX9_close 429 = .ok (.aload_n 0, 1) := by decide +kernel
theorem dX9_close_430 : decode cX9_close 430 = .ok (.getfield 115, 3) := by decide +kernel
theorem dX9_close_433 : decode cX9_close 433 = .ok (.iload 5, 2) := by decide +kernel
theorem dX9_close_435 : decode cX9_close 435 = .ok (.iaload, 1) := by decide +kernel
theorem dX9_close_436 : decode cX9_close 436 = .ok (.bipush 14, 2) := by decide +kernel
theorem dX9_close_438 : decode cX9_close 438 = .ok (.if_icmp .ne 7, 3) := by decide +kernel
theorem dX9_close_441 : decode cX9_close 441 = .ok (.iconst 4, 1) := by decide +kernel
theorem dX9_close_442 : decode cX9_close 442 = .ok (.goto 4, 3) := by decide +kernel
theorem dX9_close_445 : decode cX9_close 445 = .ok (.iconst 0, 1) := by decide +kernel
theorem dX9_close_446 : decode cX9_close 446 = .ok (.iastore, 1) := by decide +kernel
theorem dX9_close_447 : decode cX9_close 447 = .ok (.aload_n 0, 1) := by decide +kernel
theorem dX9_close_448 : decode cX9_close 448 = .ok (.getfield 97, 3) := by decide +kernel
theorem dX9_close_451 : decode cX9_close 451 = .ok (.aload_n 0, 1) := by decide +kernel
theorem dX9_close_452 : decode cX9_close 452 = .ok (.getfield 109, 3) := by decide +kernel
theorem dX9_close_455 : decode cX9_close 455 = .ok (.iload 5, 2) := by decide +kernel
theorem dX9_close_457 : decode cX9_close 457 = .ok (.iaload, 1) := by decide +kernel
theorem dX9_close_458 : decode cX9_close 458 = .ok (.aload_n 0, 1) := by decide +kernel
theorem dX9_close_459 : decode cX9_close 459 = .ok (.getfield 97, 3) := by decide +kernel
theorem dX9_close_462 : decode cX9_close 462 = .ok (.aload_n 0, 1) := by decide +kernel
theorem dX9_close_463 : decode cX9_close 463 = .ok (.getfield 109, 3) := by decide +kernel
theorem dX9_close_466 : decode cX9_close 466 = .ok (.iload 5, 2) := by decide +kernel
theorem dX9_close_468 : decode cX9_close 468 = .ok (.iaload, 1) := by decide +kernel
theorem dX9_close_469 : decode cX9_close 469 = .ok (.iaload, 1) := by decide +kernel
theorem dX9_close_470 : decode cX9_close 470 = .ok (.aload_n 0, 1) := by decide +kernel
theorem dX9_close_471 : decode cX9_close 471 = .ok (.getfield 115, 3) := by decide +kernel
theorem dX9_close_474 : decode cX9_close 474 = .ok (.iload 5, 2) := by decide +kernel
theorem dX9_close_476 : decode cX9_close 476 = .ok (.iaload, 1) := by decide +kernel
theorem dX9_close_477 : decode cX9_close 477 = .ok (.bipush 14, 2) := by decide +kernel
theorem dX9_close_479 : decode cX9_close 479 = .ok (.if_icmp .ne 7, 3) := by decide +kernel
theorem dX9_close_482 : decode cX9_close 482 = .ok (.iconst 0, 1) := by decide +kernel
theorem dX9_close_483 : decode cX9_close 483 = .ok (.goto 4, 3) := by decide +kernel
theorem dX9_close_486 : decode cX9_close 486 = .ok (.iconst 1, 1) := by decide +kernel
theorem dX9_close_487 : decode cX9_close 487 = .ok (.iadd, 1) := by decide +kernel
theorem dX9_close_488 : decode cX9_close 488 = .ok (.iastore, 1) := by decide +kernel
theorem dX9_close_489 : decode cX9_close 489 = .ok (.iinc 5 1, 3) := by decide +kernel
theorem dX9_close_492 : decode cX9_close 492 = .ok (.goto (-174), 3) := by decide +kernel
theorem dX9_close_495 : decode cX9_close 495 = .ok (.aload_n 0, 1) := by decide +kernel
theorem dX9_close_496 : decode cX9_close 496 = .ok (.getfield 234, 3) := by decide +kernel
theorem dX9_close_499 : decode cX9_close 499 = .ok (.ifCond .ne 7, 3) := by decide +kernel
theorem dX9_close_502 : decode cX9_close 502 = .ok (.iconst 0, 1) := by decide +kernel
theorem dX9_close_503 : decode cX9_close 503 = .ok (.goto 7, 3) := by decide +kernel
theorem dX9_close_506 : decode cX9_close 506 = .ok (.aload_n 0, 1) := by decide +kernel
theorem dX9_close_507 : decode cX9_close 507 = .ok (.getfield 241, 3) := by decide +kernel
theorem dX9_close_510 : decode cX9_close 510 = .ok (.ireturn, 1) := by decide +kernel
end
section
theorem dX9_halfOf_0 : decode cX9_halfOf 0 = .ok (.iload_n 0, 1) := by decide +kernel
theorem dX9_halfOf_1 : decode cX9_halfOf 1 = .ok (.ifCond .ge 7, 3) := by decide +kernel
theorem dX9_halfOf_4 : decode cX9_halfOf 4 = .ok (.iconst 0, 1) := by decide +kernel
theorem dX9_halfOf_5 : decode cX9_halfOf 5 = .ok (.goto 6, 3) := by decide +kernel
theorem dX9_halfOf_8 : decode cX9_halfOf 8 = .ok (.iload_n 0, 1) := by decide +kernel
theorem dX9_halfOf_9 : decode cX9_halfOf 9 = .ok (.iconst 2, 1) := by decide +kernel
theorem dX9_halfOf_10 : decode cX9_halfOf 10 = .ok (.idiv, 1) := by decide +kernel
theorem dX9_halfOf_11 : decode cX9_halfOf 11 = .ok (.ireturn, 1) := by decide +kernel
theorem dX9_melts_0 : decode cX9_melts 0 = .ok (.iload_n 2, 1) := by decide +kernel
theorem dX9_melts_1 : decode cX9_melts 1 = .ok (.aload_n 0, 1) := by decide +kernel
theorem dX9_melts_2 : decode cX9_melts 2 = .ok (.getfield 32, 3) := by decide +kernel
theorem dX9_melts_5 : decode cX9_melts 5 = .ok (.if_icmp .ge 7, 3) := by decide +kernel
theorem dX9_melts_8 : decode cX9_melts 8 = .ok (.iload_n 2, 1) := by decide +kernel
theorem dX9_melts_9 : decode cX9_melts 9 = .ok (.goto 7, 3) := by decide +kernel
theorem dX9_melts_12 : decode cX9_melts 12 = .ok (.aload_n 0, 1) := by decide +kernel
theorem dX9_melts_13 : decode cX9_melts 13 = .ok (.getfield 32, 3) := by decide +kernel
theorem dX9_melts_16 : decode cX9_melts 16 = .ok (.istore_n 3, 1) := by decide +kernel
theorem dX9_melts_17 : decode cX9_melts 17 = .ok (.aload_n 0, 1) := by decide +kernel
theorem dX9_melts_18 : decode cX9_melts 18 = .ok (.aload_n 0, 1) := by decide +kernel
theorem dX9_melts_19 : decode cX9_melts 19 = .ok (.getfield 32, 3) := by decide +kernel
theorem dX9_melts_22 : decode cX9_melts 22 = .ok (.iload_n 3, 1) := by decide +kernel
theorem dX9_melts_23 : decode cX9_melts 23 = .ok (.isub, 1) := by decide +kernel
theorem dX9_melts_24 : decode cX9_melts 24 = .ok (.putfield 32, 3) := by decide +kernel
theorem dX9_melts_27 : decode cX9_melts 27 = .ok (.iload_n 2, 1) := by decide +kernel
theorem dX9_melts_28 : decode cX9_melts 28 = .ok (.iload_n 3, 1) := by decide +kernel
theorem dX9_melts_29 : decode cX9_melts 29 = .ok (.isub, 1) := by decide +kernel
theorem dX9_melts_30 : decode cX9_melts 30 = .ok (.istore 4, 2) := by decide +kernel
theorem dX9_melts_32 : decode cX9_melts 32 = .ok (.iload 4, 2) := by decide +kernel
theorem dX9_melts_34 : decode cX9_melts 34 = .ok (.aload_n 0, 1) := by decide +kernel
theorem dX9_melts_35 : decode cX9_melts 35 = .ok (.getfield 48, 3) := by decide +kernel
theorem dX9_melts_38 : decode cX9_melts 38 = .ok (.iload_n 1, 1) := by decide +kernel
theorem dX9_melts_39 : decode cX9_melts 39 = .ok (.iaload, 1) := by decide +kernel
theorem dX9_melts_40 : decode cX9_melts 40 = .ok (.if_icmp .ge 8, 3) := by decide +kernel
theorem dX9_melts_43 : decode cX9_melts 43 = .ok (.iload 4, 2) := by decide +kernel
theorem dX9_melts_45 : decode cX9_melts 45 = .ok (.goto 9, 3) := by decide +kernel
theorem dX9_melts_48 : decode cX9_melts 48 = .ok (.aload_n 0, 1) := by decide +kernel
theorem dX9_melts_49 : decode cX9_melts 49 = .ok (.getfield 48, 3) := by decide +kernel
theorem dX9_melts_52 : decode cX9_melts 52 = .ok (.iload_n 1, 1) := by decide +kernel
theorem dX9_melts_53 : decode cX9_melts 53 = .ok (.iaload, 1) := by decide +kernel
theorem dX9_melts_54 : decode cX9_melts 54 = .ok (.istore 5, 2) := by decide +kernel
theorem dX9_melts_56 : decode cX9_melts 56 = .ok (.aload_n 0, 1) := by decide +kernel
theorem dX9_melts_57 : decode cX9_melts 57 = .ok (.getfield 48, 3) := by decide +kernel
theorem dX9_melts_60 : decode cX9_melts 60 = .ok (.iload_n 1, 1) := by decide +kernel
theorem dX9_melts_61 : decode cX9_melts 61 = .ok (.aload_n 0, 1) := by decide +kernel
theorem dX9_melts_62 : decode cX9_melts 62 = .ok (.getfield 48, 3) := by decide +kernel
theorem dX9_melts_65 : decode cX9_melts 65 = .ok (.iload_n 1, 1) := by decide +kernel
theorem dX9_melts_66 : decode cX9_melts 66 = .ok (.iaload, 1) := by decide +kernel
theorem dX9_melts_67 : decode cX9_melts 67 = .ok (.iload 5, 2) := by decide +kernel
theorem dX9_melts_69 : decode cX9_melts 69 = .ok (.isub, 1) := by decide +kernel
theorem dX9_melts_70 : decode cX9_melts 70 = .ok (.iastore, 1) := by decide +kernel
theorem dX9_melts_71 : decode cX9_melts 71 = .ok (.aload_n 0, 1) := by decide +kernel
theorem dX9_melts_72 : decode cX9_melts 72 = .ok (.getfield 60, 3) := by decide +kernel
theorem dX9_melts_75 : decode cX9_melts 75 = .ok (.iload_n 1, 1) := by decide +kernel
theorem dX9_melts_76 : decode cX9_melts 76 = .ok (.aload_n 0, 1) := by decide +kernel
theorem dX9_melts_77 : decode cX9_melts 77 = .ok (.getfield 60, 3) := by decide +kernel
theorem dX9_melts_80 : decode cX9_melts 80 = .ok (.iload_n 1, 1) := by decide +kernel
theorem dX9_melts_81 : decode cX9_melts 81 = .ok (.iaload, 1) := by decide +kernel
theorem dX9_melts_82 : decode cX9_melts 82 = .ok (.iload 5, 2) := by decide +kernel
theorem dX9_melts_84 : decode cX9_melts 84 = .ok (.iadd, 1) := by decide +kernel
theorem dX9_melts_85 : decode cX9_melts 85 = .ok (.iastore, 1) := by decide +kernel
theorem dX9_melts_86 : decode cX9_melts 86 = .ok (.return_, 1) := by decide +kernel
set_option maxRecDepth 20000 in
theorem ggX9_holds_X9_rutsOf : GoodIn wsX9_holds wsX9_rutsOf := goodIn_r _ [9] (by decide +kernel) (by decide +kernel)
set_option maxRecDepth 20000 in
theorem gX9_holds_X9_rutsOf : GoodIn wsX9_holds (va_wsS RX9 256 yX9_rutsOf wsX9_rutsOf) := goodIn_app (goodIn_of _ (by decide +kernel)) ggX9_holds_X9_rutsOf
theorem dX9_holds_0 : decode cX9_holds 0 = .ok (.aload_n 0, 1) := by decide +kernel
theorem dX9_holds_1 : decode cX9_holds 1 = .ok (.getfield 88, 3) := by decide +kernel
theorem dX9_holds_4 : decode cX9_holds 4 = .ok (.iload_n 2, 1) := by decide +kernel
theorem dX9_holds_5 : decode cX9_holds 5 = .ok (.aload_n 0, 1) := by decide +kernel
theorem dX9_holds_6 : decode cX9_holds 6 = .ok (.getfield 48, 3) := by decide +kernel
theorem dX9_holds_9 : decode cX9_holds 9 = .ok (.iload_n 1, 1) := by decide +kernel
theorem dX9_holds_10 : decode cX9_holds 10 = .ok (.iaload, 1) := by decide +kernel
theorem dX9_holds_11 : decode cX9_holds 11 = .ok (.sipush 200, 3) := by decide +kernel
theorem dX9_holds_14 : decode cX9_holds 14 = .ok (.if_icmp .ge 7, 3) := by decide +kernel
theorem dX9_holds_17 : decode cX9_holds 17 = .ok (.iconst 1, 1) := by decide +kernel
theorem dX9_holds_18 : decode cX9_holds 18 = .ok (.goto 35, 3) := by decide +kernel
theorem dX9_holds_21 : decode cX9_holds 21 = .ok (.aload_n 0, 1) := by decide +kernel
theorem dX9_holds_22 : decode cX9_holds 22 = .ok (.getfield 48, 3) := by decide +kernel
theorem dX9_holds_25 : decode cX9_holds 25 = .ok (.iload_n 1, 1) := by decide +kernel
theorem dX9_holds_26 : decode cX9_holds 26 = .ok (.iaload, 1) := by decide +kernel
theorem dX9_holds_27 : decode cX9_holds 27 = .ok (.sipush 450, 3) := by decide +kernel
theorem dX9_holds_30 : decode cX9_holds 30 = .ok (.if_icmp .le 7, 3) := by decide +kernel
theorem dX9_holds_33 : decode cX9_holds 33 = .ok (.iconst 2, 1) := by decide +kernel
theorem dX9_holds_34 : decode cX9_holds 34 = .ok (.goto 19, 3) := by decide +kernel
theorem dX9_holds_37 : decode cX9_holds 37 = .ok (.aload_n 0, 1) := by decide +kernel
theorem dX9_holds_38 : decode cX9_holds 38 = .ok (.getfield 51, 3) := by decide +kernel
theorem dX9_holds_41 : decode cX9_holds 41 = .ok (.iload_n 1, 1) := by decide +kernel
theorem dX9_holds_42 : decode cX9_holds 42 = .ok (.iaload, 1) := by decide +kernel
theorem dX9_holds_43 : decode cX9_holds 43 = .ok (.bipush 60, 2) := by decide +kernel
theorem dX9_holds_45 : decode cX9_holds 45 = .ok (.if_icmp .le 7, 3) := by decide +kernel
theorem dX9_holds_48 : decode cX9_holds 48 = .ok (.iconst 3, 1) := by decide +kernel
theorem dX9_holds_49 : decode cX9_holds 49 = .ok (.goto 4, 3) := by decide +kernel
theorem dX9_holds_52 : decode cX9_holds 52 = .ok (.iconst 0, 1) := by decide +kernel
theorem dX9_holds_53 : decode cX9_holds 53 = .ok (.iastore, 1) := by decide +kernel
theorem dX9_holds_54 : decode cX9_holds 54 = .ok (.aload_n 0, 1) := by decide +kernel
theorem dX9_holds_55 : decode cX9_holds 55 = .ok (.getfield 85, 3) := by decide +kernel
theorem dX9_holds_58 : decode cX9_holds 58 = .ok (.iload_n 2, 1) := by decide +kernel
theorem dX9_holds_59 : decode cX9_holds 59 = .ok (.aload_n 0, 1) := by decide +kernel
theorem dX9_holds_60 : decode cX9_holds 60 = .ok (.getfield 88, 3) := by decide +kernel
theorem dX9_holds_63 : decode cX9_holds 63 = .ok (.iload_n 2, 1) := by decide +kernel
theorem dX9_holds_64 : decode cX9_holds 64 = .ok (.iaload, 1) := by decide +kernel
theorem dX9_holds_65 : decode cX9_holds 65 = .ok (.ifCond .ne 7, 3) := by decide +kernel
theorem dX9_holds_68 : decode cX9_holds 68 = .ok (.iconst 1, 1) := by decide +kernel
theorem dX9_holds_69 : decode cX9_holds 69 = .ok (.goto 4, 3) := by decide +kernel
theorem dX9_holds_72 : decode cX9_holds 72 = .ok (.iconst 2, 1) := by decide +kernel
theorem dX9_holds_73 : decode cX9_holds 73 = .ok (.iastore, 1) := by decide +kernel
theorem dX9_holds_74 : decode cX9_holds 74 = .ok (.aload_n 0, 1) := by decide +kernel
theorem dX9_holds_75 : decode cX9_holds 75 = .ok (.getfield 88, 3) := by decide +kernel
theorem dX9_holds_78 : decode cX9_holds 78 = .ok (.iload_n 2, 1) := by decide +kernel
theorem dX9_holds_79 : decode cX9_holds 79 = .ok (.iaload, 1) := by decide +kernel
theorem dX9_holds_80 : decode cX9_holds 80 = .ok (.ifCond .ne 25, 3) := by decide +kernel
theorem dX9_holds_83 : decode cX9_holds 83 = .ok (.aload_n 0, 1) := by decide +kernel
theorem dX9_holds_84 : decode cX9_holds 84 = .ok (.getfield 51, 3) := by decide +kernel
theorem dX9_holds_87 : decode cX9_holds 87 = .ok (.iload_n 1, 1) := by decide +kernel
theorem dX9_holds_88 : decode cX9_holds 88 = .ok (.aload_n 0, 1) := by decide +kernel
theorem dX9_holds_89 : decode cX9_holds 89 = .ok (.getfield 51, 3) := by decide +kernel
theorem dX9_holds_92 : decode cX9_holds 92 = .ok (.iload_n 1, 1) := by decide +kernel
theorem dX9_holds_93 : decode cX9_holds 93 = .ok (.iaload, 1) := by decide +kernel
theorem dX9_holds_94 : decode cX9_holds 94 = .ok (.aload_n 0, 1) := by decide +kernel
theorem dX9_holds_95 : decode cX9_holds 95 = .ok (.getfield 76, 3) := by decide +kernel
theorem dX9_holds_98 : decode cX9_holds 98 = .ok (.iload_n 2, 1) := by decide +kernel
theorem dX9_holds_99 : decode cX9_holds 99 = .ok (.iaload, 1) := by decide +kernel
theorem dX9_holds_100 : decode cX9_holds 100 = .ok (.invokestatic 256, 3) := by decide +kernel
theorem dX9_holds_103 : decode cX9_holds 103 = .ok (.iadd, 1) := by decide +kernel
theorem dX9_holds_104 : decode cX9_holds 104 = .ok (.iastore, 1) := by decide +kernel
theorem dX9_holds_105 : decode cX9_holds 105 = .ok (.return_, 1) := by decide +kernel
theorem dX9_cuts_0 : decode cX9_cuts 0 = .ok (.aload_n 0, 1) := by decide +kernel
theorem dX9_cuts_1 : decode cX9_cuts 1 = .ok (.getfield 69, 3) := by decide +kernel
theorem dX9_cuts_4 : decode cX9_cuts 4 = .ok (.iload_n 1, 1) := by decide +kernel
theorem dX9_cuts_5 : decode cX9_cuts 5 = .ok (.iconst 0, 1) := by decide +kernel
theorem dX9_cuts_6 : decode cX9_cuts 6 = .ok (.bastore, 1) := by decide +kernel
theorem dX9_cuts_7 : decode cX9_cuts 7 = .ok (.aload_n 0, 1) := by decide +kernel
theorem dX9_cuts_8 : decode cX9_cuts 8 = .ok (.getfield 63, 3) := by decide +kernel
theorem dX9_cuts_11 : decode cX9_cuts 11 = .ok (.iload_n 1, 1) := by decide +kernel
theorem dX9_cuts_12 : decode cX9_cuts 12 = .ok (.iaload, 1) := by decide +kernel
theorem dX9_cuts_13 : decode cX9_cuts 13 = .ok (.aload_n 0, 1) := by decide +kernel
theorem dX9_cuts_14 : decode cX9_cuts 14 = .ok (.getfield 48, 3) := by decide +kernel
theorem dX9_cuts_17 : decode cX9_cuts 17 = .ok (.iload_n 1, 1) := by decide +kernel
theorem dX9_cuts_18 : decode cX9_cuts 18 = .ok (.iaload, 1) := by decide +kernel
theorem dX9_cuts_19 : decode cX9_cuts 19 = .ok (.if_icmp .ge 12, 3) := by decide +kernel
theorem dX9_cuts_22 : decode cX9_cuts 22 = .ok (.aload_n 0, 1) := by decide +kernel
theorem dX9_cuts_23 : decode cX9_cuts 23 = .ok (.getfield 63, 3) := by decide +kernel
theorem dX9_cuts_26 : decode cX9_cuts 26 = .ok (.iload_n 1, 1) := by decide +kernel
theorem dX9_cuts_27 : decode cX9_cuts 27 = .ok (.iaload, 1) := by decide +kernel
theorem dX9_cuts_28 : decode cX9_cuts 28 = .ok (.goto 9, 3) := by decide +kernel
theorem dX9_cuts_31 : decode cX9_cuts 31 = .ok (.aload_n 0, 1) := by decide +kernel
theorem dX9_cuts_32 : decode cX9_cuts 32 = .ok (.getfield 48, 3) := by decide +kernel
theorem dX9_cuts_35 : decode cX9_cuts 35 = .ok (.iload_n 1, 1) := by decide +kernel
theorem dX9_cuts_36 : decode cX9_cuts 36 = .ok (.iaload, 1) := by decide +kernel
theorem dX9_cuts_37 : decode cX9_cuts 37 = .ok (.istore_n 2, 1) := by decide +kernel
theorem dX9_cuts_38 : decode cX9_cuts 38 = .ok (.aload_n 0, 1) := by decide +kernel
theorem dX9_cuts_39 : decode cX9_cuts 39 = .ok (.getfield 48, 3) := by decide +kernel
theorem dX9_cuts_42 : decode cX9_cuts 42 = .ok (.iload_n 1, 1) := by decide +kernel
theorem dX9_cuts_43 : decode cX9_cuts 43 = .ok (.aload_n 0, 1) := by decide +kernel
theorem dX9_cuts_44 : decode cX9_cuts 44 = .ok (.getfield 48, 3) := by decide +kernel
theorem dX9_cuts_47 : decode cX9_cuts 47 = .ok (.iload_n 1, 1) := by decide +kernel
theorem dX9_cuts_48 : decode cX9_cuts 48 = .ok (.iaload, 1) := by decide +kernel
theorem dX9_cuts_49 : decode cX9_cuts 49 = .ok (.iload_n 2, 1) := by decide +kernel
theorem dX9_cuts_50 : decode cX9_cuts 50 = .ok (.isub, 1) := by decide +kernel
theorem dX9_cuts_51 : decode cX9_cuts 51 = .ok (.iastore, 1) := by decide +kernel
theorem dX9_cuts_52 : decode cX9_cuts 52 = .ok (.aload_n 0, 1) := by decide +kernel
theorem dX9_cuts_53 : decode cX9_cuts 53 = .ok (.getfield 54, 3) := by decide +kernel
theorem dX9_cuts_56 : decode cX9_cuts 56 = .ok (.iload_n 1, 1) := by decide +kernel
theorem dX9_cuts_57 : decode cX9_cuts 57 = .ok (.aload_n 0, 1) := by decide +kernel
theorem dX9_cuts_58 : decode cX9_cuts 58 = .ok (.getfield 54, 3) := by decide +kernel
theorem dX9_cuts_61 : decode cX9_cuts 61 = .ok (.iload_n 1, 1) := by decide +kernel
theorem dX9_cuts_62 : decode cX9_cuts 62 = .ok (.iaload, 1) := by decide +kernel
theorem dX9_cuts_63 : decode cX9_cuts 63 = .ok (.iload_n 2, 1) := by decide +kernel
theorem dX9_cuts_64 : decode cX9_cuts 64 = .ok (.iadd, 1) := by decide +kernel
theorem dX9_cuts_65 : decode cX9_cuts 65 = .ok (.iastore, 1) := by decide +kernel
theorem dX9_cuts_66 : decode cX9_cuts 66 = .ok (.aload_n 0, 1) := by decide +kernel
theorem dX9_cuts_67 : decode cX9_cuts 67 = .ok (.getfield 51, 3) := by decide +kernel
theorem dX9_cuts_70 : decode cX9_cuts 70 = .ok (.iload_n 1, 1) := by decide +kernel
theorem dX9_cuts_71 : decode cX9_cuts 71 = .ok (.aload_n 0, 1) := by decide +kernel
theorem dX9_cuts_72 : decode cX9_cuts 72 = .ok (.getfield 51, 3) := by decide +kernel
theorem dX9_cuts_75 : decode cX9_cuts 75 = .ok (.iload_n 1, 1) := by decide +kernel
theorem dX9_cuts_76 : decode cX9_cuts 76 = .ok (.iaload, 1) := by decide +kernel
theorem dX9_cuts_77 : decode cX9_cuts 77 = .ok (.bipush 10, 2) := by decide +kernel
theorem dX9_cuts_79 : decode cX9_cuts 79 = .ok (.iload_n 2, 1) := by decide +kernel
theorem dX9_cuts_80 : decode cX9_cuts 80 = .ok (.imul, 1) := by decide +kernel
theorem dX9_cuts_81 : decode cX9_cuts 81 = .ok (.if_icmp .le 17, 3) := by decide +kernel
theorem dX9_cuts_84 : decode cX9_cuts 84 = .ok (.aload_n 0, 1) := by decide +kernel
theorem dX9_cuts_85 : decode cX9_cuts 85 = .ok (.getfield 51, 3) := by decide +kernel
theorem dX9_cuts_88 : decode cX9_cuts 88 = .ok (.iload_n 1, 1) := by decide +kernel
theorem dX9_cuts_89 : decode cX9_cuts 89 = .ok (.iaload, 1) := by decide +kernel
theorem dX9_cuts_90 : decode cX9_cuts 90 = .ok (.bipush 10, 2) := by decide +kernel
theorem dX9_cuts_92 : decode cX9_cuts 92 = .ok (.iload_n 2, 1) := by decide +kernel
theorem dX9_cuts_93 : decode cX9_cuts 93 = .ok (.imul, 1) := by decide +kernel
theorem dX9_cuts_94 : decode cX9_cuts 94 = .ok (.isub, 1) := by decide +kernel
theorem dX9_cuts_95 : decode cX9_cuts 95 = .ok (.goto 4, 3) := by decide +kernel
theorem dX9_cuts_98 : decode cX9_cuts 98 = .ok (.iconst 0, 1) := by decide +kernel
theorem dX9_cuts_99 : decode cX9_cuts 99 = .ok (.iastore, 1) := by decide +kernel
theorem dX9_cuts_100 : decode cX9_cuts 100 = .ok (.aload_n 0, 1) := by decide +kernel
theorem dX9_cuts_101 : decode cX9_cuts 101 = .ok (.getfield 66, 3) := by decide +kernel
theorem dX9_cuts_104 : decode cX9_cuts 104 = .ok (.iload_n 1, 1) := by decide +kernel
theorem dX9_cuts_105 : decode cX9_cuts 105 = .ok (.iaload, 1) := by decide +kernel
theorem dX9_cuts_106 : decode cX9_cuts 106 = .ok (.aload_n 0, 1) := by decide +kernel
theorem dX9_cuts_107 : decode cX9_cuts 107 = .ok (.getfield 32, 3) := by decide +kernel
theorem dX9_cuts_110 : decode cX9_cuts 110 = .ok (.iconst 3, 1) := by decide +kernel
theorem dX9_cuts_111 : decode cX9_cuts 111 = .ok (.idiv, 1) := by decide +kernel
theorem dX9_cuts_112 : decode cX9_cuts 112 = .ok (.if_icmp .ge 12, 3) := by decide +kernel
theorem dX9_cuts_115 : decode cX9_cuts 115 = .ok (.aload_n 0, 1) := by decide +kernel
theorem dX9_cuts_116 : decode cX9_cuts 116 = .ok (.getfield 66, 3) := by decide +kernel
theorem dX9_cuts_119 : decode cX9_cuts 119 = .ok (.iload_n 1, 1) := by decide +kernel
theorem dX9_cuts_120 : decode cX9_cuts 120 = .ok (.iaload, 1) := by decide +kernel
theorem dX9_cuts_121 : decode cX9_cuts 121 = .ok (.goto 9, 3) := by decide +kernel
theorem dX9_cuts_124 : decode cX9_cuts 124 = .ok (.aload_n 0, 1) := by decide +kernel
theorem dX9_cuts_125 : decode cX9_cuts 125 = .ok (.getfield 32, 3) := by decide +kernel
theorem dX9_cuts_128 : decode cX9_cuts 128 = .ok (.iconst 3, 1) := by decide +kernel
theorem dX9_cuts_129 : decode cX9_cuts 129 = .ok (.idiv, 1) := by decide +kernel
theorem dX9_cuts_130 : decode cX9_cuts 130 = .ok (.istore_n 3, 1) := by decide +kernel
theorem dX9_cuts_131 : decode cX9_cuts 131 = .ok (.aload_n 0, 1) := by decide +kernel
theorem dX9_cuts_132 : decode cX9_cuts 132 = .ok (.aload_n 0, 1) := by decide +kernel
theorem dX9_cuts_133 : decode cX9_cuts 133 = .ok (.getfield 32, 3) := by decide +kernel
theorem dX9_cuts_136 : decode cX9_cuts 136 = .ok (.iconst 3, 1) := by decide +kernel
theorem dX9_cuts_137 : decode cX9_cuts 137 = .ok (.iload_n 3, 1) := by decide +kernel
theorem dX9_cuts_138 : decode cX9_cuts 138 = .ok (.imul, 1) := by decide +kernel
theorem dX9_cuts_139 : decode cX9_cuts 139 = .ok (.isub, 1) := by decide +kernel
theorem dX9_cuts_140 : decode cX9_cuts 140 = .ok (.putfield 32, 3) := by decide +kernel
theorem dX9_cuts_143 : decode cX9_cuts 143 = .ok (.aload_n 0, 1) := by decide +kernel
theorem dX9_cuts_144 : decode cX9_cuts 144 = .ok (.getfield 48, 3) := by decide +kernel
theorem dX9_cuts_147 : decode cX9_cuts 147 = .ok (.iload_n 1, 1) := by decide +kernel
theorem dX9_cuts_148 : decode cX9_cuts 148 = .ok (.aload_n 0, 1) := by decide +kernel
theorem dX9_cuts_149 : decode cX9_cuts 149 = .ok (.getfield 48, 3) := by decide +kernel
theorem dX9_cuts_152 : decode cX9_cuts 152 = .ok (.iload_n 1, 1) := by decide +kernel
theorem dX9_cuts_153 : decode cX9_cuts 153 = .ok (.iaload, 1) := by decide +kernel
theorem dX9_cuts_154 : decode cX9_cuts 154 = .ok (.iload_n 3, 1) := by decide +kernel
theorem dX9_cuts_155 : decode cX9_cuts 155 = .ok (.iadd, 1) := by decide +kernel
theorem dX9_cuts_156 : decode cX9_cuts 156 = .ok (.iastore, 1) := by decide +kernel
theorem dX9_cuts_157 : decode cX9_cuts 157 = .ok (.aload_n 0, 1) := by decide +kernel
theorem dX9_cuts_158 : decode cX9_cuts 158 = .ok (.getfield 57, 3) := by decide +kernel
theorem dX9_cuts_161 : decode cX9_cuts 161 = .ok (.iload_n 1, 1) := by decide +kernel
theorem dX9_cuts_162 : decode cX9_cuts 162 = .ok (.aload_n 0, 1) := by decide +kernel
theorem dX9_cuts_163 : decode cX9_cuts 163 = .ok (.getfield 57, 3) := by decide +kernel
theorem dX9_cuts_166 : decode cX9_cuts 166 = .ok (.iload_n 1, 1) := by decide +kernel
theorem dX9_cuts_167 : decode cX9_cuts 167 = .ok (.iaload, 1) := by decide +kernel
theorem dX9_cuts_168 : decode cX9_cuts 168 = .ok (.iload_n 3, 1) := by decide +kernel
theorem dX9_cuts_169 : decode cX9_cuts 169 = .ok (.iadd, 1) := by decide +kernel
theorem dX9_cuts_170 : decode cX9_cuts 170 = .ok (.iastore, 1) := by decide +kernel
theorem dX9_cuts_171 : decode cX9_cuts 171 = .ok (.aload_n 0, 1) := by decide +kernel
theorem dX9_cuts_172 : decode cX9_cuts 172 = .ok (.aload_n 0, 1) := by decide +kernel
theorem dX9_cuts_173 : decode cX9_cuts 173 = .ok (.getfield 259, 3) := by decide +kernel
theorem dX9_cuts_176 : decode cX9_cuts 176 = .ok (.aload_n 0, 1) := by decide +kernel
theorem dX9_cuts_177 : decode cX9_cuts 177 = .ok (.getfield 66, 3) := by decide +kernel
theorem dX9_cuts_180 : decode cX9_cuts 180 = .ok (.iload_n 1, 1) := by decide +kernel
theorem dX9_cuts_181 : decode cX9_cuts 181 = .ok (.iaload, 1) := by decide +kernel
theorem dX9_cuts_182 : decode cX9_cuts 182 = .ok (.iadd, 1) := by decide +kernel
theorem dX9_cuts_183 : decode cX9_cuts 183 = .ok (.iload_n 3, 1) := by decide +kernel
theorem dX9_cuts_184 : decode cX9_cuts 184 = .ok (.isub, 1) := by decide +kernel
theorem dX9_cuts_185 : decode cX9_cuts 185 = .ok (.putfield 259, 3) := by decide +kernel
theorem dX9_cuts_188 : decode cX9_cuts 188 = .ok (.return_, 1) := by decide +kernel
set_option maxRecDepth 20000 in
theorem ggX9_step_X9_standing : GoodIn wsX9_step wsX9_standing := goodIn_r _ [14, 15, 16, 17, 18, 57, 58, 59, 60, 61, 62, 63, 64, 65, 66, 67, 68, 69, 70, 71, 72, 73, 74, 75, 76, 77, 78, 79, 80, 81, 82, 83, 84, 85, 86, 87, 88, 89, 90, 91, 92, 93, 94, 95, 96, 97, 98, 99, 100, 101, 102, 103, 104, 105, 106, 107, 108, 109, 110, 111, 112, 113, 114, 115, 116, 117, 118, 119] (by decide +kernel) (by decide +kernel)
set_option maxRecDepth 20000 in
theorem gX9_step_X9_standing : GoodIn wsX9_step (wsV RX9 208 RX9 yX9_standing wsX9_standing) := goodIn_app (goodIn_of _ (by decide +kernel)) ggX9_step_X9_standing
set_option maxRecDepth 20000 in
theorem ggX9_step_X9_halfOf : GoodIn wsX9_step wsX9_halfOf := goodIn_r _ [21] (by decide +kernel) (by decide +kernel)
set_option maxRecDepth 20000 in
theorem gX9_step_X9_halfOf : GoodIn wsX9_step (va_wsS RX9 268 yX9_halfOf wsX9_halfOf) := goodIn_app (goodIn_of _ (by decide +kernel)) ggX9_step_X9_halfOf
set_option maxRecDepth 20000 in
theorem ggX9_step_X9_heatOf : GoodIn wsX9_step wsX9_heatOf := goodIn_r _ [24] (by decide +kernel) (by decide +kernel)
set_option maxRecDepth 20000 in
theorem gX9_step_X9_heatOf : GoodIn wsX9_step (va_wsS RX9 271 yX9_heatOf wsX9_heatOf) := goodIn_app (goodIn_of _ (by decide +kernel)) ggX9_step_X9_heatOf
set_option maxRecDepth 20000 in
theorem ggX9_step_X9_melts : GoodIn wsX9_step wsX9_melts := goodIn_r _ [28, 3, 29, 30, 57, 58, 59, 60, 61, 62, 63, 64, 65, 66, 67, 68, 69, 70, 71, 72, 73, 74, 75, 76, 77, 78, 79, 80, 81, 82, 83, 84, 85, 86, 87, 88, 89, 90, 91, 92, 93, 94, 95, 96, 97, 98, 99, 100, 101, 102, 103, 104, 105, 106, 107, 108, 109, 110, 111, 112, 113, 114, 115, 116, 117, 118, 119] (by decide +kernel) (by decide +kernel)
set_option maxRecDepth 20000 in
theorem gX9_step_X9_melts : GoodIn wsX9_step (wsV RX9 274 RX9 yX9_melts wsX9_melts) := goodIn_app (goodIn_of _ (by decide +kernel)) ggX9_step_X9_melts
set_option maxRecDepth 20000 in
theorem ggX9_step_X9_holds : GoodIn wsX9_step wsX9_holds := goodIn_r _ [34, 35, 29, 36, 16, 8, 37, 38, 13, 39, 57, 58, 59, 60, 61, 62, 63, 64, 65, 66, 67, 68, 69, 70, 71, 72, 73, 74, 75, 76, 77, 78, 79, 80, 81, 82, 83, 84, 85, 86, 87, 88, 89, 90, 91, 92, 93, 94, 95, 96, 97, 98, 99, 100, 101, 102, 103, 104, 105, 106, 107, 108, 109, 110, 111, 112, 113, 114, 115, 116, 117, 118, 119] (by decide +kernel) (by decide +kernel)
set_option maxRecDepth 20000 in
theorem gX9_step_X9_holds : GoodIn wsX9_step (wsV RX9 278 RX9 yX9_holds wsX9_holds) := goodIn_app (goodIn_of _ (by decide +kernel)) ggX9_step_X9_holds
set_option maxRecDepth 20000 in
theorem ggX9_step_X9_isClosed : GoodIn wsX9_step wsX9_isClosed := goodIn_r _ [43, 44, 45, 46, 47, 57, 58, 59, 60, 61, 62, 63, 64, 65, 66, 67, 68, 69, 70, 71, 72, 73, 74, 75, 76, 77, 78, 79, 80, 81, 82, 83, 84, 85, 86, 87, 88, 89, 90, 91, 92, 93, 94, 95, 96, 97, 98, 99, 100, 101, 102, 103, 104, 105, 106, 107, 108, 109, 110, 111, 112, 113, 114, 115, 116, 117, 118, 119] (by decide +kernel) (by decide +kernel)
set_option maxRecDepth 20000 in
theorem gX9_step_X9_isClosed : GoodIn wsX9_step (wsV RX9 222 RX9 yX9_isClosed wsX9_isClosed) := goodIn_app (goodIn_of _ (by decide +kernel)) ggX9_step_X9_isClosed
set_option maxRecDepth 20000 in
theorem ggX9_step_X9_cuts : GoodIn wsX9_step wsX9_cuts := goodIn_r _ [51, 9, 52, 29, 53, 36, 54, 3, 55, 56, 57, 58, 59, 60, 61, 62, 63, 64, 65, 66, 67, 68, 69, 70, 71, 72, 73, 74, 75, 76, 77, 78, 79, 80, 81, 82, 83, 84, 85, 86, 87, 88, 89, 90, 91, 92, 93, 94, 95, 96, 97, 98, 99, 100, 101, 102, 103, 104, 105, 106, 107, 108, 109, 110, 111, 112, 113, 114, 115, 116, 117, 118, 119] (by decide +kernel) (by decide +kernel)
set_option maxRecDepth 20000 in
theorem gX9_step_X9_cuts : GoodIn wsX9_step (wsV RX9 281 RX9 yX9_cuts wsX9_cuts) := goodIn_app (goodIn_of _ (by decide +kernel)) ggX9_step_X9_cuts
theorem dX9_step_0 : decode cX9_step 0 = .ok (.iload_n 1, 1) := by decide +kernel
theorem dX9_step_1 : decode cX9_step 1 = .ok (.bipush (-20), 2) := by decide +kernel
theorem dX9_step_3 : decode cX9_step 3 = .ok (.if_icmp .lt 31, 3) := by decide +kernel
theorem dX9_step_6 : decode cX9_step 6 = .ok (.iload_n 1, 1) := by decide +kernel
theorem dX9_step_7 : decode cX9_step 7 = .ok (.bipush 40, 2) := by decide +kernel
theorem dX9_step_9 : decode cX9_step 9 = .ok (.if_icmp .gt 25, 3) := by decide +kernel
theorem dX9_step_12 : decode cX9_step 12 = .ok (.iload_n 2, 1) := by decide +kernel
theorem dX9_step_13 : decode cX9_step 13 = .ok (.ifCond .lt 21, 3) := by decide +kernel
theorem dX9_step_16 : decode cX9_step 16 = .ok (.iload_n 2, 1) := by decide +kernel
theorem dX9_step_17 : decode cX9_step 17 = .ok (.aload_n 0, 1) := by decide +kernel
theorem dX9_step_18 : decode cX9_step 18 = .ok (.getfield 39, 3) := by decide +kernel
theorem dX9_step_21 : decode cX9_step 21 = .ok (.if_icmp .gt 13, 3) := by decide +kernel
theorem dX9_step_24 : decode cX9_step 24 = .ok (.aload_n 0, 1) := by decide +kernel
theorem dX9_step_25 : decode cX9_step 25 = .ok (.getfield 219, 3) := by decide +kernel
theorem dX9_step_28 : decode cX9_step 28 = .ok (.sipush 990, 3) := by decide +kernel
theorem dX9_step_31 : decode cX9_step 31 = .ok (.if_icmp .ne 5, 3) := by decide +kernel
theorem dX9_step_34 : decode cX9_step 34 = .ok (.iconst (-1), 1) := by decide +kernel
theorem dX9_step_35 : decode cX9_step 35 = .ok (.ireturn, 1) := by decide +kernel
theorem dX9_step_36 : decode cX9_step 36 = .ok (.aload_n 0, 1) := by decide +kernel
theorem dX9_step_37 : decode cX9_step 37 = .ok (.aload_n 0, 1) := by decide +kernel
theorem dX9_step_38 : decode cX9_step 38 = .ok (.getfield 32, 3) := by decide +kernel
theorem dX9_step_41 : decode cX9_step 41 = .ok (.bipush 20, 2) := by decide +kernel
theorem dX9_step_43 : decode cX9_step 43 = .ok (.iload_n 2, 1) := by decide +kernel
theorem dX9_step_44 : decode cX9_step 44 = .ok (.imul, 1) := by decide +kernel
theorem dX9_step_45 : decode cX9_step 45 = .ok (.iadd, 1) := by decide +kernel
theorem dX9_step_46 : decode cX9_step 46 = .ok (.putfield 32, 3) := by decide +kernel
theorem dX9_step_49 : decode cX9_step 49 = .ok (.aload_n 0, 1) := by decide +kernel
theorem dX9_step_50 : decode cX9_step 50 = .ok (.aload_n 0, 1) := by decide +kernel
theorem dX9_step_51 : decode cX9_step 51 = .ok (.getfield 262, 3) := by decide +kernel
theorem dX9_step_54 : decode cX9_step 54 = .ok (.iload_n 2, 1) := by decide +kernel
theorem dX9_step_55 : decode cX9_step 55 = .ok (.aload_n 0, 1) := by decide +kernel
theorem dX9_step_56 : decode cX9_step 56 = .ok (.getfield 45, 3) := by decide +kernel
theorem dX9_step_59 : decode cX9_step 59 = .ok (.aload_n 0, 1) := by decide +kernel
theorem dX9_step_60 : decode cX9_step 60 = .ok (.getfield 219, 3) := by decide +kernel
theorem dX9_step_63 : decode cX9_step 63 = .ok (.bipush 24, 2) := by decide +kernel
theorem dX9_step_65 : decode cX9_step 65 = .ok (.irem, 1) := by decide +kernel
theorem dX9_step_66 : decode cX9_step 66 = .ok (.iaload, 1) := by decide +kernel
theorem dX9_step_67 : decode cX9_step 67 = .ok (.imul, 1) := by decide +kernel
theorem dX9_step_68 : decode cX9_step 68 = .ok (.iadd, 1) := by decide +kernel
theorem dX9_step_69 : decode cX9_step 69 = .ok (.putfield 262, 3) := by decide +kernel
theorem dX9_step_72 : decode cX9_step 72 = .ok (.aload_n 0, 1) := by decide +kernel
theorem dX9_step_73 : decode cX9_step 73 = .ok (.getfield 32, 3) := by decide +kernel
theorem dX9_step_76 : decode cX9_step 76 = .ok (.aload_n 0, 1) := by decide +kernel
theorem dX9_step_77 : decode cX9_step 77 = .ok (.getfield 36, 3) := by decide +kernel
theorem dX9_step_80 : decode cX9_step 80 = .ok (.if_icmp .le 29, 3) := by decide +kernel
theorem dX9_step_83 : decode cX9_step 83 = .ok (.aload_n 0, 1) := by decide +kernel
theorem dX9_step_84 : decode cX9_step 84 = .ok (.aload_n 0, 1) := by decide +kernel
theorem dX9_step_85 : decode cX9_step 85 = .ok (.getfield 265, 3) := by decide +kernel
theorem dX9_step_88 : decode cX9_step 88 = .ok (.aload_n 0, 1) := by decide +kernel
theorem dX9_step_89 : decode cX9_step 89 = .ok (.getfield 32, 3) := by decide +kernel
theorem dX9_step_92 : decode cX9_step 92 = .ok (.iadd, 1) := by decide +kernel
theorem dX9_step_93 : decode cX9_step 93 = .ok (.aload_n 0, 1) := by decide +kernel
theorem dX9_step_94 : decode cX9_step 94 = .ok (.getfield 36, 3) := by decide +kernel
theorem dX9_step_97 : decode cX9_step 97 = .ok (.isub, 1) := by decide +kernel
theorem dX9_step_98 : decode cX9_step 98 = .ok (.putfield 265, 3) := by decide +kernel
theorem dX9_step_101 : decode cX9_step 101 = .ok (.aload_n 0, 1) := by decide +kernel
theorem dX9_step_102 : decode cX9_step 102 = .ok (.aload_n 0, 1) := by decide +kernel
theorem dX9_step_103 : decode cX9_step 103 = .ok (.getfield 36, 3) := by decide +kernel
theorem dX9_step_106 : decode cX9_step 106 = .ok (.putfield 32, 3) := by decide +kernel
theorem dX9_step_109 : decode cX9_step 109 = .ok (.iconst 0, 1) := by decide +kernel
theorem dX9_step_110 : decode cX9_step 110 = .ok (.istore_n 3, 1) := by decide +kernel
theorem dX9_step_111 : decode cX9_step 111 = .ok (.iload_n 3, 1) := by decide +kernel
theorem dX9_step_112 : decode cX9_step 112 = .ok (.iconst 2, 1) := by decide +kernel
theorem dX9_step_113 : decode cX9_step 113 = .ok (.if_icmp .ge 92, 3) := by decide +kernel
theorem dX9_step_116 : decode cX9_step 116 = .ok (.aload_n 0, 1) := by decide +kernel
theorem dX9_step_117 : decode cX9_step 117 = .ok (.iload_n 3, 1) := by decide +kernel
theorem dX9_step_118 : decode cX9_step 118 = .ok (.aload_n 0, 1) := by decide +kernel
theorem dX9_step_119 : decode cX9_step 119 = .ok (.getfield 219, 3) := by decide +kernel
theorem dX9_step_122 : decode cX9_step 122 = .ok (.invokevirtual 208, 3) := by decide +kernel
theorem dX9_step_125 : decode cX9_step 125 = .ok (.istore 4, 2) := by decide +kernel
theorem dX9_step_127 : decode cX9_step 127 = .ok (.aload_n 0, 1) := by decide +kernel
theorem dX9_step_128 : decode cX9_step 128 = .ok (.iload_n 3, 1) := by decide +kernel
theorem dX9_step_129 : decode cX9_step 129 = .ok (.iload_n 1, 1) := by decide +kernel
theorem dX9_step_130 : decode cX9_step 130 = .ok (.invokestatic 268, 3) := by decide +kernel
theorem dX9_step_133 : decode cX9_step 133 = .ok (.iload 4, 2) := by decide +kernel
theorem dX9_step_135 : decode cX9_step 135 = .ok (.iconst (-1), 1) := by decide +kernel
theorem dX9_step_136 : decode cX9_step 136 = .ok (.if_icmp .ne 7, 3) := by decide +kernel
theorem dX9_step_139 : decode cX9_step 139 = .ok (.iconst 0, 1) := by decide +kernel
theorem dX9_step_140 : decode cX9_step 140 = .ok (.goto 13, 3) := by decide +kernel
theorem dX9_step_143 : decode cX9_step 143 = .ok (.aload_n 0, 1) := by decide +kernel
theorem dX9_step_144 : decode cX9_step 144 = .ok (.getfield 76, 3) := by decide +kernel
theorem dX9_step_147 : decode cX9_step 147 = .ok (.iload 4, 2) := by decide +kernel
theorem dX9_step_149 : decode cX9_step 149 = .ok (.iaload, 1) := by decide +kernel
theorem dX9_step_150 : decode cX9_step 150 = .ok (.invokestatic 271, 3) := by decide +kernel
theorem dX9_step_153 : decode cX9_step 153 = .ok (.iadd, 1) := by decide +kernel
theorem dX9_step_154 : decode cX9_step 154 = .ok (.invokevirtual 274, 3) := by decide +kernel
theorem dX9_step_157 : decode cX9_step 157 = .ok (.iload 4, 2) := by decide +kernel
theorem dX9_step_159 : decode cX9_step 159 = .ok (.iconst (-1), 1) := by decide +kernel
theorem dX9_step_160 : decode cX9_step 160 = .ok (.if_icmp .eq 13, 3) := by decide +kernel
theorem dX9_step_163 : decode cX9_step 163 = .ok (.aload_n 0, 1) := by decide +kernel
theorem dX9_step_164 : decode cX9_step 164 = .ok (.iload_n 3, 1) := by decide +kernel
theorem dX9_step_165 : decode cX9_step 165 = .ok (.iload 4, 2) := by decide +kernel
theorem dX9_step_167 : decode cX9_step 167 = .ok (.invokevirtual 278, 3) := by decide +kernel
theorem dX9_step_170 : decode cX9_step 170 = .ok (.goto 29, 3) := by decide +kernel
theorem dX9_step_173 : decode cX9_step 173 = .ok (.aload_n 0, 1) := by decide +kernel
theorem dX9_step_174 : decode cX9_step 174 = .ok (.getfield 69, 3) := by decide +kernel
theorem dX9_step_177 : decode cX9_step 177 = .ok (.iload_n 3, 1) := by decide +kernel
theorem dX9_step_178 : decode cX9_step 178 = .ok (.baload, 1) := by decide +kernel
theorem dX9_step_179 : decode cX9_step 179 = .ok (.ifCond .eq 20, 3) := by decide +kernel
theorem dX9_step_182 : decode cX9_step 182 = .ok (.aload_n 0, 1) := by decide +kernel
theorem dX9_step_183 : decode cX9_step 183 = .ok (.iload_n 3, 1) := by decide +kernel
theorem dX9_step_184 : decode cX9_step 184 = .ok (.aload_n 0, 1) := by decide +kernel
theorem dX9_step_185 : decode cX9_step 185 = .ok (.getfield 219, 3) := by decide +kernel
theorem dX9_step_188 : decode cX9_step 188 = .ok (.invokevirtual 222, 3) := by decide +kernel
theorem dX9_step_191 : decode cX9_step 191 = .ok (.ifCond .ne 8, 3) := by decide +kernel
theorem dX9_step_194 : decode cX9_step 194 = .ok (.aload_n 0, 1) := by decide +kernel
theorem dX9_step_195 : decode cX9_step 195 = .ok (.iload_n 3, 1) := by decide +kernel
theorem dX9_step_196 : decode cX9_step 196 = .ok (.invokevirtual 281, 3) := by decide +kernel
theorem dX9_step_199 : decode cX9_step 199 = .ok (.iinc 3 1, 3) := by decide +kernel
theorem dX9_step_202 : decode cX9_step 202 = .ok (.goto (-91), 3) := by decide +kernel
theorem dX9_step_205 : decode cX9_step 205 = .ok (.aload_n 0, 1) := by decide +kernel
theorem dX9_step_206 : decode cX9_step 206 = .ok (.aload_n 0, 1) := by decide +kernel
theorem dX9_step_207 : decode cX9_step 207 = .ok (.getfield 219, 3) := by decide +kernel
theorem dX9_step_210 : decode cX9_step 210 = .ok (.iconst 1, 1) := by decide +kernel
theorem dX9_step_211 : decode cX9_step 211 = .ok (.iadd, 1) := by decide +kernel
theorem dX9_step_212 : decode cX9_step 212 = .ok (.putfield 219, 3) := by decide +kernel
theorem dX9_step_215 : decode cX9_step 215 = .ok (.aload_n 0, 1) := by decide +kernel
theorem dX9_step_216 : decode cX9_step 216 = .ok (.getfield 219, 3) := by decide +kernel
theorem dX9_step_219 : decode cX9_step 219 = .ok (.ireturn, 1) := by decide +kernel
set_option maxRecDepth 20000 in
theorem ggX9_plan_X9_halfOf : GoodIn wsX9_plan wsX9_halfOf := goodIn_r _ [15] (by decide +kernel) (by decide +kernel)
set_option maxRecDepth 20000 in
theorem gX9_plan_X9_halfOf : GoodIn wsX9_plan (va_wsS RX9 268 yX9_halfOf wsX9_halfOf) := goodIn_app (goodIn_of _ (by decide +kernel)) ggX9_plan_X9_halfOf
set_option maxRecDepth 20000 in
theorem ggX9_plan_X9_standing : GoodIn wsX9_plan wsX9_standing := goodIn_r _ [19, 20, 21, 22, 23, 27, 28, 29, 30, 31, 32, 33, 34, 35, 36, 37, 38, 39, 40, 41, 42, 43, 44, 45, 46, 47, 48, 49, 50, 51, 52, 53, 54, 55, 56, 57, 58, 59, 60, 61, 62, 63, 64, 65, 66, 67, 68, 69, 70, 71, 72, 73, 74, 75, 76, 77, 78, 79, 80, 81, 82, 83, 84, 85, 86, 87, 88, 89] (by decide +kernel) (by decide +kernel)
set_option maxRecDepth 20000 in
theorem gX9_plan_X9_standing : GoodIn wsX9_plan (wsV RX9 208 RX9 yX9_standing wsX9_standing) := goodIn_app (goodIn_of _ (by decide +kernel)) ggX9_plan_X9_standing
set_option maxRecDepth 20000 in
theorem ggX9_plan_X9_heatOf : GoodIn wsX9_plan wsX9_heatOf := goodIn_r _ [26] (by decide +kernel) (by decide +kernel)
set_option maxRecDepth 20000 in
theorem gX9_plan_X9_heatOf : GoodIn wsX9_plan (va_wsS RX9 271 yX9_heatOf wsX9_heatOf) := goodIn_app (goodIn_of _ (by decide +kernel)) ggX9_plan_X9_heatOf
theorem dX9_plan_0 : decode cX9_plan 0 = .ok (.iload_n 1, 1) := by decide +kernel
theorem dX9_plan_1 : decode cX9_plan 1 = .ok (.iconst 1, 1) := by decide +kernel
theorem dX9_plan_2 : decode cX9_plan 2 = .ok (.if_icmp .lt 21, 3) := by decide +kernel
theorem dX9_plan_5 : decode cX9_plan 5 = .ok (.iload_n 1, 1) := by decide +kernel
theorem dX9_plan_6 : decode cX9_plan 6 = .ok (.bipush 8, 2) := by decide +kernel
theorem dX9_plan_8 : decode cX9_plan 8 = .ok (.if_icmp .gt 15, 3) := by decide +kernel
theorem dX9_plan_11 : decode cX9_plan 11 = .ok (.iload_n 2, 1) := by decide +kernel
theorem dX9_plan_12 : decode cX9_plan 12 = .ok (.bipush (-20), 2) := by decide +kernel
theorem dX9_plan_14 : decode cX9_plan 14 = .ok (.if_icmp .lt 9, 3) := by decide +kernel
theorem dX9_plan_17 : decode cX9_plan 17 = .ok (.iload_n 2, 1) := by decide +kernel
theorem dX9_plan_18 : decode cX9_plan 18 = .ok (.bipush 40, 2) := by decide +kernel
theorem dX9_plan_20 : decode cX9_plan 20 = .ok (.if_icmp .le 5, 3) := by decide +kernel
theorem dX9_plan_23 : decode cX9_plan 23 = .ok (.iconst (-1), 1) := by decide +kernel
theorem dX9_plan_24 : decode cX9_plan 24 = .ok (.ireturn, 1) := by decide +kernel
theorem dX9_plan_25 : decode cX9_plan 25 = .ok (.iconst 1, 1) := by decide +kernel
theorem dX9_plan_26 : decode cX9_plan 26 = .ok (.istore_n 3, 1) := by decide +kernel
theorem dX9_plan_27 : decode cX9_plan 27 = .ok (.iconst 0, 1) := by decide +kernel
theorem dX9_plan_28 : decode cX9_plan 28 = .ok (.istore 4, 2) := by decide +kernel
theorem dX9_plan_30 : decode cX9_plan 30 = .ok (.iload 4, 2) := by decide +kernel
theorem dX9_plan_32 : decode cX9_plan 32 = .ok (.iload_n 1, 1) := by decide +kernel
theorem dX9_plan_33 : decode cX9_plan 33 = .ok (.if_icmp .ge 91, 3) := by decide +kernel
theorem dX9_plan_36 : decode cX9_plan 36 = .ok (.iconst 4, 1) := by decide +kernel
theorem dX9_plan_37 : decode cX9_plan 37 = .ok (.iload_n 3, 1) := by decide +kernel
theorem dX9_plan_38 : decode cX9_plan 38 = .ok (.imul, 1) := by decide +kernel
theorem dX9_plan_39 : decode cX9_plan 39 = .ok (.istore_n 3, 1) := by decide +kernel
theorem dX9_plan_40 : decode cX9_plan 40 = .ok (.aload_n 0, 1) := by decide +kernel
theorem dX9_plan_41 : decode cX9_plan 41 = .ok (.getfield 121, 3) := by decide +kernel
theorem dX9_plan_44 : decode cX9_plan 44 = .ok (.iload 4, 2) := by decide +kernel
theorem dX9_plan_46 : decode cX9_plan 46 = .ok (.iconst 2, 1) := by decide +kernel
theorem dX9_plan_47 : decode cX9_plan 47 = .ok (.iload_n 2, 1) := by decide +kernel
theorem dX9_plan_48 : decode cX9_plan 48 = .ok (.invokestatic 268, 3) := by decide +kernel
theorem dX9_plan_51 : decode cX9_plan 51 = .ok (.imul, 1) := by decide +kernel
theorem dX9_plan_52 : decode cX9_plan 52 = .ok (.iastore, 1) := by decide +kernel
theorem dX9_plan_53 : decode cX9_plan 53 = .ok (.iconst 0, 1) := by decide +kernel
theorem dX9_plan_54 : decode cX9_plan 54 = .ok (.istore 5, 2) := by decide +kernel
theorem dX9_plan_56 : decode cX9_plan 56 = .ok (.iload 5, 2) := by decide +kernel
theorem dX9_plan_58 : decode cX9_plan 58 = .ok (.iconst 2, 1) := by decide +kernel
theorem dX9_plan_59 : decode cX9_plan 59 = .ok (.if_icmp .ge 59, 3) := by decide +kernel
theorem dX9_plan_62 : decode cX9_plan 62 = .ok (.aload_n 0, 1) := by decide +kernel
theorem dX9_plan_63 : decode cX9_plan 63 = .ok (.iload 5, 2) := by decide +kernel
theorem dX9_plan_65 : decode cX9_plan 65 = .ok (.aload_n 0, 1) := by decide +kernel
theorem dX9_plan_66 : decode cX9_plan 66 = .ok (.getfield 219, 3) := by decide +kernel
theorem dX9_plan_69 : decode cX9_plan 69 = .ok (.iload 4, 2) := by decide +kernel
theorem dX9_plan_71 : decode cX9_plan 71 = .ok (.iadd, 1) := by decide +kernel
theorem dX9_plan_72 : decode cX9_plan 72 = .ok (.invokevirtual 208, 3) := by decide +kernel
theorem dX9_plan_75 : decode cX9_plan 75 = .ok (.istore 6, 2) := by decide +kernel
theorem dX9_plan_77 : decode cX9_plan 77 = .ok (.aload_n 0, 1) := by decide +kernel
theorem dX9_plan_78 : decode cX9_plan 78 = .ok (.getfield 121, 3) := by decide +kernel
theorem dX9_plan_81 : decode cX9_plan 81 = .ok (.iload 4, 2) := by decide +kernel
theorem dX9_plan_83 : decode cX9_plan 83 = .ok (.aload_n 0, 1) := by decide +kernel
theorem dX9_plan_84 : decode cX9_plan 84 = .ok (.getfield 121, 3) := by decide +kernel
theorem dX9_plan_87 : decode cX9_plan 87 = .ok (.iload 4, 2) := by decide +kernel
theorem dX9_plan_89 : decode cX9_plan 89 = .ok (.iaload, 1) := by decide +kernel
theorem dX9_plan_90 : decode cX9_plan 90 = .ok (.iload 6, 2) := by decide +kernel
theorem dX9_plan_92 : decode cX9_plan 92 = .ok (.iconst (-1), 1) := by decide +kernel
theorem dX9_plan_93 : decode cX9_plan 93 = .ok (.if_icmp .ne 7, 3) := by decide +kernel
theorem dX9_plan_96 : decode cX9_plan 96 = .ok (.iconst 0, 1) := by decide +kernel
theorem dX9_plan_97 : decode cX9_plan 97 = .ok (.goto 13, 3) := by decide +kernel
theorem dX9_plan_100 : decode cX9_plan 100 = .ok (.aload_n 0, 1) := by decide +kernel
theorem dX9_plan_101 : decode cX9_plan 101 = .ok (.getfield 76, 3) := by decide +kernel
theorem dX9_plan_104 : decode cX9_plan 104 = .ok (.iload 6, 2) := by decide +kernel
theorem dX9_plan_106 : decode cX9_plan 106 = .ok (.iaload, 1) := by decide +kernel
theorem dX9_plan_107 : decode cX9_plan 107 = .ok (.invokestatic 271, 3) := by decide +kernel
theorem dX9_plan_110 : decode cX9_plan 110 = .ok (.iadd, 1) := by decide +kernel
theorem dX9_plan_111 : decode cX9_plan 111 = .ok (.iastore, 1) := by decide +kernel
theorem dX9_plan_112 : decode cX9_plan 112 = .ok (.iinc 5 1, 3) := by decide +kernel
theorem dX9_plan_115 : decode cX9_plan 115 = .ok (.goto (-59), 3) := by decide +kernel
theorem dX9_plan_118 : decode cX9_plan 118 = .ok (.iinc 4 1, 3) := by decide +kernel
theorem dX9_plan_121 : decode cX9_plan 121 = .ok (.goto (-91), 3) := by decide +kernel
theorem dX9_plan_124 : decode cX9_plan 124 = .ok (.iconst (-1), 1) := by decide +kernel
theorem dX9_plan_125 : decode cX9_plan 125 = .ok (.istore 4, 2) := by decide +kernel
theorem dX9_plan_127 : decode cX9_plan 127 = .ok (.iconst 0, 1) := by decide +kernel
theorem dX9_plan_128 : decode cX9_plan 128 = .ok (.istore 5, 2) := by decide +kernel
theorem dX9_plan_130 : decode cX9_plan 130 = .ok (.iconst 0, 1) := by decide +kernel
theorem dX9_plan_131 : decode cX9_plan 131 = .ok (.istore 6, 2) := by decide +kernel
theorem dX9_plan_133 : decode cX9_plan 133 = .ok (.iload 6, 2) := by decide +kernel
theorem dX9_plan_135 : decode cX9_plan 135 = .ok (.iload_n 3, 1) := by decide +kernel
theorem dX9_plan_136 : decode cX9_plan 136 = .ok (.if_icmp .ge 262, 3) := by decide +kernel
theorem dX9_plan_139 : decode cX9_plan 139 = .ok (.iload 6, 2) := by decide +kernel
theorem dX9_plan_141 : decode cX9_plan 141 = .ok (.istore 7, 2) := by decide +kernel
theorem dX9_plan_143 : decode cX9_plan 143 = .ok (.iload_n 1, 1) := by decide +kernel
theorem dX9_plan_144 : decode cX9_plan 144 = .ok (.iconst 1, 1) := by decide +kernel
theorem dX9_plan_145 : decode cX9_plan 145 = .ok (.isub, 1) := by decide +kernel
theorem dX9_plan_146 : decode cX9_plan 146 = .ok (.istore 8, 2) := by decide +kernel
theorem dX9_plan_148 : decode cX9_plan 148 = .ok (.iload 8, 2) := by decide +kernel
theorem dX9_plan_150 : decode cX9_plan 150 = .ok (.ifCond .lt 26, 3) := by decide +kernel
theorem dX9_plan_153 : decode cX9_plan 153 = .ok (.aload_n 0, 1) := by decide +kernel
theorem dX9_plan_154 : decode cX9_plan 154 = .ok (.getfield 124, 3) := by decide +kernel
theorem dX9_plan_157 : decode cX9_plan 157 = .ok (.iload 8, 2) := by decide +kernel
theorem dX9_plan_159 : decode cX9_plan 159 = .ok (.iload 7, 2) := by decide +kernel
theorem dX9_plan_161 : decode cX9_plan 161 = .ok (.iconst 4, 1) := by decide +kernel
theorem dX9_plan_162 : decode cX9_plan 162 = .ok (.irem, 1) := by decide +kernel
theorem dX9_plan_163 : decode cX9_plan 163 = .ok (.iastore, 1) := by decide +kernel
theorem dX9_plan_164 : decode cX9_plan 164 = .ok (.iload 7, 2) := by decide +kernel
theorem dX9_plan_166 : decode cX9_plan 166 = .ok (.iconst 4, 1) := by decide +kernel
theorem dX9_plan_167 : decode cX9_plan 167 = .ok (.idiv, 1) := by decide +kernel
theorem dX9_plan_168 : decode cX9_plan 168 = .ok (.istore 7, 2) := by decide +kernel
theorem dX9_plan_170 : decode cX9_plan 170 = .ok (.iinc 8 (-1), 3) := by decide +kernel
theorem dX9_plan_173 : decode cX9_plan 173 = .ok (.goto (-25), 3) := by decide +kernel
theorem dX9_plan_176 : decode cX9_plan 176 = .ok (.aload_n 0, 1) := by decide +kernel
theorem dX9_plan_177 : decode cX9_plan 177 = .ok (.getfield 32, 3) := by decide +kernel
theorem dX9_plan_180 : decode cX9_plan 180 = .ok (.istore 8, 2) := by decide +kernel
theorem dX9_plan_182 : decode cX9_plan 182 = .ok (.iconst 0, 1) := by decide +kernel
theorem dX9_plan_183 : decode cX9_plan 183 = .ok (.istore 9, 2) := by decide +kernel
theorem dX9_plan_185 : decode cX9_plan 185 = .ok (.iconst 0, 1) := by decide +kernel
theorem dX9_plan_186 : decode cX9_plan 186 = .ok (.istore 10, 2) := by decide +kernel
theorem dX9_plan_188 : decode cX9_plan 188 = .ok (.iconst 1, 1) := by decide +kernel
theorem dX9_plan_189 : decode cX9_plan 189 = .ok (.istore 11, 2) := by decide +kernel
theorem dX9_plan_191 : decode cX9_plan 191 = .ok (.iconst 0, 1) := by decide +kernel
theorem dX9_plan_192 : decode cX9_plan 192 = .ok (.istore 12, 2) := by decide +kernel
theorem dX9_plan_194 : decode cX9_plan 194 = .ok (.iload 12, 2) := by decide +kernel
theorem dX9_plan_196 : decode cX9_plan 196 = .ok (.iload_n 1, 1) := by decide +kernel
theorem dX9_plan_197 : decode cX9_plan 197 = .ok (.if_icmp .ge 123, 3) := by decide +kernel
theorem dX9_plan_200 : decode cX9_plan 200 = .ok (.iload 11, 2) := by decide +kernel
theorem dX9_plan_202 : decode cX9_plan 202 = .ok (.ifCond .eq 118, 3) := by decide +kernel
theorem dX9_plan_205 : decode cX9_plan 205 = .ok (.iload 8, 2) := by decide +kernel
theorem dX9_plan_207 : decode cX9_plan 207 = .ok (.bipush 20, 2) := by decide +kernel
theorem dX9_plan_209 : decode cX9_plan 209 = .ok (.aload_n 0, 1) := by decide +kernel
theorem dX9_plan_210 : decode cX9_plan 210 = .ok (.getfield 124, 3) := by decide +kernel
theorem dX9_plan_213 : decode cX9_plan 213 = .ok (.iload 12, 2) := by decide +kernel
theorem dX9_plan_215 : decode cX9_plan 215 = .ok (.iaload, 1) := by decide +kernel
theorem dX9_plan_216 : decode cX9_plan 216 = .ok (.imul, 1) := by decide +kernel
theorem dX9_plan_217 : decode cX9_plan 217 = .ok (.iadd, 1) := by decide +kernel
theorem dX9_plan_218 : decode cX9_plan 218 = .ok (.istore 8, 2) := by decide +kernel
theorem dX9_plan_220 : decode cX9_plan 220 = .ok (.iload 9, 2) := by decide +kernel
theorem dX9_plan_222 : decode cX9_plan 222 = .ok (.aload_n 0, 1) := by decide +kernel
theorem dX9_plan_223 : decode cX9_plan 223 = .ok (.getfield 124, 3) := by decide +kernel
theorem dX9_plan_226 : decode cX9_plan 226 = .ok (.iload 12, 2) := by decide +kernel
theorem dX9_plan_228 : decode cX9_plan 228 = .ok (.iaload, 1) := by decide +kernel
theorem dX9_plan_229 : decode cX9_plan 229 = .ok (.aload_n 0, 1) := by decide +kernel
theorem dX9_plan_230 : decode cX9_plan 230 = .ok (.getfield 45, 3) := by decide +kernel
theorem dX9_plan_233 : decode cX9_plan 233 = .ok (.aload_n 0, 1) := by decide +kernel
theorem dX9_plan_234 : decode cX9_plan 234 = .ok (.getfield 219, 3) := by decide +kernel
theorem dX9_plan_237 : decode cX9_plan 237 = .ok (.iload 12, 2) := by decide +kernel
theorem dX9_plan_239 : decode cX9_plan 239 = .ok (.iadd, 1) := by decide +kernel
theorem dX9_plan_240 : decode cX9_plan 240 = .ok (.bipush 24, 2) := by decide +kernel
theorem dX9_plan_242 : decode cX9_plan 242 = .ok (.irem, 1) := by decide +kernel
theorem dX9_plan_243 : decode cX9_plan 243 = .ok (.iaload, 1) := by decide +kernel
theorem dX9_plan_244 : decode cX9_plan 244 = .ok (.imul, 1) := by decide +kernel
theorem dX9_plan_245 : decode cX9_plan 245 = .ok (.iadd, 1) := by decide +kernel
theorem dX9_plan_246 : decode cX9_plan 246 = .ok (.istore 9, 2) := by decide +kernel
theorem dX9_plan_248 : decode cX9_plan 248 = .ok (.iload 10, 2) := by decide +kernel
theorem dX9_plan_250 : decode cX9_plan 250 = .ok (.aload_n 0, 1) := by decide +kernel
theorem dX9_plan_251 : decode cX9_plan 251 = .ok (.getfield 124, 3) := by decide +kernel
theorem dX9_plan_254 : decode cX9_plan 254 = .ok (.iload 12, 2) := by decide +kernel
theorem dX9_plan_256 : decode cX9_plan 256 = .ok (.iaload, 1) := by decide +kernel
theorem dX9_plan_257 : decode cX9_plan 257 = .ok (.iadd, 1) := by decide +kernel
theorem dX9_plan_258 : decode cX9_plan 258 = .ok (.istore 10, 2) := by decide +kernel
theorem dX9_plan_260 : decode cX9_plan 260 = .ok (.aload_n 0, 1) := by decide +kernel
theorem dX9_plan_261 : decode cX9_plan 261 = .ok (.getfield 124, 3) := by decide +kernel
theorem dX9_plan_264 : decode cX9_plan 264 = .ok (.iload 12, 2) := by decide +kernel
theorem dX9_plan_266 : decode cX9_plan 266 = .ok (.iaload, 1) := by decide +kernel
theorem dX9_plan_267 : decode cX9_plan 267 = .ok (.aload_n 0, 1) := by decide +kernel
theorem dX9_plan_268 : decode cX9_plan 268 = .ok (.getfield 39, 3) := by decide +kernel
theorem dX9_plan_271 : decode cX9_plan 271 = .ok (.if_icmp .gt 28, 3) := by decide +kernel
theorem dX9_plan_274 : decode cX9_plan 274 = .ok (.iload 8, 2) := by decide +kernel
theorem dX9_plan_276 : decode cX9_plan 276 = .ok (.aload_n 0, 1) := by decide +kernel
theorem dX9_plan_277 : decode cX9_plan 277 = .ok (.getfield 36, 3) := by decide +kernel
theorem dX9_plan_280 : decode cX9_plan 280 = .ok (.if_icmp .gt 19, 3) := by decide +kernel
theorem dX9_plan_283 : decode cX9_plan 283 = .ok (.iload 8, 2) := by decide +kernel
theorem dX9_plan_285 : decode cX9_plan 285 = .ok (.aload_n 0, 1) := by decide +kernel
theorem dX9_plan_286 : decode cX9_plan 286 = .ok (.getfield 121, 3) := by decide +kernel
theorem dX9_plan_289 : decode cX9_plan 289 = .ok (.iload 12, 2) := by decide +kernel
theorem dX9_plan_291 : decode cX9_plan 291 = .ok (.iaload, 1) := by decide +kernel
theorem dX9_plan_292 : decode cX9_plan 292 = .ok (.if_icmp .lt 7, 3) := by decide +kernel
theorem dX9_plan_295 : decode cX9_plan 295 = .ok (.iconst 1, 1) := by decide +kernel
theorem dX9_plan_296 : decode cX9_plan 296 = .ok (.goto 4, 3) := by decide +kernel
theorem dX9_plan_299 : decode cX9_plan 299 = .ok (.iconst 0, 1) := by decide +kernel
theorem dX9_plan_300 : decode cX9_plan 300 = .ok (.istore 11, 2) := by decide +kernel
theorem dX9_plan_302 : decode cX9_plan 302 = .ok (.iload 8, 2) := by decide +kernel
theorem dX9_plan_304 : decode cX9_plan 304 = .ok (.aload_n 0, 1) := by decide +kernel
theorem dX9_plan_305 : decode cX9_plan 305 = .ok (.getfield 121, 3) := by decide +kernel
theorem dX9_plan_308 : decode cX9_plan 308 = .ok (.iload 12, 2) := by decide +kernel
theorem dX9_plan_310 : decode cX9_plan 310 = .ok (.iaload, 1) := by decide +kernel
theorem dX9_plan_311 : decode cX9_plan 311 = .ok (.isub, 1) := by decide +kernel
theorem dX9_plan_312 : decode cX9_plan 312 = .ok (.istore 8, 2) := by decide +kernel
theorem dX9_plan_314 : decode cX9_plan 314 = .ok (.iinc 12 1, 3) := by decide +kernel
theorem dX9_plan_317 : decode cX9_plan 317 = .ok (.goto (-123), 3) := by decide +kernel
theorem dX9_plan_320 : decode cX9_plan 320 = .ok (.iload 11, 2) := by decide +kernel
theorem dX9_plan_322 : decode cX9_plan 322 = .ok (.ifCond .eq 70, 3) := by decide +kernel
theorem dX9_plan_325 : decode cX9_plan 325 = .ok (.iload 4, 2) := by decide +kernel
theorem dX9_plan_327 : decode cX9_plan 327 = .ok (.iconst (-1), 1) := by decide +kernel
theorem dX9_plan_328 : decode cX9_plan 328 = .ok (.if_icmp .eq 27, 3) := by decide +kernel
theorem dX9_plan_331 : decode cX9_plan 331 = .ok (.iload 9, 2) := by decide +kernel
theorem dX9_plan_333 : decode cX9_plan 333 = .ok (.iload 4, 2) := by decide +kernel
theorem dX9_plan_335 : decode cX9_plan 335 = .ok (.if_icmp .gt 57, 3) := by decide +kernel
theorem dX9_plan_338 : decode cX9_plan 338 = .ok (.iload 9, 2) := by decide +kernel
theorem dX9_plan_340 : decode cX9_plan 340 = .ok (.iload 4, 2) := by decide +kernel
theorem dX9_plan_342 : decode cX9_plan 342 = .ok (.if_icmp .ne 13, 3) := by decide +kernel
theorem dX9_plan_345 : decode cX9_plan 345 = .ok (.iload 10, 2) := by decide +kernel
theorem dX9_plan_347 : decode cX9_plan 347 = .ok (.iload 5, 2) := by decide +kernel
theorem dX9_plan_349 : decode cX9_plan 349 = .ok (.if_icmp .lt 6, 3) := by decide +kernel
theorem dX9_plan_352 : decode cX9_plan 352 = .ok (.goto 40, 3) := by decide +kernel
theorem dX9_plan_355 : decode cX9_plan 355 = .ok (.iload 9, 2) := by decide +kernel
theorem dX9_plan_357 : decode cX9_plan 357 = .ok (.istore 4, 2) := by decide +kernel
theorem dX9_plan_359 : decode cX9_plan 359 = .ok (.iload 10, 2) := by decide +kernel
theorem dX9_plan_361 : decode cX9_plan 361 = .ok (.istore 5, 2) := by decide +kernel
theorem dX9_plan_363 : decode cX9_plan 363 = .ok (.iconst 0, 1) := by decide +kernel
theorem dX9_plan_364 : decode cX9_plan 364 = .ok (.istore 12, 2) := by decide +kernel
theorem dX9_plan_366 : decode cX9_plan 366 = .ok (.iload 12, 2) := by decide +kernel
theorem dX9_plan_368 : decode cX9_plan 368 = .ok (.iload_n 1, 1) := by decide +kernel
theorem dX9_plan_369 : decode cX9_plan 369 = .ok (.if_icmp .ge 23, 3) := by decide +kernel
theorem dX9_plan_372 : decode cX9_plan 372 = .ok (.aload_n 0, 1) := by decide +kernel
theorem dX9_plan_373 : decode cX9_plan 373 = .ok (.getfield 127, 3) := by decide +kernel
theorem dX9_plan_376 : decode cX9_plan 376 = .ok (.iload 12, 2) := by decide +kernel
theorem dX9_plan_378 : decode cX9_plan 378 = .ok (.aload_n 0, 1) := by decide +kernel
theorem dX9_plan_379 : decode cX9_plan 379 = .ok (.getfield 124, 3) := by decide +kernel
theorem dX9_plan_382 : decode cX9_plan 382 = .ok (.iload 12, 2) := by decide +kernel
theorem dX9_plan_384 : decode cX9_plan 384 = .ok (.iaload, 1) := by decide +kernel
theorem dX9_plan_385 : decode cX9_plan 385 = .ok (.iastore, 1) := by decide +kernel
theorem dX9_plan_386 : decode cX9_plan 386 = .ok (.iinc 12 1, 3) := by decide +kernel
theorem dX9_plan_389 : decode cX9_plan 389 = .ok (.goto (-23), 3) := by decide +kernel
theorem dX9_plan_392 : decode cX9_plan 392 = .ok (.iinc 6 1, 3) := by decide +kernel
theorem dX9_plan_395 : decode cX9_plan 395 = .ok (.goto (-262), 3) := by decide +kernel
theorem dX9_plan_398 : decode cX9_plan 398 = .ok (.iload 4, 2) := by decide +kernel
theorem dX9_plan_400 : decode cX9_plan 400 = .ok (.iconst (-1), 1) := by decide +kernel
theorem dX9_plan_401 : decode cX9_plan 401 = .ok (.if_icmp .ne 5, 3) := by decide +kernel
theorem dX9_plan_404 : decode cX9_plan 404 = .ok (.iconst (-1), 1) := by decide +kernel
theorem dX9_plan_405 : decode cX9_plan 405 = .ok (.ireturn, 1) := by decide +kernel
theorem dX9_plan_406 : decode cX9_plan 406 = .ok (.aload_n 0, 1) := by decide +kernel
theorem dX9_plan_407 : decode cX9_plan 407 = .ok (.iload_n 1, 1) := by decide +kernel
theorem dX9_plan_408 : decode cX9_plan 408 = .ok (.putfield 284, 3) := by decide +kernel
theorem dX9_plan_411 : decode cX9_plan 411 = .ok (.iconst 0, 1) := by decide +kernel
theorem dX9_plan_412 : decode cX9_plan 412 = .ok (.istore 6, 2) := by decide +kernel
theorem dX9_plan_414 : decode cX9_plan 414 = .ok (.iload 6, 2) := by decide +kernel
theorem dX9_plan_416 : decode cX9_plan 416 = .ok (.iload_n 1, 1) := by decide +kernel
theorem dX9_plan_417 : decode cX9_plan 417 = .ok (.if_icmp .ge 23, 3) := by decide +kernel
theorem dX9_plan_420 : decode cX9_plan 420 = .ok (.aload_n 0, 1) := by decide +kernel
theorem dX9_plan_421 : decode cX9_plan 421 = .ok (.getfield 130, 3) := by decide +kernel
theorem dX9_plan_424 : decode cX9_plan 424 = .ok (.iload 6, 2) := by decide +kernel
theorem dX9_plan_426 : decode cX9_plan 426 = .ok (.aload_n 0, 1) := by decide +kernel
theorem dX9_plan_427 : decode cX9_plan 427 = .ok (.getfield 127, 3) := by decide +kernel
theorem dX9_plan_430 : decode cX9_plan 430 = .ok (.iload 6, 2) := by decide +kernel
theorem dX9_plan_432 : decode cX9_plan 432 = .ok (.iaload, 1) := by decide +kernel
theorem dX9_plan_433 : decode cX9_plan 433 = .ok (.iastore, 1) := by decide +kernel
theorem dX9_plan_434 : decode cX9_plan 434 = .ok (.iinc 6 1, 3) := by decide +kernel
theorem dX9_plan_437 : decode cX9_plan 437 = .ok (.goto (-23), 3) := by decide +kernel
theorem dX9_plan_440 : decode cX9_plan 440 = .ok (.iload 4, 2) := by decide +kernel
theorem dX9_plan_442 : decode cX9_plan 442 = .ok (.ireturn, 1) := by decide +kernel
theorem dX9_planned_0 : decode cX9_planned 0 = .ok (.iload_n 1, 1) := by decide +kernel
theorem dX9_planned_1 : decode cX9_planned 1 = .ok (.ifCond .lt 20, 3) := by decide +kernel
theorem dX9_planned_4 : decode cX9_planned 4 = .ok (.iload_n 1, 1) := by decide +kernel
theorem dX9_planned_5 : decode cX9_planned 5 = .ok (.aload_n 0, 1) := by decide +kernel
theorem dX9_planned_6 : decode cX9_planned 6 = .ok (.getfield 284, 3) := by decide +kernel
theorem dX9_planned_9 : decode cX9_planned 9 = .ok (.if_icmp .ge 12, 3) := by decide +kernel
theorem dX9_planned_12 : decode cX9_planned 12 = .ok (.aload_n 0, 1) := by decide +kernel
theorem dX9_planned_13 : decode cX9_planned 13 = .ok (.getfield 130, 3) := by decide +kernel
theorem dX9_planned_16 : decode cX9_planned 16 = .ok (.iload_n 1, 1) := by decide +kernel
theorem dX9_planned_17 : decode cX9_planned 17 = .ok (.iaload, 1) := by decide +kernel
theorem dX9_planned_18 : decode cX9_planned 18 = .ok (.goto 4, 3) := by decide +kernel
theorem dX9_planned_21 : decode cX9_planned 21 = .ok (.iconst (-1), 1) := by decide +kernel
theorem dX9_planned_22 : decode cX9_planned 22 = .ok (.ireturn, 1) := by decide +kernel
theorem dX9_inState_0 : decode cX9_inState 0 = .ok (.iconst 0, 1) := by decide +kernel
theorem dX9_inState_1 : decode cX9_inState 1 = .ok (.istore_n 3, 1) := by decide +kernel
theorem dX9_inState_2 : decode cX9_inState 2 = .ok (.iconst 0, 1) := by decide +kernel
theorem dX9_inState_3 : decode cX9_inState 3 = .ok (.istore 4, 2) := by decide +kernel
theorem dX9_inState_5 : decode cX9_inState 5 = .ok (.iload 4, 2) := by decide +kernel
theorem dX9_inState_7 : decode cX9_inState 7 = .ok (.aload_n 0, 1) := by decide +kernel
theorem dX9_inState_8 : decode cX9_inState 8 = .ok (.getfield 205, 3) := by decide +kernel
theorem dX9_inState_11 : decode cX9_inState 11 = .ok (.if_icmp .ge 39, 3) := by decide +kernel
theorem dX9_inState_14 : decode cX9_inState 14 = .ok (.iload_n 3, 1) := by decide +kernel
theorem dX9_inState_15 : decode cX9_inState 15 = .ok (.aload_n 0, 1) := by decide +kernel
theorem dX9_inState_16 : decode cX9_inState 16 = .ok (.getfield 73, 3) := by decide +kernel
theorem dX9_inState_19 : decode cX9_inState 19 = .ok (.iload 4, 2) := by decide +kernel
theorem dX9_inState_21 : decode cX9_inState 21 = .ok (.iaload, 1) := by decide +kernel
theorem dX9_inState_22 : decode cX9_inState 22 = .ok (.iload_n 1, 1) := by decide +kernel
theorem dX9_inState_23 : decode cX9_inState 23 = .ok (.if_icmp .ne 18, 3) := by decide +kernel
theorem dX9_inState_26 : decode cX9_inState 26 = .ok (.aload_n 0, 1) := by decide +kernel
theorem dX9_inState_27 : decode cX9_inState 27 = .ok (.getfield 85, 3) := by decide +kernel
theorem dX9_inState_30 : decode cX9_inState 30 = .ok (.iload 4, 2) := by decide +kernel
theorem dX9_inState_32 : decode cX9_inState 32 = .ok (.iaload, 1) := by decide +kernel
theorem dX9_inState_33 : decode cX9_inState 33 = .ok (.iload_n 2, 1) := by decide +kernel
theorem dX9_inState_34 : decode cX9_inState 34 = .ok (.if_icmp .ne 7, 3) := by decide +kernel
theorem dX9_inState_37 : decode cX9_inState 37 = .ok (.iconst 1, 1) := by decide +kernel
theorem dX9_inState_38 : decode cX9_inState 38 = .ok (.goto 4, 3) := by decide +kernel
theorem dX9_inState_41 : decode cX9_inState 41 = .ok (.iconst 0, 1) := by decide +kernel
theorem dX9_inState_42 : decode cX9_inState 42 = .ok (.iadd, 1) := by decide +kernel
theorem dX9_inState_43 : decode cX9_inState 43 = .ok (.istore_n 3, 1) := by decide +kernel
theorem dX9_inState_44 : decode cX9_inState 44 = .ok (.iinc 4 1, 3) := by decide +kernel
theorem dX9_inState_47 : decode cX9_inState 47 = .ok (.goto (-42), 3) := by decide +kernel
theorem dX9_inState_50 : decode cX9_inState 50 = .ok (.iload_n 3, 1) := by decide +kernel
theorem dX9_inState_51 : decode cX9_inState 51 = .ok (.ireturn, 1) := by decide +kernel
theorem dX9_owes_0 : decode cX9_owes 0 = .ok (.aload_n 0, 1) := by decide +kernel
theorem dX9_owes_1 : decode cX9_owes 1 = .ok (.getfield 85, 3) := by decide +kernel
theorem dX9_owes_4 : decode cX9_owes 4 = .ok (.iload_n 1, 1) := by decide +kernel
theorem dX9_owes_5 : decode cX9_owes 5 = .ok (.iaload, 1) := by decide +kernel
theorem dX9_owes_6 : decode cX9_owes 6 = .ok (.iconst 1, 1) := by decide +kernel
theorem dX9_owes_7 : decode cX9_owes 7 = .ok (.if_icmp .ne 12, 3) := by decide +kernel
theorem dX9_owes_10 : decode cX9_owes 10 = .ok (.aload_n 0, 1) := by decide +kernel
theorem dX9_owes_11 : decode cX9_owes 11 = .ok (.getfield 91, 3) := by decide +kernel
theorem dX9_owes_14 : decode cX9_owes 14 = .ok (.iload_n 1, 1) := by decide +kernel
theorem dX9_owes_15 : decode cX9_owes 15 = .ok (.iaload, 1) := by decide +kernel
theorem dX9_owes_16 : decode cX9_owes 16 = .ok (.goto 33, 3) := by decide +kernel
theorem dX9_owes_19 : decode cX9_owes 19 = .ok (.aload_n 0, 1) := by decide +kernel
theorem dX9_owes_20 : decode cX9_owes 20 = .ok (.getfield 85, 3) := by decide +kernel
theorem dX9_owes_23 : decode cX9_owes 23 = .ok (.iload_n 1, 1) := by decide +kernel
theorem dX9_owes_24 : decode cX9_owes 24 = .ok (.iaload, 1) := by decide +kernel
theorem dX9_owes_25 : decode cX9_owes 25 = .ok (.iconst 3, 1) := by decide +kernel
theorem dX9_owes_26 : decode cX9_owes 26 = .ok (.if_icmp .ne 22, 3) := by decide +kernel
theorem dX9_owes_29 : decode cX9_owes 29 = .ok (.aload_n 0, 1) := by decide +kernel
theorem dX9_owes_30 : decode cX9_owes 30 = .ok (.getfield 91, 3) := by decide +kernel
theorem dX9_owes_33 : decode cX9_owes 33 = .ok (.iload_n 1, 1) := by decide +kernel
theorem dX9_owes_34 : decode cX9_owes 34 = .ok (.iaload, 1) := by decide +kernel
theorem dX9_owes_35 : decode cX9_owes 35 = .ok (.aload_n 0, 1) := by decide +kernel
theorem dX9_owes_36 : decode cX9_owes 36 = .ok (.getfield 94, 3) := by decide +kernel
theorem dX9_owes_39 : decode cX9_owes 39 = .ok (.iload_n 1, 1) := by decide +kernel
theorem dX9_owes_40 : decode cX9_owes 40 = .ok (.iaload, 1) := by decide +kernel
theorem dX9_owes_41 : decode cX9_owes 41 = .ok (.imul, 1) := by decide +kernel
theorem dX9_owes_42 : decode cX9_owes 42 = .ok (.bipush 100, 2) := by decide +kernel
theorem dX9_owes_44 : decode cX9_owes 44 = .ok (.idiv, 1) := by decide +kernel
theorem dX9_owes_45 : decode cX9_owes 45 = .ok (.goto 4, 3) := by decide +kernel
theorem dX9_owes_48 : decode cX9_owes 48 = .ok (.iconst 0, 1) := by decide +kernel
theorem dX9_owes_49 : decode cX9_owes 49 = .ok (.ireturn, 1) := by decide +kernel
set_option maxRecDepth 20000 in
theorem ggX9_part_X9_isClub : GoodIn wsX9_part wsX9_isClub := goodIn_r _ [8] (by decide +kernel) (by decide +kernel)
set_option maxRecDepth 20000 in
theorem gX9_part_X9_isClub : GoodIn wsX9_part (va_wsS RX9 212 yX9_isClub wsX9_isClub) := goodIn_app (goodIn_of _ (by decide +kernel)) ggX9_part_X9_isClub
set_option maxRecDepth 20000 in
theorem ggX9_part_X9_inState : GoodIn wsX9_part wsX9_inState := goodIn_r _ [12, 13, 14, 15, 16, 17, 18, 19, 20, 21, 22, 23, 24, 25, 26, 27, 28, 29, 30, 31, 32, 33, 34, 35, 36, 37, 38, 39, 40, 41, 42, 43, 44, 45, 46, 47, 48, 49, 50, 51, 52, 53, 54, 55, 56, 57, 58, 59, 60, 61, 62, 63, 64, 65, 66, 67, 68, 69, 70, 71, 72, 73, 74, 75, 76, 77, 78] (by decide +kernel) (by decide +kernel)
set_option maxRecDepth 20000 in
theorem gX9_part_X9_inState : GoodIn wsX9_part (wsV RX9 288 RX9 yX9_inState wsX9_inState) := goodIn_app (goodIn_of _ (by decide +kernel)) ggX9_part_X9_inState
theorem dX9_part_0 : decode cX9_part 0 = .ok (.iload_n 1, 1) := by decide +kernel
theorem dX9_part_1 : decode cX9_part 1 = .ok (.invokestatic 212, 3) := by decide +kernel
theorem dX9_part_4 : decode cX9_part 4 = .ok (.ifCond .eq 14, 3) := by decide +kernel
theorem dX9_part_7 : decode cX9_part 7 = .ok (.iload_n 2, 1) := by decide +kernel
theorem dX9_part_8 : decode cX9_part 8 = .ok (.ifCond .lt 10, 3) := by decide +kernel
theorem dX9_part_11 : decode cX9_part 11 = .ok (.iload_n 2, 1) := by decide +kernel
theorem dX9_part_12 : decode cX9_part 12 = .ok (.ldc_w 287, 3) := by decide +kernel
theorem dX9_part_15 : decode cX9_part 15 = .ok (.if_icmp .le 5, 3) := by decide +kernel
theorem dX9_part_18 : decode cX9_part 18 = .ok (.iconst (-1), 1) := by decide +kernel
theorem dX9_part_19 : decode cX9_part 19 = .ok (.ireturn, 1) := by decide +kernel
theorem dX9_part_20 : decode cX9_part 20 = .ok (.iconst 0, 1) := by decide +kernel
theorem dX9_part_21 : decode cX9_part 21 = .ok (.istore_n 3, 1) := by decide +kernel
theorem dX9_part_22 : decode cX9_part 22 = .ok (.iconst 0, 1) := by decide +kernel
theorem dX9_part_23 : decode cX9_part 23 = .ok (.istore 4, 2) := by decide +kernel
theorem dX9_part_25 : decode cX9_part 25 = .ok (.iload 4, 2) := by decide +kernel
theorem dX9_part_27 : decode cX9_part 27 = .ok (.bipush 6, 2) := by decide +kernel
theorem dX9_part_29 : decode cX9_part 29 = .ok (.if_icmp .ge 19, 3) := by decide +kernel
theorem dX9_part_32 : decode cX9_part 32 = .ok (.iload_n 3, 1) := by decide +kernel
theorem dX9_part_33 : decode cX9_part 33 = .ok (.aload_n 0, 1) := by decide +kernel
theorem dX9_part_34 : decode cX9_part 34 = .ok (.iload 4, 2) := by decide +kernel
theorem dX9_part_36 : decode cX9_part 36 = .ok (.iconst 1, 1) := by decide +kernel
theorem dX9_part_37 : decode cX9_part 37 = .ok (.invokevirtual 288, 3) := by decide +kernel
theorem dX9_part_40 : decode cX9_part 40 = .ok (.iadd, 1) := by decide +kernel
theorem dX9_part_41 : decode cX9_part 41 = .ok (.istore_n 3, 1) := by decide +kernel
theorem dX9_part_42 : decode cX9_part 42 = .ok (.iinc 4 1, 3) := by decide +kernel
theorem dX9_part_45 : decode cX9_part 45 = .ok (.goto (-20), 3) := by decide +kernel
theorem dX9_part_48 : decode cX9_part 48 = .ok (.iload_n 3, 1) := by decide +kernel
theorem dX9_part_49 : decode cX9_part 49 = .ok (.ifCond .ne 5, 3) := by decide +kernel
theorem dX9_part_52 : decode cX9_part 52 = .ok (.iconst (-1), 1) := by decide +kernel
theorem dX9_part_53 : decode cX9_part 53 = .ok (.ireturn, 1) := by decide +kernel
theorem dX9_part_54 : decode cX9_part 54 = .ok (.iload_n 2, 1) := by decide +kernel
theorem dX9_part_55 : decode cX9_part 55 = .ok (.istore 4, 2) := by decide +kernel
theorem dX9_part_57 : decode cX9_part 57 = .ok (.iconst 0, 1) := by decide +kernel
theorem dX9_part_58 : decode cX9_part 58 = .ok (.istore 5, 2) := by decide +kernel
theorem dX9_part_60 : decode cX9_part 60 = .ok (.iload 5, 2) := by decide +kernel
theorem dX9_part_62 : decode cX9_part 62 = .ok (.bipush 6, 2) := by decide +kernel
theorem dX9_part_64 : decode cX9_part 64 = .ok (.if_icmp .ge 59, 3) := by decide +kernel
theorem dX9_part_67 : decode cX9_part 67 = .ok (.iload_n 2, 1) := by decide +kernel
theorem dX9_part_68 : decode cX9_part 68 = .ok (.i2l, 1) := by decide +kernel
theorem dX9_part_69 : decode cX9_part 69 = .ok (.aload_n 0, 1) := by decide +kernel
theorem dX9_part_70 : decode cX9_part 70 = .ok (.iload 5, 2) := by decide +kernel
theorem dX9_part_72 : decode cX9_part 72 = .ok (.iconst 1, 1) := by decide +kernel
theorem dX9_part_73 : decode cX9_part 73 = .ok (.invokevirtual 288, 3) := by decide +kernel
theorem dX9_part_76 : decode cX9_part 76 = .ok (.i2l, 1) := by decide +kernel
theorem dX9_part_77 : decode cX9_part 77 = .ok (.lmul, 1) := by decide +kernel
theorem dX9_part_78 : decode cX9_part 78 = .ok (.lstore 6, 2) := by decide +kernel
theorem dX9_part_80 : decode cX9_part 80 = .ok (.aload_n 0, 1) := by decide +kernel
theorem dX9_part_81 : decode cX9_part 81 = .ok (.getfield 133, 3) := by decide +kernel
theorem dX9_part_84 : decode cX9_part 84 = .ok (.iload 5, 2) := by decide +kernel
theorem dX9_part_86 : decode cX9_part 86 = .ok (.lload 6, 2) := by decide +kernel
theorem dX9_part_88 : decode cX9_part 88 = .ok (.iload_n 3, 1) := by decide +kernel
theorem dX9_part_89 : decode cX9_part 89 = .ok (.i2l, 1) := by decide +kernel
theorem dX9_part_90 : decode cX9_part 90 = .ok (.ldiv, 1) := by decide +kernel
theorem dX9_part_91 : decode cX9_part 91 = .ok (.l2i, 1) := by decide +kernel
theorem dX9_part_92 : decode cX9_part 92 = .ok (.iastore, 1) := by decide +kernel
theorem dX9_part_93 : decode cX9_part 93 = .ok (.aload_n 0, 1) := by decide +kernel
theorem dX9_part_94 : decode cX9_part 94 = .ok (.getfield 136, 3) := by decide +kernel
theorem dX9_part_97 : decode cX9_part 97 = .ok (.iload 5, 2) := by decide +kernel
theorem dX9_part_99 : decode cX9_part 99 = .ok (.lload 6, 2) := by decide +kernel
theorem dX9_part_101 : decode cX9_part 101 = .ok (.iload_n 3, 1) := by decide +kernel
theorem dX9_part_102 : decode cX9_part 102 = .ok (.i2l, 1) := by decide +kernel
theorem dX9_part_103 : decode cX9_part 103 = .ok (.lrem, 1) := by decide +kernel
theorem dX9_part_104 : decode cX9_part 104 = .ok (.lastore, 1) := by decide +kernel
theorem dX9_part_105 : decode cX9_part 105 = .ok (.iload 4, 2) := by decide +kernel
theorem dX9_part_107 : decode cX9_part 107 = .ok (.aload_n 0, 1) := by decide +kernel
theorem dX9_part_108 : decode cX9_part 108 = .ok (.getfield 133, 3) := by decide +kernel
theorem dX9_part_111 : decode cX9_part 111 = .ok (.iload 5, 2) := by decide +kernel
theorem dX9_part_113 : decode cX9_part 113 = .ok (.iaload, 1) := by decide +kernel
theorem dX9_part_114 : decode cX9_part 114 = .ok (.isub, 1) := by decide +kernel
theorem dX9_part_115 : decode cX9_part 115 = .ok (.istore 4, 2) := by decide +kernel
theorem dX9_part_117 : decode cX9_part 117 = .ok (.iinc 5 1, 3) := by decide +kernel
theorem dX9_part_120 : decode cX9_part 120 = .ok (.goto (-60), 3) := by decide +kernel
theorem dX9_part_123 : decode cX9_part 123 = .ok (.iload 4, 2) := by decide +kernel
theorem dX9_part_125 : decode cX9_part 125 = .ok (.ifCond .le 79, 3) := by decide +kernel
theorem dX9_part_128 : decode cX9_part 128 = .ok (.iconst 0, 1) := by decide +kernel
theorem dX9_part_129 : decode cX9_part 129 = .ok (.istore 5, 2) := by decide +kernel
theorem dX9_part_131 : decode cX9_part 131 = .ok (.iconst 1, 1) := by decide +kernel
theorem dX9_part_132 : decode cX9_part 132 = .ok (.istore 6, 2) := by decide +kernel
theorem dX9_part_134 : decode cX9_part 134 = .ok (.iload 6, 2) := by decide +kernel
theorem dX9_part_136 : decode cX9_part 136 = .ok (.bipush 6, 2) := by decide +kernel
theorem dX9_part_138 : decode cX9_part 138 = .ok (.if_icmp .ge 31, 3) := by decide +kernel
theorem dX9_part_141 : decode cX9_part 141 = .ok (.aload_n 0, 1) := by decide +kernel
theorem dX9_part_142 : decode cX9_part 142 = .ok (.getfield 136, 3) := by decide +kernel
theorem dX9_part_145 : decode cX9_part 145 = .ok (.iload 6, 2) := by decide +kernel
theorem dX9_part_147 : decode cX9_part 147 = .ok (.laload, 1) := by decide +kernel
theorem dX9_part_148 : decode cX9_part 148 = .ok (.aload_n 0, 1) := by decide +kernel
theorem dX9_part_149 : decode cX9_part 149 = .ok (.getfield 136, 3) := by decide +kernel
theorem dX9_part_152 : decode cX9_part 152 = .ok (.iload 5, 2) := by decide +kernel
theorem dX9_part_154 : decode cX9_part 154 = .ok (.laload, 1) := by decide +kernel
theorem dX9_part_155 : decode cX9_part 155 = .ok (.lcmp, 1) := by decide +kernel
theorem dX9_part_156 : decode cX9_part 156 = .ok (.ifCond .le 7, 3) := by decide +kernel
theorem dX9_part_159 : decode cX9_part 159 = .ok (.iload 6, 2) := by decide +kernel
theorem dX9_part_161 : decode cX9_part 161 = .ok (.istore 5, 2) := by decide +kernel
theorem dX9_part_163 : decode cX9_part 163 = .ok (.iinc 6 1, 3) := by decide +kernel
theorem dX9_part_166 : decode cX9_part 166 = .ok (.goto (-32), 3) := by decide +kernel
theorem dX9_part_169 : decode cX9_part 169 = .ok (.aload_n 0, 1) := by decide +kernel
theorem dX9_part_170 : decode cX9_part 170 = .ok (.getfield 133, 3) := by decide +kernel
theorem dX9_part_173 : decode cX9_part 173 = .ok (.iload 5, 2) := by decide +kernel
theorem dX9_part_175 : decode cX9_part 175 = .ok (.aload_n 0, 1) := by decide +kernel
theorem dX9_part_176 : decode cX9_part 176 = .ok (.getfield 133, 3) := by decide +kernel
theorem dX9_part_179 : decode cX9_part 179 = .ok (.iload 5, 2) := by decide +kernel
theorem dX9_part_181 : decode cX9_part 181 = .ok (.iaload, 1) := by decide +kernel
theorem dX9_part_182 : decode cX9_part 182 = .ok (.iconst 1, 1) := by decide +kernel
theorem dX9_part_183 : decode cX9_part 183 = .ok (.iadd, 1) := by decide +kernel
theorem dX9_part_184 : decode cX9_part 184 = .ok (.iastore, 1) := by decide +kernel
theorem dX9_part_185 : decode cX9_part 185 = .ok (.aload_n 0, 1) := by decide +kernel
theorem dX9_part_186 : decode cX9_part 186 = .ok (.getfield 136, 3) := by decide +kernel
theorem dX9_part_189 : decode cX9_part 189 = .ok (.iload 5, 2) := by decide +kernel
theorem dX9_part_191 : decode cX9_part 191 = .ok (.ldc2_w 291, 3) := by decide +kernel
theorem dX9_part_194 : decode cX9_part 194 = .ok (.lastore, 1) := by decide +kernel
theorem dX9_part_195 : decode cX9_part 195 = .ok (.iload 4, 2) := by decide +kernel
theorem dX9_part_197 : decode cX9_part 197 = .ok (.iconst 1, 1) := by decide +kernel
theorem dX9_part_198 : decode cX9_part 198 = .ok (.isub, 1) := by decide +kernel
theorem dX9_part_199 : decode cX9_part 199 = .ok (.istore 4, 2) := by decide +kernel
theorem dX9_part_201 : decode cX9_part 201 = .ok (.goto (-78), 3) := by decide +kernel
theorem dX9_part_204 : decode cX9_part 204 = .ok (.aload_n 0, 1) := by decide +kernel
theorem dX9_part_205 : decode cX9_part 205 = .ok (.getfield 133, 3) := by decide +kernel
theorem dX9_part_208 : decode cX9_part 208 = .ok (.iload_n 1, 1) := by decide +kernel
theorem dX9_part_209 : decode cX9_part 209 = .ok (.iaload, 1) := by decide +kernel
theorem dX9_part_210 : decode cX9_part 210 = .ok (.ireturn, 1) := by decide +kernel
set_option maxRecDepth 20000 in
theorem ggX9_look_X9_isSession : GoodIn wsX9_look wsX9_isSession := goodIn_r _ [13, 14, 20, 21, 22, 23, 24, 25, 26, 27, 28, 29, 30, 31, 32, 33, 34, 35, 36, 37, 38, 39, 40, 41, 42, 43, 44, 45, 46, 47, 48, 49, 50, 51, 52, 53, 54, 55, 56, 57, 58, 59, 60, 61, 62, 63, 64, 65, 66, 67, 68, 69, 70, 71, 72, 73, 74, 75, 76, 77, 78, 79, 80, 81, 82] (by decide +kernel) (by decide +kernel)
set_option maxRecDepth 20000 in
theorem gX9_look_X9_isSession : GoodIn wsX9_look (wsV RX9 231 RX9 yX9_isSession wsX9_isSession) := goodIn_app (goodIn_of _ (by decide +kernel)) ggX9_look_X9_isSession
set_option maxRecDepth 20000 in
theorem ggX9_look_X9_owes : GoodIn wsX9_look wsX9_owes := goodIn_r _ [18, 5, 7, 19, 20, 21, 22, 23, 24, 25, 26, 27, 28, 29, 30, 31, 32, 33, 34, 35, 36, 37, 38, 39, 40, 41, 42, 43, 44, 45, 46, 47, 48, 49, 50, 51, 52, 53, 54, 55, 56, 57, 58, 59, 60, 61, 62, 63, 64, 65, 66, 67, 68, 69, 70, 71, 72, 73, 74, 75, 76, 77, 78, 79, 80, 81, 82] (by decide +kernel) (by decide +kernel)
set_option maxRecDepth 20000 in
theorem gX9_look_X9_owes : GoodIn wsX9_look (wsV RX9 293 RX9 yX9_owes wsX9_owes) := goodIn_app (goodIn_of _ (by decide +kernel)) ggX9_look_X9_owes
theorem dX9_look_0 : decode cX9_look 0 = .ok (.aload_n 0, 1) := by decide +kernel
theorem dX9_look_1 : decode cX9_look 1 = .ok (.iload_n 1, 1) := by decide +kernel
theorem dX9_look_2 : decode cX9_look 2 = .ok (.invokevirtual 231, 3) := by decide +kernel
theorem dX9_look_5 : decode cX9_look 5 = .ok (.ifCond .ne 5, 3) := by decide +kernel
theorem dX9_look_8 : decode cX9_look 8 = .ok (.iconst (-1), 1) := by decide +kernel
theorem dX9_look_9 : decode cX9_look 9 = .ok (.ireturn, 1) := by decide +kernel
theorem dX9_look_10 : decode cX9_look 10 = .ok (.iload_n 2, 1) := by decide +kernel
theorem dX9_look_11 : decode cX9_look 11 = .ok (.tableswitch 111 0 8 #[49, 56, 63, 70, 77, 84, 91, 98, 104], 49) := by decide +kernel
theorem dX9_look_60 : decode cX9_look 60 = .ok (.aload_n 0, 1) := by decide +kernel
theorem dX9_look_61 : decode cX9_look 61 = .ok (.getfield 73, 3) := by decide +kernel
theorem dX9_look_64 : decode cX9_look 64 = .ok (.iload_n 1, 1) := by decide +kernel
theorem dX9_look_65 : decode cX9_look 65 = .ok (.iaload, 1) := by decide +kernel
theorem dX9_look_66 : decode cX9_look 66 = .ok (.ireturn, 1) := by decide +kernel
theorem dX9_look_67 : decode cX9_look 67 = .ok (.aload_n 0, 1) := by decide +kernel
theorem dX9_look_68 : decode cX9_look 68 = .ok (.getfield 76, 3) := by decide +kernel
theorem dX9_look_71 : decode cX9_look 71 = .ok (.iload_n 1, 1) := by decide +kernel
theorem dX9_look_72 : decode cX9_look 72 = .ok (.iaload, 1) := by decide +kernel
theorem dX9_look_73 : decode cX9_look 73 = .ok (.ireturn, 1) := by decide +kernel
theorem dX9_look_74 : decode cX9_look 74 = .ok (.aload_n 0, 1) := by decide +kernel
theorem dX9_look_75 : decode cX9_look 75 = .ok (.getfield 79, 3) := by decide +kernel
theorem dX9_look_78 : decode cX9_look 78 = .ok (.iload_n 1, 1) := by decide +kernel
theorem dX9_look_79 : decode cX9_look 79 = .ok (.iaload, 1) := by decide +kernel
theorem dX9_look_80 : decode cX9_look 80 = .ok (.ireturn, 1) := by decide +kernel
theorem dX9_look_81 : decode cX9_look 81 = .ok (.aload_n 0, 1) := by decide +kernel
theorem dX9_look_82 : decode cX9_look 82 = .ok (.getfield 82, 3) := by decide +kernel
theorem dX9_look_85 : decode cX9_look 85 = .ok (.iload_n 1, 1) := by decide +kernel
theorem dX9_look_86 : decode cX9_look 86 = .ok (.iaload, 1) := by decide +kernel
theorem dX9_look_87 : decode cX9_look 87 = .ok (.ireturn, 1) := by decide +kernel
theorem dX9_look_88 : decode cX9_look 88 = .ok (.aload_n 0, 1) := by decide +kernel
theorem dX9_look_89 : decode cX9_look 89 = .ok (.getfield 85, 3) := by decide +kernel
theorem dX9_look_92 : decode cX9_look 92 = .ok (.iload_n 1, 1) := by decide +kernel
theorem dX9_look_93 : decode cX9_look 93 = .ok (.iaload, 1) := by decide +kernel
theorem dX9_look_94 : decode cX9_look 94 = .ok (.ireturn, 1) := by decide +kernel
theorem dX9_look_95 : decode cX9_look 95 = .ok (.aload_n 0, 1) := by decide +kernel
theorem dX9_look_96 : decode cX9_look 96 = .ok (.getfield 88, 3) := by decide +kernel
theorem dX9_look_99 : decode cX9_look 99 = .ok (.iload_n 1, 1) := by decide +kernel
theorem dX9_look_100 : decode cX9_look 100 = .ok (.iaload, 1) := by decide +kernel
theorem dX9_look_101 : decode cX9_look 101 = .ok (.ireturn, 1) := by decide +kernel
theorem dX9_look_102 : decode cX9_look 102 = .ok (.aload_n 0, 1) := by decide +kernel
theorem dX9_look_103 : decode cX9_look 103 = .ok (.getfield 91, 3) := by decide +kernel
theorem dX9_look_106 : decode cX9_look 106 = .ok (.iload_n 1, 1) := by decide +kernel
theorem dX9_look_107 : decode cX9_look 107 = .ok (.iaload, 1) := by decide +kernel
theorem dX9_look_108 : decode cX9_look 108 = .ok (.ireturn, 1) := by decide +kernel
theorem dX9_look_109 : decode cX9_look 109 = .ok (.aload_n 0, 1) := by decide +kernel
theorem dX9_look_110 : decode cX9_look 110 = .ok (.iload_n 1, 1) := by decide +kernel
theorem dX9_look_111 : decode cX9_look 111 = .ok (.invokevirtual 293, 3) := by decide +kernel
theorem dX9_look_114 : decode cX9_look 114 = .ok (.ireturn, 1) := by decide +kernel
theorem dX9_look_115 : decode cX9_look 115 = .ok (.aload_n 0, 1) := by decide +kernel
theorem dX9_look_116 : decode cX9_look 116 = .ok (.getfield 97, 3) := by decide +kernel
theorem dX9_look_119 : decode cX9_look 119 = .ok (.iload_n 1, 1) := by decide +kernel
theorem dX9_look_120 : decode cX9_look 120 = .ok (.iaload, 1) := by decide +kernel
theorem dX9_look_121 : decode cX9_look 121 = .ok (.ireturn, 1) := by decide +kernel
theorem dX9_look_122 : decode cX9_look 122 = .ok (.iconst (-1), 1) := by decide +kernel
theorem dX9_look_123 : decode cX9_look 123 = .ok (.ireturn, 1) := by decide +kernel
set_option maxRecDepth 20000 in
theorem ggX9_at_X9_isSheet : GoodIn wsX9_at wsX9_isSheet := goodIn_r _ [4] (by decide +kernel) (by decide +kernel)
set_option maxRecDepth 20000 in
theorem gX9_at_X9_isSheet : GoodIn wsX9_at (va_wsS RX9 216 yX9_isSheet wsX9_isSheet) := goodIn_app (goodIn_of _ (by decide +kernel)) ggX9_at_X9_isSheet
set_option maxRecDepth 20000 in
theorem ggX9_at_X9_standing : GoodIn wsX9_at wsX9_standing := goodIn_r _ [8, 9, 10, 11, 12, 13, 14, 15, 16, 17, 18, 19, 20, 21, 22, 23, 24, 25, 26, 27, 28, 29, 30, 31, 32, 33, 34, 35, 36, 37, 38, 39, 40, 41, 42, 43, 44, 45, 46, 47, 48, 49, 50, 51, 52, 53, 54, 55, 56, 57, 58, 59, 60, 61, 62, 63, 64, 65, 66, 67, 68, 69, 70, 71, 72, 73, 74, 75] (by decide +kernel) (by decide +kernel)
set_option maxRecDepth 20000 in
theorem gX9_at_X9_standing : GoodIn wsX9_at (wsV RX9 208 RX9 yX9_standing wsX9_standing) := goodIn_app (goodIn_of _ (by decide +kernel)) ggX9_at_X9_standing
theorem dX9_at_0 : decode cX9_at 0 = .ok (.iload_n 1, 1) := by decide +kernel
theorem dX9_at_1 : decode cX9_at 1 = .ok (.invokestatic 216, 3) := by decide +kernel
theorem dX9_at_4 : decode cX9_at 4 = .ok (.ifCond .eq 16, 3) := by decide +kernel
theorem dX9_at_7 : decode cX9_at 7 = .ok (.iload_n 2, 1) := by decide +kernel
theorem dX9_at_8 : decode cX9_at 8 = .ok (.ifCond .lt 12, 3) := by decide +kernel
theorem dX9_at_11 : decode cX9_at 11 = .ok (.aload_n 0, 1) := by decide +kernel
theorem dX9_at_12 : decode cX9_at 12 = .ok (.iload_n 1, 1) := by decide +kernel
theorem dX9_at_13 : decode cX9_at 13 = .ok (.iload_n 2, 1) := by decide +kernel
theorem dX9_at_14 : decode cX9_at 14 = .ok (.invokevirtual 208, 3) := by decide +kernel
theorem dX9_at_17 : decode cX9_at 17 = .ok (.goto 4, 3) := by decide +kernel
theorem dX9_at_20 : decode cX9_at 20 = .ok (.iconst (-1), 1) := by decide +kernel
theorem dX9_at_21 : decode cX9_at 21 = .ok (.ireturn, 1) := by decide +kernel
set_option maxRecDepth 20000 in
theorem ggX9_sheet_X9_isSheet : GoodIn wsX9_sheet wsX9_isSheet := goodIn_r _ [10] (by decide +kernel) (by decide +kernel)
set_option maxRecDepth 20000 in
theorem gX9_sheet_X9_isSheet : GoodIn wsX9_sheet (va_wsS RX9 216 yX9_isSheet wsX9_isSheet) := goodIn_app (goodIn_of _ (by decide +kernel)) ggX9_sheet_X9_isSheet
set_option maxRecDepth 20000 in
theorem ggX9_sheet_X9_isClosed : GoodIn wsX9_sheet wsX9_isClosed := goodIn_r _ [14, 15, 16, 17, 18, 19, 20, 21, 22, 23, 24, 25, 26, 27, 28, 29, 30, 31, 32, 33, 34, 35, 36, 37, 38, 39, 40, 41, 42, 43, 44, 45, 46, 47, 48, 49, 50, 51, 52, 53, 54, 55, 56, 57, 58, 59, 60, 61, 62, 63, 64, 65, 66, 67, 68, 69, 70, 71, 72, 73, 74, 75, 76, 77, 78, 79, 80, 81] (by decide +kernel) (by decide +kernel)
set_option maxRecDepth 20000 in
theorem gX9_sheet_X9_isClosed : GoodIn wsX9_sheet (wsV RX9 222 RX9 yX9_isClosed wsX9_isClosed) := goodIn_app (goodIn_of _ (by decide +kernel)) ggX9_sheet_X9_isClosed
theorem dX9_sheet_0 : decode cX9_sheet 0 = .ok (.iload_n 1, 1) := by decide +kernel
theorem dX9_sheet_1 : decode cX9_sheet 1 = .ok (.invokestatic 216, 3) := by decide +kernel
theorem dX9_sheet_4 : decode cX9_sheet 4 = .ok (.ifCond .ne 5, 3) := by decide +kernel
theorem dX9_sheet_7 : decode cX9_sheet 7 = .ok (.iconst (-1), 1) := by decide +kernel
theorem dX9_sheet_8 : decode cX9_sheet 8 = .ok (.ireturn, 1) := by decide +kernel
theorem dX9_sheet_9 : decode cX9_sheet 9 = .ok (.iload_n 2, 1) := by decide +kernel
theorem dX9_sheet_10 : decode cX9_sheet 10 = .ok (.tableswitch 91 0 5 #[38, 45, 52, 59, 66, 73], 38) := by decide +kernel
theorem dX9_sheet_48 : decode cX9_sheet 48 = .ok (.aload_n 0, 1) := by decide +kernel
theorem dX9_sheet_49 : decode cX9_sheet 49 = .ok (.getfield 48, 3) := by decide +kernel
theorem dX9_sheet_52 : decode cX9_sheet 52 = .ok (.iload_n 1, 1) := by decide +kernel
theorem dX9_sheet_53 : decode cX9_sheet 53 = .ok (.iaload, 1) := by decide +kernel
theorem dX9_sheet_54 : decode cX9_sheet 54 = .ok (.ireturn, 1) := by decide +kernel
theorem dX9_sheet_55 : decode cX9_sheet 55 = .ok (.aload_n 0, 1) := by decide +kernel
theorem dX9_sheet_56 : decode cX9_sheet 56 = .ok (.getfield 51, 3) := by decide +kernel
theorem dX9_sheet_59 : decode cX9_sheet 59 = .ok (.iload_n 1, 1) := by decide +kernel
theorem dX9_sheet_60 : decode cX9_sheet 60 = .ok (.iaload, 1) := by decide +kernel
theorem dX9_sheet_61 : decode cX9_sheet 61 = .ok (.ireturn, 1) := by decide +kernel
theorem dX9_sheet_62 : decode cX9_sheet 62 = .ok (.aload_n 0, 1) := by decide +kernel
theorem dX9_sheet_63 : decode cX9_sheet 63 = .ok (.getfield 54, 3) := by decide +kernel
theorem dX9_sheet_66 : decode cX9_sheet 66 = .ok (.iload_n 1, 1) := by decide +kernel
theorem dX9_sheet_67 : decode cX9_sheet 67 = .ok (.iaload, 1) := by decide +kernel
theorem dX9_sheet_68 : decode cX9_sheet 68 = .ok (.ireturn, 1) := by decide +kernel
theorem dX9_sheet_69 : decode cX9_sheet 69 = .ok (.aload_n 0, 1) := by decide +kernel
theorem dX9_sheet_70 : decode cX9_sheet 70 = .ok (.getfield 57, 3) := by decide +kernel
theorem dX9_sheet_73 : decode cX9_sheet 73 = .ok (.iload_n 1, 1) := by decide +kernel
theorem dX9_sheet_74 : decode cX9_sheet 74 = .ok (.iaload, 1) := by decide +kernel
theorem dX9_sheet_75 : decode cX9_sheet 75 = .ok (.ireturn, 1) := by decide +kernel
theorem dX9_sheet_76 : decode cX9_sheet 76 = .ok (.aload_n 0, 1) := by decide +kernel
theorem dX9_sheet_77 : decode cX9_sheet 77 = .ok (.getfield 60, 3) := by decide +kernel
theorem dX9_sheet_80 : decode cX9_sheet 80 = .ok (.iload_n 1, 1) := by decide +kernel
theorem dX9_sheet_81 : decode cX9_sheet 81 = .ok (.iaload, 1) := by decide +kernel
theorem dX9_sheet_82 : decode cX9_sheet 82 = .ok (.ireturn, 1) := by decide +kernel
theorem dX9_sheet_83 : decode cX9_sheet 83 = .ok (.aload_n 0, 1) := by decide +kernel
theorem dX9_sheet_84 : decode cX9_sheet 84 = .ok (.iload_n 1, 1) := by decide +kernel
theorem dX9_sheet_85 : decode cX9_sheet 85 = .ok (.aload_n 0, 1) := by decide +kernel
theorem dX9_sheet_86 : decode cX9_sheet 86 = .ok (.getfield 219, 3) := by decide +kernel
theorem dX9_sheet_89 : decode cX9_sheet 89 = .ok (.invokevirtual 222, 3) := by decide +kernel
theorem dX9_sheet_92 : decode cX9_sheet 92 = .ok (.ifCond .eq 7, 3) := by decide +kernel
theorem dX9_sheet_95 : decode cX9_sheet 95 = .ok (.iconst 1, 1) := by decide +kernel
theorem dX9_sheet_96 : decode cX9_sheet 96 = .ok (.goto 4, 3) := by decide +kernel
theorem dX9_sheet_99 : decode cX9_sheet 99 = .ok (.iconst 0, 1) := by decide +kernel
theorem dX9_sheet_100 : decode cX9_sheet 100 = .ok (.ireturn, 1) := by decide +kernel
theorem dX9_sheet_101 : decode cX9_sheet 101 = .ok (.iconst (-1), 1) := by decide +kernel
theorem dX9_sheet_102 : decode cX9_sheet 102 = .ok (.ireturn, 1) := by decide +kernel
set_option maxRecDepth 20000 in
theorem ggX9_club_X9_isClub : GoodIn wsX9_club wsX9_isClub := goodIn_r _ [6] (by decide +kernel) (by decide +kernel)
set_option maxRecDepth 20000 in
theorem gX9_club_X9_isClub : GoodIn wsX9_club (va_wsS RX9 212 yX9_isClub wsX9_isClub) := goodIn_app (goodIn_of _ (by decide +kernel)) ggX9_club_X9_isClub
set_option maxRecDepth 20000 in
theorem ggX9_club_X9_inState : GoodIn wsX9_club wsX9_inState := goodIn_r _ [10, 1, 2, 11, 18, 19, 20, 21, 22, 23, 24, 25, 26, 27, 28, 29, 30, 31, 32, 33, 34, 35, 36, 37, 38, 39, 40, 41, 42, 43, 44, 45, 46, 47, 48, 49, 50, 51, 52, 53, 54, 55, 56, 57, 58, 59, 60, 61, 62, 63, 64, 65, 66, 67, 68, 69, 70, 71, 72, 73, 74, 75, 76, 77, 78, 79, 80] (by decide +kernel) (by decide +kernel)
set_option maxRecDepth 20000 in
theorem gX9_club_X9_inState : GoodIn wsX9_club (wsV RX9 288 RX9 yX9_inState wsX9_inState) := goodIn_app (goodIn_of _ (by decide +kernel)) ggX9_club_X9_inState
set_option maxRecDepth 20000 in
theorem ggX9_club_X9_owes : GoodIn wsX9_club wsX9_owes := goodIn_r _ [15, 11, 16, 17, 18, 19, 20, 21, 22, 23, 24, 25, 26, 27, 28, 29, 30, 31, 32, 33, 34, 35, 36, 37, 38, 39, 40, 41, 42, 43, 44, 45, 46, 47, 48, 49, 50, 51, 52, 53, 54, 55, 56, 57, 58, 59, 60, 61, 62, 63, 64, 65, 66, 67, 68, 69, 70, 71, 72, 73, 74, 75, 76, 77, 78, 79, 80] (by decide +kernel) (by decide +kernel)
set_option maxRecDepth 20000 in
theorem gX9_club_X9_owes : GoodIn wsX9_club (wsV RX9 293 RX9 yX9_owes wsX9_owes) := goodIn_app (goodIn_of _ (by decide +kernel)) ggX9_club_X9_owes
theorem dX9_club_0 : decode cX9_club 0 = .ok (.iload_n 1, 1) := by decide +kernel
theorem dX9_club_1 : decode cX9_club 1 = .ok (.invokestatic 212, 3) := by decide +kernel
theorem dX9_club_4 : decode cX9_club 4 = .ok (.ifCond .ne 5, 3) := by decide +kernel
theorem dX9_club_7 : decode cX9_club 7 = .ok (.iconst (-1), 1) := by decide +kernel
theorem dX9_club_8 : decode cX9_club 8 = .ok (.ireturn, 1) := by decide +kernel
theorem dX9_club_9 : decode cX9_club 9 = .ok (.iconst 0, 1) := by decide +kernel
theorem dX9_club_10 : decode cX9_club 10 = .ok (.istore_n 3, 1) := by decide +kernel
theorem dX9_club_11 : decode cX9_club 11 = .ok (.iload_n 2, 1) := by decide +kernel
theorem dX9_club_12 : decode cX9_club 12 = .ok (.tableswitch 97 0 3 #[32, 39, 46, 53], 32) := by decide +kernel
theorem dX9_club_44 : decode cX9_club 44 = .ok (.aload_n 0, 1) := by decide +kernel
theorem dX9_club_45 : decode cX9_club 45 = .ok (.iload_n 1, 1) := by decide +kernel
theorem dX9_club_46 : decode cX9_club 46 = .ok (.iconst 1, 1) := by decide +kernel
theorem dX9_club_47 : decode cX9_club 47 = .ok (.invokevirtual 288, 3) := by decide +kernel
theorem dX9_club_50 : decode cX9_club 50 = .ok (.ireturn, 1) := by decide +kernel
theorem dX9_club_51 : decode cX9_club 51 = .ok (.aload_n 0, 1) := by decide +kernel
theorem dX9_club_52 : decode cX9_club 52 = .ok (.iload_n 1, 1) := by decide +kernel
theorem dX9_club_53 : decode cX9_club 53 = .ok (.iconst 2, 1) := by decide +kernel
theorem dX9_club_54 : decode cX9_club 54 = .ok (.invokevirtual 288, 3) := by decide +kernel
theorem dX9_club_57 : decode cX9_club 57 = .ok (.ireturn, 1) := by decide +kernel
theorem dX9_club_58 : decode cX9_club 58 = .ok (.aload_n 0, 1) := by decide +kernel
theorem dX9_club_59 : decode cX9_club 59 = .ok (.iload_n 1, 1) := by decide +kernel
theorem dX9_club_60 : decode cX9_club 60 = .ok (.iconst 0, 1) := by decide +kernel
theorem dX9_club_61 : decode cX9_club 61 = .ok (.invokevirtual 288, 3) := by decide +kernel
theorem dX9_club_64 : decode cX9_club 64 = .ok (.ireturn, 1) := by decide +kernel
theorem dX9_club_65 : decode cX9_club 65 = .ok (.iconst 0, 1) := by decide +kernel
theorem dX9_club_66 : decode cX9_club 66 = .ok (.istore 4, 2) := by decide +kernel
theorem dX9_club_68 : decode cX9_club 68 = .ok (.iload 4, 2) := by decide +kernel
theorem dX9_club_70 : decode cX9_club 70 = .ok (.aload_n 0, 1) := by decide +kernel
theorem dX9_club_71 : decode cX9_club 71 = .ok (.getfield 205, 3) := by decide +kernel
theorem dX9_club_74 : decode cX9_club 74 = .ok (.if_icmp .ge 33, 3) := by decide +kernel
theorem dX9_club_77 : decode cX9_club 77 = .ok (.iload_n 3, 1) := by decide +kernel
theorem dX9_club_78 : decode cX9_club 78 = .ok (.aload_n 0, 1) := by decide +kernel
theorem dX9_club_79 : decode cX9_club 79 = .ok (.getfield 73, 3) := by decide +kernel
theorem dX9_club_82 : decode cX9_club 82 = .ok (.iload 4, 2) := by decide +kernel
theorem dX9_club_84 : decode cX9_club 84 = .ok (.iaload, 1) := by decide +kernel
theorem dX9_club_85 : decode cX9_club 85 = .ok (.iload_n 1, 1) := by decide +kernel
theorem dX9_club_86 : decode cX9_club 86 = .ok (.if_icmp .ne 12, 3) := by decide +kernel
theorem dX9_club_89 : decode cX9_club 89 = .ok (.aload_n 0, 1) := by decide +kernel
theorem dX9_club_90 : decode cX9_club 90 = .ok (.iload 4, 2) := by decide +kernel
theorem dX9_club_92 : decode cX9_club 92 = .ok (.invokevirtual 293, 3) := by decide +kernel
theorem dX9_club_95 : decode cX9_club 95 = .ok (.goto 4, 3) := by decide +kernel
theorem dX9_club_98 : decode cX9_club 98 = .ok (.iconst 0, 1) := by decide +kernel
theorem dX9_club_99 : decode cX9_club 99 = .ok (.iadd, 1) := by decide +kernel
theorem dX9_club_100 : decode cX9_club 100 = .ok (.istore_n 3, 1) := by decide +kernel
theorem dX9_club_101 : decode cX9_club 101 = .ok (.iinc 4 1, 3) := by decide +kernel
theorem dX9_club_104 : decode cX9_club 104 = .ok (.goto (-36), 3) := by decide +kernel
theorem dX9_club_107 : decode cX9_club 107 = .ok (.iload_n 3, 1) := by decide +kernel
theorem dX9_club_108 : decode cX9_club 108 = .ok (.ireturn, 1) := by decide +kernel
theorem dX9_club_109 : decode cX9_club 109 = .ok (.iconst (-1), 1) := by decide +kernel
theorem dX9_club_110 : decode cX9_club 110 = .ok (.ireturn, 1) := by decide +kernel
theorem dX9_count_0 : decode cX9_count 0 = .ok (.iload_n 1, 1) := by decide +kernel
theorem dX9_count_1 : decode cX9_count 1 = .ok (.tableswitch 105 0 9 #[55, 60, 65, 70, 75, 80, 85, 90, 95, 100], 55) := by decide +kernel
theorem dX9_count_56 : decode cX9_count 56 = .ok (.aload_n 0, 1) := by decide +kernel
theorem dX9_count_57 : decode cX9_count 57 = .ok (.getfield 219, 3) := by decide +kernel
theorem dX9_count_60 : decode cX9_count 60 = .ok (.ireturn, 1) := by decide +kernel
theorem dX9_count_61 : decode cX9_count 61 = .ok (.aload_n 0, 1) := by decide +kernel
theorem dX9_count_62 : decode cX9_count 62 = .ok (.getfield 32, 3) := by decide +kernel
theorem dX9_count_65 : decode cX9_count 65 = .ok (.ireturn, 1) := by decide +kernel
theorem dX9_count_66 : decode cX9_count 66 = .ok (.aload_n 0, 1) := by decide +kernel
theorem dX9_count_67 : decode cX9_count 67 = .ok (.getfield 265, 3) := by decide +kernel
theorem dX9_count_70 : decode cX9_count 70 = .ok (.ireturn, 1) := by decide +kernel
theorem dX9_count_71 : decode cX9_count 71 = .ok (.aload_n 0, 1) := by decide +kernel
theorem dX9_count_72 : decode cX9_count 72 = .ok (.getfield 262, 3) := by decide +kernel
theorem dX9_count_75 : decode cX9_count 75 = .ok (.ireturn, 1) := by decide +kernel
theorem dX9_count_76 : decode cX9_count 76 = .ok (.aload_n 0, 1) := by decide +kernel
theorem dX9_count_77 : decode cX9_count 77 = .ok (.getfield 259, 3) := by decide +kernel
theorem dX9_count_80 : decode cX9_count 80 = .ok (.ireturn, 1) := by decide +kernel
theorem dX9_count_81 : decode cX9_count 81 = .ok (.aload_n 0, 1) := by decide +kernel
theorem dX9_count_82 : decode cX9_count 82 = .ok (.getfield 205, 3) := by decide +kernel
theorem dX9_count_85 : decode cX9_count 85 = .ok (.ireturn, 1) := by decide +kernel
theorem dX9_count_86 : decode cX9_count 86 = .ok (.aload_n 0, 1) := by decide +kernel
theorem dX9_count_87 : decode cX9_count 87 = .ok (.getfield 36, 3) := by decide +kernel
theorem dX9_count_90 : decode cX9_count 90 = .ok (.ireturn, 1) := by decide +kernel
theorem dX9_count_91 : decode cX9_count 91 = .ok (.aload_n 0, 1) := by decide +kernel
theorem dX9_count_92 : decode cX9_count 92 = .ok (.getfield 39, 3) := by decide +kernel
theorem dX9_count_95 : decode cX9_count 95 = .ok (.ireturn, 1) := by decide +kernel
theorem dX9_count_96 : decode cX9_count 96 = .ok (.aload_n 0, 1) := by decide +kernel
theorem dX9_count_97 : decode cX9_count 97 = .ok (.getfield 42, 3) := by decide +kernel
theorem dX9_count_100 : decode cX9_count 100 = .ok (.ireturn, 1) := by decide +kernel
theorem dX9_count_101 : decode cX9_count 101 = .ok (.aload_n 0, 1) := by decide +kernel
theorem dX9_count_102 : decode cX9_count 102 = .ok (.getfield 141, 3) := by decide +kernel
theorem dX9_count_105 : decode cX9_count 105 = .ok (.ireturn, 1) := by decide +kernel
theorem dX9_count_106 : decode cX9_count 106 = .ok (.iload_n 1, 1) := by decide +kernel
theorem dX9_count_107 : decode cX9_count 107 = .ok (.bipush 10, 2) := by decide +kernel
theorem dX9_count_109 : decode cX9_count 109 = .ok (.if_icmp .lt 21, 3) := by decide +kernel
theorem dX9_count_112 : decode cX9_count 112 = .ok (.iload_n 1, 1) := by decide +kernel
theorem dX9_count_113 : decode cX9_count 113 = .ok (.bipush 34, 2) := by decide +kernel
theorem dX9_count_115 : decode cX9_count 115 = .ok (.if_icmp .ge 15, 3) := by decide +kernel
theorem dX9_count_118 : decode cX9_count 118 = .ok (.aload_n 0, 1) := by decide +kernel
theorem dX9_count_119 : decode cX9_count 119 = .ok (.getfield 45, 3) := by decide +kernel
theorem dX9_count_122 : decode cX9_count 122 = .ok (.iload_n 1, 1) := by decide +kernel
theorem dX9_count_123 : decode cX9_count 123 = .ok (.bipush 10, 2) := by decide +kernel
theorem dX9_count_125 : decode cX9_count 125 = .ok (.isub, 1) := by decide +kernel
theorem dX9_count_126 : decode cX9_count 126 = .ok (.iaload, 1) := by decide +kernel
theorem dX9_count_127 : decode cX9_count 127 = .ok (.goto 4, 3) := by decide +kernel
theorem dX9_count_130 : decode cX9_count 130 = .ok (.iconst (-1), 1) := by decide +kernel
theorem dX9_count_131 : decode cX9_count 131 = .ok (.ireturn, 1) := by decide +kernel
theorem dJ9_abs_0f7a4_0 : decode cJ9_abs_0f7a4 0 = .ok (.iload_n 0, 1) := by decide +kernel
theorem dJ9_abs_0f7a4_1 : decode cJ9_abs_0f7a4 1 = .ok (.ifCond .ge 8, 3) := by decide +kernel
theorem dJ9_abs_0f7a4_4 : decode cJ9_abs_0f7a4 4 = .ok (.iload_n 0, 1) := by decide +kernel
theorem dJ9_abs_0f7a4_5 : decode cJ9_abs_0f7a4 5 = .ok (.ineg, 1) := by decide +kernel
theorem dJ9_abs_0f7a4_6 : decode cJ9_abs_0f7a4 6 = .ok (.goto 4, 3) := by decide +kernel
theorem dJ9_abs_0f7a4_9 : decode cJ9_abs_0f7a4 9 = .ok (.iload_n 0, 1) := by decide +kernel
theorem dJ9_abs_0f7a4_10 : decode cJ9_abs_0f7a4 10 = .ok (.ireturn, 1) := by decide +kernel
theorem dJ9_max_7cf53_0 : decode cJ9_max_7cf53 0 = .ok (.iload_n 0, 1) := by decide +kernel
theorem dJ9_max_7cf53_1 : decode cJ9_max_7cf53 1 = .ok (.iload_n 1, 1) := by decide +kernel
theorem dJ9_max_7cf53_2 : decode cJ9_max_7cf53 2 = .ok (.if_icmp .lt 7, 3) := by decide +kernel
theorem dJ9_max_7cf53_5 : decode cJ9_max_7cf53 5 = .ok (.iload_n 0, 1) := by decide +kernel
theorem dJ9_max_7cf53_6 : decode cJ9_max_7cf53 6 = .ok (.goto 4, 3) := by decide +kernel
theorem dJ9_max_7cf53_9 : decode cJ9_max_7cf53 9 = .ok (.iload_n 1, 1) := by decide +kernel
theorem dJ9_max_7cf53_10 : decode cJ9_max_7cf53 10 = .ok (.ireturn, 1) := by decide +kernel
theorem dJ9_min_7cf53_0 : decode cJ9_min_7cf53 0 = .ok (.iload_n 0, 1) := by decide +kernel
theorem dJ9_min_7cf53_1 : decode cJ9_min_7cf53 1 = .ok (.iload_n 1, 1) := by decide +kernel
theorem dJ9_min_7cf53_2 : decode cJ9_min_7cf53 2 = .ok (.if_icmp .gt 7, 3) := by decide +kernel
theorem dJ9_min_7cf53_5 : decode cJ9_min_7cf53 5 = .ok (.iload_n 0, 1) := by decide +kernel
theorem dJ9_min_7cf53_6 : decode cJ9_min_7cf53 6 = .ok (.goto 4, 3) := by decide +kernel
theorem dJ9_min_7cf53_9 : decode cJ9_min_7cf53 9 = .ok (.iload_n 1, 1) := by decide +kernel
theorem dJ9_min_7cf53_10 : decode cJ9_min_7cf53 10 = .ok (.ireturn, 1) := by decide +kernel
end
section
/-! the pool: a picture of all cells of class and reference: kinds, ints, references, longs, lengths, by address and place -/
abbrev St : Type := (Nat → Nat) × (Nat → Nat → Int32) × (Nat → Nat → Option Nat) × (Nat → Nat → Int64) × (Nat → Nat)
def sK (S : St) : Nat → Nat := S.1
def sI (S : St) : Nat → Nat → Int32 := S.2.1
def sR (S : St) : Nat → Nat → Option Nat := S.2.2.1
def sJ (S : St) : Nat → Nat → Int64 := S.2.2.2.1
def sL (S : St) : Nat → Nat := S.2.2.2.2
def up2 {α : Type} (g : Nat → Nat → α) (a k : Nat) (v : α) : Nat → Nat → α := fun b j => if b = a then (if j = k then v else g b j) else g b j
def stI (S : St) (a k : Nat) (v : Int32) : St := (S.1, up2 S.2.1 a k v, S.2.2.1, S.2.2.2.1, S.2.2.2.2)
def stR (S : St) (a k : Nat) (v : Option Nat) : St := (S.1, S.2.1, up2 S.2.2.1 a k v, S.2.2.2.1, S.2.2.2.2)
def stJ (S : St) (a k : Nat) (v : Int64) : St := (S.1, S.2.1, S.2.2.1, up2 S.2.2.2.1 a k v, S.2.2.2.2)
def stW (S : St) (a : Nat) (f : Nat → Int32) : St := (S.1, va_up S.2.1 a f, S.2.2.1, S.2.2.2.1, S.2.2.2.2)
def stN (S : St) (a kd n : Nat) : St := (va_up S.1 a kd, va_up S.2.1 a (fun _ => 0), va_up S.2.2.1 a (fun _ => none), va_up S.2.2.2.1 a (fun _ => 0), va_up S.2.2.2.2 a n)
theorem kI (S : St) (a k : Nat) (v : Int32) : sK (stI S a k v) = sK S := rfl
theorem kR (S : St) (a k : Nat) (v : Option Nat) : sK (stR S a k v) = sK S := rfl
theorem kJ (S : St) (a k : Nat) (v : Int64) : sK (stJ S a k v) = sK S := rfl
theorem kW (S : St) (a : Nat) (v : Nat → Int32) : sK (stW S a v) = sK S := rfl
theorem kN (S : St) (a kd n b : Nat) : sK (stN S a kd n) b = if b = a then kd else sK S b := rfl
theorem lI (S : St) (a k : Nat) (v : Int32) : sL (stI S a k v) = sL S := rfl
theorem lR (S : St) (a k : Nat) (v : Option Nat) : sL (stR S a k v) = sL S := rfl
theorem lJ (S : St) (a k : Nat) (v : Int64) : sL (stJ S a k v) = sL S := rfl
theorem lW (S : St) (a : Nat) (v : Nat → Int32) : sL (stW S a v) = sL S := rfl
theorem lNw (S : St) (a kd n b : Nat) : sL (stN S a kd n) b = if b = a then n else sL S b := rfl
theorem iI (S : St) (a k : Nat) (v : Int32) (b j : Nat) : sI (stI S a k v) b j = if b = a then (if j = k then v else sI S b j) else sI S b j := rfl
theorem iR (S : St) (a k : Nat) (v : Option Nat) : sI (stR S a k v) = sI S := rfl
theorem iJ (S : St) (a k : Nat) (v : Int64) : sI (stJ S a k v) = sI S := rfl
theorem iW (S : St) (a : Nat) (v : Nat → Int32) (b j : Nat) : sI (stW S a v) b j = if b = a then v j else sI S b j := by
  show va_up S.2.1 a v b j = _
  by_cases h : b = a <;> simp [va_up, h, sI]
theorem iN (S : St) (a kd n b j : Nat) : sI (stN S a kd n) b j = if b = a then 0 else sI S b j := by
  show va_up S.2.1 a (fun _ => 0) b j = _
  by_cases h : b = a <;> simp [va_up, h, sI]
theorem rI (S : St) (a k : Nat) (v : Int32) : sR (stI S a k v) = sR S := rfl
theorem rR (S : St) (a k : Nat) (v : Option Nat) (b j : Nat) : sR (stR S a k v) b j = if b = a then (if j = k then v else sR S b j) else sR S b j := rfl
theorem rJ (S : St) (a k : Nat) (v : Int64) : sR (stJ S a k v) = sR S := rfl
theorem rW (S : St) (a : Nat) (v : Nat → Int32) : sR (stW S a v) = sR S := rfl
theorem rN (S : St) (a kd n b j : Nat) : sR (stN S a kd n) b j = if b = a then none else sR S b j := by
  show va_up S.2.2.1 a (fun _ => none) b j = _
  by_cases h : b = a <;> simp [va_up, h, sR]
theorem jI (S : St) (a k : Nat) (v : Int32) : sJ (stI S a k v) = sJ S := rfl
theorem jR (S : St) (a k : Nat) (v : Option Nat) : sJ (stR S a k v) = sJ S := rfl
theorem jJ (S : St) (a k : Nat) (v : Int64) (b j : Nat) : sJ (stJ S a k v) b j = if b = a then (if j = k then v else sJ S b j) else sJ S b j := rfl
theorem jW (S : St) (a : Nat) (v : Nat → Int32) : sJ (stW S a v) = sJ S := rfl
theorem jN (S : St) (a kd n b j : Nat) : sJ (stN S a kd n) b j = if b = a then 0 else sJ S b j := by
  show va_up S.2.2.2.1 a (fun _ => 0) b j = _
  by_cases h : b = a <;> simp [va_up, h, sJ]
/-- which fields of a class are references -/
def tb : Nat → List Bool
  | 0 => [true]
  | 1 => [true, true, false, false, false, false, false, false, false, false]
  | 2 => [true, true, true, true, true, true, false, false, false, false]
  | 3 => [true, true, true, true, false, false, false, false, false]
  | 4 => [false, false, false, false, false, false]
  | 5 => [true, false, false, false]
  | 6 => [false, false, false, false, false, false, false, false, false, false]
  | 7 => [true, false]
  | 8 => [true, true, true, true, true, true, true, true, true, false, false, false, false, false, false, false, false, false]
  | 9 => [true, false, false, false, false, true, true, true, true, true, true, false, false, false, false, false, false, false, false, false, false, false, false, false, false, false, true, true, true, true, true, true, true, true, true, false, false, true, true, true, true, true, true, true, true, true, true, true, true, true, true, true, true, false, false, false, true, true, true, true, false, true, true]
  | _ => []
def fv (t : List Bool) (f : Nat → Int32) (g : Nat → Option Nat) : List Value := (List.range t.length).map (fun k => if t[k]? = some true then va_rf (g k) else .int (f k))
theorem fv_len (t : List Bool) (f : Nat → Int32) (g : Nat → Option Nat) : (fv t f g).length = t.length := by simp [fv]
theorem fv_i {t : List Bool} {f : Nat → Int32} {g : Nat → Option Nat} {k : Nat} (h : t[k]? = some false) : (fv t f g)[k]? = some (.int (f k)) := by
  have hl : k < t.length := (List.getElem?_eq_some_iff.mp h).1
  simp [fv, List.getElem?_map, List.getElem?_range hl, h]
theorem fv_r {t : List Bool} {f : Nat → Int32} {g : Nat → Option Nat} {k : Nat} (h : t[k]? = some true) : (fv t f g)[k]? = some (va_rf (g k)) := by
  have hl : k < t.length := (List.getElem?_eq_some_iff.mp h).1
  simp [fv, List.getElem?_map, List.getElem?_range hl, h]
theorem fv_si {t : List Bool} {f : Nat → Int32} {g : Nat → Option Nat} {k : Nat} (v : Int32) (h : t[k]? = some false) : (fv t f g).set k (.int v) = fv t (fun j => if j = k then v else f j) g := by
  have hl : k < t.length := (List.getElem?_eq_some_iff.mp h).1
  apply List.ext_getElem?
  intro i
  by_cases hi : i < t.length
  · by_cases hk : k = i
    · subst hk
      rw [List.getElem?_set_self (by rw [fv_len]; exact hl), fv_i h]
      simp
    · rw [List.getElem?_set_ne hk]
      have hk2 : ¬ i = k := fun e => hk e.symm
      simp [fv, List.getElem?_map, List.getElem?_range hi, hk2]
  · rw [List.getElem?_eq_none (by rw [List.length_set, fv_len]; omega), List.getElem?_eq_none (by rw [fv_len]; omega)]
theorem fv_sr {t : List Bool} {f : Nat → Int32} {g : Nat → Option Nat} {k : Nat} (v : Option Nat) (h : t[k]? = some true) : (fv t f g).set k (va_rf v) = fv t f (fun j => if j = k then v else g j) := by
  have hl : k < t.length := (List.getElem?_eq_some_iff.mp h).1
  apply List.ext_getElem?
  intro i
  by_cases hi : i < t.length
  · by_cases hk : k = i
    · subst hk
      rw [List.getElem?_set_self (by rw [fv_len]; exact hl), fv_r h]
      simp
    · rw [List.getElem?_set_ne hk]
      have hk2 : ¬ i = k := fun e => hk e.symm
      simp [fv, List.getElem?_map, List.getElem?_range hi, hk2]
  · rw [List.getElem?_eq_none (by rw [List.length_set, fv_len]; omega), List.getElem?_eq_none (by rw [fv_len]; omega)]
/-- the array class of a kind -/
def ak (k : Nat) : Nat := if k = 16 ∨ k = 17 ∨ k = 18 ∨ k = 19 then 11 else k
/-- what stands at an address -/
def ct (cy : Nat → ClassId) (S : St) (a : Nat) : va_E :=
  if sK S a < 10 then .inr (sK S a, fv (tb (sK S a)) (sI S a) (sR S a))
  else if sK S a = 12 then .inl (cy 12, sL S a, .inr (.inl (sJ S a)))
  else if sK S a = 14 ∨ sK S a = 15 then .inl (cy (sK S a), sL S a, .inr (.inr (.inr (.inr (sR S a)))))
  else .inl (cy (ak (sK S a)), sL S a, .inl (sI S a))
theorem ct_congr {cy : Nat → ClassId} {S T : St} {b : Nat} (h1 : sK T b = sK S b) (h2 : sI T b = sI S b) (h3 : sR T b = sR S b) (h4 : sJ T b = sJ S b) (h5 : sL T b = sL S b) : ct cy S b = ct cy T b := by
  simp only [ct, h1, h2, h3, h4, h5]
abbrev tysC (cy : Nat → ClassId) : List (ClassId × FieldType) := [(cy 10, .byte), (cy 11, .int), (cy 12, .long), (cy 13, .boolean), (cy 14, .object "IceHall$Rights"), (cy 15, .object "IceHall$Session")]
def PW (D : va_G) (cy : Nat → ClassId) (A : Nat → Prop) (S : St) (H : Heap) : Prop := ∃ L : List Nat, (∀ a, a ∈ L ↔ sK S a < 20) ∧ va_P D vwCl (va_pl L (ct cy S)) H ∧ va_D A (va_pl L (ct cy S))
theorem ct_obj {cy : Nat → ClassId} {S : St} {a ci : Nat} (hk : sK S a = ci) (hci : ci < 10) : ct cy S a = .inr (ci, fv (tb ci) (sI S a) (sR S a)) := by
  simp only [ct, hk, if_pos hci]
theorem ct_int {cy : Nat → ClassId} {S : St} {a ci : Nat} (hk : sK S a = ci) (hci : ci = 10 ∨ ci = 11 ∨ ci = 13 ∨ ci = 16 ∨ ci = 17 ∨ ci = 18 ∨ ci = 19) : ct cy S a = .inl (cy (ak ci), sL S a, .inl (sI S a)) := by
  rcases hci with rfl | rfl | rfl | rfl | rfl | rfl | rfl <;> simp [ct, hk, ak]
theorem ct_long {cy : Nat → ClassId} {S : St} {a : Nat} (hk : sK S a = 12) : ct cy S a = .inl (cy 12, sL S a, .inr (.inl (sJ S a))) := by
  simp [ct, hk]
theorem ct_ref {cy : Nat → ClassId} {S : St} {a ci : Nat} (hk : sK S a = ci) (hci : ci = 14 ∨ ci = 15) : ct cy S a = .inl (cy ci, sL S a, .inr (.inr (.inr (.inr (sR S a))))) := by
  rcases hci with rfl | rfl <;> simp [ct, hk]
theorem PW.place {D : va_G} {cy : Nat → ClassId} {A : Nat → Prop} {S : St} {H : Heap} (h : PW D cy A S H) {a : Nat} (hk : sK S a < 20) : ∃ (L : List Nat) (q : Nat), (∀ a, a ∈ L ↔ sK S a < 20) ∧ va_P D vwCl (va_pl L (ct cy S)) H ∧ va_D A (va_pl L (ct cy S)) ∧ a ∈ L ∧ (va_pl L (ct cy S))[q]? = some (a, ct cy S a) := by
  obtain ⟨L, hL, hP, hD⟩ := h
  obtain ⟨q, hq⟩ := va_pl_get (X := []) (f := ct cy S) ((hL a).mpr hk)
  exact ⟨L, q, hL, hP, hD, (hL a).mpr hk, hq⟩
/-- a cell's contents changed: the list changed at its place is the new pool's list -/
theorem pw_set {cy : Nat → ClassId} {A : Nat → Prop} {S T : St} {L : List Nat} {a q : Nat} {e : va_E} (hD : va_D A (va_pl L (ct cy S))) (ha : a ∈ L) (hq : (va_pl L (ct cy S))[q]? = some (a, ct cy S a)) (he : ct cy T a = e) (ho : ∀ b, b ≠ a → ct cy T b = ct cy S b) : (va_pl L (ct cy S)).set q (a, e) = va_pl L (ct cy T) := by
  have h1 := va_pl_set (X := []) (e := e) hD ha hq
  have h2 : va_pl L (va_up (ct cy S) a e) = va_pl L (ct cy T) := va_pl_congr (fun b => by
    by_cases hb : b = a
    · subst hb; rw [va_up_self, he]
    · rw [va_up_ne _ _ hb, ho b hb])
  rw [← h2]
  exact h1
theorem PW.fresh {D : va_G} {cy : Nat → ClassId} {A : Nat → Prop} {S : St} {H : Heap} (h : PW D cy A S H) {q : Nat} (hq : H.size ≤ q) : 20 ≤ sK S q := by
  obtain ⟨L, hL, hP, -⟩ := h
  have h1 : q ∉ L := va_pl_fresh (X := []) hP hq
  exact Nat.le_of_not_lt (fun h2 => h1 ((hL q).mpr h2))
theorem pw_push {D : va_G} {cy : Nat → ClassId} {A : Nat → Prop} {S : St} {H1 : Heap} {L : List Nat} {q kd n : Nat} {e : va_E} (hkd : kd < 20) (hL : ∀ a, a ∈ L ↔ sK S a < 20) (hP : va_P D vwCl (va_pl L (ct cy S) ++ [(q, e)]) H1) (hD : va_D A (va_pl L (ct cy S) ++ [(q, e)])) (he : ct cy (stN S q kd n) q = e) : PW D cy A (stN S q kd n) H1 ∧ 20 ≤ sK S q := by
  have hq : q ∉ L := va_pl_fresh2 (X := []) hD
  have h1 : va_pl L (ct cy S) ++ [(q, e)] = va_pl (L ++ [q]) (ct cy (stN S q kd n)) := by
    rw [va_pl_push hq]
    refine va_pl_congr (fun b => ?_)
    by_cases hb : b = q
    · subst hb; rw [va_up_self, he]
    · rw [va_up_ne _ _ hb]
      refine ct_congr ?_ ?_ ?_ ?_ ?_
      · show va_up S.1 q kd b = S.1 b; rw [va_up_ne _ _ hb]
      · show va_up S.2.1 q _ b = S.2.1 b; rw [va_up_ne _ _ hb]
      · show va_up S.2.2.1 q _ b = S.2.2.1 b; rw [va_up_ne _ _ hb]
      · show va_up S.2.2.2.1 q _ b = S.2.2.2.1 b; rw [va_up_ne _ _ hb]
      · show va_up S.2.2.2.2 q _ b = S.2.2.2.2 b; rw [va_up_ne _ _ hb]
  refine ⟨⟨L ++ [q], fun a => ?_, h1 ▸ hP, h1 ▸ hD⟩, Nat.le_of_not_lt (fun h2 => hq ((hL q).mpr h2))⟩
  rw [List.mem_append, List.mem_singleton, hL a, kN]
  by_cases ha : a = q
  · simp [ha, hkd]
  · simp [ha]
end
section
/-! rows of the machine over the pool -/
section PS
variable {p : Program} {l : Launch} {e : Env} {R : Room} {s : State} {m : MethodId} {args : Array Value} {below : List Frame} {meth : Method} {c : Code} {H : Heap} {locs : List Loc} {cells slots : Nat} {Q : State → Prop}
variable {cc : ByteArray} {pc : Nat} {ls : Array Slot} {rest : List Value} {D : va_G} {cy : Nat → ClassId} {A : Nat → Prop} {a : Nat} {S : St} {H0 : Heap}
theorem pg_gi (hx : p.tables.exec = Jvm.exec) (hb : c.code = cc) {own ref C : String} {T : u_T} {N ci index : Nat} {Ts : List Cond} (hts : ∀ w ∈ Ts, w.before args s = true) (hin : ∀ w ∈ u_ws C T N, w ∈ Ts) (hown : s.vm.findClass own = some m.cls) (hK : va_K D vwCl (tysC cy) s) (hW : PW D cy A S H) (hk : sK S a = ci) (hci : ci < 10) (hc : vwCl[ci]? = some (C, T, N)) (k : Nat) (hkN : k < N) (hlink : (Cond.fieldLink own index ref (T k).2.1 (T k).2.2.1).before args s = true) (hsame : ∀ x, s.fieldFound? (T k).1 (T k).2.1 (T k).2.2.1 = some x → s.fieldFound? ref (T k).2.1 (T k).2.2.1 = some x) (ht : (tb ci)[k]? = some false) (hdg : decode cc pc = .ok (.getfield index, 3))
    (kk : W p l e R s m args below meth c H locs cells slots Q (F0 m (pc + 3) ls (.int (sI S a k) :: rest))) : W p l e R s m args below meth c H locs cells slots Q (F0 m pc ls (.ref a :: rest)) := by
  obtain ⟨L, q, hL, hP, hD, ha, hq⟩ := hW.place (a := a) (by omega)
  rw [ct_obj hk hci] at hq
  exact va_get hx hb hts hin hown hK hP q hq hc k hkN hlink hsame (fv_i ht) hdg kk
theorem pg_gq (hx : p.tables.exec = Jvm.exec) (hb : c.code = cc) {own ref C : String} {T : u_T} {N ci index : Nat} {Ts : List Cond} (hts : ∀ w ∈ Ts, w.before args s = true) (hin : ∀ w ∈ u_ws C T N, w ∈ Ts) (hown : s.vm.findClass own = some m.cls) (hK : va_K D vwCl (tysC cy) s) (hW : PW D cy A S H) (hk : sK S a = ci) (hci : ci < 10) (hc : vwCl[ci]? = some (C, T, N)) (k : Nat) (hkN : k < N) (hlink : (Cond.fieldLink own index ref (T k).2.1 (T k).2.2.1).before args s = true) (hsame : ∀ x, s.fieldFound? (T k).1 (T k).2.1 (T k).2.2.1 = some x → s.fieldFound? ref (T k).2.1 (T k).2.2.1 = some x) (ht : (tb ci)[k]? = some true) (hdg : decode cc pc = .ok (.getfield index, 3))
    (kk : W p l e R s m args below meth c H locs cells slots Q (F0 m (pc + 3) ls (va_rf (sR S a k) :: rest))) : W p l e R s m args below meth c H locs cells slots Q (F0 m pc ls (.ref a :: rest)) := by
  obtain ⟨L, q, hL, hP, hD, ha, hq⟩ := hW.place (a := a) (by omega)
  rw [ct_obj hk hci] at hq
  exact va_get hx hb hts hin hown hK hP q hq hc k hkN hlink hsame (fv_r ht) hdg kk
theorem pg_gr (hx : p.tables.exec = Jvm.exec) (hb : c.code = cc) {own ref C : String} {T : u_T} {N ci index b : Nat} {Ts : List Cond} (hts : ∀ w ∈ Ts, w.before args s = true) (hin : ∀ w ∈ u_ws C T N, w ∈ Ts) (hown : s.vm.findClass own = some m.cls) (hK : va_K D vwCl (tysC cy) s) (hW : PW D cy A S H) (hk : sK S a = ci) (hci : ci < 10) (hc : vwCl[ci]? = some (C, T, N)) (k : Nat) (hkN : k < N) (hlink : (Cond.fieldLink own index ref (T k).2.1 (T k).2.2.1).before args s = true) (hsame : ∀ x, s.fieldFound? (T k).1 (T k).2.1 (T k).2.2.1 = some x → s.fieldFound? ref (T k).2.1 (T k).2.2.1 = some x) (ht : (tb ci)[k]? = some true) (hr : sR S a k = some b) (hdg : decode cc pc = .ok (.getfield index, 3))
    (kk : W p l e R s m args below meth c H locs cells slots Q (F0 m (pc + 3) ls (.ref b :: rest))) : W p l e R s m args below meth c H locs cells slots Q (F0 m pc ls (.ref a :: rest)) :=
  pg_gq hx hb hts hin hown hK hW hk hci hc k hkN hlink hsame ht hdg (by rw [hr]; exact kk)
theorem ct_stI {S : St} {a ci k : Nat} {v : Int32} (hk : sK S a = ci) (hci : ci < 10) (ht : (tb ci)[k]? = some false) : ct cy (stI S a k v) a = .inr (ci, (fv (tb ci) (sI S a) (sR S a)).set k (.int v)) := by
  rw [ct_obj (S := stI S a k v) hk hci, fv_si v ht]
  have h1 : sI (stI S a k v) a = fun j => if j = k then v else sI S a j := by funext j; rw [iI]; simp
  rw [h1]
  rfl
theorem ct_stR {S : St} {a ci k : Nat} {v : Option Nat} (hk : sK S a = ci) (hci : ci < 10) (ht : (tb ci)[k]? = some true) : ct cy (stR S a k v) a = .inr (ci, (fv (tb ci) (sI S a) (sR S a)).set k (va_rf v)) := by
  rw [ct_obj (S := stR S a k v) hk hci, fv_sr v ht]
  have h1 : sR (stR S a k v) a = fun j => if j = k then v else sR S a j := by funext j; rw [rR]; simp
  rw [h1]
  rfl
theorem ct_oI {S : St} {a k b : Nat} {v : Int32} (hb : b ≠ a) : ct cy (stI S a k v) b = ct cy S b := by
  refine (ct_congr (S := S) (T := stI S a k v) rfl ?_ rfl rfl rfl).symm
  funext j
  rw [iI, if_neg hb]
theorem ct_oR {S : St} {a k b : Nat} {v : Option Nat} (hb : b ≠ a) : ct cy (stR S a k v) b = ct cy S b := by
  refine (ct_congr (S := S) (T := stR S a k v) rfl rfl ?_ rfl rfl).symm
  funext j
  rw [rR, if_neg hb]
theorem ct_oJ {S : St} {a k b : Nat} {v : Int64} (hb : b ≠ a) : ct cy (stJ S a k v) b = ct cy S b := by
  refine (ct_congr (S := S) (T := stJ S a k v) rfl rfl rfl ?_ rfl).symm
  funext j
  rw [jJ, if_neg hb]
theorem pg_pi (hx : p.tables.exec = Jvm.exec) (hb : c.code = cc) {own ref C : String} {T : u_T} {N ci index : Nat} {Ts : List Cond} (hts : ∀ w ∈ Ts, w.before args s = true) (hin : ∀ w ∈ u_ws C T N, w ∈ Ts) (ty0 : Nat → FieldType) (hty : ∀ k, k < N → parseFieldDescriptor (T k).2.2.1 = some (ty0 k)) (hnm : ∀ a, a < N → ∀ b, b < N → a ≠ b → (T a).2.1 ≠ (T b).2.1) (hown : s.vm.findClass own = some m.cls) (hK : va_K D vwCl (tysC cy) s) (hW : PW D cy A S H) (hS : va_S A H0 H locs) (hk : sK S a = ci) (hci : ci < 10) (hc : vwCl[ci]? = some (C, T, N)) (k : Nat) (hkN : k < N) (hlink : (Cond.fieldLink own index ref (T k).2.1 (T k).2.2.1).before args s = true) (hsame : ∀ x, s.fieldFound? (T k).1 (T k).2.1 (T k).2.2.1 = some x → s.fieldFound? ref (T k).2.1 (T k).2.2.1 = some x) (hfin : (T k).2.2.2 = false) (hd : ty0 k = .int) (ht : (tb ci)[k]? = some false) {v : Int32} (hdg : decode cc pc = .ok (.putfield index, 3))
    (kk : ∀ (H1 : Heap) (locs1 : List Loc), PW D cy A (stI S a k v) H1 → va_S A H0 H1 locs1 → W p l e R s m args below meth c H1 locs1 cells slots Q (F0 m (pc + 3) ls rest)) : W p l e R s m args below meth c H locs cells slots Q (F0 m pc ls (.int v :: .ref a :: rest)) := by
  obtain ⟨L, q, hL, hP, hD, ha, hq⟩ := hW.place (a := a) (by omega)
  have hq2 := hq
  rw [ct_obj hk hci] at hq2
  refine va_put hx hb hts hin ty0 hty hnm hown hK hP hD hS q hq2 hc k hkN hlink hsame hfin (ty := .int) (by rw [hty k hkN, hd]) rfl rfl (by rw [fv_len]; exact (List.getElem?_eq_some_iff.mp ht).1) hdg (fun H1 locs1 h1 h2 h3 => kk H1 locs1 ⟨L, hL, ?_, ?_⟩ h3)
  · rw [← pw_set (T := stI S a k v) hD ha hq (ct_stI hk hci ht) (fun b hb => ct_oI hb)]; exact h1
  · rw [← pw_set (T := stI S a k v) hD ha hq (ct_stI hk hci ht) (fun b hb => ct_oI hb)]; exact h2
/-- a reference field; 'fits' of a reference is true -/
theorem pg_pr (hx : p.tables.exec = Jvm.exec) (hb : c.code = cc) {own ref C : String} {T : u_T} {N ci index : Nat} {Ts : List Cond} (hts : ∀ w ∈ Ts, w.before args s = true) (hin : ∀ w ∈ u_ws C T N, w ∈ Ts) (ty0 : Nat → FieldType) (hty : ∀ k, k < N → parseFieldDescriptor (T k).2.2.1 = some (ty0 k)) (hnm : ∀ a, a < N → ∀ b, b < N → a ≠ b → (T a).2.1 ≠ (T b).2.1) (hown : s.vm.findClass own = some m.cls) (hK : va_K D vwCl (tysC cy) s) (hW : PW D cy A S H) (hS : va_S A H0 H locs) (hk : sK S a = ci) (hci : ci < 10) (hc : vwCl[ci]? = some (C, T, N)) (k : Nat) (hkN : k < N) (hlink : (Cond.fieldLink own index ref (T k).2.1 (T k).2.2.1).before args s = true) (hsame : ∀ x, s.fieldFound? (T k).1 (T k).2.1 (T k).2.2.1 = some x → s.fieldFound? ref (T k).2.1 (T k).2.2.1 = some x) (hfin : (T k).2.2.2 = true) (hin2 : meth.name = "<init>") (hdecl : (T k).1 = own) {v : Nat} (hn : narrow (ty0 k) (.ref v) = .ref v) (hfit : fits (ty0 k) (.ref v) = true) (ht : (tb ci)[k]? = some true) (hdg : decode cc pc = .ok (.putfield index, 3))
    (kk : ∀ (H1 : Heap) (locs1 : List Loc), PW D cy A (stR S a k (some v)) H1 → va_S A H0 H1 locs1 → W p l e R s m args below meth c H1 locs1 cells slots Q (F0 m (pc + 3) ls rest)) : W p l e R s m args below meth c H locs cells slots Q (F0 m pc ls (.ref v :: .ref a :: rest)) := by
  obtain ⟨L, q, hL, hP, hD, ha, hq⟩ := hW.place (a := a) (by omega)
  have hq2 := hq
  rw [ct_obj hk hci] at hq2
  refine va_putF hx hb hts hin ty0 hty hnm hown hK hP hD hS q hq2 hc k hkN hlink hsame hfin hin2 hdecl (ty := ty0 k) (hty k hkN) hn hfit (by rw [fv_len]; exact (List.getElem?_eq_some_iff.mp ht).1) hdg (fun H1 locs1 h1 h2 h3 => kk H1 locs1 ⟨L, hL, ?_, ?_⟩ h3)
  · rw [← pw_set (T := stR S a k (some v)) hD ha hq (ct_stR hk hci ht) (fun b hb => ct_oR hb)]; exact h1
  · rw [← pw_set (T := stR S a k (some v)) hD ha hq (ct_stR hk hci ht) (fun b hb => ct_oR hb)]; exact h2
/-- a final int field, in a constructor -/
theorem pg_pf (hx : p.tables.exec = Jvm.exec) (hb : c.code = cc) {own ref C : String} {T : u_T} {N ci index : Nat} {Ts : List Cond} (hts : ∀ w ∈ Ts, w.before args s = true) (hin : ∀ w ∈ u_ws C T N, w ∈ Ts) (ty0 : Nat → FieldType) (hty : ∀ k, k < N → parseFieldDescriptor (T k).2.2.1 = some (ty0 k)) (hnm : ∀ a, a < N → ∀ b, b < N → a ≠ b → (T a).2.1 ≠ (T b).2.1) (hown : s.vm.findClass own = some m.cls) (hK : va_K D vwCl (tysC cy) s) (hW : PW D cy A S H) (hS : va_S A H0 H locs) (hk : sK S a = ci) (hci : ci < 10) (hc : vwCl[ci]? = some (C, T, N)) (k : Nat) (hkN : k < N) (hlink : (Cond.fieldLink own index ref (T k).2.1 (T k).2.2.1).before args s = true) (hsame : ∀ x, s.fieldFound? (T k).1 (T k).2.1 (T k).2.2.1 = some x → s.fieldFound? ref (T k).2.1 (T k).2.2.1 = some x) (hfin : (T k).2.2.2 = true) (hin2 : meth.name = "<init>") (hdecl : (T k).1 = own) (hd : ty0 k = .int) (ht : (tb ci)[k]? = some false) {v : Int32} (hdg : decode cc pc = .ok (.putfield index, 3))
    (kk : ∀ (H1 : Heap) (locs1 : List Loc), PW D cy A (stI S a k v) H1 → va_S A H0 H1 locs1 → W p l e R s m args below meth c H1 locs1 cells slots Q (F0 m (pc + 3) ls rest)) : W p l e R s m args below meth c H locs cells slots Q (F0 m pc ls (.int v :: .ref a :: rest)) := by
  obtain ⟨L, q, hL, hP, hD, ha, hq⟩ := hW.place (a := a) (by omega)
  have hq2 := hq
  rw [ct_obj hk hci] at hq2
  refine va_putF hx hb hts hin ty0 hty hnm hown hK hP hD hS q hq2 hc k hkN hlink hsame hfin hin2 hdecl (ty := .int) (by rw [hty k hkN, hd]) rfl rfl (by rw [fv_len]; exact (List.getElem?_eq_some_iff.mp ht).1) hdg (fun H1 locs1 h1 h2 h3 => kk H1 locs1 ⟨L, hL, ?_, ?_⟩ h3)
  · rw [← pw_set (T := stI S a k v) hD ha hq (ct_stI hk hci ht) (fun b hb => ct_oI hb)]; exact h1
  · rw [← pw_set (T := stI S a k v) hD ha hq (ct_stI hk hci ht) (fun b hb => ct_oI hb)]; exact h2
/-- arrays -/
theorem pg_iald (hx : p.tables.exec = Jvm.exec) (hb : c.code = cc) (hK : va_K D vwCl (tysC cy) s) (hW : PW D cy A S H) {ci : Nat} (hk : sK S a = ci) (hci : ci = 11 ∨ ci = 16 ∨ ci = 17 ∨ ci = 18 ∨ ci = 19) {i : Int32} (hin : vp_in i (sL S a)) (hdg : decode cc pc = .ok (.iaload, 1))
    (kk : W p l e R s m args below meth c H locs cells slots Q (F0 m (pc + 1) ls (.int (sI S a i.toNatClampNeg) :: rest))) : W p l e R s m args below meth c H locs cells slots Q (F0 m pc ls (.int i :: .ref a :: rest)) := by
  obtain ⟨L, q, hL, hP, hD, ha, hq⟩ := hW.place (a := a) (by omega)
  rcases hci with rfl | rfl | rfl | rfl | rfl <;> rw [ct_int hk (by omega)] at hq <;> exact va_iald hx hb hK hP q 1 hq rfl hin hdg kk
theorem pg_bald (hx : p.tables.exec = Jvm.exec) (hb : c.code = cc) (hK : va_K D vwCl (tysC cy) s) (hW : PW D cy A S H) (hk : sK S a = 10) {i : Int32} (hin : vp_in i (sL S a)) (hdg : decode cc pc = .ok (.baload, 1))
    (kk : W p l e R s m args below meth c H locs cells slots Q (F0 m (pc + 1) ls (.int (sI S a i.toNatClampNeg) :: rest))) : W p l e R s m args below meth c H locs cells slots Q (F0 m pc ls (.int i :: .ref a :: rest)) := by
  obtain ⟨L, q, hL, hP, hD, ha, hq⟩ := hW.place (a := a) (by omega)
  rw [ct_int hk (by omega)] at hq
  exact va_bald hx hb hK hP q 0 hq rfl hin hdg kk
theorem pg_zald (hx : p.tables.exec = Jvm.exec) (hb : c.code = cc) (hK : va_K D vwCl (tysC cy) s) (hW : PW D cy A S H) (hk : sK S a = 13) {i : Int32} (hin : vp_in i (sL S a)) (hdg : decode cc pc = .ok (.baload, 1))
    (kk : W p l e R s m args below meth c H locs cells slots Q (F0 m (pc + 1) ls (.int (sI S a i.toNatClampNeg) :: rest))) : W p l e R s m args below meth c H locs cells slots Q (F0 m pc ls (.int i :: .ref a :: rest)) := by
  obtain ⟨L, q, hL, hP, hD, ha, hq⟩ := hW.place (a := a) (by omega)
  rw [ct_int hk (by omega)] at hq
  exact va_zald hx hb hK hP q 3 hq rfl hin hdg kk
theorem pg_lald (hx : p.tables.exec = Jvm.exec) (hb : c.code = cc) (hK : va_K D vwCl (tysC cy) s) (hW : PW D cy A S H) (hk : sK S a = 12) {i : Int32} (hin : vp_in i (sL S a)) (hdg : decode cc pc = .ok (.laload, 1))
    (kk : W p l e R s m args below meth c H locs cells slots Q (F0 m (pc + 1) ls (.long (sJ S a i.toNatClampNeg) :: rest))) : W p l e R s m args below meth c H locs cells slots Q (F0 m pc ls (.int i :: .ref a :: rest)) := by
  obtain ⟨L, q, hL, hP, hD, ha, hq⟩ := hW.place (a := a) (by omega)
  rw [ct_long hk] at hq
  exact va_lald hx hb hK hP q 2 hq rfl hin hdg kk
theorem pg_aaldR (hx : p.tables.exec = Jvm.exec) (hb : c.code = cc) (hK : va_K D vwCl (tysC cy) s) (hW : PW D cy A S H) (hk : sK S a = 14) {i : Int32} (hin : vp_in i (sL S a)) (hdg : decode cc pc = .ok (.aaload, 1))
    (kk : W p l e R s m args below meth c H locs cells slots Q (F0 m (pc + 1) ls (va_rf (sR S a i.toNatClampNeg) :: rest))) : W p l e R s m args below meth c H locs cells slots Q (F0 m pc ls (.int i :: .ref a :: rest)) := by
  obtain ⟨L, q, hL, hP, hD, ha, hq⟩ := hW.place (a := a) (by omega)
  rw [ct_ref hk (by omega)] at hq
  exact va_aldq hx hb hK hP q 4 hq rfl hin hdg kk
theorem pg_aaldS (hx : p.tables.exec = Jvm.exec) (hb : c.code = cc) (hK : va_K D vwCl (tysC cy) s) (hW : PW D cy A S H) (hk : sK S a = 15) {i : Int32} (hin : vp_in i (sL S a)) (hdg : decode cc pc = .ok (.aaload, 1))
    (kk : W p l e R s m args below meth c H locs cells slots Q (F0 m (pc + 1) ls (va_rf (sR S a i.toNatClampNeg) :: rest))) : W p l e R s m args below meth c H locs cells slots Q (F0 m pc ls (.int i :: .ref a :: rest)) := by
  obtain ⟨L, q, hL, hP, hD, ha, hq⟩ := hW.place (a := a) (by omega)
  rw [ct_ref hk (by omega)] at hq
  exact va_aldq hx hb hK hP q 5 hq rfl hin hdg kk
theorem pg_alen (hx : p.tables.exec = Jvm.exec) (hb : c.code = cc) (hK : va_K D vwCl (tysC cy) s) (hW : PW D cy A S H) (hk : sK S a = 11) (hdg : decode cc pc = .ok (.arraylength, 1))
    (kk : W p l e R s m args below meth c H locs cells slots Q (F0 m (pc + 1) ls (.int (nI (sL S a)) :: rest))) : W p l e R s m args below meth c H locs cells slots Q (F0 m pc ls (.ref a :: rest)) := by
  obtain ⟨L, q, hL, hP, hD, ha, hq⟩ := hW.place (a := a) (by omega)
  rw [ct_int hk (by omega)] at hq
  exact va_alen hx hb hK hP q 1 hq rfl rfl hdg kk
theorem ct_aI {S : St} {a ci k : Nat} {v : Int32} (hk : sK S a = ci) (hci : ci = 10 ∨ ci = 11 ∨ ci = 13 ∨ ci = 16 ∨ ci = 17 ∨ ci = 18 ∨ ci = 19) : ct cy (stI S a k v) a = .inl (cy (ak ci), sL S a, .inl (upd (sI S a) k v)) := by
  rw [ct_int (S := stI S a k v) hk hci]
  have h1 : sI (stI S a k v) a = upd (sI S a) k v := by funext j; rw [iI]; simp [upd]
  rw [h1]
  rfl
theorem ct_aJ {S : St} {a k : Nat} {v : Int64} (hk : sK S a = 12) : ct cy (stJ S a k v) a = .inl (cy 12, sL S a, .inr (.inl (vp_updL (sJ S a) k v))) := by
  rw [ct_long (S := stJ S a k v) hk]
  have h1 : sJ (stJ S a k v) a = vp_updL (sJ S a) k v := by funext j; rw [jJ]; simp [vp_updL]
  rw [h1]
  rfl
theorem ct_aR {S : St} {a ci k : Nat} {v : Option Nat} (hk : sK S a = ci) (hci : ci = 14 ∨ ci = 15) : ct cy (stR S a k v) a = .inl (cy ci, sL S a, .inr (.inr (.inr (.inr (va_up (sR S a) k v))))) := by
  rw [ct_ref (S := stR S a k v) hk hci]
  have h1 : sR (stR S a k v) a = va_up (sR S a) k v := by funext j; rw [rR]; simp [va_up]
  rw [h1]
  rfl
theorem pg_iast (hx : p.tables.exec = Jvm.exec) (hb : c.code = cc) (hK : va_K D vwCl (tysC cy) s) (hW : PW D cy A S H) (hS : va_S A H0 H locs) {ci : Nat} (hk : sK S a = ci) (hci : ci = 11 ∨ ci = 16 ∨ ci = 17 ∨ ci = 18 ∨ ci = 19) {i x : Int32} (hin : vp_in i (sL S a)) (hdg : decode cc pc = .ok (.iastore, 1))
    (kk : ∀ (H1 : Heap) (locs1 : List Loc), PW D cy A (stI S a i.toNatClampNeg x) H1 → va_S A H0 H1 locs1 → W p l e R s m args below meth c H1 locs1 cells slots Q (F0 m (pc + 1) ls rest)) : W p l e R s m args below meth c H locs cells slots Q (F0 m pc ls (.int x :: .int i :: .ref a :: rest)) := by
  obtain ⟨L, q, hL, hP, hD, ha, hq⟩ := hW.place (a := a) (by omega)
  rcases hci with rfl | rfl | rfl | rfl | rfl
  · have hq2 := hq
    rw [ct_int hk (by omega)] at hq2
    have hz := pw_set (T := stI S a i.toNatClampNeg x) hD ha hq (ct_aI hk (by omega)) (fun b hb => ct_oI hb)
    refine va_iast hx hb hK hP hD hS q 1 hq2 rfl hin hdg (fun H1 locs1 h1 h2 h3 => kk H1 locs1 ⟨L, hL, hz ▸ h1, hz ▸ h2⟩ h3)
  · have hq2 := hq
    rw [ct_int hk (by omega)] at hq2
    have hz := pw_set (T := stI S a i.toNatClampNeg x) hD ha hq (ct_aI hk (by omega)) (fun b hb => ct_oI hb)
    refine va_iast hx hb hK hP hD hS q 1 hq2 rfl hin hdg (fun H1 locs1 h1 h2 h3 => kk H1 locs1 ⟨L, hL, hz ▸ h1, hz ▸ h2⟩ h3)
  · have hq2 := hq
    rw [ct_int hk (by omega)] at hq2
    have hz := pw_set (T := stI S a i.toNatClampNeg x) hD ha hq (ct_aI hk (by omega)) (fun b hb => ct_oI hb)
    refine va_iast hx hb hK hP hD hS q 1 hq2 rfl hin hdg (fun H1 locs1 h1 h2 h3 => kk H1 locs1 ⟨L, hL, hz ▸ h1, hz ▸ h2⟩ h3)
  · have hq2 := hq
    rw [ct_int hk (by omega)] at hq2
    have hz := pw_set (T := stI S a i.toNatClampNeg x) hD ha hq (ct_aI hk (by omega)) (fun b hb => ct_oI hb)
    refine va_iast hx hb hK hP hD hS q 1 hq2 rfl hin hdg (fun H1 locs1 h1 h2 h3 => kk H1 locs1 ⟨L, hL, hz ▸ h1, hz ▸ h2⟩ h3)
  · have hq2 := hq
    rw [ct_int hk (by omega)] at hq2
    have hz := pw_set (T := stI S a i.toNatClampNeg x) hD ha hq (ct_aI hk (by omega)) (fun b hb => ct_oI hb)
    refine va_iast hx hb hK hP hD hS q 1 hq2 rfl hin hdg (fun H1 locs1 h1 h2 h3 => kk H1 locs1 ⟨L, hL, hz ▸ h1, hz ▸ h2⟩ h3)
theorem pg_bast (hx : p.tables.exec = Jvm.exec) (hb : c.code = cc) (hK : va_K D vwCl (tysC cy) s) (hW : PW D cy A S H) (hS : va_S A H0 H locs) (hk : sK S a = 10) {i x : Int32} (hin : vp_in i (sL S a)) (hdg : decode cc pc = .ok (.bastore, 1))
    (kk : ∀ (H1 : Heap) (locs1 : List Loc), PW D cy A (stI S a i.toNatClampNeg (vp_nar .byte x)) H1 → va_S A H0 H1 locs1 → W p l e R s m args below meth c H1 locs1 cells slots Q (F0 m (pc + 1) ls rest)) : W p l e R s m args below meth c H locs cells slots Q (F0 m pc ls (.int x :: .int i :: .ref a :: rest)) := by
  obtain ⟨L, q, hL, hP, hD, ha, hq⟩ := hW.place (a := a) (by omega)
  have hq2 := hq
  rw [ct_int hk (by omega)] at hq2
  have hz := pw_set (T := stI S a i.toNatClampNeg (vp_nar .byte x)) hD ha hq (ct_aI hk (by omega)) (fun b hb => ct_oI hb)
  refine va_bast hx hb hK hP hD hS q 0 hq2 rfl hin hdg (fun H1 locs1 h1 h2 h3 => kk H1 locs1 ⟨L, hL, hz ▸ h1, hz ▸ h2⟩ h3)
theorem pg_zast (hx : p.tables.exec = Jvm.exec) (hb : c.code = cc) (hK : va_K D vwCl (tysC cy) s) (hW : PW D cy A S H) (hS : va_S A H0 H locs) (hk : sK S a = 13) {i x : Int32} (hin : vp_in i (sL S a)) (hdg : decode cc pc = .ok (.bastore, 1))
    (kk : ∀ (H1 : Heap) (locs1 : List Loc), PW D cy A (stI S a i.toNatClampNeg (vp_nar .boolean x)) H1 → va_S A H0 H1 locs1 → W p l e R s m args below meth c H1 locs1 cells slots Q (F0 m (pc + 1) ls rest)) : W p l e R s m args below meth c H locs cells slots Q (F0 m pc ls (.int x :: .int i :: .ref a :: rest)) := by
  obtain ⟨L, q, hL, hP, hD, ha, hq⟩ := hW.place (a := a) (by omega)
  have hq2 := hq
  rw [ct_int hk (by omega)] at hq2
  have hz := pw_set (T := stI S a i.toNatClampNeg (vp_nar .boolean x)) hD ha hq (ct_aI hk (by omega)) (fun b hb => ct_oI hb)
  refine va_zast hx hb hK hP hD hS q 3 hq2 rfl hin hdg (fun H1 locs1 h1 h2 h3 => kk H1 locs1 ⟨L, hL, hz ▸ h1, hz ▸ h2⟩ h3)
theorem pg_last (hx : p.tables.exec = Jvm.exec) (hb : c.code = cc) (hK : va_K D vwCl (tysC cy) s) (hW : PW D cy A S H) (hS : va_S A H0 H locs) (hk : sK S a = 12) {i : Int32} {x : Int64} (hin : vp_in i (sL S a)) (hdg : decode cc pc = .ok (.lastore, 1))
    (kk : ∀ (H1 : Heap) (locs1 : List Loc), PW D cy A (stJ S a i.toNatClampNeg x) H1 → va_S A H0 H1 locs1 → W p l e R s m args below meth c H1 locs1 cells slots Q (F0 m (pc + 1) ls rest)) : W p l e R s m args below meth c H locs cells slots Q (F0 m pc ls (.long x :: .int i :: .ref a :: rest)) := by
  obtain ⟨L, q, hL, hP, hD, ha, hq⟩ := hW.place (a := a) (by omega)
  have hq2 := hq
  rw [ct_long hk] at hq2
  have hz := pw_set (T := stJ S a i.toNatClampNeg x) hD ha hq (ct_aJ hk) (fun b hb => ct_oJ hb)
  refine va_last hx hb hK hP hD hS q 2 hq2 rfl hin hdg (fun H1 locs1 h1 h2 h3 => kk H1 locs1 ⟨L, hL, hz ▸ h1, hz ▸ h2⟩ h3)
theorem pg_aast (hx : p.tables.exec = Jvm.exec) (hb : c.code = cc) (hK : va_K D vwCl (tysC cy) s) (hW : PW D cy A S H) (hS : va_S A H0 H locs) {t0 ka ci : Nat} (hka : ka = 14 ∨ ka = 15) (hk : sK S a = ka) {v : Nat} (hkv : sK S v = ci) (hci : ci < 10) {r : vw_C} (hc : vwCl[ci]? = some r) (ht : (tysC cy)[t0]? = some (cy ka, .object r.1)) {i : Int32} (hin : vp_in i (sL S a)) (hdg : decode cc pc = .ok (.aastore, 1))
    (kk : ∀ (H1 : Heap) (locs1 : List Loc), PW D cy A (stR S a i.toNatClampNeg (some v)) H1 → va_S A H0 H1 locs1 → W p l e R s m args below meth c H1 locs1 cells slots Q (F0 m (pc + 1) ls rest)) : W p l e R s m args below meth c H locs cells slots Q (F0 m pc ls (.ref v :: .int i :: .ref a :: rest)) := by
  obtain ⟨L, q, hL, hP, hD, ha, hq⟩ := hW.place (a := a) (by omega)
  have hv : v ∈ L := (hL v).mpr (by omega)
  obtain ⟨qv, hqv⟩ := va_pl_get (X := []) (f := ct cy S) hv
  rw [ct_obj hkv hci] at hqv
  have hq2 := hq
  rw [ct_ref hk hka] at hq2
  have hz := pw_set (T := stR S a i.toNatClampNeg (some v)) hD ha hq (ct_aR hk hka) (fun b hb => ct_oR hb)
  refine va_astq hx hb hK hP hD hS q t0 qv ci hq2 ht hqv hc hin hdg (fun H1 locs1 h1 h2 h3 => kk H1 locs1 ⟨L, hL, hz ▸ h1, hz ▸ h2⟩ h3)
/-- new objects and arrays -/
theorem pg_new (hx : p.tables.exec = Jvm.exec) (hb : c.code = cc) {own C : String} {T : u_T} {N ci index : Nat} {Ts : List Cond} (hts : ∀ w ∈ Ts, w.before args s = true) (hin : ∀ w ∈ u_ws C T N, w ∈ Ts) (ty : Nat → FieldType) (hty : ∀ k, k < N → parseFieldDescriptor (T k).2.2.1 = some (ty k)) (hown : s.vm.findClass own = some m.cls) (hcl : (Cond.classLink own index C).before args s = true) (hinst : (Cond.instantiable C N).before args s = true) (hini : (Cond.initialized C).before args s = true)
    (hK : va_K D vwCl (tysC cy) s) (hW : PW D cy A S H) (hS : va_S A H0 H locs) (hA : ∀ q, H0.size ≤ q → A q) (hci : ci < 10) (hc : vwCl[ci]? = some (C, T, N)) (hfs : ∀ j, j < N → defaultValue (ty j) = vp_V (fv (tb ci) (fun _ => 0) (fun _ => none)) j) (hcells : cells + 1 ≤ R.cells) (hslots : slots + N ≤ R.slots) (hdg : decode cc pc = .ok (.new index, 3))
    (kk : ∀ (q : Nat) (H1 : Heap), 20 ≤ sK S q → PW D cy A (stN S q ci 0) H1 → va_S A H0 H1 locs → W p l e R s m args below meth c H1 locs (cells + 1) (slots + N) Q (F0 m (pc + 3) ls (.ref q :: rest))) : W p l e R s m args below meth c H locs cells slots Q (F0 m pc ls rest) := by
  obtain ⟨L, hL, hP, hD⟩ := hW
  refine va_new hx hb hts hin ty hty hown hcl hinst hini hK hP hD hS hA hc hfs hcells hslots hdg (fun q H1 h1 h2 h3 => ?_)
  have h4 := pw_push (kd := ci) (n := 0) (by omega) hL h1 h2 (by
    rw [ct_obj (S := stN S q ci 0) (a := q) (ci := ci) (by rw [kN, if_pos rfl]) hci]
    have e1 : sI (stN S q ci 0) q = fun _ => 0 := by funext j; rw [iN, if_pos rfl]
    have e2 : sR (stN S q ci 0) q = fun _ => none := by funext j; rw [rN, if_pos rfl]
    rw [e1, e2])
  exact kk q H1 h4.2 h4.1 h3
theorem pg_newa (hx : p.tables.exec = Jvm.exec) (hb : c.code = cc) {atype : ArrayType} (harr : (Cond.arrayClass (newarray.typeOf atype)).before args s = true) {ty : FieldType} (hty : newarray.typeOf atype = ty) {kd t0 : Nat} (ht : (tysC cy)[t0]? = some (cy (ak kd), ty)) (hprim : ty = .int ∨ ty = .byte ∨ ty = .boolean ∨ ty = .long) (hkd : kd = 10 ∨ kd = 11 ∨ kd = 12 ∨ kd = 13 ∨ kd = 16 ∨ kd = 17 ∨ kd = 18 ∨ kd = 19)
    (hK : va_K D vwCl (tysC cy) s) (hW : PW D cy A S H) (hS : va_S A H0 H locs) (hA : ∀ q, H0.size ≤ q → A q) {n : Int32} {N' : Nat} (ha : ∀ cA : ClassId, vp_cell cA (if kd = 12 then (N', .inr (.inl (fun _ => 0))) else (N', .inl (fun _ => 0))) = arrV cA N' (fun _ => defaultValue ty)) (hn : ¬ n < 0) (hN : n.toNatClampNeg = N') (hbytes : N' * componentBytes ty ≤ 536870912) (hcells : cells + 1 ≤ R.cells) (hslots : slots + N' ≤ R.slots) (hdg : decode cc pc = .ok (.newarray atype, 2))
    (kk : ∀ (q : Nat) (H1 : Heap), 20 ≤ sK S q → PW D cy A (stN S q kd N') H1 → va_S A H0 H1 locs → W p l e R s m args below meth c H1 locs (cells + 1) (slots + N') Q (F0 m (pc + 2) ls (.ref q :: rest))) : W p l e R s m args below meth c H locs cells slots Q (F0 m pc ls (.int n :: rest)) := by
  obtain ⟨L, hL, hP, hD⟩ := hW
  refine va_newa hx hb harr hty hK hP hD hS hA ha hn hN hbytes hcells hslots hdg (fun q cA H1 h0 h1 h2 h3 => ?_)
  have hc1 : va_RA s cA ty := (h0.2 6 (cA, ty) rfl).2
  have hc2 : va_RA s (cy (ak kd)) ty := (hK.2 t0 _ ht).2
  have hcA : cA = cy (ak kd) := by
    rcases hprim with rfl | rfl | rfl | rfl <;> exact Option.some.inj (hc1.symm.trans hc2)
  subst hcA
  have e1 : sI (stN S q kd N') q = fun _ => 0 := by funext j; rw [iN, if_pos rfl]
  have e2 : sJ (stN S q kd N') q = fun _ => 0 := by funext j; rw [jN, if_pos rfl]
  have e3 : sL (stN S q kd N') q = N' := by rw [lNw, if_pos rfl]
  have h4 := pw_push (kd := kd) (n := N') (by omega) hL h1 h2 (by
    rcases hkd with rfl | rfl | rfl | rfl | rfl | rfl | rfl | rfl
    · rw [ct_int (S := stN S q 10 N') (a := q) (ci := 10) (by rw [kN, if_pos rfl]) (by omega), e1, e3]; rfl
    · rw [ct_int (S := stN S q 11 N') (a := q) (ci := 11) (by rw [kN, if_pos rfl]) (by omega), e1, e3]; rfl
    · rw [ct_long (S := stN S q 12 N') (a := q) (by rw [kN, if_pos rfl]), e2, e3]; rfl
    · rw [ct_int (S := stN S q 13 N') (a := q) (ci := 13) (by rw [kN, if_pos rfl]) (by omega), e1, e3]; rfl
    · rw [ct_int (S := stN S q 16 N') (a := q) (ci := 16) (by rw [kN, if_pos rfl]) (by omega), e1, e3]; rfl
    · rw [ct_int (S := stN S q 17 N') (a := q) (ci := 17) (by rw [kN, if_pos rfl]) (by omega), e1, e3]; rfl
    · rw [ct_int (S := stN S q 18 N') (a := q) (ci := 18) (by rw [kN, if_pos rfl]) (by omega), e1, e3]; rfl
    · rw [ct_int (S := stN S q 19 N') (a := q) (ci := 19) (by rw [kN, if_pos rfl]) (by omega), e1, e3]; rfl)
  exact kk q H1 h4.2 h4.1 h3
theorem pg_newq (hx : p.tables.exec = Jvm.exec) (hb : c.code = cc) {own C : String} {index : Nat} (hown : s.vm.findClass own = some m.cls) (hclink : (Cond.classLink own index C).before args s = true) (hover : va_AO C s) {kd t0 : Nat} (ht : (tysC cy)[t0]? = some (cy kd, .object C)) (hkd : kd = 14 ∨ kd = 15) (hK : va_K D vwCl (tysC cy) s) (hW : PW D cy A S H) (hS : va_S A H0 H locs) (hA : ∀ q, H0.size ≤ q → A q)
    {n : Int32} {N' : Nat} (hn : ¬ n < 0) (hN : n.toNatClampNeg = N') (hbytes : N' * 4 ≤ 536870912) (hcells : cells + 1 ≤ R.cells) (hslots : slots + N' ≤ R.slots) (hdg : decode cc pc = .ok (.anewarray index, 3))
    (kk : ∀ (q : Nat) (H1 : Heap), 20 ≤ sK S q → PW D cy A (stN S q kd N') H1 → va_S A H0 H1 locs → W p l e R s m args below meth c H1 locs (cells + 1) (slots + N') Q (F0 m (pc + 3) ls (.ref q :: rest))) : W p l e R s m args below meth c H locs cells slots Q (F0 m pc ls (.int n :: rest)) := by
  obtain ⟨L, hL, hP, hD⟩ := hW
  refine va_newq hx hb hown hclink hover hK hP hD hS hA hn hN hbytes hcells hslots hdg (fun q cA H1 h0 h1 h2 h3 => ?_)
  obtain ⟨_, _, _, _, _, hc1⟩ := (h0.2 6 (cA, .object C) rfl).2
  obtain ⟨_, _, _, _, _, hc2⟩ := (hK.2 t0 _ ht).2
  have hcA : cA = cy kd := Option.some.inj (hc1.symm.trans hc2)
  subst hcA
  have e1 : sR (stN S q kd N') q = fun _ => none := by funext j; rw [rN, if_pos rfl]
  have e3 : sL (stN S q kd N') q = N' := by rw [lNw, if_pos rfl]
  have h4 := pw_push (kd := kd) (n := N') (by omega) hL h1 h2 (by
    rw [ct_ref (S := stN S q kd N') (a := q) (ci := kd) (by rw [kN, if_pos rfl]) hkd, e1, e3])
  exact kk q H1 h4.2 h4.1 h3
end PS
end
section
/-! contracts over the pool, and calls by them -/
def xsRuts : Nat → Value := fun j => .int (([10, 30, 20, 5] : List Int32).getD j 0)
def xsHeat : Nat → Value := fun j => .int (([4, 9, 6, 2] : List Int32).getD j 0)
def xsShift : Nat → Value := fun j => .int (([0, -1, 1, -2, 2, -3, 3] : List Int32).getD j 0)
/-- a static array of ints that nothing writes -/
def ZA (A : Nat → Prop) (n : String) (L : Nat) (xs : Nat → Value) (U : State) : Prop := ∃ t : Nat, va_Z "IceHall" n "[I" (.ref t) A U U.heap ∧ va_T .int t L xs A U U.heap
/-- words of nest mates and of arrays of references -/
def NB (U : State) : Prop := va_Nw (.methodLinkNest RX8 9 yX1_init "IceHall") U ∧ va_Nw (.methodLinkNest RX8 25 yX4_init "IceHall") U ∧ va_Nw (.methodLinkNest RX8 38 yX7_init "IceHall") U ∧ va_Nw (.methodLinkNest RX8 63 yX3_init "IceHall") U ∧ va_Nw (.methodLinkNest RX1 11 yX0_init "IceHall") U ∧ va_Nw (.methodLinkNest RX1 76 yX8_ofKind "IceHall") U ∧ va_Nw (.methodLinkNest RX2 38 yX8_isBelow "IceHall") U ∧ va_Nw (.methodLinkNest RX3 31 yX8_isBelow "IceHall") U ∧ va_Nw (.methodLinkNest RX7 19 yX8_isBelow "IceHall") U ∧ va_Nw (.fieldLinkNest "IceHall$Ice" 69 "IceHall" "RUTS_OF_KIND" "[I" "IceHall") U ∧ va_Nw (.fieldLinkNest "IceHall$Mover" 113 "IceHall" "SHIFT_OF_PLACE" "[I" "IceHall") U ∧ va_AO "IceHall$Rights" U ∧ va_AO "IceHall$Session" U
theorem NB.warm {s U : State} (h : NB s) (hW : s.WarmedH U.vm) : NB U := by
  obtain ⟨h0, h1, h2, h3, h4, h5, h6, h7, h8, h9, h10, h11, h12⟩ := h
  exact ⟨va_Nw.warmM hW h0, va_Nw.warmM hW h1, va_Nw.warmM hW h2, va_Nw.warmM hW h3, va_Nw.warmM hW h4, va_Nw.warmM hW h5, va_Nw.warmM hW h6, va_Nw.warmM hW h7, va_Nw.warmM hW h8, va_Nw.warmF hW h9, va_Nw.warmF hW h10, h11.moved hW.alike, h12.moved hW.alike⟩
theorem NB.same {s U : State} (h : NB s) (hv : s.vm = U.vm) : NB U := by
  obtain ⟨h0, h1, h2, h3, h4, h5, h6, h7, h8, h9, h10, h11, h12⟩ := h
  exact ⟨va_Nw.same rfl hv h0, va_Nw.same rfl hv h1, va_Nw.same rfl hv h2, va_Nw.same rfl hv h3, va_Nw.same rfl hv h4, va_Nw.same rfl hv h5, va_Nw.same rfl hv h6, va_Nw.same rfl hv h7, va_Nw.same rfl hv h8, va_Nw.same rfl hv h9, va_Nw.same rfl hv h10, h11.moved (hv ▸ Vm.Alike.refl s.vm), h12.moved (hv ▸ Vm.Alike.refl s.vm)⟩
def ZS (A : Nat → Prop) (U : State) : Prop := ZA A "RUTS_OF_KIND" 4 xsRuts U ∧ ZA A "HEAT_OF_KIND" 4 xsHeat U ∧ ZA A "SHIFT_OF_PLACE" 7 xsShift U ∧ NB U
theorem ZA.at {A : Nat → Prop} {n : String} {L : Nat} {xs : Nat → Value} {s U : State} {H : Heap} {locs : List Loc} (h : ZA A n L xs s) (hS : va_S A s.heap H locs) (hU : U.heap = H) (hvm : s.vm.Alike U.vm) : ZA A n L xs U := by
  obtain ⟨b, h1, h2⟩ := h
  refine ⟨b, ?_, ?_⟩
  · rw [hU]; exact (h1.kept (fun a ha hn => hS.2.1 a ha hn)).moved hvm
  · rw [hU]; exact (h2.kept (fun a ha hn => hS.2.1 a ha hn)).moved hvm
theorem ZS.at {A : Nat → Prop} {s U : State} {H : Heap} {locs : List Loc} (h : ZS A s) (hS : va_S A s.heap H locs) (hU : U.heap = H) (hW : s.WarmedH U.vm) : ZS A U := ⟨h.1.at hS hU hW.alike, h.2.1.at hS hU hW.alike, h.2.2.1.at hS hU hW.alike, h.2.2.2.warm hW⟩
def PU (D : va_G) (cy : Nat → ClassId) (A : Nat → Prop) (S : St) (U : State) : Prop := PW D cy A S U.heap ∧ va_K D vwCl (tysC cy) U ∧ ZS A U ∧ ∀ q, U.heap.size ≤ q → A q
theorem PU.mk {D : va_G} {cy : Nat → ClassId} {A : Nat → Prop} {S : St} {s U : State} {H : Heap} {locs : List Loc} (hW : PW D cy A S H) (hK : va_K D vwCl (tysC cy) s) (hZ : ZS A s) (hA : ∀ q, s.heap.size ≤ q → A q) (hS : va_S A s.heap H locs) (hU : U.heap = H) (hvm : s.WarmedH U.vm) : PU D cy A S U :=
  ⟨by rw [hU]; exact hW, va_K.moved hvm.alike hK, hZ.at hS hU hvm, fun q h => hA q (Nat.le_trans hS.1 (by rw [← hU]; exact h))⟩
theorem PU.blind {D : va_G} {cy : Nat → ClassId} {A : Nat → Prop} {S : St} {av : List Value} : FrameBlind (va_Pc av (PU D cy A S)) := by
  intro a U g mk h
  obtain ⟨h1, hW, hK, hZ, hA⟩ := h
  have hal : U.vm.Alike (U.calling g mk a).vm := Vm.Alike.refl U.vm
  have hS : va_S A U.heap U.heap [] := va_S.rf
  exact ⟨h1, hW, va_K.moved (u := U) (U := U.calling g mk a) hal hK, ⟨hZ.1.at (U := U.calling g mk a) hS rfl hal, hZ.2.1.at (U := U.calling g mk a) hS rfl hal, hZ.2.2.1.at (U := U.calling g mk a) hS rfl hal, NB.same (U := U.calling g mk a) hZ.2.2.2 rfl⟩, hA⟩
def MI (l : Launch) (y : MethodName) (ws : List Cond) (rm : Room) (mc ms : Nat) (D : va_G) (cy : Nat → ClassId) (A : Nat → Prop) (av : List Value) (S : St) (post : Int32 → St → Prop) : Prop := Met l y ws rm (va_Pc av (PU D cy A S)) (va_Qi post (PU D cy A) A) mc ms A
def MV (l : Launch) (y : MethodName) (ws : List Cond) (rm : Room) (mc ms : Nat) (D : va_G) (cy : Nat → ClassId) (A : Nat → Prop) (av : List Value) (S : St) (post : St → Prop) : Prop := Met l y ws rm (va_Pc av (PU D cy A S)) (va_Qv post (PU D cy A) A) mc ms A
def MR (l : Launch) (y : MethodName) (ws : List Cond) (rm : Room) (mc ms : Nat) (D : va_G) (cy : Nat → ClassId) (A : Nat → Prop) (av : List Value) (S : St) (post : Option Nat → St → Prop) : Prop := Met l y ws rm (va_Pc av (PU D cy A S)) (va_Qq post (PU D cy A) A) mc ms A
section PC
variable {p : Program} {l : Launch} {e : Env} {R : Room} {s : State} {m : MethodId} {args : Array Value} {below : List Frame} {meth : Method} {c : Code} {H : Heap} {locs : List Loc} {cells slots : Nat} {Q : State → Prop}
variable {cc bytes : ByteArray} {pc nL maxL mc ms n index : Nat} {ls : Array Slot} {As rest st0 : List Value} {D : va_G} {cy : Nat → ClassId} {A : Nat → Prop} {b : Nat} {S : St} {y : MethodName} {ret : Option FieldType} {ws Ts : List Cond} {rm : Room} {own C host : String}
theorem pc_recv (hK : va_K D vwCl (tysC cy) s) (hW : PW D cy A S H) {ci : Nat} {r : vw_C} (hk : sK S b = ci) (hci : ci < 10) (hc : vwCl[ci]? = some r) : ∃ cell : Cell, H[b]? = some cell ∧ cell.vm.isStatics = false ∧ s.vm.findClass r.1 = some cell.cls := by
  obtain ⟨L, q, hL, hP, hD, ha, hq⟩ := hW.place (a := b) (by omega)
  rw [ct_obj hk hci] at hq
  exact va_recv hK hP hc hq
theorem pc_Vi {post : Int32 → St → Prop} (F : CallFix p m c cc nL s args Ts own) (hM : MI l y ws rm mc ms D cy A (.ref b :: As) S post) (cw : CallW R s args own C index y bytes maxL ret ws rm mc ms n) (hK : va_K D vwCl (tysC cy) s) (hZ : ZS A s) (hA : ∀ q, s.heap.size ≤ q → A q) (hW : PW D cy A S H) (hS : va_S A s.heap H locs) {ci N : Nat} {T : u_T} (hk : sK S b = ci) (hci : ci < 10) (hc : vwCl[ci]? = some (C, T, N)) (hn : As.length = n) (hsize : ls.size = nL) (hstack : st0 = As.reverse ++ .ref b :: rest) (hr : (rest.map fun v => v.category).sum ≤ 8) (hdg : decode cc pc = .ok (.invokevirtual index, 3)) (hf : cells + mc ≤ R.cells ∧ slots + ms ≤ R.slots)
    (kk : ∀ (r : Int32) (S1 : St) (H1 : Heap) (locs1 : List Loc), post r S1 → PW D cy A S1 H1 → va_S A s.heap H1 locs1 → W p l e R s m args below meth c H1 locs1 (cells + mc) (slots + ms) Q (F0 m (pc + 3) ls (.int r :: rest))) : W p l e R s m args below meth c H locs cells slots Q (F0 m pc ls st0) :=
  va_calli (va_runV F hM cw ⟨PU.blind, pc_recv hK hW hk hci hc, fun _ hU hWm => ⟨rfl, PU.mk hW hK hZ hA hS hU hWm⟩⟩ rfl hn hsize hstack (lv_room hr) hdg hf) hS (fun _ _ h => h) (fun _ h => h) (fun r u t H1 locs1 ht _ hw hB _ _ hS1 => kk r u H1 locs1 hw (ht ▸ hB.1) hS1)
theorem pc_Vv {post : St → Prop} (F : CallFix p m c cc nL s args Ts own) (hM : MV l y ws rm mc ms D cy A (.ref b :: As) S post) (cw : CallW R s args own C index y bytes maxL ret ws rm mc ms n) (hK : va_K D vwCl (tysC cy) s) (hZ : ZS A s) (hA : ∀ q, s.heap.size ≤ q → A q) (hW : PW D cy A S H) (hS : va_S A s.heap H locs) {ci N : Nat} {T : u_T} (hk : sK S b = ci) (hci : ci < 10) (hc : vwCl[ci]? = some (C, T, N)) (hn : As.length = n) (hsize : ls.size = nL) (hstack : st0 = As.reverse ++ .ref b :: rest) (hr : (rest.map fun v => v.category).sum ≤ 8) (hdg : decode cc pc = .ok (.invokevirtual index, 3)) (hf : cells + mc ≤ R.cells ∧ slots + ms ≤ R.slots)
    (kk : ∀ (S1 : St) (H1 : Heap) (locs1 : List Loc), post S1 → PW D cy A S1 H1 → va_S A s.heap H1 locs1 → W p l e R s m args below meth c H1 locs1 (cells + mc) (slots + ms) Q (F0 m (pc + 3) ls rest)) : W p l e R s m args below meth c H locs cells slots Q (F0 m pc ls st0) :=
  va_callv (va_runV F hM cw ⟨PU.blind, pc_recv hK hW hk hci hc, fun _ hU hWm => ⟨rfl, PU.mk hW hK hZ hA hS hU hWm⟩⟩ rfl hn hsize hstack (lv_room hr) hdg hf) hS (fun _ _ h => h) (fun _ h => h) (fun u t H1 locs1 ht _ hw hB _ _ hS1 => kk u H1 locs1 hw (ht ▸ hB.1) hS1)
theorem pc_Vq {post : Option Nat → St → Prop} (F : CallFix p m c cc nL s args Ts own) (hM : MR l y ws rm mc ms D cy A (.ref b :: As) S post) (cw : CallW R s args own C index y bytes maxL ret ws rm mc ms n) (hK : va_K D vwCl (tysC cy) s) (hZ : ZS A s) (hA : ∀ q, s.heap.size ≤ q → A q) (hW : PW D cy A S H) (hS : va_S A s.heap H locs) {ci N : Nat} {T : u_T} (hk : sK S b = ci) (hci : ci < 10) (hc : vwCl[ci]? = some (C, T, N)) (hn : As.length = n) (hsize : ls.size = nL) (hstack : st0 = As.reverse ++ .ref b :: rest) (hr : (rest.map fun v => v.category).sum ≤ 8) (hdg : decode cc pc = .ok (.invokevirtual index, 3)) (hf : cells + mc ≤ R.cells ∧ slots + ms ≤ R.slots)
    (kk : ∀ (r : Option Nat) (S1 : St) (H1 : Heap) (locs1 : List Loc), post r S1 → PW D cy A S1 H1 → va_S A s.heap H1 locs1 → W p l e R s m args below meth c H1 locs1 (cells + mc) (slots + ms) Q (F0 m (pc + 3) ls (va_rf r :: rest))) : W p l e R s m args below meth c H locs cells slots Q (F0 m pc ls st0) :=
  va_callq (va_runV F hM cw ⟨PU.blind, pc_recv hK hW hk hci hc, fun _ hU hWm => ⟨rfl, PU.mk hW hK hZ hA hS hU hWm⟩⟩ rfl hn hsize hstack (lv_room hr) hdg hf) hS (fun _ _ h => h) (fun _ h => h) (fun r u t H1 locs1 ht _ hw hB _ _ hS1 => kk r u H1 locs1 hw (ht ▸ hB.1) hS1)
theorem pc_Si {post : Int32 → St → Prop} (F : CallFix p m c cc nL s args Ts own) (hM : MI l y ws rm mc ms D cy A As S post) (cw : CallB R s args own index y bytes maxL ret ws rm mc ms n ∧ (Cond.static y).before args s = true) (hK : va_K D vwCl (tysC cy) s) (hZ : ZS A s) (hA : ∀ q, s.heap.size ≤ q → A q) (hW : PW D cy A S H) (hS : va_S A s.heap H locs) (hn : As.length = n) (hsize : ls.size = nL) (hstack : st0 = As.reverse ++ rest) (hr : (rest.map fun v => v.category).sum ≤ 8) (hdg : decode cc pc = .ok (.invokestatic index, 3)) (hf : cells + mc ≤ R.cells ∧ slots + ms ≤ R.slots)
    (kk : ∀ (r : Int32) (S1 : St) (H1 : Heap) (locs1 : List Loc), post r S1 → PW D cy A S1 H1 → va_S A s.heap H1 locs1 → W p l e R s m args below meth c H1 locs1 (cells + mc) (slots + ms) Q (F0 m (pc + 3) ls (.int r :: rest))) : W p l e R s m args below meth c H locs cells slots Q (F0 m pc ls st0) :=
  va_calli (va_runS F hM cw ⟨PU.blind, fun _ hU hWm => ⟨rfl, PU.mk hW hK hZ hA hS hU hWm⟩⟩ rfl hn hsize hstack (lv_room hr) hdg hf) hS (fun _ _ h => h) (fun _ h => h) (fun r u t H1 locs1 ht _ hw hB _ _ hS1 => kk r u H1 locs1 hw (ht ▸ hB.1) hS1)
theorem pc_Sv {post : St → Prop} (F : CallFix p m c cc nL s args Ts own) (hM : MV l y ws rm mc ms D cy A As S post) (cw : CallB R s args own index y bytes maxL ret ws rm mc ms n ∧ (Cond.static y).before args s = true) (hK : va_K D vwCl (tysC cy) s) (hZ : ZS A s) (hA : ∀ q, s.heap.size ≤ q → A q) (hW : PW D cy A S H) (hS : va_S A s.heap H locs) (hn : As.length = n) (hsize : ls.size = nL) (hstack : st0 = As.reverse ++ rest) (hr : (rest.map fun v => v.category).sum ≤ 8) (hdg : decode cc pc = .ok (.invokestatic index, 3)) (hf : cells + mc ≤ R.cells ∧ slots + ms ≤ R.slots)
    (kk : ∀ (S1 : St) (H1 : Heap) (locs1 : List Loc), post S1 → PW D cy A S1 H1 → va_S A s.heap H1 locs1 → W p l e R s m args below meth c H1 locs1 (cells + mc) (slots + ms) Q (F0 m (pc + 3) ls rest)) : W p l e R s m args below meth c H locs cells slots Q (F0 m pc ls st0) :=
  va_callv (va_runS F hM cw ⟨PU.blind, fun _ hU hWm => ⟨rfl, PU.mk hW hK hZ hA hS hU hWm⟩⟩ rfl hn hsize hstack (lv_room hr) hdg hf) hS (fun _ _ h => h) (fun _ h => h) (fun u t H1 locs1 ht _ hw hB _ _ hS1 => kk u H1 locs1 hw (ht ▸ hB.1) hS1)
theorem pc_Ni {post : Int32 → St → Prop} (F : CallFix p m c cc nL s args Ts own) (hM : MI l y ws rm mc ms D cy A As S post) (cw : va_CN R s args own index y host bytes maxL ret ws rm mc ms n ∧ (Cond.static y).before args s = true ∧ True) (hK : va_K D vwCl (tysC cy) s) (hZ : ZS A s) (hA : ∀ q, s.heap.size ≤ q → A q) (hW : PW D cy A S H) (hS : va_S A s.heap H locs) (hn : As.length = n) (hsize : ls.size = nL) (hstack : st0 = As.reverse ++ rest) (hr : (rest.map fun v => v.category).sum ≤ 8) (hdg : decode cc pc = .ok (.invokestatic index, 3)) (hf : cells + mc ≤ R.cells ∧ slots + ms ≤ R.slots)
    (kk : ∀ (r : Int32) (S1 : St) (H1 : Heap) (locs1 : List Loc), post r S1 → PW D cy A S1 H1 → va_S A s.heap H1 locs1 → W p l e R s m args below meth c H1 locs1 (cells + mc) (slots + ms) Q (F0 m (pc + 3) ls (.int r :: rest))) : W p l e R s m args below meth c H locs cells slots Q (F0 m pc ls st0) :=
  va_calli (va_runSN F hM cw ⟨PU.blind, fun _ hU hWm => ⟨rfl, PU.mk hW hK hZ hA hS hU hWm⟩⟩ rfl hn hsize hstack (lv_room hr) hdg hf) hS (fun _ _ h => h) (fun _ h => h) (fun r u t H1 locs1 ht _ hw hB _ _ hS1 => kk r u H1 locs1 hw (ht ▸ hB.1) hS1)
theorem pc_Iv {post : St → Prop} (F : CallFix p m c cc nL s args Ts own) (hM : MV l y ws rm mc ms D cy A (.ref b :: As) S post) (cw : CallB R s args own index y bytes maxL none ws rm mc ms n ∧ y.name = "<init>" ∧ (Cond.instanceMethod y).before args s = true) (hK : va_K D vwCl (tysC cy) s) (hZ : ZS A s) (hA : ∀ q, s.heap.size ≤ q → A q) (hW : PW D cy A S H) (hS : va_S A s.heap H locs) (hn : As.length = n) (hsize : ls.size = nL) (hstack : st0 = As.reverse ++ .ref b :: rest) (hr : (rest.map fun v => v.category).sum ≤ 8) (hdg : decode cc pc = .ok (.invokespecial index, 3)) (hf : cells + mc ≤ R.cells ∧ slots + ms ≤ R.slots)
    (kk : ∀ (S1 : St) (H1 : Heap) (locs1 : List Loc), post S1 → PW D cy A S1 H1 → va_S A s.heap H1 locs1 → W p l e R s m args below meth c H1 locs1 (cells + mc) (slots + ms) Q (F0 m (pc + 3) ls rest)) : W p l e R s m args below meth c H locs cells slots Q (F0 m pc ls st0) :=
  va_callv (va_runI F hM cw ⟨PU.blind, fun _ hU hWm => ⟨rfl, PU.mk hW hK hZ hA hS hU hWm⟩⟩ rfl hn hsize hstack (lv_room hr) hdg hf) hS (fun _ _ h => h) (fun _ h => h) (fun u t H1 locs1 ht _ hw hB _ _ hS1 => kk u H1 locs1 hw (ht ▸ hB.1) hS1)
theorem pc_INv {post : St → Prop} (F : CallFix p m c cc nL s args Ts own) (hM : MV l y ws rm mc ms D cy A (.ref b :: As) S post) (cw : va_CN R s args own index y host bytes maxL none ws rm mc ms n ∧ y.name = "<init>" ∧ (Cond.instanceMethod y).before args s = true) (hK : va_K D vwCl (tysC cy) s) (hZ : ZS A s) (hA : ∀ q, s.heap.size ≤ q → A q) (hW : PW D cy A S H) (hS : va_S A s.heap H locs) (hn : As.length = n) (hsize : ls.size = nL) (hstack : st0 = As.reverse ++ .ref b :: rest) (hr : (rest.map fun v => v.category).sum ≤ 8) (hdg : decode cc pc = .ok (.invokespecial index, 3)) (hf : cells + mc ≤ R.cells ∧ slots + ms ≤ R.slots)
    (kk : ∀ (S1 : St) (H1 : Heap) (locs1 : List Loc), post S1 → PW D cy A S1 H1 → va_S A s.heap H1 locs1 → W p l e R s m args below meth c H1 locs1 (cells + mc) (slots + ms) Q (F0 m (pc + 3) ls rest)) : W p l e R s m args below meth c H locs cells slots Q (F0 m pc ls st0) :=
  va_callv (va_runIN F hM cw ⟨PU.blind, fun _ hU hWm => ⟨rfl, PU.mk hW hK hZ hA hS hU hWm⟩⟩ rfl hn hsize hstack (lv_room hr) hdg hf) hS (fun _ _ h => h) (fun _ h => h) (fun u t H1 locs1 ht _ hw hB _ _ hS1 => kk u H1 locs1 hw (ht ▸ hB.1) hS1)
/-- ends -/
theorem pc_iret {post : Int32 → St → Prop} {v : Int32} (hx : p.tables.exec = Jvm.exec) (hb : c.code = cc) (hr : meth.sig.returnType = some .int) (hlocks : meth.locks = false) (hK : va_K D vwCl (tysC cy) s) (hZ : ZS A s) (hA : ∀ q, s.heap.size ≤ q → A q) (hW : PW D cy A S H) (hS : va_S A s.heap H locs) (hq : post v S) (hdg : decode cc pc = .ok (.ireturn, 1)) : W p l e R s m args below meth c H locs cells slots (MQ below (va_Qi post (PU D cy A) A) args s cells slots A) (F0 m pc ls [.int v]) :=
  W.iret hx hb hr (fun t ht hWm => ⟨⟨v, S, rfl, hq, PU.mk hW hK hZ hA hS ht hWm⟩, hS.F ht⟩) hS.2.2 hdg hlocks
theorem pc_zret {post : Int32 → St → Prop} {v : Int32} (hx : p.tables.exec = Jvm.exec) (hb : c.code = cc) (hr : meth.sig.returnType = some .boolean) (hlocks : meth.locks = false) (hK : va_K D vwCl (tysC cy) s) (hZ : ZS A s) (hA : ∀ q, s.heap.size ≤ q → A q) (hW : PW D cy A S H) (hS : va_S A s.heap H locs) (hv : v = 0 ∨ v = 1) (hq : post v S) (hdg : decode cc pc = .ok (.ireturn, 1)) : W p l e R s m args below meth c H locs cells slots (MQ below (va_Qi post (PU D cy A) A) args s cells slots A) (F0 m pc ls [.int v]) :=
  W.zret hx hb hr (by rcases hv with rfl | rfl <;> rfl) (fun t ht hWm => ⟨⟨v, S, rfl, hq, PU.mk hW hK hZ hA hS ht hWm⟩, hS.F ht⟩) hS.2.2 hdg hlocks
theorem pc_vret {post : St → Prop} (hx : p.tables.exec = Jvm.exec) (hb : c.code = cc) (hr : meth.sig.returnType = none) (hlocks : meth.locks = false) (hK : va_K D vwCl (tysC cy) s) (hZ : ZS A s) (hA : ∀ q, s.heap.size ≤ q → A q) (hW : PW D cy A S H) (hS : va_S A s.heap H locs) (hq : post S) (hdg : decode cc pc = .ok (.return_, 1)) : W p l e R s m args below meth c H locs cells slots (MQ below (va_Qv post (PU D cy A) A) args s cells slots A) (F0 m pc ls []) :=
  W.vret hx hb hr (fun t ht hWm => ⟨⟨S, rfl, hq, PU.mk hW hK hZ hA hS ht hWm⟩, hS.F ht⟩) hS.2.2 hdg hlocks
theorem pc_aret {post : Option Nat → St → Prop} {v : Option Nat} {n : String} (hx : p.tables.exec = Jvm.exec) (hb : c.code = cc) (hr : meth.sig.returnType = some (.object n)) (hlocks : meth.locks = false) (hK : va_K D vwCl (tysC cy) s) (hZ : ZS A s) (hA : ∀ q, s.heap.size ≤ q → A q) (hW : PW D cy A S H) (hS : va_S A s.heap H locs) (hq : post v S) (hdg : decode cc pc = .ok (.areturn, 1)) : W p l e R s m args below meth c H locs cells slots (MQ below (va_Qq post (PU D cy A) A) args s cells slots A) (F0 m pc ls [va_rf v]) :=
  W.aret hx hb hr (Or.inl ⟨n, rfl⟩) (va_rf_or v) (fun t ht hWm => ⟨⟨v, S, rfl, hq, PU.mk hW hK hZ hA hS ht hWm⟩, hS.F ht⟩) hS.2.2 hdg hlocks
end PC
/-- what a method's walk begins with -/
theorem mt_start {l : Launch} {y : MethodName} {ws ws' : List Cond} {rm : Room} {Qc : Array Value → State → Outcome → State → Prop} {mc ms : Nat} {free : Addr → Prop} {cc : ByteArray} {maxL : Nat} {ret : Option FieldType} {D : va_G} {cy : Nat → ClassId} {A : Nat → Prop} {av : List Value} {S : St} (hy : plainName y.cls = true) (hw : ws = Cond.code y cc maxL ret :: ws') (hav : (lg_sl av).length ≤ maxL)
    (body : ∀ (p : Program) (e : Env) (s : State) (m : MethodId) (args : Array Value) (below : List Frame) (meth : Method) (c : Code), p.tables.exec = Jvm.exec → c.code = cc → meth.sig.returnType = ret → meth.locks = false → c.maxLocals = maxL → s.vm.findClass y.cls = some m.cls → meth.name = y.name → (∀ w ∈ ws, w.before args s = true) → va_K D vwCl (tysC cy) s → ZS A s → (∀ q, s.heap.size ≤ q → A q) → PW D cy A S s.heap → va_S A s.heap s.heap [] → ∀ ls : Array Slot, lv_has ls maxL (lv_args 0 av) →
      W p l e rm s m args below meth c s.heap [] 0 0 (MQ below Qc args s mc ms free) (F0 m 0 ls [])) : Met l y ws rm (va_Pc av (PU D cy A S)) Qc mc ms free := by
  refine Met.ofW (cc := cc) (maxL := maxL) (ret := ret) hy hw ?_
  intro p e s m args below meth c s₁ B hml hv
  obtain ⟨rfl, hW, hK, hZ, hA⟩ := hv
  have hl := lv_entry av (n := maxL) hav
  rw [lg_entry_eq]
  exact body p e s m _ below meth c B.exec B.bytes B.returns B.notSynchronized hml (findClass_of_methodNamed B.named) (name_of_methodNamed B.named B.method).1 (atoms_spec (ws := ws) B.pre) hK hZ hA hW va_S.rf _ hl
end
section
/-! small facts for the walks -/
/-- two addresses apart (a word of its own, that arithmetic passes over) -/
def Ap (a b : Nat) : Prop := a ≠ b
theorem ap_s {a b : Nat} (h : Ap a b) : Ap b a := fun e => h e.symm
theorem ap_k {S : St} {a q k : Nat} (h : sK S a = k) (hq : 20 ≤ sK S q) (hk : k < 20) : Ap a q := fun e => by subst e; omega
theorem fk_N {S T : St} {q kd n a k : Nat} (e : T = stN S q kd n) (h : sK S a = k) (hk : k < 20) (hq : 20 ≤ sK S q) : sK T a = k ∧ Ap a q := by
  have hne : a ≠ q := fun e2 => by subst e2; omega
  exact ⟨by rw [e, kN, if_neg hne]; exact h, hne⟩
theorem fk_ne {S : St} {a b x y : Nat} (h1 : sK S a = x) (h2 : sK S b = y) (h : x ≠ y) : a ≠ b := fun e => h (by rw [← h1, ← h2, e])
theorem lv_cast {ls : Array Slot} {n : Nat} {l l' : List (Nat × Value)} (h : lv_has ls n l) (e : l = l') : lv_has ls n l' := e ▸ h
theorem i3_lt (a b : Int32) : a < b ↔ a.toInt < b.toInt := Int32.lt_iff_toInt_lt
theorem i3_le (a b : Int32) : a ≤ b ↔ a.toInt ≤ b.toInt := Int32.le_iff_toInt_le
theorem i3_eq (a b : Int32) : a = b ↔ a.toInt = b.toInt := Int32.toInt_inj.symm
theorem i3_bd (a : Int32) : -2147483648 ≤ a.toInt ∧ a.toInt ≤ 2147483647 := ⟨Int32.le_toInt a, by have := Int32.toInt_lt a; omega⟩
theorem i3_add {a b : Int32} {x y : Int} (ha : a.toInt = x) (hb : b.toInt = y) (h1 : -2147483648 ≤ x + y) (h2 : x + y ≤ 2147483647) : (a + b).toInt = x + y := by
  rw [Int32.toInt_add, ha, hb]
  exact Int.bmod_eq_of_le (by omega) (by omega)
theorem i3_sub {a b : Int32} {x y : Int} (ha : a.toInt = x) (hb : b.toInt = y) (h1 : -2147483648 ≤ x - y) (h2 : x - y ≤ 2147483647) : (a - b).toInt = x - y := by
  rw [Int32.toInt_sub, ha, hb]
  exact Int.bmod_eq_of_le (by omega) (by omega)
theorem i3_mul {a b : Int32} {x y : Int} (ha : a.toInt = x) (hb : b.toInt = y) (h1 : -2147483648 ≤ x * y) (h2 : x * y ≤ 2147483647) : (a * b).toInt = x * y := by
  rw [Int32.toInt_mul, ha, hb]
  exact Int.bmod_eq_of_le (by omega) (by omega)
theorem i3_in {x : Int32} {n : Nat} (h1 : 0 ≤ x.toInt) (h2 : x.toInt < n) : vp_in x n := vp_in_iff.mpr ⟨h1, h2⟩
theorem i3_cl {x : Int32} {n : Nat} (h : x.toInt = n) : x.toNatClampNeg = n := by
  show x.toInt.toNat = n
  rw [h]; rfl
theorem df_0 : ∀ j, j < 1 → defaultValue (tyX0 j) = vp_V (fv (tb 0) (fun _ => 0) (fun _ => none)) j := by decide +kernel
theorem df_1 : ∀ j, j < 10 → defaultValue (tyX1 j) = vp_V (fv (tb 1) (fun _ => 0) (fun _ => none)) j := by decide +kernel
theorem df_2 : ∀ j, j < 10 → defaultValue (tyX2 j) = vp_V (fv (tb 2) (fun _ => 0) (fun _ => none)) j := by decide +kernel
theorem df_3 : ∀ j, j < 9 → defaultValue (tyX3 j) = vp_V (fv (tb 3) (fun _ => 0) (fun _ => none)) j := by decide +kernel
theorem df_4 : ∀ j, j < 6 → defaultValue (tyX4 j) = vp_V (fv (tb 4) (fun _ => 0) (fun _ => none)) j := by decide +kernel
theorem df_5 : ∀ j, j < 4 → defaultValue (tyX5 j) = vp_V (fv (tb 5) (fun _ => 0) (fun _ => none)) j := by decide +kernel
theorem df_6 : ∀ j, j < 10 → defaultValue (tyX6 j) = vp_V (fv (tb 6) (fun _ => 0) (fun _ => none)) j := by decide +kernel
theorem df_7 : ∀ j, j < 2 → defaultValue (tyX7 j) = vp_V (fv (tb 7) (fun _ => 0) (fun _ => none)) j := by decide +kernel
theorem df_8 : ∀ j, j < 18 → defaultValue (tyX8 j) = vp_V (fv (tb 8) (fun _ => 0) (fun _ => none)) j := by decide +kernel
theorem df_9 : ∀ j, j < 63 → defaultValue (tyX9 j) = vp_V (fv (tb 9) (fun _ => 0) (fun _ => none)) j := by decide +kernel
theorem iI_k {S : St} {a k b j : Nat} {v : Int32} (h : j ≠ k) : sI (stI S a k v) b j = sI S b j := by rw [iI, if_neg h]; simp
theorem iI_a {S : St} {a k b j : Nat} {v : Int32} (h : b ≠ a) : sI (stI S a k v) b j = sI S b j := by rw [iI, if_neg h]
theorem iI_s {S : St} {a k : Nat} {v : Int32} : sI (stI S a k v) a k = v := by rw [iI, if_pos rfl, if_pos rfl]
/-- all old cells but those of hs are as they were -/
def Kx (hs : List Nat) (S T : St) : Prop := ∀ a, a ∉ hs → sK S a < 20 → sK T a = sK S a ∧ sI T a = sI S a ∧ sR T a = sR S a ∧ sJ T a = sJ S a ∧ sL T a = sL S a
theorem ni_0 {a : Nat} : a ∉ ([] : List Nat) := List.not_mem_nil
theorem ni_c {a x : Nat} {l : List Nat} (h : a ≠ x) (t : a ∉ l) : a ∉ x :: l := fun m => (List.mem_cons.mp m).elim h t
theorem Kx.rf (hs : List Nat) (S : St) : Kx hs S S := fun _ _ _ => ⟨rfl, rfl, rfl, rfl, rfl⟩
theorem Kx.N {hs : List Nat} {S T : St} (H : Kx hs S T) {q kd n : Nat} (hq : 20 ≤ sK T q) : Kx hs S (stN T q kd n) := by
  intro a ha hk
  obtain ⟨h1, h2, h3, h4, h5⟩ := H a ha hk
  have hne : a ≠ q := fun e => by subst e; omega
  refine ⟨?_, ?_, ?_, ?_, ?_⟩
  · rw [kN, if_neg hne]; exact h1
  · rw [← h2]; funext j; rw [iN, if_neg hne]
  · rw [← h3]; funext j; rw [rN, if_neg hne]
  · rw [← h4]; funext j; rw [jN, if_neg hne]
  · rw [lNw, if_neg hne]; exact h5
theorem Kx.Ih {hs : List Nat} {S T : St} (H : Kx hs S T) {h k : Nat} {v : Int32} (hm : h ∈ hs) : Kx hs S (stI T h k v) := by
  intro a ha hk
  obtain ⟨h1, h2, h3, h4, h5⟩ := H a ha hk
  refine ⟨h1, ?_, h3, h4, h5⟩
  rw [← h2]; funext j; rw [iI, if_neg (fun e => ha (by rw [e]; exact hm))]
theorem Kx.Rh {hs : List Nat} {S T : St} (H : Kx hs S T) {h k : Nat} {v : Option Nat} (hm : h ∈ hs) : Kx hs S (stR T h k v) := by
  intro a ha hk
  obtain ⟨h1, h2, h3, h4, h5⟩ := H a ha hk
  refine ⟨h1, h2, ?_, h4, h5⟩
  rw [← h3]; funext j; rw [rR, if_neg (fun e => ha (by rw [e]; exact hm))]
/-- a cell that is new since S -/
theorem Kx.In {hs : List Nat} {S T : St} (H : Kx hs S T) {q k : Nat} {v : Int32} (hq : 20 ≤ sK S q) : Kx hs S (stI T q k v) := by
  intro a ha hk
  obtain ⟨h1, h2, h3, h4, h5⟩ := H a ha hk
  have hne : a ≠ q := fun e => by subst e; omega
  refine ⟨h1, ?_, h3, h4, h5⟩
  rw [← h2]; funext j; rw [iI, if_neg hne]
theorem Kx.Rn {hs : List Nat} {S T : St} (H : Kx hs S T) {q k : Nat} {v : Option Nat} (hq : 20 ≤ sK S q) : Kx hs S (stR T q k v) := by
  intro a ha hk
  obtain ⟨h1, h2, h3, h4, h5⟩ := H a ha hk
  have hne : a ≠ q := fun e => by subst e; omega
  refine ⟨h1, h2, ?_, h4, h5⟩
  rw [← h3]; funext j; rw [rR, if_neg hne]
theorem Kx.tr {hs qs : List Nat} {S T U : St} (H : Kx hs S T) (H2 : Kx qs T U) (hq : ∀ q ∈ qs, 20 ≤ sK S q ∨ q ∈ hs) : Kx hs S U := by
  intro a ha hk
  obtain ⟨h1, h2, h3, h4, h5⟩ := H a ha hk
  have hne : a ∉ qs := fun e => (hq a e).elim (fun h => by omega) ha
  obtain ⟨g1, g2, g3, g4, g5⟩ := H2 a hne (by rw [h1]; exact hk)
  exact ⟨g1.trans h1, g2.trans h2, g3.trans h3, g4.trans h4, g5.trans h5⟩
theorem q1_ {P : Nat → Prop} {x : Nat} (h : P x) : ∀ q ∈ [x], P q := fun q m => by rw [List.mem_singleton.mp m]; exact h
theorem qc_ {P : Nat → Prop} {x : Nat} {l : List Nat} (h : P x) (t : ∀ q ∈ l, P q) : ∀ q ∈ x :: l, P q := fun q m => (List.mem_cons.mp m).elim (fun e => by rw [e]; exact h) (t q)
/-- new in a later state, and not of hs: it was no cell before -/
theorem Kx.old {hs : List Nat} {S T : St} (H : Kx hs S T) {q : Nat} (hq : 20 ≤ sK T q) (hne : q ∉ hs) : 20 ≤ sK S q := by
  rcases Nat.lt_or_ge (sK S q) 20 with h1 | h1
  · have h2 := (H q hne h1).1
    omega
  · exact h1
theorem ite_up {α : Type} {c : Prop} {d : Decidable c} {x y z : α} (h1 : c → x = z) (h2 : ¬ c → y = z) : (if c then x else y) = z := by
  by_cases h : c
  · rw [if_pos h]; exact h1 h
  · rw [if_neg h]; exact h2 h
theorem hs_in {a : Int32} (h1 : ¬ a < 0) (h2 : ¬ 2048 ≤ a) : vp_in (a / 64) 32 := by
  obtain ⟨j, hj, rfl⟩ := nI_of h1
  have h3 : j < 2048 := by
    rcases Nat.lt_or_ge j 2048 with h | h
    · exact h
    · exact absurd (nI_le (a := 2048) (b := j) h hj) h2
  rw [show (64 : Int32) = nI 64 from rfl, pk_div hj (by decide) (by decide)]
  exact vp_in_nI (by omega) (by decide)
theorem hs_0 {z : Int64} (h : z = 0) (y : UInt64) : lg_cmp (((z.toUInt64 >>> y).toInt64) &&& 1) 0 = 0 := by
  subst h
  have h1 : ((0 : Int64).toUInt64 >>> y) = 0 := by
    show (0 : UInt64) >>> y = 0
    simp
  rw [h1]
  decide
theorem lt20 {S : St} {a k : Nat} (h : sK S a = k) (hk : k < 20) : sK S a < 20 := by omega
end
section
/-! small facts, second part -/
theorem isb_1 {a b v : Int32} (p : (v.toInt = 1 ∧ 0 ≤ a.toInt ∧ a.toInt < b.toInt) ∨ (v.toInt = 0 ∧ ¬ (0 ≤ a.toInt ∧ a.toInt < b.toInt))) (h : 0 ≤ a.toInt ∧ a.toInt < b.toInt) : v = 1 := (i3_eq _ _).mpr (by rcases p with p | p; exact p.1; exact absurd h p.2)
theorem r_in {a : Int32} {n : Nat} (h : 0 ≤ a.toInt ∧ a.toInt < n) : vp_in a n := vp_in_iff.mpr h
theorem cl_lt {a : Int32} {n : Nat} (h0 : 0 ≤ a.toInt) (h1 : a.toInt < n) : a.toNatClampNeg < n := by
  show a.toInt.toNat < n
  omega
/-- all bits of a mask of k ones, at a place below k -/
theorem in_24 {x : Int32} (h0 : 0 ≤ x.toInt) (h1 : x.toInt < 24) : ¬ ((16777215 : Int32) >>> (x &&& 31)) &&& 1 = 0 := by
  obtain ⟨j, hj, rfl⟩ := nI_of (x := x) (by rw [i3_lt]; show ¬ x.toInt < 0; omega)
  have h2 : j < 24 := by rw [nI_toInt hj] at h1; omega
  have hd : ∀ k, k < 24 → ¬ ((16777215 : Int32) >>> (nI k &&& 31)) &&& 1 = 0 := by decide +kernel
  exact hd j h2
theorem in_7 {x : Int32} (h0 : 0 ≤ x.toInt) (h1 : x.toInt < 7) : ¬ ((127 : Int32) >>> (x &&& 31)) &&& 1 = 0 := by
  obtain ⟨j, hj, rfl⟩ := nI_of (x := x) (by rw [i3_lt]; show ¬ x.toInt < 0; omega)
  have h2 : j < 7 := by rw [nI_toInt hj] at h1; omega
  have hd : ∀ k, k < 7 → ¬ ((127 : Int32) >>> (nI k &&& 31)) &&& 1 = 0 := by decide +kernel
  exact hd j h2
theorem in_4 {x : Int32} (h0 : 0 ≤ x.toInt) (h1 : x.toInt < 4) : ¬ ((15 : Int32) >>> (x &&& 31)) &&& 1 = 0 := by
  obtain ⟨j, hj, rfl⟩ := nI_of (x := x) (by rw [i3_lt]; show ¬ x.toInt < 0; omega)
  have h2 : j < 4 := by rw [nI_toInt hj] at h1; omega
  have hd : ∀ k, k < 4 → ¬ ((15 : Int32) >>> (nI k &&& 31)) &&& 1 = 0 := by decide +kernel
  exact hd j h2
theorem nn_of {x : Int32} (h : 0 ≤ x.toInt) : ∃ j : Nat, j < 2 ^ 31 ∧ x = nI j := nI_of (by rw [i3_lt]; show ¬ x.toInt < 0; omega)
theorem rem_t {x : Int32} (h : 0 ≤ x.toInt) {n : Nat} (h0 : 0 < n) (hn : n < 2 ^ 31) : 0 ≤ (x - x / nI n * nI n).toInt ∧ (x - x / nI n * nI n).toInt < n := by
  obtain ⟨j, hj, rfl⟩ := nn_of h
  have h1 := Nat.mod_lt j h0
  rw [pk_rem hj h0 hn, nI_toInt (by omega)]
  omega
theorem div_t {x : Int32} (h : 0 ≤ x.toInt) {n : Nat} (h0 : 0 < n) (hn : n < 2 ^ 31) : 0 ≤ (x / nI n).toInt := by
  obtain ⟨j, hj, rfl⟩ := nn_of h
  have h1 := Nat.div_le_self j n
  rw [pk_div hj h0 hn, nI_toInt (by omega)]
  exact Int.natCast_nonneg _
theorem rem24 {x : Int32} (h : 0 ≤ x.toInt) : 0 ≤ (x - x / 24 * 24).toInt ∧ (x - x / 24 * 24).toInt < 24 := rem_t h (n := 24) (by decide) (by decide)
theorem rem7 {x : Int32} (h : 0 ≤ x.toInt) : 0 ≤ (x - x / 7 * 7).toInt ∧ (x - x / 7 * 7).toInt < 7 := rem_t h (n := 7) (by decide) (by decide)
theorem div24 {x : Int32} (h : 0 ≤ x.toInt) : 0 ≤ (x / 24).toInt := div_t h (n := 24) (by decide) (by decide)
theorem isb_lit {a b v : Int32} {n : Int} (hn : b.toInt = n) (p : (v.toInt = 1 ∧ 0 ≤ a.toInt ∧ a.toInt < b.toInt) ∨ (v.toInt = 0 ∧ ¬ (0 ≤ a.toInt ∧ a.toInt < b.toInt))) : (v.toInt = 1 ∧ 0 ≤ a.toInt ∧ a.toInt < n) ∨ (v.toInt = 0 ∧ ¬ (0 ≤ a.toInt ∧ a.toInt < n)) := by
  rw [hn] at p; exact p
theorem iW_a {S : St} {a b j : Nat} {f : Nat → Int32} (h : b ≠ a) : sI (stW S a f) b j = sI S b j := by rw [iW, if_neg h]
theorem ct_W {cy : Nat → ClassId} {S : St} {a : Nat} {f : Nat → Int32} (hk : sK S a = 11) : ct cy (stW S a f) a = .inl (cy 11, sL S a, .inl f) := by
  rw [ct_int (S := stW S a f) hk (by omega)]
  have e1 : sI (stW S a f) a = f := by funext j; rw [iW, if_pos rfl]
  rw [e1]
  rfl
theorem ct_oW {cy : Nat → ClassId} {S : St} {a b : Nat} {f : Nat → Int32} (hb : b ≠ a) : ct cy (stW S a f) b = ct cy S b := by
  refine (ct_congr (S := S) (T := stW S a f) rfl ?_ rfl rfl rfl).symm
  funext j
  rw [iW, if_neg hb]
section PCP
variable {p : Program} {l : Launch} {e : Env} {R : Room} {s : State} {m : MethodId} {args : Array Value} {below : List Frame} {meth : Method} {c : Code} {H : Heap} {locs : List Loc} {cells slots : Nat} {Q : State → Prop}
variable {cc : ByteArray} {pc : Nat} {ls : Array Slot} {rest : List Value} {D : va_G} {cy : Nat → ClassId} {A : Nat → Prop} {a : Nat} {S : St} {H0 : Heap}
theorem pg_copyi (hx : p.tables.exec = Jvm.exec) (hb : c.code = cc) (hml : c.maxLocals = ls.size) {own : String} {index : Nat} (hown : s.vm.findClass own = some m.cls) (hlink : (Cond.methodLink own index arraycopyName).before args s = true) (hnat : (Cond.native arraycopyName).before args s = true) (hstat : (Cond.static arraycopyName).before args s = true) (hini : (Cond.initialized "java/lang/System").before args s = true)
    (hK : va_K D vwCl (tysC cy) s) (hW : PW D cy A S H) (hS : va_S A H0 H locs) {a0 : Nat} (hk0 : sK S a0 = 11) (hk : sK S a = 11) {sp dp n : Int32} (h1 : ¬ sp < 0) (h2 : ¬ dp < 0) (h3 : ¬ n < 0) (h4 : sp.toNatClampNeg + n.toNatClampNeg ≤ sL S a0) (h5 : dp.toNatClampNeg + n.toNatClampNeg ≤ sL S a)
    (hframes : 1 ≤ R.frames) (hlocals : (rest.map fun v => v.category).sum + (nativeFrameWords "java/lang/System" "arraycopy" 5 + 11) ≤ R.locals) (hdg : decode cc pc = .ok (.invokestatic index, 3))
    (kk : ∀ (f : Nat → Int32) (H1 : Heap) (locs1 : List Loc), PW D cy A (stW S a f) H1 → va_S A H0 H1 locs1 → W p l e R s m args below meth c H1 locs1 cells slots Q (F0 m (pc + 3) ls rest)) : W p l e R s m args below meth c H locs cells slots Q (F0 m pc ls (.int n :: .int dp :: .ref a :: .int sp :: .ref a0 :: rest)) := by
  obtain ⟨L, q, hL, hP, hD, ha, hq⟩ := hW.place (a := a) (by omega)
  obtain ⟨q0, hq0⟩ := va_pl_get (X := []) (f := ct cy S) ((hL a0).mpr (by omega))
  rw [ct_int hk0 (by omega)] at hq0
  have hq2 := hq
  rw [ct_int hk (by omega)] at hq2
  refine va_copyi hx hb hml hown hlink hnat hstat hini hK hP hD hS q0 q 1 1 hq0 hq2 rfl rfl rfl h1 h2 h3 h4 h5 (fun i _ => rfl) hframes hlocals hdg (fun H1 locs1 g1 g2 g3 => ?_)
  have hz := pw_set (T := stW S a (va_cpy (sI S a0) (sI S a) sp.toNatClampNeg dp.toNatClampNeg n.toNatClampNeg)) hD ha hq (ct_W hk) (fun b hb => ct_oW hb)
  exact kk _ H1 locs1 ⟨L, hL, hz ▸ g1, hz ▸ g2⟩ g3
end PCP
end
section
/-! what holds of every cell between calls, and what a call leaves as it was -/
/-- kind and length of what a reference field of a class holds -/
def rty : Nat → Nat → Option (Nat × Nat)
  | 0, 0 => some (12, 32)
  | 1, 0 => some (0, 0)
  | 1, 1 => some (0, 0)
  | 2, 0 => some (1, 0)
  | 2, 1 => some (1, 0)
  | 2, 2 => some (15, 5)
  | 2, 3 => some (11, 5)
  | 2, 4 => some (11, 5)
  | 2, 5 => some (11, 6)
  | 3, 0 => some (11, 9)
  | 3, 1 => some (11, 8)
  | 3, 2 => some (11, 225)
  | 3, 3 => some (11, 8)
  | 5, 0 => some (7, 0)
  | 7, 0 => some (10, 80)
  | 8, 0 => some (1, 0)
  | 8, 1 => some (1, 0)
  | 8, 2 => some (14, 6)
  | 8, 3 => some (15, 200)
  | 8, 4 => some (11, 24)
  | 8, 5 => some (7, 0)
  | 8, 6 => some (5, 0)
  | 8, 7 => some (2, 0)
  | 8, 8 => some (3, 0)
  | 9, 0 => some (10, 80)
  | 9, 5 => some (11, 6)
  | 9, 6 => some (11, 6)
  | 9, 7 => some (11, 6)
  | 9, 8 => some (11, 6)
  | 9, 9 => some (11, 6)
  | 9, 10 => some (11, 6)
  | 9, 26 => some (11, 24)
  | 9, 27 => some (11, 2)
  | 9, 28 => some (11, 2)
  | 9, 29 => some (11, 2)
  | 9, 30 => some (11, 2)
  | 9, 31 => some (11, 2)
  | 9, 32 => some (11, 2)
  | 9, 33 => some (11, 2)
  | 9, 34 => some (13, 2)
  | 9, 37 => some (11, 200)
  | 9, 38 => some (11, 200)
  | 9, 39 => some (11, 200)
  | 9, 40 => some (16, 200)
  | 9, 41 => some (11, 200)
  | 9, 42 => some (11, 200)
  | 9, 43 => some (11, 200)
  | 9, 44 => some (11, 200)
  | 9, 45 => some (11, 200)
  | 9, 46 => some (11, 10)
  | 9, 47 => some (11, 10)
  | 9, 48 => some (11, 10)
  | 9, 49 => some (17, 5)
  | 9, 50 => some (19, 5)
  | 9, 51 => some (19, 5)
  | 9, 52 => some (18, 5)
  | 9, 56 => some (11, 8)
  | 9, 57 => some (11, 8)
  | 9, 58 => some (11, 8)
  | 9, 59 => some (11, 8)
  | 9, 61 => some (11, 6)
  | 9, 62 => some (12, 6)
  | _, _ => none
def cd (c k : Nat) : Nat := if c < 10 then c * 100 + k else c * 100
/-- ints that are held within limits: the code of the field, or of all elements of a kind -/
def lim : List (Nat × Int × Int) := [(809, 0, 200), (810, 0, 990), (813, 0, 3), (304, 0, 8), (305, 0, 8), (701, 0, 80), (901, 0, 80), (902, 0, 100), (903, 0, 80), (918, 0, 990), (924, 0, 3), (935, 0, 200), (936, 0, 10), (953, 0, 5), (960, 0, 8), (1600, -10, 2000), (1700, 0, 199), (1800, 0, 1990), (1900, 0, 14)]
def okI (c k : Nat) (v : Int) : Prop := ∀ x ∈ lim, x.1 = cd c k → x.2.1 ≤ v ∧ v ≤ x.2.2
theorem cd_A {c k : Nat} (h : 10 ≤ c) : cd c k = c * 100 := if_neg (Nat.not_lt.mpr h)
theorem ok_fr {c k : Nat} {v : Int} (h : ∀ x ∈ lim, x.1 ≠ cd c k) : okI c k v := fun x hx e => absurd e (h x hx)
theorem ok_frA {c k : Nat} {v : Int} (hc : 10 ≤ c) (h : ∀ x ∈ lim, x.1 ≠ c * 100) : okI c k v := fun x hx e => absurd (e.trans (cd_A hc)) (h x hx)
theorem ok_in {c k : Nat} {v : Int} (lo hi : Int) (hu : ∀ x ∈ lim, x.1 = cd c k → x.2.1 = lo ∧ x.2.2 = hi) (h : lo ≤ v ∧ v ≤ hi) : okI c k v := fun x hx e => by
  have h1 := hu x hx e
  rw [h1.1, h1.2]; exact h
theorem ok_inA {c k : Nat} {v : Int} (hc : 10 ≤ c) (lo hi : Int) (hu : ∀ x ∈ lim, x.1 = c * 100 → x.2.1 = lo ∧ x.2.2 = hi) (h : lo ≤ v ∧ v ≤ hi) : okI c k v := fun x hx e => by
  have h1 := hu x hx (e.trans (cd_A hc))
  rw [h1.1, h1.2]; exact h
/-- all cells but those of ex (they are being made) have their references; elements of arrays of references are of their class; ints are within limits -/
def Gx (ex : List Nat) (S : St) : Prop := (∀ a, a ∉ ex → ∀ k kd n, rty (sK S a) k = some (kd, n) → ∃ b, sR S a k = some b ∧ sK S b = kd ∧ sL S b = n) ∧ (∀ a b j, sK S a = 14 → sR S a j = some b → sK S b = 4) ∧ (∀ a b j, sK S a = 15 → sR S a j = some b → sK S b = 6) ∧ (∀ a k, sK S a < 20 → okI (sK S a) k (sI S a k).toInt)
abbrev G (S : St) : Prop := Gx [] S
theorem rty_lt {c k kd n : Nat} (h : rty c k = some (kd, n)) : kd < 20 ∧ c < 10 := by
  unfold rty at h
  split at h <;> first | (cases h; exact ⟨by decide, by decide⟩) | cases h
theorem Gx.r {ex : List Nat} {S : St} (h : Gx ex S) {a c : Nat} (hk : sK S a = c) (ha : a ∉ ex) (k : Nat) {kd n : Nat} (ht : rty c k = some (kd, n)) : ∃ b, sR S a k = some b ∧ sK S b = kd ∧ sL S b = n := h.1 a ha k kd n (by rw [hk]; exact ht)
theorem Gx.i {ex : List Nat} {S : St} (h : Gx ex S) {a c : Nat} (hk : sK S a = c) (hc : c < 20) (k : Nat) {lo hi : Int} (hm : (cd c k, lo, hi) ∈ lim) : lo ≤ (sI S a k).toInt ∧ (sI S a k).toInt ≤ hi := by
  have h1 := h.2.2.2 a k (by omega)
  rw [hk] at h1
  exact h1 _ hm rfl
theorem Gx.iA {ex : List Nat} {S : St} (h : Gx ex S) {a c : Nat} (hk : sK S a = c) (hc : c < 20) (h10 : 10 ≤ c) (k : Nat) {lo hi : Int} (hm : (c * 100, lo, hi) ∈ lim) : lo ≤ (sI S a k).toInt ∧ (sI S a k).toInt ≤ hi := h.i hk hc k (by rw [cd_A h10]; exact hm)
theorem Gx.I {ex : List Nat} {S : St} (h : Gx ex S) {a c k : Nat} {v : Int32} (hk : sK S a = c) (hv : okI c k v.toInt) : Gx ex (stI S a k v) := by
  refine ⟨h.1, h.2.1, h.2.2.1, fun b j hb => ?_⟩
  by_cases e : b = a
  · subst e
    by_cases e2 : j = k
    · subst e2
      rw [show sI (stI S b j v) b j = v from iI_s, show sK (stI S b j v) b = c from hk]
      exact hv
    · rw [show sI (stI S b k v) b j = sI S b j from iI_k e2]
      exact h.2.2.2 b j hb
  · rw [show sI (stI S a k v) b j = sI S b j from iI_a e]
    exact h.2.2.2 b j hb
theorem Gx.J {ex : List Nat} {S : St} (h : Gx ex S) {a k : Nat} {v : Int64} : Gx ex (stJ S a k v) := h
theorem Gx.W {ex : List Nat} {S : St} (h : Gx ex S) {a c : Nat} {f : Nat → Int32} (hk : sK S a = c) (hc : 10 ≤ c) (hf : ∀ x ∈ lim, x.1 ≠ c * 100) : Gx ex (stW S a f) := by
  refine ⟨h.1, h.2.1, h.2.2.1, fun b j hb => ?_⟩
  by_cases e : b = a
  · subst e
    rw [show sK (stW S b f) b = c from hk]
    exact ok_frA hc hf
  · rw [show sI (stW S a f) b j = sI S b j from iW_a e]
    exact h.2.2.2 b j hb
/-- an element of an array of references -/
theorem Gx.R {ex : List Nat} {S : St} (h : Gx ex S) {a b c kv k : Nat} (hk : sK S a = c) (hv : sK S b = kv) (hc : (c = 14 ∧ kv = 4) ∨ (c = 15 ∧ kv = 6)) : Gx ex (stR S a k (some b)) := by
  have key : ∀ d e j, sR (stR S a k (some b)) d j = some e → (d = a ∧ e = b) ∨ sR S d j = some e := fun d e j hr => by
    rw [rR] at hr
    by_cases h1 : d = a
    · rw [if_pos h1] at hr
      by_cases h2 : j = k
      · rw [if_pos h2] at hr
        exact Or.inl ⟨h1, (Option.some.inj hr).symm⟩
      · rw [if_neg h2] at hr
        exact Or.inr hr
    · rw [if_neg h1] at hr
      exact Or.inr hr
  refine ⟨fun d hd j kd n ht => ?_, fun d e j hd hr => ?_, fun d e j hd hr => ?_, h.2.2.2⟩
  · have hne : d ≠ a := fun e => by
      have h1 := (rty_lt ht).2
      rw [e] at h1
      have h2 : sK (stR S a k (some b)) a = c := hk
      rw [h2] at h1
      omega
    obtain ⟨e, h1, h2, h3⟩ := h.1 d hd j kd n ht
    exact ⟨e, by rw [rR, if_neg hne]; exact h1, h2, h3⟩
  · rcases key d e j hr with ⟨h1, h2⟩ | h1
    · have hd2 : sK S a = 14 := by rw [← h1]; exact hd
      rw [h2]
      show sK S b = 4
      omega
    · exact h.2.1 d e j hd h1
  · rcases key d e j hr with ⟨h1, h2⟩ | h1
    · have hd2 : sK S a = 15 := by rw [← h1]; exact hd
      rw [h2]
      show sK S b = 6
      omega
    · exact h.2.2.1 d e j hd h1
theorem ok_0 (c k : Nat) : okI c k 0 := by
  have h : ∀ x ∈ lim, x.2.1 ≤ 0 ∧ 0 ≤ x.2.2 := by decide
  exact fun x hx _ => h x hx
/-- a new cell: what it has no references for yet is of ex -/
theorem Gx.N {ex : List Nat} {S : St} (h : Gx ex S) {q kd n : Nat} (hq : 20 ≤ sK S q) : Gx (q :: ex) (stN S q kd n) := by
  refine ⟨fun a ha k kd' n' ht => ?_, fun a b j ha hr => ?_, fun a b j ha hr => ?_, fun a k ha => ?_⟩
  · have hne : a ≠ q := fun e => ha (by rw [e]; exact List.mem_cons_self)
    rw [kN, if_neg hne] at ht
    obtain ⟨b, h1, h2, h3⟩ := h.1 a (fun m => ha (List.mem_cons_of_mem _ m)) k kd' n' ht
    have hbq : b ≠ q := fun e => by
      have := (rty_lt ht).1
      rw [e] at h2; omega
    exact ⟨b, by rw [rN, if_neg hne]; exact h1, by rw [kN, if_neg hbq]; exact h2, by rw [lNw, if_neg hbq]; exact h3⟩
  · by_cases e : a = q
    · rw [rN, if_pos e] at hr; cases hr
    · rw [kN, if_neg e] at ha
      rw [rN, if_neg e] at hr
      have h1 := h.2.1 a b j ha hr
      have hbq : b ≠ q := fun e => by rw [e] at h1; omega
      rw [kN, if_neg hbq]; exact h1
  · by_cases e : a = q
    · rw [rN, if_pos e] at hr; cases hr
    · rw [kN, if_neg e] at ha
      rw [rN, if_neg e] at hr
      have h1 := h.2.2.1 a b j ha hr
      have hbq : b ≠ q := fun e => by rw [e] at h1; omega
      rw [kN, if_neg hbq]; exact h1
  · by_cases e : a = q
    · rw [iN, if_pos e]; exact ok_0 _ _
    · rw [kN, if_neg e] at ha ⊢
      rw [iN, if_neg e]
      exact h.2.2.2 a k ha
/-- a cell whose class has no references is done at once -/
theorem Gx.pl {ex : List Nat} {S : St} {q c : Nat} (h : Gx (q :: ex) S) (hk : sK S q = c) (hn : ∀ k, rty c k = none) : Gx ex S := by
  refine ⟨fun a ha k kd n ht => ?_, h.2⟩
  by_cases e : a = q
  · rw [e, hk, hn k] at ht; cases ht
  · exact h.1 a (fun m => (List.mem_cons.mp m).elim e ha) k kd n ht
/-- the fields ms of the cell a that is being made stand -/
def Dn (ms : List Nat) (S : St) (a c : Nat) : Prop := ∀ k ∈ ms, ∀ kd n, rty c k = some (kd, n) → ∃ b, sR S a k = some b ∧ sK S b = kd ∧ sL S b = n
theorem Dn.nil (S : St) (a c : Nat) : Dn [] S a c := fun _ h => absurd h List.not_mem_nil
theorem Gx.done {ex ms : List Nat} {S : St} {a c : Nat} (h : Gx (a :: ex) S) (hk : sK S a = c) (hd : Dn ms S a c) (hm : ∀ k kd n, rty c k = some (kd, n) → k ∈ ms) : Gx ex S := by
  refine ⟨fun b hb k kd n ht => ?_, h.2⟩
  by_cases e : b = a
  · rw [e, hk] at ht
    rw [e]
    exact hd k (hm k kd n ht) kd n ht
  · exact h.1 b (fun m => (List.mem_cons.mp m).elim e hb) k kd n ht
theorem Gx.Rh {ex : List Nat} {S : St} (h : Gx ex S) {a k c : Nat} {v : Option Nat} (ha : a ∈ ex) (hk : sK S a = c) (hc : c < 10) : Gx ex (stR S a k v) := by
  refine ⟨fun d hd j kd n ht => ?_, fun d e j hd hr => ?_, fun d e j hd hr => ?_, h.2.2.2⟩
  · have hne : d ≠ a := fun e => hd (by rw [e]; exact ha)
    obtain ⟨e, h1, h2, h3⟩ := h.1 d hd j kd n ht
    exact ⟨e, by rw [rR, if_neg hne]; exact h1, h2, h3⟩
  · have hne : d ≠ a := fun e2 => by
      rw [e2] at hd
      have h2 : sK (stR S a k v) a = c := hk
      rw [h2] at hd; omega
    rw [rR, if_neg hne] at hr
    exact h.2.1 d e j hd hr
  · have hne : d ≠ a := fun e2 => by
      rw [e2] at hd
      have h2 : sK (stR S a k v) a = c := hk
      rw [h2] at hd; omega
    rw [rR, if_neg hne] at hr
    exact h.2.2.1 d e j hd hr
theorem Dn.R {ms : List Nat} {S : St} {a c k b : Nat} (h : Dn ms S a c) (hb : ∀ kd n, rty c k = some (kd, n) → sK S b = kd ∧ sL S b = n) : Dn (k :: ms) (stR S a k (some b)) a c := by
  intro j hj kd n ht
  by_cases e : j = k
  · subst e
    exact ⟨b, by rw [rR, if_pos rfl, if_pos rfl], (hb kd n ht).1, (hb kd n ht).2⟩
  · have hj2 : j ∈ ms := (List.mem_cons.mp hj).elim (fun e2 => absurd e2 e) id
    obtain ⟨d, h1, h2, h3⟩ := h j hj2 kd n ht
    exact ⟨d, by rw [rR, if_pos rfl, if_neg e]; exact h1, h2, h3⟩
/-- what a call leaves: kinds, lengths, references of objects, and ints but those of the codes ks; hs: cells that it makes -/
def Fr (hs ks : List Nat) (S T : St) : Prop := ∀ a, sK S a < 20 → sK T a = sK S a ∧ sL T a = sL S a ∧ (a ∉ hs → (sK S a < 10 → sR T a = sR S a) ∧ ∀ k, cd (sK S a) k ∉ ks → sI T a k = sI S a k)
theorem Fr.rf (hs ks : List Nat) (S : St) : Fr hs ks S S := fun _ _ => ⟨rfl, rfl, fun _ => ⟨fun _ => rfl, fun _ _ => rfl⟩⟩
theorem Fr.k {hs ks : List Nat} {S T : St} (h : Fr hs ks S T) {a c : Nat} (hk : sK S a = c) (hc : c < 20) : sK T a = c := ((h a (by omega)).1).trans hk
theorem Fr.n {hs ks : List Nat} {S T : St} (h : Fr hs ks S T) {a c n : Nat} (hk : sK S a = c) (hc : c < 20) (hn : sL S a = n) : sL T a = n := ((h a (by omega)).2.1).trans hn
theorem Fr.r {ks : List Nat} {S T : St} (h : Fr [] ks S T) {a c k b : Nat} (hk : sK S a = c) (hc : c < 10) (hr : sR S a k = some b) : sR T a k = some b := by
  rw [((h a (by omega)).2.2 List.not_mem_nil).1 (by omega)]; exact hr
theorem Fr.rx {hs ks : List Nat} {S T : St} (h : Fr hs ks S T) {a c k b : Nat} (ha : a ∉ hs) (hk : sK S a = c) (hc : c < 10) (hr : sR S a k = some b) : sR T a k = some b := by
  rw [((h a (by omega)).2.2 ha).1 (by omega)]; exact hr
theorem Fr.i {ks : List Nat} {S T : St} (h : Fr [] ks S T) {a c k : Nat} (hk : sK S a = c) (hc : c < 20) (hn : cd c k ∉ ks) : sI T a k = sI S a k := ((h a (by omega)).2.2 List.not_mem_nil).2 k (by rw [hk]; exact hn)
theorem Fr.iA {ks : List Nat} {S T : St} (h : Fr [] ks S T) {a c k : Nat} (hk : sK S a = c) (hc : c < 20) (h10 : 10 ≤ c) (hn : c * 100 ∉ ks) : sI T a k = sI S a k := h.i hk hc (by rw [cd_A h10]; exact hn)
theorem Fr.ix {hs ks : List Nat} {S T : St} (h : Fr hs ks S T) {a c k : Nat} (ha : a ∉ hs) (hk : sK S a = c) (hc : c < 20) (hn : cd c k ∉ ks) : sI T a k = sI S a k := ((h a (by omega)).2.2 ha).2 k (by rw [hk]; exact hn)
theorem Fr.tr {hs ks : List Nat} {S T U : St} (h : Fr hs ks S T) (h2 : Fr hs ks T U) : Fr hs ks S U := fun a ha => by
  obtain ⟨a1, a2, a3⟩ := h a ha
  obtain ⟨b1, b2, b3⟩ := h2 a (by omega)
  refine ⟨b1.trans a1, b2.trans a2, fun hn => ⟨fun hc => ((b3 hn).1 (by omega)).trans ((a3 hn).1 hc), fun k hk => ((b3 hn).2 k (by rw [a1]; exact hk)).trans ((a3 hn).2 k hk)⟩⟩
theorem Fr.mono {hs ks ks' : List Nat} {S T : St} (h : Fr hs ks S T) (hm : ∀ x ∈ ks, x ∈ ks') : Fr hs ks' S T := fun a ha => by
  obtain ⟨a1, a2, a3⟩ := h a ha
  exact ⟨a1, a2, fun hn => ⟨(a3 hn).1, fun k hk => (a3 hn).2 k (fun m => hk (hm _ m))⟩⟩
/-- a call that made q, which is new since S -/
theorem Fr.trN {hs ks : List Nat} {S T U : St} {q : Nat} (h : Fr hs ks S T) (h2 : Fr [q] ks T U) (hq : 20 ≤ sK S q) : Fr hs ks S U := fun a ha => by
  obtain ⟨a1, a2, a3⟩ := h a ha
  obtain ⟨b1, b2, b3⟩ := h2 a (by omega)
  have hn2 : a ∉ [q] := fun m => by rw [List.mem_singleton.mp m] at ha; omega
  refine ⟨b1.trans a1, b2.trans a2, fun hn => ⟨fun hc => ((b3 hn2).1 (by omega)).trans ((a3 hn).1 hc), fun k hk => ((b3 hn2).2 k (by rw [a1]; exact hk)).trans ((a3 hn).2 k hk)⟩⟩
theorem Fr.I {hs ks : List Nat} {S T : St} (h : Fr hs ks S T) {a c k : Nat} {v : Int32} (hk : sK T a = c) (hm : cd c k ∈ ks) : Fr hs ks S (stI T a k v) := fun b hb => by
  obtain ⟨a1, a2, a3⟩ := h b hb
  refine ⟨a1, a2, fun hn => ⟨(a3 hn).1, fun j hj => ?_⟩⟩
  by_cases e : b = a
  · have hc : sK S b = c := by rw [← a1, e]; exact hk
    have e2 : j ≠ k := fun e2 => hj (by rw [hc, e2]; exact hm)
    rw [iI_k e2]; exact (a3 hn).2 j hj
  · rw [iI_a e]; exact (a3 hn).2 j hj
theorem Fr.IA {hs ks : List Nat} {S T : St} (h : Fr hs ks S T) {a c k : Nat} {v : Int32} (hk : sK T a = c) (hc : 10 ≤ c) (hm : c * 100 ∈ ks) : Fr hs ks S (stI T a k v) := h.I hk (by rw [cd_A hc]; exact hm)
theorem Fr.Ih {hs ks : List Nat} {S T : St} (h : Fr hs ks S T) {a k : Nat} {v : Int32} (hm : a ∈ hs) : Fr hs ks S (stI T a k v) := fun b hb => by
  obtain ⟨a1, a2, a3⟩ := h b hb
  refine ⟨a1, a2, fun hn => ⟨(a3 hn).1, fun j hj => ?_⟩⟩
  rw [iI_a (fun e => hn (by rw [e]; exact hm))]; exact (a3 hn).2 j hj
theorem Fr.J {hs ks : List Nat} {S T : St} (h : Fr hs ks S T) {a k : Nat} {v : Int64} : Fr hs ks S (stJ T a k v) := h
theorem Fr.W {hs ks : List Nat} {S T : St} (h : Fr hs ks S T) {a c : Nat} {f : Nat → Int32} (hk : sK T a = c) (hc : 10 ≤ c) (hm : c * 100 ∈ ks) : Fr hs ks S (stW T a f) := fun b hb => by
  obtain ⟨a1, a2, a3⟩ := h b hb
  refine ⟨a1, a2, fun hn => ⟨(a3 hn).1, fun j hj => ?_⟩⟩
  by_cases e : b = a
  · have hc2 : sK S b = c := by rw [← a1, e]; exact hk
    exact absurd (by rw [hc2, cd_A hc]; exact hm) hj
  · rw [iW_a e]; exact (a3 hn).2 j hj
theorem Fr.R {hs ks : List Nat} {S T : St} (h : Fr hs ks S T) {a c k : Nat} {v : Option Nat} (hk : sK T a = c) (hc : 10 ≤ c) : Fr hs ks S (stR T a k v) := fun b hb => by
  obtain ⟨a1, a2, a3⟩ := h b hb
  refine ⟨a1, a2, fun hn => ⟨fun h10 => ?_, (a3 hn).2⟩⟩
  have hne : b ≠ a := fun e => by rw [e] at a1 h10; omega
  rw [← (a3 hn).1 h10]
  funext j
  rw [rR, if_neg hne]
theorem Fr.Rh {hs ks : List Nat} {S T : St} (h : Fr hs ks S T) {a k : Nat} {v : Option Nat} (hm : a ∈ hs) : Fr hs ks S (stR T a k v) := fun b hb => by
  obtain ⟨a1, a2, a3⟩ := h b hb
  refine ⟨a1, a2, fun hn => ⟨fun h10 => ?_, (a3 hn).2⟩⟩
  rw [← (a3 hn).1 h10]
  funext j
  rw [rR, if_neg (fun e => hn (by rw [e]; exact hm))]
theorem Fr.N {hs ks : List Nat} {S T : St} (h : Fr hs ks S T) {q kd n : Nat} (hq : 20 ≤ sK T q) : Fr hs ks S (stN T q kd n) := fun b hb => by
  obtain ⟨a1, a2, a3⟩ := h b hb
  have hne : b ≠ q := fun e => by rw [e] at a1 hb; omega
  refine ⟨by rw [kN, if_neg hne]; exact a1, by rw [lNw, if_neg hne]; exact a2, fun hn => ⟨fun h10 => ?_, fun k hk => ?_⟩⟩
  · rw [← (a3 hn).1 h10]; funext j; rw [rN, if_neg hne]
  · rw [iN, if_neg hne]; exact (a3 hn).2 k hk
theorem Fr.new {hs ks : List Nat} {S T : St} (h : Fr hs ks S T) {q : Nat} (hq : 20 ≤ sK T q) : 20 ≤ sK S q := by
  rcases Nat.lt_or_ge (sK S q) 20 with h1 | h1
  · have := (h q h1).1; omega
  · exact h1
theorem Dn.F {hs ks ms : List Nat} {S T : St} {a c : Nat} (h : Dn ms S a c) (hf : Fr hs ks S T) (hk : sK S a = c) (hc : c < 10) (ha : a ∉ hs) : Dn ms T a c := fun k hkm kd n ht => by
  obtain ⟨b, h1, h2, h3⟩ := h k hkm kd n ht
  exact ⟨b, hf.rx ha hk hc h1, hf.k h2 (rty_lt ht).1, hf.n h2 (rty_lt ht).1 h3⟩
theorem rty_big (c k : Nat) (h : 70 ≤ k) : rty c k = none := by
  unfold rty
  split <;> first | rfl | exact absurd h (by decide)
theorem rtk {c : Nat} {ms : List Nat} (h : ∀ k, k < 70 → (rty c k).isSome = true → k ∈ ms) : ∀ k kd n, rty c k = some (kd, n) → k ∈ ms := fun k kd n e => by
  rcases Nat.lt_or_ge k 70 with h1 | h1
  · exact h k h1 (by rw [e]; rfl)
  · rw [rty_big c k h1] at e; cases e
theorem i3_inc {y x : Int32} (h : y.toInt < x.toInt) : (y + 1).toInt = y.toInt + 1 := i3_add rfl rfl (by have := i3_bd y; omega) (by have := i3_bd x; omega)
theorem i3_dec {y : Int32} (h : -2147483648 < y.toInt) : (y + (-1)).toInt = y.toInt - 1 := by
  have h1 : (y + (-1)).toInt = y.toInt + (-1) := i3_add rfl rfl (by omega) (by have := i3_bd y; omega)
  omega
end
section
/-! calls that hand over an array of a static field -/
def PT (D : va_G) (cy : Nat → ClassId) (A : Nat → Prop) (S : St) (t : Nat) (xs : Nat → Value) (U : State) : Prop := PU D cy A S U ∧ va_T .int t 4 xs A U U.heap
theorem PT.blind {D : va_G} {cy : Nat → ClassId} {A : Nat → Prop} {S : St} {t : Nat} {xs : Nat → Value} {av : List Value} : FrameBlind (va_Pc av (PT D cy A S t xs)) := by
  intro a U g mk h
  obtain ⟨h1, hU, hT⟩ := h
  have hal : U.vm.Alike (U.calling g mk a).vm := Vm.Alike.refl U.vm
  exact ⟨h1, (PU.blind (av := av) a U g mk ⟨h1, hU⟩).2, va_T.moved (u := U) (U := U.calling g mk a) hal hT⟩
def MIT (l : Launch) (y : MethodName) (ws : List Cond) (rm : Room) (mc ms : Nat) (D : va_G) (cy : Nat → ClassId) (A : Nat → Prop) (av : List Value) (S : St) (t : Nat) (xs : Nat → Value) (post : Int32 → St → Prop) : Prop := Met l y ws rm (va_Pc av (PT D cy A S t xs)) (va_Qi post (PU D cy A) A) mc ms A
theorem PT.mk {D : va_G} {cy : Nat → ClassId} {A : Nat → Prop} {S : St} {t : Nat} {xs : Nat → Value} {s U : State} {H : Heap} {locs : List Loc} (h : PU D cy A S U) (hT : va_T .int t 4 xs A s s.heap) (hS : va_S A s.heap H locs) (hU : U.heap = H) (hvm : s.WarmedH U.vm) : PT D cy A S t xs U :=
  ⟨h, by rw [hU]; exact (hT.kept (fun a ha hn => hS.2.1 a ha hn)).moved hvm.alike⟩
section PCT
variable {p : Program} {l : Launch} {e : Env} {R : Room} {s : State} {m : MethodId} {args : Array Value} {below : List Frame} {meth : Method} {c : Code} {H : Heap} {locs : List Loc} {cells slots : Nat} {Q : State → Prop}
variable {cc bytes : ByteArray} {pc nL maxL mc ms n index : Nat} {ls : Array Slot} {As rest st0 : List Value} {D : va_G} {cy : Nat → ClassId} {A : Nat → Prop} {t : Nat} {xs : Nat → Value} {S : St} {y : MethodName} {ret : Option FieldType} {ws Ts : List Cond} {rm : Room} {own C host : String}
theorem pc_SiT {post : Int32 → St → Prop} (F : CallFix p m c cc nL s args Ts own) (hM : MIT l y ws rm mc ms D cy A As S t xs post) (cw : CallB R s args own index y bytes maxL ret ws rm mc ms n ∧ (Cond.static y).before args s = true) (hK : va_K D vwCl (tysC cy) s) (hZ : ZS A s) (hA : ∀ q, s.heap.size ≤ q → A q) (hW : PW D cy A S H) (hS : va_S A s.heap H locs) (hT : va_T .int t 4 xs A s s.heap) (hn : As.length = n) (hsize : ls.size = nL) (hstack : st0 = As.reverse ++ rest) (hr : (rest.map fun v => v.category).sum ≤ 8) (hdg : decode cc pc = .ok (.invokestatic index, 3)) (hf : cells + mc ≤ R.cells ∧ slots + ms ≤ R.slots)
    (kk : ∀ (r : Int32) (S1 : St) (H1 : Heap) (locs1 : List Loc), post r S1 → PW D cy A S1 H1 → va_S A s.heap H1 locs1 → W p l e R s m args below meth c H1 locs1 (cells + mc) (slots + ms) Q (F0 m (pc + 3) ls (.int r :: rest))) : W p l e R s m args below meth c H locs cells slots Q (F0 m pc ls st0) :=
  va_calli (va_runS F hM cw ⟨PT.blind, fun _ hU hWm => ⟨rfl, PT.mk (PU.mk hW hK hZ hA hS hU hWm) hT hS hU hWm⟩⟩ rfl hn hsize hstack (lv_room hr) hdg hf) hS (fun _ _ h => h) (fun _ h => h) (fun r u t H1 locs1 ht _ hw hB _ _ hS1 => kk r u H1 locs1 hw (ht ▸ hB.1) hS1)
theorem pc_NiT {post : Int32 → St → Prop} (F : CallFix p m c cc nL s args Ts own) (hM : MIT l y ws rm mc ms D cy A As S t xs post) (cw : va_CN R s args own index y host bytes maxL ret ws rm mc ms n ∧ (Cond.static y).before args s = true ∧ True) (hK : va_K D vwCl (tysC cy) s) (hZ : ZS A s) (hA : ∀ q, s.heap.size ≤ q → A q) (hW : PW D cy A S H) (hS : va_S A s.heap H locs) (hT : va_T .int t 4 xs A s s.heap) (hn : As.length = n) (hsize : ls.size = nL) (hstack : st0 = As.reverse ++ rest) (hr : (rest.map fun v => v.category).sum ≤ 8) (hdg : decode cc pc = .ok (.invokestatic index, 3)) (hf : cells + mc ≤ R.cells ∧ slots + ms ≤ R.slots)
    (kk : ∀ (r : Int32) (S1 : St) (H1 : Heap) (locs1 : List Loc), post r S1 → PW D cy A S1 H1 → va_S A s.heap H1 locs1 → W p l e R s m args below meth c H1 locs1 (cells + mc) (slots + ms) Q (F0 m (pc + 3) ls (.int r :: rest))) : W p l e R s m args below meth c H locs cells slots Q (F0 m pc ls st0) :=
  va_calli (va_runSN F hM cw ⟨PT.blind, fun _ hU hWm => ⟨rfl, PT.mk (PU.mk hW hK hZ hA hS hU hWm) hT hS hU hWm⟩⟩ rfl hn hsize hstack (lv_room hr) hdg hf) hS (fun _ _ h => h) (fun _ h => h) (fun r u t H1 locs1 ht _ hw hB _ _ hS1 => kk r u H1 locs1 hw (ht ▸ hB.1) hS1)
end PCT
theorem mt_startT {l : Launch} {y : MethodName} {ws ws' : List Cond} {rm : Room} {Qc : Array Value → State → Outcome → State → Prop} {mc ms : Nat} {free : Addr → Prop} {cc : ByteArray} {maxL : Nat} {ret : Option FieldType} {D : va_G} {cy : Nat → ClassId} {A : Nat → Prop} {av : List Value} {S : St} {t : Nat} {xs : Nat → Value} (hy : plainName y.cls = true) (hw : ws = Cond.code y cc maxL ret :: ws') (hav : (lg_sl av).length ≤ maxL)
    (body : ∀ (p : Program) (e : Env) (s : State) (m : MethodId) (args : Array Value) (below : List Frame) (meth : Method) (c : Code), p.tables.exec = Jvm.exec → c.code = cc → meth.sig.returnType = ret → meth.locks = false → c.maxLocals = maxL → s.vm.findClass y.cls = some m.cls → meth.name = y.name → (∀ w ∈ ws, w.before args s = true) → va_K D vwCl (tysC cy) s → ZS A s → (∀ q, s.heap.size ≤ q → A q) → PW D cy A S s.heap → va_S A s.heap s.heap [] → va_T .int t 4 xs A s s.heap → ∀ ls : Array Slot, lv_has ls maxL (lv_args 0 av) →
      W p l e rm s m args below meth c s.heap [] 0 0 (MQ below Qc args s mc ms free) (F0 m 0 ls [])) : Met l y ws rm (va_Pc av (PT D cy A S t xs)) Qc mc ms free := by
  refine Met.ofW (cc := cc) (maxL := maxL) (ret := ret) hy hw ?_
  intro p e s m args below meth c s₁ B hml hv
  obtain ⟨rfl, ⟨hW, hK, hZ, hA⟩, hT⟩ := hv
  have hl := lv_entry av (n := maxL) hav
  rw [lg_entry_eq]
  exact body p e s m _ below meth c B.exec B.bytes B.returns B.notSynchronized hml (findClass_of_methodNamed B.named) (name_of_methodNamed B.named B.method).1 (atoms_spec (ws := ws) B.pre) hK hZ hA hW va_S.rf hT _ hl
theorem rty_4 (k : Nat) : rty 4 k = none := rfl
theorem rty_6 (k : Nat) : rty 6 k = none := rfl
theorem rty_10 (k : Nat) : rty 10 k = none := rfl
theorem rty_11 (k : Nat) : rty 11 k = none := rfl
theorem rty_12 (k : Nat) : rty 12 k = none := rfl
theorem rty_13 (k : Nat) : rty 13 k = none := rfl
theorem rty_14 (k : Nat) : rty 14 k = none := rfl
theorem rty_15 (k : Nat) : rty 15 k = none := rfl
theorem rty_16 (k : Nat) : rty 16 k = none := rfl
theorem rty_17 (k : Nat) : rty 17 k = none := rfl
theorem rty_18 (k : Nat) : rty 18 k = none := rfl
theorem rty_19 (k : Nat) : rty 19 k = none := rfl
end
section
set_option maxHeartbeats 4000000 in
set_option maxRecDepth 100000 in
theorem b_X8_isBelow (l : Launch) (D : va_G) (cy : Nat → ClassId) (A : Nat → Prop) (S : St) (a b : Int32)  : MI l yX8_isBelow wsX8_isBelow ({ frames := 0, cells := 0, slots := 0, locals := 0 } : Room) 0 0 D cy A [.int a, .int b] S (fun r S1 => S1 = S ∧ ((r.toInt = 1 ∧ 0 ≤ a.toInt ∧ a.toInt < b.toInt) ∨ (r.toInt = 0 ∧ ¬ (0 ≤ a.toInt ∧ a.toInt < b.toInt)))) := by
  refine mt_start (cc := cX8_isBelow) (maxL := 2) (ret := (some .boolean)) (by decide) rfl (Nat.le_of_ble_eq_true rfl) ?_
  intro p e s m args below meth c hx hb hr hlk hml hown hnm hts hK hZ hA hW hS ls hl
  have hl : lv_has ls 2 [(0, .int a), (1, .int b)] := hl
  have hown : s.vm.findClass RX8 = some m.cls := hown
  have F : CallFix p m c cX8_isBelow 2 s args wsX8_isBelow RX8 := ⟨hx, hb, hml, hown, hts⟩
  refine lv_iload_n hx hb dX8_isBelow_0 rfl (lv_at hl 0 rfl) ?_
  refine lv_if_lt (tgt := 13) hx hb dX8_isBelow_1 (by decide) (fun c1 => ?_) (fun c1 => ?_)
  · have c1i : Int32.toInt a < (0 : Int) := (i3_lt _ _).mp c1
    refine lv_iconst (v := 0) hx hb dX8_isBelow_13 (by decide) ?_
    exact pc_zret (v := 0) (S := S) hx hb hr hlk hK hZ hA hW hS (by decide) (⟨rfl, Or.inr ⟨rfl, by omega⟩⟩) dX8_isBelow_14
  · have c1i : ¬ (Int32.toInt a < (0 : Int)) := fun h9 => c1 ((i3_lt _ _).mpr h9)
    refine lv_iload_n hx hb dX8_isBelow_4 rfl (lv_at hl 0 rfl) ?_
    refine lv_iload_n hx hb dX8_isBelow_5 rfl (lv_at hl 1 rfl) ?_
    refine lv_icmp_ge (tgt := 13) hx hb dX8_isBelow_6 (by decide) (fun c2 => ?_) (fun c2 => ?_)
    · have c2i : Int32.toInt b ≤ Int32.toInt a := (i3_le _ _).mp c2
      refine lv_iconst (v := 0) hx hb dX8_isBelow_13 (by decide) ?_
      exact pc_zret (v := 0) (S := S) hx hb hr hlk hK hZ hA hW hS (by decide) (⟨rfl, Or.inr ⟨rfl, by omega⟩⟩) dX8_isBelow_14
    · have c2i : ¬ (Int32.toInt b ≤ Int32.toInt a) := fun h9 => c2 ((i3_le _ _).mpr h9)
      refine lv_iconst (v := 1) hx hb dX8_isBelow_9 (by decide) ?_
      refine lv_goto (tgt := 14) hx hb dX8_isBelow_10 (by decide) ?_
      exact pc_zret (v := 1) (S := S) hx hb hr hlk hK hZ hA hW hS (by decide) (⟨rfl, Or.inl ⟨rfl, by omega⟩⟩) dX8_isBelow_14
set_option maxHeartbeats 4000000 in
set_option maxRecDepth 100000 in
theorem b_X8_isTenths (l : Launch) (D : va_G) (cy : Nat → ClassId) (A : Nat → Prop) (S : St) (a : Int32)  : MI l yX8_isTenths wsX8_isTenths ({ frames := 0, cells := 0, slots := 0, locals := 0 } : Room) 0 0 D cy A [.int a] S (fun r S1 => S1 = S ∧ ((r.toInt = 1 ∧ 0 ≤ a.toInt ∧ a.toInt ≤ 20) ∨ (r.toInt = 0 ∧ ¬ (0 ≤ a.toInt ∧ a.toInt ≤ 20)))) := by
  refine mt_start (cc := cX8_isTenths) (maxL := 1) (ret := (some .boolean)) (by decide) rfl (Nat.le_of_ble_eq_true rfl) ?_
  intro p e s m args below meth c hx hb hr hlk hml hown hnm hts hK hZ hA hW hS ls hl
  have hl : lv_has ls 1 [(0, .int a)] := hl
  have hown : s.vm.findClass RX8 = some m.cls := hown
  have F : CallFix p m c cX8_isTenths 1 s args wsX8_isTenths RX8 := ⟨hx, hb, hml, hown, hts⟩
  refine lv_iload_n hx hb dX8_isTenths_0 rfl (lv_at hl 0 rfl) ?_
  refine lv_if_lt (tgt := 14) hx hb dX8_isTenths_1 (by decide) (fun c1 => ?_) (fun c1 => ?_)
  · have c1i : Int32.toInt a < (0 : Int) := (i3_lt _ _).mp c1
    refine lv_iconst (v := 0) hx hb dX8_isTenths_14 (by decide) ?_
    exact pc_zret (v := 0) (S := S) hx hb hr hlk hK hZ hA hW hS (by decide) (⟨rfl, Or.inr ⟨rfl, by omega⟩⟩) dX8_isTenths_15
  · have c1i : ¬ (Int32.toInt a < (0 : Int)) := fun h9 => c1 ((i3_lt _ _).mpr h9)
    refine lv_iload_n hx hb dX8_isTenths_4 rfl (lv_at hl 0 rfl) ?_
    refine lv_bipush (v := 20) hx hb dX8_isTenths_5 (by decide) ?_
    refine lv_icmp_gt (tgt := 14) hx hb dX8_isTenths_7 (by decide) (fun c2 => ?_) (fun c2 => ?_)
    · have c2i : (20 : Int) < Int32.toInt a := (i3_lt _ _).mp c2
      refine lv_iconst (v := 0) hx hb dX8_isTenths_14 (by decide) ?_
      exact pc_zret (v := 0) (S := S) hx hb hr hlk hK hZ hA hW hS (by decide) (⟨rfl, Or.inr ⟨rfl, by omega⟩⟩) dX8_isTenths_15
    · have c2i : ¬ ((20 : Int) < Int32.toInt a) := fun h9 => c2 ((i3_lt _ _).mpr h9)
      refine lv_iconst (v := 1) hx hb dX8_isTenths_10 (by decide) ?_
      refine lv_goto (tgt := 15) hx hb dX8_isTenths_11 (by decide) ?_
      exact pc_zret (v := 1) (S := S) hx hb hr hlk hK hZ hA hW hS (by decide) (⟨rfl, Or.inl ⟨rfl, by omega⟩⟩) dX8_isTenths_15
set_option maxHeartbeats 4000000 in
set_option maxRecDepth 100000 in
theorem b_X8_isWarmth (l : Launch) (D : va_G) (cy : Nat → ClassId) (A : Nat → Prop) (S : St) (a : Int32)  : MI l yX8_isWarmth wsX8_isWarmth ({ frames := 0, cells := 0, slots := 0, locals := 0 } : Room) 0 0 D cy A [.int a] S (fun r S1 => S1 = S ∧ ((r.toInt = 1 ∧ -20 ≤ a.toInt ∧ a.toInt ≤ 40) ∨ (r.toInt = 0 ∧ ¬ (-20 ≤ a.toInt ∧ a.toInt ≤ 40)))) := by
  refine mt_start (cc := cX8_isWarmth) (maxL := 1) (ret := (some .boolean)) (by decide) rfl (Nat.le_of_ble_eq_true rfl) ?_
  intro p e s m args below meth c hx hb hr hlk hml hown hnm hts hK hZ hA hW hS ls hl
  have hl : lv_has ls 1 [(0, .int a)] := hl
  have hown : s.vm.findClass RX8 = some m.cls := hown
  have F : CallFix p m c cX8_isWarmth 1 s args wsX8_isWarmth RX8 := ⟨hx, hb, hml, hown, hts⟩
  refine lv_iload_n hx hb dX8_isWarmth_0 rfl (lv_at hl 0 rfl) ?_
  refine lv_bipush (v := (-20)) hx hb dX8_isWarmth_1 (by decide) ?_
  refine lv_icmp_lt (tgt := 16) hx hb dX8_isWarmth_3 (by decide) (fun c1 => ?_) (fun c1 => ?_)
  · have c1i : Int32.toInt a < (-20 : Int) := (i3_lt _ _).mp c1
    refine lv_iconst (v := 0) hx hb dX8_isWarmth_16 (by decide) ?_
    exact pc_zret (v := 0) (S := S) hx hb hr hlk hK hZ hA hW hS (by decide) (⟨rfl, Or.inr ⟨rfl, by omega⟩⟩) dX8_isWarmth_17
  · have c1i : ¬ (Int32.toInt a < (-20 : Int)) := fun h9 => c1 ((i3_lt _ _).mpr h9)
    refine lv_iload_n hx hb dX8_isWarmth_6 rfl (lv_at hl 0 rfl) ?_
    refine lv_bipush (v := 40) hx hb dX8_isWarmth_7 (by decide) ?_
    refine lv_icmp_gt (tgt := 16) hx hb dX8_isWarmth_9 (by decide) (fun c2 => ?_) (fun c2 => ?_)
    · have c2i : (40 : Int) < Int32.toInt a := (i3_lt _ _).mp c2
      refine lv_iconst (v := 0) hx hb dX8_isWarmth_16 (by decide) ?_
      exact pc_zret (v := 0) (S := S) hx hb hr hlk hK hZ hA hW hS (by decide) (⟨rfl, Or.inr ⟨rfl, by omega⟩⟩) dX8_isWarmth_17
    · have c2i : ¬ ((40 : Int) < Int32.toInt a) := fun h9 => c2 ((i3_lt _ _).mpr h9)
      refine lv_iconst (v := 1) hx hb dX8_isWarmth_12 (by decide) ?_
      refine lv_goto (tgt := 17) hx hb dX8_isWarmth_13 (by decide) ?_
      exact pc_zret (v := 1) (S := S) hx hb hr hlk hK hZ hA hW hS (by decide) (⟨rfl, Or.inl ⟨rfl, by omega⟩⟩) dX8_isWarmth_17
set_option maxHeartbeats 4000000 in
set_option maxRecDepth 100000 in
theorem b_X0_has (l : Launch) (D : va_G) (cy : Nat → ClassId) (A : Nat → Prop) (S : St) (h : Nat) (a : Int32) (hG0 : G S) (hk : sK S h = 0) : MI l yX0_has wsX0_has ({ frames := 0, cells := 0, slots := 0, locals := 0 } : Room) 0 0 D cy A [.ref h, .int a] S (fun r S1 => S1 = S ∧ True) := by
  refine mt_start (cc := cX0_has) (maxL := 2) (ret := (some .boolean)) (by decide) rfl (Nat.le_of_ble_eq_true rfl) ?_
  intro p e s m args below meth c hx hb hr hlk hml hown hnm hts hK hZ hA hW hS ls hl
  have hl : lv_has ls 2 [(0, .ref h), (1, .int a)] := hl
  have hown : s.vm.findClass RX0 = some m.cls := hown
  have F : CallFix p m c cX0_has 2 s args wsX0_has RX0 := ⟨hx, hb, hml, hown, hts⟩
  have wi0 : ∀ w ∈ u_ws RX0 TX0 1, w ∈ wsX0_has := by decide +kernel
  have hG := hG0
  refine lv_iload_n hx hb dX0_has_0 rfl (lv_at hl 1 rfl) ?_
  refine lv_if_lt (tgt := 36) hx hb dX0_has_1 (by decide) (fun c1 => ?_) (fun c1 => ?_)
  · have c1i : Int32.toInt a < (0 : Int) := (i3_lt _ _).mp c1
    refine lv_iconst (v := 0) hx hb dX0_has_36 (by decide) ?_
    exact pc_zret (v := 0) (S := S) hx hb hr hlk hK hZ hA hW hS (by decide) (⟨rfl, trivial⟩) dX0_has_37
  · have c1i : ¬ (Int32.toInt a < (0 : Int)) := fun h9 => c1 ((i3_lt _ _).mpr h9)
    refine lv_iload_n hx hb dX0_has_4 rfl (lv_at hl 1 rfl) ?_
    refine lv_sipush (v := 2048) hx hb dX0_has_5 (by decide) ?_
    refine lv_icmp_ge (tgt := 36) hx hb dX0_has_8 (by decide) (fun c2 => ?_) (fun c2 => ?_)
    · have c2i : (2048 : Int) ≤ Int32.toInt a := (i3_le _ _).mp c2
      refine lv_iconst (v := 0) hx hb dX0_has_36 (by decide) ?_
      exact pc_zret (v := 0) (S := S) hx hb hr hlk hK hZ hA hW hS (by decide) (⟨rfl, trivial⟩) dX0_has_37
    · have c2i : ¬ ((2048 : Int) ≤ Int32.toInt a) := fun h9 => c2 ((i3_le _ _).mpr h9)
      refine lv_aload_n hx hb dX0_has_11 rfl (lv_at hl 0 rfl) ?_
      obtain ⟨b3, rb3, kb3, nb3⟩ := hG0.r hk List.not_mem_nil 0 (show rty 0 0 = some (12, 32) from rfl)
      refine pg_gr (b := b3) (ci := 0) (C := RX0) (T := TX0) (N := 1) hx hb hts wi0 hown hK hW hk (by decide) rfl 0 (by decide) (hts (.fieldLink RX0 9 "IceHall$HourSet" "words" "[J") (by decide +kernel)) (fun _ h9 => h9) rfl rb3 dX0_has_12 ?_
      refine lv_iload_n hx hb dX0_has_15 rfl (lv_at hl 1 rfl) ?_
      refine lv_bipush (v := 64) hx hb dX0_has_16 (by decide) ?_
      refine lv_idiv hx hb dX0_has_18 (by decide) ?_
      refine pg_lald hx hb hK hW kb3 (by rw [show sL S b3 = 32 from nb3]; exact hs_in c1 c2) dX0_has_19 ?_
      refine lv_iload_n hx hb dX0_has_20 rfl (lv_at hl 1 rfl) ?_
      refine lv_bipush (v := 64) hx hb dX0_has_21 (by decide) ?_
      refine lv_irem hx hb dX0_has_23 (by decide) ?_
      refine lv_lushr (v := (((sJ S b3 (Int32.toNatClampNeg (a / 64))).toUInt64 >>> ((Int32.toInt64 (a - a / 64 * 64)).toUInt64 &&& Int64.toUInt64 63)).toInt64)) hx hb dX0_has_24 rfl ?_
      refine lv_lconst (v := 1) hx hb dX0_has_25 (by decide) ?_
      refine lv_land hx hb dX0_has_26 ?_
      refine lv_lconst (v := 0) hx hb dX0_has_27 (by decide) ?_
      refine W.lcmp hx hb dX0_has_28 ?_
      refine lv_if_eq (tgt := 36) hx hb dX0_has_29 (by decide) (fun c4 => ?_) (fun c4 => ?_)
      · have c4i : Int32.toInt (lg_cmp (((((sJ S b3 (Int32.toNatClampNeg (a / 64))).toUInt64 >>> ((Int32.toInt64 (a - a / 64 * 64)).toUInt64 &&& Int64.toUInt64 63)).toInt64)) &&& 1) 0) = (0 : Int) := (i3_eq _ _).mp c4
        refine lv_iconst (v := 0) hx hb dX0_has_36 (by decide) ?_
        exact pc_zret (v := 0) (S := S) hx hb hr hlk hK hZ hA hW hS (by decide) (⟨rfl, trivial⟩) dX0_has_37
      · have c4i : ¬ (Int32.toInt (lg_cmp (((((sJ S b3 (Int32.toNatClampNeg (a / 64))).toUInt64 >>> ((Int32.toInt64 (a - a / 64 * 64)).toUInt64 &&& Int64.toUInt64 63)).toInt64)) &&& 1) 0) = (0 : Int)) := fun h9 => c4 ((i3_eq _ _).mpr h9)
        refine lv_iconst (v := 1) hx hb dX0_has_32 (by decide) ?_
        refine lv_goto (tgt := 37) hx hb dX0_has_33 (by decide) ?_
        exact pc_zret (v := 1) (S := S) hx hb hr hlk hK hZ hA hW hS (by decide) (⟨rfl, trivial⟩) dX0_has_37
set_option maxHeartbeats 4000000 in
set_option maxRecDepth 100000 in
theorem b_X0_put (l : Launch) (D : va_G) (cy : Nat → ClassId) (A : Nat → Prop) (S : St) (h : Nat) (a : Int32) (hG0 : G S) (hk : sK S h = 0) : MV l yX0_put wsX0_put ({ frames := 0, cells := 0, slots := 0, locals := 0 } : Room) 0 0 D cy A [.ref h, .int a] S (fun S1 => G S1 ∧ Fr [] [] S S1 ∧ True) := by
  refine mt_start (cc := cX0_put) (maxL := 2) (ret := none) (by decide) rfl (Nat.le_of_ble_eq_true rfl) ?_
  intro p e s m args below meth c hx hb hr hlk hml hown hnm hts hK hZ hA hW hS ls hl
  have hl : lv_has ls 2 [(0, .ref h), (1, .int a)] := hl
  have hown : s.vm.findClass RX0 = some m.cls := hown
  have F : CallFix p m c cX0_put 2 s args wsX0_put RX0 := ⟨hx, hb, hml, hown, hts⟩
  have wi0 : ∀ w ∈ u_ws RX0 TX0 1, w ∈ wsX0_put := by decide +kernel
  have hG := hG0
  have hF : Fr [] [] S S := Fr.rf _ _ _
  refine lv_iload_n hx hb dX0_put_0 rfl (lv_at hl 1 rfl) ?_
  refine lv_if_lt (tgt := 29) hx hb dX0_put_1 (by decide) (fun c1 => ?_) (fun c1 => ?_)
  · have c1i : Int32.toInt a < (0 : Int) := (i3_lt _ _).mp c1
    exact pc_vret (S := S) hx hb hr hlk hK hZ hA hW hS (⟨hG, hF, trivial⟩) dX0_put_29
  · have c1i : ¬ (Int32.toInt a < (0 : Int)) := fun h9 => c1 ((i3_lt _ _).mpr h9)
    refine lv_iload_n hx hb dX0_put_4 rfl (lv_at hl 1 rfl) ?_
    refine lv_sipush (v := 2048) hx hb dX0_put_5 (by decide) ?_
    refine lv_icmp_ge (tgt := 29) hx hb dX0_put_8 (by decide) (fun c2 => ?_) (fun c2 => ?_)
    · have c2i : (2048 : Int) ≤ Int32.toInt a := (i3_le _ _).mp c2
      exact pc_vret (S := S) hx hb hr hlk hK hZ hA hW hS (⟨hG, hF, trivial⟩) dX0_put_29
    · have c2i : ¬ ((2048 : Int) ≤ Int32.toInt a) := fun h9 => c2 ((i3_le _ _).mpr h9)
      refine lv_aload_n hx hb dX0_put_11 rfl (lv_at hl 0 rfl) ?_
      obtain ⟨b3, rb3, kb3, nb3⟩ := hG0.r hk List.not_mem_nil 0 (show rty 0 0 = some (12, 32) from rfl)
      refine pg_gr (b := b3) (ci := 0) (C := RX0) (T := TX0) (N := 1) hx hb hts wi0 hown hK hW hk (by decide) rfl 0 (by decide) (hts (.fieldLink RX0 9 "IceHall$HourSet" "words" "[J") (by decide +kernel)) (fun _ h9 => h9) rfl rb3 dX0_put_12 ?_
      refine lv_iload_n hx hb dX0_put_15 rfl (lv_at hl 1 rfl) ?_
      refine lv_bipush (v := 64) hx hb dX0_put_16 (by decide) ?_
      refine lv_idiv hx hb dX0_put_18 (by decide) ?_
      refine lv_dup2_11 hx hb dX0_put_19 rfl rfl ?_
      refine pg_lald hx hb hK hW kb3 (by rw [show sL S b3 = 32 from nb3]; exact hs_in c1 c2) dX0_put_20 ?_
      refine lv_lconst (v := 1) hx hb dX0_put_21 (by decide) ?_
      refine lv_iload_n hx hb dX0_put_22 rfl (lv_at hl 1 rfl) ?_
      refine lv_bipush (v := 64) hx hb dX0_put_23 (by decide) ?_
      refine lv_irem hx hb dX0_put_25 (by decide) ?_
      refine lv_lshl (v := 1 <<< (Int32.toInt64 (a - a / 64 * 64) &&& 63)) hx hb dX0_put_26 rfl ?_
      refine lv_lor hx hb dX0_put_27 ?_
      refine pg_last hx hb hK hW hS kb3 (by rw [show sL S b3 = 32 from nb3]; exact hs_in c1 c2) dX0_put_28 (fun H locs hW hS => ?_)
      obtain ⟨S4, eS4⟩ : ∃ T : St, T = stJ S b3 (Int32.toNatClampNeg (a / 64)) ((sJ S b3 (Int32.toNatClampNeg (a / 64))) ||| (1 <<< (Int32.toInt64 (a - a / 64 * 64) &&& 63))) := ⟨_, rfl⟩
      rw [← eS4] at hW
      have hG : G S4 := by rw [eS4]; exact hG.J
      have hF : Fr [] [] S S4 := by rw [eS4]; exact hF.J
      clear eS4
      exact pc_vret (S := S4) hx hb hr hlk hK hZ hA hW hS (⟨hG, hF, trivial⟩) dX0_put_29
set_option maxHeartbeats 4000000 in
set_option maxRecDepth 100000 in
theorem b_X0_drop (l : Launch) (D : va_G) (cy : Nat → ClassId) (A : Nat → Prop) (S : St) (h : Nat) (a : Int32) (hG0 : G S) (hk : sK S h = 0) : MV l yX0_drop wsX0_drop ({ frames := 0, cells := 0, slots := 0, locals := 0 } : Room) 0 0 D cy A [.ref h, .int a] S (fun S1 => G S1 ∧ Fr [] [] S S1 ∧ True) := by
  refine mt_start (cc := cX0_drop) (maxL := 2) (ret := none) (by decide) rfl (Nat.le_of_ble_eq_true rfl) ?_
  intro p e s m args below meth c hx hb hr hlk hml hown hnm hts hK hZ hA hW hS ls hl
  have hl : lv_has ls 2 [(0, .ref h), (1, .int a)] := hl
  have hown : s.vm.findClass RX0 = some m.cls := hown
  have F : CallFix p m c cX0_drop 2 s args wsX0_drop RX0 := ⟨hx, hb, hml, hown, hts⟩
  have wi0 : ∀ w ∈ u_ws RX0 TX0 1, w ∈ wsX0_drop := by decide +kernel
  have hG := hG0
  have hF : Fr [] [] S S := Fr.rf _ _ _
  refine lv_iload_n hx hb dX0_drop_0 rfl (lv_at hl 1 rfl) ?_
  refine lv_if_lt (tgt := 33) hx hb dX0_drop_1 (by decide) (fun c1 => ?_) (fun c1 => ?_)
  · have c1i : Int32.toInt a < (0 : Int) := (i3_lt _ _).mp c1
    exact pc_vret (S := S) hx hb hr hlk hK hZ hA hW hS (⟨hG, hF, trivial⟩) dX0_drop_33
  · have c1i : ¬ (Int32.toInt a < (0 : Int)) := fun h9 => c1 ((i3_lt _ _).mpr h9)
    refine lv_iload_n hx hb dX0_drop_4 rfl (lv_at hl 1 rfl) ?_
    refine lv_sipush (v := 2048) hx hb dX0_drop_5 (by decide) ?_
    refine lv_icmp_ge (tgt := 33) hx hb dX0_drop_8 (by decide) (fun c2 => ?_) (fun c2 => ?_)
    · have c2i : (2048 : Int) ≤ Int32.toInt a := (i3_le _ _).mp c2
      exact pc_vret (S := S) hx hb hr hlk hK hZ hA hW hS (⟨hG, hF, trivial⟩) dX0_drop_33
    · have c2i : ¬ ((2048 : Int) ≤ Int32.toInt a) := fun h9 => c2 ((i3_le _ _).mpr h9)
      refine lv_aload_n hx hb dX0_drop_11 rfl (lv_at hl 0 rfl) ?_
      obtain ⟨b3, rb3, kb3, nb3⟩ := hG0.r hk List.not_mem_nil 0 (show rty 0 0 = some (12, 32) from rfl)
      refine pg_gr (b := b3) (ci := 0) (C := RX0) (T := TX0) (N := 1) hx hb hts wi0 hown hK hW hk (by decide) rfl 0 (by decide) (hts (.fieldLink RX0 9 "IceHall$HourSet" "words" "[J") (by decide +kernel)) (fun _ h9 => h9) rfl rb3 dX0_drop_12 ?_
      refine lv_iload_n hx hb dX0_drop_15 rfl (lv_at hl 1 rfl) ?_
      refine lv_bipush (v := 64) hx hb dX0_drop_16 (by decide) ?_
      refine lv_idiv hx hb dX0_drop_18 (by decide) ?_
      refine lv_dup2_11 hx hb dX0_drop_19 rfl rfl ?_
      refine pg_lald hx hb hK hW kb3 (by rw [show sL S b3 = 32 from nb3]; exact hs_in c1 c2) dX0_drop_20 ?_
      refine lv_lconst (v := 1) hx hb dX0_drop_21 (by decide) ?_
      refine lv_iload_n hx hb dX0_drop_22 rfl (lv_at hl 1 rfl) ?_
      refine lv_bipush (v := 64) hx hb dX0_drop_23 (by decide) ?_
      refine lv_irem hx hb dX0_drop_25 (by decide) ?_
      refine lv_lshl (v := 1 <<< (Int32.toInt64 (a - a / 64 * 64) &&& 63)) hx hb dX0_drop_26 rfl ?_
      refine lv_ldc2 (v := (-1)) hx hb hown (hts (.constantLong RX0 13 (-1)) (by decide +kernel)) dX0_drop_27 ?_
      refine lv_lxor hx hb dX0_drop_30 ?_
      refine lv_land hx hb dX0_drop_31 ?_
      refine pg_last hx hb hK hW hS kb3 (by rw [show sL S b3 = 32 from nb3]; exact hs_in c1 c2) dX0_drop_32 (fun H locs hW hS => ?_)
      obtain ⟨S4, eS4⟩ : ∃ T : St, T = stJ S b3 (Int32.toNatClampNeg (a / 64)) ((sJ S b3 (Int32.toNatClampNeg (a / 64))) &&& ((1 <<< (Int32.toInt64 (a - a / 64 * 64) &&& 63)) ^^^ ((-1)))) := ⟨_, rfl⟩
      rw [← eS4] at hW
      have hG : G S4 := by rw [eS4]; exact hG.J
      have hF : Fr [] [] S S4 := by rw [eS4]; exact hF.J
      clear eS4
      exact pc_vret (S := S4) hx hb hr hlk hK hZ hA hW hS (⟨hG, hF, trivial⟩) dX0_drop_33
set_option maxHeartbeats 4000000 in
set_option maxRecDepth 100000 in
theorem b_X1_runThrough (l : Launch) (D : va_G) (cy : Nat → ClassId) (A : Nat → Prop) (S : St) (h : Nat) (a : Int32) (hG0 : G S) (hk : sK S h = 1) : MI l yX1_runThrough wsX1_runThrough ({ frames := 1, cells := 0, slots := 0, locals := 21 } : Room) 0 0 D cy A [.ref h, .int a] S (fun r S1 => S1 = S ∧ True) := by
  refine mt_start (cc := cX1_runThrough) (maxL := 4) (ret := (some .int)) (by decide) rfl (Nat.le_of_ble_eq_true rfl) ?_
  intro p e s m args below meth c hx hb hr hlk hml hown hnm hts hK hZ hA hW hS ls hl
  have hl : lv_has ls 4 [(0, .ref h), (1, .int a)] := hl
  have hown : s.vm.findClass RX1 = some m.cls := hown
  have F : CallFix p m c cX1_runThrough 4 s args wsX1_runThrough RX1 := ⟨hx, hb, hml, hown, hts⟩
  have wi1 : ∀ w ∈ u_ws RX1 TX1 10, w ∈ wsX1_runThrough := by decide +kernel
  have hG := hG0
  refine lv_iconst (v := 1) hx hb dX1_runThrough_0 (by decide) ?_
  refine lv_istore_n (lv' := [(2, .int 1), (0, .ref h), (1, .int a)]) hx hb dX1_runThrough_1 rfl hl (by decide) rfl (fun ls hl => ?_)
  refine lv_iload_n hx hb dX1_runThrough_2 rfl (lv_at hl 2 rfl) ?_
  refine lv_iconst (v := 1) hx hb dX1_runThrough_3 (by decide) ?_
  refine lv_isub hx hb dX1_runThrough_4 ?_
  refine lv_istore_n (lv' := [(3, .int (a - 1)), (2, .int 1), (0, .ref h), (1, .int a)]) hx hb dX1_runThrough_5 rfl hl (by decide) rfl (fun ls hl => ?_)
  have loop6 : ∀ (zn : Nat) (n2 : Int32) (y : Int32) (H : Heap) (locs : List Loc) (ls : Array Slot), (y.toInt + 1).toNat < zn → PW D cy A S H → va_S A s.heap H locs → lv_has ls 4 [(0, .ref h), (1, .int a), (2, .int n2), (3, .int y)] → W p l e ({ frames := 1, cells := 0, slots := 0, locals := 21 } : Room) s m args below meth c H locs 0 0 (MQ below (va_Qi (fun r S1 => S1 = S ∧ True) (PU D cy A) A) args s 0 0 A) (F0 m 6 ls []) := by
    intro zn
    induction zn with
    | zero => intros; exact absurd (by assumption) (Nat.not_lt_zero _)
    | succ zn ih6 =>
      intro n2 y H locs ls  hme hW hS hl
      refine lv_iload_n hx hb dX1_runThrough_6 rfl (lv_at hl 3 rfl) ?_
      refine lv_if_lt (tgt := 30) hx hb dX1_runThrough_7 (by decide) (fun c1 => ?_) (fun c1 => ?_)
      · have c1i : Int32.toInt y < (0 : Int) := (i3_lt _ _).mp c1
        refine lv_iload_n hx hb dX1_runThrough_30 rfl (lv_at hl 1 rfl) ?_
        refine lv_iconst (v := 1) hx hb dX1_runThrough_31 (by decide) ?_
        refine lv_iadd hx hb dX1_runThrough_32 ?_
        refine lv_istore_n (lv' := [(3, .int (a + 1)), (0, .ref h), (1, .int a), (2, .int n2)]) hx hb dX1_runThrough_33 rfl hl (by decide) rfl (fun ls hl => ?_)
        have loop34 : ∀ (zn : Nat) (n2 : Int32) (y : Int32) (H : Heap) (locs : List Loc) (ls : Array Slot), (2048 - y.toInt).toNat < zn → PW D cy A S H → va_S A s.heap H locs → lv_has ls 4 [(0, .ref h), (1, .int a), (2, .int n2), (3, .int y)] → W p l e ({ frames := 1, cells := 0, slots := 0, locals := 21 } : Room) s m args below meth c H locs 0 0 (MQ below (va_Qi (fun r S1 => S1 = S ∧ True) (PU D cy A) A) args s 0 0 A) (F0 m 34 ls []) := by
          intro zn
          induction zn with
          | zero => intros; exact absurd (by assumption) (Nat.not_lt_zero _)
          | succ zn ih34 =>
            intro n2 y H locs ls  hme hW hS hl
            have hb9 := i3_bd y
            refine lv_iload_n hx hb dX1_runThrough_34 rfl (lv_at hl 3 rfl) ?_
            refine lv_sipush (v := 2048) hx hb dX1_runThrough_35 (by decide) ?_
            refine lv_icmp_ge (tgt := 61) hx hb dX1_runThrough_38 (by decide) (fun c2 => ?_) (fun c2 => ?_)
            · have c2i : (2048 : Int) ≤ Int32.toInt y := (i3_le _ _).mp c2
              refine lv_iload_n hx hb dX1_runThrough_61 rfl (lv_at hl 2 rfl) ?_
              exact pc_iret (v := n2) (S := S) hx hb hr hlk hK hZ hA hW hS (⟨rfl, trivial⟩) dX1_runThrough_62
            · have c2i : ¬ ((2048 : Int) ≤ Int32.toInt y) := fun h9 => c2 ((i3_le _ _).mpr h9)
              refine lv_aload_n hx hb dX1_runThrough_41 rfl (lv_at hl 0 rfl) ?_
              obtain ⟨b3, rb3, kb3, nb3⟩ := hG0.r hk List.not_mem_nil 0 (show rty 1 0 = some (0, 0) from rfl)
              refine pg_gr (b := b3) (ci := 1) (C := RX1) (T := TX1) (N := 10) hx hb hts wi1 hown hK hW hk (by decide) rfl 0 (by decide) (hts (.fieldLink RX1 12 "IceHall$Ice" "taken" "LIceHall$HourSet;") (by decide +kernel)) (fun _ h9 => h9) rfl rb3 dX1_runThrough_42 ?_
              refine lv_iload_n hx hb dX1_runThrough_45 rfl (lv_at hl 3 rfl) ?_
              refine pc_Vi (As := [.int y]) (rest := []) F (b_X0_has l D cy A S b3 y hG kb3) (cwV 1 hts gX1_runThrough_X0_has rfl rfl rfl (by decide +kernel) ⟨Nat.le_of_ble_eq_true rfl, Nat.le_of_ble_eq_true rfl⟩) hK hZ hA hW hS kb3 (by decide) rfl rfl hl.1 rfl (Nat.le_of_ble_eq_true rfl) dX1_runThrough_46 ⟨Nat.le_of_ble_eq_true rfl, Nat.le_of_ble_eq_true rfl⟩ (fun v4 T5 H locs p6 hW hS => ?_)
              obtain ⟨eT5, p6⟩ := p6
              rw [eT5] at hW
              clear eT5
              refine lv_if_eq (tgt := 61) hx hb dX1_runThrough_49 (by decide) (fun c7 => ?_) (fun c7 => ?_)
              · have c7i : Int32.toInt v4 = (0 : Int) := (i3_eq _ _).mp c7
                refine lv_iload_n hx hb dX1_runThrough_61 rfl (lv_at hl 2 rfl) ?_
                exact pc_iret (v := n2) (S := S) hx hb hr hlk hK hZ hA hW hS (⟨rfl, trivial⟩) dX1_runThrough_62
              · have c7i : ¬ (Int32.toInt v4 = (0 : Int)) := fun h9 => c7 ((i3_eq _ _).mpr h9)
                refine lv_iinc (v := n2 + 1) (lv' := [(2, .int (n2 + 1)), (0, .ref h), (1, .int a), (3, .int y)]) hx hb dX1_runThrough_52 hl (k := 2) rfl rfl (by decide) rfl (fun ls hl => ?_)
                refine lv_iinc (v := y + 1) (lv' := [(3, .int (y + 1)), (2, .int (n2 + 1)), (0, .ref h), (1, .int a)]) hx hb dX1_runThrough_55 hl (k := 3) rfl rfl (by decide) rfl (fun ls hl => ?_)
                have i8 : (y + 1).toInt = (y).toInt + 1 := i3_add rfl rfl (by omega) (by omega)
                refine lv_goto (tgt := 34) hx hb dX1_runThrough_58 (by decide) ?_
                exact ih34 (n2 + 1) (y + 1) _ _ ls  (by omega) hW hS (lv_cast (lv_sub hl [2, 3, 1, 0] rfl) (rfl))
        exact loop34 _ n2 (a + 1) _ _ ls  (Nat.lt_succ_self _) hW hS (lv_cast (lv_sub hl [1, 2, 3, 0] rfl) (rfl))
      · have c1i : ¬ (Int32.toInt y < (0 : Int)) := fun h9 => c1 ((i3_lt _ _).mpr h9)
        refine lv_aload_n hx hb dX1_runThrough_10 rfl (lv_at hl 0 rfl) ?_
        obtain ⟨b9, rb9, kb9, nb9⟩ := hG0.r hk List.not_mem_nil 0 (show rty 1 0 = some (0, 0) from rfl)
        refine pg_gr (b := b9) (ci := 1) (C := RX1) (T := TX1) (N := 10) hx hb hts wi1 hown hK hW hk (by decide) rfl 0 (by decide) (hts (.fieldLink RX1 12 "IceHall$Ice" "taken" "LIceHall$HourSet;") (by decide +kernel)) (fun _ h9 => h9) rfl rb9 dX1_runThrough_11 ?_
        refine lv_iload_n hx hb dX1_runThrough_14 rfl (lv_at hl 3 rfl) ?_
        refine pc_Vi (As := [.int y]) (rest := []) F (b_X0_has l D cy A S b9 y hG kb9) (cwV 1 hts gX1_runThrough_X0_has rfl rfl rfl (by decide +kernel) ⟨Nat.le_of_ble_eq_true rfl, Nat.le_of_ble_eq_true rfl⟩) hK hZ hA hW hS kb9 (by decide) rfl rfl hl.1 rfl (Nat.le_of_ble_eq_true rfl) dX1_runThrough_15 ⟨Nat.le_of_ble_eq_true rfl, Nat.le_of_ble_eq_true rfl⟩ (fun v10 T11 H locs p12 hW hS => ?_)
        obtain ⟨eT11, p12⟩ := p12
        rw [eT11] at hW
        clear eT11
        refine lv_if_eq (tgt := 30) hx hb dX1_runThrough_18 (by decide) (fun c13 => ?_) (fun c13 => ?_)
        · have c13i : Int32.toInt v10 = (0 : Int) := (i3_eq _ _).mp c13
          refine lv_iload_n hx hb dX1_runThrough_30 rfl (lv_at hl 1 rfl) ?_
          refine lv_iconst (v := 1) hx hb dX1_runThrough_31 (by decide) ?_
          refine lv_iadd hx hb dX1_runThrough_32 ?_
          refine lv_istore_n (lv' := [(3, .int (a + 1)), (0, .ref h), (1, .int a), (2, .int n2)]) hx hb dX1_runThrough_33 rfl hl (by decide) rfl (fun ls hl => ?_)
          have loop34 : ∀ (zn : Nat) (n2 : Int32) (y : Int32) (H : Heap) (locs : List Loc) (ls : Array Slot), (2048 - y.toInt).toNat < zn → PW D cy A S H → va_S A s.heap H locs → lv_has ls 4 [(0, .ref h), (1, .int a), (2, .int n2), (3, .int y)] → W p l e ({ frames := 1, cells := 0, slots := 0, locals := 21 } : Room) s m args below meth c H locs 0 0 (MQ below (va_Qi (fun r S1 => S1 = S ∧ True) (PU D cy A) A) args s 0 0 A) (F0 m 34 ls []) := by
            intro zn
            induction zn with
            | zero => intros; exact absurd (by assumption) (Nat.not_lt_zero _)
            | succ zn ih34 =>
              intro n2 y H locs ls  hme hW hS hl
              have hb9 := i3_bd y
              refine lv_iload_n hx hb dX1_runThrough_34 rfl (lv_at hl 3 rfl) ?_
              refine lv_sipush (v := 2048) hx hb dX1_runThrough_35 (by decide) ?_
              refine lv_icmp_ge (tgt := 61) hx hb dX1_runThrough_38 (by decide) (fun c14 => ?_) (fun c14 => ?_)
              · have c14i : (2048 : Int) ≤ Int32.toInt y := (i3_le _ _).mp c14
                refine lv_iload_n hx hb dX1_runThrough_61 rfl (lv_at hl 2 rfl) ?_
                exact pc_iret (v := n2) (S := S) hx hb hr hlk hK hZ hA hW hS (⟨rfl, trivial⟩) dX1_runThrough_62
              · have c14i : ¬ ((2048 : Int) ≤ Int32.toInt y) := fun h9 => c14 ((i3_le _ _).mpr h9)
                refine lv_aload_n hx hb dX1_runThrough_41 rfl (lv_at hl 0 rfl) ?_
                refine pg_gr (b := b9) (ci := 1) (C := RX1) (T := TX1) (N := 10) hx hb hts wi1 hown hK hW hk (by decide) rfl 0 (by decide) (hts (.fieldLink RX1 12 "IceHall$Ice" "taken" "LIceHall$HourSet;") (by decide +kernel)) (fun _ h9 => h9) rfl rb9 dX1_runThrough_42 ?_
                refine lv_iload_n hx hb dX1_runThrough_45 rfl (lv_at hl 3 rfl) ?_
                refine pc_Vi (As := [.int y]) (rest := []) F (b_X0_has l D cy A S b9 y hG kb9) (cwV 1 hts gX1_runThrough_X0_has rfl rfl rfl (by decide +kernel) ⟨Nat.le_of_ble_eq_true rfl, Nat.le_of_ble_eq_true rfl⟩) hK hZ hA hW hS kb9 (by decide) rfl rfl hl.1 rfl (Nat.le_of_ble_eq_true rfl) dX1_runThrough_46 ⟨Nat.le_of_ble_eq_true rfl, Nat.le_of_ble_eq_true rfl⟩ (fun v15 T16 H locs p17 hW hS => ?_)
                obtain ⟨eT16, p17⟩ := p17
                rw [eT16] at hW
                clear eT16
                refine lv_if_eq (tgt := 61) hx hb dX1_runThrough_49 (by decide) (fun c18 => ?_) (fun c18 => ?_)
                · have c18i : Int32.toInt v15 = (0 : Int) := (i3_eq _ _).mp c18
                  refine lv_iload_n hx hb dX1_runThrough_61 rfl (lv_at hl 2 rfl) ?_
                  exact pc_iret (v := n2) (S := S) hx hb hr hlk hK hZ hA hW hS (⟨rfl, trivial⟩) dX1_runThrough_62
                · have c18i : ¬ (Int32.toInt v15 = (0 : Int)) := fun h9 => c18 ((i3_eq _ _).mpr h9)
                  refine lv_iinc (v := n2 + 1) (lv' := [(2, .int (n2 + 1)), (0, .ref h), (1, .int a), (3, .int y)]) hx hb dX1_runThrough_52 hl (k := 2) rfl rfl (by decide) rfl (fun ls hl => ?_)
                  refine lv_iinc (v := y + 1) (lv' := [(3, .int (y + 1)), (2, .int (n2 + 1)), (0, .ref h), (1, .int a)]) hx hb dX1_runThrough_55 hl (k := 3) rfl rfl (by decide) rfl (fun ls hl => ?_)
                  have i19 : (y + 1).toInt = (y).toInt + 1 := i3_add rfl rfl (by omega) (by omega)
                  refine lv_goto (tgt := 34) hx hb dX1_runThrough_58 (by decide) ?_
                  exact ih34 (n2 + 1) (y + 1) _ _ ls  (by omega) hW hS (lv_cast (lv_sub hl [2, 3, 1, 0] rfl) (rfl))
          exact loop34 _ n2 (a + 1) _ _ ls  (Nat.lt_succ_self _) hW hS (lv_cast (lv_sub hl [1, 2, 3, 0] rfl) (rfl))
        · have c13i : ¬ (Int32.toInt v10 = (0 : Int)) := fun h9 => c13 ((i3_eq _ _).mpr h9)
          refine lv_iinc (v := n2 + 1) (lv' := [(2, .int (n2 + 1)), (0, .ref h), (1, .int a), (3, .int y)]) hx hb dX1_runThrough_21 hl (k := 2) rfl rfl (by decide) rfl (fun ls hl => ?_)
          refine lv_iinc (v := y + (-1)) (lv' := [(3, .int (y + (-1))), (2, .int (n2 + 1)), (0, .ref h), (1, .int a)]) hx hb dX1_runThrough_24 hl (k := 3) rfl rfl (by decide) rfl (fun ls hl => ?_)
          have i20 : (y + (-1)).toInt = (y).toInt - 1 := i3_dec (by omega)
          refine lv_goto (tgt := 6) hx hb dX1_runThrough_27 (by decide) ?_
          exact ih6 (n2 + 1) (y + (-1)) _ _ ls  (by omega) hW hS (lv_cast (lv_sub hl [2, 3, 1, 0] rfl) (rfl))
  exact loop6 _ 1 (a - 1) _ _ ls  (Nat.lt_succ_self _) hW hS (lv_cast (lv_sub hl [2, 3, 1, 0] rfl) (rfl))
set_option maxHeartbeats 4000000 in
set_option maxRecDepth 100000 in
theorem b_X1_hasRoom (l : Launch) (D : va_G) (cy : Nat → ClassId) (A : Nat → Prop) (S : St) (h : Nat) (a b : Int32) (hG0 : G S) (hk : sK S h = 1) : MI l yX1_hasRoom wsX1_hasRoom ({ frames := 2, cells := 0, slots := 0, locals := 44 } : Room) 0 0 D cy A [.ref h, .int a, .int b] S (fun r S1 => S1 = S ∧ True) := by
  refine mt_start (cc := cX1_hasRoom) (maxL := 3) (ret := (some .boolean)) (by decide) rfl (Nat.le_of_ble_eq_true rfl) ?_
  intro p e s m args below meth c hx hb hr hlk hml hown hnm hts hK hZ hA hW hS ls hl
  have hl : lv_has ls 3 [(0, .ref h), (1, .int a), (2, .int b)] := hl
  have hown : s.vm.findClass RX1 = some m.cls := hown
  have F : CallFix p m c cX1_hasRoom 3 s args wsX1_hasRoom RX1 := ⟨hx, hb, hml, hown, hts⟩
  have wi1 : ∀ w ∈ u_ws RX1 TX1 10, w ∈ wsX1_hasRoom := by decide +kernel
  have hG := hG0
  refine lv_aload_n hx hb dX1_hasRoom_0 rfl (lv_at hl 0 rfl) ?_
  obtain ⟨b1, rb1, kb1, nb1⟩ := hG0.r hk List.not_mem_nil 0 (show rty 1 0 = some (0, 0) from rfl)
  refine pg_gr (b := b1) (ci := 1) (C := RX1) (T := TX1) (N := 10) hx hb hts wi1 hown hK hW hk (by decide) rfl 0 (by decide) (hts (.fieldLink RX1 12 "IceHall$Ice" "taken" "LIceHall$HourSet;") (by decide +kernel)) (fun _ h9 => h9) rfl rb1 dX1_hasRoom_1 ?_
  refine lv_iload_n hx hb dX1_hasRoom_4 rfl (lv_at hl 1 rfl) ?_
  refine pc_Vi (As := [.int a]) (rest := []) F (b_X0_has l D cy A S b1 a hG kb1) (cwV 1 hts gX1_hasRoom_X0_has rfl rfl rfl (by decide +kernel) ⟨Nat.le_of_ble_eq_true rfl, Nat.le_of_ble_eq_true rfl⟩) hK hZ hA hW hS kb1 (by decide) rfl rfl hl.1 rfl (Nat.le_of_ble_eq_true rfl) dX1_hasRoom_5 ⟨Nat.le_of_ble_eq_true rfl, Nat.le_of_ble_eq_true rfl⟩ (fun v2 T3 H locs p4 hW hS => ?_)
  obtain ⟨eT3, p4⟩ := p4
  rw [eT3] at hW
  clear eT3
  refine lv_if_ne (tgt := 35) hx hb dX1_hasRoom_8 (by decide) (fun c5 => ?_) (fun c5 => ?_)
  · have c5i : ¬ (Int32.toInt v2 = (0 : Int)) := fun h9 => c5 ((i3_eq _ _).mpr h9)
    refine lv_iconst (v := 0) hx hb dX1_hasRoom_35 (by decide) ?_
    exact pc_zret (v := 0) (S := S) hx hb hr hlk hK hZ hA hW hS (by decide) (⟨rfl, trivial⟩) dX1_hasRoom_36
  · have c5i : Int32.toInt v2 = (0 : Int) := (i3_eq _ _).mp c5
    refine lv_aload_n hx hb dX1_hasRoom_11 rfl (lv_at hl 0 rfl) ?_
    obtain ⟨b6, rb6, kb6, nb6⟩ := hG0.r hk List.not_mem_nil 1 (show rty 1 1 = some (0, 0) from rfl)
    refine pg_gr (b := b6) (ci := 1) (C := RX1) (T := TX1) (N := 10) hx hb hts wi1 hown hK hW hk (by decide) rfl 1 (by decide) (hts (.fieldLink RX1 18 "IceHall$Ice" "closed" "LIceHall$HourSet;") (by decide +kernel)) (fun _ h9 => h9) rfl rb6 dX1_hasRoom_12 ?_
    refine lv_iload_n hx hb dX1_hasRoom_15 rfl (lv_at hl 1 rfl) ?_
    refine pc_Vi (As := [.int a]) (rest := []) F (b_X0_has l D cy A S b6 a hG kb6) (cwV 1 hts gX1_hasRoom_X0_has rfl rfl rfl (by decide +kernel) ⟨Nat.le_of_ble_eq_true rfl, Nat.le_of_ble_eq_true rfl⟩) hK hZ hA hW hS kb6 (by decide) rfl rfl hl.1 rfl (Nat.le_of_ble_eq_true rfl) dX1_hasRoom_16 ⟨Nat.le_of_ble_eq_true rfl, Nat.le_of_ble_eq_true rfl⟩ (fun v7 T8 H locs p9 hW hS => ?_)
    obtain ⟨eT8, p9⟩ := p9
    rw [eT8] at hW
    clear eT8
    refine lv_if_ne (tgt := 35) hx hb dX1_hasRoom_19 (by decide) (fun c10 => ?_) (fun c10 => ?_)
    · have c10i : ¬ (Int32.toInt v7 = (0 : Int)) := fun h9 => c10 ((i3_eq _ _).mpr h9)
      refine lv_iconst (v := 0) hx hb dX1_hasRoom_35 (by decide) ?_
      exact pc_zret (v := 0) (S := S) hx hb hr hlk hK hZ hA hW hS (by decide) (⟨rfl, trivial⟩) dX1_hasRoom_36
    · have c10i : Int32.toInt v7 = (0 : Int) := (i3_eq _ _).mp c10
      refine lv_aload_n hx hb dX1_hasRoom_22 rfl (lv_at hl 0 rfl) ?_
      refine lv_iload_n hx hb dX1_hasRoom_23 rfl (lv_at hl 1 rfl) ?_
      refine pc_Vi (As := [.int a]) (rest := []) F (b_X1_runThrough l D cy A S h a hG hk) (cwV 1 hts gX1_hasRoom_X1_runThrough rfl rfl rfl (by decide +kernel) ⟨Nat.le_of_ble_eq_true rfl, Nat.le_of_ble_eq_true rfl⟩) hK hZ hA hW hS hk (by decide) rfl rfl hl.1 rfl (Nat.le_of_ble_eq_true rfl) dX1_hasRoom_24 ⟨Nat.le_of_ble_eq_true rfl, Nat.le_of_ble_eq_true rfl⟩ (fun v11 T12 H locs p13 hW hS => ?_)
      obtain ⟨eT12, p13⟩ := p13
      rw [eT12] at hW
      clear eT12
      refine lv_iload_n hx hb dX1_hasRoom_27 rfl (lv_at hl 2 rfl) ?_
      refine lv_icmp_gt (tgt := 35) hx hb dX1_hasRoom_28 (by decide) (fun c14 => ?_) (fun c14 => ?_)
      · have c14i : Int32.toInt b < Int32.toInt v11 := (i3_lt _ _).mp c14
        refine lv_iconst (v := 0) hx hb dX1_hasRoom_35 (by decide) ?_
        exact pc_zret (v := 0) (S := S) hx hb hr hlk hK hZ hA hW hS (by decide) (⟨rfl, trivial⟩) dX1_hasRoom_36
      · have c14i : ¬ (Int32.toInt b < Int32.toInt v11) := fun h9 => c14 ((i3_lt _ _).mpr h9)
        refine lv_iconst (v := 1) hx hb dX1_hasRoom_31 (by decide) ?_
        refine lv_goto (tgt := 36) hx hb dX1_hasRoom_32 (by decide) ?_
        exact pc_zret (v := 1) (S := S) hx hb hr hlk hK hZ hA hW hS (by decide) (⟨rfl, trivial⟩) dX1_hasRoom_36
set_option maxHeartbeats 4000000 in
set_option maxRecDepth 100000 in
theorem b_X1_tellCut (l : Launch) (D : va_G) (cy : Nat → ClassId) (A : Nat → Prop) (S : St) (h : Nat) (a b : Int32) (hG0 : G S) (hk : sK S h = 1) : MV l yX1_tellCut wsX1_tellCut ({ frames := 0, cells := 0, slots := 0, locals := 0 } : Room) 0 0 D cy A [.ref h, .int a, .int b] S (fun S1 => G S1 ∧ Fr [] [108, 109] S S1 ∧ True) := by
  refine mt_start (cc := cX1_tellCut) (maxL := 3) (ret := none) (by decide) rfl (Nat.le_of_ble_eq_true rfl) ?_
  intro p e s m args below meth c hx hb hr hlk hml hown hnm hts hK hZ hA hW hS ls hl
  have hl : lv_has ls 3 [(0, .ref h), (1, .int a), (2, .int b)] := hl
  have hown : s.vm.findClass RX1 = some m.cls := hown
  have F : CallFix p m c cX1_tellCut 3 s args wsX1_tellCut RX1 := ⟨hx, hb, hml, hown, hts⟩
  have wi1 : ∀ w ∈ u_ws RX1 TX1 10, w ∈ wsX1_tellCut := by decide +kernel
  have hG := hG0
  have hF : Fr [] [108, 109] S S := Fr.rf _ _ _
  refine lv_aload_n hx hb dX1_tellCut_0 rfl (lv_at hl 0 rfl) ?_
  refine lv_iload_n hx hb dX1_tellCut_1 rfl (lv_at hl 1 rfl) ?_
  refine pg_pi (ci := 1) (C := RX1) (T := TX1) (N := 10) hx hb hts wi1 tyX1 tyX1_ok nmX1 hown hK hW hS hk (by decide) rfl 8 (by decide) (hts (.fieldLink RX1 40 "IceHall$Ice" "toShave" "I") (by decide +kernel)) (fun _ h9 => h9) rfl rfl rfl dX1_tellCut_2 (fun H locs hW hS => ?_)
  obtain ⟨S1, eS1⟩ : ∃ T : St, T = stI S h 8 a := ⟨_, rfl⟩
  rw [← eS1] at hW
  have hG : G S1 := by rw [eS1]; exact hG.I hk (ok_fr (by decide))
  have hF : Fr [] [108, 109] S S1 := by rw [eS1]; exact hF.I hk (by decide)
  clear eS1
  refine lv_aload_n hx hb dX1_tellCut_5 rfl (lv_at hl 0 rfl) ?_
  refine lv_iload_n hx hb dX1_tellCut_6 rfl (lv_at hl 2 rfl) ?_
  refine pg_pi (ci := 1) (C := RX1) (T := TX1) (N := 10) hx hb hts wi1 tyX1 tyX1_ok nmX1 hown hK hW hS (hF.k hk (by decide)) (by decide) rfl 9 (by decide) (hts (.fieldLink RX1 43 "IceHall$Ice" "toFlood" "I") (by decide +kernel)) (fun _ h9 => h9) rfl rfl rfl dX1_tellCut_7 (fun H locs hW hS => ?_)
  obtain ⟨S2, eS2⟩ : ∃ T : St, T = stI S1 h 9 b := ⟨_, rfl⟩
  rw [← eS2] at hW
  have hG : G S2 := by rw [eS2]; exact hG.I (hF.k hk (by decide)) (ok_fr (by decide))
  have hF : Fr [] [108, 109] S S2 := by rw [eS2]; exact hF.I (hF.k hk (by decide)) (by decide)
  clear eS2
  exact pc_vret (S := S2) hx hb hr hlk hK hZ hA hW hS (⟨hG, hF, trivial⟩) dX1_tellCut_10
set_option maxHeartbeats 4000000 in
set_option maxRecDepth 100000 in
theorem b_X1_melt (l : Launch) (D : va_G) (cy : Nat → ClassId) (A : Nat → Prop) (S : St) (h : Nat) (a : Int32) (hG0 : G S) (hk : sK S h = 1) : MV l yX1_melt wsX1_melt ({ frames := 1, cells := 0, slots := 0, locals := 60 } : Room) 0 0 D cy A [.ref h, .int a] S (fun S1 => G S1 ∧ Fr [] [103, 107] S S1 ∧ True) := by
  refine mt_start (cc := cX1_melt) (maxL := 3) (ret := none) (by decide) rfl (Nat.le_of_ble_eq_true rfl) ?_
  intro p e s m args below meth c hx hb hr hlk hml hown hnm hts hK hZ hA hW hS ls hl
  have hl : lv_has ls 3 [(0, .ref h), (1, .int a)] := hl
  have hown : s.vm.findClass RX1 = some m.cls := hown
  have F : CallFix p m c cX1_melt 3 s args wsX1_melt RX1 := ⟨hx, hb, hml, hown, hts⟩
  have wi1 : ∀ w ∈ u_ws RX1 TX1 10, w ∈ wsX1_melt := by decide +kernel
  have hG := hG0
  have hF : Fr [] [103, 107] S S := Fr.rf _ _ _
  refine lv_iload_n hx hb dX1_melt_0 rfl (lv_at hl 1 rfl) ?_
  refine lv_aload_n hx hb dX1_melt_1 rfl (lv_at hl 0 rfl) ?_
  refine pg_gi (ci := 1) (C := RX1) (T := TX1) (N := 10) hx hb hts wi1 hown hK hW hk (by decide) rfl 3 (by decide) (hts (.fieldLink RX1 25 "IceHall$Ice" "thickness" "I") (by decide +kernel)) (fun _ h9 => h9) rfl dX1_melt_2 ?_
  refine va_mmin hx hb (by rw [hml]; exact hl.1.symm) hown (hts (.methodLink RX1 54 Lib.Math.min.name) (by decide +kernel)) (hts (.static Lib.Math.min.name) (by decide +kernel)) (hts (.initialized "java/lang/Math") (by decide +kernel)) (hts (.code Lib.Math.min.name Lib.Math.min.code 2 (some .int)) (by decide +kernel)) (Nat.le_of_ble_eq_true rfl) (Nat.le_of_ble_eq_true rfl) (Nat.le_of_ble_eq_true rfl) (Nat.le_of_ble_eq_true rfl) dX1_melt_5 ?_
  refine lv_topi (fun m1 em1 => ?_)
  refine lv_istore_n (lv' := [(2, .int m1), (0, .ref h), (1, .int a)]) hx hb dX1_melt_8 rfl hl (by decide) rfl (fun ls hl => ?_)
  refine lv_aload_n hx hb dX1_melt_9 rfl (lv_at hl 1 rfl) ?_
  refine lv_dup hx hb dX1_melt_10 rfl ?_
  refine pg_gi (ci := 1) (C := RX1) (T := TX1) (N := 10) hx hb hts wi1 hown hK hW hk (by decide) rfl 3 (by decide) (hts (.fieldLink RX1 25 "IceHall$Ice" "thickness" "I") (by decide +kernel)) (fun _ h9 => h9) rfl dX1_melt_11 ?_
  refine lv_iload_n hx hb dX1_melt_14 rfl (lv_at hl 0 rfl) ?_
  refine lv_isub hx hb dX1_melt_15 ?_
  refine pg_pi (ci := 1) (C := RX1) (T := TX1) (N := 10) hx hb hts wi1 tyX1 tyX1_ok nmX1 hown hK hW hS hk (by decide) rfl 3 (by decide) (hts (.fieldLink RX1 25 "IceHall$Ice" "thickness" "I") (by decide +kernel)) (fun _ h9 => h9) rfl rfl rfl dX1_melt_16 (fun H locs hW hS => ?_)
  obtain ⟨S2, eS2⟩ : ∃ T : St, T = stI S h 3 ((sI S h 3) - m1) := ⟨_, rfl⟩
  rw [← eS2] at hW
  have hG : G S2 := by rw [eS2]; exact hG.I hk (ok_fr (by decide))
  have hF : Fr [] [103, 107] S S2 := by rw [eS2]; exact hF.I hk (by decide)
  clear eS2
  refine lv_aload_n hx hb dX1_melt_19 rfl (lv_at hl 1 rfl) ?_
  refine lv_dup hx hb dX1_melt_20 rfl ?_
  refine pg_gi (ci := 1) (C := RX1) (T := TX1) (N := 10) hx hb hts wi1 hown hK hW (hF.k hk (by decide)) (by decide) rfl 7 (by decide) (hts (.fieldLink RX1 37 "IceHall$Ice" "melted" "I") (by decide +kernel)) (fun _ h9 => h9) rfl dX1_melt_21 ?_
  refine lv_iload_n hx hb dX1_melt_24 rfl (lv_at hl 0 rfl) ?_
  refine lv_iadd hx hb dX1_melt_25 ?_
  refine pg_pi (ci := 1) (C := RX1) (T := TX1) (N := 10) hx hb hts wi1 tyX1 tyX1_ok nmX1 hown hK hW hS (hF.k hk (by decide)) (by decide) rfl 7 (by decide) (hts (.fieldLink RX1 37 "IceHall$Ice" "melted" "I") (by decide +kernel)) (fun _ h9 => h9) rfl rfl rfl dX1_melt_26 (fun H locs hW hS => ?_)
  obtain ⟨S3, eS3⟩ : ∃ T : St, T = stI S2 h 7 ((sI S2 h 7) + m1) := ⟨_, rfl⟩
  rw [← eS3] at hW
  have hG : G S3 := by rw [eS3]; exact hG.I (hF.k hk (by decide)) (ok_fr (by decide))
  have hF : Fr [] [103, 107] S S3 := by rw [eS3]; exact hF.I (hF.k hk (by decide)) (by decide)
  clear eS3
  exact pc_vret (S := S3) hx hb hr hlk hK hZ hA hW hS (⟨hG, hF, trivial⟩) dX1_melt_29
set_option maxHeartbeats 4000000 in
set_option maxRecDepth 100000 in
theorem b_X1_shave (l : Launch) (D : va_G) (cy : Nat → ClassId) (A : Nat → Prop) (S : St) (h : Nat) (hG0 : G S) (hk : sK S h = 1) : MV l yX1_shave wsX1_shave ({ frames := 1, cells := 0, slots := 0, locals := 60 } : Room) 0 0 D cy A [.ref h] S (fun S1 => G S1 ∧ Fr [] [103, 104, 105] S S1 ∧ True) := by
  refine mt_start (cc := cX1_shave) (maxL := 2) (ret := none) (by decide) rfl (Nat.le_of_ble_eq_true rfl) ?_
  intro p e s m args below meth c hx hb hr hlk hml hown hnm hts hK hZ hA hW hS ls hl
  have hl : lv_has ls 2 [(0, .ref h)] := hl
  have hown : s.vm.findClass RX1 = some m.cls := hown
  have F : CallFix p m c cX1_shave 2 s args wsX1_shave RX1 := ⟨hx, hb, hml, hown, hts⟩
  have wi1 : ∀ w ∈ u_ws RX1 TX1 10, w ∈ wsX1_shave := by decide +kernel
  have hG := hG0
  have hF : Fr [] [103, 104, 105] S S := Fr.rf _ _ _
  refine lv_aload_n hx hb dX1_shave_0 rfl (lv_at hl 0 rfl) ?_
  refine pg_gi (ci := 1) (C := RX1) (T := TX1) (N := 10) hx hb hts wi1 hown hK hW hk (by decide) rfl 8 (by decide) (hts (.fieldLink RX1 40 "IceHall$Ice" "toShave" "I") (by decide +kernel)) (fun _ h9 => h9) rfl dX1_shave_1 ?_
  refine lv_aload_n hx hb dX1_shave_4 rfl (lv_at hl 0 rfl) ?_
  refine pg_gi (ci := 1) (C := RX1) (T := TX1) (N := 10) hx hb hts wi1 hown hK hW hk (by decide) rfl 3 (by decide) (hts (.fieldLink RX1 25 "IceHall$Ice" "thickness" "I") (by decide +kernel)) (fun _ h9 => h9) rfl dX1_shave_5 ?_
  refine va_mmin hx hb (by rw [hml]; exact hl.1.symm) hown (hts (.methodLink RX1 54 Lib.Math.min.name) (by decide +kernel)) (hts (.static Lib.Math.min.name) (by decide +kernel)) (hts (.initialized "java/lang/Math") (by decide +kernel)) (hts (.code Lib.Math.min.name Lib.Math.min.code 2 (some .int)) (by decide +kernel)) (Nat.le_of_ble_eq_true rfl) (Nat.le_of_ble_eq_true rfl) (Nat.le_of_ble_eq_true rfl) (Nat.le_of_ble_eq_true rfl) dX1_shave_8 ?_
  refine lv_topi (fun m1 em1 => ?_)
  refine lv_istore_n (lv' := [(1, .int m1), (0, .ref h)]) hx hb dX1_shave_11 rfl hl (by decide) rfl (fun ls hl => ?_)
  refine lv_aload_n hx hb dX1_shave_12 rfl (lv_at hl 1 rfl) ?_
  refine lv_dup hx hb dX1_shave_13 rfl ?_
  refine pg_gi (ci := 1) (C := RX1) (T := TX1) (N := 10) hx hb hts wi1 hown hK hW hk (by decide) rfl 3 (by decide) (hts (.fieldLink RX1 25 "IceHall$Ice" "thickness" "I") (by decide +kernel)) (fun _ h9 => h9) rfl dX1_shave_14 ?_
  refine lv_iload_n hx hb dX1_shave_17 rfl (lv_at hl 0 rfl) ?_
  refine lv_isub hx hb dX1_shave_18 ?_
  refine pg_pi (ci := 1) (C := RX1) (T := TX1) (N := 10) hx hb hts wi1 tyX1 tyX1_ok nmX1 hown hK hW hS hk (by decide) rfl 3 (by decide) (hts (.fieldLink RX1 25 "IceHall$Ice" "thickness" "I") (by decide +kernel)) (fun _ h9 => h9) rfl rfl rfl dX1_shave_19 (fun H locs hW hS => ?_)
  obtain ⟨S2, eS2⟩ : ∃ T : St, T = stI S h 3 ((sI S h 3) - m1) := ⟨_, rfl⟩
  rw [← eS2] at hW
  have hG : G S2 := by rw [eS2]; exact hG.I hk (ok_fr (by decide))
  have hF : Fr [] [103, 104, 105] S S2 := by rw [eS2]; exact hF.I hk (by decide)
  clear eS2
  refine lv_aload_n hx hb dX1_shave_22 rfl (lv_at hl 1 rfl) ?_
  refine lv_dup hx hb dX1_shave_23 rfl ?_
  refine pg_gi (ci := 1) (C := RX1) (T := TX1) (N := 10) hx hb hts wi1 hown hK hW (hF.k hk (by decide)) (by decide) rfl 5 (by decide) (hts (.fieldLink RX1 31 "IceHall$Ice" "shaved" "I") (by decide +kernel)) (fun _ h9 => h9) rfl dX1_shave_24 ?_
  refine lv_iload_n hx hb dX1_shave_27 rfl (lv_at hl 0 rfl) ?_
  refine lv_iadd hx hb dX1_shave_28 ?_
  refine pg_pi (ci := 1) (C := RX1) (T := TX1) (N := 10) hx hb hts wi1 tyX1 tyX1_ok nmX1 hown hK hW hS (hF.k hk (by decide)) (by decide) rfl 5 (by decide) (hts (.fieldLink RX1 31 "IceHall$Ice" "shaved" "I") (by decide +kernel)) (fun _ h9 => h9) rfl rfl rfl dX1_shave_29 (fun H locs hW hS => ?_)
  obtain ⟨S3, eS3⟩ : ∃ T : St, T = stI S2 h 5 ((sI S2 h 5) + m1) := ⟨_, rfl⟩
  rw [← eS3] at hW
  have hG : G S3 := by rw [eS3]; exact hG.I (hF.k hk (by decide)) (ok_fr (by decide))
  have hF : Fr [] [103, 104, 105] S S3 := by rw [eS3]; exact hF.I (hF.k hk (by decide)) (by decide)
  clear eS3
  refine lv_aload_n hx hb dX1_shave_32 rfl (lv_at hl 1 rfl) ?_
  refine lv_iconst (v := 0) hx hb dX1_shave_33 (by decide) ?_
  refine lv_aload_n hx hb dX1_shave_34 rfl (lv_at hl 1 rfl) ?_
  refine pg_gi (ci := 1) (C := RX1) (T := TX1) (N := 10) hx hb hts wi1 hown hK hW (hF.k hk (by decide)) (by decide) rfl 4 (by decide) (hts (.fieldLink RX1 28 "IceHall$Ice" "ruts" "I") (by decide +kernel)) (fun _ h9 => h9) rfl dX1_shave_35 ?_
  refine lv_iload_n hx hb dX1_shave_38 rfl (lv_at hl 0 rfl) ?_
  refine lv_bipush (v := 10) hx hb dX1_shave_39 (by decide) ?_
  refine lv_imul hx hb dX1_shave_41 ?_
  refine lv_isub hx hb dX1_shave_42 ?_
  refine va_mmax hx hb (by rw [hml]; exact hl.1.symm) hown (hts (.methodLink RX1 80 Lib.Math.max.name) (by decide +kernel)) (hts (.static Lib.Math.max.name) (by decide +kernel)) (hts (.initialized "java/lang/Math") (by decide +kernel)) (hts (.code Lib.Math.max.name Lib.Math.max.code 2 (some .int)) (by decide +kernel)) (Nat.le_of_ble_eq_true rfl) (Nat.le_of_ble_eq_true rfl) (Nat.le_of_ble_eq_true rfl) (Nat.le_of_ble_eq_true rfl) dX1_shave_43 ?_
  refine lv_topi (fun m4 em4 => ?_)
  refine pg_pi (ci := 1) (C := RX1) (T := TX1) (N := 10) hx hb hts wi1 tyX1 tyX1_ok nmX1 hown hK hW hS (hF.k hk (by decide)) (by decide) rfl 4 (by decide) (hts (.fieldLink RX1 28 "IceHall$Ice" "ruts" "I") (by decide +kernel)) (fun _ h9 => h9) rfl rfl rfl dX1_shave_46 (fun H locs hW hS => ?_)
  obtain ⟨S5, eS5⟩ : ∃ T : St, T = stI S3 h 4 m4 := ⟨_, rfl⟩
  rw [← eS5] at hW
  have hG : G S5 := by rw [eS5]; exact hG.I (hF.k hk (by decide)) (ok_fr (by decide))
  have hF : Fr [] [103, 104, 105] S S5 := by rw [eS5]; exact hF.I (hF.k hk (by decide)) (by decide)
  clear eS5
  exact pc_vret (S := S5) hx hb hr hlk hK hZ hA hW hS (⟨hG, hF, trivial⟩) dX1_shave_49
set_option maxHeartbeats 4000000 in
set_option maxRecDepth 100000 in
theorem b_X1_freeze (l : Launch) (D : va_G) (cy : Nat → ClassId) (A : Nat → Prop) (S : St) (h : Nat) (a : Int32) (hG0 : G S) (hk : sK S h = 1) : MV l yX1_freeze wsX1_freeze ({ frames := 0, cells := 0, slots := 0, locals := 0 } : Room) 0 0 D cy A [.ref h, .int a] S (fun S1 => G S1 ∧ Fr [] [103, 106] S S1 ∧ True) := by
  refine mt_start (cc := cX1_freeze) (maxL := 2) (ret := none) (by decide) rfl (Nat.le_of_ble_eq_true rfl) ?_
  intro p e s m args below meth c hx hb hr hlk hml hown hnm hts hK hZ hA hW hS ls hl
  have hl : lv_has ls 2 [(0, .ref h), (1, .int a)] := hl
  have hown : s.vm.findClass RX1 = some m.cls := hown
  have F : CallFix p m c cX1_freeze 2 s args wsX1_freeze RX1 := ⟨hx, hb, hml, hown, hts⟩
  have wi1 : ∀ w ∈ u_ws RX1 TX1 10, w ∈ wsX1_freeze := by decide +kernel
  have hG := hG0
  have hF : Fr [] [103, 106] S S := Fr.rf _ _ _
  refine lv_aload_n hx hb dX1_freeze_0 rfl (lv_at hl 0 rfl) ?_
  refine lv_dup hx hb dX1_freeze_1 rfl ?_
  refine pg_gi (ci := 1) (C := RX1) (T := TX1) (N := 10) hx hb hts wi1 hown hK hW hk (by decide) rfl 3 (by decide) (hts (.fieldLink RX1 25 "IceHall$Ice" "thickness" "I") (by decide +kernel)) (fun _ h9 => h9) rfl dX1_freeze_2 ?_
  refine lv_iload_n hx hb dX1_freeze_5 rfl (lv_at hl 1 rfl) ?_
  refine lv_iadd hx hb dX1_freeze_6 ?_
  refine pg_pi (ci := 1) (C := RX1) (T := TX1) (N := 10) hx hb hts wi1 tyX1 tyX1_ok nmX1 hown hK hW hS hk (by decide) rfl 3 (by decide) (hts (.fieldLink RX1 25 "IceHall$Ice" "thickness" "I") (by decide +kernel)) (fun _ h9 => h9) rfl rfl rfl dX1_freeze_7 (fun H locs hW hS => ?_)
  obtain ⟨S1, eS1⟩ : ∃ T : St, T = stI S h 3 ((sI S h 3) + a) := ⟨_, rfl⟩
  rw [← eS1] at hW
  have hG : G S1 := by rw [eS1]; exact hG.I hk (ok_fr (by decide))
  have hF : Fr [] [103, 106] S S1 := by rw [eS1]; exact hF.I hk (by decide)
  clear eS1
  refine lv_aload_n hx hb dX1_freeze_10 rfl (lv_at hl 0 rfl) ?_
  refine lv_dup hx hb dX1_freeze_11 rfl ?_
  refine pg_gi (ci := 1) (C := RX1) (T := TX1) (N := 10) hx hb hts wi1 hown hK hW (hF.k hk (by decide)) (by decide) rfl 6 (by decide) (hts (.fieldLink RX1 34 "IceHall$Ice" "flooded" "I") (by decide +kernel)) (fun _ h9 => h9) rfl dX1_freeze_12 ?_
  refine lv_iload_n hx hb dX1_freeze_15 rfl (lv_at hl 1 rfl) ?_
  refine lv_iadd hx hb dX1_freeze_16 ?_
  refine pg_pi (ci := 1) (C := RX1) (T := TX1) (N := 10) hx hb hts wi1 tyX1 tyX1_ok nmX1 hown hK hW hS (hF.k hk (by decide)) (by decide) rfl 6 (by decide) (hts (.fieldLink RX1 34 "IceHall$Ice" "flooded" "I") (by decide +kernel)) (fun _ h9 => h9) rfl rfl rfl dX1_freeze_17 (fun H locs hW hS => ?_)
  obtain ⟨S2, eS2⟩ : ∃ T : St, T = stI S1 h 6 ((sI S1 h 6) + a) := ⟨_, rfl⟩
  rw [← eS2] at hW
  have hG : G S2 := by rw [eS2]; exact hG.I (hF.k hk (by decide)) (ok_fr (by decide))
  have hF : Fr [] [103, 106] S S2 := by rw [eS2]; exact hF.I (hF.k hk (by decide)) (by decide)
  clear eS2
  exact pc_vret (S := S2) hx hb hr hlk hK hZ hA hW hS (⟨hG, hF, trivial⟩) dX1_freeze_20
set_option maxHeartbeats 4000000 in
set_option maxRecDepth 100000 in
theorem b_X6_stands (l : Launch) (D : va_G) (cy : Nat → ClassId) (A : Nat → Prop) (S : St) (h : Nat) (hG0 : G S) (hk : sK S h = 6) : MI l yX6_stands wsX6_stands ({ frames := 0, cells := 0, slots := 0, locals := 0 } : Room) 0 0 D cy A [.ref h] S (fun r S1 => S1 = S ∧ True) := by
  refine mt_start (cc := cX6_stands) (maxL := 1) (ret := (some .boolean)) (by decide) rfl (Nat.le_of_ble_eq_true rfl) ?_
  intro p e s m args below meth c hx hb hr hlk hml hown hnm hts hK hZ hA hW hS ls hl
  have hl : lv_has ls 1 [(0, .ref h)] := hl
  have hown : s.vm.findClass RX6 = some m.cls := hown
  have F : CallFix p m c cX6_stands 1 s args wsX6_stands RX6 := ⟨hx, hb, hml, hown, hts⟩
  have wi6 : ∀ w ∈ u_ws RX6 TX6 10, w ∈ wsX6_stands := by decide +kernel
  have hG := hG0
  refine lv_aload_n hx hb dX6_stands_0 rfl (lv_at hl 0 rfl) ?_
  refine pg_gi (ci := 6) (C := RX6) (T := TX6) (N := 10) hx hb hts wi6 hown hK hW hk (by decide) rfl 6 (by decide) (hts (.fieldLink RX6 9 "IceHall$Session" "state" "I") (by decide +kernel)) (fun _ h9 => h9) rfl dX6_stands_1 ?_
  refine lv_if_eq (tgt := 23) hx hb dX6_stands_4 (by decide) (fun c1 => ?_) (fun c1 => ?_)
  · have c1i : Int32.toInt (sI S h 6) = (0 : Int) := (i3_eq _ _).mp c1
    refine lv_iconst (v := 1) hx hb dX6_stands_23 (by decide) ?_
    refine lv_goto (tgt := 28) hx hb dX6_stands_24 (by decide) ?_
    exact pc_zret (v := 1) (S := S) hx hb hr hlk hK hZ hA hW hS (by decide) (⟨rfl, trivial⟩) dX6_stands_28
  · have c1i : ¬ (Int32.toInt (sI S h 6) = (0 : Int)) := fun h9 => c1 ((i3_eq _ _).mpr h9)
    refine lv_aload_n hx hb dX6_stands_7 rfl (lv_at hl 0 rfl) ?_
    refine pg_gi (ci := 6) (C := RX6) (T := TX6) (N := 10) hx hb hts wi6 hown hK hW hk (by decide) rfl 6 (by decide) (hts (.fieldLink RX6 9 "IceHall$Session" "state" "I") (by decide +kernel)) (fun _ h9 => h9) rfl dX6_stands_8 ?_
    refine lv_iconst (v := 1) hx hb dX6_stands_11 (by decide) ?_
    refine lv_icmp_eq (tgt := 23) hx hb dX6_stands_12 (by decide) (fun c2 => ?_) (fun c2 => ?_)
    · have c2i : Int32.toInt (sI S h 6) = (1 : Int) := (i3_eq _ _).mp c2
      refine lv_iconst (v := 1) hx hb dX6_stands_23 (by decide) ?_
      refine lv_goto (tgt := 28) hx hb dX6_stands_24 (by decide) ?_
      exact pc_zret (v := 1) (S := S) hx hb hr hlk hK hZ hA hW hS (by decide) (⟨rfl, trivial⟩) dX6_stands_28
    · have c2i : ¬ (Int32.toInt (sI S h 6) = (1 : Int)) := fun h9 => c2 ((i3_eq _ _).mpr h9)
      refine lv_aload_n hx hb dX6_stands_15 rfl (lv_at hl 0 rfl) ?_
      refine pg_gi (ci := 6) (C := RX6) (T := TX6) (N := 10) hx hb hts wi6 hown hK hW hk (by decide) rfl 6 (by decide) (hts (.fieldLink RX6 9 "IceHall$Session" "state" "I") (by decide +kernel)) (fun _ h9 => h9) rfl dX6_stands_16 ?_
      refine lv_iconst (v := 2) hx hb dX6_stands_19 (by decide) ?_
      refine lv_icmp_ne (tgt := 27) hx hb dX6_stands_20 (by decide) (fun c3 => ?_) (fun c3 => ?_)
      · have c3i : ¬ (Int32.toInt (sI S h 6) = (2 : Int)) := fun h9 => c3 ((i3_eq _ _).mpr h9)
        refine lv_iconst (v := 0) hx hb dX6_stands_27 (by decide) ?_
        exact pc_zret (v := 0) (S := S) hx hb hr hlk hK hZ hA hW hS (by decide) (⟨rfl, trivial⟩) dX6_stands_28
      · have c3i : Int32.toInt (sI S h 6) = (2 : Int) := (i3_eq _ _).mp c3
        refine lv_iconst (v := 1) hx hb dX6_stands_23 (by decide) ?_
        refine lv_goto (tgt := 28) hx hb dX6_stands_24 (by decide) ?_
        exact pc_zret (v := 1) (S := S) hx hb hr hlk hK hZ hA hW hS (by decide) (⟨rfl, trivial⟩) dX6_stands_28
set_option maxHeartbeats 4000000 in
set_option maxRecDepth 100000 in
theorem b_X6_hold (l : Launch) (D : va_G) (cy : Nat → ClassId) (A : Nat → Prop) (S : St) (h : Nat) (hG0 : G S) (hk : sK S h = 6) : MV l yX6_hold wsX6_hold ({ frames := 0, cells := 0, slots := 0, locals := 0 } : Room) 0 0 D cy A [.ref h] S (fun S1 => G S1 ∧ Fr [] [606, 608] S S1 ∧ True) := by
  refine mt_start (cc := cX6_hold) (maxL := 1) (ret := none) (by decide) rfl (Nat.le_of_ble_eq_true rfl) ?_
  intro p e s m args below meth c hx hb hr hlk hml hown hnm hts hK hZ hA hW hS ls hl
  have hl : lv_has ls 1 [(0, .ref h)] := hl
  have hown : s.vm.findClass RX6 = some m.cls := hown
  have F : CallFix p m c cX6_hold 1 s args wsX6_hold RX6 := ⟨hx, hb, hml, hown, hts⟩
  have wi6 : ∀ w ∈ u_ws RX6 TX6 10, w ∈ wsX6_hold := by decide +kernel
  have hG := hG0
  have hF : Fr [] [606, 608] S S := Fr.rf _ _ _
  refine lv_aload_n hx hb dX6_hold_0 rfl (lv_at hl 0 rfl) ?_
  refine lv_iconst (v := 1) hx hb dX6_hold_1 (by decide) ?_
  refine pg_pi (ci := 6) (C := RX6) (T := TX6) (N := 10) hx hb hts wi6 tyX6 tyX6_ok nmX6 hown hK hW hS hk (by decide) rfl 6 (by decide) (hts (.fieldLink RX6 9 "IceHall$Session" "state" "I") (by decide +kernel)) (fun _ h9 => h9) rfl rfl rfl dX6_hold_2 (fun H locs hW hS => ?_)
  obtain ⟨S1, eS1⟩ : ∃ T : St, T = stI S h 6 1 := ⟨_, rfl⟩
  rw [← eS1] at hW
  have hG : G S1 := by rw [eS1]; exact hG.I hk (ok_fr (by decide))
  have hF : Fr [] [606, 608] S S1 := by rw [eS1]; exact hF.I hk (by decide)
  clear eS1
  refine lv_aload_n hx hb dX6_hold_5 rfl (lv_at hl 0 rfl) ?_
  refine lv_aload_n hx hb dX6_hold_6 rfl (lv_at hl 0 rfl) ?_
  refine pg_gi (ci := 6) (C := RX6) (T := TX6) (N := 10) hx hb hts wi6 hown hK hW (hF.k hk (by decide)) (by decide) rfl 2 (by decide) (hts (.fieldLink RX6 41 "IceHall$Session" "fee" "I") (by decide +kernel)) (fun _ h9 => h9) rfl dX6_hold_7 ?_
  refine pg_pi (ci := 6) (C := RX6) (T := TX6) (N := 10) hx hb hts wi6 tyX6 tyX6_ok nmX6 hown hK hW hS (hF.k hk (by decide)) (by decide) rfl 8 (by decide) (hts (.fieldLink RX6 18 "IceHall$Session" "owes" "I") (by decide +kernel)) (fun _ h9 => h9) rfl rfl rfl dX6_hold_10 (fun H locs hW hS => ?_)
  obtain ⟨S2, eS2⟩ : ∃ T : St, T = stI S1 h 8 (sI S1 h 2) := ⟨_, rfl⟩
  rw [← eS2] at hW
  have hG : G S2 := by rw [eS2]; exact hG.I (hF.k hk (by decide)) (ok_fr (by decide))
  have hF : Fr [] [606, 608] S S2 := by rw [eS2]; exact hF.I (hF.k hk (by decide)) (by decide)
  clear eS2
  exact pc_vret (S := S2) hx hb hr hlk hK hZ hA hW hS (⟨hG, hF, trivial⟩) dX6_hold_13
set_option maxHeartbeats 4000000 in
set_option maxRecDepth 100000 in
theorem b_X6_lose (l : Launch) (D : va_G) (cy : Nat → ClassId) (A : Nat → Prop) (S : St) (h : Nat) (a : Int32) (hG0 : G S) (hk : sK S h = 6) : MV l yX6_lose wsX6_lose ({ frames := 0, cells := 0, slots := 0, locals := 0 } : Room) 0 0 D cy A [.ref h, .int a] S (fun S1 => G S1 ∧ Fr [] [606, 607] S S1 ∧ True) := by
  refine mt_start (cc := cX6_lose) (maxL := 2) (ret := none) (by decide) rfl (Nat.le_of_ble_eq_true rfl) ?_
  intro p e s m args below meth c hx hb hr hlk hml hown hnm hts hK hZ hA hW hS ls hl
  have hl : lv_has ls 2 [(0, .ref h), (1, .int a)] := hl
  have hown : s.vm.findClass RX6 = some m.cls := hown
  have F : CallFix p m c cX6_lose 2 s args wsX6_lose RX6 := ⟨hx, hb, hml, hown, hts⟩
  have wi6 : ∀ w ∈ u_ws RX6 TX6 10, w ∈ wsX6_lose := by decide +kernel
  have hG := hG0
  have hF : Fr [] [606, 607] S S := Fr.rf _ _ _
  refine lv_aload_n hx hb dX6_lose_0 rfl (lv_at hl 0 rfl) ?_
  refine lv_iconst (v := 2) hx hb dX6_lose_1 (by decide) ?_
  refine pg_pi (ci := 6) (C := RX6) (T := TX6) (N := 10) hx hb hts wi6 tyX6 tyX6_ok nmX6 hown hK hW hS hk (by decide) rfl 6 (by decide) (hts (.fieldLink RX6 9 "IceHall$Session" "state" "I") (by decide +kernel)) (fun _ h9 => h9) rfl rfl rfl dX6_lose_2 (fun H locs hW hS => ?_)
  obtain ⟨S1, eS1⟩ : ∃ T : St, T = stI S h 6 2 := ⟨_, rfl⟩
  rw [← eS1] at hW
  have hG : G S1 := by rw [eS1]; exact hG.I hk (ok_fr (by decide))
  have hF : Fr [] [606, 607] S S1 := by rw [eS1]; exact hF.I hk (by decide)
  clear eS1
  refine lv_aload_n hx hb dX6_lose_5 rfl (lv_at hl 0 rfl) ?_
  refine lv_iload_n hx hb dX6_lose_6 rfl (lv_at hl 1 rfl) ?_
  refine pg_pi (ci := 6) (C := RX6) (T := TX6) (N := 10) hx hb hts wi6 tyX6 tyX6_ok nmX6 hown hK hW hS (hF.k hk (by decide)) (by decide) rfl 7 (by decide) (hts (.fieldLink RX6 15 "IceHall$Session" "whyLost" "I") (by decide +kernel)) (fun _ h9 => h9) rfl rfl rfl dX6_lose_7 (fun H locs hW hS => ?_)
  obtain ⟨S2, eS2⟩ : ∃ T : St, T = stI S1 h 7 a := ⟨_, rfl⟩
  rw [← eS2] at hW
  have hG : G S2 := by rw [eS2]; exact hG.I (hF.k hk (by decide)) (ok_fr (by decide))
  have hF : Fr [] [606, 607] S S2 := by rw [eS2]; exact hF.I (hF.k hk (by decide)) (by decide)
  clear eS2
  exact pc_vret (S := S2) hx hb hr hlk hK hZ hA hW hS (⟨hG, hF, trivial⟩) dX6_lose_10
set_option maxHeartbeats 4000000 in
set_option maxRecDepth 100000 in
theorem b_X6_moveTo (l : Launch) (D : va_G) (cy : Nat → ClassId) (A : Nat → Prop) (S : St) (h : Nat) (a b : Int32) (hG0 : G S) (hk : sK S h = 6) : MV l yX6_moveTo wsX6_moveTo ({ frames := 0, cells := 0, slots := 0, locals := 0 } : Room) 0 0 D cy A [.ref h, .int a, .int b] S (fun S1 => G S1 ∧ Fr [] [604, 605, 609] S S1 ∧ True) := by
  refine mt_start (cc := cX6_moveTo) (maxL := 3) (ret := none) (by decide) rfl (Nat.le_of_ble_eq_true rfl) ?_
  intro p e s m args below meth c hx hb hr hlk hml hown hnm hts hK hZ hA hW hS ls hl
  have hl : lv_has ls 3 [(0, .ref h), (1, .int a), (2, .int b)] := hl
  have hown : s.vm.findClass RX6 = some m.cls := hown
  have F : CallFix p m c cX6_moveTo 3 s args wsX6_moveTo RX6 := ⟨hx, hb, hml, hown, hts⟩
  have wi6 : ∀ w ∈ u_ws RX6 TX6 10, w ∈ wsX6_moveTo := by decide +kernel
  have hG := hG0
  have hF : Fr [] [604, 605, 609] S S := Fr.rf _ _ _
  refine lv_aload_n hx hb dX6_moveTo_0 rfl (lv_at hl 0 rfl) ?_
  refine lv_iload_n hx hb dX6_moveTo_1 rfl (lv_at hl 1 rfl) ?_
  refine pg_pi (ci := 6) (C := RX6) (T := TX6) (N := 10) hx hb hts wi6 tyX6 tyX6_ok nmX6 hown hK hW hS hk (by decide) rfl 4 (by decide) (hts (.fieldLink RX6 30 "IceHall$Session" "onSheet" "I") (by decide +kernel)) (fun _ h9 => h9) rfl rfl rfl dX6_moveTo_2 (fun H locs hW hS => ?_)
  obtain ⟨S1, eS1⟩ : ∃ T : St, T = stI S h 4 a := ⟨_, rfl⟩
  rw [← eS1] at hW
  have hG : G S1 := by rw [eS1]; exact hG.I hk (ok_fr (by decide))
  have hF : Fr [] [604, 605, 609] S S1 := by rw [eS1]; exact hF.I hk (by decide)
  clear eS1
  refine lv_aload_n hx hb dX6_moveTo_5 rfl (lv_at hl 0 rfl) ?_
  refine lv_iload_n hx hb dX6_moveTo_6 rfl (lv_at hl 2 rfl) ?_
  refine pg_pi (ci := 6) (C := RX6) (T := TX6) (N := 10) hx hb hts wi6 tyX6 tyX6_ok nmX6 hown hK hW hS (hF.k hk (by decide)) (by decide) rfl 5 (by decide) (hts (.fieldLink RX6 33 "IceHall$Session" "hour" "I") (by decide +kernel)) (fun _ h9 => h9) rfl rfl rfl dX6_moveTo_7 (fun H locs hW hS => ?_)
  obtain ⟨S2, eS2⟩ : ∃ T : St, T = stI S1 h 5 b := ⟨_, rfl⟩
  rw [← eS2] at hW
  have hG : G S2 := by rw [eS2]; exact hG.I (hF.k hk (by decide)) (ok_fr (by decide))
  have hF : Fr [] [604, 605, 609] S S2 := by rw [eS2]; exact hF.I (hF.k hk (by decide)) (by decide)
  clear eS2
  refine lv_aload_n hx hb dX6_moveTo_10 rfl (lv_at hl 0 rfl) ?_
  refine lv_dup hx hb dX6_moveTo_11 rfl ?_
  refine pg_gi (ci := 6) (C := RX6) (T := TX6) (N := 10) hx hb hts wi6 hown hK hW (hF.k hk (by decide)) (by decide) rfl 9 (by decide) (hts (.fieldLink RX6 21 "IceHall$Session" "timesMoved" "I") (by decide +kernel)) (fun _ h9 => h9) rfl dX6_moveTo_12 ?_
  refine lv_iconst (v := 1) hx hb dX6_moveTo_15 (by decide) ?_
  refine lv_iadd hx hb dX6_moveTo_16 ?_
  refine pg_pi (ci := 6) (C := RX6) (T := TX6) (N := 10) hx hb hts wi6 tyX6 tyX6_ok nmX6 hown hK hW hS (hF.k hk (by decide)) (by decide) rfl 9 (by decide) (hts (.fieldLink RX6 21 "IceHall$Session" "timesMoved" "I") (by decide +kernel)) (fun _ h9 => h9) rfl rfl rfl dX6_moveTo_17 (fun H locs hW hS => ?_)
  obtain ⟨S3, eS3⟩ : ∃ T : St, T = stI S2 h 9 ((sI S2 h 9) + 1) := ⟨_, rfl⟩
  rw [← eS3] at hW
  have hG : G S3 := by rw [eS3]; exact hG.I (hF.k hk (by decide)) (ok_fr (by decide))
  have hF : Fr [] [604, 605, 609] S S3 := by rw [eS3]; exact hF.I (hF.k hk (by decide)) (by decide)
  clear eS3
  exact pc_vret (S := S3) hx hb hr hlk hK hZ hA hW hS (⟨hG, hF, trivial⟩) dX6_moveTo_20
set_option maxHeartbeats 4000000 in
set_option maxRecDepth 100000 in
theorem b_X4_isIn (l : Launch) (D : va_G) (cy : Nat → ClassId) (A : Nat → Prop) (S : St) (a b : Int32)  : MI l yX4_isIn wsX4_isIn ({ frames := 0, cells := 0, slots := 0, locals := 0 } : Room) 0 0 D cy A [.int a, .int b] S (fun r S1 => S1 = S ∧ True) := by
  refine mt_start (cc := cX4_isIn) (maxL := 2) (ret := (some .boolean)) (by decide) rfl (Nat.le_of_ble_eq_true rfl) ?_
  intro p e s m args below meth c hx hb hr hlk hml hown hnm hts hK hZ hA hW hS ls hl
  have hl : lv_has ls 2 [(0, .int a), (1, .int b)] := hl
  have hown : s.vm.findClass RX4 = some m.cls := hown
  have F : CallFix p m c cX4_isIn 2 s args wsX4_isIn RX4 := ⟨hx, hb, hml, hown, hts⟩
  refine lv_iload_n hx hb dX4_isIn_0 rfl (lv_at hl 0 rfl) ?_
  refine lv_iload_n hx hb dX4_isIn_1 rfl (lv_at hl 1 rfl) ?_
  refine lv_ishr hx hb dX4_isIn_2 ?_
  refine lv_iconst (v := 1) hx hb dX4_isIn_3 (by decide) ?_
  refine lv_iand hx hb dX4_isIn_4 ?_
  refine lv_if_eq (tgt := 12) hx hb dX4_isIn_5 (by decide) (fun c1 => ?_) (fun c1 => ?_)
  · have c1i : Int32.toInt ((a >>> (b &&& 31)) &&& 1) = (0 : Int) := (i3_eq _ _).mp c1
    refine lv_iconst (v := 0) hx hb dX4_isIn_12 (by decide) ?_
    exact pc_zret (v := 0) (S := S) hx hb hr hlk hK hZ hA hW hS (by decide) (⟨rfl, trivial⟩) dX4_isIn_13
  · have c1i : ¬ (Int32.toInt ((a >>> (b &&& 31)) &&& 1) = (0 : Int)) := fun h9 => c1 ((i3_eq _ _).mpr h9)
    refine lv_iconst (v := 1) hx hb dX4_isIn_8 (by decide) ?_
    refine lv_goto (tgt := 13) hx hb dX4_isIn_9 (by decide) ?_
    exact pc_zret (v := 1) (S := S) hx hb hr hlk hK hZ hA hW hS (by decide) (⟨rfl, trivial⟩) dX4_isIn_13
set_option maxHeartbeats 4000000 in
set_option maxRecDepth 100000 in
theorem b_X4_let (l : Launch) (D : va_G) (cy : Nat → ClassId) (A : Nat → Prop) (S : St) (h : Nat) (a b : Int32) (hG0 : G S) (hk : sK S h = 4) : MI l yX4_let wsX4_let ({ frames := 1, cells := 0, slots := 0, locals := 21 } : Room) 0 0 D cy A [.ref h, .int a, .int b] S (fun r S1 => S1 = S ∧ True) := by
  refine mt_start (cc := cX4_let) (maxL := 3) (ret := (some .boolean)) (by decide) rfl (Nat.le_of_ble_eq_true rfl) ?_
  intro p e s m args below meth c hx hb hr hlk hml hown hnm hts hK hZ hA hW hS ls hl
  have hl : lv_has ls 3 [(0, .ref h), (1, .int a), (2, .int b)] := hl
  have hown : s.vm.findClass RX4 = some m.cls := hown
  have F : CallFix p m c cX4_let 3 s args wsX4_let RX4 := ⟨hx, hb, hml, hown, hts⟩
  have wi4 : ∀ w ∈ u_ws RX4 TX4 6, w ∈ wsX4_let := by decide +kernel
  have hG := hG0
  refine lv_aload_n hx hb dX4_let_0 rfl (lv_at hl 0 rfl) ?_
  refine pg_gi (ci := 4) (C := RX4) (T := TX4) (N := 6) hx hb hts wi4 hown hK hW hk (by decide) rfl 0 (by decide) (hts (.fieldLink RX4 12 "IceHall$Rights" "clocks" "I") (by decide +kernel)) (fun _ h9 => h9) rfl dX4_let_1 ?_
  refine lv_iload_n hx hb dX4_let_4 rfl (lv_at hl 2 rfl) ?_
  refine lv_bipush (v := 24) hx hb dX4_let_5 (by decide) ?_
  refine lv_irem hx hb dX4_let_7 (by decide) ?_
  refine pc_Si (As := [.int (sI S h 0), .int (b - b / 24 * 24)]) (rest := []) F (b_X4_isIn l D cy A S (sI S h 0) (b - b / 24 * 24) ) (va_cwS 2 hts gX4_let_X4_isIn rfl rfl rfl (by decide +kernel) ⟨Nat.le_of_ble_eq_true rfl, Nat.le_of_ble_eq_true rfl⟩) hK hZ hA hW hS rfl hl.1 rfl (Nat.le_of_ble_eq_true rfl) dX4_let_8 ⟨Nat.le_of_ble_eq_true rfl, Nat.le_of_ble_eq_true rfl⟩ (fun v1 T2 H locs p3 hW hS => ?_)
  obtain ⟨eT2, p3⟩ := p3
  rw [eT2] at hW
  clear eT2
  refine lv_if_eq (tgt := 46) hx hb dX4_let_11 (by decide) (fun c4 => ?_) (fun c4 => ?_)
  · have c4i : Int32.toInt v1 = (0 : Int) := (i3_eq _ _).mp c4
    refine lv_iconst (v := 0) hx hb dX4_let_46 (by decide) ?_
    exact pc_zret (v := 0) (S := S) hx hb hr hlk hK hZ hA hW hS (by decide) (⟨rfl, trivial⟩) dX4_let_47
  · have c4i : ¬ (Int32.toInt v1 = (0 : Int)) := fun h9 => c4 ((i3_eq _ _).mpr h9)
    refine lv_aload_n hx hb dX4_let_14 rfl (lv_at hl 0 rfl) ?_
    refine pg_gi (ci := 4) (C := RX4) (T := TX4) (N := 6) hx hb hts wi4 hown hK hW hk (by decide) rfl 1 (by decide) (hts (.fieldLink RX4 16 "IceHall$Rights" "days" "I") (by decide +kernel)) (fun _ h9 => h9) rfl dX4_let_15 ?_
    refine lv_iload_n hx hb dX4_let_18 rfl (lv_at hl 2 rfl) ?_
    refine lv_bipush (v := 24) hx hb dX4_let_19 (by decide) ?_
    refine lv_idiv hx hb dX4_let_21 (by decide) ?_
    refine lv_bipush (v := 7) hx hb dX4_let_22 (by decide) ?_
    refine lv_irem hx hb dX4_let_24 (by decide) ?_
    refine pc_Si (As := [.int (sI S h 1), .int ((b / 24) - (b / 24) / 7 * 7)]) (rest := []) F (b_X4_isIn l D cy A S (sI S h 1) ((b / 24) - (b / 24) / 7 * 7) ) (va_cwS 2 hts gX4_let_X4_isIn rfl rfl rfl (by decide +kernel) ⟨Nat.le_of_ble_eq_true rfl, Nat.le_of_ble_eq_true rfl⟩) hK hZ hA hW hS rfl hl.1 rfl (Nat.le_of_ble_eq_true rfl) dX4_let_25 ⟨Nat.le_of_ble_eq_true rfl, Nat.le_of_ble_eq_true rfl⟩ (fun v5 T6 H locs p7 hW hS => ?_)
    obtain ⟨eT6, p7⟩ := p7
    rw [eT6] at hW
    clear eT6
    refine lv_if_eq (tgt := 46) hx hb dX4_let_28 (by decide) (fun c8 => ?_) (fun c8 => ?_)
    · have c8i : Int32.toInt v5 = (0 : Int) := (i3_eq _ _).mp c8
      refine lv_iconst (v := 0) hx hb dX4_let_46 (by decide) ?_
      exact pc_zret (v := 0) (S := S) hx hb hr hlk hK hZ hA hW hS (by decide) (⟨rfl, trivial⟩) dX4_let_47
    · have c8i : ¬ (Int32.toInt v5 = (0 : Int)) := fun h9 => c8 ((i3_eq _ _).mpr h9)
      refine lv_aload_n hx hb dX4_let_31 rfl (lv_at hl 0 rfl) ?_
      refine pg_gi (ci := 4) (C := RX4) (T := TX4) (N := 6) hx hb hts wi4 hown hK hW hk (by decide) rfl 2 (by decide) (hts (.fieldLink RX4 19 "IceHall$Rights" "kinds" "I") (by decide +kernel)) (fun _ h9 => h9) rfl dX4_let_32 ?_
      refine lv_iload_n hx hb dX4_let_35 rfl (lv_at hl 1 rfl) ?_
      refine pc_Si (As := [.int (sI S h 2), .int a]) (rest := []) F (b_X4_isIn l D cy A S (sI S h 2) a ) (va_cwS 2 hts gX4_let_X4_isIn rfl rfl rfl (by decide +kernel) ⟨Nat.le_of_ble_eq_true rfl, Nat.le_of_ble_eq_true rfl⟩) hK hZ hA hW hS rfl hl.1 rfl (Nat.le_of_ble_eq_true rfl) dX4_let_36 ⟨Nat.le_of_ble_eq_true rfl, Nat.le_of_ble_eq_true rfl⟩ (fun v9 T10 H locs p11 hW hS => ?_)
      obtain ⟨eT10, p11⟩ := p11
      rw [eT10] at hW
      clear eT10
      refine lv_if_eq (tgt := 46) hx hb dX4_let_39 (by decide) (fun c12 => ?_) (fun c12 => ?_)
      · have c12i : Int32.toInt v9 = (0 : Int) := (i3_eq _ _).mp c12
        refine lv_iconst (v := 0) hx hb dX4_let_46 (by decide) ?_
        exact pc_zret (v := 0) (S := S) hx hb hr hlk hK hZ hA hW hS (by decide) (⟨rfl, trivial⟩) dX4_let_47
      · have c12i : ¬ (Int32.toInt v9 = (0 : Int)) := fun h9 => c12 ((i3_eq _ _).mpr h9)
        refine lv_iconst (v := 1) hx hb dX4_let_42 (by decide) ?_
        refine lv_goto (tgt := 47) hx hb dX4_let_43 (by decide) ?_
        exact pc_zret (v := 1) (S := S) hx hb hr hlk hK hZ hA hW hS (by decide) (⟨rfl, trivial⟩) dX4_let_47
end
