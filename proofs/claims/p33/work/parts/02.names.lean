def RX0 : String := "LinenName$Contest"
def TX0 : u_T := fun k => match k with
  | 0 => ("LinenName$Contest", "linen", "LLinenName$Linen;", true)
  | 1 => ("LinenName$Contest", "lodgers", "I", false)
  | 2 => ("LinenName$Contest", "one", "I", false)
  | 3 => ("LinenName$Contest", "other", "I", false)
  | 4 => ("LinenName$Contest", "firstBed", "I", false)
  | _ => ("LinenName$Contest", "secondBed", "I", false)
def tyX0 : Nat → FieldType := fun k => match k with
  | 0 => .object "LinenName$Linen"
  | 1 => .int
  | 2 => .int
  | 3 => .int
  | 4 => .int
  | _ => .int
theorem nmX0 : ∀ a, a < 6 → ∀ b, b < 6 → a ≠ b → (TX0 a).2.1 ≠ (TX0 b).2.1 := by decide +kernel
theorem tyX0_ok : ∀ k, k < 6 → parseFieldDescriptor (TX0 k).2.2.1 = some (tyX0 k) := by decide +kernel
abbrev cX0_init : ByteArray := prog_2_method_1_code
def yX0_init : MethodName := ⟨RX0, "<init>", "()V"⟩
abbrev cX0_play : ByteArray := prog_2_method_2_code
def yX0_play : MethodName := ⟨RX0, "play", "(ILLinenName$Linen;III)I"⟩
abbrev cX0_worth : ByteArray := prog_2_method_3_code
def yX0_worth : MethodName := ⟨RX0, "worth", "(II)I"⟩
abbrev cX0_worthBehind : ByteArray := prog_2_method_4_code
def yX0_worthBehind : MethodName := ⟨RX0, "worthBehind", "(IIII)I"⟩
def RX1 : String := "LinenName$House"
def TX1 : u_T := fun k => match k with
  | 0 => ("LinenName$House", "stands", "Z", false)
  | 1 => ("LinenName$House", "lasts", "I", false)
  | 2 => ("LinenName$House", "starch", "I", false)
  | 3 => ("LinenName$House", "lodgers", "I", false)
  | 4 => ("LinenName$House", "mixes", "I", false)
  | 5 => ("LinenName$House", "grades", "[I", true)
  | 6 => ("LinenName$House", "wants", "[I", true)
  | 7 => ("LinenName$House", "mixWeeks", "[I", true)
  | 8 => ("LinenName$House", "mixOnes", "[I", true)
  | _ => ("LinenName$House", "mixOthers", "[I", true)
def tyX1 : Nat → FieldType := fun k => match k with
  | 0 => .boolean
  | 1 => .int
  | 2 => .int
  | 3 => .int
  | 4 => .int
  | 5 => .array .int
  | 6 => .array .int
  | 7 => .array .int
  | 8 => .array .int
  | _ => .array .int
theorem nmX1 : ∀ a, a < 10 → ∀ b, b < 10 → a ≠ b → (TX1 a).2.1 ≠ (TX1 b).2.1 := by decide +kernel
theorem tyX1_ok : ∀ k, k < 10 → parseFieldDescriptor (TX1 k).2.2.1 = some (tyX1 k) := by decide +kernel
abbrev cX1_init : ByteArray := prog_3_method_1_code
def yX1_init : MethodName := ⟨RX1, "<init>", "()V"⟩
abbrev cX1_clear : ByteArray := prog_3_method_2_code
def yX1_clear : MethodName := ⟨RX1, "clear", "()V"⟩
abbrev cX1_copyFrom : ByteArray := prog_3_method_3_code
def yX1_copyFrom : MethodName := ⟨RX1, "copyFrom", "(LLinenName$House;)V"⟩
abbrev cX1_lay : ByteArray := prog_3_method_4_code
def yX1_lay : MethodName := ⟨RX1, "lay", "(LLinenName$Linen;)V"⟩
def RX2 : String := "LinenName$HouseReader"
def TX2 : u_T := fun k => match k with
  | _ => ("", "", "", false)
def tyX2 : Nat → FieldType := fun k => match k with
  | _ => .int
theorem nmX2 : ∀ a, a < 0 → ∀ b, b < 0 → a ≠ b → (TX2 a).2.1 ≠ (TX2 b).2.1 := by decide +kernel
theorem tyX2_ok : ∀ k, k < 0 → parseFieldDescriptor (TX2 k).2.2.1 = some (tyX2 k) := by decide +kernel
abbrev cX2_init : ByteArray := prog_4_method_1_code
def yX2_init : MethodName := ⟨RX2, "<init>", "()V"⟩
abbrev cX2_reads : ByteArray := prog_4_method_2_code
def yX2_reads : MethodName := ⟨RX2, "reads", "(LLinenName$Tape;LLinenName$House;)Z"⟩
abbrev cX2_readsClause : ByteArray := prog_4_method_3_code
def yX2_readsClause : MethodName := ⟨RX2, "readsClause", "(LLinenName$Tape;LLinenName$House;I)Z"⟩
abbrev cX2_readsHouse : ByteArray := prog_4_method_4_code
def yX2_readsHouse : MethodName := ⟨RX2, "readsHouse", "(LLinenName$Tape;LLinenName$House;)Z"⟩
abbrev cX2_readsLodger : ByteArray := prog_4_method_5_code
def yX2_readsLodger : MethodName := ⟨RX2, "readsLodger", "(LLinenName$Tape;LLinenName$House;)Z"⟩
abbrev cX2_readsMix : ByteArray := prog_4_method_6_code
def yX2_readsMix : MethodName := ⟨RX2, "readsMix", "(LLinenName$Tape;LLinenName$House;)Z"⟩
def RX3 : String := "LinenName$Image"
def TX3 : u_T := fun k => match k with
  | 0 => ("LinenName$Image", "house", "LLinenName$House;", false)
  | 1 => ("LinenName$Image", "linen", "LLinenName$Linen;", true)
  | 2 => ("LinenName$Image", "noteWeeks", "[I", true)
  | 3 => ("LinenName$Image", "noteBeds", "[I", true)
  | 4 => ("LinenName$Image", "noteSheets", "[I", true)
  | 5 => ("LinenName$Image", "notes", "I", false)
  | 6 => ("LinenName$Image", "inForce", "I", false)
  | 7 => ("LinenName$Image", "x", "I", false)
  | _ => ("LinenName$Image", "made", "Z", false)
def tyX3 : Nat → FieldType := fun k => match k with
  | 0 => .object "LinenName$House"
  | 1 => .object "LinenName$Linen"
  | 2 => .array .int
  | 3 => .array .int
  | 4 => .array .int
  | 5 => .int
  | 6 => .int
  | 7 => .int
  | _ => .boolean
theorem nmX3 : ∀ a, a < 9 → ∀ b, b < 9 → a ≠ b → (TX3 a).2.1 ≠ (TX3 b).2.1 := by decide +kernel
theorem tyX3_ok : ∀ k, k < 9 → parseFieldDescriptor (TX3 k).2.2.1 = some (tyX3 k) := by decide +kernel
abbrev cX3_init : ByteArray := prog_5_method_1_code
def yX3_init : MethodName := ⟨RX3, "<init>", "()V"⟩
abbrev cX3_copyFrom : ByteArray := prog_5_method_2_code
def yX3_copyFrom : MethodName := ⟨RX3, "copyFrom", "(LLinenName$Image;)V"⟩
abbrev cX3_lastNoted : ByteArray := prog_5_method_3_code
def yX3_lastNoted : MethodName := ⟨RX3, "lastNoted", "()I"⟩
abbrev cX3_contradicts : ByteArray := prog_5_method_4_code
def yX3_contradicts : MethodName := ⟨RX3, "contradicts", "(ILLinenName$Linen;)Z"⟩
def RX4 : String := "LinenName$Laundry"
def TX4 : u_T := fun k => match k with
  | 0 => ("LinenName$Laundry", "words", "[J", true)
  | _ => ("LinenName$Laundry", "stack", "[J", true)
def tyX4 : Nat → FieldType := fun k => match k with
  | 0 => .array .long
  | _ => .array .long
theorem nmX4 : ∀ a, a < 2 → ∀ b, b < 2 → a ≠ b → (TX4 a).2.1 ≠ (TX4 b).2.1 := by decide +kernel
theorem tyX4_ok : ∀ k, k < 2 → parseFieldDescriptor (TX4 k).2.2.1 = some (tyX4 k) := by decide +kernel
abbrev cX4_init : ByteArray := prog_6_method_1_code
def yX4_init : MethodName := ⟨RX4, "<init>", "()V"⟩
abbrev cX4_passWeek : ByteArray := prog_6_method_2_code
def yX4_passWeek : MethodName := ⟨RX4, "passWeek", "(LLinenName$House;LLinenName$Linen;LLinenName$Rule;I)I"⟩
abbrev cX4_mixUp : ByteArray := prog_6_method_3_code
def yX4_mixUp : MethodName := ⟨RX4, "mixUp", "(LLinenName$House;LLinenName$Linen;I)V"⟩
abbrev cX4_fold : ByteArray := prog_6_method_4_code
def yX4_fold : MethodName := ⟨RX4, "fold", "(LLinenName$House;LLinenName$Linen;LLinenName$Rule;I)V"⟩
abbrev cX4_setWords : ByteArray := prog_6_method_5_code
def yX4_setWords : MethodName := ⟨RX4, "setWords", "(LLinenName$House;LLinenName$Linen;II)V"⟩
def RX5 : String := "LinenName$Linen"
def TX5 : u_T := fun k => match k with
  | 0 => ("LinenName$Linen", "on", "[I", true)
  | 1 => ("LinenName$Linen", "grade", "[I", true)
  | 2 => ("LinenName$Linen", "worn", "[I", true)
  | 3 => ("LinenName$Linen", "was", "[I", true)
  | _ => ("LinenName$Linen", "week", "I", false)
def tyX5 : Nat → FieldType := fun k => match k with
  | 0 => .array .int
  | 1 => .array .int
  | 2 => .array .int
  | 3 => .array .int
  | _ => .int
theorem nmX5 : ∀ a, a < 5 → ∀ b, b < 5 → a ≠ b → (TX5 a).2.1 ≠ (TX5 b).2.1 := by decide +kernel
theorem tyX5_ok : ∀ k, k < 5 → parseFieldDescriptor (TX5 k).2.2.1 = some (tyX5 k) := by decide +kernel
abbrev cX5_init : ByteArray := prog_7_method_1_code
def yX5_init : MethodName := ⟨RX5, "<init>", "()V"⟩
abbrev cX5_copyFrom : ByteArray := prog_7_method_2_code
def yX5_copyFrom : MethodName := ⟨RX5, "copyFrom", "(LLinenName$Linen;)V"⟩
abbrev cX5_change : ByteArray := prog_7_method_3_code
def yX5_change : MethodName := ⟨RX5, "change", "(II)V"⟩
abbrev cX5_bedOf : ByteArray := prog_7_method_4_code
def yX5_bedOf : MethodName := ⟨RX5, "bedOf", "(II)I"⟩
abbrev cX5_isLet : ByteArray := prog_7_method_5_code
def yX5_isLet : MethodName := ⟨RX5, "isLet", "(LLinenName$House;I)Z"⟩
abbrev cX5_letBits : ByteArray := prog_7_method_6_code
def yX5_letBits : MethodName := ⟨RX5, "letBits", "(LLinenName$House;)I"⟩
abbrev cX5_homeBits : ByteArray := prog_7_method_7_code
def yX5_homeBits : MethodName := ⟨RX5, "homeBits", "(I)I"⟩
abbrev cX5_allWas : ByteArray := prog_7_method_8_code
def yX5_allWas : MethodName := ⟨RX5, "allWas", "(I)I"⟩
abbrev cX5_ringBits : ByteArray := prog_7_method_9_code
def yX5_ringBits : MethodName := ⟨RX5, "ringBits", "(I)I"⟩
abbrev cX5_changesHome : ByteArray := prog_7_method_10_code
def yX5_changesHome : MethodName := ⟨RX5, "changesHome", "(I)I"⟩
abbrev cX5_endWeek : ByteArray := prog_7_method_11_code
def yX5_endWeek : MethodName := ⟨RX5, "endWeek", "(LLinenName$House;I)V"⟩
def RX6 : String := "LinenName$Orders"
def TX6 : u_T := fun k => match k with
  | 0 => ("LinenName$Orders", "order", "[I", true)
  | 1 => ("LinenName$Orders", "mostLet", "[I", true)
  | 2 => ("LinenName$Orders", "joined", "[[I", true)
  | 3 => ("LinenName$Orders", "house", "LLinenName$House;", false)
  | 4 => ("LinenName$Orders", "linen", "LLinenName$Linen;", false)
  | _ => ("LinenName$Orders", "mustBeLet", "I", false)
def tyX6 : Nat → FieldType := fun k => match k with
  | 0 => .array .int
  | 1 => .array .int
  | 2 => .array (.array .int)
  | 3 => .object "LinenName$House"
  | 4 => .object "LinenName$Linen"
  | _ => .int
theorem nmX6 : ∀ a, a < 6 → ∀ b, b < 6 → a ≠ b → (TX6 a).2.1 ≠ (TX6 b).2.1 := by decide +kernel
theorem tyX6_ok : ∀ k, k < 6 → parseFieldDescriptor (TX6 k).2.2.1 = some (tyX6 k) := by decide +kernel
abbrev cX6_init : ByteArray := prog_8_method_1_code
def yX6_init : MethodName := ⟨RX6, "<init>", "()V"⟩
abbrev cX6_tell : ByteArray := prog_8_method_2_code
def yX6_tell : MethodName := ⟨RX6, "tell", "(III)I"⟩
abbrev cX6_findMost : ByteArray := prog_8_method_3_code
def yX6_findMost : MethodName := ⟨RX6, "findMost", "(LLinenName$House;LLinenName$Linen;)I"⟩
abbrev cX6_bestSheet : ByteArray := prog_8_method_4_code
def yX6_bestSheet : MethodName := ⟨RX6, "bestSheet", "(II)I"⟩
abbrev cX6_letWith : ByteArray := prog_8_method_5_code
def yX6_letWith : MethodName := ⟨RX6, "letWith", "(III)I"⟩
abbrev cX6_findTold : ByteArray := prog_8_method_6_code
def yX6_findTold : MethodName := ⟨RX6, "findTold", "(LLinenName$House;LLinenName$Linen;I)I"⟩
abbrev cX6_laysFrom : ByteArray := prog_8_method_7_code
def yX6_laysFrom : MethodName := ⟨RX6, "laysFrom", "(III)Z"⟩
abbrev cX6_lays : ByteArray := prog_8_method_8_code
def yX6_lays : MethodName := ⟨RX6, "lays", "(IIII)Z"⟩
abbrev cX6_join : ByteArray := prog_8_method_9_code
def yX6_join : MethodName := ⟨RX6, "join", "(II)I"⟩
def RX7 : String := "LinenName$Past"
def TX7 : u_T := fun k => match k with
  | 0 => ("LinenName$Past", "kept", "[LLinenName$Linen;", true)
  | 1 => ("LinenName$Past", "newest", "I", false)
  | _ => ("LinenName$Past", "size", "I", false)
def tyX7 : Nat → FieldType := fun k => match k with
  | 0 => .array (.object "LinenName$Linen")
  | 1 => .int
  | _ => .int
theorem nmX7 : ∀ a, a < 3 → ∀ b, b < 3 → a ≠ b → (TX7 a).2.1 ≠ (TX7 b).2.1 := by decide +kernel
theorem tyX7_ok : ∀ k, k < 3 → parseFieldDescriptor (TX7 k).2.2.1 = some (tyX7 k) := by decide +kernel
abbrev cX7_init : ByteArray := prog_9_method_1_code
def yX7_init : MethodName := ⟨RX7, "<init>", "()V"⟩
abbrev cX7_keep : ByteArray := prog_9_method_2_code
def yX7_keep : MethodName := ⟨RX7, "keep", "(LLinenName$Linen;)V"⟩
abbrev cX7_bringBack : ByteArray := prog_9_method_3_code
def yX7_bringBack : MethodName := ⟨RX7, "bringBack", "(LLinenName$Linen;)V"⟩
abbrev cX7_forget : ByteArray := prog_9_method_4_code
def yX7_forget : MethodName := ⟨RX7, "forget", "()V"⟩
def RX8 : String := "LinenName$Rule"
def TX8 : u_T := fun k => match k with
  | 0 => ("LinenName$Rule", "code", "[I", true)
  | _ => ("LinenName$Rule", "ends", "[I", true)
def tyX8 : Nat → FieldType := fun k => match k with
  | 0 => .array .int
  | _ => .array .int
theorem nmX8 : ∀ a, a < 2 → ∀ b, b < 2 → a ≠ b → (TX8 a).2.1 ≠ (TX8 b).2.1 := by decide +kernel
theorem tyX8_ok : ∀ k, k < 2 → parseFieldDescriptor (TX8 k).2.2.1 = some (tyX8 k) := by decide +kernel
abbrev cX8_init : ByteArray := prog_10_method_1_code
def yX8_init : MethodName := ⟨RX8, "<init>", "([I[I)V"⟩
abbrev cX8_worth : ByteArray := prog_10_method_2_code
def yX8_worth : MethodName := ⟨RX8, "worth", "([J[J)J"⟩
abbrev cX8_run : ByteArray := prog_10_method_3_code
def yX8_run : MethodName := ⟨RX8, "run", "(II[J[J)J"⟩
abbrev cX8_joined : ByteArray := prog_10_method_4_code
def yX8_joined : MethodName := ⟨RX8, "joined", "(IJJ)J"⟩
def RX9 : String := "LinenName$RuleReader"
def TX9 : u_T := fun k => match k with
  | 0 => ("LinenName$RuleReader", "code", "[I", true)
  | 1 => ("LinenName$RuleReader", "ends", "[I", true)
  | 2 => ("LinenName$RuleReader", "tape", "LLinenName$Tape;", false)
  | 3 => ("LinenName$RuleReader", "size", "I", false)
  | _ => ("LinenName$RuleReader", "counted", "I", false)
def tyX9 : Nat → FieldType := fun k => match k with
  | 0 => .array .int
  | 1 => .array .int
  | 2 => .object "LinenName$Tape"
  | 3 => .int
  | _ => .int
theorem nmX9 : ∀ a, a < 5 → ∀ b, b < 5 → a ≠ b → (TX9 a).2.1 ≠ (TX9 b).2.1 := by decide +kernel
theorem tyX9_ok : ∀ k, k < 5 → parseFieldDescriptor (TX9 k).2.2.1 = some (tyX9 k) := by decide +kernel
abbrev cX9_init : ByteArray := prog_11_method_1_code
def yX9_init : MethodName := ⟨RX9, "<init>", "()V"⟩
abbrev cX9_read : ByteArray := prog_11_method_2_code
def yX9_read : MethodName := ⟨RX9, "read", "(LLinenName$Tape;)LLinenName$Rule;"⟩
abbrev cX9_readsClause : ByteArray := prog_11_method_3_code
def yX9_readsClause : MethodName := ⟨RX9, "readsClause", "(I)Z"⟩
abbrev cX9_readsTest : ByteArray := prog_11_method_4_code
def yX9_readsTest : MethodName := ⟨RX9, "readsTest", "(I)Z"⟩
abbrev cX9_readsPart : ByteArray := prog_11_method_5_code
def yX9_readsPart : MethodName := ⟨RX9, "readsPart", "(I)Z"⟩
abbrev cX9_readsFact : ByteArray := prog_11_method_6_code
def yX9_readsFact : MethodName := ⟨RX9, "readsFact", "(I)Z"⟩
abbrev cX9_readsWithin : ByteArray := prog_11_method_7_code
def yX9_readsWithin : MethodName := ⟨RX9, "readsWithin", "(ZI)Z"⟩
abbrev cX9_readsSum : ByteArray := prog_11_method_8_code
def yX9_readsSum : MethodName := ⟨RX9, "readsSum", "()Z"⟩
abbrev cX9_readsValue : ByteArray := prog_11_method_9_code
def yX9_readsValue : MethodName := ⟨RX9, "readsValue", "()Z"⟩
abbrev cX9_writes : ByteArray := prog_11_method_10_code
def yX9_writes : MethodName := ⟨RX9, "writes", "(I)Z"⟩
abbrev cX9_comparisonOf : ByteArray := prog_11_method_11_code
def yX9_comparisonOf : MethodName := ⟨RX9, "comparisonOf", "(I)I"⟩
abbrev cX9_operationOf : ByteArray := prog_11_method_12_code
def yX9_operationOf : MethodName := ⟨RX9, "operationOf", "(I)I"⟩
def RX10 : String := "LinenName$Tape"
def TX10 : u_T := fun k => match k with
  | 0 => ("LinenName$Tape", "bytes", "[B", true)
  | 1 => ("LinenName$Tape", "size", "I", false)
  | 2 => ("LinenName$Tape", "fault", "I", false)
  | 3 => ("LinenName$Tape", "kind", "I", false)
  | 4 => ("LinenName$Tape", "start", "I", false)
  | _ => ("LinenName$Tape", "next", "I", false)
def tyX10 : Nat → FieldType := fun k => match k with
  | 0 => .array .byte
  | 1 => .int
  | 2 => .int
  | 3 => .int
  | 4 => .int
  | _ => .int
theorem nmX10 : ∀ a, a < 6 → ∀ b, b < 6 → a ≠ b → (TX10 a).2.1 ≠ (TX10 b).2.1 := by decide +kernel
theorem tyX10_ok : ∀ k, k < 6 → parseFieldDescriptor (TX10 k).2.2.1 = some (tyX10 k) := by decide +kernel
abbrev cX10_init : ByteArray := prog_12_method_1_code
def yX10_init : MethodName := ⟨RX10, "<init>", "()V"⟩
abbrev cX10_hasRoom : ByteArray := prog_12_method_2_code
def yX10_hasRoom : MethodName := ⟨RX10, "hasRoom", "()Z"⟩
abbrev cX10_put : ByteArray := prog_12_method_3_code
def yX10_put : MethodName := ⟨RX10, "put", "(I)V"⟩
abbrev cX10_rewind : ByteArray := prog_12_method_4_code
def yX10_rewind : MethodName := ⟨RX10, "rewind", "()V"⟩
abbrev cX10_step : ByteArray := prog_12_method_5_code
def yX10_step : MethodName := ⟨RX10, "step", "()V"⟩
abbrev cX10_isWord : ByteArray := prog_12_method_6_code
def yX10_isWord : MethodName := ⟨RX10, "isWord", "(Ljava/lang/String;)Z"⟩
abbrev cX10_isWordIn : ByteArray := prog_12_method_7_code
def yX10_isWordIn : MethodName := ⟨RX10, "isWordIn", "(Ljava/lang/String;II)Z"⟩
abbrev cX10_isTooLong : ByteArray := prog_12_method_8_code
def yX10_isTooLong : MethodName := ⟨RX10, "isTooLong", "()Z"⟩
abbrev cX10_number : ByteArray := prog_12_method_9_code
def yX10_number : MethodName := ⟨RX10, "number", "()I"⟩
abbrev cX10_takeNumber : ByteArray := prog_12_method_10_code
def yX10_takeNumber : MethodName := ⟨RX10, "takeNumber", "(II)I"⟩
abbrev cX10_fail : ByteArray := prog_12_method_11_code
def yX10_fail : MethodName := ⟨RX10, "fail", "(I)Z"⟩
abbrev cX10_byteAt : ByteArray := prog_12_method_12_code
def yX10_byteAt : MethodName := ⟨RX10, "byteAt", "(I)I"⟩
abbrev cX10_behind : ByteArray := prog_12_method_13_code
def yX10_behind : MethodName := ⟨RX10, "behind", "(III)I"⟩
def RX11 : String := "LinenName"
def TX11 : u_T := fun k => match k with
  | 0 => ("LinenName", "tape", "LLinenName$Tape;", true)
  | 1 => ("LinenName", "houseReader", "LLinenName$HouseReader;", true)
  | 2 => ("LinenName", "ruleReader", "LLinenName$RuleReader;", true)
  | 3 => ("LinenName", "rules", "[LLinenName$Rule;", true)
  | 4 => ("LinenName", "now", "LLinenName$Image;", true)
  | 5 => ("LinenName", "images", "[LLinenName$Image;", true)
  | 6 => ("LinenName", "past", "LLinenName$Past;", true)
  | 7 => ("LinenName", "laundry", "LLinenName$Laundry;", true)
  | 8 => ("LinenName", "orders", "LLinenName$Orders;", true)
  | 9 => ("LinenName", "contest", "LLinenName$Contest;", true)
  | 10 => ("LinenName", "asked", "LLinenName$Linen;", true)
  | 11 => ("LinenName", "tally", "[I", true)
  | 12 => ("LinenName", "ruleCount", "I", false)
  | _ => ("LinenName", "draft", "LLinenName$House;", false)
def tyX11 : Nat → FieldType := fun k => match k with
  | 0 => .object "LinenName$Tape"
  | 1 => .object "LinenName$HouseReader"
  | 2 => .object "LinenName$RuleReader"
  | 3 => .array (.object "LinenName$Rule")
  | 4 => .object "LinenName$Image"
  | 5 => .array (.object "LinenName$Image")
  | 6 => .object "LinenName$Past"
  | 7 => .object "LinenName$Laundry"
  | 8 => .object "LinenName$Orders"
  | 9 => .object "LinenName$Contest"
  | 10 => .object "LinenName$Linen"
  | 11 => .array .int
  | 12 => .int
  | _ => .object "LinenName$House"
theorem nmX11 : ∀ a, a < 14 → ∀ b, b < 14 → a ≠ b → (TX11 a).2.1 ≠ (TX11 b).2.1 := by decide +kernel
theorem tyX11_ok : ∀ k, k < 14 → parseFieldDescriptor (TX11 k).2.2.1 = some (tyX11 k) := by decide +kernel
abbrev cX11_init : ByteArray := prog_1_method_1_code
def yX11_init : MethodName := ⟨RX11, "<init>", "()V"⟩
abbrev cX11_feed : ByteArray := prog_1_method_2_code
def yX11_feed : MethodName := ⟨RX11, "feed", "(IIIII)I"⟩
abbrev cX11_end : ByteArray := prog_1_method_3_code
def yX11_end : MethodName := ⟨RX11, "end", "(I)I"⟩
abbrev cX11_house : ByteArray := prog_1_method_4_code
def yX11_house : MethodName := ⟨RX11, "house", "()I"⟩
abbrev cX11_rule : ByteArray := prog_1_method_5_code
def yX11_rule : MethodName := ⟨RX11, "rule", "()I"⟩
abbrev cX11_force : ByteArray := prog_1_method_6_code
def yX11_force : MethodName := ⟨RX11, "force", "(I)I"⟩
abbrev cX11_lodger : ByteArray := prog_1_method_7_code
def yX11_lodger : MethodName := ⟨RX11, "lodger", "(II)I"⟩
abbrev cX11_sheet : ByteArray := prog_1_method_8_code
def yX11_sheet : MethodName := ⟨RX11, "sheet", "(II)I"⟩
abbrev cX11_count : ByteArray := prog_1_method_9_code
def yX11_count : MethodName := ⟨RX11, "count", "(I)I"⟩
abbrev cX11_week : ByteArray := prog_1_method_10_code
def yX11_week : MethodName := ⟨RX11, "week", "()I"⟩
abbrev cX11_swap : ByteArray := prog_1_method_11_code
def yX11_swap : MethodName := ⟨RX11, "swap", "(II)I"⟩
abbrev cX11_starch : ByteArray := prog_1_method_12_code
def yX11_starch : MethodName := ⟨RX11, "starch", "(I)I"⟩
abbrev cX11_darn : ByteArray := prog_1_method_13_code
def yX11_darn : MethodName := ⟨RX11, "darn", "(I)I"⟩
abbrev cX11_undo : ByteArray := prog_1_method_14_code
def yX11_undo : MethodName := ⟨RX11, "undo", "()I"⟩
abbrev cX11_ahead : ByteArray := prog_1_method_15_code
def yX11_ahead : MethodName := ⟨RX11, "ahead", "(III)I"⟩
abbrev cX11_lets : ByteArray := prog_1_method_16_code
def yX11_lets : MethodName := ⟨RX11, "lets", "(II)I"⟩
abbrev cX11_turned : ByteArray := prog_1_method_17_code
def yX11_turned : MethodName := ⟨RX11, "turned", "(I)I"⟩
abbrev cX11_thin : ByteArray := prog_1_method_18_code
def yX11_thin : MethodName := ⟨RX11, "thin", "()I"⟩
abbrev cX11_home : ByteArray := prog_1_method_19_code
def yX11_home : MethodName := ⟨RX11, "home", "()I"⟩
abbrev cX11_carves : ByteArray := prog_1_method_20_code
def yX11_carves : MethodName := ⟨RX11, "carves", "(II)I"⟩
abbrev cX11_lock : ByteArray := prog_1_method_21_code
def yX11_lock : MethodName := ⟨RX11, "lock", "(II)I"⟩
abbrev cX11_laundries : ByteArray := prog_1_method_22_code
def yX11_laundries : MethodName := ⟨RX11, "laundries", "(IIII)I"⟩
abbrev cX11_seed : ByteArray := prog_1_method_23_code
def yX11_seed : MethodName := ⟨RX11, "seed", "(I)I"⟩
abbrev cX11_ring : ByteArray := prog_1_method_24_code
def yX11_ring : MethodName := ⟨RX11, "ring", "(II)I"⟩
abbrev cX11_right : ByteArray := prog_1_method_25_code
def yX11_right : MethodName := ⟨RX11, "right", "(I)I"⟩
abbrev cX11_even : ByteArray := prog_1_method_26_code
def yX11_even : MethodName := ⟨RX11, "even", "()I"⟩
abbrev cX11_twos : ByteArray := prog_1_method_27_code
def yX11_twos : MethodName := ⟨RX11, "twos", "(I)I"⟩
abbrev cX11_nearer : ByteArray := prog_1_method_28_code
def yX11_nearer : MethodName := ⟨RX11, "nearer", "(I)I"⟩
abbrev cX11_most : ByteArray := prog_1_method_29_code
def yX11_most : MethodName := ⟨RX11, "most", "(I)I"⟩
abbrev cX11_told : ByteArray := prog_1_method_30_code
def yX11_told : MethodName := ⟨RX11, "told", "(II)I"⟩
abbrev cX11_pence : ByteArray := prog_1_method_31_code
def yX11_pence : MethodName := ⟨RX11, "pence", "(II)I"⟩
abbrev cX11_game : ByteArray := prog_1_method_32_code
def yX11_game : MethodName := ⟨RX11, "game", "(IIII)I"⟩
abbrev cX11_note : ByteArray := prog_1_method_33_code
def yX11_note : MethodName := ⟨RX11, "note", "(III)I"⟩
abbrev cX11_ruled : ByteArray := prog_1_method_34_code
def yX11_ruled : MethodName := ⟨RX11, "ruled", "(I)I"⟩
abbrev cX11_look : ByteArray := prog_1_method_35_code
def yX11_look : MethodName := ⟨RX11, "look", "(II)I"⟩
abbrev cX11_image : ByteArray := prog_1_method_36_code
def yX11_image : MethodName := ⟨RX11, "image", "(I)I"⟩
abbrev cX11_back : ByteArray := prog_1_method_37_code
def yX11_back : MethodName := ⟨RX11, "back", "(I)I"⟩
abbrev cX11_isWithin : ByteArray := prog_1_method_38_code
def yX11_isWithin : MethodName := ⟨RX11, "isWithin", "(III)Z"⟩
abbrev cX11_isLodger : ByteArray := prog_1_method_39_code
def yX11_isLodger : MethodName := ⟨RX11, "isLodger", "(I)Z"⟩
abbrev cX11_ruleOf : ByteArray := prog_1_method_40_code
def yX11_ruleOf : MethodName := ⟨RX11, "ruleOf", "(I)LLinenName$Rule;"⟩
abbrev cX11_goOn : ByteArray := prog_1_method_41_code
def yX11_goOn : MethodName := ⟨RX11, "goOn", "(II)V"⟩
abbrev cX11_firstOfPairs : ByteArray := prog_1_method_42_code
def yX11_firstOfPairs : MethodName := ⟨RX11, "firstOfPairs", "(IZ)I"⟩
abbrev cX11_betterForBoth : ByteArray := prog_1_method_43_code
def yX11_betterForBoth : MethodName := ⟨RX11, "betterForBoth", "(II)Z"⟩
abbrev cX11_whatOneHas : ByteArray := prog_1_method_44_code
def yX11_whatOneHas : MethodName := ⟨RX11, "whatOneHas", "(II)I"⟩
abbrev cX11_comesNearer : ByteArray := prog_1_method_45_code
def yX11_comesNearer : MethodName := ⟨RX11, "comesNearer", "(II)Z"⟩
abbrev cX11_nextX : ByteArray := prog_1_method_46_code
def yX11_nextX : MethodName := ⟨RX11, "nextX", "(I)I"⟩
abbrev cX11_drawOf : ByteArray := prog_1_method_47_code
def yX11_drawOf : MethodName := ⟨RX11, "drawOf", "(I)I"⟩
abbrev cX11_mixByDraws : ByteArray := prog_1_method_48_code
def yX11_mixByDraws : MethodName := ⟨RX11, "mixByDraws", "(II)I"⟩
abbrev cX11_bearsOutNotes : ByteArray := prog_1_method_49_code
def yX11_bearsOutNotes : MethodName := ⟨RX11, "bearsOutNotes", "(I)Z"⟩
abbrev cX11_tallySheets : ByteArray := prog_1_method_50_code
def yX11_tallySheets : MethodName := ⟨RX11, "tallySheets", "(II)V"⟩
abbrev cX11_mostAlike : ByteArray := prog_1_method_51_code
def yX11_mostAlike : MethodName := ⟨RX11, "mostAlike", "(I)I"⟩
def RX12 : String := "LinenNameModel"
def TX12 : u_T := fun k => match k with
  | 0 => ("LinenNameModel", "tape", "[B", true)
  | 1 => ("LinenNameModel", "taped", "I", false)
  | 2 => ("LinenNameModel", "rules", "I", false)
  | 3 => ("LinenNameModel", "sign", "[I", true)
  | 4 => ("LinenNameModel", "length", "[I", true)
  | 5 => ("LinenNameModel", "clause", "[I", true)
  | 6 => ("LinenNameModel", "clauses", "[I", true)
  | 7 => ("LinenNameModel", "read", "[I", true)
  | 8 => ("LinenNameModel", "next", "I", false)
  | 9 => ("LinenNameModel", "wrong", "I", false)
  | 10 => ("LinenNameModel", "number", "I", false)
  | 11 => ("LinenNameModel", "text", "I", false)
  | 12 => ("LinenNameModel", "made", "I", false)
  | 13 => ("LinenNameModel", "deep", "I", false)
  | 14 => ("LinenNameModel", "lines", "I", false)
  | 15 => ("LinenNameModel", "open", "[I", true)
  | 16 => ("LinenNameModel", "opened", "I", false)
  | 17 => ("LinenNameModel", "stack", "[J", true)
  | 18 => ("LinenNameModel", "top", "I", false)
  | 19 => ("LinenNameModel", "word", "[J", true)
  | 20 => ("LinenNameModel", "said", "[I", true)
  | 21 => ("LinenNameModel", "force", "I", false)
  | 22 => ("LinenNameModel", "x", "I", false)
  | 23 => ("LinenNameModel", "locked", "I", false)
  | 24 => ("LinenNameModel", "wasSaid", "[I", true)
  | 25 => ("LinenNameModel", "undone", "I", false)
  | 26 => ("LinenNameModel", "kept", "[I", true)
  | 27 => ("LinenNameModel", "order", "[I", true)
  | 28 => ("LinenNameModel", "bestOrder", "[I", true)
  | 29 => ("LinenNameModel", "bestWorth", "I", false)
  | 30 => ("LinenNameModel", "asked", "I", false)
  | 31 => ("LinenNameModel", "doneIn", "[I", true)
  | 32 => ("LinenNameModel", "bestIn", "[I", true)
  | 33 => ("LinenNameModel", "isBestIn", "[Z", true)
  | 34 => ("LinenNameModel", "firstDone", "I", false)
  | 35 => ("LinenNameModel", "isFit", "[Z", true)
  | 36 => ("LinenNameModel", "onThen", "[I", true)
  | 37 => ("LinenNameModel", "drawX", "J", false)
  | 38 => ("LinenNameModel", "images", "[I", true)
  | 39 => ("LinenNameModel", "imageForce", "[I", true)
  | 40 => ("LinenNameModel", "imageX", "[I", true)
  | _ => ("LinenNameModel", "isMade", "[Z", true)
def tyX12 : Nat → FieldType := fun k => match k with
  | 0 => .array .byte
  | 1 => .int
  | 2 => .int
  | 3 => .array .int
  | 4 => .array .int
  | 5 => .array .int
  | 6 => .array .int
  | 7 => .array .int
  | 8 => .int
  | 9 => .int
  | 10 => .int
  | 11 => .int
  | 12 => .int
  | 13 => .int
  | 14 => .int
  | 15 => .array .int
  | 16 => .int
  | 17 => .array .long
  | 18 => .int
  | 19 => .array .long
  | 20 => .array .int
  | 21 => .int
  | 22 => .int
  | 23 => .int
  | 24 => .array .int
  | 25 => .int
  | 26 => .array .int
  | 27 => .array .int
  | 28 => .array .int
  | 29 => .int
  | 30 => .int
  | 31 => .array .int
  | 32 => .array .int
  | 33 => .array .boolean
  | 34 => .int
  | 35 => .array .boolean
  | 36 => .array .int
  | 37 => .long
  | 38 => .array .int
  | 39 => .array .int
  | 40 => .array .int
  | _ => .array .boolean
theorem nmX12 : ∀ a, a < 42 → ∀ b, b < 42 → a ≠ b → (TX12 a).2.1 ≠ (TX12 b).2.1 := by decide +kernel
theorem tyX12_ok : ∀ k, k < 42 → parseFieldDescriptor (TX12 k).2.2.1 = some (tyX12 k) := by decide +kernel
abbrev cX12_init : ByteArray := prog_14_method_1_code
def yX12_init : MethodName := ⟨RX12, "<init>", "()V"⟩
abbrev cX12_in : ByteArray := prog_14_method_2_code
def yX12_in : MethodName := ⟨RX12, "in", "(JJJ)Z"⟩
abbrev cX12_isOf : ByteArray := prog_14_method_3_code
def yX12_isOf : MethodName := ⟨RX12, "isOf", "(II)Z"⟩
abbrev cX12_bits : ByteArray := prog_14_method_4_code
def yX12_bits : MethodName := ⟨RX12, "bits", "(I)I"⟩
abbrev cX12_four : ByteArray := prog_14_method_5_code
def yX12_four : MethodName := ⟨RX12, "four", "(I)V"⟩
abbrev cX12_feed : ByteArray := prog_14_method_6_code
def yX12_feed : MethodName := ⟨RX12, "feed", "(IIIII)I"⟩
abbrev cX12_end : ByteArray := prog_14_method_7_code
def yX12_end : MethodName := ⟨RX12, "end", "(I)I"⟩
abbrev cX12_fails : ByteArray := prog_14_method_8_code
def yX12_fails : MethodName := ⟨RX12, "fails", "(II)Z"⟩
abbrev cX12_see : ByteArray := prog_14_method_9_code
def yX12_see : MethodName := ⟨RX12, "see", "()I"⟩
abbrev cX12_isDigit : ByteArray := prog_14_method_10_code
def yX12_isDigit : MethodName := ⟨RX12, "isDigit", "(I)Z"⟩
abbrev cX12_isLetter : ByteArray := prog_14_method_11_code
def yX12_isLetter : MethodName := ⟨RX12, "isLetter", "(I)Z"⟩
abbrev cX12_isWord : ByteArray := prog_14_method_12_code
def yX12_isWord : MethodName := ⟨RX12, "isWord", "(J)Z"⟩
abbrev cX12_passWord : ByteArray := prog_14_method_13_code
def yX12_passWord : MethodName := ⟨RX12, "passWord", "()V"⟩
abbrev cX12_takesWord : ByteArray := prog_14_method_14_code
def yX12_takesWord : MethodName := ⟨RX12, "takesWord", "(J)Z"⟩
abbrev cX12_numberHere : ByteArray := prog_14_method_15_code
def yX12_numberHere : MethodName := ⟨RX12, "numberHere", "(II)Z"⟩
abbrev cX12_wordHere : ByteArray := prog_14_method_16_code
def yX12_wordHere : MethodName := ⟨RX12, "wordHere", "()I"⟩
abbrev cX12_puts : ByteArray := prog_14_method_17_code
def yX12_puts : MethodName := ⟨RX12, "puts", "(II)V"⟩
abbrev cX12_makes : ByteArray := prog_14_method_18_code
def yX12_makes : MethodName := ⟨RX12, "makes", "(I)Z"⟩
abbrev cX12_opens : ByteArray := prog_14_method_19_code
def yX12_opens : MethodName := ⟨RX12, "opens", "(I)Z"⟩
abbrev cX12_strength : ByteArray := prog_14_method_20_code
def yX12_strength : MethodName := ⟨RX12, "strength", "(I)I"⟩
abbrev cX12_layDown : ByteArray := prog_14_method_21_code
def yX12_layDown : MethodName := ⟨RX12, "layDown", "(I)V"⟩
abbrev cX12_value : ByteArray := prog_14_method_22_code
def yX12_value : MethodName := ⟨RX12, "value", "()Z"⟩
abbrev cX12_term : ByteArray := prog_14_method_23_code
def yX12_term : MethodName := ⟨RX12, "term", "()Z"⟩
abbrev cX12_sum : ByteArray := prog_14_method_24_code
def yX12_sum : MethodName := ⟨RX12, "sum", "()Z"⟩
abbrev cX12_compare : ByteArray := prog_14_method_25_code
def yX12_compare : MethodName := ⟨RX12, "compare", "()Z"⟩
abbrev cX12_fact : ByteArray := prog_14_method_26_code
def yX12_fact : MethodName := ⟨RX12, "fact", "()Z"⟩
abbrev cX12_isInside : ByteArray := prog_14_method_27_code
def yX12_isInside : MethodName := ⟨RX12, "isInside", "()Z"⟩
abbrev cX12_closes : ByteArray := prog_14_method_28_code
def yX12_closes : MethodName := ⟨RX12, "closes", "()V"⟩
abbrev cX12_tested : ByteArray := prog_14_method_29_code
def yX12_tested : MethodName := ⟨RX12, "tested", "()Z"⟩
abbrev cX12_isFoldHere : ByteArray := prog_14_method_30_code
def yX12_isFoldHere : MethodName := ⟨RX12, "isFoldHere", "()Z"⟩
abbrev cX12_cellHere : ByteArray := prog_14_method_31_code
def yX12_cellHere : MethodName := ⟨RX12, "cellHere", "(III)Z"⟩
abbrev cX12_isHouseHere : ByteArray := prog_14_method_32_code
def yX12_isHouseHere : MethodName := ⟨RX12, "isHouseHere", "(I)Z"⟩
abbrev cX12_isLodgerHere : ByteArray := prog_14_method_33_code
def yX12_isLodgerHere : MethodName := ⟨RX12, "isLodgerHere", "(I)Z"⟩
abbrev cX12_isMixHere : ByteArray := prog_14_method_34_code
def yX12_isMixHere : MethodName := ⟨RX12, "isMixHere", "(I)Z"⟩
abbrev cX12_houseLineHere : ByteArray := prog_14_method_35_code
def yX12_houseLineHere : MethodName := ⟨RX12, "houseLineHere", "(I)Z"⟩
abbrev cX12_isHouseWord : ByteArray := prog_14_method_36_code
def yX12_isHouseWord : MethodName := ⟨RX12, "isHouseWord", "()Z"⟩
abbrev cX12_clauseHere : ByteArray := prog_14_method_37_code
def yX12_clauseHere : MethodName := ⟨RX12, "clauseHere", "()Z"⟩
abbrev cX12_readsAll : ByteArray := prog_14_method_38_code
def yX12_readsAll : MethodName := ⟨RX12, "readsAll", "()Z"⟩
abbrev cX12_rule : ByteArray := prog_14_method_39_code
def yX12_rule : MethodName := ⟨RX12, "rule", "()I"⟩
abbrev cX12_house : ByteArray := prog_14_method_40_code
def yX12_house : MethodName := ⟨RX12, "house", "()I"⟩
abbrev cX12_isRule : ByteArray := prog_14_method_41_code
def yX12_isRule : MethodName := ⟨RX12, "isRule", "(I)Z"⟩
abbrev cX12_push : ByteArray := prog_14_method_42_code
def yX12_push : MethodName := ⟨RX12, "push", "(J)V"⟩
abbrev cX12_pop : ByteArray := prog_14_method_43_code
def yX12_pop : MethodName := ⟨RX12, "pop", "()J"⟩
abbrev cX12_one : ByteArray := prog_14_method_44_code
def yX12_one : MethodName := ⟨RX12, "one", "(IJJ)J"⟩
abbrev cX12_reckons : ByteArray := prog_14_method_45_code
def yX12_reckons : MethodName := ⟨RX12, "reckons", "(III)J"⟩
abbrev cX12_isHouse : ByteArray := prog_14_method_46_code
def yX12_isHouse : MethodName := ⟨RX12, "isHouse", "()Z"⟩
abbrev cX12_isBed : ByteArray := prog_14_method_47_code
def yX12_isBed : MethodName := ⟨RX12, "isBed", "(I)Z"⟩
abbrev cX12_sheetOn : ByteArray := prog_14_method_48_code
def yX12_sheetOn : MethodName := ⟨RX12, "sheetOn", "(I)I"⟩
abbrev cX12_bedOf : ByteArray := prog_14_method_49_code
def yX12_bedOf : MethodName := ⟨RX12, "bedOf", "(I)I"⟩
abbrev cX12_gradeOn : ByteArray := prog_14_method_50_code
def yX12_gradeOn : MethodName := ⟨RX12, "gradeOn", "(I)I"⟩
abbrev cX12_isLet : ByteArray := prog_14_method_51_code
def yX12_isLet : MethodName := ⟨RX12, "isLet", "(I)Z"⟩
abbrev cX12_letOnes : ByteArray := prog_14_method_52_code
def yX12_letOnes : MethodName := ⟨RX12, "letOnes", "()I"⟩
abbrev cX12_homeOnes : ByteArray := prog_14_method_53_code
def yX12_homeOnes : MethodName := ⟨RX12, "homeOnes", "()I"⟩
abbrev cX12_wasAll : ByteArray := prog_14_method_54_code
def yX12_wasAll : MethodName := ⟨RX12, "wasAll", "()I"⟩
abbrev cX12_begins : ByteArray := prog_14_method_55_code
def yX12_begins : MethodName := ⟨RX12, "begins", "()V"⟩
abbrev cX12_force : ByteArray := prog_14_method_56_code
def yX12_force : MethodName := ⟨RX12, "force", "(I)I"⟩
abbrev cX12_lodger : ByteArray := prog_14_method_57_code
def yX12_lodger : MethodName := ⟨RX12, "lodger", "(II)I"⟩
abbrev cX12_sheet : ByteArray := prog_14_method_58_code
def yX12_sheet : MethodName := ⟨RX12, "sheet", "(II)I"⟩
abbrev cX12_changes : ByteArray := prog_14_method_59_code
def yX12_changes : MethodName := ⟨RX12, "changes", "(II)V"⟩
abbrev cX12_summedBy : ByteArray := prog_14_method_60_code
def yX12_summedBy : MethodName := ⟨RX12, "summedBy", "(I)J"⟩
abbrev cX12_sumOf : ByteArray := prog_14_method_61_code
def yX12_sumOf : MethodName := ⟨RX12, "sumOf", "(II)J"⟩
abbrev cX12_folds : ByteArray := prog_14_method_62_code
def yX12_folds : MethodName := ⟨RX12, "folds", "()V"⟩
abbrev cX12_mixes : ByteArray := prog_14_method_63_code
def yX12_mixes : MethodName := ⟨RX12, "mixes", "()V"⟩
abbrev cX12_wears : ByteArray := prog_14_method_64_code
def yX12_wears : MethodName := ⟨RX12, "wears", "()V"⟩
abbrev cX12_passes : ByteArray := prog_14_method_65_code
def yX12_passes : MethodName := ⟨RX12, "passes", "()I"⟩
abbrev cX12_passesAll : ByteArray := prog_14_method_66_code
def yX12_passesAll : MethodName := ⟨RX12, "passesAll", "(I)V"⟩
abbrev cX12_keepsAct : ByteArray := prog_14_method_67_code
def yX12_keepsAct : MethodName := ⟨RX12, "keepsAct", "()V"⟩
abbrev cX12_undo : ByteArray := prog_14_method_68_code
def yX12_undo : MethodName := ⟨RX12, "undo", "()I"⟩
abbrev cX12_week : ByteArray := prog_14_method_69_code
def yX12_week : MethodName := ⟨RX12, "week", "()I"⟩
abbrev cX12_swap : ByteArray := prog_14_method_70_code
def yX12_swap : MethodName := ⟨RX12, "swap", "(II)I"⟩
abbrev cX12_starch : ByteArray := prog_14_method_71_code
def yX12_starch : MethodName := ⟨RX12, "starch", "(I)I"⟩
abbrev cX12_darn : ByteArray := prog_14_method_72_code
def yX12_darn : MethodName := ⟨RX12, "darn", "(I)I"⟩
abbrev cX12_keeps : ByteArray := prog_14_method_73_code
def yX12_keeps : MethodName := ⟨RX12, "keeps", "()V"⟩
abbrev cX12_laysBack : ByteArray := prog_14_method_74_code
def yX12_laysBack : MethodName := ⟨RX12, "laysBack", "()V"⟩
abbrev cX12_ahead : ByteArray := prog_14_method_75_code
def yX12_ahead : MethodName := ⟨RX12, "ahead", "(III)I"⟩
abbrev cX12_lets : ByteArray := prog_14_method_76_code
def yX12_lets : MethodName := ⟨RX12, "lets", "(II)I"⟩
abbrev cX12_ringOf : ByteArray := prog_14_method_77_code
def yX12_ringOf : MethodName := ⟨RX12, "ringOf", "(I)I"⟩
abbrev cX12_rings : ByteArray := prog_14_method_78_code
def yX12_rings : MethodName := ⟨RX12, "rings", "()I"⟩
abbrev cX12_ring : ByteArray := prog_14_method_79_code
def yX12_ring : MethodName := ⟨RX12, "ring", "(II)I"⟩
abbrev cX12_right : ByteArray := prog_14_method_80_code
def yX12_right : MethodName := ⟨RX12, "right", "(I)I"⟩
abbrev cX12_even : ByteArray := prog_14_method_81_code
def yX12_even : MethodName := ⟨RX12, "even", "()I"⟩
abbrev cX12_isInOrder : ByteArray := prog_14_method_82_code
def yX12_isInOrder : MethodName := ⟨RX12, "isInOrder", "(II)Z"⟩
abbrev cX12_letInOrder : ByteArray := prog_14_method_83_code
def yX12_letInOrder : MethodName := ⟨RX12, "letInOrder", "()I"⟩
abbrev cX12_changesTo : ByteArray := prog_14_method_84_code
def yX12_changesTo : MethodName := ⟨RX12, "changesTo", "()I"⟩
abbrev cX12_worthOfOrder : ByteArray := prog_14_method_85_code
def yX12_worthOfOrder : MethodName := ⟨RX12, "worthOfOrder", "()I"⟩
abbrev cX12_keepsOrder : ByteArray := prog_14_method_86_code
def yX12_keepsOrder : MethodName := ⟨RX12, "keepsOrder", "()V"⟩
abbrev cX12_findsOrder : ByteArray := prog_14_method_87_code
def yX12_findsOrder : MethodName := ⟨RX12, "findsOrder", "()V"⟩
abbrev cX12_most : ByteArray := prog_14_method_88_code
def yX12_most : MethodName := ⟨RX12, "most", "(I)I"⟩
abbrev cX12_told : ByteArray := prog_14_method_89_code
def yX12_told : MethodName := ⟨RX12, "told", "(II)I"⟩
abbrev cX12_hasBy : ByteArray := prog_14_method_90_code
def yX12_hasBy : MethodName := ⟨RX12, "hasBy", "(II)I"⟩
abbrev cX12_areBetterOff : ByteArray := prog_14_method_91_code
def yX12_areBetterOff : MethodName := ⟨RX12, "areBetterOff", "(II)Z"⟩
abbrev cX12_twosBy : ByteArray := prog_14_method_92_code
def yX12_twosBy : MethodName := ⟨RX12, "twosBy", "(ZI)I"⟩
abbrev cX12_twos : ByteArray := prog_14_method_93_code
def yX12_twos : MethodName := ⟨RX12, "twos", "(I)I"⟩
abbrev cX12_nearer : ByteArray := prog_14_method_94_code
def yX12_nearer : MethodName := ⟨RX12, "nearer", "(I)I"⟩
abbrev cX12_turned : ByteArray := prog_14_method_95_code
def yX12_turned : MethodName := ⟨RX12, "turned", "(I)I"⟩
abbrev cX12_thin : ByteArray := prog_14_method_96_code
def yX12_thin : MethodName := ⟨RX12, "thin", "()I"⟩
abbrev cX12_home : ByteArray := prog_14_method_97_code
def yX12_home : MethodName := ⟨RX12, "home", "()I"⟩
abbrev cX12_carves : ByteArray := prog_14_method_98_code
def yX12_carves : MethodName := ⟨RX12, "carves", "(II)I"⟩
abbrev cX12_letIn : ByteArray := prog_14_method_99_code
def yX12_letIn : MethodName := ⟨RX12, "letIn", "(I)I"⟩
abbrev cX12_lock : ByteArray := prog_14_method_100_code
def yX12_lock : MethodName := ⟨RX12, "lock", "(II)I"⟩
abbrev cX12_pence : ByteArray := prog_14_method_101_code
def yX12_pence : MethodName := ⟨RX12, "pence", "(II)I"⟩
abbrev cX12_beginsTurn : ByteArray := prog_14_method_102_code
def yX12_beginsTurn : MethodName := ⟨RX12, "beginsTurn", "(I)V"⟩
abbrev cX12_isWorth : ByteArray := prog_14_method_103_code
def yX12_isWorth : MethodName := ⟨RX12, "isWorth", "(II)V"⟩
abbrev cX12_does : ByteArray := prog_14_method_104_code
def yX12_does : MethodName := ⟨RX12, "does", "(I)V"⟩
abbrev cX12_doesNext : ByteArray := prog_14_method_105_code
def yX12_doesNext : MethodName := ⟨RX12, "doesNext", "(I)Z"⟩
abbrev cX12_plays : ByteArray := prog_14_method_106_code
def yX12_plays : MethodName := ⟨RX12, "plays", "(III)V"⟩
abbrev cX12_game : ByteArray := prog_14_method_107_code
def yX12_game : MethodName := ⟨RX12, "game", "(IIII)I"⟩
abbrev cX12_note : ByteArray := prog_14_method_108_code
def yX12_note : MethodName := ⟨RX12, "note", "(III)I"⟩
abbrev cX12_areNotesSo : ByteArray := prog_14_method_109_code
def yX12_areNotesSo : MethodName := ⟨RX12, "areNotesSo", "(I)Z"⟩
abbrev cX12_fillsFits : ByteArray := prog_14_method_110_code
def yX12_fillsFits : MethodName := ⟨RX12, "fillsFits", "(I)V"⟩
abbrev cX12_ruled : ByteArray := prog_14_method_111_code
def yX12_ruled : MethodName := ⟨RX12, "ruled", "(I)I"⟩
abbrev cX12_alikeAt : ByteArray := prog_14_method_112_code
def yX12_alikeAt : MethodName := ⟨RX12, "alikeAt", "(I)I"⟩
abbrev cX12_look : ByteArray := prog_14_method_113_code
def yX12_look : MethodName := ⟨RX12, "look", "(II)I"⟩
abbrev cX12_seed : ByteArray := prog_14_method_114_code
def yX12_seed : MethodName := ⟨RX12, "seed", "(I)I"⟩
abbrev cX12_draw : ByteArray := prog_14_method_115_code
def yX12_draw : MethodName := ⟨RX12, "draw", "(I)I"⟩
abbrev cX12_washes : ByteArray := prog_14_method_116_code
def yX12_washes : MethodName := ⟨RX12, "washes", "()V"⟩
abbrev cX12_laundries : ByteArray := prog_14_method_117_code
def yX12_laundries : MethodName := ⟨RX12, "laundries", "(IIII)I"⟩
abbrev cX12_count : ByteArray := prog_14_method_118_code
def yX12_count : MethodName := ⟨RX12, "count", "(I)I"⟩
abbrev cX12_image : ByteArray := prog_14_method_119_code
def yX12_image : MethodName := ⟨RX12, "image", "(I)I"⟩
abbrev cX12_back : ByteArray := prog_14_method_120_code
def yX12_back : MethodName := ⟨RX12, "back", "(I)I"⟩
def RJ0 : String := "java/lang/String"
abbrev cJ0_length_8abf5 : ByteArray := prog_18_method_54_code
def yJ0_length_8abf5 : MethodName := ⟨RJ0, "length", "()I"⟩
abbrev cJ0_charAt_5068e : ByteArray := prog_18_method_56_code
def yJ0_charAt_5068e : MethodName := ⟨RJ0, "charAt", "(I)C"⟩
abbrev cJ0_coder_7d493 : ByteArray := prog_18_method_152_code
def yJ0_coder_7d493 : MethodName := ⟨RJ0, "coder", "()B"⟩
abbrev cJ0_isLatin1_aae02 : ByteArray := prog_18_method_154_code
def yJ0_isLatin1_aae02 : MethodName := ⟨RJ0, "isLatin1", "()Z"⟩
abbrev cJ0_checkIndex_df160 : ByteArray := prog_18_method_155_code
def yJ0_checkIndex_df160 : MethodName := ⟨RJ0, "checkIndex", "(II)V"⟩
def RL : String := "LinenNameLaw"
abbrev cL_law : ByteArray := code
def yL_law : MethodName := ⟨RL, "law", "([I)Z"⟩
abbrev vwCl : List vw_C := [(RX0, TX0, 6), (RX1, TX1, 10), (RX2, TX2, 0), (RX3, TX3, 9), (RX4, TX4, 2), (RX5, TX5, 5), (RX6, TX6, 6), (RX7, TX7, 3), (RX8, TX8, 2), (RX9, TX9, 5), (RX10, TX10, 6), (RX11, TX11, 14), (RX12, TX12, 42)]
/-- the words of the tables that stay, whatever is linked -/
def lwG : List Cond := lw_tbl.filter goodWord
abbrev wsU (y : MethodName) (cc : ByteArray) (n : Nat) (ret : Option FieldType) : List Cond := .code y cc n ret :: lwG
theorem lw_k (i : Nat) {w : Cond} (h : lw_tbl[i]? = some w) (hg : goodWord w = true) : w ∈ lwG := List.mem_filter.mpr ⟨List.mem_of_getElem? h, hg⟩
theorem lwG_tbl {w : Cond} (h : w ∈ lwG) : w ∈ lw_tbl := (List.mem_filter.mp h).1
theorem lwG_good {w : Cond} (h : w ∈ lwG) : (w.onTables && w.keeps) = true ∨ ∃ ty, w = .arrayClass ty := good_of_word (List.mem_filter.mp h).2
theorem gI {y : MethodName} {cc : ByteArray} {n : Nat} {ret : Option FieldType} (h : Cond.code y cc n ret ∈ lwG) : GoodIn lwG (wsU y cc n ret) := fun w hw => by
  rcases List.mem_cons.mp hw with rfl | hw
  · exact ⟨h, lwG_good h⟩
  · exact ⟨hw, lwG_good hw⟩
theorem gV {own C : String} {i : Nat} {y : MethodName} {cc : ByteArray} {n : Nat} {ret : Option FieldType} (h1 : Cond.methodLink own i y ∈ lwG) (h2 : Cond.instanceMethod y ∈ lwG) (h3 : Cond.selects C y y ∈ lwG) (h4 : Cond.initialized C ∈ lwG) (h : Cond.code y cc n ret ∈ lwG) : GoodIn lwG (wsV own i C y (wsU y cc n ret)) := fun w hw => by
  rcases List.mem_append.mp hw with hw | hw
  · have hm : w ∈ lwG := by
      rcases List.mem_cons.mp hw with rfl | hw
      · exact h1
      rcases List.mem_cons.mp hw with rfl | hw
      · exact h2
      rcases List.mem_cons.mp hw with rfl | hw
      · exact h3
      rcases List.mem_cons.mp hw with rfl | hw
      · exact h4
      cases hw
    exact ⟨hm, lwG_good hm⟩
  · exact gI h w hw
theorem gS {own : String} {i : Nat} {y : MethodName} {cc : ByteArray} {n : Nat} {ret : Option FieldType} (h1 : Cond.methodLink own i y ∈ lwG) (h2 : Cond.static y ∈ lwG) (h4 : Cond.initialized own ∈ lwG) (h : Cond.code y cc n ret ∈ lwG) : GoodIn lwG (wsS own i y (wsU y cc n ret)) := fun w hw => by
  rcases List.mem_append.mp hw with hw | hw
  · have hm : w ∈ lwG := by
      rcases List.mem_cons.mp hw with rfl | hw
      · exact h1
      rcases List.mem_cons.mp hw with rfl | hw
      · exact h2
      rcases List.mem_cons.mp hw with rfl | hw
      · exact h4
      cases hw
    exact ⟨hm, lwG_good hm⟩
  · exact gI h w hw
/-- a class's field words, by their places in the tables -/
theorem lw_u {C : String} {T : u_T} {N : Nat} (ps : List Nat) (hp : ps.map (fun i => lw_tbl[i]?) = (u_ws C T N).map some) (hg : (u_ws C T N).all goodWord = true) : ∀ w ∈ u_ws C T N, w ∈ lwG := fun w hw => by
  obtain ⟨k, hk⟩ := List.getElem?_of_mem hw
  have h1 : (ps.map (fun i => lw_tbl[i]?))[k]? = some (some w) := by rw [hp, List.getElem?_map, hk]; rfl
  rw [List.getElem?_map] at h1
  cases hi : ps[k]? with
  | none => rw [hi] at h1; cases h1
  | some i => rw [hi] at h1; exact lw_k i (Option.some.inj h1) (List.all_eq_true.mp hg w hw)
theorem uX0 : ∀ w ∈ u_ws RX0 TX0 6, w ∈ lwG := lw_u [426, 428, 430, 432, 434, 436] (by decide +kernel) (by decide +kernel)
theorem vX0 : ∀ j, j < 6 → defaultValue (tyX0 j) = vp_V [.null, .int 0, .int 0, .int 0, .int 0, .int 0] j := by
  intro j hj
  rcases (show j = 0 ∨ j = 1 ∨ j = 2 ∨ j = 3 ∨ j = 4 ∨ j = 5 by omega) with rfl | rfl | rfl | rfl | rfl | rfl <;> rfl
theorem uX1 : ∀ w ∈ u_ws RX1 TX1 10, w ∈ lwG := lw_u [250, 252, 254, 256, 258, 260, 262, 264, 266, 268] (by decide +kernel) (by decide +kernel)
theorem vX1 : ∀ j, j < 10 → defaultValue (tyX1 j) = vp_V [.int 0, .int 0, .int 0, .int 0, .int 0, .null, .null, .null, .null, .null] j := by
  intro j hj
  rcases (show j = 0 ∨ j = 1 ∨ j = 2 ∨ j = 3 ∨ j = 4 ∨ j = 5 ∨ j = 6 ∨ j = 7 ∨ j = 8 ∨ j = 9 by omega) with rfl | rfl | rfl | rfl | rfl | rfl | rfl | rfl | rfl | rfl <;> rfl
theorem uX2 : ∀ w ∈ u_ws RX2 TX2 0, w ∈ lwG := lw_u [] (by decide +kernel) (by decide +kernel)
theorem vX2 : ∀ j, j < 0 → defaultValue (tyX2 j) = vp_V [] j := fun j h => absurd h (Nat.not_lt_zero j)
theorem uX3 : ∀ w ∈ u_ws RX3 TX3 9, w ∈ lwG := lw_u [329, 331, 333, 335, 337, 339, 341, 343, 345] (by decide +kernel) (by decide +kernel)
theorem vX3 : ∀ j, j < 9 → defaultValue (tyX3 j) = vp_V [.null, .null, .null, .null, .null, .int 0, .int 0, .int 0, .int 0] j := by
  intro j hj
  rcases (show j = 0 ∨ j = 1 ∨ j = 2 ∨ j = 3 ∨ j = 4 ∨ j = 5 ∨ j = 6 ∨ j = 7 ∨ j = 8 by omega) with rfl | rfl | rfl | rfl | rfl | rfl | rfl | rfl | rfl <;> rfl
theorem uX4 : ∀ w ∈ u_ws RX4 TX4 2, w ∈ lwG := lw_u [377, 379] (by decide +kernel) (by decide +kernel)
theorem vX4 : ∀ j, j < 2 → defaultValue (tyX4 j) = vp_V [.null, .null] j := by
  intro j hj
  rcases (show j = 0 ∨ j = 1 by omega) with rfl | rfl <;> rfl
theorem uX5 : ∀ w ∈ u_ws RX5 TX5 5, w ∈ lwG := lw_u [301, 303, 305, 307, 309] (by decide +kernel) (by decide +kernel)
theorem vX5 : ∀ j, j < 5 → defaultValue (tyX5 j) = vp_V [.null, .null, .null, .null, .int 0] j := by
  intro j hj
  rcases (show j = 0 ∨ j = 1 ∨ j = 2 ∨ j = 3 ∨ j = 4 by omega) with rfl | rfl | rfl | rfl | rfl <;> rfl
theorem uX6 : ∀ w ∈ u_ws RX6 TX6 6, w ∈ lwG := lw_u [397, 399, 401, 403, 405, 407] (by decide +kernel) (by decide +kernel)
theorem vX6 : ∀ j, j < 6 → defaultValue (tyX6 j) = vp_V [.null, .null, .null, .null, .null, .int 0] j := by
  intro j hj
  rcases (show j = 0 ∨ j = 1 ∨ j = 2 ∨ j = 3 ∨ j = 4 ∨ j = 5 by omega) with rfl | rfl | rfl | rfl | rfl | rfl <;> rfl
theorem uX7 : ∀ w ∈ u_ws RX7 TX7 3, w ∈ lwG := lw_u [362, 364, 366] (by decide +kernel) (by decide +kernel)
theorem vX7 : ∀ j, j < 3 → defaultValue (tyX7 j) = vp_V [.null, .int 0, .int 0] j := by
  intro j hj
  rcases (show j = 0 ∨ j = 1 ∨ j = 2 by omega) with rfl | rfl | rfl <;> rfl
theorem uX8 : ∀ w ∈ u_ws RX8 TX8 2, w ∈ lwG := lw_u [711, 713] (by decide +kernel) (by decide +kernel)
theorem vX8 : ∀ j, j < 2 → defaultValue (tyX8 j) = vp_V [.null, .null] j := by
  intro j hj
  rcases (show j = 0 ∨ j = 1 by omega) with rfl | rfl <;> rfl
theorem uX9 : ∀ w ∈ u_ws RX9 TX9 5, w ∈ lwG := lw_u [187, 189, 191, 193, 195] (by decide +kernel) (by decide +kernel)
theorem vX9 : ∀ j, j < 5 → defaultValue (tyX9 j) = vp_V [.null, .null, .null, .int 0, .int 0] j := by
  intro j hj
  rcases (show j = 0 ∨ j = 1 ∨ j = 2 ∨ j = 3 ∨ j = 4 by omega) with rfl | rfl | rfl | rfl | rfl <;> rfl
theorem uX10 : ∀ w ∈ u_ws RX10 TX10 6, w ∈ lwG := lw_u [155, 157, 159, 161, 163, 165] (by decide +kernel) (by decide +kernel)
theorem vX10 : ∀ j, j < 6 → defaultValue (tyX10 j) = vp_V [.null, .int 0, .int 0, .int 0, .int 0, .int 0] j := by
  intro j hj
  rcases (show j = 0 ∨ j = 1 ∨ j = 2 ∨ j = 3 ∨ j = 4 ∨ j = 5 by omega) with rfl | rfl | rfl | rfl | rfl | rfl <;> rfl
theorem uX11 : ∀ w ∈ u_ws RX11 TX11 14, w ∈ lwG := lw_u [457, 459, 461, 463, 465, 467, 469, 471, 473, 475, 477, 479, 481, 483] (by decide +kernel) (by decide +kernel)
theorem vX11 : ∀ j, j < 14 → defaultValue (tyX11 j) = vp_V [.null, .null, .null, .null, .null, .null, .null, .null, .null, .null, .null, .null, .int 0, .null] j := by
  intro j hj
  rcases (show j = 0 ∨ j = 1 ∨ j = 2 ∨ j = 3 ∨ j = 4 ∨ j = 5 ∨ j = 6 ∨ j = 7 ∨ j = 8 ∨ j = 9 ∨ j = 10 ∨ j = 11 ∨ j = 12 ∨ j = 13 by omega) with rfl | rfl | rfl | rfl | rfl | rfl | rfl | rfl | rfl | rfl | rfl | rfl | rfl | rfl <;> rfl
theorem uX12 : ∀ w ∈ u_ws RX12 TX12 42, w ∈ lwG := lw_u [1114, 1116, 1118, 1120, 1122, 1124, 1126, 1128, 1130, 1132, 1134, 1136, 1138, 1140, 1142, 1144, 1146, 1148, 1150, 1152, 1154, 1156, 1158, 1160, 1162, 1164, 1166, 1168, 1170, 1172, 1174, 1176, 1178, 1180, 1182, 1184, 1186, 1188, 1190, 1192, 1194, 1196] (by decide +kernel) (by decide +kernel)
theorem vX12 : ∀ j, j < 42 → defaultValue (tyX12 j) = vp_V [.null, .int 0, .int 0, .null, .null, .null, .null, .null, .int 0, .int 0, .int 0, .int 0, .int 0, .int 0, .int 0, .null, .int 0, .null, .int 0, .null, .null, .int 0, .int 0, .int 0, .null, .int 0, .null, .null, .null, .int 0, .int 0, .null, .null, .null, .int 0, .null, .null, .long 0, .null, .null, .null, .null] j := by
  intro j hj
  rcases (show j = 0 ∨ j = 1 ∨ j = 2 ∨ j = 3 ∨ j = 4 ∨ j = 5 ∨ j = 6 ∨ j = 7 ∨ j = 8 ∨ j = 9 ∨ j = 10 ∨ j = 11 ∨ j = 12 ∨ j = 13 ∨ j = 14 ∨ j = 15 ∨ j = 16 ∨ j = 17 ∨ j = 18 ∨ j = 19 ∨ j = 20 ∨ j = 21 ∨ j = 22 ∨ j = 23 ∨ j = 24 ∨ j = 25 ∨ j = 26 ∨ j = 27 ∨ j = 28 ∨ j = 29 ∨ j = 30 ∨ j = 31 ∨ j = 32 ∨ j = 33 ∨ j = 34 ∨ j = 35 ∨ j = 36 ∨ j = 37 ∨ j = 38 ∨ j = 39 ∨ j = 40 ∨ j = 41 by omega) with rfl | rfl | rfl | rfl | rfl | rfl | rfl | rfl | rfl | rfl | rfl | rfl | rfl | rfl | rfl | rfl | rfl | rfl | rfl | rfl | rfl | rfl | rfl | rfl | rfl | rfl | rfl | rfl | rfl | rfl | rfl | rfl | rfl | rfl | rfl | rfl | rfl | rfl | rfl | rfl | rfl | rfl <;> rfl
