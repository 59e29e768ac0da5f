def RX0 : String := "EvePost$CrossOne"
def TX0 : u_T := fun k => match k with
  | 0 => ("EvePost$Person", "number", "I", true)
  | 1 => ("EvePost$Person", "whom", "I", true)
  | _ => ("EvePost$Person", "many", "I", true)
def tyX0 : Nat → FieldType := fun k => match k with
  | 0 => .int
  | 1 => .int
  | _ => .int
abbrev wsX00 : List Cond := u_ws RX0 TX0 3
theorem nmX0 : ∀ a, a < 3 → ∀ b, b < 3 → a ≠ b → (TX0 a).2.1 ≠ (TX0 b).2.1 := by decide +kernel
theorem tyX0_ok : ∀ k, k < 3 → parseFieldDescriptor (TX0 k).2.2.1 = some (tyX0 k) := by decide +kernel
abbrev cX0_init : ByteArray := prog_2_method_1_code
def yX0_init : MethodName := ⟨RX0, "<init>", "(III)V"⟩
abbrev cX0_ownKind : ByteArray := prog_2_method_2_code
def yX0_ownKind : MethodName := ⟨RX0, "ownKind", "()I"⟩
abbrev cX0_doesIt : ByteArray := prog_2_method_3_code
def yX0_doesIt : MethodName := ⟨RX0, "doesIt", "(II)Z"⟩
abbrev cX0_size : ByteArray := prog_2_method_4_code
def yX0_size : MethodName := ⟨RX0, "size", "(LEvePost$Trail;)I"⟩
abbrev cX0_mark : ByteArray := prog_2_method_5_code
def yX0_mark : MethodName := ⟨RX0, "mark", "(LEvePost$Trail;)I"⟩
def RX1 : String := "EvePost$CrowdOne"
def TX1 : u_T := fun k => match k with
  | 0 => ("EvePost$Person", "number", "I", true)
  | 1 => ("EvePost$Person", "whom", "I", true)
  | _ => ("EvePost$Person", "many", "I", true)
def tyX1 : Nat → FieldType := fun k => match k with
  | 0 => .int
  | 1 => .int
  | _ => .int
abbrev wsX10 : List Cond := u_ws RX1 TX1 3
theorem nmX1 : ∀ a, a < 3 → ∀ b, b < 3 → a ≠ b → (TX1 a).2.1 ≠ (TX1 b).2.1 := by decide +kernel
theorem tyX1_ok : ∀ k, k < 3 → parseFieldDescriptor (TX1 k).2.2.1 = some (tyX1 k) := by decide +kernel
abbrev cX1_init : ByteArray := prog_3_method_1_code
def yX1_init : MethodName := ⟨RX1, "<init>", "(III)V"⟩
abbrev cX1_ownKind : ByteArray := prog_3_method_2_code
def yX1_ownKind : MethodName := ⟨RX1, "ownKind", "()I"⟩
abbrev cX1_doesIt : ByteArray := prog_3_method_3_code
def yX1_doesIt : MethodName := ⟨RX1, "doesIt", "(II)Z"⟩
abbrev cX1_size : ByteArray := prog_3_method_4_code
def yX1_size : MethodName := ⟨RX1, "size", "(LEvePost$Trail;)I"⟩
abbrev cX1_mark : ByteArray := prog_3_method_5_code
def yX1_mark : MethodName := ⟨RX1, "mark", "(LEvePost$Trail;)I"⟩
def RX2 : String := "EvePost$Foretold"
def TX2 : u_T := fun k => match k with
  | _ => ("EvePost$Foretold", "ways", "[[I", true)
def tyX2 : Nat → FieldType := fun k => match k with
  | _ => .array (.array .int)
abbrev wsX20 : List Cond := u_ws RX2 TX2 1
theorem nmX2 : ∀ a, a < 1 → ∀ b, b < 1 → a ≠ b → (TX2 a).2.1 ≠ (TX2 b).2.1 := by decide +kernel
theorem tyX2_ok : ∀ k, k < 1 → parseFieldDescriptor (TX2 k).2.2.1 = some (tyX2 k) := by decide +kernel
abbrev cX2_init : ByteArray := prog_4_method_1_code
def yX2_init : MethodName := ⟨RX2, "<init>", "()V"⟩
abbrev cX2_howManyAgree : ByteArray := prog_4_method_2_code
def yX2_howManyAgree : MethodName := ⟨RX2, "howManyAgree", "(LEvePost$Town;)I"⟩
abbrev cX2_agreeingLetter : ByteArray := prog_4_method_3_code
def yX2_agreeingLetter : MethodName := ⟨RX2, "agreeingLetter", "(LEvePost$Town;I)I"⟩
abbrev cX2_fullestLetter : ByteArray := prog_4_method_4_code
def yX2_fullestLetter : MethodName := ⟨RX2, "fullestLetter", "(LEvePost$Town;)I"⟩
abbrev cX2_likeliestLetter : ByteArray := prog_4_method_5_code
def yX2_likeliestLetter : MethodName := ⟨RX2, "likeliestLetter", "(LEvePost$Town;)I"⟩
abbrev cX2_whoHinders : ByteArray := prog_4_method_6_code
def yX2_whoHinders : MethodName := ⟨RX2, "whoHinders", "(LEvePost$Town;)I"⟩
abbrev cX2_whoCouldStop : ByteArray := prog_4_method_7_code
def yX2_whoCouldStop : MethodName := ⟨RX2, "whoCouldStop", "(LEvePost$Town;)I"⟩
abbrev cX2_howManyBring : ByteArray := prog_4_method_8_code
def yX2_howManyBring : MethodName := ⟨RX2, "howManyBring", "(LEvePost$Town;I)I"⟩
abbrev cX2_leastThatBrings : ByteArray := prog_4_method_9_code
def yX2_leastThatBrings : MethodName := ⟨RX2, "leastThatBrings", "(LEvePost$Town;I)I"⟩
abbrev cX2_howManyReadBy : ByteArray := prog_4_method_10_code
def yX2_howManyReadBy : MethodName := ⟨RX2, "howManyReadBy", "(LEvePost$Town;I)I"⟩
abbrev cX2_leastReadBy : ByteArray := prog_4_method_11_code
def yX2_leastReadBy : MethodName := ⟨RX2, "leastReadBy", "(LEvePost$Town;I)I"⟩
abbrev cX2_countChains : ByteArray := prog_4_method_12_code
def yX2_countChains : MethodName := ⟨RX2, "countChains", "(LEvePost$Town;I)I"⟩
abbrev cX2_letterOfFirstChain : ByteArray := prog_4_method_13_code
def yX2_letterOfFirstChain : MethodName := ⟨RX2, "letterOfFirstChain", "(LEvePost$Town;II)I"⟩
abbrev cX2_everybody : ByteArray := prog_4_method_14_code
def yX2_everybody : MethodName := ⟨RX2, "everybody", "(LEvePost$Town;)I"⟩
abbrev cX2_leastThatGoesOn : ByteArray := prog_4_method_15_code
def yX2_leastThatGoesOn : MethodName := ⟨RX2, "leastThatGoesOn", "(LEvePost$Town;II)I"⟩
abbrev cX2_waysAfter : ByteArray := prog_4_method_16_code
def yX2_waysAfter : MethodName := ⟨RX2, "waysAfter", "(LEvePost$Town;II)I"⟩
abbrev cX2_someAgrees : ByteArray := prog_4_method_17_code
def yX2_someAgrees : MethodName := ⟨RX2, "someAgrees", "(LEvePost$Town;II)Z"⟩
abbrev cX2_leastAgreeing : ByteArray := prog_4_method_18_code
def yX2_leastAgreeing : MethodName := ⟨RX2, "leastAgreeing", "(LEvePost$Town;II)I"⟩
def RX3 : String := "EvePost$LotOne"
def TX3 : u_T := fun k => match k with
  | 0 => ("EvePost$Person", "number", "I", true)
  | 1 => ("EvePost$Person", "whom", "I", true)
  | _ => ("EvePost$Person", "many", "I", true)
def tyX3 : Nat → FieldType := fun k => match k with
  | 0 => .int
  | 1 => .int
  | _ => .int
abbrev wsX30 : List Cond := u_ws RX3 TX3 3
theorem nmX3 : ∀ a, a < 3 → ∀ b, b < 3 → a ≠ b → (TX3 a).2.1 ≠ (TX3 b).2.1 := by decide +kernel
theorem tyX3_ok : ∀ k, k < 3 → parseFieldDescriptor (TX3 k).2.2.1 = some (tyX3 k) := by decide +kernel
abbrev cX3_init : ByteArray := prog_5_method_1_code
def yX3_init : MethodName := ⟨RX3, "<init>", "(III)V"⟩
abbrev cX3_ownKind : ByteArray := prog_5_method_2_code
def yX3_ownKind : MethodName := ⟨RX3, "ownKind", "()I"⟩
abbrev cX3_tenths : ByteArray := prog_5_method_3_code
def yX3_tenths : MethodName := ⟨RX3, "tenths", "(IIZ)I"⟩
abbrev cX3_turnsBy : ByteArray := prog_5_method_4_code
def yX3_turnsBy : MethodName := ⟨RX3, "turnsBy", "(J)Z"⟩
abbrev cX3_mark : ByteArray := prog_5_method_5_code
def yX3_mark : MethodName := ⟨RX3, "mark", "(LEvePost$Trail;)I"⟩
def RX4 : String := "EvePost$MoodyOne"
def TX4 : u_T := fun k => match k with
  | 0 => ("EvePost$Person", "number", "I", true)
  | 1 => ("EvePost$Person", "whom", "I", true)
  | _ => ("EvePost$Person", "many", "I", true)
def tyX4 : Nat → FieldType := fun k => match k with
  | 0 => .int
  | 1 => .int
  | _ => .int
abbrev wsX40 : List Cond := u_ws RX4 TX4 3
theorem nmX4 : ∀ a, a < 3 → ∀ b, b < 3 → a ≠ b → (TX4 a).2.1 ≠ (TX4 b).2.1 := by decide +kernel
theorem tyX4_ok : ∀ k, k < 3 → parseFieldDescriptor (TX4 k).2.2.1 = some (tyX4 k) := by decide +kernel
abbrev cX4_init : ByteArray := prog_6_method_1_code
def yX4_init : MethodName := ⟨RX4, "<init>", "(III)V"⟩
abbrev cX4_ownKind : ByteArray := prog_6_method_2_code
def yX4_ownKind : MethodName := ⟨RX4, "ownKind", "()I"⟩
abbrev cX4_doesIt : ByteArray := prog_6_method_3_code
def yX4_doesIt : MethodName := ⟨RX4, "doesIt", "(II)Z"⟩
abbrev cX4_size : ByteArray := prog_6_method_4_code
def yX4_size : MethodName := ⟨RX4, "size", "(LEvePost$Trail;)I"⟩
def RX5 : String := "EvePost$Person"
def TX5 : u_T := fun k => match k with
  | _ => ("", "", "", false)
def tyX5 : Nat → FieldType := fun k => match k with
  | _ => .int
abbrev wsX50 : List Cond := u_ws RX5 TX5 0
theorem nmX5 : ∀ a, a < 0 → ∀ b, b < 0 → a ≠ b → (TX5 a).2.1 ≠ (TX5 b).2.1 := by decide +kernel
theorem tyX5_ok : ∀ k, k < 0 → parseFieldDescriptor (TX5 k).2.2.1 = some (tyX5 k) := by decide +kernel
abbrev cX5_init : ByteArray := prog_7_method_1_code
def yX5_init : MethodName := ⟨RX5, "<init>", "(III)V"⟩
abbrev cX5_tenths : ByteArray := prog_7_method_4_code
def yX5_tenths : MethodName := ⟨RX5, "tenths", "(IIZ)I"⟩
abbrev cX5_size : ByteArray := prog_7_method_5_code
def yX5_size : MethodName := ⟨RX5, "size", "(LEvePost$Trail;)I"⟩
abbrev cX5_mark : ByteArray := prog_7_method_6_code
def yX5_mark : MethodName := ⟨RX5, "mark", "(LEvePost$Trail;)I"⟩
def RX6 : String := "EvePost$Rows"
def TX6 : u_T := fun k => match k with
  | 0 => ("EvePost$Rows", "items", "[[I", true)
  | 1 => ("EvePost$Rows", "lanes", "[I", true)
  | _ => ("EvePost$Rows", "sizes", "[I", true)
def tyX6 : Nat → FieldType := fun k => match k with
  | 0 => .array (.array .int)
  | 1 => .array .int
  | _ => .array .int
abbrev wsX60 : List Cond := u_ws RX6 TX6 3
theorem nmX6 : ∀ a, a < 3 → ∀ b, b < 3 → a ≠ b → (TX6 a).2.1 ≠ (TX6 b).2.1 := by decide +kernel
theorem tyX6_ok : ∀ k, k < 3 → parseFieldDescriptor (TX6 k).2.2.1 = some (tyX6 k) := by decide +kernel
abbrev cX6_init : ByteArray := prog_8_method_1_code
def yX6_init : MethodName := ⟨RX6, "<init>", "()V"⟩
abbrev cX6_isPlace : ByteArray := prog_8_method_2_code
def yX6_isPlace : MethodName := ⟨RX6, "isPlace", "(I)Z"⟩
abbrev cX6_isLane : ByteArray := prog_8_method_3_code
def yX6_isLane : MethodName := ⟨RX6, "isLane", "(I)Z"⟩
abbrev cX6_isMissing : ByteArray := prog_8_method_4_code
def yX6_isMissing : MethodName := ⟨RX6, "isMissing", "(I)Z"⟩
abbrev cX6_areAlike : ByteArray := prog_8_method_5_code
def yX6_areAlike : MethodName := ⟨RX6, "areAlike", "(II)Z"⟩
abbrev cX6_reaches : ByteArray := prog_8_method_6_code
def yX6_reaches : MethodName := ⟨RX6, "reaches", "(III)Z"⟩
abbrev cX6_howMany : ByteArray := prog_8_method_7_code
def yX6_howMany : MethodName := ⟨RX6, "howMany", "()I"⟩
abbrev cX6_put : ByteArray := prog_8_method_8_code
def yX6_put : MethodName := ⟨RX6, "put", "(III)V"⟩
abbrev cX6_take : ByteArray := prog_8_method_9_code
def yX6_take : MethodName := ⟨RX6, "take", "(I)I"⟩
abbrev cX6_item : ByteArray := prog_8_method_10_code
def yX6_item : MethodName := ⟨RX6, "item", "(II)I"⟩
abbrev cX6_write : ByteArray := prog_8_method_11_code
def yX6_write : MethodName := ⟨RX6, "write", "(III)I"⟩
abbrev cX6_carry : ByteArray := prog_8_method_12_code
def yX6_carry : MethodName := ⟨RX6, "carry", "(IIIII)V"⟩
abbrev cX6_narrowed : ByteArray := prog_8_method_13_code
def yX6_narrowed : MethodName := ⟨RX6, "narrowed", "(II)I"⟩
def RX7 : String := "EvePost$Tape"
def TX7 : u_T := fun k => match k with
  | 0 => ("EvePost$Tape", "bytes", "[B", true)
  | 1 => ("EvePost$Tape", "length", "I", false)
  | 2 => ("EvePost$Tape", "people", "[LEvePost$Person;", true)
  | 3 => ("EvePost$Tape", "peopleRead", "I", false)
  | 4 => ("EvePost$Tape", "fault", "I", false)
  | 5 => ("EvePost$Tape", "token", "I", false)
  | 6 => ("EvePost$Tape", "first", "I", false)
  | _ => ("EvePost$Tape", "behind", "I", false)
def tyX7 : Nat → FieldType := fun k => match k with
  | 0 => .array .byte
  | 1 => .int
  | 2 => .array (.object "EvePost$Person")
  | 3 => .int
  | 4 => .int
  | 5 => .int
  | 6 => .int
  | _ => .int
abbrev wsX70 : List Cond := u_ws RX7 TX7 8
theorem nmX7 : ∀ a, a < 8 → ∀ b, b < 8 → a ≠ b → (TX7 a).2.1 ≠ (TX7 b).2.1 := by decide +kernel
theorem tyX7_ok : ∀ k, k < 8 → parseFieldDescriptor (TX7 k).2.2.1 = some (tyX7 k) := by decide +kernel
abbrev cX7_init : ByteArray := prog_9_method_1_code
def yX7_init : MethodName := ⟨RX7, "<init>", "()V"⟩
abbrev cX7_size : ByteArray := prog_9_method_2_code
def yX7_size : MethodName := ⟨RX7, "size", "()I"⟩
abbrev cX7_latestFault : ByteArray := prog_9_method_3_code
def yX7_latestFault : MethodName := ⟨RX7, "latestFault", "()I"⟩
abbrev cX7_peopleRead : ByteArray := prog_9_method_4_code
def yX7_peopleRead : MethodName := ⟨RX7, "peopleRead", "()I"⟩
abbrev cX7_reading : ByteArray := prog_9_method_5_code
def yX7_reading : MethodName := ⟨RX7, "reading", "(I)LEvePost$Person;"⟩
abbrev cX7_hasRoom : ByteArray := prog_9_method_6_code
def yX7_hasRoom : MethodName := ⟨RX7, "hasRoom", "(I)Z"⟩
abbrev cX7_append : ByteArray := prog_9_method_7_code
def yX7_append : MethodName := ⟨RX7, "append", "(JI)I"⟩
abbrev cX7_read : ByteArray := prog_9_method_8_code
def yX7_read : MethodName := ⟨RX7, "read", "()I"⟩
abbrev cX7_readPerson : ByteArray := prog_9_method_9_code
def yX7_readPerson : MethodName := ⟨RX7, "readPerson", "()Z"⟩
abbrev cX7_faulty : ByteArray := prog_9_method_10_code
def yX7_faulty : MethodName := ⟨RX7, "faulty", "(I)Z"⟩
abbrev cX7_isNumberUpTo : ByteArray := prog_9_method_11_code
def yX7_isNumberUpTo : MethodName := ⟨RX7, "isNumberUpTo", "(I)Z"⟩
abbrev cX7_kindAtHand : ByteArray := prog_9_method_12_code
def yX7_kindAtHand : MethodName := ⟨RX7, "kindAtHand", "()I"⟩
abbrev cX7_newPerson : ByteArray := prog_9_method_13_code
def yX7_newPerson : MethodName := ⟨RX7, "newPerson", "(IIII)LEvePost$Person;"⟩
abbrev cX7_step : ByteArray := prog_9_method_14_code
def yX7_step : MethodName := ⟨RX7, "step", "()V"⟩
abbrev cX7_isWord : ByteArray := prog_9_method_15_code
def yX7_isWord : MethodName := ⟨RX7, "isWord", "(Ljava/lang/String;)Z"⟩
abbrev cX7_numberAtHand : ByteArray := prog_9_method_16_code
def yX7_numberAtHand : MethodName := ⟨RX7, "numberAtHand", "()I"⟩
abbrev cX7_byteAt : ByteArray := prog_9_method_17_code
def yX7_byteAt : MethodName := ⟨RX7, "byteAt", "(I)I"⟩
abbrev cX7_isBlank : ByteArray := prog_9_method_18_code
def yX7_isBlank : MethodName := ⟨RX7, "isBlank", "(I)Z"⟩
abbrev cX7_isLetter : ByteArray := prog_9_method_19_code
def yX7_isLetter : MethodName := ⟨RX7, "isLetter", "(I)Z"⟩
abbrev cX7_isFigure : ByteArray := prog_9_method_20_code
def yX7_isFigure : MethodName := ⟨RX7, "isFigure", "(I)Z"⟩
def RX8 : String := "EvePost$Town"
def TX8 : u_T := fun k => match k with
  | 0 => ("EvePost$Town", "people", "[LEvePost$Person;", true)
  | 1 => ("EvePost$Town", "size", "I", false)
  | 2 => ("EvePost$Town", "day", "I", false)
  | 3 => ("EvePost$Town", "before", "I", false)
  | 4 => ("EvePost$Town", "fresh", "[I", true)
  | _ => ("EvePost$Town", "moody", "I", false)
def tyX8 : Nat → FieldType := fun k => match k with
  | 0 => .array (.object "EvePost$Person")
  | 1 => .int
  | 2 => .int
  | 3 => .int
  | 4 => .array .int
  | _ => .int
abbrev wsX80 : List Cond := u_ws RX8 TX8 6
theorem nmX8 : ∀ a, a < 6 → ∀ b, b < 6 → a ≠ b → (TX8 a).2.1 ≠ (TX8 b).2.1 := by decide +kernel
theorem tyX8_ok : ∀ k, k < 6 → parseFieldDescriptor (TX8 k).2.2.1 = some (tyX8 k) := by decide +kernel
abbrev cX8_init : ByteArray := prog_10_method_1_code
def yX8_init : MethodName := ⟨RX8, "<init>", "()V"⟩
abbrev cX8_isNone : ByteArray := prog_10_method_2_code
def yX8_isNone : MethodName := ⟨RX8, "isNone", "()Z"⟩
abbrev cX8_size : ByteArray := prog_10_method_3_code
def yX8_size : MethodName := ⟨RX8, "size", "()I"⟩
abbrev cX8_day : ByteArray := prog_10_method_4_code
def yX8_day : MethodName := ⟨RX8, "day", "()I"⟩
abbrev cX8_before : ByteArray := prog_10_method_5_code
def yX8_before : MethodName := ⟨RX8, "before", "()I"⟩
abbrev cX8_letters : ByteArray := prog_10_method_6_code
def yX8_letters : MethodName := ⟨RX8, "letters", "()I"⟩
abbrev cX8_isSet : ByteArray := prog_10_method_7_code
def yX8_isSet : MethodName := ⟨RX8, "isSet", "(I)Z"⟩
abbrev cX8_one : ByteArray := prog_10_method_8_code
def yX8_one : MethodName := ⟨RX8, "one", "(I)LEvePost$Person;"⟩
abbrev cX8_settle : ByteArray := prog_10_method_9_code
def yX8_settle : MethodName := ⟨RX8, "settle", "(LEvePost$Tape;)V"⟩
abbrev cX8_become : ByteArray := prog_10_method_10_code
def yX8_become : MethodName := ⟨RX8, "become", "(LEvePost$Town;)V"⟩
abbrev cX8_goOn : ByteArray := prog_10_method_11_code
def yX8_goOn : MethodName := ⟨RX8, "goOn", "(I)V"⟩
abbrev cX8_goBack : ByteArray := prog_10_method_12_code
def yX8_goBack : MethodName := ⟨RX8, "goBack", "(I)V"⟩
abbrev cX8_outcome : ByteArray := prog_10_method_13_code
def yX8_outcome : MethodName := ⟨RX8, "outcome", "(I)I"⟩
abbrev cX8_agrees : ByteArray := prog_10_method_14_code
def yX8_agrees : MethodName := ⟨RX8, "agrees", "(I)Z"⟩
abbrev cX8_agreesAfter : ByteArray := prog_10_method_15_code
def yX8_agreesAfter : MethodName := ⟨RX8, "agreesAfter", "(II)Z"⟩
abbrev cX8_moodOf : ByteArray := prog_10_method_16_code
def yX8_moodOf : MethodName := ⟨RX8, "moodOf", "(I)I"⟩
abbrev cX8_moodyAmong : ByteArray := prog_10_method_17_code
def yX8_moodyAmong : MethodName := ⟨RX8, "moodyAmong", "(I)I"⟩
abbrev cX8_outcomeByLots : ByteArray := prog_10_method_18_code
def yX8_outcomeByLots : MethodName := ⟨RX8, "outcomeByLots", "(II)I"⟩
abbrev cX8_chances : ByteArray := prog_10_method_19_code
def yX8_chances : MethodName := ⟨RX8, "chances", "(II)I"⟩
abbrev cX8_allChances : ByteArray := prog_10_method_20_code
def yX8_allChances : MethodName := ⟨RX8, "allChances", "()I"⟩
abbrev cX8_outcomeAfter : ByteArray := prog_10_method_21_code
def yX8_outcomeAfter : MethodName := ⟨RX8, "outcomeAfter", "(II)I"⟩
abbrev cX8_learn : ByteArray := prog_10_method_22_code
def yX8_learn : MethodName := ⟨RX8, "learn", "()V"⟩
abbrev cX8_freshOutcome : ByteArray := prog_10_method_23_code
def yX8_freshOutcome : MethodName := ⟨RX8, "freshOutcome", "(I)I"⟩
def RX9 : String := "EvePost$Trail"
def TX9 : u_T := fun k => match k with
  | 0 => ("EvePost$Trail", "left", "[I", true)
  | _ => ("EvePost$Trail", "length", "I", false)
def tyX9 : Nat → FieldType := fun k => match k with
  | 0 => .array .int
  | _ => .int
abbrev wsX90 : List Cond := u_ws RX9 TX9 2
theorem nmX9 : ∀ a, a < 2 → ∀ b, b < 2 → a ≠ b → (TX9 a).2.1 ≠ (TX9 b).2.1 := by decide +kernel
theorem tyX9_ok : ∀ k, k < 2 → parseFieldDescriptor (TX9 k).2.2.1 = some (tyX9 k) := by decide +kernel
abbrev cX9_init : ByteArray := prog_11_method_1_code
def yX9_init : MethodName := ⟨RX9, "<init>", "()V"⟩
abbrev cX9_clear : ByteArray := prog_11_method_2_code
def yX9_clear : MethodName := ⟨RX9, "clear", "()V"⟩
abbrev cX9_leave : ByteArray := prog_11_method_3_code
def yX9_leave : MethodName := ⟨RX9, "leave", "(I)V"⟩
abbrev cX9_at : ByteArray := prog_11_method_4_code
def yX9_at : MethodName := ⟨RX9, "at", "(I)I"⟩
def RX10 : String := "EvePost$TrueOne"
def TX10 : u_T := fun k => match k with
  | 0 => ("EvePost$Person", "number", "I", true)
  | 1 => ("EvePost$Person", "whom", "I", true)
  | _ => ("EvePost$Person", "many", "I", true)
def tyX10 : Nat → FieldType := fun k => match k with
  | 0 => .int
  | 1 => .int
  | _ => .int
abbrev wsX100 : List Cond := u_ws RX10 TX10 3
theorem nmX10 : ∀ a, a < 3 → ∀ b, b < 3 → a ≠ b → (TX10 a).2.1 ≠ (TX10 b).2.1 := by decide +kernel
theorem tyX10_ok : ∀ k, k < 3 → parseFieldDescriptor (TX10 k).2.2.1 = some (tyX10 k) := by decide +kernel
abbrev cX10_init : ByteArray := prog_12_method_1_code
def yX10_init : MethodName := ⟨RX10, "<init>", "(III)V"⟩
abbrev cX10_ownKind : ByteArray := prog_12_method_2_code
def yX10_ownKind : MethodName := ⟨RX10, "ownKind", "()I"⟩
abbrev cX10_doesIt : ByteArray := prog_12_method_3_code
def yX10_doesIt : MethodName := ⟨RX10, "doesIt", "(II)Z"⟩
abbrev cX10_size : ByteArray := prog_12_method_4_code
def yX10_size : MethodName := ⟨RX10, "size", "(LEvePost$Trail;)I"⟩
abbrev cX10_mark : ByteArray := prog_12_method_5_code
def yX10_mark : MethodName := ⟨RX10, "mark", "(LEvePost$Trail;)I"⟩
def RX11 : String := "EvePost"
def TX11 : u_T := fun k => match k with
  | 0 => ("EvePost", "shelf", "LEvePost$Rows;", true)
  | 1 => ("EvePost", "tape", "LEvePost$Tape;", true)
  | 2 => ("EvePost", "now", "LEvePost$Town;", true)
  | 3 => ("EvePost", "images", "[LEvePost$Town;", true)
  | 4 => ("EvePost", "foretold", "LEvePost$Foretold;", true)
  | 5 => ("EvePost", "trail", "LEvePost$Trail;", true)
  | 6 => ("EvePost", "undoable", "[I", true)
  | 7 => ("EvePost", "acts", "I", false)
  | _ => ("EvePost", "finding", "I", false)
def tyX11 : Nat → FieldType := fun k => match k with
  | 0 => .object "EvePost$Rows"
  | 1 => .object "EvePost$Tape"
  | 2 => .object "EvePost$Town"
  | 3 => .array (.object "EvePost$Town")
  | 4 => .object "EvePost$Foretold"
  | 5 => .object "EvePost$Trail"
  | 6 => .array .int
  | 7 => .int
  | _ => .int
abbrev wsX110 : List Cond := u_ws RX11 TX11 9
theorem nmX11 : ∀ a, a < 9 → ∀ b, b < 9 → a ≠ b → (TX11 a).2.1 ≠ (TX11 b).2.1 := by decide +kernel
theorem tyX11_ok : ∀ k, k < 9 → parseFieldDescriptor (TX11 k).2.2.1 = some (tyX11 k) := by decide +kernel
abbrev cX11_init : ByteArray := prog_1_method_1_code
def yX11_init : MethodName := ⟨RX11, "<init>", "()V"⟩
abbrev cX11_row : ByteArray := prog_1_method_2_code
def yX11_row : MethodName := ⟨RX11, "row", "(III)I"⟩
abbrev cX11_set : ByteArray := prog_1_method_3_code
def yX11_set : MethodName := ⟨RX11, "set", "(III)I"⟩
abbrev cX11_copy : ByteArray := prog_1_method_4_code
def yX11_copy : MethodName := ⟨RX11, "copy", "(IIIII)I"⟩
abbrev cX11_drop : ByteArray := prog_1_method_5_code
def yX11_drop : MethodName := ⟨RX11, "drop", "(I)I"⟩
abbrev cX11_feed : ByteArray := prog_1_method_6_code
def yX11_feed : MethodName := ⟨RX11, "feed", "(JI)I"⟩
abbrev cX11_town : ByteArray := prog_1_method_7_code
def yX11_town : MethodName := ⟨RX11, "town", "()I"⟩
abbrev cX11_fault : ByteArray := prog_1_method_8_code
def yX11_fault : MethodName := ⟨RX11, "fault", "()I"⟩
abbrev cX11_post : ByteArray := prog_1_method_9_code
def yX11_post : MethodName := ⟨RX11, "post", "(I)I"⟩
abbrev cX11_posts : ByteArray := prog_1_method_10_code
def yX11_posts : MethodName := ⟨RX11, "posts", "(III)I"⟩
abbrev cX11_lots : ByteArray := prog_1_method_11_code
def yX11_lots : MethodName := ⟨RX11, "lots", "(II)I"⟩
abbrev cX11_undo : ByteArray := prog_1_method_12_code
def yX11_undo : MethodName := ⟨RX11, "undo", "()I"⟩
abbrev cX11_person : ByteArray := prog_1_method_13_code
def yX11_person : MethodName := ⟨RX11, "person", "(II)I"⟩
abbrev cX11_done : ByteArray := prog_1_method_14_code
def yX11_done : MethodName := ⟨RX11, "done", "(I)I"⟩
abbrev cX11_agreeing : ByteArray := prog_1_method_15_code
def yX11_agreeing : MethodName := ⟨RX11, "agreeing", "(I)I"⟩
abbrev cX11_fullest : ByteArray := prog_1_method_16_code
def yX11_fullest : MethodName := ⟨RX11, "fullest", "()I"⟩
abbrev cX11_culprits : ByteArray := prog_1_method_17_code
def yX11_culprits : MethodName := ⟨RX11, "culprits", "(I)I"⟩
abbrev cX11_chains : ByteArray := prog_1_method_18_code
def yX11_chains : MethodName := ⟨RX11, "chains", "(II)I"⟩
abbrev cX11_breaks : ByteArray := prog_1_method_19_code
def yX11_breaks : MethodName := ⟨RX11, "breaks", "(III)I"⟩
abbrev cX11_comes : ByteArray := prog_1_method_20_code
def yX11_comes : MethodName := ⟨RX11, "comes", "(III)I"⟩
abbrev cX11_likeliest : ByteArray := prog_1_method_21_code
def yX11_likeliest : MethodName := ⟨RX11, "likeliest", "()I"⟩
abbrev cX11_lost : ByteArray := prog_1_method_22_code
def yX11_lost : MethodName := ⟨RX11, "lost", "(II)I"⟩
abbrev cX11_readBy : ByteArray := prog_1_method_23_code
def yX11_readBy : MethodName := ⟨RX11, "readBy", "(II)I"⟩
abbrev cX11_image : ByteArray := prog_1_method_24_code
def yX11_image : MethodName := ⟨RX11, "image", "(I)I"⟩
abbrev cX11_restore : ByteArray := prog_1_method_25_code
def yX11_restore : MethodName := ⟨RX11, "restore", "(I)I"⟩
abbrev cX11_kind : ByteArray := prog_1_method_26_code
def yX11_kind : MethodName := ⟨RX11, "kind", "(I)I"⟩
abbrev cX11_as : ByteArray := prog_1_method_27_code
def yX11_as : MethodName := ⟨RX11, "as", "(II)I"⟩
abbrev cX11_ask : ByteArray := prog_1_method_28_code
def yX11_ask : MethodName := ⟨RX11, "ask", "(II)I"⟩
abbrev cX11_trace : ByteArray := prog_1_method_29_code
def yX11_trace : MethodName := ⟨RX11, "trace", "(I)I"⟩
abbrev cX11_count : ByteArray := prog_1_method_30_code
def yX11_count : MethodName := ⟨RX11, "count", "(I)I"⟩
abbrev cX11_status : ByteArray := prog_1_method_31_code
def yX11_status : MethodName := ⟨RX11, "status", "()I"⟩
abbrev cX11_found : ByteArray := prog_1_method_32_code
def yX11_found : MethodName := ⟨RX11, "found", "(I)I"⟩
abbrev cX11_fine : ByteArray := prog_1_method_33_code
def yX11_fine : MethodName := ⟨RX11, "fine", "(I)I"⟩
abbrev cX11_refusalOfLetters : ByteArray := prog_1_method_34_code
def yX11_refusalOfLetters : MethodName := ⟨RX11, "refusalOfLetters", "(IIIII)I"⟩
abbrev cX11_act : ByteArray := prog_1_method_35_code
def yX11_act : MethodName := ⟨RX11, "act", "(I)V"⟩
abbrev cX11_imageAt : ByteArray := prog_1_method_36_code
def yX11_imageAt : MethodName := ⟨RX11, "imageAt", "(I)LEvePost$Town;"⟩
abbrev cX11_holds : ByteArray := prog_1_method_37_code
def yX11_holds : MethodName := ⟨RX11, "holds", "(II)Z"⟩
abbrev cX11_isOf : ByteArray := prog_1_method_38_code
def yX11_isOf : MethodName := ⟨RX11, "isOf", "(LEvePost$Person;I)Z"⟩
abbrev cX11_commonDivisor : ByteArray := prog_1_method_39_code
def yX11_commonDivisor : MethodName := ⟨RX11, "commonDivisor", "(II)I"⟩
def RX12 : String := "EvePostModel"
def TX12 : u_T := fun k => match k with
  | 0 => ("EvePostModel", "thrown", "I", false)
  | 1 => ("EvePostModel", "status", "I", false)
  | 2 => ("EvePostModel", "lane", "[I", true)
  | 3 => ("EvePostModel", "many", "[I", true)
  | 4 => ("EvePostModel", "item", "[I", true)
  | 5 => ("EvePostModel", "town", "[I", true)
  | 6 => ("EvePostModel", "fresh", "[I", true)
  | 7 => ("EvePostModel", "was", "[I", true)
  | 8 => ("EvePostModel", "acts", "I", false)
  | 9 => ("EvePostModel", "tape", "[I", true)
  | 10 => ("EvePostModel", "taped", "I", false)
  | 11 => ("EvePostModel", "latest", "I", false)
  | 12 => ("EvePostModel", "length", "I", false)
  | 13 => ("EvePostModel", "cursor", "I", false)
  | 14 => ("EvePostModel", "token", "I", false)
  | 15 => ("EvePostModel", "start", "I", false)
  | 16 => ("EvePostModel", "till", "I", false)
  | 17 => ("EvePostModel", "fault", "I", false)
  | 18 => ("EvePostModel", "faultAt", "I", false)
  | 19 => ("EvePostModel", "chained", "[I", true)
  | 20 => ("EvePostModel", "isKept", "[Z", true)
  | 21 => ("EvePostModel", "kept", "[I", true)
  | 22 => ("EvePostModel", "trace", "[I", true)
  | _ => ("EvePostModel", "traced", "I", false)
def tyX12 : Nat → FieldType := fun k => match k with
  | 0 => .int
  | 1 => .int
  | 2 => .array .int
  | 3 => .array .int
  | 4 => .array .int
  | 5 => .array .int
  | 6 => .array .int
  | 7 => .array .int
  | 8 => .int
  | 9 => .array .int
  | 10 => .int
  | 11 => .int
  | 12 => .int
  | 13 => .int
  | 14 => .int
  | 15 => .int
  | 16 => .int
  | 17 => .int
  | 18 => .int
  | 19 => .array .int
  | 20 => .array .boolean
  | 21 => .array .int
  | 22 => .array .int
  | _ => .int
abbrev wsX120 : List Cond := u_ws RX12 TX12 24
theorem nmX12 : ∀ a, a < 24 → ∀ b, b < 24 → a ≠ b → (TX12 a).2.1 ≠ (TX12 b).2.1 := by decide +kernel
theorem tyX12_ok : ∀ k, k < 24 → parseFieldDescriptor (TX12 k).2.2.1 = some (tyX12 k) := by decide +kernel
abbrev cX12_init : ByteArray := prog_14_method_1_code
def yX12_init : MethodName := ⟨RX12, "<init>", "()V"⟩
abbrev cX12_in : ByteArray := prog_14_method_3_code
def yX12_in : MethodName := ⟨RX12, "in", "(JJJ)Z"⟩
abbrev cX12_finding : ByteArray := prog_14_method_4_code
def yX12_finding : MethodName := ⟨RX12, "finding", "(I)I"⟩
abbrev cX12_isRow : ByteArray := prog_14_method_5_code
def yX12_isRow : MethodName := ⟨RX12, "isRow", "(I)Z"⟩
abbrev cX12_row : ByteArray := prog_14_method_6_code
def yX12_row : MethodName := ⟨RX12, "row", "(III)I"⟩
abbrev cX12_set : ByteArray := prog_14_method_7_code
def yX12_set : MethodName := ⟨RX12, "set", "(III)I"⟩
abbrev cX12_copy : ByteArray := prog_14_method_8_code
def yX12_copy : MethodName := ⟨RX12, "copy", "(IIIII)I"⟩
abbrev cX12_drop : ByteArray := prog_14_method_9_code
def yX12_drop : MethodName := ⟨RX12, "drop", "(I)I"⟩
abbrev cX12_feed : ByteArray := prog_14_method_10_code
def yX12_feed : MethodName := ⟨RX12, "feed", "(JI)I"⟩
abbrev cX12_byteAt : ByteArray := prog_14_method_11_code
def yX12_byteAt : MethodName := ⟨RX12, "byteAt", "(I)I"⟩
abbrev cX12_isLetter : ByteArray := prog_14_method_12_code
def yX12_isLetter : MethodName := ⟨RX12, "isLetter", "(I)Z"⟩
abbrev cX12_isFigure : ByteArray := prog_14_method_13_code
def yX12_isFigure : MethodName := ⟨RX12, "isFigure", "(I)Z"⟩
abbrev cX12_next : ByteArray := prog_14_method_14_code
def yX12_next : MethodName := ⟨RX12, "next", "()V"⟩
abbrev cX12_begin : ByteArray := prog_14_method_15_code
def yX12_begin : MethodName := ⟨RX12, "begin", "()V"⟩
abbrev cX12_bad : ByteArray := prog_14_method_16_code
def yX12_bad : MethodName := ⟨RX12, "bad", "(I)V"⟩
abbrev cX12_must : ByteArray := prog_14_method_17_code
def yX12_must : MethodName := ⟨RX12, "must", "(Z)V"⟩
abbrev cX12_name : ByteArray := prog_14_method_18_code
def yX12_name : MethodName := ⟨RX12, "name", "()J"⟩
abbrev cX12_figures : ByteArray := prog_14_method_19_code
def yX12_figures : MethodName := ⟨RX12, "figures", "()I"⟩
abbrev cX12_number : ByteArray := prog_14_method_20_code
def yX12_number : MethodName := ⟨RX12, "number", "(II)I"⟩
abbrev cX12_kindBy : ByteArray := prog_14_method_21_code
def yX12_kindBy : MethodName := ⟨RX12, "kindBy", "(J)I"⟩
abbrev cX12_readPerson : ByteArray := prog_14_method_22_code
def yX12_readPerson : MethodName := ⟨RX12, "readPerson", "()V"⟩
abbrev cX12_town : ByteArray := prog_14_method_23_code
def yX12_town : MethodName := ⟨RX12, "town", "()I"⟩
abbrev cX12_fault : ByteArray := prog_14_method_24_code
def yX12_fault : MethodName := ⟨RX12, "fault", "()I"⟩
abbrev cX12_isThere : ByteArray := prog_14_method_25_code
def yX12_isThere : MethodName := ⟨RX12, "isThere", "()Z"⟩
abbrev cX12_isPerson : ByteArray := prog_14_method_26_code
def yX12_isPerson : MethodName := ⟨RX12, "isPerson", "(I)Z"⟩
abbrev cX12_all : ByteArray := prog_14_method_27_code
def yX12_all : MethodName := ⟨RX12, "all", "()I"⟩
abbrev cX12_isSet : ByteArray := prog_14_method_28_code
def yX12_isSet : MethodName := ⟨RX12, "isSet", "(I)Z"⟩
abbrev cX12_of : ByteArray := prog_14_method_29_code
def yX12_of : MethodName := ⟨RX12, "of", "(II)I"⟩
abbrev cX12_bits : ByteArray := prog_14_method_30_code
def yX12_bits : MethodName := ⟨RX12, "bits", "(I)I"⟩
abbrev cX12_doesIt : ByteArray := prog_14_method_31_code
def yX12_doesIt : MethodName := ⟨RX12, "doesIt", "(III)Z"⟩
abbrev cX12_doneBy : ByteArray := prog_14_method_32_code
def yX12_doneBy : MethodName := ⟨RX12, "doneBy", "(IIII)I"⟩
abbrev cX12_isAgreed : ByteArray := prog_14_method_33_code
def yX12_isAgreed : MethodName := ⟨RX12, "isAgreed", "(II)Z"⟩
abbrev cX12_keep : ByteArray := prog_14_method_34_code
def yX12_keep : MethodName := ⟨RX12, "keep", "()V"⟩
abbrev cX12_goDay : ByteArray := prog_14_method_35_code
def yX12_goDay : MethodName := ⟨RX12, "goDay", "(I)V"⟩
abbrev cX12_post : ByteArray := prog_14_method_36_code
def yX12_post : MethodName := ⟨RX12, "post", "(I)I"⟩
abbrev cX12_lacks : ByteArray := prog_14_method_37_code
def yX12_lacks : MethodName := ⟨RX12, "lacks", "(III)I"⟩
abbrev cX12_areSets : ByteArray := prog_14_method_38_code
def yX12_areSets : MethodName := ⟨RX12, "areSets", "(II)Z"⟩
abbrev cX12_posts : ByteArray := prog_14_method_39_code
def yX12_posts : MethodName := ⟨RX12, "posts", "(III)I"⟩
abbrev cX12_lots : ByteArray := prog_14_method_40_code
def yX12_lots : MethodName := ⟨RX12, "lots", "(II)I"⟩
abbrev cX12_undo : ByteArray := prog_14_method_41_code
def yX12_undo : MethodName := ⟨RX12, "undo", "()I"⟩
abbrev cX12_person : ByteArray := prog_14_method_42_code
def yX12_person : MethodName := ⟨RX12, "person", "(II)I"⟩
abbrev cX12_done : ByteArray := prog_14_method_43_code
def yX12_done : MethodName := ⟨RX12, "done", "(I)I"⟩
abbrev cX12_agreeing : ByteArray := prog_14_method_44_code
def yX12_agreeing : MethodName := ⟨RX12, "agreeing", "(I)I"⟩
abbrev cX12_fullest : ByteArray := prog_14_method_45_code
def yX12_fullest : MethodName := ⟨RX12, "fullest", "()I"⟩
abbrev cX12_hasAny : ByteArray := prog_14_method_46_code
def yX12_hasAny : MethodName := ⟨RX12, "hasAny", "(II)Z"⟩
abbrev cX12_culprits : ByteArray := prog_14_method_47_code
def yX12_culprits : MethodName := ⟨RX12, "culprits", "(I)I"⟩
abbrev cX12_layChains : ByteArray := prog_14_method_48_code
def yX12_layChains : MethodName := ⟨RX12, "layChains", "()V"⟩
abbrev cX12_chains : ByteArray := prog_14_method_49_code
def yX12_chains : MethodName := ⟨RX12, "chains", "(II)I"⟩
abbrev cX12_breaks : ByteArray := prog_14_method_50_code
def yX12_breaks : MethodName := ⟨RX12, "breaks", "(III)I"⟩
abbrev cX12_oddsOf : ByteArray := prog_14_method_51_code
def yX12_oddsOf : MethodName := ⟨RX12, "oddsOf", "(II)I"⟩
abbrev cX12_oddsIn : ByteArray := prog_14_method_52_code
def yX12_oddsIn : MethodName := ⟨RX12, "oddsIn", "()I"⟩
abbrev cX12_comes : ByteArray := prog_14_method_53_code
def yX12_comes : MethodName := ⟨RX12, "comes", "(III)I"⟩
abbrev cX12_likeliest : ByteArray := prog_14_method_54_code
def yX12_likeliest : MethodName := ⟨RX12, "likeliest", "()I"⟩
abbrev cX12_lost : ByteArray := prog_14_method_55_code
def yX12_lost : MethodName := ⟨RX12, "lost", "(II)I"⟩
abbrev cX12_readBy : ByteArray := prog_14_method_56_code
def yX12_readBy : MethodName := ⟨RX12, "readBy", "(II)I"⟩
abbrev cX12_image : ByteArray := prog_14_method_57_code
def yX12_image : MethodName := ⟨RX12, "image", "(I)I"⟩
abbrev cX12_restore : ByteArray := prog_14_method_58_code
def yX12_restore : MethodName := ⟨RX12, "restore", "(I)I"⟩
abbrev cX12_isOf : ByteArray := prog_14_method_59_code
def yX12_isOf : MethodName := ⟨RX12, "isOf", "(II)Z"⟩
abbrev cX12_kind : ByteArray := prog_14_method_60_code
def yX12_kind : MethodName := ⟨RX12, "kind", "(I)I"⟩
abbrev cX12_as : ByteArray := prog_14_method_61_code
def yX12_as : MethodName := ⟨RX12, "as", "(II)I"⟩
abbrev cX12_began : ByteArray := prog_14_method_62_code
def yX12_began : MethodName := ⟨RX12, "began", "(I)V"⟩
abbrev cX12_plainSize : ByteArray := prog_14_method_63_code
def yX12_plainSize : MethodName := ⟨RX12, "plainSize", "(I)I"⟩
abbrev cX12_crowdSize : ByteArray := prog_14_method_64_code
def yX12_crowdSize : MethodName := ⟨RX12, "crowdSize", "(I)I"⟩
abbrev cX12_markOf : ByteArray := prog_14_method_65_code
def yX12_markOf : MethodName := ⟨RX12, "markOf", "(I)I"⟩
abbrev cX12_sizeOf : ByteArray := prog_14_method_66_code
def yX12_sizeOf : MethodName := ⟨RX12, "sizeOf", "(I)I"⟩
abbrev cX12_ask : ByteArray := prog_14_method_67_code
def yX12_ask : MethodName := ⟨RX12, "ask", "(II)I"⟩
abbrev cX12_trace : ByteArray := prog_14_method_68_code
def yX12_trace : MethodName := ⟨RX12, "trace", "(I)I"⟩
abbrev cX12_count : ByteArray := prog_14_method_69_code
def yX12_count : MethodName := ⟨RX12, "count", "(I)I"⟩
abbrev cX12_status : ByteArray := prog_14_method_70_code
def yX12_status : MethodName := ⟨RX12, "status", "()I"⟩
def RJx145de : String := "java/io/Serializable"
def TJx145de : u_T := fun k => match k with
  | _ => ("", "", "", false)
def tyJx145de : Nat → FieldType := fun k => match k with
  | _ => .int
abbrev wsJx145de0 : List Cond := u_ws RJx145de TJx145de 0
theorem nmJx145de : ∀ a, a < 0 → ∀ b, b < 0 → a ≠ b → (TJx145de a).2.1 ≠ (TJx145de b).2.1 := by decide +kernel
theorem tyJx145de_ok : ∀ k, k < 0 → parseFieldDescriptor (TJx145de k).2.2.1 = some (tyJx145de k) := by decide +kernel
def RJx9f9b0 : String := "java/lang/CharSequence"
def TJx9f9b0 : u_T := fun k => match k with
  | _ => ("", "", "", false)
def tyJx9f9b0 : Nat → FieldType := fun k => match k with
  | _ => .int
abbrev wsJx9f9b00 : List Cond := u_ws RJx9f9b0 TJx9f9b0 0
theorem nmJx9f9b0 : ∀ a, a < 0 → ∀ b, b < 0 → a ≠ b → (TJx9f9b0 a).2.1 ≠ (TJx9f9b0 b).2.1 := by decide +kernel
theorem tyJx9f9b0_ok : ∀ k, k < 0 → parseFieldDescriptor (TJx9f9b0 k).2.2.1 = some (tyJx9f9b0 k) := by decide +kernel
def RJxb160c : String := "java/lang/Comparable"
def TJxb160c : u_T := fun k => match k with
  | _ => ("", "", "", false)
def tyJxb160c : Nat → FieldType := fun k => match k with
  | _ => .int
abbrev wsJxb160c0 : List Cond := u_ws RJxb160c TJxb160c 0
theorem nmJxb160c : ∀ a, a < 0 → ∀ b, b < 0 → a ≠ b → (TJxb160c a).2.1 ≠ (TJxb160c b).2.1 := by decide +kernel
theorem tyJxb160c_ok : ∀ k, k < 0 → parseFieldDescriptor (TJxb160c k).2.2.1 = some (tyJxb160c k) := by decide +kernel
def RJ6 : String := "java/lang/Integer"
def TJ6 : u_T := fun k => match k with
  | _ => ("", "", "", false)
def tyJ6 : Nat → FieldType := fun k => match k with
  | _ => .int
abbrev wsJ60 : List Cond := u_ws RJ6 TJ6 0
theorem nmJ6 : ∀ a, a < 0 → ∀ b, b < 0 → a ≠ b → (TJ6 a).2.1 ≠ (TJ6 b).2.1 := by decide +kernel
theorem tyJ6_ok : ∀ k, k < 0 → parseFieldDescriptor (TJ6 k).2.2.1 = some (tyJ6 k) := by decide +kernel
abbrev cJ6_bitCount_0f7a4 : ByteArray := prog_15_method_49_code
def yJ6_bitCount_0f7a4 : MethodName := ⟨RJ6, "bitCount", "(I)I"⟩
def RJ9 : String := "java/lang/Math"
def TJ9 : u_T := fun k => match k with
  | _ => ("", "", "", false)
def tyJ9 : Nat → FieldType := fun k => match k with
  | _ => .int
abbrev wsJ90 : List Cond := u_ws RJ9 TJ9 0
theorem nmJ9 : ∀ a, a < 0 → ∀ b, b < 0 → a ≠ b → (TJ9 a).2.1 ≠ (TJ9 b).2.1 := by decide +kernel
theorem tyJ9_ok : ∀ k, k < 0 → parseFieldDescriptor (TJ9 k).2.2.1 = some (tyJ9 k) := by decide +kernel
abbrev cJ9_min_7cf53 : ByteArray := prog_16_method_69_code
def yJ9_min_7cf53 : MethodName := ⟨RJ9, "min", "(II)I"⟩
def RJ0 : String := "java/lang/String"
def TJ0 : u_T := fun k => match k with
  | _ => ("", "", "", false)
def tyJ0 : Nat → FieldType := fun k => match k with
  | _ => .int
abbrev wsJ00 : List Cond := u_ws RJ0 TJ0 0
theorem nmJ0 : ∀ a, a < 0 → ∀ b, b < 0 → a ≠ b → (TJ0 a).2.1 ≠ (TJ0 b).2.1 := by decide +kernel
theorem tyJ0_ok : ∀ k, k < 0 → parseFieldDescriptor (TJ0 k).2.2.1 = some (tyJ0 k) := by decide +kernel
abbrev cJ0_length_8abf5 : ByteArray := prog_17_method_54_code
def yJ0_length_8abf5 : MethodName := ⟨RJ0, "length", "()I"⟩
abbrev cJ0_charAt_5068e : ByteArray := prog_17_method_56_code
def yJ0_charAt_5068e : MethodName := ⟨RJ0, "charAt", "(I)C"⟩
abbrev cJ0_coder_7d493 : ByteArray := prog_17_method_152_code
def yJ0_coder_7d493 : MethodName := ⟨RJ0, "coder", "()B"⟩
abbrev cJ0_isLatin1_aae02 : ByteArray := prog_17_method_154_code
def yJ0_isLatin1_aae02 : MethodName := ⟨RJ0, "isLatin1", "()Z"⟩
abbrev cJ0_checkIndex_df160 : ByteArray := prog_17_method_155_code
def yJ0_checkIndex_df160 : MethodName := ⟨RJ0, "checkIndex", "(II)V"⟩
def RJ1 : String := "java/lang/StringLatin1"
def TJ1 : u_T := fun k => match k with
  | _ => ("", "", "", false)
def tyJ1 : Nat → FieldType := fun k => match k with
  | _ => .int
abbrev wsJ10 : List Cond := u_ws RJ1 TJ1 0
theorem nmJ1 : ∀ a, a < 0 → ∀ b, b < 0 → a ≠ b → (TJ1 a).2.1 ≠ (TJ1 b).2.1 := by decide +kernel
theorem tyJ1_ok : ∀ k, k < 0 → parseFieldDescriptor (TJ1 k).2.2.1 = some (tyJ1 k) := by decide +kernel
abbrev cJ1_charAt_3b067 : ByteArray := prog_18_method_2_code
def yJ1_charAt_3b067 : MethodName := ⟨RJ1, "charAt", "([BI)C"⟩
def RJ2 : String := "java/lang/StringUTF16"
def TJ2 : u_T := fun k => match k with
  | _ => ("", "", "", false)
def tyJ2 : Nat → FieldType := fun k => match k with
  | _ => .int
abbrev wsJ20 : List Cond := u_ws RJ2 TJ2 0
theorem nmJ2 : ∀ a, a < 0 → ∀ b, b < 0 → a ≠ b → (TJ2 a).2.1 ≠ (TJ2 b).2.1 := by decide +kernel
theorem tyJ2_ok : ∀ k, k < 0 → parseFieldDescriptor (TJ2 k).2.2.1 = some (tyJ2 k) := by decide +kernel
abbrev cJ2_getChar_3b067 : ByteArray := prog_19_method_5_code
def yJ2_getChar_3b067 : MethodName := ⟨RJ2, "getChar", "([BI)C"⟩
abbrev cJ2_length_9d52b : ByteArray := prog_19_method_6_code
def yJ2_length_9d52b : MethodName := ⟨RJ2, "length", "([B)I"⟩
abbrev cJ2_charAt_3b067 : ByteArray := prog_19_method_83_code
def yJ2_charAt_3b067 : MethodName := ⟨RJ2, "charAt", "([BI)C"⟩
abbrev cJ2_checkIndex_2214a : ByteArray := prog_19_method_91_code
def yJ2_checkIndex_2214a : MethodName := ⟨RJ2, "checkIndex", "(I[B)V"⟩
def RJ10 : String := "java/lang/System"
def TJ10 : u_T := fun k => match k with
  | _ => ("", "", "", false)
def tyJ10 : Nat → FieldType := fun k => match k with
  | _ => .int
abbrev wsJ100 : List Cond := u_ws RJ10 TJ10 0
theorem nmJ10 : ∀ a, a < 0 → ∀ b, b < 0 → a ≠ b → (TJ10 a).2.1 ≠ (TJ10 b).2.1 := by decide +kernel
theorem tyJ10_ok : ∀ k, k < 0 → parseFieldDescriptor (TJ10 k).2.2.1 = some (tyJ10 k) := by decide +kernel
def RJxfd54e : String := "java/lang/constant/Constable"
def TJxfd54e : u_T := fun k => match k with
  | _ => ("", "", "", false)
def tyJxfd54e : Nat → FieldType := fun k => match k with
  | _ => .int
abbrev wsJxfd54e0 : List Cond := u_ws RJxfd54e TJxfd54e 0
theorem nmJxfd54e : ∀ a, a < 0 → ∀ b, b < 0 → a ≠ b → (TJxfd54e a).2.1 ≠ (TJxfd54e b).2.1 := by decide +kernel
theorem tyJxfd54e_ok : ∀ k, k < 0 → parseFieldDescriptor (TJxfd54e k).2.2.1 = some (tyJxfd54e k) := by decide +kernel
def RJx3cf43 : String := "java/lang/constant/ConstantDesc"
def TJx3cf43 : u_T := fun k => match k with
  | _ => ("", "", "", false)
def tyJx3cf43 : Nat → FieldType := fun k => match k with
  | _ => .int
abbrev wsJx3cf430 : List Cond := u_ws RJx3cf43 TJx3cf43 0
theorem nmJx3cf43 : ∀ a, a < 0 → ∀ b, b < 0 → a ≠ b → (TJx3cf43 a).2.1 ≠ (TJx3cf43 b).2.1 := by decide +kernel
theorem tyJx3cf43_ok : ∀ k, k < 0 → parseFieldDescriptor (TJx3cf43 k).2.2.1 = some (tyJx3cf43 k) := by decide +kernel
def RJ7 : String := "java/util/Arrays"
def TJ7 : u_T := fun k => match k with
  | _ => ("", "", "", false)
def tyJ7 : Nat → FieldType := fun k => match k with
  | _ => .int
abbrev wsJ70 : List Cond := u_ws RJ7 TJ7 0
theorem nmJ7 : ∀ a, a < 0 → ∀ b, b < 0 → a ≠ b → (TJ7 a).2.1 ≠ (TJ7 b).2.1 := by decide +kernel
theorem tyJ7_ok : ∀ k, k < 0 → parseFieldDescriptor (TJ7 k).2.2.1 = some (tyJ7 k) := by decide +kernel
abbrev cJ7_fill_53178 : ByteArray := prog_21_method_103_code
def yJ7_fill_53178 : MethodName := ⟨RJ7, "fill", "([II)V"⟩
def RJ3 : String := "jdk/internal/util/Preconditions"
def TJ3 : u_T := fun k => match k with
  | _ => ("", "", "", false)
def tyJ3 : Nat → FieldType := fun k => match k with
  | _ => .int
abbrev wsJ30 : List Cond := u_ws RJ3 TJ3 0
theorem nmJ3 : ∀ a, a < 0 → ∀ b, b < 0 → a ≠ b → (TJ3 a).2.1 ≠ (TJ3 b).2.1 := by decide +kernel
theorem tyJ3_ok : ∀ k, k < 0 → parseFieldDescriptor (TJ3 k).2.2.1 = some (tyJ3 k) := by decide +kernel
abbrev cJ3_checkIndex_8e157 : ByteArray := prog_22_method_11_code
def yJ3_checkIndex_8e157 : MethodName := ⟨RJ3, "checkIndex", "(IILjava/util/function/BiFunction;)I"⟩
def RL : String := "EvePostLaw"
abbrev cL_law : ByteArray := code
def yL_law : MethodName := ⟨RL, "law", "([I)Z"⟩
abbrev vwCl : List vw_C := [(RX0, TX0, 3), (RX1, TX1, 3), (RX2, TX2, 1), (RX3, TX3, 3), (RX4, TX4, 3), (RX6, TX6, 3), (RX7, TX7, 8), (RX8, TX8, 6), (RX9, TX9, 2), (RX10, TX10, 3), (RX11, TX11, 9), (RX12, TX12, 24)]
