def RX0 : String := "LampLeaseOffice$1"
def TX0 : u_T := fun k => match k with
  | _ => ("", "", "", false)
def tyX0 : Nat → FieldType := fun k => match k with
  | _ => .int
theorem nmX0 : ∀ a, a < 0 → ∀ b, b < 0 → a ≠ b → (TX0 a).2.1 ≠ (TX0 b).2.1 := by decide +kernel
theorem tyX0_ok : ∀ k, k < 0 → parseFieldDescriptor (TX0 k).2.2.1 = some (tyX0 k) := by decide +kernel
def RX1 : String := "LampLeaseOffice$Command"
def TX1 : u_T := fun k => match k with
  | 0 => ("LampLeaseOffice$Command", "keyword", "LLampLeaseOffice$Keyword;", false)
  | _ => ("LampLeaseOffice$Command", "numbers", "[I", true)
def tyX1 : Nat → FieldType := fun k => match k with
  | 0 => .object "LampLeaseOffice$Keyword"
  | _ => .array .int
theorem nmX1 : ∀ a, a < 2 → ∀ b, b < 2 → a ≠ b → (TX1 a).2.1 ≠ (TX1 b).2.1 := by decide +kernel
theorem tyX1_ok : ∀ k, k < 2 → parseFieldDescriptor (TX1 k).2.2.1 = some (tyX1 k) := by decide +kernel
abbrev cX1_init : ByteArray := prog_3_method_1_code
def yX1_init : MethodName := ⟨RX1, "<init>", "()V"⟩
abbrev cX1_first : ByteArray := prog_3_method_2_code
def yX1_first : MethodName := ⟨RX1, "first", "()I"⟩
abbrev cX1_second : ByteArray := prog_3_method_3_code
def yX1_second : MethodName := ⟨RX1, "second", "()I"⟩
abbrev cX1_third : ByteArray := prog_3_method_4_code
def yX1_third : MethodName := ⟨RX1, "third", "()I"⟩
abbrev cX1_put : ByteArray := prog_3_method_5_code
def yX1_put : MethodName := ⟨RX1, "put", "(II)V"⟩
def RX2 : String := "LampLeaseOffice$CommandText"
def TX2 : u_T := fun k => match k with
  | 0 => ("LampLeaseOffice$CommandText", "signs", "[C", true)
  | 1 => ("LampLeaseOffice$CommandText", "commands", "[LLampLeaseOffice$Command;", true)
  | 2 => ("LampLeaseOffice$CommandText", "length", "I", false)
  | 3 => ("LampLeaseOffice$CommandText", "commandCount", "I", false)
  | _ => ("LampLeaseOffice$CommandText", "position", "I", false)
def tyX2 : Nat → FieldType := fun k => match k with
  | 0 => .array .char
  | 1 => .array (.object "LampLeaseOffice$Command")
  | 2 => .int
  | 3 => .int
  | _ => .int
theorem nmX2 : ∀ a, a < 5 → ∀ b, b < 5 → a ≠ b → (TX2 a).2.1 ≠ (TX2 b).2.1 := by decide +kernel
theorem tyX2_ok : ∀ k, k < 5 → parseFieldDescriptor (TX2 k).2.2.1 = some (tyX2 k) := by decide +kernel
abbrev cX2_init : ByteArray := prog_4_method_1_code
def yX2_init : MethodName := ⟨RX2, "<init>", "()V"⟩
abbrev cX2_append : ByteArray := prog_4_method_2_code
def yX2_append : MethodName := ⟨RX2, "append", "(C)I"⟩
abbrev cX2_clear : ByteArray := prog_4_method_3_code
def yX2_clear : MethodName := ⟨RX2, "clear", "()V"⟩
abbrev cX2_parse : ByteArray := prog_4_method_4_code
def yX2_parse : MethodName := ⟨RX2, "parse", "()Z"⟩
abbrev cX2_readCommand : ByteArray := prog_4_method_5_code
def yX2_readCommand : MethodName := ⟨RX2, "readCommand", "(LLampLeaseOffice$Command;)Z"⟩
abbrev cX2_readKeyword : ByteArray := prog_4_method_6_code
def yX2_readKeyword : MethodName := ⟨RX2, "readKeyword", "()LLampLeaseOffice$Keyword;"⟩
abbrev cX2_commonLetters : ByteArray := prog_4_method_7_code
def yX2_commonLetters : MethodName := ⟨RX2, "commonLetters", "(Ljava/lang/String;)I"⟩
abbrev cX2_readBlankAndNumber : ByteArray := prog_4_method_8_code
def yX2_readBlankAndNumber : MethodName := ⟨RX2, "readBlankAndNumber", "(I)I"⟩
abbrev cX2_isAt : ByteArray := prog_4_method_9_code
def yX2_isAt : MethodName := ⟨RX2, "isAt", "(C)Z"⟩
abbrev cX2_isAtDigit : ByteArray := prog_4_method_10_code
def yX2_isAtDigit : MethodName := ⟨RX2, "isAtDigit", "()Z"⟩
def RX3 : String := "LampLeaseOffice$Division"
def TX3 : u_T := fun k => match k with
  | 0 => ("LampLeaseOffice$Division", "shares", "[I", true)
  | 1 => ("LampLeaseOffice$Division", "remainders", "[I", true)
  | 2 => ("LampLeaseOffice$Division", "favoured", "[Z", true)
  | _ => ("LampLeaseOffice$Division", "unitsLeft", "I", false)
def tyX3 : Nat → FieldType := fun k => match k with
  | 0 => .array .int
  | 1 => .array .int
  | 2 => .array .boolean
  | _ => .int
theorem nmX3 : ∀ a, a < 4 → ∀ b, b < 4 → a ≠ b → (TX3 a).2.1 ≠ (TX3 b).2.1 := by decide +kernel
theorem tyX3_ok : ∀ k, k < 4 → parseFieldDescriptor (TX3 k).2.2.1 = some (tyX3 k) := by decide +kernel
abbrev cX3_init : ByteArray := prog_5_method_1_code
def yX3_init : MethodName := ⟨RX3, "<init>", "()V"⟩
abbrev cX3_shareByGiving : ByteArray := prog_5_method_2_code
def yX3_shareByGiving : MethodName := ⟨RX3, "shareByGiving", "(LLampLeaseOffice$State;I)I"⟩
abbrev cX3_shareByRemainderRank : ByteArray := prog_5_method_3_code
def yX3_shareByRemainderRank : MethodName := ⟨RX3, "shareByRemainderRank", "(LLampLeaseOffice$State;I)I"⟩
abbrev cX3_divideRoundedDown : ByteArray := prog_5_method_4_code
def yX3_divideRoundedDown : MethodName := ⟨RX3, "divideRoundedDown", "(LLampLeaseOffice$State;)V"⟩
abbrev cX3_giveOneUnit : ByteArray := prog_5_method_5_code
def yX3_giveOneUnit : MethodName := ⟨RX3, "giveOneUnit", "(I)V"⟩
abbrev cX3_rankOf : ByteArray := prog_5_method_6_code
def yX3_rankOf : MethodName := ⟨RX3, "rankOf", "(II)I"⟩
def RX4 : String := "LampLeaseOffice$Forecast"
def TX4 : u_T := fun k => match k with
  | _ => ("LampLeaseOffice$Forecast", "mostForSum", "[I", true)
def tyX4 : Nat → FieldType := fun k => match k with
  | _ => .array .int
theorem nmX4 : ∀ a, a < 1 → ∀ b, b < 1 → a ≠ b → (TX4 a).2.1 ≠ (TX4 b).2.1 := by decide +kernel
theorem tyX4_ok : ∀ k, k < 1 → parseFieldDescriptor (TX4 k).2.2.1 = some (tyX4 k) := by decide +kernel
abbrev cX4_init : ByteArray := prog_6_method_1_code
def yX4_init : MethodName := ⟨RX4, "<init>", "()V"⟩
abbrev cX4_hoursByPassing : ByteArray := prog_6_method_2_code
def yX4_hoursByPassing : MethodName := ⟨RX4, "hoursByPassing", "(LLampLeaseOffice$State;)I"⟩
abbrev cX4_hoursByEndHours : ByteArray := prog_6_method_3_code
def yX4_hoursByEndHours : MethodName := ⟨RX4, "hoursByEndHours", "(LLampLeaseOffice$State;)I"⟩
abbrev cX4_nextBrightLamps : ByteArray := prog_6_method_4_code
def yX4_nextBrightLamps : MethodName := ⟨RX4, "nextBrightLamps", "(LLampLeaseOffice$State;)I"⟩
abbrev cX4_mostLampsByLevels : ByteArray := prog_6_method_5_code
def yX4_mostLampsByLevels : MethodName := ⟨RX4, "mostLampsByLevels", "(LLampLeaseOffice$State;)I"⟩
abbrev cX4_mostLampsByTable : ByteArray := prog_6_method_6_code
def yX4_mostLampsByTable : MethodName := ⟨RX4, "mostLampsByTable", "(LLampLeaseOffice$State;)I"⟩
abbrev cX4_clearTable : ByteArray := prog_6_method_7_code
def yX4_clearTable : MethodName := ⟨RX4, "clearTable", "()V"⟩
abbrev cX4_enterInTable : ByteArray := prog_6_method_8_code
def yX4_enterInTable : MethodName := ⟨RX4, "enterInTable", "(I)V"⟩
def RX5 : String := "LampLeaseOffice$History"
def TX5 : u_T := fun k => match k with
  | 0 => ("LampLeaseOffice$History", "ring", "[LLampLeaseOffice$State;", true)
  | 1 => ("LampLeaseOffice$History", "oldest", "I", false)
  | _ => ("LampLeaseOffice$History", "count", "I", false)
def tyX5 : Nat → FieldType := fun k => match k with
  | 0 => .array (.object "LampLeaseOffice$State")
  | 1 => .int
  | _ => .int
theorem nmX5 : ∀ a, a < 3 → ∀ b, b < 3 → a ≠ b → (TX5 a).2.1 ≠ (TX5 b).2.1 := by decide +kernel
theorem tyX5_ok : ∀ k, k < 3 → parseFieldDescriptor (TX5 k).2.2.1 = some (tyX5 k) := by decide +kernel
abbrev cX5_init : ByteArray := prog_7_method_1_code
def yX5_init : MethodName := ⟨RX5, "<init>", "()V"⟩
abbrev cX5_push : ByteArray := prog_7_method_2_code
def yX5_push : MethodName := ⟨RX5, "push", "(LLampLeaseOffice$State;)V"⟩
abbrev cX5_popInto : ByteArray := prog_7_method_3_code
def yX5_popInto : MethodName := ⟨RX5, "popInto", "(LLampLeaseOffice$State;)V"⟩
def RX6 : String := "LampLeaseOffice$Keyword"
def TX6 : u_T := fun k => match k with
  | _ => ("", "", "", false)
def tyX6 : Nat → FieldType := fun k => match k with
  | _ => .int
theorem nmX6 : ∀ a, a < 0 → ∀ b, b < 0 → a ≠ b → (TX6 a).2.1 ≠ (TX6 b).2.1 := by decide +kernel
theorem tyX6_ok : ∀ k, k < 0 → parseFieldDescriptor (TX6 k).2.2.1 = some (tyX6 k) := by decide +kernel
def RX7 : String := "LampLeaseOffice$Lamps"
def TX7 : u_T := fun k => match k with
  | 0 => ("LampLeaseOffice$Lamps", "count", "I", false)
  | 1 => ("LampLeaseOffice$Lamps", "levels", "[I", true)
  | 2 => ("LampLeaseOffice$Lamps", "lessees", "[I", true)
  | 3 => ("LampLeaseOffice$Lamps", "endHours", "[I", true)
  | 4 => ("LampLeaseOffice$Lamps", "brightHours", "[I", true)
  | _ => ("LampLeaseOffice$Lamps", "bright", "[Z", true)
def tyX7 : Nat → FieldType := fun k => match k with
  | 0 => .int
  | 1 => .array .int
  | 2 => .array .int
  | 3 => .array .int
  | 4 => .array .int
  | _ => .array .boolean
theorem nmX7 : ∀ a, a < 6 → ∀ b, b < 6 → a ≠ b → (TX7 a).2.1 ≠ (TX7 b).2.1 := by decide +kernel
theorem tyX7_ok : ∀ k, k < 6 → parseFieldDescriptor (TX7 k).2.2.1 = some (tyX7 k) := by decide +kernel
abbrev cX7_init : ByteArray := prog_9_method_1_code
def yX7_init : MethodName := ⟨RX7, "<init>", "()V"⟩
abbrev cX7_exists : ByteArray := prog_9_method_2_code
def yX7_exists : MethodName := ⟨RX7, "exists", "(I)Z"⟩
abbrev cX7_isTaken : ByteArray := prog_9_method_3_code
def yX7_isTaken : MethodName := ⟨RX7, "isTaken", "(I)Z"⟩
abbrev cX7_isTakenBy : ByteArray := prog_9_method_4_code
def yX7_isTakenBy : MethodName := ⟨RX7, "isTakenBy", "(II)Z"⟩
abbrev cX7_append : ByteArray := prog_9_method_5_code
def yX7_append : MethodName := ⟨RX7, "append", "(I)I"⟩
abbrev cX7_countTaken : ByteArray := prog_9_method_6_code
def yX7_countTaken : MethodName := ⟨RX7, "countTaken", "()I"⟩
abbrev cX7_countOf : ByteArray := prog_9_method_7_code
def yX7_countOf : MethodName := ⟨RX7, "countOf", "(I)I"⟩
abbrev cX7_anyBrightOf : ByteArray := prog_9_method_8_code
def yX7_anyBrightOf : MethodName := ⟨RX7, "anyBrightOf", "(I)Z"⟩
abbrev cX7_demandOf : ByteArray := prog_9_method_9_code
def yX7_demandOf : MethodName := ⟨RX7, "demandOf", "(I)I"⟩
abbrev cX7_demandOfAll : ByteArray := prog_9_method_10_code
def yX7_demandOfAll : MethodName := ⟨RX7, "demandOfAll", "()I"⟩
abbrev cX7_demandAfter : ByteArray := prog_9_method_11_code
def yX7_demandAfter : MethodName := ⟨RX7, "demandAfter", "(I)I"⟩
abbrev cX7_firstEndAfter : ByteArray := prog_9_method_12_code
def yX7_firstEndAfter : MethodName := ⟨RX7, "firstEndAfter", "(I)I"⟩
abbrev cX7_atRank : ByteArray := prog_9_method_13_code
def yX7_atRank : MethodName := ⟨RX7, "atRank", "(I)I"⟩
abbrev cX7_rankOf : ByteArray := prog_9_method_14_code
def yX7_rankOf : MethodName := ⟨RX7, "rankOf", "(I)I"⟩
abbrev cX7_isBefore : ByteArray := prog_9_method_15_code
def yX7_isBefore : MethodName := ⟨RX7, "isBefore", "(II)Z"⟩
abbrev cX7_copyFrom : ByteArray := prog_9_method_16_code
def yX7_copyFrom : MethodName := ⟨RX7, "copyFrom", "(LLampLeaseOffice$Lamps;)V"⟩
def RX8 : String := "LampLeaseOffice$Requests"
def TX8 : u_T := fun k => match k with
  | 0 => ("LampLeaseOffice$Requests", "count", "I", false)
  | 1 => ("LampLeaseOffice$Requests", "lamps", "[I", true)
  | _ => ("LampLeaseOffice$Requests", "hours", "[I", true)
def tyX8 : Nat → FieldType := fun k => match k with
  | 0 => .int
  | 1 => .array .int
  | _ => .array .int
theorem nmX8 : ∀ a, a < 3 → ∀ b, b < 3 → a ≠ b → (TX8 a).2.1 ≠ (TX8 b).2.1 := by decide +kernel
theorem tyX8_ok : ∀ k, k < 3 → parseFieldDescriptor (TX8 k).2.2.1 = some (tyX8 k) := by decide +kernel
abbrev cX8_init : ByteArray := prog_10_method_1_code
def yX8_init : MethodName := ⟨RX8, "<init>", "()V"⟩
abbrev cX8_positionOf : ByteArray := prog_10_method_2_code
def yX8_positionOf : MethodName := ⟨RX8, "positionOf", "(I)I"⟩
abbrev cX8_append : ByteArray := prog_10_method_3_code
def yX8_append : MethodName := ⟨RX8, "append", "(II)I"⟩
abbrev cX8_removeFor : ByteArray := prog_10_method_4_code
def yX8_removeFor : MethodName := ⟨RX8, "removeFor", "(I)V"⟩
abbrev cX8_clear : ByteArray := prog_10_method_5_code
def yX8_clear : MethodName := ⟨RX8, "clear", "()V"⟩
abbrev cX8_copyFrom : ByteArray := prog_10_method_6_code
def yX8_copyFrom : MethodName := ⟨RX8, "copyFrom", "(LLampLeaseOffice$Requests;)V"⟩
def RX9 : String := "LampLeaseOffice$Ships"
def TX9 : u_T := fun k => match k with
  | 0 => ("LampLeaseOffice$Ships", "count", "I", false)
  | 1 => ("LampLeaseOffice$Ships", "coins", "[I", true)
  | 2 => ("LampLeaseOffice$Ships", "fines", "[I", true)
  | _ => ("LampLeaseOffice$Ships", "darkHours", "[I", true)
def tyX9 : Nat → FieldType := fun k => match k with
  | 0 => .int
  | 1 => .array .int
  | 2 => .array .int
  | _ => .array .int
theorem nmX9 : ∀ a, a < 4 → ∀ b, b < 4 → a ≠ b → (TX9 a).2.1 ≠ (TX9 b).2.1 := by decide +kernel
theorem tyX9_ok : ∀ k, k < 4 → parseFieldDescriptor (TX9 k).2.2.1 = some (tyX9 k) := by decide +kernel
abbrev cX9_init : ByteArray := prog_11_method_1_code
def yX9_init : MethodName := ⟨RX9, "<init>", "()V"⟩
abbrev cX9_exists : ByteArray := prog_11_method_2_code
def yX9_exists : MethodName := ⟨RX9, "exists", "(I)Z"⟩
abbrev cX9_append : ByteArray := prog_11_method_3_code
def yX9_append : MethodName := ⟨RX9, "append", "()I"⟩
abbrev cX9_canPay : ByteArray := prog_11_method_4_code
def yX9_canPay : MethodName := ⟨RX9, "canPay", "(II)Z"⟩
abbrev cX9_sumOfCoins : ByteArray := prog_11_method_5_code
def yX9_sumOfCoins : MethodName := ⟨RX9, "sumOfCoins", "()I"⟩
abbrev cX9_atRank : ByteArray := prog_11_method_6_code
def yX9_atRank : MethodName := ⟨RX9, "atRank", "(I)I"⟩
abbrev cX9_rankOf : ByteArray := prog_11_method_7_code
def yX9_rankOf : MethodName := ⟨RX9, "rankOf", "(I)I"⟩
abbrev cX9_isBefore : ByteArray := prog_11_method_8_code
def yX9_isBefore : MethodName := ⟨RX9, "isBefore", "(II)Z"⟩
abbrev cX9_copyFrom : ByteArray := prog_11_method_9_code
def yX9_copyFrom : MethodName := ⟨RX9, "copyFrom", "(LLampLeaseOffice$Ships;)V"⟩
def RX10 : String := "LampLeaseOffice$State"
def TX10 : u_T := fun k => match k with
  | 0 => ("LampLeaseOffice$State", "ships", "LLampLeaseOffice$Ships;", true)
  | 1 => ("LampLeaseOffice$State", "lamps", "LLampLeaseOffice$Lamps;", true)
  | 2 => ("LampLeaseOffice$State", "requests", "LLampLeaseOffice$Requests;", true)
  | 3 => ("LampLeaseOffice$State", "oil", "I", false)
  | 4 => ("LampLeaseOffice$State", "hour", "I", false)
  | 5 => ("LampLeaseOffice$State", "officeCoins", "I", false)
  | _ => ("LampLeaseOffice$State", "refused", "I", false)
def tyX10 : Nat → FieldType := fun k => match k with
  | 0 => .object "LampLeaseOffice$Ships"
  | 1 => .object "LampLeaseOffice$Lamps"
  | 2 => .object "LampLeaseOffice$Requests"
  | 3 => .int
  | 4 => .int
  | 5 => .int
  | _ => .int
theorem nmX10 : ∀ a, a < 7 → ∀ b, b < 7 → a ≠ b → (TX10 a).2.1 ≠ (TX10 b).2.1 := by decide +kernel
theorem tyX10_ok : ∀ k, k < 7 → parseFieldDescriptor (TX10 k).2.2.1 = some (tyX10 k) := by decide +kernel
abbrev cX10_init : ByteArray := prog_12_method_1_code
def yX10_init : MethodName := ⟨RX10, "<init>", "()V"⟩
abbrev cX10_faultOfNewShip : ByteArray := prog_12_method_2_code
def yX10_faultOfNewShip : MethodName := ⟨RX10, "faultOfNewShip", "()C"⟩
abbrev cX10_faultOfNewLamp : ByteArray := prog_12_method_3_code
def yX10_faultOfNewLamp : MethodName := ⟨RX10, "faultOfNewLamp", "(I)C"⟩
abbrev cX10_faultOfNewOil : ByteArray := prog_12_method_4_code
def yX10_faultOfNewOil : MethodName := ⟨RX10, "faultOfNewOil", "(I)C"⟩
abbrev cX10_faultOfLease : ByteArray := prog_12_method_5_code
def yX10_faultOfLease : MethodName := ⟨RX10, "faultOfLease", "(III)C"⟩
abbrev cX10_faultOfRequest : ByteArray := prog_12_method_6_code
def yX10_faultOfRequest : MethodName := ⟨RX10, "faultOfRequest", "(II)C"⟩
abbrev cX10_faultOfUnleased : ByteArray := prog_12_method_7_code
def yX10_faultOfUnleased : MethodName := ⟨RX10, "faultOfUnleased", "(I)C"⟩
abbrev cX10_faultOfWait : ByteArray := prog_12_method_8_code
def yX10_faultOfWait : MethodName := ⟨RX10, "faultOfWait", "(I)C"⟩
abbrev cX10_isNoLeaseTime : ByteArray := prog_12_method_9_code
def yX10_isNoLeaseTime : MethodName := ⟨RX10, "isNoLeaseTime", "(I)Z"⟩
abbrev cX10_price : ByteArray := prog_12_method_10_code
def yX10_price : MethodName := ⟨RX10, "price", "(II)I"⟩
abbrev cX10_fillUp : ByteArray := prog_12_method_11_code
def yX10_fillUp : MethodName := ⟨RX10, "fillUp", "(I)I"⟩
abbrev cX10_leaseOut : ByteArray := prog_12_method_12_code
def yX10_leaseOut : MethodName := ⟨RX10, "leaseOut", "(III)I"⟩
abbrev cX10_payOffice : ByteArray := prog_12_method_13_code
def yX10_payOffice : MethodName := ⟨RX10, "payOffice", "(II)V"⟩
abbrev cX10_takeBack : ByteArray := prog_12_method_14_code
def yX10_takeBack : MethodName := ⟨RX10, "takeBack", "(I)I"⟩
abbrev cX10_letPass : ByteArray := prog_12_method_15_code
def yX10_letPass : MethodName := ⟨RX10, "letPass", "(I)I"⟩
abbrev cX10_passOneHour : ByteArray := prog_12_method_16_code
def yX10_passOneHour : MethodName := ⟨RX10, "passOneHour", "()I"⟩
abbrev cX10_processRequests : ByteArray := prog_12_method_17_code
def yX10_processRequests : MethodName := ⟨RX10, "processRequests", "()V"⟩
abbrev cX10_renewOrRefuse : ByteArray := prog_12_method_18_code
def yX10_renewOrRefuse : MethodName := ⟨RX10, "renewOrRefuse", "(II)V"⟩
abbrev cX10_burn : ByteArray := prog_12_method_19_code
def yX10_burn : MethodName := ⟨RX10, "burn", "()V"⟩
abbrev cX10_fineDarkShips : ByteArray := prog_12_method_20_code
def yX10_fineDarkShips : MethodName := ⟨RX10, "fineDarkShips", "()V"⟩
abbrev cX10_endLeases : ByteArray := prog_12_method_21_code
def yX10_endLeases : MethodName := ⟨RX10, "endLeases", "()I"⟩
abbrev cX10_copyFrom : ByteArray := prog_12_method_22_code
def yX10_copyFrom : MethodName := ⟨RX10, "copyFrom", "(LLampLeaseOffice$State;)V"⟩
def RX11 : String := "LampLeaseOffice"
def TX11 : u_T := fun k => match k with
  | 0 => ("LampLeaseOffice", "state", "LLampLeaseOffice$State;", true)
  | 1 => ("LampLeaseOffice", "stateBefore", "LLampLeaseOffice$State;", true)
  | 2 => ("LampLeaseOffice", "savedState", "LLampLeaseOffice$State;", true)
  | 3 => ("LampLeaseOffice", "hasSavedState", "Z", false)
  | 4 => ("LampLeaseOffice", "history", "LLampLeaseOffice$History;", true)
  | 5 => ("LampLeaseOffice", "forecast", "LLampLeaseOffice$Forecast;", true)
  | 6 => ("LampLeaseOffice", "division", "LLampLeaseOffice$Division;", true)
  | 7 => ("LampLeaseOffice", "text", "LLampLeaseOffice$CommandText;", true)
  | 8 => ("LampLeaseOffice", "output", "Ljava/lang/StringBuilder;", true)
  | 9 => ("LampLeaseOffice", "lastErrorPosition", "I", false)
  | 10 => ("LampLeaseOffice", "lastFailedCommand", "I", false)
  | _ => ("LampLeaseOffice", "lastFailureReason", "C", false)
def tyX11 : Nat → FieldType := fun k => match k with
  | 0 => .object "LampLeaseOffice$State"
  | 1 => .object "LampLeaseOffice$State"
  | 2 => .object "LampLeaseOffice$State"
  | 3 => .boolean
  | 4 => .object "LampLeaseOffice$History"
  | 5 => .object "LampLeaseOffice$Forecast"
  | 6 => .object "LampLeaseOffice$Division"
  | 7 => .object "LampLeaseOffice$CommandText"
  | 8 => .object "java/lang/StringBuilder"
  | 9 => .int
  | 10 => .int
  | _ => .char
theorem nmX11 : ∀ a, a < 12 → ∀ b, b < 12 → a ≠ b → (TX11 a).2.1 ≠ (TX11 b).2.1 := by decide +kernel
theorem tyX11_ok : ∀ k, k < 12 → parseFieldDescriptor (TX11 k).2.2.1 = some (tyX11 k) := by decide +kernel
abbrev cX11_init : ByteArray := prog_1_method_1_code
def yX11_init : MethodName := ⟨RX11, "<init>", "()V"⟩
abbrev cX11_addShip : ByteArray := prog_1_method_2_code
def yX11_addShip : MethodName := ⟨RX11, "addShip", "()I"⟩
abbrev cX11_addLamp : ByteArray := prog_1_method_3_code
def yX11_addLamp : MethodName := ⟨RX11, "addLamp", "(I)I"⟩
abbrev cX11_addOil : ByteArray := prog_1_method_4_code
def yX11_addOil : MethodName := ⟨RX11, "addOil", "(I)I"⟩
abbrev cX11_lease : ByteArray := prog_1_method_5_code
def yX11_lease : MethodName := ⟨RX11, "lease", "(III)I"⟩
abbrev cX11_requestRenewal : ByteArray := prog_1_method_6_code
def yX11_requestRenewal : MethodName := ⟨RX11, "requestRenewal", "(II)I"⟩
abbrev cX11_giveUp : ByteArray := prog_1_method_7_code
def yX11_giveUp : MethodName := ⟨RX11, "giveUp", "(I)I"⟩
abbrev cX11_passHours : ByteArray := prog_1_method_8_code
def yX11_passHours : MethodName := ⟨RX11, "passHours", "(I)I"⟩
abbrev cX11_hour : ByteArray := prog_1_method_9_code
def yX11_hour : MethodName := ⟨RX11, "hour", "()I"⟩
abbrev cX11_shipCount : ByteArray := prog_1_method_10_code
def yX11_shipCount : MethodName := ⟨RX11, "shipCount", "()I"⟩
abbrev cX11_coins : ByteArray := prog_1_method_11_code
def yX11_coins : MethodName := ⟨RX11, "coins", "(I)I"⟩
abbrev cX11_finesPaid : ByteArray := prog_1_method_12_code
def yX11_finesPaid : MethodName := ⟨RX11, "finesPaid", "(I)I"⟩
abbrev cX11_darkHours : ByteArray := prog_1_method_13_code
def yX11_darkHours : MethodName := ⟨RX11, "darkHours", "(I)I"⟩
abbrev cX11_demand : ByteArray := prog_1_method_14_code
def yX11_demand : MethodName := ⟨RX11, "demand", "(I)I"⟩
abbrev cX11_leasesOf : ByteArray := prog_1_method_15_code
def yX11_leasesOf : MethodName := ⟨RX11, "leasesOf", "(I)I"⟩
abbrev cX11_lampCount : ByteArray := prog_1_method_16_code
def yX11_lampCount : MethodName := ⟨RX11, "lampCount", "()I"⟩
abbrev cX11_level : ByteArray := prog_1_method_17_code
def yX11_level : MethodName := ⟨RX11, "level", "(I)I"⟩
abbrev cX11_isLeased : ByteArray := prog_1_method_18_code
def yX11_isLeased : MethodName := ⟨RX11, "isLeased", "(I)Z"⟩
abbrev cX11_lessee : ByteArray := prog_1_method_19_code
def yX11_lessee : MethodName := ⟨RX11, "lessee", "(I)I"⟩
abbrev cX11_endHour : ByteArray := prog_1_method_20_code
def yX11_endHour : MethodName := ⟨RX11, "endHour", "(I)I"⟩
abbrev cX11_brightHours : ByteArray := prog_1_method_21_code
def yX11_brightHours : MethodName := ⟨RX11, "brightHours", "(I)I"⟩
abbrev cX11_wasBright : ByteArray := prog_1_method_22_code
def yX11_wasBright : MethodName := ⟨RX11, "wasBright", "(I)Z"⟩
abbrev cX11_leasedLamps : ByteArray := prog_1_method_23_code
def yX11_leasedLamps : MethodName := ⟨RX11, "leasedLamps", "()I"⟩
abbrev cX11_oil : ByteArray := prog_1_method_24_code
def yX11_oil : MethodName := ⟨RX11, "oil", "()I"⟩
abbrev cX11_consumption : ByteArray := prog_1_method_25_code
def yX11_consumption : MethodName := ⟨RX11, "consumption", "()I"⟩
abbrev cX11_hoursOfOil : ByteArray := prog_1_method_26_code
def yX11_hoursOfOil : MethodName := ⟨RX11, "hoursOfOil", "()I"⟩
abbrev cX11_hoursOfOilByEnds : ByteArray := prog_1_method_27_code
def yX11_hoursOfOilByEnds : MethodName := ⟨RX11, "hoursOfOilByEnds", "()I"⟩
abbrev cX11_brightNext : ByteArray := prog_1_method_28_code
def yX11_brightNext : MethodName := ⟨RX11, "brightNext", "()I"⟩
abbrev cX11_mostBright : ByteArray := prog_1_method_29_code
def yX11_mostBright : MethodName := ⟨RX11, "mostBright", "()I"⟩
abbrev cX11_mostBrightBySums : ByteArray := prog_1_method_30_code
def yX11_mostBrightBySums : MethodName := ⟨RX11, "mostBrightBySums", "()I"⟩
abbrev cX11_share : ByteArray := prog_1_method_31_code
def yX11_share : MethodName := ⟨RX11, "share", "(I)I"⟩
abbrev cX11_shareByRank : ByteArray := prog_1_method_32_code
def yX11_shareByRank : MethodName := ⟨RX11, "shareByRank", "(I)I"⟩
abbrev cX11_requestCount : ByteArray := prog_1_method_33_code
def yX11_requestCount : MethodName := ⟨RX11, "requestCount", "()I"⟩
abbrev cX11_requestedLamp : ByteArray := prog_1_method_34_code
def yX11_requestedLamp : MethodName := ⟨RX11, "requestedLamp", "(I)I"⟩
abbrev cX11_requestedHours : ByteArray := prog_1_method_35_code
def yX11_requestedHours : MethodName := ⟨RX11, "requestedHours", "(I)I"⟩
abbrev cX11_refusedRenewals : ByteArray := prog_1_method_36_code
def yX11_refusedRenewals : MethodName := ⟨RX11, "refusedRenewals", "()I"⟩
abbrev cX11_officeCoins : ByteArray := prog_1_method_37_code
def yX11_officeCoins : MethodName := ⟨RX11, "officeCoins", "()I"⟩
abbrev cX11_shipByFines : ByteArray := prog_1_method_38_code
def yX11_shipByFines : MethodName := ⟨RX11, "shipByFines", "(I)I"⟩
abbrev cX11_lampByEnd : ByteArray := prog_1_method_39_code
def yX11_lampByEnd : MethodName := ⟨RX11, "lampByEnd", "(I)I"⟩
abbrev cX11_meanCoins : ByteArray := prog_1_method_40_code
def yX11_meanCoins : MethodName := ⟨RX11, "meanCoins", "()D"⟩
abbrev cX11_leasedShare : ByteArray := prog_1_method_41_code
def yX11_leasedShare : MethodName := ⟨RX11, "leasedShare", "()F"⟩
abbrev cX11_isConsistent : ByteArray := prog_1_method_42_code
def yX11_isConsistent : MethodName := ⟨RX11, "isConsistent", "()Z"⟩
abbrev cX11_coinsAddUp : ByteArray := prog_1_method_43_code
def yX11_coinsAddUp : MethodName := ⟨RX11, "coinsAddUp", "()Z"⟩
abbrev cX11_sharesAgree : ByteArray := prog_1_method_44_code
def yX11_sharesAgree : MethodName := ⟨RX11, "sharesAgree", "()Z"⟩
abbrev cX11_sharesAddUp : ByteArray := prog_1_method_45_code
def yX11_sharesAddUp : MethodName := ⟨RX11, "sharesAddUp", "()Z"⟩
abbrev cX11_brightnessAgrees : ByteArray := prog_1_method_46_code
def yX11_brightnessAgrees : MethodName := ⟨RX11, "brightnessAgrees", "()Z"⟩
abbrev cX11_requestsAreForLeasedLamps : ByteArray := prog_1_method_47_code
def yX11_requestsAreForLeasedLamps : MethodName := ⟨RX11, "requestsAreForLeasedLamps", "()Z"⟩
abbrev cX11_feed : ByteArray := prog_1_method_48_code
def yX11_feed : MethodName := ⟨RX11, "feed", "(C)I"⟩
abbrev cX11_runCommands : ByteArray := prog_1_method_49_code
def yX11_runCommands : MethodName := ⟨RX11, "runCommands", "()I"⟩
abbrev cX11_faultOf : ByteArray := prog_1_method_50_code
def yX11_faultOf : MethodName := ⟨RX11, "faultOf", "(LLampLeaseOffice$Command;)C"⟩
abbrev cX11_carryOut : ByteArray := prog_1_method_51_code
def yX11_carryOut : MethodName := ⟨RX11, "carryOut", "(LLampLeaseOffice$Command;)V"⟩
abbrev cX11_writeLamps : ByteArray := prog_1_method_55_code
def yX11_writeLamps : MethodName := ⟨RX11, "writeLamps", "()I"⟩
abbrev cX11_describe : ByteArray := prog_1_method_56_code
def yX11_describe : MethodName := ⟨RX11, "describe", "(I)V"⟩
abbrev cX11_outputChar : ByteArray := prog_1_method_57_code
def yX11_outputChar : MethodName := ⟨RX11, "outputChar", "(I)C"⟩
abbrev cX11_undoCount : ByteArray := prog_1_method_58_code
def yX11_undoCount : MethodName := ⟨RX11, "undoCount", "()I"⟩
abbrev cX11_undo : ByteArray := prog_1_method_59_code
def yX11_undo : MethodName := ⟨RX11, "undo", "()I"⟩
abbrev cX11_throwFor : ByteArray := prog_1_method_62_code
def yX11_throwFor : MethodName := ⟨RX11, "throwFor", "(C)V"⟩
abbrev cX11_throwUnlessShip : ByteArray := prog_1_method_63_code
def yX11_throwUnlessShip : MethodName := ⟨RX11, "throwUnlessShip", "(I)V"⟩
abbrev cX11_throwUnlessLamp : ByteArray := prog_1_method_64_code
def yX11_throwUnlessLamp : MethodName := ⟨RX11, "throwUnlessLamp", "(I)V"⟩
abbrev cX11_throwUnlessPosition : ByteArray := prog_1_method_65_code
def yX11_throwUnlessPosition : MethodName := ⟨RX11, "throwUnlessPosition", "(I)V"⟩
abbrev cX11_throwIfNothing : ByteArray := prog_1_method_66_code
def yX11_throwIfNothing : MethodName := ⟨RX11, "throwIfNothing", "(I)V"⟩
def RX12 : String := "LampLeaseOfficeModel"
def TX12 : u_T := fun k => match k with
  | _ => ("", "", "", false)
def tyX12 : Nat → FieldType := fun k => match k with
  | _ => .int
theorem nmX12 : ∀ a, a < 0 → ∀ b, b < 0 → a ≠ b → (TX12 a).2.1 ≠ (TX12 b).2.1 := by decide +kernel
theorem tyX12_ok : ∀ k, k < 0 → parseFieldDescriptor (TX12 k).2.2.1 = some (tyX12 k) := by decide +kernel
def RJx145de : String := "java/io/Serializable"
def TJx145de : u_T := fun k => match k with
  | _ => ("", "", "", false)
def tyJx145de : Nat → FieldType := fun k => match k with
  | _ => .int
theorem nmJx145de : ∀ a, a < 0 → ∀ b, b < 0 → a ≠ b → (TJx145de a).2.1 ≠ (TJx145de b).2.1 := by decide +kernel
theorem tyJx145de_ok : ∀ k, k < 0 → parseFieldDescriptor (TJx145de k).2.2.1 = some (tyJx145de k) := by decide +kernel
def RJ5 : String := "java/lang/AbstractStringBuilder"
def TJ5 : u_T := fun k => match k with
  | _ => ("", "", "", false)
def tyJ5 : Nat → FieldType := fun k => match k with
  | _ => .int
theorem nmJ5 : ∀ a, a < 0 → ∀ b, b < 0 → a ≠ b → (TJ5 a).2.1 ≠ (TJ5 b).2.1 := by decide +kernel
theorem tyJ5_ok : ∀ k, k < 0 → parseFieldDescriptor (TJ5 k).2.2.1 = some (tyJ5 k) := by decide +kernel
abbrev cJ5_init_d00df : ByteArray := prog_16_method_2_code
def yJ5_init_d00df : MethodName := ⟨RJ5, "<init>", "(I)V"⟩
abbrev cJ5_length_8abf5 : ByteArray := prog_16_method_6_code
def yJ5_length_8abf5 : MethodName := ⟨RJ5, "length", "()I"⟩
abbrev cJ5_ensureCapacityInternal_d00df : ByteArray := prog_16_method_9_code
def yJ5_ensureCapacityInternal_d00df : MethodName := ⟨RJ5, "ensureCapacityInternal", "(I)V"⟩
abbrev cJ5_newCapacity_0f7a4 : ByteArray := prog_16_method_10_code
def yJ5_newCapacity_0f7a4 : MethodName := ⟨RJ5, "newCapacity", "(I)I"⟩
abbrev cJ5_inflate_da8c8 : ByteArray := prog_16_method_11_code
def yJ5_inflate_da8c8 : MethodName := ⟨RJ5, "inflate", "()V"⟩
abbrev cJ5_setLength_d00df : ByteArray := prog_16_method_13_code
def yJ5_setLength_d00df : MethodName := ⟨RJ5, "setLength", "(I)V"⟩
abbrev cJ5_charAt_5068e : ByteArray := prog_16_method_14_code
def yJ5_charAt_5068e : MethodName := ⟨RJ5, "charAt", "(I)C"⟩
abbrev cJ5_append_cf1ce : ByteArray := prog_16_method_22_code
def yJ5_append_cf1ce : MethodName := ⟨RJ5, "append", "(Ljava/lang/String;)Ljava/lang/AbstractStringBuilder;"⟩
abbrev cJ5_appendNull_278bc : ByteArray := prog_16_method_26_code
def yJ5_appendNull_278bc : MethodName := ⟨RJ5, "appendNull", "()Ljava/lang/AbstractStringBuilder;"⟩
abbrev cJ5_append_3fe6f : ByteArray := prog_16_method_31_code
def yJ5_append_3fe6f : MethodName := ⟨RJ5, "append", "(C)Ljava/lang/AbstractStringBuilder;"⟩
abbrev cJ5_append_c97b9 : ByteArray := prog_16_method_32_code
def yJ5_append_c97b9 : MethodName := ⟨RJ5, "append", "(I)Ljava/lang/AbstractStringBuilder;"⟩
abbrev cJ5_getValue_6d5f1 : ByteArray := prog_16_method_64_code
def yJ5_getValue_6d5f1 : MethodName := ⟨RJ5, "getValue", "()[B"⟩
abbrev cJ5_isLatin1_aae02 : ByteArray := prog_16_method_68_code
def yJ5_isLatin1_aae02 : MethodName := ⟨RJ5, "isLatin1", "()Z"⟩
abbrev cJ5_inflateIfNeededFor_a7421 : ByteArray := prog_16_method_71_code
def yJ5_inflateIfNeededFor_a7421 : MethodName := ⟨RJ5, "inflateIfNeededFor", "(Ljava/lang/String;)V"⟩
abbrev cJ5_putStringAt_47b60 : ByteArray := prog_16_method_73_code
def yJ5_putStringAt_47b60 : MethodName := ⟨RJ5, "putStringAt", "(ILjava/lang/String;)V"⟩
def RJx2cfe8 : String := "java/lang/Appendable"
def TJx2cfe8 : u_T := fun k => match k with
  | _ => ("", "", "", false)
def tyJx2cfe8 : Nat → FieldType := fun k => match k with
  | _ => .int
theorem nmJx2cfe8 : ∀ a, a < 0 → ∀ b, b < 0 → a ≠ b → (TJx2cfe8 a).2.1 ≠ (TJx2cfe8 b).2.1 := by decide +kernel
theorem tyJx2cfe8_ok : ∀ k, k < 0 → parseFieldDescriptor (TJx2cfe8 k).2.2.1 = some (tyJx2cfe8 k) := by decide +kernel
def RJx00060 : String := "java/lang/ArrayIndexOutOfBoundsException"
def TJx00060 : u_T := fun k => match k with
  | 0 => ("java/lang/Throwable", "backtrace", "Ljava/lang/Object;", false)
  | 1 => ("java/lang/Throwable", "detailMessage", "Ljava/lang/String;", false)
  | 2 => ("java/lang/Throwable", "cause", "Ljava/lang/Throwable;", false)
  | 3 => ("java/lang/Throwable", "stackTrace", "[Ljava/lang/StackTraceElement;", false)
  | 4 => ("java/lang/Throwable", "depth", "I", false)
  | _ => ("java/lang/Throwable", "suppressedExceptions", "Ljava/util/List;", false)
def tyJx00060 : Nat → FieldType := fun k => match k with
  | 0 => .object "java/lang/Object"
  | 1 => .object "java/lang/String"
  | 2 => .object "java/lang/Throwable"
  | 3 => .array (.object "java/lang/StackTraceElement")
  | 4 => .int
  | _ => .object "java/util/List"
theorem nmJx00060 : ∀ a, a < 6 → ∀ b, b < 6 → a ≠ b → (TJx00060 a).2.1 ≠ (TJx00060 b).2.1 := by decide +kernel
theorem tyJx00060_ok : ∀ k, k < 6 → parseFieldDescriptor (TJx00060 k).2.2.1 = some (tyJx00060 k) := by decide +kernel
abbrev cJx00060_init_a7421 : ByteArray := prog_19_method_2_code
def yJx00060_init_a7421 : MethodName := ⟨RJx00060, "<init>", "(Ljava/lang/String;)V"⟩
abbrev cJx00060_init_d00df : ByteArray := prog_19_method_3_code
def yJx00060_init_d00df : MethodName := ⟨RJx00060, "<init>", "(I)V"⟩
def RJx9f9b0 : String := "java/lang/CharSequence"
def TJx9f9b0 : u_T := fun k => match k with
  | _ => ("", "", "", false)
def tyJx9f9b0 : Nat → FieldType := fun k => match k with
  | _ => .int
theorem nmJx9f9b0 : ∀ a, a < 0 → ∀ b, b < 0 → a ≠ b → (TJx9f9b0 a).2.1 ≠ (TJx9f9b0 b).2.1 := by decide +kernel
theorem tyJx9f9b0_ok : ∀ k, k < 0 → parseFieldDescriptor (TJx9f9b0 k).2.2.1 = some (tyJx9f9b0 k) := by decide +kernel
def RJx8e188 : String := "java/lang/Cloneable"
def TJx8e188 : u_T := fun k => match k with
  | _ => ("", "", "", false)
def tyJx8e188 : Nat → FieldType := fun k => match k with
  | _ => .int
theorem nmJx8e188 : ∀ a, a < 0 → ∀ b, b < 0 → a ≠ b → (TJx8e188 a).2.1 ≠ (TJx8e188 b).2.1 := by decide +kernel
theorem tyJx8e188_ok : ∀ k, k < 0 → parseFieldDescriptor (TJx8e188 k).2.2.1 = some (tyJx8e188 k) := by decide +kernel
def RJxb160c : String := "java/lang/Comparable"
def TJxb160c : u_T := fun k => match k with
  | _ => ("", "", "", false)
def tyJxb160c : Nat → FieldType := fun k => match k with
  | _ => .int
theorem nmJxb160c : ∀ a, a < 0 → ∀ b, b < 0 → a ≠ b → (TJxb160c a).2.1 ≠ (TJxb160c b).2.1 := by decide +kernel
theorem tyJxb160c_ok : ∀ k, k < 0 → parseFieldDescriptor (TJxb160c k).2.2.1 = some (tyJxb160c k) := by decide +kernel
def RJx29ce0 : String := "java/lang/Enum"
def TJx29ce0 : u_T := fun k => match k with
  | _ => ("", "", "", false)
def tyJx29ce0 : Nat → FieldType := fun k => match k with
  | _ => .int
theorem nmJx29ce0 : ∀ a, a < 0 → ∀ b, b < 0 → a ≠ b → (TJx29ce0 a).2.1 ≠ (TJx29ce0 b).2.1 := by decide +kernel
theorem tyJx29ce0_ok : ∀ k, k < 0 → parseFieldDescriptor (TJx29ce0 k).2.2.1 = some (tyJx29ce0 k) := by decide +kernel
abbrev cJx29ce0_ordinal_8abf5 : ByteArray := prog_23_method_2_code
def yJx29ce0_ordinal_8abf5 : MethodName := ⟨RJx29ce0, "ordinal", "()I"⟩
def RJ6 : String := "java/lang/Integer"
def TJ6 : u_T := fun k => match k with
  | _ => ("", "", "", false)
def tyJ6 : Nat → FieldType := fun k => match k with
  | _ => .int
theorem nmJ6 : ∀ a, a < 0 → ∀ b, b < 0 → a ≠ b → (TJ6 a).2.1 ≠ (TJ6 b).2.1 := by decide +kernel
theorem tyJ6_ok : ∀ k, k < 0 → parseFieldDescriptor (TJ6 k).2.2.1 = some (tyJ6 k) := by decide +kernel
abbrev cJ6_getChars_ba4f3 : ByteArray := prog_28_method_12_code
def yJ6_getChars_ba4f3 : MethodName := ⟨RJ6, "getChars", "(II[B)I"⟩
abbrev cJ6_stringSize_0f7a4 : ByteArray := prog_28_method_13_code
def yJ6_stringSize_0f7a4 : MethodName := ⟨RJ6, "stringSize", "(I)I"⟩
def RJ9 : String := "java/lang/Math"
def TJ9 : u_T := fun k => match k with
  | _ => ("", "", "", false)
def tyJ9 : Nat → FieldType := fun k => match k with
  | _ => .int
theorem nmJ9 : ∀ a, a < 0 → ∀ b, b < 0 → a ≠ b → (TJ9 a).2.1 ≠ (TJ9 b).2.1 := by decide +kernel
theorem tyJ9_ok : ∀ k, k < 0 → parseFieldDescriptor (TJ9 k).2.2.1 = some (tyJ9 k) := by decide +kernel
abbrev cJ9_max_7cf53 : ByteArray := prog_29_method_65_code
def yJ9_max_7cf53 : MethodName := ⟨RJ9, "max", "(II)I"⟩
abbrev cJ9_min_7cf53 : ByteArray := prog_29_method_69_code
def yJ9_min_7cf53 : MethodName := ⟨RJ9, "min", "(II)I"⟩
def RJxd2413 : String := "java/lang/Number"
def TJxd2413 : u_T := fun k => match k with
  | _ => ("", "", "", false)
def tyJxd2413 : Nat → FieldType := fun k => match k with
  | _ => .int
theorem nmJxd2413 : ∀ a, a < 0 → ∀ b, b < 0 → a ≠ b → (TJxd2413 a).2.1 ≠ (TJxd2413 b).2.1 := by decide +kernel
theorem tyJxd2413_ok : ∀ k, k < 0 → parseFieldDescriptor (TJxd2413 k).2.2.1 = some (tyJxd2413 k) := by decide +kernel
def RJ0 : String := "java/lang/String"
def TJ0 : u_T := fun k => match k with
  | 0 => ("java/lang/String", "value", "[B", true)
  | 1 => ("java/lang/String", "coder", "B", true)
  | 2 => ("java/lang/String", "hash", "I", false)
  | _ => ("java/lang/String", "hashIsZero", "Z", false)
def tyJ0 : Nat → FieldType := fun k => match k with
  | 0 => .array .byte
  | 1 => .byte
  | 2 => .int
  | _ => .boolean
theorem nmJ0 : ∀ a, a < 4 → ∀ b, b < 4 → a ≠ b → (TJ0 a).2.1 ≠ (TJ0 b).2.1 := by decide +kernel
theorem tyJ0_ok : ∀ k, k < 4 → parseFieldDescriptor (TJ0 k).2.2.1 = some (tyJ0 k) := by decide +kernel
abbrev cJ0_init_81219 : ByteArray := prog_32_method_53_code
def yJ0_init_81219 : MethodName := ⟨RJ0, "<init>", "(Ljava/lang/StringBuilder;)V"⟩
abbrev cJ0_length_8abf5 : ByteArray := prog_32_method_54_code
def yJ0_length_8abf5 : MethodName := ⟨RJ0, "length", "()I"⟩
abbrev cJ0_charAt_5068e : ByteArray := prog_32_method_56_code
def yJ0_charAt_5068e : MethodName := ⟨RJ0, "charAt", "(I)C"⟩
abbrev cJ0_getBytes_840e7 : ByteArray := prog_32_method_147_code
def yJ0_getBytes_840e7 : MethodName := ⟨RJ0, "getBytes", "([BIB)V"⟩
abbrev cJ0_init_db425 : ByteArray := prog_32_method_150_code
def yJ0_init_db425 : MethodName := ⟨RJ0, "<init>", "(Ljava/lang/AbstractStringBuilder;Ljava/lang/Void;)V"⟩
abbrev cJ0_coder_7d493 : ByteArray := prog_32_method_152_code
def yJ0_coder_7d493 : MethodName := ⟨RJ0, "coder", "()B"⟩
abbrev cJ0_isLatin1_aae02 : ByteArray := prog_32_method_154_code
def yJ0_isLatin1_aae02 : MethodName := ⟨RJ0, "isLatin1", "()Z"⟩
abbrev cJ0_checkIndex_df160 : ByteArray := prog_32_method_155_code
def yJ0_checkIndex_df160 : MethodName := ⟨RJ0, "checkIndex", "(II)V"⟩
abbrev cJ0_checkBoundsOffCount_cabcc : ByteArray := prog_32_method_157_code
def yJ0_checkBoundsOffCount_cabcc : MethodName := ⟨RJ0, "checkBoundsOffCount", "(III)I"⟩
abbrev cJ0_checkBoundsBeginEnd_23922 : ByteArray := prog_32_method_158_code
def yJ0_checkBoundsBeginEnd_23922 : MethodName := ⟨RJ0, "checkBoundsBeginEnd", "(III)V"⟩
def RJ4 : String := "java/lang/StringBuilder"
def TJ4 : u_T := fun k => match k with
  | 0 => ("java/lang/AbstractStringBuilder", "value", "[B", false)
  | 1 => ("java/lang/AbstractStringBuilder", "coder", "B", false)
  | 2 => ("java/lang/AbstractStringBuilder", "maybeLatin1", "Z", false)
  | _ => ("java/lang/AbstractStringBuilder", "count", "I", false)
def tyJ4 : Nat → FieldType := fun k => match k with
  | 0 => .array .byte
  | 1 => .byte
  | 2 => .boolean
  | _ => .int
theorem nmJ4 : ∀ a, a < 4 → ∀ b, b < 4 → a ≠ b → (TJ4 a).2.1 ≠ (TJ4 b).2.1 := by decide +kernel
theorem tyJ4_ok : ∀ k, k < 4 → parseFieldDescriptor (TJ4 k).2.2.1 = some (tyJ4 k) := by decide +kernel
abbrev cJ4_init_da8c8 : ByteArray := prog_33_method_1_code
def yJ4_init_da8c8 : MethodName := ⟨RJ4, "<init>", "()V"⟩
abbrev cJ4_append_15ec4 : ByteArray := prog_33_method_7_code
def yJ4_append_15ec4 : MethodName := ⟨RJ4, "append", "(Ljava/lang/String;)Ljava/lang/StringBuilder;"⟩
abbrev cJ4_append_cf468 : ByteArray := prog_33_method_14_code
def yJ4_append_cf468 : MethodName := ⟨RJ4, "append", "(C)Ljava/lang/StringBuilder;"⟩
abbrev cJ4_append_bf812 : ByteArray := prog_33_method_15_code
def yJ4_append_bf812 : MethodName := ⟨RJ4, "append", "(I)Ljava/lang/StringBuilder;"⟩
abbrev cJ4_toString_0e30d : ByteArray := prog_33_method_42_code
def yJ4_toString_0e30d : MethodName := ⟨RJ4, "toString", "()Ljava/lang/String;"⟩
abbrev cJ4_charAt_5068e : ByteArray := prog_33_method_88_code
def yJ4_charAt_5068e : MethodName := ⟨RJ4, "charAt", "(I)C"⟩
abbrev cJ4_setLength_d00df : ByteArray := prog_33_method_89_code
def yJ4_setLength_d00df : MethodName := ⟨RJ4, "setLength", "(I)V"⟩
abbrev cJ4_length_8abf5 : ByteArray := prog_33_method_93_code
def yJ4_length_8abf5 : MethodName := ⟨RJ4, "length", "()I"⟩
def RJx7c733 : String := "java/lang/StringIndexOutOfBoundsException"
def TJx7c733 : u_T := fun k => match k with
  | 0 => ("java/lang/Throwable", "backtrace", "Ljava/lang/Object;", false)
  | 1 => ("java/lang/Throwable", "detailMessage", "Ljava/lang/String;", false)
  | 2 => ("java/lang/Throwable", "cause", "Ljava/lang/Throwable;", false)
  | 3 => ("java/lang/Throwable", "stackTrace", "[Ljava/lang/StackTraceElement;", false)
  | 4 => ("java/lang/Throwable", "depth", "I", false)
  | _ => ("java/lang/Throwable", "suppressedExceptions", "Ljava/util/List;", false)
def tyJx7c733 : Nat → FieldType := fun k => match k with
  | 0 => .object "java/lang/Object"
  | 1 => .object "java/lang/String"
  | 2 => .object "java/lang/Throwable"
  | 3 => .array (.object "java/lang/StackTraceElement")
  | 4 => .int
  | _ => .object "java/util/List"
theorem nmJx7c733 : ∀ a, a < 6 → ∀ b, b < 6 → a ≠ b → (TJx7c733 a).2.1 ≠ (TJx7c733 b).2.1 := by decide +kernel
theorem tyJx7c733_ok : ∀ k, k < 6 → parseFieldDescriptor (TJx7c733 k).2.2.1 = some (tyJx7c733 k) := by decide +kernel
abbrev cJx7c733_init_d00df : ByteArray := prog_34_method_3_code
def yJx7c733_init_d00df : MethodName := ⟨RJx7c733, "<init>", "(I)V"⟩
def RJ1 : String := "java/lang/StringLatin1"
def TJ1 : u_T := fun k => match k with
  | _ => ("", "", "", false)
def tyJ1 : Nat → FieldType := fun k => match k with
  | _ => .int
theorem nmJ1 : ∀ a, a < 0 → ∀ b, b < 0 → a ≠ b → (TJ1 a).2.1 ≠ (TJ1 b).2.1 := by decide +kernel
theorem tyJ1_ok : ∀ k, k < 0 → parseFieldDescriptor (TJ1 k).2.2.1 = some (tyJ1 k) := by decide +kernel
abbrev cJ1_charAt_3b067 : ByteArray := prog_35_method_2_code
def yJ1_charAt_3b067 : MethodName := ⟨RJ1, "charAt", "([BI)C"⟩
abbrev cJ1_canEncode_fc78d : ByteArray := prog_35_method_3_code
def yJ1_canEncode_fc78d : MethodName := ⟨RJ1, "canEncode", "(C)Z"⟩
abbrev cJ1_fillNull_b72d1 : ByteArray := prog_35_method_48_code
def yJ1_fillNull_b72d1 : MethodName := ⟨RJ1, "fillNull", "([BII)V"⟩
abbrev cJ1_inflate_0e8fd : ByteArray := prog_35_method_50_code
def yJ1_inflate_0e8fd : MethodName := ⟨RJ1, "inflate", "([BI[BII)V"⟩
def RJ2 : String := "java/lang/StringUTF16"
def TJ2 : u_T := fun k => match k with
  | _ => ("", "", "", false)
def tyJ2 : Nat → FieldType := fun k => match k with
  | _ => .int
theorem nmJ2 : ∀ a, a < 0 → ∀ b, b < 0 → a ≠ b → (TJ2 a).2.1 ≠ (TJ2 b).2.1 := by decide +kernel
theorem tyJ2_ok : ∀ k, k < 0 → parseFieldDescriptor (TJ2 k).2.2.1 = some (tyJ2 k) := by decide +kernel
abbrev cJ2_newBytesFor_77867 : ByteArray := prog_36_method_2_code
def yJ2_newBytesFor_77867 : MethodName := ⟨RJ2, "newBytesFor", "(I)[B"⟩
abbrev cJ2_newBytesLength_0f7a4 : ByteArray := prog_36_method_3_code
def yJ2_newBytesLength_0f7a4 : MethodName := ⟨RJ2, "newBytesLength", "(I)I"⟩
abbrev cJ2_putChar_b72d1 : ByteArray := prog_36_method_4_code
def yJ2_putChar_b72d1 : MethodName := ⟨RJ2, "putChar", "([BII)V"⟩
abbrev cJ2_getChar_3b067 : ByteArray := prog_36_method_5_code
def yJ2_getChar_3b067 : MethodName := ⟨RJ2, "getChar", "([BI)C"⟩
abbrev cJ2_length_9d52b : ByteArray := prog_36_method_6_code
def yJ2_length_9d52b : MethodName := ⟨RJ2, "length", "([B)I"⟩
abbrev cJ2_coderFromArrayLen_85cad : ByteArray := prog_36_method_15_code
def yJ2_coderFromArrayLen_85cad : MethodName := ⟨RJ2, "coderFromArrayLen", "([BI)B"⟩
abbrev cJ2_compress_39247 : ByteArray := prog_36_method_17_code
def yJ2_compress_39247 : MethodName := ⟨RJ2, "compress", "([BII)[B"⟩
abbrev cJ2_compress_5af95 : ByteArray := prog_36_method_22_code
def yJ2_compress_5af95 : MethodName := ⟨RJ2, "compress", "([BI[BII)I"⟩
abbrev cJ2_fillNull_b72d1 : ByteArray := prog_36_method_70_code
def yJ2_fillNull_b72d1 : MethodName := ⟨RJ2, "fillNull", "([BII)V"⟩
abbrev cJ2_putCharSB_b72d1 : ByteArray := prog_36_method_71_code
def yJ2_putCharSB_b72d1 : MethodName := ⟨RJ2, "putCharSB", "([BII)V"⟩
abbrev cJ2_getChars_46870 : ByteArray := prog_36_method_77_code
def yJ2_getChars_46870 : MethodName := ⟨RJ2, "getChars", "(III[B)I"⟩
abbrev cJ2_putCharsAt_cd4e5 : ByteArray := prog_36_method_81_code
def yJ2_putCharsAt_cd4e5 : MethodName := ⟨RJ2, "putCharsAt", "([BICCCC)I"⟩
abbrev cJ2_charAt_3b067 : ByteArray := prog_36_method_83_code
def yJ2_charAt_3b067 : MethodName := ⟨RJ2, "charAt", "([BI)C"⟩
abbrev cJ2_inflate_0e8fd : ByteArray := prog_36_method_86_code
def yJ2_inflate_0e8fd : MethodName := ⟨RJ2, "inflate", "([BI[BII)V"⟩
abbrev cJ2_getChars_ba4f3 : ByteArray := prog_36_method_89_code
def yJ2_getChars_ba4f3 : MethodName := ⟨RJ2, "getChars", "(II[B)I"⟩
abbrev cJ2_checkIndex_2214a : ByteArray := prog_36_method_91_code
def yJ2_checkIndex_2214a : MethodName := ⟨RJ2, "checkIndex", "(I[B)V"⟩
abbrev cJ2_checkBoundsBeginEnd_d044e : ByteArray := prog_36_method_93_code
def yJ2_checkBoundsBeginEnd_d044e : MethodName := ⟨RJ2, "checkBoundsBeginEnd", "(II[B)V"⟩
abbrev cJ2_checkBoundsOffCount_d044e : ByteArray := prog_36_method_94_code
def yJ2_checkBoundsOffCount_d044e : MethodName := ⟨RJ2, "checkBoundsOffCount", "(II[B)V"⟩
def RJ10 : String := "java/lang/System"
def TJ10 : u_T := fun k => match k with
  | _ => ("", "", "", false)
def tyJ10 : Nat → FieldType := fun k => match k with
  | _ => .int
theorem nmJ10 : ∀ a, a < 0 → ∀ b, b < 0 → a ≠ b → (TJ10 a).2.1 ≠ (TJ10 b).2.1 := by decide +kernel
theorem tyJ10_ok : ∀ k, k < 0 → parseFieldDescriptor (TJ10 k).2.2.1 = some (tyJ10 k) := by decide +kernel
def RJxfd54e : String := "java/lang/constant/Constable"
def TJxfd54e : u_T := fun k => match k with
  | _ => ("", "", "", false)
def tyJxfd54e : Nat → FieldType := fun k => match k with
  | _ => .int
theorem nmJxfd54e : ∀ a, a < 0 → ∀ b, b < 0 → a ≠ b → (TJxfd54e a).2.1 ≠ (TJxfd54e b).2.1 := by decide +kernel
theorem tyJxfd54e_ok : ∀ k, k < 0 → parseFieldDescriptor (TJxfd54e k).2.2.1 = some (tyJxfd54e k) := by decide +kernel
def RJx3cf43 : String := "java/lang/constant/ConstantDesc"
def TJx3cf43 : u_T := fun k => match k with
  | _ => ("", "", "", false)
def tyJx3cf43 : Nat → FieldType := fun k => match k with
  | _ => .int
theorem nmJx3cf43 : ∀ a, a < 0 → ∀ b, b < 0 → a ≠ b → (TJx3cf43 a).2.1 ≠ (TJx3cf43 b).2.1 := by decide +kernel
theorem tyJx3cf43_ok : ∀ k, k < 0 → parseFieldDescriptor (TJx3cf43 k).2.2.1 = some (tyJx3cf43 k) := by decide +kernel
def RJ7 : String := "java/util/Arrays"
def TJ7 : u_T := fun k => match k with
  | _ => ("", "", "", false)
def tyJ7 : Nat → FieldType := fun k => match k with
  | _ => .int
theorem nmJ7 : ∀ a, a < 0 → ∀ b, b < 0 → a ≠ b → (TJ7 a).2.1 ≠ (TJ7 b).2.1 := by decide +kernel
theorem tyJ7_ok : ∀ k, k < 0 → parseFieldDescriptor (TJ7 k).2.2.1 = some (tyJ7 k) := by decide +kernel
abbrev cJ7_rangeCheck_23922 : ByteArray := prog_42_method_30_code
def yJ7_rangeCheck_23922 : MethodName := ⟨RJ7, "rangeCheck", "(III)V"⟩
abbrev cJ7_fill_eb02e : ByteArray := prog_42_method_110_code
def yJ7_fill_eb02e : MethodName := ⟨RJ7, "fill", "([BIIB)V"⟩
abbrev cJ7_copyOf_9075b : ByteArray := prog_42_method_121_code
def yJ7_copyOf_9075b : MethodName := ⟨RJ7, "copyOf", "([BI)[B"⟩
abbrev cJ7_checkLength_df160 : ByteArray := prog_42_method_131_code
def yJ7_checkLength_df160 : MethodName := ⟨RJ7, "checkLength", "(II)V"⟩
abbrev cJ7_copyOfRange_39247 : ByteArray := prog_42_method_132_code
def yJ7_copyOfRange_39247 : MethodName := ⟨RJ7, "copyOfRange", "([BII)[B"⟩
abbrev cJ7_copyOfRangeByte_39247 : ByteArray := prog_42_method_133_code
def yJ7_copyOfRangeByte_39247 : MethodName := ⟨RJ7, "copyOfRangeByte", "([BII)[B"⟩
def RJ8 : String := "jdk/internal/util/ArraysSupport"
def TJ8 : u_T := fun k => match k with
  | _ => ("", "", "", false)
def tyJ8 : Nat → FieldType := fun k => match k with
  | _ => .int
theorem nmJ8 : ∀ a, a < 0 → ∀ b, b < 0 → a ≠ b → (TJ8 a).2.1 ≠ (TJ8 b).2.1 := by decide +kernel
theorem tyJ8_ok : ∀ k, k < 0 → parseFieldDescriptor (TJ8 k).2.2.1 = some (tyJ8 k) := by decide +kernel
abbrev cJ8_newLength_cabcc : ByteArray := prog_44_method_27_code
def yJ8_newLength_cabcc : MethodName := ⟨RJ8, "newLength", "(III)I"⟩
abbrev cJ8_hugeLength_7cf53 : ByteArray := prog_44_method_28_code
def yJ8_hugeLength_7cf53 : MethodName := ⟨RJ8, "hugeLength", "(II)I"⟩
def RJ3 : String := "jdk/internal/util/Preconditions"
def TJ3 : u_T := fun k => match k with
  | _ => ("", "", "", false)
def tyJ3 : Nat → FieldType := fun k => match k with
  | _ => .int
theorem nmJ3 : ∀ a, a < 0 → ∀ b, b < 0 → a ≠ b → (TJ3 a).2.1 ≠ (TJ3 b).2.1 := by decide +kernel
theorem tyJ3_ok : ∀ k, k < 0 → parseFieldDescriptor (TJ3 k).2.2.1 = some (tyJ3 k) := by decide +kernel
abbrev cJ3_checkIndex_8e157 : ByteArray := prog_45_method_11_code
def yJ3_checkIndex_8e157 : MethodName := ⟨RJ3, "checkIndex", "(IILjava/util/function/BiFunction;)I"⟩
abbrev cJ3_checkFromToIndex_8c36e : ByteArray := prog_45_method_12_code
def yJ3_checkFromToIndex_8c36e : MethodName := ⟨RJ3, "checkFromToIndex", "(IIILjava/util/function/BiFunction;)I"⟩
abbrev cJ3_checkFromIndexSize_8c36e : ByteArray := prog_45_method_13_code
def yJ3_checkFromIndexSize_8c36e : MethodName := ⟨RJ3, "checkFromIndexSize", "(IIILjava/util/function/BiFunction;)I"⟩
def RL : String := "LampLeaseOfficeLaw"
abbrev cL_cell : ByteArray := method_2_code
def yL_cell : MethodName := ⟨RL, "cell", "([II)I"⟩
abbrev cL_addShip : ByteArray := method_3_code
def yL_addShip : MethodName := ⟨RL, "addShip", "(LLampLeaseOffice;)I"⟩
abbrev cL_addLamp : ByteArray := method_4_code
def yL_addLamp : MethodName := ⟨RL, "addLamp", "(LLampLeaseOffice;I)I"⟩
abbrev cL_addOil : ByteArray := method_5_code
def yL_addOil : MethodName := ⟨RL, "addOil", "(LLampLeaseOffice;I)I"⟩
abbrev cL_lease : ByteArray := method_6_code
def yL_lease : MethodName := ⟨RL, "lease", "(LLampLeaseOffice;III)I"⟩
abbrev cL_renew : ByteArray := method_7_code
def yL_renew : MethodName := ⟨RL, "renew", "(LLampLeaseOffice;II)I"⟩
abbrev cL_giveUp : ByteArray := method_8_code
def yL_giveUp : MethodName := ⟨RL, "giveUp", "(LLampLeaseOffice;I)I"⟩
abbrev cL_pass : ByteArray := method_9_code
def yL_pass : MethodName := ⟨RL, "pass", "(LLampLeaseOffice;I)I"⟩
abbrev cL_coins : ByteArray := method_10_code
def yL_coins : MethodName := ⟨RL, "coins", "(LLampLeaseOffice;I)I"⟩
abbrev cL_fines : ByteArray := method_11_code
def yL_fines : MethodName := ⟨RL, "fines", "(LLampLeaseOffice;I)I"⟩
abbrev cL_dark : ByteArray := method_12_code
def yL_dark : MethodName := ⟨RL, "dark", "(LLampLeaseOffice;I)I"⟩
abbrev cL_demand : ByteArray := method_13_code
def yL_demand : MethodName := ⟨RL, "demand", "(LLampLeaseOffice;I)I"⟩
abbrev cL_leases : ByteArray := method_14_code
def yL_leases : MethodName := ⟨RL, "leases", "(LLampLeaseOffice;I)I"⟩
abbrev cL_level : ByteArray := method_15_code
def yL_level : MethodName := ⟨RL, "level", "(LLampLeaseOffice;I)I"⟩
abbrev cL_isLeased : ByteArray := method_16_code
def yL_isLeased : MethodName := ⟨RL, "isLeased", "(LLampLeaseOffice;I)I"⟩
abbrev cL_lessee : ByteArray := method_17_code
def yL_lessee : MethodName := ⟨RL, "lessee", "(LLampLeaseOffice;I)I"⟩
abbrev cL_end : ByteArray := method_18_code
def yL_end : MethodName := ⟨RL, "end", "(LLampLeaseOffice;I)I"⟩
abbrev cL_bright : ByteArray := method_19_code
def yL_bright : MethodName := ⟨RL, "bright", "(LLampLeaseOffice;I)I"⟩
abbrev cL_was : ByteArray := method_20_code
def yL_was : MethodName := ⟨RL, "was", "(LLampLeaseOffice;I)I"⟩
abbrev cL_hoursOfOil : ByteArray := method_21_code
def yL_hoursOfOil : MethodName := ⟨RL, "hoursOfOil", "(LLampLeaseOffice;)I"⟩
abbrev cL_byEnds : ByteArray := method_22_code
def yL_byEnds : MethodName := ⟨RL, "byEnds", "(LLampLeaseOffice;)I"⟩
abbrev cL_share : ByteArray := method_23_code
def yL_share : MethodName := ⟨RL, "share", "(LLampLeaseOffice;I)I"⟩
abbrev cL_byRank : ByteArray := method_24_code
def yL_byRank : MethodName := ⟨RL, "byRank", "(LLampLeaseOffice;I)I"⟩
abbrev cL_asked : ByteArray := method_25_code
def yL_asked : MethodName := ⟨RL, "asked", "(LLampLeaseOffice;I)I"⟩
abbrev cL_askedHours : ByteArray := method_26_code
def yL_askedHours : MethodName := ⟨RL, "askedHours", "(LLampLeaseOffice;I)I"⟩
abbrev cL_byFines : ByteArray := method_27_code
def yL_byFines : MethodName := ⟨RL, "byFines", "(LLampLeaseOffice;I)I"⟩
abbrev cL_byEnd : ByteArray := method_28_code
def yL_byEnd : MethodName := ⟨RL, "byEnd", "(LLampLeaseOffice;I)I"⟩
abbrev cL_feed : ByteArray := method_29_code
def yL_feed : MethodName := ⟨RL, "feed", "(LLampLeaseOffice;C)I"⟩
abbrev cL_runs : ByteArray := method_30_code
def yL_runs : MethodName := ⟨RL, "runs", "(LLampLeaseOffice;)I"⟩
abbrev cL_outputAt : ByteArray := method_34_code
def yL_outputAt : MethodName := ⟨RL, "outputAt", "(LLampLeaseOffice;I)I"⟩
abbrev cL_undo : ByteArray := method_35_code
def yL_undo : MethodName := ⟨RL, "undo", "(LLampLeaseOffice;)I"⟩
abbrev cL_run : ByteArray := method_36_code
def yL_run : MethodName := ⟨RL, "run", "(LLampLeaseOffice;Ljava/lang/String;)I"⟩
abbrev cL_drawn : ByteArray := method_37_code
def yL_drawn : MethodName := ⟨RL, "drawn", "([I)LLampLeaseOffice;"⟩
abbrev cL_brightBy : ByteArray := method_38_code
def yL_brightBy : MethodName := ⟨RL, "brightBy", "(LLampLeaseOffice;)I"⟩
abbrev cL_law : ByteArray := code
def yL_law : MethodName := ⟨RL, "law", "([I)Z"⟩
abbrev cL_ships : ByteArray := method_40_code
def yL_ships : MethodName := ⟨RL, "ships", "(LLampLeaseOffice;)Z"⟩
abbrev cL_areLeft : ByteArray := method_41_code
def yL_areLeft : MethodName := ⟨RL, "areLeft", "(LLampLeaseOffice;)Z"⟩
abbrev cL_oils : ByteArray := method_42_code
def yL_oils : MethodName := ⟨RL, "oils", "(LLampLeaseOffice;)Z"⟩
abbrev cL_lamps : ByteArray := method_43_code
def yL_lamps : MethodName := ⟨RL, "lamps", "(LLampLeaseOffice;)Z"⟩
abbrev cL_isAsked : ByteArray := method_44_code
def yL_isAsked : MethodName := ⟨RL, "isAsked", "(LLampLeaseOffice;I)Z"⟩
abbrev cL_spells : ByteArray := method_45_code
def yL_spells : MethodName := ⟨RL, "spells", "(LLampLeaseOffice;ILjava/lang/String;)Z"⟩
abbrev cL_texts : ByteArray := method_46_code
def yL_texts : MethodName := ⟨RL, "texts", "(LLampLeaseOffice;)Z"⟩
abbrev cL_sum : ByteArray := method_47_code
def yL_sum : MethodName := ⟨RL, "sum", "(LLampLeaseOffice;)J"⟩
abbrev cL_undone : ByteArray := method_48_code
def yL_undone : MethodName := ⟨RL, "undone", "([ILLampLeaseOffice;)Z"⟩
