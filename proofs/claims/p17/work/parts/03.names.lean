def RX0 : String := "SettleHouse$Days"
def TX0 : u_T := fun k => match k with
  | 0 => ("SettleHouse$Days", "holidayBits", "[I", true)
  | _ => ("SettleHouse$Days", "today", "I", false)
def tyX0 : Nat → FieldType := fun k => match k with
  | 0 => .array .int
  | _ => .int
abbrev wsX00 : List Cond := u_ws RX0 TX0 2
theorem nmX0 : ∀ a, a < 2 → ∀ b, b < 2 → a ≠ b → (TX0 a).2.1 ≠ (TX0 b).2.1 := by decide +kernel
theorem tyX0_ok : ∀ k, k < 2 → parseFieldDescriptor (TX0 k).2.2.1 = some (tyX0 k) := by decide +kernel
abbrev cX0_init : ByteArray := prog_2_method_1_code
def yX0_init : MethodName := ⟨RX0, "<init>", "()V"⟩
abbrev cX0_isHoliday : ByteArray := prog_2_method_2_code
def yX0_isHoliday : MethodName := ⟨RX0, "isHoliday", "(I)Z"⟩
abbrev cX0_markHoliday : ByteArray := prog_2_method_3_code
def yX0_markHoliday : MethodName := ⟨RX0, "markHoliday", "(I)V"⟩
abbrev cX0_weekday : ByteArray := prog_2_method_4_code
def yX0_weekday : MethodName := ⟨RX0, "weekday", "(I)I"⟩
abbrev cX0_isBusinessDay : ByteArray := prog_2_method_5_code
def yX0_isBusinessDay : MethodName := ⟨RX0, "isBusinessDay", "(I)Z"⟩
abbrev cX0_businessDayBehind : ByteArray := prog_2_method_6_code
def yX0_businessDayBehind : MethodName := ⟨RX0, "businessDayBehind", "(II)I"⟩
abbrev cX0_partOfToday : ByteArray := prog_2_method_7_code
def yX0_partOfToday : MethodName := ⟨RX0, "partOfToday", "(I)I"⟩
abbrev cX0_isLeap : ByteArray := prog_2_method_8_code
def yX0_isLeap : MethodName := ⟨RX0, "isLeap", "(I)Z"⟩
abbrev cX0_yearLength : ByteArray := prog_2_method_9_code
def yX0_yearLength : MethodName := ⟨RX0, "yearLength", "(I)I"⟩
abbrev cX0_monthLength : ByteArray := prog_2_method_10_code
def yX0_monthLength : MethodName := ⟨RX0, "monthLength", "(II)I"⟩
def RX1 : String := "SettleHouse$Group"
def TX1 : u_T := fun k => match k with
  | _ => ("SettleHouse$Group", "members", "Ljava/util/ArrayList;", true)
def tyX1 : Nat → FieldType := fun k => match k with
  | _ => .object "java/util/ArrayList"
abbrev wsX10 : List Cond := u_ws RX1 TX1 1
theorem nmX1 : ∀ a, a < 1 → ∀ b, b < 1 → a ≠ b → (TX1 a).2.1 ≠ (TX1 b).2.1 := by decide +kernel
theorem tyX1_ok : ∀ k, k < 1 → parseFieldDescriptor (TX1 k).2.2.1 = some (tyX1 k) := by decide +kernel
abbrev cX1_init : ByteArray := prog_3_method_1_code
def yX1_init : MethodName := ⟨RX1, "<init>", "()V"⟩
abbrev cX1_size : ByteArray := prog_3_method_2_code
def yX1_size : MethodName := ⟨RX1, "size", "()I"⟩
abbrev cX1_isLedBy : ByteArray := prog_3_method_3_code
def yX1_isLedBy : MethodName := ⟨RX1, "isLedBy", "(LSettleHouse$Trade;)Z"⟩
abbrev cX1_takeIn : ByteArray := prog_3_method_4_code
def yX1_takeIn : MethodName := ⟨RX1, "takeIn", "(LSettleHouse$Trade;)V"⟩
abbrev cX1_absorb : ByteArray := prog_3_method_5_code
def yX1_absorb : MethodName := ⟨RX1, "absorb", "(LSettleHouse$Group;)V"⟩
abbrev cX1_drop : ByteArray := prog_3_method_6_code
def yX1_drop : MethodName := ⟨RX1, "drop", "(LSettleHouse$Trade;)V"⟩
abbrev cX1_isReady : ByteArray := prog_3_method_7_code
def yX1_isReady : MethodName := ⟨RX1, "isReady", "(I)Z"⟩
abbrev cX1_priority : ByteArray := prog_3_method_8_code
def yX1_priority : MethodName := ⟨RX1, "priority", "()I"⟩
abbrev cX1_changeOf : ByteArray := prog_3_method_9_code
def yX1_changeOf : MethodName := ⟨RX1, "changeOf", "(II)J"⟩
def RX2 : String := "SettleHouse$Journal"
def TX2 : u_T := fun k => match k with
  | 0 => ("SettleHouse$Journal", "cells", "[I", true)
  | _ => ("SettleHouse$Journal", "rows", "I", false)
def tyX2 : Nat → FieldType := fun k => match k with
  | 0 => .array .int
  | _ => .int
abbrev wsX20 : List Cond := u_ws RX2 TX2 2
theorem nmX2 : ∀ a, a < 2 → ∀ b, b < 2 → a ≠ b → (TX2 a).2.1 ≠ (TX2 b).2.1 := by decide +kernel
theorem tyX2_ok : ∀ k, k < 2 → parseFieldDescriptor (TX2 k).2.2.1 = some (tyX2 k) := by decide +kernel
abbrev cX2_init : ByteArray := prog_4_method_1_code
def yX2_init : MethodName := ⟨RX2, "<init>", "()V"⟩
abbrev cX2_write : ByteArray := prog_4_method_2_code
def yX2_write : MethodName := ⟨RX2, "write", "(IIII)V"⟩
abbrev cX2_read : ByteArray := prog_4_method_3_code
def yX2_read : MethodName := ⟨RX2, "read", "(II)I"⟩
def RX3 : String := "SettleHouse$Side"
def TX3 : u_T := fun k => match k with
  | 0 => ("SettleHouse$Side", "holds", "Z", false)
  | _ => ("SettleHouse$Side", "wishesToCancel", "Z", false)
def tyX3 : Nat → FieldType := fun k => match k with
  | 0 => .boolean
  | _ => .boolean
abbrev wsX30 : List Cond := u_ws RX3 TX3 2
theorem nmX3 : ∀ a, a < 2 → ∀ b, b < 2 → a ≠ b → (TX3 a).2.1 ≠ (TX3 b).2.1 := by decide +kernel
theorem tyX3_ok : ∀ k, k < 2 → parseFieldDescriptor (TX3 k).2.2.1 = some (tyX3 k) := by decide +kernel
abbrev cX3_init : ByteArray := prog_5_method_1_code
def yX3_init : MethodName := ⟨RX3, "<init>", "()V"⟩
def RX4 : String := "SettleHouse$Terms"
def TX4 : u_T := fun k => match k with
  | 0 => ("SettleHouse$Terms", "deliverer", "I", true)
  | 1 => ("SettleHouse$Terms", "receiver", "I", true)
  | 2 => ("SettleHouse$Terms", "security", "I", true)
  | 3 => ("SettleHouse$Terms", "quantity", "I", true)
  | 4 => ("SettleHouse$Terms", "amount", "I", true)
  | 5 => ("SettleHouse$Terms", "day", "I", true)
  | _ => ("SettleHouse$Terms", "lag", "I", true)
def tyX4 : Nat → FieldType := fun k => match k with
  | 0 => .int
  | 1 => .int
  | 2 => .int
  | 3 => .int
  | 4 => .int
  | 5 => .int
  | _ => .int
abbrev wsX40 : List Cond := u_ws RX4 TX4 7
theorem nmX4 : ∀ a, a < 7 → ∀ b, b < 7 → a ≠ b → (TX4 a).2.1 ≠ (TX4 b).2.1 := by decide +kernel
theorem tyX4_ok : ∀ k, k < 7 → parseFieldDescriptor (TX4 k).2.2.1 = some (tyX4 k) := by decide +kernel
abbrev cX4_init : ByteArray := prog_6_method_1_code
def yX4_init : MethodName := ⟨RX4, "<init>", "(IIIIIII)V"⟩
abbrev cX4_isLike : ByteArray := prog_6_method_2_code
def yX4_isLike : MethodName := ⟨RX4, "isLike", "(LSettleHouse$Terms;)Z"⟩
def RX5 : String := "SettleHouse$Trade"
def TX5 : u_T := fun k => match k with
  | 0 => ("SettleHouse$Trade", "number", "I", true)
  | 1 => ("SettleHouse$Trade", "teller", "I", true)
  | 2 => ("SettleHouse$Trade", "terms", "LSettleHouse$Terms;", true)
  | 3 => ("SettleHouse$Trade", "delivererSide", "LSettleHouse$Side;", true)
  | 4 => ("SettleHouse$Trade", "receiverSide", "LSettleHouse$Side;", true)
  | 5 => ("SettleHouse$Trade", "state", "I", false)
  | 6 => ("SettleHouse$Trade", "dueDay", "I", false)
  | 7 => ("SettleHouse$Trade", "quantityLeft", "I", false)
  | 8 => ("SettleHouse$Trade", "amountLeft", "I", false)
  | 9 => ("SettleHouse$Trade", "fails", "I", false)
  | 10 => ("SettleHouse$Trade", "priority", "I", false)
  | 11 => ("SettleHouse$Trade", "inParts", "Z", false)
  | _ => ("SettleHouse$Trade", "group", "LSettleHouse$Group;", false)
def tyX5 : Nat → FieldType := fun k => match k with
  | 0 => .int
  | 1 => .int
  | 2 => .object "SettleHouse$Terms"
  | 3 => .object "SettleHouse$Side"
  | 4 => .object "SettleHouse$Side"
  | 5 => .int
  | 6 => .int
  | 7 => .int
  | 8 => .int
  | 9 => .int
  | 10 => .int
  | 11 => .boolean
  | _ => .object "SettleHouse$Group"
abbrev wsX50 : List Cond := u_ws RX5 TX5 13
theorem nmX5 : ∀ a, a < 13 → ∀ b, b < 13 → a ≠ b → (TX5 a).2.1 ≠ (TX5 b).2.1 := by decide +kernel
theorem tyX5_ok : ∀ k, k < 13 → parseFieldDescriptor (TX5 k).2.2.1 = some (tyX5 k) := by decide +kernel
abbrev cX5_init : ByteArray := prog_7_method_1_code
def yX5_init : MethodName := ⟨RX5, "<init>", "(IILSettleHouse$Terms;)V"⟩
abbrev cX5_isOpen : ByteArray := prog_7_method_2_code
def yX5_isOpen : MethodName := ⟨RX5, "isOpen", "()Z"⟩
abbrev cX5_isFreeToSettle : ByteArray := prog_7_method_3_code
def yX5_isFreeToSettle : MethodName := ⟨RX5, "isFreeToSettle", "(I)Z"⟩
abbrev cX5_bothWishToCancel : ByteArray := prog_7_method_4_code
def yX5_bothWishToCancel : MethodName := ⟨RX5, "bothWishToCancel", "()Z"⟩
abbrev cX5_end : ByteArray := prog_7_method_5_code
def yX5_end : MethodName := ⟨RX5, "end", "(I)V"⟩
abbrev cX5_change : ByteArray := prog_7_method_6_code
def yX5_change : MethodName := ⟨RX5, "change", "(II)J"⟩
abbrev cX5_shareOfAmount : ByteArray := prog_7_method_7_code
def yX5_shareOfAmount : MethodName := ⟨RX5, "shareOfAmount", "(I)I"⟩
def RX6 : String := "SettleHouse$Vault"
def TX6 : u_T := fun k => match k with
  | 0 => ("SettleHouse$Vault", "cells", "[[J", true)
  | _ => ("SettleHouse$Vault", "funded", "[J", true)
def tyX6 : Nat → FieldType := fun k => match k with
  | 0 => .array (.array .long)
  | _ => .array .long
abbrev wsX60 : List Cond := u_ws RX6 TX6 2
theorem nmX6 : ∀ a, a < 2 → ∀ b, b < 2 → a ≠ b → (TX6 a).2.1 ≠ (TX6 b).2.1 := by decide +kernel
theorem tyX6_ok : ∀ k, k < 2 → parseFieldDescriptor (TX6 k).2.2.1 = some (tyX6 k) := by decide +kernel
abbrev cX6_init : ByteArray := prog_8_method_1_code
def yX6_init : MethodName := ⟨RX6, "<init>", "()V"⟩
abbrev cX6_held : ByteArray := prog_8_method_2_code
def yX6_held : MethodName := ⟨RX6, "held", "(II)J"⟩
abbrev cX6_bring : ByteArray := prog_8_method_3_code
def yX6_bring : MethodName := ⟨RX6, "bring", "(III)V"⟩
abbrev cX6_move : ByteArray := prog_8_method_4_code
def yX6_move : MethodName := ⟨RX6, "move", "(IIII)V"⟩
abbrev cX6_isAstray : ByteArray := prog_8_method_5_code
def yX6_isAstray : MethodName := ⟨RX6, "isAstray", "(I)Z"⟩
def RX7 : String := "SettleHouse"
def TX7 : u_T := fun k => match k with
  | 0 => ("SettleHouse", "days", "LSettleHouse$Days;", true)
  | 1 => ("SettleHouse", "vault", "LSettleHouse$Vault;", true)
  | 2 => ("SettleHouse", "journal", "LSettleHouse$Journal;", true)
  | 3 => ("SettleHouse", "trades", "Ljava/util/ArrayList;", true)
  | _ => ("SettleHouse", "readyGroups", "Ljava/util/ArrayList;", true)
def tyX7 : Nat → FieldType := fun k => match k with
  | 0 => .object "SettleHouse$Days"
  | 1 => .object "SettleHouse$Vault"
  | 2 => .object "SettleHouse$Journal"
  | 3 => .object "java/util/ArrayList"
  | _ => .object "java/util/ArrayList"
abbrev wsX70 : List Cond := u_ws RX7 TX7 5
theorem nmX7 : ∀ a, a < 5 → ∀ b, b < 5 → a ≠ b → (TX7 a).2.1 ≠ (TX7 b).2.1 := by decide +kernel
theorem tyX7_ok : ∀ k, k < 5 → parseFieldDescriptor (TX7 k).2.2.1 = some (tyX7 k) := by decide +kernel
abbrev cX7_init : ByteArray := prog_1_method_1_code
def yX7_init : MethodName := ⟨RX7, "<init>", "()V"⟩
abbrev cX7_fund : ByteArray := prog_1_method_2_code
def yX7_fund : MethodName := ⟨RX7, "fund", "(III)J"⟩
abbrev cX7_holiday : ByteArray := prog_1_method_3_code
def yX7_holiday : MethodName := ⟨RX7, "holiday", "(I)Z"⟩
abbrev cX7_tell : ByteArray := prog_1_method_4_code
def yX7_tell : MethodName := ⟨RX7, "tell", "(IIZIIIII)I"⟩
abbrev cX7_hold : ByteArray := prog_1_method_5_code
def yX7_hold : MethodName := ⟨RX7, "hold", "(IIZ)Z"⟩
abbrev cX7_rank : ByteArray := prog_1_method_6_code
def yX7_rank : MethodName := ⟨RX7, "rank", "(IIZ)I"⟩
abbrev cX7_link : ByteArray := prog_1_method_7_code
def yX7_link : MethodName := ⟨RX7, "link", "(II)I"⟩
abbrev cX7_cancel : ByteArray := prog_1_method_8_code
def yX7_cancel : MethodName := ⟨RX7, "cancel", "(II)I"⟩
abbrev cX7_nextDay : ByteArray := prog_1_method_9_code
def yX7_nextDay : MethodName := ⟨RX7, "nextDay", "()I"⟩
abbrev cX7_goTo : ByteArray := prog_1_method_10_code
def yX7_goTo : MethodName := ⟨RX7, "goTo", "(I)I"⟩
abbrev cX7_has : ByteArray := prog_1_method_11_code
def yX7_has : MethodName := ⟨RX7, "has", "(II)J"⟩
abbrev cX7_trade : ByteArray := prog_1_method_12_code
def yX7_trade : MethodName := ⟨RX7, "trade", "(II)I"⟩
abbrev cX7_settled : ByteArray := prog_1_method_13_code
def yX7_settled : MethodName := ⟨RX7, "settled", "(II)I"⟩
abbrev cX7_business : ByteArray := prog_1_method_14_code
def yX7_business : MethodName := ⟨RX7, "business", "(II)I"⟩
abbrev cX7_date : ByteArray := prog_1_method_15_code
def yX7_date : MethodName := ⟨RX7, "date", "(I)I"⟩
abbrev cX7_count : ByteArray := prog_1_method_16_code
def yX7_count : MethodName := ⟨RX7, "count", "(I)I"⟩
abbrev cX7_astray : ByteArray := prog_1_method_17_code
def yX7_astray : MethodName := ⟨RX7, "astray", "()I"⟩
abbrev cX7_checkArgument : ByteArray := prog_1_method_18_code
def yX7_checkArgument : MethodName := ⟨RX7, "checkArgument", "(Z)V"⟩
abbrev cX7_checkState : ByteArray := prog_1_method_19_code
def yX7_checkState : MethodName := ⟨RX7, "checkState", "(Z)V"⟩
abbrev cX7_isWithin : ByteArray := prog_1_method_20_code
def yX7_isWithin : MethodName := ⟨RX7, "isWithin", "(III)Z"⟩
abbrev cX7_isParty : ByteArray := prog_1_method_21_code
def yX7_isParty : MethodName := ⟨RX7, "isParty", "(I)Z"⟩
abbrev cX7_isAsset : ByteArray := prog_1_method_22_code
def yX7_isAsset : MethodName := ⟨RX7, "isAsset", "(I)Z"⟩
abbrev cX7_find : ByteArray := prog_1_method_23_code
def yX7_find : MethodName := ⟨RX7, "find", "(I)LSettleHouse$Trade;"⟩
abbrev cX7_findSide : ByteArray := prog_1_method_24_code
def yX7_findSide : MethodName := ⟨RX7, "findSide", "(LSettleHouse$Trade;I)LSettleHouse$Side;"⟩
abbrev cX7_firstUnmatched : ByteArray := prog_1_method_25_code
def yX7_firstUnmatched : MethodName := ⟨RX7, "firstUnmatched", "(LSettleHouse$Terms;I)LSettleHouse$Trade;"⟩
abbrev cX7_match : ByteArray := prog_1_method_26_code
def yX7_match : MethodName := ⟨RX7, "match", "(LSettleHouse$Trade;)V"⟩
abbrev cX7_passToNextDay : ByteArray := prog_1_method_27_code
def yX7_passToNextDay : MethodName := ⟨RX7, "passToNextDay", "()I"⟩
abbrev cX7_runCycle : ByteArray := prog_1_method_28_code
def yX7_runCycle : MethodName := ⟨RX7, "runCycle", "()I"⟩
abbrev cX7_gatherReadyGroups : ByteArray := prog_1_method_29_code
def yX7_gatherReadyGroups : MethodName := ⟨RX7, "gatherReadyGroups", "()V"⟩
abbrev cX7_putInOrder : ByteArray := prog_1_method_30_code
def yX7_putInOrder : MethodName := ⟨RX7, "putInOrder", "(LSettleHouse$Group;)V"⟩
abbrev cX7_settleCoveredGroups : ByteArray := prog_1_method_31_code
def yX7_settleCoveredGroups : MethodName := ⟨RX7, "settleCoveredGroups", "()I"⟩
abbrev cX7_isCovered : ByteArray := prog_1_method_32_code
def yX7_isCovered : MethodName := ⟨RX7, "isCovered", "(LSettleHouse$Group;)Z"⟩
abbrev cX7_settleWholly : ByteArray := prog_1_method_33_code
def yX7_settleWholly : MethodName := ⟨RX7, "settleWholly", "(LSettleHouse$Group;)I"⟩
abbrev cX7_settle : ByteArray := prog_1_method_34_code
def yX7_settle : MethodName := ⟨RX7, "settle", "(LSettleHouse$Trade;II)V"⟩
abbrev cX7_settleParts : ByteArray := prog_1_method_35_code
def yX7_settleParts : MethodName := ⟨RX7, "settleParts", "()V"⟩
abbrev cX7_settlePartOf : ByteArray := prog_1_method_36_code
def yX7_settlePartOf : MethodName := ⟨RX7, "settlePartOf", "(LSettleHouse$Trade;)V"⟩
abbrev cX7_greatestPart : ByteArray := prog_1_method_37_code
def yX7_greatestPart : MethodName := ⟨RX7, "greatestPart", "(LSettleHouse$Trade;)I"⟩
abbrev cX7_failDueTrades : ByteArray := prog_1_method_38_code
def yX7_failDueTrades : MethodName := ⟨RX7, "failDueTrades", "()V"⟩
def RX8 : String := "SettleHouseModel"
def TX8 : u_T := fun k => match k with
  | 0 => ("SettleHouseModel", "code", "I", false)
  | 1 => ("SettleHouseModel", "today", "I", false)
  | 2 => ("SettleHouseModel", "holidays", "[Z", true)
  | 3 => ("SettleHouseModel", "books", "[J", true)
  | 4 => ("SettleHouseModel", "trades", "I", false)
  | 5 => ("SettleHouseModel", "deliverers", "[I", true)
  | 6 => ("SettleHouseModel", "receivers", "[I", true)
  | 7 => ("SettleHouseModel", "securities", "[I", true)
  | 8 => ("SettleHouseModel", "quantities", "[I", true)
  | 9 => ("SettleHouseModel", "amounts", "[I", true)
  | 10 => ("SettleHouseModel", "firstQuantity", "[I", true)
  | 11 => ("SettleHouseModel", "firstAmount", "[I", true)
  | 12 => ("SettleHouseModel", "days", "[I", true)
  | 13 => ("SettleHouseModel", "lags", "[I", true)
  | 14 => ("SettleHouseModel", "tellers", "[I", true)
  | 15 => ("SettleHouseModel", "states", "[I", true)
  | 16 => ("SettleHouseModel", "dues", "[I", true)
  | 17 => ("SettleHouseModel", "holds", "[I", true)
  | 18 => ("SettleHouseModel", "wishes", "[I", true)
  | 19 => ("SettleHouseModel", "priorities", "[I", true)
  | 20 => ("SettleHouseModel", "parts", "[Z", true)
  | 21 => ("SettleHouseModel", "fails", "[I", true)
  | 22 => ("SettleHouseModel", "groups", "[I", true)
  | 23 => ("SettleHouseModel", "settles", "I", false)
  | 24 => ("SettleHouseModel", "settledTrade", "[I", true)
  | 25 => ("SettleHouseModel", "settledQuantity", "[I", true)
  | 26 => ("SettleHouseModel", "settledCash", "[I", true)
  | 27 => ("SettleHouseModel", "settledDay", "[I", true)
  | 28 => ("SettleHouseModel", "rowSize", "I", false)
  | 29 => ("SettleHouseModel", "row", "[I", true)
  | 30 => ("SettleHouseModel", "moves", "[J", true)
  | _ => ("SettleHouseModel", "wanted", "[I", true)
def tyX8 : Nat → FieldType := fun k => match k with
  | 0 => .int
  | 1 => .int
  | 2 => .array .boolean
  | 3 => .array .long
  | 4 => .int
  | 5 => .array .int
  | 6 => .array .int
  | 7 => .array .int
  | 8 => .array .int
  | 9 => .array .int
  | 10 => .array .int
  | 11 => .array .int
  | 12 => .array .int
  | 13 => .array .int
  | 14 => .array .int
  | 15 => .array .int
  | 16 => .array .int
  | 17 => .array .int
  | 18 => .array .int
  | 19 => .array .int
  | 20 => .array .boolean
  | 21 => .array .int
  | 22 => .array .int
  | 23 => .int
  | 24 => .array .int
  | 25 => .array .int
  | 26 => .array .int
  | 27 => .array .int
  | 28 => .int
  | 29 => .array .int
  | 30 => .array .long
  | _ => .array .int
abbrev wsX80 : List Cond := u_ws RX8 TX8 32
theorem nmX8 : ∀ a, a < 32 → ∀ b, b < 32 → a ≠ b → (TX8 a).2.1 ≠ (TX8 b).2.1 := by decide +kernel
theorem tyX8_ok : ∀ k, k < 32 → parseFieldDescriptor (TX8 k).2.2.1 = some (tyX8 k) := by decide +kernel
abbrev cX8_init : ByteArray := prog_10_method_1_code
def yX8_init : MethodName := ⟨RX8, "<init>", "()V"⟩
abbrev cX8_in : ByteArray := prog_10_method_3_code
def yX8_in : MethodName := ⟨RX8, "in", "(JJJ)Z"⟩
abbrev cX8_isParty : ByteArray := prog_10_method_4_code
def yX8_isParty : MethodName := ⟨RX8, "isParty", "(I)Z"⟩
abbrev cX8_isKind : ByteArray := prog_10_method_5_code
def yX8_isKind : MethodName := ⟨RX8, "isKind", "(I)Z"⟩
abbrev cX8_isTrade : ByteArray := prog_10_method_6_code
def yX8_isTrade : MethodName := ⟨RX8, "isTrade", "(I)Z"⟩
abbrev cX8_weekday : ByteArray := prog_10_method_7_code
def yX8_weekday : MethodName := ⟨RX8, "weekday", "(I)I"⟩
abbrev cX8_businessDay : ByteArray := prog_10_method_8_code
def yX8_businessDay : MethodName := ⟨RX8, "businessDay", "(II)I"⟩
abbrev cX8_isLeap : ByteArray := prog_10_method_9_code
def yX8_isLeap : MethodName := ⟨RX8, "isLeap", "(I)Z"⟩
abbrev cX8_lengthOf : ByteArray := prog_10_method_10_code
def yX8_lengthOf : MethodName := ⟨RX8, "lengthOf", "(II)I"⟩
abbrev cX8_place : ByteArray := prog_10_method_11_code
def yX8_place : MethodName := ⟨RX8, "place", "(II)I"⟩
abbrev cX8_move : ByteArray := prog_10_method_12_code
def yX8_move : MethodName := ⟨RX8, "move", "(III[J)V"⟩
abbrev cX8_isCovered : ByteArray := prog_10_method_13_code
def yX8_isCovered : MethodName := ⟨RX8, "isCovered", "(I)Z"⟩
abbrev cX8_settle : ByteArray := prog_10_method_14_code
def yX8_settle : MethodName := ⟨RX8, "settle", "(III)V"⟩
abbrev cX8_sizeOf : ByteArray := prog_10_method_15_code
def yX8_sizeOf : MethodName := ⟨RX8, "sizeOf", "(I)I"⟩
abbrev cX8_isReady : ByteArray := prog_10_method_16_code
def yX8_isReady : MethodName := ⟨RX8, "isReady", "(I)Z"⟩
abbrev cX8_priorityOf : ByteArray := prog_10_method_17_code
def yX8_priorityOf : MethodName := ⟨RX8, "priorityOf", "(I)I"⟩
abbrev cX8_layRow : ByteArray := prog_10_method_18_code
def yX8_layRow : MethodName := ⟨RX8, "layRow", "()V"⟩
abbrev cX8_settleGroups : ByteArray := prog_10_method_19_code
def yX8_settleGroups : MethodName := ⟨RX8, "settleGroups", "()I"⟩
abbrev cX8_partOf : ByteArray := prog_10_method_20_code
def yX8_partOf : MethodName := ⟨RX8, "partOf", "(I)I"⟩
abbrev cX8_settleParts : ByteArray := prog_10_method_21_code
def yX8_settleParts : MethodName := ⟨RX8, "settleParts", "()V"⟩
abbrev cX8_oneDay : ByteArray := prog_10_method_22_code
def yX8_oneDay : MethodName := ⟨RX8, "oneDay", "()I"⟩
abbrev cX8_fund : ByteArray := prog_10_method_23_code
def yX8_fund : MethodName := ⟨RX8, "fund", "(III)J"⟩
abbrev cX8_holiday : ByteArray := prog_10_method_24_code
def yX8_holiday : MethodName := ⟨RX8, "holiday", "(I)Z"⟩
abbrev cX8_match : ByteArray := prog_10_method_25_code
def yX8_match : MethodName := ⟨RX8, "match", "(I)I"⟩
abbrev cX8_addTrade : ByteArray := prog_10_method_26_code
def yX8_addTrade : MethodName := ⟨RX8, "addTrade", "(I)V"⟩
abbrev cX8_tell : ByteArray := prog_10_method_27_code
def yX8_tell : MethodName := ⟨RX8, "tell", "(IIZIIIII)I"⟩
abbrev cX8_sideOf : ByteArray := prog_10_method_28_code
def yX8_sideOf : MethodName := ⟨RX8, "sideOf", "(II)I"⟩
abbrev cX8_isOver : ByteArray := prog_10_method_29_code
def yX8_isOver : MethodName := ⟨RX8, "isOver", "(I)Z"⟩
abbrev cX8_hold : ByteArray := prog_10_method_30_code
def yX8_hold : MethodName := ⟨RX8, "hold", "(IIZ)Z"⟩
abbrev cX8_rank : ByteArray := prog_10_method_31_code
def yX8_rank : MethodName := ⟨RX8, "rank", "(IIZ)I"⟩
abbrev cX8_link : ByteArray := prog_10_method_32_code
def yX8_link : MethodName := ⟨RX8, "link", "(II)I"⟩
abbrev cX8_cancel : ByteArray := prog_10_method_33_code
def yX8_cancel : MethodName := ⟨RX8, "cancel", "(II)I"⟩
abbrev cX8_nextDay : ByteArray := prog_10_method_34_code
def yX8_nextDay : MethodName := ⟨RX8, "nextDay", "()I"⟩
abbrev cX8_goTo : ByteArray := prog_10_method_35_code
def yX8_goTo : MethodName := ⟨RX8, "goTo", "(I)I"⟩
abbrev cX8_has : ByteArray := prog_10_method_36_code
def yX8_has : MethodName := ⟨RX8, "has", "(II)J"⟩
abbrev cX8_trade : ByteArray := prog_10_method_37_code
def yX8_trade : MethodName := ⟨RX8, "trade", "(II)I"⟩
abbrev cX8_settled : ByteArray := prog_10_method_38_code
def yX8_settled : MethodName := ⟨RX8, "settled", "(II)I"⟩
abbrev cX8_business : ByteArray := prog_10_method_39_code
def yX8_business : MethodName := ⟨RX8, "business", "(II)I"⟩
abbrev cX8_date : ByteArray := prog_10_method_40_code
def yX8_date : MethodName := ⟨RX8, "date", "(I)I"⟩
abbrev cX8_count : ByteArray := prog_10_method_41_code
def yX8_count : MethodName := ⟨RX8, "count", "(I)I"⟩
abbrev cX8_astray : ByteArray := prog_10_method_42_code
def yX8_astray : MethodName := ⟨RX8, "astray", "()I"⟩
def RJx145de : String := "java/io/Serializable"
def TJx145de : u_T := fun k => match k with
  | _ => ("", "", "", false)
def tyJx145de : Nat → FieldType := fun k => match k with
  | _ => .int
abbrev wsJx145de0 : List Cond := u_ws RJx145de TJx145de 0
theorem nmJx145de : ∀ a, a < 0 → ∀ b, b < 0 → a ≠ b → (TJx145de a).2.1 ≠ (TJx145de b).2.1 := by decide +kernel
theorem tyJx145de_ok : ∀ k, k < 0 → parseFieldDescriptor (TJx145de k).2.2.1 = some (tyJx145de k) := by decide +kernel
def RJx8e188 : String := "java/lang/Cloneable"
def TJx8e188 : u_T := fun k => match k with
  | _ => ("", "", "", false)
def tyJx8e188 : Nat → FieldType := fun k => match k with
  | _ => .int
abbrev wsJx8e1880 : List Cond := u_ws RJx8e188 TJx8e188 0
theorem nmJx8e188 : ∀ a, a < 0 → ∀ b, b < 0 → a ≠ b → (TJx8e188 a).2.1 ≠ (TJx8e188 b).2.1 := by decide +kernel
theorem tyJx8e188_ok : ∀ k, k < 0 → parseFieldDescriptor (TJx8e188 k).2.2.1 = some (tyJx8e188 k) := by decide +kernel
def RJxab1ab : String := "java/lang/Iterable"
def TJxab1ab : u_T := fun k => match k with
  | _ => ("", "", "", false)
def tyJxab1ab : Nat → FieldType := fun k => match k with
  | _ => .int
abbrev wsJxab1ab0 : List Cond := u_ws RJxab1ab TJxab1ab 0
theorem nmJxab1ab : ∀ a, a < 0 → ∀ b, b < 0 → a ≠ b → (TJxab1ab a).2.1 ≠ (TJxab1ab b).2.1 := by decide +kernel
theorem tyJxab1ab_ok : ∀ k, k < 0 → parseFieldDescriptor (TJxab1ab k).2.2.1 = some (tyJxab1ab k) := by decide +kernel
def RJ9 : String := "java/lang/Math"
def TJ9 : u_T := fun k => match k with
  | _ => ("", "", "", false)
def tyJ9 : Nat → FieldType := fun k => match k with
  | _ => .int
abbrev wsJ90 : List Cond := u_ws RJ9 TJ9 0
theorem nmJ9 : ∀ a, a < 0 → ∀ b, b < 0 → a ≠ b → (TJ9 a).2.1 ≠ (TJ9 b).2.1 := by decide +kernel
theorem tyJ9_ok : ∀ k, k < 0 → parseFieldDescriptor (TJ9 k).2.2.1 = some (tyJ9 k) := by decide +kernel
abbrev cJ9_max_7cf53 : ByteArray := prog_17_method_65_code
def yJ9_max_7cf53 : MethodName := ⟨RJ9, "max", "(II)I"⟩
abbrev cJ9_min_7cf53 : ByteArray := prog_17_method_69_code
def yJ9_min_7cf53 : MethodName := ⟨RJ9, "min", "(II)I"⟩
abbrev cJ9_min_f86c9 : ByteArray := prog_17_method_70_code
def yJ9_min_f86c9 : MethodName := ⟨RJ9, "min", "(JJ)J"⟩
def RJ10 : String := "java/lang/System"
def TJ10 : u_T := fun k => match k with
  | _ => ("", "", "", false)
def tyJ10 : Nat → FieldType := fun k => match k with
  | _ => .int
abbrev wsJ100 : List Cond := u_ws RJ10 TJ10 0
theorem nmJ10 : ∀ a, a < 0 → ∀ b, b < 0 → a ≠ b → (TJ10 a).2.1 ≠ (TJ10 b).2.1 := by decide +kernel
theorem tyJ10_ok : ∀ k, k < 0 → parseFieldDescriptor (TJ10 k).2.2.1 = some (tyJ10 k) := by decide +kernel
def RJxa1e45 : String := "java/util/AbstractCollection"
def TJxa1e45 : u_T := fun k => match k with
  | _ => ("", "", "", false)
def tyJxa1e45 : Nat → FieldType := fun k => match k with
  | _ => .int
abbrev wsJxa1e450 : List Cond := u_ws RJxa1e45 TJxa1e45 0
theorem nmJxa1e45 : ∀ a, a < 0 → ∀ b, b < 0 → a ≠ b → (TJxa1e45 a).2.1 ≠ (TJxa1e45 b).2.1 := by decide +kernel
theorem tyJxa1e45_ok : ∀ k, k < 0 → parseFieldDescriptor (TJxa1e45 k).2.2.1 = some (tyJxa1e45 k) := by decide +kernel
abbrev cJxa1e45_init_da8c8 : ByteArray := prog_21_method_1_code
def yJxa1e45_init_da8c8 : MethodName := ⟨RJxa1e45, "<init>", "()V"⟩
def RJxc12de : String := "java/util/AbstractList"
def TJxc12de : u_T := fun k => match k with
  | _ => ("", "", "", false)
def tyJxc12de : Nat → FieldType := fun k => match k with
  | _ => .int
abbrev wsJxc12de0 : List Cond := u_ws RJxc12de TJxc12de 0
theorem nmJxc12de : ∀ a, a < 0 → ∀ b, b < 0 → a ≠ b → (TJxc12de a).2.1 ≠ (TJxc12de b).2.1 := by decide +kernel
theorem tyJxc12de_ok : ∀ k, k < 0 → parseFieldDescriptor (TJxc12de k).2.2.1 = some (tyJxc12de k) := by decide +kernel
abbrev cJxc12de_init_da8c8 : ByteArray := prog_22_method_1_code
def yJxc12de_init_da8c8 : MethodName := ⟨RJxc12de, "<init>", "()V"⟩
def RJx4a65c : String := "java/util/ArrayList"
def TJx4a65c : u_T := fun k => match k with
  | 0 => ("java/util/AbstractList", "modCount", "I", false)
  | 1 => ("java/util/ArrayList", "elementData", "[Ljava/lang/Object;", false)
  | _ => ("java/util/ArrayList", "size", "I", false)
def tyJx4a65c : Nat → FieldType := fun k => match k with
  | 0 => .int
  | 1 => .array (.object "java/lang/Object")
  | _ => .int
abbrev wsJx4a65c0 : List Cond := u_ws RJx4a65c TJx4a65c 3
theorem nmJx4a65c : ∀ a, a < 3 → ∀ b, b < 3 → a ≠ b → (TJx4a65c a).2.1 ≠ (TJx4a65c b).2.1 := by decide +kernel
theorem tyJx4a65c_ok : ∀ k, k < 3 → parseFieldDescriptor (TJx4a65c k).2.2.1 = some (tyJx4a65c k) := by decide +kernel
abbrev cJx4a65c_init_da8c8 : ByteArray := prog_23_method_2_code
def yJx4a65c_init_da8c8 : MethodName := ⟨RJx4a65c, "<init>", "()V"⟩
abbrev cJx4a65c_grow_92f84 : ByteArray := prog_23_method_6_code
def yJx4a65c_grow_92f84 : MethodName := ⟨RJx4a65c, "grow", "(I)[Ljava/lang/Object;"⟩
abbrev cJx4a65c_grow_d5877 : ByteArray := prog_23_method_7_code
def yJx4a65c_grow_d5877 : MethodName := ⟨RJx4a65c, "grow", "()[Ljava/lang/Object;"⟩
abbrev cJx4a65c_size_8abf5 : ByteArray := prog_23_method_8_code
def yJx4a65c_size_8abf5 : MethodName := ⟨RJx4a65c, "size", "()I"⟩
abbrev cJx4a65c_isEmpty_aae02 : ByteArray := prog_23_method_9_code
def yJx4a65c_isEmpty_aae02 : MethodName := ⟨RJx4a65c, "isEmpty", "()Z"⟩
abbrev cJx4a65c_elementData_915e3 : ByteArray := prog_23_method_18_code
def yJx4a65c_elementData_915e3 : MethodName := ⟨RJx4a65c, "elementData", "(I)Ljava/lang/Object;"⟩
abbrev cJx4a65c_get_915e3 : ByteArray := prog_23_method_20_code
def yJx4a65c_get_915e3 : MethodName := ⟨RJx4a65c, "get", "(I)Ljava/lang/Object;"⟩
abbrev cJx4a65c_add_72be8 : ByteArray := prog_23_method_24_code
def yJx4a65c_add_72be8 : MethodName := ⟨RJx4a65c, "add", "(Ljava/lang/Object;[Ljava/lang/Object;I)V"⟩
abbrev cJx4a65c_add_9ea2d : ByteArray := prog_23_method_25_code
def yJx4a65c_add_9ea2d : MethodName := ⟨RJx4a65c, "add", "(Ljava/lang/Object;)Z"⟩
abbrev cJx4a65c_add_7a177 : ByteArray := prog_23_method_26_code
def yJx4a65c_add_7a177 : MethodName := ⟨RJx4a65c, "add", "(ILjava/lang/Object;)V"⟩
abbrev cJx4a65c_remove_915e3 : ByteArray := prog_23_method_29_code
def yJx4a65c_remove_915e3 : MethodName := ⟨RJx4a65c, "remove", "(I)Ljava/lang/Object;"⟩
abbrev cJx4a65c_fastRemove_b59b0 : ByteArray := prog_23_method_39_code
def yJx4a65c_fastRemove_b59b0 : MethodName := ⟨RJx4a65c, "fastRemove", "([Ljava/lang/Object;I)V"⟩
abbrev cJx4a65c_clear_da8c8 : ByteArray := prog_23_method_40_code
def yJx4a65c_clear_da8c8 : MethodName := ⟨RJx4a65c, "clear", "()V"⟩
abbrev cJx4a65c_rangeCheckForAdd_d00df : ByteArray := prog_23_method_45_code
def yJx4a65c_rangeCheckForAdd_d00df : MethodName := ⟨RJx4a65c, "rangeCheckForAdd", "(I)V"⟩
def RJ7 : String := "java/util/Arrays"
def TJ7 : u_T := fun k => match k with
  | _ => ("", "", "", false)
def tyJ7 : Nat → FieldType := fun k => match k with
  | _ => .int
abbrev wsJ70 : List Cond := u_ws RJ7 TJ7 0
theorem nmJ7 : ∀ a, a < 0 → ∀ b, b < 0 → a ≠ b → (TJ7 a).2.1 ≠ (TJ7 b).2.1 := by decide +kernel
theorem tyJ7_ok : ∀ k, k < 0 → parseFieldDescriptor (TJ7 k).2.2.1 = some (tyJ7 k) := by decide +kernel
abbrev cJ7_copyOf_1904c : ByteArray := prog_24_method_119_code
def yJ7_copyOf_1904c : MethodName := ⟨RJ7, "copyOf", "([Ljava/lang/Object;I)[Ljava/lang/Object;"⟩
abbrev cJ7_copyOf_6403c : ByteArray := prog_24_method_120_code
def yJ7_copyOf_6403c : MethodName := ⟨RJ7, "copyOf", "([Ljava/lang/Object;ILjava/lang/Class;)[Ljava/lang/Object;"⟩
def RJx5ef63 : String := "java/util/Collection"
def TJx5ef63 : u_T := fun k => match k with
  | _ => ("", "", "", false)
def tyJx5ef63 : Nat → FieldType := fun k => match k with
  | _ => .int
abbrev wsJx5ef630 : List Cond := u_ws RJx5ef63 TJx5ef63 0
theorem nmJx5ef63 : ∀ a, a < 0 → ∀ b, b < 0 → a ≠ b → (TJx5ef63 a).2.1 ≠ (TJx5ef63 b).2.1 := by decide +kernel
theorem tyJx5ef63_ok : ∀ k, k < 0 → parseFieldDescriptor (TJx5ef63 k).2.2.1 = some (tyJx5ef63 k) := by decide +kernel
def RJxbd725 : String := "java/util/List"
def TJxbd725 : u_T := fun k => match k with
  | _ => ("", "", "", false)
def tyJxbd725 : Nat → FieldType := fun k => match k with
  | _ => .int
abbrev wsJxbd7250 : List Cond := u_ws RJxbd725 TJxbd725 0
theorem nmJxbd725 : ∀ a, a < 0 → ∀ b, b < 0 → a ≠ b → (TJxbd725 a).2.1 ≠ (TJxbd725 b).2.1 := by decide +kernel
theorem tyJxbd725_ok : ∀ k, k < 0 → parseFieldDescriptor (TJxbd725 k).2.2.1 = some (tyJxbd725 k) := by decide +kernel
def RJ15 : String := "java/util/Objects"
def TJ15 : u_T := fun k => match k with
  | _ => ("", "", "", false)
def tyJ15 : Nat → FieldType := fun k => match k with
  | _ => .int
abbrev wsJ150 : List Cond := u_ws RJ15 TJ15 0
theorem nmJ15 : ∀ a, a < 0 → ∀ b, b < 0 → a ≠ b → (TJ15 a).2.1 ≠ (TJ15 b).2.1 := by decide +kernel
theorem tyJ15_ok : ∀ k, k < 0 → parseFieldDescriptor (TJ15 k).2.2.1 = some (tyJ15 k) := by decide +kernel
abbrev cJ15_checkIndex_7cf53 : ByteArray := prog_27_method_17_code
def yJ15_checkIndex_7cf53 : MethodName := ⟨RJ15, "checkIndex", "(II)I"⟩
def RJxf0a74 : String := "java/util/RandomAccess"
def TJxf0a74 : u_T := fun k => match k with
  | _ => ("", "", "", false)
def tyJxf0a74 : Nat → FieldType := fun k => match k with
  | _ => .int
abbrev wsJxf0a740 : List Cond := u_ws RJxf0a74 TJxf0a74 0
theorem nmJxf0a74 : ∀ a, a < 0 → ∀ b, b < 0 → a ≠ b → (TJxf0a74 a).2.1 ≠ (TJxf0a74 b).2.1 := by decide +kernel
theorem tyJxf0a74_ok : ∀ k, k < 0 → parseFieldDescriptor (TJxf0a74 k).2.2.1 = some (tyJxf0a74 k) := by decide +kernel
def RJxa66e6 : String := "java/util/SequencedCollection"
def TJxa66e6 : u_T := fun k => match k with
  | _ => ("", "", "", false)
def tyJxa66e6 : Nat → FieldType := fun k => match k with
  | _ => .int
abbrev wsJxa66e60 : List Cond := u_ws RJxa66e6 TJxa66e6 0
theorem nmJxa66e6 : ∀ a, a < 0 → ∀ b, b < 0 → a ≠ b → (TJxa66e6 a).2.1 ≠ (TJxa66e6 b).2.1 := by decide +kernel
theorem tyJxa66e6_ok : ∀ k, k < 0 → parseFieldDescriptor (TJxa66e6 k).2.2.1 = some (tyJxa66e6 k) := by decide +kernel
def RJ8 : String := "jdk/internal/util/ArraysSupport"
def TJ8 : u_T := fun k => match k with
  | _ => ("", "", "", false)
def tyJ8 : Nat → FieldType := fun k => match k with
  | _ => .int
abbrev wsJ80 : List Cond := u_ws RJ8 TJ8 0
theorem nmJ8 : ∀ a, a < 0 → ∀ b, b < 0 → a ≠ b → (TJ8 a).2.1 ≠ (TJ8 b).2.1 := by decide +kernel
theorem tyJ8_ok : ∀ k, k < 0 → parseFieldDescriptor (TJ8 k).2.2.1 = some (tyJ8 k) := by decide +kernel
abbrev cJ8_newLength_cabcc : ByteArray := prog_30_method_27_code
def yJ8_newLength_cabcc : MethodName := ⟨RJ8, "newLength", "(III)I"⟩
abbrev cJ8_hugeLength_7cf53 : ByteArray := prog_30_method_28_code
def yJ8_hugeLength_7cf53 : MethodName := ⟨RJ8, "hugeLength", "(II)I"⟩
def RJ3 : String := "jdk/internal/util/Preconditions"
def TJ3 : u_T := fun k => match k with
  | _ => ("", "", "", false)
def tyJ3 : Nat → FieldType := fun k => match k with
  | _ => .int
abbrev wsJ30 : List Cond := u_ws RJ3 TJ3 0
theorem nmJ3 : ∀ a, a < 0 → ∀ b, b < 0 → a ≠ b → (TJ3 a).2.1 ≠ (TJ3 b).2.1 := by decide +kernel
theorem tyJ3_ok : ∀ k, k < 0 → parseFieldDescriptor (TJ3 k).2.2.1 = some (tyJ3 k) := by decide +kernel
abbrev cJ3_checkIndex_8e157 : ByteArray := prog_31_method_11_code
def yJ3_checkIndex_8e157 : MethodName := ⟨RJ3, "checkIndex", "(IILjava/util/function/BiFunction;)I"⟩
def RL : String := "SettleHouseLaw"
abbrev cL_fund : ByteArray := method_3_code
def yL_fund : MethodName := ⟨RL, "fund", "(LSettleHouse;III[J)I"⟩
abbrev cL_holiday : ByteArray := method_4_code
def yL_holiday : MethodName := ⟨RL, "holiday", "(LSettleHouse;I[J)I"⟩
abbrev cL_tell : ByteArray := method_5_code
def yL_tell : MethodName := ⟨RL, "tell", "(LSettleHouse;IIZIIIII[J)I"⟩
abbrev cL_hold : ByteArray := method_6_code
def yL_hold : MethodName := ⟨RL, "hold", "(LSettleHouse;IIZ[J)I"⟩
abbrev cL_rank : ByteArray := method_7_code
def yL_rank : MethodName := ⟨RL, "rank", "(LSettleHouse;IIZ[J)I"⟩
abbrev cL_link : ByteArray := method_8_code
def yL_link : MethodName := ⟨RL, "link", "(LSettleHouse;II[J)I"⟩
abbrev cL_cancel : ByteArray := method_9_code
def yL_cancel : MethodName := ⟨RL, "cancel", "(LSettleHouse;II[J)I"⟩
abbrev cL_nextDay : ByteArray := method_10_code
def yL_nextDay : MethodName := ⟨RL, "nextDay", "(LSettleHouse;[J)I"⟩
abbrev cL_goTo : ByteArray := method_11_code
def yL_goTo : MethodName := ⟨RL, "goTo", "(LSettleHouse;I[J)I"⟩
abbrev cL_has : ByteArray := method_12_code
def yL_has : MethodName := ⟨RL, "has", "(LSettleHouse;II[J)I"⟩
abbrev cL_trade : ByteArray := method_13_code
def yL_trade : MethodName := ⟨RL, "trade", "(LSettleHouse;II[J)I"⟩
abbrev cL_business : ByteArray := method_14_code
def yL_business : MethodName := ⟨RL, "business", "(LSettleHouse;II[J)I"⟩
abbrev cL_date : ByteArray := method_15_code
def yL_date : MethodName := ⟨RL, "date", "(LSettleHouse;I[J)I"⟩
abbrev cL_count : ByteArray := method_16_code
def yL_count : MethodName := ⟨RL, "count", "(LSettleHouse;I[J)I"⟩
abbrev cL_law : ByteArray := code
def yL_law : MethodName := ⟨RL, "law", "([I)Z"⟩
abbrev vwCl : List vw_C := [(RJx4a65c, TJx4a65c, 3), (RX0, TX0, 2), (RX1, TX1, 1), (RX2, TX2, 2), (RX3, TX3, 2), (RX4, TX4, 7), (RX5, TX5, 13), (RX6, TX6, 2), (RX7, TX7, 5), (RX8, TX8, 32)]
