/-! ===== BEGIN printed: names, fields, word lists, decode rows ===== -/
def RX0 : String := "Pledgehouse$Charter"
def TX0 : u_T := fun k => match k with
  | 0 => ("Pledgehouse$Charter", "ofClass", "I", true)
  | 1 => ("Pledgehouse$Charter", "share", "I", false)
  | _ => ("Pledgehouse$Charter", "cap", "I", false)
def tyX0 : Nat → FieldType := fun k => match k with
  | 0 => .int
  | 1 => .int
  | _ => .int
abbrev wsX00 : List Cond := u_ws RX0 TX0 3
theorem nmX0 : ∀ a, a < 3 → ∀ b, b < 3 → a ≠ b → (TX0 a).2.1 ≠ (TX0 b).2.1 := by decide +kernel
theorem tyX0_ok : ∀ k, k < 3 → parseFieldDescriptor (TX0 k).2.2.1 = some (tyX0 k) := by decide +kernel
abbrev cX0_init : ByteArray := prog_2_method_1_code
def yX0_init : MethodName := ⟨RX0, "<init>", "(I)V"⟩
def RX1 : String := "Pledgehouse$Expert"
def TX1 : u_T := fun k => match k with
  | 0 => ("Pledgehouse$Expert", "bias", "I", false)
  | 1 => ("Pledgehouse$Expert", "charged", "I", false)
  | _ => ("Pledgehouse$Expert", "judgement", "I", false)
def tyX1 : Nat → FieldType := fun k => match k with
  | 0 => .int
  | 1 => .int
  | _ => .int
abbrev wsX10 : List Cond := u_ws RX1 TX1 3
theorem nmX1 : ∀ a, a < 3 → ∀ b, b < 3 → a ≠ b → (TX1 a).2.1 ≠ (TX1 b).2.1 := by decide +kernel
theorem tyX1_ok : ∀ k, k < 3 → parseFieldDescriptor (TX1 k).2.2.1 = some (tyX1 k) := by decide +kernel
abbrev cX1_init : ByteArray := prog_3_method_1_code
def yX1_init : MethodName := ⟨RX1, "<init>", "()V"⟩
abbrev cX1_valueBy : ByteArray := prog_3_method_2_code
def yX1_valueBy : MethodName := ⟨RX1, "valueBy", "(I)I"⟩
def RX2 : String := "Pledgehouse$Tariff"
def TX2 : u_T := fun k => match k with
  | 0 => ("Pledgehouse$Tariff", "rateDays", "[I", true)
  | 1 => ("Pledgehouse$Tariff", "rateSteps", "[I", true)
  | 2 => ("Pledgehouse$Tariff", "rateValues", "[I", true)
  | 3 => ("Pledgehouse$Tariff", "rates", "I", false)
  | 4 => ("Pledgehouse$Tariff", "amnestyFrom", "[I", true)
  | 5 => ("Pledgehouse$Tariff", "amnestyTo", "[I", true)
  | _ => ("Pledgehouse$Tariff", "amnesties", "I", false)
def tyX2 : Nat → FieldType := fun k => match k with
  | 0 => .array .int
  | 1 => .array .int
  | 2 => .array .int
  | 3 => .int
  | 4 => .array .int
  | 5 => .array .int
  | _ => .int
abbrev wsX20 : List Cond := u_ws RX2 TX2 7
theorem nmX2 : ∀ a, a < 7 → ∀ b, b < 7 → a ≠ b → (TX2 a).2.1 ≠ (TX2 b).2.1 := by decide +kernel
theorem tyX2_ok : ∀ k, k < 7 → parseFieldDescriptor (TX2 k).2.2.1 = some (tyX2 k) := by decide +kernel
abbrev cX2_init : ByteArray := prog_4_method_1_code
def yX2_init : MethodName := ⟨RX2, "<init>", "()V"⟩
abbrev cX2_takesRate : ByteArray := prog_4_method_2_code
def yX2_takesRate : MethodName := ⟨RX2, "takesRate", "()Z"⟩
abbrev cX2_addRate : ByteArray := prog_4_method_3_code
def yX2_addRate : MethodName := ⟨RX2, "addRate", "(III)V"⟩
abbrev cX2_takesAmnesty : ByteArray := prog_4_method_4_code
def yX2_takesAmnesty : MethodName := ⟨RX2, "takesAmnesty", "()Z"⟩
abbrev cX2_addAmnesty : ByteArray := prog_4_method_5_code
def yX2_addAmnesty : MethodName := ⟨RX2, "addAmnesty", "(II)V"⟩
abbrev cX2_rateOn : ByteArray := prog_4_method_6_code
def yX2_rateOn : MethodName := ⟨RX2, "rateOn", "(II)I"⟩
abbrev cX2_firstRate : ByteArray := prog_4_method_7_code
def yX2_firstRate : MethodName := ⟨RX2, "firstRate", "(I)I"⟩
abbrev cX2_isFree : ByteArray := prog_4_method_8_code
def yX2_isFree : MethodName := ⟨RX2, "isFree", "(I)Z"⟩
abbrev cX2_stepOf : ByteArray := prog_4_method_9_code
def yX2_stepOf : MethodName := ⟨RX2, "stepOf", "(I)I"⟩
abbrev cX2_costOf : ByteArray := prog_4_method_10_code
def yX2_costOf : MethodName := ⟨RX2, "costOf", "(III)I"⟩
abbrev cX2_interest : ByteArray := prog_4_method_11_code
def yX2_interest : MethodName := ⟨RX2, "interest", "(III)I"⟩
abbrev cX2_interestByDays : ByteArray := prog_4_method_12_code
def yX2_interestByDays : MethodName := ⟨RX2, "interestByDays", "(III)I"⟩
def RX3 : String := "Pledgehouse$Thing"
def TX3 : u_T := fun k => match k with
  | 0 => ("Pledgehouse$Thing", "number", "I", true)
  | 1 => ("Pledgehouse$Thing", "kind", "I", true)
  | 2 => ("Pledgehouse$Thing", "weight", "I", true)
  | 3 => ("Pledgehouse$Thing", "worth", "I", true)
  | 4 => ("Pledgehouse$Thing", "wear", "I", false)
  | 5 => ("Pledgehouse$Thing", "isStored", "Z", false)
  | 6 => ("Pledgehouse$Thing", "isListed", "Z", false)
  | 7 => ("Pledgehouse$Thing", "bookPlace", "I", false)
  | 8 => ("Pledgehouse$Thing", "truePlace", "I", false)
  | 9 => ("Pledgehouse$Thing", "comeDay", "I", false)
  | 10 => ("Pledgehouse$Thing", "windDay", "I", false)
  | _ => ("Pledgehouse$Thing", "openTicket", "LPledgehouse$Ticket;", false)
def tyX3 : Nat → FieldType := fun k => match k with
  | 0 => .int
  | 1 => .int
  | 2 => .int
  | 3 => .int
  | 4 => .int
  | 5 => .boolean
  | 6 => .boolean
  | 7 => .int
  | 8 => .int
  | 9 => .int
  | 10 => .int
  | _ => .object "Pledgehouse$Ticket"
abbrev wsX30 : List Cond := u_ws RX3 TX3 12
theorem nmX3 : ∀ a, a < 12 → ∀ b, b < 12 → a ≠ b → (TX3 a).2.1 ≠ (TX3 b).2.1 := by decide +kernel
theorem tyX3_ok : ∀ k, k < 12 → parseFieldDescriptor (TX3 k).2.2.1 = some (tyX3 k) := by decide +kernel
abbrev cX3_init : ByteArray := prog_5_method_1_code
def yX3_init : MethodName := ⟨RX3, "<init>", "(IIII)V"⟩
abbrev cX3_canBeFound : ByteArray := prog_5_method_2_code
def yX3_canBeFound : MethodName := ⟨RX3, "canBeFound", "()Z"⟩
abbrev cX3_openTicketNumber : ByteArray := prog_5_method_3_code
def yX3_openTicketNumber : MethodName := ⟨RX3, "openTicketNumber", "()I"⟩
abbrev cX3_store : ByteArray := prog_5_method_4_code
def yX3_store : MethodName := ⟨RX3, "store", "(LPledgehouse$Ticket;II)V"⟩
abbrev cX3_leave : ByteArray := prog_5_method_5_code
def yX3_leave : MethodName := ⟨RX3, "leave", "()V"⟩
abbrev cX3_comeTo : ByteArray := prog_5_method_6_code
def yX3_comeTo : MethodName := ⟨RX3, "comeTo", "(II)V"⟩
abbrev cX3_wearOn : ByteArray := prog_5_method_7_code
def yX3_wearOn : MethodName := ⟨RX3, "wearOn", "(I)V"⟩
abbrev cX3_furWearsOn : ByteArray := prog_5_method_8_code
def yX3_furWearsOn : MethodName := ⟨RX3, "furWearsOn", "(I)Z"⟩
abbrev cX3_clockWearsOn : ByteArray := prog_5_method_9_code
def yX3_clockWearsOn : MethodName := ⟨RX3, "clockWearsOn", "(I)Z"⟩
def RX4 : String := "Pledgehouse$Ticket"
def TX4 : u_T := fun k => match k with
  | 0 => ("Pledgehouse$Ticket", "number", "I", true)
  | 1 => ("Pledgehouse$Ticket", "thing", "LPledgehouse$Thing;", true)
  | 2 => ("Pledgehouse$Ticket", "pledger", "I", true)
  | 3 => ("Pledgehouse$Ticket", "isNamed", "Z", true)
  | 4 => ("Pledgehouse$Ticket", "expert", "LPledgehouse$Expert;", true)
  | 5 => ("Pledgehouse$Ticket", "valuedAt", "I", true)
  | 6 => ("Pledgehouse$Ticket", "holder", "I", false)
  | 7 => ("Pledgehouse$Ticket", "state", "I", false)
  | 8 => ("Pledgehouse$Ticket", "loan", "I", false)
  | 9 => ("Pledgehouse$Ticket", "beginDay", "I", false)
  | 10 => ("Pledgehouse$Ticket", "ownTerm", "I", false)
  | 11 => ("Pledgehouse$Ticket", "noticeBy", "I", false)
  | 12 => ("Pledgehouse$Ticket", "noticeDay", "I", false)
  | 13 => ("Pledgehouse$Ticket", "timesInVain", "I", false)
  | 14 => ("Pledgehouse$Ticket", "surplus", "I", false)
  | _ => ("Pledgehouse$Ticket", "soldDay", "I", false)
def tyX4 : Nat → FieldType := fun k => match k with
  | 0 => .int
  | 1 => .object "Pledgehouse$Thing"
  | 2 => .int
  | 3 => .boolean
  | 4 => .object "Pledgehouse$Expert"
  | 5 => .int
  | 6 => .int
  | 7 => .int
  | 8 => .int
  | 9 => .int
  | 10 => .int
  | 11 => .int
  | 12 => .int
  | 13 => .int
  | 14 => .int
  | _ => .int
abbrev wsX40 : List Cond := u_ws RX4 TX4 16
theorem nmX4 : ∀ a, a < 16 → ∀ b, b < 16 → a ≠ b → (TX4 a).2.1 ≠ (TX4 b).2.1 := by decide +kernel
theorem tyX4_ok : ∀ k, k < 16 → parseFieldDescriptor (TX4 k).2.2.1 = some (tyX4 k) := by decide +kernel
abbrev cX4_init : ByteArray := prog_6_method_1_code
def yX4_init : MethodName := ⟨RX4, "<init>", "(ILPledgehouse$Thing;IZLPledgehouse$Expert;II)V"⟩
abbrev cX4_begin : ByteArray := prog_6_method_2_code
def yX4_begin : MethodName := ⟨RX4, "begin", "(II)V"⟩
abbrev cX4_lastDay : ByteArray := prog_6_method_3_code
def yX4_lastDay : MethodName := ⟨RX4, "lastDay", "()I"⟩
abbrev cX4_close : ByteArray := prog_6_method_4_code
def yX4_close : MethodName := ⟨RX4, "close", "(I)V"⟩
abbrev cX4_isOpenOrSold : ByteArray := prog_6_method_5_code
def yX4_isOpenOrSold : MethodName := ⟨RX4, "isOpenOrSold", "()Z"⟩
abbrev cX4_hasNotice : ByteArray := prog_6_method_6_code
def yX4_hasNotice : MethodName := ⟨RX4, "hasNotice", "()Z"⟩
abbrev cX4_isBarredByList : ByteArray := prog_6_method_7_code
def yX4_isBarredByList : MethodName := ⟨RX4, "isBarredByList", "()Z"⟩
abbrev cX4_isBarred : ByteArray := prog_6_method_8_code
def yX4_isBarred : MethodName := ⟨RX4, "isBarred", "()Z"⟩
abbrev cX4_endNoticeOn : ByteArray := prog_6_method_9_code
def yX4_endNoticeOn : MethodName := ⟨RX4, "endNoticeOn", "(I)V"⟩
abbrev cX4_surplusEndsOn : ByteArray := prog_6_method_10_code
def yX4_surplusEndsOn : MethodName := ⟨RX4, "surplusEndsOn", "(I)Z"⟩
def RX5 : String := "Pledgehouse$Till"
def TX5 : u_T := fun k => match k with
  | 0 => ("Pledgehouse$Till", "inHouse", "I", false)
  | 1 => ("Pledgehouse$Till", "kept", "I", false)
  | 2 => ("Pledgehouse$Till", "gift", "I", false)
  | 3 => ("Pledgehouse$Till", "moves", "[I", true)
  | _ => ("Pledgehouse$Till", "moveCount", "I", false)
def tyX5 : Nat → FieldType := fun k => match k with
  | 0 => .int
  | 1 => .int
  | 2 => .int
  | 3 => .array .int
  | _ => .int
abbrev wsX50 : List Cond := u_ws RX5 TX5 5
theorem nmX5 : ∀ a, a < 5 → ∀ b, b < 5 → a ≠ b → (TX5 a).2.1 ≠ (TX5 b).2.1 := by decide +kernel
theorem tyX5_ok : ∀ k, k < 5 → parseFieldDescriptor (TX5 k).2.2.1 = some (tyX5 k) := by decide +kernel
abbrev cX5_init : ByteArray := prog_7_method_1_code
def yX5_init : MethodName := ⟨RX5, "<init>", "()V"⟩
abbrev cX5_free : ByteArray := prog_7_method_2_code
def yX5_free : MethodName := ⟨RX5, "free", "()I"⟩
abbrev cX5_move : ByteArray := prog_7_method_3_code
def yX5_move : MethodName := ⟨RX5, "move", "(I)V"⟩
abbrev cX5_sumOfMoves : ByteArray := prog_7_method_4_code
def yX5_sumOfMoves : MethodName := ⟨RX5, "sumOfMoves", "()I"⟩
def RX6 : String := "Pledgehouse"
def TX6 : u_T := fun k => match k with
  | 0 => ("Pledgehouse", "things", "Ljava/util/ArrayList;", true)
  | 1 => ("Pledgehouse", "tickets", "Ljava/util/ArrayList;", true)
  | 2 => ("Pledgehouse", "fashions", "[I", true)
  | 3 => ("Pledgehouse", "experts", "[LPledgehouse$Expert;", true)
  | 4 => ("Pledgehouse", "charters", "[LPledgehouse$Charter;", true)
  | 5 => ("Pledgehouse", "charterOfPerson", "[LPledgehouse$Charter;", true)
  | 6 => ("Pledgehouse", "tariff", "LPledgehouse$Tariff;", true)
  | 7 => ("Pledgehouse", "till", "LPledgehouse$Till;", true)
  | 8 => ("Pledgehouse", "termDays", "I", false)
  | _ => ("Pledgehouse", "today", "I", false)
def tyX6 : Nat → FieldType := fun k => match k with
  | 0 => .object "java/util/ArrayList"
  | 1 => .object "java/util/ArrayList"
  | 2 => .array .int
  | 3 => .array (.object "Pledgehouse$Expert")
  | 4 => .array (.object "Pledgehouse$Charter")
  | 5 => .array (.object "Pledgehouse$Charter")
  | 6 => .object "Pledgehouse$Tariff"
  | 7 => .object "Pledgehouse$Till"
  | 8 => .int
  | _ => .int
abbrev wsX60 : List Cond := u_ws RX6 TX6 10
theorem nmX6 : ∀ a, a < 10 → ∀ b, b < 10 → a ≠ b → (TX6 a).2.1 ≠ (TX6 b).2.1 := by decide +kernel
theorem tyX6_ok : ∀ k, k < 10 → parseFieldDescriptor (TX6 k).2.2.1 = some (tyX6 k) := by decide +kernel
abbrev cX6_init : ByteArray := prog_1_method_1_code
def yX6_init : MethodName := ⟨RX6, "<init>", "()V"⟩
abbrev cX6_thing : ByteArray := prog_1_method_2_code
def yX6_thing : MethodName := ⟨RX6, "thing", "(III)I"⟩
abbrev cX6_fashion : ByteArray := prog_1_method_3_code
def yX6_fashion : MethodName := ⟨RX6, "fashion", "(II)I"⟩
abbrev cX6_bias : ByteArray := prog_1_method_4_code
def yX6_bias : MethodName := ⟨RX6, "bias", "(II)I"⟩
abbrev cX6_classOf : ByteArray := prog_1_method_5_code
def yX6_classOf : MethodName := ⟨RX6, "classOf", "(II)I"⟩
abbrev cX6_charter : ByteArray := prog_1_method_6_code
def yX6_charter : MethodName := ⟨RX6, "charter", "(III)V"⟩
abbrev cX6_rate : ByteArray := prog_1_method_7_code
def yX6_rate : MethodName := ⟨RX6, "rate", "(II)I"⟩
abbrev cX6_term : ByteArray := prog_1_method_8_code
def yX6_term : MethodName := ⟨RX6, "term", "(I)I"⟩
abbrev cX6_amnesty : ByteArray := prog_1_method_9_code
def yX6_amnesty : MethodName := ⟨RX6, "amnesty", "(II)I"⟩
abbrev cX6_pledge : ByteArray := prog_1_method_10_code
def yX6_pledge : MethodName := ⟨RX6, "pledge", "(IIIIIZ)I"⟩
abbrev cX6_redeem : ByteArray := prog_1_method_11_code
def yX6_redeem : MethodName := ⟨RX6, "redeem", "(II)I"⟩
abbrev cX6_renew : ByteArray := prog_1_method_12_code
def yX6_renew : MethodName := ⟨RX6, "renew", "(III)I"⟩
abbrev cX6_give : ByteArray := prog_1_method_13_code
def yX6_give : MethodName := ⟨RX6, "give", "(II)I"⟩
abbrev cX6_notice : ByteArray := prog_1_method_14_code
def yX6_notice : MethodName := ⟨RX6, "notice", "(II)V"⟩
abbrev cX6_show : ByteArray := prog_1_method_15_code
def yX6_show : MethodName := ⟨RX6, "show", "(I)I"⟩
abbrev cX6_police : ByteArray := prog_1_method_16_code
def yX6_police : MethodName := ⟨RX6, "police", "(I)I"⟩
abbrev cX6_court : ByteArray := prog_1_method_17_code
def yX6_court : MethodName := ⟨RX6, "court", "(IZ)I"⟩
abbrev cX6_stray : ByteArray := prog_1_method_18_code
def yX6_stray : MethodName := ⟨RX6, "stray", "(III)V"⟩
abbrev cX6_count : ByteArray := prog_1_method_19_code
def yX6_count : MethodName := ⟨RX6, "count", "(I)I"⟩
abbrev cX6_transfer : ByteArray := prog_1_method_20_code
def yX6_transfer : MethodName := ⟨RX6, "transfer", "(II)I"⟩
abbrev cX6_wind : ByteArray := prog_1_method_21_code
def yX6_wind : MethodName := ⟨RX6, "wind", "(I)I"⟩
abbrev cX6_pass : ByteArray := prog_1_method_22_code
def yX6_pass : MethodName := ⟨RX6, "pass", "(I)I"⟩
abbrev cX6_offer : ByteArray := prog_1_method_23_code
def yX6_offer : MethodName := ⟨RX6, "offer", "(II)I"⟩
abbrev cX6_claim : ByteArray := prog_1_method_24_code
def yX6_claim : MethodName := ⟨RX6, "claim", "(II)I"⟩
abbrev cX6_deposit : ByteArray := prog_1_method_25_code
def yX6_deposit : MethodName := ⟨RX6, "deposit", "(I)I"⟩
abbrev cX6_withdraw : ByteArray := prog_1_method_26_code
def yX6_withdraw : MethodName := ⟨RX6, "withdraw", "(I)I"⟩
abbrev cX6_day : ByteArray := prog_1_method_27_code
def yX6_day : MethodName := ⟨RX6, "day", "()I"⟩
abbrev cX6_thingOf : ByteArray := prog_1_method_28_code
def yX6_thingOf : MethodName := ⟨RX6, "thingOf", "(II)I"⟩
abbrev cX6_ticketOf : ByteArray := prog_1_method_29_code
def yX6_ticketOf : MethodName := ⟨RX6, "ticketOf", "(II)I"⟩
abbrev cX6_interestAnew : ByteArray := prog_1_method_30_code
def yX6_interestAnew : MethodName := ⟨RX6, "interestAnew", "(I)I"⟩
abbrev cX6_expertOf : ByteArray := prog_1_method_31_code
def yX6_expertOf : MethodName := ⟨RX6, "expertOf", "(II)I"⟩
abbrev cX6_bears : ByteArray := prog_1_method_32_code
def yX6_bears : MethodName := ⟨RX6, "bears", "(II)I"⟩
abbrev cX6_money : ByteArray := prog_1_method_33_code
def yX6_money : MethodName := ⟨RX6, "money", "(I)I"⟩
abbrev cX6_moneyAnew : ByteArray := prog_1_method_34_code
def yX6_moneyAnew : MethodName := ⟨RX6, "moneyAnew", "()I"⟩
abbrev cX6_needIndex : ByteArray := prog_1_method_35_code
def yX6_needIndex : MethodName := ⟨RX6, "needIndex", "(II)V"⟩
abbrev cX6_needRange : ByteArray := prog_1_method_36_code
def yX6_needRange : MethodName := ⟨RX6, "needRange", "(III)V"⟩
abbrev cX6_needState : ByteArray := prog_1_method_37_code
def yX6_needState : MethodName := ⟨RX6, "needState", "(Z)V"⟩
abbrev cX6_thingAt : ByteArray := prog_1_method_38_code
def yX6_thingAt : MethodName := ⟨RX6, "thingAt", "(I)LPledgehouse$Thing;"⟩
abbrev cX6_ticketAt : ByteArray := prog_1_method_39_code
def yX6_ticketAt : MethodName := ⟨RX6, "ticketAt", "(I)LPledgehouse$Ticket;"⟩
abbrev cX6_valueNow : ByteArray := prog_1_method_40_code
def yX6_valueNow : MethodName := ⟨RX6, "valueNow", "(LPledgehouse$Thing;)I"⟩
abbrev cX6_mayLend : ByteArray := prog_1_method_41_code
def yX6_mayLend : MethodName := ⟨RX6, "mayLend", "(III)Z"⟩
abbrev cX6_openLoansOf : ByteArray := prog_1_method_42_code
def yX6_openLoansOf : MethodName := ⟨RX6, "openLoansOf", "(I)I"⟩
abbrev cX6_interestNow : ByteArray := prog_1_method_43_code
def yX6_interestNow : MethodName := ⟨RX6, "interestNow", "(LPledgehouse$Ticket;)I"⟩
abbrev cX6_mayBeOffered : ByteArray := prog_1_method_44_code
def yX6_mayBeOffered : MethodName := ⟨RX6, "mayBeOffered", "(LPledgehouse$Ticket;)Z"⟩
abbrev cX6_reserveOf : ByteArray := prog_1_method_45_code
def yX6_reserveOf : MethodName := ⟨RX6, "reserveOf", "(LPledgehouse$Ticket;I)I"⟩
abbrev cX6_releaseSurplus : ByteArray := prog_1_method_46_code
def yX6_releaseSurplus : MethodName := ⟨RX6, "releaseSurplus", "(LPledgehouse$Ticket;)I"⟩
abbrev cX6_placeOf : ByteArray := prog_1_method_47_code
def yX6_placeOf : MethodName := ⟨RX6, "placeOf", "(II)I"⟩
abbrev cX6_branchOf : ByteArray := prog_1_method_48_code
def yX6_branchOf : MethodName := ⟨RX6, "branchOf", "(I)I"⟩
abbrev cX6_roomAt : ByteArray := prog_1_method_49_code
def yX6_roomAt : MethodName := ⟨RX6, "roomAt", "(ILPledgehouse$Thing;)I"⟩
abbrev cX6_shelfFor : ByteArray := prog_1_method_50_code
def yX6_shelfFor : MethodName := ⟨RX6, "shelfFor", "(LPledgehouse$Thing;I)I"⟩
abbrev cX6_passOneDay : ByteArray := prog_1_method_51_code
def yX6_passOneDay : MethodName := ⟨RX6, "passOneDay", "()V"⟩
def RX7 : String := "PledgehouseModel"
def TX7 : u_T := fun k => match k with
  | _ => ("", "", "", false)
def tyX7 : Nat → FieldType := fun k => match k with
  | _ => .int
abbrev wsX70 : List Cond := u_ws RX7 TX7 0
theorem nmX7 : ∀ a, a < 0 → ∀ b, b < 0 → a ≠ b → (TX7 a).2.1 ≠ (TX7 b).2.1 := by decide +kernel
theorem tyX7_ok : ∀ k, k < 0 → parseFieldDescriptor (TX7 k).2.2.1 = some (tyX7 k) := by decide +kernel
def RJx145de : String := "java/io/Serializable"
def TJx145de : u_T := fun k => match k with
  | _ => ("", "", "", false)
def tyJx145de : Nat → FieldType := fun k => match k with
  | _ => .int
abbrev wsJx145de0 : List Cond := u_ws RJx145de TJx145de 0
theorem nmJx145de : ∀ a, a < 0 → ∀ b, b < 0 → a ≠ b → (TJx145de a).2.1 ≠ (TJx145de b).2.1 := by decide +kernel
theorem tyJx145de_ok : ∀ k, k < 0 → parseFieldDescriptor (TJx145de k).2.2.1 = some (tyJx145de k) := by decide +kernel
def RJx8e188 : String := "java/lang/Cloneable"
def TJx8e188 : u_T := fun k => match k with
  | _ => ("", "", "", false)
def tyJx8e188 : Nat → FieldType := fun k => match k with
  | _ => .int
abbrev wsJx8e1880 : List Cond := u_ws RJx8e188 TJx8e188 0
theorem nmJx8e188 : ∀ a, a < 0 → ∀ b, b < 0 → a ≠ b → (TJx8e188 a).2.1 ≠ (TJx8e188 b).2.1 := by decide +kernel
theorem tyJx8e188_ok : ∀ k, k < 0 → parseFieldDescriptor (TJx8e188 k).2.2.1 = some (tyJx8e188 k) := by decide +kernel
def RJxab1ab : String := "java/lang/Iterable"
def TJxab1ab : u_T := fun k => match k with
  | _ => ("", "", "", false)
def tyJxab1ab : Nat → FieldType := fun k => match k with
  | _ => .int
abbrev wsJxab1ab0 : List Cond := u_ws RJxab1ab TJxab1ab 0
theorem nmJxab1ab : ∀ a, a < 0 → ∀ b, b < 0 → a ≠ b → (TJxab1ab a).2.1 ≠ (TJxab1ab b).2.1 := by decide +kernel
theorem tyJxab1ab_ok : ∀ k, k < 0 → parseFieldDescriptor (TJxab1ab k).2.2.1 = some (tyJxab1ab k) := by decide +kernel
def RJ9 : String := "java/lang/Math"
def TJ9 : u_T := fun k => match k with
  | _ => ("", "", "", false)
def tyJ9 : Nat → FieldType := fun k => match k with
  | _ => .int
abbrev wsJ90 : List Cond := u_ws RJ9 TJ9 0
theorem nmJ9 : ∀ a, a < 0 → ∀ b, b < 0 → a ≠ b → (TJ9 a).2.1 ≠ (TJ9 b).2.1 := by decide +kernel
theorem tyJ9_ok : ∀ k, k < 0 → parseFieldDescriptor (TJ9 k).2.2.1 = some (tyJ9 k) := by decide +kernel
abbrev cJ9_max_7cf53 : ByteArray := prog_17_method_65_code
def yJ9_max_7cf53 : MethodName := ⟨RJ9, "max", "(II)I"⟩
abbrev cJ9_min_7cf53 : ByteArray := prog_17_method_69_code
def yJ9_min_7cf53 : MethodName := ⟨RJ9, "min", "(II)I"⟩
def RJ10 : String := "java/lang/System"
def TJ10 : u_T := fun k => match k with
  | _ => ("", "", "", false)
def tyJ10 : Nat → FieldType := fun k => match k with
  | _ => .int
abbrev wsJ100 : List Cond := u_ws RJ10 TJ10 0
theorem nmJ10 : ∀ a, a < 0 → ∀ b, b < 0 → a ≠ b → (TJ10 a).2.1 ≠ (TJ10 b).2.1 := by decide +kernel
theorem tyJ10_ok : ∀ k, k < 0 → parseFieldDescriptor (TJ10 k).2.2.1 = some (tyJ10 k) := by decide +kernel
def RJxa1e45 : String := "java/util/AbstractCollection"
def TJxa1e45 : u_T := fun k => match k with
  | _ => ("", "", "", false)
def tyJxa1e45 : Nat → FieldType := fun k => match k with
  | _ => .int
abbrev wsJxa1e450 : List Cond := u_ws RJxa1e45 TJxa1e45 0
theorem nmJxa1e45 : ∀ a, a < 0 → ∀ b, b < 0 → a ≠ b → (TJxa1e45 a).2.1 ≠ (TJxa1e45 b).2.1 := by decide +kernel
theorem tyJxa1e45_ok : ∀ k, k < 0 → parseFieldDescriptor (TJxa1e45 k).2.2.1 = some (tyJxa1e45 k) := by decide +kernel
abbrev cJxa1e45_init_da8c8 : ByteArray := prog_21_method_1_code
def yJxa1e45_init_da8c8 : MethodName := ⟨RJxa1e45, "<init>", "()V"⟩
def RJxc12de : String := "java/util/AbstractList"
def TJxc12de : u_T := fun k => match k with
  | _ => ("", "", "", false)
def tyJxc12de : Nat → FieldType := fun k => match k with
  | _ => .int
abbrev wsJxc12de0 : List Cond := u_ws RJxc12de TJxc12de 0
theorem nmJxc12de : ∀ a, a < 0 → ∀ b, b < 0 → a ≠ b → (TJxc12de a).2.1 ≠ (TJxc12de b).2.1 := by decide +kernel
theorem tyJxc12de_ok : ∀ k, k < 0 → parseFieldDescriptor (TJxc12de k).2.2.1 = some (tyJxc12de k) := by decide +kernel
abbrev cJxc12de_init_da8c8 : ByteArray := prog_22_method_1_code
def yJxc12de_init_da8c8 : MethodName := ⟨RJxc12de, "<init>", "()V"⟩
def RJx4a65c : String := "java/util/ArrayList"
def TJx4a65c : u_T := fun k => match k with
  | 0 => ("java/util/AbstractList", "modCount", "I", false)
  | 1 => ("java/util/ArrayList", "elementData", "[Ljava/lang/Object;", false)
  | _ => ("java/util/ArrayList", "size", "I", false)
def tyJx4a65c : Nat → FieldType := fun k => match k with
  | 0 => .int
  | 1 => .array (.object "java/lang/Object")
  | _ => .int
abbrev wsJx4a65c0 : List Cond := u_ws RJx4a65c TJx4a65c 3
theorem nmJx4a65c : ∀ a, a < 3 → ∀ b, b < 3 → a ≠ b → (TJx4a65c a).2.1 ≠ (TJx4a65c b).2.1 := by decide +kernel
theorem tyJx4a65c_ok : ∀ k, k < 3 → parseFieldDescriptor (TJx4a65c k).2.2.1 = some (tyJx4a65c k) := by decide +kernel
abbrev cJx4a65c_init_da8c8 : ByteArray := prog_23_method_2_code
def yJx4a65c_init_da8c8 : MethodName := ⟨RJx4a65c, "<init>", "()V"⟩
abbrev cJx4a65c_grow_92f84 : ByteArray := prog_23_method_6_code
def yJx4a65c_grow_92f84 : MethodName := ⟨RJx4a65c, "grow", "(I)[Ljava/lang/Object;"⟩
abbrev cJx4a65c_grow_d5877 : ByteArray := prog_23_method_7_code
def yJx4a65c_grow_d5877 : MethodName := ⟨RJx4a65c, "grow", "()[Ljava/lang/Object;"⟩
abbrev cJx4a65c_size_8abf5 : ByteArray := prog_23_method_8_code
def yJx4a65c_size_8abf5 : MethodName := ⟨RJx4a65c, "size", "()I"⟩
abbrev cJx4a65c_elementData_915e3 : ByteArray := prog_23_method_18_code
def yJx4a65c_elementData_915e3 : MethodName := ⟨RJx4a65c, "elementData", "(I)Ljava/lang/Object;"⟩
abbrev cJx4a65c_get_915e3 : ByteArray := prog_23_method_20_code
def yJx4a65c_get_915e3 : MethodName := ⟨RJx4a65c, "get", "(I)Ljava/lang/Object;"⟩
abbrev cJx4a65c_add_72be8 : ByteArray := prog_23_method_24_code
def yJx4a65c_add_72be8 : MethodName := ⟨RJx4a65c, "add", "(Ljava/lang/Object;[Ljava/lang/Object;I)V"⟩
abbrev cJx4a65c_add_9ea2d : ByteArray := prog_23_method_25_code
def yJx4a65c_add_9ea2d : MethodName := ⟨RJx4a65c, "add", "(Ljava/lang/Object;)Z"⟩
def RJ7 : String := "java/util/Arrays"
def TJ7 : u_T := fun k => match k with
  | _ => ("", "", "", false)
def tyJ7 : Nat → FieldType := fun k => match k with
  | _ => .int
abbrev wsJ70 : List Cond := u_ws RJ7 TJ7 0
theorem nmJ7 : ∀ a, a < 0 → ∀ b, b < 0 → a ≠ b → (TJ7 a).2.1 ≠ (TJ7 b).2.1 := by decide +kernel
theorem tyJ7_ok : ∀ k, k < 0 → parseFieldDescriptor (TJ7 k).2.2.1 = some (tyJ7 k) := by decide +kernel
abbrev cJ7_copyOf_1904c : ByteArray := prog_24_method_119_code
def yJ7_copyOf_1904c : MethodName := ⟨RJ7, "copyOf", "([Ljava/lang/Object;I)[Ljava/lang/Object;"⟩
abbrev cJ7_copyOf_6403c : ByteArray := prog_24_method_120_code
def yJ7_copyOf_6403c : MethodName := ⟨RJ7, "copyOf", "([Ljava/lang/Object;ILjava/lang/Class;)[Ljava/lang/Object;"⟩
def RJx5ef63 : String := "java/util/Collection"
def TJx5ef63 : u_T := fun k => match k with
  | _ => ("", "", "", false)
def tyJx5ef63 : Nat → FieldType := fun k => match k with
  | _ => .int
abbrev wsJx5ef630 : List Cond := u_ws RJx5ef63 TJx5ef63 0
theorem nmJx5ef63 : ∀ a, a < 0 → ∀ b, b < 0 → a ≠ b → (TJx5ef63 a).2.1 ≠ (TJx5ef63 b).2.1 := by decide +kernel
theorem tyJx5ef63_ok : ∀ k, k < 0 → parseFieldDescriptor (TJx5ef63 k).2.2.1 = some (tyJx5ef63 k) := by decide +kernel
def RJxbd725 : String := "java/util/List"
def TJxbd725 : u_T := fun k => match k with
  | _ => ("", "", "", false)
def tyJxbd725 : Nat → FieldType := fun k => match k with
  | _ => .int
abbrev wsJxbd7250 : List Cond := u_ws RJxbd725 TJxbd725 0
theorem nmJxbd725 : ∀ a, a < 0 → ∀ b, b < 0 → a ≠ b → (TJxbd725 a).2.1 ≠ (TJxbd725 b).2.1 := by decide +kernel
theorem tyJxbd725_ok : ∀ k, k < 0 → parseFieldDescriptor (TJxbd725 k).2.2.1 = some (tyJxbd725 k) := by decide +kernel
def RJ15 : String := "java/util/Objects"
def TJ15 : u_T := fun k => match k with
  | _ => ("", "", "", false)
def tyJ15 : Nat → FieldType := fun k => match k with
  | _ => .int
abbrev wsJ150 : List Cond := u_ws RJ15 TJ15 0
theorem nmJ15 : ∀ a, a < 0 → ∀ b, b < 0 → a ≠ b → (TJ15 a).2.1 ≠ (TJ15 b).2.1 := by decide +kernel
theorem tyJ15_ok : ∀ k, k < 0 → parseFieldDescriptor (TJ15 k).2.2.1 = some (tyJ15 k) := by decide +kernel
abbrev cJ15_checkIndex_7cf53 : ByteArray := prog_27_method_17_code
def yJ15_checkIndex_7cf53 : MethodName := ⟨RJ15, "checkIndex", "(II)I"⟩
def RJxf0a74 : String := "java/util/RandomAccess"
def TJxf0a74 : u_T := fun k => match k with
  | _ => ("", "", "", false)
def tyJxf0a74 : Nat → FieldType := fun k => match k with
  | _ => .int
abbrev wsJxf0a740 : List Cond := u_ws RJxf0a74 TJxf0a74 0
theorem nmJxf0a74 : ∀ a, a < 0 → ∀ b, b < 0 → a ≠ b → (TJxf0a74 a).2.1 ≠ (TJxf0a74 b).2.1 := by decide +kernel
theorem tyJxf0a74_ok : ∀ k, k < 0 → parseFieldDescriptor (TJxf0a74 k).2.2.1 = some (tyJxf0a74 k) := by decide +kernel
def RJxa66e6 : String := "java/util/SequencedCollection"
def TJxa66e6 : u_T := fun k => match k with
  | _ => ("", "", "", false)
def tyJxa66e6 : Nat → FieldType := fun k => match k with
  | _ => .int
abbrev wsJxa66e60 : List Cond := u_ws RJxa66e6 TJxa66e6 0
theorem nmJxa66e6 : ∀ a, a < 0 → ∀ b, b < 0 → a ≠ b → (TJxa66e6 a).2.1 ≠ (TJxa66e6 b).2.1 := by decide +kernel
theorem tyJxa66e6_ok : ∀ k, k < 0 → parseFieldDescriptor (TJxa66e6 k).2.2.1 = some (tyJxa66e6 k) := by decide +kernel
def RJ8 : String := "jdk/internal/util/ArraysSupport"
def TJ8 : u_T := fun k => match k with
  | _ => ("", "", "", false)
def tyJ8 : Nat → FieldType := fun k => match k with
  | _ => .int
abbrev wsJ80 : List Cond := u_ws RJ8 TJ8 0
theorem nmJ8 : ∀ a, a < 0 → ∀ b, b < 0 → a ≠ b → (TJ8 a).2.1 ≠ (TJ8 b).2.1 := by decide +kernel
theorem tyJ8_ok : ∀ k, k < 0 → parseFieldDescriptor (TJ8 k).2.2.1 = some (tyJ8 k) := by decide +kernel
abbrev cJ8_newLength_cabcc : ByteArray := prog_30_method_27_code
def yJ8_newLength_cabcc : MethodName := ⟨RJ8, "newLength", "(III)I"⟩
abbrev cJ8_hugeLength_7cf53 : ByteArray := prog_30_method_28_code
def yJ8_hugeLength_7cf53 : MethodName := ⟨RJ8, "hugeLength", "(II)I"⟩
def RJ3 : String := "jdk/internal/util/Preconditions"
def TJ3 : u_T := fun k => match k with
  | _ => ("", "", "", false)
def tyJ3 : Nat → FieldType := fun k => match k with
  | _ => .int
abbrev wsJ30 : List Cond := u_ws RJ3 TJ3 0
theorem nmJ3 : ∀ a, a < 0 → ∀ b, b < 0 → a ≠ b → (TJ3 a).2.1 ≠ (TJ3 b).2.1 := by decide +kernel
theorem tyJ3_ok : ∀ k, k < 0 → parseFieldDescriptor (TJ3 k).2.2.1 = some (tyJ3 k) := by decide +kernel
abbrev cJ3_checkIndex_8e157 : ByteArray := prog_31_method_11_code
def yJ3_checkIndex_8e157 : MethodName := ⟨RJ3, "checkIndex", "(IILjava/util/function/BiFunction;)I"⟩
def RL : String := "PledgehouseLaw"
abbrev cL_draw : ByteArray := method_2_code
def yL_draw : MethodName := ⟨RL, "draw", "([II)I"⟩
abbrev cL_thing : ByteArray := method_3_code
def yL_thing : MethodName := ⟨RL, "thing", "(LPledgehouse;III)J"⟩
abbrev cL_fashion : ByteArray := method_4_code
def yL_fashion : MethodName := ⟨RL, "fashion", "(LPledgehouse;II)J"⟩
abbrev cL_bias : ByteArray := method_5_code
def yL_bias : MethodName := ⟨RL, "bias", "(LPledgehouse;II)J"⟩
abbrev cL_classOf : ByteArray := method_6_code
def yL_classOf : MethodName := ⟨RL, "classOf", "(LPledgehouse;II)J"⟩
abbrev cL_charter : ByteArray := method_7_code
def yL_charter : MethodName := ⟨RL, "charter", "(LPledgehouse;III)J"⟩
abbrev cL_rate : ByteArray := method_8_code
def yL_rate : MethodName := ⟨RL, "rate", "(LPledgehouse;II)J"⟩
abbrev cL_term : ByteArray := method_9_code
def yL_term : MethodName := ⟨RL, "term", "(LPledgehouse;I)J"⟩
abbrev cL_amnesty : ByteArray := method_10_code
def yL_amnesty : MethodName := ⟨RL, "amnesty", "(LPledgehouse;II)J"⟩
abbrev cL_pledge : ByteArray := method_11_code
def yL_pledge : MethodName := ⟨RL, "pledge", "(LPledgehouse;IIIIIZ)J"⟩
abbrev cL_redeem : ByteArray := method_12_code
def yL_redeem : MethodName := ⟨RL, "redeem", "(LPledgehouse;II)J"⟩
abbrev cL_renew : ByteArray := method_13_code
def yL_renew : MethodName := ⟨RL, "renew", "(LPledgehouse;III)J"⟩
abbrev cL_give : ByteArray := method_14_code
def yL_give : MethodName := ⟨RL, "give", "(LPledgehouse;II)J"⟩
abbrev cL_notice : ByteArray := method_15_code
def yL_notice : MethodName := ⟨RL, "notice", "(LPledgehouse;II)J"⟩
abbrev cL_show : ByteArray := method_16_code
def yL_show : MethodName := ⟨RL, "show", "(LPledgehouse;I)J"⟩
abbrev cL_police : ByteArray := method_17_code
def yL_police : MethodName := ⟨RL, "police", "(LPledgehouse;I)J"⟩
abbrev cL_court : ByteArray := method_18_code
def yL_court : MethodName := ⟨RL, "court", "(LPledgehouse;IZ)J"⟩
abbrev cL_stray : ByteArray := method_19_code
def yL_stray : MethodName := ⟨RL, "stray", "(LPledgehouse;III)J"⟩
abbrev cL_count : ByteArray := method_20_code
def yL_count : MethodName := ⟨RL, "count", "(LPledgehouse;I)J"⟩
abbrev cL_transfer : ByteArray := method_21_code
def yL_transfer : MethodName := ⟨RL, "transfer", "(LPledgehouse;II)J"⟩
abbrev cL_wind : ByteArray := method_22_code
def yL_wind : MethodName := ⟨RL, "wind", "(LPledgehouse;I)J"⟩
abbrev cL_pass : ByteArray := method_23_code
def yL_pass : MethodName := ⟨RL, "pass", "(LPledgehouse;I)J"⟩
abbrev cL_offer : ByteArray := method_24_code
def yL_offer : MethodName := ⟨RL, "offer", "(LPledgehouse;II)J"⟩
abbrev cL_claim : ByteArray := method_25_code
def yL_claim : MethodName := ⟨RL, "claim", "(LPledgehouse;II)J"⟩
abbrev cL_deposit : ByteArray := method_26_code
def yL_deposit : MethodName := ⟨RL, "deposit", "(LPledgehouse;I)J"⟩
abbrev cL_withdraw : ByteArray := method_27_code
def yL_withdraw : MethodName := ⟨RL, "withdraw", "(LPledgehouse;I)J"⟩
abbrev cL_thingOf : ByteArray := method_28_code
def yL_thingOf : MethodName := ⟨RL, "thingOf", "(LPledgehouse;II)J"⟩
abbrev cL_ticketOf : ByteArray := method_29_code
def yL_ticketOf : MethodName := ⟨RL, "ticketOf", "(LPledgehouse;II)J"⟩
abbrev cL_interestAnew : ByteArray := method_30_code
def yL_interestAnew : MethodName := ⟨RL, "interestAnew", "(LPledgehouse;I)J"⟩
abbrev cL_expertOf : ByteArray := method_31_code
def yL_expertOf : MethodName := ⟨RL, "expertOf", "(LPledgehouse;II)J"⟩
abbrev cL_bears : ByteArray := method_32_code
def yL_bears : MethodName := ⟨RL, "bears", "(LPledgehouse;II)J"⟩
abbrev cL_money : ByteArray := method_33_code
def yL_money : MethodName := ⟨RL, "money", "(LPledgehouse;I)J"⟩
abbrev cL_thingsHold : ByteArray := method_34_code
def yL_thingsHold : MethodName := ⟨RL, "thingsHold", "(LPledgehouse;[III)Z"⟩
abbrev cL_moneyHolds : ByteArray := method_35_code
def yL_moneyHolds : MethodName := ⟨RL, "moneyHolds", "(LPledgehouse;I)Z"⟩
abbrev cL_refuses : ByteArray := method_36_code
def yL_refuses : MethodName := ⟨RL, "refuses", "(LPledgehouse;)Z"⟩
abbrev cL_ends : ByteArray := method_37_code
def yL_ends : MethodName := ⟨RL, "ends", "(LPledgehouse;III)Z"⟩
abbrev cL_law : ByteArray := code
def yL_law : MethodName := ⟨RL, "law", "([I)Z"⟩
abbrev vwCl : List vw_C := [(RJx4a65c, TJx4a65c, 3), (RX0, TX0, 3), (RX1, TX1, 3), (RX2, TX2, 7), (RX3, TX3, 12), (RX4, TX4, 16), (RX5, TX5, 5), (RX6, TX6, 10)]
