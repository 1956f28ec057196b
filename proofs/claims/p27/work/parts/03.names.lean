/-! ===== BEGIN printed: names, fields, word lists, decode rows ===== -/
def RX0 : String := "KerbHours$Car"
def TX0 : u_T := fun k => match k with
  | 0 => ("KerbHours$Car", "number", "I", true)
  | 1 => ("KerbHours$Car", "length", "I", true)
  | 2 => ("KerbHours$Car", "user", "I", true)
  | _ => ("KerbHours$Car", "stand", "LKerbHours$Stand;", false)
def tyX0 : Nat → FieldType := fun k => match k with
  | 0 => .int
  | 1 => .int
  | 2 => .int
  | _ => .object "KerbHours$Stand"
abbrev wsX00 : List Cond := u_ws RX0 TX0 4
theorem nmX0 : ∀ a, a < 4 → ∀ b, b < 4 → a ≠ b → (TX0 a).2.1 ≠ (TX0 b).2.1 := by decide +kernel
theorem tyX0_ok : ∀ k, k < 4 → parseFieldDescriptor (TX0 k).2.2.1 = some (tyX0 k) := by decide +kernel
abbrev cX0_init : ByteArray := prog_2_method_1_code
def yX0_init : MethodName := ⟨RX0, "<init>", "(III)V"⟩
def RX1 : String := "KerbHours$Fine"
def TX1 : u_T := fun k => match k with
  | 0 => ("KerbHours$Fine", "stand", "LKerbHours$Stand;", true)
  | 1 => ("KerbHours$Fine", "quarter", "I", true)
  | 2 => ("KerbHours$Fine", "judgement", "I", true)
  | 3 => ("KerbHours$Fine", "isAppealed", "Z", false)
  | 4 => ("KerbHours$Fine", "isTakenBack", "Z", false)
  | _ => ("KerbHours$Fine", "isPaid", "Z", false)
def tyX1 : Nat → FieldType := fun k => match k with
  | 0 => .object "KerbHours$Stand"
  | 1 => .int
  | 2 => .int
  | 3 => .boolean
  | 4 => .boolean
  | _ => .boolean
abbrev wsX10 : List Cond := u_ws RX1 TX1 6
theorem nmX1 : ∀ a, a < 6 → ∀ b, b < 6 → a ≠ b → (TX1 a).2.1 ≠ (TX1 b).2.1 := by decide +kernel
theorem tyX1_ok : ∀ k, k < 6 → parseFieldDescriptor (TX1 k).2.2.1 = some (tyX1 k) := by decide +kernel
abbrev cX1_init : ByteArray := prog_3_method_1_code
def yX1_init : MethodName := ⟨RX1, "<init>", "(LKerbHours$Stand;II)V"⟩
abbrev cX1_isOpen : ByteArray := prog_3_method_2_code
def yX1_isOpen : MethodName := ⟨RX1, "isOpen", "()Z"⟩
abbrev cX1_amount : ByteArray := prog_3_method_3_code
def yX1_amount : MethodName := ⟨RX1, "amount", "()I"⟩
def RX2 : String := "KerbHours$Payment"
def TX2 : u_T := fun k => match k with
  | 0 => ("KerbHours$Payment", "car", "I", true)
  | 1 => ("KerbHours$Payment", "street", "I", true)
  | 2 => ("KerbHours$Payment", "from", "I", true)
  | _ => ("KerbHours$Payment", "quarters", "I", true)
def tyX2 : Nat → FieldType := fun k => match k with
  | 0 => .int
  | 1 => .int
  | 2 => .int
  | _ => .int
abbrev wsX20 : List Cond := u_ws RX2 TX2 4
theorem nmX2 : ∀ a, a < 4 → ∀ b, b < 4 → a ≠ b → (TX2 a).2.1 ≠ (TX2 b).2.1 := by decide +kernel
theorem tyX2_ok : ∀ k, k < 4 → parseFieldDescriptor (TX2 k).2.2.1 = some (tyX2 k) := by decide +kernel
abbrev cX2_init : ByteArray := prog_4_method_1_code
def yX2_init : MethodName := ⟨RX2, "<init>", "(IIII)V"⟩
abbrev cX2_covers : ByteArray := prog_4_method_2_code
def yX2_covers : MethodName := ⟨RX2, "covers", "(I)Z"⟩
def RX3 : String := "KerbHours$Permit"
def TX3 : u_T := fun k => match k with
  | 0 => ("KerbHours$Permit", "car", "I", false)
  | 1 => ("KerbHours$Permit", "street", "I", true)
  | 2 => ("KerbHours$Permit", "home", "I", true)
  | 3 => ("KerbHours$Permit", "from", "I", true)
  | _ => ("KerbHours$Permit", "to", "I", true)
def tyX3 : Nat → FieldType := fun k => match k with
  | 0 => .int
  | 1 => .int
  | 2 => .int
  | 3 => .int
  | _ => .int
abbrev wsX30 : List Cond := u_ws RX3 TX3 5
theorem nmX3 : ∀ a, a < 5 → ∀ b, b < 5 → a ≠ b → (TX3 a).2.1 ≠ (TX3 b).2.1 := by decide +kernel
theorem tyX3_ok : ∀ k, k < 5 → parseFieldDescriptor (TX3 k).2.2.1 = some (tyX3 k) := by decide +kernel
abbrev cX3_init : ByteArray := prog_5_method_1_code
def yX3_init : MethodName := ⟨RX3, "<init>", "(IIIII)V"⟩
abbrev cX3_holdsOn : ByteArray := prog_5_method_2_code
def yX3_holdsOn : MethodName := ⟨RX3, "holdsOn", "(I)Z"⟩
def RX4 : String := "KerbHours$Sign"
def TX4 : u_T := fun k => match k with
  | 0 => ("KerbHours$Sign", "number", "I", true)
  | 1 => ("KerbHours$Sign", "toldAt", "I", true)
  | 2 => ("KerbHours$Sign", "when", "LKerbHours$When;", true)
  | 3 => ("KerbHours$Sign", "downAt", "I", false)
  | 4 => ("KerbHours$Sign", "street", "I", false)
  | 5 => ("KerbHours$Sign", "from", "I", false)
  | 6 => ("KerbHours$Sign", "to", "I", false)
  | 7 => ("KerbHours$Sign", "users", "I", false)
  | 8 => ("KerbHours$Sign", "stay", "I", false)
  | 9 => ("KerbHours$Sign", "hasFee", "Z", false)
  | _ => ("KerbHours$Sign", "isTemporary", "Z", false)
def tyX4 : Nat → FieldType := fun k => match k with
  | 0 => .int
  | 1 => .int
  | 2 => .object "KerbHours$When"
  | 3 => .int
  | 4 => .int
  | 5 => .int
  | 6 => .int
  | 7 => .int
  | 8 => .int
  | 9 => .boolean
  | _ => .boolean
abbrev wsX40 : List Cond := u_ws RX4 TX4 11
theorem nmX4 : ∀ a, a < 11 → ∀ b, b < 11 → a ≠ b → (TX4 a).2.1 ≠ (TX4 b).2.1 := by decide +kernel
theorem tyX4_ok : ∀ k, k < 11 → parseFieldDescriptor (TX4 k).2.2.1 = some (tyX4 k) := by decide +kernel
abbrev cX4_init : ByteArray := prog_6_method_1_code
def yX4_init : MethodName := ⟨RX4, "<init>", "(IILKerbHours$When;)V"⟩
abbrev cX4_setPlace : ByteArray := prog_6_method_2_code
def yX4_setPlace : MethodName := ⟨RX4, "setPlace", "(III)V"⟩
abbrev cX4_setTerms : ByteArray := prog_6_method_3_code
def yX4_setTerms : MethodName := ⟨RX4, "setTerms", "(IIZZ)V"⟩
abbrev cX4_holdsAt : ByteArray := prog_6_method_4_code
def yX4_holdsAt : MethodName := ⟨RX4, "holdsAt", "(III)Z"⟩
abbrev cX4_isUp : ByteArray := prog_6_method_5_code
def yX4_isUp : MethodName := ⟨RX4, "isUp", "(I)Z"⟩
abbrev cX4_isNoticed : ByteArray := prog_6_method_6_code
def yX4_isNoticed : MethodName := ⟨RX4, "isNoticed", "(I)Z"⟩
abbrev cX4_goesAheadOf : ByteArray := prog_6_method_7_code
def yX4_goesAheadOf : MethodName := ⟨RX4, "goesAheadOf", "(LKerbHours$Sign;)Z"⟩
abbrev cX4_letsStand : ByteArray := prog_6_method_8_code
def yX4_letsStand : MethodName := ⟨RX4, "letsStand", "(I)Z"⟩
def RX5 : String := "KerbHours$Stand"
def TX5 : u_T := fun k => match k with
  | 0 => ("KerbHours$Stand", "car", "LKerbHours$Car;", true)
  | 1 => ("KerbHours$Stand", "street", "I", true)
  | 2 => ("KerbHours$Stand", "metre", "I", true)
  | 3 => ("KerbHours$Stand", "since", "I", true)
  | _ => ("KerbHours$Stand", "finedOn", "I", false)
def tyX5 : Nat → FieldType := fun k => match k with
  | 0 => .object "KerbHours$Car"
  | 1 => .int
  | 2 => .int
  | 3 => .int
  | _ => .int
abbrev wsX50 : List Cond := u_ws RX5 TX5 5
theorem nmX5 : ∀ a, a < 5 → ∀ b, b < 5 → a ≠ b → (TX5 a).2.1 ≠ (TX5 b).2.1 := by decide +kernel
theorem tyX5_ok : ∀ k, k < 5 → parseFieldDescriptor (TX5 k).2.2.1 = some (tyX5 k) := by decide +kernel
abbrev cX5_init : ByteArray := prog_7_method_1_code
def yX5_init : MethodName := ⟨RX5, "<init>", "(LKerbHours$Car;III)V"⟩
abbrev cX5_isTooNear : ByteArray := prog_7_method_2_code
def yX5_isTooNear : MethodName := ⟨RX5, "isTooNear", "(II)Z"⟩
def RX6 : String := "KerbHours$Street"
def TX6 : u_T := fun k => match k with
  | 0 => ("KerbHours$Street", "blocked", "[Z", true)
  | 1 => ("KerbHours$Street", "price", "I", false)
  | 2 => ("KerbHours$Street", "taken", "I", false)
  | 3 => ("KerbHours$Street", "takenToday", "I", false)
  | 4 => ("KerbHours$Street", "cost", "I", false)
  | _ => ("KerbHours$Street", "fines", "I", false)
def tyX6 : Nat → FieldType := fun k => match k with
  | 0 => .array .boolean
  | 1 => .int
  | 2 => .int
  | 3 => .int
  | 4 => .int
  | _ => .int
abbrev wsX60 : List Cond := u_ws RX6 TX6 6
theorem nmX6 : ∀ a, a < 6 → ∀ b, b < 6 → a ≠ b → (TX6 a).2.1 ≠ (TX6 b).2.1 := by decide +kernel
theorem tyX6_ok : ∀ k, k < 6 → parseFieldDescriptor (TX6 k).2.2.1 = some (tyX6 k) := by decide +kernel
abbrev cX6_init : ByteArray := prog_8_method_1_code
def yX6_init : MethodName := ⟨RX6, "<init>", "()V"⟩
abbrev cX6_isBlocked : ByteArray := prog_8_method_2_code
def yX6_isBlocked : MethodName := ⟨RX6, "isBlocked", "(I)Z"⟩
abbrev cX6_setBlocked : ByteArray := prog_8_method_3_code
def yX6_setBlocked : MethodName := ⟨RX6, "setBlocked", "(IZ)V"⟩
abbrev cX6_beginDay : ByteArray := prog_8_method_4_code
def yX6_beginDay : MethodName := ⟨RX6, "beginDay", "()V"⟩
def RX7 : String := "KerbHours$When"
def TX7 : u_T := fun k => match k with
  | 0 => ("KerbHours$When", "weekdays", "I", false)
  | 1 => ("KerbHours$When", "fromQuarter", "I", false)
  | 2 => ("KerbHours$When", "toQuarter", "I", false)
  | 3 => ("KerbHours$When", "fromDay", "I", false)
  | _ => ("KerbHours$When", "toDay", "I", false)
def tyX7 : Nat → FieldType := fun k => match k with
  | 0 => .int
  | 1 => .int
  | 2 => .int
  | 3 => .int
  | _ => .int
abbrev wsX70 : List Cond := u_ws RX7 TX7 5
theorem nmX7 : ∀ a, a < 5 → ∀ b, b < 5 → a ≠ b → (TX7 a).2.1 ≠ (TX7 b).2.1 := by decide +kernel
theorem tyX7_ok : ∀ k, k < 5 → parseFieldDescriptor (TX7 k).2.2.1 = some (tyX7 k) := by decide +kernel
abbrev cX7_init : ByteArray := prog_9_method_1_code
def yX7_init : MethodName := ⟨RX7, "<init>", "()V"⟩
abbrev cX7_has : ByteArray := prog_9_method_2_code
def yX7_has : MethodName := ⟨RX7, "has", "(I)Z"⟩
def RX8 : String := "KerbHours"
def TX8 : u_T := fun k => match k with
  | 0 => ("KerbHours", "streets", "Ljava/util/ArrayList;", true)
  | 1 => ("KerbHours", "signs", "Ljava/util/ArrayList;", true)
  | 2 => ("KerbHours", "cars", "Ljava/util/ArrayList;", true)
  | 3 => ("KerbHours", "permits", "Ljava/util/ArrayList;", true)
  | 4 => ("KerbHours", "payments", "Ljava/util/ArrayList;", true)
  | 5 => ("KerbHours", "fines", "Ljava/util/ArrayList;", true)
  | 6 => ("KerbHours", "nextWhen", "LKerbHours$When;", false)
  | _ => ("KerbHours", "now", "I", false)
def tyX8 : Nat → FieldType := fun k => match k with
  | 0 => .object "java/util/ArrayList"
  | 1 => .object "java/util/ArrayList"
  | 2 => .object "java/util/ArrayList"
  | 3 => .object "java/util/ArrayList"
  | 4 => .object "java/util/ArrayList"
  | 5 => .object "java/util/ArrayList"
  | 6 => .object "KerbHours$When"
  | _ => .int
abbrev wsX80 : List Cond := u_ws RX8 TX8 8
theorem nmX8 : ∀ a, a < 8 → ∀ b, b < 8 → a ≠ b → (TX8 a).2.1 ≠ (TX8 b).2.1 := by decide +kernel
theorem tyX8_ok : ∀ k, k < 8 → parseFieldDescriptor (TX8 k).2.2.1 = some (tyX8 k) := by decide +kernel
abbrev cX8_init : ByteArray := prog_1_method_1_code
def yX8_init : MethodName := ⟨RX8, "<init>", "()V"⟩
abbrev cX8_block : ByteArray := prog_1_method_2_code
def yX8_block : MethodName := ⟨RX8, "block", "(IIZ)Z"⟩
abbrev cX8_times : ByteArray := prog_1_method_3_code
def yX8_times : MethodName := ⟨RX8, "times", "(III)V"⟩
abbrev cX8_dates : ByteArray := prog_1_method_4_code
def yX8_dates : MethodName := ⟨RX8, "dates", "(II)V"⟩
abbrev cX8_sign : ByteArray := prog_1_method_5_code
def yX8_sign : MethodName := ⟨RX8, "sign", "(IIIIIZZ)I"⟩
abbrev cX8_rule : ByteArray := prog_1_method_7_code
def yX8_rule : MethodName := ⟨RX8, "rule", "(III)I"⟩
abbrev cX8_ruleAnew : ByteArray := prog_1_method_8_code
def yX8_ruleAnew : MethodName := ⟨RX8, "ruleAnew", "(III)I"⟩
abbrev cX8_car : ByteArray := prog_1_method_9_code
def yX8_car : MethodName := ⟨RX8, "car", "(II)I"⟩
abbrev cX8_permit : ByteArray := prog_1_method_10_code
def yX8_permit : MethodName := ⟨RX8, "permit", "(IIIII)I"⟩
abbrev cX8_countsAs : ByteArray := prog_1_method_12_code
def yX8_countsAs : MethodName := ⟨RX8, "countsAs", "(II)I"⟩
abbrev cX8_park : ByteArray := prog_1_method_13_code
def yX8_park : MethodName := ⟨RX8, "park", "(III)V"⟩
abbrev cX8_leave : ByteArray := prog_1_method_14_code
def yX8_leave : MethodName := ⟨RX8, "leave", "(I)I"⟩
abbrev cX8_gap : ByteArray := prog_1_method_15_code
def yX8_gap : MethodName := ⟨RX8, "gap", "(II)I"⟩
abbrev cX8_pay : ByteArray := prog_1_method_16_code
def yX8_pay : MethodName := ⟨RX8, "pay", "(IIII)I"⟩
abbrev cX8_judge : ByteArray := prog_1_method_17_code
def yX8_judge : MethodName := ⟨RX8, "judge", "(I)I"⟩
abbrev cX8_look : ByteArray := prog_1_method_18_code
def yX8_look : MethodName := ⟨RX8, "look", "(I)I"⟩
abbrev cX8_appeal : ByteArray := prog_1_method_19_code
def yX8_appeal : MethodName := ⟨RX8, "appeal", "(I)Z"⟩
abbrev cX8_payFine : ByteArray := prog_1_method_20_code
def yX8_payFine : MethodName := ⟨RX8, "payFine", "(I)I"⟩
abbrev cX8_fine : ByteArray := prog_1_method_21_code
def yX8_fine : MethodName := ⟨RX8, "fine", "(II)I"⟩
abbrev cX8_debt : ByteArray := prog_1_method_22_code
def yX8_debt : MethodName := ⟨RX8, "debt", "(I)I"⟩
abbrev cX8_tow : ByteArray := prog_1_method_23_code
def yX8_tow : MethodName := ⟨RX8, "tow", "(I)I"⟩
abbrev cX8_streetIs : ByteArray := prog_1_method_24_code
def yX8_streetIs : MethodName := ⟨RX8, "streetIs", "(II)I"⟩
abbrev cX8_pass : ByteArray := prog_1_method_25_code
def yX8_pass : MethodName := ⟨RX8, "pass", "(I)I"⟩
abbrev cX8_isIn : ByteArray := prog_1_method_26_code
def yX8_isIn : MethodName := ⟨RX8, "isIn", "(III)Z"⟩
abbrev cX8_isIndex : ByteArray := prog_1_method_27_code
def yX8_isIndex : MethodName := ⟨RX8, "isIndex", "(II)Z"⟩
abbrev cX8_need : ByteArray := prog_1_method_28_code
def yX8_need : MethodName := ⟨RX8, "need", "(Z)V"⟩
abbrev cX8_needState : ByteArray := prog_1_method_29_code
def yX8_needState : MethodName := ⟨RX8, "needState", "(Z)V"⟩
abbrev cX8_needMetre : ByteArray := prog_1_method_30_code
def yX8_needMetre : MethodName := ⟨RX8, "needMetre", "(I)V"⟩
abbrev cX8_streetOf : ByteArray := prog_1_method_31_code
def yX8_streetOf : MethodName := ⟨RX8, "streetOf", "(I)LKerbHours$Street;"⟩
abbrev cX8_carOf : ByteArray := prog_1_method_32_code
def yX8_carOf : MethodName := ⟨RX8, "carOf", "(I)LKerbHours$Car;"⟩
abbrev cX8_fineOf : ByteArray := prog_1_method_33_code
def yX8_fineOf : MethodName := ⟨RX8, "fineOf", "(I)LKerbHours$Fine;"⟩
abbrev cX8_signThatCounts : ByteArray := prog_1_method_34_code
def yX8_signThatCounts : MethodName := ⟨RX8, "signThatCounts", "(III)LKerbHours$Sign;"⟩
abbrev cX8_isLeftOut : ByteArray := prog_1_method_35_code
def yX8_isLeftOut : MethodName := ⟨RX8, "isLeftOut", "(LKerbHours$Sign;II)Z"⟩
abbrev cX8_isHomeFull : ByteArray := prog_1_method_36_code
def yX8_isHomeFull : MethodName := ⟨RX8, "isHomeFull", "(III)Z"⟩
abbrev cX8_permitsOf : ByteArray := prog_1_method_37_code
def yX8_permitsOf : MethodName := ⟨RX8, "permitsOf", "(II)I"⟩
abbrev cX8_userOf : ByteArray := prog_1_method_38_code
def yX8_userOf : MethodName := ⟨RX8, "userOf", "(LKerbHours$Car;II)I"⟩
abbrev cX8_hasPermit : ByteArray := prog_1_method_39_code
def yX8_hasPermit : MethodName := ⟨RX8, "hasPermit", "(LKerbHours$Car;II)Z"⟩
abbrev cX8_isGap : ByteArray := prog_1_method_40_code
def yX8_isGap : MethodName := ⟨RX8, "isGap", "(III)Z"⟩
abbrev cX8_endStand : ByteArray := prog_1_method_41_code
def yX8_endStand : MethodName := ⟨RX8, "endStand", "(LKerbHours$Stand;)V"⟩
abbrev cX8_isOnBlocked : ByteArray := prog_1_method_42_code
def yX8_isOnBlocked : MethodName := ⟨RX8, "isOnBlocked", "(LKerbHours$Stand;)Z"⟩
abbrev cX8_judgementOf : ByteArray := prog_1_method_43_code
def yX8_judgementOf : MethodName := ⟨RX8, "judgementOf", "(LKerbHours$Stand;IZ)I"⟩
abbrev cX8_isForbidden : ByteArray := prog_1_method_44_code
def yX8_isForbidden : MethodName := ⟨RX8, "isForbidden", "(LKerbHours$Stand;I)Z"⟩
abbrev cX8_isPaidFor : ByteArray := prog_1_method_45_code
def yX8_isPaidFor : MethodName := ⟨RX8, "isPaidFor", "(LKerbHours$Stand;I)Z"⟩
abbrev cX8_lookAt : ByteArray := prog_1_method_46_code
def yX8_lookAt : MethodName := ⟨RX8, "lookAt", "(LKerbHours$Stand;LKerbHours$Street;)V"⟩
abbrev cX8_debtOf : ByteArray := prog_1_method_47_code
def yX8_debtOf : MethodName := ⟨RX8, "debtOf", "(LKerbHours$Car;)I"⟩
abbrev cX8_passQuarter : ByteArray := prog_1_method_48_code
def yX8_passQuarter : MethodName := ⟨RX8, "passQuarter", "()V"⟩
def RX9 : String := "KerbHoursModel"
def TX9 : u_T := fun k => match k with
  | _ => ("", "", "", false)
def tyX9 : Nat → FieldType := fun k => match k with
  | _ => .int
abbrev wsX90 : List Cond := u_ws RX9 TX9 0
theorem nmX9 : ∀ a, a < 0 → ∀ b, b < 0 → a ≠ b → (TX9 a).2.1 ≠ (TX9 b).2.1 := by decide +kernel
theorem tyX9_ok : ∀ k, k < 0 → parseFieldDescriptor (TX9 k).2.2.1 = some (tyX9 k) := by decide +kernel
def RJx145de : String := "java/io/Serializable"
def TJx145de : u_T := fun k => match k with
  | _ => ("", "", "", false)
def tyJx145de : Nat → FieldType := fun k => match k with
  | _ => .int
abbrev wsJx145de0 : List Cond := u_ws RJx145de TJx145de 0
theorem nmJx145de : ∀ a, a < 0 → ∀ b, b < 0 → a ≠ b → (TJx145de a).2.1 ≠ (TJx145de b).2.1 := by decide +kernel
theorem tyJx145de_ok : ∀ k, k < 0 → parseFieldDescriptor (TJx145de k).2.2.1 = some (tyJx145de k) := by decide +kernel
def RJx8e188 : String := "java/lang/Cloneable"
def TJx8e188 : u_T := fun k => match k with
  | _ => ("", "", "", false)
def tyJx8e188 : Nat → FieldType := fun k => match k with
  | _ => .int
abbrev wsJx8e1880 : List Cond := u_ws RJx8e188 TJx8e188 0
theorem nmJx8e188 : ∀ a, a < 0 → ∀ b, b < 0 → a ≠ b → (TJx8e188 a).2.1 ≠ (TJx8e188 b).2.1 := by decide +kernel
theorem tyJx8e188_ok : ∀ k, k < 0 → parseFieldDescriptor (TJx8e188 k).2.2.1 = some (tyJx8e188 k) := by decide +kernel
def RJxab1ab : String := "java/lang/Iterable"
def TJxab1ab : u_T := fun k => match k with
  | _ => ("", "", "", false)
def tyJxab1ab : Nat → FieldType := fun k => match k with
  | _ => .int
abbrev wsJxab1ab0 : List Cond := u_ws RJxab1ab TJxab1ab 0
theorem nmJxab1ab : ∀ a, a < 0 → ∀ b, b < 0 → a ≠ b → (TJxab1ab a).2.1 ≠ (TJxab1ab b).2.1 := by decide +kernel
theorem tyJxab1ab_ok : ∀ k, k < 0 → parseFieldDescriptor (TJxab1ab k).2.2.1 = some (tyJxab1ab k) := by decide +kernel
def RJ9 : String := "java/lang/Math"
def TJ9 : u_T := fun k => match k with
  | _ => ("", "", "", false)
def tyJ9 : Nat → FieldType := fun k => match k with
  | _ => .int
abbrev wsJ90 : List Cond := u_ws RJ9 TJ9 0
theorem nmJ9 : ∀ a, a < 0 → ∀ b, b < 0 → a ≠ b → (TJ9 a).2.1 ≠ (TJ9 b).2.1 := by decide +kernel
theorem tyJ9_ok : ∀ k, k < 0 → parseFieldDescriptor (TJ9 k).2.2.1 = some (tyJ9 k) := by decide +kernel
abbrev cJ9_max_7cf53 : ByteArray := prog_19_method_65_code
def yJ9_max_7cf53 : MethodName := ⟨RJ9, "max", "(II)I"⟩
abbrev cJ9_min_7cf53 : ByteArray := prog_19_method_69_code
def yJ9_min_7cf53 : MethodName := ⟨RJ9, "min", "(II)I"⟩
def RJ0 : String := "java/lang/String"
def TJ0 : u_T := fun k => match k with
  | _ => ("", "", "", false)
def tyJ0 : Nat → FieldType := fun k => match k with
  | _ => .int
abbrev wsJ00 : List Cond := u_ws RJ0 TJ0 0
theorem nmJ0 : ∀ a, a < 0 → ∀ b, b < 0 → a ≠ b → (TJ0 a).2.1 ≠ (TJ0 b).2.1 := by decide +kernel
theorem tyJ0_ok : ∀ k, k < 0 → parseFieldDescriptor (TJ0 k).2.2.1 = some (tyJ0 k) := by decide +kernel
def RJ10 : String := "java/lang/System"
def TJ10 : u_T := fun k => match k with
  | _ => ("", "", "", false)
def tyJ10 : Nat → FieldType := fun k => match k with
  | _ => .int
abbrev wsJ100 : List Cond := u_ws RJ10 TJ10 0
theorem nmJ10 : ∀ a, a < 0 → ∀ b, b < 0 → a ≠ b → (TJ10 a).2.1 ≠ (TJ10 b).2.1 := by decide +kernel
theorem tyJ10_ok : ∀ k, k < 0 → parseFieldDescriptor (TJ10 k).2.2.1 = some (tyJ10 k) := by decide +kernel
def RJxa1e45 : String := "java/util/AbstractCollection"
def TJxa1e45 : u_T := fun k => match k with
  | _ => ("", "", "", false)
def tyJxa1e45 : Nat → FieldType := fun k => match k with
  | _ => .int
abbrev wsJxa1e450 : List Cond := u_ws RJxa1e45 TJxa1e45 0
theorem nmJxa1e45 : ∀ a, a < 0 → ∀ b, b < 0 → a ≠ b → (TJxa1e45 a).2.1 ≠ (TJxa1e45 b).2.1 := by decide +kernel
theorem tyJxa1e45_ok : ∀ k, k < 0 → parseFieldDescriptor (TJxa1e45 k).2.2.1 = some (tyJxa1e45 k) := by decide +kernel
abbrev cJxa1e45_init_da8c8 : ByteArray := prog_24_method_1_code
def yJxa1e45_init_da8c8 : MethodName := ⟨RJxa1e45, "<init>", "()V"⟩
def RJxc12de : String := "java/util/AbstractList"
def TJxc12de : u_T := fun k => match k with
  | _ => ("", "", "", false)
def tyJxc12de : Nat → FieldType := fun k => match k with
  | _ => .int
abbrev wsJxc12de0 : List Cond := u_ws RJxc12de TJxc12de 0
theorem nmJxc12de : ∀ a, a < 0 → ∀ b, b < 0 → a ≠ b → (TJxc12de a).2.1 ≠ (TJxc12de b).2.1 := by decide +kernel
theorem tyJxc12de_ok : ∀ k, k < 0 → parseFieldDescriptor (TJxc12de k).2.2.1 = some (tyJxc12de k) := by decide +kernel
abbrev cJxc12de_init_da8c8 : ByteArray := prog_25_method_1_code
def yJxc12de_init_da8c8 : MethodName := ⟨RJxc12de, "<init>", "()V"⟩
def RJx4a65c : String := "java/util/ArrayList"
def TJx4a65c : u_T := fun k => match k with
  | 0 => ("java/util/AbstractList", "modCount", "I", false)
  | 1 => ("java/util/ArrayList", "elementData", "[Ljava/lang/Object;", false)
  | _ => ("java/util/ArrayList", "size", "I", false)
def tyJx4a65c : Nat → FieldType := fun k => match k with
  | 0 => .int
  | 1 => .array (.object "java/lang/Object")
  | _ => .int
abbrev wsJx4a65c0 : List Cond := u_ws RJx4a65c TJx4a65c 3
theorem nmJx4a65c : ∀ a, a < 3 → ∀ b, b < 3 → a ≠ b → (TJx4a65c a).2.1 ≠ (TJx4a65c b).2.1 := by decide +kernel
theorem tyJx4a65c_ok : ∀ k, k < 3 → parseFieldDescriptor (TJx4a65c k).2.2.1 = some (tyJx4a65c k) := by decide +kernel
abbrev cJx4a65c_init_da8c8 : ByteArray := prog_26_method_2_code
def yJx4a65c_init_da8c8 : MethodName := ⟨RJx4a65c, "<init>", "()V"⟩
abbrev cJx4a65c_grow_92f84 : ByteArray := prog_26_method_6_code
def yJx4a65c_grow_92f84 : MethodName := ⟨RJx4a65c, "grow", "(I)[Ljava/lang/Object;"⟩
abbrev cJx4a65c_grow_d5877 : ByteArray := prog_26_method_7_code
def yJx4a65c_grow_d5877 : MethodName := ⟨RJx4a65c, "grow", "()[Ljava/lang/Object;"⟩
abbrev cJx4a65c_size_8abf5 : ByteArray := prog_26_method_8_code
def yJx4a65c_size_8abf5 : MethodName := ⟨RJx4a65c, "size", "()I"⟩
abbrev cJx4a65c_elementData_915e3 : ByteArray := prog_26_method_18_code
def yJx4a65c_elementData_915e3 : MethodName := ⟨RJx4a65c, "elementData", "(I)Ljava/lang/Object;"⟩
abbrev cJx4a65c_get_915e3 : ByteArray := prog_26_method_20_code
def yJx4a65c_get_915e3 : MethodName := ⟨RJx4a65c, "get", "(I)Ljava/lang/Object;"⟩
abbrev cJx4a65c_add_72be8 : ByteArray := prog_26_method_24_code
def yJx4a65c_add_72be8 : MethodName := ⟨RJx4a65c, "add", "(Ljava/lang/Object;[Ljava/lang/Object;I)V"⟩
abbrev cJx4a65c_add_9ea2d : ByteArray := prog_26_method_25_code
def yJx4a65c_add_9ea2d : MethodName := ⟨RJx4a65c, "add", "(Ljava/lang/Object;)Z"⟩
def RJ7 : String := "java/util/Arrays"
def TJ7 : u_T := fun k => match k with
  | _ => ("", "", "", false)
def tyJ7 : Nat → FieldType := fun k => match k with
  | _ => .int
abbrev wsJ70 : List Cond := u_ws RJ7 TJ7 0
theorem nmJ7 : ∀ a, a < 0 → ∀ b, b < 0 → a ≠ b → (TJ7 a).2.1 ≠ (TJ7 b).2.1 := by decide +kernel
theorem tyJ7_ok : ∀ k, k < 0 → parseFieldDescriptor (TJ7 k).2.2.1 = some (tyJ7 k) := by decide +kernel
abbrev cJ7_copyOf_1904c : ByteArray := prog_27_method_119_code
def yJ7_copyOf_1904c : MethodName := ⟨RJ7, "copyOf", "([Ljava/lang/Object;I)[Ljava/lang/Object;"⟩
abbrev cJ7_copyOf_6403c : ByteArray := prog_27_method_120_code
def yJ7_copyOf_6403c : MethodName := ⟨RJ7, "copyOf", "([Ljava/lang/Object;ILjava/lang/Class;)[Ljava/lang/Object;"⟩
def RJx5ef63 : String := "java/util/Collection"
def TJx5ef63 : u_T := fun k => match k with
  | _ => ("", "", "", false)
def tyJx5ef63 : Nat → FieldType := fun k => match k with
  | _ => .int
abbrev wsJx5ef630 : List Cond := u_ws RJx5ef63 TJx5ef63 0
theorem nmJx5ef63 : ∀ a, a < 0 → ∀ b, b < 0 → a ≠ b → (TJx5ef63 a).2.1 ≠ (TJx5ef63 b).2.1 := by decide +kernel
theorem tyJx5ef63_ok : ∀ k, k < 0 → parseFieldDescriptor (TJx5ef63 k).2.2.1 = some (tyJx5ef63 k) := by decide +kernel
def RJxbd725 : String := "java/util/List"
def TJxbd725 : u_T := fun k => match k with
  | _ => ("", "", "", false)
def tyJxbd725 : Nat → FieldType := fun k => match k with
  | _ => .int
abbrev wsJxbd7250 : List Cond := u_ws RJxbd725 TJxbd725 0
theorem nmJxbd725 : ∀ a, a < 0 → ∀ b, b < 0 → a ≠ b → (TJxbd725 a).2.1 ≠ (TJxbd725 b).2.1 := by decide +kernel
theorem tyJxbd725_ok : ∀ k, k < 0 → parseFieldDescriptor (TJxbd725 k).2.2.1 = some (tyJxbd725 k) := by decide +kernel
def RJ15 : String := "java/util/Objects"
def TJ15 : u_T := fun k => match k with
  | _ => ("", "", "", false)
def tyJ15 : Nat → FieldType := fun k => match k with
  | _ => .int
abbrev wsJ150 : List Cond := u_ws RJ15 TJ15 0
theorem nmJ15 : ∀ a, a < 0 → ∀ b, b < 0 → a ≠ b → (TJ15 a).2.1 ≠ (TJ15 b).2.1 := by decide +kernel
theorem tyJ15_ok : ∀ k, k < 0 → parseFieldDescriptor (TJ15 k).2.2.1 = some (tyJ15 k) := by decide +kernel
abbrev cJ15_checkIndex_7cf53 : ByteArray := prog_30_method_17_code
def yJ15_checkIndex_7cf53 : MethodName := ⟨RJ15, "checkIndex", "(II)I"⟩
def RJxf0a74 : String := "java/util/RandomAccess"
def TJxf0a74 : u_T := fun k => match k with
  | _ => ("", "", "", false)
def tyJxf0a74 : Nat → FieldType := fun k => match k with
  | _ => .int
abbrev wsJxf0a740 : List Cond := u_ws RJxf0a74 TJxf0a74 0
theorem nmJxf0a74 : ∀ a, a < 0 → ∀ b, b < 0 → a ≠ b → (TJxf0a74 a).2.1 ≠ (TJxf0a74 b).2.1 := by decide +kernel
theorem tyJxf0a74_ok : ∀ k, k < 0 → parseFieldDescriptor (TJxf0a74 k).2.2.1 = some (tyJxf0a74 k) := by decide +kernel
def RJxa66e6 : String := "java/util/SequencedCollection"
def TJxa66e6 : u_T := fun k => match k with
  | _ => ("", "", "", false)
def tyJxa66e6 : Nat → FieldType := fun k => match k with
  | _ => .int
abbrev wsJxa66e60 : List Cond := u_ws RJxa66e6 TJxa66e6 0
theorem nmJxa66e6 : ∀ a, a < 0 → ∀ b, b < 0 → a ≠ b → (TJxa66e6 a).2.1 ≠ (TJxa66e6 b).2.1 := by decide +kernel
theorem tyJxa66e6_ok : ∀ k, k < 0 → parseFieldDescriptor (TJxa66e6 k).2.2.1 = some (tyJxa66e6 k) := by decide +kernel
def RJ8 : String := "jdk/internal/util/ArraysSupport"
def TJ8 : u_T := fun k => match k with
  | _ => ("", "", "", false)
def tyJ8 : Nat → FieldType := fun k => match k with
  | _ => .int
abbrev wsJ80 : List Cond := u_ws RJ8 TJ8 0
theorem nmJ8 : ∀ a, a < 0 → ∀ b, b < 0 → a ≠ b → (TJ8 a).2.1 ≠ (TJ8 b).2.1 := by decide +kernel
theorem tyJ8_ok : ∀ k, k < 0 → parseFieldDescriptor (TJ8 k).2.2.1 = some (tyJ8 k) := by decide +kernel
abbrev cJ8_newLength_cabcc : ByteArray := prog_33_method_27_code
def yJ8_newLength_cabcc : MethodName := ⟨RJ8, "newLength", "(III)I"⟩
abbrev cJ8_hugeLength_7cf53 : ByteArray := prog_33_method_28_code
def yJ8_hugeLength_7cf53 : MethodName := ⟨RJ8, "hugeLength", "(II)I"⟩
def RJ3 : String := "jdk/internal/util/Preconditions"
def TJ3 : u_T := fun k => match k with
  | _ => ("", "", "", false)
def tyJ3 : Nat → FieldType := fun k => match k with
  | _ => .int
abbrev wsJ30 : List Cond := u_ws RJ3 TJ3 0
theorem nmJ3 : ∀ a, a < 0 → ∀ b, b < 0 → a ≠ b → (TJ3 a).2.1 ≠ (TJ3 b).2.1 := by decide +kernel
theorem tyJ3_ok : ∀ k, k < 0 → parseFieldDescriptor (TJ3 k).2.2.1 = some (tyJ3 k) := by decide +kernel
abbrev cJ3_checkIndex_8e157 : ByteArray := prog_34_method_11_code
def yJ3_checkIndex_8e157 : MethodName := ⟨RJ3, "checkIndex", "(IILjava/util/function/BiFunction;)I"⟩
def RL : String := "KerbHoursLaw"
abbrev cL_at : ByteArray := method_2_code
def yL_at : MethodName := ⟨RL, "at", "([II)I"⟩
abbrev cL_low : ByteArray := method_3_code
def yL_low : MethodName := ⟨RL, "low", "(II)I"⟩
abbrev cL_block : ByteArray := method_4_code
def yL_block : MethodName := ⟨RL, "block", "(LKerbHours;IIZ)I"⟩
abbrev cL_times : ByteArray := method_5_code
def yL_times : MethodName := ⟨RL, "times", "(LKerbHours;III)I"⟩
abbrev cL_dates : ByteArray := method_6_code
def yL_dates : MethodName := ⟨RL, "dates", "(LKerbHours;II)I"⟩
abbrev cL_sign : ByteArray := method_7_code
def yL_sign : MethodName := ⟨RL, "sign", "(LKerbHours;IIIIIZZ)I"⟩
abbrev cL_rule : ByteArray := method_9_code
def yL_rule : MethodName := ⟨RL, "rule", "(LKerbHours;III)I"⟩
abbrev cL_ruleAnew : ByteArray := method_10_code
def yL_ruleAnew : MethodName := ⟨RL, "ruleAnew", "(LKerbHours;III)I"⟩
abbrev cL_car : ByteArray := method_11_code
def yL_car : MethodName := ⟨RL, "car", "(LKerbHours;II)I"⟩
abbrev cL_permit : ByteArray := method_12_code
def yL_permit : MethodName := ⟨RL, "permit", "(LKerbHours;IIIII)I"⟩
abbrev cL_countsAs : ByteArray := method_14_code
def yL_countsAs : MethodName := ⟨RL, "countsAs", "(LKerbHours;II)I"⟩
abbrev cL_park : ByteArray := method_15_code
def yL_park : MethodName := ⟨RL, "park", "(LKerbHours;III)I"⟩
abbrev cL_leave : ByteArray := method_16_code
def yL_leave : MethodName := ⟨RL, "leave", "(LKerbHours;I)I"⟩
abbrev cL_gap : ByteArray := method_17_code
def yL_gap : MethodName := ⟨RL, "gap", "(LKerbHours;II)I"⟩
abbrev cL_pay : ByteArray := method_18_code
def yL_pay : MethodName := ⟨RL, "pay", "(LKerbHours;IIII)I"⟩
abbrev cL_judge : ByteArray := method_19_code
def yL_judge : MethodName := ⟨RL, "judge", "(LKerbHours;I)I"⟩
abbrev cL_look : ByteArray := method_20_code
def yL_look : MethodName := ⟨RL, "look", "(LKerbHours;I)I"⟩
abbrev cL_appeal : ByteArray := method_21_code
def yL_appeal : MethodName := ⟨RL, "appeal", "(LKerbHours;I)I"⟩
abbrev cL_payFine : ByteArray := method_22_code
def yL_payFine : MethodName := ⟨RL, "payFine", "(LKerbHours;I)I"⟩
abbrev cL_fine : ByteArray := method_23_code
def yL_fine : MethodName := ⟨RL, "fine", "(LKerbHours;II)I"⟩
abbrev cL_debt : ByteArray := method_24_code
def yL_debt : MethodName := ⟨RL, "debt", "(LKerbHours;I)I"⟩
abbrev cL_tow : ByteArray := method_25_code
def yL_tow : MethodName := ⟨RL, "tow", "(LKerbHours;I)I"⟩
abbrev cL_streetIs : ByteArray := method_26_code
def yL_streetIs : MethodName := ⟨RL, "streetIs", "(LKerbHours;II)I"⟩
abbrev cL_pass : ByteArray := method_27_code
def yL_pass : MethodName := ⟨RL, "pass", "(LKerbHours;I)I"⟩
abbrev cL_isRule : ByteArray := method_28_code
def yL_isRule : MethodName := ⟨RL, "isRule", "(LKerbHours;[III)Z"⟩
abbrev cL_isStreet : ByteArray := method_29_code
def yL_isStreet : MethodName := ⟨RL, "isStreet", "(LKerbHours;[I[I[II)Z"⟩
abbrev cL_areFines : ByteArray := method_30_code
def yL_areFines : MethodName := ⟨RL, "areFines", "(LKerbHours;[I)Z"⟩
abbrev cL_tells : ByteArray := method_31_code
def yL_tells : MethodName := ⟨RL, "tells", "(LKerbHours;[I[I[III)Z"⟩
abbrev cL_parks : ByteArray := method_32_code
def yL_parks : MethodName := ⟨RL, "parks", "(LKerbHours;[I[I[III)Z"⟩
abbrev cL_pays : ByteArray := method_33_code
def yL_pays : MethodName := ⟨RL, "pays", "(LKerbHours;[III)Z"⟩
abbrev cL_looks : ByteArray := method_34_code
def yL_looks : MethodName := ⟨RL, "looks", "(LKerbHours;[I[II)Z"⟩
abbrev cL_settles : ByteArray := method_35_code
def yL_settles : MethodName := ⟨RL, "settles", "(LKerbHours;[I[III)Z"⟩
abbrev cL_acts : ByteArray := method_36_code
def yL_acts : MethodName := ⟨RL, "acts", "(LKerbHours;[I[I[I[III)Z"⟩
abbrev cL_law : ByteArray := code
def yL_law : MethodName := ⟨RL, "law", "([I)Z"⟩
abbrev vwCl : List vw_C := [(RJx4a65c, TJx4a65c, 3), (RX0, TX0, 4), (RX1, TX1, 6), (RX2, TX2, 4), (RX3, TX3, 5), (RX4, TX4, 11), (RX5, TX5, 5), (RX6, TX6, 6), (RX7, TX7, 5), (RX8, TX8, 8)]
