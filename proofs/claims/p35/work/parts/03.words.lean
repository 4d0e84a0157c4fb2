/-! ===== BEGIN printed: names, fields, word lists, decode rows ===== -/
def RX0 : String := "BenefitOffice$Amounts"
def TX0 : u_T := fun k => match k with
  | 0 => ("BenefitOffice$Amounts", "adult", "I", false)
  | 1 => ("BenefitOffice$Amounts", "child", "I", false)
  | 2 => ("BenefitOffice$Amounts", "housing", "I", false)
  | 3 => ("BenefitOffice$Amounts", "tapered", "Z", false)
  | _ => ("BenefitOffice$Amounts", "capped", "Z", false)
def tyX0 : Nat → FieldType := fun k => match k with
  | 0 => .int
  | 1 => .int
  | 2 => .int
  | 3 => .boolean
  | _ => .boolean
abbrev wsX00 : List Cond := u_ws RX0 TX0 5
theorem nmX0 : ∀ a, a < 5 → ∀ b, b < 5 → a ≠ b → (TX0 a).2.1 ≠ (TX0 b).2.1 := by decide +kernel
theorem tyX0_ok : ∀ k, k < 5 → parseFieldDescriptor (TX0 k).2.2.1 = some (tyX0 k) := by decide +kernel
abbrev cX0_init : ByteArray := prog_2_method_1_code
def yX0_init : MethodName := ⟨RX0, "<init>", "()V"⟩
abbrev cX0_clear : ByteArray := prog_2_method_2_code
def yX0_clear : MethodName := ⟨RX0, "clear", "()V"⟩
abbrev cX0_sum : ByteArray := prog_2_method_3_code
def yX0_sum : MethodName := ⟨RX0, "sum", "()I"⟩
abbrev cX0_taper : ByteArray := prog_2_method_4_code
def yX0_taper : MethodName := ⟨RX0, "taper", "(I)V"⟩
abbrev cX0_limitTo : ByteArray := prog_2_method_5_code
def yX0_limitTo : MethodName := ⟨RX0, "limitTo", "(I)V"⟩
def RX1 : String := "BenefitOffice$Household"
def TX1 : u_T := fun k => match k with
  | 0 => ("BenefitOffice$Household", "rent", "LBenefitOffice$Timeline;", true)
  | 1 => ("BenefitOffice$Household", "payments", "[I", true)
  | _ => ("BenefitOffice$Household", "paid", "[I", true)
def tyX1 : Nat → FieldType := fun k => match k with
  | 0 => .object "BenefitOffice$Timeline"
  | 1 => .array .int
  | _ => .array .int
abbrev wsX10 : List Cond := u_ws RX1 TX1 3
theorem nmX1 : ∀ a, a < 3 → ∀ b, b < 3 → a ≠ b → (TX1 a).2.1 ≠ (TX1 b).2.1 := by decide +kernel
theorem tyX1_ok : ∀ k, k < 3 → parseFieldDescriptor (TX1 k).2.2.1 = some (tyX1 k) := by decide +kernel
abbrev cX1_init : ByteArray := prog_3_method_1_code
def yX1_init : MethodName := ⟨RX1, "<init>", "()V"⟩
abbrev cX1_debtBefore : ByteArray := prog_3_method_2_code
def yX1_debtBefore : MethodName := ⟨RX1, "debtBefore", "(I[I)I"⟩
abbrev cX1_settle : ByteArray := prog_3_method_3_code
def yX1_settle : MethodName := ⟨RX1, "settle", "(I[I)V"⟩
abbrev cX1_settleInPart : ByteArray := prog_3_method_4_code
def yX1_settleInPart : MethodName := ⟨RX1, "settleInPart", "(I[II)V"⟩
def RX2 : String := "BenefitOffice$Person"
def TX2 : u_T := fun k => match k with
  | 0 => ("BenefitOffice$Person", "age", "I", false)
  | 1 => ("BenefitOffice$Person", "home", "LBenefitOffice$Timeline;", true)
  | _ => ("BenefitOffice$Person", "income", "LBenefitOffice$Timeline;", true)
def tyX2 : Nat → FieldType := fun k => match k with
  | 0 => .int
  | 1 => .object "BenefitOffice$Timeline"
  | _ => .object "BenefitOffice$Timeline"
abbrev wsX20 : List Cond := u_ws RX2 TX2 3
theorem nmX2 : ∀ a, a < 3 → ∀ b, b < 3 → a ≠ b → (TX2 a).2.1 ≠ (TX2 b).2.1 := by decide +kernel
theorem tyX2_ok : ∀ k, k < 3 → parseFieldDescriptor (TX2 k).2.2.1 = some (tyX2 k) := by decide +kernel
abbrev cX2_init : ByteArray := prog_4_method_1_code
def yX2_init : MethodName := ⟨RX2, "<init>", "()V"⟩
def RX3 : String := "BenefitOffice$Residents"
def TX3 : u_T := fun k => match k with
  | 0 => ("BenefitOffice$Residents", "adults", "I", false)
  | 1 => ("BenefitOffice$Residents", "children", "I", false)
  | _ => ("BenefitOffice$Residents", "income", "I", false)
def tyX3 : Nat → FieldType := fun k => match k with
  | 0 => .int
  | 1 => .int
  | _ => .int
abbrev wsX30 : List Cond := u_ws RX3 TX3 3
theorem nmX3 : ∀ a, a < 3 → ∀ b, b < 3 → a ≠ b → (TX3 a).2.1 ≠ (TX3 b).2.1 := by decide +kernel
theorem tyX3_ok : ∀ k, k < 3 → parseFieldDescriptor (TX3 k).2.2.1 = some (tyX3 k) := by decide +kernel
abbrev cX3_init : ByteArray := prog_5_method_1_code
def yX3_init : MethodName := ⟨RX3, "<init>", "()V"⟩
abbrev cX3_clear : ByteArray := prog_5_method_2_code
def yX3_clear : MethodName := ⟨RX3, "clear", "()V"⟩
abbrev cX3_add : ByteArray := prog_5_method_3_code
def yX3_add : MethodName := ⟨RX3, "add", "(LBenefitOffice$Person;I)V"⟩
def RX4 : String := "BenefitOffice$Timeline"
def TX4 : u_T := fun k => match k with
  | 0 => ("BenefitOffice$Timeline", "valueWithoutFact", "I", true)
  | 1 => ("BenefitOffice$Timeline", "values", "[I", true)
  | _ => ("BenefitOffice$Timeline", "told", "[I", true)
def tyX4 : Nat → FieldType := fun k => match k with
  | 0 => .int
  | 1 => .array .int
  | _ => .array .int
abbrev wsX40 : List Cond := u_ws RX4 TX4 3
theorem nmX4 : ∀ a, a < 3 → ∀ b, b < 3 → a ≠ b → (TX4 a).2.1 ≠ (TX4 b).2.1 := by decide +kernel
theorem tyX4_ok : ∀ k, k < 3 → parseFieldDescriptor (TX4 k).2.2.1 = some (tyX4 k) := by decide +kernel
abbrev cX4_init : ByteArray := prog_6_method_1_code
def yX4_init : MethodName := ⟨RX4, "<init>", "(I)V"⟩
abbrev cX4_valueOn : ByteArray := prog_6_method_2_code
def yX4_valueOn : MethodName := ⟨RX4, "valueOn", "(I)I"⟩
abbrev cX4_isToldFor : ByteArray := prog_6_method_3_code
def yX4_isToldFor : MethodName := ⟨RX4, "isToldFor", "(I)Z"⟩
abbrev cX4_put : ByteArray := prog_6_method_4_code
def yX4_put : MethodName := ⟨RX4, "put", "(II)V"⟩
abbrev cX4_remove : ByteArray := prog_6_method_5_code
def yX4_remove : MethodName := ⟨RX4, "remove", "(I)V"⟩
abbrev cX4_bitOf : ByteArray := prog_6_method_6_code
def yX4_bitOf : MethodName := ⟨RX4, "bitOf", "(I)I"⟩
abbrev cX4_holdFrom : ByteArray := prog_6_method_7_code
def yX4_holdFrom : MethodName := ⟨RX4, "holdFrom", "(II)V"⟩
def RX5 : String := "BenefitOffice"
def TX5 : u_T := fun k => match k with
  | 0 => ("BenefitOffice", "persons", "[LBenefitOffice$Person;", true)
  | 1 => ("BenefitOffice", "households", "[LBenefitOffice$Household;", true)
  | 2 => ("BenefitOffice", "rules", "[LBenefitOffice$Timeline;", true)
  | 3 => ("BenefitOffice", "personCount", "I", false)
  | 4 => ("BenefitOffice", "householdCount", "I", false)
  | 5 => ("BenefitOffice", "startsOn", "[I", true)
  | 6 => ("BenefitOffice", "factCount", "I", false)
  | 7 => ("BenefitOffice", "runs", "I", false)
  | 8 => ("BenefitOffice", "paymentCount", "I", false)
  | 9 => ("BenefitOffice", "paidInAll", "J", false)
  | 10 => ("BenefitOffice", "keptInAll", "J", false)
  | 11 => ("BenefitOffice", "residents", "LBenefitOffice$Residents;", true)
  | 12 => ("BenefitOffice", "amounts", "LBenefitOffice$Amounts;", true)
  | _ => ("BenefitOffice", "entitled", "[I", true)
def tyX5 : Nat → FieldType := fun k => match k with
  | 0 => .array (.object "BenefitOffice$Person")
  | 1 => .array (.object "BenefitOffice$Household")
  | 2 => .array (.object "BenefitOffice$Timeline")
  | 3 => .int
  | 4 => .int
  | 5 => .array .int
  | 6 => .int
  | 7 => .int
  | 8 => .int
  | 9 => .long
  | 10 => .long
  | 11 => .object "BenefitOffice$Residents"
  | 12 => .object "BenefitOffice$Amounts"
  | _ => .array .int
abbrev wsX50 : List Cond := u_ws RX5 TX5 14
theorem nmX5 : ∀ a, a < 14 → ∀ b, b < 14 → a ≠ b → (TX5 a).2.1 ≠ (TX5 b).2.1 := by decide +kernel
theorem tyX5_ok : ∀ k, k < 14 → parseFieldDescriptor (TX5 k).2.2.1 = some (tyX5 k) := by decide +kernel
abbrev cX5_init : ByteArray := prog_1_method_1_code
def yX5_init : MethodName := ⟨RX5, "<init>", "()V"⟩
abbrev cX5_addPerson : ByteArray := prog_1_method_2_code
def yX5_addPerson : MethodName := ⟨RX5, "addPerson", "(I)I"⟩
abbrev cX5_addHousehold : ByteArray := prog_1_method_3_code
def yX5_addHousehold : MethodName := ⟨RX5, "addHousehold", "()I"⟩
abbrev cX5_move : ByteArray := prog_1_method_4_code
def yX5_move : MethodName := ⟨RX5, "move", "(III)I"⟩
abbrev cX5_setIncome : ByteArray := prog_1_method_5_code
def yX5_setIncome : MethodName := ⟨RX5, "setIncome", "(III)I"⟩
abbrev cX5_setRent : ByteArray := prog_1_method_6_code
def yX5_setRent : MethodName := ⟨RX5, "setRent", "(III)I"⟩
abbrev cX5_setRule : ByteArray := prog_1_method_7_code
def yX5_setRule : MethodName := ⟨RX5, "setRule", "(CII)I"⟩
abbrev cX5_takeBackMove : ByteArray := prog_1_method_8_code
def yX5_takeBackMove : MethodName := ⟨RX5, "takeBackMove", "(II)I"⟩
abbrev cX5_takeBackIncome : ByteArray := prog_1_method_9_code
def yX5_takeBackIncome : MethodName := ⟨RX5, "takeBackIncome", "(II)I"⟩
abbrev cX5_takeBackRule : ByteArray := prog_1_method_10_code
def yX5_takeBackRule : MethodName := ⟨RX5, "takeBackRule", "(CI)I"⟩
abbrev cX5_pay : ByteArray := prog_1_method_11_code
def yX5_pay : MethodName := ⟨RX5, "pay", "()I"⟩
abbrev cX5_paidMonths : ByteArray := prog_1_method_12_code
def yX5_paidMonths : MethodName := ⟨RX5, "paidMonths", "()I"⟩
abbrev cX5_payment : ByteArray := prog_1_method_13_code
def yX5_payment : MethodName := ⟨RX5, "payment", "(II)I"⟩
abbrev cX5_paidFor : ByteArray := prog_1_method_14_code
def yX5_paidFor : MethodName := ⟨RX5, "paidFor", "(II)I"⟩
abbrev cX5_balance : ByteArray := prog_1_method_15_code
def yX5_balance : MethodName := ⟨RX5, "balance", "(I)I"⟩
abbrev cX5_isSettled : ByteArray := prog_1_method_16_code
def yX5_isSettled : MethodName := ⟨RX5, "isSettled", "(I)Z"⟩
abbrev cX5_totalPaid : ByteArray := prog_1_method_17_code
def yX5_totalPaid : MethodName := ⟨RX5, "totalPaid", "()J"⟩
abbrev cX5_keptBack : ByteArray := prog_1_method_18_code
def yX5_keptBack : MethodName := ⟨RX5, "keptBack", "()J"⟩
abbrev cX5_homeOf : ByteArray := prog_1_method_19_code
def yX5_homeOf : MethodName := ⟨RX5, "homeOf", "(II)I"⟩
abbrev cX5_ruleAt : ByteArray := prog_1_method_20_code
def yX5_ruleAt : MethodName := ⟨RX5, "ruleAt", "(CI)I"⟩
abbrev cX5_adults : ByteArray := prog_1_method_21_code
def yX5_adults : MethodName := ⟨RX5, "adults", "(II)I"⟩
abbrev cX5_children : ByteArray := prog_1_method_22_code
def yX5_children : MethodName := ⟨RX5, "children", "(II)I"⟩
abbrev cX5_adultAmount : ByteArray := prog_1_method_24_code
def yX5_adultAmount : MethodName := ⟨RX5, "adultAmount", "(II)I"⟩
abbrev cX5_childAmount : ByteArray := prog_1_method_25_code
def yX5_childAmount : MethodName := ⟨RX5, "childAmount", "(II)I"⟩
abbrev cX5_housingAmount : ByteArray := prog_1_method_26_code
def yX5_housingAmount : MethodName := ⟨RX5, "housingAmount", "(II)I"⟩
abbrev cX5_reason : ByteArray := prog_1_method_27_code
def yX5_reason : MethodName := ⟨RX5, "reason", "(II)C"⟩
abbrev cX5_nextChange : ByteArray := prog_1_method_28_code
def yX5_nextChange : MethodName := ⟨RX5, "nextChange", "(II)I"⟩
abbrev cX5_entitlement : ByteArray := prog_1_method_29_code
def yX5_entitlement : MethodName := ⟨RX5, "entitlement", "(II)I"⟩
abbrev cX5_entitlementByDays : ByteArray := prog_1_method_30_code
def yX5_entitlementByDays : MethodName := ⟨RX5, "entitlementByDays", "(II)I"⟩
abbrev cX5_facts : ByteArray := prog_1_method_31_code
def yX5_facts : MethodName := ⟨RX5, "facts", "()I"⟩
abbrev cX5_keptShare : ByteArray := prog_1_method_32_code
def yX5_keptShare : MethodName := ⟨RX5, "keptShare", "()F"⟩
abbrev cX5_meanPayment : ByteArray := prog_1_method_33_code
def yX5_meanPayment : MethodName := ⟨RX5, "meanPayment", "()D"⟩
abbrev cX5_personNumbered : ByteArray := prog_1_method_34_code
def yX5_personNumbered : MethodName := ⟨RX5, "personNumbered", "(I)LBenefitOffice$Person;"⟩
abbrev cX5_requireHousehold : ByteArray := prog_1_method_35_code
def yX5_requireHousehold : MethodName := ⟨RX5, "requireHousehold", "(I)V"⟩
abbrev cX5_householdNumbered : ByteArray := prog_1_method_36_code
def yX5_householdNumbered : MethodName := ⟨RX5, "householdNumbered", "(I)LBenefitOffice$Household;"⟩
abbrev cX5_ruleIndex : ByteArray := prog_1_method_37_code
def yX5_ruleIndex : MethodName := ⟨RX5, "ruleIndex", "(C)I"⟩
abbrev cX5_requireDay : ByteArray := prog_1_method_38_code
def yX5_requireDay : MethodName := ⟨RX5, "requireDay", "(I)V"⟩
abbrev cX5_requireMonth : ByteArray := prog_1_method_39_code
def yX5_requireMonth : MethodName := ⟨RX5, "requireMonth", "(I)V"⟩
abbrev cX5_requireNumber : ByteArray := prog_1_method_40_code
def yX5_requireNumber : MethodName := ⟨RX5, "requireNumber", "(I)V"⟩
abbrev cX5_requireFact : ByteArray := prog_1_method_41_code
def yX5_requireFact : MethodName := ⟨RX5, "requireFact", "(LBenefitOffice$Timeline;I)V"⟩
abbrev cX5_tell : ByteArray := prog_1_method_42_code
def yX5_tell : MethodName := ⟨RX5, "tell", "(LBenefitOffice$Timeline;II)I"⟩
abbrev cX5_takeBack : ByteArray := prog_1_method_43_code
def yX5_takeBack : MethodName := ⟨RX5, "takeBack", "(LBenefitOffice$Timeline;I)I"⟩
abbrev cX5_findResidents : ByteArray := prog_1_method_44_code
def yX5_findResidents : MethodName := ⟨RX5, "findResidents", "(II)V"⟩
abbrev cX5_findAmounts : ByteArray := prog_1_method_45_code
def yX5_findAmounts : MethodName := ⟨RX5, "findAmounts", "(II)V"⟩
abbrev cX5_sumByStretches : ByteArray := prog_1_method_46_code
def yX5_sumByStretches : MethodName := ⟨RX5, "sumByStretches", "(II)I"⟩
abbrev cX5_payTo : ByteArray := prog_1_method_47_code
def yX5_payTo : MethodName := ⟨RX5, "payTo", "(II)I"⟩
def RX6 : String := "BenefitOfficeModel"
def TX6 : u_T := fun k => match k with
  | _ => ("", "", "", false)
def tyX6 : Nat → FieldType := fun k => match k with
  | _ => .int
abbrev wsX60 : List Cond := u_ws RX6 TX6 0
theorem nmX6 : ∀ a, a < 0 → ∀ b, b < 0 → a ≠ b → (TX6 a).2.1 ≠ (TX6 b).2.1 := by decide +kernel
theorem tyX6_ok : ∀ k, k < 0 → parseFieldDescriptor (TX6 k).2.2.1 = some (tyX6 k) := by decide +kernel
def RJx145de : String := "java/io/Serializable"
def TJx145de : u_T := fun k => match k with
  | _ => ("", "", "", false)
def tyJx145de : Nat → FieldType := fun k => match k with
  | _ => .int
abbrev wsJx145de0 : List Cond := u_ws RJx145de TJx145de 0
theorem nmJx145de : ∀ a, a < 0 → ∀ b, b < 0 → a ≠ b → (TJx145de a).2.1 ≠ (TJx145de b).2.1 := by decide +kernel
theorem tyJx145de_ok : ∀ k, k < 0 → parseFieldDescriptor (TJx145de k).2.2.1 = some (tyJx145de k) := by decide +kernel
def RJx00060 : String := "java/lang/ArrayIndexOutOfBoundsException"
def TJx00060 : u_T := fun k => match k with
  | 0 => ("java/lang/Throwable", "backtrace", "Ljava/lang/Object;", false)
  | 1 => ("java/lang/Throwable", "detailMessage", "Ljava/lang/String;", false)
  | 2 => ("java/lang/Throwable", "cause", "Ljava/lang/Throwable;", false)
  | 3 => ("java/lang/Throwable", "stackTrace", "[Ljava/lang/StackTraceElement;", false)
  | 4 => ("java/lang/Throwable", "depth", "I", false)
  | _ => ("java/lang/Throwable", "suppressedExceptions", "Ljava/util/List;", false)
def tyJx00060 : Nat → FieldType := fun k => match k with
  | 0 => .object "java/lang/Object"
  | 1 => .object "java/lang/String"
  | 2 => .object "java/lang/Throwable"
  | 3 => .array (.object "java/lang/StackTraceElement")
  | 4 => .int
  | _ => .object "java/util/List"
abbrev wsJx000600 : List Cond := u_ws RJx00060 TJx00060 6
theorem nmJx00060 : ∀ a, a < 6 → ∀ b, b < 6 → a ≠ b → (TJx00060 a).2.1 ≠ (TJx00060 b).2.1 := by decide +kernel
theorem tyJx00060_ok : ∀ k, k < 6 → parseFieldDescriptor (TJx00060 k).2.2.1 = some (tyJx00060 k) := by decide +kernel
abbrev cJx00060_init_a7421 : ByteArray := prog_11_method_2_code
def yJx00060_init_a7421 : MethodName := ⟨RJx00060, "<init>", "(Ljava/lang/String;)V"⟩
def RJ9 : String := "java/lang/Math"
def TJ9 : u_T := fun k => match k with
  | _ => ("", "", "", false)
def tyJ9 : Nat → FieldType := fun k => match k with
  | _ => .int
abbrev wsJ90 : List Cond := u_ws RJ9 TJ9 0
theorem nmJ9 : ∀ a, a < 0 → ∀ b, b < 0 → a ≠ b → (TJ9 a).2.1 ≠ (TJ9 b).2.1 := by decide +kernel
theorem tyJ9_ok : ∀ k, k < 0 → parseFieldDescriptor (TJ9 k).2.2.1 = some (tyJ9 k) := by decide +kernel
abbrev cJ9_min_7cf53 : ByteArray := prog_16_method_69_code
def yJ9_min_7cf53 : MethodName := ⟨RJ9, "min", "(II)I"⟩
def RJ0 : String := "java/lang/String"
def TJ0 : u_T := fun k => match k with
  | 0 => ("java/lang/String", "value", "[B", true)
  | _ => ("java/lang/String", "coder", "B", true)
def tyJ0 : Nat → FieldType := fun k => match k with
  | 0 => .array .byte
  | _ => .byte
abbrev wsJ00 : List Cond := u_ws RJ0 TJ0 2
theorem nmJ0 : ∀ a, a < 2 → ∀ b, b < 2 → a ≠ b → (TJ0 a).2.1 ≠ (TJ0 b).2.1 := by decide +kernel
theorem tyJ0_ok : ∀ k, k < 2 → parseFieldDescriptor (TJ0 k).2.2.1 = some (tyJ0 k) := by decide +kernel
def RJ7 : String := "java/util/Arrays"
def TJ7 : u_T := fun k => match k with
  | _ => ("", "", "", false)
def tyJ7 : Nat → FieldType := fun k => match k with
  | _ => .int
abbrev wsJ70 : List Cond := u_ws RJ7 TJ7 0
theorem nmJ7 : ∀ a, a < 0 → ∀ b, b < 0 → a ≠ b → (TJ7 a).2.1 ≠ (TJ7 b).2.1 := by decide +kernel
theorem tyJ7_ok : ∀ k, k < 0 → parseFieldDescriptor (TJ7 k).2.2.1 = some (tyJ7 k) := by decide +kernel
abbrev cJ7_fill_53178 : ByteArray := prog_21_method_103_code
def yJ7_fill_53178 : MethodName := ⟨RJ7, "fill", "([II)V"⟩
def RL : String := "BenefitOfficeLaw"
abbrev cL_cell : ByteArray := method_2_code
def yL_cell : MethodName := ⟨RL, "cell", "([II)I"⟩
abbrev cL_pick : ByteArray := method_3_code
def yL_pick : MethodName := ⟨RL, "pick", "([III)I"⟩
abbrev cL_addPerson : ByteArray := method_4_code
def yL_addPerson : MethodName := ⟨RL, "addPerson", "(LBenefitOffice;I)I"⟩
abbrev cL_addHousehold : ByteArray := method_5_code
def yL_addHousehold : MethodName := ⟨RL, "addHousehold", "(LBenefitOffice;)I"⟩
abbrev cL_move : ByteArray := method_6_code
def yL_move : MethodName := ⟨RL, "move", "(LBenefitOffice;III)I"⟩
abbrev cL_setIncome : ByteArray := method_7_code
def yL_setIncome : MethodName := ⟨RL, "setIncome", "(LBenefitOffice;III)I"⟩
abbrev cL_setRent : ByteArray := method_8_code
def yL_setRent : MethodName := ⟨RL, "setRent", "(LBenefitOffice;III)I"⟩
abbrev cL_setRule : ByteArray := method_9_code
def yL_setRule : MethodName := ⟨RL, "setRule", "(LBenefitOffice;CII)I"⟩
abbrev cL_takeBackMove : ByteArray := method_10_code
def yL_takeBackMove : MethodName := ⟨RL, "takeBackMove", "(LBenefitOffice;II)I"⟩
abbrev cL_takeBackIncome : ByteArray := method_11_code
def yL_takeBackIncome : MethodName := ⟨RL, "takeBackIncome", "(LBenefitOffice;II)I"⟩
abbrev cL_takeBackRule : ByteArray := method_12_code
def yL_takeBackRule : MethodName := ⟨RL, "takeBackRule", "(LBenefitOffice;CI)I"⟩
abbrev cL_pay : ByteArray := method_13_code
def yL_pay : MethodName := ⟨RL, "pay", "(LBenefitOffice;)I"⟩
abbrev cL_payment : ByteArray := method_14_code
def yL_payment : MethodName := ⟨RL, "payment", "(LBenefitOffice;II)I"⟩
abbrev cL_paidFor : ByteArray := method_15_code
def yL_paidFor : MethodName := ⟨RL, "paidFor", "(LBenefitOffice;II)I"⟩
abbrev cL_balance : ByteArray := method_16_code
def yL_balance : MethodName := ⟨RL, "balance", "(LBenefitOffice;I)I"⟩
abbrev cL_isSettled : ByteArray := method_17_code
def yL_isSettled : MethodName := ⟨RL, "isSettled", "(LBenefitOffice;I)I"⟩
abbrev cL_homeOf : ByteArray := method_18_code
def yL_homeOf : MethodName := ⟨RL, "homeOf", "(LBenefitOffice;II)I"⟩
abbrev cL_ruleAt : ByteArray := method_19_code
def yL_ruleAt : MethodName := ⟨RL, "ruleAt", "(LBenefitOffice;CI)I"⟩
abbrev cL_adults : ByteArray := method_20_code
def yL_adults : MethodName := ⟨RL, "adults", "(LBenefitOffice;II)I"⟩
abbrev cL_children : ByteArray := method_21_code
def yL_children : MethodName := ⟨RL, "children", "(LBenefitOffice;II)I"⟩
abbrev cL_adultAmount : ByteArray := method_22_code
def yL_adultAmount : MethodName := ⟨RL, "adultAmount", "(LBenefitOffice;II)I"⟩
abbrev cL_childAmount : ByteArray := method_23_code
def yL_childAmount : MethodName := ⟨RL, "childAmount", "(LBenefitOffice;II)I"⟩
abbrev cL_housingAmount : ByteArray := method_24_code
def yL_housingAmount : MethodName := ⟨RL, "housingAmount", "(LBenefitOffice;II)I"⟩
abbrev cL_reason : ByteArray := method_25_code
def yL_reason : MethodName := ⟨RL, "reason", "(LBenefitOffice;II)I"⟩
abbrev cL_nextChange : ByteArray := method_26_code
def yL_nextChange : MethodName := ⟨RL, "nextChange", "(LBenefitOffice;II)I"⟩
abbrev cL_entitlement : ByteArray := method_27_code
def yL_entitlement : MethodName := ⟨RL, "entitlement", "(LBenefitOffice;II)I"⟩
abbrev cL_entitlementByDays : ByteArray := method_28_code
def yL_entitlementByDays : MethodName := ⟨RL, "entitlementByDays", "(LBenefitOffice;II)I"⟩
abbrev cL_keptShare : ByteArray := method_29_code
def yL_keptShare : MethodName := ⟨RL, "keptShare", "(LBenefitOffice;)F"⟩
abbrev cL_meanPayment : ByteArray := method_30_code
def yL_meanPayment : MethodName := ⟨RL, "meanPayment", "(LBenefitOffice;)D"⟩
abbrev cL_law : ByteArray := code
def yL_law : MethodName := ⟨RL, "law", "([I)Z"⟩
abbrev cL_sum : ByteArray := method_32_code
def yL_sum : MethodName := ⟨RL, "sum", "(LBenefitOffice;I)J"⟩
abbrev cL_pays : ByteArray := method_33_code
def yL_pays : MethodName := ⟨RL, "pays", "(LBenefitOffice;I)I"⟩
abbrev cL_areHanded : ByteArray := method_34_code
def yL_areHanded : MethodName := ⟨RL, "areHanded", "(LBenefitOffice;IIIJI)Z"⟩
abbrev cL_isDay : ByteArray := method_35_code
def yL_isDay : MethodName := ⟨RL, "isDay", "(LBenefitOffice;II)Z"⟩
abbrev cL_areMonths : ByteArray := method_36_code
def yL_areMonths : MethodName := ⟨RL, "areMonths", "(LBenefitOffice;I)Z"⟩
def wsL_law0_r1 : List Cond := [Cond.classLink RL 15 RX5, Cond.instantiable RX5 14, Cond.initialized RX5, Cond.methodLink RL 122 yX5_init, Cond.instanceMethod yX5_init, Cond.code yX5_init cX5_init 2 none, Cond.methodLink RX5 1 objectInit, Cond.instanceMethod objectInit, Cond.code objectInit ⟨#[0xb1]⟩ 1 none, Cond.classLink RX5 9 RX2, Cond.fieldLink RX5 11 "BenefitOffice" "persons" "[LBenefitOffice$Person;", Cond.classLink RX5 15 RX1, Cond.fieldLink RX5 17 "BenefitOffice" "households" "[LBenefitOffice$Household;", Cond.classLink RX5 21 RX4, Cond.fieldLink RX5 23 "BenefitOffice" "rules" "[LBenefitOffice$Timeline;", Cond.arrayClass .int, Cond.fieldLink RX5 27 "BenefitOffice" "startsOn" "[I", Cond.classLink RX5 31 RX3, Cond.instantiable RX3 3, Cond.initialized RX3, Cond.fieldLink RX5 34 "BenefitOffice" "residents" "LBenefitOffice$Residents;", Cond.classLink RX5 38 RX0, Cond.instantiable RX0 5, Cond.initialized RX0]
def wsL_law0_r2 : List Cond := [Cond.fieldLink RX5 41 "BenefitOffice" "amounts" "LBenefitOffice$Amounts;", Cond.fieldLink RX5 45 "BenefitOffice" "entitled" "[I", Cond.instantiable RX2 3, Cond.initialized RX2, Cond.instantiable RX1 3, Cond.initialized RX1, Cond.instantiable RX4 3, Cond.initialized RX4, Cond.fieldLink RX5 53 "BenefitOffice" "RULE_FIRST" "[I", Cond.instanceMethod yX3_init, Cond.code yX3_init cX3_init 1 none, Cond.methodLink RX3 1 objectInit, Cond.instanceMethod yX0_init, Cond.code yX0_init cX0_init 1 none, Cond.methodLink RX0 1 objectInit, Cond.instanceMethod yX2_init, Cond.code yX2_init cX2_init 1 none, Cond.methodLink RX2 3 objectInit, Cond.classLink RX2 9 RX4, Cond.fieldLink RX2 14 "BenefitOffice$Person" "home" "LBenefitOffice$Timeline;", Cond.fieldLink RX2 20 "BenefitOffice$Person" "income" "LBenefitOffice$Timeline;", Cond.methodLink RX2 11 yX4_init, Cond.instanceMethod yX4_init, Cond.code yX4_init cX4_init 2 none]
def wsL_law0_r3 : List Cond := [Cond.methodLink RX4 3 objectInit, Cond.fieldLink RX4 9 "BenefitOffice$Timeline" "values" "[I", Cond.fieldLink RX4 15 "BenefitOffice$Timeline" "told" "[I", Cond.fieldLink RX4 18 "BenefitOffice$Timeline" "valueWithoutFact" "I", Cond.methodLink RX4 22 yJ7_fill_53178, Cond.static yJ7_fill_53178, Cond.initialized RJ7, Cond.code yJ7_fill_53178 cJ7_fill_53178 4 none, Cond.instanceMethod yX1_init, Cond.code yX1_init cX1_init 1 none, Cond.methodLink RX1 3 objectInit, Cond.classLink RX1 9 RX4, Cond.fieldLink RX1 14 "BenefitOffice$Household" "rent" "LBenefitOffice$Timeline;", Cond.fieldLink RX1 20 "BenefitOffice$Household" "payments" "[I", Cond.fieldLink RX1 24 "BenefitOffice$Household" "paid" "[I", Cond.methodLink RX1 11 yX4_init, Cond.methodLink RX5 50 yX4_init, Cond.methodLink RX5 56 yX5_tell, Cond.instanceMethod yX5_tell, Cond.selects RX5 yX5_tell yX5_tell, Cond.code yX5_tell cX5_tell 5 (some .int), Cond.fieldLink RX5 208 "BenefitOffice" "factCount" "I", Cond.methodLink RX5 167 yX4_valueOn, Cond.instanceMethod yX4_valueOn]
def wsL_law0_r4 : List Cond := [Cond.selects RX4 yX4_valueOn yX4_valueOn, Cond.code yX4_valueOn cX4_valueOn 2 (some .int), Cond.methodLink RX5 237 yX4_isToldFor, Cond.instanceMethod yX4_isToldFor, Cond.selects RX4 yX4_isToldFor yX4_isToldFor, Cond.code yX4_isToldFor cX4_isToldFor 2 (some .boolean), Cond.methodLink RX4 28 yX4_bitOf, Cond.static yX4_bitOf, Cond.code yX4_bitOf cX4_bitOf 1 (some .int), Cond.methodLink RX5 243 yX4_put, Cond.instanceMethod yX4_put, Cond.selects RX4 yX4_put yX4_put, Cond.code yX4_put cX4_put 3 none, Cond.methodLink RX4 32 yX4_holdFrom, Cond.instanceMethod yX4_holdFrom, Cond.selects RX4 yX4_holdFrom yX4_holdFrom, Cond.code yX4_holdFrom cX4_holdFrom 4 none, Cond.methodLink RX4 36 yX4_isToldFor, Cond.methodLink RL 123 yL_pick, Cond.static yL_pick, Cond.initialized RL, Cond.code yL_pick cL_pick 3 (some .int), Cond.methodLink RL 8 yL_cell, Cond.static yL_cell]
def wsL_law0_r5 : List Cond := [Cond.code yL_cell cL_cell 2 (some .int), Cond.constant RL 7 (40503), Cond.methodLink RL 127 yL_addPerson, Cond.static yL_addPerson, Cond.codeWith yL_addPerson cL_addPerson 3 (some .int) [(0, 5, 6, 20), (0, 5, 10, 22)], Cond.classLink RL 20 "java/lang/IllegalArgumentException", Cond.classLink RL 22 "java/lang/IllegalStateException", Cond.methodLink RL 14 yX5_addPerson, Cond.instanceMethod yX5_addPerson, Cond.selects RX5 yX5_addPerson yX5_addPerson, Cond.code yX5_addPerson cX5_addPerson 2 (some .int), Cond.classLink RX5 67 "java/lang/IllegalStateException", Cond.initialized "java/lang/IllegalStateException", Cond.fieldLink RX5 63 "BenefitOffice" "personCount" "I", Cond.methodLink RX5 60 yX5_requireNumber, Cond.static yX5_requireNumber, Cond.code yX5_requireNumber cX5_requireNumber 1 none, Cond.classLink RX5 113 "java/lang/IllegalArgumentException", Cond.initialized "java/lang/IllegalArgumentException", Cond.methodLink RL 130 yL_addHousehold, Cond.static yL_addHousehold, Cond.codeWith yL_addHousehold cL_addHousehold 2 (some .int) [(0, 4, 5, 22)], Cond.methodLink RL 24 yX5_addHousehold, Cond.instanceMethod yX5_addHousehold]
def wsL_law0_r6 : List Cond := [Cond.selects RX5 yX5_addHousehold yX5_addHousehold, Cond.code yX5_addHousehold cX5_addHousehold 1 (some .int), Cond.fieldLink RX5 77 "BenefitOffice" "householdCount" "I", Cond.methodLink RL 133 yL_move, Cond.static yL_move, Cond.codeWith yL_move cL_move 5 (some .int) [(0, 7, 8, 32), (0, 7, 13, 20)], Cond.classLink RL 32 "java/lang/IndexOutOfBoundsException", Cond.methodLink RL 28 yX5_move, Cond.instanceMethod yX5_move, Cond.selects RX5 yX5_move yX5_move, Cond.code yX5_move cX5_move 5 (some .int), Cond.methodLink RX5 82 yX5_personNumbered, Cond.instanceMethod yX5_personNumbered, Cond.selects RX5 yX5_personNumbered yX5_personNumbered, Cond.code yX5_personNumbered cX5_personNumbered 2 (some (.object "BenefitOffice$Person")), Cond.classLink RX5 218 "java/lang/IndexOutOfBoundsException", Cond.initialized "java/lang/IndexOutOfBoundsException", Cond.methodLink RX5 86 yX5_requireHousehold, Cond.instanceMethod yX5_requireHousehold, Cond.selects RX5 yX5_requireHousehold yX5_requireHousehold, Cond.code yX5_requireHousehold cX5_requireHousehold 2 none, Cond.methodLink RX5 89 yX5_requireDay, Cond.static yX5_requireDay, Cond.code yX5_requireDay cX5_requireDay 1 none]
def wsL_law0_r7 : List Cond := [Cond.methodLink RL 136 yL_sum, Cond.static yL_sum, Cond.code yL_sum cL_sum 5 (some .long), Cond.constantLong RL 186 (31), Cond.constantLong RL 191 (7), Cond.constantLong RL 195 (5), Cond.methodLink RL 140 yX5_facts, Cond.instanceMethod yX5_facts, Cond.selects RX5 yX5_facts yX5_facts, Cond.code yX5_facts cX5_facts 1 (some .int), Cond.methodLink RL 188 yX5_totalPaid, Cond.instanceMethod yX5_totalPaid, Cond.selects RX5 yX5_totalPaid yX5_totalPaid, Cond.code yX5_totalPaid cX5_totalPaid 1 (some .long), Cond.fieldLink RX5 143 "BenefitOffice" "paidInAll" "J", Cond.methodLink RL 165 yX5_keptBack, Cond.instanceMethod yX5_keptBack, Cond.selects RX5 yX5_keptBack yX5_keptBack, Cond.code yX5_keptBack cX5_keptBack 1 (some .long), Cond.fieldLink RX5 164 "BenefitOffice" "keptInAll" "J", Cond.methodLink RL 193 yL_balance, Cond.static yL_balance, Cond.codeWith yL_balance cL_balance 3 (some .int) [(0, 5, 6, 32)], Cond.methodLink RL 68 yX5_balance]
def wsL_law0_r8 : List Cond := [Cond.instanceMethod yX5_balance, Cond.selects RX5 yX5_balance yX5_balance, Cond.code yX5_balance cX5_balance 5 (some .int), Cond.fieldLink RX5 131 "BenefitOffice" "runs" "I", Cond.methodLink RX5 99 yX5_householdNumbered, Cond.instanceMethod yX5_householdNumbered, Cond.selects RX5 yX5_householdNumbered yX5_householdNumbered, Cond.code yX5_householdNumbered cX5_householdNumbered 2 (some (.object "BenefitOffice$Household")), Cond.methodLink RX5 161 yX5_sumByStretches, Cond.instanceMethod yX5_sumByStretches, Cond.selects RX5 yX5_sumByStretches yX5_sumByStretches, Cond.code yX5_sumByStretches cX5_sumByStretches 7 (some .int), Cond.methodLink RX5 183 yX5_findAmounts, Cond.instanceMethod yX5_findAmounts, Cond.selects RX5 yX5_findAmounts yX5_findAmounts, Cond.code yX5_findAmounts cX5_findAmounts 4 none, Cond.methodLink RX5 257 Lib.Math.min.name, Cond.static Lib.Math.min.name, Cond.initialized "java/lang/Math", Cond.code Lib.Math.min.name Lib.Math.min.code 2 (some .int), Cond.methodLink RX5 171 yX5_findResidents, Cond.instanceMethod yX5_findResidents, Cond.selects RX5 yX5_findResidents yX5_findResidents, Cond.code yX5_findResidents cX5_findResidents 4 none]
def wsL_law0_r9 : List Cond := [Cond.methodLink RX5 249 yX3_clear, Cond.instanceMethod yX3_clear, Cond.selects RX3 yX3_clear yX3_clear, Cond.code yX3_clear cX3_clear 1 none, Cond.fieldLink RX3 7 "BenefitOffice$Residents" "adults" "I", Cond.fieldLink RX3 13 "BenefitOffice$Residents" "children" "I", Cond.fieldLink RX3 16 "BenefitOffice$Residents" "income" "I", Cond.methodLink RX5 252 yX3_add, Cond.instanceMethod yX3_add, Cond.selects RX3 yX3_add yX3_add, Cond.code yX3_add cX3_add 3 none, Cond.methodLink RX3 27 yX4_valueOn, Cond.methodLink RX5 256 yX0_clear, Cond.instanceMethod yX0_clear, Cond.selects RX0 yX0_clear yX0_clear, Cond.code yX0_clear cX0_clear 1 none, Cond.fieldLink RX0 7 "BenefitOffice$Amounts" "adult" "I", Cond.fieldLink RX0 13 "BenefitOffice$Amounts" "child" "I", Cond.fieldLink RX0 16 "BenefitOffice$Amounts" "housing" "I", Cond.fieldLink RX0 19 "BenefitOffice$Amounts" "tapered" "Z", Cond.fieldLink RX0 23 "BenefitOffice$Amounts" "capped" "Z", Cond.methodLink RX5 262 yX0_taper, Cond.instanceMethod yX0_taper, Cond.selects RX0 yX0_taper yX0_taper]
def wsL_law0_r10 : List Cond := [Cond.code yX0_taper cX0_taper 4 none, Cond.methodLink RX0 26 Lib.Math.min.name, Cond.methodLink RX5 265 yX0_limitTo, Cond.instanceMethod yX0_limitTo, Cond.selects RX0 yX0_limitTo yX0_limitTo, Cond.code yX0_limitTo cX0_limitTo 7 none, Cond.methodLink RX0 32 yX0_sum, Cond.instanceMethod yX0_sum, Cond.selects RX0 yX0_sum yX0_sum, Cond.code yX0_sum cX0_sum 1 (some .int), Cond.methodLink RX5 204 yX0_sum, Cond.methodLink RL 162 yX5_paidMonths, Cond.instanceMethod yX5_paidMonths, Cond.selects RX5 yX5_paidMonths yX5_paidMonths, Cond.code yX5_paidMonths cX5_paidMonths 1 (some .int), Cond.methodLink RL 197 yL_entitlement, Cond.static yL_entitlement, Cond.codeWith yL_entitlement cL_entitlement 4 (some .int) [(0, 6, 7, 32)], Cond.methodLink RL 103 yX5_entitlement, Cond.instanceMethod yX5_entitlement, Cond.selects RX5 yX5_entitlement yX5_entitlement, Cond.code yX5_entitlement cX5_entitlement 3 (some .int), Cond.methodLink RX5 147 yX5_requireMonth, Cond.static yX5_requireMonth]
def wsL_law0_r11 : List Cond := [Cond.code yX5_requireMonth cX5_requireMonth 1 none, Cond.methodLink RL 143 yL_homeOf, Cond.static yL_homeOf, Cond.codeWith yL_homeOf cL_homeOf 4 (some .int) [(0, 6, 7, 32), (0, 6, 11, 20)], Cond.methodLink RL 75 yX5_homeOf, Cond.instanceMethod yX5_homeOf, Cond.selects RX5 yX5_homeOf yX5_homeOf, Cond.code yX5_homeOf cX5_homeOf 4 (some .int), Cond.methodLink RL 146 yL_setIncome, Cond.static yL_setIncome, Cond.codeWith yL_setIncome cL_setIncome 5 (some .int) [(0, 7, 8, 32), (0, 7, 13, 20)], Cond.methodLink RL 34 yX5_setIncome, Cond.instanceMethod yX5_setIncome, Cond.selects RX5 yX5_setIncome yX5_setIncome, Cond.code yX5_setIncome cX5_setIncome 5 (some .int), Cond.methodLink RL 148 yL_setRent, Cond.static yL_setRent, Cond.codeWith yL_setRent cL_setRent 5 (some .int) [(0, 7, 8, 32), (0, 7, 13, 20)], Cond.methodLink RL 37 yX5_setRent, Cond.instanceMethod yX5_setRent, Cond.selects RX5 yX5_setRent yX5_setRent, Cond.code yX5_setRent cX5_setRent 5 (some .int), Cond.methodLink RL 150 yL_ruleAt, Cond.static yL_ruleAt]
def wsL_law0_r12 : List Cond := [Cond.codeWith yL_ruleAt cL_ruleAt 4 (some .int) [(0, 6, 7, 44), (0, 6, 11, 20)], Cond.classLink RL 44 "java/util/NoSuchElementException", Cond.methodLink RL 78 yX5_ruleAt, Cond.instanceMethod yX5_ruleAt, Cond.selects RX5 yX5_ruleAt yX5_ruleAt, Cond.code yX5_ruleAt cX5_ruleAt 4 (some .int), Cond.methodLink RX5 106 yX5_ruleIndex, Cond.static yX5_ruleIndex, Cond.code yX5_ruleIndex cX5_ruleIndex 2 (some .int), Cond.classLink RX5 150 "java/util/NoSuchElementException", Cond.initialized "java/util/NoSuchElementException", Cond.fieldLink RX5 225 "BenefitOffice" "RULE_LETTERS" "[C", Cond.methodLink RL 153 yL_setRule, Cond.static yL_setRule, Cond.codeWith yL_setRule cL_setRule 5 (some .int) [(0, 7, 8, 44), (0, 7, 13, 20)], Cond.methodLink RL 40 yX5_setRule, Cond.instanceMethod yX5_setRule, Cond.selects RX5 yX5_setRule yX5_setRule, Cond.code yX5_setRule cX5_setRule 5 (some .int), Cond.fieldLink RX5 110 "BenefitOffice" "RULE_GREATEST" "[I", Cond.methodLink RL 156 yL_takeBackMove, Cond.static yL_takeBackMove, Cond.codeWith yL_takeBackMove cL_takeBackMove 4 (some .int) [(0, 6, 7, 32), (0, 6, 11, 44)], Cond.methodLink RL 46 yX5_takeBackMove]
def wsL_law0_r13 : List Cond := [Cond.instanceMethod yX5_takeBackMove, Cond.selects RX5 yX5_takeBackMove yX5_takeBackMove, Cond.code yX5_takeBackMove cX5_takeBackMove 4 (some .int), Cond.methodLink RX5 118 yX5_requireFact, Cond.static yX5_requireFact, Cond.code yX5_requireFact cX5_requireFact 2 none, Cond.methodLink RX5 122 yX5_takeBack, Cond.instanceMethod yX5_takeBack, Cond.selects RX5 yX5_takeBack yX5_takeBack, Cond.code yX5_takeBack cX5_takeBack 4 (some .int), Cond.methodLink RX5 246 yX4_remove, Cond.instanceMethod yX4_remove, Cond.selects RX4 yX4_remove yX4_remove, Cond.code yX4_remove cX4_remove 2 none, Cond.methodLink RL 158 yL_takeBackIncome, Cond.static yL_takeBackIncome, Cond.codeWith yL_takeBackIncome cL_takeBackIncome 4 (some .int) [(0, 6, 7, 32), (0, 6, 11, 44)], Cond.methodLink RL 50 yX5_takeBackIncome, Cond.instanceMethod yX5_takeBackIncome, Cond.selects RX5 yX5_takeBackIncome yX5_takeBackIncome, Cond.code yX5_takeBackIncome cX5_takeBackIncome 4 (some .int), Cond.methodLink RL 160 yL_takeBackRule, Cond.static yL_takeBackRule, Cond.codeWith yL_takeBackRule cL_takeBackRule 4 (some .int) [(0, 6, 7, 44), (0, 6, 11, 57)]]
def wsL_law0_r14 : List Cond := [Cond.classLink RL 57 "java/lang/UnsupportedOperationException", Cond.methodLink RL 53 yX5_takeBackRule, Cond.instanceMethod yX5_takeBackRule, Cond.selects RX5 yX5_takeBackRule yX5_takeBackRule, Cond.code yX5_takeBackRule cX5_takeBackRule 4 (some .int), Cond.classLink RX5 126 "java/lang/UnsupportedOperationException", Cond.initialized "java/lang/UnsupportedOperationException", Cond.methodLink RL 169 yL_pays, Cond.static yL_pays, Cond.code yL_pays cL_pays 4 (some .int), Cond.methodLink RL 172 yL_pay, Cond.static yL_pay, Cond.codeWith yL_pay cL_pay 2 (some .int) [(0, 4, 5, 22)], Cond.methodLink RL 59 yX5_pay, Cond.instanceMethod yX5_pay, Cond.selects RX5 yX5_pay yX5_pay, Cond.code yX5_pay cX5_pay 3 (some .int), Cond.fieldLink RX5 140 "BenefitOffice" "paymentCount" "I", Cond.methodLink RX5 136 yX5_payTo, Cond.instanceMethod yX5_payTo, Cond.selects RX5 yX5_payTo yX5_payTo, Cond.code yX5_payTo cX5_payTo 7 (some .int), Cond.methodLink RX5 268 yX1_debtBefore, Cond.instanceMethod yX1_debtBefore]
def wsL_law0_r15 : List Cond := [Cond.selects RX1 yX1_debtBefore yX1_debtBefore, Cond.code yX1_debtBefore cX1_debtBefore 5 (some .int), Cond.methodLink RX5 272 yX1_settle, Cond.instanceMethod yX1_settle, Cond.selects RX1 yX1_settle yX1_settle, Cond.code yX1_settle cX1_settle 4 none, Cond.methodLink RX5 276 yX1_settleInPart, Cond.instanceMethod yX1_settleInPart, Cond.selects RX1 yX1_settleInPart yX1_settleInPart, Cond.code yX1_settleInPart cX1_settleInPart 7 none, Cond.methodLink RX1 27 Lib.Math.min.name, Cond.methodLink RL 174 yL_areHanded, Cond.static yL_areHanded, Cond.code yL_areHanded cL_areHanded 13 (some .boolean), Cond.methodLink RL 199 yL_payment, Cond.static yL_payment, Cond.codeWith yL_payment cL_payment 4 (some .int) [(0, 6, 7, 32), (0, 6, 11, 44)], Cond.methodLink RL 62 yX5_payment, Cond.instanceMethod yX5_payment, Cond.selects RX5 yX5_payment yX5_payment, Cond.code yX5_payment cX5_payment 4 (some .int), Cond.methodLink RL 201 yL_paidFor, Cond.static yL_paidFor, Cond.codeWith yL_paidFor cL_paidFor 4 (some .int) [(0, 6, 7, 32)]]
def wsL_law0_r16 : List Cond := [Cond.methodLink RL 65 yX5_paidFor, Cond.instanceMethod yX5_paidFor, Cond.selects RX5 yX5_paidFor yX5_paidFor, Cond.code yX5_paidFor cX5_paidFor 4 (some .int), Cond.methodLink RL 203 yL_isSettled, Cond.static yL_isSettled, Cond.codeWith yL_isSettled cL_isSettled 3 (some .int) [(0, 13, 14, 32)], Cond.methodLink RL 71 yX5_isSettled, Cond.instanceMethod yX5_isSettled, Cond.selects RX5 yX5_isSettled yX5_isSettled, Cond.code yX5_isSettled cX5_isSettled 4 (some .boolean), Cond.methodLink RL 178 yL_isDay, Cond.static yL_isDay, Cond.code yL_isDay cL_isDay 14 (some .boolean), Cond.methodLink RL 205 yL_adultAmount, Cond.static yL_adultAmount, Cond.codeWith yL_adultAmount cL_adultAmount 4 (some .int) [(0, 6, 7, 32), (0, 6, 11, 20)], Cond.methodLink RL 87 yX5_adultAmount, Cond.instanceMethod yX5_adultAmount, Cond.selects RX5 yX5_adultAmount yX5_adultAmount, Cond.code yX5_adultAmount cX5_adultAmount 3 (some .int), Cond.methodLink RL 207 yL_childAmount, Cond.static yL_childAmount, Cond.codeWith yL_childAmount cL_childAmount 4 (some .int) [(0, 6, 7, 32), (0, 6, 11, 20)]]
def wsL_law0_r17 : List Cond := [Cond.methodLink RL 90 yX5_childAmount, Cond.instanceMethod yX5_childAmount, Cond.selects RX5 yX5_childAmount yX5_childAmount, Cond.code yX5_childAmount cX5_childAmount 3 (some .int), Cond.methodLink RL 209 yL_housingAmount, Cond.static yL_housingAmount, Cond.codeWith yL_housingAmount cL_housingAmount 4 (some .int) [(0, 6, 7, 32), (0, 6, 11, 20)], Cond.methodLink RL 93 yX5_housingAmount, Cond.instanceMethod yX5_housingAmount, Cond.selects RX5 yX5_housingAmount yX5_housingAmount, Cond.code yX5_housingAmount cX5_housingAmount 3 (some .int), Cond.methodLink RL 211 yL_reason, Cond.static yL_reason, Cond.codeWith yL_reason cL_reason 4 (some .int) [(0, 6, 7, 32), (0, 6, 11, 20)], Cond.methodLink RL 96 yX5_reason, Cond.instanceMethod yX5_reason, Cond.selects RX5 yX5_reason yX5_reason, Cond.code yX5_reason cX5_reason 3 (some .char), Cond.methodLink RL 213 yL_adults, Cond.static yL_adults, Cond.codeWith yL_adults cL_adults 4 (some .int) [(0, 6, 7, 32), (0, 6, 11, 20)], Cond.methodLink RL 81 yX5_adults, Cond.instanceMethod yX5_adults, Cond.selects RX5 yX5_adults yX5_adults]
def wsL_law0_r18 : List Cond := [Cond.code yX5_adults cX5_adults 3 (some .int), Cond.methodLink RL 215 yL_nextChange, Cond.static yL_nextChange, Cond.codeWith yL_nextChange cL_nextChange 4 (some .int) [(0, 6, 7, 32), (0, 6, 11, 20), (0, 6, 15, 44)], Cond.methodLink RL 100 yX5_nextChange, Cond.instanceMethod yX5_nextChange, Cond.selects RX5 yX5_nextChange yX5_nextChange, Cond.code yX5_nextChange cX5_nextChange 7 (some .int), Cond.methodLink RL 217 yL_children, Cond.static yL_children, Cond.codeWith yL_children cL_children 4 (some .int) [(0, 6, 7, 32), (0, 6, 11, 20)], Cond.methodLink RL 84 yX5_children, Cond.instanceMethod yX5_children, Cond.selects RX5 yX5_children yX5_children, Cond.code yX5_children cX5_children 3 (some .int), Cond.methodLink RL 182 yL_areMonths, Cond.static yL_areMonths, Cond.code yL_areMonths cL_areMonths 17 (some .boolean), Cond.constantFloat RL 115 (3264479232), Cond.constantDouble RL 120 (13858279740860792832), Cond.methodLink RL 219 yL_entitlementByDays, Cond.static yL_entitlementByDays, Cond.codeWith yL_entitlementByDays cL_entitlementByDays 4 (some .int) [(0, 6, 7, 32)], Cond.methodLink RL 106 yX5_entitlementByDays]
def wsL_law0_r19 : List Cond := [Cond.instanceMethod yX5_entitlementByDays, Cond.selects RX5 yX5_entitlementByDays yX5_entitlementByDays, Cond.code yX5_entitlementByDays cX5_entitlementByDays 6 (some .int), Cond.methodLink RL 221 yL_keptShare, Cond.static yL_keptShare, Cond.codeWith yL_keptShare cL_keptShare 2 (some .float) [(0, 4, 5, 113)], Cond.classLink RL 113 "java/lang/ArithmeticException", Cond.methodLink RL 109 yX5_keptShare, Cond.instanceMethod yX5_keptShare, Cond.selects RX5 yX5_keptShare yX5_keptShare, Cond.code yX5_keptShare cX5_keptShare 3 (some .float), Cond.classLink RX5 211 "java/lang/ArithmeticException", Cond.initialized "java/lang/ArithmeticException", Cond.methodLink RL 224 yL_meanPayment, Cond.static yL_meanPayment, Cond.codeWith yL_meanPayment cL_meanPayment 2 (some .double) [(0, 4, 5, 113)], Cond.methodLink RL 116 yX5_meanPayment, Cond.instanceMethod yX5_meanPayment, Cond.selects RX5 yX5_meanPayment yX5_meanPayment, Cond.code yX5_meanPayment cX5_meanPayment 1 (some .double)]
def wsL_law0 : List Cond := (wsL_law0_r1 ++ (wsL_law0_r2 ++ (wsL_law0_r3 ++ (wsL_law0_r4 ++ (wsL_law0_r5 ++ (wsL_law0_r6 ++ (wsL_law0_r7 ++ (wsL_law0_r8 ++ (wsL_law0_r9 ++ (wsL_law0_r10 ++ (wsL_law0_r11 ++ (wsL_law0_r12 ++ (wsL_law0_r13 ++ (wsL_law0_r14 ++ (wsL_law0_r15 ++ (wsL_law0_r16 ++ (wsL_law0_r17 ++ (wsL_law0_r18 ++ wsL_law0_r19)))))))))))))))))) ++ wsX50 ++ wsX30 ++ wsX00 ++ wsX20 ++ wsX10 ++ wsX40 ++ ([] : List Cond)
def wsL_law : List Cond := wsL_law0 ++ (vx_atM "java/lang/ArrayIndexOutOfBoundsException" ["java/lang/IndexOutOfBoundsException", "java/lang/RuntimeException", "java/lang/Exception"]).filter goodWord ++ (vx_atM "java/lang/ArithmeticException" ["java/lang/RuntimeException", "java/lang/Exception"]).filter goodWord ++ (vx_atS RX5 71 "java/lang/IllegalStateException" ["java/lang/RuntimeException", "java/lang/Exception"]).filter goodWord ++ (vx_atS RX5 117 "java/lang/IllegalArgumentException" ["java/lang/RuntimeException", "java/lang/Exception"]).filter goodWord ++ (vx_atS RX5 222 "java/lang/IndexOutOfBoundsException" ["java/lang/RuntimeException", "java/lang/Exception"]).filter goodWord ++ (vx_atX RX5 154 "java/util/NoSuchElementException" 13 prog_22_method_4_code ["java/lang/RuntimeException", "java/lang/Exception"]).filter goodWord ++ (vx_atS RX5 130 "java/lang/UnsupportedOperationException" ["java/lang/RuntimeException", "java/lang/Exception"]).filter goodWord ++ (vx_atS RX5 215 "java/lang/ArithmeticException" ["java/lang/RuntimeException", "java/lang/Exception"]).filter goodWord
theorem inlX0 : ∀ w ∈ wsX00, w ∈ wsL_law := fun _ h => List.mem_append_left _ (List.mem_append_left _ (List.mem_append_left _ (List.mem_append_left _ (List.mem_append_left _ (List.mem_append_left _ (List.mem_append_left _ (List.mem_append_left _ (List.mem_append_left _ (List.mem_append_left _ (List.mem_append_left _ (List.mem_append_left _ (List.mem_append_right _ h))))))))))))
theorem inlX1 : ∀ w ∈ wsX10, w ∈ wsL_law := fun _ h => List.mem_append_left _ (List.mem_append_left _ (List.mem_append_left _ (List.mem_append_left _ (List.mem_append_left _ (List.mem_append_left _ (List.mem_append_left _ (List.mem_append_left _ (List.mem_append_left _ (List.mem_append_left _ (List.mem_append_right _ h))))))))))
theorem inlX2 : ∀ w ∈ wsX20, w ∈ wsL_law := fun _ h => List.mem_append_left _ (List.mem_append_left _ (List.mem_append_left _ (List.mem_append_left _ (List.mem_append_left _ (List.mem_append_left _ (List.mem_append_left _ (List.mem_append_left _ (List.mem_append_left _ (List.mem_append_left _ (List.mem_append_left _ (List.mem_append_right _ h)))))))))))
theorem inlX3 : ∀ w ∈ wsX30, w ∈ wsL_law := fun _ h => List.mem_append_left _ (List.mem_append_left _ (List.mem_append_left _ (List.mem_append_left _ (List.mem_append_left _ (List.mem_append_left _ (List.mem_append_left _ (List.mem_append_left _ (List.mem_append_left _ (List.mem_append_left _ (List.mem_append_left _ (List.mem_append_left _ (List.mem_append_left _ (List.mem_append_right _ h)))))))))))))
theorem inlX4 : ∀ w ∈ wsX40, w ∈ wsL_law := fun _ h => List.mem_append_left _ (List.mem_append_left _ (List.mem_append_left _ (List.mem_append_left _ (List.mem_append_left _ (List.mem_append_left _ (List.mem_append_left _ (List.mem_append_left _ (List.mem_append_left _ (List.mem_append_right _ h)))))))))
theorem inlX5 : ∀ w ∈ wsX50, w ∈ wsL_law := fun _ h => List.mem_append_left _ (List.mem_append_left _ (List.mem_append_left _ (List.mem_append_left _ (List.mem_append_left _ (List.mem_append_left _ (List.mem_append_left _ (List.mem_append_left _ (List.mem_append_left _ (List.mem_append_left _ (List.mem_append_left _ (List.mem_append_left _ (List.mem_append_left _ (List.mem_append_left _ (List.mem_append_right _ h))))))))))))))
