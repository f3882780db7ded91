/-! names: classes, fields, codes, methods (out of the printed NAMES; word lists and their rows left out) -/
def RX0 : String := "EvenHold$Easing"
def TX0 : u_T := fun k => match k with
  | 0 => ("EvenHold$Easing", "next", "[I", true)
  | _ => ("EvenHold$Easing", "head", "[I", true)
def tyX0 : Nat → FieldType := fun k => match k with
  | 0 => .array .int
  | _ => .array .int
abbrev wsX00 : List Cond := u_ws RX0 TX0 2
theorem nmX0 : ∀ a, a < 2 → ∀ b, b < 2 → a ≠ b → (TX0 a).2.1 ≠ (TX0 b).2.1 := by decide +kernel
theorem tyX0_ok : ∀ k, k < 2 → parseFieldDescriptor (TX0 k).2.2.1 = some (tyX0 k) := by decide +kernel
abbrev cX0_init : ByteArray := prog_2_method_1_code
def yX0_init : MethodName := ⟨RX0, "<init>", "()V"⟩
abbrev cX0_leastFrom : ByteArray := prog_2_method_2_code
def yX0_leastFrom : MethodName := ⟨RX0, "leastFrom", "(LEvenHold$Lighter;I)I"⟩
abbrev cX0_leaveHead : ByteArray := prog_2_method_3_code
def yX0_leaveHead : MethodName := ⟨RX0, "leaveHead", "(LEvenHold$Lighter;I)V"⟩
abbrev cX0_put : ByteArray := prog_2_method_4_code
def yX0_put : MethodName := ⟨RX0, "put", "(II)V"⟩
def RX1 : String := "EvenHold$Fit"
def TX1 : u_T := fun k => match k with
  | 0 => ("EvenHold$Fit", "rows", "I", false)
  | 1 => ("EvenHold$Fit", "firsts", "I", false)
  | _ => ("EvenHold$Fit", "leastFirst", "I", false)
def tyX1 : Nat → FieldType := fun k => match k with
  | 0 => .int
  | 1 => .int
  | _ => .int
abbrev wsX10 : List Cond := u_ws RX1 TX1 3
theorem nmX1 : ∀ a, a < 3 → ∀ b, b < 3 → a ≠ b → (TX1 a).2.1 ≠ (TX1 b).2.1 := by decide +kernel
theorem tyX1_ok : ∀ k, k < 3 → parseFieldDescriptor (TX1 k).2.2.1 = some (tyX1 k) := by decide +kernel
abbrev cX1_init : ByteArray := prog_3_method_1_code
def yX1_init : MethodName := ⟨RX1, "<init>", "()V"⟩
abbrev cX1_tellOf : ByteArray := prog_3_method_2_code
def yX1_tellOf : MethodName := ⟨RX1, "tellOf", "(LEvenHold$Lighter;LEvenHold$Now;I)V"⟩
abbrev cX1_rowsBehind : ByteArray := prog_3_method_3_code
def yX1_rowsBehind : MethodName := ⟨RX1, "rowsBehind", "(LEvenHold$Lighter;LEvenHold$Now;III)I"⟩
def RX2 : String := "EvenHold$Lighter"
def TX2 : u_T := fun k => match k with
  | 0 => ("EvenHold$Lighter", "kind", "[I", true)
  | 1 => ("EvenHold$Lighter", "taking", "[I", true)
  | 2 => ("EvenHold$Lighter", "carrying", "[I", true)
  | 3 => ("EvenHold$Lighter", "bend", "I", false)
  | _ => ("EvenHold$Lighter", "list", "I", false)
def tyX2 : Nat → FieldType := fun k => match k with
  | 0 => .array .int
  | 1 => .array .int
  | 2 => .array .int
  | 3 => .int
  | _ => .int
abbrev wsX20 : List Cond := u_ws RX2 TX2 5
theorem nmX2 : ∀ a, a < 5 → ∀ b, b < 5 → a ≠ b → (TX2 a).2.1 ≠ (TX2 b).2.1 := by decide +kernel
theorem tyX2_ok : ∀ k, k < 5 → parseFieldDescriptor (TX2 k).2.2.1 = some (tyX2 k) := by decide +kernel
abbrev cX2_init : ByteArray := prog_4_method_1_code
def yX2_init : MethodName := ⟨RX2, "<init>", "()V"⟩
abbrev cX2_setKind : ByteArray := prog_4_method_2_code
def yX2_setKind : MethodName := ⟨RX2, "setKind", "(II)V"⟩
abbrev cX2_bears : ByteArray := prog_4_method_3_code
def yX2_bears : MethodName := ⟨RX2, "bears", "(II)Z"⟩
abbrev cX2_minutesOf : ByteArray := prog_4_method_4_code
def yX2_minutesOf : MethodName := ⟨RX2, "minutesOf", "(I)I"⟩
abbrev cX2_behind : ByteArray := prog_4_method_5_code
def yX2_behind : MethodName := ⟨RX2, "behind", "(III)I"⟩
abbrev cX2_moved : ByteArray := prog_4_method_6_code
def yX2_moved : MethodName := ⟨RX2, "moved", "(II)I"⟩
abbrev cX2_slid : ByteArray := prog_4_method_7_code
def yX2_slid : MethodName := ⟨RX2, "slid", "(I)I"⟩
def RX3 : String := "EvenHold$Now"
def TX3 : u_T := fun k => match k with
  | 0 => ("EvenHold$Now", "lying", "I", false)
  | 1 => ("EvenHold$Now", "aground", "Z", false)
  | 2 => ("EvenHold$Now", "minutes", "I", false)
  | 3 => ("EvenHold$Now", "out", "I", false)
  | 4 => ("EvenHold$Now", "bents", "[I", true)
  | _ => ("EvenHold$Now", "told", "I", false)
def tyX3 : Nat → FieldType := fun k => match k with
  | 0 => .int
  | 1 => .boolean
  | 2 => .int
  | 3 => .int
  | 4 => .array .int
  | _ => .int
abbrev wsX30 : List Cond := u_ws RX3 TX3 6
theorem nmX3 : ∀ a, a < 6 → ∀ b, b < 6 → a ≠ b → (TX3 a).2.1 ≠ (TX3 b).2.1 := by decide +kernel
theorem tyX3_ok : ∀ k, k < 6 → parseFieldDescriptor (TX3 k).2.2.1 = some (tyX3 k) := by decide +kernel
abbrev cX3_init : ByteArray := prog_5_method_1_code
def yX3_init : MethodName := ⟨RX3, "<init>", "()V"⟩
abbrev cX3_clear : ByteArray := prog_5_method_2_code
def yX3_clear : MethodName := ⟨RX3, "clear", "()V"⟩
abbrev cX3_copyOf : ByteArray := prog_5_method_3_code
def yX3_copyOf : MethodName := ⟨RX3, "copyOf", "(LEvenHold$Now;)V"⟩
def RX4 : String := "EvenHold$Outlook"
def TX4 : u_T := fun k => match k with
  | 0 => ("EvenHold$Outlook", "minutes", "[I", true)
  | 1 => ("EvenHold$Outlook", "first", "[I", true)
  | 2 => ("EvenHold$Outlook", "waiting", "[I", true)
  | 3 => ("EvenHold$Outlook", "waitingIn", "[I", true)
  | 4 => ("EvenHold$Outlook", "waitingInAll", "I", false)
  | 5 => ("EvenHold$Outlook", "comeTo", "I", false)
  | 6 => ("EvenHold$Outlook", "mostOut", "I", false)
  | 7 => ("EvenHold$Outlook", "knownRead", "I", false)
  | 8 => ("EvenHold$Outlook", "knownLying", "I", false)
  | 9 => ("EvenHold$Outlook", "knownTons", "I", false)
  | _ => ("EvenHold$Outlook", "knownBend", "I", false)
def tyX4 : Nat → FieldType := fun k => match k with
  | 0 => .array .int
  | 1 => .array .int
  | 2 => .array .int
  | 3 => .array .int
  | 4 => .int
  | 5 => .int
  | 6 => .int
  | 7 => .int
  | 8 => .int
  | 9 => .int
  | _ => .int
abbrev wsX40 : List Cond := u_ws RX4 TX4 11
theorem nmX4 : ∀ a, a < 11 → ∀ b, b < 11 → a ≠ b → (TX4 a).2.1 ≠ (TX4 b).2.1 := by decide +kernel
theorem tyX4_ok : ∀ k, k < 11 → parseFieldDescriptor (TX4 k).2.2.1 = some (tyX4 k) := by decide +kernel
abbrev cX4_init : ByteArray := prog_6_method_1_code
def yX4_init : MethodName := ⟨RX4, "<init>", "()V"⟩
abbrev cX4_lookFrom : ByteArray := prog_6_method_2_code
def yX4_lookFrom : MethodName := ⟨RX4, "lookFrom", "(LEvenHold$Lighter;III)V"⟩
abbrev cX4_leave : ByteArray := prog_6_method_3_code
def yX4_leave : MethodName := ⟨RX4, "leave", "(LEvenHold$Lighter;III)V"⟩
abbrev cX4_reach : ByteArray := prog_6_method_4_code
def yX4_reach : MethodName := ⟨RX4, "reach", "(III)V"⟩
def RX5 : String := "EvenHold"
def TX5 : u_T := fun k => match k with
  | 0 => ("EvenHold", "page", "[I", true)
  | 1 => ("EvenHold", "letters", "I", false)
  | 2 => ("EvenHold", "lighter", "LEvenHold$Lighter;", true)
  | 3 => ("EvenHold", "held", "Z", false)
  | 4 => ("EvenHold", "now", "LEvenHold$Now;", true)
  | 5 => ("EvenHold", "kept", "LEvenHold$Now;", true)
  | 6 => ("EvenHold", "isKept", "Z", false)
  | 7 => ("EvenHold", "reads", "I", false)
  | 8 => ("EvenHold", "easings", "I", false)
  | 9 => ("EvenHold", "outlook", "LEvenHold$Outlook;", true)
  | 10 => ("EvenHold", "easing", "LEvenHold$Easing;", true)
  | _ => ("EvenHold", "fit", "LEvenHold$Fit;", true)
def tyX5 : Nat → FieldType := fun k => match k with
  | 0 => .array .int
  | 1 => .int
  | 2 => .object "EvenHold$Lighter"
  | 3 => .boolean
  | 4 => .object "EvenHold$Now"
  | 5 => .object "EvenHold$Now"
  | 6 => .boolean
  | 7 => .int
  | 8 => .int
  | 9 => .object "EvenHold$Outlook"
  | 10 => .object "EvenHold$Easing"
  | _ => .object "EvenHold$Fit"
abbrev wsX50 : List Cond := u_ws RX5 TX5 12
theorem nmX5 : ∀ a, a < 12 → ∀ b, b < 12 → a ≠ b → (TX5 a).2.1 ≠ (TX5 b).2.1 := by decide +kernel
theorem tyX5_ok : ∀ k, k < 12 → parseFieldDescriptor (TX5 k).2.2.1 = some (tyX5 k) := by decide +kernel
abbrev cX5_init : ByteArray := prog_1_method_1_code
def yX5_init : MethodName := ⟨RX5, "<init>", "()V"⟩
abbrev cX5_letter : ByteArray := prog_1_method_2_code
def yX5_letter : MethodName := ⟨RX5, "letter", "(I)I"⟩
abbrev cX5_blank : ByteArray := prog_1_method_3_code
def yX5_blank : MethodName := ⟨RX5, "blank", "()I"⟩
abbrev cX5_fault : ByteArray := prog_1_method_4_code
def yX5_fault : MethodName := ⟨RX5, "fault", "()I"⟩
abbrev cX5_hold : ByteArray := prog_1_method_5_code
def yX5_hold : MethodName := ⟨RX5, "hold", "()I"⟩
abbrev cX5_bay : ByteArray := prog_1_method_6_code
def yX5_bay : MethodName := ⟨RX5, "bay", "(II)I"⟩
abbrev cX5_as : ByteArray := prog_1_method_7_code
def yX5_as : MethodName := ⟨RX5, "as", "(II)I"⟩
abbrev cX5_ground : ByteArray := prog_1_method_8_code
def yX5_ground : MethodName := ⟨RX5, "ground", "(Z)I"⟩
abbrev cX5_hull : ByteArray := prog_1_method_9_code
def yX5_hull : MethodName := ⟨RX5, "hull", "(I)I"⟩
abbrev cX5_may : ByteArray := prog_1_method_10_code
def yX5_may : MethodName := ⟨RX5, "may", "(I)I"⟩
abbrev cX5_act : ByteArray := prog_1_method_11_code
def yX5_act : MethodName := ⟨RX5, "act", "(I)I"⟩
abbrev cX5_soonest : ByteArray := prog_1_method_12_code
def yX5_soonest : MethodName := ⟨RX5, "soonest", "(I)I"⟩
abbrev cX5_most : ByteArray := prog_1_method_13_code
def yX5_most : MethodName := ⟨RX5, "most", "()I"⟩
abbrev cX5_holds : ByteArray := prog_1_method_14_code
def yX5_holds : MethodName := ⟨RX5, "holds", "()I"⟩
abbrev cX5_leastBend : ByteArray := prog_1_method_15_code
def yX5_leastBend : MethodName := ⟨RX5, "leastBend", "()I"⟩
abbrev cX5_string : ByteArray := prog_1_method_16_code
def yX5_string : MethodName := ⟨RX5, "string", "(I)I"⟩
abbrev cX5_forget : ByteArray := prog_1_method_17_code
def yX5_forget : MethodName := ⟨RX5, "forget", "()I"⟩
abbrev cX5_fits : ByteArray := prog_1_method_18_code
def yX5_fits : MethodName := ⟨RX5, "fits", "(I)I"⟩
abbrev cX5_days : ByteArray := prog_1_method_19_code
def yX5_days : MethodName := ⟨RX5, "days", "(III)I"⟩
abbrev cX5_image : ByteArray := prog_1_method_20_code
def yX5_image : MethodName := ⟨RX5, "image", "()I"⟩
abbrev cX5_restore : ByteArray := prog_1_method_21_code
def yX5_restore : MethodName := ⟨RX5, "restore", "()I"⟩
abbrev cX5_count : ByteArray := prog_1_method_22_code
def yX5_count : MethodName := ⟨RX5, "count", "(I)I"⟩
abbrev cX5_digest : ByteArray := prog_1_method_23_code
def yX5_digest : MethodName := ⟨RX5, "digest", "()J"⟩
abbrev cX5_withLighter : ByteArray := prog_1_method_24_code
def yX5_withLighter : MethodName := ⟨RX5, "withLighter", "(J)J"⟩
abbrev cX5_withActs : ByteArray := prog_1_method_25_code
def yX5_withActs : MethodName := ⟨RX5, "withActs", "(J)J"⟩
abbrev cX5_withOutlook : ByteArray := prog_1_method_26_code
def yX5_withOutlook : MethodName := ⟨RX5, "withOutlook", "(J)J"⟩
abbrev cX5_isOfForm : ByteArray := prog_1_method_27_code
def yX5_isOfForm : MethodName := ⟨RX5, "isOfForm", "(II)Z"⟩
abbrev cX5_readPage : ByteArray := prog_1_method_28_code
def yX5_readPage : MethodName := ⟨RX5, "readPage", "()I"⟩
abbrev cX5_digitAt : ByteArray := prog_1_method_29_code
def yX5_digitAt : MethodName := ⟨RX5, "digitAt", "(I)I"⟩
abbrev cX5_isBay : ByteArray := prog_1_method_30_code
def yX5_isBay : MethodName := ⟨RX5, "isBay", "(I)Z"⟩
abbrev cX5_bendNow : ByteArray := prog_1_method_31_code
def yX5_bendNow : MethodName := ⟨RX5, "bendNow", "()I"⟩
abbrev cX5_lookAhead : ByteArray := prog_1_method_32_code
def yX5_lookAhead : MethodName := ⟨RX5, "lookAhead", "()V"⟩
abbrev cX5_lookBack : ByteArray := prog_1_method_33_code
def yX5_lookBack : MethodName := ⟨RX5, "lookBack", "()V"⟩
abbrev cX5_at : ByteArray := prog_1_method_34_code
def yX5_at : MethodName := ⟨RX5, "at", "([II)I"⟩
abbrev cX5_asNumber : ByteArray := prog_1_method_35_code
def yX5_asNumber : MethodName := ⟨RX5, "asNumber", "(Z)I"⟩
abbrev cX5_nextSeed : ByteArray := prog_1_method_36_code
def yX5_nextSeed : MethodName := ⟨RX5, "nextSeed", "(I)I"⟩
abbrev cX5_cellFrom : ByteArray := prog_1_method_37_code
def yX5_cellFrom : MethodName := ⟨RX5, "cellFrom", "(I)I"⟩
abbrev cX5_cellInto : ByteArray := prog_1_method_38_code
def yX5_cellInto : MethodName := ⟨RX5, "cellInto", "(I)I"⟩
abbrev cX5_isAct : ByteArray := prog_1_method_39_code
def yX5_isAct : MethodName := ⟨RX5, "isAct", "(I)Z"⟩
abbrev cX5_tonsAt : ByteArray := prog_1_method_40_code
def yX5_tonsAt : MethodName := ⟨RX5, "tonsAt", "(II)I"⟩
abbrev cX5_tonsOf : ByteArray := prog_1_method_41_code
def yX5_tonsOf : MethodName := ⟨RX5, "tonsOf", "(I)I"⟩
abbrev cX5_bentBy : ByteArray := prog_1_method_42_code
def yX5_bentBy : MethodName := ⟨RX5, "bentBy", "(I)I"⟩
abbrev cX5_listingBy : ByteArray := prog_1_method_43_code
def yX5_listingBy : MethodName := ⟨RX5, "listingBy", "(I)I"⟩
def RX6 : String := "EvenHoldModel"
def TX6 : u_T := fun k => match k with
  | 0 => ("EvenHoldModel", "page", "[I", true)
  | 1 => ("EvenHoldModel", "pageMany", "I", false)
  | 2 => ("EvenHoldModel", "isThere", "Z", false)
  | 3 => ("EvenHoldModel", "bend", "I", false)
  | 4 => ("EvenHoldModel", "list", "I", false)
  | 5 => ("EvenHoldModel", "lies", "I", false)
  | 6 => ("EvenHoldModel", "out", "I", false)
  | 7 => ("EvenHoldModel", "minutes", "I", false)
  | 8 => ("EvenHoldModel", "groundNow", "I", false)
  | 9 => ("EvenHoldModel", "holdsRead", "I", false)
  | 10 => ("EvenHoldModel", "kinds", "[I", true)
  | 11 => ("EvenHoldModel", "far", "[I", true)
  | 12 => ("EvenHoldModel", "firsts", "[I", true)
  | 13 => ("EvenHoldModel", "waits", "[I", true)
  | 14 => ("EvenHoldModel", "isWaiting", "[Z", true)
  | 15 => ("EvenHoldModel", "leastMany", "I", false)
  | 16 => ("EvenHoldModel", "stringMany", "I", false)
  | 17 => ("EvenHoldModel", "strings", "[I", true)
  | 18 => ("EvenHoldModel", "now", "[I", true)
  | 19 => ("EvenHoldModel", "next", "[I", true)
  | 20 => ("EvenHoldModel", "fitsAll", "I", false)
  | 21 => ("EvenHoldModel", "firstMany", "I", false)
  | 22 => ("EvenHoldModel", "firstLeast", "I", false)
  | 23 => ("EvenHoldModel", "seedNow", "I", false)
  | 24 => ("EvenHoldModel", "keptHold", "I", false)
  | 25 => ("EvenHoldModel", "keptLies", "I", false)
  | 26 => ("EvenHoldModel", "keptOut", "I", false)
  | 27 => ("EvenHoldModel", "keptMinutes", "I", false)
  | 28 => ("EvenHoldModel", "keptGround", "I", false)
  | 29 => ("EvenHoldModel", "keptStringMany", "I", false)
  | 30 => ("EvenHoldModel", "keptStrings", "[I", true)
  | _ => ("EvenHoldModel", "hash", "J", false)
def tyX6 : Nat → FieldType := fun k => match k with
  | 0 => .array .int
  | 1 => .int
  | 2 => .boolean
  | 3 => .int
  | 4 => .int
  | 5 => .int
  | 6 => .int
  | 7 => .int
  | 8 => .int
  | 9 => .int
  | 10 => .array .int
  | 11 => .array .int
  | 12 => .array .int
  | 13 => .array .int
  | 14 => .array .boolean
  | 15 => .int
  | 16 => .int
  | 17 => .array .int
  | 18 => .array .int
  | 19 => .array .int
  | 20 => .int
  | 21 => .int
  | 22 => .int
  | 23 => .int
  | 24 => .int
  | 25 => .int
  | 26 => .int
  | 27 => .int
  | 28 => .int
  | 29 => .int
  | 30 => .array .int
  | _ => .long
abbrev wsX60 : List Cond := u_ws RX6 TX6 32
theorem nmX6 : ∀ a, a < 32 → ∀ b, b < 32 → a ≠ b → (TX6 a).2.1 ≠ (TX6 b).2.1 := by decide +kernel
theorem tyX6_ok : ∀ k, k < 32 → parseFieldDescriptor (TX6 k).2.2.1 = some (tyX6 k) := by decide +kernel
abbrev cX6_init : ByteArray := prog_8_method_1_code
def yX6_init : MethodName := ⟨RX6, "<init>", "()V"⟩
abbrev cX6_in : ByteArray := prog_8_method_2_code
def yX6_in : MethodName := ⟨RX6, "in", "(JJJ)Z"⟩
abbrev cX6_letter : ByteArray := prog_8_method_3_code
def yX6_letter : MethodName := ⟨RX6, "letter", "(I)I"⟩
abbrev cX6_blank : ByteArray := prog_8_method_4_code
def yX6_blank : MethodName := ⟨RX6, "blank", "()I"⟩
abbrev cX6_kindBy : ByteArray := prog_8_method_5_code
def yX6_kindBy : MethodName := ⟨RX6, "kindBy", "(I)I"⟩
abbrev cX6_isGood : ByteArray := prog_8_method_6_code
def yX6_isGood : MethodName := ⟨RX6, "isGood", "(II)Z"⟩
abbrev cX6_faultOf : ByteArray := prog_8_method_7_code
def yX6_faultOf : MethodName := ⟨RX6, "faultOf", "()I"⟩
abbrev cX6_fault : ByteArray := prog_8_method_8_code
def yX6_fault : MethodName := ⟨RX6, "fault", "()I"⟩
abbrev cX6_hold : ByteArray := prog_8_method_9_code
def yX6_hold : MethodName := ⟨RX6, "hold", "()I"⟩
abbrev cX6_at : ByteArray := prog_8_method_10_code
def yX6_at : MethodName := ⟨RX6, "at", "(II)I"⟩
abbrev cX6_tonsOf : ByteArray := prog_8_method_11_code
def yX6_tonsOf : MethodName := ⟨RX6, "tonsOf", "(I)I"⟩
abbrev cX6_unlike : ByteArray := prog_8_method_12_code
def yX6_unlike : MethodName := ⟨RX6, "unlike", "(II)I"⟩
abbrev cX6_bentOf : ByteArray := prog_8_method_13_code
def yX6_bentOf : MethodName := ⟨RX6, "bentOf", "(I)I"⟩
abbrev cX6_listingOf : ByteArray := prog_8_method_14_code
def yX6_listingOf : MethodName := ⟨RX6, "listingOf", "(I)I"⟩
abbrev cX6_bendNow : ByteArray := prog_8_method_15_code
def yX6_bendNow : MethodName := ⟨RX6, "bendNow", "()I"⟩
abbrev cX6_takingOf : ByteArray := prog_8_method_16_code
def yX6_takingOf : MethodName := ⟨RX6, "takingOf", "(I)I"⟩
abbrev cX6_carryingOf : ByteArray := prog_8_method_17_code
def yX6_carryingOf : MethodName := ⟨RX6, "carryingOf", "(I)I"⟩
abbrev cX6_bay : ByteArray := prog_8_method_18_code
def yX6_bay : MethodName := ⟨RX6, "bay", "(II)I"⟩
abbrev cX6_as : ByteArray := prog_8_method_19_code
def yX6_as : MethodName := ⟨RX6, "as", "(II)I"⟩
abbrev cX6_ground : ByteArray := prog_8_method_20_code
def yX6_ground : MethodName := ⟨RX6, "ground", "(Z)I"⟩
abbrev cX6_bears : ByteArray := prog_8_method_21_code
def yX6_bears : MethodName := ⟨RX6, "bears", "(II)Z"⟩
abbrev cX6_hullOf : ByteArray := prog_8_method_22_code
def yX6_hullOf : MethodName := ⟨RX6, "hullOf", "(I)I"⟩
abbrev cX6_hull : ByteArray := prog_8_method_23_code
def yX6_hull : MethodName := ⟨RX6, "hull", "(I)I"⟩
abbrev cX6_isAct : ByteArray := prog_8_method_24_code
def yX6_isAct : MethodName := ⟨RX6, "isAct", "(I)Z"⟩
abbrev cX6_behind : ByteArray := prog_8_method_25_code
def yX6_behind : MethodName := ⟨RX6, "behind", "(II)I"⟩
abbrev cX6_goes : ByteArray := prog_8_method_26_code
def yX6_goes : MethodName := ⟨RX6, "goes", "(III)I"⟩
abbrev cX6_lasts : ByteArray := prog_8_method_27_code
def yX6_lasts : MethodName := ⟨RX6, "lasts", "(I)I"⟩
abbrev cX6_may : ByteArray := prog_8_method_28_code
def yX6_may : MethodName := ⟨RX6, "may", "(I)I"⟩
abbrev cX6_act : ByteArray := prog_8_method_29_code
def yX6_act : MethodName := ⟨RX6, "act", "(I)I"⟩
abbrev cX6_layFar : ByteArray := prog_8_method_30_code
def yX6_layFar : MethodName := ⟨RX6, "layFar", "(I)V"⟩
abbrev cX6_isBetter : ByteArray := prog_8_method_31_code
def yX6_isBetter : MethodName := ⟨RX6, "isBetter", "(III)Z"⟩
abbrev cX6_soonest : ByteArray := prog_8_method_32_code
def yX6_soonest : MethodName := ⟨RX6, "soonest", "(I)I"⟩
abbrev cX6_mostOf : ByteArray := prog_8_method_33_code
def yX6_mostOf : MethodName := ⟨RX6, "mostOf", "()I"⟩
abbrev cX6_most : ByteArray := prog_8_method_34_code
def yX6_most : MethodName := ⟨RX6, "most", "()I"⟩
abbrev cX6_manyOf : ByteArray := prog_8_method_35_code
def yX6_manyOf : MethodName := ⟨RX6, "manyOf", "()I"⟩
abbrev cX6_holds : ByteArray := prog_8_method_36_code
def yX6_holds : MethodName := ⟨RX6, "holds", "()I"⟩
abbrev cX6_leastBend : ByteArray := prog_8_method_37_code
def yX6_leastBend : MethodName := ⟨RX6, "leastBend", "()I"⟩
abbrev cX6_string : ByteArray := prog_8_method_38_code
def yX6_string : MethodName := ⟨RX6, "string", "(I)I"⟩
abbrev cX6_forget : ByteArray := prog_8_method_39_code
def yX6_forget : MethodName := ⟨RX6, "forget", "()I"⟩
abbrev cX6_rowsFrom : ByteArray := prog_8_method_40_code
def yX6_rowsFrom : MethodName := ⟨RX6, "rowsFrom", "(II)I"⟩
abbrev cX6_stepAll : ByteArray := prog_8_method_41_code
def yX6_stepAll : MethodName := ⟨RX6, "stepAll", "(I)V"⟩
abbrev cX6_layFits : ByteArray := prog_8_method_42_code
def yX6_layFits : MethodName := ⟨RX6, "layFits", "()V"⟩
abbrev cX6_fits : ByteArray := prog_8_method_43_code
def yX6_fits : MethodName := ⟨RX6, "fits", "(I)I"⟩
abbrev cX6_draw : ByteArray := prog_8_method_44_code
def yX6_draw : MethodName := ⟨RX6, "draw", "(I)I"⟩
abbrev cX6_days : ByteArray := prog_8_method_45_code
def yX6_days : MethodName := ⟨RX6, "days", "(III)I"⟩
abbrev cX6_copy : ByteArray := prog_8_method_46_code
def yX6_copy : MethodName := ⟨RX6, "copy", "([I[I)V"⟩
abbrev cX6_image : ByteArray := prog_8_method_47_code
def yX6_image : MethodName := ⟨RX6, "image", "()I"⟩
abbrev cX6_restore : ByteArray := prog_8_method_48_code
def yX6_restore : MethodName := ⟨RX6, "restore", "()I"⟩
abbrev cX6_countOf : ByteArray := prog_8_method_49_code
def yX6_countOf : MethodName := ⟨RX6, "countOf", "(I)I"⟩
abbrev cX6_count : ByteArray := prog_8_method_50_code
def yX6_count : MethodName := ⟨RX6, "count", "(I)I"⟩
abbrev cX6_say : ByteArray := prog_8_method_51_code
def yX6_say : MethodName := ⟨RX6, "say", "(J)V"⟩
abbrev cX6_sayHold : ByteArray := prog_8_method_52_code
def yX6_sayHold : MethodName := ⟨RX6, "sayHold", "()V"⟩
abbrev cX6_digest : ByteArray := prog_8_method_53_code
def yX6_digest : MethodName := ⟨RX6, "digest", "()J"⟩
def RJx145de : String := "java/io/Serializable"
def TJx145de : u_T := fun k => match k with
  | _ => ("", "", "", false)
def tyJx145de : Nat → FieldType := fun k => match k with
  | _ => .int
abbrev wsJx145de0 : List Cond := u_ws RJx145de TJx145de 0
theorem nmJx145de : ∀ a, a < 0 → ∀ b, b < 0 → a ≠ b → (TJx145de a).2.1 ≠ (TJx145de b).2.1 := by decide +kernel
theorem tyJx145de_ok : ∀ k, k < 0 → parseFieldDescriptor (TJx145de k).2.2.1 = some (tyJx145de k) := by decide +kernel
def RJx9f9b0 : String := "java/lang/CharSequence"
def TJx9f9b0 : u_T := fun k => match k with
  | _ => ("", "", "", false)
def tyJx9f9b0 : Nat → FieldType := fun k => match k with
  | _ => .int
abbrev wsJx9f9b00 : List Cond := u_ws RJx9f9b0 TJx9f9b0 0
theorem nmJx9f9b0 : ∀ a, a < 0 → ∀ b, b < 0 → a ≠ b → (TJx9f9b0 a).2.1 ≠ (TJx9f9b0 b).2.1 := by decide +kernel
theorem tyJx9f9b0_ok : ∀ k, k < 0 → parseFieldDescriptor (TJx9f9b0 k).2.2.1 = some (tyJx9f9b0 k) := by decide +kernel
def RJ11 : String := "java/lang/Character"
def TJ11 : u_T := fun k => match k with
  | _ => ("", "", "", false)
def tyJ11 : Nat → FieldType := fun k => match k with
  | _ => .int
abbrev wsJ110 : List Cond := u_ws RJ11 TJ11 0
theorem nmJ11 : ∀ a, a < 0 → ∀ b, b < 0 → a ≠ b → (TJ11 a).2.1 ≠ (TJ11 b).2.1 := by decide +kernel
theorem tyJ11_ok : ∀ k, k < 0 → parseFieldDescriptor (TJ11 k).2.2.1 = some (tyJ11 k) := by decide +kernel
abbrev cJ11_isValidCodePoint_9a6ad : ByteArray := prog_9_method_11_code
def yJ11_isValidCodePoint_9a6ad : MethodName := ⟨RJ11, "isValidCodePoint", "(I)Z"⟩
abbrev cJ11_highSurrogate_5068e : ByteArray := prog_9_method_28_code
def yJ11_highSurrogate_5068e : MethodName := ⟨RJ11, "highSurrogate", "(I)C"⟩
abbrev cJ11_lowSurrogate_5068e : ByteArray := prog_9_method_29_code
def yJ11_lowSurrogate_5068e : MethodName := ⟨RJ11, "lowSurrogate", "(I)C"⟩
def RJxb160c : String := "java/lang/Comparable"
def TJxb160c : u_T := fun k => match k with
  | _ => ("", "", "", false)
def tyJxb160c : Nat → FieldType := fun k => match k with
  | _ => .int
abbrev wsJxb160c0 : List Cond := u_ws RJxb160c TJxb160c 0
theorem nmJxb160c : ∀ a, a < 0 → ∀ b, b < 0 → a ≠ b → (TJxb160c a).2.1 ≠ (TJxb160c b).2.1 := by decide +kernel
theorem tyJxb160c_ok : ∀ k, k < 0 → parseFieldDescriptor (TJxb160c k).2.2.1 = some (tyJxb160c k) := by decide +kernel
def RJ9 : String := "java/lang/Math"
def TJ9 : u_T := fun k => match k with
  | _ => ("", "", "", false)
def tyJ9 : Nat → FieldType := fun k => match k with
  | _ => .int
abbrev wsJ90 : List Cond := u_ws RJ9 TJ9 0
theorem nmJ9 : ∀ a, a < 0 → ∀ b, b < 0 → a ≠ b → (TJ9 a).2.1 ≠ (TJ9 b).2.1 := by decide +kernel
theorem tyJ9_ok : ∀ k, k < 0 → parseFieldDescriptor (TJ9 k).2.2.1 = some (tyJ9 k) := by decide +kernel
abbrev cJ9_abs_0f7a4 : ByteArray := prog_10_method_59_code
def yJ9_abs_0f7a4 : MethodName := ⟨RJ9, "abs", "(I)I"⟩
abbrev cJ9_max_7cf53 : ByteArray := prog_10_method_65_code
def yJ9_max_7cf53 : MethodName := ⟨RJ9, "max", "(II)I"⟩
abbrev cJ9_min_7cf53 : ByteArray := prog_10_method_69_code
def yJ9_min_7cf53 : MethodName := ⟨RJ9, "min", "(II)I"⟩
def RJ0 : String := "java/lang/String"
def TJ0 : u_T := fun k => match k with
  | _ => ("", "", "", false)
def tyJ0 : Nat → FieldType := fun k => match k with
  | _ => .int
abbrev wsJ00 : List Cond := u_ws RJ0 TJ0 0
theorem nmJ0 : ∀ a, a < 0 → ∀ b, b < 0 → a ≠ b → (TJ0 a).2.1 ≠ (TJ0 b).2.1 := by decide +kernel
theorem tyJ0_ok : ∀ k, k < 0 → parseFieldDescriptor (TJ0 k).2.2.1 = some (tyJ0 k) := by decide +kernel
abbrev cJ0_length_8abf5 : ByteArray := prog_11_method_54_code
def yJ0_length_8abf5 : MethodName := ⟨RJ0, "length", "()I"⟩
abbrev cJ0_charAt_5068e : ByteArray := prog_11_method_56_code
def yJ0_charAt_5068e : MethodName := ⟨RJ0, "charAt", "(I)C"⟩
abbrev cJ0_indexOf_0f7a4 : ByteArray := prog_11_method_79_code
def yJ0_indexOf_0f7a4 : MethodName := ⟨RJ0, "indexOf", "(I)I"⟩
abbrev cJ0_indexOf_7cf53 : ByteArray := prog_11_method_80_code
def yJ0_indexOf_7cf53 : MethodName := ⟨RJ0, "indexOf", "(II)I"⟩
abbrev cJ0_coder_7d493 : ByteArray := prog_11_method_152_code
def yJ0_coder_7d493 : MethodName := ⟨RJ0, "coder", "()B"⟩
abbrev cJ0_isLatin1_aae02 : ByteArray := prog_11_method_154_code
def yJ0_isLatin1_aae02 : MethodName := ⟨RJ0, "isLatin1", "()Z"⟩
abbrev cJ0_checkIndex_df160 : ByteArray := prog_11_method_155_code
def yJ0_checkIndex_df160 : MethodName := ⟨RJ0, "checkIndex", "(II)V"⟩
abbrev cJ0_checkBoundsBeginEnd_23922 : ByteArray := prog_11_method_158_code
def yJ0_checkBoundsBeginEnd_23922 : MethodName := ⟨RJ0, "checkBoundsBeginEnd", "(III)V"⟩
def RJ1 : String := "java/lang/StringLatin1"
def TJ1 : u_T := fun k => match k with
  | _ => ("", "", "", false)
def tyJ1 : Nat → FieldType := fun k => match k with
  | _ => .int
abbrev wsJ10 : List Cond := u_ws RJ1 TJ1 0
theorem nmJ1 : ∀ a, a < 0 → ∀ b, b < 0 → a ≠ b → (TJ1 a).2.1 ≠ (TJ1 b).2.1 := by decide +kernel
theorem tyJ1_ok : ∀ k, k < 0 → parseFieldDescriptor (TJ1 k).2.2.1 = some (tyJ1 k) := by decide +kernel
abbrev cJ1_charAt_3b067 : ByteArray := prog_12_method_2_code
def yJ1_charAt_3b067 : MethodName := ⟨RJ1, "charAt", "([BI)C"⟩
abbrev cJ1_canEncode_9a6ad : ByteArray := prog_12_method_4_code
def yJ1_canEncode_9a6ad : MethodName := ⟨RJ1, "canEncode", "(I)Z"⟩
abbrev cJ1_indexOf_4cfef : ByteArray := prog_12_method_22_code
def yJ1_indexOf_4cfef : MethodName := ⟨RJ1, "indexOf", "([BIII)I"⟩
abbrev cJ1_indexOfChar_4cfef : ByteArray := prog_12_method_23_code
def yJ1_indexOfChar_4cfef : MethodName := ⟨RJ1, "indexOfChar", "([BIII)I"⟩
def RJ2 : String := "java/lang/StringUTF16"
def TJ2 : u_T := fun k => match k with
  | _ => ("", "", "", false)
def tyJ2 : Nat → FieldType := fun k => match k with
  | _ => .int
abbrev wsJ20 : List Cond := u_ws RJ2 TJ2 0
theorem nmJ2 : ∀ a, a < 0 → ∀ b, b < 0 → a ≠ b → (TJ2 a).2.1 ≠ (TJ2 b).2.1 := by decide +kernel
theorem tyJ2_ok : ∀ k, k < 0 → parseFieldDescriptor (TJ2 k).2.2.1 = some (tyJ2 k) := by decide +kernel
abbrev cJ2_getChar_3b067 : ByteArray := prog_13_method_5_code
def yJ2_getChar_3b067 : MethodName := ⟨RJ2, "getChar", "([BI)C"⟩
abbrev cJ2_length_9d52b : ByteArray := prog_13_method_6_code
def yJ2_length_9d52b : MethodName := ⟨RJ2, "length", "([B)I"⟩
abbrev cJ2_indexOf_4cfef : ByteArray := prog_13_method_40_code
def yJ2_indexOf_4cfef : MethodName := ⟨RJ2, "indexOf", "([BIII)I"⟩
abbrev cJ2_indexOfChar_4cfef : ByteArray := prog_13_method_47_code
def yJ2_indexOfChar_4cfef : MethodName := ⟨RJ2, "indexOfChar", "([BIII)I"⟩
abbrev cJ2_indexOfCharUnsafe_4cfef : ByteArray := prog_13_method_48_code
def yJ2_indexOfCharUnsafe_4cfef : MethodName := ⟨RJ2, "indexOfCharUnsafe", "([BIII)I"⟩
abbrev cJ2_indexOfSupplementary_4cfef : ByteArray := prog_13_method_49_code
def yJ2_indexOfSupplementary_4cfef : MethodName := ⟨RJ2, "indexOfSupplementary", "([BIII)I"⟩
abbrev cJ2_charAt_3b067 : ByteArray := prog_13_method_83_code
def yJ2_charAt_3b067 : MethodName := ⟨RJ2, "charAt", "([BI)C"⟩
abbrev cJ2_checkIndex_2214a : ByteArray := prog_13_method_91_code
def yJ2_checkIndex_2214a : MethodName := ⟨RJ2, "checkIndex", "(I[B)V"⟩
abbrev cJ2_checkBoundsBeginEnd_d044e : ByteArray := prog_13_method_93_code
def yJ2_checkBoundsBeginEnd_d044e : MethodName := ⟨RJ2, "checkBoundsBeginEnd", "(II[B)V"⟩
def RJxfd54e : String := "java/lang/constant/Constable"
def TJxfd54e : u_T := fun k => match k with
  | _ => ("", "", "", false)
def tyJxfd54e : Nat → FieldType := fun k => match k with
  | _ => .int
abbrev wsJxfd54e0 : List Cond := u_ws RJxfd54e TJxfd54e 0
theorem nmJxfd54e : ∀ a, a < 0 → ∀ b, b < 0 → a ≠ b → (TJxfd54e a).2.1 ≠ (TJxfd54e b).2.1 := by decide +kernel
theorem tyJxfd54e_ok : ∀ k, k < 0 → parseFieldDescriptor (TJxfd54e k).2.2.1 = some (tyJxfd54e k) := by decide +kernel
def RJx3cf43 : String := "java/lang/constant/ConstantDesc"
def TJx3cf43 : u_T := fun k => match k with
  | _ => ("", "", "", false)
def tyJx3cf43 : Nat → FieldType := fun k => match k with
  | _ => .int
abbrev wsJx3cf430 : List Cond := u_ws RJx3cf43 TJx3cf43 0
theorem nmJx3cf43 : ∀ a, a < 0 → ∀ b, b < 0 → a ≠ b → (TJx3cf43 a).2.1 ≠ (TJx3cf43 b).2.1 := by decide +kernel
theorem tyJx3cf43_ok : ∀ k, k < 0 → parseFieldDescriptor (TJx3cf43 k).2.2.1 = some (tyJx3cf43 k) := by decide +kernel
def RJ7 : String := "java/util/Arrays"
def TJ7 : u_T := fun k => match k with
  | _ => ("", "", "", false)
def tyJ7 : Nat → FieldType := fun k => match k with
  | _ => .int
abbrev wsJ70 : List Cond := u_ws RJ7 TJ7 0
theorem nmJ7 : ∀ a, a < 0 → ∀ b, b < 0 → a ≠ b → (TJ7 a).2.1 ≠ (TJ7 b).2.1 := by decide +kernel
theorem tyJ7_ok : ∀ k, k < 0 → parseFieldDescriptor (TJ7 k).2.2.1 = some (tyJ7 k) := by decide +kernel
abbrev cJ7_fill_53178 : ByteArray := prog_14_method_103_code
def yJ7_fill_53178 : MethodName := ⟨RJ7, "fill", "([II)V"⟩
def RJ3 : String := "jdk/internal/util/Preconditions"
def TJ3 : u_T := fun k => match k with
  | _ => ("", "", "", false)
def tyJ3 : Nat → FieldType := fun k => match k with
  | _ => .int
abbrev wsJ30 : List Cond := u_ws RJ3 TJ3 0
theorem nmJ3 : ∀ a, a < 0 → ∀ b, b < 0 → a ≠ b → (TJ3 a).2.1 ≠ (TJ3 b).2.1 := by decide +kernel
theorem tyJ3_ok : ∀ k, k < 0 → parseFieldDescriptor (TJ3 k).2.2.1 = some (tyJ3 k) := by decide +kernel
abbrev cJ3_checkIndex_8e157 : ByteArray := prog_15_method_11_code
def yJ3_checkIndex_8e157 : MethodName := ⟨RJ3, "checkIndex", "(IILjava/util/function/BiFunction;)I"⟩
abbrev cJ3_checkFromToIndex_8c36e : ByteArray := prog_15_method_12_code
def yJ3_checkFromToIndex_8c36e : MethodName := ⟨RJ3, "checkFromToIndex", "(IIILjava/util/function/BiFunction;)I"⟩
def RL : String := "EvenHoldLaw"
abbrev cL_law : ByteArray := code
def yL_law : MethodName := ⟨RL, "law", "([I)Z"⟩
abbrev vwCl : List vw_C := [(RX0, TX0, 2), (RX1, TX1, 3), (RX2, TX2, 5), (RX3, TX3, 6), (RX4, TX4, 11), (RX5, TX5, 12), (RX6, TX6, 32)]
