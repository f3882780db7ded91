section
-- ===== PART A: goes FIRST, ahead of the names: the tables' words, and 'selects' of the private methods out of them =====
/-- a private method of a class that the tables say can be made, by its rows of tables_1 -/
def lw_okq (q : MethodName × Nat) : Prop := (q.1.cls ≠ "java/lang/invoke/MethodHandle" ∧ q.1.cls ≠ "java/lang/invoke/VarHandle") ∧ Cond.instantiable q.1.cls q.2 ∈ tables_1 ∧ Cond.privateMethod q.1 ∈ tables_1 ∧ Cond.instanceMethod q.1 ∈ tables_1
theorem lw_p0 : lw_okq (⟨"EvenHold", "readPage", "()I"⟩, 12) := ⟨⟨by decide +kernel, by decide +kernel⟩, List.mem_of_getElem? (i := 16) (by decide +kernel), List.mem_of_getElem? (i := 334) (by decide +kernel), List.mem_of_getElem? (i := 335) (by decide +kernel)⟩
theorem lw_p1 : lw_okq (⟨"EvenHold", "digitAt", "(I)I"⟩, 12) := ⟨⟨by decide +kernel, by decide +kernel⟩, List.mem_of_getElem? (i := 16) (by decide +kernel), List.mem_of_getElem? (i := 350) (by decide +kernel), List.mem_of_getElem? (i := 351) (by decide +kernel)⟩
theorem lw_p2 : lw_okq (⟨"EvenHold", "isBay", "(I)Z"⟩, 12) := ⟨⟨by decide +kernel, by decide +kernel⟩, List.mem_of_getElem? (i := 16) (by decide +kernel), List.mem_of_getElem? (i := 364) (by decide +kernel), List.mem_of_getElem? (i := 365) (by decide +kernel)⟩
theorem lw_p3 : lw_okq (⟨"EvenHold", "bendNow", "()I"⟩, 12) := ⟨⟨by decide +kernel, by decide +kernel⟩, List.mem_of_getElem? (i := 16) (by decide +kernel), List.mem_of_getElem? (i := 389) (by decide +kernel), List.mem_of_getElem? (i := 390) (by decide +kernel)⟩
theorem lw_p4 : lw_okq (⟨"EvenHold", "lookAhead", "()V"⟩, 12) := ⟨⟨by decide +kernel, by decide +kernel⟩, List.mem_of_getElem? (i := 16) (by decide +kernel), List.mem_of_getElem? (i := 442) (by decide +kernel), List.mem_of_getElem? (i := 443) (by decide +kernel)⟩
theorem lw_p5 : lw_okq (⟨"EvenHold", "lookBack", "()V"⟩, 12) := ⟨⟨by decide +kernel, by decide +kernel⟩, List.mem_of_getElem? (i := 16) (by decide +kernel), List.mem_of_getElem? (i := 510) (by decide +kernel), List.mem_of_getElem? (i := 511) (by decide +kernel)⟩
theorem lw_p6 : lw_okq (⟨"EvenHold", "withLighter", "(J)J"⟩, 12) := ⟨⟨by decide +kernel, by decide +kernel⟩, List.mem_of_getElem? (i := 16) (by decide +kernel), List.mem_of_getElem? (i := 556) (by decide +kernel), List.mem_of_getElem? (i := 557) (by decide +kernel)⟩
theorem lw_p7 : lw_okq (⟨"EvenHold", "withActs", "(J)J"⟩, 12) := ⟨⟨by decide +kernel, by decide +kernel⟩, List.mem_of_getElem? (i := 16) (by decide +kernel), List.mem_of_getElem? (i := 563) (by decide +kernel), List.mem_of_getElem? (i := 564) (by decide +kernel)⟩
theorem lw_p8 : lw_okq (⟨"EvenHold", "withOutlook", "(J)J"⟩, 12) := ⟨⟨by decide +kernel, by decide +kernel⟩, List.mem_of_getElem? (i := 16) (by decide +kernel), List.mem_of_getElem? (i := 569) (by decide +kernel), List.mem_of_getElem? (i := 570) (by decide +kernel)⟩
theorem lw_p9 : lw_okq (⟨"EvenHoldModel", "faultOf", "()I"⟩, 32) := ⟨⟨by decide +kernel, by decide +kernel⟩, List.mem_of_getElem? (i := 574) (by decide +kernel), List.mem_of_getElem? (i := 694) (by decide +kernel), List.mem_of_getElem? (i := 695) (by decide +kernel)⟩
theorem lw_p10 : lw_okq (⟨"EvenHoldModel", "takingOf", "(I)I"⟩, 32) := ⟨⟨by decide +kernel, by decide +kernel⟩, List.mem_of_getElem? (i := 574) (by decide +kernel), List.mem_of_getElem? (i := 721) (by decide +kernel), List.mem_of_getElem? (i := 722) (by decide +kernel)⟩
theorem lw_p11 : lw_okq (⟨"EvenHoldModel", "carryingOf", "(I)I"⟩, 32) := ⟨⟨by decide +kernel, by decide +kernel⟩, List.mem_of_getElem? (i := 574) (by decide +kernel), List.mem_of_getElem? (i := 725) (by decide +kernel), List.mem_of_getElem? (i := 726) (by decide +kernel)⟩
theorem lw_p12 : lw_okq (⟨"EvenHoldModel", "hullOf", "(I)I"⟩, 32) := ⟨⟨by decide +kernel, by decide +kernel⟩, List.mem_of_getElem? (i := 574) (by decide +kernel), List.mem_of_getElem? (i := 742) (by decide +kernel), List.mem_of_getElem? (i := 743) (by decide +kernel)⟩
theorem lw_p13 : lw_okq (⟨"EvenHoldModel", "bendNow", "()I"⟩, 32) := ⟨⟨by decide +kernel, by decide +kernel⟩, List.mem_of_getElem? (i := 574) (by decide +kernel), List.mem_of_getElem? (i := 755) (by decide +kernel), List.mem_of_getElem? (i := 756) (by decide +kernel)⟩
theorem lw_p14 : lw_okq (⟨"EvenHoldModel", "bears", "(II)Z"⟩, 32) := ⟨⟨by decide +kernel, by decide +kernel⟩, List.mem_of_getElem? (i := 574) (by decide +kernel), List.mem_of_getElem? (i := 759) (by decide +kernel), List.mem_of_getElem? (i := 760) (by decide +kernel)⟩
theorem lw_p15 : lw_okq (⟨"EvenHoldModel", "goes", "(III)I"⟩, 32) := ⟨⟨by decide +kernel, by decide +kernel⟩, List.mem_of_getElem? (i := 574) (by decide +kernel), List.mem_of_getElem? (i := 771) (by decide +kernel), List.mem_of_getElem? (i := 772) (by decide +kernel)⟩
def lw_privs_1 : List (MethodName × Nat) := [(⟨"EvenHold", "readPage", "()I"⟩, 12), (⟨"EvenHold", "digitAt", "(I)I"⟩, 12), (⟨"EvenHold", "isBay", "(I)Z"⟩, 12), (⟨"EvenHold", "bendNow", "()I"⟩, 12), (⟨"EvenHold", "lookAhead", "()V"⟩, 12), (⟨"EvenHold", "lookBack", "()V"⟩, 12), (⟨"EvenHold", "withLighter", "(J)J"⟩, 12), (⟨"EvenHold", "withActs", "(J)J"⟩, 12), (⟨"EvenHold", "withOutlook", "(J)J"⟩, 12), (⟨"EvenHoldModel", "faultOf", "()I"⟩, 32), (⟨"EvenHoldModel", "takingOf", "(I)I"⟩, 32), (⟨"EvenHoldModel", "carryingOf", "(I)I"⟩, 32), (⟨"EvenHoldModel", "hullOf", "(I)I"⟩, 32), (⟨"EvenHoldModel", "bendNow", "()I"⟩, 32), (⟨"EvenHoldModel", "bears", "(II)Z"⟩, 32), (⟨"EvenHoldModel", "goes", "(III)I"⟩, 32)]
theorem lw_r1 : ∀ q ∈ lw_privs_1, lw_okq q := List.forall_mem_cons.mpr ⟨lw_p0, List.forall_mem_cons.mpr ⟨lw_p1, List.forall_mem_cons.mpr ⟨lw_p2, List.forall_mem_cons.mpr ⟨lw_p3, List.forall_mem_cons.mpr ⟨lw_p4, List.forall_mem_cons.mpr ⟨lw_p5, List.forall_mem_cons.mpr ⟨lw_p6, List.forall_mem_cons.mpr ⟨lw_p7, List.forall_mem_cons.mpr ⟨lw_p8, List.forall_mem_cons.mpr ⟨lw_p9, List.forall_mem_cons.mpr ⟨lw_p10, List.forall_mem_cons.mpr ⟨lw_p11, List.forall_mem_cons.mpr ⟨lw_p12, List.forall_mem_cons.mpr ⟨lw_p13, List.forall_mem_cons.mpr ⟨lw_p14, List.forall_mem_cons.mpr ⟨lw_p15, fun _ h => absurd h List.not_mem_nil⟩⟩⟩⟩⟩⟩⟩⟩⟩⟩⟩⟩⟩⟩⟩⟩
theorem lw_p16 : lw_okq (⟨"EvenHoldModel", "behind", "(II)I"⟩, 32) := ⟨⟨by decide +kernel, by decide +kernel⟩, List.mem_of_getElem? (i := 574) (by decide +kernel), List.mem_of_getElem? (i := 775) (by decide +kernel), List.mem_of_getElem? (i := 776) (by decide +kernel)⟩
theorem lw_p17 : lw_okq (⟨"EvenHoldModel", "lasts", "(I)I"⟩, 32) := ⟨⟨by decide +kernel, by decide +kernel⟩, List.mem_of_getElem? (i := 574) (by decide +kernel), List.mem_of_getElem? (i := 783) (by decide +kernel), List.mem_of_getElem? (i := 784) (by decide +kernel)⟩
theorem lw_p18 : lw_okq (⟨"EvenHoldModel", "layFar", "(I)V"⟩, 32) := ⟨⟨by decide +kernel, by decide +kernel⟩, List.mem_of_getElem? (i := 574) (by decide +kernel), List.mem_of_getElem? (i := 791) (by decide +kernel), List.mem_of_getElem? (i := 792) (by decide +kernel)⟩
theorem lw_p19 : lw_okq (⟨"EvenHoldModel", "isBetter", "(III)Z"⟩, 32) := ⟨⟨by decide +kernel, by decide +kernel⟩, List.mem_of_getElem? (i := 574) (by decide +kernel), List.mem_of_getElem? (i := 795) (by decide +kernel), List.mem_of_getElem? (i := 796) (by decide +kernel)⟩
theorem lw_p20 : lw_okq (⟨"EvenHoldModel", "mostOf", "()I"⟩, 32) := ⟨⟨by decide +kernel, by decide +kernel⟩, List.mem_of_getElem? (i := 574) (by decide +kernel), List.mem_of_getElem? (i := 803) (by decide +kernel), List.mem_of_getElem? (i := 804) (by decide +kernel)⟩
theorem lw_p21 : lw_okq (⟨"EvenHoldModel", "manyOf", "()I"⟩, 32) := ⟨⟨by decide +kernel, by decide +kernel⟩, List.mem_of_getElem? (i := 574) (by decide +kernel), List.mem_of_getElem? (i := 811) (by decide +kernel), List.mem_of_getElem? (i := 812) (by decide +kernel)⟩
theorem lw_p22 : lw_okq (⟨"EvenHoldModel", "layFits", "()V"⟩, 32) := ⟨⟨by decide +kernel, by decide +kernel⟩, List.mem_of_getElem? (i := 574) (by decide +kernel), List.mem_of_getElem? (i := 832) (by decide +kernel), List.mem_of_getElem? (i := 833) (by decide +kernel)⟩
theorem lw_p23 : lw_okq (⟨"EvenHoldModel", "rowsFrom", "(II)I"⟩, 32) := ⟨⟨by decide +kernel, by decide +kernel⟩, List.mem_of_getElem? (i := 574) (by decide +kernel), List.mem_of_getElem? (i := 836) (by decide +kernel), List.mem_of_getElem? (i := 837) (by decide +kernel)⟩
theorem lw_p24 : lw_okq (⟨"EvenHoldModel", "stepAll", "(I)V"⟩, 32) := ⟨⟨by decide +kernel, by decide +kernel⟩, List.mem_of_getElem? (i := 574) (by decide +kernel), List.mem_of_getElem? (i := 840) (by decide +kernel), List.mem_of_getElem? (i := 841) (by decide +kernel)⟩
theorem lw_p25 : lw_okq (⟨"EvenHoldModel", "draw", "(I)I"⟩, 32) := ⟨⟨by decide +kernel, by decide +kernel⟩, List.mem_of_getElem? (i := 574) (by decide +kernel), List.mem_of_getElem? (i := 849) (by decide +kernel), List.mem_of_getElem? (i := 850) (by decide +kernel)⟩
theorem lw_p26 : lw_okq (⟨"EvenHoldModel", "countOf", "(I)I"⟩, 32) := ⟨⟨by decide +kernel, by decide +kernel⟩, List.mem_of_getElem? (i := 574) (by decide +kernel), List.mem_of_getElem? (i := 872) (by decide +kernel), List.mem_of_getElem? (i := 873) (by decide +kernel)⟩
theorem lw_p27 : lw_okq (⟨"EvenHoldModel", "sayHold", "()V"⟩, 32) := ⟨⟨by decide +kernel, by decide +kernel⟩, List.mem_of_getElem? (i := 574) (by decide +kernel), List.mem_of_getElem? (i := 881) (by decide +kernel), List.mem_of_getElem? (i := 882) (by decide +kernel)⟩
theorem lw_p28 : lw_okq (⟨"EvenHoldModel", "say", "(J)V"⟩, 32) := ⟨⟨by decide +kernel, by decide +kernel⟩, List.mem_of_getElem? (i := 574) (by decide +kernel), List.mem_of_getElem? (i := 886) (by decide +kernel), List.mem_of_getElem? (i := 887) (by decide +kernel)⟩
def lw_privs_2 : List (MethodName × Nat) := [(⟨"EvenHoldModel", "behind", "(II)I"⟩, 32), (⟨"EvenHoldModel", "lasts", "(I)I"⟩, 32), (⟨"EvenHoldModel", "layFar", "(I)V"⟩, 32), (⟨"EvenHoldModel", "isBetter", "(III)Z"⟩, 32), (⟨"EvenHoldModel", "mostOf", "()I"⟩, 32), (⟨"EvenHoldModel", "manyOf", "()I"⟩, 32), (⟨"EvenHoldModel", "layFits", "()V"⟩, 32), (⟨"EvenHoldModel", "rowsFrom", "(II)I"⟩, 32), (⟨"EvenHoldModel", "stepAll", "(I)V"⟩, 32), (⟨"EvenHoldModel", "draw", "(I)I"⟩, 32), (⟨"EvenHoldModel", "countOf", "(I)I"⟩, 32), (⟨"EvenHoldModel", "sayHold", "()V"⟩, 32), (⟨"EvenHoldModel", "say", "(J)V"⟩, 32)]
theorem lw_r2 : ∀ q ∈ lw_privs_2, lw_okq q := List.forall_mem_cons.mpr ⟨lw_p16, List.forall_mem_cons.mpr ⟨lw_p17, List.forall_mem_cons.mpr ⟨lw_p18, List.forall_mem_cons.mpr ⟨lw_p19, List.forall_mem_cons.mpr ⟨lw_p20, List.forall_mem_cons.mpr ⟨lw_p21, List.forall_mem_cons.mpr ⟨lw_p22, List.forall_mem_cons.mpr ⟨lw_p23, List.forall_mem_cons.mpr ⟨lw_p24, List.forall_mem_cons.mpr ⟨lw_p25, List.forall_mem_cons.mpr ⟨lw_p26, List.forall_mem_cons.mpr ⟨lw_p27, List.forall_mem_cons.mpr ⟨lw_p28, fun _ h => absurd h List.not_mem_nil⟩⟩⟩⟩⟩⟩⟩⟩⟩⟩⟩⟩⟩
def lw_privs : List (MethodName × Nat) := lw_privs_1 ++ (lw_privs_2)
def lw_tbl : List Cond := k2_sels lw_privs ++ tables_1
theorem lw_privs_ok : ∀ q ∈ lw_privs, lw_okq q := by
  show ∀ q ∈ lw_privs_1 ++ (lw_privs_2), lw_okq q
  exact List.forall_mem_append.mpr ⟨lw_r1, lw_r2⟩
end
section
/-! names: classes, fields, codes, methods (out of the printed NAMES; word lists and their rows left out) -/
def RX0 : String := "EvenHold$Easing"
def TX0 : u_T := fun k => match k with
  | 0 => ("EvenHold$Easing", "next", "[I", true)
  | _ => ("EvenHold$Easing", "head", "[I", true)
def tyX0 : Nat → FieldType := fun k => match k with
  | 0 => .array .int
  | _ => .array .int
abbrev wsX00 : List Cond := u_ws RX0 TX0 2
theorem nmX0 : ∀ a, a < 2 → ∀ b, b < 2 → a ≠ b → (TX0 a).2.1 ≠ (TX0 b).2.1 := by decide +kernel
theorem tyX0_ok : ∀ k, k < 2 → parseFieldDescriptor (TX0 k).2.2.1 = some (tyX0 k) := by decide +kernel
abbrev cX0_init : ByteArray := prog_2_method_1_code
def yX0_init : MethodName := ⟨RX0, "<init>", "()V"⟩
abbrev cX0_leastFrom : ByteArray := prog_2_method_2_code
def yX0_leastFrom : MethodName := ⟨RX0, "leastFrom", "(LEvenHold$Lighter;I)I"⟩
abbrev cX0_leaveHead : ByteArray := prog_2_method_3_code
def yX0_leaveHead : MethodName := ⟨RX0, "leaveHead", "(LEvenHold$Lighter;I)V"⟩
abbrev cX0_put : ByteArray := prog_2_method_4_code
def yX0_put : MethodName := ⟨RX0, "put", "(II)V"⟩
def RX1 : String := "EvenHold$Fit"
def TX1 : u_T := fun k => match k with
  | 0 => ("EvenHold$Fit", "rows", "I", false)
  | 1 => ("EvenHold$Fit", "firsts", "I", false)
  | _ => ("EvenHold$Fit", "leastFirst", "I", false)
def tyX1 : Nat → FieldType := fun k => match k with
  | 0 => .int
  | 1 => .int
  | _ => .int
abbrev wsX10 : List Cond := u_ws RX1 TX1 3
theorem nmX1 : ∀ a, a < 3 → ∀ b, b < 3 → a ≠ b → (TX1 a).2.1 ≠ (TX1 b).2.1 := by decide +kernel
theorem tyX1_ok : ∀ k, k < 3 → parseFieldDescriptor (TX1 k).2.2.1 = some (tyX1 k) := by decide +kernel
abbrev cX1_init : ByteArray := prog_3_method_1_code
def yX1_init : MethodName := ⟨RX1, "<init>", "()V"⟩
abbrev cX1_tellOf : ByteArray := prog_3_method_2_code
def yX1_tellOf : MethodName := ⟨RX1, "tellOf", "(LEvenHold$Lighter;LEvenHold$Now;I)V"⟩
abbrev cX1_rowsBehind : ByteArray := prog_3_method_3_code
def yX1_rowsBehind : MethodName := ⟨RX1, "rowsBehind", "(LEvenHold$Lighter;LEvenHold$Now;III)I"⟩
def RX2 : String := "EvenHold$Lighter"
def TX2 : u_T := fun k => match k with
  | 0 => ("EvenHold$Lighter", "kind", "[I", true)
  | 1 => ("EvenHold$Lighter", "taking", "[I", true)
  | 2 => ("EvenHold$Lighter", "carrying", "[I", true)
  | 3 => ("EvenHold$Lighter", "bend", "I", false)
  | _ => ("EvenHold$Lighter", "list", "I", false)
def tyX2 : Nat → FieldType := fun k => match k with
  | 0 => .array .int
  | 1 => .array .int
  | 2 => .array .int
  | 3 => .int
  | _ => .int
abbrev wsX20 : List Cond := u_ws RX2 TX2 5
theorem nmX2 : ∀ a, a < 5 → ∀ b, b < 5 → a ≠ b → (TX2 a).2.1 ≠ (TX2 b).2.1 := by decide +kernel
theorem tyX2_ok : ∀ k, k < 5 → parseFieldDescriptor (TX2 k).2.2.1 = some (tyX2 k) := by decide +kernel
abbrev cX2_init : ByteArray := prog_4_method_1_code
def yX2_init : MethodName := ⟨RX2, "<init>", "()V"⟩
abbrev cX2_setKind : ByteArray := prog_4_method_2_code
def yX2_setKind : MethodName := ⟨RX2, "setKind", "(II)V"⟩
abbrev cX2_bears : ByteArray := prog_4_method_3_code
def yX2_bears : MethodName := ⟨RX2, "bears", "(II)Z"⟩
abbrev cX2_minutesOf : ByteArray := prog_4_method_4_code
def yX2_minutesOf : MethodName := ⟨RX2, "minutesOf", "(I)I"⟩
abbrev cX2_behind : ByteArray := prog_4_method_5_code
def yX2_behind : MethodName := ⟨RX2, "behind", "(III)I"⟩
abbrev cX2_moved : ByteArray := prog_4_method_6_code
def yX2_moved : MethodName := ⟨RX2, "moved", "(II)I"⟩
abbrev cX2_slid : ByteArray := prog_4_method_7_code
def yX2_slid : MethodName := ⟨RX2, "slid", "(I)I"⟩
def RX3 : String := "EvenHold$Now"
def TX3 : u_T := fun k => match k with
  | 0 => ("EvenHold$Now", "lying", "I", false)
  | 1 => ("EvenHold$Now", "aground", "Z", false)
  | 2 => ("EvenHold$Now", "minutes", "I", false)
  | 3 => ("EvenHold$Now", "out", "I", false)
  | 4 => ("EvenHold$Now", "bents", "[I", true)
  | _ => ("EvenHold$Now", "told", "I", false)
def tyX3 : Nat → FieldType := fun k => match k with
  | 0 => .int
  | 1 => .boolean
  | 2 => .int
  | 3 => .int
  | 4 => .array .int
  | _ => .int
abbrev wsX30 : List Cond := u_ws RX3 TX3 6
theorem nmX3 : ∀ a, a < 6 → ∀ b, b < 6 → a ≠ b → (TX3 a).2.1 ≠ (TX3 b).2.1 := by decide +kernel
theorem tyX3_ok : ∀ k, k < 6 → parseFieldDescriptor (TX3 k).2.2.1 = some (tyX3 k) := by decide +kernel
abbrev cX3_init : ByteArray := prog_5_method_1_code
def yX3_init : MethodName := ⟨RX3, "<init>", "()V"⟩
abbrev cX3_clear : ByteArray := prog_5_method_2_code
def yX3_clear : MethodName := ⟨RX3, "clear", "()V"⟩
abbrev cX3_copyOf : ByteArray := prog_5_method_3_code
def yX3_copyOf : MethodName := ⟨RX3, "copyOf", "(LEvenHold$Now;)V"⟩
def RX4 : String := "EvenHold$Outlook"
def TX4 : u_T := fun k => match k with
  | 0 => ("EvenHold$Outlook", "minutes", "[I", true)
  | 1 => ("EvenHold$Outlook", "first", "[I", true)
  | 2 => ("EvenHold$Outlook", "waiting", "[I", true)
  | 3 => ("EvenHold$Outlook", "waitingIn", "[I", true)
  | 4 => ("EvenHold$Outlook", "waitingInAll", "I", false)
  | 5 => ("EvenHold$Outlook", "comeTo", "I", false)
  | 6 => ("EvenHold$Outlook", "mostOut", "I", false)
  | 7 => ("EvenHold$Outlook", "knownRead", "I", false)
  | 8 => ("EvenHold$Outlook", "knownLying", "I", false)
  | 9 => ("EvenHold$Outlook", "knownTons", "I", false)
  | _ => ("EvenHold$Outlook", "knownBend", "I", false)
def tyX4 : Nat → FieldType := fun k => match k with
  | 0 => .array .int
  | 1 => .array .int
  | 2 => .array .int
  | 3 => .array .int
  | 4 => .int
  | 5 => .int
  | 6 => .int
  | 7 => .int
  | 8 => .int
  | 9 => .int
  | _ => .int
abbrev wsX40 : List Cond := u_ws RX4 TX4 11
theorem nmX4 : ∀ a, a < 11 → ∀ b, b < 11 → a ≠ b → (TX4 a).2.1 ≠ (TX4 b).2.1 := by decide +kernel
theorem tyX4_ok : ∀ k, k < 11 → parseFieldDescriptor (TX4 k).2.2.1 = some (tyX4 k) := by decide +kernel
abbrev cX4_init : ByteArray := prog_6_method_1_code
def yX4_init : MethodName := ⟨RX4, "<init>", "()V"⟩
abbrev cX4_lookFrom : ByteArray := prog_6_method_2_code
def yX4_lookFrom : MethodName := ⟨RX4, "lookFrom", "(LEvenHold$Lighter;III)V"⟩
abbrev cX4_leave : ByteArray := prog_6_method_3_code
def yX4_leave : MethodName := ⟨RX4, "leave", "(LEvenHold$Lighter;III)V"⟩
abbrev cX4_reach : ByteArray := prog_6_method_4_code
def yX4_reach : MethodName := ⟨RX4, "reach", "(III)V"⟩
def RX5 : String := "EvenHold"
def TX5 : u_T := fun k => match k with
  | 0 => ("EvenHold", "page", "[I", true)
  | 1 => ("EvenHold", "letters", "I", false)
  | 2 => ("EvenHold", "lighter", "LEvenHold$Lighter;", true)
  | 3 => ("EvenHold", "held", "Z", false)
  | 4 => ("EvenHold", "now", "LEvenHold$Now;", true)
  | 5 => ("EvenHold", "kept", "LEvenHold$Now;", true)
  | 6 => ("EvenHold", "isKept", "Z", false)
  | 7 => ("EvenHold", "reads", "I", false)
  | 8 => ("EvenHold", "easings", "I", false)
  | 9 => ("EvenHold", "outlook", "LEvenHold$Outlook;", true)
  | 10 => ("EvenHold", "easing", "LEvenHold$Easing;", true)
  | _ => ("EvenHold", "fit", "LEvenHold$Fit;", true)
def tyX5 : Nat → FieldType := fun k => match k with
  | 0 => .array .int
  | 1 => .int
  | 2 => .object "EvenHold$Lighter"
  | 3 => .boolean
  | 4 => .object "EvenHold$Now"
  | 5 => .object "EvenHold$Now"
  | 6 => .boolean
  | 7 => .int
  | 8 => .int
  | 9 => .object "EvenHold$Outlook"
  | 10 => .object "EvenHold$Easing"
  | _ => .object "EvenHold$Fit"
abbrev wsX50 : List Cond := u_ws RX5 TX5 12
theorem nmX5 : ∀ a, a < 12 → ∀ b, b < 12 → a ≠ b → (TX5 a).2.1 ≠ (TX5 b).2.1 := by decide +kernel
theorem tyX5_ok : ∀ k, k < 12 → parseFieldDescriptor (TX5 k).2.2.1 = some (tyX5 k) := by decide +kernel
abbrev cX5_init : ByteArray := prog_1_method_1_code
def yX5_init : MethodName := ⟨RX5, "<init>", "()V"⟩
abbrev cX5_letter : ByteArray := prog_1_method_2_code
def yX5_letter : MethodName := ⟨RX5, "letter", "(I)I"⟩
abbrev cX5_blank : ByteArray := prog_1_method_3_code
def yX5_blank : MethodName := ⟨RX5, "blank", "()I"⟩
abbrev cX5_fault : ByteArray := prog_1_method_4_code
def yX5_fault : MethodName := ⟨RX5, "fault", "()I"⟩
abbrev cX5_hold : ByteArray := prog_1_method_5_code
def yX5_hold : MethodName := ⟨RX5, "hold", "()I"⟩
abbrev cX5_bay : ByteArray := prog_1_method_6_code
def yX5_bay : MethodName := ⟨RX5, "bay", "(II)I"⟩
abbrev cX5_as : ByteArray := prog_1_method_7_code
def yX5_as : MethodName := ⟨RX5, "as", "(II)I"⟩
abbrev cX5_ground : ByteArray := prog_1_method_8_code
def yX5_ground : MethodName := ⟨RX5, "ground", "(Z)I"⟩
abbrev cX5_hull : ByteArray := prog_1_method_9_code
def yX5_hull : MethodName := ⟨RX5, "hull", "(I)I"⟩
abbrev cX5_may : ByteArray := prog_1_method_10_code
def yX5_may : MethodName := ⟨RX5, "may", "(I)I"⟩
abbrev cX5_act : ByteArray := prog_1_method_11_code
def yX5_act : MethodName := ⟨RX5, "act", "(I)I"⟩
abbrev cX5_soonest : ByteArray := prog_1_method_12_code
def yX5_soonest : MethodName := ⟨RX5, "soonest", "(I)I"⟩
abbrev cX5_most : ByteArray := prog_1_method_13_code
def yX5_most : MethodName := ⟨RX5, "most", "()I"⟩
abbrev cX5_holds : ByteArray := prog_1_method_14_code
def yX5_holds : MethodName := ⟨RX5, "holds", "()I"⟩
abbrev cX5_leastBend : ByteArray := prog_1_method_15_code
def yX5_leastBend : MethodName := ⟨RX5, "leastBend", "()I"⟩
abbrev cX5_string : ByteArray := prog_1_method_16_code
def yX5_string : MethodName := ⟨RX5, "string", "(I)I"⟩
abbrev cX5_forget : ByteArray := prog_1_method_17_code
def yX5_forget : MethodName := ⟨RX5, "forget", "()I"⟩
abbrev cX5_fits : ByteArray := prog_1_method_18_code
def yX5_fits : MethodName := ⟨RX5, "fits", "(I)I"⟩
abbrev cX5_days : ByteArray := prog_1_method_19_code
def yX5_days : MethodName := ⟨RX5, "days", "(III)I"⟩
abbrev cX5_image : ByteArray := prog_1_method_20_code
def yX5_image : MethodName := ⟨RX5, "image", "()I"⟩
abbrev cX5_restore : ByteArray := prog_1_method_21_code
def yX5_restore : MethodName := ⟨RX5, "restore", "()I"⟩
abbrev cX5_count : ByteArray := prog_1_method_22_code
def yX5_count : MethodName := ⟨RX5, "count", "(I)I"⟩
abbrev cX5_digest : ByteArray := prog_1_method_23_code
def yX5_digest : MethodName := ⟨RX5, "digest", "()J"⟩
abbrev cX5_withLighter : ByteArray := prog_1_method_24_code
def yX5_withLighter : MethodName := ⟨RX5, "withLighter", "(J)J"⟩
abbrev cX5_withActs : ByteArray := prog_1_method_25_code
def yX5_withActs : MethodName := ⟨RX5, "withActs", "(J)J"⟩
abbrev cX5_withOutlook : ByteArray := prog_1_method_26_code
def yX5_withOutlook : MethodName := ⟨RX5, "withOutlook", "(J)J"⟩
abbrev cX5_isOfForm : ByteArray := prog_1_method_27_code
def yX5_isOfForm : MethodName := ⟨RX5, "isOfForm", "(II)Z"⟩
abbrev cX5_readPage : ByteArray := prog_1_method_28_code
def yX5_readPage : MethodName := ⟨RX5, "readPage", "()I"⟩
abbrev cX5_digitAt : ByteArray := prog_1_method_29_code
def yX5_digitAt : MethodName := ⟨RX5, "digitAt", "(I)I"⟩
abbrev cX5_isBay : ByteArray := prog_1_method_30_code
def yX5_isBay : MethodName := ⟨RX5, "isBay", "(I)Z"⟩
abbrev cX5_bendNow : ByteArray := prog_1_method_31_code
def yX5_bendNow : MethodName := ⟨RX5, "bendNow", "()I"⟩
abbrev cX5_lookAhead : ByteArray := prog_1_method_32_code
def yX5_lookAhead : MethodName := ⟨RX5, "lookAhead", "()V"⟩
abbrev cX5_lookBack : ByteArray := prog_1_method_33_code
def yX5_lookBack : MethodName := ⟨RX5, "lookBack", "()V"⟩
abbrev cX5_at : ByteArray := prog_1_method_34_code
def yX5_at : MethodName := ⟨RX5, "at", "([II)I"⟩
abbrev cX5_asNumber : ByteArray := prog_1_method_35_code
def yX5_asNumber : MethodName := ⟨RX5, "asNumber", "(Z)I"⟩
abbrev cX5_nextSeed : ByteArray := prog_1_method_36_code
def yX5_nextSeed : MethodName := ⟨RX5, "nextSeed", "(I)I"⟩
abbrev cX5_cellFrom : ByteArray := prog_1_method_37_code
def yX5_cellFrom : MethodName := ⟨RX5, "cellFrom", "(I)I"⟩
abbrev cX5_cellInto : ByteArray := prog_1_method_38_code
def yX5_cellInto : MethodName := ⟨RX5, "cellInto", "(I)I"⟩
abbrev cX5_isAct : ByteArray := prog_1_method_39_code
def yX5_isAct : MethodName := ⟨RX5, "isAct", "(I)Z"⟩
abbrev cX5_tonsAt : ByteArray := prog_1_method_40_code
def yX5_tonsAt : MethodName := ⟨RX5, "tonsAt", "(II)I"⟩
abbrev cX5_tonsOf : ByteArray := prog_1_method_41_code
def yX5_tonsOf : MethodName := ⟨RX5, "tonsOf", "(I)I"⟩
abbrev cX5_bentBy : ByteArray := prog_1_method_42_code
def yX5_bentBy : MethodName := ⟨RX5, "bentBy", "(I)I"⟩
abbrev cX5_listingBy : ByteArray := prog_1_method_43_code
def yX5_listingBy : MethodName := ⟨RX5, "listingBy", "(I)I"⟩
def RX6 : String := "EvenHoldModel"
def TX6 : u_T := fun k => match k with
  | 0 => ("EvenHoldModel", "page", "[I", true)
  | 1 => ("EvenHoldModel", "pageMany", "I", false)
  | 2 => ("EvenHoldModel", "isThere", "Z", false)
  | 3 => ("EvenHoldModel", "bend", "I", false)
  | 4 => ("EvenHoldModel", "list", "I", false)
  | 5 => ("EvenHoldModel", "lies", "I", false)
  | 6 => ("EvenHoldModel", "out", "I", false)
  | 7 => ("EvenHoldModel", "minutes", "I", false)
  | 8 => ("EvenHoldModel", "groundNow", "I", false)
  | 9 => ("EvenHoldModel", "holdsRead", "I", false)
  | 10 => ("EvenHoldModel", "kinds", "[I", true)
  | 11 => ("EvenHoldModel", "far", "[I", true)
  | 12 => ("EvenHoldModel", "firsts", "[I", true)
  | 13 => ("EvenHoldModel", "waits", "[I", true)
  | 14 => ("EvenHoldModel", "isWaiting", "[Z", true)
  | 15 => ("EvenHoldModel", "leastMany", "I", false)
  | 16 => ("EvenHoldModel", "stringMany", "I", false)
  | 17 => ("EvenHoldModel", "strings", "[I", true)
  | 18 => ("EvenHoldModel", "now", "[I", true)
  | 19 => ("EvenHoldModel", "next", "[I", true)
  | 20 => ("EvenHoldModel", "fitsAll", "I", false)
  | 21 => ("EvenHoldModel", "firstMany", "I", false)
  | 22 => ("EvenHoldModel", "firstLeast", "I", false)
  | 23 => ("EvenHoldModel", "seedNow", "I", false)
  | 24 => ("EvenHoldModel", "keptHold", "I", false)
  | 25 => ("EvenHoldModel", "keptLies", "I", false)
  | 26 => ("EvenHoldModel", "keptOut", "I", false)
  | 27 => ("EvenHoldModel", "keptMinutes", "I", false)
  | 28 => ("EvenHoldModel", "keptGround", "I", false)
  | 29 => ("EvenHoldModel", "keptStringMany", "I", false)
  | 30 => ("EvenHoldModel", "keptStrings", "[I", true)
  | _ => ("EvenHoldModel", "hash", "J", false)
def tyX6 : Nat → FieldType := fun k => match k with
  | 0 => .array .int
  | 1 => .int
  | 2 => .boolean
  | 3 => .int
  | 4 => .int
  | 5 => .int
  | 6 => .int
  | 7 => .int
  | 8 => .int
  | 9 => .int
  | 10 => .array .int
  | 11 => .array .int
  | 12 => .array .int
  | 13 => .array .int
  | 14 => .array .boolean
  | 15 => .int
  | 16 => .int
  | 17 => .array .int
  | 18 => .array .int
  | 19 => .array .int
  | 20 => .int
  | 21 => .int
  | 22 => .int
  | 23 => .int
  | 24 => .int
  | 25 => .int
  | 26 => .int
  | 27 => .int
  | 28 => .int
  | 29 => .int
  | 30 => .array .int
  | _ => .long
abbrev wsX60 : List Cond := u_ws RX6 TX6 32
theorem nmX6 : ∀ a, a < 32 → ∀ b, b < 32 → a ≠ b → (TX6 a).2.1 ≠ (TX6 b).2.1 := by decide +kernel
theorem tyX6_ok : ∀ k, k < 32 → parseFieldDescriptor (TX6 k).2.2.1 = some (tyX6 k) := by decide +kernel
abbrev cX6_init : ByteArray := prog_8_method_1_code
def yX6_init : MethodName := ⟨RX6, "<init>", "()V"⟩
abbrev cX6_in : ByteArray := prog_8_method_2_code
def yX6_in : MethodName := ⟨RX6, "in", "(JJJ)Z"⟩
abbrev cX6_letter : ByteArray := prog_8_method_3_code
def yX6_letter : MethodName := ⟨RX6, "letter", "(I)I"⟩
abbrev cX6_blank : ByteArray := prog_8_method_4_code
def yX6_blank : MethodName := ⟨RX6, "blank", "()I"⟩
abbrev cX6_kindBy : ByteArray := prog_8_method_5_code
def yX6_kindBy : MethodName := ⟨RX6, "kindBy", "(I)I"⟩
abbrev cX6_isGood : ByteArray := prog_8_method_6_code
def yX6_isGood : MethodName := ⟨RX6, "isGood", "(II)Z"⟩
abbrev cX6_faultOf : ByteArray := prog_8_method_7_code
def yX6_faultOf : MethodName := ⟨RX6, "faultOf", "()I"⟩
abbrev cX6_fault : ByteArray := prog_8_method_8_code
def yX6_fault : MethodName := ⟨RX6, "fault", "()I"⟩
abbrev cX6_hold : ByteArray := prog_8_method_9_code
def yX6_hold : MethodName := ⟨RX6, "hold", "()I"⟩
abbrev cX6_at : ByteArray := prog_8_method_10_code
def yX6_at : MethodName := ⟨RX6, "at", "(II)I"⟩
abbrev cX6_tonsOf : ByteArray := prog_8_method_11_code
def yX6_tonsOf : MethodName := ⟨RX6, "tonsOf", "(I)I"⟩
abbrev cX6_unlike : ByteArray := prog_8_method_12_code
def yX6_unlike : MethodName := ⟨RX6, "unlike", "(II)I"⟩
abbrev cX6_bentOf : ByteArray := prog_8_method_13_code
def yX6_bentOf : MethodName := ⟨RX6, "bentOf", "(I)I"⟩
abbrev cX6_listingOf : ByteArray := prog_8_method_14_code
def yX6_listingOf : MethodName := ⟨RX6, "listingOf", "(I)I"⟩
abbrev cX6_bendNow : ByteArray := prog_8_method_15_code
def yX6_bendNow : MethodName := ⟨RX6, "bendNow", "()I"⟩
abbrev cX6_takingOf : ByteArray := prog_8_method_16_code
def yX6_takingOf : MethodName := ⟨RX6, "takingOf", "(I)I"⟩
abbrev cX6_carryingOf : ByteArray := prog_8_method_17_code
def yX6_carryingOf : MethodName := ⟨RX6, "carryingOf", "(I)I"⟩
abbrev cX6_bay : ByteArray := prog_8_method_18_code
def yX6_bay : MethodName := ⟨RX6, "bay", "(II)I"⟩
abbrev cX6_as : ByteArray := prog_8_method_19_code
def yX6_as : MethodName := ⟨RX6, "as", "(II)I"⟩
abbrev cX6_ground : ByteArray := prog_8_method_20_code
def yX6_ground : MethodName := ⟨RX6, "ground", "(Z)I"⟩
abbrev cX6_bears : ByteArray := prog_8_method_21_code
def yX6_bears : MethodName := ⟨RX6, "bears", "(II)Z"⟩
abbrev cX6_hullOf : ByteArray := prog_8_method_22_code
def yX6_hullOf : MethodName := ⟨RX6, "hullOf", "(I)I"⟩
abbrev cX6_hull : ByteArray := prog_8_method_23_code
def yX6_hull : MethodName := ⟨RX6, "hull", "(I)I"⟩
abbrev cX6_isAct : ByteArray := prog_8_method_24_code
def yX6_isAct : MethodName := ⟨RX6, "isAct", "(I)Z"⟩
abbrev cX6_behind : ByteArray := prog_8_method_25_code
def yX6_behind : MethodName := ⟨RX6, "behind", "(II)I"⟩
abbrev cX6_goes : ByteArray := prog_8_method_26_code
def yX6_goes : MethodName := ⟨RX6, "goes", "(III)I"⟩
abbrev cX6_lasts : ByteArray := prog_8_method_27_code
def yX6_lasts : MethodName := ⟨RX6, "lasts", "(I)I"⟩
abbrev cX6_may : ByteArray := prog_8_method_28_code
def yX6_may : MethodName := ⟨RX6, "may", "(I)I"⟩
abbrev cX6_act : ByteArray := prog_8_method_29_code
def yX6_act : MethodName := ⟨RX6, "act", "(I)I"⟩
abbrev cX6_layFar : ByteArray := prog_8_method_30_code
def yX6_layFar : MethodName := ⟨RX6, "layFar", "(I)V"⟩
abbrev cX6_isBetter : ByteArray := prog_8_method_31_code
def yX6_isBetter : MethodName := ⟨RX6, "isBetter", "(III)Z"⟩
abbrev cX6_soonest : ByteArray := prog_8_method_32_code
def yX6_soonest : MethodName := ⟨RX6, "soonest", "(I)I"⟩
abbrev cX6_mostOf : ByteArray := prog_8_method_33_code
def yX6_mostOf : MethodName := ⟨RX6, "mostOf", "()I"⟩
abbrev cX6_most : ByteArray := prog_8_method_34_code
def yX6_most : MethodName := ⟨RX6, "most", "()I"⟩
abbrev cX6_manyOf : ByteArray := prog_8_method_35_code
def yX6_manyOf : MethodName := ⟨RX6, "manyOf", "()I"⟩
abbrev cX6_holds : ByteArray := prog_8_method_36_code
def yX6_holds : MethodName := ⟨RX6, "holds", "()I"⟩
abbrev cX6_leastBend : ByteArray := prog_8_method_37_code
def yX6_leastBend : MethodName := ⟨RX6, "leastBend", "()I"⟩
abbrev cX6_string : ByteArray := prog_8_method_38_code
def yX6_string : MethodName := ⟨RX6, "string", "(I)I"⟩
abbrev cX6_forget : ByteArray := prog_8_method_39_code
def yX6_forget : MethodName := ⟨RX6, "forget", "()I"⟩
abbrev cX6_rowsFrom : ByteArray := prog_8_method_40_code
def yX6_rowsFrom : MethodName := ⟨RX6, "rowsFrom", "(II)I"⟩
abbrev cX6_stepAll : ByteArray := prog_8_method_41_code
def yX6_stepAll : MethodName := ⟨RX6, "stepAll", "(I)V"⟩
abbrev cX6_layFits : ByteArray := prog_8_method_42_code
def yX6_layFits : MethodName := ⟨RX6, "layFits", "()V"⟩
abbrev cX6_fits : ByteArray := prog_8_method_43_code
def yX6_fits : MethodName := ⟨RX6, "fits", "(I)I"⟩
abbrev cX6_draw : ByteArray := prog_8_method_44_code
def yX6_draw : MethodName := ⟨RX6, "draw", "(I)I"⟩
abbrev cX6_days : ByteArray := prog_8_method_45_code
def yX6_days : MethodName := ⟨RX6, "days", "(III)I"⟩
abbrev cX6_copy : ByteArray := prog_8_method_46_code
def yX6_copy : MethodName := ⟨RX6, "copy", "([I[I)V"⟩
abbrev cX6_image : ByteArray := prog_8_method_47_code
def yX6_image : MethodName := ⟨RX6, "image", "()I"⟩
abbrev cX6_restore : ByteArray := prog_8_method_48_code
def yX6_restore : MethodName := ⟨RX6, "restore", "()I"⟩
abbrev cX6_countOf : ByteArray := prog_8_method_49_code
def yX6_countOf : MethodName := ⟨RX6, "countOf", "(I)I"⟩
abbrev cX6_count : ByteArray := prog_8_method_50_code
def yX6_count : MethodName := ⟨RX6, "count", "(I)I"⟩
abbrev cX6_say : ByteArray := prog_8_method_51_code
def yX6_say : MethodName := ⟨RX6, "say", "(J)V"⟩
abbrev cX6_sayHold : ByteArray := prog_8_method_52_code
def yX6_sayHold : MethodName := ⟨RX6, "sayHold", "()V"⟩
abbrev cX6_digest : ByteArray := prog_8_method_53_code
def yX6_digest : MethodName := ⟨RX6, "digest", "()J"⟩
def RJx145de : String := "java/io/Serializable"
def TJx145de : u_T := fun k => match k with
  | _ => ("", "", "", false)
def tyJx145de : Nat → FieldType := fun k => match k with
  | _ => .int
abbrev wsJx145de0 : List Cond := u_ws RJx145de TJx145de 0
theorem nmJx145de : ∀ a, a < 0 → ∀ b, b < 0 → a ≠ b → (TJx145de a).2.1 ≠ (TJx145de b).2.1 := by decide +kernel
theorem tyJx145de_ok : ∀ k, k < 0 → parseFieldDescriptor (TJx145de k).2.2.1 = some (tyJx145de k) := by decide +kernel
def RJx9f9b0 : String := "java/lang/CharSequence"
def TJx9f9b0 : u_T := fun k => match k with
  | _ => ("", "", "", false)
def tyJx9f9b0 : Nat → FieldType := fun k => match k with
  | _ => .int
abbrev wsJx9f9b00 : List Cond := u_ws RJx9f9b0 TJx9f9b0 0
theorem nmJx9f9b0 : ∀ a, a < 0 → ∀ b, b < 0 → a ≠ b → (TJx9f9b0 a).2.1 ≠ (TJx9f9b0 b).2.1 := by decide +kernel
theorem tyJx9f9b0_ok : ∀ k, k < 0 → parseFieldDescriptor (TJx9f9b0 k).2.2.1 = some (tyJx9f9b0 k) := by decide +kernel
def RJ11 : String := "java/lang/Character"
def TJ11 : u_T := fun k => match k with
  | _ => ("", "", "", false)
def tyJ11 : Nat → FieldType := fun k => match k with
  | _ => .int
abbrev wsJ110 : List Cond := u_ws RJ11 TJ11 0
theorem nmJ11 : ∀ a, a < 0 → ∀ b, b < 0 → a ≠ b → (TJ11 a).2.1 ≠ (TJ11 b).2.1 := by decide +kernel
theorem tyJ11_ok : ∀ k, k < 0 → parseFieldDescriptor (TJ11 k).2.2.1 = some (tyJ11 k) := by decide +kernel
abbrev cJ11_isValidCodePoint_9a6ad : ByteArray := prog_9_method_11_code
def yJ11_isValidCodePoint_9a6ad : MethodName := ⟨RJ11, "isValidCodePoint", "(I)Z"⟩
abbrev cJ11_highSurrogate_5068e : ByteArray := prog_9_method_28_code
def yJ11_highSurrogate_5068e : MethodName := ⟨RJ11, "highSurrogate", "(I)C"⟩
abbrev cJ11_lowSurrogate_5068e : ByteArray := prog_9_method_29_code
def yJ11_lowSurrogate_5068e : MethodName := ⟨RJ11, "lowSurrogate", "(I)C"⟩
def RJxb160c : String := "java/lang/Comparable"
def TJxb160c : u_T := fun k => match k with
  | _ => ("", "", "", false)
def tyJxb160c : Nat → FieldType := fun k => match k with
  | _ => .int
abbrev wsJxb160c0 : List Cond := u_ws RJxb160c TJxb160c 0
theorem nmJxb160c : ∀ a, a < 0 → ∀ b, b < 0 → a ≠ b → (TJxb160c a).2.1 ≠ (TJxb160c b).2.1 := by decide +kernel
theorem tyJxb160c_ok : ∀ k, k < 0 → parseFieldDescriptor (TJxb160c k).2.2.1 = some (tyJxb160c k) := by decide +kernel
def RJ9 : String := "java/lang/Math"
def TJ9 : u_T := fun k => match k with
  | _ => ("", "", "", false)
def tyJ9 : Nat → FieldType := fun k => match k with
  | _ => .int
abbrev wsJ90 : List Cond := u_ws RJ9 TJ9 0
theorem nmJ9 : ∀ a, a < 0 → ∀ b, b < 0 → a ≠ b → (TJ9 a).2.1 ≠ (TJ9 b).2.1 := by decide +kernel
theorem tyJ9_ok : ∀ k, k < 0 → parseFieldDescriptor (TJ9 k).2.2.1 = some (tyJ9 k) := by decide +kernel
abbrev cJ9_abs_0f7a4 : ByteArray := prog_10_method_59_code
def yJ9_abs_0f7a4 : MethodName := ⟨RJ9, "abs", "(I)I"⟩
abbrev cJ9_max_7cf53 : ByteArray := prog_10_method_65_code
def yJ9_max_7cf53 : MethodName := ⟨RJ9, "max", "(II)I"⟩
abbrev cJ9_min_7cf53 : ByteArray := prog_10_method_69_code
def yJ9_min_7cf53 : MethodName := ⟨RJ9, "min", "(II)I"⟩
def RJ0 : String := "java/lang/String"
def TJ0 : u_T := fun k => match k with
  | _ => ("", "", "", false)
def tyJ0 : Nat → FieldType := fun k => match k with
  | _ => .int
abbrev wsJ00 : List Cond := u_ws RJ0 TJ0 0
theorem nmJ0 : ∀ a, a < 0 → ∀ b, b < 0 → a ≠ b → (TJ0 a).2.1 ≠ (TJ0 b).2.1 := by decide +kernel
theorem tyJ0_ok : ∀ k, k < 0 → parseFieldDescriptor (TJ0 k).2.2.1 = some (tyJ0 k) := by decide +kernel
abbrev cJ0_length_8abf5 : ByteArray := prog_11_method_54_code
def yJ0_length_8abf5 : MethodName := ⟨RJ0, "length", "()I"⟩
abbrev cJ0_charAt_5068e : ByteArray := prog_11_method_56_code
def yJ0_charAt_5068e : MethodName := ⟨RJ0, "charAt", "(I)C"⟩
abbrev cJ0_indexOf_0f7a4 : ByteArray := prog_11_method_79_code
def yJ0_indexOf_0f7a4 : MethodName := ⟨RJ0, "indexOf", "(I)I"⟩
abbrev cJ0_indexOf_7cf53 : ByteArray := prog_11_method_80_code
def yJ0_indexOf_7cf53 : MethodName := ⟨RJ0, "indexOf", "(II)I"⟩
abbrev cJ0_coder_7d493 : ByteArray := prog_11_method_152_code
def yJ0_coder_7d493 : MethodName := ⟨RJ0, "coder", "()B"⟩
abbrev cJ0_isLatin1_aae02 : ByteArray := prog_11_method_154_code
def yJ0_isLatin1_aae02 : MethodName := ⟨RJ0, "isLatin1", "()Z"⟩
abbrev cJ0_checkIndex_df160 : ByteArray := prog_11_method_155_code
def yJ0_checkIndex_df160 : MethodName := ⟨RJ0, "checkIndex", "(II)V"⟩
abbrev cJ0_checkBoundsBeginEnd_23922 : ByteArray := prog_11_method_158_code
def yJ0_checkBoundsBeginEnd_23922 : MethodName := ⟨RJ0, "checkBoundsBeginEnd", "(III)V"⟩
def RJ1 : String := "java/lang/StringLatin1"
def TJ1 : u_T := fun k => match k with
  | _ => ("", "", "", false)
def tyJ1 : Nat → FieldType := fun k => match k with
  | _ => .int
abbrev wsJ10 : List Cond := u_ws RJ1 TJ1 0
theorem nmJ1 : ∀ a, a < 0 → ∀ b, b < 0 → a ≠ b → (TJ1 a).2.1 ≠ (TJ1 b).2.1 := by decide +kernel
theorem tyJ1_ok : ∀ k, k < 0 → parseFieldDescriptor (TJ1 k).2.2.1 = some (tyJ1 k) := by decide +kernel
abbrev cJ1_charAt_3b067 : ByteArray := prog_12_method_2_code
def yJ1_charAt_3b067 : MethodName := ⟨RJ1, "charAt", "([BI)C"⟩
abbrev cJ1_canEncode_9a6ad : ByteArray := prog_12_method_4_code
def yJ1_canEncode_9a6ad : MethodName := ⟨RJ1, "canEncode", "(I)Z"⟩
abbrev cJ1_indexOf_4cfef : ByteArray := prog_12_method_22_code
def yJ1_indexOf_4cfef : MethodName := ⟨RJ1, "indexOf", "([BIII)I"⟩
abbrev cJ1_indexOfChar_4cfef : ByteArray := prog_12_method_23_code
def yJ1_indexOfChar_4cfef : MethodName := ⟨RJ1, "indexOfChar", "([BIII)I"⟩
def RJ2 : String := "java/lang/StringUTF16"
def TJ2 : u_T := fun k => match k with
  | _ => ("", "", "", false)
def tyJ2 : Nat → FieldType := fun k => match k with
  | _ => .int
abbrev wsJ20 : List Cond := u_ws RJ2 TJ2 0
theorem nmJ2 : ∀ a, a < 0 → ∀ b, b < 0 → a ≠ b → (TJ2 a).2.1 ≠ (TJ2 b).2.1 := by decide +kernel
theorem tyJ2_ok : ∀ k, k < 0 → parseFieldDescriptor (TJ2 k).2.2.1 = some (tyJ2 k) := by decide +kernel
abbrev cJ2_getChar_3b067 : ByteArray := prog_13_method_5_code
def yJ2_getChar_3b067 : MethodName := ⟨RJ2, "getChar", "([BI)C"⟩
abbrev cJ2_length_9d52b : ByteArray := prog_13_method_6_code
def yJ2_length_9d52b : MethodName := ⟨RJ2, "length", "([B)I"⟩
abbrev cJ2_indexOf_4cfef : ByteArray := prog_13_method_40_code
def yJ2_indexOf_4cfef : MethodName := ⟨RJ2, "indexOf", "([BIII)I"⟩
abbrev cJ2_indexOfChar_4cfef : ByteArray := prog_13_method_47_code
def yJ2_indexOfChar_4cfef : MethodName := ⟨RJ2, "indexOfChar", "([BIII)I"⟩
abbrev cJ2_indexOfCharUnsafe_4cfef : ByteArray := prog_13_method_48_code
def yJ2_indexOfCharUnsafe_4cfef : MethodName := ⟨RJ2, "indexOfCharUnsafe", "([BIII)I"⟩
abbrev cJ2_indexOfSupplementary_4cfef : ByteArray := prog_13_method_49_code
def yJ2_indexOfSupplementary_4cfef : MethodName := ⟨RJ2, "indexOfSupplementary", "([BIII)I"⟩
abbrev cJ2_charAt_3b067 : ByteArray := prog_13_method_83_code
def yJ2_charAt_3b067 : MethodName := ⟨RJ2, "charAt", "([BI)C"⟩
abbrev cJ2_checkIndex_2214a : ByteArray := prog_13_method_91_code
def yJ2_checkIndex_2214a : MethodName := ⟨RJ2, "checkIndex", "(I[B)V"⟩
abbrev cJ2_checkBoundsBeginEnd_d044e : ByteArray := prog_13_method_93_code
def yJ2_checkBoundsBeginEnd_d044e : MethodName := ⟨RJ2, "checkBoundsBeginEnd", "(II[B)V"⟩
def RJxfd54e : String := "java/lang/constant/Constable"
def TJxfd54e : u_T := fun k => match k with
  | _ => ("", "", "", false)
def tyJxfd54e : Nat → FieldType := fun k => match k with
  | _ => .int
abbrev wsJxfd54e0 : List Cond := u_ws RJxfd54e TJxfd54e 0
theorem nmJxfd54e : ∀ a, a < 0 → ∀ b, b < 0 → a ≠ b → (TJxfd54e a).2.1 ≠ (TJxfd54e b).2.1 := by decide +kernel
theorem tyJxfd54e_ok : ∀ k, k < 0 → parseFieldDescriptor (TJxfd54e k).2.2.1 = some (tyJxfd54e k) := by decide +kernel
def RJx3cf43 : String := "java/lang/constant/ConstantDesc"
def TJx3cf43 : u_T := fun k => match k with
  | _ => ("", "", "", false)
def tyJx3cf43 : Nat → FieldType := fun k => match k with
  | _ => .int
abbrev wsJx3cf430 : List Cond := u_ws RJx3cf43 TJx3cf43 0
theorem nmJx3cf43 : ∀ a, a < 0 → ∀ b, b < 0 → a ≠ b → (TJx3cf43 a).2.1 ≠ (TJx3cf43 b).2.1 := by decide +kernel
theorem tyJx3cf43_ok : ∀ k, k < 0 → parseFieldDescriptor (TJx3cf43 k).2.2.1 = some (tyJx3cf43 k) := by decide +kernel
def RJ7 : String := "java/util/Arrays"
def TJ7 : u_T := fun k => match k with
  | _ => ("", "", "", false)
def tyJ7 : Nat → FieldType := fun k => match k with
  | _ => .int
abbrev wsJ70 : List Cond := u_ws RJ7 TJ7 0
theorem nmJ7 : ∀ a, a < 0 → ∀ b, b < 0 → a ≠ b → (TJ7 a).2.1 ≠ (TJ7 b).2.1 := by decide +kernel
theorem tyJ7_ok : ∀ k, k < 0 → parseFieldDescriptor (TJ7 k).2.2.1 = some (tyJ7 k) := by decide +kernel
abbrev cJ7_fill_53178 : ByteArray := prog_14_method_103_code
def yJ7_fill_53178 : MethodName := ⟨RJ7, "fill", "([II)V"⟩
def RJ3 : String := "jdk/internal/util/Preconditions"
def TJ3 : u_T := fun k => match k with
  | _ => ("", "", "", false)
def tyJ3 : Nat → FieldType := fun k => match k with
  | _ => .int
abbrev wsJ30 : List Cond := u_ws RJ3 TJ3 0
theorem nmJ3 : ∀ a, a < 0 → ∀ b, b < 0 → a ≠ b → (TJ3 a).2.1 ≠ (TJ3 b).2.1 := by decide +kernel
theorem tyJ3_ok : ∀ k, k < 0 → parseFieldDescriptor (TJ3 k).2.2.1 = some (tyJ3 k) := by decide +kernel
abbrev cJ3_checkIndex_8e157 : ByteArray := prog_15_method_11_code
def yJ3_checkIndex_8e157 : MethodName := ⟨RJ3, "checkIndex", "(IILjava/util/function/BiFunction;)I"⟩
abbrev cJ3_checkFromToIndex_8c36e : ByteArray := prog_15_method_12_code
def yJ3_checkFromToIndex_8c36e : MethodName := ⟨RJ3, "checkFromToIndex", "(IIILjava/util/function/BiFunction;)I"⟩
def RL : String := "EvenHoldLaw"
abbrev cL_law : ByteArray := code
def yL_law : MethodName := ⟨RL, "law", "([I)Z"⟩
abbrev vwCl : List vw_C := [(RX0, TX0, 2), (RX1, TX1, 3), (RX2, TX2, 5), (RX3, TX3, 6), (RX4, TX4, 11), (RX5, TX5, 12), (RX6, TX6, 32)]
end
section
/-! the words of the tables that a call may carry along, and each of them by its place -/
def wsG : List Cond := lw_tbl.filter goodWord
theorem wsG_in : ∀ w ∈ wsG, w ∈ lw_tbl := fun w h => (List.mem_filter.mp h).1
theorem wsG_good : ∀ w ∈ wsG, goodWord w = true := fun w h => (List.mem_filter.mp h).2
theorem mG1 {w : Cond} (i : Nat) (h : tables_1_1[i]? = some w) (hg : goodWord w = true) : w ∈ wsG := List.mem_filter.mpr ⟨List.mem_append_right _ (List.mem_append_left _ (List.mem_of_getElem? h)), hg⟩
theorem mG2 {w : Cond} (i : Nat) (h : tables_1_2[i]? = some w) (hg : goodWord w = true) : w ∈ wsG := List.mem_filter.mpr ⟨List.mem_append_right _ (List.mem_append_right _ (List.mem_append_left _ (List.mem_of_getElem? h))), hg⟩
theorem mG3 {w : Cond} (i : Nat) (h : tables_1_3[i]? = some w) (hg : goodWord w = true) : w ∈ wsG := List.mem_filter.mpr ⟨List.mem_append_right _ (List.mem_append_right _ (List.mem_append_right _ (List.mem_append_left _ (List.mem_of_getElem? h)))), hg⟩
theorem mG4 {w : Cond} (i : Nat) (h : tables_1_4[i]? = some w) (hg : goodWord w = true) : w ∈ wsG := List.mem_filter.mpr ⟨List.mem_append_right _ (List.mem_append_right _ (List.mem_append_right _ (List.mem_append_right _ (List.mem_of_getElem? h)))), hg⟩
theorem mGs {w : Cond} (i : Nat) (h : (k2_sels lw_privs)[i]? = some w) (hg : goodWord w = true) : w ∈ wsG := List.mem_filter.mpr ⟨List.mem_append_left _ (List.mem_of_getElem? h), hg⟩
theorem kw_0 : (Jvm.Cond.initialized "EvenHoldLaw") ∈ wsG := mG1 0 rfl rfl
theorem kw_1 : (Jvm.Cond.initialized "EvenHold") ∈ wsG := mG1 1 rfl rfl
theorem kw_2 : (Jvm.Cond.initialized "EvenHold$Lighter") ∈ wsG := mG1 2 rfl rfl
theorem kw_3 : (Jvm.Cond.initialized "EvenHold$Now") ∈ wsG := mG1 3 rfl rfl
theorem kw_4 : (Jvm.Cond.initialized "EvenHold$Outlook") ∈ wsG := mG1 4 rfl rfl
theorem kw_5 : (Jvm.Cond.initialized "EvenHold$Easing") ∈ wsG := mG1 5 rfl rfl
theorem kw_6 : (Jvm.Cond.initialized "EvenHold$Fit") ∈ wsG := mG1 6 rfl rfl
theorem kw_7 : (Jvm.Cond.initialized "EvenHoldModel") ∈ wsG := mG1 7 rfl rfl
theorem kw_8 : (Jvm.Cond.initialized "java/lang/String") ∈ wsG := mG1 8 rfl rfl
theorem kw_9 : (Jvm.Cond.initialized "java/lang/StringLatin1") ∈ wsG := mG1 9 rfl rfl
theorem kw_10 : (Jvm.Cond.initialized "jdk/internal/util/Preconditions") ∈ wsG := mG1 10 rfl rfl
theorem kw_11 : (Jvm.Cond.initialized "java/lang/StringUTF16") ∈ wsG := mG1 11 rfl rfl
theorem kw_12 : (Jvm.Cond.initialized "java/lang/Math") ∈ wsG := mG1 12 rfl rfl
theorem kw_13 : (Jvm.Cond.initialized "java/lang/Character") ∈ wsG := mG1 13 rfl rfl
theorem kw_14 : (Jvm.Cond.initialized "java/util/Arrays") ∈ wsG := mG1 14 rfl rfl
theorem kw_15 : (Jvm.Cond.classLink "EvenHoldLaw" (7 : Nat) "EvenHold") ∈ wsG := mG1 15 rfl rfl
theorem kw_16 : (Jvm.Cond.instantiable "EvenHold" (12 : Nat)) ∈ wsG := mG1 16 rfl rfl
theorem kw_17 : (Jvm.Cond.methodLink "EvenHoldLaw" (9 : Nat) ({ cls := "EvenHold", name := "<init>", desc := "()V" } : Jvm.MethodName)) ∈ wsG := mG1 17 rfl rfl
theorem kw_18 : (Jvm.Cond.instanceMethod ({ cls := "EvenHold", name := "<init>", desc := "()V" } : Jvm.MethodName)) ∈ wsG := mG1 18 rfl rfl
theorem kw_19 : (Jvm.Cond.code ({ cls := "EvenHold", name := "<init>", desc := "()V" } : Jvm.MethodName) prog_1_method_1_code (1 : Nat) (Option.none : Option Jvm.ClassFile.FieldType)) ∈ wsG := mG1 19 rfl rfl
theorem kw_20 : (Jvm.Cond.methodLink "EvenHold" (1 : Nat) ({ cls := "java/lang/Object", name := "<init>", desc := "()V" } : Jvm.MethodName)) ∈ wsG := mG1 20 rfl rfl
theorem kw_21 : (Jvm.Cond.instanceMethod ({ cls := "java/lang/Object", name := "<init>", desc := "()V" } : Jvm.MethodName)) ∈ wsG := mG1 21 rfl rfl
theorem kw_22 : (Jvm.Cond.code ({ cls := "java/lang/Object", name := "<init>", desc := "()V" } : Jvm.MethodName) object_method_1_code (1 : Nat) (Option.none : Option Jvm.ClassFile.FieldType)) ∈ wsG := mG1 22 rfl rfl
theorem kw_23 : (Jvm.Cond.classLink "EvenHold" (17 : Nat) "EvenHold$Lighter") ∈ wsG := mG1 23 rfl rfl
theorem kw_24 : (Jvm.Cond.instantiable "EvenHold$Lighter" (5 : Nat)) ∈ wsG := mG1 24 rfl rfl
theorem kw_26 : (Jvm.Cond.instanceMethod ({ cls := "EvenHold$Lighter", name := "<init>", desc := "()V" } : Jvm.MethodName)) ∈ wsG := mG1 26 rfl rfl
theorem kw_27 : (Jvm.Cond.code ({ cls := "EvenHold$Lighter", name := "<init>", desc := "()V" } : Jvm.MethodName) prog_4_method_1_code (1 : Nat) (Option.none : Option Jvm.ClassFile.FieldType)) ∈ wsG := mG1 27 rfl rfl
theorem kw_28 : (Jvm.Cond.methodLink "EvenHold$Lighter" (3 : Nat) ({ cls := "java/lang/Object", name := "<init>", desc := "()V" } : Jvm.MethodName)) ∈ wsG := mG1 28 rfl rfl
theorem kw_29 : (Jvm.Cond.fieldLink "EvenHold$Lighter" (9 : Nat) "EvenHold$Lighter" "kind" "[I") ∈ wsG := mG1 29 rfl rfl
theorem kw_30 : (Jvm.Cond.fieldLink "EvenHold" (100 : Nat) "EvenHold$Lighter" "kind" "[I") ∈ wsG := mG1 30 rfl rfl
theorem kw_31 : (Jvm.Cond.fieldLink "EvenHold$Lighter" (15 : Nat) "EvenHold$Lighter" "taking" "[I") ∈ wsG := mG1 31 rfl rfl
theorem kw_32 : (Jvm.Cond.fieldLink "EvenHold" (111 : Nat) "EvenHold$Lighter" "taking" "[I") ∈ wsG := mG1 32 rfl rfl
theorem kw_33 : (Jvm.Cond.fieldLink "EvenHold$Lighter" (18 : Nat) "EvenHold$Lighter" "carrying" "[I") ∈ wsG := mG1 33 rfl rfl
theorem kw_34 : (Jvm.Cond.fieldLink "EvenHold" (114 : Nat) "EvenHold$Lighter" "carrying" "[I") ∈ wsG := mG1 34 rfl rfl
theorem kw_35 : (Jvm.Cond.fieldLink "EvenHold$Lighter" (21 : Nat) "EvenHold$Lighter" "bend" "I") ∈ wsG := mG1 35 rfl rfl
theorem kw_36 : (Jvm.Cond.fieldLink "EvenHold" (198 : Nat) "EvenHold$Lighter" "bend" "I") ∈ wsG := mG1 36 rfl rfl
theorem kw_37 : (Jvm.Cond.fieldLink "EvenHold$Lighter" (25 : Nat) "EvenHold$Lighter" "list" "I") ∈ wsG := mG1 37 rfl rfl
theorem kw_38 : (Jvm.Cond.fieldLink "EvenHold$Easing" (45 : Nat) "EvenHold$Lighter" "list" "I") ∈ wsG := mG1 38 rfl rfl
theorem kw_39 : (Jvm.Cond.fieldLink "EvenHold" (201 : Nat) "EvenHold$Lighter" "list" "I") ∈ wsG := mG1 39 rfl rfl
theorem kw_40 : (Jvm.Cond.laysFinal "EvenHold$Lighter" "EvenHold$Lighter" "kind" "[I") ∈ wsG := mG1 40 rfl rfl
theorem kw_42 : (Jvm.Cond.laysFinal "EvenHold$Lighter" "EvenHold$Lighter" "taking" "[I") ∈ wsG := mG1 42 rfl rfl
theorem kw_44 : (Jvm.Cond.laysFinal "EvenHold$Lighter" "EvenHold$Lighter" "carrying" "[I") ∈ wsG := mG1 44 rfl rfl
theorem kw_46 : (Jvm.Cond.lays "EvenHold$Lighter" "EvenHold$Lighter" "bend" "I") ∈ wsG := mG1 46 rfl rfl
theorem kw_48 : (Jvm.Cond.lays "EvenHold$Lighter" "EvenHold$Lighter" "list" "I") ∈ wsG := mG1 48 rfl rfl
theorem kw_51 : (Jvm.Cond.arrayClass Jvm.ClassFile.FieldType.int) ∈ wsG := mG1 51 rfl rfl
theorem kw_52 : (Jvm.Cond.classLink "EvenHold" (28 : Nat) "EvenHold$Now") ∈ wsG := mG1 52 rfl rfl
theorem kw_53 : (Jvm.Cond.instantiable "EvenHold$Now" (6 : Nat)) ∈ wsG := mG1 53 rfl rfl
theorem kw_55 : (Jvm.Cond.instanceMethod ({ cls := "EvenHold$Now", name := "<init>", desc := "()V" } : Jvm.MethodName)) ∈ wsG := mG1 55 rfl rfl
theorem kw_56 : (Jvm.Cond.code ({ cls := "EvenHold$Now", name := "<init>", desc := "()V" } : Jvm.MethodName) prog_5_method_1_code (1 : Nat) (Option.none : Option Jvm.ClassFile.FieldType)) ∈ wsG := mG1 56 rfl rfl
theorem kw_57 : (Jvm.Cond.methodLink "EvenHold$Now" (3 : Nat) ({ cls := "java/lang/Object", name := "<init>", desc := "()V" } : Jvm.MethodName)) ∈ wsG := mG1 57 rfl rfl
theorem kw_58 : (Jvm.Cond.fieldLink "EvenHold$Now" (9 : Nat) "EvenHold$Now" "lying" "I") ∈ wsG := mG1 58 rfl rfl
theorem kw_59 : (Jvm.Cond.fieldLink "EvenHold$Fit" (30 : Nat) "EvenHold$Now" "lying" "I") ∈ wsG := mG1 59 rfl rfl
theorem kw_60 : (Jvm.Cond.fieldLink "EvenHold" (89 : Nat) "EvenHold$Now" "lying" "I") ∈ wsG := mG1 60 rfl rfl
theorem kw_61 : (Jvm.Cond.fieldLink "EvenHold$Now" (15 : Nat) "EvenHold$Now" "aground" "Z") ∈ wsG := mG1 61 rfl rfl
theorem kw_62 : (Jvm.Cond.fieldLink "EvenHold" (119 : Nat) "EvenHold$Now" "aground" "Z") ∈ wsG := mG1 62 rfl rfl
theorem kw_63 : (Jvm.Cond.fieldLink "EvenHold$Now" (19 : Nat) "EvenHold$Now" "minutes" "I") ∈ wsG := mG1 63 rfl rfl
theorem kw_64 : (Jvm.Cond.fieldLink "EvenHold" (148 : Nat) "EvenHold$Now" "minutes" "I") ∈ wsG := mG1 64 rfl rfl
theorem kw_65 : (Jvm.Cond.fieldLink "EvenHold$Now" (22 : Nat) "EvenHold$Now" "out" "I") ∈ wsG := mG1 65 rfl rfl
theorem kw_66 : (Jvm.Cond.fieldLink "EvenHold" (145 : Nat) "EvenHold$Now" "out" "I") ∈ wsG := mG1 66 rfl rfl
theorem kw_67 : (Jvm.Cond.fieldLink "EvenHold$Now" (25 : Nat) "EvenHold$Now" "bents" "[I") ∈ wsG := mG1 67 rfl rfl
theorem kw_68 : (Jvm.Cond.fieldLink "EvenHold$Fit" (43 : Nat) "EvenHold$Now" "bents" "[I") ∈ wsG := mG1 68 rfl rfl
theorem kw_69 : (Jvm.Cond.fieldLink "EvenHold" (175 : Nat) "EvenHold$Now" "bents" "[I") ∈ wsG := mG1 69 rfl rfl
theorem kw_70 : (Jvm.Cond.fieldLink "EvenHold$Now" (29 : Nat) "EvenHold$Now" "told" "I") ∈ wsG := mG1 70 rfl rfl
theorem kw_71 : (Jvm.Cond.fieldLink "EvenHold$Fit" (21 : Nat) "EvenHold$Now" "told" "I") ∈ wsG := mG1 71 rfl rfl
theorem kw_72 : (Jvm.Cond.fieldLink "EvenHold" (172 : Nat) "EvenHold$Now" "told" "I") ∈ wsG := mG1 72 rfl rfl
theorem kw_73 : (Jvm.Cond.lays "EvenHold$Now" "EvenHold$Now" "lying" "I") ∈ wsG := mG1 73 rfl rfl
theorem kw_75 : (Jvm.Cond.lays "EvenHold$Now" "EvenHold$Now" "aground" "Z") ∈ wsG := mG1 75 rfl rfl
theorem kw_77 : (Jvm.Cond.lays "EvenHold$Now" "EvenHold$Now" "minutes" "I") ∈ wsG := mG1 77 rfl rfl
theorem kw_79 : (Jvm.Cond.lays "EvenHold$Now" "EvenHold$Now" "out" "I") ∈ wsG := mG1 79 rfl rfl
theorem kw_81 : (Jvm.Cond.laysFinal "EvenHold$Now" "EvenHold$Now" "bents" "[I") ∈ wsG := mG1 81 rfl rfl
theorem kw_83 : (Jvm.Cond.lays "EvenHold$Now" "EvenHold$Now" "told" "I") ∈ wsG := mG1 83 rfl rfl
theorem kw_86 : (Jvm.Cond.classLink "EvenHold" (47 : Nat) "EvenHold$Outlook") ∈ wsG := mG1 86 rfl rfl
theorem kw_87 : (Jvm.Cond.instantiable "EvenHold$Outlook" (11 : Nat)) ∈ wsG := mG1 87 rfl rfl
theorem kw_89 : (Jvm.Cond.instanceMethod ({ cls := "EvenHold$Outlook", name := "<init>", desc := "()V" } : Jvm.MethodName)) ∈ wsG := mG1 89 rfl rfl
theorem kw_90 : (Jvm.Cond.code ({ cls := "EvenHold$Outlook", name := "<init>", desc := "()V" } : Jvm.MethodName) prog_6_method_1_code (1 : Nat) (Option.none : Option Jvm.ClassFile.FieldType)) ∈ wsG := mG1 90 rfl rfl
theorem kw_91 : (Jvm.Cond.methodLink "EvenHold$Outlook" (3 : Nat) ({ cls := "java/lang/Object", name := "<init>", desc := "()V" } : Jvm.MethodName)) ∈ wsG := mG1 91 rfl rfl
theorem kw_92 : (Jvm.Cond.fieldLink "EvenHold$Outlook" (9 : Nat) "EvenHold$Outlook" "minutes" "[I") ∈ wsG := mG1 92 rfl rfl
theorem kw_93 : (Jvm.Cond.fieldLink "EvenHold" (157 : Nat) "EvenHold$Outlook" "minutes" "[I") ∈ wsG := mG1 93 rfl rfl
theorem kw_94 : (Jvm.Cond.fieldLink "EvenHold$Outlook" (15 : Nat) "EvenHold$Outlook" "first" "[I") ∈ wsG := mG1 94 rfl rfl
theorem kw_95 : (Jvm.Cond.fieldLink "EvenHold" (159 : Nat) "EvenHold$Outlook" "first" "[I") ∈ wsG := mG1 95 rfl rfl
theorem kw_96 : (Jvm.Cond.fieldLink "EvenHold$Outlook" (18 : Nat) "EvenHold$Outlook" "waiting" "[I") ∈ wsG := mG1 96 rfl rfl
theorem kw_97 : (Jvm.Cond.fieldLink "EvenHold$Outlook" (21 : Nat) "EvenHold$Outlook" "waitingIn" "[I") ∈ wsG := mG1 97 rfl rfl
theorem kw_98 : (Jvm.Cond.fieldLink "EvenHold$Outlook" (24 : Nat) "EvenHold$Outlook" "waitingInAll" "I") ∈ wsG := mG1 98 rfl rfl
theorem kw_99 : (Jvm.Cond.fieldLink "EvenHold$Outlook" (28 : Nat) "EvenHold$Outlook" "comeTo" "I") ∈ wsG := mG1 99 rfl rfl
theorem kw_100 : (Jvm.Cond.fieldLink "EvenHold" (165 : Nat) "EvenHold$Outlook" "comeTo" "I") ∈ wsG := mG1 100 rfl rfl
theorem kw_101 : (Jvm.Cond.fieldLink "EvenHold$Outlook" (31 : Nat) "EvenHold$Outlook" "mostOut" "I") ∈ wsG := mG1 101 rfl rfl
theorem kw_102 : (Jvm.Cond.fieldLink "EvenHold" (162 : Nat) "EvenHold$Outlook" "mostOut" "I") ∈ wsG := mG1 102 rfl rfl
theorem kw_103 : (Jvm.Cond.fieldLink "EvenHold$Outlook" (34 : Nat) "EvenHold$Outlook" "knownRead" "I") ∈ wsG := mG1 103 rfl rfl
theorem kw_104 : (Jvm.Cond.fieldLink "EvenHold$Outlook" (37 : Nat) "EvenHold$Outlook" "knownLying" "I") ∈ wsG := mG1 104 rfl rfl
theorem kw_105 : (Jvm.Cond.fieldLink "EvenHold$Outlook" (40 : Nat) "EvenHold$Outlook" "knownTons" "I") ∈ wsG := mG1 105 rfl rfl
theorem kw_106 : (Jvm.Cond.fieldLink "EvenHold$Outlook" (43 : Nat) "EvenHold$Outlook" "knownBend" "I") ∈ wsG := mG1 106 rfl rfl
theorem kw_107 : (Jvm.Cond.laysFinal "EvenHold$Outlook" "EvenHold$Outlook" "minutes" "[I") ∈ wsG := mG1 107 rfl rfl
theorem kw_109 : (Jvm.Cond.laysFinal "EvenHold$Outlook" "EvenHold$Outlook" "first" "[I") ∈ wsG := mG1 109 rfl rfl
theorem kw_111 : (Jvm.Cond.laysFinal "EvenHold$Outlook" "EvenHold$Outlook" "waiting" "[I") ∈ wsG := mG1 111 rfl rfl
theorem kw_113 : (Jvm.Cond.laysFinal "EvenHold$Outlook" "EvenHold$Outlook" "waitingIn" "[I") ∈ wsG := mG1 113 rfl rfl
theorem kw_115 : (Jvm.Cond.lays "EvenHold$Outlook" "EvenHold$Outlook" "waitingInAll" "I") ∈ wsG := mG1 115 rfl rfl
theorem kw_117 : (Jvm.Cond.lays "EvenHold$Outlook" "EvenHold$Outlook" "comeTo" "I") ∈ wsG := mG1 117 rfl rfl
theorem kw_119 : (Jvm.Cond.lays "EvenHold$Outlook" "EvenHold$Outlook" "mostOut" "I") ∈ wsG := mG1 119 rfl rfl
theorem kw_121 : (Jvm.Cond.lays "EvenHold$Outlook" "EvenHold$Outlook" "knownRead" "I") ∈ wsG := mG1 121 rfl rfl
theorem kw_123 : (Jvm.Cond.lays "EvenHold$Outlook" "EvenHold$Outlook" "knownLying" "I") ∈ wsG := mG1 123 rfl rfl
theorem kw_125 : (Jvm.Cond.lays "EvenHold$Outlook" "EvenHold$Outlook" "knownTons" "I") ∈ wsG := mG1 125 rfl rfl
theorem kw_127 : (Jvm.Cond.lays "EvenHold$Outlook" "EvenHold$Outlook" "knownBend" "I") ∈ wsG := mG1 127 rfl rfl
theorem kw_130 : (Jvm.Cond.classLink "EvenHold" (54 : Nat) "EvenHold$Easing") ∈ wsG := mG1 130 rfl rfl
theorem kw_131 : (Jvm.Cond.instantiable "EvenHold$Easing" (2 : Nat)) ∈ wsG := mG1 131 rfl rfl
theorem kw_133 : (Jvm.Cond.instanceMethod ({ cls := "EvenHold$Easing", name := "<init>", desc := "()V" } : Jvm.MethodName)) ∈ wsG := mG1 133 rfl rfl
theorem kw_134 : (Jvm.Cond.code ({ cls := "EvenHold$Easing", name := "<init>", desc := "()V" } : Jvm.MethodName) prog_2_method_1_code (1 : Nat) (Option.none : Option Jvm.ClassFile.FieldType)) ∈ wsG := mG1 134 rfl rfl
theorem kw_135 : (Jvm.Cond.methodLink "EvenHold$Easing" (3 : Nat) ({ cls := "java/lang/Object", name := "<init>", desc := "()V" } : Jvm.MethodName)) ∈ wsG := mG1 135 rfl rfl
theorem kw_136 : (Jvm.Cond.fieldLink "EvenHold$Easing" (9 : Nat) "EvenHold$Easing" "next" "[I") ∈ wsG := mG1 136 rfl rfl
theorem kw_137 : (Jvm.Cond.fieldLink "EvenHold$Easing" (15 : Nat) "EvenHold$Easing" "head" "[I") ∈ wsG := mG1 137 rfl rfl
theorem kw_138 : (Jvm.Cond.laysFinal "EvenHold$Easing" "EvenHold$Easing" "next" "[I") ∈ wsG := mG1 138 rfl rfl
theorem kw_140 : (Jvm.Cond.laysFinal "EvenHold$Easing" "EvenHold$Easing" "head" "[I") ∈ wsG := mG1 140 rfl rfl
theorem kw_143 : (Jvm.Cond.classLink "EvenHold" (61 : Nat) "EvenHold$Fit") ∈ wsG := mG1 143 rfl rfl
theorem kw_144 : (Jvm.Cond.instantiable "EvenHold$Fit" (3 : Nat)) ∈ wsG := mG1 144 rfl rfl
theorem kw_146 : (Jvm.Cond.instanceMethod ({ cls := "EvenHold$Fit", name := "<init>", desc := "()V" } : Jvm.MethodName)) ∈ wsG := mG1 146 rfl rfl
theorem kw_147 : (Jvm.Cond.code ({ cls := "EvenHold$Fit", name := "<init>", desc := "()V" } : Jvm.MethodName) prog_3_method_1_code (1 : Nat) (Option.none : Option Jvm.ClassFile.FieldType)) ∈ wsG := mG1 147 rfl rfl
theorem kw_148 : (Jvm.Cond.methodLink "EvenHold$Fit" (3 : Nat) ({ cls := "java/lang/Object", name := "<init>", desc := "()V" } : Jvm.MethodName)) ∈ wsG := mG1 148 rfl rfl
theorem kw_149 : (Jvm.Cond.fieldLink "EvenHold$Fit" (9 : Nat) "EvenHold$Fit" "rows" "I") ∈ wsG := mG1 149 rfl rfl
theorem kw_150 : (Jvm.Cond.fieldLink "EvenHold" (181 : Nat) "EvenHold$Fit" "rows" "I") ∈ wsG := mG1 150 rfl rfl
theorem kw_151 : (Jvm.Cond.fieldLink "EvenHold$Fit" (15 : Nat) "EvenHold$Fit" "firsts" "I") ∈ wsG := mG1 151 rfl rfl
theorem kw_152 : (Jvm.Cond.fieldLink "EvenHold" (184 : Nat) "EvenHold$Fit" "firsts" "I") ∈ wsG := mG1 152 rfl rfl
theorem kw_153 : (Jvm.Cond.fieldLink "EvenHold$Fit" (18 : Nat) "EvenHold$Fit" "leastFirst" "I") ∈ wsG := mG1 153 rfl rfl
theorem kw_154 : (Jvm.Cond.fieldLink "EvenHold" (187 : Nat) "EvenHold$Fit" "leastFirst" "I") ∈ wsG := mG1 154 rfl rfl
theorem kw_155 : (Jvm.Cond.lays "EvenHold$Fit" "EvenHold$Fit" "rows" "I") ∈ wsG := mG1 155 rfl rfl
theorem kw_157 : (Jvm.Cond.lays "EvenHold$Fit" "EvenHold$Fit" "firsts" "I") ∈ wsG := mG1 157 rfl rfl
theorem kw_159 : (Jvm.Cond.lays "EvenHold$Fit" "EvenHold$Fit" "leastFirst" "I") ∈ wsG := mG1 159 rfl rfl
theorem kw_162 : (Jvm.Cond.fieldLink "EvenHold" (9 : Nat) "EvenHold" "page" "[I") ∈ wsG := mG1 162 rfl rfl
theorem kw_163 : (Jvm.Cond.fieldLink "EvenHold" (13 : Nat) "EvenHold" "letters" "I") ∈ wsG := mG1 163 rfl rfl
theorem kw_164 : (Jvm.Cond.fieldLink "EvenHold" (20 : Nat) "EvenHold" "lighter" "LEvenHold$Lighter;") ∈ wsG := mG1 164 rfl rfl
theorem kw_165 : (Jvm.Cond.fieldLink "EvenHold" (24 : Nat) "EvenHold" "held" "Z") ∈ wsG := mG1 165 rfl rfl
theorem kw_166 : (Jvm.Cond.fieldLink "EvenHold" (31 : Nat) "EvenHold" "now" "LEvenHold$Now;") ∈ wsG := mG1 166 rfl rfl
theorem kw_167 : (Jvm.Cond.fieldLink "EvenHold" (35 : Nat) "EvenHold" "kept" "LEvenHold$Now;") ∈ wsG := mG1 167 rfl rfl
theorem kw_168 : (Jvm.Cond.fieldLink "EvenHold" (38 : Nat) "EvenHold" "isKept" "Z") ∈ wsG := mG1 168 rfl rfl
theorem kw_169 : (Jvm.Cond.fieldLink "EvenHold" (41 : Nat) "EvenHold" "reads" "I") ∈ wsG := mG1 169 rfl rfl
theorem kw_170 : (Jvm.Cond.fieldLink "EvenHold" (44 : Nat) "EvenHold" "easings" "I") ∈ wsG := mG1 170 rfl rfl
theorem kw_171 : (Jvm.Cond.fieldLink "EvenHold" (50 : Nat) "EvenHold" "outlook" "LEvenHold$Outlook;") ∈ wsG := mG1 171 rfl rfl
theorem kw_172 : (Jvm.Cond.fieldLink "EvenHold" (57 : Nat) "EvenHold" "easing" "LEvenHold$Easing;") ∈ wsG := mG1 172 rfl rfl
theorem kw_173 : (Jvm.Cond.fieldLink "EvenHold" (64 : Nat) "EvenHold" "fit" "LEvenHold$Fit;") ∈ wsG := mG1 173 rfl rfl
theorem kw_174 : (Jvm.Cond.laysFinal "EvenHold" "EvenHold" "page" "[I") ∈ wsG := mG1 174 rfl rfl
theorem kw_176 : (Jvm.Cond.lays "EvenHold" "EvenHold" "letters" "I") ∈ wsG := mG1 176 rfl rfl
theorem kw_178 : (Jvm.Cond.laysFinal "EvenHold" "EvenHold" "lighter" "LEvenHold$Lighter;") ∈ wsG := mG1 178 rfl rfl
theorem kw_180 : (Jvm.Cond.lays "EvenHold" "EvenHold" "held" "Z") ∈ wsG := mG1 180 rfl rfl
theorem kw_182 : (Jvm.Cond.laysFinal "EvenHold" "EvenHold" "now" "LEvenHold$Now;") ∈ wsG := mG1 182 rfl rfl
theorem kw_184 : (Jvm.Cond.laysFinal "EvenHold" "EvenHold" "kept" "LEvenHold$Now;") ∈ wsG := mG1 184 rfl rfl
theorem kw_186 : (Jvm.Cond.lays "EvenHold" "EvenHold" "isKept" "Z") ∈ wsG := mG1 186 rfl rfl
theorem kw_188 : (Jvm.Cond.lays "EvenHold" "EvenHold" "reads" "I") ∈ wsG := mG1 188 rfl rfl
theorem kw_190 : (Jvm.Cond.lays "EvenHold" "EvenHold" "easings" "I") ∈ wsG := mG1 190 rfl rfl
theorem kw_192 : (Jvm.Cond.laysFinal "EvenHold" "EvenHold" "outlook" "LEvenHold$Outlook;") ∈ wsG := mG1 192 rfl rfl
theorem kw_194 : (Jvm.Cond.laysFinal "EvenHold" "EvenHold" "easing" "LEvenHold$Easing;") ∈ wsG := mG1 194 rfl rfl
theorem kw_196 : (Jvm.Cond.laysFinal "EvenHold" "EvenHold" "fit" "LEvenHold$Fit;") ∈ wsG := mG1 196 rfl rfl
theorem kw_199 : (Jvm.Cond.methodLink "EvenHoldLaw" (13 : Nat) ({ cls := "EvenHold", name := "letter", desc := "(I)I" } : Jvm.MethodName)) ∈ wsG := mG1 199 rfl rfl
theorem kw_200 : (Jvm.Cond.instanceMethod ({ cls := "EvenHold", name := "letter", desc := "(I)I" } : Jvm.MethodName)) ∈ wsG := mG1 200 rfl rfl
theorem kw_201 : (Jvm.Cond.selects "EvenHold" ({ cls := "EvenHold", name := "letter", desc := "(I)I" } : Jvm.MethodName) ({ cls := "EvenHold", name := "letter", desc := "(I)I" } : Jvm.MethodName)) ∈ wsG := mG1 201 rfl rfl
theorem kw_202 : (Jvm.Cond.code ({ cls := "EvenHold", name := "letter", desc := "(I)I" } : Jvm.MethodName) prog_1_method_2_code (2 : Nat) (Option.some Jvm.ClassFile.FieldType.int)) ∈ wsG := mG1 202 rfl rfl
theorem kw_203 : (Jvm.Cond.methodLink "EvenHoldLaw" (18 : Nat) ({ cls := "EvenHold", name := "blank", desc := "()I" } : Jvm.MethodName)) ∈ wsG := mG1 203 rfl rfl
theorem kw_204 : (Jvm.Cond.instanceMethod ({ cls := "EvenHold", name := "blank", desc := "()I" } : Jvm.MethodName)) ∈ wsG := mG1 204 rfl rfl
theorem kw_205 : (Jvm.Cond.selects "EvenHold" ({ cls := "EvenHold", name := "blank", desc := "()I" } : Jvm.MethodName) ({ cls := "EvenHold", name := "blank", desc := "()I" } : Jvm.MethodName)) ∈ wsG := mG1 205 rfl rfl
theorem kw_206 : (Jvm.Cond.code ({ cls := "EvenHold", name := "blank", desc := "()I" } : Jvm.MethodName) prog_1_method_3_code (2 : Nat) (Option.some Jvm.ClassFile.FieldType.int)) ∈ wsG := mG1 206 rfl rfl
theorem kw_207 : (Jvm.Cond.methodLink "EvenHoldLaw" (23 : Nat) ({ cls := "EvenHold", name := "fault", desc := "()I" } : Jvm.MethodName)) ∈ wsG := mG1 207 rfl rfl
theorem kw_208 : (Jvm.Cond.instanceMethod ({ cls := "EvenHold", name := "fault", desc := "()I" } : Jvm.MethodName)) ∈ wsG := mG1 208 rfl rfl
theorem kw_209 : (Jvm.Cond.selects "EvenHold" ({ cls := "EvenHold", name := "fault", desc := "()I" } : Jvm.MethodName) ({ cls := "EvenHold", name := "fault", desc := "()I" } : Jvm.MethodName)) ∈ wsG := mG1 209 rfl rfl
theorem kw_210 : (Jvm.Cond.code ({ cls := "EvenHold", name := "fault", desc := "()I" } : Jvm.MethodName) prog_1_method_4_code (2 : Nat) (Option.some Jvm.ClassFile.FieldType.int)) ∈ wsG := mG1 210 rfl rfl
theorem kw_211 : (Jvm.Cond.methodLink "EvenHold" (68 : Nat) ({ cls := "EvenHold", name := "isOfForm", desc := "(II)Z" } : Jvm.MethodName)) ∈ wsG := mG1 211 rfl rfl
theorem kw_212 : (Jvm.Cond.static ({ cls := "EvenHold", name := "isOfForm", desc := "(II)Z" } : Jvm.MethodName)) ∈ wsG := mG1 212 rfl rfl
theorem kw_213 : (Jvm.Cond.code ({ cls := "EvenHold", name := "isOfForm", desc := "(II)Z" } : Jvm.MethodName) prog_1_method_27_code (3 : Nat) (Option.some Jvm.ClassFile.FieldType.boolean)) ∈ wsG := mG1 213 rfl rfl
theorem kw_215 : (Jvm.Cond.methodLink "EvenHold" (74 : Nat) ({ cls := "java/lang/String", name := "length", desc := "()I" } : Jvm.MethodName)) ∈ wsG := mG1 215 rfl rfl
theorem kw_216 : (Jvm.Cond.instanceMethod ({ cls := "java/lang/String", name := "length", desc := "()I" } : Jvm.MethodName)) ∈ wsG := mG1 216 rfl rfl
theorem kw_217 : (Jvm.Cond.selects "java/lang/String" ({ cls := "java/lang/String", name := "length", desc := "()I" } : Jvm.MethodName) ({ cls := "java/lang/String", name := "length", desc := "()I" } : Jvm.MethodName)) ∈ wsG := mG1 217 rfl rfl
theorem kw_218 : (Jvm.Cond.code ({ cls := "java/lang/String", name := "length", desc := "()I" } : Jvm.MethodName) prog_11_method_54_code (1 : Nat) (Option.some Jvm.ClassFile.FieldType.int)) ∈ wsG := mG1 218 rfl rfl
theorem kw_219 : (Jvm.Cond.methodLink "java/lang/String" (335 : Nat) ({ cls := "java/lang/String", name := "coder", desc := "()B" } : Jvm.MethodName)) ∈ wsG := mG1 219 rfl rfl
theorem kw_220 : (Jvm.Cond.instanceMethod ({ cls := "java/lang/String", name := "coder", desc := "()B" } : Jvm.MethodName)) ∈ wsG := mG1 220 rfl rfl
theorem kw_221 : (Jvm.Cond.selects "java/lang/String" ({ cls := "java/lang/String", name := "coder", desc := "()B" } : Jvm.MethodName) ({ cls := "java/lang/String", name := "coder", desc := "()B" } : Jvm.MethodName)) ∈ wsG := mG1 221 rfl rfl
theorem kw_222 : (Jvm.Cond.code ({ cls := "java/lang/String", name := "coder", desc := "()B" } : Jvm.MethodName) prog_11_method_152_code (1 : Nat) (Option.some Jvm.ClassFile.FieldType.byte)) ∈ wsG := mG1 222 rfl rfl
theorem kw_223 : (Jvm.Cond.fieldLink "java/lang/String" (38 : Nat) "java/lang/String" "COMPACT_STRINGS" "Z") ∈ wsG := mG1 223 rfl rfl
theorem kw_225 : (Jvm.Cond.methodLink "EvenHold" (233 : Nat) ({ cls := "java/lang/String", name := "charAt", desc := "(I)C" } : Jvm.MethodName)) ∈ wsG := mG1 225 rfl rfl
theorem kw_226 : (Jvm.Cond.instanceMethod ({ cls := "java/lang/String", name := "charAt", desc := "(I)C" } : Jvm.MethodName)) ∈ wsG := mG1 226 rfl rfl
theorem kw_227 : (Jvm.Cond.selects "java/lang/String" ({ cls := "java/lang/String", name := "charAt", desc := "(I)C" } : Jvm.MethodName) ({ cls := "java/lang/String", name := "charAt", desc := "(I)C" } : Jvm.MethodName)) ∈ wsG := mG1 227 rfl rfl
theorem kw_228 : (Jvm.Cond.code ({ cls := "java/lang/String", name := "charAt", desc := "(I)C" } : Jvm.MethodName) prog_11_method_56_code (2 : Nat) (Option.some Jvm.ClassFile.FieldType.char)) ∈ wsG := mG1 228 rfl rfl
theorem kw_229 : (Jvm.Cond.methodLink "java/lang/String" (492 : Nat) ({ cls := "java/lang/String", name := "isLatin1", desc := "()Z" } : Jvm.MethodName)) ∈ wsG := mG1 229 rfl rfl
theorem kw_230 : (Jvm.Cond.instanceMethod ({ cls := "java/lang/String", name := "isLatin1", desc := "()Z" } : Jvm.MethodName)) ∈ wsG := mG1 230 rfl rfl
theorem kw_231 : (Jvm.Cond.selects "java/lang/String" ({ cls := "java/lang/String", name := "isLatin1", desc := "()Z" } : Jvm.MethodName) ({ cls := "java/lang/String", name := "isLatin1", desc := "()Z" } : Jvm.MethodName)) ∈ wsG := mG1 231 rfl rfl
theorem kw_232 : (Jvm.Cond.code ({ cls := "java/lang/String", name := "isLatin1", desc := "()Z" } : Jvm.MethodName) prog_11_method_154_code (1 : Nat) (Option.some Jvm.ClassFile.FieldType.boolean)) ∈ wsG := mG1 232 rfl rfl
theorem kw_233 : (Jvm.Cond.methodLink "java/lang/String" (495 : Nat) ({ cls := "java/lang/StringLatin1", name := "charAt", desc := "([BI)C" } : Jvm.MethodName)) ∈ wsG := mG1 233 rfl rfl
theorem kw_234 : (Jvm.Cond.static ({ cls := "java/lang/StringLatin1", name := "charAt", desc := "([BI)C" } : Jvm.MethodName)) ∈ wsG := mG1 234 rfl rfl
theorem kw_235 : (Jvm.Cond.code ({ cls := "java/lang/StringLatin1", name := "charAt", desc := "([BI)C" } : Jvm.MethodName) prog_12_method_2_code (2 : Nat) (Option.some Jvm.ClassFile.FieldType.char)) ∈ wsG := mG1 235 rfl rfl
theorem kw_236 : (Jvm.Cond.methodLink "java/lang/StringLatin1" (9 : Nat) ({ cls := "java/lang/String", name := "checkIndex", desc := "(II)V" } : Jvm.MethodName)) ∈ wsG := mG1 236 rfl rfl
theorem kw_237 : (Jvm.Cond.static ({ cls := "java/lang/String", name := "checkIndex", desc := "(II)V" } : Jvm.MethodName)) ∈ wsG := mG1 237 rfl rfl
theorem kw_238 : (Jvm.Cond.code ({ cls := "java/lang/String", name := "checkIndex", desc := "(II)V" } : Jvm.MethodName) prog_11_method_155_code (2 : Nat) (Option.none : Option Jvm.ClassFile.FieldType)) ∈ wsG := mG1 238 rfl rfl
theorem kw_239 : (Jvm.Cond.fieldLink "java/lang/String" (1053 : Nat) "jdk/internal/util/Preconditions" "SIOOBE_FORMATTER" "Ljava/util/function/BiFunction;") ∈ wsG := mG1 239 rfl rfl
theorem kw_241 : (Jvm.Cond.methodLink "java/lang/String" (1059 : Nat) ({ cls := "jdk/internal/util/Preconditions", name := "checkIndex", desc := "(IILjava/util/function/BiFunction;)I" } : Jvm.MethodName)) ∈ wsG := mG2 1 rfl rfl
theorem kw_242 : (Jvm.Cond.static ({ cls := "jdk/internal/util/Preconditions", name := "checkIndex", desc := "(IILjava/util/function/BiFunction;)I" } : Jvm.MethodName)) ∈ wsG := mG2 2 rfl rfl
theorem kw_243 : (Jvm.Cond.code ({ cls := "jdk/internal/util/Preconditions", name := "checkIndex", desc := "(IILjava/util/function/BiFunction;)I" } : Jvm.MethodName) prog_15_method_11_code (3 : Nat) (Option.some Jvm.ClassFile.FieldType.int)) ∈ wsG := mG2 3 rfl rfl
theorem kw_244 : (Jvm.Cond.methodLink "java/lang/String" (498 : Nat) ({ cls := "java/lang/StringUTF16", name := "charAt", desc := "([BI)C" } : Jvm.MethodName)) ∈ wsG := mG2 4 rfl rfl
theorem kw_245 : (Jvm.Cond.static ({ cls := "java/lang/StringUTF16", name := "charAt", desc := "([BI)C" } : Jvm.MethodName)) ∈ wsG := mG2 5 rfl rfl
theorem kw_246 : (Jvm.Cond.code ({ cls := "java/lang/StringUTF16", name := "charAt", desc := "([BI)C" } : Jvm.MethodName) prog_13_method_83_code (2 : Nat) (Option.some Jvm.ClassFile.FieldType.char)) ∈ wsG := mG2 6 rfl rfl
theorem kw_247 : (Jvm.Cond.methodLink "java/lang/StringUTF16" (67 : Nat) ({ cls := "java/lang/StringUTF16", name := "checkIndex", desc := "(I[B)V" } : Jvm.MethodName)) ∈ wsG := mG2 7 rfl rfl
theorem kw_248 : (Jvm.Cond.static ({ cls := "java/lang/StringUTF16", name := "checkIndex", desc := "(I[B)V" } : Jvm.MethodName)) ∈ wsG := mG2 8 rfl rfl
theorem kw_249 : (Jvm.Cond.code ({ cls := "java/lang/StringUTF16", name := "checkIndex", desc := "(I[B)V" } : Jvm.MethodName) prog_13_method_91_code (2 : Nat) (Option.none : Option Jvm.ClassFile.FieldType)) ∈ wsG := mG2 9 rfl rfl
theorem kw_250 : (Jvm.Cond.methodLink "java/lang/StringUTF16" (48 : Nat) ({ cls := "java/lang/StringUTF16", name := "length", desc := "([B)I" } : Jvm.MethodName)) ∈ wsG := mG2 10 rfl rfl
theorem kw_251 : (Jvm.Cond.static ({ cls := "java/lang/StringUTF16", name := "length", desc := "([B)I" } : Jvm.MethodName)) ∈ wsG := mG2 11 rfl rfl
theorem kw_252 : (Jvm.Cond.code ({ cls := "java/lang/StringUTF16", name := "length", desc := "([B)I" } : Jvm.MethodName) prog_13_method_6_code (1 : Nat) (Option.some Jvm.ClassFile.FieldType.int)) ∈ wsG := mG2 12 rfl rfl
theorem kw_253 : (Jvm.Cond.methodLink "java/lang/StringUTF16" (414 : Nat) ({ cls := "java/lang/String", name := "checkIndex", desc := "(II)V" } : Jvm.MethodName)) ∈ wsG := mG2 13 rfl rfl
theorem kw_254 : (Jvm.Cond.methodLink "java/lang/StringUTF16" (71 : Nat) ({ cls := "java/lang/StringUTF16", name := "getChar", desc := "([BI)C" } : Jvm.MethodName)) ∈ wsG := mG2 14 rfl rfl
theorem kw_255 : (Jvm.Cond.static ({ cls := "java/lang/StringUTF16", name := "getChar", desc := "([BI)C" } : Jvm.MethodName)) ∈ wsG := mG2 15 rfl rfl
theorem kw_256 : (Jvm.Cond.code ({ cls := "java/lang/StringUTF16", name := "getChar", desc := "([BI)C" } : Jvm.MethodName) prog_13_method_5_code (2 : Nat) (Option.some Jvm.ClassFile.FieldType.char)) ∈ wsG := mG2 16 rfl rfl
theorem kw_257 : (Jvm.Cond.fieldLink "java/lang/StringUTF16" (44 : Nat) "java/lang/StringUTF16" "$assertionsDisabled" "Z") ∈ wsG := mG2 17 rfl rfl
theorem kw_259 : (Jvm.Cond.fieldLink "java/lang/StringUTF16" (59 : Nat) "java/lang/StringUTF16" "HI_BYTE_SHIFT" "I") ∈ wsG := mG2 19 rfl rfl
theorem kw_261 : (Jvm.Cond.fieldLink "java/lang/StringUTF16" (63 : Nat) "java/lang/StringUTF16" "LO_BYTE_SHIFT" "I") ∈ wsG := mG2 21 rfl rfl
theorem kw_264 : (Jvm.Cond.methodLink "EvenHold" (237 : Nat) ({ cls := "java/lang/String", name := "indexOf", desc := "(I)I" } : Jvm.MethodName)) ∈ wsG := mG2 24 rfl rfl
theorem kw_265 : (Jvm.Cond.instanceMethod ({ cls := "java/lang/String", name := "indexOf", desc := "(I)I" } : Jvm.MethodName)) ∈ wsG := mG2 25 rfl rfl
theorem kw_266 : (Jvm.Cond.selects "java/lang/String" ({ cls := "java/lang/String", name := "indexOf", desc := "(I)I" } : Jvm.MethodName) ({ cls := "java/lang/String", name := "indexOf", desc := "(I)I" } : Jvm.MethodName)) ∈ wsG := mG2 26 rfl rfl
theorem kw_267 : (Jvm.Cond.code ({ cls := "java/lang/String", name := "indexOf", desc := "(I)I" } : Jvm.MethodName) prog_11_method_79_code (2 : Nat) (Option.some Jvm.ClassFile.FieldType.int)) ∈ wsG := mG2 27 rfl rfl
theorem kw_268 : (Jvm.Cond.methodLink "java/lang/String" (633 : Nat) ({ cls := "java/lang/String", name := "indexOf", desc := "(II)I" } : Jvm.MethodName)) ∈ wsG := mG2 28 rfl rfl
theorem kw_269 : (Jvm.Cond.instanceMethod ({ cls := "java/lang/String", name := "indexOf", desc := "(II)I" } : Jvm.MethodName)) ∈ wsG := mG2 29 rfl rfl
theorem kw_270 : (Jvm.Cond.selects "java/lang/String" ({ cls := "java/lang/String", name := "indexOf", desc := "(II)I" } : Jvm.MethodName) ({ cls := "java/lang/String", name := "indexOf", desc := "(II)I" } : Jvm.MethodName)) ∈ wsG := mG2 30 rfl rfl
theorem kw_271 : (Jvm.Cond.code ({ cls := "java/lang/String", name := "indexOf", desc := "(II)I" } : Jvm.MethodName) prog_11_method_80_code (3 : Nat) (Option.some Jvm.ClassFile.FieldType.int)) ∈ wsG := mG2 31 rfl rfl
theorem kw_272 : (Jvm.Cond.methodLink "java/lang/String" (505 : Nat) ({ cls := "java/lang/String", name := "length", desc := "()I" } : Jvm.MethodName)) ∈ wsG := mG2 32 rfl rfl
theorem kw_273 : (Jvm.Cond.methodLink "java/lang/String" (637 : Nat) ({ cls := "java/lang/StringLatin1", name := "indexOf", desc := "([BIII)I" } : Jvm.MethodName)) ∈ wsG := mG2 33 rfl rfl
theorem kw_274 : (Jvm.Cond.static ({ cls := "java/lang/StringLatin1", name := "indexOf", desc := "([BIII)I" } : Jvm.MethodName)) ∈ wsG := mG2 34 rfl rfl
theorem kw_275 : (Jvm.Cond.code ({ cls := "java/lang/StringLatin1", name := "indexOf", desc := "([BIII)I" } : Jvm.MethodName) prog_12_method_22_code (4 : Nat) (Option.some Jvm.ClassFile.FieldType.int)) ∈ wsG := mG2 35 rfl rfl
theorem kw_276 : (Jvm.Cond.methodLink "java/lang/StringLatin1" (88 : Nat) ({ cls := "java/lang/StringLatin1", name := "canEncode", desc := "(I)Z" } : Jvm.MethodName)) ∈ wsG := mG2 36 rfl rfl
theorem kw_277 : (Jvm.Cond.static ({ cls := "java/lang/StringLatin1", name := "canEncode", desc := "(I)Z" } : Jvm.MethodName)) ∈ wsG := mG2 37 rfl rfl
theorem kw_278 : (Jvm.Cond.code ({ cls := "java/lang/StringLatin1", name := "canEncode", desc := "(I)Z" } : Jvm.MethodName) prog_12_method_4_code (1 : Nat) (Option.some Jvm.ClassFile.FieldType.boolean)) ∈ wsG := mG2 38 rfl rfl
theorem kw_279 : (Jvm.Cond.methodLink "java/lang/StringLatin1" (92 : Nat) ({ cls := "java/lang/Math", name := "max", desc := "(II)I" } : Jvm.MethodName)) ∈ wsG := mG2 39 rfl rfl
theorem kw_280 : (Jvm.Cond.static ({ cls := "java/lang/Math", name := "max", desc := "(II)I" } : Jvm.MethodName)) ∈ wsG := mG2 40 rfl rfl
theorem kw_281 : (Jvm.Cond.code ({ cls := "java/lang/Math", name := "max", desc := "(II)I" } : Jvm.MethodName) prog_10_method_65_code (2 : Nat) (Option.some Jvm.ClassFile.FieldType.int)) ∈ wsG := mG2 41 rfl rfl
theorem kw_282 : (Jvm.Cond.methodLink "java/lang/StringLatin1" (38 : Nat) ({ cls := "java/lang/Math", name := "min", desc := "(II)I" } : Jvm.MethodName)) ∈ wsG := mG2 42 rfl rfl
theorem kw_283 : (Jvm.Cond.static ({ cls := "java/lang/Math", name := "min", desc := "(II)I" } : Jvm.MethodName)) ∈ wsG := mG2 43 rfl rfl
theorem kw_284 : (Jvm.Cond.code ({ cls := "java/lang/Math", name := "min", desc := "(II)I" } : Jvm.MethodName) prog_10_method_69_code (2 : Nat) (Option.some Jvm.ClassFile.FieldType.int)) ∈ wsG := mG2 44 rfl rfl
theorem kw_285 : (Jvm.Cond.methodLink "java/lang/StringLatin1" (95 : Nat) ({ cls := "java/lang/StringLatin1", name := "indexOfChar", desc := "([BIII)I" } : Jvm.MethodName)) ∈ wsG := mG2 45 rfl rfl
theorem kw_286 : (Jvm.Cond.static ({ cls := "java/lang/StringLatin1", name := "indexOfChar", desc := "([BIII)I" } : Jvm.MethodName)) ∈ wsG := mG2 46 rfl rfl
theorem kw_287 : (Jvm.Cond.code ({ cls := "java/lang/StringLatin1", name := "indexOfChar", desc := "([BIII)I" } : Jvm.MethodName) prog_12_method_23_code (6 : Nat) (Option.some Jvm.ClassFile.FieldType.int)) ∈ wsG := mG2 47 rfl rfl
theorem kw_288 : (Jvm.Cond.methodLink "java/lang/String" (640 : Nat) ({ cls := "java/lang/StringUTF16", name := "indexOf", desc := "([BIII)I" } : Jvm.MethodName)) ∈ wsG := mG2 48 rfl rfl
theorem kw_289 : (Jvm.Cond.static ({ cls := "java/lang/StringUTF16", name := "indexOf", desc := "([BIII)I" } : Jvm.MethodName)) ∈ wsG := mG2 49 rfl rfl
theorem kw_290 : (Jvm.Cond.code ({ cls := "java/lang/StringUTF16", name := "indexOf", desc := "([BIII)I" } : Jvm.MethodName) prog_13_method_40_code (4 : Nat) (Option.some Jvm.ClassFile.FieldType.int)) ∈ wsG := mG2 50 rfl rfl
theorem kw_291 : (Jvm.Cond.methodLink "java/lang/StringUTF16" (224 : Nat) ({ cls := "java/lang/Math", name := "max", desc := "(II)I" } : Jvm.MethodName)) ∈ wsG := mG2 51 rfl rfl
theorem kw_292 : (Jvm.Cond.methodLink "java/lang/StringUTF16" (183 : Nat) ({ cls := "java/lang/Math", name := "min", desc := "(II)I" } : Jvm.MethodName)) ∈ wsG := mG2 52 rfl rfl
theorem kw_293 : (Jvm.Cond.constant "java/lang/StringUTF16" (227 : Nat) (65536 : Int32)) ∈ wsG := mG2 53 rfl rfl
theorem kw_294 : (Jvm.Cond.methodLink "java/lang/StringUTF16" (228 : Nat) ({ cls := "java/lang/StringUTF16", name := "indexOfChar", desc := "([BIII)I" } : Jvm.MethodName)) ∈ wsG := mG2 54 rfl rfl
theorem kw_295 : (Jvm.Cond.static ({ cls := "java/lang/StringUTF16", name := "indexOfChar", desc := "([BIII)I" } : Jvm.MethodName)) ∈ wsG := mG2 55 rfl rfl
theorem kw_296 : (Jvm.Cond.code ({ cls := "java/lang/StringUTF16", name := "indexOfChar", desc := "([BIII)I" } : Jvm.MethodName) prog_13_method_47_code (4 : Nat) (Option.some Jvm.ClassFile.FieldType.int)) ∈ wsG := mG2 56 rfl rfl
theorem kw_297 : (Jvm.Cond.methodLink "java/lang/StringUTF16" (96 : Nat) ({ cls := "java/lang/StringUTF16", name := "checkBoundsBeginEnd", desc := "(II[B)V" } : Jvm.MethodName)) ∈ wsG := mG2 57 rfl rfl
theorem kw_298 : (Jvm.Cond.static ({ cls := "java/lang/StringUTF16", name := "checkBoundsBeginEnd", desc := "(II[B)V" } : Jvm.MethodName)) ∈ wsG := mG2 58 rfl rfl
theorem kw_299 : (Jvm.Cond.code ({ cls := "java/lang/StringUTF16", name := "checkBoundsBeginEnd", desc := "(II[B)V" } : Jvm.MethodName) prog_13_method_93_code (3 : Nat) (Option.none : Option Jvm.ClassFile.FieldType)) ∈ wsG := mG2 59 rfl rfl
theorem kw_300 : (Jvm.Cond.methodLink "java/lang/StringUTF16" (241 : Nat) ({ cls := "java/lang/String", name := "checkBoundsBeginEnd", desc := "(III)V" } : Jvm.MethodName)) ∈ wsG := mG2 60 rfl rfl
theorem kw_301 : (Jvm.Cond.static ({ cls := "java/lang/String", name := "checkBoundsBeginEnd", desc := "(III)V" } : Jvm.MethodName)) ∈ wsG := mG2 61 rfl rfl
theorem kw_302 : (Jvm.Cond.code ({ cls := "java/lang/String", name := "checkBoundsBeginEnd", desc := "(III)V" } : Jvm.MethodName) prog_11_method_158_code (3 : Nat) (Option.none : Option Jvm.ClassFile.FieldType)) ∈ wsG := mG2 62 rfl rfl
theorem kw_303 : (Jvm.Cond.methodLink "java/lang/String" (1062 : Nat) ({ cls := "jdk/internal/util/Preconditions", name := "checkFromToIndex", desc := "(IIILjava/util/function/BiFunction;)I" } : Jvm.MethodName)) ∈ wsG := mG2 63 rfl rfl
theorem kw_304 : (Jvm.Cond.static ({ cls := "jdk/internal/util/Preconditions", name := "checkFromToIndex", desc := "(IIILjava/util/function/BiFunction;)I" } : Jvm.MethodName)) ∈ wsG := mG2 64 rfl rfl
theorem kw_305 : (Jvm.Cond.code ({ cls := "jdk/internal/util/Preconditions", name := "checkFromToIndex", desc := "(IIILjava/util/function/BiFunction;)I" } : Jvm.MethodName) prog_15_method_12_code (4 : Nat) (Option.some Jvm.ClassFile.FieldType.int)) ∈ wsG := mG2 65 rfl rfl
theorem kw_306 : (Jvm.Cond.methodLink "java/lang/StringUTF16" (244 : Nat) ({ cls := "java/lang/StringUTF16", name := "indexOfCharUnsafe", desc := "([BIII)I" } : Jvm.MethodName)) ∈ wsG := mG2 66 rfl rfl
theorem kw_307 : (Jvm.Cond.static ({ cls := "java/lang/StringUTF16", name := "indexOfCharUnsafe", desc := "([BIII)I" } : Jvm.MethodName)) ∈ wsG := mG2 67 rfl rfl
theorem kw_308 : (Jvm.Cond.code ({ cls := "java/lang/StringUTF16", name := "indexOfCharUnsafe", desc := "([BIII)I" } : Jvm.MethodName) prog_13_method_48_code (5 : Nat) (Option.some Jvm.ClassFile.FieldType.int)) ∈ wsG := mG2 68 rfl rfl
theorem kw_309 : (Jvm.Cond.methodLink "java/lang/StringUTF16" (232 : Nat) ({ cls := "java/lang/StringUTF16", name := "indexOfSupplementary", desc := "([BIII)I" } : Jvm.MethodName)) ∈ wsG := mG2 69 rfl rfl
theorem kw_310 : (Jvm.Cond.static ({ cls := "java/lang/StringUTF16", name := "indexOfSupplementary", desc := "([BIII)I" } : Jvm.MethodName)) ∈ wsG := mG2 70 rfl rfl
theorem kw_311 : (Jvm.Cond.code ({ cls := "java/lang/StringUTF16", name := "indexOfSupplementary", desc := "([BIII)I" } : Jvm.MethodName) prog_13_method_49_code (7 : Nat) (Option.some Jvm.ClassFile.FieldType.int)) ∈ wsG := mG2 71 rfl rfl
theorem kw_312 : (Jvm.Cond.methodLink "java/lang/StringUTF16" (164 : Nat) ({ cls := "java/lang/Character", name := "isValidCodePoint", desc := "(I)Z" } : Jvm.MethodName)) ∈ wsG := mG2 72 rfl rfl
theorem kw_313 : (Jvm.Cond.static ({ cls := "java/lang/Character", name := "isValidCodePoint", desc := "(I)Z" } : Jvm.MethodName)) ∈ wsG := mG2 73 rfl rfl
theorem kw_314 : (Jvm.Cond.code ({ cls := "java/lang/Character", name := "isValidCodePoint", desc := "(I)Z" } : Jvm.MethodName) prog_9_method_11_code (2 : Nat) (Option.some Jvm.ClassFile.FieldType.boolean)) ∈ wsG := mG2 74 rfl rfl
theorem kw_315 : (Jvm.Cond.methodLink "java/lang/StringUTF16" (157 : Nat) ({ cls := "java/lang/Character", name := "highSurrogate", desc := "(I)C" } : Jvm.MethodName)) ∈ wsG := mG2 75 rfl rfl
theorem kw_316 : (Jvm.Cond.static ({ cls := "java/lang/Character", name := "highSurrogate", desc := "(I)C" } : Jvm.MethodName)) ∈ wsG := mG2 76 rfl rfl
theorem kw_317 : (Jvm.Cond.code ({ cls := "java/lang/Character", name := "highSurrogate", desc := "(I)C" } : Jvm.MethodName) prog_9_method_28_code (1 : Nat) (Option.some Jvm.ClassFile.FieldType.char)) ∈ wsG := mG2 77 rfl rfl
theorem kw_318 : (Jvm.Cond.constant "java/lang/Character" (110 : Nat) (55232 : Int32)) ∈ wsG := mG2 78 rfl rfl
theorem kw_319 : (Jvm.Cond.methodLink "java/lang/StringUTF16" (161 : Nat) ({ cls := "java/lang/Character", name := "lowSurrogate", desc := "(I)C" } : Jvm.MethodName)) ∈ wsG := mG2 79 rfl rfl
theorem kw_320 : (Jvm.Cond.static ({ cls := "java/lang/Character", name := "lowSurrogate", desc := "(I)C" } : Jvm.MethodName)) ∈ wsG := mG2 80 rfl rfl
theorem kw_321 : (Jvm.Cond.code ({ cls := "java/lang/Character", name := "lowSurrogate", desc := "(I)C" } : Jvm.MethodName) prog_9_method_29_code (1 : Nat) (Option.some Jvm.ClassFile.FieldType.char)) ∈ wsG := mG2 81 rfl rfl
theorem kw_322 : (Jvm.Cond.constant "java/lang/Character" (76 : Nat) (56320 : Int32)) ∈ wsG := mG2 82 rfl rfl
theorem kw_323 : (Jvm.Cond.arrayClass Jvm.ClassFile.FieldType.byte) ∈ wsG := mG2 83 rfl rfl
theorem kw_324 : (Jvm.Cond.methodLink "EvenHoldLaw" (27 : Nat) ({ cls := "EvenHold", name := "hold", desc := "()I" } : Jvm.MethodName)) ∈ wsG := mG2 84 rfl rfl
theorem kw_325 : (Jvm.Cond.instanceMethod ({ cls := "EvenHold", name := "hold", desc := "()I" } : Jvm.MethodName)) ∈ wsG := mG2 85 rfl rfl
theorem kw_326 : (Jvm.Cond.selects "EvenHold" ({ cls := "EvenHold", name := "hold", desc := "()I" } : Jvm.MethodName) ({ cls := "EvenHold", name := "hold", desc := "()I" } : Jvm.MethodName)) ∈ wsG := mG2 86 rfl rfl
theorem kw_327 : (Jvm.Cond.code ({ cls := "EvenHold", name := "hold", desc := "()I" } : Jvm.MethodName) prog_1_method_5_code (1 : Nat) (Option.some Jvm.ClassFile.FieldType.int)) ∈ wsG := mG2 87 rfl rfl
theorem kw_328 : (Jvm.Cond.methodLink "EvenHold" (80 : Nat) ({ cls := "EvenHold", name := "fault", desc := "()I" } : Jvm.MethodName)) ∈ wsG := mG2 88 rfl rfl
theorem kw_329 : (Jvm.Cond.methodLink "EvenHold" (83 : Nat) ({ cls := "EvenHold$Now", name := "clear", desc := "()V" } : Jvm.MethodName)) ∈ wsG := mG2 89 rfl rfl
theorem kw_330 : (Jvm.Cond.instanceMethod ({ cls := "EvenHold$Now", name := "clear", desc := "()V" } : Jvm.MethodName)) ∈ wsG := mG2 90 rfl rfl
theorem kw_331 : (Jvm.Cond.selects "EvenHold$Now" ({ cls := "EvenHold$Now", name := "clear", desc := "()V" } : Jvm.MethodName) ({ cls := "EvenHold$Now", name := "clear", desc := "()V" } : Jvm.MethodName)) ∈ wsG := mG2 91 rfl rfl
theorem kw_332 : (Jvm.Cond.code ({ cls := "EvenHold$Now", name := "clear", desc := "()V" } : Jvm.MethodName) prog_5_method_2_code (1 : Nat) (Option.none : Option Jvm.ClassFile.FieldType)) ∈ wsG := mG2 92 rfl rfl
theorem kw_333 : (Jvm.Cond.methodLink "EvenHold" (86 : Nat) ({ cls := "EvenHold", name := "readPage", desc := "()I" } : Jvm.MethodName)) ∈ wsG := mG2 93 rfl rfl
theorem kw_335 : (Jvm.Cond.instanceMethod ({ cls := "EvenHold", name := "readPage", desc := "()I" } : Jvm.MethodName)) ∈ wsG := mG2 95 rfl rfl
theorem kw_336 : (Jvm.Cond.code ({ cls := "EvenHold", name := "readPage", desc := "()I" } : Jvm.MethodName) prog_1_method_28_code (3 : Nat) (Option.some Jvm.ClassFile.FieldType.int)) ∈ wsG := mG2 96 rfl rfl
theorem kw_337 : (Jvm.Cond.methodLink "EvenHold" (103 : Nat) ({ cls := "EvenHold", name := "at", desc := "([II)I" } : Jvm.MethodName)) ∈ wsG := mG2 97 rfl rfl
theorem kw_338 : (Jvm.Cond.static ({ cls := "EvenHold", name := "at", desc := "([II)I" } : Jvm.MethodName)) ∈ wsG := mG2 98 rfl rfl
theorem kw_339 : (Jvm.Cond.code ({ cls := "EvenHold", name := "at", desc := "([II)I" } : Jvm.MethodName) prog_1_method_34_code (2 : Nat) (Option.some Jvm.ClassFile.FieldType.int)) ∈ wsG := mG2 99 rfl rfl
theorem kw_340 : (Jvm.Cond.methodLink "EvenHold" (240 : Nat) ({ cls := "EvenHold$Lighter", name := "setKind", desc := "(II)V" } : Jvm.MethodName)) ∈ wsG := mG2 100 rfl rfl
theorem kw_341 : (Jvm.Cond.instanceMethod ({ cls := "EvenHold$Lighter", name := "setKind", desc := "(II)V" } : Jvm.MethodName)) ∈ wsG := mG2 101 rfl rfl
theorem kw_342 : (Jvm.Cond.selects "EvenHold$Lighter" ({ cls := "EvenHold$Lighter", name := "setKind", desc := "(II)V" } : Jvm.MethodName) ({ cls := "EvenHold$Lighter", name := "setKind", desc := "(II)V" } : Jvm.MethodName)) ∈ wsG := mG2 102 rfl rfl
theorem kw_343 : (Jvm.Cond.code ({ cls := "EvenHold$Lighter", name := "setKind", desc := "(II)V" } : Jvm.MethodName) prog_4_method_2_code (3 : Nat) (Option.none : Option Jvm.ClassFile.FieldType)) ∈ wsG := mG2 103 rfl rfl
theorem kw_349 : (Jvm.Cond.methodLink "EvenHold" (244 : Nat) ({ cls := "EvenHold", name := "digitAt", desc := "(I)I" } : Jvm.MethodName)) ∈ wsG := mG2 109 rfl rfl
theorem kw_351 : (Jvm.Cond.instanceMethod ({ cls := "EvenHold", name := "digitAt", desc := "(I)I" } : Jvm.MethodName)) ∈ wsG := mG2 111 rfl rfl
theorem kw_352 : (Jvm.Cond.code ({ cls := "EvenHold", name := "digitAt", desc := "(I)I" } : Jvm.MethodName) prog_1_method_29_code (2 : Nat) (Option.some Jvm.ClassFile.FieldType.int)) ∈ wsG := mG2 112 rfl rfl
theorem kw_353 : (Jvm.Cond.methodLink "EvenHold" (92 : Nat) ({ cls := "EvenHold", name := "tonsOf", desc := "(I)I" } : Jvm.MethodName)) ∈ wsG := mG2 113 rfl rfl
theorem kw_354 : (Jvm.Cond.static ({ cls := "EvenHold", name := "tonsOf", desc := "(I)I" } : Jvm.MethodName)) ∈ wsG := mG2 114 rfl rfl
theorem kw_355 : (Jvm.Cond.code ({ cls := "EvenHold", name := "tonsOf", desc := "(I)I" } : Jvm.MethodName) prog_1_method_41_code (3 : Nat) (Option.some Jvm.ClassFile.FieldType.int)) ∈ wsG := mG2 115 rfl rfl
theorem kw_356 : (Jvm.Cond.methodLink "EvenHold" (107 : Nat) ({ cls := "EvenHold", name := "tonsAt", desc := "(II)I" } : Jvm.MethodName)) ∈ wsG := mG2 116 rfl rfl
theorem kw_357 : (Jvm.Cond.static ({ cls := "EvenHold", name := "tonsAt", desc := "(II)I" } : Jvm.MethodName)) ∈ wsG := mG2 117 rfl rfl
theorem kw_358 : (Jvm.Cond.code ({ cls := "EvenHold", name := "tonsAt", desc := "(II)I" } : Jvm.MethodName) prog_1_method_40_code (2 : Nat) (Option.some Jvm.ClassFile.FieldType.int)) ∈ wsG := mG2 118 rfl rfl
theorem kw_359 : (Jvm.Cond.methodLink "EvenHoldLaw" (31 : Nat) ({ cls := "EvenHold", name := "bay", desc := "(II)I" } : Jvm.MethodName)) ∈ wsG := mG2 119 rfl rfl
theorem kw_360 : (Jvm.Cond.instanceMethod ({ cls := "EvenHold", name := "bay", desc := "(II)I" } : Jvm.MethodName)) ∈ wsG := mG2 120 rfl rfl
theorem kw_361 : (Jvm.Cond.selects "EvenHold" ({ cls := "EvenHold", name := "bay", desc := "(II)I" } : Jvm.MethodName) ({ cls := "EvenHold", name := "bay", desc := "(II)I" } : Jvm.MethodName)) ∈ wsG := mG2 121 rfl rfl
theorem kw_362 : (Jvm.Cond.code ({ cls := "EvenHold", name := "bay", desc := "(II)I" } : Jvm.MethodName) prog_1_method_6_code (3 : Nat) (Option.some Jvm.ClassFile.FieldType.int)) ∈ wsG := mG2 122 rfl rfl
theorem kw_363 : (Jvm.Cond.methodLink "EvenHold" (96 : Nat) ({ cls := "EvenHold", name := "isBay", desc := "(I)Z" } : Jvm.MethodName)) ∈ wsG := mG2 123 rfl rfl
theorem kw_365 : (Jvm.Cond.instanceMethod ({ cls := "EvenHold", name := "isBay", desc := "(I)Z" } : Jvm.MethodName)) ∈ wsG := mG2 125 rfl rfl
theorem kw_366 : (Jvm.Cond.code ({ cls := "EvenHold", name := "isBay", desc := "(I)Z" } : Jvm.MethodName) prog_1_method_30_code (2 : Nat) (Option.some Jvm.ClassFile.FieldType.boolean)) ∈ wsG := mG2 126 rfl rfl
theorem kw_367 : (Jvm.Cond.methodLink "EvenHoldLaw" (36 : Nat) ({ cls := "EvenHold", name := "as", desc := "(II)I" } : Jvm.MethodName)) ∈ wsG := mG2 127 rfl rfl
theorem kw_368 : (Jvm.Cond.instanceMethod ({ cls := "EvenHold", name := "as", desc := "(II)I" } : Jvm.MethodName)) ∈ wsG := mG2 128 rfl rfl
theorem kw_369 : (Jvm.Cond.selects "EvenHold" ({ cls := "EvenHold", name := "as", desc := "(II)I" } : Jvm.MethodName) ({ cls := "EvenHold", name := "as", desc := "(II)I" } : Jvm.MethodName)) ∈ wsG := mG2 129 rfl rfl
theorem kw_370 : (Jvm.Cond.code ({ cls := "EvenHold", name := "as", desc := "(II)I" } : Jvm.MethodName) prog_1_method_7_code (5 : Nat) (Option.some Jvm.ClassFile.FieldType.int)) ∈ wsG := mG2 130 rfl rfl
theorem kw_371 : (Jvm.Cond.methodLink "EvenHoldLaw" (40 : Nat) ({ cls := "EvenHold", name := "ground", desc := "(Z)I" } : Jvm.MethodName)) ∈ wsG := mG2 131 rfl rfl
theorem kw_372 : (Jvm.Cond.instanceMethod ({ cls := "EvenHold", name := "ground", desc := "(Z)I" } : Jvm.MethodName)) ∈ wsG := mG2 132 rfl rfl
theorem kw_373 : (Jvm.Cond.selects "EvenHold" ({ cls := "EvenHold", name := "ground", desc := "(Z)I" } : Jvm.MethodName) ({ cls := "EvenHold", name := "ground", desc := "(Z)I" } : Jvm.MethodName)) ∈ wsG := mG2 133 rfl rfl
theorem kw_374 : (Jvm.Cond.code ({ cls := "EvenHold", name := "ground", desc := "(Z)I" } : Jvm.MethodName) prog_1_method_8_code (3 : Nat) (Option.some Jvm.ClassFile.FieldType.int)) ∈ wsG := mG2 134 rfl rfl
theorem kw_375 : (Jvm.Cond.methodLink "EvenHold" (122 : Nat) ({ cls := "EvenHold", name := "asNumber", desc := "(Z)I" } : Jvm.MethodName)) ∈ wsG := mG2 135 rfl rfl
theorem kw_376 : (Jvm.Cond.static ({ cls := "EvenHold", name := "asNumber", desc := "(Z)I" } : Jvm.MethodName)) ∈ wsG := mG2 136 rfl rfl
theorem kw_377 : (Jvm.Cond.code ({ cls := "EvenHold", name := "asNumber", desc := "(Z)I" } : Jvm.MethodName) prog_1_method_35_code (1 : Nat) (Option.some Jvm.ClassFile.FieldType.int)) ∈ wsG := mG2 137 rfl rfl
theorem kw_378 : (Jvm.Cond.methodLink "EvenHoldLaw" (45 : Nat) ({ cls := "EvenHold", name := "hull", desc := "(I)I" } : Jvm.MethodName)) ∈ wsG := mG2 138 rfl rfl
theorem kw_379 : (Jvm.Cond.instanceMethod ({ cls := "EvenHold", name := "hull", desc := "(I)I" } : Jvm.MethodName)) ∈ wsG := mG2 139 rfl rfl
theorem kw_380 : (Jvm.Cond.selects "EvenHold" ({ cls := "EvenHold", name := "hull", desc := "(I)I" } : Jvm.MethodName) ({ cls := "EvenHold", name := "hull", desc := "(I)I" } : Jvm.MethodName)) ∈ wsG := mG2 140 rfl rfl
theorem kw_381 : (Jvm.Cond.code ({ cls := "EvenHold", name := "hull", desc := "(I)I" } : Jvm.MethodName) prog_1_method_9_code (2 : Nat) (Option.some Jvm.ClassFile.FieldType.int)) ∈ wsG := mG2 141 rfl rfl
theorem kw_382 : (Jvm.Cond.methodLink "EvenHold" (126 : Nat) ({ cls := "EvenHold", name := "bentBy", desc := "(I)I" } : Jvm.MethodName)) ∈ wsG := mG2 142 rfl rfl
theorem kw_383 : (Jvm.Cond.static ({ cls := "EvenHold", name := "bentBy", desc := "(I)I" } : Jvm.MethodName)) ∈ wsG := mG2 143 rfl rfl
theorem kw_384 : (Jvm.Cond.code ({ cls := "EvenHold", name := "bentBy", desc := "(I)I" } : Jvm.MethodName) prog_1_method_42_code (4 : Nat) (Option.some Jvm.ClassFile.FieldType.int)) ∈ wsG := mG2 144 rfl rfl
theorem kw_385 : (Jvm.Cond.methodLink "EvenHold" (129 : Nat) ({ cls := "EvenHold", name := "listingBy", desc := "(I)I" } : Jvm.MethodName)) ∈ wsG := mG2 145 rfl rfl
theorem kw_386 : (Jvm.Cond.static ({ cls := "EvenHold", name := "listingBy", desc := "(I)I" } : Jvm.MethodName)) ∈ wsG := mG2 146 rfl rfl
theorem kw_387 : (Jvm.Cond.code ({ cls := "EvenHold", name := "listingBy", desc := "(I)I" } : Jvm.MethodName) prog_1_method_43_code (3 : Nat) (Option.some Jvm.ClassFile.FieldType.int)) ∈ wsG := mG2 147 rfl rfl
theorem kw_388 : (Jvm.Cond.methodLink "EvenHold" (132 : Nat) ({ cls := "EvenHold", name := "bendNow", desc := "()I" } : Jvm.MethodName)) ∈ wsG := mG2 148 rfl rfl
theorem kw_390 : (Jvm.Cond.instanceMethod ({ cls := "EvenHold", name := "bendNow", desc := "()I" } : Jvm.MethodName)) ∈ wsG := mG2 150 rfl rfl
theorem kw_391 : (Jvm.Cond.code ({ cls := "EvenHold", name := "bendNow", desc := "()I" } : Jvm.MethodName) prog_1_method_31_code (1 : Nat) (Option.some Jvm.ClassFile.FieldType.int)) ∈ wsG := mG2 151 rfl rfl
theorem kw_392 : (Jvm.Cond.methodLink "EvenHold" (135 : Nat) ({ cls := "EvenHold$Lighter", name := "bears", desc := "(II)Z" } : Jvm.MethodName)) ∈ wsG := mG2 152 rfl rfl
theorem kw_393 : (Jvm.Cond.instanceMethod ({ cls := "EvenHold$Lighter", name := "bears", desc := "(II)Z" } : Jvm.MethodName)) ∈ wsG := mG2 153 rfl rfl
theorem kw_394 : (Jvm.Cond.selects "EvenHold$Lighter" ({ cls := "EvenHold$Lighter", name := "bears", desc := "(II)Z" } : Jvm.MethodName) ({ cls := "EvenHold$Lighter", name := "bears", desc := "(II)Z" } : Jvm.MethodName)) ∈ wsG := mG2 154 rfl rfl
theorem kw_395 : (Jvm.Cond.code ({ cls := "EvenHold$Lighter", name := "bears", desc := "(II)Z" } : Jvm.MethodName) prog_4_method_3_code (3 : Nat) (Option.some Jvm.ClassFile.FieldType.boolean)) ∈ wsG := mG2 155 rfl rfl
theorem kw_398 : (Jvm.Cond.methodLink "EvenHoldLaw" (49 : Nat) ({ cls := "EvenHold", name := "may", desc := "(I)I" } : Jvm.MethodName)) ∈ wsG := mG2 158 rfl rfl
theorem kw_399 : (Jvm.Cond.instanceMethod ({ cls := "EvenHold", name := "may", desc := "(I)I" } : Jvm.MethodName)) ∈ wsG := mG2 159 rfl rfl
theorem kw_400 : (Jvm.Cond.selects "EvenHold" ({ cls := "EvenHold", name := "may", desc := "(I)I" } : Jvm.MethodName) ({ cls := "EvenHold", name := "may", desc := "(I)I" } : Jvm.MethodName)) ∈ wsG := mG2 160 rfl rfl
theorem kw_401 : (Jvm.Cond.code ({ cls := "EvenHold", name := "may", desc := "(I)I" } : Jvm.MethodName) prog_1_method_10_code (2 : Nat) (Option.some Jvm.ClassFile.FieldType.int)) ∈ wsG := mG2 161 rfl rfl
theorem kw_402 : (Jvm.Cond.methodLink "EvenHold" (138 : Nat) ({ cls := "EvenHold", name := "isAct", desc := "(I)Z" } : Jvm.MethodName)) ∈ wsG := mG2 162 rfl rfl
theorem kw_403 : (Jvm.Cond.static ({ cls := "EvenHold", name := "isAct", desc := "(I)Z" } : Jvm.MethodName)) ∈ wsG := mG2 163 rfl rfl
theorem kw_404 : (Jvm.Cond.code ({ cls := "EvenHold", name := "isAct", desc := "(I)Z" } : Jvm.MethodName) prog_1_method_39_code (5 : Nat) (Option.some Jvm.ClassFile.FieldType.boolean)) ∈ wsG := mG2 164 rfl rfl
theorem kw_405 : (Jvm.Cond.methodLink "EvenHold" (261 : Nat) ({ cls := "EvenHold", name := "cellFrom", desc := "(I)I" } : Jvm.MethodName)) ∈ wsG := mG2 165 rfl rfl
theorem kw_406 : (Jvm.Cond.static ({ cls := "EvenHold", name := "cellFrom", desc := "(I)I" } : Jvm.MethodName)) ∈ wsG := mG2 166 rfl rfl
theorem kw_407 : (Jvm.Cond.code ({ cls := "EvenHold", name := "cellFrom", desc := "(I)I" } : Jvm.MethodName) prog_1_method_37_code (1 : Nat) (Option.some Jvm.ClassFile.FieldType.int)) ∈ wsG := mG2 167 rfl rfl
theorem kw_408 : (Jvm.Cond.methodLink "EvenHold" (264 : Nat) ({ cls := "EvenHold", name := "cellInto", desc := "(I)I" } : Jvm.MethodName)) ∈ wsG := mG2 168 rfl rfl
theorem kw_409 : (Jvm.Cond.static ({ cls := "EvenHold", name := "cellInto", desc := "(I)I" } : Jvm.MethodName)) ∈ wsG := mG2 169 rfl rfl
theorem kw_410 : (Jvm.Cond.code ({ cls := "EvenHold", name := "cellInto", desc := "(I)I" } : Jvm.MethodName) prog_1_method_38_code (1 : Nat) (Option.some Jvm.ClassFile.FieldType.int)) ∈ wsG := mG2 170 rfl rfl
theorem kw_411 : (Jvm.Cond.methodLink "EvenHold" (267 : Nat) ({ cls := "java/lang/Math", name := "abs", desc := "(I)I" } : Jvm.MethodName)) ∈ wsG := mG2 171 rfl rfl
theorem kw_412 : (Jvm.Cond.static ({ cls := "java/lang/Math", name := "abs", desc := "(I)I" } : Jvm.MethodName)) ∈ wsG := mG2 172 rfl rfl
theorem kw_413 : (Jvm.Cond.code ({ cls := "java/lang/Math", name := "abs", desc := "(I)I" } : Jvm.MethodName) prog_10_method_59_code (1 : Nat) (Option.some Jvm.ClassFile.FieldType.int)) ∈ wsG := mG2 173 rfl rfl
theorem kw_414 : (Jvm.Cond.methodLink "EvenHold" (141 : Nat) ({ cls := "EvenHold$Lighter", name := "behind", desc := "(III)I" } : Jvm.MethodName)) ∈ wsG := mG2 174 rfl rfl
theorem kw_415 : (Jvm.Cond.instanceMethod ({ cls := "EvenHold$Lighter", name := "behind", desc := "(III)I" } : Jvm.MethodName)) ∈ wsG := mG2 175 rfl rfl
theorem kw_416 : (Jvm.Cond.selects "EvenHold$Lighter" ({ cls := "EvenHold$Lighter", name := "behind", desc := "(III)I" } : Jvm.MethodName) ({ cls := "EvenHold$Lighter", name := "behind", desc := "(III)I" } : Jvm.MethodName)) ∈ wsG := mG2 176 rfl rfl
theorem kw_417 : (Jvm.Cond.code ({ cls := "EvenHold$Lighter", name := "behind", desc := "(III)I" } : Jvm.MethodName) prog_4_method_5_code (5 : Nat) (Option.some Jvm.ClassFile.FieldType.int)) ∈ wsG := mG2 177 rfl rfl
theorem kw_418 : (Jvm.Cond.methodLink "EvenHold$Lighter" (48 : Nat) ({ cls := "EvenHold$Lighter", name := "moved", desc := "(II)I" } : Jvm.MethodName)) ∈ wsG := mG2 178 rfl rfl
theorem kw_419 : (Jvm.Cond.instanceMethod ({ cls := "EvenHold$Lighter", name := "moved", desc := "(II)I" } : Jvm.MethodName)) ∈ wsG := mG2 179 rfl rfl
theorem kw_420 : (Jvm.Cond.selects "EvenHold$Lighter" ({ cls := "EvenHold$Lighter", name := "moved", desc := "(II)I" } : Jvm.MethodName) ({ cls := "EvenHold$Lighter", name := "moved", desc := "(II)I" } : Jvm.MethodName)) ∈ wsG := mG2 180 rfl rfl
theorem kw_421 : (Jvm.Cond.code ({ cls := "EvenHold$Lighter", name := "moved", desc := "(II)I" } : Jvm.MethodName) prog_4_method_6_code (6 : Nat) (Option.some Jvm.ClassFile.FieldType.int)) ∈ wsG := mG2 181 rfl rfl
theorem kw_424 : (Jvm.Cond.methodLink "EvenHold$Lighter" (59 : Nat) ({ cls := "EvenHold$Lighter", name := "slid", desc := "(I)I" } : Jvm.MethodName)) ∈ wsG := mG2 184 rfl rfl
theorem kw_425 : (Jvm.Cond.instanceMethod ({ cls := "EvenHold$Lighter", name := "slid", desc := "(I)I" } : Jvm.MethodName)) ∈ wsG := mG2 185 rfl rfl
theorem kw_426 : (Jvm.Cond.selects "EvenHold$Lighter" ({ cls := "EvenHold$Lighter", name := "slid", desc := "(I)I" } : Jvm.MethodName) ({ cls := "EvenHold$Lighter", name := "slid", desc := "(I)I" } : Jvm.MethodName)) ∈ wsG := mG2 186 rfl rfl
theorem kw_427 : (Jvm.Cond.code ({ cls := "EvenHold$Lighter", name := "slid", desc := "(I)I" } : Jvm.MethodName) prog_4_method_7_code (7 : Nat) (Option.some Jvm.ClassFile.FieldType.int)) ∈ wsG := mG2 187 rfl rfl
theorem kw_428 : (Jvm.Cond.methodLink "EvenHold$Lighter" (52 : Nat) ({ cls := "EvenHold$Lighter", name := "bears", desc := "(II)Z" } : Jvm.MethodName)) ∈ wsG := mG2 188 rfl rfl
theorem kw_429 : (Jvm.Cond.methodLink "EvenHoldLaw" (53 : Nat) ({ cls := "EvenHold", name := "act", desc := "(I)I" } : Jvm.MethodName)) ∈ wsG := mG2 189 rfl rfl
theorem kw_430 : (Jvm.Cond.instanceMethod ({ cls := "EvenHold", name := "act", desc := "(I)I" } : Jvm.MethodName)) ∈ wsG := mG2 190 rfl rfl
theorem kw_431 : (Jvm.Cond.selects "EvenHold" ({ cls := "EvenHold", name := "act", desc := "(I)I" } : Jvm.MethodName) ({ cls := "EvenHold", name := "act", desc := "(I)I" } : Jvm.MethodName)) ∈ wsG := mG2 191 rfl rfl
theorem kw_432 : (Jvm.Cond.code ({ cls := "EvenHold", name := "act", desc := "(I)I" } : Jvm.MethodName) prog_1_method_11_code (3 : Nat) (Option.some Jvm.ClassFile.FieldType.int)) ∈ wsG := mG2 192 rfl rfl
theorem kw_433 : (Jvm.Cond.methodLink "EvenHold" (151 : Nat) ({ cls := "EvenHold$Lighter", name := "minutesOf", desc := "(I)I" } : Jvm.MethodName)) ∈ wsG := mG2 193 rfl rfl
theorem kw_434 : (Jvm.Cond.instanceMethod ({ cls := "EvenHold$Lighter", name := "minutesOf", desc := "(I)I" } : Jvm.MethodName)) ∈ wsG := mG2 194 rfl rfl
theorem kw_435 : (Jvm.Cond.selects "EvenHold$Lighter" ({ cls := "EvenHold$Lighter", name := "minutesOf", desc := "(I)I" } : Jvm.MethodName) ({ cls := "EvenHold$Lighter", name := "minutesOf", desc := "(I)I" } : Jvm.MethodName)) ∈ wsG := mG2 195 rfl rfl
theorem kw_436 : (Jvm.Cond.code ({ cls := "EvenHold$Lighter", name := "minutesOf", desc := "(I)I" } : Jvm.MethodName) prog_4_method_4_code (2 : Nat) (Option.some Jvm.ClassFile.FieldType.int)) ∈ wsG := mG2 196 rfl rfl
theorem kw_437 : (Jvm.Cond.methodLink "EvenHoldLaw" (57 : Nat) ({ cls := "EvenHold", name := "soonest", desc := "(I)I" } : Jvm.MethodName)) ∈ wsG := mG2 197 rfl rfl
theorem kw_438 : (Jvm.Cond.instanceMethod ({ cls := "EvenHold", name := "soonest", desc := "(I)I" } : Jvm.MethodName)) ∈ wsG := mG2 198 rfl rfl
theorem kw_439 : (Jvm.Cond.selects "EvenHold" ({ cls := "EvenHold", name := "soonest", desc := "(I)I" } : Jvm.MethodName) ({ cls := "EvenHold", name := "soonest", desc := "(I)I" } : Jvm.MethodName)) ∈ wsG := mG2 199 rfl rfl
theorem kw_440 : (Jvm.Cond.code ({ cls := "EvenHold", name := "soonest", desc := "(I)I" } : Jvm.MethodName) prog_1_method_12_code (2 : Nat) (Option.some Jvm.ClassFile.FieldType.int)) ∈ wsG := mG2 200 rfl rfl
theorem kw_441 : (Jvm.Cond.methodLink "EvenHold" (154 : Nat) ({ cls := "EvenHold", name := "lookAhead", desc := "()V" } : Jvm.MethodName)) ∈ wsG := mG2 201 rfl rfl
theorem kw_443 : (Jvm.Cond.instanceMethod ({ cls := "EvenHold", name := "lookAhead", desc := "()V" } : Jvm.MethodName)) ∈ wsG := mG2 203 rfl rfl
theorem kw_444 : (Jvm.Cond.code ({ cls := "EvenHold", name := "lookAhead", desc := "()V" } : Jvm.MethodName) prog_1_method_32_code (1 : Nat) (Option.none : Option Jvm.ClassFile.FieldType)) ∈ wsG := mG2 204 rfl rfl
theorem kw_445 : (Jvm.Cond.methodLink "EvenHold" (247 : Nat) ({ cls := "EvenHold$Outlook", name := "lookFrom", desc := "(LEvenHold$Lighter;III)V" } : Jvm.MethodName)) ∈ wsG := mG2 205 rfl rfl
theorem kw_446 : (Jvm.Cond.instanceMethod ({ cls := "EvenHold$Outlook", name := "lookFrom", desc := "(LEvenHold$Lighter;III)V" } : Jvm.MethodName)) ∈ wsG := mG2 206 rfl rfl
theorem kw_447 : (Jvm.Cond.selects "EvenHold$Outlook" ({ cls := "EvenHold$Outlook", name := "lookFrom", desc := "(LEvenHold$Lighter;III)V" } : Jvm.MethodName) ({ cls := "EvenHold$Outlook", name := "lookFrom", desc := "(LEvenHold$Lighter;III)V" } : Jvm.MethodName)) ∈ wsG := mG2 207 rfl rfl
theorem kw_448 : (Jvm.Cond.code ({ cls := "EvenHold$Outlook", name := "lookFrom", desc := "(LEvenHold$Lighter;III)V" } : Jvm.MethodName) prog_6_method_2_code (9 : Nat) (Option.none : Option Jvm.ClassFile.FieldType)) ∈ wsG := mG2 208 rfl rfl
theorem kw_450 : (Jvm.Cond.methodLink "EvenHold$Outlook" (50 : Nat) ({ cls := "java/util/Arrays", name := "fill", desc := "([II)V" } : Jvm.MethodName)) ∈ wsG := mG2 210 rfl rfl
theorem kw_451 : (Jvm.Cond.static ({ cls := "java/util/Arrays", name := "fill", desc := "([II)V" } : Jvm.MethodName)) ∈ wsG := mG2 211 rfl rfl
theorem kw_452 : (Jvm.Cond.code ({ cls := "java/util/Arrays", name := "fill", desc := "([II)V" } : Jvm.MethodName) prog_14_method_103_code (4 : Nat) (Option.none : Option Jvm.ClassFile.FieldType)) ∈ wsG := mG2 212 rfl rfl
theorem kw_453 : (Jvm.Cond.methodLink "EvenHold$Outlook" (56 : Nat) ({ cls := "EvenHold$Outlook", name := "reach", desc := "(III)V" } : Jvm.MethodName)) ∈ wsG := mG2 213 rfl rfl
theorem kw_454 : (Jvm.Cond.instanceMethod ({ cls := "EvenHold$Outlook", name := "reach", desc := "(III)V" } : Jvm.MethodName)) ∈ wsG := mG2 214 rfl rfl
theorem kw_455 : (Jvm.Cond.selects "EvenHold$Outlook" ({ cls := "EvenHold$Outlook", name := "reach", desc := "(III)V" } : Jvm.MethodName) ({ cls := "EvenHold$Outlook", name := "reach", desc := "(III)V" } : Jvm.MethodName)) ∈ wsG := mG2 215 rfl rfl
theorem kw_456 : (Jvm.Cond.code ({ cls := "EvenHold$Outlook", name := "reach", desc := "(III)V" } : Jvm.MethodName) prog_6_method_4_code (5 : Nat) (Option.none : Option Jvm.ClassFile.FieldType)) ∈ wsG := mG2 216 rfl rfl
theorem kw_457 : (Jvm.Cond.methodLink "EvenHold$Outlook" (60 : Nat) ({ cls := "java/lang/Math", name := "min", desc := "(II)I" } : Jvm.MethodName)) ∈ wsG := mG2 217 rfl rfl
theorem kw_458 : (Jvm.Cond.methodLink "EvenHold$Outlook" (66 : Nat) ({ cls := "EvenHold$Outlook", name := "leave", desc := "(LEvenHold$Lighter;III)V" } : Jvm.MethodName)) ∈ wsG := mG2 218 rfl rfl
theorem kw_459 : (Jvm.Cond.instanceMethod ({ cls := "EvenHold$Outlook", name := "leave", desc := "(LEvenHold$Lighter;III)V" } : Jvm.MethodName)) ∈ wsG := mG2 219 rfl rfl
theorem kw_460 : (Jvm.Cond.selects "EvenHold$Outlook" ({ cls := "EvenHold$Outlook", name := "leave", desc := "(LEvenHold$Lighter;III)V" } : Jvm.MethodName) ({ cls := "EvenHold$Outlook", name := "leave", desc := "(LEvenHold$Lighter;III)V" } : Jvm.MethodName)) ∈ wsG := mG2 220 rfl rfl
theorem kw_461 : (Jvm.Cond.code ({ cls := "EvenHold$Outlook", name := "leave", desc := "(LEvenHold$Lighter;III)V" } : Jvm.MethodName) prog_6_method_3_code (11 : Nat) (Option.none : Option Jvm.ClassFile.FieldType)) ∈ wsG := mG2 221 rfl rfl
theorem kw_462 : (Jvm.Cond.methodLink "EvenHold$Outlook" (70 : Nat) ({ cls := "java/lang/Math", name := "max", desc := "(II)I" } : Jvm.MethodName)) ∈ wsG := mG2 222 rfl rfl
theorem kw_465 : (Jvm.Cond.methodLink "EvenHold$Outlook" (76 : Nat) ({ cls := "EvenHold$Lighter", name := "behind", desc := "(III)I" } : Jvm.MethodName)) ∈ wsG := mG2 225 rfl rfl
theorem kw_466 : (Jvm.Cond.methodLink "EvenHold$Outlook" (82 : Nat) ({ cls := "EvenHold$Lighter", name := "minutesOf", desc := "(I)I" } : Jvm.MethodName)) ∈ wsG := mG2 226 rfl rfl
theorem kw_467 : (Jvm.Cond.methodLink "EvenHoldLaw" (61 : Nat) ({ cls := "EvenHold", name := "most", desc := "()I" } : Jvm.MethodName)) ∈ wsG := mG2 227 rfl rfl
theorem kw_468 : (Jvm.Cond.instanceMethod ({ cls := "EvenHold", name := "most", desc := "()I" } : Jvm.MethodName)) ∈ wsG := mG2 228 rfl rfl
theorem kw_469 : (Jvm.Cond.selects "EvenHold" ({ cls := "EvenHold", name := "most", desc := "()I" } : Jvm.MethodName) ({ cls := "EvenHold", name := "most", desc := "()I" } : Jvm.MethodName)) ∈ wsG := mG2 229 rfl rfl
theorem kw_470 : (Jvm.Cond.code ({ cls := "EvenHold", name := "most", desc := "()I" } : Jvm.MethodName) prog_1_method_13_code (1 : Nat) (Option.some Jvm.ClassFile.FieldType.int)) ∈ wsG := mG2 230 rfl rfl
theorem kw_471 : (Jvm.Cond.methodLink "EvenHoldLaw" (65 : Nat) ({ cls := "EvenHold", name := "holds", desc := "()I" } : Jvm.MethodName)) ∈ wsG := mG2 231 rfl rfl
theorem kw_472 : (Jvm.Cond.instanceMethod ({ cls := "EvenHold", name := "holds", desc := "()I" } : Jvm.MethodName)) ∈ wsG := mG2 232 rfl rfl
theorem kw_473 : (Jvm.Cond.selects "EvenHold" ({ cls := "EvenHold", name := "holds", desc := "()I" } : Jvm.MethodName) ({ cls := "EvenHold", name := "holds", desc := "()I" } : Jvm.MethodName)) ∈ wsG := mG2 233 rfl rfl
theorem kw_474 : (Jvm.Cond.code ({ cls := "EvenHold", name := "holds", desc := "()I" } : Jvm.MethodName) prog_1_method_14_code (1 : Nat) (Option.some Jvm.ClassFile.FieldType.int)) ∈ wsG := mG2 234 rfl rfl
theorem kw_475 : (Jvm.Cond.methodLink "EvenHoldLaw" (69 : Nat) ({ cls := "EvenHold", name := "leastBend", desc := "()I" } : Jvm.MethodName)) ∈ wsG := mG2 235 rfl rfl
theorem kw_476 : (Jvm.Cond.instanceMethod ({ cls := "EvenHold", name := "leastBend", desc := "()I" } : Jvm.MethodName)) ∈ wsG := mG2 236 rfl rfl
theorem kw_477 : (Jvm.Cond.selects "EvenHold" ({ cls := "EvenHold", name := "leastBend", desc := "()I" } : Jvm.MethodName) ({ cls := "EvenHold", name := "leastBend", desc := "()I" } : Jvm.MethodName)) ∈ wsG := mG2 237 rfl rfl
theorem kw_478 : (Jvm.Cond.code ({ cls := "EvenHold", name := "leastBend", desc := "()I" } : Jvm.MethodName) prog_1_method_15_code (1 : Nat) (Option.some Jvm.ClassFile.FieldType.int)) ∈ wsG := mG2 238 rfl rfl
theorem kw_479 : (Jvm.Cond.methodLink "EvenHold" (168 : Nat) ({ cls := "EvenHold$Easing", name := "leastFrom", desc := "(LEvenHold$Lighter;I)I" } : Jvm.MethodName)) ∈ wsG := mG2 239 rfl rfl
theorem kw_480 : (Jvm.Cond.instanceMethod ({ cls := "EvenHold$Easing", name := "leastFrom", desc := "(LEvenHold$Lighter;I)I" } : Jvm.MethodName)) ∈ wsG := mG3 0 rfl rfl
theorem kw_481 : (Jvm.Cond.selects "EvenHold$Easing" ({ cls := "EvenHold$Easing", name := "leastFrom", desc := "(LEvenHold$Lighter;I)I" } : Jvm.MethodName) ({ cls := "EvenHold$Easing", name := "leastFrom", desc := "(LEvenHold$Lighter;I)I" } : Jvm.MethodName)) ∈ wsG := mG3 1 rfl rfl
theorem kw_482 : (Jvm.Cond.code ({ cls := "EvenHold$Easing", name := "leastFrom", desc := "(LEvenHold$Lighter;I)I" } : Jvm.MethodName) prog_2_method_2_code (5 : Nat) (Option.some Jvm.ClassFile.FieldType.int)) ∈ wsG := mG3 2 rfl rfl
theorem kw_483 : (Jvm.Cond.methodLink "EvenHold$Easing" (18 : Nat) ({ cls := "java/util/Arrays", name := "fill", desc := "([II)V" } : Jvm.MethodName)) ∈ wsG := mG3 3 rfl rfl
theorem kw_484 : (Jvm.Cond.methodLink "EvenHold$Easing" (24 : Nat) ({ cls := "EvenHold$Easing", name := "put", desc := "(II)V" } : Jvm.MethodName)) ∈ wsG := mG3 4 rfl rfl
theorem kw_485 : (Jvm.Cond.instanceMethod ({ cls := "EvenHold$Easing", name := "put", desc := "(II)V" } : Jvm.MethodName)) ∈ wsG := mG3 5 rfl rfl
theorem kw_486 : (Jvm.Cond.selects "EvenHold$Easing" ({ cls := "EvenHold$Easing", name := "put", desc := "(II)V" } : Jvm.MethodName) ({ cls := "EvenHold$Easing", name := "put", desc := "(II)V" } : Jvm.MethodName)) ∈ wsG := mG3 6 rfl rfl
theorem kw_487 : (Jvm.Cond.code ({ cls := "EvenHold$Easing", name := "put", desc := "(II)V" } : Jvm.MethodName) prog_2_method_4_code (3 : Nat) (Option.none : Option Jvm.ClassFile.FieldType)) ∈ wsG := mG3 7 rfl rfl
theorem kw_488 : (Jvm.Cond.methodLink "EvenHold$Easing" (28 : Nat) ({ cls := "EvenHold$Easing", name := "leaveHead", desc := "(LEvenHold$Lighter;I)V" } : Jvm.MethodName)) ∈ wsG := mG3 8 rfl rfl
theorem kw_489 : (Jvm.Cond.instanceMethod ({ cls := "EvenHold$Easing", name := "leaveHead", desc := "(LEvenHold$Lighter;I)V" } : Jvm.MethodName)) ∈ wsG := mG3 9 rfl rfl
theorem kw_490 : (Jvm.Cond.selects "EvenHold$Easing" ({ cls := "EvenHold$Easing", name := "leaveHead", desc := "(LEvenHold$Lighter;I)V" } : Jvm.MethodName) ({ cls := "EvenHold$Easing", name := "leaveHead", desc := "(LEvenHold$Lighter;I)V" } : Jvm.MethodName)) ∈ wsG := mG3 10 rfl rfl
theorem kw_491 : (Jvm.Cond.code ({ cls := "EvenHold$Easing", name := "leaveHead", desc := "(LEvenHold$Lighter;I)V" } : Jvm.MethodName) prog_2_method_3_code (9 : Nat) (Option.none : Option Jvm.ClassFile.FieldType)) ∈ wsG := mG3 11 rfl rfl
theorem kw_493 : (Jvm.Cond.methodLink "EvenHold$Easing" (35 : Nat) ({ cls := "EvenHold$Lighter", name := "moved", desc := "(II)I" } : Jvm.MethodName)) ∈ wsG := mG3 13 rfl rfl
theorem kw_496 : (Jvm.Cond.methodLink "EvenHold$Easing" (52 : Nat) ({ cls := "java/lang/Math", name := "max", desc := "(II)I" } : Jvm.MethodName)) ∈ wsG := mG3 16 rfl rfl
theorem kw_497 : (Jvm.Cond.methodLink "EvenHoldLaw" (73 : Nat) ({ cls := "EvenHold", name := "string", desc := "(I)I" } : Jvm.MethodName)) ∈ wsG := mG3 17 rfl rfl
theorem kw_498 : (Jvm.Cond.instanceMethod ({ cls := "EvenHold", name := "string", desc := "(I)I" } : Jvm.MethodName)) ∈ wsG := mG3 18 rfl rfl
theorem kw_499 : (Jvm.Cond.selects "EvenHold" ({ cls := "EvenHold", name := "string", desc := "(I)I" } : Jvm.MethodName) ({ cls := "EvenHold", name := "string", desc := "(I)I" } : Jvm.MethodName)) ∈ wsG := mG3 19 rfl rfl
theorem kw_500 : (Jvm.Cond.code ({ cls := "EvenHold", name := "string", desc := "(I)I" } : Jvm.MethodName) prog_1_method_16_code (2 : Nat) (Option.some Jvm.ClassFile.FieldType.int)) ∈ wsG := mG3 20 rfl rfl
theorem kw_501 : (Jvm.Cond.methodLink "EvenHoldLaw" (77 : Nat) ({ cls := "EvenHold", name := "forget", desc := "()I" } : Jvm.MethodName)) ∈ wsG := mG3 21 rfl rfl
theorem kw_502 : (Jvm.Cond.instanceMethod ({ cls := "EvenHold", name := "forget", desc := "()I" } : Jvm.MethodName)) ∈ wsG := mG3 22 rfl rfl
theorem kw_503 : (Jvm.Cond.selects "EvenHold" ({ cls := "EvenHold", name := "forget", desc := "()I" } : Jvm.MethodName) ({ cls := "EvenHold", name := "forget", desc := "()I" } : Jvm.MethodName)) ∈ wsG := mG3 23 rfl rfl
theorem kw_504 : (Jvm.Cond.code ({ cls := "EvenHold", name := "forget", desc := "()I" } : Jvm.MethodName) prog_1_method_17_code (2 : Nat) (Option.some Jvm.ClassFile.FieldType.int)) ∈ wsG := mG3 24 rfl rfl
theorem kw_505 : (Jvm.Cond.methodLink "EvenHoldLaw" (81 : Nat) ({ cls := "EvenHold", name := "fits", desc := "(I)I" } : Jvm.MethodName)) ∈ wsG := mG3 25 rfl rfl
theorem kw_506 : (Jvm.Cond.instanceMethod ({ cls := "EvenHold", name := "fits", desc := "(I)I" } : Jvm.MethodName)) ∈ wsG := mG3 26 rfl rfl
theorem kw_507 : (Jvm.Cond.selects "EvenHold" ({ cls := "EvenHold", name := "fits", desc := "(I)I" } : Jvm.MethodName) ({ cls := "EvenHold", name := "fits", desc := "(I)I" } : Jvm.MethodName)) ∈ wsG := mG3 27 rfl rfl
theorem kw_508 : (Jvm.Cond.code ({ cls := "EvenHold", name := "fits", desc := "(I)I" } : Jvm.MethodName) prog_1_method_18_code (2 : Nat) (Option.some Jvm.ClassFile.FieldType.int)) ∈ wsG := mG3 28 rfl rfl
theorem kw_509 : (Jvm.Cond.methodLink "EvenHold" (178 : Nat) ({ cls := "EvenHold", name := "lookBack", desc := "()V" } : Jvm.MethodName)) ∈ wsG := mG3 29 rfl rfl
theorem kw_511 : (Jvm.Cond.instanceMethod ({ cls := "EvenHold", name := "lookBack", desc := "()V" } : Jvm.MethodName)) ∈ wsG := mG3 31 rfl rfl
theorem kw_512 : (Jvm.Cond.code ({ cls := "EvenHold", name := "lookBack", desc := "()V" } : Jvm.MethodName) prog_1_method_33_code (1 : Nat) (Option.none : Option Jvm.ClassFile.FieldType)) ∈ wsG := mG3 32 rfl rfl
theorem kw_513 : (Jvm.Cond.methodLink "EvenHold" (251 : Nat) ({ cls := "EvenHold$Fit", name := "tellOf", desc := "(LEvenHold$Lighter;LEvenHold$Now;I)V" } : Jvm.MethodName)) ∈ wsG := mG3 33 rfl rfl
theorem kw_514 : (Jvm.Cond.instanceMethod ({ cls := "EvenHold$Fit", name := "tellOf", desc := "(LEvenHold$Lighter;LEvenHold$Now;I)V" } : Jvm.MethodName)) ∈ wsG := mG3 34 rfl rfl
theorem kw_515 : (Jvm.Cond.selects "EvenHold$Fit" ({ cls := "EvenHold$Fit", name := "tellOf", desc := "(LEvenHold$Lighter;LEvenHold$Now;I)V" } : Jvm.MethodName) ({ cls := "EvenHold$Fit", name := "tellOf", desc := "(LEvenHold$Lighter;LEvenHold$Now;I)V" } : Jvm.MethodName)) ∈ wsG := mG3 35 rfl rfl
theorem kw_516 : (Jvm.Cond.code ({ cls := "EvenHold$Fit", name := "tellOf", desc := "(LEvenHold$Lighter;LEvenHold$Now;I)V" } : Jvm.MethodName) prog_3_method_2_code (9 : Nat) (Option.none : Option Jvm.ClassFile.FieldType)) ∈ wsG := mG3 36 rfl rfl
theorem kw_518 : (Jvm.Cond.methodLink "EvenHold$Fit" (33 : Nat) ({ cls := "EvenHold$Lighter", name := "behind", desc := "(III)I" } : Jvm.MethodName)) ∈ wsG := mG3 38 rfl rfl
theorem kw_519 : (Jvm.Cond.methodLink "EvenHold$Fit" (39 : Nat) ({ cls := "EvenHold$Fit", name := "rowsBehind", desc := "(LEvenHold$Lighter;LEvenHold$Now;III)I" } : Jvm.MethodName)) ∈ wsG := mG3 39 rfl rfl
theorem kw_520 : (Jvm.Cond.static ({ cls := "EvenHold$Fit", name := "rowsBehind", desc := "(LEvenHold$Lighter;LEvenHold$Now;III)I" } : Jvm.MethodName)) ∈ wsG := mG3 40 rfl rfl
theorem kw_521 : (Jvm.Cond.code ({ cls := "EvenHold$Fit", name := "rowsBehind", desc := "(LEvenHold$Lighter;LEvenHold$Now;III)I" } : Jvm.MethodName) prog_3_method_3_code (10 : Nat) (Option.some Jvm.ClassFile.FieldType.int)) ∈ wsG := mG3 41 rfl rfl
theorem kw_523 : (Jvm.Cond.methodLink "EvenHoldLaw" (85 : Nat) ({ cls := "EvenHold", name := "days", desc := "(III)I" } : Jvm.MethodName)) ∈ wsG := mG3 43 rfl rfl
theorem kw_524 : (Jvm.Cond.instanceMethod ({ cls := "EvenHold", name := "days", desc := "(III)I" } : Jvm.MethodName)) ∈ wsG := mG3 44 rfl rfl
theorem kw_525 : (Jvm.Cond.selects "EvenHold" ({ cls := "EvenHold", name := "days", desc := "(III)I" } : Jvm.MethodName) ({ cls := "EvenHold", name := "days", desc := "(III)I" } : Jvm.MethodName)) ∈ wsG := mG3 45 rfl rfl
theorem kw_526 : (Jvm.Cond.code ({ cls := "EvenHold", name := "days", desc := "(III)I" } : Jvm.MethodName) prog_1_method_19_code (12 : Nat) (Option.some Jvm.ClassFile.FieldType.int)) ∈ wsG := mG3 46 rfl rfl
theorem kw_527 : (Jvm.Cond.methodLink "EvenHold" (190 : Nat) ({ cls := "EvenHold", name := "nextSeed", desc := "(I)I" } : Jvm.MethodName)) ∈ wsG := mG3 47 rfl rfl
theorem kw_528 : (Jvm.Cond.static ({ cls := "EvenHold", name := "nextSeed", desc := "(I)I" } : Jvm.MethodName)) ∈ wsG := mG3 48 rfl rfl
theorem kw_529 : (Jvm.Cond.code ({ cls := "EvenHold", name := "nextSeed", desc := "(I)I" } : Jvm.MethodName) prog_1_method_36_code (1 : Nat) (Option.some Jvm.ClassFile.FieldType.int)) ∈ wsG := mG3 49 rfl rfl
theorem kw_530 : (Jvm.Cond.constantLong "EvenHold" (255 : Nat) (1103515245 : Int64)) ∈ wsG := mG3 50 rfl rfl
theorem kw_531 : (Jvm.Cond.constantLong "EvenHold" (257 : Nat) (12345 : Int64)) ∈ wsG := mG3 51 rfl rfl
theorem kw_532 : (Jvm.Cond.constantLong "EvenHold" (259 : Nat) (2147483648 : Int64)) ∈ wsG := mG3 52 rfl rfl
theorem kw_533 : (Jvm.Cond.constant "EvenHold" (193 : Nat) (65536 : Int32)) ∈ wsG := mG3 53 rfl rfl
theorem kw_534 : (Jvm.Cond.methodLink "EvenHoldLaw" (90 : Nat) ({ cls := "EvenHold", name := "image", desc := "()I" } : Jvm.MethodName)) ∈ wsG := mG3 54 rfl rfl
theorem kw_535 : (Jvm.Cond.instanceMethod ({ cls := "EvenHold", name := "image", desc := "()I" } : Jvm.MethodName)) ∈ wsG := mG3 55 rfl rfl
theorem kw_536 : (Jvm.Cond.selects "EvenHold" ({ cls := "EvenHold", name := "image", desc := "()I" } : Jvm.MethodName) ({ cls := "EvenHold", name := "image", desc := "()I" } : Jvm.MethodName)) ∈ wsG := mG3 56 rfl rfl
theorem kw_537 : (Jvm.Cond.code ({ cls := "EvenHold", name := "image", desc := "()I" } : Jvm.MethodName) prog_1_method_20_code (1 : Nat) (Option.some Jvm.ClassFile.FieldType.int)) ∈ wsG := mG3 57 rfl rfl
theorem kw_538 : (Jvm.Cond.methodLink "EvenHold" (194 : Nat) ({ cls := "EvenHold$Now", name := "copyOf", desc := "(LEvenHold$Now;)V" } : Jvm.MethodName)) ∈ wsG := mG3 58 rfl rfl
theorem kw_539 : (Jvm.Cond.instanceMethod ({ cls := "EvenHold$Now", name := "copyOf", desc := "(LEvenHold$Now;)V" } : Jvm.MethodName)) ∈ wsG := mG3 59 rfl rfl
theorem kw_540 : (Jvm.Cond.selects "EvenHold$Now" ({ cls := "EvenHold$Now", name := "copyOf", desc := "(LEvenHold$Now;)V" } : Jvm.MethodName) ({ cls := "EvenHold$Now", name := "copyOf", desc := "(LEvenHold$Now;)V" } : Jvm.MethodName)) ∈ wsG := mG3 60 rfl rfl
theorem kw_541 : (Jvm.Cond.code ({ cls := "EvenHold$Now", name := "copyOf", desc := "(LEvenHold$Now;)V" } : Jvm.MethodName) prog_5_method_3_code (3 : Nat) (Option.none : Option Jvm.ClassFile.FieldType)) ∈ wsG := mG3 61 rfl rfl
theorem kw_542 : (Jvm.Cond.methodLink "EvenHoldLaw" (94 : Nat) ({ cls := "EvenHold", name := "restore", desc := "()I" } : Jvm.MethodName)) ∈ wsG := mG3 62 rfl rfl
theorem kw_543 : (Jvm.Cond.instanceMethod ({ cls := "EvenHold", name := "restore", desc := "()I" } : Jvm.MethodName)) ∈ wsG := mG3 63 rfl rfl
theorem kw_544 : (Jvm.Cond.selects "EvenHold" ({ cls := "EvenHold", name := "restore", desc := "()I" } : Jvm.MethodName) ({ cls := "EvenHold", name := "restore", desc := "()I" } : Jvm.MethodName)) ∈ wsG := mG3 64 rfl rfl
theorem kw_545 : (Jvm.Cond.code ({ cls := "EvenHold", name := "restore", desc := "()I" } : Jvm.MethodName) prog_1_method_21_code (1 : Nat) (Option.some Jvm.ClassFile.FieldType.int)) ∈ wsG := mG3 65 rfl rfl
theorem kw_546 : (Jvm.Cond.methodLink "EvenHoldLaw" (98 : Nat) ({ cls := "EvenHold", name := "count", desc := "(I)I" } : Jvm.MethodName)) ∈ wsG := mG3 66 rfl rfl
theorem kw_547 : (Jvm.Cond.instanceMethod ({ cls := "EvenHold", name := "count", desc := "(I)I" } : Jvm.MethodName)) ∈ wsG := mG3 67 rfl rfl
theorem kw_548 : (Jvm.Cond.selects "EvenHold" ({ cls := "EvenHold", name := "count", desc := "(I)I" } : Jvm.MethodName) ({ cls := "EvenHold", name := "count", desc := "(I)I" } : Jvm.MethodName)) ∈ wsG := mG3 68 rfl rfl
theorem kw_549 : (Jvm.Cond.code ({ cls := "EvenHold", name := "count", desc := "(I)I" } : Jvm.MethodName) prog_1_method_22_code (2 : Nat) (Option.some Jvm.ClassFile.FieldType.int)) ∈ wsG := mG3 69 rfl rfl
theorem kw_550 : (Jvm.Cond.methodLink "EvenHoldLaw" (102 : Nat) ({ cls := "EvenHold", name := "digest", desc := "()J" } : Jvm.MethodName)) ∈ wsG := mG3 70 rfl rfl
theorem kw_551 : (Jvm.Cond.instanceMethod ({ cls := "EvenHold", name := "digest", desc := "()J" } : Jvm.MethodName)) ∈ wsG := mG3 71 rfl rfl
theorem kw_552 : (Jvm.Cond.selects "EvenHold" ({ cls := "EvenHold", name := "digest", desc := "()J" } : Jvm.MethodName) ({ cls := "EvenHold", name := "digest", desc := "()J" } : Jvm.MethodName)) ∈ wsG := mG3 72 rfl rfl
theorem kw_553 : (Jvm.Cond.code ({ cls := "EvenHold", name := "digest", desc := "()J" } : Jvm.MethodName) prog_1_method_23_code (4 : Nat) (Option.some Jvm.ClassFile.FieldType.long)) ∈ wsG := mG3 73 rfl rfl
theorem kw_554 : (Jvm.Cond.constantLong "EvenHold" (204 : Nat) (829 : Int64)) ∈ wsG := mG3 74 rfl rfl
theorem kw_555 : (Jvm.Cond.methodLink "EvenHold" (206 : Nat) ({ cls := "EvenHold", name := "withLighter", desc := "(J)J" } : Jvm.MethodName)) ∈ wsG := mG3 75 rfl rfl
theorem kw_557 : (Jvm.Cond.instanceMethod ({ cls := "EvenHold", name := "withLighter", desc := "(J)J" } : Jvm.MethodName)) ∈ wsG := mG3 77 rfl rfl
theorem kw_558 : (Jvm.Cond.code ({ cls := "EvenHold", name := "withLighter", desc := "(J)J" } : Jvm.MethodName) prog_1_method_24_code (7 : Nat) (Option.some Jvm.ClassFile.FieldType.long)) ∈ wsG := mG3 78 rfl rfl
theorem kw_559 : (Jvm.Cond.constantLong "EvenHold" (216 : Nat) (31 : Int64)) ∈ wsG := mG3 79 rfl rfl
theorem kw_560 : (Jvm.Cond.methodLink "EvenHold" (221 : Nat) ({ cls := "EvenHold", name := "bay", desc := "(II)I" } : Jvm.MethodName)) ∈ wsG := mG3 80 rfl rfl
theorem kw_561 : (Jvm.Cond.methodLink "EvenHold" (224 : Nat) ({ cls := "EvenHold", name := "hull", desc := "(I)I" } : Jvm.MethodName)) ∈ wsG := mG3 81 rfl rfl
theorem kw_562 : (Jvm.Cond.methodLink "EvenHold" (210 : Nat) ({ cls := "EvenHold", name := "withActs", desc := "(J)J" } : Jvm.MethodName)) ∈ wsG := mG3 82 rfl rfl
theorem kw_564 : (Jvm.Cond.instanceMethod ({ cls := "EvenHold", name := "withActs", desc := "(J)J" } : Jvm.MethodName)) ∈ wsG := mG3 84 rfl rfl
theorem kw_565 : (Jvm.Cond.code ({ cls := "EvenHold", name := "withActs", desc := "(J)J" } : Jvm.MethodName) prog_1_method_25_code (9 : Nat) (Option.some Jvm.ClassFile.FieldType.long)) ∈ wsG := mG3 85 rfl rfl
theorem kw_566 : (Jvm.Cond.fieldLink "EvenHold" (227 : Nat) "EvenHold" "ACTS" "[I") ∈ wsG := mG3 86 rfl rfl
theorem kw_567 : (Jvm.Cond.methodLink "EvenHold" (230 : Nat) ({ cls := "EvenHold", name := "may", desc := "(I)I" } : Jvm.MethodName)) ∈ wsG := mG3 87 rfl rfl
theorem kw_568 : (Jvm.Cond.methodLink "EvenHold" (213 : Nat) ({ cls := "EvenHold", name := "withOutlook", desc := "(J)J" } : Jvm.MethodName)) ∈ wsG := mG3 88 rfl rfl
theorem kw_570 : (Jvm.Cond.instanceMethod ({ cls := "EvenHold", name := "withOutlook", desc := "(J)J" } : Jvm.MethodName)) ∈ wsG := mG3 90 rfl rfl
theorem kw_571 : (Jvm.Cond.code ({ cls := "EvenHold", name := "withOutlook", desc := "(J)J" } : Jvm.MethodName) prog_1_method_26_code (5 : Nat) (Option.some Jvm.ClassFile.FieldType.long)) ∈ wsG := mG3 91 rfl rfl
theorem kw_572 : (Jvm.Cond.methodLink "EvenHold" (218 : Nat) ({ cls := "EvenHold", name := "count", desc := "(I)I" } : Jvm.MethodName)) ∈ wsG := mG3 92 rfl rfl
theorem kw_573 : (Jvm.Cond.classLink "EvenHoldLaw" (10 : Nat) "EvenHoldModel") ∈ wsG := mG3 93 rfl rfl
theorem kw_574 : (Jvm.Cond.instantiable "EvenHoldModel" (32 : Nat)) ∈ wsG := mG3 94 rfl rfl
theorem kw_575 : (Jvm.Cond.methodLink "EvenHoldLaw" (12 : Nat) ({ cls := "EvenHoldModel", name := "<init>", desc := "()V" } : Jvm.MethodName)) ∈ wsG := mG3 95 rfl rfl
theorem kw_576 : (Jvm.Cond.instanceMethod ({ cls := "EvenHoldModel", name := "<init>", desc := "()V" } : Jvm.MethodName)) ∈ wsG := mG3 96 rfl rfl
theorem kw_577 : (Jvm.Cond.code ({ cls := "EvenHoldModel", name := "<init>", desc := "()V" } : Jvm.MethodName) prog_8_method_1_code (1 : Nat) (Option.none : Option Jvm.ClassFile.FieldType)) ∈ wsG := mG3 97 rfl rfl
theorem kw_578 : (Jvm.Cond.methodLink "EvenHoldModel" (1 : Nat) ({ cls := "java/lang/Object", name := "<init>", desc := "()V" } : Jvm.MethodName)) ∈ wsG := mG3 98 rfl rfl
theorem kw_579 : (Jvm.Cond.fieldLink "EvenHoldModel" (7 : Nat) "EvenHoldModel" "page" "[I") ∈ wsG := mG3 99 rfl rfl
theorem kw_580 : (Jvm.Cond.fieldLink "EvenHoldModel" (51 : Nat) "EvenHoldModel" "pageMany" "I") ∈ wsG := mG3 100 rfl rfl
theorem kw_581 : (Jvm.Cond.fieldLink "EvenHoldModel" (91 : Nat) "EvenHoldModel" "isThere" "Z") ∈ wsG := mG3 101 rfl rfl
theorem kw_582 : (Jvm.Cond.fieldLink "EvenHoldModel" (73 : Nat) "EvenHoldModel" "bend" "I") ∈ wsG := mG3 102 rfl rfl
theorem kw_583 : (Jvm.Cond.fieldLink "EvenHoldModel" (76 : Nat) "EvenHoldModel" "list" "I") ∈ wsG := mG3 103 rfl rfl
theorem kw_584 : (Jvm.Cond.fieldLink "EvenHoldModel" (70 : Nat) "EvenHoldModel" "lies" "I") ∈ wsG := mG3 104 rfl rfl
theorem kw_585 : (Jvm.Cond.fieldLink "EvenHoldModel" (79 : Nat) "EvenHoldModel" "out" "I") ∈ wsG := mG3 105 rfl rfl
theorem kw_586 : (Jvm.Cond.fieldLink "EvenHoldModel" (82 : Nat) "EvenHoldModel" "minutes" "I") ∈ wsG := mG3 106 rfl rfl
theorem kw_587 : (Jvm.Cond.fieldLink "EvenHoldModel" (85 : Nat) "EvenHoldModel" "groundNow" "I") ∈ wsG := mG3 107 rfl rfl
theorem kw_588 : (Jvm.Cond.fieldLink "EvenHoldModel" (95 : Nat) "EvenHoldModel" "holdsRead" "I") ∈ wsG := mG3 108 rfl rfl
theorem kw_589 : (Jvm.Cond.fieldLink "EvenHoldModel" (13 : Nat) "EvenHoldModel" "kinds" "[I") ∈ wsG := mG3 109 rfl rfl
theorem kw_590 : (Jvm.Cond.fieldLink "EvenHoldModel" (16 : Nat) "EvenHoldModel" "far" "[I") ∈ wsG := mG3 110 rfl rfl
theorem kw_591 : (Jvm.Cond.fieldLink "EvenHoldModel" (19 : Nat) "EvenHoldModel" "firsts" "[I") ∈ wsG := mG3 111 rfl rfl
theorem kw_592 : (Jvm.Cond.fieldLink "EvenHoldModel" (22 : Nat) "EvenHoldModel" "waits" "[I") ∈ wsG := mG3 112 rfl rfl
theorem kw_593 : (Jvm.Cond.fieldLink "EvenHoldModel" (25 : Nat) "EvenHoldModel" "isWaiting" "[Z") ∈ wsG := mG3 113 rfl rfl
theorem kw_594 : (Jvm.Cond.fieldLink "EvenHoldModel" (163 : Nat) "EvenHoldModel" "leastMany" "I") ∈ wsG := mG3 114 rfl rfl
theorem kw_595 : (Jvm.Cond.fieldLink "EvenHoldModel" (88 : Nat) "EvenHoldModel" "stringMany" "I") ∈ wsG := mG3 115 rfl rfl
theorem kw_596 : (Jvm.Cond.fieldLink "EvenHoldModel" (29 : Nat) "EvenHoldModel" "strings" "[I") ∈ wsG := mG3 116 rfl rfl
theorem kw_597 : (Jvm.Cond.fieldLink "EvenHoldModel" (32 : Nat) "EvenHoldModel" "now" "[I") ∈ wsG := mG3 117 rfl rfl
theorem kw_598 : (Jvm.Cond.fieldLink "EvenHoldModel" (35 : Nat) "EvenHoldModel" "next" "[I") ∈ wsG := mG3 118 rfl rfl
theorem kw_599 : (Jvm.Cond.fieldLink "EvenHoldModel" (171 : Nat) "EvenHoldModel" "fitsAll" "I") ∈ wsG := mG3 119 rfl rfl
theorem kw_600 : (Jvm.Cond.fieldLink "EvenHoldModel" (174 : Nat) "EvenHoldModel" "firstMany" "I") ∈ wsG := mG3 120 rfl rfl
theorem kw_601 : (Jvm.Cond.fieldLink "EvenHoldModel" (177 : Nat) "EvenHoldModel" "firstLeast" "I") ∈ wsG := mG3 121 rfl rfl
theorem kw_602 : (Jvm.Cond.fieldLink "EvenHoldModel" (188 : Nat) "EvenHoldModel" "seedNow" "I") ∈ wsG := mG3 122 rfl rfl
theorem kw_603 : (Jvm.Cond.fieldLink "EvenHoldModel" (41 : Nat) "EvenHoldModel" "keptHold" "I") ∈ wsG := mG3 123 rfl rfl
theorem kw_604 : (Jvm.Cond.fieldLink "EvenHoldModel" (205 : Nat) "EvenHoldModel" "keptLies" "I") ∈ wsG := mG3 124 rfl rfl
theorem kw_605 : (Jvm.Cond.fieldLink "EvenHoldModel" (208 : Nat) "EvenHoldModel" "keptOut" "I") ∈ wsG := mG3 125 rfl rfl
theorem kw_606 : (Jvm.Cond.fieldLink "EvenHoldModel" (211 : Nat) "EvenHoldModel" "keptMinutes" "I") ∈ wsG := mG3 126 rfl rfl
theorem kw_607 : (Jvm.Cond.fieldLink "EvenHoldModel" (214 : Nat) "EvenHoldModel" "keptGround" "I") ∈ wsG := mG3 127 rfl rfl
theorem kw_608 : (Jvm.Cond.fieldLink "EvenHoldModel" (217 : Nat) "EvenHoldModel" "keptStringMany" "I") ∈ wsG := mG3 128 rfl rfl
theorem kw_609 : (Jvm.Cond.fieldLink "EvenHoldModel" (38 : Nat) "EvenHoldModel" "keptStrings" "[I") ∈ wsG := mG3 129 rfl rfl
theorem kw_610 : (Jvm.Cond.fieldLink "EvenHoldModel" (225 : Nat) "EvenHoldModel" "hash" "J") ∈ wsG := mG3 130 rfl rfl
theorem kw_611 : (Jvm.Cond.laysFinal "EvenHoldModel" "EvenHoldModel" "page" "[I") ∈ wsG := mG3 131 rfl rfl
theorem kw_613 : (Jvm.Cond.lays "EvenHoldModel" "EvenHoldModel" "pageMany" "I") ∈ wsG := mG3 133 rfl rfl
theorem kw_615 : (Jvm.Cond.lays "EvenHoldModel" "EvenHoldModel" "isThere" "Z") ∈ wsG := mG3 135 rfl rfl
theorem kw_617 : (Jvm.Cond.lays "EvenHoldModel" "EvenHoldModel" "bend" "I") ∈ wsG := mG3 137 rfl rfl
theorem kw_619 : (Jvm.Cond.lays "EvenHoldModel" "EvenHoldModel" "list" "I") ∈ wsG := mG3 139 rfl rfl
theorem kw_621 : (Jvm.Cond.lays "EvenHoldModel" "EvenHoldModel" "lies" "I") ∈ wsG := mG3 141 rfl rfl
theorem kw_623 : (Jvm.Cond.lays "EvenHoldModel" "EvenHoldModel" "out" "I") ∈ wsG := mG3 143 rfl rfl
theorem kw_625 : (Jvm.Cond.lays "EvenHoldModel" "EvenHoldModel" "minutes" "I") ∈ wsG := mG3 145 rfl rfl
theorem kw_627 : (Jvm.Cond.lays "EvenHoldModel" "EvenHoldModel" "groundNow" "I") ∈ wsG := mG3 147 rfl rfl
theorem kw_629 : (Jvm.Cond.lays "EvenHoldModel" "EvenHoldModel" "holdsRead" "I") ∈ wsG := mG3 149 rfl rfl
theorem kw_631 : (Jvm.Cond.laysFinal "EvenHoldModel" "EvenHoldModel" "kinds" "[I") ∈ wsG := mG3 151 rfl rfl
theorem kw_633 : (Jvm.Cond.laysFinal "EvenHoldModel" "EvenHoldModel" "far" "[I") ∈ wsG := mG3 153 rfl rfl
theorem kw_635 : (Jvm.Cond.laysFinal "EvenHoldModel" "EvenHoldModel" "firsts" "[I") ∈ wsG := mG3 155 rfl rfl
theorem kw_637 : (Jvm.Cond.laysFinal "EvenHoldModel" "EvenHoldModel" "waits" "[I") ∈ wsG := mG3 157 rfl rfl
theorem kw_639 : (Jvm.Cond.laysFinal "EvenHoldModel" "EvenHoldModel" "isWaiting" "[Z") ∈ wsG := mG3 159 rfl rfl
theorem kw_641 : (Jvm.Cond.lays "EvenHoldModel" "EvenHoldModel" "leastMany" "I") ∈ wsG := mG3 161 rfl rfl
theorem kw_643 : (Jvm.Cond.lays "EvenHoldModel" "EvenHoldModel" "stringMany" "I") ∈ wsG := mG3 163 rfl rfl
theorem kw_645 : (Jvm.Cond.laysFinal "EvenHoldModel" "EvenHoldModel" "strings" "[I") ∈ wsG := mG3 165 rfl rfl
theorem kw_647 : (Jvm.Cond.laysFinal "EvenHoldModel" "EvenHoldModel" "now" "[I") ∈ wsG := mG3 167 rfl rfl
theorem kw_649 : (Jvm.Cond.laysFinal "EvenHoldModel" "EvenHoldModel" "next" "[I") ∈ wsG := mG3 169 rfl rfl
theorem kw_651 : (Jvm.Cond.lays "EvenHoldModel" "EvenHoldModel" "fitsAll" "I") ∈ wsG := mG3 171 rfl rfl
theorem kw_653 : (Jvm.Cond.lays "EvenHoldModel" "EvenHoldModel" "firstMany" "I") ∈ wsG := mG3 173 rfl rfl
theorem kw_655 : (Jvm.Cond.lays "EvenHoldModel" "EvenHoldModel" "firstLeast" "I") ∈ wsG := mG3 175 rfl rfl
theorem kw_657 : (Jvm.Cond.lays "EvenHoldModel" "EvenHoldModel" "seedNow" "I") ∈ wsG := mG3 177 rfl rfl
theorem kw_659 : (Jvm.Cond.lays "EvenHoldModel" "EvenHoldModel" "keptHold" "I") ∈ wsG := mG3 179 rfl rfl
theorem kw_661 : (Jvm.Cond.lays "EvenHoldModel" "EvenHoldModel" "keptLies" "I") ∈ wsG := mG3 181 rfl rfl
theorem kw_663 : (Jvm.Cond.lays "EvenHoldModel" "EvenHoldModel" "keptOut" "I") ∈ wsG := mG3 183 rfl rfl
theorem kw_665 : (Jvm.Cond.lays "EvenHoldModel" "EvenHoldModel" "keptMinutes" "I") ∈ wsG := mG3 185 rfl rfl
theorem kw_667 : (Jvm.Cond.lays "EvenHoldModel" "EvenHoldModel" "keptGround" "I") ∈ wsG := mG3 187 rfl rfl
theorem kw_669 : (Jvm.Cond.lays "EvenHoldModel" "EvenHoldModel" "keptStringMany" "I") ∈ wsG := mG3 189 rfl rfl
theorem kw_671 : (Jvm.Cond.laysFinal "EvenHoldModel" "EvenHoldModel" "keptStrings" "[I") ∈ wsG := mG3 191 rfl rfl
theorem kw_673 : (Jvm.Cond.lays "EvenHoldModel" "EvenHoldModel" "hash" "J") ∈ wsG := mG3 193 rfl rfl
theorem kw_676 : (Jvm.Cond.arrayClass Jvm.ClassFile.FieldType.boolean) ∈ wsG := mG3 196 rfl rfl
theorem kw_677 : (Jvm.Cond.methodLink "EvenHoldLaw" (17 : Nat) ({ cls := "EvenHoldModel", name := "letter", desc := "(I)I" } : Jvm.MethodName)) ∈ wsG := mG3 197 rfl rfl
theorem kw_678 : (Jvm.Cond.instanceMethod ({ cls := "EvenHoldModel", name := "letter", desc := "(I)I" } : Jvm.MethodName)) ∈ wsG := mG3 198 rfl rfl
theorem kw_679 : (Jvm.Cond.selects "EvenHoldModel" ({ cls := "EvenHoldModel", name := "letter", desc := "(I)I" } : Jvm.MethodName) ({ cls := "EvenHoldModel", name := "letter", desc := "(I)I" } : Jvm.MethodName)) ∈ wsG := mG3 199 rfl rfl
theorem kw_680 : (Jvm.Cond.code ({ cls := "EvenHoldModel", name := "letter", desc := "(I)I" } : Jvm.MethodName) prog_8_method_3_code (2 : Nat) (Option.some Jvm.ClassFile.FieldType.int)) ∈ wsG := mG3 200 rfl rfl
theorem kw_681 : (Jvm.Cond.constantLong "EvenHoldModel" (45 : Nat) (126 : Int64)) ∈ wsG := mG3 201 rfl rfl
theorem kw_682 : (Jvm.Cond.methodLink "EvenHoldModel" (47 : Nat) ({ cls := "EvenHoldModel", name := "in", desc := "(JJJ)Z" } : Jvm.MethodName)) ∈ wsG := mG3 202 rfl rfl
theorem kw_683 : (Jvm.Cond.static ({ cls := "EvenHoldModel", name := "in", desc := "(JJJ)Z" } : Jvm.MethodName)) ∈ wsG := mG3 203 rfl rfl
theorem kw_684 : (Jvm.Cond.code ({ cls := "EvenHoldModel", name := "in", desc := "(JJJ)Z" } : Jvm.MethodName) prog_8_method_2_code (6 : Nat) (Option.some Jvm.ClassFile.FieldType.boolean)) ∈ wsG := mG3 204 rfl rfl
theorem kw_685 : (Jvm.Cond.methodLink "EvenHoldLaw" (22 : Nat) ({ cls := "EvenHoldModel", name := "blank", desc := "()I" } : Jvm.MethodName)) ∈ wsG := mG3 205 rfl rfl
theorem kw_686 : (Jvm.Cond.instanceMethod ({ cls := "EvenHoldModel", name := "blank", desc := "()I" } : Jvm.MethodName)) ∈ wsG := mG3 206 rfl rfl
theorem kw_687 : (Jvm.Cond.selects "EvenHoldModel" ({ cls := "EvenHoldModel", name := "blank", desc := "()I" } : Jvm.MethodName) ({ cls := "EvenHoldModel", name := "blank", desc := "()I" } : Jvm.MethodName)) ∈ wsG := mG3 207 rfl rfl
theorem kw_688 : (Jvm.Cond.code ({ cls := "EvenHoldModel", name := "blank", desc := "()I" } : Jvm.MethodName) prog_8_method_4_code (2 : Nat) (Option.some Jvm.ClassFile.FieldType.int)) ∈ wsG := mG3 208 rfl rfl
theorem kw_689 : (Jvm.Cond.methodLink "EvenHoldLaw" (26 : Nat) ({ cls := "EvenHoldModel", name := "fault", desc := "()I" } : Jvm.MethodName)) ∈ wsG := mG3 209 rfl rfl
theorem kw_690 : (Jvm.Cond.instanceMethod ({ cls := "EvenHoldModel", name := "fault", desc := "()I" } : Jvm.MethodName)) ∈ wsG := mG3 210 rfl rfl
theorem kw_691 : (Jvm.Cond.selects "EvenHoldModel" ({ cls := "EvenHoldModel", name := "fault", desc := "()I" } : Jvm.MethodName) ({ cls := "EvenHoldModel", name := "fault", desc := "()I" } : Jvm.MethodName)) ∈ wsG := mG3 211 rfl rfl
theorem kw_692 : (Jvm.Cond.code ({ cls := "EvenHoldModel", name := "fault", desc := "()I" } : Jvm.MethodName) prog_8_method_8_code (1 : Nat) (Option.some Jvm.ClassFile.FieldType.int)) ∈ wsG := mG3 212 rfl rfl
theorem kw_693 : (Jvm.Cond.methodLink "EvenHoldModel" (66 : Nat) ({ cls := "EvenHoldModel", name := "faultOf", desc := "()I" } : Jvm.MethodName)) ∈ wsG := mG3 213 rfl rfl
theorem kw_695 : (Jvm.Cond.instanceMethod ({ cls := "EvenHoldModel", name := "faultOf", desc := "()I" } : Jvm.MethodName)) ∈ wsG := mG3 215 rfl rfl
theorem kw_696 : (Jvm.Cond.code ({ cls := "EvenHoldModel", name := "faultOf", desc := "()I" } : Jvm.MethodName) prog_8_method_7_code (2 : Nat) (Option.some Jvm.ClassFile.FieldType.int)) ∈ wsG := mG3 216 rfl rfl
theorem kw_697 : (Jvm.Cond.methodLink "EvenHoldModel" (62 : Nat) ({ cls := "EvenHoldModel", name := "isGood", desc := "(II)Z" } : Jvm.MethodName)) ∈ wsG := mG3 217 rfl rfl
theorem kw_698 : (Jvm.Cond.static ({ cls := "EvenHoldModel", name := "isGood", desc := "(II)Z" } : Jvm.MethodName)) ∈ wsG := mG3 218 rfl rfl
theorem kw_699 : (Jvm.Cond.code ({ cls := "EvenHoldModel", name := "isGood", desc := "(II)Z" } : Jvm.MethodName) prog_8_method_6_code (3 : Nat) (Option.some Jvm.ClassFile.FieldType.boolean)) ∈ wsG := mG3 219 rfl rfl
theorem kw_700 : (Jvm.Cond.constantLong "EvenHoldModel" (54 : Nat) (9 : Int64)) ∈ wsG := mG3 220 rfl rfl
theorem kw_701 : (Jvm.Cond.methodLink "EvenHoldModel" (56 : Nat) ({ cls := "EvenHoldModel", name := "kindBy", desc := "(I)I" } : Jvm.MethodName)) ∈ wsG := mG3 221 rfl rfl
theorem kw_702 : (Jvm.Cond.static ({ cls := "EvenHoldModel", name := "kindBy", desc := "(I)I" } : Jvm.MethodName)) ∈ wsG := mG3 222 rfl rfl
theorem kw_703 : (Jvm.Cond.code ({ cls := "EvenHoldModel", name := "kindBy", desc := "(I)I" } : Jvm.MethodName) prog_8_method_5_code (1 : Nat) (Option.some Jvm.ClassFile.FieldType.int)) ∈ wsG := mG3 223 rfl rfl
theorem kw_704 : (Jvm.Cond.constantLong "EvenHoldModel" (60 : Nat) (3 : Int64)) ∈ wsG := mG3 224 rfl rfl
theorem kw_705 : (Jvm.Cond.methodLink "EvenHoldLaw" (30 : Nat) ({ cls := "EvenHoldModel", name := "hold", desc := "()I" } : Jvm.MethodName)) ∈ wsG := mG3 225 rfl rfl
theorem kw_706 : (Jvm.Cond.instanceMethod ({ cls := "EvenHoldModel", name := "hold", desc := "()I" } : Jvm.MethodName)) ∈ wsG := mG3 226 rfl rfl
theorem kw_707 : (Jvm.Cond.selects "EvenHoldModel" ({ cls := "EvenHoldModel", name := "hold", desc := "()I" } : Jvm.MethodName) ({ cls := "EvenHoldModel", name := "hold", desc := "()I" } : Jvm.MethodName)) ∈ wsG := mG3 227 rfl rfl
theorem kw_708 : (Jvm.Cond.code ({ cls := "EvenHoldModel", name := "hold", desc := "()I" } : Jvm.MethodName) prog_8_method_9_code (2 : Nat) (Option.some Jvm.ClassFile.FieldType.int)) ∈ wsG := mG3 228 rfl rfl
theorem kw_709 : (Jvm.Cond.methodLink "EvenHoldModel" (98 : Nat) ({ cls := "EvenHoldModel", name := "tonsOf", desc := "(I)I" } : Jvm.MethodName)) ∈ wsG := mG3 229 rfl rfl
theorem kw_710 : (Jvm.Cond.static ({ cls := "EvenHoldModel", name := "tonsOf", desc := "(I)I" } : Jvm.MethodName)) ∈ wsG := mG3 230 rfl rfl
theorem kw_711 : (Jvm.Cond.code ({ cls := "EvenHoldModel", name := "tonsOf", desc := "(I)I" } : Jvm.MethodName) prog_8_method_11_code (3 : Nat) (Option.some Jvm.ClassFile.FieldType.int)) ∈ wsG := mG3 231 rfl rfl
theorem kw_712 : (Jvm.Cond.methodLink "EvenHoldModel" (101 : Nat) ({ cls := "EvenHoldModel", name := "at", desc := "(II)I" } : Jvm.MethodName)) ∈ wsG := mG3 232 rfl rfl
theorem kw_713 : (Jvm.Cond.static ({ cls := "EvenHoldModel", name := "at", desc := "(II)I" } : Jvm.MethodName)) ∈ wsG := mG3 233 rfl rfl
theorem kw_714 : (Jvm.Cond.code ({ cls := "EvenHoldModel", name := "at", desc := "(II)I" } : Jvm.MethodName) prog_8_method_10_code (2 : Nat) (Option.some Jvm.ClassFile.FieldType.int)) ∈ wsG := mG3 234 rfl rfl
theorem kw_715 : (Jvm.Cond.methodLink "EvenHoldLaw" (35 : Nat) ({ cls := "EvenHoldModel", name := "bay", desc := "(II)I" } : Jvm.MethodName)) ∈ wsG := mG3 235 rfl rfl
theorem kw_716 : (Jvm.Cond.instanceMethod ({ cls := "EvenHoldModel", name := "bay", desc := "(II)I" } : Jvm.MethodName)) ∈ wsG := mG3 236 rfl rfl
theorem kw_717 : (Jvm.Cond.selects "EvenHoldModel" ({ cls := "EvenHoldModel", name := "bay", desc := "(II)I" } : Jvm.MethodName) ({ cls := "EvenHoldModel", name := "bay", desc := "(II)I" } : Jvm.MethodName)) ∈ wsG := mG3 237 rfl rfl
theorem kw_718 : (Jvm.Cond.code ({ cls := "EvenHoldModel", name := "bay", desc := "(II)I" } : Jvm.MethodName) prog_8_method_18_code (3 : Nat) (Option.some Jvm.ClassFile.FieldType.int)) ∈ wsG := mG3 238 rfl rfl
theorem kw_719 : (Jvm.Cond.constantLong "EvenHoldModel" (108 : Nat) (2 : Int64)) ∈ wsG := mG3 239 rfl rfl
theorem kw_720 : (Jvm.Cond.methodLink "EvenHoldModel" (110 : Nat) ({ cls := "EvenHoldModel", name := "takingOf", desc := "(I)I" } : Jvm.MethodName)) ∈ wsG := mG4 0 rfl rfl
theorem kw_722 : (Jvm.Cond.instanceMethod ({ cls := "EvenHoldModel", name := "takingOf", desc := "(I)I" } : Jvm.MethodName)) ∈ wsG := mG4 2 rfl rfl
theorem kw_723 : (Jvm.Cond.code ({ cls := "EvenHoldModel", name := "takingOf", desc := "(I)I" } : Jvm.MethodName) prog_8_method_16_code (3 : Nat) (Option.some Jvm.ClassFile.FieldType.int)) ∈ wsG := mG4 3 rfl rfl
theorem kw_724 : (Jvm.Cond.methodLink "EvenHoldModel" (113 : Nat) ({ cls := "EvenHoldModel", name := "carryingOf", desc := "(I)I" } : Jvm.MethodName)) ∈ wsG := mG4 4 rfl rfl
theorem kw_726 : (Jvm.Cond.instanceMethod ({ cls := "EvenHoldModel", name := "carryingOf", desc := "(I)I" } : Jvm.MethodName)) ∈ wsG := mG4 6 rfl rfl
theorem kw_727 : (Jvm.Cond.code ({ cls := "EvenHoldModel", name := "carryingOf", desc := "(I)I" } : Jvm.MethodName) prog_8_method_17_code (2 : Nat) (Option.some Jvm.ClassFile.FieldType.int)) ∈ wsG := mG4 7 rfl rfl
theorem kw_728 : (Jvm.Cond.methodLink "EvenHoldLaw" (39 : Nat) ({ cls := "EvenHoldModel", name := "as", desc := "(II)I" } : Jvm.MethodName)) ∈ wsG := mG4 8 rfl rfl
theorem kw_729 : (Jvm.Cond.instanceMethod ({ cls := "EvenHoldModel", name := "as", desc := "(II)I" } : Jvm.MethodName)) ∈ wsG := mG4 9 rfl rfl
theorem kw_730 : (Jvm.Cond.selects "EvenHoldModel" ({ cls := "EvenHoldModel", name := "as", desc := "(II)I" } : Jvm.MethodName) ({ cls := "EvenHoldModel", name := "as", desc := "(II)I" } : Jvm.MethodName)) ∈ wsG := mG4 10 rfl rfl
theorem kw_731 : (Jvm.Cond.code ({ cls := "EvenHoldModel", name := "as", desc := "(II)I" } : Jvm.MethodName) prog_8_method_19_code (4 : Nat) (Option.some Jvm.ClassFile.FieldType.int)) ∈ wsG := mG4 11 rfl rfl
theorem kw_732 : (Jvm.Cond.constantLong "EvenHoldModel" (116 : Nat) (4 : Int64)) ∈ wsG := mG4 12 rfl rfl
theorem kw_733 : (Jvm.Cond.methodLink "EvenHoldLaw" (44 : Nat) ({ cls := "EvenHoldModel", name := "ground", desc := "(Z)I" } : Jvm.MethodName)) ∈ wsG := mG4 13 rfl rfl
theorem kw_734 : (Jvm.Cond.instanceMethod ({ cls := "EvenHoldModel", name := "ground", desc := "(Z)I" } : Jvm.MethodName)) ∈ wsG := mG4 14 rfl rfl
theorem kw_735 : (Jvm.Cond.selects "EvenHoldModel" ({ cls := "EvenHoldModel", name := "ground", desc := "(Z)I" } : Jvm.MethodName) ({ cls := "EvenHoldModel", name := "ground", desc := "(Z)I" } : Jvm.MethodName)) ∈ wsG := mG4 15 rfl rfl
theorem kw_736 : (Jvm.Cond.code ({ cls := "EvenHoldModel", name := "ground", desc := "(Z)I" } : Jvm.MethodName) prog_8_method_20_code (3 : Nat) (Option.some Jvm.ClassFile.FieldType.int)) ∈ wsG := mG4 16 rfl rfl
theorem kw_737 : (Jvm.Cond.methodLink "EvenHoldLaw" (48 : Nat) ({ cls := "EvenHoldModel", name := "hull", desc := "(I)I" } : Jvm.MethodName)) ∈ wsG := mG4 17 rfl rfl
theorem kw_738 : (Jvm.Cond.instanceMethod ({ cls := "EvenHoldModel", name := "hull", desc := "(I)I" } : Jvm.MethodName)) ∈ wsG := mG4 18 rfl rfl
theorem kw_739 : (Jvm.Cond.selects "EvenHoldModel" ({ cls := "EvenHoldModel", name := "hull", desc := "(I)I" } : Jvm.MethodName) ({ cls := "EvenHoldModel", name := "hull", desc := "(I)I" } : Jvm.MethodName)) ∈ wsG := mG4 19 rfl rfl
theorem kw_740 : (Jvm.Cond.code ({ cls := "EvenHoldModel", name := "hull", desc := "(I)I" } : Jvm.MethodName) prog_8_method_23_code (2 : Nat) (Option.some Jvm.ClassFile.FieldType.int)) ∈ wsG := mG4 20 rfl rfl
theorem kw_741 : (Jvm.Cond.methodLink "EvenHoldModel" (130 : Nat) ({ cls := "EvenHoldModel", name := "hullOf", desc := "(I)I" } : Jvm.MethodName)) ∈ wsG := mG4 21 rfl rfl
theorem kw_743 : (Jvm.Cond.instanceMethod ({ cls := "EvenHoldModel", name := "hullOf", desc := "(I)I" } : Jvm.MethodName)) ∈ wsG := mG4 23 rfl rfl
theorem kw_744 : (Jvm.Cond.code ({ cls := "EvenHoldModel", name := "hullOf", desc := "(I)I" } : Jvm.MethodName) prog_8_method_22_code (2 : Nat) (Option.some Jvm.ClassFile.FieldType.int)) ∈ wsG := mG4 24 rfl rfl
theorem kw_745 : (Jvm.Cond.methodLink "EvenHoldModel" (118 : Nat) ({ cls := "EvenHoldModel", name := "bentOf", desc := "(I)I" } : Jvm.MethodName)) ∈ wsG := mG4 25 rfl rfl
theorem kw_746 : (Jvm.Cond.static ({ cls := "EvenHoldModel", name := "bentOf", desc := "(I)I" } : Jvm.MethodName)) ∈ wsG := mG4 26 rfl rfl
theorem kw_747 : (Jvm.Cond.code ({ cls := "EvenHoldModel", name := "bentOf", desc := "(I)I" } : Jvm.MethodName) prog_8_method_13_code (1 : Nat) (Option.some Jvm.ClassFile.FieldType.int)) ∈ wsG := mG4 27 rfl rfl
theorem kw_748 : (Jvm.Cond.methodLink "EvenHoldModel" (105 : Nat) ({ cls := "EvenHoldModel", name := "unlike", desc := "(II)I" } : Jvm.MethodName)) ∈ wsG := mG4 28 rfl rfl
theorem kw_749 : (Jvm.Cond.static ({ cls := "EvenHoldModel", name := "unlike", desc := "(II)I" } : Jvm.MethodName)) ∈ wsG := mG4 29 rfl rfl
theorem kw_750 : (Jvm.Cond.code ({ cls := "EvenHoldModel", name := "unlike", desc := "(II)I" } : Jvm.MethodName) prog_8_method_12_code (2 : Nat) (Option.some Jvm.ClassFile.FieldType.int)) ∈ wsG := mG4 30 rfl rfl
theorem kw_751 : (Jvm.Cond.methodLink "EvenHoldModel" (121 : Nat) ({ cls := "EvenHoldModel", name := "listingOf", desc := "(I)I" } : Jvm.MethodName)) ∈ wsG := mG4 31 rfl rfl
theorem kw_752 : (Jvm.Cond.static ({ cls := "EvenHoldModel", name := "listingOf", desc := "(I)I" } : Jvm.MethodName)) ∈ wsG := mG4 32 rfl rfl
theorem kw_753 : (Jvm.Cond.code ({ cls := "EvenHoldModel", name := "listingOf", desc := "(I)I" } : Jvm.MethodName) prog_8_method_14_code (1 : Nat) (Option.some Jvm.ClassFile.FieldType.int)) ∈ wsG := mG4 33 rfl rfl
theorem kw_754 : (Jvm.Cond.methodLink "EvenHoldModel" (124 : Nat) ({ cls := "EvenHoldModel", name := "bendNow", desc := "()I" } : Jvm.MethodName)) ∈ wsG := mG4 34 rfl rfl
theorem kw_756 : (Jvm.Cond.instanceMethod ({ cls := "EvenHoldModel", name := "bendNow", desc := "()I" } : Jvm.MethodName)) ∈ wsG := mG4 36 rfl rfl
theorem kw_757 : (Jvm.Cond.code ({ cls := "EvenHoldModel", name := "bendNow", desc := "()I" } : Jvm.MethodName) prog_8_method_15_code (1 : Nat) (Option.some Jvm.ClassFile.FieldType.int)) ∈ wsG := mG4 37 rfl rfl
theorem kw_758 : (Jvm.Cond.methodLink "EvenHoldModel" (127 : Nat) ({ cls := "EvenHoldModel", name := "bears", desc := "(II)Z" } : Jvm.MethodName)) ∈ wsG := mG4 38 rfl rfl
theorem kw_760 : (Jvm.Cond.instanceMethod ({ cls := "EvenHoldModel", name := "bears", desc := "(II)Z" } : Jvm.MethodName)) ∈ wsG := mG4 40 rfl rfl
theorem kw_761 : (Jvm.Cond.code ({ cls := "EvenHoldModel", name := "bears", desc := "(II)Z" } : Jvm.MethodName) prog_8_method_21_code (3 : Nat) (Option.some Jvm.ClassFile.FieldType.boolean)) ∈ wsG := mG4 41 rfl rfl
theorem kw_762 : (Jvm.Cond.methodLink "EvenHoldLaw" (52 : Nat) ({ cls := "EvenHoldModel", name := "may", desc := "(I)I" } : Jvm.MethodName)) ∈ wsG := mG4 42 rfl rfl
theorem kw_763 : (Jvm.Cond.instanceMethod ({ cls := "EvenHoldModel", name := "may", desc := "(I)I" } : Jvm.MethodName)) ∈ wsG := mG4 43 rfl rfl
theorem kw_764 : (Jvm.Cond.selects "EvenHoldModel" ({ cls := "EvenHoldModel", name := "may", desc := "(I)I" } : Jvm.MethodName) ({ cls := "EvenHoldModel", name := "may", desc := "(I)I" } : Jvm.MethodName)) ∈ wsG := mG4 44 rfl rfl
theorem kw_765 : (Jvm.Cond.code ({ cls := "EvenHoldModel", name := "may", desc := "(I)I" } : Jvm.MethodName) prog_8_method_28_code (2 : Nat) (Option.some Jvm.ClassFile.FieldType.int)) ∈ wsG := mG4 45 rfl rfl
theorem kw_766 : (Jvm.Cond.methodLink "EvenHoldModel" (135 : Nat) ({ cls := "EvenHoldModel", name := "isAct", desc := "(I)Z" } : Jvm.MethodName)) ∈ wsG := mG4 46 rfl rfl
theorem kw_767 : (Jvm.Cond.static ({ cls := "EvenHoldModel", name := "isAct", desc := "(I)Z" } : Jvm.MethodName)) ∈ wsG := mG4 47 rfl rfl
theorem kw_768 : (Jvm.Cond.code ({ cls := "EvenHoldModel", name := "isAct", desc := "(I)Z" } : Jvm.MethodName) prog_8_method_24_code (3 : Nat) (Option.some Jvm.ClassFile.FieldType.boolean)) ∈ wsG := mG4 48 rfl rfl
theorem kw_769 : (Jvm.Cond.constantLong "EvenHoldModel" (133 : Nat) (41 : Int64)) ∈ wsG := mG4 49 rfl rfl
theorem kw_770 : (Jvm.Cond.methodLink "EvenHoldModel" (142 : Nat) ({ cls := "EvenHoldModel", name := "goes", desc := "(III)I" } : Jvm.MethodName)) ∈ wsG := mG4 50 rfl rfl
theorem kw_772 : (Jvm.Cond.instanceMethod ({ cls := "EvenHoldModel", name := "goes", desc := "(III)I" } : Jvm.MethodName)) ∈ wsG := mG4 52 rfl rfl
theorem kw_773 : (Jvm.Cond.code ({ cls := "EvenHoldModel", name := "goes", desc := "(III)I" } : Jvm.MethodName) prog_8_method_26_code (5 : Nat) (Option.some Jvm.ClassFile.FieldType.int)) ∈ wsG := mG4 53 rfl rfl
theorem kw_774 : (Jvm.Cond.methodLink "EvenHoldModel" (139 : Nat) ({ cls := "EvenHoldModel", name := "behind", desc := "(II)I" } : Jvm.MethodName)) ∈ wsG := mG4 54 rfl rfl
theorem kw_776 : (Jvm.Cond.instanceMethod ({ cls := "EvenHoldModel", name := "behind", desc := "(II)I" } : Jvm.MethodName)) ∈ wsG := mG4 56 rfl rfl
theorem kw_777 : (Jvm.Cond.code ({ cls := "EvenHoldModel", name := "behind", desc := "(II)I" } : Jvm.MethodName) prog_8_method_25_code (9 : Nat) (Option.some Jvm.ClassFile.FieldType.int)) ∈ wsG := mG4 57 rfl rfl
theorem kw_778 : (Jvm.Cond.methodLink "EvenHoldLaw" (56 : Nat) ({ cls := "EvenHoldModel", name := "act", desc := "(I)I" } : Jvm.MethodName)) ∈ wsG := mG4 58 rfl rfl
theorem kw_779 : (Jvm.Cond.instanceMethod ({ cls := "EvenHoldModel", name := "act", desc := "(I)I" } : Jvm.MethodName)) ∈ wsG := mG4 59 rfl rfl
theorem kw_780 : (Jvm.Cond.selects "EvenHoldModel" ({ cls := "EvenHoldModel", name := "act", desc := "(I)I" } : Jvm.MethodName) ({ cls := "EvenHoldModel", name := "act", desc := "(I)I" } : Jvm.MethodName)) ∈ wsG := mG4 60 rfl rfl
theorem kw_781 : (Jvm.Cond.code ({ cls := "EvenHoldModel", name := "act", desc := "(I)I" } : Jvm.MethodName) prog_8_method_29_code (3 : Nat) (Option.some Jvm.ClassFile.FieldType.int)) ∈ wsG := mG4 61 rfl rfl
theorem kw_782 : (Jvm.Cond.methodLink "EvenHoldModel" (146 : Nat) ({ cls := "EvenHoldModel", name := "lasts", desc := "(I)I" } : Jvm.MethodName)) ∈ wsG := mG4 62 rfl rfl
theorem kw_784 : (Jvm.Cond.instanceMethod ({ cls := "EvenHoldModel", name := "lasts", desc := "(I)I" } : Jvm.MethodName)) ∈ wsG := mG4 64 rfl rfl
theorem kw_785 : (Jvm.Cond.code ({ cls := "EvenHoldModel", name := "lasts", desc := "(I)I" } : Jvm.MethodName) prog_8_method_27_code (2 : Nat) (Option.some Jvm.ClassFile.FieldType.int)) ∈ wsG := mG4 65 rfl rfl
theorem kw_786 : (Jvm.Cond.methodLink "EvenHoldLaw" (60 : Nat) ({ cls := "EvenHoldModel", name := "soonest", desc := "(I)I" } : Jvm.MethodName)) ∈ wsG := mG4 66 rfl rfl
theorem kw_787 : (Jvm.Cond.instanceMethod ({ cls := "EvenHoldModel", name := "soonest", desc := "(I)I" } : Jvm.MethodName)) ∈ wsG := mG4 67 rfl rfl
theorem kw_788 : (Jvm.Cond.selects "EvenHoldModel" ({ cls := "EvenHoldModel", name := "soonest", desc := "(I)I" } : Jvm.MethodName) ({ cls := "EvenHoldModel", name := "soonest", desc := "(I)I" } : Jvm.MethodName)) ∈ wsG := mG4 68 rfl rfl
theorem kw_789 : (Jvm.Cond.code ({ cls := "EvenHoldModel", name := "soonest", desc := "(I)I" } : Jvm.MethodName) prog_8_method_32_code (2 : Nat) (Option.some Jvm.ClassFile.FieldType.int)) ∈ wsG := mG4 69 rfl rfl
theorem kw_790 : (Jvm.Cond.methodLink "EvenHoldModel" (153 : Nat) ({ cls := "EvenHoldModel", name := "layFar", desc := "(I)V" } : Jvm.MethodName)) ∈ wsG := mG4 70 rfl rfl
theorem kw_792 : (Jvm.Cond.instanceMethod ({ cls := "EvenHoldModel", name := "layFar", desc := "(I)V" } : Jvm.MethodName)) ∈ wsG := mG4 72 rfl rfl
theorem kw_793 : (Jvm.Cond.code ({ cls := "EvenHoldModel", name := "layFar", desc := "(I)V" } : Jvm.MethodName) prog_8_method_30_code (7 : Nat) (Option.none : Option Jvm.ClassFile.FieldType)) ∈ wsG := mG4 73 rfl rfl
theorem kw_794 : (Jvm.Cond.methodLink "EvenHoldModel" (149 : Nat) ({ cls := "EvenHoldModel", name := "isBetter", desc := "(III)Z" } : Jvm.MethodName)) ∈ wsG := mG4 74 rfl rfl
theorem kw_796 : (Jvm.Cond.instanceMethod ({ cls := "EvenHoldModel", name := "isBetter", desc := "(III)Z" } : Jvm.MethodName)) ∈ wsG := mG4 76 rfl rfl
theorem kw_797 : (Jvm.Cond.code ({ cls := "EvenHoldModel", name := "isBetter", desc := "(III)Z" } : Jvm.MethodName) prog_8_method_31_code (7 : Nat) (Option.some Jvm.ClassFile.FieldType.boolean)) ∈ wsG := mG4 77 rfl rfl
theorem kw_798 : (Jvm.Cond.methodLink "EvenHoldLaw" (64 : Nat) ({ cls := "EvenHoldModel", name := "most", desc := "()I" } : Jvm.MethodName)) ∈ wsG := mG4 78 rfl rfl
theorem kw_799 : (Jvm.Cond.instanceMethod ({ cls := "EvenHoldModel", name := "most", desc := "()I" } : Jvm.MethodName)) ∈ wsG := mG4 79 rfl rfl
theorem kw_800 : (Jvm.Cond.selects "EvenHoldModel" ({ cls := "EvenHoldModel", name := "most", desc := "()I" } : Jvm.MethodName) ({ cls := "EvenHoldModel", name := "most", desc := "()I" } : Jvm.MethodName)) ∈ wsG := mG4 80 rfl rfl
theorem kw_801 : (Jvm.Cond.code ({ cls := "EvenHoldModel", name := "most", desc := "()I" } : Jvm.MethodName) prog_8_method_34_code (1 : Nat) (Option.some Jvm.ClassFile.FieldType.int)) ∈ wsG := mG4 81 rfl rfl
theorem kw_802 : (Jvm.Cond.methodLink "EvenHoldModel" (157 : Nat) ({ cls := "EvenHoldModel", name := "mostOf", desc := "()I" } : Jvm.MethodName)) ∈ wsG := mG4 82 rfl rfl
theorem kw_804 : (Jvm.Cond.instanceMethod ({ cls := "EvenHoldModel", name := "mostOf", desc := "()I" } : Jvm.MethodName)) ∈ wsG := mG4 84 rfl rfl
theorem kw_805 : (Jvm.Cond.code ({ cls := "EvenHoldModel", name := "mostOf", desc := "()I" } : Jvm.MethodName) prog_8_method_33_code (3 : Nat) (Option.some Jvm.ClassFile.FieldType.int)) ∈ wsG := mG4 85 rfl rfl
theorem kw_806 : (Jvm.Cond.methodLink "EvenHoldLaw" (68 : Nat) ({ cls := "EvenHoldModel", name := "holds", desc := "()I" } : Jvm.MethodName)) ∈ wsG := mG4 86 rfl rfl
theorem kw_807 : (Jvm.Cond.instanceMethod ({ cls := "EvenHoldModel", name := "holds", desc := "()I" } : Jvm.MethodName)) ∈ wsG := mG4 87 rfl rfl
theorem kw_808 : (Jvm.Cond.selects "EvenHoldModel" ({ cls := "EvenHoldModel", name := "holds", desc := "()I" } : Jvm.MethodName) ({ cls := "EvenHoldModel", name := "holds", desc := "()I" } : Jvm.MethodName)) ∈ wsG := mG4 88 rfl rfl
theorem kw_809 : (Jvm.Cond.code ({ cls := "EvenHoldModel", name := "holds", desc := "()I" } : Jvm.MethodName) prog_8_method_36_code (1 : Nat) (Option.some Jvm.ClassFile.FieldType.int)) ∈ wsG := mG4 89 rfl rfl
theorem kw_810 : (Jvm.Cond.methodLink "EvenHoldModel" (160 : Nat) ({ cls := "EvenHoldModel", name := "manyOf", desc := "()I" } : Jvm.MethodName)) ∈ wsG := mG4 90 rfl rfl
theorem kw_812 : (Jvm.Cond.instanceMethod ({ cls := "EvenHoldModel", name := "manyOf", desc := "()I" } : Jvm.MethodName)) ∈ wsG := mG4 92 rfl rfl
theorem kw_813 : (Jvm.Cond.code ({ cls := "EvenHoldModel", name := "manyOf", desc := "()I" } : Jvm.MethodName) prog_8_method_35_code (3 : Nat) (Option.some Jvm.ClassFile.FieldType.int)) ∈ wsG := mG4 93 rfl rfl
theorem kw_814 : (Jvm.Cond.methodLink "EvenHoldLaw" (72 : Nat) ({ cls := "EvenHoldModel", name := "leastBend", desc := "()I" } : Jvm.MethodName)) ∈ wsG := mG4 94 rfl rfl
theorem kw_815 : (Jvm.Cond.instanceMethod ({ cls := "EvenHoldModel", name := "leastBend", desc := "()I" } : Jvm.MethodName)) ∈ wsG := mG4 95 rfl rfl
theorem kw_816 : (Jvm.Cond.selects "EvenHoldModel" ({ cls := "EvenHoldModel", name := "leastBend", desc := "()I" } : Jvm.MethodName) ({ cls := "EvenHoldModel", name := "leastBend", desc := "()I" } : Jvm.MethodName)) ∈ wsG := mG4 96 rfl rfl
theorem kw_817 : (Jvm.Cond.code ({ cls := "EvenHoldModel", name := "leastBend", desc := "()I" } : Jvm.MethodName) prog_8_method_37_code (2 : Nat) (Option.some Jvm.ClassFile.FieldType.int)) ∈ wsG := mG4 97 rfl rfl
theorem kw_818 : (Jvm.Cond.methodLink "EvenHoldLaw" (76 : Nat) ({ cls := "EvenHoldModel", name := "string", desc := "(I)I" } : Jvm.MethodName)) ∈ wsG := mG4 98 rfl rfl
theorem kw_819 : (Jvm.Cond.instanceMethod ({ cls := "EvenHoldModel", name := "string", desc := "(I)I" } : Jvm.MethodName)) ∈ wsG := mG4 99 rfl rfl
theorem kw_820 : (Jvm.Cond.selects "EvenHoldModel" ({ cls := "EvenHoldModel", name := "string", desc := "(I)I" } : Jvm.MethodName) ({ cls := "EvenHoldModel", name := "string", desc := "(I)I" } : Jvm.MethodName)) ∈ wsG := mG4 100 rfl rfl
theorem kw_821 : (Jvm.Cond.code ({ cls := "EvenHoldModel", name := "string", desc := "(I)I" } : Jvm.MethodName) prog_8_method_38_code (2 : Nat) (Option.some Jvm.ClassFile.FieldType.int)) ∈ wsG := mG4 101 rfl rfl
theorem kw_822 : (Jvm.Cond.constantLong "EvenHoldModel" (166 : Nat) (12 : Int64)) ∈ wsG := mG4 102 rfl rfl
theorem kw_823 : (Jvm.Cond.methodLink "EvenHoldLaw" (80 : Nat) ({ cls := "EvenHoldModel", name := "forget", desc := "()I" } : Jvm.MethodName)) ∈ wsG := mG4 103 rfl rfl
theorem kw_824 : (Jvm.Cond.instanceMethod ({ cls := "EvenHoldModel", name := "forget", desc := "()I" } : Jvm.MethodName)) ∈ wsG := mG4 104 rfl rfl
theorem kw_825 : (Jvm.Cond.selects "EvenHoldModel" ({ cls := "EvenHoldModel", name := "forget", desc := "()I" } : Jvm.MethodName) ({ cls := "EvenHoldModel", name := "forget", desc := "()I" } : Jvm.MethodName)) ∈ wsG := mG4 105 rfl rfl
theorem kw_826 : (Jvm.Cond.code ({ cls := "EvenHoldModel", name := "forget", desc := "()I" } : Jvm.MethodName) prog_8_method_39_code (2 : Nat) (Option.some Jvm.ClassFile.FieldType.int)) ∈ wsG := mG4 106 rfl rfl
theorem kw_827 : (Jvm.Cond.methodLink "EvenHoldLaw" (84 : Nat) ({ cls := "EvenHoldModel", name := "fits", desc := "(I)I" } : Jvm.MethodName)) ∈ wsG := mG4 107 rfl rfl
theorem kw_828 : (Jvm.Cond.instanceMethod ({ cls := "EvenHoldModel", name := "fits", desc := "(I)I" } : Jvm.MethodName)) ∈ wsG := mG4 108 rfl rfl
theorem kw_829 : (Jvm.Cond.selects "EvenHoldModel" ({ cls := "EvenHoldModel", name := "fits", desc := "(I)I" } : Jvm.MethodName) ({ cls := "EvenHoldModel", name := "fits", desc := "(I)I" } : Jvm.MethodName)) ∈ wsG := mG4 109 rfl rfl
theorem kw_830 : (Jvm.Cond.code ({ cls := "EvenHoldModel", name := "fits", desc := "(I)I" } : Jvm.MethodName) prog_8_method_43_code (2 : Nat) (Option.some Jvm.ClassFile.FieldType.int)) ∈ wsG := mG4 110 rfl rfl
theorem kw_831 : (Jvm.Cond.methodLink "EvenHoldModel" (183 : Nat) ({ cls := "EvenHoldModel", name := "layFits", desc := "()V" } : Jvm.MethodName)) ∈ wsG := mG4 111 rfl rfl
theorem kw_833 : (Jvm.Cond.instanceMethod ({ cls := "EvenHoldModel", name := "layFits", desc := "()V" } : Jvm.MethodName)) ∈ wsG := mG4 113 rfl rfl
theorem kw_834 : (Jvm.Cond.code ({ cls := "EvenHoldModel", name := "layFits", desc := "()V" } : Jvm.MethodName) prog_8_method_42_code (4 : Nat) (Option.none : Option Jvm.ClassFile.FieldType)) ∈ wsG := mG4 114 rfl rfl
theorem kw_835 : (Jvm.Cond.methodLink "EvenHoldModel" (180 : Nat) ({ cls := "EvenHoldModel", name := "rowsFrom", desc := "(II)I" } : Jvm.MethodName)) ∈ wsG := mG4 115 rfl rfl
theorem kw_837 : (Jvm.Cond.instanceMethod ({ cls := "EvenHoldModel", name := "rowsFrom", desc := "(II)I" } : Jvm.MethodName)) ∈ wsG := mG4 117 rfl rfl
theorem kw_838 : (Jvm.Cond.code ({ cls := "EvenHoldModel", name := "rowsFrom", desc := "(II)I" } : Jvm.MethodName) prog_8_method_40_code (5 : Nat) (Option.some Jvm.ClassFile.FieldType.int)) ∈ wsG := mG4 118 rfl rfl
theorem kw_839 : (Jvm.Cond.methodLink "EvenHoldModel" (168 : Nat) ({ cls := "EvenHoldModel", name := "stepAll", desc := "(I)V" } : Jvm.MethodName)) ∈ wsG := mG4 119 rfl rfl
theorem kw_841 : (Jvm.Cond.instanceMethod ({ cls := "EvenHoldModel", name := "stepAll", desc := "(I)V" } : Jvm.MethodName)) ∈ wsG := mG4 121 rfl rfl
theorem kw_842 : (Jvm.Cond.code ({ cls := "EvenHoldModel", name := "stepAll", desc := "(I)V" } : Jvm.MethodName) prog_8_method_41_code (5 : Nat) (Option.none : Option Jvm.ClassFile.FieldType)) ∈ wsG := mG4 122 rfl rfl
theorem kw_843 : (Jvm.Cond.methodLink "EvenHoldLaw" (89 : Nat) ({ cls := "EvenHoldModel", name := "days", desc := "(III)I" } : Jvm.MethodName)) ∈ wsG := mG4 123 rfl rfl
theorem kw_844 : (Jvm.Cond.instanceMethod ({ cls := "EvenHoldModel", name := "days", desc := "(III)I" } : Jvm.MethodName)) ∈ wsG := mG4 124 rfl rfl
theorem kw_845 : (Jvm.Cond.selects "EvenHoldModel" ({ cls := "EvenHoldModel", name := "days", desc := "(III)I" } : Jvm.MethodName) ({ cls := "EvenHoldModel", name := "days", desc := "(III)I" } : Jvm.MethodName)) ∈ wsG := mG4 125 rfl rfl
theorem kw_846 : (Jvm.Cond.code ({ cls := "EvenHoldModel", name := "days", desc := "(III)I" } : Jvm.MethodName) prog_8_method_45_code (10 : Nat) (Option.some Jvm.ClassFile.FieldType.int)) ∈ wsG := mG4 126 rfl rfl
theorem kw_847 : (Jvm.Cond.constantLong "EvenHoldModel" (196 : Nat) (90 : Int64)) ∈ wsG := mG4 127 rfl rfl
theorem kw_848 : (Jvm.Cond.methodLink "EvenHoldModel" (198 : Nat) ({ cls := "EvenHoldModel", name := "draw", desc := "(I)I" } : Jvm.MethodName)) ∈ wsG := mG4 128 rfl rfl
theorem kw_850 : (Jvm.Cond.instanceMethod ({ cls := "EvenHoldModel", name := "draw", desc := "(I)I" } : Jvm.MethodName)) ∈ wsG := mG4 130 rfl rfl
theorem kw_851 : (Jvm.Cond.code ({ cls := "EvenHoldModel", name := "draw", desc := "(I)I" } : Jvm.MethodName) prog_8_method_44_code (2 : Nat) (Option.some Jvm.ClassFile.FieldType.int)) ∈ wsG := mG4 131 rfl rfl
theorem kw_852 : (Jvm.Cond.constantLong "EvenHoldModel" (186 : Nat) (1103515245 : Int64)) ∈ wsG := mG4 132 rfl rfl
theorem kw_853 : (Jvm.Cond.constantLong "EvenHoldModel" (191 : Nat) (12345 : Int64)) ∈ wsG := mG4 133 rfl rfl
theorem kw_854 : (Jvm.Cond.constantLong "EvenHoldModel" (193 : Nat) (2147483647 : Int64)) ∈ wsG := mG4 134 rfl rfl
theorem kw_855 : (Jvm.Cond.constant "EvenHoldModel" (195 : Nat) (65536 : Int32)) ∈ wsG := mG4 135 rfl rfl
theorem kw_856 : (Jvm.Cond.methodLink "EvenHoldLaw" (93 : Nat) ({ cls := "EvenHoldModel", name := "image", desc := "()I" } : Jvm.MethodName)) ∈ wsG := mG4 136 rfl rfl
theorem kw_857 : (Jvm.Cond.instanceMethod ({ cls := "EvenHoldModel", name := "image", desc := "()I" } : Jvm.MethodName)) ∈ wsG := mG4 137 rfl rfl
theorem kw_858 : (Jvm.Cond.selects "EvenHoldModel" ({ cls := "EvenHoldModel", name := "image", desc := "()I" } : Jvm.MethodName) ({ cls := "EvenHoldModel", name := "image", desc := "()I" } : Jvm.MethodName)) ∈ wsG := mG4 138 rfl rfl
theorem kw_859 : (Jvm.Cond.code ({ cls := "EvenHoldModel", name := "image", desc := "()I" } : Jvm.MethodName) prog_8_method_47_code (1 : Nat) (Option.some Jvm.ClassFile.FieldType.int)) ∈ wsG := mG4 139 rfl rfl
theorem kw_860 : (Jvm.Cond.methodLink "EvenHoldModel" (201 : Nat) ({ cls := "EvenHoldModel", name := "copy", desc := "([I[I)V" } : Jvm.MethodName)) ∈ wsG := mG4 140 rfl rfl
theorem kw_861 : (Jvm.Cond.static ({ cls := "EvenHoldModel", name := "copy", desc := "([I[I)V" } : Jvm.MethodName)) ∈ wsG := mG4 141 rfl rfl
theorem kw_862 : (Jvm.Cond.code ({ cls := "EvenHoldModel", name := "copy", desc := "([I[I)V" } : Jvm.MethodName) prog_8_method_46_code (3 : Nat) (Option.none : Option Jvm.ClassFile.FieldType)) ∈ wsG := mG4 142 rfl rfl
theorem kw_863 : (Jvm.Cond.methodLink "EvenHoldLaw" (97 : Nat) ({ cls := "EvenHoldModel", name := "restore", desc := "()I" } : Jvm.MethodName)) ∈ wsG := mG4 143 rfl rfl
theorem kw_864 : (Jvm.Cond.instanceMethod ({ cls := "EvenHoldModel", name := "restore", desc := "()I" } : Jvm.MethodName)) ∈ wsG := mG4 144 rfl rfl
theorem kw_865 : (Jvm.Cond.selects "EvenHoldModel" ({ cls := "EvenHoldModel", name := "restore", desc := "()I" } : Jvm.MethodName) ({ cls := "EvenHoldModel", name := "restore", desc := "()I" } : Jvm.MethodName)) ∈ wsG := mG4 145 rfl rfl
theorem kw_866 : (Jvm.Cond.code ({ cls := "EvenHoldModel", name := "restore", desc := "()I" } : Jvm.MethodName) prog_8_method_48_code (1 : Nat) (Option.some Jvm.ClassFile.FieldType.int)) ∈ wsG := mG4 146 rfl rfl
theorem kw_867 : (Jvm.Cond.methodLink "EvenHoldLaw" (101 : Nat) ({ cls := "EvenHoldModel", name := "count", desc := "(I)I" } : Jvm.MethodName)) ∈ wsG := mG4 147 rfl rfl
theorem kw_868 : (Jvm.Cond.instanceMethod ({ cls := "EvenHoldModel", name := "count", desc := "(I)I" } : Jvm.MethodName)) ∈ wsG := mG4 148 rfl rfl
theorem kw_869 : (Jvm.Cond.selects "EvenHoldModel" ({ cls := "EvenHoldModel", name := "count", desc := "(I)I" } : Jvm.MethodName) ({ cls := "EvenHoldModel", name := "count", desc := "(I)I" } : Jvm.MethodName)) ∈ wsG := mG4 149 rfl rfl
theorem kw_870 : (Jvm.Cond.code ({ cls := "EvenHoldModel", name := "count", desc := "(I)I" } : Jvm.MethodName) prog_8_method_50_code (2 : Nat) (Option.some Jvm.ClassFile.FieldType.int)) ∈ wsG := mG4 150 rfl rfl
theorem kw_871 : (Jvm.Cond.methodLink "EvenHoldModel" (220 : Nat) ({ cls := "EvenHoldModel", name := "countOf", desc := "(I)I" } : Jvm.MethodName)) ∈ wsG := mG4 151 rfl rfl
theorem kw_873 : (Jvm.Cond.instanceMethod ({ cls := "EvenHoldModel", name := "countOf", desc := "(I)I" } : Jvm.MethodName)) ∈ wsG := mG4 153 rfl rfl
theorem kw_874 : (Jvm.Cond.code ({ cls := "EvenHoldModel", name := "countOf", desc := "(I)I" } : Jvm.MethodName) prog_8_method_49_code (2 : Nat) (Option.some Jvm.ClassFile.FieldType.int)) ∈ wsG := mG4 154 rfl rfl
theorem kw_875 : (Jvm.Cond.methodLink "EvenHoldLaw" (106 : Nat) ({ cls := "EvenHoldModel", name := "digest", desc := "()J" } : Jvm.MethodName)) ∈ wsG := mG4 155 rfl rfl
theorem kw_876 : (Jvm.Cond.instanceMethod ({ cls := "EvenHoldModel", name := "digest", desc := "()J" } : Jvm.MethodName)) ∈ wsG := mG4 156 rfl rfl
theorem kw_877 : (Jvm.Cond.selects "EvenHoldModel" ({ cls := "EvenHoldModel", name := "digest", desc := "()J" } : Jvm.MethodName) ({ cls := "EvenHoldModel", name := "digest", desc := "()J" } : Jvm.MethodName)) ∈ wsG := mG4 157 rfl rfl
theorem kw_878 : (Jvm.Cond.code ({ cls := "EvenHoldModel", name := "digest", desc := "()J" } : Jvm.MethodName) prog_8_method_53_code (2 : Nat) (Option.some Jvm.ClassFile.FieldType.long)) ∈ wsG := mG4 158 rfl rfl
theorem kw_879 : (Jvm.Cond.constantLong "EvenHoldModel" (239 : Nat) (829 : Int64)) ∈ wsG := mG4 159 rfl rfl
theorem kw_880 : (Jvm.Cond.methodLink "EvenHoldModel" (241 : Nat) ({ cls := "EvenHoldModel", name := "sayHold", desc := "()V" } : Jvm.MethodName)) ∈ wsG := mG4 160 rfl rfl
theorem kw_882 : (Jvm.Cond.instanceMethod ({ cls := "EvenHoldModel", name := "sayHold", desc := "()V" } : Jvm.MethodName)) ∈ wsG := mG4 162 rfl rfl
theorem kw_883 : (Jvm.Cond.code ({ cls := "EvenHoldModel", name := "sayHold", desc := "()V" } : Jvm.MethodName) prog_8_method_52_code (3 : Nat) (Option.none : Option Jvm.ClassFile.FieldType)) ∈ wsG := mG4 163 rfl rfl
theorem kw_884 : (Jvm.Cond.methodLink "EvenHoldModel" (229 : Nat) ({ cls := "EvenHoldModel", name := "bay", desc := "(II)I" } : Jvm.MethodName)) ∈ wsG := mG4 164 rfl rfl
theorem kw_885 : (Jvm.Cond.methodLink "EvenHoldModel" (232 : Nat) ({ cls := "EvenHoldModel", name := "say", desc := "(J)V" } : Jvm.MethodName)) ∈ wsG := mG4 165 rfl rfl
theorem kw_887 : (Jvm.Cond.instanceMethod ({ cls := "EvenHoldModel", name := "say", desc := "(J)V" } : Jvm.MethodName)) ∈ wsG := mG4 167 rfl rfl
theorem kw_888 : (Jvm.Cond.code ({ cls := "EvenHoldModel", name := "say", desc := "(J)V" } : Jvm.MethodName) prog_8_method_51_code (3 : Nat) (Option.none : Option Jvm.ClassFile.FieldType)) ∈ wsG := mG4 168 rfl rfl
theorem kw_889 : (Jvm.Cond.constantLong "EvenHoldModel" (223 : Nat) (31 : Int64)) ∈ wsG := mG4 169 rfl rfl
theorem kw_890 : (Jvm.Cond.methodLink "EvenHoldModel" (236 : Nat) ({ cls := "EvenHoldModel", name := "may", desc := "(I)I" } : Jvm.MethodName)) ∈ wsG := mG4 170 rfl rfl
theorem kw_891 : (Jvm.Cond.fieldLink "java/lang/String" (9 : Nat) "java/lang/String" "value" "[B") ∈ wsG := mG4 171 rfl rfl
theorem kw_892 : (Jvm.Cond.fieldLink "java/lang/String" (15 : Nat) "java/lang/String" "coder" "B") ∈ wsG := mG4 172 rfl rfl
theorem kp_0 : (Cond.selects "EvenHold" ({ cls := "EvenHold", name := "readPage", desc := "()I" } : Jvm.MethodName) ({ cls := "EvenHold", name := "readPage", desc := "()I" } : Jvm.MethodName)) ∈ wsG := mGs 0 rfl rfl
theorem kp_1 : (Cond.selects "EvenHold" ({ cls := "EvenHold", name := "digitAt", desc := "(I)I" } : Jvm.MethodName) ({ cls := "EvenHold", name := "digitAt", desc := "(I)I" } : Jvm.MethodName)) ∈ wsG := mGs 1 rfl rfl
theorem kp_2 : (Cond.selects "EvenHold" ({ cls := "EvenHold", name := "isBay", desc := "(I)Z" } : Jvm.MethodName) ({ cls := "EvenHold", name := "isBay", desc := "(I)Z" } : Jvm.MethodName)) ∈ wsG := mGs 2 rfl rfl
theorem kp_3 : (Cond.selects "EvenHold" ({ cls := "EvenHold", name := "bendNow", desc := "()I" } : Jvm.MethodName) ({ cls := "EvenHold", name := "bendNow", desc := "()I" } : Jvm.MethodName)) ∈ wsG := mGs 3 rfl rfl
theorem kp_4 : (Cond.selects "EvenHold" ({ cls := "EvenHold", name := "lookAhead", desc := "()V" } : Jvm.MethodName) ({ cls := "EvenHold", name := "lookAhead", desc := "()V" } : Jvm.MethodName)) ∈ wsG := mGs 4 rfl rfl
theorem kp_5 : (Cond.selects "EvenHold" ({ cls := "EvenHold", name := "lookBack", desc := "()V" } : Jvm.MethodName) ({ cls := "EvenHold", name := "lookBack", desc := "()V" } : Jvm.MethodName)) ∈ wsG := mGs 5 rfl rfl
theorem kp_6 : (Cond.selects "EvenHold" ({ cls := "EvenHold", name := "withLighter", desc := "(J)J" } : Jvm.MethodName) ({ cls := "EvenHold", name := "withLighter", desc := "(J)J" } : Jvm.MethodName)) ∈ wsG := mGs 6 rfl rfl
theorem kp_7 : (Cond.selects "EvenHold" ({ cls := "EvenHold", name := "withActs", desc := "(J)J" } : Jvm.MethodName) ({ cls := "EvenHold", name := "withActs", desc := "(J)J" } : Jvm.MethodName)) ∈ wsG := mGs 7 rfl rfl
theorem kp_8 : (Cond.selects "EvenHold" ({ cls := "EvenHold", name := "withOutlook", desc := "(J)J" } : Jvm.MethodName) ({ cls := "EvenHold", name := "withOutlook", desc := "(J)J" } : Jvm.MethodName)) ∈ wsG := mGs 8 rfl rfl
theorem kp_9 : (Cond.selects "EvenHoldModel" ({ cls := "EvenHoldModel", name := "faultOf", desc := "()I" } : Jvm.MethodName) ({ cls := "EvenHoldModel", name := "faultOf", desc := "()I" } : Jvm.MethodName)) ∈ wsG := mGs 9 rfl rfl
theorem kp_10 : (Cond.selects "EvenHoldModel" ({ cls := "EvenHoldModel", name := "takingOf", desc := "(I)I" } : Jvm.MethodName) ({ cls := "EvenHoldModel", name := "takingOf", desc := "(I)I" } : Jvm.MethodName)) ∈ wsG := mGs 10 rfl rfl
theorem kp_11 : (Cond.selects "EvenHoldModel" ({ cls := "EvenHoldModel", name := "carryingOf", desc := "(I)I" } : Jvm.MethodName) ({ cls := "EvenHoldModel", name := "carryingOf", desc := "(I)I" } : Jvm.MethodName)) ∈ wsG := mGs 11 rfl rfl
theorem kp_12 : (Cond.selects "EvenHoldModel" ({ cls := "EvenHoldModel", name := "hullOf", desc := "(I)I" } : Jvm.MethodName) ({ cls := "EvenHoldModel", name := "hullOf", desc := "(I)I" } : Jvm.MethodName)) ∈ wsG := mGs 12 rfl rfl
theorem kp_13 : (Cond.selects "EvenHoldModel" ({ cls := "EvenHoldModel", name := "bendNow", desc := "()I" } : Jvm.MethodName) ({ cls := "EvenHoldModel", name := "bendNow", desc := "()I" } : Jvm.MethodName)) ∈ wsG := mGs 13 rfl rfl
theorem kp_14 : (Cond.selects "EvenHoldModel" ({ cls := "EvenHoldModel", name := "bears", desc := "(II)Z" } : Jvm.MethodName) ({ cls := "EvenHoldModel", name := "bears", desc := "(II)Z" } : Jvm.MethodName)) ∈ wsG := mGs 14 rfl rfl
theorem kp_15 : (Cond.selects "EvenHoldModel" ({ cls := "EvenHoldModel", name := "goes", desc := "(III)I" } : Jvm.MethodName) ({ cls := "EvenHoldModel", name := "goes", desc := "(III)I" } : Jvm.MethodName)) ∈ wsG := mGs 15 rfl rfl
theorem kp_16 : (Cond.selects "EvenHoldModel" ({ cls := "EvenHoldModel", name := "behind", desc := "(II)I" } : Jvm.MethodName) ({ cls := "EvenHoldModel", name := "behind", desc := "(II)I" } : Jvm.MethodName)) ∈ wsG := mGs 16 rfl rfl
theorem kp_17 : (Cond.selects "EvenHoldModel" ({ cls := "EvenHoldModel", name := "lasts", desc := "(I)I" } : Jvm.MethodName) ({ cls := "EvenHoldModel", name := "lasts", desc := "(I)I" } : Jvm.MethodName)) ∈ wsG := mGs 17 rfl rfl
theorem kp_18 : (Cond.selects "EvenHoldModel" ({ cls := "EvenHoldModel", name := "layFar", desc := "(I)V" } : Jvm.MethodName) ({ cls := "EvenHoldModel", name := "layFar", desc := "(I)V" } : Jvm.MethodName)) ∈ wsG := mGs 18 rfl rfl
theorem kp_19 : (Cond.selects "EvenHoldModel" ({ cls := "EvenHoldModel", name := "isBetter", desc := "(III)Z" } : Jvm.MethodName) ({ cls := "EvenHoldModel", name := "isBetter", desc := "(III)Z" } : Jvm.MethodName)) ∈ wsG := mGs 19 rfl rfl
theorem kp_20 : (Cond.selects "EvenHoldModel" ({ cls := "EvenHoldModel", name := "mostOf", desc := "()I" } : Jvm.MethodName) ({ cls := "EvenHoldModel", name := "mostOf", desc := "()I" } : Jvm.MethodName)) ∈ wsG := mGs 20 rfl rfl
theorem kp_21 : (Cond.selects "EvenHoldModel" ({ cls := "EvenHoldModel", name := "manyOf", desc := "()I" } : Jvm.MethodName) ({ cls := "EvenHoldModel", name := "manyOf", desc := "()I" } : Jvm.MethodName)) ∈ wsG := mGs 21 rfl rfl
theorem kp_22 : (Cond.selects "EvenHoldModel" ({ cls := "EvenHoldModel", name := "layFits", desc := "()V" } : Jvm.MethodName) ({ cls := "EvenHoldModel", name := "layFits", desc := "()V" } : Jvm.MethodName)) ∈ wsG := mGs 22 rfl rfl
theorem kp_23 : (Cond.selects "EvenHoldModel" ({ cls := "EvenHoldModel", name := "rowsFrom", desc := "(II)I" } : Jvm.MethodName) ({ cls := "EvenHoldModel", name := "rowsFrom", desc := "(II)I" } : Jvm.MethodName)) ∈ wsG := mGs 23 rfl rfl
theorem kp_24 : (Cond.selects "EvenHoldModel" ({ cls := "EvenHoldModel", name := "stepAll", desc := "(I)V" } : Jvm.MethodName) ({ cls := "EvenHoldModel", name := "stepAll", desc := "(I)V" } : Jvm.MethodName)) ∈ wsG := mGs 24 rfl rfl
theorem kp_25 : (Cond.selects "EvenHoldModel" ({ cls := "EvenHoldModel", name := "draw", desc := "(I)I" } : Jvm.MethodName) ({ cls := "EvenHoldModel", name := "draw", desc := "(I)I" } : Jvm.MethodName)) ∈ wsG := mGs 25 rfl rfl
theorem kp_26 : (Cond.selects "EvenHoldModel" ({ cls := "EvenHoldModel", name := "countOf", desc := "(I)I" } : Jvm.MethodName) ({ cls := "EvenHoldModel", name := "countOf", desc := "(I)I" } : Jvm.MethodName)) ∈ wsG := mGs 26 rfl rfl
theorem kp_27 : (Cond.selects "EvenHoldModel" ({ cls := "EvenHoldModel", name := "sayHold", desc := "()V" } : Jvm.MethodName) ({ cls := "EvenHoldModel", name := "sayHold", desc := "()V" } : Jvm.MethodName)) ∈ wsG := mGs 27 rfl rfl
theorem kp_28 : (Cond.selects "EvenHoldModel" ({ cls := "EvenHoldModel", name := "say", desc := "(J)V" } : Jvm.MethodName) ({ cls := "EvenHoldModel", name := "say", desc := "(J)V" } : Jvm.MethodName)) ∈ wsG := mGs 28 rfl rfl
end
section
theorem dX0_init_0 : decode cX0_init 0 = .ok (.aload_n 0, 1) := by decide +kernel
theorem dX0_init_1 : decode cX0_init 1 = .ok (.invokespecial 3, 3) := by decide +kernel
theorem dX0_init_4 : decode cX0_init 4 = .ok (.aload_n 0, 1) := by decide +kernel
theorem dX0_init_5 : decode cX0_init 5 = .ok (.sipush 4096, 3) := by decide +kernel
theorem dX0_init_8 : decode cX0_init 8 = .ok (.newarray .int, 2) := by decide +kernel
theorem dX0_init_10 : decode cX0_init 10 = .ok (.putfield 9, 3) := by decide +kernel
theorem dX0_init_13 : decode cX0_init 13 = .ok (.aload_n 0, 1) := by decide +kernel
theorem dX0_init_14 : decode cX0_init 14 = .ok (.bipush 13, 2) := by decide +kernel
theorem dX0_init_16 : decode cX0_init 16 = .ok (.newarray .int, 2) := by decide +kernel
theorem dX0_init_18 : decode cX0_init 18 = .ok (.putfield 15, 3) := by decide +kernel
theorem dX0_init_21 : decode cX0_init 21 = .ok (.return_, 1) := by decide +kernel
theorem dX0_leastFrom_0 : decode cX0_leastFrom 0 = .ok (.aload_n 0, 1) := by decide +kernel
theorem dX0_leastFrom_1 : decode cX0_leastFrom 1 = .ok (.getfield 9, 3) := by decide +kernel
theorem dX0_leastFrom_4 : decode cX0_leastFrom 4 = .ok (.bipush (-2), 2) := by decide +kernel
theorem dX0_leastFrom_6 : decode cX0_leastFrom 6 = .ok (.invokestatic 18, 3) := by decide +kernel
theorem dX0_leastFrom_9 : decode cX0_leastFrom 9 = .ok (.aload_n 0, 1) := by decide +kernel
theorem dX0_leastFrom_10 : decode cX0_leastFrom 10 = .ok (.getfield 15, 3) := by decide +kernel
theorem dX0_leastFrom_13 : decode cX0_leastFrom 13 = .ok (.iconst (-1), 1) := by decide +kernel
theorem dX0_leastFrom_14 : decode cX0_leastFrom 14 = .ok (.invokestatic 18, 3) := by decide +kernel
theorem dX0_leastFrom_17 : decode cX0_leastFrom 17 = .ok (.aload_n 0, 1) := by decide +kernel
theorem dX0_leastFrom_18 : decode cX0_leastFrom 18 = .ok (.iload_n 2, 1) := by decide +kernel
theorem dX0_leastFrom_19 : decode cX0_leastFrom 19 = .ok (.iconst 0, 1) := by decide +kernel
theorem dX0_leastFrom_20 : decode cX0_leastFrom 20 = .ok (.invokevirtual 24, 3) := by decide +kernel
theorem dX0_leastFrom_23 : decode cX0_leastFrom 23 = .ok (.iconst 0, 1) := by decide +kernel
theorem dX0_leastFrom_24 : decode cX0_leastFrom 24 = .ok (.istore_n 3, 1) := by decide +kernel
theorem dX0_leastFrom_25 : decode cX0_leastFrom 25 = .ok (.iload_n 3, 1) := by decide +kernel
theorem dX0_leastFrom_26 : decode cX0_leastFrom 26 = .ok (.aload_n 0, 1) := by decide +kernel
theorem dX0_leastFrom_27 : decode cX0_leastFrom 27 = .ok (.getfield 15, 3) := by decide +kernel
theorem dX0_leastFrom_30 : decode cX0_leastFrom 30 = .ok (.arraylength, 1) := by decide +kernel
theorem dX0_leastFrom_31 : decode cX0_leastFrom 31 = .ok (.if_icmp .ge 53, 3) := by decide +kernel
theorem dX0_leastFrom_34 : decode cX0_leastFrom 34 = .ok (.iconst 0, 1) := by decide +kernel
theorem dX0_leastFrom_35 : decode cX0_leastFrom 35 = .ok (.istore 4, 2) := by decide +kernel
theorem dX0_leastFrom_37 : decode cX0_leastFrom 37 = .ok (.iload 4, 2) := by decide +kernel
theorem dX0_leastFrom_39 : decode cX0_leastFrom 39 = .ok (.sipush 4096, 3) := by decide +kernel
theorem dX0_leastFrom_42 : decode cX0_leastFrom 42 = .ok (.if_icmp .ge 36, 3) := by decide +kernel
theorem dX0_leastFrom_45 : decode cX0_leastFrom 45 = .ok (.aload_n 0, 1) := by decide +kernel
theorem dX0_leastFrom_46 : decode cX0_leastFrom 46 = .ok (.getfield 15, 3) := by decide +kernel
theorem dX0_leastFrom_49 : decode cX0_leastFrom 49 = .ok (.iload_n 3, 1) := by decide +kernel
theorem dX0_leastFrom_50 : decode cX0_leastFrom 50 = .ok (.iaload, 1) := by decide +kernel
theorem dX0_leastFrom_51 : decode cX0_leastFrom 51 = .ok (.iconst (-1), 1) := by decide +kernel
theorem dX0_leastFrom_52 : decode cX0_leastFrom 52 = .ok (.if_icmp .eq 26, 3) := by decide +kernel
theorem dX0_leastFrom_55 : decode cX0_leastFrom 55 = .ok (.aload_n 0, 1) := by decide +kernel
theorem dX0_leastFrom_56 : decode cX0_leastFrom 56 = .ok (.getfield 15, 3) := by decide +kernel
theorem dX0_leastFrom_59 : decode cX0_leastFrom 59 = .ok (.iload_n 3, 1) := by decide +kernel
theorem dX0_leastFrom_60 : decode cX0_leastFrom 60 = .ok (.iaload, 1) := by decide +kernel
theorem dX0_leastFrom_61 : decode cX0_leastFrom 61 = .ok (.ifCond .ne 5, 3) := by decide +kernel
theorem dX0_leastFrom_64 : decode cX0_leastFrom 64 = .ok (.iload_n 3, 1) := by decide +kernel
theorem dX0_leastFrom_65 : decode cX0_leastFrom 65 = .ok (.ireturn, 1) := by decide +kernel
theorem dX0_leastFrom_66 : decode cX0_leastFrom 66 = .ok (.aload_n 0, 1) := by decide +kernel
theorem dX0_leastFrom_67 : decode cX0_leastFrom 67 = .ok (.aload_n 1, 1) := by decide +kernel
theorem dX0_leastFrom_68 : decode cX0_leastFrom 68 = .ok (.iload_n 3, 1) := by decide +kernel
theorem dX0_leastFrom_69 : decode cX0_leastFrom 69 = .ok (.invokevirtual 28, 3) := by decide +kernel
theorem dX0_leastFrom_72 : decode cX0_leastFrom 72 = .ok (.iinc 4 1, 3) := by decide +kernel
theorem dX0_leastFrom_75 : decode cX0_leastFrom 75 = .ok (.goto (-38), 3) := by decide +kernel
theorem dX0_leastFrom_78 : decode cX0_leastFrom 78 = .ok (.iinc 3 1, 3) := by decide +kernel
theorem dX0_leastFrom_81 : decode cX0_leastFrom 81 = .ok (.goto (-56), 3) := by decide +kernel
theorem dX0_leastFrom_84 : decode cX0_leastFrom 84 = .ok (.iconst (-1), 1) := by decide +kernel
theorem dX0_leastFrom_85 : decode cX0_leastFrom 85 = .ok (.ireturn, 1) := by decide +kernel
theorem dX0_leaveHead_0 : decode cX0_leaveHead 0 = .ok (.iload_n 2, 1) := by decide +kernel
theorem dX0_leaveHead_1 : decode cX0_leaveHead 1 = .ok (.ifCond .lt 21, 3) := by decide +kernel
theorem dX0_leaveHead_4 : decode cX0_leaveHead 4 = .ok (.iload_n 2, 1) := by decide +kernel
theorem dX0_leaveHead_5 : decode cX0_leaveHead 5 = .ok (.aload_n 0, 1) := by decide +kernel
theorem dX0_leaveHead_6 : decode cX0_leaveHead 6 = .ok (.getfield 15, 3) := by decide +kernel
theorem dX0_leaveHead_9 : decode cX0_leaveHead 9 = .ok (.arraylength, 1) := by decide +kernel
theorem dX0_leaveHead_10 : decode cX0_leaveHead 10 = .ok (.if_icmp .ge 12, 3) := by decide +kernel
theorem dX0_leaveHead_13 : decode cX0_leaveHead 13 = .ok (.aload_n 0, 1) := by decide +kernel
theorem dX0_leaveHead_14 : decode cX0_leaveHead 14 = .ok (.getfield 15, 3) := by decide +kernel
theorem dX0_leaveHead_17 : decode cX0_leaveHead 17 = .ok (.iload_n 2, 1) := by decide +kernel
theorem dX0_leaveHead_18 : decode cX0_leaveHead 18 = .ok (.iaload, 1) := by decide +kernel
theorem dX0_leaveHead_19 : decode cX0_leaveHead 19 = .ok (.goto 4, 3) := by decide +kernel
theorem dX0_leaveHead_22 : decode cX0_leaveHead 22 = .ok (.iconst (-1), 1) := by decide +kernel
theorem dX0_leaveHead_23 : decode cX0_leaveHead 23 = .ok (.istore_n 3, 1) := by decide +kernel
theorem dX0_leaveHead_24 : decode cX0_leaveHead 24 = .ok (.iload_n 3, 1) := by decide +kernel
theorem dX0_leaveHead_25 : decode cX0_leaveHead 25 = .ok (.ifCond .lt 10, 3) := by decide +kernel
theorem dX0_leaveHead_28 : decode cX0_leaveHead 28 = .ok (.iload_n 3, 1) := by decide +kernel
theorem dX0_leaveHead_29 : decode cX0_leaveHead 29 = .ok (.sipush 4096, 3) := by decide +kernel
theorem dX0_leaveHead_32 : decode cX0_leaveHead 32 = .ok (.if_icmp .lt 4, 3) := by decide +kernel
theorem dX0_leaveHead_35 : decode cX0_leaveHead 35 = .ok (.return_, 1) := by decide +kernel
theorem dX0_leaveHead_36 : decode cX0_leaveHead 36 = .ok (.aload_n 0, 1) := by decide +kernel
theorem dX0_leaveHead_37 : decode cX0_leaveHead 37 = .ok (.getfield 15, 3) := by decide +kernel
theorem dX0_leaveHead_40 : decode cX0_leaveHead 40 = .ok (.iload_n 2, 1) := by decide +kernel
theorem dX0_leaveHead_41 : decode cX0_leaveHead 41 = .ok (.aload_n 0, 1) := by decide +kernel
theorem dX0_leaveHead_42 : decode cX0_leaveHead 42 = .ok (.getfield 9, 3) := by decide +kernel
theorem dX0_leaveHead_45 : decode cX0_leaveHead 45 = .ok (.iload_n 3, 1) := by decide +kernel
theorem dX0_leaveHead_46 : decode cX0_leaveHead 46 = .ok (.iaload, 1) := by decide +kernel
theorem dX0_leaveHead_47 : decode cX0_leaveHead 47 = .ok (.iastore, 1) := by decide +kernel
theorem dX0_leaveHead_48 : decode cX0_leaveHead 48 = .ok (.getstatic 32, 3) := by decide +kernel
theorem dX0_leaveHead_51 : decode cX0_leaveHead 51 = .ok (.astore 4, 2) := by decide +kernel
theorem dX0_leaveHead_53 : decode cX0_leaveHead 53 = .ok (.aload 4, 2) := by decide +kernel
theorem dX0_leaveHead_55 : decode cX0_leaveHead 55 = .ok (.arraylength, 1) := by decide +kernel
theorem dX0_leaveHead_56 : decode cX0_leaveHead 56 = .ok (.istore 5, 2) := by decide +kernel
theorem dX0_leaveHead_58 : decode cX0_leaveHead 58 = .ok (.iconst 0, 1) := by decide +kernel
theorem dX0_leaveHead_59 : decode cX0_leaveHead 59 = .ok (.istore 6, 2) := by decide +kernel
theorem dX0_leaveHead_61 : decode cX0_leaveHead 61 = .ok (.iload 6, 2) := by decide +kernel
theorem dX0_leaveHead_63 : decode cX0_leaveHead 63 = .ok (.iload 5, 2) := by decide +kernel
theorem dX0_leaveHead_65 : decode cX0_leaveHead 65 = .ok (.if_icmp .ge 58, 3) := by decide +kernel
theorem dX0_leaveHead_68 : decode cX0_leaveHead 68 = .ok (.aload 4, 2) := by decide +kernel
theorem dX0_leaveHead_70 : decode cX0_leaveHead 70 = .ok (.iload 6, 2) := by decide +kernel
theorem dX0_leaveHead_72 : decode cX0_leaveHead 72 = .ok (.iaload, 1) := by decide +kernel
theorem dX0_leaveHead_73 : decode cX0_leaveHead 73 = .ok (.istore 7, 2) := by decide +kernel
theorem dX0_leaveHead_75 : decode cX0_leaveHead 75 = .ok (.aload_n 1, 1) := by decide +kernel
theorem dX0_leaveHead_76 : decode cX0_leaveHead 76 = .ok (.iload_n 3, 1) := by decide +kernel
theorem dX0_leaveHead_77 : decode cX0_leaveHead 77 = .ok (.iload 7, 2) := by decide +kernel
theorem dX0_leaveHead_79 : decode cX0_leaveHead 79 = .ok (.invokevirtual 35, 3) := by decide +kernel
theorem dX0_leaveHead_82 : decode cX0_leaveHead 82 = .ok (.istore 8, 2) := by decide +kernel
theorem dX0_leaveHead_84 : decode cX0_leaveHead 84 = .ok (.iload 8, 2) := by decide +kernel
theorem dX0_leaveHead_86 : decode cX0_leaveHead 86 = .ok (.iconst (-1), 1) := by decide +kernel
theorem dX0_leaveHead_87 : decode cX0_leaveHead 87 = .ok (.if_icmp .eq 30, 3) := by decide +kernel
theorem dX0_leaveHead_90 : decode cX0_leaveHead 90 = .ok (.iload 8, 2) := by decide +kernel
theorem dX0_leaveHead_92 : decode cX0_leaveHead 92 = .ok (.invokestatic 41, 3) := by decide +kernel
theorem dX0_leaveHead_95 : decode cX0_leaveHead 95 = .ok (.aload_n 1, 1) := by decide +kernel
theorem dX0_leaveHead_96 : decode cX0_leaveHead 96 = .ok (.getfield 45, 3) := by decide +kernel
theorem dX0_leaveHead_99 : decode cX0_leaveHead 99 = .ok (.if_icmp .gt 18, 3) := by decide +kernel
theorem dX0_leaveHead_102 : decode cX0_leaveHead 102 = .ok (.aload_n 0, 1) := by decide +kernel
theorem dX0_leaveHead_103 : decode cX0_leaveHead 103 = .ok (.iload 8, 2) := by decide +kernel
theorem dX0_leaveHead_105 : decode cX0_leaveHead 105 = .ok (.iload_n 2, 1) := by decide +kernel
theorem dX0_leaveHead_106 : decode cX0_leaveHead 106 = .ok (.iload 8, 2) := by decide +kernel
theorem dX0_leaveHead_108 : decode cX0_leaveHead 108 = .ok (.invokestatic 49, 3) := by decide +kernel
theorem dX0_leaveHead_111 : decode cX0_leaveHead 111 = .ok (.invokestatic 52, 3) := by decide +kernel
theorem dX0_leaveHead_114 : decode cX0_leaveHead 114 = .ok (.invokevirtual 24, 3) := by decide +kernel
theorem dX0_leaveHead_117 : decode cX0_leaveHead 117 = .ok (.iinc 6 1, 3) := by decide +kernel
theorem dX0_leaveHead_120 : decode cX0_leaveHead 120 = .ok (.goto (-59), 3) := by decide +kernel
theorem dX0_leaveHead_123 : decode cX0_leaveHead 123 = .ok (.return_, 1) := by decide +kernel
theorem dX0_put_0 : decode cX0_put 0 = .ok (.iload_n 1, 1) := by decide +kernel
theorem dX0_put_1 : decode cX0_put 1 = .ok (.ifCond .lt 23, 3) := by decide +kernel
theorem dX0_put_4 : decode cX0_put 4 = .ok (.iload_n 1, 1) := by decide +kernel
theorem dX0_put_5 : decode cX0_put 5 = .ok (.sipush 4096, 3) := by decide +kernel
theorem dX0_put_8 : decode cX0_put 8 = .ok (.if_icmp .ge 16, 3) := by decide +kernel
theorem dX0_put_11 : decode cX0_put 11 = .ok (.iload_n 2, 1) := by decide +kernel
theorem dX0_put_12 : decode cX0_put 12 = .ok (.ifCond .lt 12, 3) := by decide +kernel
theorem dX0_put_15 : decode cX0_put 15 = .ok (.iload_n 2, 1) := by decide +kernel
theorem dX0_put_16 : decode cX0_put 16 = .ok (.aload_n 0, 1) := by decide +kernel
theorem dX0_put_17 : decode cX0_put 17 = .ok (.getfield 15, 3) := by decide +kernel
theorem dX0_put_20 : decode cX0_put 20 = .ok (.arraylength, 1) := by decide +kernel
theorem dX0_put_21 : decode cX0_put 21 = .ok (.if_icmp .lt 4, 3) := by decide +kernel
theorem dX0_put_24 : decode cX0_put 24 = .ok (.return_, 1) := by decide +kernel
theorem dX0_put_25 : decode cX0_put 25 = .ok (.aload_n 0, 1) := by decide +kernel
theorem dX0_put_26 : decode cX0_put 26 = .ok (.getfield 9, 3) := by decide +kernel
theorem dX0_put_29 : decode cX0_put 29 = .ok (.iload_n 1, 1) := by decide +kernel
theorem dX0_put_30 : decode cX0_put 30 = .ok (.iaload, 1) := by decide +kernel
theorem dX0_put_31 : decode cX0_put 31 = .ok (.bipush (-2), 2) := by decide +kernel
theorem dX0_put_33 : decode cX0_put 33 = .ok (.if_icmp .ne 22, 3) := by decide +kernel
theorem dX0_put_36 : decode cX0_put 36 = .ok (.aload_n 0, 1) := by decide +kernel
theorem dX0_put_37 : decode cX0_put 37 = .ok (.getfield 9, 3) := by decide +kernel
theorem dX0_put_40 : decode cX0_put 40 = .ok (.iload_n 1, 1) := by decide +kernel
theorem dX0_put_41 : decode cX0_put 41 = .ok (.aload_n 0, 1) := by decide +kernel
theorem dX0_put_42 : decode cX0_put 42 = .ok (.getfield 15, 3) := by decide +kernel
theorem dX0_put_45 : decode cX0_put 45 = .ok (.iload_n 2, 1) := by decide +kernel
theorem dX0_put_46 : decode cX0_put 46 = .ok (.iaload, 1) := by decide +kernel
theorem dX0_put_47 : decode cX0_put 47 = .ok (.iastore, 1) := by decide +kernel
theorem dX0_put_48 : decode cX0_put 48 = .ok (.aload_n 0, 1) := by decide +kernel
theorem dX0_put_49 : decode cX0_put 49 = .ok (.getfield 15, 3) := by decide +kernel
theorem dX0_put_52 : decode cX0_put 52 = .ok (.iload_n 2, 1) := by decide +kernel
theorem dX0_put_53 : decode cX0_put 53 = .ok (.iload_n 1, 1) := by decide +kernel
theorem dX0_put_54 : decode cX0_put 54 = .ok (.iastore, 1) := by decide +kernel
theorem dX0_put_55 : decode cX0_put 55 = .ok (.return_, 1) := by decide +kernel
theorem dX1_init_0 : decode cX1_init 0 = .ok (.aload_n 0, 1) := by decide +kernel
theorem dX1_init_1 : decode cX1_init 1 = .ok (.invokespecial 3, 3) := by decide +kernel
theorem dX1_init_4 : decode cX1_init 4 = .ok (.aload_n 0, 1) := by decide +kernel
theorem dX1_init_5 : decode cX1_init 5 = .ok (.iconst 0, 1) := by decide +kernel
theorem dX1_init_6 : decode cX1_init 6 = .ok (.putfield 9, 3) := by decide +kernel
theorem dX1_init_9 : decode cX1_init 9 = .ok (.aload_n 0, 1) := by decide +kernel
theorem dX1_init_10 : decode cX1_init 10 = .ok (.iconst 0, 1) := by decide +kernel
theorem dX1_init_11 : decode cX1_init 11 = .ok (.putfield 15, 3) := by decide +kernel
theorem dX1_init_14 : decode cX1_init 14 = .ok (.aload_n 0, 1) := by decide +kernel
theorem dX1_init_15 : decode cX1_init 15 = .ok (.iconst (-1), 1) := by decide +kernel
theorem dX1_init_16 : decode cX1_init 16 = .ok (.putfield 18, 3) := by decide +kernel
theorem dX1_init_19 : decode cX1_init 19 = .ok (.return_, 1) := by decide +kernel
theorem dX1_tellOf_0 : decode cX1_tellOf 0 = .ok (.aload_n 0, 1) := by decide +kernel
theorem dX1_tellOf_1 : decode cX1_tellOf 1 = .ok (.aload_n 2, 1) := by decide +kernel
theorem dX1_tellOf_2 : decode cX1_tellOf 2 = .ok (.getfield 21, 3) := by decide +kernel
theorem dX1_tellOf_5 : decode cX1_tellOf 5 = .ok (.ifCond .ne 7, 3) := by decide +kernel
theorem dX1_tellOf_8 : decode cX1_tellOf 8 = .ok (.iconst 1, 1) := by decide +kernel
theorem dX1_tellOf_9 : decode cX1_tellOf 9 = .ok (.goto 4, 3) := by decide +kernel
theorem dX1_tellOf_12 : decode cX1_tellOf 12 = .ok (.iconst 0, 1) := by decide +kernel
theorem dX1_tellOf_13 : decode cX1_tellOf 13 = .ok (.putfield 9, 3) := by decide +kernel
theorem dX1_tellOf_16 : decode cX1_tellOf 16 = .ok (.aload_n 0, 1) := by decide +kernel
theorem dX1_tellOf_17 : decode cX1_tellOf 17 = .ok (.iconst 0, 1) := by decide +kernel
theorem dX1_tellOf_18 : decode cX1_tellOf 18 = .ok (.putfield 15, 3) := by decide +kernel
theorem dX1_tellOf_21 : decode cX1_tellOf 21 = .ok (.aload_n 0, 1) := by decide +kernel
theorem dX1_tellOf_22 : decode cX1_tellOf 22 = .ok (.iconst (-1), 1) := by decide +kernel
theorem dX1_tellOf_23 : decode cX1_tellOf 23 = .ok (.putfield 18, 3) := by decide +kernel
theorem dX1_tellOf_26 : decode cX1_tellOf 26 = .ok (.aload_n 2, 1) := by decide +kernel
theorem dX1_tellOf_27 : decode cX1_tellOf 27 = .ok (.getfield 21, 3) := by decide +kernel
theorem dX1_tellOf_30 : decode cX1_tellOf 30 = .ok (.ifCond .ne 4, 3) := by decide +kernel
theorem dX1_tellOf_33 : decode cX1_tellOf 33 = .ok (.return_, 1) := by decide +kernel
theorem dX1_tellOf_34 : decode cX1_tellOf 34 = .ok (.getstatic 26, 3) := by decide +kernel
theorem dX1_tellOf_37 : decode cX1_tellOf 37 = .ok (.astore 4, 2) := by decide +kernel
theorem dX1_tellOf_39 : decode cX1_tellOf 39 = .ok (.aload 4, 2) := by decide +kernel
theorem dX1_tellOf_41 : decode cX1_tellOf 41 = .ok (.arraylength, 1) := by decide +kernel
theorem dX1_tellOf_42 : decode cX1_tellOf 42 = .ok (.istore 5, 2) := by decide +kernel
theorem dX1_tellOf_44 : decode cX1_tellOf 44 = .ok (.iconst 0, 1) := by decide +kernel
theorem dX1_tellOf_45 : decode cX1_tellOf 45 = .ok (.istore 6, 2) := by decide +kernel
theorem dX1_tellOf_47 : decode cX1_tellOf 47 = .ok (.iload 6, 2) := by decide +kernel
theorem dX1_tellOf_49 : decode cX1_tellOf 49 = .ok (.iload 5, 2) := by decide +kernel
theorem dX1_tellOf_51 : decode cX1_tellOf 51 = .ok (.if_icmp .ge 83, 3) := by decide +kernel
theorem dX1_tellOf_54 : decode cX1_tellOf 54 = .ok (.aload 4, 2) := by decide +kernel
theorem dX1_tellOf_56 : decode cX1_tellOf 56 = .ok (.iload 6, 2) := by decide +kernel
theorem dX1_tellOf_58 : decode cX1_tellOf 58 = .ok (.iaload, 1) := by decide +kernel
theorem dX1_tellOf_59 : decode cX1_tellOf 59 = .ok (.istore 7, 2) := by decide +kernel
theorem dX1_tellOf_61 : decode cX1_tellOf 61 = .ok (.aload_n 1, 1) := by decide +kernel
theorem dX1_tellOf_62 : decode cX1_tellOf 62 = .ok (.aload_n 2, 1) := by decide +kernel
theorem dX1_tellOf_63 : decode cX1_tellOf 63 = .ok (.iload_n 3, 1) := by decide +kernel
theorem dX1_tellOf_64 : decode cX1_tellOf 64 = .ok (.aload_n 1, 1) := by decide +kernel
theorem dX1_tellOf_65 : decode cX1_tellOf 65 = .ok (.aload_n 2, 1) := by decide +kernel
theorem dX1_tellOf_66 : decode cX1_tellOf 66 = .ok (.getfield 30, 3) := by decide +kernel
theorem dX1_tellOf_69 : decode cX1_tellOf 69 = .ok (.iload 7, 2) := by decide +kernel
theorem dX1_tellOf_71 : decode cX1_tellOf 71 = .ok (.iload_n 3, 1) := by decide +kernel
theorem dX1_tellOf_72 : decode cX1_tellOf 72 = .ok (.invokevirtual 33, 3) := by decide +kernel
theorem dX1_tellOf_75 : decode cX1_tellOf 75 = .ok (.iconst 0, 1) := by decide +kernel
theorem dX1_tellOf_76 : decode cX1_tellOf 76 = .ok (.invokestatic 39, 3) := by decide +kernel
theorem dX1_tellOf_79 : decode cX1_tellOf 79 = .ok (.istore 8, 2) := by decide +kernel
theorem dX1_tellOf_81 : decode cX1_tellOf 81 = .ok (.iload 8, 2) := by decide +kernel
theorem dX1_tellOf_83 : decode cX1_tellOf 83 = .ok (.ifCond .le 45, 3) := by decide +kernel
theorem dX1_tellOf_86 : decode cX1_tellOf 86 = .ok (.aload_n 0, 1) := by decide +kernel
theorem dX1_tellOf_87 : decode cX1_tellOf 87 = .ok (.dup, 1) := by decide +kernel
theorem dX1_tellOf_88 : decode cX1_tellOf 88 = .ok (.getfield 9, 3) := by decide +kernel
theorem dX1_tellOf_91 : decode cX1_tellOf 91 = .ok (.iload 8, 2) := by decide +kernel
theorem dX1_tellOf_93 : decode cX1_tellOf 93 = .ok (.iadd, 1) := by decide +kernel
theorem dX1_tellOf_94 : decode cX1_tellOf 94 = .ok (.putfield 9, 3) := by decide +kernel
theorem dX1_tellOf_97 : decode cX1_tellOf 97 = .ok (.aload_n 0, 1) := by decide +kernel
theorem dX1_tellOf_98 : decode cX1_tellOf 98 = .ok (.dup, 1) := by decide +kernel
theorem dX1_tellOf_99 : decode cX1_tellOf 99 = .ok (.getfield 15, 3) := by decide +kernel
theorem dX1_tellOf_102 : decode cX1_tellOf 102 = .ok (.iconst 1, 1) := by decide +kernel
theorem dX1_tellOf_103 : decode cX1_tellOf 103 = .ok (.iadd, 1) := by decide +kernel
theorem dX1_tellOf_104 : decode cX1_tellOf 104 = .ok (.putfield 15, 3) := by decide +kernel
theorem dX1_tellOf_107 : decode cX1_tellOf 107 = .ok (.aload_n 0, 1) := by decide +kernel
theorem dX1_tellOf_108 : decode cX1_tellOf 108 = .ok (.aload_n 0, 1) := by decide +kernel
theorem dX1_tellOf_109 : decode cX1_tellOf 109 = .ok (.getfield 18, 3) := by decide +kernel
theorem dX1_tellOf_112 : decode cX1_tellOf 112 = .ok (.iconst (-1), 1) := by decide +kernel
theorem dX1_tellOf_113 : decode cX1_tellOf 113 = .ok (.if_icmp .ne 8, 3) := by decide +kernel
theorem dX1_tellOf_116 : decode cX1_tellOf 116 = .ok (.iload 7, 2) := by decide +kernel
theorem dX1_tellOf_118 : decode cX1_tellOf 118 = .ok (.goto 7, 3) := by decide +kernel
theorem dX1_tellOf_121 : decode cX1_tellOf 121 = .ok (.aload_n 0, 1) := by decide +kernel
theorem dX1_tellOf_122 : decode cX1_tellOf 122 = .ok (.getfield 18, 3) := by decide +kernel
theorem dX1_tellOf_125 : decode cX1_tellOf 125 = .ok (.putfield 18, 3) := by decide +kernel
theorem dX1_tellOf_128 : decode cX1_tellOf 128 = .ok (.iinc 6 1, 3) := by decide +kernel
theorem dX1_tellOf_131 : decode cX1_tellOf 131 = .ok (.goto (-84), 3) := by decide +kernel
theorem dX1_tellOf_134 : decode cX1_tellOf 134 = .ok (.return_, 1) := by decide +kernel
theorem dX1_rowsBehind_0 : decode cX1_rowsBehind 0 = .ok (.iload_n 3, 1) := by decide +kernel
theorem dX1_rowsBehind_1 : decode cX1_rowsBehind 1 = .ok (.iconst (-1), 1) := by decide +kernel
theorem dX1_rowsBehind_2 : decode cX1_rowsBehind 2 = .ok (.if_icmp .eq 27, 3) := by decide +kernel
theorem dX1_rowsBehind_5 : decode cX1_rowsBehind 5 = .ok (.iload 4, 2) := by decide +kernel
theorem dX1_rowsBehind_7 : decode cX1_rowsBehind 7 = .ok (.ifCond .lt 22, 3) := by decide +kernel
theorem dX1_rowsBehind_10 : decode cX1_rowsBehind 10 = .ok (.iload 4, 2) := by decide +kernel
theorem dX1_rowsBehind_12 : decode cX1_rowsBehind 12 = .ok (.aload_n 1, 1) := by decide +kernel
theorem dX1_rowsBehind_13 : decode cX1_rowsBehind 13 = .ok (.getfield 21, 3) := by decide +kernel
theorem dX1_rowsBehind_16 : decode cX1_rowsBehind 16 = .ok (.if_icmp .ge 13, 3) := by decide +kernel
theorem dX1_rowsBehind_19 : decode cX1_rowsBehind 19 = .ok (.iload 4, 2) := by decide +kernel
theorem dX1_rowsBehind_21 : decode cX1_rowsBehind 21 = .ok (.aload_n 1, 1) := by decide +kernel
theorem dX1_rowsBehind_22 : decode cX1_rowsBehind 22 = .ok (.getfield 43, 3) := by decide +kernel
theorem dX1_rowsBehind_25 : decode cX1_rowsBehind 25 = .ok (.arraylength, 1) := by decide +kernel
theorem dX1_rowsBehind_26 : decode cX1_rowsBehind 26 = .ok (.if_icmp .lt 5, 3) := by decide +kernel
theorem dX1_rowsBehind_29 : decode cX1_rowsBehind 29 = .ok (.iconst 0, 1) := by decide +kernel
theorem dX1_rowsBehind_30 : decode cX1_rowsBehind 30 = .ok (.ireturn, 1) := by decide +kernel
theorem dX1_rowsBehind_31 : decode cX1_rowsBehind 31 = .ok (.iload_n 3, 1) := by decide +kernel
theorem dX1_rowsBehind_32 : decode cX1_rowsBehind 32 = .ok (.invokestatic 46, 3) := by decide +kernel
theorem dX1_rowsBehind_35 : decode cX1_rowsBehind 35 = .ok (.aload_n 1, 1) := by decide +kernel
theorem dX1_rowsBehind_36 : decode cX1_rowsBehind 36 = .ok (.getfield 43, 3) := by decide +kernel
theorem dX1_rowsBehind_39 : decode cX1_rowsBehind 39 = .ok (.iload 4, 2) := by decide +kernel
theorem dX1_rowsBehind_41 : decode cX1_rowsBehind 41 = .ok (.iaload, 1) := by decide +kernel
theorem dX1_rowsBehind_42 : decode cX1_rowsBehind 42 = .ok (.if_icmp .eq 5, 3) := by decide +kernel
theorem dX1_rowsBehind_45 : decode cX1_rowsBehind 45 = .ok (.iconst 0, 1) := by decide +kernel
theorem dX1_rowsBehind_46 : decode cX1_rowsBehind 46 = .ok (.ireturn, 1) := by decide +kernel
theorem dX1_rowsBehind_47 : decode cX1_rowsBehind 47 = .ok (.iload 4, 2) := by decide +kernel
theorem dX1_rowsBehind_49 : decode cX1_rowsBehind 49 = .ok (.iconst 1, 1) := by decide +kernel
theorem dX1_rowsBehind_50 : decode cX1_rowsBehind 50 = .ok (.iadd, 1) := by decide +kernel
theorem dX1_rowsBehind_51 : decode cX1_rowsBehind 51 = .ok (.aload_n 1, 1) := by decide +kernel
theorem dX1_rowsBehind_52 : decode cX1_rowsBehind 52 = .ok (.getfield 21, 3) := by decide +kernel
theorem dX1_rowsBehind_55 : decode cX1_rowsBehind 55 = .ok (.if_icmp .ne 5, 3) := by decide +kernel
theorem dX1_rowsBehind_58 : decode cX1_rowsBehind 58 = .ok (.iconst 1, 1) := by decide +kernel
theorem dX1_rowsBehind_59 : decode cX1_rowsBehind 59 = .ok (.ireturn, 1) := by decide +kernel
theorem dX1_rowsBehind_60 : decode cX1_rowsBehind 60 = .ok (.iconst 0, 1) := by decide +kernel
theorem dX1_rowsBehind_61 : decode cX1_rowsBehind 61 = .ok (.istore 5, 2) := by decide +kernel
theorem dX1_rowsBehind_63 : decode cX1_rowsBehind 63 = .ok (.getstatic 26, 3) := by decide +kernel
theorem dX1_rowsBehind_66 : decode cX1_rowsBehind 66 = .ok (.astore 6, 2) := by decide +kernel
theorem dX1_rowsBehind_68 : decode cX1_rowsBehind 68 = .ok (.aload 6, 2) := by decide +kernel
theorem dX1_rowsBehind_70 : decode cX1_rowsBehind 70 = .ok (.arraylength, 1) := by decide +kernel
theorem dX1_rowsBehind_71 : decode cX1_rowsBehind 71 = .ok (.istore 7, 2) := by decide +kernel
theorem dX1_rowsBehind_73 : decode cX1_rowsBehind 73 = .ok (.iconst 0, 1) := by decide +kernel
theorem dX1_rowsBehind_74 : decode cX1_rowsBehind 74 = .ok (.istore 8, 2) := by decide +kernel
theorem dX1_rowsBehind_76 : decode cX1_rowsBehind 76 = .ok (.iload 8, 2) := by decide +kernel
theorem dX1_rowsBehind_78 : decode cX1_rowsBehind 78 = .ok (.iload 7, 2) := by decide +kernel
theorem dX1_rowsBehind_80 : decode cX1_rowsBehind 80 = .ok (.if_icmp .ge 39, 3) := by decide +kernel
theorem dX1_rowsBehind_83 : decode cX1_rowsBehind 83 = .ok (.aload 6, 2) := by decide +kernel
theorem dX1_rowsBehind_85 : decode cX1_rowsBehind 85 = .ok (.iload 8, 2) := by decide +kernel
theorem dX1_rowsBehind_87 : decode cX1_rowsBehind 87 = .ok (.iaload, 1) := by decide +kernel
theorem dX1_rowsBehind_88 : decode cX1_rowsBehind 88 = .ok (.istore 9, 2) := by decide +kernel
theorem dX1_rowsBehind_90 : decode cX1_rowsBehind 90 = .ok (.iload 5, 2) := by decide +kernel
theorem dX1_rowsBehind_92 : decode cX1_rowsBehind 92 = .ok (.aload_n 0, 1) := by decide +kernel
theorem dX1_rowsBehind_93 : decode cX1_rowsBehind 93 = .ok (.aload_n 1, 1) := by decide +kernel
theorem dX1_rowsBehind_94 : decode cX1_rowsBehind 94 = .ok (.iload_n 2, 1) := by decide +kernel
theorem dX1_rowsBehind_95 : decode cX1_rowsBehind 95 = .ok (.aload_n 0, 1) := by decide +kernel
theorem dX1_rowsBehind_96 : decode cX1_rowsBehind 96 = .ok (.iload_n 3, 1) := by decide +kernel
theorem dX1_rowsBehind_97 : decode cX1_rowsBehind 97 = .ok (.iload 9, 2) := by decide +kernel
theorem dX1_rowsBehind_99 : decode cX1_rowsBehind 99 = .ok (.iload_n 2, 1) := by decide +kernel
theorem dX1_rowsBehind_100 : decode cX1_rowsBehind 100 = .ok (.invokevirtual 33, 3) := by decide +kernel
theorem dX1_rowsBehind_103 : decode cX1_rowsBehind 103 = .ok (.iload 4, 2) := by decide +kernel
theorem dX1_rowsBehind_105 : decode cX1_rowsBehind 105 = .ok (.iconst 1, 1) := by decide +kernel
theorem dX1_rowsBehind_106 : decode cX1_rowsBehind 106 = .ok (.iadd, 1) := by decide +kernel
theorem dX1_rowsBehind_107 : decode cX1_rowsBehind 107 = .ok (.invokestatic 39, 3) := by decide +kernel
theorem dX1_rowsBehind_110 : decode cX1_rowsBehind 110 = .ok (.iadd, 1) := by decide +kernel
theorem dX1_rowsBehind_111 : decode cX1_rowsBehind 111 = .ok (.istore 5, 2) := by decide +kernel
theorem dX1_rowsBehind_113 : decode cX1_rowsBehind 113 = .ok (.iinc 8 1, 3) := by decide +kernel
theorem dX1_rowsBehind_116 : decode cX1_rowsBehind 116 = .ok (.goto (-40), 3) := by decide +kernel
theorem dX1_rowsBehind_119 : decode cX1_rowsBehind 119 = .ok (.iload 5, 2) := by decide +kernel
theorem dX1_rowsBehind_121 : decode cX1_rowsBehind 121 = .ok (.ireturn, 1) := by decide +kernel
theorem dX2_init_0 : decode cX2_init 0 = .ok (.aload_n 0, 1) := by decide +kernel
theorem dX2_init_1 : decode cX2_init 1 = .ok (.invokespecial 3, 3) := by decide +kernel
theorem dX2_init_4 : decode cX2_init 4 = .ok (.aload_n 0, 1) := by decide +kernel
theorem dX2_init_5 : decode cX2_init 5 = .ok (.iconst 3, 1) := by decide +kernel
theorem dX2_init_6 : decode cX2_init 6 = .ok (.newarray .int, 2) := by decide +kernel
theorem dX2_init_8 : decode cX2_init 8 = .ok (.putfield 9, 3) := by decide +kernel
theorem dX2_init_11 : decode cX2_init 11 = .ok (.aload_n 0, 1) := by decide +kernel
theorem dX2_init_12 : decode cX2_init 12 = .ok (.iconst 3, 1) := by decide +kernel
theorem dX2_init_13 : decode cX2_init 13 = .ok (.newarray .int, 2) := by decide +kernel
theorem dX2_init_15 : decode cX2_init 15 = .ok (.putfield 15, 3) := by decide +kernel
theorem dX2_init_18 : decode cX2_init 18 = .ok (.aload_n 0, 1) := by decide +kernel
theorem dX2_init_19 : decode cX2_init 19 = .ok (.iconst 3, 1) := by decide +kernel
theorem dX2_init_20 : decode cX2_init 20 = .ok (.newarray .int, 2) := by decide +kernel
theorem dX2_init_22 : decode cX2_init 22 = .ok (.putfield 18, 3) := by decide +kernel
theorem dX2_init_25 : decode cX2_init 25 = .ok (.aload_n 0, 1) := by decide +kernel
theorem dX2_init_26 : decode cX2_init 26 = .ok (.iconst 0, 1) := by decide +kernel
theorem dX2_init_27 : decode cX2_init 27 = .ok (.putfield 21, 3) := by decide +kernel
theorem dX2_init_30 : decode cX2_init 30 = .ok (.aload_n 0, 1) := by decide +kernel
theorem dX2_init_31 : decode cX2_init 31 = .ok (.iconst 0, 1) := by decide +kernel
theorem dX2_init_32 : decode cX2_init 32 = .ok (.putfield 25, 3) := by decide +kernel
theorem dX2_init_35 : decode cX2_init 35 = .ok (.return_, 1) := by decide +kernel
theorem dX2_setKind_0 : decode cX2_setKind 0 = .ok (.iload_n 1, 1) := by decide +kernel
theorem dX2_setKind_1 : decode cX2_setKind 1 = .ok (.ifCond .lt 12, 3) := by decide +kernel
theorem dX2_setKind_4 : decode cX2_setKind 4 = .ok (.iload_n 1, 1) := by decide +kernel
theorem dX2_setKind_5 : decode cX2_setKind 5 = .ok (.aload_n 0, 1) := by decide +kernel
theorem dX2_setKind_6 : decode cX2_setKind 6 = .ok (.getfield 9, 3) := by decide +kernel
theorem dX2_setKind_9 : decode cX2_setKind 9 = .ok (.arraylength, 1) := by decide +kernel
theorem dX2_setKind_10 : decode cX2_setKind 10 = .ok (.if_icmp .lt 4, 3) := by decide +kernel
theorem dX2_setKind_13 : decode cX2_setKind 13 = .ok (.return_, 1) := by decide +kernel
theorem dX2_setKind_14 : decode cX2_setKind 14 = .ok (.aload_n 0, 1) := by decide +kernel
theorem dX2_setKind_15 : decode cX2_setKind 15 = .ok (.getfield 9, 3) := by decide +kernel
theorem dX2_setKind_18 : decode cX2_setKind 18 = .ok (.iload_n 1, 1) := by decide +kernel
theorem dX2_setKind_19 : decode cX2_setKind 19 = .ok (.iload_n 2, 1) := by decide +kernel
theorem dX2_setKind_20 : decode cX2_setKind 20 = .ok (.iastore, 1) := by decide +kernel
theorem dX2_setKind_21 : decode cX2_setKind 21 = .ok (.aload_n 0, 1) := by decide +kernel
theorem dX2_setKind_22 : decode cX2_setKind 22 = .ok (.getfield 15, 3) := by decide +kernel
theorem dX2_setKind_25 : decode cX2_setKind 25 = .ok (.iload_n 1, 1) := by decide +kernel
theorem dX2_setKind_26 : decode cX2_setKind 26 = .ok (.getstatic 28, 3) := by decide +kernel
theorem dX2_setKind_29 : decode cX2_setKind 29 = .ok (.iload_n 2, 1) := by decide +kernel
theorem dX2_setKind_30 : decode cX2_setKind 30 = .ok (.invokestatic 31, 3) := by decide +kernel
theorem dX2_setKind_33 : decode cX2_setKind 33 = .ok (.iastore, 1) := by decide +kernel
theorem dX2_setKind_34 : decode cX2_setKind 34 = .ok (.aload_n 0, 1) := by decide +kernel
theorem dX2_setKind_35 : decode cX2_setKind 35 = .ok (.getfield 18, 3) := by decide +kernel
theorem dX2_setKind_38 : decode cX2_setKind 38 = .ok (.iload_n 1, 1) := by decide +kernel
theorem dX2_setKind_39 : decode cX2_setKind 39 = .ok (.getstatic 35, 3) := by decide +kernel
theorem dX2_setKind_42 : decode cX2_setKind 42 = .ok (.iload_n 2, 1) := by decide +kernel
theorem dX2_setKind_43 : decode cX2_setKind 43 = .ok (.invokestatic 31, 3) := by decide +kernel
theorem dX2_setKind_46 : decode cX2_setKind 46 = .ok (.iastore, 1) := by decide +kernel
theorem dX2_setKind_47 : decode cX2_setKind 47 = .ok (.return_, 1) := by decide +kernel
theorem dX2_bears_0 : decode cX2_bears 0 = .ok (.iload_n 1, 1) := by decide +kernel
theorem dX2_bears_1 : decode cX2_bears 1 = .ok (.invokestatic 38, 3) := by decide +kernel
theorem dX2_bears_4 : decode cX2_bears 4 = .ok (.iload_n 2, 1) := by decide +kernel
theorem dX2_bears_5 : decode cX2_bears 5 = .ok (.if_icmp .gt 18, 3) := by decide +kernel
theorem dX2_bears_8 : decode cX2_bears 8 = .ok (.iload_n 1, 1) := by decide +kernel
theorem dX2_bears_9 : decode cX2_bears 9 = .ok (.invokestatic 42, 3) := by decide +kernel
theorem dX2_bears_12 : decode cX2_bears 12 = .ok (.aload_n 0, 1) := by decide +kernel
theorem dX2_bears_13 : decode cX2_bears 13 = .ok (.getfield 25, 3) := by decide +kernel
theorem dX2_bears_16 : decode cX2_bears 16 = .ok (.if_icmp .gt 7, 3) := by decide +kernel
theorem dX2_bears_19 : decode cX2_bears 19 = .ok (.iconst 1, 1) := by decide +kernel
theorem dX2_bears_20 : decode cX2_bears 20 = .ok (.goto 4, 3) := by decide +kernel
theorem dX2_bears_23 : decode cX2_bears 23 = .ok (.iconst 0, 1) := by decide +kernel
theorem dX2_bears_24 : decode cX2_bears 24 = .ok (.ireturn, 1) := by decide +kernel
theorem dX2_minutesOf_0 : decode cX2_minutesOf 0 = .ok (.iload_n 1, 1) := by decide +kernel
theorem dX2_minutesOf_1 : decode cX2_minutesOf 1 = .ok (.bipush 6, 2) := by decide +kernel
theorem dX2_minutesOf_3 : decode cX2_minutesOf 3 = .ok (.if_icmp .ge 10, 3) := by decide +kernel
theorem dX2_minutesOf_6 : decode cX2_minutesOf 6 = .ok (.aload_n 0, 1) := by decide +kernel
theorem dX2_minutesOf_7 : decode cX2_minutesOf 7 = .ok (.getfield 15, 3) := by decide +kernel
theorem dX2_minutesOf_10 : decode cX2_minutesOf 10 = .ok (.goto 7, 3) := by decide +kernel
theorem dX2_minutesOf_13 : decode cX2_minutesOf 13 = .ok (.aload_n 0, 1) := by decide +kernel
theorem dX2_minutesOf_14 : decode cX2_minutesOf 14 = .ok (.getfield 18, 3) := by decide +kernel
theorem dX2_minutesOf_17 : decode cX2_minutesOf 17 = .ok (.iload_n 1, 1) := by decide +kernel
theorem dX2_minutesOf_18 : decode cX2_minutesOf 18 = .ok (.invokestatic 45, 3) := by decide +kernel
theorem dX2_minutesOf_21 : decode cX2_minutesOf 21 = .ok (.iconst 2, 1) := by decide +kernel
theorem dX2_minutesOf_22 : decode cX2_minutesOf 22 = .ok (.idiv, 1) := by decide +kernel
theorem dX2_minutesOf_23 : decode cX2_minutesOf 23 = .ok (.invokestatic 31, 3) := by decide +kernel
theorem dX2_minutesOf_26 : decode cX2_minutesOf 26 = .ok (.ireturn, 1) := by decide +kernel
theorem dX2_behind_0 : decode cX2_behind 0 = .ok (.aload_n 0, 1) := by decide +kernel
theorem dX2_behind_1 : decode cX2_behind 1 = .ok (.iload_n 1, 1) := by decide +kernel
theorem dX2_behind_2 : decode cX2_behind 2 = .ok (.iload_n 2, 1) := by decide +kernel
theorem dX2_behind_3 : decode cX2_behind 3 = .ok (.invokevirtual 48, 3) := by decide +kernel
theorem dX2_behind_6 : decode cX2_behind 6 = .ok (.istore 4, 2) := by decide +kernel
theorem dX2_behind_8 : decode cX2_behind 8 = .ok (.iload 4, 2) := by decide +kernel
theorem dX2_behind_10 : decode cX2_behind 10 = .ok (.iconst (-1), 1) := by decide +kernel
theorem dX2_behind_11 : decode cX2_behind 11 = .ok (.if_icmp .eq 18, 3) := by decide +kernel
theorem dX2_behind_14 : decode cX2_behind 14 = .ok (.aload_n 0, 1) := by decide +kernel
theorem dX2_behind_15 : decode cX2_behind 15 = .ok (.iload 4, 2) := by decide +kernel
theorem dX2_behind_17 : decode cX2_behind 17 = .ok (.iload_n 3, 1) := by decide +kernel
theorem dX2_behind_18 : decode cX2_behind 18 = .ok (.invokevirtual 52, 3) := by decide +kernel
theorem dX2_behind_21 : decode cX2_behind 21 = .ok (.ifCond .eq 8, 3) := by decide +kernel
theorem dX2_behind_24 : decode cX2_behind 24 = .ok (.iload 4, 2) := by decide +kernel
theorem dX2_behind_26 : decode cX2_behind 26 = .ok (.goto 4, 3) := by decide +kernel
theorem dX2_behind_29 : decode cX2_behind 29 = .ok (.iconst (-1), 1) := by decide +kernel
theorem dX2_behind_30 : decode cX2_behind 30 = .ok (.ireturn, 1) := by decide +kernel
theorem dX2_moved_0 : decode cX2_moved 0 = .ok (.iload_n 2, 1) := by decide +kernel
theorem dX2_moved_1 : decode cX2_moved 1 = .ok (.invokestatic 45, 3) := by decide +kernel
theorem dX2_moved_4 : decode cX2_moved 4 = .ok (.istore_n 3, 1) := by decide +kernel
theorem dX2_moved_5 : decode cX2_moved 5 = .ok (.iload_n 2, 1) := by decide +kernel
theorem dX2_moved_6 : decode cX2_moved 6 = .ok (.invokestatic 56, 3) := by decide +kernel
theorem dX2_moved_9 : decode cX2_moved 9 = .ok (.istore 4, 2) := by decide +kernel
theorem dX2_moved_11 : decode cX2_moved 11 = .ok (.iload_n 1, 1) := by decide +kernel
theorem dX2_moved_12 : decode cX2_moved 12 = .ok (.iconst 2, 1) := by decide +kernel
theorem dX2_moved_13 : decode cX2_moved 13 = .ok (.iload_n 3, 1) := by decide +kernel
theorem dX2_moved_14 : decode cX2_moved 14 = .ok (.imul, 1) := by decide +kernel
theorem dX2_moved_15 : decode cX2_moved 15 = .ok (.ishr, 1) := by decide +kernel
theorem dX2_moved_16 : decode cX2_moved 16 = .ok (.iconst 3, 1) := by decide +kernel
theorem dX2_moved_17 : decode cX2_moved 17 = .ok (.iand, 1) := by decide +kernel
theorem dX2_moved_18 : decode cX2_moved 18 = .ok (.ifCond .ne 5, 3) := by decide +kernel
theorem dX2_moved_21 : decode cX2_moved 21 = .ok (.iconst (-1), 1) := by decide +kernel
theorem dX2_moved_22 : decode cX2_moved 22 = .ok (.ireturn, 1) := by decide +kernel
theorem dX2_moved_23 : decode cX2_moved 23 = .ok (.iload_n 1, 1) := by decide +kernel
theorem dX2_moved_24 : decode cX2_moved 24 = .ok (.iconst 1, 1) := by decide +kernel
theorem dX2_moved_25 : decode cX2_moved 25 = .ok (.iconst 2, 1) := by decide +kernel
theorem dX2_moved_26 : decode cX2_moved 26 = .ok (.iload_n 3, 1) := by decide +kernel
theorem dX2_moved_27 : decode cX2_moved 27 = .ok (.imul, 1) := by decide +kernel
theorem dX2_moved_28 : decode cX2_moved 28 = .ok (.ishl, 1) := by decide +kernel
theorem dX2_moved_29 : decode cX2_moved 29 = .ok (.isub, 1) := by decide +kernel
theorem dX2_moved_30 : decode cX2_moved 30 = .ok (.istore 5, 2) := by decide +kernel
theorem dX2_moved_32 : decode cX2_moved 32 = .ok (.iload 4, 2) := by decide +kernel
theorem dX2_moved_34 : decode cX2_moved 34 = .ok (.iconst (-1), 1) := by decide +kernel
theorem dX2_moved_35 : decode cX2_moved 35 = .ok (.if_icmp .eq 28, 3) := by decide +kernel
theorem dX2_moved_38 : decode cX2_moved 38 = .ok (.iload_n 1, 1) := by decide +kernel
theorem dX2_moved_39 : decode cX2_moved 39 = .ok (.iconst 2, 1) := by decide +kernel
theorem dX2_moved_40 : decode cX2_moved 40 = .ok (.iload 4, 2) := by decide +kernel
theorem dX2_moved_42 : decode cX2_moved 42 = .ok (.imul, 1) := by decide +kernel
theorem dX2_moved_43 : decode cX2_moved 43 = .ok (.ishr, 1) := by decide +kernel
theorem dX2_moved_44 : decode cX2_moved 44 = .ok (.iconst 3, 1) := by decide +kernel
theorem dX2_moved_45 : decode cX2_moved 45 = .ok (.iand, 1) := by decide +kernel
theorem dX2_moved_46 : decode cX2_moved 46 = .ok (.iconst 3, 1) := by decide +kernel
theorem dX2_moved_47 : decode cX2_moved 47 = .ok (.if_icmp .ne 5, 3) := by decide +kernel
theorem dX2_moved_50 : decode cX2_moved 50 = .ok (.iconst (-1), 1) := by decide +kernel
theorem dX2_moved_51 : decode cX2_moved 51 = .ok (.ireturn, 1) := by decide +kernel
theorem dX2_moved_52 : decode cX2_moved 52 = .ok (.iload 5, 2) := by decide +kernel
theorem dX2_moved_54 : decode cX2_moved 54 = .ok (.iconst 1, 1) := by decide +kernel
theorem dX2_moved_55 : decode cX2_moved 55 = .ok (.iconst 2, 1) := by decide +kernel
theorem dX2_moved_56 : decode cX2_moved 56 = .ok (.iload 4, 2) := by decide +kernel
theorem dX2_moved_58 : decode cX2_moved 58 = .ok (.imul, 1) := by decide +kernel
theorem dX2_moved_59 : decode cX2_moved 59 = .ok (.ishl, 1) := by decide +kernel
theorem dX2_moved_60 : decode cX2_moved 60 = .ok (.iadd, 1) := by decide +kernel
theorem dX2_moved_61 : decode cX2_moved 61 = .ok (.istore 5, 2) := by decide +kernel
theorem dX2_moved_63 : decode cX2_moved 63 = .ok (.aload_n 0, 1) := by decide +kernel
theorem dX2_moved_64 : decode cX2_moved 64 = .ok (.iload 5, 2) := by decide +kernel
theorem dX2_moved_66 : decode cX2_moved 66 = .ok (.invokevirtual 59, 3) := by decide +kernel
theorem dX2_moved_69 : decode cX2_moved 69 = .ok (.ireturn, 1) := by decide +kernel
theorem dX2_slid_0 : decode cX2_slid 0 = .ok (.iload_n 1, 1) := by decide +kernel
theorem dX2_slid_1 : decode cX2_slid 1 = .ok (.istore_n 2, 1) := by decide +kernel
theorem dX2_slid_2 : decode cX2_slid 2 = .ok (.iconst 0, 1) := by decide +kernel
theorem dX2_slid_3 : decode cX2_slid 3 = .ok (.istore_n 3, 1) := by decide +kernel
theorem dX2_slid_4 : decode cX2_slid 4 = .ok (.iload_n 3, 1) := by decide +kernel
theorem dX2_slid_5 : decode cX2_slid 5 = .ok (.aload_n 0, 1) := by decide +kernel
theorem dX2_slid_6 : decode cX2_slid 6 = .ok (.getfield 9, 3) := by decide +kernel
theorem dX2_slid_9 : decode cX2_slid 9 = .ok (.arraylength, 1) := by decide +kernel
theorem dX2_slid_10 : decode cX2_slid 10 = .ok (.if_icmp .ge 83, 3) := by decide +kernel
theorem dX2_slid_13 : decode cX2_slid 13 = .ok (.aload_n 0, 1) := by decide +kernel
theorem dX2_slid_14 : decode cX2_slid 14 = .ok (.getfield 9, 3) := by decide +kernel
theorem dX2_slid_17 : decode cX2_slid 17 = .ok (.iload_n 3, 1) := by decide +kernel
theorem dX2_slid_18 : decode cX2_slid 18 = .ok (.iaload, 1) := by decide +kernel
theorem dX2_slid_19 : decode cX2_slid 19 = .ok (.iconst 3, 1) := by decide +kernel
theorem dX2_slid_20 : decode cX2_slid 20 = .ok (.if_icmp .ne 67, 3) := by decide +kernel
theorem dX2_slid_23 : decode cX2_slid 23 = .ok (.iconst 1, 1) := by decide +kernel
theorem dX2_slid_24 : decode cX2_slid 24 = .ok (.iconst 4, 1) := by decide +kernel
theorem dX2_slid_25 : decode cX2_slid 25 = .ok (.iload_n 3, 1) := by decide +kernel
theorem dX2_slid_26 : decode cX2_slid 26 = .ok (.imul, 1) := by decide +kernel
theorem dX2_slid_27 : decode cX2_slid 27 = .ok (.ishl, 1) := by decide +kernel
theorem dX2_slid_28 : decode cX2_slid 28 = .ok (.istore 4, 2) := by decide +kernel
theorem dX2_slid_30 : decode cX2_slid 30 = .ok (.iload 4, 2) := by decide +kernel
theorem dX2_slid_32 : decode cX2_slid 32 = .ok (.iconst 2, 1) := by decide +kernel
theorem dX2_slid_33 : decode cX2_slid 33 = .ok (.ishl, 1) := by decide +kernel
theorem dX2_slid_34 : decode cX2_slid 34 = .ok (.istore 5, 2) := by decide +kernel
theorem dX2_slid_36 : decode cX2_slid 36 = .ok (.iload_n 1, 1) := by decide +kernel
theorem dX2_slid_37 : decode cX2_slid 37 = .ok (.iconst 4, 1) := by decide +kernel
theorem dX2_slid_38 : decode cX2_slid 38 = .ok (.iload_n 3, 1) := by decide +kernel
theorem dX2_slid_39 : decode cX2_slid 39 = .ok (.imul, 1) := by decide +kernel
theorem dX2_slid_40 : decode cX2_slid 40 = .ok (.ishr, 1) := by decide +kernel
theorem dX2_slid_41 : decode cX2_slid 41 = .ok (.iconst 3, 1) := by decide +kernel
theorem dX2_slid_42 : decode cX2_slid 42 = .ok (.iand, 1) := by decide +kernel
theorem dX2_slid_43 : decode cX2_slid 43 = .ok (.iload_n 1, 1) := by decide +kernel
theorem dX2_slid_44 : decode cX2_slid 44 = .ok (.iconst 4, 1) := by decide +kernel
theorem dX2_slid_45 : decode cX2_slid 45 = .ok (.iload_n 3, 1) := by decide +kernel
theorem dX2_slid_46 : decode cX2_slid 46 = .ok (.imul, 1) := by decide +kernel
theorem dX2_slid_47 : decode cX2_slid 47 = .ok (.iconst 2, 1) := by decide +kernel
theorem dX2_slid_48 : decode cX2_slid 48 = .ok (.iadd, 1) := by decide +kernel
theorem dX2_slid_49 : decode cX2_slid 49 = .ok (.ishr, 1) := by decide +kernel
theorem dX2_slid_50 : decode cX2_slid 50 = .ok (.iconst 3, 1) := by decide +kernel
theorem dX2_slid_51 : decode cX2_slid 51 = .ok (.iand, 1) := by decide +kernel
theorem dX2_slid_52 : decode cX2_slid 52 = .ok (.isub, 1) := by decide +kernel
theorem dX2_slid_53 : decode cX2_slid 53 = .ok (.istore 6, 2) := by decide +kernel
theorem dX2_slid_55 : decode cX2_slid 55 = .ok (.iload 6, 2) := by decide +kernel
theorem dX2_slid_57 : decode cX2_slid 57 = .ok (.iconst 2, 1) := by decide +kernel
theorem dX2_slid_58 : decode cX2_slid 58 = .ok (.if_icmp .lt 14, 3) := by decide +kernel
theorem dX2_slid_61 : decode cX2_slid 61 = .ok (.iload_n 2, 1) := by decide +kernel
theorem dX2_slid_62 : decode cX2_slid 62 = .ok (.iload 5, 2) := by decide +kernel
theorem dX2_slid_64 : decode cX2_slid 64 = .ok (.iload 4, 2) := by decide +kernel
theorem dX2_slid_66 : decode cX2_slid 66 = .ok (.isub, 1) := by decide +kernel
theorem dX2_slid_67 : decode cX2_slid 67 = .ok (.iadd, 1) := by decide +kernel
theorem dX2_slid_68 : decode cX2_slid 68 = .ok (.istore_n 2, 1) := by decide +kernel
theorem dX2_slid_69 : decode cX2_slid 69 = .ok (.goto 18, 3) := by decide +kernel
theorem dX2_slid_72 : decode cX2_slid 72 = .ok (.iload 6, 2) := by decide +kernel
theorem dX2_slid_74 : decode cX2_slid 74 = .ok (.bipush (-2), 2) := by decide +kernel
theorem dX2_slid_76 : decode cX2_slid 76 = .ok (.if_icmp .gt 11, 3) := by decide +kernel
theorem dX2_slid_79 : decode cX2_slid 79 = .ok (.iload_n 2, 1) := by decide +kernel
theorem dX2_slid_80 : decode cX2_slid 80 = .ok (.iload 4, 2) := by decide +kernel
theorem dX2_slid_82 : decode cX2_slid 82 = .ok (.iload 5, 2) := by decide +kernel
theorem dX2_slid_84 : decode cX2_slid 84 = .ok (.isub, 1) := by decide +kernel
theorem dX2_slid_85 : decode cX2_slid 85 = .ok (.iadd, 1) := by decide +kernel
theorem dX2_slid_86 : decode cX2_slid 86 = .ok (.istore_n 2, 1) := by decide +kernel
theorem dX2_slid_87 : decode cX2_slid 87 = .ok (.iinc 3 1, 3) := by decide +kernel
theorem dX2_slid_90 : decode cX2_slid 90 = .ok (.goto (-86), 3) := by decide +kernel
theorem dX2_slid_93 : decode cX2_slid 93 = .ok (.iload_n 2, 1) := by decide +kernel
theorem dX2_slid_94 : decode cX2_slid 94 = .ok (.ireturn, 1) := by decide +kernel
theorem dX3_init_0 : decode cX3_init 0 = .ok (.aload_n 0, 1) := by decide +kernel
theorem dX3_init_1 : decode cX3_init 1 = .ok (.invokespecial 3, 3) := by decide +kernel
theorem dX3_init_4 : decode cX3_init 4 = .ok (.aload_n 0, 1) := by decide +kernel
theorem dX3_init_5 : decode cX3_init 5 = .ok (.iconst 0, 1) := by decide +kernel
theorem dX3_init_6 : decode cX3_init 6 = .ok (.putfield 9, 3) := by decide +kernel
theorem dX3_init_9 : decode cX3_init 9 = .ok (.aload_n 0, 1) := by decide +kernel
theorem dX3_init_10 : decode cX3_init 10 = .ok (.iconst 0, 1) := by decide +kernel
theorem dX3_init_11 : decode cX3_init 11 = .ok (.putfield 15, 3) := by decide +kernel
theorem dX3_init_14 : decode cX3_init 14 = .ok (.aload_n 0, 1) := by decide +kernel
theorem dX3_init_15 : decode cX3_init 15 = .ok (.iconst 0, 1) := by decide +kernel
theorem dX3_init_16 : decode cX3_init 16 = .ok (.putfield 19, 3) := by decide +kernel
theorem dX3_init_19 : decode cX3_init 19 = .ok (.aload_n 0, 1) := by decide +kernel
theorem dX3_init_20 : decode cX3_init 20 = .ok (.iconst 0, 1) := by decide +kernel
theorem dX3_init_21 : decode cX3_init 21 = .ok (.putfield 22, 3) := by decide +kernel
theorem dX3_init_24 : decode cX3_init 24 = .ok (.aload_n 0, 1) := by decide +kernel
theorem dX3_init_25 : decode cX3_init 25 = .ok (.iconst 4, 1) := by decide +kernel
theorem dX3_init_26 : decode cX3_init 26 = .ok (.newarray .int, 2) := by decide +kernel
theorem dX3_init_28 : decode cX3_init 28 = .ok (.putfield 25, 3) := by decide +kernel
theorem dX3_init_31 : decode cX3_init 31 = .ok (.aload_n 0, 1) := by decide +kernel
theorem dX3_init_32 : decode cX3_init 32 = .ok (.iconst 0, 1) := by decide +kernel
theorem dX3_init_33 : decode cX3_init 33 = .ok (.putfield 29, 3) := by decide +kernel
theorem dX3_init_36 : decode cX3_init 36 = .ok (.return_, 1) := by decide +kernel
theorem dX3_clear_0 : decode cX3_clear 0 = .ok (.aload_n 0, 1) := by decide +kernel
theorem dX3_clear_1 : decode cX3_clear 1 = .ok (.iconst 0, 1) := by decide +kernel
theorem dX3_clear_2 : decode cX3_clear 2 = .ok (.putfield 9, 3) := by decide +kernel
theorem dX3_clear_5 : decode cX3_clear 5 = .ok (.aload_n 0, 1) := by decide +kernel
theorem dX3_clear_6 : decode cX3_clear 6 = .ok (.iconst 0, 1) := by decide +kernel
theorem dX3_clear_7 : decode cX3_clear 7 = .ok (.putfield 15, 3) := by decide +kernel
theorem dX3_clear_10 : decode cX3_clear 10 = .ok (.aload_n 0, 1) := by decide +kernel
theorem dX3_clear_11 : decode cX3_clear 11 = .ok (.iconst 0, 1) := by decide +kernel
theorem dX3_clear_12 : decode cX3_clear 12 = .ok (.putfield 19, 3) := by decide +kernel
theorem dX3_clear_15 : decode cX3_clear 15 = .ok (.aload_n 0, 1) := by decide +kernel
theorem dX3_clear_16 : decode cX3_clear 16 = .ok (.iconst 0, 1) := by decide +kernel
theorem dX3_clear_17 : decode cX3_clear 17 = .ok (.putfield 22, 3) := by decide +kernel
theorem dX3_clear_20 : decode cX3_clear 20 = .ok (.aload_n 0, 1) := by decide +kernel
theorem dX3_clear_21 : decode cX3_clear 21 = .ok (.iconst 0, 1) := by decide +kernel
theorem dX3_clear_22 : decode cX3_clear 22 = .ok (.putfield 29, 3) := by decide +kernel
theorem dX3_clear_25 : decode cX3_clear 25 = .ok (.return_, 1) := by decide +kernel
theorem dX3_copyOf_0 : decode cX3_copyOf 0 = .ok (.aload_n 0, 1) := by decide +kernel
theorem dX3_copyOf_1 : decode cX3_copyOf 1 = .ok (.aload_n 1, 1) := by decide +kernel
theorem dX3_copyOf_2 : decode cX3_copyOf 2 = .ok (.getfield 9, 3) := by decide +kernel
theorem dX3_copyOf_5 : decode cX3_copyOf 5 = .ok (.putfield 9, 3) := by decide +kernel
theorem dX3_copyOf_8 : decode cX3_copyOf 8 = .ok (.aload_n 0, 1) := by decide +kernel
theorem dX3_copyOf_9 : decode cX3_copyOf 9 = .ok (.aload_n 1, 1) := by decide +kernel
theorem dX3_copyOf_10 : decode cX3_copyOf 10 = .ok (.getfield 15, 3) := by decide +kernel
theorem dX3_copyOf_13 : decode cX3_copyOf 13 = .ok (.putfield 15, 3) := by decide +kernel
theorem dX3_copyOf_16 : decode cX3_copyOf 16 = .ok (.aload_n 0, 1) := by decide +kernel
theorem dX3_copyOf_17 : decode cX3_copyOf 17 = .ok (.aload_n 1, 1) := by decide +kernel
theorem dX3_copyOf_18 : decode cX3_copyOf 18 = .ok (.getfield 19, 3) := by decide +kernel
theorem dX3_copyOf_21 : decode cX3_copyOf 21 = .ok (.putfield 19, 3) := by decide +kernel
theorem dX3_copyOf_24 : decode cX3_copyOf 24 = .ok (.aload_n 0, 1) := by decide +kernel
theorem dX3_copyOf_25 : decode cX3_copyOf 25 = .ok (.aload_n 1, 1) := by decide +kernel
theorem dX3_copyOf_26 : decode cX3_copyOf 26 = .ok (.getfield 22, 3) := by decide +kernel
theorem dX3_copyOf_29 : decode cX3_copyOf 29 = .ok (.putfield 22, 3) := by decide +kernel
theorem dX3_copyOf_32 : decode cX3_copyOf 32 = .ok (.iconst 0, 1) := by decide +kernel
theorem dX3_copyOf_33 : decode cX3_copyOf 33 = .ok (.istore_n 2, 1) := by decide +kernel
theorem dX3_copyOf_34 : decode cX3_copyOf 34 = .ok (.iload_n 2, 1) := by decide +kernel
theorem dX3_copyOf_35 : decode cX3_copyOf 35 = .ok (.aload_n 0, 1) := by decide +kernel
theorem dX3_copyOf_36 : decode cX3_copyOf 36 = .ok (.getfield 25, 3) := by decide +kernel
theorem dX3_copyOf_39 : decode cX3_copyOf 39 = .ok (.arraylength, 1) := by decide +kernel
theorem dX3_copyOf_40 : decode cX3_copyOf 40 = .ok (.if_icmp .ge 30, 3) := by decide +kernel
theorem dX3_copyOf_43 : decode cX3_copyOf 43 = .ok (.iload_n 2, 1) := by decide +kernel
theorem dX3_copyOf_44 : decode cX3_copyOf 44 = .ok (.aload_n 1, 1) := by decide +kernel
theorem dX3_copyOf_45 : decode cX3_copyOf 45 = .ok (.getfield 25, 3) := by decide +kernel
theorem dX3_copyOf_48 : decode cX3_copyOf 48 = .ok (.arraylength, 1) := by decide +kernel
theorem dX3_copyOf_49 : decode cX3_copyOf 49 = .ok (.if_icmp .ge 21, 3) := by decide +kernel
theorem dX3_copyOf_52 : decode cX3_copyOf 52 = .ok (.aload_n 0, 1) := by decide +kernel
theorem dX3_copyOf_53 : decode cX3_copyOf 53 = .ok (.getfield 25, 3) := by decide +kernel
theorem dX3_copyOf_56 : decode cX3_copyOf 56 = .ok (.iload_n 2, 1) := by decide +kernel
theorem dX3_copyOf_57 : decode cX3_copyOf 57 = .ok (.aload_n 1, 1) := by decide +kernel
theorem dX3_copyOf_58 : decode cX3_copyOf 58 = .ok (.getfield 25, 3) := by decide +kernel
theorem dX3_copyOf_61 : decode cX3_copyOf 61 = .ok (.iload_n 2, 1) := by decide +kernel
theorem dX3_copyOf_62 : decode cX3_copyOf 62 = .ok (.iaload, 1) := by decide +kernel
theorem dX3_copyOf_63 : decode cX3_copyOf 63 = .ok (.iastore, 1) := by decide +kernel
theorem dX3_copyOf_64 : decode cX3_copyOf 64 = .ok (.iinc 2 1, 3) := by decide +kernel
theorem dX3_copyOf_67 : decode cX3_copyOf 67 = .ok (.goto (-33), 3) := by decide +kernel
theorem dX3_copyOf_70 : decode cX3_copyOf 70 = .ok (.aload_n 0, 1) := by decide +kernel
theorem dX3_copyOf_71 : decode cX3_copyOf 71 = .ok (.aload_n 1, 1) := by decide +kernel
theorem dX3_copyOf_72 : decode cX3_copyOf 72 = .ok (.getfield 29, 3) := by decide +kernel
theorem dX3_copyOf_75 : decode cX3_copyOf 75 = .ok (.putfield 29, 3) := by decide +kernel
theorem dX3_copyOf_78 : decode cX3_copyOf 78 = .ok (.return_, 1) := by decide +kernel
theorem dX4_init_0 : decode cX4_init 0 = .ok (.aload_n 0, 1) := by decide +kernel
theorem dX4_init_1 : decode cX4_init 1 = .ok (.invokespecial 3, 3) := by decide +kernel
theorem dX4_init_4 : decode cX4_init 4 = .ok (.aload_n 0, 1) := by decide +kernel
theorem dX4_init_5 : decode cX4_init 5 = .ok (.sipush 4096, 3) := by decide +kernel
theorem dX4_init_8 : decode cX4_init 8 = .ok (.newarray .int, 2) := by decide +kernel
theorem dX4_init_10 : decode cX4_init 10 = .ok (.putfield 9, 3) := by decide +kernel
theorem dX4_init_13 : decode cX4_init 13 = .ok (.aload_n 0, 1) := by decide +kernel
theorem dX4_init_14 : decode cX4_init 14 = .ok (.sipush 4096, 3) := by decide +kernel
theorem dX4_init_17 : decode cX4_init 17 = .ok (.newarray .int, 2) := by decide +kernel
theorem dX4_init_19 : decode cX4_init 19 = .ok (.putfield 15, 3) := by decide +kernel
theorem dX4_init_22 : decode cX4_init 22 = .ok (.aload_n 0, 1) := by decide +kernel
theorem dX4_init_23 : decode cX4_init 23 = .ok (.sipush 20480, 3) := by decide +kernel
theorem dX4_init_26 : decode cX4_init 26 = .ok (.newarray .int, 2) := by decide +kernel
theorem dX4_init_28 : decode cX4_init 28 = .ok (.putfield 18, 3) := by decide +kernel
theorem dX4_init_31 : decode cX4_init 31 = .ok (.aload_n 0, 1) := by decide +kernel
theorem dX4_init_32 : decode cX4_init 32 = .ok (.iconst 5, 1) := by decide +kernel
theorem dX4_init_33 : decode cX4_init 33 = .ok (.newarray .int, 2) := by decide +kernel
theorem dX4_init_35 : decode cX4_init 35 = .ok (.putfield 21, 3) := by decide +kernel
theorem dX4_init_38 : decode cX4_init 38 = .ok (.aload_n 0, 1) := by decide +kernel
theorem dX4_init_39 : decode cX4_init 39 = .ok (.iconst 0, 1) := by decide +kernel
theorem dX4_init_40 : decode cX4_init 40 = .ok (.putfield 24, 3) := by decide +kernel
theorem dX4_init_43 : decode cX4_init 43 = .ok (.aload_n 0, 1) := by decide +kernel
theorem dX4_init_44 : decode cX4_init 44 = .ok (.iconst 0, 1) := by decide +kernel
theorem dX4_init_45 : decode cX4_init 45 = .ok (.putfield 28, 3) := by decide +kernel
theorem dX4_init_48 : decode cX4_init 48 = .ok (.aload_n 0, 1) := by decide +kernel
theorem dX4_init_49 : decode cX4_init 49 = .ok (.iconst 0, 1) := by decide +kernel
theorem dX4_init_50 : decode cX4_init 50 = .ok (.putfield 31, 3) := by decide +kernel
theorem dX4_init_53 : decode cX4_init 53 = .ok (.aload_n 0, 1) := by decide +kernel
theorem dX4_init_54 : decode cX4_init 54 = .ok (.iconst 0, 1) := by decide +kernel
theorem dX4_init_55 : decode cX4_init 55 = .ok (.putfield 34, 3) := by decide +kernel
theorem dX4_init_58 : decode cX4_init 58 = .ok (.aload_n 0, 1) := by decide +kernel
theorem dX4_init_59 : decode cX4_init 59 = .ok (.iconst (-1), 1) := by decide +kernel
theorem dX4_init_60 : decode cX4_init 60 = .ok (.putfield 37, 3) := by decide +kernel
theorem dX4_init_63 : decode cX4_init 63 = .ok (.aload_n 0, 1) := by decide +kernel
theorem dX4_init_64 : decode cX4_init 64 = .ok (.iconst 0, 1) := by decide +kernel
theorem dX4_init_65 : decode cX4_init 65 = .ok (.putfield 40, 3) := by decide +kernel
theorem dX4_init_68 : decode cX4_init 68 = .ok (.aload_n 0, 1) := by decide +kernel
theorem dX4_init_69 : decode cX4_init 69 = .ok (.iconst (-1), 1) := by decide +kernel
theorem dX4_init_70 : decode cX4_init 70 = .ok (.putfield 43, 3) := by decide +kernel
theorem dX4_init_73 : decode cX4_init 73 = .ok (.return_, 1) := by decide +kernel
theorem dX4_lookFrom_0 : decode cX4_lookFrom 0 = .ok (.iload 4, 2) := by decide +kernel
theorem dX4_lookFrom_2 : decode cX4_lookFrom 2 = .ok (.aload_n 0, 1) := by decide +kernel
theorem dX4_lookFrom_3 : decode cX4_lookFrom 3 = .ok (.getfield 34, 3) := by decide +kernel
theorem dX4_lookFrom_6 : decode cX4_lookFrom 6 = .ok (.if_icmp .ne 20, 3) := by decide +kernel
theorem dX4_lookFrom_9 : decode cX4_lookFrom 9 = .ok (.iload_n 2, 1) := by decide +kernel
theorem dX4_lookFrom_10 : decode cX4_lookFrom 10 = .ok (.aload_n 0, 1) := by decide +kernel
theorem dX4_lookFrom_11 : decode cX4_lookFrom 11 = .ok (.getfield 37, 3) := by decide +kernel
theorem dX4_lookFrom_14 : decode cX4_lookFrom 14 = .ok (.if_icmp .ne 12, 3) := by decide +kernel
theorem dX4_lookFrom_17 : decode cX4_lookFrom 17 = .ok (.iload_n 3, 1) := by decide +kernel
theorem dX4_lookFrom_18 : decode cX4_lookFrom 18 = .ok (.aload_n 0, 1) := by decide +kernel
theorem dX4_lookFrom_19 : decode cX4_lookFrom 19 = .ok (.getfield 43, 3) := by decide +kernel
theorem dX4_lookFrom_22 : decode cX4_lookFrom 22 = .ok (.if_icmp .ne 4, 3) := by decide +kernel
theorem dX4_lookFrom_25 : decode cX4_lookFrom 25 = .ok (.return_, 1) := by decide +kernel
theorem dX4_lookFrom_26 : decode cX4_lookFrom 26 = .ok (.aload_n 0, 1) := by decide +kernel
theorem dX4_lookFrom_27 : decode cX4_lookFrom 27 = .ok (.iload 4, 2) := by decide +kernel
theorem dX4_lookFrom_29 : decode cX4_lookFrom 29 = .ok (.putfield 34, 3) := by decide +kernel
theorem dX4_lookFrom_32 : decode cX4_lookFrom 32 = .ok (.aload_n 0, 1) := by decide +kernel
theorem dX4_lookFrom_33 : decode cX4_lookFrom 33 = .ok (.iload_n 2, 1) := by decide +kernel
theorem dX4_lookFrom_34 : decode cX4_lookFrom 34 = .ok (.putfield 37, 3) := by decide +kernel
theorem dX4_lookFrom_37 : decode cX4_lookFrom 37 = .ok (.aload_n 0, 1) := by decide +kernel
theorem dX4_lookFrom_38 : decode cX4_lookFrom 38 = .ok (.iload_n 2, 1) := by decide +kernel
theorem dX4_lookFrom_39 : decode cX4_lookFrom 39 = .ok (.invokestatic 46, 3) := by decide +kernel
theorem dX4_lookFrom_42 : decode cX4_lookFrom 42 = .ok (.putfield 40, 3) := by decide +kernel
theorem dX4_lookFrom_45 : decode cX4_lookFrom 45 = .ok (.aload_n 0, 1) := by decide +kernel
theorem dX4_lookFrom_46 : decode cX4_lookFrom 46 = .ok (.iload_n 3, 1) := by decide +kernel
theorem dX4_lookFrom_47 : decode cX4_lookFrom 47 = .ok (.putfield 43, 3) := by decide +kernel
theorem dX4_lookFrom_50 : decode cX4_lookFrom 50 = .ok (.aload_n 0, 1) := by decide +kernel
theorem dX4_lookFrom_51 : decode cX4_lookFrom 51 = .ok (.getfield 9, 3) := by decide +kernel
theorem dX4_lookFrom_54 : decode cX4_lookFrom 54 = .ok (.iconst (-1), 1) := by decide +kernel
theorem dX4_lookFrom_55 : decode cX4_lookFrom 55 = .ok (.invokestatic 50, 3) := by decide +kernel
theorem dX4_lookFrom_58 : decode cX4_lookFrom 58 = .ok (.aload_n 0, 1) := by decide +kernel
theorem dX4_lookFrom_59 : decode cX4_lookFrom 59 = .ok (.getfield 15, 3) := by decide +kernel
theorem dX4_lookFrom_62 : decode cX4_lookFrom 62 = .ok (.iconst (-1), 1) := by decide +kernel
theorem dX4_lookFrom_63 : decode cX4_lookFrom 63 = .ok (.invokestatic 50, 3) := by decide +kernel
theorem dX4_lookFrom_66 : decode cX4_lookFrom 66 = .ok (.aload_n 0, 1) := by decide +kernel
theorem dX4_lookFrom_67 : decode cX4_lookFrom 67 = .ok (.getfield 21, 3) := by decide +kernel
theorem dX4_lookFrom_70 : decode cX4_lookFrom 70 = .ok (.iconst 0, 1) := by decide +kernel
theorem dX4_lookFrom_71 : decode cX4_lookFrom 71 = .ok (.invokestatic 50, 3) := by decide +kernel
theorem dX4_lookFrom_74 : decode cX4_lookFrom 74 = .ok (.aload_n 0, 1) := by decide +kernel
theorem dX4_lookFrom_75 : decode cX4_lookFrom 75 = .ok (.iconst 0, 1) := by decide +kernel
theorem dX4_lookFrom_76 : decode cX4_lookFrom 76 = .ok (.putfield 24, 3) := by decide +kernel
theorem dX4_lookFrom_79 : decode cX4_lookFrom 79 = .ok (.aload_n 0, 1) := by decide +kernel
theorem dX4_lookFrom_80 : decode cX4_lookFrom 80 = .ok (.iconst 0, 1) := by decide +kernel
theorem dX4_lookFrom_81 : decode cX4_lookFrom 81 = .ok (.putfield 28, 3) := by decide +kernel
theorem dX4_lookFrom_84 : decode cX4_lookFrom 84 = .ok (.aload_n 0, 1) := by decide +kernel
theorem dX4_lookFrom_85 : decode cX4_lookFrom 85 = .ok (.iconst 0, 1) := by decide +kernel
theorem dX4_lookFrom_86 : decode cX4_lookFrom 86 = .ok (.putfield 31, 3) := by decide +kernel
theorem dX4_lookFrom_89 : decode cX4_lookFrom 89 = .ok (.aload_n 0, 1) := by decide +kernel
theorem dX4_lookFrom_90 : decode cX4_lookFrom 90 = .ok (.iload_n 2, 1) := by decide +kernel
theorem dX4_lookFrom_91 : decode cX4_lookFrom 91 = .ok (.iconst 0, 1) := by decide +kernel
theorem dX4_lookFrom_92 : decode cX4_lookFrom 92 = .ok (.iconst (-1), 1) := by decide +kernel
theorem dX4_lookFrom_93 : decode cX4_lookFrom 93 = .ok (.invokevirtual 56, 3) := by decide +kernel
theorem dX4_lookFrom_96 : decode cX4_lookFrom 96 = .ok (.iconst 0, 1) := by decide +kernel
theorem dX4_lookFrom_97 : decode cX4_lookFrom 97 = .ok (.istore 5, 2) := by decide +kernel
theorem dX4_lookFrom_99 : decode cX4_lookFrom 99 = .ok (.iload 5, 2) := by decide +kernel
theorem dX4_lookFrom_101 : decode cX4_lookFrom 101 = .ok (.sipush 16384, 3) := by decide +kernel
theorem dX4_lookFrom_104 : decode cX4_lookFrom 104 = .ok (.if_icmp .gt 94, 3) := by decide +kernel
theorem dX4_lookFrom_107 : decode cX4_lookFrom 107 = .ok (.aload_n 0, 1) := by decide +kernel
theorem dX4_lookFrom_108 : decode cX4_lookFrom 108 = .ok (.getfield 24, 3) := by decide +kernel
theorem dX4_lookFrom_111 : decode cX4_lookFrom 111 = .ok (.ifCond .le 87, 3) := by decide +kernel
theorem dX4_lookFrom_114 : decode cX4_lookFrom 114 = .ok (.iload 5, 2) := by decide +kernel
theorem dX4_lookFrom_116 : decode cX4_lookFrom 116 = .ok (.iconst 5, 1) := by decide +kernel
theorem dX4_lookFrom_117 : decode cX4_lookFrom 117 = .ok (.irem, 1) := by decide +kernel
theorem dX4_lookFrom_118 : decode cX4_lookFrom 118 = .ok (.istore 6, 2) := by decide +kernel
theorem dX4_lookFrom_120 : decode cX4_lookFrom 120 = .ok (.aload_n 0, 1) := by decide +kernel
theorem dX4_lookFrom_121 : decode cX4_lookFrom 121 = .ok (.getfield 21, 3) := by decide +kernel
theorem dX4_lookFrom_124 : decode cX4_lookFrom 124 = .ok (.iload 6, 2) := by decide +kernel
theorem dX4_lookFrom_126 : decode cX4_lookFrom 126 = .ok (.iaload, 1) := by decide +kernel
theorem dX4_lookFrom_127 : decode cX4_lookFrom 127 = .ok (.sipush 4096, 3) := by decide +kernel
theorem dX4_lookFrom_130 : decode cX4_lookFrom 130 = .ok (.invokestatic 60, 3) := by decide +kernel
theorem dX4_lookFrom_133 : decode cX4_lookFrom 133 = .ok (.istore 7, 2) := by decide +kernel
theorem dX4_lookFrom_135 : decode cX4_lookFrom 135 = .ok (.iconst 0, 1) := by decide +kernel
theorem dX4_lookFrom_136 : decode cX4_lookFrom 136 = .ok (.istore 8, 2) := by decide +kernel
theorem dX4_lookFrom_138 : decode cX4_lookFrom 138 = .ok (.iload 8, 2) := by decide +kernel
theorem dX4_lookFrom_140 : decode cX4_lookFrom 140 = .ok (.iload 7, 2) := by decide +kernel
theorem dX4_lookFrom_142 : decode cX4_lookFrom 142 = .ok (.if_icmp .ge 31, 3) := by decide +kernel
theorem dX4_lookFrom_145 : decode cX4_lookFrom 145 = .ok (.aload_n 0, 1) := by decide +kernel
theorem dX4_lookFrom_146 : decode cX4_lookFrom 146 = .ok (.aload_n 1, 1) := by decide +kernel
theorem dX4_lookFrom_147 : decode cX4_lookFrom 147 = .ok (.aload_n 0, 1) := by decide +kernel
theorem dX4_lookFrom_148 : decode cX4_lookFrom 148 = .ok (.getfield 18, 3) := by decide +kernel
theorem dX4_lookFrom_151 : decode cX4_lookFrom 151 = .ok (.iload 6, 2) := by decide +kernel
theorem dX4_lookFrom_153 : decode cX4_lookFrom 153 = .ok (.sipush 4096, 3) := by decide +kernel
theorem dX4_lookFrom_156 : decode cX4_lookFrom 156 = .ok (.imul, 1) := by decide +kernel
theorem dX4_lookFrom_157 : decode cX4_lookFrom 157 = .ok (.iload 8, 2) := by decide +kernel
theorem dX4_lookFrom_159 : decode cX4_lookFrom 159 = .ok (.iadd, 1) := by decide +kernel
theorem dX4_lookFrom_160 : decode cX4_lookFrom 160 = .ok (.iaload, 1) := by decide +kernel
theorem dX4_lookFrom_161 : decode cX4_lookFrom 161 = .ok (.iload 5, 2) := by decide +kernel
theorem dX4_lookFrom_163 : decode cX4_lookFrom 163 = .ok (.iload_n 3, 1) := by decide +kernel
theorem dX4_lookFrom_164 : decode cX4_lookFrom 164 = .ok (.invokevirtual 66, 3) := by decide +kernel
theorem dX4_lookFrom_167 : decode cX4_lookFrom 167 = .ok (.iinc 8 1, 3) := by decide +kernel
theorem dX4_lookFrom_170 : decode cX4_lookFrom 170 = .ok (.goto (-32), 3) := by decide +kernel
theorem dX4_lookFrom_173 : decode cX4_lookFrom 173 = .ok (.aload_n 0, 1) := by decide +kernel
theorem dX4_lookFrom_174 : decode cX4_lookFrom 174 = .ok (.getfield 21, 3) := by decide +kernel
theorem dX4_lookFrom_177 : decode cX4_lookFrom 177 = .ok (.iload 6, 2) := by decide +kernel
theorem dX4_lookFrom_179 : decode cX4_lookFrom 179 = .ok (.iconst 0, 1) := by decide +kernel
theorem dX4_lookFrom_180 : decode cX4_lookFrom 180 = .ok (.iastore, 1) := by decide +kernel
theorem dX4_lookFrom_181 : decode cX4_lookFrom 181 = .ok (.aload_n 0, 1) := by decide +kernel
theorem dX4_lookFrom_182 : decode cX4_lookFrom 182 = .ok (.dup, 1) := by decide +kernel
theorem dX4_lookFrom_183 : decode cX4_lookFrom 183 = .ok (.getfield 24, 3) := by decide +kernel
theorem dX4_lookFrom_186 : decode cX4_lookFrom 186 = .ok (.iload 7, 2) := by decide +kernel
theorem dX4_lookFrom_188 : decode cX4_lookFrom 188 = .ok (.isub, 1) := by decide +kernel
theorem dX4_lookFrom_189 : decode cX4_lookFrom 189 = .ok (.putfield 24, 3) := by decide +kernel
theorem dX4_lookFrom_192 : decode cX4_lookFrom 192 = .ok (.iinc 5 1, 3) := by decide +kernel
theorem dX4_lookFrom_195 : decode cX4_lookFrom 195 = .ok (.goto (-96), 3) := by decide +kernel
theorem dX4_lookFrom_198 : decode cX4_lookFrom 198 = .ok (.return_, 1) := by decide +kernel
theorem dX4_leave_0 : decode cX4_leave 0 = .ok (.iload_n 2, 1) := by decide +kernel
theorem dX4_leave_1 : decode cX4_leave 1 = .ok (.ifCond .lt 20, 3) := by decide +kernel
theorem dX4_leave_4 : decode cX4_leave 4 = .ok (.iload_n 2, 1) := by decide +kernel
theorem dX4_leave_5 : decode cX4_leave 5 = .ok (.sipush 4096, 3) := by decide +kernel
theorem dX4_leave_8 : decode cX4_leave 8 = .ok (.if_icmp .ge 13, 3) := by decide +kernel
theorem dX4_leave_11 : decode cX4_leave 11 = .ok (.aload_n 0, 1) := by decide +kernel
theorem dX4_leave_12 : decode cX4_leave 12 = .ok (.getfield 9, 3) := by decide +kernel
theorem dX4_leave_15 : decode cX4_leave 15 = .ok (.iload_n 2, 1) := by decide +kernel
theorem dX4_leave_16 : decode cX4_leave 16 = .ok (.iaload, 1) := by decide +kernel
theorem dX4_leave_17 : decode cX4_leave 17 = .ok (.iload_n 3, 1) := by decide +kernel
theorem dX4_leave_18 : decode cX4_leave 18 = .ok (.if_icmp .eq 4, 3) := by decide +kernel
theorem dX4_leave_21 : decode cX4_leave 21 = .ok (.return_, 1) := by decide +kernel
theorem dX4_leave_22 : decode cX4_leave 22 = .ok (.aload_n 0, 1) := by decide +kernel
theorem dX4_leave_23 : decode cX4_leave 23 = .ok (.dup, 1) := by decide +kernel
theorem dX4_leave_24 : decode cX4_leave 24 = .ok (.getfield 28, 3) := by decide +kernel
theorem dX4_leave_27 : decode cX4_leave 27 = .ok (.iconst 1, 1) := by decide +kernel
theorem dX4_leave_28 : decode cX4_leave 28 = .ok (.iadd, 1) := by decide +kernel
theorem dX4_leave_29 : decode cX4_leave 29 = .ok (.putfield 28, 3) := by decide +kernel
theorem dX4_leave_32 : decode cX4_leave 32 = .ok (.aload_n 0, 1) := by decide +kernel
theorem dX4_leave_33 : decode cX4_leave 33 = .ok (.aload_n 0, 1) := by decide +kernel
theorem dX4_leave_34 : decode cX4_leave 34 = .ok (.getfield 31, 3) := by decide +kernel
theorem dX4_leave_37 : decode cX4_leave 37 = .ok (.aload_n 0, 1) := by decide +kernel
theorem dX4_leave_38 : decode cX4_leave 38 = .ok (.getfield 40, 3) := by decide +kernel
theorem dX4_leave_41 : decode cX4_leave 41 = .ok (.iload_n 2, 1) := by decide +kernel
theorem dX4_leave_42 : decode cX4_leave 42 = .ok (.invokestatic 46, 3) := by decide +kernel
theorem dX4_leave_45 : decode cX4_leave 45 = .ok (.isub, 1) := by decide +kernel
theorem dX4_leave_46 : decode cX4_leave 46 = .ok (.invokestatic 70, 3) := by decide +kernel
theorem dX4_leave_49 : decode cX4_leave 49 = .ok (.putfield 31, 3) := by decide +kernel
theorem dX4_leave_52 : decode cX4_leave 52 = .ok (.getstatic 73, 3) := by decide +kernel
theorem dX4_leave_55 : decode cX4_leave 55 = .ok (.astore 5, 2) := by decide +kernel
theorem dX4_leave_57 : decode cX4_leave 57 = .ok (.aload 5, 2) := by decide +kernel
theorem dX4_leave_59 : decode cX4_leave 59 = .ok (.arraylength, 1) := by decide +kernel
theorem dX4_leave_60 : decode cX4_leave 60 = .ok (.istore 6, 2) := by decide +kernel
theorem dX4_leave_62 : decode cX4_leave 62 = .ok (.iconst 0, 1) := by decide +kernel
theorem dX4_leave_63 : decode cX4_leave 63 = .ok (.istore 7, 2) := by decide +kernel
theorem dX4_leave_65 : decode cX4_leave 65 = .ok (.iload 7, 2) := by decide +kernel
theorem dX4_leave_67 : decode cX4_leave 67 = .ok (.iload 6, 2) := by decide +kernel
theorem dX4_leave_69 : decode cX4_leave 69 = .ok (.if_icmp .ge 72, 3) := by decide +kernel
theorem dX4_leave_72 : decode cX4_leave 72 = .ok (.aload 5, 2) := by decide +kernel
theorem dX4_leave_74 : decode cX4_leave 74 = .ok (.iload 7, 2) := by decide +kernel
theorem dX4_leave_76 : decode cX4_leave 76 = .ok (.iaload, 1) := by decide +kernel
theorem dX4_leave_77 : decode cX4_leave 77 = .ok (.istore 8, 2) := by decide +kernel
theorem dX4_leave_79 : decode cX4_leave 79 = .ok (.aload_n 1, 1) := by decide +kernel
theorem dX4_leave_80 : decode cX4_leave 80 = .ok (.iload_n 2, 1) := by decide +kernel
theorem dX4_leave_81 : decode cX4_leave 81 = .ok (.iload 8, 2) := by decide +kernel
theorem dX4_leave_83 : decode cX4_leave 83 = .ok (.iload 4, 2) := by decide +kernel
theorem dX4_leave_85 : decode cX4_leave 85 = .ok (.invokevirtual 76, 3) := by decide +kernel
theorem dX4_leave_88 : decode cX4_leave 88 = .ok (.istore 9, 2) := by decide +kernel
theorem dX4_leave_90 : decode cX4_leave 90 = .ok (.iload 9, 2) := by decide +kernel
theorem dX4_leave_92 : decode cX4_leave 92 = .ok (.iconst (-1), 1) := by decide +kernel
theorem dX4_leave_93 : decode cX4_leave 93 = .ok (.if_icmp .eq 42, 3) := by decide +kernel
theorem dX4_leave_96 : decode cX4_leave 96 = .ok (.aload_n 0, 1) := by decide +kernel
theorem dX4_leave_97 : decode cX4_leave 97 = .ok (.getfield 15, 3) := by decide +kernel
theorem dX4_leave_100 : decode cX4_leave 100 = .ok (.iload_n 2, 1) := by decide +kernel
theorem dX4_leave_101 : decode cX4_leave 101 = .ok (.iaload, 1) := by decide +kernel
theorem dX4_leave_102 : decode cX4_leave 102 = .ok (.iconst (-1), 1) := by decide +kernel
theorem dX4_leave_103 : decode cX4_leave 103 = .ok (.if_icmp .ne 8, 3) := by decide +kernel
theorem dX4_leave_106 : decode cX4_leave 106 = .ok (.iload 8, 2) := by decide +kernel
theorem dX4_leave_108 : decode cX4_leave 108 = .ok (.goto 9, 3) := by decide +kernel
theorem dX4_leave_111 : decode cX4_leave 111 = .ok (.aload_n 0, 1) := by decide +kernel
theorem dX4_leave_112 : decode cX4_leave 112 = .ok (.getfield 15, 3) := by decide +kernel
theorem dX4_leave_115 : decode cX4_leave 115 = .ok (.iload_n 2, 1) := by decide +kernel
theorem dX4_leave_116 : decode cX4_leave 116 = .ok (.iaload, 1) := by decide +kernel
theorem dX4_leave_117 : decode cX4_leave 117 = .ok (.istore 10, 2) := by decide +kernel
theorem dX4_leave_119 : decode cX4_leave 119 = .ok (.aload_n 0, 1) := by decide +kernel
theorem dX4_leave_120 : decode cX4_leave 120 = .ok (.iload 9, 2) := by decide +kernel
theorem dX4_leave_122 : decode cX4_leave 122 = .ok (.iload_n 3, 1) := by decide +kernel
theorem dX4_leave_123 : decode cX4_leave 123 = .ok (.aload_n 1, 1) := by decide +kernel
theorem dX4_leave_124 : decode cX4_leave 124 = .ok (.iload 8, 2) := by decide +kernel
theorem dX4_leave_126 : decode cX4_leave 126 = .ok (.invokevirtual 82, 3) := by decide +kernel
theorem dX4_leave_129 : decode cX4_leave 129 = .ok (.iadd, 1) := by decide +kernel
theorem dX4_leave_130 : decode cX4_leave 130 = .ok (.iload 10, 2) := by decide +kernel
theorem dX4_leave_132 : decode cX4_leave 132 = .ok (.invokevirtual 56, 3) := by decide +kernel
theorem dX4_leave_135 : decode cX4_leave 135 = .ok (.iinc 7 1, 3) := by decide +kernel
theorem dX4_leave_138 : decode cX4_leave 138 = .ok (.goto (-73), 3) := by decide +kernel
theorem dX4_leave_141 : decode cX4_leave 141 = .ok (.return_, 1) := by decide +kernel
theorem dX4_reach_0 : decode cX4_reach 0 = .ok (.iload_n 1, 1) := by decide +kernel
theorem dX4_reach_1 : decode cX4_reach 1 = .ok (.ifCond .lt 14, 3) := by decide +kernel
theorem dX4_reach_4 : decode cX4_reach 4 = .ok (.iload_n 1, 1) := by decide +kernel
theorem dX4_reach_5 : decode cX4_reach 5 = .ok (.sipush 4096, 3) := by decide +kernel
theorem dX4_reach_8 : decode cX4_reach 8 = .ok (.if_icmp .ge 7, 3) := by decide +kernel
theorem dX4_reach_11 : decode cX4_reach 11 = .ok (.iload_n 2, 1) := by decide +kernel
theorem dX4_reach_12 : decode cX4_reach 12 = .ok (.ifCond .ge 4, 3) := by decide +kernel
theorem dX4_reach_15 : decode cX4_reach 15 = .ok (.return_, 1) := by decide +kernel
theorem dX4_reach_16 : decode cX4_reach 16 = .ok (.iload_n 2, 1) := by decide +kernel
theorem dX4_reach_17 : decode cX4_reach 17 = .ok (.iconst 5, 1) := by decide +kernel
theorem dX4_reach_18 : decode cX4_reach 18 = .ok (.irem, 1) := by decide +kernel
theorem dX4_reach_19 : decode cX4_reach 19 = .ok (.istore 4, 2) := by decide +kernel
theorem dX4_reach_21 : decode cX4_reach 21 = .ok (.aload_n 0, 1) := by decide +kernel
theorem dX4_reach_22 : decode cX4_reach 22 = .ok (.getfield 9, 3) := by decide +kernel
theorem dX4_reach_25 : decode cX4_reach 25 = .ok (.iload_n 1, 1) := by decide +kernel
theorem dX4_reach_26 : decode cX4_reach 26 = .ok (.iaload, 1) := by decide +kernel
theorem dX4_reach_27 : decode cX4_reach 27 = .ok (.iconst (-1), 1) := by decide +kernel
theorem dX4_reach_28 : decode cX4_reach 28 = .ok (.if_icmp .eq 13, 3) := by decide +kernel
theorem dX4_reach_31 : decode cX4_reach 31 = .ok (.iload_n 2, 1) := by decide +kernel
theorem dX4_reach_32 : decode cX4_reach 32 = .ok (.aload_n 0, 1) := by decide +kernel
theorem dX4_reach_33 : decode cX4_reach 33 = .ok (.getfield 9, 3) := by decide +kernel
theorem dX4_reach_36 : decode cX4_reach 36 = .ok (.iload_n 1, 1) := by decide +kernel
theorem dX4_reach_37 : decode cX4_reach 37 = .ok (.iaload, 1) := by decide +kernel
theorem dX4_reach_38 : decode cX4_reach 38 = .ok (.if_icmp .ge 74, 3) := by decide +kernel
theorem dX4_reach_41 : decode cX4_reach 41 = .ok (.aload_n 0, 1) := by decide +kernel
theorem dX4_reach_42 : decode cX4_reach 42 = .ok (.getfield 21, 3) := by decide +kernel
theorem dX4_reach_45 : decode cX4_reach 45 = .ok (.iload 4, 2) := by decide +kernel
theorem dX4_reach_47 : decode cX4_reach 47 = .ok (.iaload, 1) := by decide +kernel
theorem dX4_reach_48 : decode cX4_reach 48 = .ok (.sipush 4096, 3) := by decide +kernel
theorem dX4_reach_51 : decode cX4_reach 51 = .ok (.if_icmp .ge 88, 3) := by decide +kernel
theorem dX4_reach_54 : decode cX4_reach 54 = .ok (.aload_n 0, 1) := by decide +kernel
theorem dX4_reach_55 : decode cX4_reach 55 = .ok (.getfield 9, 3) := by decide +kernel
theorem dX4_reach_58 : decode cX4_reach 58 = .ok (.iload_n 1, 1) := by decide +kernel
theorem dX4_reach_59 : decode cX4_reach 59 = .ok (.iload_n 2, 1) := by decide +kernel
theorem dX4_reach_60 : decode cX4_reach 60 = .ok (.iastore, 1) := by decide +kernel
theorem dX4_reach_61 : decode cX4_reach 61 = .ok (.aload_n 0, 1) := by decide +kernel
theorem dX4_reach_62 : decode cX4_reach 62 = .ok (.getfield 15, 3) := by decide +kernel
theorem dX4_reach_65 : decode cX4_reach 65 = .ok (.iload_n 1, 1) := by decide +kernel
theorem dX4_reach_66 : decode cX4_reach 66 = .ok (.iload_n 3, 1) := by decide +kernel
theorem dX4_reach_67 : decode cX4_reach 67 = .ok (.iastore, 1) := by decide +kernel
theorem dX4_reach_68 : decode cX4_reach 68 = .ok (.aload_n 0, 1) := by decide +kernel
theorem dX4_reach_69 : decode cX4_reach 69 = .ok (.getfield 18, 3) := by decide +kernel
theorem dX4_reach_72 : decode cX4_reach 72 = .ok (.iload 4, 2) := by decide +kernel
theorem dX4_reach_74 : decode cX4_reach 74 = .ok (.sipush 4096, 3) := by decide +kernel
theorem dX4_reach_77 : decode cX4_reach 77 = .ok (.imul, 1) := by decide +kernel
theorem dX4_reach_78 : decode cX4_reach 78 = .ok (.aload_n 0, 1) := by decide +kernel
theorem dX4_reach_79 : decode cX4_reach 79 = .ok (.getfield 21, 3) := by decide +kernel
theorem dX4_reach_82 : decode cX4_reach 82 = .ok (.iload 4, 2) := by decide +kernel
theorem dX4_reach_84 : decode cX4_reach 84 = .ok (.iaload, 1) := by decide +kernel
theorem dX4_reach_85 : decode cX4_reach 85 = .ok (.iadd, 1) := by decide +kernel
theorem dX4_reach_86 : decode cX4_reach 86 = .ok (.iload_n 1, 1) := by decide +kernel
theorem dX4_reach_87 : decode cX4_reach 87 = .ok (.iastore, 1) := by decide +kernel
theorem dX4_reach_88 : decode cX4_reach 88 = .ok (.aload_n 0, 1) := by decide +kernel
theorem dX4_reach_89 : decode cX4_reach 89 = .ok (.getfield 21, 3) := by decide +kernel
theorem dX4_reach_92 : decode cX4_reach 92 = .ok (.iload 4, 2) := by decide +kernel
theorem dX4_reach_94 : decode cX4_reach 94 = .ok (.dup2, 1) := by decide +kernel
theorem dX4_reach_95 : decode cX4_reach 95 = .ok (.iaload, 1) := by decide +kernel
theorem dX4_reach_96 : decode cX4_reach 96 = .ok (.iconst 1, 1) := by decide +kernel
theorem dX4_reach_97 : decode cX4_reach 97 = .ok (.iadd, 1) := by decide +kernel
theorem dX4_reach_98 : decode cX4_reach 98 = .ok (.iastore, 1) := by decide +kernel
theorem dX4_reach_99 : decode cX4_reach 99 = .ok (.aload_n 0, 1) := by decide +kernel
theorem dX4_reach_100 : decode cX4_reach 100 = .ok (.dup, 1) := by decide +kernel
theorem dX4_reach_101 : decode cX4_reach 101 = .ok (.getfield 24, 3) := by decide +kernel
theorem dX4_reach_104 : decode cX4_reach 104 = .ok (.iconst 1, 1) := by decide +kernel
theorem dX4_reach_105 : decode cX4_reach 105 = .ok (.iadd, 1) := by decide +kernel
theorem dX4_reach_106 : decode cX4_reach 106 = .ok (.putfield 24, 3) := by decide +kernel
theorem dX4_reach_109 : decode cX4_reach 109 = .ok (.goto 30, 3) := by decide +kernel
theorem dX4_reach_112 : decode cX4_reach 112 = .ok (.iload_n 2, 1) := by decide +kernel
theorem dX4_reach_113 : decode cX4_reach 113 = .ok (.aload_n 0, 1) := by decide +kernel
theorem dX4_reach_114 : decode cX4_reach 114 = .ok (.getfield 9, 3) := by decide +kernel
theorem dX4_reach_117 : decode cX4_reach 117 = .ok (.iload_n 1, 1) := by decide +kernel
theorem dX4_reach_118 : decode cX4_reach 118 = .ok (.iaload, 1) := by decide +kernel
theorem dX4_reach_119 : decode cX4_reach 119 = .ok (.if_icmp .ne 20, 3) := by decide +kernel
theorem dX4_reach_122 : decode cX4_reach 122 = .ok (.iload_n 3, 1) := by decide +kernel
theorem dX4_reach_123 : decode cX4_reach 123 = .ok (.aload_n 0, 1) := by decide +kernel
theorem dX4_reach_124 : decode cX4_reach 124 = .ok (.getfield 15, 3) := by decide +kernel
theorem dX4_reach_127 : decode cX4_reach 127 = .ok (.iload_n 1, 1) := by decide +kernel
theorem dX4_reach_128 : decode cX4_reach 128 = .ok (.iaload, 1) := by decide +kernel
theorem dX4_reach_129 : decode cX4_reach 129 = .ok (.if_icmp .ge 10, 3) := by decide +kernel
theorem dX4_reach_132 : decode cX4_reach 132 = .ok (.aload_n 0, 1) := by decide +kernel
theorem dX4_reach_133 : decode cX4_reach 133 = .ok (.getfield 15, 3) := by decide +kernel
theorem dX4_reach_136 : decode cX4_reach 136 = .ok (.iload_n 1, 1) := by decide +kernel
theorem dX4_reach_137 : decode cX4_reach 137 = .ok (.iload_n 3, 1) := by decide +kernel
theorem dX4_reach_138 : decode cX4_reach 138 = .ok (.iastore, 1) := by decide +kernel
theorem dX4_reach_139 : decode cX4_reach 139 = .ok (.return_, 1) := by decide +kernel
end
section
theorem dX5_init_0 : decode cX5_init 0 = .ok (.aload_n 0, 1) := by decide +kernel
theorem dX5_init_1 : decode cX5_init 1 = .ok (.invokespecial 1, 3) := by decide +kernel
theorem dX5_init_4 : decode cX5_init 4 = .ok (.aload_n 0, 1) := by decide +kernel
theorem dX5_init_5 : decode cX5_init 5 = .ok (.bipush 16, 2) := by decide +kernel
theorem dX5_init_7 : decode cX5_init 7 = .ok (.newarray .int, 2) := by decide +kernel
theorem dX5_init_9 : decode cX5_init 9 = .ok (.putfield 9, 3) := by decide +kernel
theorem dX5_init_12 : decode cX5_init 12 = .ok (.aload_n 0, 1) := by decide +kernel
theorem dX5_init_13 : decode cX5_init 13 = .ok (.iconst 0, 1) := by decide +kernel
theorem dX5_init_14 : decode cX5_init 14 = .ok (.putfield 13, 3) := by decide +kernel
theorem dX5_init_17 : decode cX5_init 17 = .ok (.aload_n 0, 1) := by decide +kernel
theorem dX5_init_18 : decode cX5_init 18 = .ok (.new 17, 3) := by decide +kernel
theorem dX5_init_21 : decode cX5_init 21 = .ok (.dup, 1) := by decide +kernel
theorem dX5_init_22 : decode cX5_init 22 = .ok (.invokespecial 19, 3) := by decide +kernel
theorem dX5_init_25 : decode cX5_init 25 = .ok (.putfield 20, 3) := by decide +kernel
theorem dX5_init_28 : decode cX5_init 28 = .ok (.aload_n 0, 1) := by decide +kernel
theorem dX5_init_29 : decode cX5_init 29 = .ok (.iconst 0, 1) := by decide +kernel
theorem dX5_init_30 : decode cX5_init 30 = .ok (.putfield 24, 3) := by decide +kernel
theorem dX5_init_33 : decode cX5_init 33 = .ok (.aload_n 0, 1) := by decide +kernel
theorem dX5_init_34 : decode cX5_init 34 = .ok (.new 28, 3) := by decide +kernel
theorem dX5_init_37 : decode cX5_init 37 = .ok (.dup, 1) := by decide +kernel
theorem dX5_init_38 : decode cX5_init 38 = .ok (.invokespecial 30, 3) := by decide +kernel
theorem dX5_init_41 : decode cX5_init 41 = .ok (.putfield 31, 3) := by decide +kernel
theorem dX5_init_44 : decode cX5_init 44 = .ok (.aload_n 0, 1) := by decide +kernel
theorem dX5_init_45 : decode cX5_init 45 = .ok (.new 28, 3) := by decide +kernel
theorem dX5_init_48 : decode cX5_init 48 = .ok (.dup, 1) := by decide +kernel
theorem dX5_init_49 : decode cX5_init 49 = .ok (.invokespecial 30, 3) := by decide +kernel
theorem dX5_init_52 : decode cX5_init 52 = .ok (.putfield 35, 3) := by decide +kernel
theorem dX5_init_55 : decode cX5_init 55 = .ok (.aload_n 0, 1) := by decide +kernel
theorem dX5_init_56 : decode cX5_init 56 = .ok (.iconst 0, 1) := by decide +kernel
theorem dX5_init_57 : decode cX5_init 57 = .ok (.putfield 38, 3) := by decide +kernel
theorem dX5_init_60 : decode cX5_init 60 = .ok (.aload_n 0, 1) := by decide +kernel
theorem dX5_init_61 : decode cX5_init 61 = .ok (.iconst 0, 1) := by decide +kernel
theorem dX5_init_62 : decode cX5_init 62 = .ok (.putfield 41, 3) := by decide +kernel
theorem dX5_init_65 : decode cX5_init 65 = .ok (.aload_n 0, 1) := by decide +kernel
theorem dX5_init_66 : decode cX5_init 66 = .ok (.iconst 0, 1) := by decide +kernel
theorem dX5_init_67 : decode cX5_init 67 = .ok (.putfield 44, 3) := by decide +kernel
theorem dX5_init_70 : decode cX5_init 70 = .ok (.aload_n 0, 1) := by decide +kernel
theorem dX5_init_71 : decode cX5_init 71 = .ok (.new 47, 3) := by decide +kernel
theorem dX5_init_74 : decode cX5_init 74 = .ok (.dup, 1) := by decide +kernel
theorem dX5_init_75 : decode cX5_init 75 = .ok (.invokespecial 49, 3) := by decide +kernel
theorem dX5_init_78 : decode cX5_init 78 = .ok (.putfield 50, 3) := by decide +kernel
theorem dX5_init_81 : decode cX5_init 81 = .ok (.aload_n 0, 1) := by decide +kernel
theorem dX5_init_82 : decode cX5_init 82 = .ok (.new 54, 3) := by decide +kernel
theorem dX5_init_85 : decode cX5_init 85 = .ok (.dup, 1) := by decide +kernel
theorem dX5_init_86 : decode cX5_init 86 = .ok (.invokespecial 56, 3) := by decide +kernel
theorem dX5_init_89 : decode cX5_init 89 = .ok (.putfield 57, 3) := by decide +kernel
theorem dX5_init_92 : decode cX5_init 92 = .ok (.aload_n 0, 1) := by decide +kernel
theorem dX5_init_93 : decode cX5_init 93 = .ok (.new 61, 3) := by decide +kernel
theorem dX5_init_96 : decode cX5_init 96 = .ok (.dup, 1) := by decide +kernel
theorem dX5_init_97 : decode cX5_init 97 = .ok (.invokespecial 63, 3) := by decide +kernel
theorem dX5_init_100 : decode cX5_init 100 = .ok (.putfield 64, 3) := by decide +kernel
theorem dX5_init_103 : decode cX5_init 103 = .ok (.return_, 1) := by decide +kernel
theorem dX5_letter_0 : decode cX5_letter 0 = .ok (.iload_n 1, 1) := by decide +kernel
theorem dX5_letter_1 : decode cX5_letter 1 = .ok (.iconst 1, 1) := by decide +kernel
theorem dX5_letter_2 : decode cX5_letter 2 = .ok (.if_icmp .lt 9, 3) := by decide +kernel
theorem dX5_letter_5 : decode cX5_letter 5 = .ok (.iload_n 1, 1) := by decide +kernel
theorem dX5_letter_6 : decode cX5_letter 6 = .ok (.bipush 126, 2) := by decide +kernel
theorem dX5_letter_8 : decode cX5_letter 8 = .ok (.if_icmp .le 6, 3) := by decide +kernel
theorem dX5_letter_11 : decode cX5_letter 11 = .ok (.bipush (-102), 2) := by decide +kernel
theorem dX5_letter_13 : decode cX5_letter 13 = .ok (.ireturn, 1) := by decide +kernel
theorem dX5_letter_14 : decode cX5_letter 14 = .ok (.aload_n 0, 1) := by decide +kernel
theorem dX5_letter_15 : decode cX5_letter 15 = .ok (.getfield 13, 3) := by decide +kernel
theorem dX5_letter_18 : decode cX5_letter 18 = .ok (.ifCond .lt 15, 3) := by decide +kernel
theorem dX5_letter_21 : decode cX5_letter 21 = .ok (.aload_n 0, 1) := by decide +kernel
theorem dX5_letter_22 : decode cX5_letter 22 = .ok (.getfield 13, 3) := by decide +kernel
theorem dX5_letter_25 : decode cX5_letter 25 = .ok (.aload_n 0, 1) := by decide +kernel
theorem dX5_letter_26 : decode cX5_letter 26 = .ok (.getfield 9, 3) := by decide +kernel
theorem dX5_letter_29 : decode cX5_letter 29 = .ok (.arraylength, 1) := by decide +kernel
theorem dX5_letter_30 : decode cX5_letter 30 = .ok (.if_icmp .lt 6, 3) := by decide +kernel
theorem dX5_letter_33 : decode cX5_letter 33 = .ok (.bipush (-104), 2) := by decide +kernel
theorem dX5_letter_35 : decode cX5_letter 35 = .ok (.ireturn, 1) := by decide +kernel
theorem dX5_letter_36 : decode cX5_letter 36 = .ok (.aload_n 0, 1) := by decide +kernel
theorem dX5_letter_37 : decode cX5_letter 37 = .ok (.getfield 9, 3) := by decide +kernel
theorem dX5_letter_40 : decode cX5_letter 40 = .ok (.aload_n 0, 1) := by decide +kernel
theorem dX5_letter_41 : decode cX5_letter 41 = .ok (.getfield 13, 3) := by decide +kernel
theorem dX5_letter_44 : decode cX5_letter 44 = .ok (.iload_n 1, 1) := by decide +kernel
theorem dX5_letter_45 : decode cX5_letter 45 = .ok (.iastore, 1) := by decide +kernel
theorem dX5_letter_46 : decode cX5_letter 46 = .ok (.aload_n 0, 1) := by decide +kernel
theorem dX5_letter_47 : decode cX5_letter 47 = .ok (.dup, 1) := by decide +kernel
theorem dX5_letter_48 : decode cX5_letter 48 = .ok (.getfield 13, 3) := by decide +kernel
theorem dX5_letter_51 : decode cX5_letter 51 = .ok (.iconst 1, 1) := by decide +kernel
theorem dX5_letter_52 : decode cX5_letter 52 = .ok (.iadd, 1) := by decide +kernel
theorem dX5_letter_53 : decode cX5_letter 53 = .ok (.putfield 13, 3) := by decide +kernel
theorem dX5_letter_56 : decode cX5_letter 56 = .ok (.aload_n 0, 1) := by decide +kernel
theorem dX5_letter_57 : decode cX5_letter 57 = .ok (.getfield 13, 3) := by decide +kernel
theorem dX5_letter_60 : decode cX5_letter 60 = .ok (.ireturn, 1) := by decide +kernel
theorem dX5_blank_0 : decode cX5_blank 0 = .ok (.aload_n 0, 1) := by decide +kernel
theorem dX5_blank_1 : decode cX5_blank 1 = .ok (.getfield 13, 3) := by decide +kernel
theorem dX5_blank_4 : decode cX5_blank 4 = .ok (.istore_n 1, 1) := by decide +kernel
theorem dX5_blank_5 : decode cX5_blank 5 = .ok (.aload_n 0, 1) := by decide +kernel
theorem dX5_blank_6 : decode cX5_blank 6 = .ok (.iconst 0, 1) := by decide +kernel
theorem dX5_blank_7 : decode cX5_blank 7 = .ok (.putfield 13, 3) := by decide +kernel
theorem dX5_blank_10 : decode cX5_blank 10 = .ok (.iload_n 1, 1) := by decide +kernel
theorem dX5_blank_11 : decode cX5_blank 11 = .ok (.ireturn, 1) := by decide +kernel
theorem dX5_fault_0 : decode cX5_fault 0 = .ok (.iconst 0, 1) := by decide +kernel
theorem dX5_fault_1 : decode cX5_fault 1 = .ok (.istore_n 1, 1) := by decide +kernel
theorem dX5_fault_2 : decode cX5_fault 2 = .ok (.iload_n 1, 1) := by decide +kernel
theorem dX5_fault_3 : decode cX5_fault 3 = .ok (.aload_n 0, 1) := by decide +kernel
theorem dX5_fault_4 : decode cX5_fault 4 = .ok (.getfield 13, 3) := by decide +kernel
theorem dX5_fault_7 : decode cX5_fault 7 = .ok (.if_icmp .ge 33, 3) := by decide +kernel
theorem dX5_fault_10 : decode cX5_fault 10 = .ok (.iload_n 1, 1) := by decide +kernel
theorem dX5_fault_11 : decode cX5_fault 11 = .ok (.aload_n 0, 1) := by decide +kernel
theorem dX5_fault_12 : decode cX5_fault 12 = .ok (.getfield 9, 3) := by decide +kernel
theorem dX5_fault_15 : decode cX5_fault 15 = .ok (.arraylength, 1) := by decide +kernel
theorem dX5_fault_16 : decode cX5_fault 16 = .ok (.if_icmp .ge 24, 3) := by decide +kernel
theorem dX5_fault_19 : decode cX5_fault 19 = .ok (.iload_n 1, 1) := by decide +kernel
theorem dX5_fault_20 : decode cX5_fault 20 = .ok (.aload_n 0, 1) := by decide +kernel
theorem dX5_fault_21 : decode cX5_fault 21 = .ok (.getfield 9, 3) := by decide +kernel
theorem dX5_fault_24 : decode cX5_fault 24 = .ok (.iload_n 1, 1) := by decide +kernel
theorem dX5_fault_25 : decode cX5_fault 25 = .ok (.iaload, 1) := by decide +kernel
theorem dX5_fault_26 : decode cX5_fault 26 = .ok (.invokestatic 68, 3) := by decide +kernel
theorem dX5_fault_29 : decode cX5_fault 29 = .ok (.ifCond .ne 5, 3) := by decide +kernel
theorem dX5_fault_32 : decode cX5_fault 32 = .ok (.iload_n 1, 1) := by decide +kernel
theorem dX5_fault_33 : decode cX5_fault 33 = .ok (.ireturn, 1) := by decide +kernel
theorem dX5_fault_34 : decode cX5_fault 34 = .ok (.iinc 1 1, 3) := by decide +kernel
theorem dX5_fault_37 : decode cX5_fault 37 = .ok (.goto (-35), 3) := by decide +kernel
theorem dX5_fault_40 : decode cX5_fault 40 = .ok (.aload_n 0, 1) := by decide +kernel
theorem dX5_fault_41 : decode cX5_fault 41 = .ok (.getfield 13, 3) := by decide +kernel
theorem dX5_fault_44 : decode cX5_fault 44 = .ok (.ireturn, 1) := by decide +kernel
theorem dX5_hold_0 : decode cX5_hold 0 = .ok (.aload_n 0, 1) := by decide +kernel
theorem dX5_hold_1 : decode cX5_hold 1 = .ok (.getfield 13, 3) := by decide +kernel
theorem dX5_hold_4 : decode cX5_hold 4 = .ok (.ldc 72, 2) := by decide +kernel
theorem dX5_hold_6 : decode cX5_hold 6 = .ok (.invokevirtual 74, 3) := by decide +kernel
theorem dX5_hold_9 : decode cX5_hold 9 = .ok (.if_icmp .ne 15, 3) := by decide +kernel
theorem dX5_hold_12 : decode cX5_hold 12 = .ok (.aload_n 0, 1) := by decide +kernel
theorem dX5_hold_13 : decode cX5_hold 13 = .ok (.invokevirtual 80, 3) := by decide +kernel
theorem dX5_hold_16 : decode cX5_hold 16 = .ok (.ldc 72, 2) := by decide +kernel
theorem dX5_hold_18 : decode cX5_hold 18 = .ok (.invokevirtual 74, 3) := by decide +kernel
theorem dX5_hold_21 : decode cX5_hold 21 = .ok (.if_icmp .eq 6, 3) := by decide +kernel
theorem dX5_hold_24 : decode cX5_hold 24 = .ok (.bipush (-103), 2) := by decide +kernel
theorem dX5_hold_26 : decode cX5_hold 26 = .ok (.ireturn, 1) := by decide +kernel
theorem dX5_hold_27 : decode cX5_hold 27 = .ok (.aload_n 0, 1) := by decide +kernel
theorem dX5_hold_28 : decode cX5_hold 28 = .ok (.getfield 31, 3) := by decide +kernel
theorem dX5_hold_31 : decode cX5_hold 31 = .ok (.invokevirtual 83, 3) := by decide +kernel
theorem dX5_hold_34 : decode cX5_hold 34 = .ok (.aload_n 0, 1) := by decide +kernel
theorem dX5_hold_35 : decode cX5_hold 35 = .ok (.getfield 31, 3) := by decide +kernel
theorem dX5_hold_38 : decode cX5_hold 38 = .ok (.aload_n 0, 1) := by decide +kernel
theorem dX5_hold_39 : decode cX5_hold 39 = .ok (.invokevirtual 86, 3) := by decide +kernel
theorem dX5_hold_42 : decode cX5_hold 42 = .ok (.putfield 89, 3) := by decide +kernel
theorem dX5_hold_45 : decode cX5_hold 45 = .ok (.aload_n 0, 1) := by decide +kernel
theorem dX5_hold_46 : decode cX5_hold 46 = .ok (.iconst 0, 1) := by decide +kernel
theorem dX5_hold_47 : decode cX5_hold 47 = .ok (.putfield 13, 3) := by decide +kernel
theorem dX5_hold_50 : decode cX5_hold 50 = .ok (.aload_n 0, 1) := by decide +kernel
theorem dX5_hold_51 : decode cX5_hold 51 = .ok (.iconst 1, 1) := by decide +kernel
theorem dX5_hold_52 : decode cX5_hold 52 = .ok (.putfield 24, 3) := by decide +kernel
theorem dX5_hold_55 : decode cX5_hold 55 = .ok (.aload_n 0, 1) := by decide +kernel
theorem dX5_hold_56 : decode cX5_hold 56 = .ok (.iconst 0, 1) := by decide +kernel
theorem dX5_hold_57 : decode cX5_hold 57 = .ok (.putfield 38, 3) := by decide +kernel
theorem dX5_hold_60 : decode cX5_hold 60 = .ok (.aload_n 0, 1) := by decide +kernel
theorem dX5_hold_61 : decode cX5_hold 61 = .ok (.dup, 1) := by decide +kernel
theorem dX5_hold_62 : decode cX5_hold 62 = .ok (.getfield 41, 3) := by decide +kernel
theorem dX5_hold_65 : decode cX5_hold 65 = .ok (.iconst 1, 1) := by decide +kernel
theorem dX5_hold_66 : decode cX5_hold 66 = .ok (.iadd, 1) := by decide +kernel
theorem dX5_hold_67 : decode cX5_hold 67 = .ok (.putfield 41, 3) := by decide +kernel
theorem dX5_hold_70 : decode cX5_hold 70 = .ok (.aload_n 0, 1) := by decide +kernel
theorem dX5_hold_71 : decode cX5_hold 71 = .ok (.getfield 31, 3) := by decide +kernel
theorem dX5_hold_74 : decode cX5_hold 74 = .ok (.getfield 89, 3) := by decide +kernel
theorem dX5_hold_77 : decode cX5_hold 77 = .ok (.invokestatic 92, 3) := by decide +kernel
theorem dX5_hold_80 : decode cX5_hold 80 = .ok (.ireturn, 1) := by decide +kernel
theorem dX5_bay_0 : decode cX5_bay 0 = .ok (.aload_n 0, 1) := by decide +kernel
theorem dX5_bay_1 : decode cX5_bay 1 = .ok (.iload_n 1, 1) := by decide +kernel
theorem dX5_bay_2 : decode cX5_bay 2 = .ok (.invokevirtual 96, 3) := by decide +kernel
theorem dX5_bay_5 : decode cX5_bay 5 = .ok (.ifCond .ne 6, 3) := by decide +kernel
theorem dX5_bay_8 : decode cX5_bay 8 = .ok (.bipush (-101), 2) := by decide +kernel
theorem dX5_bay_10 : decode cX5_bay 10 = .ok (.ireturn, 1) := by decide +kernel
theorem dX5_bay_11 : decode cX5_bay 11 = .ok (.iload_n 2, 1) := by decide +kernel
theorem dX5_bay_12 : decode cX5_bay 12 = .ok (.tableswitch 102 0 4 #[36, 48, 62, 78, 90], 36) := by decide +kernel
theorem dX5_bay_48 : decode cX5_bay 48 = .ok (.aload_n 0, 1) := by decide +kernel
theorem dX5_bay_49 : decode cX5_bay 49 = .ok (.getfield 20, 3) := by decide +kernel
theorem dX5_bay_52 : decode cX5_bay 52 = .ok (.getfield 100, 3) := by decide +kernel
theorem dX5_bay_55 : decode cX5_bay 55 = .ok (.iload_n 1, 1) := by decide +kernel
theorem dX5_bay_56 : decode cX5_bay 56 = .ok (.invokestatic 103, 3) := by decide +kernel
theorem dX5_bay_59 : decode cX5_bay 59 = .ok (.ireturn, 1) := by decide +kernel
theorem dX5_bay_60 : decode cX5_bay 60 = .ok (.aload_n 0, 1) := by decide +kernel
theorem dX5_bay_61 : decode cX5_bay 61 = .ok (.getfield 31, 3) := by decide +kernel
theorem dX5_bay_64 : decode cX5_bay 64 = .ok (.getfield 89, 3) := by decide +kernel
theorem dX5_bay_67 : decode cX5_bay 67 = .ok (.iconst 2, 1) := by decide +kernel
theorem dX5_bay_68 : decode cX5_bay 68 = .ok (.iload_n 1, 1) := by decide +kernel
theorem dX5_bay_69 : decode cX5_bay 69 = .ok (.imul, 1) := by decide +kernel
theorem dX5_bay_70 : decode cX5_bay 70 = .ok (.invokestatic 107, 3) := by decide +kernel
theorem dX5_bay_73 : decode cX5_bay 73 = .ok (.ireturn, 1) := by decide +kernel
theorem dX5_bay_74 : decode cX5_bay 74 = .ok (.aload_n 0, 1) := by decide +kernel
theorem dX5_bay_75 : decode cX5_bay 75 = .ok (.getfield 31, 3) := by decide +kernel
theorem dX5_bay_78 : decode cX5_bay 78 = .ok (.getfield 89, 3) := by decide +kernel
theorem dX5_bay_81 : decode cX5_bay 81 = .ok (.iconst 2, 1) := by decide +kernel
theorem dX5_bay_82 : decode cX5_bay 82 = .ok (.iload_n 1, 1) := by decide +kernel
theorem dX5_bay_83 : decode cX5_bay 83 = .ok (.imul, 1) := by decide +kernel
theorem dX5_bay_84 : decode cX5_bay 84 = .ok (.iconst 1, 1) := by decide +kernel
theorem dX5_bay_85 : decode cX5_bay 85 = .ok (.iadd, 1) := by decide +kernel
theorem dX5_bay_86 : decode cX5_bay 86 = .ok (.invokestatic 107, 3) := by decide +kernel
theorem dX5_bay_89 : decode cX5_bay 89 = .ok (.ireturn, 1) := by decide +kernel
theorem dX5_bay_90 : decode cX5_bay 90 = .ok (.aload_n 0, 1) := by decide +kernel
theorem dX5_bay_91 : decode cX5_bay 91 = .ok (.getfield 20, 3) := by decide +kernel
theorem dX5_bay_94 : decode cX5_bay 94 = .ok (.getfield 111, 3) := by decide +kernel
theorem dX5_bay_97 : decode cX5_bay 97 = .ok (.iload_n 1, 1) := by decide +kernel
theorem dX5_bay_98 : decode cX5_bay 98 = .ok (.invokestatic 103, 3) := by decide +kernel
theorem dX5_bay_101 : decode cX5_bay 101 = .ok (.ireturn, 1) := by decide +kernel
theorem dX5_bay_102 : decode cX5_bay 102 = .ok (.aload_n 0, 1) := by decide +kernel
theorem dX5_bay_103 : decode cX5_bay 103 = .ok (.getfield 20, 3) := by decide +kernel
theorem dX5_bay_106 : decode cX5_bay 106 = .ok (.getfield 114, 3) := by decide +kernel
theorem dX5_bay_109 : decode cX5_bay 109 = .ok (.iload_n 1, 1) := by decide +kernel
theorem dX5_bay_110 : decode cX5_bay 110 = .ok (.invokestatic 103, 3) := by decide +kernel
theorem dX5_bay_113 : decode cX5_bay 113 = .ok (.ireturn, 1) := by decide +kernel
theorem dX5_bay_114 : decode cX5_bay 114 = .ok (.bipush (-102), 2) := by decide +kernel
theorem dX5_bay_116 : decode cX5_bay 116 = .ok (.ireturn, 1) := by decide +kernel
theorem dX5_as_0 : decode cX5_as 0 = .ok (.aload_n 0, 1) := by decide +kernel
theorem dX5_as_1 : decode cX5_as 1 = .ok (.iload_n 1, 1) := by decide +kernel
theorem dX5_as_2 : decode cX5_as 2 = .ok (.invokevirtual 96, 3) := by decide +kernel
theorem dX5_as_5 : decode cX5_as 5 = .ok (.ifCond .ne 6, 3) := by decide +kernel
theorem dX5_as_8 : decode cX5_as 8 = .ok (.bipush (-101), 2) := by decide +kernel
theorem dX5_as_10 : decode cX5_as 10 = .ok (.ireturn, 1) := by decide +kernel
theorem dX5_as_11 : decode cX5_as 11 = .ok (.iload_n 2, 1) := by decide +kernel
theorem dX5_as_12 : decode cX5_as 12 = .ok (.ifCond .lt 12, 3) := by decide +kernel
theorem dX5_as_15 : decode cX5_as 15 = .ok (.iload_n 2, 1) := by decide +kernel
theorem dX5_as_16 : decode cX5_as 16 = .ok (.ldc 117, 2) := by decide +kernel
theorem dX5_as_18 : decode cX5_as 18 = .ok (.invokevirtual 74, 3) := by decide +kernel
theorem dX5_as_21 : decode cX5_as 21 = .ok (.if_icmp .lt 6, 3) := by decide +kernel
theorem dX5_as_24 : decode cX5_as 24 = .ok (.bipush (-102), 2) := by decide +kernel
theorem dX5_as_26 : decode cX5_as 26 = .ok (.ireturn, 1) := by decide +kernel
theorem dX5_as_27 : decode cX5_as 27 = .ok (.aload_n 0, 1) := by decide +kernel
theorem dX5_as_28 : decode cX5_as 28 = .ok (.getfield 20, 3) := by decide +kernel
theorem dX5_as_31 : decode cX5_as 31 = .ok (.getfield 100, 3) := by decide +kernel
theorem dX5_as_34 : decode cX5_as 34 = .ok (.iload_n 1, 1) := by decide +kernel
theorem dX5_as_35 : decode cX5_as 35 = .ok (.invokestatic 103, 3) := by decide +kernel
theorem dX5_as_38 : decode cX5_as 38 = .ok (.istore_n 3, 1) := by decide +kernel
theorem dX5_as_39 : decode cX5_as 39 = .ok (.iload_n 2, 1) := by decide +kernel
theorem dX5_as_40 : decode cX5_as 40 = .ok (.ifCond .eq 18, 3) := by decide +kernel
theorem dX5_as_43 : decode cX5_as 43 = .ok (.iload_n 2, 1) := by decide +kernel
theorem dX5_as_44 : decode cX5_as 44 = .ok (.iload_n 3, 1) := by decide +kernel
theorem dX5_as_45 : decode cX5_as 45 = .ok (.if_icmp .eq 13, 3) := by decide +kernel
theorem dX5_as_48 : decode cX5_as 48 = .ok (.iload_n 2, 1) := by decide +kernel
theorem dX5_as_49 : decode cX5_as 49 = .ok (.iconst 2, 1) := by decide +kernel
theorem dX5_as_50 : decode cX5_as 50 = .ok (.if_icmp .ne 12, 3) := by decide +kernel
theorem dX5_as_53 : decode cX5_as 53 = .ok (.iload_n 3, 1) := by decide +kernel
theorem dX5_as_54 : decode cX5_as 54 = .ok (.iconst 4, 1) := by decide +kernel
theorem dX5_as_55 : decode cX5_as 55 = .ok (.if_icmp .ne 7, 3) := by decide +kernel
theorem dX5_as_58 : decode cX5_as 58 = .ok (.iconst 1, 1) := by decide +kernel
theorem dX5_as_59 : decode cX5_as 59 = .ok (.goto 4, 3) := by decide +kernel
theorem dX5_as_62 : decode cX5_as 62 = .ok (.iconst 0, 1) := by decide +kernel
theorem dX5_as_63 : decode cX5_as 63 = .ok (.istore 4, 2) := by decide +kernel
theorem dX5_as_65 : decode cX5_as 65 = .ok (.iload 4, 2) := by decide +kernel
theorem dX5_as_67 : decode cX5_as 67 = .ok (.ifCond .eq 7, 3) := by decide +kernel
theorem dX5_as_70 : decode cX5_as 70 = .ok (.iload_n 1, 1) := by decide +kernel
theorem dX5_as_71 : decode cX5_as 71 = .ok (.goto 4, 3) := by decide +kernel
theorem dX5_as_74 : decode cX5_as 74 = .ok (.iconst (-1), 1) := by decide +kernel
theorem dX5_as_75 : decode cX5_as 75 = .ok (.ireturn, 1) := by decide +kernel
theorem dX5_ground_0 : decode cX5_ground 0 = .ok (.aload_n 0, 1) := by decide +kernel
theorem dX5_ground_1 : decode cX5_ground 1 = .ok (.getfield 24, 3) := by decide +kernel
theorem dX5_ground_4 : decode cX5_ground 4 = .ok (.ifCond .ne 6, 3) := by decide +kernel
theorem dX5_ground_7 : decode cX5_ground 7 = .ok (.bipush (-103), 2) := by decide +kernel
theorem dX5_ground_9 : decode cX5_ground 9 = .ok (.ireturn, 1) := by decide +kernel
theorem dX5_ground_10 : decode cX5_ground 10 = .ok (.aload_n 0, 1) := by decide +kernel
theorem dX5_ground_11 : decode cX5_ground 11 = .ok (.getfield 31, 3) := by decide +kernel
theorem dX5_ground_14 : decode cX5_ground 14 = .ok (.getfield 119, 3) := by decide +kernel
theorem dX5_ground_17 : decode cX5_ground 17 = .ok (.invokestatic 122, 3) := by decide +kernel
theorem dX5_ground_20 : decode cX5_ground 20 = .ok (.istore_n 2, 1) := by decide +kernel
theorem dX5_ground_21 : decode cX5_ground 21 = .ok (.aload_n 0, 1) := by decide +kernel
theorem dX5_ground_22 : decode cX5_ground 22 = .ok (.getfield 31, 3) := by decide +kernel
theorem dX5_ground_25 : decode cX5_ground 25 = .ok (.iload_n 1, 1) := by decide +kernel
theorem dX5_ground_26 : decode cX5_ground 26 = .ok (.putfield 119, 3) := by decide +kernel
theorem dX5_ground_29 : decode cX5_ground 29 = .ok (.iload_n 2, 1) := by decide +kernel
theorem dX5_ground_30 : decode cX5_ground 30 = .ok (.ireturn, 1) := by decide +kernel
theorem dX5_hull_0 : decode cX5_hull 0 = .ok (.iload_n 1, 1) := by decide +kernel
theorem dX5_hull_1 : decode cX5_hull 1 = .ok (.ifCond .lt 8, 3) := by decide +kernel
theorem dX5_hull_4 : decode cX5_hull 4 = .ok (.iload_n 1, 1) := by decide +kernel
theorem dX5_hull_5 : decode cX5_hull 5 = .ok (.iconst 3, 1) := by decide +kernel
theorem dX5_hull_6 : decode cX5_hull 6 = .ok (.if_icmp .le 6, 3) := by decide +kernel
theorem dX5_hull_9 : decode cX5_hull 9 = .ok (.bipush (-102), 2) := by decide +kernel
theorem dX5_hull_11 : decode cX5_hull 11 = .ok (.ireturn, 1) := by decide +kernel
theorem dX5_hull_12 : decode cX5_hull 12 = .ok (.aload_n 0, 1) := by decide +kernel
theorem dX5_hull_13 : decode cX5_hull 13 = .ok (.getfield 24, 3) := by decide +kernel
theorem dX5_hull_16 : decode cX5_hull 16 = .ok (.ifCond .ne 6, 3) := by decide +kernel
theorem dX5_hull_19 : decode cX5_hull 19 = .ok (.bipush (-103), 2) := by decide +kernel
theorem dX5_hull_21 : decode cX5_hull 21 = .ok (.ireturn, 1) := by decide +kernel
theorem dX5_hull_22 : decode cX5_hull 22 = .ok (.iload_n 1, 1) := by decide +kernel
theorem dX5_hull_23 : decode cX5_hull 23 = .ok (.tableswitch 69 0 2 #[25, 36, 47], 25) := by decide +kernel
theorem dX5_hull_48 : decode cX5_hull 48 = .ok (.aload_n 0, 1) := by decide +kernel
theorem dX5_hull_49 : decode cX5_hull 49 = .ok (.getfield 31, 3) := by decide +kernel
theorem dX5_hull_52 : decode cX5_hull 52 = .ok (.getfield 89, 3) := by decide +kernel
theorem dX5_hull_55 : decode cX5_hull 55 = .ok (.invokestatic 126, 3) := by decide +kernel
theorem dX5_hull_58 : decode cX5_hull 58 = .ok (.ireturn, 1) := by decide +kernel
theorem dX5_hull_59 : decode cX5_hull 59 = .ok (.aload_n 0, 1) := by decide +kernel
theorem dX5_hull_60 : decode cX5_hull 60 = .ok (.getfield 31, 3) := by decide +kernel
theorem dX5_hull_63 : decode cX5_hull 63 = .ok (.getfield 89, 3) := by decide +kernel
theorem dX5_hull_66 : decode cX5_hull 66 = .ok (.invokestatic 129, 3) := by decide +kernel
theorem dX5_hull_69 : decode cX5_hull 69 = .ok (.ireturn, 1) := by decide +kernel
theorem dX5_hull_70 : decode cX5_hull 70 = .ok (.aload_n 0, 1) := by decide +kernel
theorem dX5_hull_71 : decode cX5_hull 71 = .ok (.getfield 20, 3) := by decide +kernel
theorem dX5_hull_74 : decode cX5_hull 74 = .ok (.aload_n 0, 1) := by decide +kernel
theorem dX5_hull_75 : decode cX5_hull 75 = .ok (.getfield 31, 3) := by decide +kernel
theorem dX5_hull_78 : decode cX5_hull 78 = .ok (.getfield 89, 3) := by decide +kernel
theorem dX5_hull_81 : decode cX5_hull 81 = .ok (.aload_n 0, 1) := by decide +kernel
theorem dX5_hull_82 : decode cX5_hull 82 = .ok (.invokevirtual 132, 3) := by decide +kernel
theorem dX5_hull_85 : decode cX5_hull 85 = .ok (.invokevirtual 135, 3) := by decide +kernel
theorem dX5_hull_88 : decode cX5_hull 88 = .ok (.invokestatic 122, 3) := by decide +kernel
theorem dX5_hull_91 : decode cX5_hull 91 = .ok (.ireturn, 1) := by decide +kernel
theorem dX5_hull_92 : decode cX5_hull 92 = .ok (.aload_n 0, 1) := by decide +kernel
theorem dX5_hull_93 : decode cX5_hull 93 = .ok (.invokevirtual 132, 3) := by decide +kernel
theorem dX5_hull_96 : decode cX5_hull 96 = .ok (.ireturn, 1) := by decide +kernel
theorem dX5_may_0 : decode cX5_may 0 = .ok (.aload_n 0, 1) := by decide +kernel
theorem dX5_may_1 : decode cX5_may 1 = .ok (.getfield 24, 3) := by decide +kernel
theorem dX5_may_4 : decode cX5_may 4 = .ok (.ifCond .eq 10, 3) := by decide +kernel
theorem dX5_may_7 : decode cX5_may 7 = .ok (.iload_n 1, 1) := by decide +kernel
theorem dX5_may_8 : decode cX5_may 8 = .ok (.invokestatic 138, 3) := by decide +kernel
theorem dX5_may_11 : decode cX5_may 11 = .ok (.ifCond .ne 6, 3) := by decide +kernel
theorem dX5_may_14 : decode cX5_may 14 = .ok (.bipush (-101), 2) := by decide +kernel
theorem dX5_may_16 : decode cX5_may 16 = .ok (.ireturn, 1) := by decide +kernel
theorem dX5_may_17 : decode cX5_may 17 = .ok (.aload_n 0, 1) := by decide +kernel
theorem dX5_may_18 : decode cX5_may 18 = .ok (.getfield 20, 3) := by decide +kernel
theorem dX5_may_21 : decode cX5_may 21 = .ok (.aload_n 0, 1) := by decide +kernel
theorem dX5_may_22 : decode cX5_may 22 = .ok (.getfield 31, 3) := by decide +kernel
theorem dX5_may_25 : decode cX5_may 25 = .ok (.getfield 89, 3) := by decide +kernel
theorem dX5_may_28 : decode cX5_may 28 = .ok (.iload_n 1, 1) := by decide +kernel
theorem dX5_may_29 : decode cX5_may 29 = .ok (.aload_n 0, 1) := by decide +kernel
theorem dX5_may_30 : decode cX5_may 30 = .ok (.invokevirtual 132, 3) := by decide +kernel
theorem dX5_may_33 : decode cX5_may 33 = .ok (.invokevirtual 141, 3) := by decide +kernel
theorem dX5_may_36 : decode cX5_may 36 = .ok (.iconst (-1), 1) := by decide +kernel
theorem dX5_may_37 : decode cX5_may 37 = .ok (.if_icmp .eq 7, 3) := by decide +kernel
theorem dX5_may_40 : decode cX5_may 40 = .ok (.iconst 1, 1) := by decide +kernel
theorem dX5_may_41 : decode cX5_may 41 = .ok (.goto 4, 3) := by decide +kernel
theorem dX5_may_44 : decode cX5_may 44 = .ok (.iconst 0, 1) := by decide +kernel
theorem dX5_may_45 : decode cX5_may 45 = .ok (.invokestatic 122, 3) := by decide +kernel
theorem dX5_may_48 : decode cX5_may 48 = .ok (.ireturn, 1) := by decide +kernel
theorem dX5_act_0 : decode cX5_act 0 = .ok (.aload_n 0, 1) := by decide +kernel
theorem dX5_act_1 : decode cX5_act 1 = .ok (.getfield 24, 3) := by decide +kernel
theorem dX5_act_4 : decode cX5_act 4 = .ok (.ifCond .eq 10, 3) := by decide +kernel
theorem dX5_act_7 : decode cX5_act 7 = .ok (.iload_n 1, 1) := by decide +kernel
theorem dX5_act_8 : decode cX5_act 8 = .ok (.invokestatic 138, 3) := by decide +kernel
theorem dX5_act_11 : decode cX5_act 11 = .ok (.ifCond .ne 6, 3) := by decide +kernel
theorem dX5_act_14 : decode cX5_act 14 = .ok (.bipush (-101), 2) := by decide +kernel
theorem dX5_act_16 : decode cX5_act 16 = .ok (.ireturn, 1) := by decide +kernel
theorem dX5_act_17 : decode cX5_act 17 = .ok (.aload_n 0, 1) := by decide +kernel
theorem dX5_act_18 : decode cX5_act 18 = .ok (.getfield 20, 3) := by decide +kernel
theorem dX5_act_21 : decode cX5_act 21 = .ok (.aload_n 0, 1) := by decide +kernel
theorem dX5_act_22 : decode cX5_act 22 = .ok (.getfield 31, 3) := by decide +kernel
theorem dX5_act_25 : decode cX5_act 25 = .ok (.getfield 89, 3) := by decide +kernel
theorem dX5_act_28 : decode cX5_act 28 = .ok (.iload_n 1, 1) := by decide +kernel
theorem dX5_act_29 : decode cX5_act 29 = .ok (.aload_n 0, 1) := by decide +kernel
theorem dX5_act_30 : decode cX5_act 30 = .ok (.invokevirtual 132, 3) := by decide +kernel
theorem dX5_act_33 : decode cX5_act 33 = .ok (.invokevirtual 141, 3) := by decide +kernel
theorem dX5_act_36 : decode cX5_act 36 = .ok (.istore_n 2, 1) := by decide +kernel
theorem dX5_act_37 : decode cX5_act 37 = .ok (.iload_n 2, 1) := by decide +kernel
theorem dX5_act_38 : decode cX5_act 38 = .ok (.iconst (-1), 1) := by decide +kernel
theorem dX5_act_39 : decode cX5_act 39 = .ok (.if_icmp .ne 6, 3) := by decide +kernel
theorem dX5_act_42 : decode cX5_act 42 = .ok (.bipush (-103), 2) := by decide +kernel
theorem dX5_act_44 : decode cX5_act 44 = .ok (.ireturn, 1) := by decide +kernel
theorem dX5_act_45 : decode cX5_act 45 = .ok (.aload_n 0, 1) := by decide +kernel
theorem dX5_act_46 : decode cX5_act 46 = .ok (.getfield 31, 3) := by decide +kernel
theorem dX5_act_49 : decode cX5_act 49 = .ok (.dup, 1) := by decide +kernel
theorem dX5_act_50 : decode cX5_act 50 = .ok (.getfield 145, 3) := by decide +kernel
theorem dX5_act_53 : decode cX5_act 53 = .ok (.aload_n 0, 1) := by decide +kernel
theorem dX5_act_54 : decode cX5_act 54 = .ok (.getfield 31, 3) := by decide +kernel
theorem dX5_act_57 : decode cX5_act 57 = .ok (.getfield 89, 3) := by decide +kernel
theorem dX5_act_60 : decode cX5_act 60 = .ok (.invokestatic 92, 3) := by decide +kernel
theorem dX5_act_63 : decode cX5_act 63 = .ok (.iload_n 2, 1) := by decide +kernel
theorem dX5_act_64 : decode cX5_act 64 = .ok (.invokestatic 92, 3) := by decide +kernel
theorem dX5_act_67 : decode cX5_act 67 = .ok (.isub, 1) := by decide +kernel
theorem dX5_act_68 : decode cX5_act 68 = .ok (.iadd, 1) := by decide +kernel
theorem dX5_act_69 : decode cX5_act 69 = .ok (.putfield 145, 3) := by decide +kernel
theorem dX5_act_72 : decode cX5_act 72 = .ok (.aload_n 0, 1) := by decide +kernel
theorem dX5_act_73 : decode cX5_act 73 = .ok (.getfield 31, 3) := by decide +kernel
theorem dX5_act_76 : decode cX5_act 76 = .ok (.iload_n 2, 1) := by decide +kernel
theorem dX5_act_77 : decode cX5_act 77 = .ok (.putfield 89, 3) := by decide +kernel
theorem dX5_act_80 : decode cX5_act 80 = .ok (.aload_n 0, 1) := by decide +kernel
theorem dX5_act_81 : decode cX5_act 81 = .ok (.getfield 31, 3) := by decide +kernel
theorem dX5_act_84 : decode cX5_act 84 = .ok (.dup, 1) := by decide +kernel
theorem dX5_act_85 : decode cX5_act 85 = .ok (.getfield 148, 3) := by decide +kernel
theorem dX5_act_88 : decode cX5_act 88 = .ok (.aload_n 0, 1) := by decide +kernel
theorem dX5_act_89 : decode cX5_act 89 = .ok (.getfield 20, 3) := by decide +kernel
theorem dX5_act_92 : decode cX5_act 92 = .ok (.iload_n 1, 1) := by decide +kernel
theorem dX5_act_93 : decode cX5_act 93 = .ok (.invokevirtual 151, 3) := by decide +kernel
theorem dX5_act_96 : decode cX5_act 96 = .ok (.iadd, 1) := by decide +kernel
theorem dX5_act_97 : decode cX5_act 97 = .ok (.putfield 148, 3) := by decide +kernel
theorem dX5_act_100 : decode cX5_act 100 = .ok (.aload_n 0, 1) := by decide +kernel
theorem dX5_act_101 : decode cX5_act 101 = .ok (.getfield 31, 3) := by decide +kernel
theorem dX5_act_104 : decode cX5_act 104 = .ok (.getfield 148, 3) := by decide +kernel
theorem dX5_act_107 : decode cX5_act 107 = .ok (.ireturn, 1) := by decide +kernel
theorem dX5_soonest_0 : decode cX5_soonest 0 = .ok (.iload_n 1, 1) := by decide +kernel
theorem dX5_soonest_1 : decode cX5_soonest 1 = .ok (.ifCond .lt 8, 3) := by decide +kernel
theorem dX5_soonest_4 : decode cX5_soonest 4 = .ok (.iload_n 1, 1) := by decide +kernel
theorem dX5_soonest_5 : decode cX5_soonest 5 = .ok (.iconst 1, 1) := by decide +kernel
theorem dX5_soonest_6 : decode cX5_soonest 6 = .ok (.if_icmp .le 6, 3) := by decide +kernel
theorem dX5_soonest_9 : decode cX5_soonest 9 = .ok (.bipush (-102), 2) := by decide +kernel
theorem dX5_soonest_11 : decode cX5_soonest 11 = .ok (.ireturn, 1) := by decide +kernel
theorem dX5_soonest_12 : decode cX5_soonest 12 = .ok (.aload_n 0, 1) := by decide +kernel
theorem dX5_soonest_13 : decode cX5_soonest 13 = .ok (.getfield 24, 3) := by decide +kernel
theorem dX5_soonest_16 : decode cX5_soonest 16 = .ok (.ifCond .ne 6, 3) := by decide +kernel
theorem dX5_soonest_19 : decode cX5_soonest 19 = .ok (.bipush (-103), 2) := by decide +kernel
theorem dX5_soonest_21 : decode cX5_soonest 21 = .ok (.ireturn, 1) := by decide +kernel
theorem dX5_soonest_22 : decode cX5_soonest 22 = .ok (.aload_n 0, 1) := by decide +kernel
theorem dX5_soonest_23 : decode cX5_soonest 23 = .ok (.invokevirtual 154, 3) := by decide +kernel
theorem dX5_soonest_26 : decode cX5_soonest 26 = .ok (.iload_n 1, 1) := by decide +kernel
theorem dX5_soonest_27 : decode cX5_soonest 27 = .ok (.ifCond .ne 15, 3) := by decide +kernel
theorem dX5_soonest_30 : decode cX5_soonest 30 = .ok (.aload_n 0, 1) := by decide +kernel
theorem dX5_soonest_31 : decode cX5_soonest 31 = .ok (.getfield 50, 3) := by decide +kernel
theorem dX5_soonest_34 : decode cX5_soonest 34 = .ok (.getfield 157, 3) := by decide +kernel
theorem dX5_soonest_37 : decode cX5_soonest 37 = .ok (.iconst 0, 1) := by decide +kernel
theorem dX5_soonest_38 : decode cX5_soonest 38 = .ok (.iaload, 1) := by decide +kernel
theorem dX5_soonest_39 : decode cX5_soonest 39 = .ok (.goto 12, 3) := by decide +kernel
theorem dX5_soonest_42 : decode cX5_soonest 42 = .ok (.aload_n 0, 1) := by decide +kernel
theorem dX5_soonest_43 : decode cX5_soonest 43 = .ok (.getfield 50, 3) := by decide +kernel
theorem dX5_soonest_46 : decode cX5_soonest 46 = .ok (.getfield 159, 3) := by decide +kernel
theorem dX5_soonest_49 : decode cX5_soonest 49 = .ok (.iconst 0, 1) := by decide +kernel
theorem dX5_soonest_50 : decode cX5_soonest 50 = .ok (.iaload, 1) := by decide +kernel
theorem dX5_soonest_51 : decode cX5_soonest 51 = .ok (.ireturn, 1) := by decide +kernel
theorem dX5_most_0 : decode cX5_most 0 = .ok (.aload_n 0, 1) := by decide +kernel
theorem dX5_most_1 : decode cX5_most 1 = .ok (.getfield 24, 3) := by decide +kernel
theorem dX5_most_4 : decode cX5_most 4 = .ok (.ifCond .ne 6, 3) := by decide +kernel
theorem dX5_most_7 : decode cX5_most 7 = .ok (.bipush (-103), 2) := by decide +kernel
theorem dX5_most_9 : decode cX5_most 9 = .ok (.ireturn, 1) := by decide +kernel
theorem dX5_most_10 : decode cX5_most 10 = .ok (.aload_n 0, 1) := by decide +kernel
theorem dX5_most_11 : decode cX5_most 11 = .ok (.invokevirtual 154, 3) := by decide +kernel
theorem dX5_most_14 : decode cX5_most 14 = .ok (.aload_n 0, 1) := by decide +kernel
theorem dX5_most_15 : decode cX5_most 15 = .ok (.getfield 50, 3) := by decide +kernel
theorem dX5_most_18 : decode cX5_most 18 = .ok (.getfield 162, 3) := by decide +kernel
theorem dX5_most_21 : decode cX5_most 21 = .ok (.ireturn, 1) := by decide +kernel
theorem dX5_holds_0 : decode cX5_holds 0 = .ok (.aload_n 0, 1) := by decide +kernel
theorem dX5_holds_1 : decode cX5_holds 1 = .ok (.getfield 24, 3) := by decide +kernel
theorem dX5_holds_4 : decode cX5_holds 4 = .ok (.ifCond .ne 6, 3) := by decide +kernel
theorem dX5_holds_7 : decode cX5_holds 7 = .ok (.bipush (-103), 2) := by decide +kernel
theorem dX5_holds_9 : decode cX5_holds 9 = .ok (.ireturn, 1) := by decide +kernel
theorem dX5_holds_10 : decode cX5_holds 10 = .ok (.aload_n 0, 1) := by decide +kernel
theorem dX5_holds_11 : decode cX5_holds 11 = .ok (.invokevirtual 154, 3) := by decide +kernel
theorem dX5_holds_14 : decode cX5_holds 14 = .ok (.aload_n 0, 1) := by decide +kernel
theorem dX5_holds_15 : decode cX5_holds 15 = .ok (.getfield 50, 3) := by decide +kernel
theorem dX5_holds_18 : decode cX5_holds 18 = .ok (.getfield 165, 3) := by decide +kernel
theorem dX5_holds_21 : decode cX5_holds 21 = .ok (.ireturn, 1) := by decide +kernel
theorem dX5_leastBend_0 : decode cX5_leastBend 0 = .ok (.aload_n 0, 1) := by decide +kernel
theorem dX5_leastBend_1 : decode cX5_leastBend 1 = .ok (.getfield 24, 3) := by decide +kernel
theorem dX5_leastBend_4 : decode cX5_leastBend 4 = .ok (.ifCond .eq 12, 3) := by decide +kernel
theorem dX5_leastBend_7 : decode cX5_leastBend 7 = .ok (.aload_n 0, 1) := by decide +kernel
theorem dX5_leastBend_8 : decode cX5_leastBend 8 = .ok (.getfield 44, 3) := by decide +kernel
theorem dX5_leastBend_11 : decode cX5_leastBend 11 = .ok (.bipush 12, 2) := by decide +kernel
theorem dX5_leastBend_13 : decode cX5_leastBend 13 = .ok (.if_icmp .lt 6, 3) := by decide +kernel
theorem dX5_leastBend_16 : decode cX5_leastBend 16 = .ok (.bipush (-103), 2) := by decide +kernel
theorem dX5_leastBend_18 : decode cX5_leastBend 18 = .ok (.ireturn, 1) := by decide +kernel
theorem dX5_leastBend_19 : decode cX5_leastBend 19 = .ok (.aload_n 0, 1) := by decide +kernel
theorem dX5_leastBend_20 : decode cX5_leastBend 20 = .ok (.dup, 1) := by decide +kernel
theorem dX5_leastBend_21 : decode cX5_leastBend 21 = .ok (.getfield 44, 3) := by decide +kernel
theorem dX5_leastBend_24 : decode cX5_leastBend 24 = .ok (.iconst 1, 1) := by decide +kernel
theorem dX5_leastBend_25 : decode cX5_leastBend 25 = .ok (.iadd, 1) := by decide +kernel
theorem dX5_leastBend_26 : decode cX5_leastBend 26 = .ok (.putfield 44, 3) := by decide +kernel
theorem dX5_leastBend_29 : decode cX5_leastBend 29 = .ok (.aload_n 0, 1) := by decide +kernel
theorem dX5_leastBend_30 : decode cX5_leastBend 30 = .ok (.getfield 57, 3) := by decide +kernel
theorem dX5_leastBend_33 : decode cX5_leastBend 33 = .ok (.aload_n 0, 1) := by decide +kernel
theorem dX5_leastBend_34 : decode cX5_leastBend 34 = .ok (.getfield 20, 3) := by decide +kernel
theorem dX5_leastBend_37 : decode cX5_leastBend 37 = .ok (.aload_n 0, 1) := by decide +kernel
theorem dX5_leastBend_38 : decode cX5_leastBend 38 = .ok (.getfield 31, 3) := by decide +kernel
theorem dX5_leastBend_41 : decode cX5_leastBend 41 = .ok (.getfield 89, 3) := by decide +kernel
theorem dX5_leastBend_44 : decode cX5_leastBend 44 = .ok (.invokevirtual 168, 3) := by decide +kernel
theorem dX5_leastBend_47 : decode cX5_leastBend 47 = .ok (.ireturn, 1) := by decide +kernel
theorem dX5_string_0 : decode cX5_string 0 = .ok (.iload_n 1, 1) := by decide +kernel
theorem dX5_string_1 : decode cX5_string 1 = .ok (.ifCond .lt 9, 3) := by decide +kernel
theorem dX5_string_4 : decode cX5_string 4 = .ok (.iload_n 1, 1) := by decide +kernel
theorem dX5_string_5 : decode cX5_string 5 = .ok (.bipush 12, 2) := by decide +kernel
theorem dX5_string_7 : decode cX5_string 7 = .ok (.if_icmp .le 6, 3) := by decide +kernel
theorem dX5_string_10 : decode cX5_string 10 = .ok (.bipush (-102), 2) := by decide +kernel
theorem dX5_string_12 : decode cX5_string 12 = .ok (.ireturn, 1) := by decide +kernel
theorem dX5_string_13 : decode cX5_string 13 = .ok (.aload_n 0, 1) := by decide +kernel
theorem dX5_string_14 : decode cX5_string 14 = .ok (.getfield 31, 3) := by decide +kernel
theorem dX5_string_17 : decode cX5_string 17 = .ok (.getfield 172, 3) := by decide +kernel
theorem dX5_string_20 : decode cX5_string 20 = .ok (.ifCond .lt 21, 3) := by decide +kernel
theorem dX5_string_23 : decode cX5_string 23 = .ok (.aload_n 0, 1) := by decide +kernel
theorem dX5_string_24 : decode cX5_string 24 = .ok (.getfield 31, 3) := by decide +kernel
theorem dX5_string_27 : decode cX5_string 27 = .ok (.getfield 172, 3) := by decide +kernel
theorem dX5_string_30 : decode cX5_string 30 = .ok (.aload_n 0, 1) := by decide +kernel
theorem dX5_string_31 : decode cX5_string 31 = .ok (.getfield 31, 3) := by decide +kernel
theorem dX5_string_34 : decode cX5_string 34 = .ok (.getfield 175, 3) := by decide +kernel
theorem dX5_string_37 : decode cX5_string 37 = .ok (.arraylength, 1) := by decide +kernel
theorem dX5_string_38 : decode cX5_string 38 = .ok (.if_icmp .lt 6, 3) := by decide +kernel
theorem dX5_string_41 : decode cX5_string 41 = .ok (.bipush (-104), 2) := by decide +kernel
theorem dX5_string_43 : decode cX5_string 43 = .ok (.ireturn, 1) := by decide +kernel
theorem dX5_string_44 : decode cX5_string 44 = .ok (.aload_n 0, 1) := by decide +kernel
theorem dX5_string_45 : decode cX5_string 45 = .ok (.getfield 31, 3) := by decide +kernel
theorem dX5_string_48 : decode cX5_string 48 = .ok (.getfield 175, 3) := by decide +kernel
theorem dX5_string_51 : decode cX5_string 51 = .ok (.aload_n 0, 1) := by decide +kernel
theorem dX5_string_52 : decode cX5_string 52 = .ok (.getfield 31, 3) := by decide +kernel
theorem dX5_string_55 : decode cX5_string 55 = .ok (.getfield 172, 3) := by decide +kernel
theorem dX5_string_58 : decode cX5_string 58 = .ok (.iload_n 1, 1) := by decide +kernel
theorem dX5_string_59 : decode cX5_string 59 = .ok (.iastore, 1) := by decide +kernel
theorem dX5_string_60 : decode cX5_string 60 = .ok (.aload_n 0, 1) := by decide +kernel
theorem dX5_string_61 : decode cX5_string 61 = .ok (.getfield 31, 3) := by decide +kernel
theorem dX5_string_64 : decode cX5_string 64 = .ok (.dup, 1) := by decide +kernel
theorem dX5_string_65 : decode cX5_string 65 = .ok (.getfield 172, 3) := by decide +kernel
theorem dX5_string_68 : decode cX5_string 68 = .ok (.iconst 1, 1) := by decide +kernel
theorem dX5_string_69 : decode cX5_string 69 = .ok (.iadd, 1) := by decide +kernel
theorem dX5_string_70 : decode cX5_string 70 = .ok (.putfield 172, 3) := by decide +kernel
theorem dX5_string_73 : decode cX5_string 73 = .ok (.aload_n 0, 1) := by decide +kernel
theorem dX5_string_74 : decode cX5_string 74 = .ok (.getfield 31, 3) := by decide +kernel
theorem dX5_string_77 : decode cX5_string 77 = .ok (.getfield 172, 3) := by decide +kernel
theorem dX5_string_80 : decode cX5_string 80 = .ok (.ireturn, 1) := by decide +kernel
theorem dX5_forget_0 : decode cX5_forget 0 = .ok (.aload_n 0, 1) := by decide +kernel
theorem dX5_forget_1 : decode cX5_forget 1 = .ok (.getfield 31, 3) := by decide +kernel
theorem dX5_forget_4 : decode cX5_forget 4 = .ok (.getfield 172, 3) := by decide +kernel
theorem dX5_forget_7 : decode cX5_forget 7 = .ok (.istore_n 1, 1) := by decide +kernel
theorem dX5_forget_8 : decode cX5_forget 8 = .ok (.aload_n 0, 1) := by decide +kernel
theorem dX5_forget_9 : decode cX5_forget 9 = .ok (.getfield 31, 3) := by decide +kernel
theorem dX5_forget_12 : decode cX5_forget 12 = .ok (.iconst 0, 1) := by decide +kernel
theorem dX5_forget_13 : decode cX5_forget 13 = .ok (.putfield 172, 3) := by decide +kernel
theorem dX5_forget_16 : decode cX5_forget 16 = .ok (.iload_n 1, 1) := by decide +kernel
theorem dX5_forget_17 : decode cX5_forget 17 = .ok (.ireturn, 1) := by decide +kernel
theorem dX5_fits_0 : decode cX5_fits 0 = .ok (.iload_n 1, 1) := by decide +kernel
theorem dX5_fits_1 : decode cX5_fits 1 = .ok (.ifCond .lt 8, 3) := by decide +kernel
theorem dX5_fits_4 : decode cX5_fits 4 = .ok (.iload_n 1, 1) := by decide +kernel
theorem dX5_fits_5 : decode cX5_fits 5 = .ok (.iconst 2, 1) := by decide +kernel
theorem dX5_fits_6 : decode cX5_fits 6 = .ok (.if_icmp .le 6, 3) := by decide +kernel
theorem dX5_fits_9 : decode cX5_fits 9 = .ok (.bipush (-102), 2) := by decide +kernel
theorem dX5_fits_11 : decode cX5_fits 11 = .ok (.ireturn, 1) := by decide +kernel
theorem dX5_fits_12 : decode cX5_fits 12 = .ok (.aload_n 0, 1) := by decide +kernel
theorem dX5_fits_13 : decode cX5_fits 13 = .ok (.getfield 24, 3) := by decide +kernel
theorem dX5_fits_16 : decode cX5_fits 16 = .ok (.ifCond .ne 6, 3) := by decide +kernel
theorem dX5_fits_19 : decode cX5_fits 19 = .ok (.bipush (-103), 2) := by decide +kernel
theorem dX5_fits_21 : decode cX5_fits 21 = .ok (.ireturn, 1) := by decide +kernel
theorem dX5_fits_22 : decode cX5_fits 22 = .ok (.aload_n 0, 1) := by decide +kernel
theorem dX5_fits_23 : decode cX5_fits 23 = .ok (.invokevirtual 178, 3) := by decide +kernel
theorem dX5_fits_26 : decode cX5_fits 26 = .ok (.iload_n 1, 1) := by decide +kernel
theorem dX5_fits_27 : decode cX5_fits 27 = .ok (.lookupswitch 41 #[(0, 25), (1, 33)], 25) := by decide +kernel
theorem dX5_fits_52 : decode cX5_fits 52 = .ok (.aload_n 0, 1) := by decide +kernel
theorem dX5_fits_53 : decode cX5_fits 53 = .ok (.getfield 64, 3) := by decide +kernel
theorem dX5_fits_56 : decode cX5_fits 56 = .ok (.getfield 181, 3) := by decide +kernel
theorem dX5_fits_59 : decode cX5_fits 59 = .ok (.ireturn, 1) := by decide +kernel
theorem dX5_fits_60 : decode cX5_fits 60 = .ok (.aload_n 0, 1) := by decide +kernel
theorem dX5_fits_61 : decode cX5_fits 61 = .ok (.getfield 64, 3) := by decide +kernel
theorem dX5_fits_64 : decode cX5_fits 64 = .ok (.getfield 184, 3) := by decide +kernel
theorem dX5_fits_67 : decode cX5_fits 67 = .ok (.ireturn, 1) := by decide +kernel
theorem dX5_fits_68 : decode cX5_fits 68 = .ok (.aload_n 0, 1) := by decide +kernel
theorem dX5_fits_69 : decode cX5_fits 69 = .ok (.getfield 64, 3) := by decide +kernel
theorem dX5_fits_72 : decode cX5_fits 72 = .ok (.getfield 187, 3) := by decide +kernel
theorem dX5_fits_75 : decode cX5_fits 75 = .ok (.ireturn, 1) := by decide +kernel
theorem dX5_days_0 : decode cX5_days 0 = .ok (.iload_n 1, 1) := by decide +kernel
theorem dX5_days_1 : decode cX5_days 1 = .ok (.iconst 1, 1) := by decide +kernel
theorem dX5_days_2 : decode cX5_days 2 = .ok (.if_icmp .lt 22, 3) := by decide +kernel
theorem dX5_days_5 : decode cX5_days 5 = .ok (.iload_n 1, 1) := by decide +kernel
theorem dX5_days_6 : decode cX5_days 6 = .ok (.bipush 90, 2) := by decide +kernel
theorem dX5_days_8 : decode cX5_days 8 = .ok (.if_icmp .gt 16, 3) := by decide +kernel
theorem dX5_days_11 : decode cX5_days 11 = .ok (.iload_n 2, 1) := by decide +kernel
theorem dX5_days_12 : decode cX5_days 12 = .ok (.ifCond .lt 12, 3) := by decide +kernel
theorem dX5_days_15 : decode cX5_days 15 = .ok (.iload_n 3, 1) := by decide +kernel
theorem dX5_days_16 : decode cX5_days 16 = .ok (.ifCond .lt 8, 3) := by decide +kernel
theorem dX5_days_19 : decode cX5_days 19 = .ok (.iload_n 3, 1) := by decide +kernel
theorem dX5_days_20 : decode cX5_days 20 = .ok (.iconst 3, 1) := by decide +kernel
theorem dX5_days_21 : decode cX5_days 21 = .ok (.if_icmp .le 6, 3) := by decide +kernel
theorem dX5_days_24 : decode cX5_days 24 = .ok (.bipush (-102), 2) := by decide +kernel
theorem dX5_days_26 : decode cX5_days 26 = .ok (.ireturn, 1) := by decide +kernel
theorem dX5_days_27 : decode cX5_days 27 = .ok (.aload_n 0, 1) := by decide +kernel
theorem dX5_days_28 : decode cX5_days 28 = .ok (.getfield 24, 3) := by decide +kernel
theorem dX5_days_31 : decode cX5_days 31 = .ok (.ifCond .ne 6, 3) := by decide +kernel
theorem dX5_days_34 : decode cX5_days 34 = .ok (.bipush (-103), 2) := by decide +kernel
theorem dX5_days_36 : decode cX5_days 36 = .ok (.ireturn, 1) := by decide +kernel
theorem dX5_days_37 : decode cX5_days 37 = .ok (.aload_n 0, 1) := by decide +kernel
theorem dX5_days_38 : decode cX5_days 38 = .ok (.invokevirtual 132, 3) := by decide +kernel
theorem dX5_days_41 : decode cX5_days 41 = .ok (.istore 4, 2) := by decide +kernel
theorem dX5_days_43 : decode cX5_days 43 = .ok (.aload_n 0, 1) := by decide +kernel
theorem dX5_days_44 : decode cX5_days 44 = .ok (.getfield 31, 3) := by decide +kernel
theorem dX5_days_47 : decode cX5_days 47 = .ok (.getfield 89, 3) := by decide +kernel
theorem dX5_days_50 : decode cX5_days 50 = .ok (.istore 5, 2) := by decide +kernel
theorem dX5_days_52 : decode cX5_days 52 = .ok (.iload_n 2, 1) := by decide +kernel
theorem dX5_days_53 : decode cX5_days 53 = .ok (.istore 6, 2) := by decide +kernel
theorem dX5_days_55 : decode cX5_days 55 = .ok (.iconst 0, 1) := by decide +kernel
theorem dX5_days_56 : decode cX5_days 56 = .ok (.istore 7, 2) := by decide +kernel
theorem dX5_days_58 : decode cX5_days 58 = .ok (.iconst 0, 1) := by decide +kernel
theorem dX5_days_59 : decode cX5_days 59 = .ok (.istore 8, 2) := by decide +kernel
theorem dX5_days_61 : decode cX5_days 61 = .ok (.iconst 0, 1) := by decide +kernel
theorem dX5_days_62 : decode cX5_days 62 = .ok (.istore 9, 2) := by decide +kernel
theorem dX5_days_64 : decode cX5_days 64 = .ok (.iload 9, 2) := by decide +kernel
theorem dX5_days_66 : decode cX5_days 66 = .ok (.iload_n 1, 1) := by decide +kernel
theorem dX5_days_67 : decode cX5_days 67 = .ok (.if_icmp .ge 80, 3) := by decide +kernel
theorem dX5_days_70 : decode cX5_days 70 = .ok (.iload 6, 2) := by decide +kernel
theorem dX5_days_72 : decode cX5_days 72 = .ok (.invokestatic 190, 3) := by decide +kernel
theorem dX5_days_75 : decode cX5_days 75 = .ok (.istore 6, 2) := by decide +kernel
theorem dX5_days_77 : decode cX5_days 77 = .ok (.iload 6, 2) := by decide +kernel
theorem dX5_days_79 : decode cX5_days 79 = .ok (.ldc 193, 2) := by decide +kernel
theorem dX5_days_81 : decode cX5_days 81 = .ok (.idiv, 1) := by decide +kernel
theorem dX5_days_82 : decode cX5_days 82 = .ok (.bipush 42, 2) := by decide +kernel
theorem dX5_days_84 : decode cX5_days 84 = .ok (.irem, 1) := by decide +kernel
theorem dX5_days_85 : decode cX5_days 85 = .ok (.istore 10, 2) := by decide +kernel
theorem dX5_days_87 : decode cX5_days 87 = .ok (.iload 10, 2) := by decide +kernel
theorem dX5_days_89 : decode cX5_days 89 = .ok (.invokestatic 138, 3) := by decide +kernel
theorem dX5_days_92 : decode cX5_days 92 = .ok (.ifCond .eq 19, 3) := by decide +kernel
theorem dX5_days_95 : decode cX5_days 95 = .ok (.aload_n 0, 1) := by decide +kernel
theorem dX5_days_96 : decode cX5_days 96 = .ok (.getfield 20, 3) := by decide +kernel
theorem dX5_days_99 : decode cX5_days 99 = .ok (.iload 5, 2) := by decide +kernel
theorem dX5_days_101 : decode cX5_days 101 = .ok (.iload 10, 2) := by decide +kernel
theorem dX5_days_103 : decode cX5_days 103 = .ok (.iload 4, 2) := by decide +kernel
theorem dX5_days_105 : decode cX5_days 105 = .ok (.invokevirtual 141, 3) := by decide +kernel
theorem dX5_days_108 : decode cX5_days 108 = .ok (.goto 4, 3) := by decide +kernel
theorem dX5_days_111 : decode cX5_days 111 = .ok (.iconst (-1), 1) := by decide +kernel
theorem dX5_days_112 : decode cX5_days 112 = .ok (.istore 11, 2) := by decide +kernel
theorem dX5_days_114 : decode cX5_days 114 = .ok (.iload 11, 2) := by decide +kernel
theorem dX5_days_116 : decode cX5_days 116 = .ok (.iconst (-1), 1) := by decide +kernel
theorem dX5_days_117 : decode cX5_days 117 = .ok (.if_icmp .eq 24, 3) := by decide +kernel
theorem dX5_days_120 : decode cX5_days 120 = .ok (.iload 11, 2) := by decide +kernel
theorem dX5_days_122 : decode cX5_days 122 = .ok (.istore 5, 2) := by decide +kernel
theorem dX5_days_124 : decode cX5_days 124 = .ok (.iinc 7 1, 3) := by decide +kernel
theorem dX5_days_127 : decode cX5_days 127 = .ok (.iload 8, 2) := by decide +kernel
theorem dX5_days_129 : decode cX5_days 129 = .ok (.aload_n 0, 1) := by decide +kernel
theorem dX5_days_130 : decode cX5_days 130 = .ok (.getfield 20, 3) := by decide +kernel
theorem dX5_days_133 : decode cX5_days 133 = .ok (.iload 10, 2) := by decide +kernel
theorem dX5_days_135 : decode cX5_days 135 = .ok (.invokevirtual 151, 3) := by decide +kernel
theorem dX5_days_138 : decode cX5_days 138 = .ok (.iadd, 1) := by decide +kernel
theorem dX5_days_139 : decode cX5_days 139 = .ok (.istore 8, 2) := by decide +kernel
theorem dX5_days_141 : decode cX5_days 141 = .ok (.iinc 9 1, 3) := by decide +kernel
theorem dX5_days_144 : decode cX5_days 144 = .ok (.goto (-80), 3) := by decide +kernel
theorem dX5_days_147 : decode cX5_days 147 = .ok (.iload_n 3, 1) := by decide +kernel
theorem dX5_days_148 : decode cX5_days 148 = .ok (.tableswitch 40 0 2 #[28, 31, 34], 28) := by decide +kernel
theorem dX5_days_176 : decode cX5_days 176 = .ok (.iload 7, 2) := by decide +kernel
theorem dX5_days_178 : decode cX5_days 178 = .ok (.ireturn, 1) := by decide +kernel
theorem dX5_days_179 : decode cX5_days 179 = .ok (.iload 8, 2) := by decide +kernel
theorem dX5_days_181 : decode cX5_days 181 = .ok (.ireturn, 1) := by decide +kernel
theorem dX5_days_182 : decode cX5_days 182 = .ok (.iload 5, 2) := by decide +kernel
theorem dX5_days_184 : decode cX5_days 184 = .ok (.invokestatic 92, 3) := by decide +kernel
theorem dX5_days_187 : decode cX5_days 187 = .ok (.ireturn, 1) := by decide +kernel
theorem dX5_days_188 : decode cX5_days 188 = .ok (.iload 6, 2) := by decide +kernel
theorem dX5_days_190 : decode cX5_days 190 = .ok (.ireturn, 1) := by decide +kernel
theorem dX5_image_0 : decode cX5_image 0 = .ok (.aload_n 0, 1) := by decide +kernel
theorem dX5_image_1 : decode cX5_image 1 = .ok (.getfield 24, 3) := by decide +kernel
theorem dX5_image_4 : decode cX5_image 4 = .ok (.ifCond .ne 6, 3) := by decide +kernel
theorem dX5_image_7 : decode cX5_image 7 = .ok (.bipush (-103), 2) := by decide +kernel
theorem dX5_image_9 : decode cX5_image 9 = .ok (.ireturn, 1) := by decide +kernel
theorem dX5_image_10 : decode cX5_image 10 = .ok (.aload_n 0, 1) := by decide +kernel
theorem dX5_image_11 : decode cX5_image 11 = .ok (.getfield 35, 3) := by decide +kernel
theorem dX5_image_14 : decode cX5_image 14 = .ok (.aload_n 0, 1) := by decide +kernel
theorem dX5_image_15 : decode cX5_image 15 = .ok (.getfield 31, 3) := by decide +kernel
theorem dX5_image_18 : decode cX5_image 18 = .ok (.invokevirtual 194, 3) := by decide +kernel
theorem dX5_image_21 : decode cX5_image 21 = .ok (.aload_n 0, 1) := by decide +kernel
theorem dX5_image_22 : decode cX5_image 22 = .ok (.iconst 1, 1) := by decide +kernel
theorem dX5_image_23 : decode cX5_image 23 = .ok (.putfield 38, 3) := by decide +kernel
theorem dX5_image_26 : decode cX5_image 26 = .ok (.aload_n 0, 1) := by decide +kernel
theorem dX5_image_27 : decode cX5_image 27 = .ok (.getfield 31, 3) := by decide +kernel
theorem dX5_image_30 : decode cX5_image 30 = .ok (.getfield 148, 3) := by decide +kernel
theorem dX5_image_33 : decode cX5_image 33 = .ok (.ireturn, 1) := by decide +kernel
theorem dX5_restore_0 : decode cX5_restore 0 = .ok (.aload_n 0, 1) := by decide +kernel
theorem dX5_restore_1 : decode cX5_restore 1 = .ok (.getfield 38, 3) := by decide +kernel
theorem dX5_restore_4 : decode cX5_restore 4 = .ok (.ifCond .ne 6, 3) := by decide +kernel
theorem dX5_restore_7 : decode cX5_restore 7 = .ok (.bipush (-103), 2) := by decide +kernel
theorem dX5_restore_9 : decode cX5_restore 9 = .ok (.ireturn, 1) := by decide +kernel
theorem dX5_restore_10 : decode cX5_restore 10 = .ok (.aload_n 0, 1) := by decide +kernel
theorem dX5_restore_11 : decode cX5_restore 11 = .ok (.getfield 31, 3) := by decide +kernel
theorem dX5_restore_14 : decode cX5_restore 14 = .ok (.aload_n 0, 1) := by decide +kernel
theorem dX5_restore_15 : decode cX5_restore 15 = .ok (.getfield 35, 3) := by decide +kernel
theorem dX5_restore_18 : decode cX5_restore 18 = .ok (.invokevirtual 194, 3) := by decide +kernel
theorem dX5_restore_21 : decode cX5_restore 21 = .ok (.aload_n 0, 1) := by decide +kernel
theorem dX5_restore_22 : decode cX5_restore 22 = .ok (.getfield 31, 3) := by decide +kernel
theorem dX5_restore_25 : decode cX5_restore 25 = .ok (.getfield 148, 3) := by decide +kernel
theorem dX5_restore_28 : decode cX5_restore 28 = .ok (.ireturn, 1) := by decide +kernel
theorem dX5_count_0 : decode cX5_count 0 = .ok (.iload_n 1, 1) := by decide +kernel
theorem dX5_count_1 : decode cX5_count 1 = .ok (.tableswitch 132 0 9 #[55, 63, 71, 82, 90, 98, 109, 117, 122, 127], 55) := by decide +kernel
theorem dX5_count_56 : decode cX5_count 56 = .ok (.aload_n 0, 1) := by decide +kernel
theorem dX5_count_57 : decode cX5_count 57 = .ok (.getfield 20, 3) := by decide +kernel
theorem dX5_count_60 : decode cX5_count 60 = .ok (.getfield 198, 3) := by decide +kernel
theorem dX5_count_63 : decode cX5_count 63 = .ok (.ireturn, 1) := by decide +kernel
theorem dX5_count_64 : decode cX5_count 64 = .ok (.aload_n 0, 1) := by decide +kernel
theorem dX5_count_65 : decode cX5_count 65 = .ok (.getfield 20, 3) := by decide +kernel
theorem dX5_count_68 : decode cX5_count 68 = .ok (.getfield 201, 3) := by decide +kernel
theorem dX5_count_71 : decode cX5_count 71 = .ok (.ireturn, 1) := by decide +kernel
theorem dX5_count_72 : decode cX5_count 72 = .ok (.aload_n 0, 1) := by decide +kernel
theorem dX5_count_73 : decode cX5_count 73 = .ok (.getfield 31, 3) := by decide +kernel
theorem dX5_count_76 : decode cX5_count 76 = .ok (.getfield 89, 3) := by decide +kernel
theorem dX5_count_79 : decode cX5_count 79 = .ok (.invokestatic 92, 3) := by decide +kernel
theorem dX5_count_82 : decode cX5_count 82 = .ok (.ireturn, 1) := by decide +kernel
theorem dX5_count_83 : decode cX5_count 83 = .ok (.aload_n 0, 1) := by decide +kernel
theorem dX5_count_84 : decode cX5_count 84 = .ok (.getfield 31, 3) := by decide +kernel
theorem dX5_count_87 : decode cX5_count 87 = .ok (.getfield 145, 3) := by decide +kernel
theorem dX5_count_90 : decode cX5_count 90 = .ok (.ireturn, 1) := by decide +kernel
theorem dX5_count_91 : decode cX5_count 91 = .ok (.aload_n 0, 1) := by decide +kernel
theorem dX5_count_92 : decode cX5_count 92 = .ok (.getfield 31, 3) := by decide +kernel
theorem dX5_count_95 : decode cX5_count 95 = .ok (.getfield 148, 3) := by decide +kernel
theorem dX5_count_98 : decode cX5_count 98 = .ok (.ireturn, 1) := by decide +kernel
theorem dX5_count_99 : decode cX5_count 99 = .ok (.aload_n 0, 1) := by decide +kernel
theorem dX5_count_100 : decode cX5_count 100 = .ok (.getfield 31, 3) := by decide +kernel
theorem dX5_count_103 : decode cX5_count 103 = .ok (.getfield 119, 3) := by decide +kernel
theorem dX5_count_106 : decode cX5_count 106 = .ok (.invokestatic 122, 3) := by decide +kernel
theorem dX5_count_109 : decode cX5_count 109 = .ok (.ireturn, 1) := by decide +kernel
theorem dX5_count_110 : decode cX5_count 110 = .ok (.aload_n 0, 1) := by decide +kernel
theorem dX5_count_111 : decode cX5_count 111 = .ok (.getfield 31, 3) := by decide +kernel
theorem dX5_count_114 : decode cX5_count 114 = .ok (.getfield 172, 3) := by decide +kernel
theorem dX5_count_117 : decode cX5_count 117 = .ok (.ireturn, 1) := by decide +kernel
theorem dX5_count_118 : decode cX5_count 118 = .ok (.aload_n 0, 1) := by decide +kernel
theorem dX5_count_119 : decode cX5_count 119 = .ok (.getfield 13, 3) := by decide +kernel
theorem dX5_count_122 : decode cX5_count 122 = .ok (.ireturn, 1) := by decide +kernel
theorem dX5_count_123 : decode cX5_count 123 = .ok (.aload_n 0, 1) := by decide +kernel
theorem dX5_count_124 : decode cX5_count 124 = .ok (.getfield 41, 3) := by decide +kernel
theorem dX5_count_127 : decode cX5_count 127 = .ok (.ireturn, 1) := by decide +kernel
theorem dX5_count_128 : decode cX5_count 128 = .ok (.aload_n 0, 1) := by decide +kernel
theorem dX5_count_129 : decode cX5_count 129 = .ok (.getfield 44, 3) := by decide +kernel
theorem dX5_count_132 : decode cX5_count 132 = .ok (.ireturn, 1) := by decide +kernel
theorem dX5_count_133 : decode cX5_count 133 = .ok (.bipush (-102), 2) := by decide +kernel
theorem dX5_count_135 : decode cX5_count 135 = .ok (.ireturn, 1) := by decide +kernel
theorem dX5_digest_0 : decode cX5_digest 0 = .ok (.ldc2_w 204, 3) := by decide +kernel
theorem dX5_digest_3 : decode cX5_digest 3 = .ok (.lstore_n 1, 1) := by decide +kernel
theorem dX5_digest_4 : decode cX5_digest 4 = .ok (.aload_n 0, 1) := by decide +kernel
theorem dX5_digest_5 : decode cX5_digest 5 = .ok (.getfield 24, 3) := by decide +kernel
theorem dX5_digest_8 : decode cX5_digest 8 = .ok (.ifCond .eq 29, 3) := by decide +kernel
theorem dX5_digest_11 : decode cX5_digest 11 = .ok (.aload_n 0, 1) := by decide +kernel
theorem dX5_digest_12 : decode cX5_digest 12 = .ok (.invokevirtual 154, 3) := by decide +kernel
theorem dX5_digest_15 : decode cX5_digest 15 = .ok (.aload_n 0, 1) := by decide +kernel
theorem dX5_digest_16 : decode cX5_digest 16 = .ok (.invokevirtual 178, 3) := by decide +kernel
theorem dX5_digest_19 : decode cX5_digest 19 = .ok (.aload_n 0, 1) := by decide +kernel
theorem dX5_digest_20 : decode cX5_digest 20 = .ok (.lload_n 1, 1) := by decide +kernel
theorem dX5_digest_21 : decode cX5_digest 21 = .ok (.invokevirtual 206, 3) := by decide +kernel
theorem dX5_digest_24 : decode cX5_digest 24 = .ok (.lstore_n 1, 1) := by decide +kernel
theorem dX5_digest_25 : decode cX5_digest 25 = .ok (.aload_n 0, 1) := by decide +kernel
theorem dX5_digest_26 : decode cX5_digest 26 = .ok (.lload_n 1, 1) := by decide +kernel
theorem dX5_digest_27 : decode cX5_digest 27 = .ok (.invokevirtual 210, 3) := by decide +kernel
theorem dX5_digest_30 : decode cX5_digest 30 = .ok (.lstore_n 1, 1) := by decide +kernel
theorem dX5_digest_31 : decode cX5_digest 31 = .ok (.aload_n 0, 1) := by decide +kernel
theorem dX5_digest_32 : decode cX5_digest 32 = .ok (.lload_n 1, 1) := by decide +kernel
theorem dX5_digest_33 : decode cX5_digest 33 = .ok (.invokevirtual 213, 3) := by decide +kernel
theorem dX5_digest_36 : decode cX5_digest 36 = .ok (.lstore_n 1, 1) := by decide +kernel
theorem dX5_digest_37 : decode cX5_digest 37 = .ok (.iconst 0, 1) := by decide +kernel
theorem dX5_digest_38 : decode cX5_digest 38 = .ok (.istore_n 3, 1) := by decide +kernel
theorem dX5_digest_39 : decode cX5_digest 39 = .ok (.iload_n 3, 1) := by decide +kernel
theorem dX5_digest_40 : decode cX5_digest 40 = .ok (.aload_n 0, 1) := by decide +kernel
theorem dX5_digest_41 : decode cX5_digest 41 = .ok (.getfield 13, 3) := by decide +kernel
theorem dX5_digest_44 : decode cX5_digest 44 = .ok (.if_icmp .ge 32, 3) := by decide +kernel
theorem dX5_digest_47 : decode cX5_digest 47 = .ok (.iload_n 3, 1) := by decide +kernel
theorem dX5_digest_48 : decode cX5_digest 48 = .ok (.aload_n 0, 1) := by decide +kernel
theorem dX5_digest_49 : decode cX5_digest 49 = .ok (.getfield 9, 3) := by decide +kernel
theorem dX5_digest_52 : decode cX5_digest 52 = .ok (.arraylength, 1) := by decide +kernel
theorem dX5_digest_53 : decode cX5_digest 53 = .ok (.if_icmp .ge 23, 3) := by decide +kernel
theorem dX5_digest_56 : decode cX5_digest 56 = .ok (.ldc2_w 216, 3) := by decide +kernel
theorem dX5_digest_59 : decode cX5_digest 59 = .ok (.lload_n 1, 1) := by decide +kernel
theorem dX5_digest_60 : decode cX5_digest 60 = .ok (.lmul, 1) := by decide +kernel
theorem dX5_digest_61 : decode cX5_digest 61 = .ok (.aload_n 0, 1) := by decide +kernel
theorem dX5_digest_62 : decode cX5_digest 62 = .ok (.getfield 9, 3) := by decide +kernel
theorem dX5_digest_65 : decode cX5_digest 65 = .ok (.iload_n 3, 1) := by decide +kernel
theorem dX5_digest_66 : decode cX5_digest 66 = .ok (.iaload, 1) := by decide +kernel
theorem dX5_digest_67 : decode cX5_digest 67 = .ok (.i2l, 1) := by decide +kernel
theorem dX5_digest_68 : decode cX5_digest 68 = .ok (.ladd, 1) := by decide +kernel
theorem dX5_digest_69 : decode cX5_digest 69 = .ok (.lstore_n 1, 1) := by decide +kernel
theorem dX5_digest_70 : decode cX5_digest 70 = .ok (.iinc 3 1, 3) := by decide +kernel
theorem dX5_digest_73 : decode cX5_digest 73 = .ok (.goto (-34), 3) := by decide +kernel
theorem dX5_digest_76 : decode cX5_digest 76 = .ok (.iconst 0, 1) := by decide +kernel
theorem dX5_digest_77 : decode cX5_digest 77 = .ok (.istore_n 3, 1) := by decide +kernel
theorem dX5_digest_78 : decode cX5_digest 78 = .ok (.iload_n 3, 1) := by decide +kernel
theorem dX5_digest_79 : decode cX5_digest 79 = .ok (.bipush 9, 2) := by decide +kernel
theorem dX5_digest_81 : decode cX5_digest 81 = .ok (.if_icmp .gt 22, 3) := by decide +kernel
theorem dX5_digest_84 : decode cX5_digest 84 = .ok (.ldc2_w 216, 3) := by decide +kernel
theorem dX5_digest_87 : decode cX5_digest 87 = .ok (.lload_n 1, 1) := by decide +kernel
theorem dX5_digest_88 : decode cX5_digest 88 = .ok (.lmul, 1) := by decide +kernel
theorem dX5_digest_89 : decode cX5_digest 89 = .ok (.aload_n 0, 1) := by decide +kernel
theorem dX5_digest_90 : decode cX5_digest 90 = .ok (.iload_n 3, 1) := by decide +kernel
theorem dX5_digest_91 : decode cX5_digest 91 = .ok (.invokevirtual 218, 3) := by decide +kernel
theorem dX5_digest_94 : decode cX5_digest 94 = .ok (.i2l, 1) := by decide +kernel
theorem dX5_digest_95 : decode cX5_digest 95 = .ok (.ladd, 1) := by decide +kernel
theorem dX5_digest_96 : decode cX5_digest 96 = .ok (.lstore_n 1, 1) := by decide +kernel
theorem dX5_digest_97 : decode cX5_digest 97 = .ok (.iinc 3 1, 3) := by decide +kernel
theorem dX5_digest_100 : decode cX5_digest 100 = .ok (.goto (-22), 3) := by decide +kernel
theorem dX5_digest_103 : decode cX5_digest 103 = .ok (.lload_n 1, 1) := by decide +kernel
theorem dX5_digest_104 : decode cX5_digest 104 = .ok (.lreturn, 1) := by decide +kernel
theorem dX5_withLighter_0 : decode cX5_withLighter 0 = .ok (.lload_n 1, 1) := by decide +kernel
theorem dX5_withLighter_1 : decode cX5_withLighter 1 = .ok (.lstore_n 3, 1) := by decide +kernel
theorem dX5_withLighter_2 : decode cX5_withLighter 2 = .ok (.iconst 0, 1) := by decide +kernel
theorem dX5_withLighter_3 : decode cX5_withLighter 3 = .ok (.istore 5, 2) := by decide +kernel
theorem dX5_withLighter_5 : decode cX5_withLighter 5 = .ok (.iload 5, 2) := by decide +kernel
theorem dX5_withLighter_7 : decode cX5_withLighter 7 = .ok (.iconst 3, 1) := by decide +kernel
theorem dX5_withLighter_8 : decode cX5_withLighter 8 = .ok (.if_icmp .ge 40, 3) := by decide +kernel
theorem dX5_withLighter_11 : decode cX5_withLighter 11 = .ok (.iconst 0, 1) := by decide +kernel
theorem dX5_withLighter_12 : decode cX5_withLighter 12 = .ok (.istore 6, 2) := by decide +kernel
theorem dX5_withLighter_14 : decode cX5_withLighter 14 = .ok (.iload 6, 2) := by decide +kernel
theorem dX5_withLighter_16 : decode cX5_withLighter 16 = .ok (.iconst 4, 1) := by decide +kernel
theorem dX5_withLighter_17 : decode cX5_withLighter 17 = .ok (.if_icmp .gt 25, 3) := by decide +kernel
theorem dX5_withLighter_20 : decode cX5_withLighter 20 = .ok (.ldc2_w 216, 3) := by decide +kernel
theorem dX5_withLighter_23 : decode cX5_withLighter 23 = .ok (.lload_n 3, 1) := by decide +kernel
theorem dX5_withLighter_24 : decode cX5_withLighter 24 = .ok (.lmul, 1) := by decide +kernel
theorem dX5_withLighter_25 : decode cX5_withLighter 25 = .ok (.aload_n 0, 1) := by decide +kernel
theorem dX5_withLighter_26 : decode cX5_withLighter 26 = .ok (.iload 5, 2) := by decide +kernel
theorem dX5_withLighter_28 : decode cX5_withLighter 28 = .ok (.iload 6, 2) := by decide +kernel
theorem dX5_withLighter_30 : decode cX5_withLighter 30 = .ok (.invokevirtual 221, 3) := by decide +kernel
theorem dX5_withLighter_33 : decode cX5_withLighter 33 = .ok (.i2l, 1) := by decide +kernel
theorem dX5_withLighter_34 : decode cX5_withLighter 34 = .ok (.ladd, 1) := by decide +kernel
theorem dX5_withLighter_35 : decode cX5_withLighter 35 = .ok (.lstore_n 3, 1) := by decide +kernel
theorem dX5_withLighter_36 : decode cX5_withLighter 36 = .ok (.iinc 6 1, 3) := by decide +kernel
theorem dX5_withLighter_39 : decode cX5_withLighter 39 = .ok (.goto (-25), 3) := by decide +kernel
theorem dX5_withLighter_42 : decode cX5_withLighter 42 = .ok (.iinc 5 1, 3) := by decide +kernel
theorem dX5_withLighter_45 : decode cX5_withLighter 45 = .ok (.goto (-40), 3) := by decide +kernel
theorem dX5_withLighter_48 : decode cX5_withLighter 48 = .ok (.iconst 0, 1) := by decide +kernel
theorem dX5_withLighter_49 : decode cX5_withLighter 49 = .ok (.istore 5, 2) := by decide +kernel
theorem dX5_withLighter_51 : decode cX5_withLighter 51 = .ok (.iload 5, 2) := by decide +kernel
theorem dX5_withLighter_53 : decode cX5_withLighter 53 = .ok (.iconst 3, 1) := by decide +kernel
theorem dX5_withLighter_54 : decode cX5_withLighter 54 = .ok (.if_icmp .gt 23, 3) := by decide +kernel
theorem dX5_withLighter_57 : decode cX5_withLighter 57 = .ok (.ldc2_w 216, 3) := by decide +kernel
theorem dX5_withLighter_60 : decode cX5_withLighter 60 = .ok (.lload_n 3, 1) := by decide +kernel
theorem dX5_withLighter_61 : decode cX5_withLighter 61 = .ok (.lmul, 1) := by decide +kernel
theorem dX5_withLighter_62 : decode cX5_withLighter 62 = .ok (.aload_n 0, 1) := by decide +kernel
theorem dX5_withLighter_63 : decode cX5_withLighter 63 = .ok (.iload 5, 2) := by decide +kernel
theorem dX5_withLighter_65 : decode cX5_withLighter 65 = .ok (.invokevirtual 224, 3) := by decide +kernel
theorem dX5_withLighter_68 : decode cX5_withLighter 68 = .ok (.i2l, 1) := by decide +kernel
theorem dX5_withLighter_69 : decode cX5_withLighter 69 = .ok (.ladd, 1) := by decide +kernel
theorem dX5_withLighter_70 : decode cX5_withLighter 70 = .ok (.lstore_n 3, 1) := by decide +kernel
theorem dX5_withLighter_71 : decode cX5_withLighter 71 = .ok (.iinc 5 1, 3) := by decide +kernel
theorem dX5_withLighter_74 : decode cX5_withLighter 74 = .ok (.goto (-23), 3) := by decide +kernel
theorem dX5_withLighter_77 : decode cX5_withLighter 77 = .ok (.lload_n 3, 1) := by decide +kernel
theorem dX5_withLighter_78 : decode cX5_withLighter 78 = .ok (.lreturn, 1) := by decide +kernel
theorem dX5_withActs_0 : decode cX5_withActs 0 = .ok (.lload_n 1, 1) := by decide +kernel
theorem dX5_withActs_1 : decode cX5_withActs 1 = .ok (.lstore_n 3, 1) := by decide +kernel
theorem dX5_withActs_2 : decode cX5_withActs 2 = .ok (.getstatic 227, 3) := by decide +kernel
theorem dX5_withActs_5 : decode cX5_withActs 5 = .ok (.astore 5, 2) := by decide +kernel
theorem dX5_withActs_7 : decode cX5_withActs 7 = .ok (.aload 5, 2) := by decide +kernel
theorem dX5_withActs_9 : decode cX5_withActs 9 = .ok (.arraylength, 1) := by decide +kernel
theorem dX5_withActs_10 : decode cX5_withActs 10 = .ok (.istore 6, 2) := by decide +kernel
theorem dX5_withActs_12 : decode cX5_withActs 12 = .ok (.iconst 0, 1) := by decide +kernel
theorem dX5_withActs_13 : decode cX5_withActs 13 = .ok (.istore 7, 2) := by decide +kernel
theorem dX5_withActs_15 : decode cX5_withActs 15 = .ok (.iload 7, 2) := by decide +kernel
theorem dX5_withActs_17 : decode cX5_withActs 17 = .ok (.iload 6, 2) := by decide +kernel
theorem dX5_withActs_19 : decode cX5_withActs 19 = .ok (.if_icmp .ge 30, 3) := by decide +kernel
theorem dX5_withActs_22 : decode cX5_withActs 22 = .ok (.aload 5, 2) := by decide +kernel
theorem dX5_withActs_24 : decode cX5_withActs 24 = .ok (.iload 7, 2) := by decide +kernel
theorem dX5_withActs_26 : decode cX5_withActs 26 = .ok (.iaload, 1) := by decide +kernel
theorem dX5_withActs_27 : decode cX5_withActs 27 = .ok (.istore 8, 2) := by decide +kernel
theorem dX5_withActs_29 : decode cX5_withActs 29 = .ok (.ldc2_w 216, 3) := by decide +kernel
theorem dX5_withActs_32 : decode cX5_withActs 32 = .ok (.lload_n 3, 1) := by decide +kernel
theorem dX5_withActs_33 : decode cX5_withActs 33 = .ok (.lmul, 1) := by decide +kernel
theorem dX5_withActs_34 : decode cX5_withActs 34 = .ok (.aload_n 0, 1) := by decide +kernel
theorem dX5_withActs_35 : decode cX5_withActs 35 = .ok (.iload 8, 2) := by decide +kernel
theorem dX5_withActs_37 : decode cX5_withActs 37 = .ok (.invokevirtual 230, 3) := by decide +kernel
theorem dX5_withActs_40 : decode cX5_withActs 40 = .ok (.i2l, 1) := by decide +kernel
theorem dX5_withActs_41 : decode cX5_withActs 41 = .ok (.ladd, 1) := by decide +kernel
theorem dX5_withActs_42 : decode cX5_withActs 42 = .ok (.lstore_n 3, 1) := by decide +kernel
theorem dX5_withActs_43 : decode cX5_withActs 43 = .ok (.iinc 7 1, 3) := by decide +kernel
theorem dX5_withActs_46 : decode cX5_withActs 46 = .ok (.goto (-31), 3) := by decide +kernel
theorem dX5_withActs_49 : decode cX5_withActs 49 = .ok (.lload_n 3, 1) := by decide +kernel
theorem dX5_withActs_50 : decode cX5_withActs 50 = .ok (.lreturn, 1) := by decide +kernel
theorem dX5_withOutlook_0 : decode cX5_withOutlook 0 = .ok (.lload_n 1, 1) := by decide +kernel
theorem dX5_withOutlook_1 : decode cX5_withOutlook 1 = .ok (.lstore_n 3, 1) := by decide +kernel
theorem dX5_withOutlook_2 : decode cX5_withOutlook 2 = .ok (.ldc2_w 216, 3) := by decide +kernel
theorem dX5_withOutlook_5 : decode cX5_withOutlook 5 = .ok (.lload_n 3, 1) := by decide +kernel
theorem dX5_withOutlook_6 : decode cX5_withOutlook 6 = .ok (.lmul, 1) := by decide +kernel
theorem dX5_withOutlook_7 : decode cX5_withOutlook 7 = .ok (.aload_n 0, 1) := by decide +kernel
theorem dX5_withOutlook_8 : decode cX5_withOutlook 8 = .ok (.getfield 50, 3) := by decide +kernel
theorem dX5_withOutlook_11 : decode cX5_withOutlook 11 = .ok (.getfield 157, 3) := by decide +kernel
theorem dX5_withOutlook_14 : decode cX5_withOutlook 14 = .ok (.iconst 0, 1) := by decide +kernel
theorem dX5_withOutlook_15 : decode cX5_withOutlook 15 = .ok (.iaload, 1) := by decide +kernel
theorem dX5_withOutlook_16 : decode cX5_withOutlook 16 = .ok (.i2l, 1) := by decide +kernel
theorem dX5_withOutlook_17 : decode cX5_withOutlook 17 = .ok (.ladd, 1) := by decide +kernel
theorem dX5_withOutlook_18 : decode cX5_withOutlook 18 = .ok (.lstore_n 3, 1) := by decide +kernel
theorem dX5_withOutlook_19 : decode cX5_withOutlook 19 = .ok (.ldc2_w 216, 3) := by decide +kernel
theorem dX5_withOutlook_22 : decode cX5_withOutlook 22 = .ok (.lload_n 3, 1) := by decide +kernel
theorem dX5_withOutlook_23 : decode cX5_withOutlook 23 = .ok (.lmul, 1) := by decide +kernel
theorem dX5_withOutlook_24 : decode cX5_withOutlook 24 = .ok (.aload_n 0, 1) := by decide +kernel
theorem dX5_withOutlook_25 : decode cX5_withOutlook 25 = .ok (.getfield 50, 3) := by decide +kernel
theorem dX5_withOutlook_28 : decode cX5_withOutlook 28 = .ok (.getfield 159, 3) := by decide +kernel
theorem dX5_withOutlook_31 : decode cX5_withOutlook 31 = .ok (.iconst 0, 1) := by decide +kernel
theorem dX5_withOutlook_32 : decode cX5_withOutlook 32 = .ok (.iaload, 1) := by decide +kernel
theorem dX5_withOutlook_33 : decode cX5_withOutlook 33 = .ok (.i2l, 1) := by decide +kernel
theorem dX5_withOutlook_34 : decode cX5_withOutlook 34 = .ok (.ladd, 1) := by decide +kernel
theorem dX5_withOutlook_35 : decode cX5_withOutlook 35 = .ok (.lstore_n 3, 1) := by decide +kernel
theorem dX5_withOutlook_36 : decode cX5_withOutlook 36 = .ok (.ldc2_w 216, 3) := by decide +kernel
theorem dX5_withOutlook_39 : decode cX5_withOutlook 39 = .ok (.lload_n 3, 1) := by decide +kernel
theorem dX5_withOutlook_40 : decode cX5_withOutlook 40 = .ok (.lmul, 1) := by decide +kernel
theorem dX5_withOutlook_41 : decode cX5_withOutlook 41 = .ok (.aload_n 0, 1) := by decide +kernel
theorem dX5_withOutlook_42 : decode cX5_withOutlook 42 = .ok (.getfield 50, 3) := by decide +kernel
theorem dX5_withOutlook_45 : decode cX5_withOutlook 45 = .ok (.getfield 162, 3) := by decide +kernel
theorem dX5_withOutlook_48 : decode cX5_withOutlook 48 = .ok (.i2l, 1) := by decide +kernel
theorem dX5_withOutlook_49 : decode cX5_withOutlook 49 = .ok (.ladd, 1) := by decide +kernel
theorem dX5_withOutlook_50 : decode cX5_withOutlook 50 = .ok (.lstore_n 3, 1) := by decide +kernel
theorem dX5_withOutlook_51 : decode cX5_withOutlook 51 = .ok (.ldc2_w 216, 3) := by decide +kernel
theorem dX5_withOutlook_54 : decode cX5_withOutlook 54 = .ok (.lload_n 3, 1) := by decide +kernel
theorem dX5_withOutlook_55 : decode cX5_withOutlook 55 = .ok (.lmul, 1) := by decide +kernel
theorem dX5_withOutlook_56 : decode cX5_withOutlook 56 = .ok (.aload_n 0, 1) := by decide +kernel
theorem dX5_withOutlook_57 : decode cX5_withOutlook 57 = .ok (.getfield 50, 3) := by decide +kernel
theorem dX5_withOutlook_60 : decode cX5_withOutlook 60 = .ok (.getfield 165, 3) := by decide +kernel
theorem dX5_withOutlook_63 : decode cX5_withOutlook 63 = .ok (.i2l, 1) := by decide +kernel
theorem dX5_withOutlook_64 : decode cX5_withOutlook 64 = .ok (.ladd, 1) := by decide +kernel
theorem dX5_withOutlook_65 : decode cX5_withOutlook 65 = .ok (.lstore_n 3, 1) := by decide +kernel
theorem dX5_withOutlook_66 : decode cX5_withOutlook 66 = .ok (.ldc2_w 216, 3) := by decide +kernel
theorem dX5_withOutlook_69 : decode cX5_withOutlook 69 = .ok (.lload_n 3, 1) := by decide +kernel
theorem dX5_withOutlook_70 : decode cX5_withOutlook 70 = .ok (.lmul, 1) := by decide +kernel
theorem dX5_withOutlook_71 : decode cX5_withOutlook 71 = .ok (.aload_n 0, 1) := by decide +kernel
theorem dX5_withOutlook_72 : decode cX5_withOutlook 72 = .ok (.getfield 64, 3) := by decide +kernel
theorem dX5_withOutlook_75 : decode cX5_withOutlook 75 = .ok (.getfield 181, 3) := by decide +kernel
theorem dX5_withOutlook_78 : decode cX5_withOutlook 78 = .ok (.i2l, 1) := by decide +kernel
theorem dX5_withOutlook_79 : decode cX5_withOutlook 79 = .ok (.ladd, 1) := by decide +kernel
theorem dX5_withOutlook_80 : decode cX5_withOutlook 80 = .ok (.lstore_n 3, 1) := by decide +kernel
theorem dX5_withOutlook_81 : decode cX5_withOutlook 81 = .ok (.ldc2_w 216, 3) := by decide +kernel
theorem dX5_withOutlook_84 : decode cX5_withOutlook 84 = .ok (.lload_n 3, 1) := by decide +kernel
theorem dX5_withOutlook_85 : decode cX5_withOutlook 85 = .ok (.lmul, 1) := by decide +kernel
theorem dX5_withOutlook_86 : decode cX5_withOutlook 86 = .ok (.aload_n 0, 1) := by decide +kernel
theorem dX5_withOutlook_87 : decode cX5_withOutlook 87 = .ok (.getfield 64, 3) := by decide +kernel
theorem dX5_withOutlook_90 : decode cX5_withOutlook 90 = .ok (.getfield 184, 3) := by decide +kernel
theorem dX5_withOutlook_93 : decode cX5_withOutlook 93 = .ok (.i2l, 1) := by decide +kernel
theorem dX5_withOutlook_94 : decode cX5_withOutlook 94 = .ok (.ladd, 1) := by decide +kernel
theorem dX5_withOutlook_95 : decode cX5_withOutlook 95 = .ok (.lstore_n 3, 1) := by decide +kernel
theorem dX5_withOutlook_96 : decode cX5_withOutlook 96 = .ok (.ldc2_w 216, 3) := by decide +kernel
theorem dX5_withOutlook_99 : decode cX5_withOutlook 99 = .ok (.lload_n 3, 1) := by decide +kernel
theorem dX5_withOutlook_100 : decode cX5_withOutlook 100 = .ok (.lmul, 1) := by decide +kernel
theorem dX5_withOutlook_101 : decode cX5_withOutlook 101 = .ok (.aload_n 0, 1) := by decide +kernel
theorem dX5_withOutlook_102 : decode cX5_withOutlook 102 = .ok (.getfield 64, 3) := by decide +kernel
theorem dX5_withOutlook_105 : decode cX5_withOutlook 105 = .ok (.getfield 187, 3) := by decide +kernel
theorem dX5_withOutlook_108 : decode cX5_withOutlook 108 = .ok (.i2l, 1) := by decide +kernel
theorem dX5_withOutlook_109 : decode cX5_withOutlook 109 = .ok (.ladd, 1) := by decide +kernel
theorem dX5_withOutlook_110 : decode cX5_withOutlook 110 = .ok (.lreturn, 1) := by decide +kernel
theorem dX5_isOfForm_0 : decode cX5_isOfForm 0 = .ok (.iload_n 0, 1) := by decide +kernel
theorem dX5_isOfForm_1 : decode cX5_isOfForm 1 = .ok (.ifCond .lt 12, 3) := by decide +kernel
theorem dX5_isOfForm_4 : decode cX5_isOfForm 4 = .ok (.iload_n 0, 1) := by decide +kernel
theorem dX5_isOfForm_5 : decode cX5_isOfForm 5 = .ok (.ldc 72, 2) := by decide +kernel
theorem dX5_isOfForm_7 : decode cX5_isOfForm 7 = .ok (.invokevirtual 74, 3) := by decide +kernel
theorem dX5_isOfForm_10 : decode cX5_isOfForm 10 = .ok (.if_icmp .lt 5, 3) := by decide +kernel
theorem dX5_isOfForm_13 : decode cX5_isOfForm 13 = .ok (.iconst 0, 1) := by decide +kernel
theorem dX5_isOfForm_14 : decode cX5_isOfForm 14 = .ok (.ireturn, 1) := by decide +kernel
theorem dX5_isOfForm_15 : decode cX5_isOfForm 15 = .ok (.ldc 72, 2) := by decide +kernel
theorem dX5_isOfForm_17 : decode cX5_isOfForm 17 = .ok (.iload_n 0, 1) := by decide +kernel
theorem dX5_isOfForm_18 : decode cX5_isOfForm 18 = .ok (.invokevirtual 233, 3) := by decide +kernel
theorem dX5_isOfForm_21 : decode cX5_isOfForm 21 = .ok (.istore_n 2, 1) := by decide +kernel
theorem dX5_isOfForm_22 : decode cX5_isOfForm 22 = .ok (.iload_n 2, 1) := by decide +kernel
theorem dX5_isOfForm_23 : decode cX5_isOfForm 23 = .ok (.bipush 107, 2) := by decide +kernel
theorem dX5_isOfForm_25 : decode cX5_isOfForm 25 = .ok (.if_icmp .ne 19, 3) := by decide +kernel
theorem dX5_isOfForm_28 : decode cX5_isOfForm 28 = .ok (.ldc 117, 2) := by decide +kernel
theorem dX5_isOfForm_30 : decode cX5_isOfForm 30 = .ok (.iload_n 1, 1) := by decide +kernel
theorem dX5_isOfForm_31 : decode cX5_isOfForm 31 = .ok (.i2c, 1) := by decide +kernel
theorem dX5_isOfForm_32 : decode cX5_isOfForm 32 = .ok (.invokevirtual 237, 3) := by decide +kernel
theorem dX5_isOfForm_35 : decode cX5_isOfForm 35 = .ok (.ifCond .lt 7, 3) := by decide +kernel
theorem dX5_isOfForm_38 : decode cX5_isOfForm 38 = .ok (.iconst 1, 1) := by decide +kernel
theorem dX5_isOfForm_39 : decode cX5_isOfForm 39 = .ok (.goto 4, 3) := by decide +kernel
theorem dX5_isOfForm_42 : decode cX5_isOfForm 42 = .ok (.iconst 0, 1) := by decide +kernel
theorem dX5_isOfForm_43 : decode cX5_isOfForm 43 = .ok (.ireturn, 1) := by decide +kernel
theorem dX5_isOfForm_44 : decode cX5_isOfForm 44 = .ok (.iload_n 2, 1) := by decide +kernel
theorem dX5_isOfForm_45 : decode cX5_isOfForm 45 = .ok (.bipush 48, 2) := by decide +kernel
theorem dX5_isOfForm_47 : decode cX5_isOfForm 47 = .ok (.if_icmp .lt 26, 3) := by decide +kernel
theorem dX5_isOfForm_50 : decode cX5_isOfForm 50 = .ok (.iload_n 2, 1) := by decide +kernel
theorem dX5_isOfForm_51 : decode cX5_isOfForm 51 = .ok (.bipush 57, 2) := by decide +kernel
theorem dX5_isOfForm_53 : decode cX5_isOfForm 53 = .ok (.if_icmp .gt 20, 3) := by decide +kernel
theorem dX5_isOfForm_56 : decode cX5_isOfForm 56 = .ok (.iload_n 1, 1) := by decide +kernel
theorem dX5_isOfForm_57 : decode cX5_isOfForm 57 = .ok (.bipush 48, 2) := by decide +kernel
theorem dX5_isOfForm_59 : decode cX5_isOfForm 59 = .ok (.if_icmp .lt 12, 3) := by decide +kernel
theorem dX5_isOfForm_62 : decode cX5_isOfForm 62 = .ok (.iload_n 1, 1) := by decide +kernel
theorem dX5_isOfForm_63 : decode cX5_isOfForm 63 = .ok (.iload_n 2, 1) := by decide +kernel
theorem dX5_isOfForm_64 : decode cX5_isOfForm 64 = .ok (.if_icmp .gt 7, 3) := by decide +kernel
theorem dX5_isOfForm_67 : decode cX5_isOfForm 67 = .ok (.iconst 1, 1) := by decide +kernel
theorem dX5_isOfForm_68 : decode cX5_isOfForm 68 = .ok (.goto 4, 3) := by decide +kernel
theorem dX5_isOfForm_71 : decode cX5_isOfForm 71 = .ok (.iconst 0, 1) := by decide +kernel
theorem dX5_isOfForm_72 : decode cX5_isOfForm 72 = .ok (.ireturn, 1) := by decide +kernel
theorem dX5_isOfForm_73 : decode cX5_isOfForm 73 = .ok (.iload_n 1, 1) := by decide +kernel
theorem dX5_isOfForm_74 : decode cX5_isOfForm 74 = .ok (.iload_n 2, 1) := by decide +kernel
theorem dX5_isOfForm_75 : decode cX5_isOfForm 75 = .ok (.if_icmp .ne 7, 3) := by decide +kernel
theorem dX5_isOfForm_78 : decode cX5_isOfForm 78 = .ok (.iconst 1, 1) := by decide +kernel
theorem dX5_isOfForm_79 : decode cX5_isOfForm 79 = .ok (.goto 4, 3) := by decide +kernel
theorem dX5_isOfForm_82 : decode cX5_isOfForm 82 = .ok (.iconst 0, 1) := by decide +kernel
theorem dX5_isOfForm_83 : decode cX5_isOfForm 83 = .ok (.ireturn, 1) := by decide +kernel
theorem dX5_readPage_0 : decode cX5_readPage 0 = .ok (.iconst 0, 1) := by decide +kernel
theorem dX5_readPage_1 : decode cX5_readPage 1 = .ok (.istore_n 1, 1) := by decide +kernel
theorem dX5_readPage_2 : decode cX5_readPage 2 = .ok (.iconst 0, 1) := by decide +kernel
theorem dX5_readPage_3 : decode cX5_readPage 3 = .ok (.istore_n 2, 1) := by decide +kernel
theorem dX5_readPage_4 : decode cX5_readPage 4 = .ok (.iload_n 2, 1) := by decide +kernel
theorem dX5_readPage_5 : decode cX5_readPage 5 = .ok (.iconst 3, 1) := by decide +kernel
theorem dX5_readPage_6 : decode cX5_readPage 6 = .ok (.if_icmp .ge 67, 3) := by decide +kernel
theorem dX5_readPage_9 : decode cX5_readPage 9 = .ok (.aload_n 0, 1) := by decide +kernel
theorem dX5_readPage_10 : decode cX5_readPage 10 = .ok (.getfield 20, 3) := by decide +kernel
theorem dX5_readPage_13 : decode cX5_readPage 13 = .ok (.iload_n 2, 1) := by decide +kernel
theorem dX5_readPage_14 : decode cX5_readPage 14 = .ok (.ldc 117, 2) := by decide +kernel
theorem dX5_readPage_16 : decode cX5_readPage 16 = .ok (.aload_n 0, 1) := by decide +kernel
theorem dX5_readPage_17 : decode cX5_readPage 17 = .ok (.getfield 9, 3) := by decide +kernel
theorem dX5_readPage_20 : decode cX5_readPage 20 = .ok (.iconst 4, 1) := by decide +kernel
theorem dX5_readPage_21 : decode cX5_readPage 21 = .ok (.iload_n 2, 1) := by decide +kernel
theorem dX5_readPage_22 : decode cX5_readPage 22 = .ok (.imul, 1) := by decide +kernel
theorem dX5_readPage_23 : decode cX5_readPage 23 = .ok (.invokestatic 103, 3) := by decide +kernel
theorem dX5_readPage_26 : decode cX5_readPage 26 = .ok (.i2c, 1) := by decide +kernel
theorem dX5_readPage_27 : decode cX5_readPage 27 = .ok (.invokevirtual 237, 3) := by decide +kernel
theorem dX5_readPage_30 : decode cX5_readPage 30 = .ok (.invokevirtual 240, 3) := by decide +kernel
theorem dX5_readPage_33 : decode cX5_readPage 33 = .ok (.iload_n 1, 1) := by decide +kernel
theorem dX5_readPage_34 : decode cX5_readPage 34 = .ok (.aload_n 0, 1) := by decide +kernel
theorem dX5_readPage_35 : decode cX5_readPage 35 = .ok (.iconst 4, 1) := by decide +kernel
theorem dX5_readPage_36 : decode cX5_readPage 36 = .ok (.iload_n 2, 1) := by decide +kernel
theorem dX5_readPage_37 : decode cX5_readPage 37 = .ok (.imul, 1) := by decide +kernel
theorem dX5_readPage_38 : decode cX5_readPage 38 = .ok (.iconst 1, 1) := by decide +kernel
theorem dX5_readPage_39 : decode cX5_readPage 39 = .ok (.iadd, 1) := by decide +kernel
theorem dX5_readPage_40 : decode cX5_readPage 40 = .ok (.invokevirtual 244, 3) := by decide +kernel
theorem dX5_readPage_43 : decode cX5_readPage 43 = .ok (.iconst 4, 1) := by decide +kernel
theorem dX5_readPage_44 : decode cX5_readPage 44 = .ok (.iload_n 2, 1) := by decide +kernel
theorem dX5_readPage_45 : decode cX5_readPage 45 = .ok (.imul, 1) := by decide +kernel
theorem dX5_readPage_46 : decode cX5_readPage 46 = .ok (.ishl, 1) := by decide +kernel
theorem dX5_readPage_47 : decode cX5_readPage 47 = .ok (.ior, 1) := by decide +kernel
theorem dX5_readPage_48 : decode cX5_readPage 48 = .ok (.istore_n 1, 1) := by decide +kernel
theorem dX5_readPage_49 : decode cX5_readPage 49 = .ok (.iload_n 1, 1) := by decide +kernel
theorem dX5_readPage_50 : decode cX5_readPage 50 = .ok (.aload_n 0, 1) := by decide +kernel
theorem dX5_readPage_51 : decode cX5_readPage 51 = .ok (.iconst 4, 1) := by decide +kernel
theorem dX5_readPage_52 : decode cX5_readPage 52 = .ok (.iload_n 2, 1) := by decide +kernel
theorem dX5_readPage_53 : decode cX5_readPage 53 = .ok (.imul, 1) := by decide +kernel
theorem dX5_readPage_54 : decode cX5_readPage 54 = .ok (.iconst 2, 1) := by decide +kernel
theorem dX5_readPage_55 : decode cX5_readPage 55 = .ok (.iadd, 1) := by decide +kernel
theorem dX5_readPage_56 : decode cX5_readPage 56 = .ok (.invokevirtual 244, 3) := by decide +kernel
theorem dX5_readPage_59 : decode cX5_readPage 59 = .ok (.iconst 4, 1) := by decide +kernel
theorem dX5_readPage_60 : decode cX5_readPage 60 = .ok (.iload_n 2, 1) := by decide +kernel
theorem dX5_readPage_61 : decode cX5_readPage 61 = .ok (.imul, 1) := by decide +kernel
theorem dX5_readPage_62 : decode cX5_readPage 62 = .ok (.iconst 2, 1) := by decide +kernel
theorem dX5_readPage_63 : decode cX5_readPage 63 = .ok (.iadd, 1) := by decide +kernel
theorem dX5_readPage_64 : decode cX5_readPage 64 = .ok (.ishl, 1) := by decide +kernel
theorem dX5_readPage_65 : decode cX5_readPage 65 = .ok (.ior, 1) := by decide +kernel
theorem dX5_readPage_66 : decode cX5_readPage 66 = .ok (.istore_n 1, 1) := by decide +kernel
theorem dX5_readPage_67 : decode cX5_readPage 67 = .ok (.iinc 2 1, 3) := by decide +kernel
theorem dX5_readPage_70 : decode cX5_readPage 70 = .ok (.goto (-66), 3) := by decide +kernel
theorem dX5_readPage_73 : decode cX5_readPage 73 = .ok (.aload_n 0, 1) := by decide +kernel
theorem dX5_readPage_74 : decode cX5_readPage 74 = .ok (.getfield 20, 3) := by decide +kernel
theorem dX5_readPage_77 : decode cX5_readPage 77 = .ok (.aload_n 0, 1) := by decide +kernel
theorem dX5_readPage_78 : decode cX5_readPage 78 = .ok (.bipush 12, 2) := by decide +kernel
theorem dX5_readPage_80 : decode cX5_readPage 80 = .ok (.invokevirtual 244, 3) := by decide +kernel
theorem dX5_readPage_83 : decode cX5_readPage 83 = .ok (.putfield 198, 3) := by decide +kernel
theorem dX5_readPage_86 : decode cX5_readPage 86 = .ok (.aload_n 0, 1) := by decide +kernel
theorem dX5_readPage_87 : decode cX5_readPage 87 = .ok (.getfield 20, 3) := by decide +kernel
theorem dX5_readPage_90 : decode cX5_readPage 90 = .ok (.aload_n 0, 1) := by decide +kernel
theorem dX5_readPage_91 : decode cX5_readPage 91 = .ok (.bipush 13, 2) := by decide +kernel
theorem dX5_readPage_93 : decode cX5_readPage 93 = .ok (.invokevirtual 244, 3) := by decide +kernel
theorem dX5_readPage_96 : decode cX5_readPage 96 = .ok (.putfield 201, 3) := by decide +kernel
theorem dX5_readPage_99 : decode cX5_readPage 99 = .ok (.iload_n 1, 1) := by decide +kernel
theorem dX5_readPage_100 : decode cX5_readPage 100 = .ok (.ireturn, 1) := by decide +kernel
theorem dX5_digitAt_0 : decode cX5_digitAt 0 = .ok (.aload_n 0, 1) := by decide +kernel
theorem dX5_digitAt_1 : decode cX5_digitAt 1 = .ok (.getfield 9, 3) := by decide +kernel
theorem dX5_digitAt_4 : decode cX5_digitAt 4 = .ok (.iload_n 1, 1) := by decide +kernel
theorem dX5_digitAt_5 : decode cX5_digitAt 5 = .ok (.invokestatic 103, 3) := by decide +kernel
theorem dX5_digitAt_8 : decode cX5_digitAt 8 = .ok (.bipush 48, 2) := by decide +kernel
theorem dX5_digitAt_10 : decode cX5_digitAt 10 = .ok (.isub, 1) := by decide +kernel
theorem dX5_digitAt_11 : decode cX5_digitAt 11 = .ok (.ireturn, 1) := by decide +kernel
theorem dX5_isBay_0 : decode cX5_isBay 0 = .ok (.aload_n 0, 1) := by decide +kernel
theorem dX5_isBay_1 : decode cX5_isBay 1 = .ok (.getfield 24, 3) := by decide +kernel
theorem dX5_isBay_4 : decode cX5_isBay 4 = .ok (.ifCond .eq 16, 3) := by decide +kernel
theorem dX5_isBay_7 : decode cX5_isBay 7 = .ok (.iload_n 1, 1) := by decide +kernel
theorem dX5_isBay_8 : decode cX5_isBay 8 = .ok (.ifCond .lt 12, 3) := by decide +kernel
theorem dX5_isBay_11 : decode cX5_isBay 11 = .ok (.iload_n 1, 1) := by decide +kernel
theorem dX5_isBay_12 : decode cX5_isBay 12 = .ok (.iconst 3, 1) := by decide +kernel
theorem dX5_isBay_13 : decode cX5_isBay 13 = .ok (.if_icmp .ge 7, 3) := by decide +kernel
theorem dX5_isBay_16 : decode cX5_isBay 16 = .ok (.iconst 1, 1) := by decide +kernel
theorem dX5_isBay_17 : decode cX5_isBay 17 = .ok (.goto 4, 3) := by decide +kernel
theorem dX5_isBay_20 : decode cX5_isBay 20 = .ok (.iconst 0, 1) := by decide +kernel
theorem dX5_isBay_21 : decode cX5_isBay 21 = .ok (.ireturn, 1) := by decide +kernel
theorem dX5_bendNow_0 : decode cX5_bendNow 0 = .ok (.aload_n 0, 1) := by decide +kernel
theorem dX5_bendNow_1 : decode cX5_bendNow 1 = .ok (.getfield 31, 3) := by decide +kernel
theorem dX5_bendNow_4 : decode cX5_bendNow 4 = .ok (.getfield 119, 3) := by decide +kernel
theorem dX5_bendNow_7 : decode cX5_bendNow 7 = .ok (.ifCond .eq 15, 3) := by decide +kernel
theorem dX5_bendNow_10 : decode cX5_bendNow 10 = .ok (.aload_n 0, 1) := by decide +kernel
theorem dX5_bendNow_11 : decode cX5_bendNow 11 = .ok (.getfield 20, 3) := by decide +kernel
theorem dX5_bendNow_14 : decode cX5_bendNow 14 = .ok (.getfield 198, 3) := by decide +kernel
theorem dX5_bendNow_17 : decode cX5_bendNow 17 = .ok (.iconst 2, 1) := by decide +kernel
theorem dX5_bendNow_18 : decode cX5_bendNow 18 = .ok (.idiv, 1) := by decide +kernel
theorem dX5_bendNow_19 : decode cX5_bendNow 19 = .ok (.goto 10, 3) := by decide +kernel
theorem dX5_bendNow_22 : decode cX5_bendNow 22 = .ok (.aload_n 0, 1) := by decide +kernel
theorem dX5_bendNow_23 : decode cX5_bendNow 23 = .ok (.getfield 20, 3) := by decide +kernel
theorem dX5_bendNow_26 : decode cX5_bendNow 26 = .ok (.getfield 198, 3) := by decide +kernel
theorem dX5_bendNow_29 : decode cX5_bendNow 29 = .ok (.ireturn, 1) := by decide +kernel
theorem dX5_lookAhead_0 : decode cX5_lookAhead 0 = .ok (.aload_n 0, 1) := by decide +kernel
theorem dX5_lookAhead_1 : decode cX5_lookAhead 1 = .ok (.getfield 50, 3) := by decide +kernel
theorem dX5_lookAhead_4 : decode cX5_lookAhead 4 = .ok (.aload_n 0, 1) := by decide +kernel
theorem dX5_lookAhead_5 : decode cX5_lookAhead 5 = .ok (.getfield 20, 3) := by decide +kernel
theorem dX5_lookAhead_8 : decode cX5_lookAhead 8 = .ok (.aload_n 0, 1) := by decide +kernel
theorem dX5_lookAhead_9 : decode cX5_lookAhead 9 = .ok (.getfield 31, 3) := by decide +kernel
theorem dX5_lookAhead_12 : decode cX5_lookAhead 12 = .ok (.getfield 89, 3) := by decide +kernel
theorem dX5_lookAhead_15 : decode cX5_lookAhead 15 = .ok (.aload_n 0, 1) := by decide +kernel
theorem dX5_lookAhead_16 : decode cX5_lookAhead 16 = .ok (.invokevirtual 132, 3) := by decide +kernel
theorem dX5_lookAhead_19 : decode cX5_lookAhead 19 = .ok (.aload_n 0, 1) := by decide +kernel
theorem dX5_lookAhead_20 : decode cX5_lookAhead 20 = .ok (.getfield 41, 3) := by decide +kernel
theorem dX5_lookAhead_23 : decode cX5_lookAhead 23 = .ok (.invokevirtual 247, 3) := by decide +kernel
theorem dX5_lookAhead_26 : decode cX5_lookAhead 26 = .ok (.return_, 1) := by decide +kernel
theorem dX5_lookBack_0 : decode cX5_lookBack 0 = .ok (.aload_n 0, 1) := by decide +kernel
theorem dX5_lookBack_1 : decode cX5_lookBack 1 = .ok (.getfield 64, 3) := by decide +kernel
theorem dX5_lookBack_4 : decode cX5_lookBack 4 = .ok (.aload_n 0, 1) := by decide +kernel
theorem dX5_lookBack_5 : decode cX5_lookBack 5 = .ok (.getfield 20, 3) := by decide +kernel
theorem dX5_lookBack_8 : decode cX5_lookBack 8 = .ok (.aload_n 0, 1) := by decide +kernel
theorem dX5_lookBack_9 : decode cX5_lookBack 9 = .ok (.getfield 31, 3) := by decide +kernel
theorem dX5_lookBack_12 : decode cX5_lookBack 12 = .ok (.aload_n 0, 1) := by decide +kernel
theorem dX5_lookBack_13 : decode cX5_lookBack 13 = .ok (.invokevirtual 132, 3) := by decide +kernel
theorem dX5_lookBack_16 : decode cX5_lookBack 16 = .ok (.invokevirtual 251, 3) := by decide +kernel
theorem dX5_lookBack_19 : decode cX5_lookBack 19 = .ok (.return_, 1) := by decide +kernel
theorem dX5_at_0 : decode cX5_at 0 = .ok (.iload_n 1, 1) := by decide +kernel
theorem dX5_at_1 : decode cX5_at 1 = .ok (.ifCond .lt 15, 3) := by decide +kernel
theorem dX5_at_4 : decode cX5_at 4 = .ok (.iload_n 1, 1) := by decide +kernel
theorem dX5_at_5 : decode cX5_at 5 = .ok (.aload_n 0, 1) := by decide +kernel
theorem dX5_at_6 : decode cX5_at 6 = .ok (.arraylength, 1) := by decide +kernel
theorem dX5_at_7 : decode cX5_at 7 = .ok (.if_icmp .ge 9, 3) := by decide +kernel
theorem dX5_at_10 : decode cX5_at 10 = .ok (.aload_n 0, 1) := by decide +kernel
theorem dX5_at_11 : decode cX5_at 11 = .ok (.iload_n 1, 1) := by decide +kernel
theorem dX5_at_12 : decode cX5_at 12 = .ok (.iaload, 1) := by decide +kernel
theorem dX5_at_13 : decode cX5_at 13 = .ok (.goto 4, 3) := by decide +kernel
theorem dX5_at_16 : decode cX5_at 16 = .ok (.iconst 0, 1) := by decide +kernel
theorem dX5_at_17 : decode cX5_at 17 = .ok (.ireturn, 1) := by decide +kernel
theorem dX5_asNumber_0 : decode cX5_asNumber 0 = .ok (.iload_n 0, 1) := by decide +kernel
theorem dX5_asNumber_1 : decode cX5_asNumber 1 = .ok (.ifCond .eq 7, 3) := by decide +kernel
theorem dX5_asNumber_4 : decode cX5_asNumber 4 = .ok (.iconst 1, 1) := by decide +kernel
theorem dX5_asNumber_5 : decode cX5_asNumber 5 = .ok (.goto 4, 3) := by decide +kernel
theorem dX5_asNumber_8 : decode cX5_asNumber 8 = .ok (.iconst 0, 1) := by decide +kernel
theorem dX5_asNumber_9 : decode cX5_asNumber 9 = .ok (.ireturn, 1) := by decide +kernel
theorem dX5_nextSeed_0 : decode cX5_nextSeed 0 = .ok (.ldc2_w 255, 3) := by decide +kernel
theorem dX5_nextSeed_3 : decode cX5_nextSeed 3 = .ok (.iload_n 0, 1) := by decide +kernel
theorem dX5_nextSeed_4 : decode cX5_nextSeed 4 = .ok (.i2l, 1) := by decide +kernel
theorem dX5_nextSeed_5 : decode cX5_nextSeed 5 = .ok (.lmul, 1) := by decide +kernel
theorem dX5_nextSeed_6 : decode cX5_nextSeed 6 = .ok (.ldc2_w 257, 3) := by decide +kernel
theorem dX5_nextSeed_9 : decode cX5_nextSeed 9 = .ok (.ladd, 1) := by decide +kernel
theorem dX5_nextSeed_10 : decode cX5_nextSeed 10 = .ok (.ldc2_w 259, 3) := by decide +kernel
theorem dX5_nextSeed_13 : decode cX5_nextSeed 13 = .ok (.lrem, 1) := by decide +kernel
theorem dX5_nextSeed_14 : decode cX5_nextSeed 14 = .ok (.l2i, 1) := by decide +kernel
theorem dX5_nextSeed_15 : decode cX5_nextSeed 15 = .ok (.ireturn, 1) := by decide +kernel
theorem dX5_cellFrom_0 : decode cX5_cellFrom 0 = .ok (.iload_n 0, 1) := by decide +kernel
theorem dX5_cellFrom_1 : decode cX5_cellFrom 1 = .ok (.bipush 6, 2) := by decide +kernel
theorem dX5_cellFrom_3 : decode cX5_cellFrom 3 = .ok (.if_icmp .ge 7, 3) := by decide +kernel
theorem dX5_cellFrom_6 : decode cX5_cellFrom 6 = .ok (.iload_n 0, 1) := by decide +kernel
theorem dX5_cellFrom_7 : decode cX5_cellFrom 7 = .ok (.goto 10, 3) := by decide +kernel
theorem dX5_cellFrom_10 : decode cX5_cellFrom 10 = .ok (.iload_n 0, 1) := by decide +kernel
theorem dX5_cellFrom_11 : decode cX5_cellFrom 11 = .ok (.bipush 6, 2) := by decide +kernel
theorem dX5_cellFrom_13 : decode cX5_cellFrom 13 = .ok (.isub, 1) := by decide +kernel
theorem dX5_cellFrom_14 : decode cX5_cellFrom 14 = .ok (.bipush 6, 2) := by decide +kernel
theorem dX5_cellFrom_16 : decode cX5_cellFrom 16 = .ok (.idiv, 1) := by decide +kernel
theorem dX5_cellFrom_17 : decode cX5_cellFrom 17 = .ok (.ireturn, 1) := by decide +kernel
theorem dX5_cellInto_0 : decode cX5_cellInto 0 = .ok (.iload_n 0, 1) := by decide +kernel
theorem dX5_cellInto_1 : decode cX5_cellInto 1 = .ok (.bipush 6, 2) := by decide +kernel
theorem dX5_cellInto_3 : decode cX5_cellInto 3 = .ok (.if_icmp .ge 7, 3) := by decide +kernel
theorem dX5_cellInto_6 : decode cX5_cellInto 6 = .ok (.iconst (-1), 1) := by decide +kernel
theorem dX5_cellInto_7 : decode cX5_cellInto 7 = .ok (.goto 10, 3) := by decide +kernel
theorem dX5_cellInto_10 : decode cX5_cellInto 10 = .ok (.iload_n 0, 1) := by decide +kernel
theorem dX5_cellInto_11 : decode cX5_cellInto 11 = .ok (.bipush 6, 2) := by decide +kernel
theorem dX5_cellInto_13 : decode cX5_cellInto 13 = .ok (.isub, 1) := by decide +kernel
theorem dX5_cellInto_14 : decode cX5_cellInto 14 = .ok (.bipush 6, 2) := by decide +kernel
theorem dX5_cellInto_16 : decode cX5_cellInto 16 = .ok (.irem, 1) := by decide +kernel
theorem dX5_cellInto_17 : decode cX5_cellInto 17 = .ok (.ireturn, 1) := by decide +kernel
theorem dX5_isAct_0 : decode cX5_isAct 0 = .ok (.iload_n 0, 1) := by decide +kernel
theorem dX5_isAct_1 : decode cX5_isAct 1 = .ok (.ifCond .lt 9, 3) := by decide +kernel
theorem dX5_isAct_4 : decode cX5_isAct 4 = .ok (.iload_n 0, 1) := by decide +kernel
theorem dX5_isAct_5 : decode cX5_isAct 5 = .ok (.bipush 42, 2) := by decide +kernel
theorem dX5_isAct_7 : decode cX5_isAct 7 = .ok (.if_icmp .lt 5, 3) := by decide +kernel
theorem dX5_isAct_10 : decode cX5_isAct 10 = .ok (.iconst 0, 1) := by decide +kernel
theorem dX5_isAct_11 : decode cX5_isAct 11 = .ok (.ireturn, 1) := by decide +kernel
theorem dX5_isAct_12 : decode cX5_isAct 12 = .ok (.iload_n 0, 1) := by decide +kernel
theorem dX5_isAct_13 : decode cX5_isAct 13 = .ok (.bipush 6, 2) := by decide +kernel
theorem dX5_isAct_15 : decode cX5_isAct 15 = .ok (.if_icmp .ge 5, 3) := by decide +kernel
theorem dX5_isAct_18 : decode cX5_isAct 18 = .ok (.iconst 1, 1) := by decide +kernel
theorem dX5_isAct_19 : decode cX5_isAct 19 = .ok (.ireturn, 1) := by decide +kernel
theorem dX5_isAct_20 : decode cX5_isAct 20 = .ok (.iload_n 0, 1) := by decide +kernel
theorem dX5_isAct_21 : decode cX5_isAct 21 = .ok (.invokestatic 261, 3) := by decide +kernel
theorem dX5_isAct_24 : decode cX5_isAct 24 = .ok (.istore_n 1, 1) := by decide +kernel
theorem dX5_isAct_25 : decode cX5_isAct 25 = .ok (.iload_n 0, 1) := by decide +kernel
theorem dX5_isAct_26 : decode cX5_isAct 26 = .ok (.invokestatic 264, 3) := by decide +kernel
theorem dX5_isAct_29 : decode cX5_isAct 29 = .ok (.istore_n 2, 1) := by decide +kernel
theorem dX5_isAct_30 : decode cX5_isAct 30 = .ok (.iload_n 1, 1) := by decide +kernel
theorem dX5_isAct_31 : decode cX5_isAct 31 = .ok (.iconst 2, 1) := by decide +kernel
theorem dX5_isAct_32 : decode cX5_isAct 32 = .ok (.idiv, 1) := by decide +kernel
theorem dX5_isAct_33 : decode cX5_isAct 33 = .ok (.iload_n 2, 1) := by decide +kernel
theorem dX5_isAct_34 : decode cX5_isAct 34 = .ok (.iconst 2, 1) := by decide +kernel
theorem dX5_isAct_35 : decode cX5_isAct 35 = .ok (.idiv, 1) := by decide +kernel
theorem dX5_isAct_36 : decode cX5_isAct 36 = .ok (.isub, 1) := by decide +kernel
theorem dX5_isAct_37 : decode cX5_isAct 37 = .ok (.invokestatic 267, 3) := by decide +kernel
theorem dX5_isAct_40 : decode cX5_isAct 40 = .ok (.istore_n 3, 1) := by decide +kernel
theorem dX5_isAct_41 : decode cX5_isAct 41 = .ok (.iload_n 1, 1) := by decide +kernel
theorem dX5_isAct_42 : decode cX5_isAct 42 = .ok (.iconst 2, 1) := by decide +kernel
theorem dX5_isAct_43 : decode cX5_isAct 43 = .ok (.irem, 1) := by decide +kernel
theorem dX5_isAct_44 : decode cX5_isAct 44 = .ok (.iload_n 2, 1) := by decide +kernel
theorem dX5_isAct_45 : decode cX5_isAct 45 = .ok (.iconst 2, 1) := by decide +kernel
theorem dX5_isAct_46 : decode cX5_isAct 46 = .ok (.irem, 1) := by decide +kernel
theorem dX5_isAct_47 : decode cX5_isAct 47 = .ok (.if_icmp .ne 7, 3) := by decide +kernel
theorem dX5_isAct_50 : decode cX5_isAct 50 = .ok (.iconst 1, 1) := by decide +kernel
theorem dX5_isAct_51 : decode cX5_isAct 51 = .ok (.goto 4, 3) := by decide +kernel
theorem dX5_isAct_54 : decode cX5_isAct 54 = .ok (.iconst 0, 1) := by decide +kernel
theorem dX5_isAct_55 : decode cX5_isAct 55 = .ok (.istore 4, 2) := by decide +kernel
theorem dX5_isAct_57 : decode cX5_isAct 57 = .ok (.iload 4, 2) := by decide +kernel
theorem dX5_isAct_59 : decode cX5_isAct 59 = .ok (.ifCond .eq 16, 3) := by decide +kernel
theorem dX5_isAct_62 : decode cX5_isAct 62 = .ok (.iload_n 3, 1) := by decide +kernel
theorem dX5_isAct_63 : decode cX5_isAct 63 = .ok (.iconst 1, 1) := by decide +kernel
theorem dX5_isAct_64 : decode cX5_isAct 64 = .ok (.if_icmp .ne 7, 3) := by decide +kernel
theorem dX5_isAct_67 : decode cX5_isAct 67 = .ok (.iconst 1, 1) := by decide +kernel
theorem dX5_isAct_68 : decode cX5_isAct 68 = .ok (.goto 16, 3) := by decide +kernel
theorem dX5_isAct_71 : decode cX5_isAct 71 = .ok (.iconst 0, 1) := by decide +kernel
theorem dX5_isAct_72 : decode cX5_isAct 72 = .ok (.goto 12, 3) := by decide +kernel
theorem dX5_isAct_75 : decode cX5_isAct 75 = .ok (.iload_n 3, 1) := by decide +kernel
theorem dX5_isAct_76 : decode cX5_isAct 76 = .ok (.ifCond .ne 7, 3) := by decide +kernel
theorem dX5_isAct_79 : decode cX5_isAct 79 = .ok (.iconst 1, 1) := by decide +kernel
theorem dX5_isAct_80 : decode cX5_isAct 80 = .ok (.goto 4, 3) := by decide +kernel
theorem dX5_isAct_83 : decode cX5_isAct 83 = .ok (.iconst 0, 1) := by decide +kernel
theorem dX5_isAct_84 : decode cX5_isAct 84 = .ok (.ireturn, 1) := by decide +kernel
theorem dX5_tonsAt_0 : decode cX5_tonsAt 0 = .ok (.iload_n 0, 1) := by decide +kernel
theorem dX5_tonsAt_1 : decode cX5_tonsAt 1 = .ok (.iconst 2, 1) := by decide +kernel
theorem dX5_tonsAt_2 : decode cX5_tonsAt 2 = .ok (.iload_n 1, 1) := by decide +kernel
theorem dX5_tonsAt_3 : decode cX5_tonsAt 3 = .ok (.imul, 1) := by decide +kernel
theorem dX5_tonsAt_4 : decode cX5_tonsAt 4 = .ok (.ishr, 1) := by decide +kernel
theorem dX5_tonsAt_5 : decode cX5_tonsAt 5 = .ok (.iconst 3, 1) := by decide +kernel
theorem dX5_tonsAt_6 : decode cX5_tonsAt 6 = .ok (.iand, 1) := by decide +kernel
theorem dX5_tonsAt_7 : decode cX5_tonsAt 7 = .ok (.ireturn, 1) := by decide +kernel
theorem dX5_tonsOf_0 : decode cX5_tonsOf 0 = .ok (.iconst 0, 1) := by decide +kernel
theorem dX5_tonsOf_1 : decode cX5_tonsOf 1 = .ok (.istore_n 1, 1) := by decide +kernel
theorem dX5_tonsOf_2 : decode cX5_tonsOf 2 = .ok (.iconst 0, 1) := by decide +kernel
theorem dX5_tonsOf_3 : decode cX5_tonsOf 3 = .ok (.istore_n 2, 1) := by decide +kernel
theorem dX5_tonsOf_4 : decode cX5_tonsOf 4 = .ok (.iload_n 2, 1) := by decide +kernel
theorem dX5_tonsOf_5 : decode cX5_tonsOf 5 = .ok (.bipush 6, 2) := by decide +kernel
theorem dX5_tonsOf_7 : decode cX5_tonsOf 7 = .ok (.if_icmp .ge 17, 3) := by decide +kernel
theorem dX5_tonsOf_10 : decode cX5_tonsOf 10 = .ok (.iload_n 1, 1) := by decide +kernel
theorem dX5_tonsOf_11 : decode cX5_tonsOf 11 = .ok (.iload_n 0, 1) := by decide +kernel
theorem dX5_tonsOf_12 : decode cX5_tonsOf 12 = .ok (.iload_n 2, 1) := by decide +kernel
theorem dX5_tonsOf_13 : decode cX5_tonsOf 13 = .ok (.invokestatic 107, 3) := by decide +kernel
theorem dX5_tonsOf_16 : decode cX5_tonsOf 16 = .ok (.iadd, 1) := by decide +kernel
theorem dX5_tonsOf_17 : decode cX5_tonsOf 17 = .ok (.istore_n 1, 1) := by decide +kernel
theorem dX5_tonsOf_18 : decode cX5_tonsOf 18 = .ok (.iinc 2 1, 3) := by decide +kernel
theorem dX5_tonsOf_21 : decode cX5_tonsOf 21 = .ok (.goto (-17), 3) := by decide +kernel
theorem dX5_tonsOf_24 : decode cX5_tonsOf 24 = .ok (.iload_n 1, 1) := by decide +kernel
theorem dX5_tonsOf_25 : decode cX5_tonsOf 25 = .ok (.ireturn, 1) := by decide +kernel
theorem dX5_bentBy_0 : decode cX5_bentBy 0 = .ok (.iload_n 0, 1) := by decide +kernel
theorem dX5_bentBy_1 : decode cX5_bentBy 1 = .ok (.iconst 3, 1) := by decide +kernel
theorem dX5_bentBy_2 : decode cX5_bentBy 2 = .ok (.iand, 1) := by decide +kernel
theorem dX5_bentBy_3 : decode cX5_bentBy 3 = .ok (.iload_n 0, 1) := by decide +kernel
theorem dX5_bentBy_4 : decode cX5_bentBy 4 = .ok (.iconst 2, 1) := by decide +kernel
theorem dX5_bentBy_5 : decode cX5_bentBy 5 = .ok (.ishr, 1) := by decide +kernel
theorem dX5_bentBy_6 : decode cX5_bentBy 6 = .ok (.iconst 3, 1) := by decide +kernel
theorem dX5_bentBy_7 : decode cX5_bentBy 7 = .ok (.iand, 1) := by decide +kernel
theorem dX5_bentBy_8 : decode cX5_bentBy 8 = .ok (.iadd, 1) := by decide +kernel
theorem dX5_bentBy_9 : decode cX5_bentBy 9 = .ok (.iload_n 0, 1) := by decide +kernel
theorem dX5_bentBy_10 : decode cX5_bentBy 10 = .ok (.bipush 8, 2) := by decide +kernel
theorem dX5_bentBy_12 : decode cX5_bentBy 12 = .ok (.ishr, 1) := by decide +kernel
theorem dX5_bentBy_13 : decode cX5_bentBy 13 = .ok (.iconst 3, 1) := by decide +kernel
theorem dX5_bentBy_14 : decode cX5_bentBy 14 = .ok (.iand, 1) := by decide +kernel
theorem dX5_bentBy_15 : decode cX5_bentBy 15 = .ok (.iadd, 1) := by decide +kernel
theorem dX5_bentBy_16 : decode cX5_bentBy 16 = .ok (.iload_n 0, 1) := by decide +kernel
theorem dX5_bentBy_17 : decode cX5_bentBy 17 = .ok (.bipush 10, 2) := by decide +kernel
theorem dX5_bentBy_19 : decode cX5_bentBy 19 = .ok (.ishr, 1) := by decide +kernel
theorem dX5_bentBy_20 : decode cX5_bentBy 20 = .ok (.iconst 3, 1) := by decide +kernel
theorem dX5_bentBy_21 : decode cX5_bentBy 21 = .ok (.iand, 1) := by decide +kernel
theorem dX5_bentBy_22 : decode cX5_bentBy 22 = .ok (.iadd, 1) := by decide +kernel
theorem dX5_bentBy_23 : decode cX5_bentBy 23 = .ok (.istore_n 1, 1) := by decide +kernel
theorem dX5_bentBy_24 : decode cX5_bentBy 24 = .ok (.iload_n 0, 1) := by decide +kernel
theorem dX5_bentBy_25 : decode cX5_bentBy 25 = .ok (.iconst 4, 1) := by decide +kernel
theorem dX5_bentBy_26 : decode cX5_bentBy 26 = .ok (.ishr, 1) := by decide +kernel
theorem dX5_bentBy_27 : decode cX5_bentBy 27 = .ok (.iconst 3, 1) := by decide +kernel
theorem dX5_bentBy_28 : decode cX5_bentBy 28 = .ok (.iand, 1) := by decide +kernel
theorem dX5_bentBy_29 : decode cX5_bentBy 29 = .ok (.iload_n 0, 1) := by decide +kernel
theorem dX5_bentBy_30 : decode cX5_bentBy 30 = .ok (.bipush 6, 2) := by decide +kernel
theorem dX5_bentBy_32 : decode cX5_bentBy 32 = .ok (.ishr, 1) := by decide +kernel
theorem dX5_bentBy_33 : decode cX5_bentBy 33 = .ok (.iconst 3, 1) := by decide +kernel
theorem dX5_bentBy_34 : decode cX5_bentBy 34 = .ok (.iand, 1) := by decide +kernel
theorem dX5_bentBy_35 : decode cX5_bentBy 35 = .ok (.iadd, 1) := by decide +kernel
theorem dX5_bentBy_36 : decode cX5_bentBy 36 = .ok (.istore_n 2, 1) := by decide +kernel
theorem dX5_bentBy_37 : decode cX5_bentBy 37 = .ok (.iload_n 1, 1) := by decide +kernel
theorem dX5_bentBy_38 : decode cX5_bentBy 38 = .ok (.iconst 2, 1) := by decide +kernel
theorem dX5_bentBy_39 : decode cX5_bentBy 39 = .ok (.iload_n 2, 1) := by decide +kernel
theorem dX5_bentBy_40 : decode cX5_bentBy 40 = .ok (.imul, 1) := by decide +kernel
theorem dX5_bentBy_41 : decode cX5_bentBy 41 = .ok (.isub, 1) := by decide +kernel
theorem dX5_bentBy_42 : decode cX5_bentBy 42 = .ok (.istore_n 3, 1) := by decide +kernel
theorem dX5_bentBy_43 : decode cX5_bentBy 43 = .ok (.iload_n 3, 1) := by decide +kernel
theorem dX5_bentBy_44 : decode cX5_bentBy 44 = .ok (.ifCond .ge 8, 3) := by decide +kernel
theorem dX5_bentBy_47 : decode cX5_bentBy 47 = .ok (.iload_n 3, 1) := by decide +kernel
theorem dX5_bentBy_48 : decode cX5_bentBy 48 = .ok (.ineg, 1) := by decide +kernel
theorem dX5_bentBy_49 : decode cX5_bentBy 49 = .ok (.goto 4, 3) := by decide +kernel
theorem dX5_bentBy_52 : decode cX5_bentBy 52 = .ok (.iload_n 3, 1) := by decide +kernel
theorem dX5_bentBy_53 : decode cX5_bentBy 53 = .ok (.ireturn, 1) := by decide +kernel
theorem dX5_listingBy_0 : decode cX5_listingBy 0 = .ok (.iload_n 0, 1) := by decide +kernel
theorem dX5_listingBy_1 : decode cX5_listingBy 1 = .ok (.iconst 3, 1) := by decide +kernel
theorem dX5_listingBy_2 : decode cX5_listingBy 2 = .ok (.iand, 1) := by decide +kernel
theorem dX5_listingBy_3 : decode cX5_listingBy 3 = .ok (.iload_n 0, 1) := by decide +kernel
theorem dX5_listingBy_4 : decode cX5_listingBy 4 = .ok (.iconst 4, 1) := by decide +kernel
theorem dX5_listingBy_5 : decode cX5_listingBy 5 = .ok (.ishr, 1) := by decide +kernel
theorem dX5_listingBy_6 : decode cX5_listingBy 6 = .ok (.iconst 3, 1) := by decide +kernel
theorem dX5_listingBy_7 : decode cX5_listingBy 7 = .ok (.iand, 1) := by decide +kernel
theorem dX5_listingBy_8 : decode cX5_listingBy 8 = .ok (.iadd, 1) := by decide +kernel
theorem dX5_listingBy_9 : decode cX5_listingBy 9 = .ok (.iload_n 0, 1) := by decide +kernel
theorem dX5_listingBy_10 : decode cX5_listingBy 10 = .ok (.bipush 8, 2) := by decide +kernel
theorem dX5_listingBy_12 : decode cX5_listingBy 12 = .ok (.ishr, 1) := by decide +kernel
theorem dX5_listingBy_13 : decode cX5_listingBy 13 = .ok (.iconst 3, 1) := by decide +kernel
theorem dX5_listingBy_14 : decode cX5_listingBy 14 = .ok (.iand, 1) := by decide +kernel
theorem dX5_listingBy_15 : decode cX5_listingBy 15 = .ok (.iadd, 1) := by decide +kernel
theorem dX5_listingBy_16 : decode cX5_listingBy 16 = .ok (.istore_n 1, 1) := by decide +kernel
theorem dX5_listingBy_17 : decode cX5_listingBy 17 = .ok (.iload_n 0, 1) := by decide +kernel
theorem dX5_listingBy_18 : decode cX5_listingBy 18 = .ok (.iconst 2, 1) := by decide +kernel
theorem dX5_listingBy_19 : decode cX5_listingBy 19 = .ok (.ishr, 1) := by decide +kernel
theorem dX5_listingBy_20 : decode cX5_listingBy 20 = .ok (.iconst 3, 1) := by decide +kernel
theorem dX5_listingBy_21 : decode cX5_listingBy 21 = .ok (.iand, 1) := by decide +kernel
theorem dX5_listingBy_22 : decode cX5_listingBy 22 = .ok (.iload_n 0, 1) := by decide +kernel
theorem dX5_listingBy_23 : decode cX5_listingBy 23 = .ok (.bipush 6, 2) := by decide +kernel
theorem dX5_listingBy_25 : decode cX5_listingBy 25 = .ok (.ishr, 1) := by decide +kernel
theorem dX5_listingBy_26 : decode cX5_listingBy 26 = .ok (.iconst 3, 1) := by decide +kernel
theorem dX5_listingBy_27 : decode cX5_listingBy 27 = .ok (.iand, 1) := by decide +kernel
theorem dX5_listingBy_28 : decode cX5_listingBy 28 = .ok (.iadd, 1) := by decide +kernel
theorem dX5_listingBy_29 : decode cX5_listingBy 29 = .ok (.iload_n 0, 1) := by decide +kernel
theorem dX5_listingBy_30 : decode cX5_listingBy 30 = .ok (.bipush 10, 2) := by decide +kernel
theorem dX5_listingBy_32 : decode cX5_listingBy 32 = .ok (.ishr, 1) := by decide +kernel
theorem dX5_listingBy_33 : decode cX5_listingBy 33 = .ok (.iconst 3, 1) := by decide +kernel
theorem dX5_listingBy_34 : decode cX5_listingBy 34 = .ok (.iand, 1) := by decide +kernel
theorem dX5_listingBy_35 : decode cX5_listingBy 35 = .ok (.iadd, 1) := by decide +kernel
theorem dX5_listingBy_36 : decode cX5_listingBy 36 = .ok (.istore_n 2, 1) := by decide +kernel
theorem dX5_listingBy_37 : decode cX5_listingBy 37 = .ok (.iload_n 1, 1) := by decide +kernel
theorem dX5_listingBy_38 : decode cX5_listingBy 38 = .ok (.iload_n 2, 1) := by decide +kernel
theorem dX5_listingBy_39 : decode cX5_listingBy 39 = .ok (.if_icmp .ge 9, 3) := by decide +kernel
theorem dX5_listingBy_42 : decode cX5_listingBy 42 = .ok (.iload_n 2, 1) := by decide +kernel
theorem dX5_listingBy_43 : decode cX5_listingBy 43 = .ok (.iload_n 1, 1) := by decide +kernel
theorem dX5_listingBy_44 : decode cX5_listingBy 44 = .ok (.isub, 1) := by decide +kernel
theorem dX5_listingBy_45 : decode cX5_listingBy 45 = .ok (.goto 6, 3) := by decide +kernel
theorem dX5_listingBy_48 : decode cX5_listingBy 48 = .ok (.iload_n 1, 1) := by decide +kernel
theorem dX5_listingBy_49 : decode cX5_listingBy 49 = .ok (.iload_n 2, 1) := by decide +kernel
theorem dX5_listingBy_50 : decode cX5_listingBy 50 = .ok (.isub, 1) := by decide +kernel
theorem dX5_listingBy_51 : decode cX5_listingBy 51 = .ok (.ireturn, 1) := by decide +kernel
end
section
theorem dX6_init_0 : decode cX6_init 0 = .ok (.aload_n 0, 1) := by decide +kernel
theorem dX6_init_1 : decode cX6_init 1 = .ok (.invokespecial 1, 3) := by decide +kernel
theorem dX6_init_4 : decode cX6_init 4 = .ok (.aload_n 0, 1) := by decide +kernel
theorem dX6_init_5 : decode cX6_init 5 = .ok (.bipush 16, 2) := by decide +kernel
theorem dX6_init_7 : decode cX6_init 7 = .ok (.newarray .int, 2) := by decide +kernel
theorem dX6_init_9 : decode cX6_init 9 = .ok (.putfield 7, 3) := by decide +kernel
theorem dX6_init_12 : decode cX6_init 12 = .ok (.aload_n 0, 1) := by decide +kernel
theorem dX6_init_13 : decode cX6_init 13 = .ok (.iconst 3, 1) := by decide +kernel
theorem dX6_init_14 : decode cX6_init 14 = .ok (.newarray .int, 2) := by decide +kernel
theorem dX6_init_16 : decode cX6_init 16 = .ok (.putfield 13, 3) := by decide +kernel
theorem dX6_init_19 : decode cX6_init 19 = .ok (.aload_n 0, 1) := by decide +kernel
theorem dX6_init_20 : decode cX6_init 20 = .ok (.sipush 4096, 3) := by decide +kernel
theorem dX6_init_23 : decode cX6_init 23 = .ok (.newarray .int, 2) := by decide +kernel
theorem dX6_init_25 : decode cX6_init 25 = .ok (.putfield 16, 3) := by decide +kernel
theorem dX6_init_28 : decode cX6_init 28 = .ok (.aload_n 0, 1) := by decide +kernel
theorem dX6_init_29 : decode cX6_init 29 = .ok (.sipush 4096, 3) := by decide +kernel
theorem dX6_init_32 : decode cX6_init 32 = .ok (.newarray .int, 2) := by decide +kernel
theorem dX6_init_34 : decode cX6_init 34 = .ok (.putfield 19, 3) := by decide +kernel
theorem dX6_init_37 : decode cX6_init 37 = .ok (.aload_n 0, 1) := by decide +kernel
theorem dX6_init_38 : decode cX6_init 38 = .ok (.sipush 4096, 3) := by decide +kernel
theorem dX6_init_41 : decode cX6_init 41 = .ok (.newarray .int, 2) := by decide +kernel
theorem dX6_init_43 : decode cX6_init 43 = .ok (.putfield 22, 3) := by decide +kernel
theorem dX6_init_46 : decode cX6_init 46 = .ok (.aload_n 0, 1) := by decide +kernel
theorem dX6_init_47 : decode cX6_init 47 = .ok (.sipush 4096, 3) := by decide +kernel
theorem dX6_init_50 : decode cX6_init 50 = .ok (.newarray .boolean, 2) := by decide +kernel
theorem dX6_init_52 : decode cX6_init 52 = .ok (.putfield 25, 3) := by decide +kernel
theorem dX6_init_55 : decode cX6_init 55 = .ok (.aload_n 0, 1) := by decide +kernel
theorem dX6_init_56 : decode cX6_init 56 = .ok (.iconst 4, 1) := by decide +kernel
theorem dX6_init_57 : decode cX6_init 57 = .ok (.newarray .int, 2) := by decide +kernel
theorem dX6_init_59 : decode cX6_init 59 = .ok (.putfield 29, 3) := by decide +kernel
theorem dX6_init_62 : decode cX6_init 62 = .ok (.aload_n 0, 1) := by decide +kernel
theorem dX6_init_63 : decode cX6_init 63 = .ok (.sipush 4096, 3) := by decide +kernel
theorem dX6_init_66 : decode cX6_init 66 = .ok (.newarray .int, 2) := by decide +kernel
theorem dX6_init_68 : decode cX6_init 68 = .ok (.putfield 32, 3) := by decide +kernel
theorem dX6_init_71 : decode cX6_init 71 = .ok (.aload_n 0, 1) := by decide +kernel
theorem dX6_init_72 : decode cX6_init 72 = .ok (.sipush 4096, 3) := by decide +kernel
theorem dX6_init_75 : decode cX6_init 75 = .ok (.newarray .int, 2) := by decide +kernel
theorem dX6_init_77 : decode cX6_init 77 = .ok (.putfield 35, 3) := by decide +kernel
theorem dX6_init_80 : decode cX6_init 80 = .ok (.aload_n 0, 1) := by decide +kernel
theorem dX6_init_81 : decode cX6_init 81 = .ok (.iconst 4, 1) := by decide +kernel
theorem dX6_init_82 : decode cX6_init 82 = .ok (.newarray .int, 2) := by decide +kernel
theorem dX6_init_84 : decode cX6_init 84 = .ok (.putfield 38, 3) := by decide +kernel
theorem dX6_init_87 : decode cX6_init 87 = .ok (.aload_n 0, 1) := by decide +kernel
theorem dX6_init_88 : decode cX6_init 88 = .ok (.iconst (-1), 1) := by decide +kernel
theorem dX6_init_89 : decode cX6_init 89 = .ok (.putfield 41, 3) := by decide +kernel
theorem dX6_init_92 : decode cX6_init 92 = .ok (.return_, 1) := by decide +kernel
theorem dX6_in_0 : decode cX6_in 0 = .ok (.lload_n 0, 1) := by decide +kernel
theorem dX6_in_1 : decode cX6_in 1 = .ok (.lload_n 2, 1) := by decide +kernel
theorem dX6_in_2 : decode cX6_in 2 = .ok (.lcmp, 1) := by decide +kernel
theorem dX6_in_3 : decode cX6_in 3 = .ok (.ifCond .lt 14, 3) := by decide +kernel
theorem dX6_in_6 : decode cX6_in 6 = .ok (.lload_n 0, 1) := by decide +kernel
theorem dX6_in_7 : decode cX6_in 7 = .ok (.lload 4, 2) := by decide +kernel
theorem dX6_in_9 : decode cX6_in 9 = .ok (.lcmp, 1) := by decide +kernel
theorem dX6_in_10 : decode cX6_in 10 = .ok (.ifCond .gt 7, 3) := by decide +kernel
theorem dX6_in_13 : decode cX6_in 13 = .ok (.iconst 1, 1) := by decide +kernel
theorem dX6_in_14 : decode cX6_in 14 = .ok (.goto 4, 3) := by decide +kernel
theorem dX6_in_17 : decode cX6_in 17 = .ok (.iconst 0, 1) := by decide +kernel
theorem dX6_in_18 : decode cX6_in 18 = .ok (.ireturn, 1) := by decide +kernel
theorem dX6_letter_0 : decode cX6_letter 0 = .ok (.iload_n 1, 1) := by decide +kernel
theorem dX6_letter_1 : decode cX6_letter 1 = .ok (.i2l, 1) := by decide +kernel
theorem dX6_letter_2 : decode cX6_letter 2 = .ok (.lconst 1, 1) := by decide +kernel
theorem dX6_letter_3 : decode cX6_letter 3 = .ok (.ldc2_w 45, 3) := by decide +kernel
theorem dX6_letter_6 : decode cX6_letter 6 = .ok (.invokestatic 47, 3) := by decide +kernel
theorem dX6_letter_9 : decode cX6_letter 9 = .ok (.ifCond .ne 6, 3) := by decide +kernel
theorem dX6_letter_12 : decode cX6_letter 12 = .ok (.bipush (-102), 2) := by decide +kernel
theorem dX6_letter_14 : decode cX6_letter 14 = .ok (.ireturn, 1) := by decide +kernel
theorem dX6_letter_15 : decode cX6_letter 15 = .ok (.aload_n 0, 1) := by decide +kernel
theorem dX6_letter_16 : decode cX6_letter 16 = .ok (.getfield 51, 3) := by decide +kernel
theorem dX6_letter_19 : decode cX6_letter 19 = .ok (.bipush 16, 2) := by decide +kernel
theorem dX6_letter_21 : decode cX6_letter 21 = .ok (.if_icmp .ne 6, 3) := by decide +kernel
theorem dX6_letter_24 : decode cX6_letter 24 = .ok (.bipush (-104), 2) := by decide +kernel
theorem dX6_letter_26 : decode cX6_letter 26 = .ok (.ireturn, 1) := by decide +kernel
theorem dX6_letter_27 : decode cX6_letter 27 = .ok (.aload_n 0, 1) := by decide +kernel
theorem dX6_letter_28 : decode cX6_letter 28 = .ok (.getfield 7, 3) := by decide +kernel
theorem dX6_letter_31 : decode cX6_letter 31 = .ok (.aload_n 0, 1) := by decide +kernel
theorem dX6_letter_32 : decode cX6_letter 32 = .ok (.getfield 51, 3) := by decide +kernel
theorem dX6_letter_35 : decode cX6_letter 35 = .ok (.iload_n 1, 1) := by decide +kernel
theorem dX6_letter_36 : decode cX6_letter 36 = .ok (.iastore, 1) := by decide +kernel
theorem dX6_letter_37 : decode cX6_letter 37 = .ok (.aload_n 0, 1) := by decide +kernel
theorem dX6_letter_38 : decode cX6_letter 38 = .ok (.dup, 1) := by decide +kernel
theorem dX6_letter_39 : decode cX6_letter 39 = .ok (.getfield 51, 3) := by decide +kernel
theorem dX6_letter_42 : decode cX6_letter 42 = .ok (.iconst 1, 1) := by decide +kernel
theorem dX6_letter_43 : decode cX6_letter 43 = .ok (.iadd, 1) := by decide +kernel
theorem dX6_letter_44 : decode cX6_letter 44 = .ok (.putfield 51, 3) := by decide +kernel
theorem dX6_letter_47 : decode cX6_letter 47 = .ok (.aload_n 0, 1) := by decide +kernel
theorem dX6_letter_48 : decode cX6_letter 48 = .ok (.getfield 51, 3) := by decide +kernel
theorem dX6_letter_51 : decode cX6_letter 51 = .ok (.ireturn, 1) := by decide +kernel
theorem dX6_blank_0 : decode cX6_blank 0 = .ok (.aload_n 0, 1) := by decide +kernel
theorem dX6_blank_1 : decode cX6_blank 1 = .ok (.getfield 51, 3) := by decide +kernel
theorem dX6_blank_4 : decode cX6_blank 4 = .ok (.istore_n 1, 1) := by decide +kernel
theorem dX6_blank_5 : decode cX6_blank 5 = .ok (.aload_n 0, 1) := by decide +kernel
theorem dX6_blank_6 : decode cX6_blank 6 = .ok (.iconst 0, 1) := by decide +kernel
theorem dX6_blank_7 : decode cX6_blank 7 = .ok (.putfield 51, 3) := by decide +kernel
theorem dX6_blank_10 : decode cX6_blank 10 = .ok (.iload_n 1, 1) := by decide +kernel
theorem dX6_blank_11 : decode cX6_blank 11 = .ok (.ireturn, 1) := by decide +kernel
theorem dX6_kindBy_0 : decode cX6_kindBy 0 = .ok (.iload_n 0, 1) := by decide +kernel
theorem dX6_kindBy_1 : decode cX6_kindBy 1 = .ok (.bipush 98, 2) := by decide +kernel
theorem dX6_kindBy_3 : decode cX6_kindBy 3 = .ok (.if_icmp .ne 7, 3) := by decide +kernel
theorem dX6_kindBy_6 : decode cX6_kindBy 6 = .ok (.iconst 0, 1) := by decide +kernel
theorem dX6_kindBy_7 : decode cX6_kindBy 7 = .ok (.goto 44, 3) := by decide +kernel
theorem dX6_kindBy_10 : decode cX6_kindBy 10 = .ok (.iload_n 0, 1) := by decide +kernel
theorem dX6_kindBy_11 : decode cX6_kindBy 11 = .ok (.bipush 110, 2) := by decide +kernel
theorem dX6_kindBy_13 : decode cX6_kindBy 13 = .ok (.if_icmp .ne 7, 3) := by decide +kernel
theorem dX6_kindBy_16 : decode cX6_kindBy 16 = .ok (.iconst 1, 1) := by decide +kernel
theorem dX6_kindBy_17 : decode cX6_kindBy 17 = .ok (.goto 34, 3) := by decide +kernel
theorem dX6_kindBy_20 : decode cX6_kindBy 20 = .ok (.iload_n 0, 1) := by decide +kernel
theorem dX6_kindBy_21 : decode cX6_kindBy 21 = .ok (.bipush 102, 2) := by decide +kernel
theorem dX6_kindBy_23 : decode cX6_kindBy 23 = .ok (.if_icmp .ne 7, 3) := by decide +kernel
theorem dX6_kindBy_26 : decode cX6_kindBy 26 = .ok (.iconst 2, 1) := by decide +kernel
theorem dX6_kindBy_27 : decode cX6_kindBy 27 = .ok (.goto 24, 3) := by decide +kernel
theorem dX6_kindBy_30 : decode cX6_kindBy 30 = .ok (.iload_n 0, 1) := by decide +kernel
theorem dX6_kindBy_31 : decode cX6_kindBy 31 = .ok (.bipush 104, 2) := by decide +kernel
theorem dX6_kindBy_33 : decode cX6_kindBy 33 = .ok (.if_icmp .ne 7, 3) := by decide +kernel
theorem dX6_kindBy_36 : decode cX6_kindBy 36 = .ok (.iconst 3, 1) := by decide +kernel
theorem dX6_kindBy_37 : decode cX6_kindBy 37 = .ok (.goto 14, 3) := by decide +kernel
theorem dX6_kindBy_40 : decode cX6_kindBy 40 = .ok (.iload_n 0, 1) := by decide +kernel
theorem dX6_kindBy_41 : decode cX6_kindBy 41 = .ok (.bipush 100, 2) := by decide +kernel
theorem dX6_kindBy_43 : decode cX6_kindBy 43 = .ok (.if_icmp .ne 7, 3) := by decide +kernel
theorem dX6_kindBy_46 : decode cX6_kindBy 46 = .ok (.iconst 4, 1) := by decide +kernel
theorem dX6_kindBy_47 : decode cX6_kindBy 47 = .ok (.goto 4, 3) := by decide +kernel
theorem dX6_kindBy_50 : decode cX6_kindBy 50 = .ok (.iconst (-1), 1) := by decide +kernel
theorem dX6_kindBy_51 : decode cX6_kindBy 51 = .ok (.ireturn, 1) := by decide +kernel
theorem dX6_isGood_0 : decode cX6_isGood 0 = .ok (.iload_n 0, 1) := by decide +kernel
theorem dX6_isGood_1 : decode cX6_isGood 1 = .ok (.bipush 10, 2) := by decide +kernel
theorem dX6_isGood_3 : decode cX6_isGood 3 = .ok (.if_icmp .le 50, 3) := by decide +kernel
theorem dX6_isGood_6 : decode cX6_isGood 6 = .ok (.iload_n 0, 1) := by decide +kernel
theorem dX6_isGood_7 : decode cX6_isGood 7 = .ok (.bipush 11, 2) := by decide +kernel
theorem dX6_isGood_9 : decode cX6_isGood 9 = .ok (.if_icmp .ne 17, 3) := by decide +kernel
theorem dX6_isGood_12 : decode cX6_isGood 12 = .ok (.iload_n 1, 1) := by decide +kernel
theorem dX6_isGood_13 : decode cX6_isGood 13 = .ok (.bipush 59, 2) := by decide +kernel
theorem dX6_isGood_15 : decode cX6_isGood 15 = .ok (.if_icmp .ne 7, 3) := by decide +kernel
theorem dX6_isGood_18 : decode cX6_isGood 18 = .ok (.iconst 1, 1) := by decide +kernel
theorem dX6_isGood_19 : decode cX6_isGood 19 = .ok (.goto 33, 3) := by decide +kernel
theorem dX6_isGood_22 : decode cX6_isGood 22 = .ok (.iconst 0, 1) := by decide +kernel
theorem dX6_isGood_23 : decode cX6_isGood 23 = .ok (.goto 29, 3) := by decide +kernel
theorem dX6_isGood_26 : decode cX6_isGood 26 = .ok (.iload_n 0, 1) := by decide +kernel
theorem dX6_isGood_27 : decode cX6_isGood 27 = .ok (.bipush 14, 2) := by decide +kernel
theorem dX6_isGood_29 : decode cX6_isGood 29 = .ok (.if_icmp .ge 22, 3) := by decide +kernel
theorem dX6_isGood_32 : decode cX6_isGood 32 = .ok (.iload_n 1, 1) := by decide +kernel
theorem dX6_isGood_33 : decode cX6_isGood 33 = .ok (.bipush 48, 2) := by decide +kernel
theorem dX6_isGood_35 : decode cX6_isGood 35 = .ok (.isub, 1) := by decide +kernel
theorem dX6_isGood_36 : decode cX6_isGood 36 = .ok (.i2l, 1) := by decide +kernel
theorem dX6_isGood_37 : decode cX6_isGood 37 = .ok (.lconst 0, 1) := by decide +kernel
theorem dX6_isGood_38 : decode cX6_isGood 38 = .ok (.ldc2_w 54, 3) := by decide +kernel
theorem dX6_isGood_41 : decode cX6_isGood 41 = .ok (.invokestatic 47, 3) := by decide +kernel
theorem dX6_isGood_44 : decode cX6_isGood 44 = .ok (.ifCond .eq 7, 3) := by decide +kernel
theorem dX6_isGood_47 : decode cX6_isGood 47 = .ok (.iconst 1, 1) := by decide +kernel
theorem dX6_isGood_48 : decode cX6_isGood 48 = .ok (.goto 4, 3) := by decide +kernel
theorem dX6_isGood_51 : decode cX6_isGood 51 = .ok (.iconst 0, 1) := by decide +kernel
theorem dX6_isGood_52 : decode cX6_isGood 52 = .ok (.ireturn, 1) := by decide +kernel
theorem dX6_isGood_53 : decode cX6_isGood 53 = .ok (.iload_n 0, 1) := by decide +kernel
theorem dX6_isGood_54 : decode cX6_isGood 54 = .ok (.iconst 4, 1) := by decide +kernel
theorem dX6_isGood_55 : decode cX6_isGood 55 = .ok (.irem, 1) := by decide +kernel
theorem dX6_isGood_56 : decode cX6_isGood 56 = .ok (.istore_n 2, 1) := by decide +kernel
theorem dX6_isGood_57 : decode cX6_isGood 57 = .ok (.iload_n 2, 1) := by decide +kernel
theorem dX6_isGood_58 : decode cX6_isGood 58 = .ok (.ifCond .ne 19, 3) := by decide +kernel
theorem dX6_isGood_61 : decode cX6_isGood 61 = .ok (.iload_n 1, 1) := by decide +kernel
theorem dX6_isGood_62 : decode cX6_isGood 62 = .ok (.invokestatic 56, 3) := by decide +kernel
theorem dX6_isGood_65 : decode cX6_isGood 65 = .ok (.iconst (-1), 1) := by decide +kernel
theorem dX6_isGood_66 : decode cX6_isGood 66 = .ok (.if_icmp .eq 7, 3) := by decide +kernel
theorem dX6_isGood_69 : decode cX6_isGood 69 = .ok (.iconst 1, 1) := by decide +kernel
theorem dX6_isGood_70 : decode cX6_isGood 70 = .ok (.goto 38, 3) := by decide +kernel
theorem dX6_isGood_73 : decode cX6_isGood 73 = .ok (.iconst 0, 1) := by decide +kernel
theorem dX6_isGood_74 : decode cX6_isGood 74 = .ok (.goto 34, 3) := by decide +kernel
theorem dX6_isGood_77 : decode cX6_isGood 77 = .ok (.iload_n 2, 1) := by decide +kernel
theorem dX6_isGood_78 : decode cX6_isGood 78 = .ok (.iconst 3, 1) := by decide +kernel
theorem dX6_isGood_79 : decode cX6_isGood 79 = .ok (.if_icmp .ne 17, 3) := by decide +kernel
theorem dX6_isGood_82 : decode cX6_isGood 82 = .ok (.iload_n 1, 1) := by decide +kernel
theorem dX6_isGood_83 : decode cX6_isGood 83 = .ok (.bipush 44, 2) := by decide +kernel
theorem dX6_isGood_85 : decode cX6_isGood 85 = .ok (.if_icmp .ne 7, 3) := by decide +kernel
theorem dX6_isGood_88 : decode cX6_isGood 88 = .ok (.iconst 1, 1) := by decide +kernel
theorem dX6_isGood_89 : decode cX6_isGood 89 = .ok (.goto 19, 3) := by decide +kernel
theorem dX6_isGood_92 : decode cX6_isGood 92 = .ok (.iconst 0, 1) := by decide +kernel
theorem dX6_isGood_93 : decode cX6_isGood 93 = .ok (.goto 15, 3) := by decide +kernel
theorem dX6_isGood_96 : decode cX6_isGood 96 = .ok (.iload_n 1, 1) := by decide +kernel
theorem dX6_isGood_97 : decode cX6_isGood 97 = .ok (.bipush 48, 2) := by decide +kernel
theorem dX6_isGood_99 : decode cX6_isGood 99 = .ok (.isub, 1) := by decide +kernel
theorem dX6_isGood_100 : decode cX6_isGood 100 = .ok (.i2l, 1) := by decide +kernel
theorem dX6_isGood_101 : decode cX6_isGood 101 = .ok (.lconst 0, 1) := by decide +kernel
theorem dX6_isGood_102 : decode cX6_isGood 102 = .ok (.ldc2_w 60, 3) := by decide +kernel
theorem dX6_isGood_105 : decode cX6_isGood 105 = .ok (.invokestatic 47, 3) := by decide +kernel
theorem dX6_isGood_108 : decode cX6_isGood 108 = .ok (.ireturn, 1) := by decide +kernel
theorem dX6_faultOf_0 : decode cX6_faultOf 0 = .ok (.iconst 0, 1) := by decide +kernel
theorem dX6_faultOf_1 : decode cX6_faultOf 1 = .ok (.istore_n 1, 1) := by decide +kernel
theorem dX6_faultOf_2 : decode cX6_faultOf 2 = .ok (.iload_n 1, 1) := by decide +kernel
theorem dX6_faultOf_3 : decode cX6_faultOf 3 = .ok (.aload_n 0, 1) := by decide +kernel
theorem dX6_faultOf_4 : decode cX6_faultOf 4 = .ok (.getfield 51, 3) := by decide +kernel
theorem dX6_faultOf_7 : decode cX6_faultOf 7 = .ok (.if_icmp .ge 22, 3) := by decide +kernel
theorem dX6_faultOf_10 : decode cX6_faultOf 10 = .ok (.iload_n 1, 1) := by decide +kernel
theorem dX6_faultOf_11 : decode cX6_faultOf 11 = .ok (.aload_n 0, 1) := by decide +kernel
theorem dX6_faultOf_12 : decode cX6_faultOf 12 = .ok (.getfield 7, 3) := by decide +kernel
theorem dX6_faultOf_15 : decode cX6_faultOf 15 = .ok (.iload_n 1, 1) := by decide +kernel
theorem dX6_faultOf_16 : decode cX6_faultOf 16 = .ok (.iaload, 1) := by decide +kernel
theorem dX6_faultOf_17 : decode cX6_faultOf 17 = .ok (.invokestatic 62, 3) := by decide +kernel
theorem dX6_faultOf_20 : decode cX6_faultOf 20 = .ok (.ifCond .eq 9, 3) := by decide +kernel
theorem dX6_faultOf_23 : decode cX6_faultOf 23 = .ok (.iinc 1 1, 3) := by decide +kernel
theorem dX6_faultOf_26 : decode cX6_faultOf 26 = .ok (.goto (-24), 3) := by decide +kernel
theorem dX6_faultOf_29 : decode cX6_faultOf 29 = .ok (.iload_n 1, 1) := by decide +kernel
theorem dX6_faultOf_30 : decode cX6_faultOf 30 = .ok (.ireturn, 1) := by decide +kernel
theorem dX6_fault_0 : decode cX6_fault 0 = .ok (.aload_n 0, 1) := by decide +kernel
theorem dX6_fault_1 : decode cX6_fault 1 = .ok (.invokevirtual 66, 3) := by decide +kernel
theorem dX6_fault_4 : decode cX6_fault 4 = .ok (.ireturn, 1) := by decide +kernel
theorem dX6_hold_0 : decode cX6_hold 0 = .ok (.aload_n 0, 1) := by decide +kernel
theorem dX6_hold_1 : decode cX6_hold 1 = .ok (.getfield 51, 3) := by decide +kernel
theorem dX6_hold_4 : decode cX6_hold 4 = .ok (.bipush 14, 2) := by decide +kernel
theorem dX6_hold_6 : decode cX6_hold 6 = .ok (.if_icmp .ne 12, 3) := by decide +kernel
theorem dX6_hold_9 : decode cX6_hold 9 = .ok (.aload_n 0, 1) := by decide +kernel
theorem dX6_hold_10 : decode cX6_hold 10 = .ok (.invokevirtual 66, 3) := by decide +kernel
theorem dX6_hold_13 : decode cX6_hold 13 = .ok (.bipush 14, 2) := by decide +kernel
theorem dX6_hold_15 : decode cX6_hold 15 = .ok (.if_icmp .ge 6, 3) := by decide +kernel
theorem dX6_hold_18 : decode cX6_hold 18 = .ok (.bipush (-103), 2) := by decide +kernel
theorem dX6_hold_20 : decode cX6_hold 20 = .ok (.ireturn, 1) := by decide +kernel
theorem dX6_hold_21 : decode cX6_hold 21 = .ok (.aload_n 0, 1) := by decide +kernel
theorem dX6_hold_22 : decode cX6_hold 22 = .ok (.iconst 0, 1) := by decide +kernel
theorem dX6_hold_23 : decode cX6_hold 23 = .ok (.putfield 70, 3) := by decide +kernel
theorem dX6_hold_26 : decode cX6_hold 26 = .ok (.iconst 2, 1) := by decide +kernel
theorem dX6_hold_27 : decode cX6_hold 27 = .ok (.istore_n 1, 1) := by decide +kernel
theorem dX6_hold_28 : decode cX6_hold 28 = .ok (.iload_n 1, 1) := by decide +kernel
theorem dX6_hold_29 : decode cX6_hold 29 = .ok (.ifCond .lt 74, 3) := by decide +kernel
theorem dX6_hold_32 : decode cX6_hold 32 = .ok (.aload_n 0, 1) := by decide +kernel
theorem dX6_hold_33 : decode cX6_hold 33 = .ok (.getfield 13, 3) := by decide +kernel
theorem dX6_hold_36 : decode cX6_hold 36 = .ok (.iload_n 1, 1) := by decide +kernel
theorem dX6_hold_37 : decode cX6_hold 37 = .ok (.aload_n 0, 1) := by decide +kernel
theorem dX6_hold_38 : decode cX6_hold 38 = .ok (.getfield 7, 3) := by decide +kernel
theorem dX6_hold_41 : decode cX6_hold 41 = .ok (.iconst 4, 1) := by decide +kernel
theorem dX6_hold_42 : decode cX6_hold 42 = .ok (.iload_n 1, 1) := by decide +kernel
theorem dX6_hold_43 : decode cX6_hold 43 = .ok (.imul, 1) := by decide +kernel
theorem dX6_hold_44 : decode cX6_hold 44 = .ok (.iaload, 1) := by decide +kernel
theorem dX6_hold_45 : decode cX6_hold 45 = .ok (.invokestatic 56, 3) := by decide +kernel
theorem dX6_hold_48 : decode cX6_hold 48 = .ok (.iastore, 1) := by decide +kernel
theorem dX6_hold_49 : decode cX6_hold 49 = .ok (.aload_n 0, 1) := by decide +kernel
theorem dX6_hold_50 : decode cX6_hold 50 = .ok (.iconst 4, 1) := by decide +kernel
theorem dX6_hold_51 : decode cX6_hold 51 = .ok (.aload_n 0, 1) := by decide +kernel
theorem dX6_hold_52 : decode cX6_hold 52 = .ok (.getfield 70, 3) := by decide +kernel
theorem dX6_hold_55 : decode cX6_hold 55 = .ok (.imul, 1) := by decide +kernel
theorem dX6_hold_56 : decode cX6_hold 56 = .ok (.aload_n 0, 1) := by decide +kernel
theorem dX6_hold_57 : decode cX6_hold 57 = .ok (.getfield 7, 3) := by decide +kernel
theorem dX6_hold_60 : decode cX6_hold 60 = .ok (.iconst 4, 1) := by decide +kernel
theorem dX6_hold_61 : decode cX6_hold 61 = .ok (.iload_n 1, 1) := by decide +kernel
theorem dX6_hold_62 : decode cX6_hold 62 = .ok (.imul, 1) := by decide +kernel
theorem dX6_hold_63 : decode cX6_hold 63 = .ok (.iconst 2, 1) := by decide +kernel
theorem dX6_hold_64 : decode cX6_hold 64 = .ok (.iadd, 1) := by decide +kernel
theorem dX6_hold_65 : decode cX6_hold 65 = .ok (.iaload, 1) := by decide +kernel
theorem dX6_hold_66 : decode cX6_hold 66 = .ok (.iadd, 1) := by decide +kernel
theorem dX6_hold_67 : decode cX6_hold 67 = .ok (.bipush 48, 2) := by decide +kernel
theorem dX6_hold_69 : decode cX6_hold 69 = .ok (.isub, 1) := by decide +kernel
theorem dX6_hold_70 : decode cX6_hold 70 = .ok (.putfield 70, 3) := by decide +kernel
theorem dX6_hold_73 : decode cX6_hold 73 = .ok (.aload_n 0, 1) := by decide +kernel
theorem dX6_hold_74 : decode cX6_hold 74 = .ok (.iconst 4, 1) := by decide +kernel
theorem dX6_hold_75 : decode cX6_hold 75 = .ok (.aload_n 0, 1) := by decide +kernel
theorem dX6_hold_76 : decode cX6_hold 76 = .ok (.getfield 70, 3) := by decide +kernel
theorem dX6_hold_79 : decode cX6_hold 79 = .ok (.imul, 1) := by decide +kernel
theorem dX6_hold_80 : decode cX6_hold 80 = .ok (.aload_n 0, 1) := by decide +kernel
theorem dX6_hold_81 : decode cX6_hold 81 = .ok (.getfield 7, 3) := by decide +kernel
theorem dX6_hold_84 : decode cX6_hold 84 = .ok (.iconst 4, 1) := by decide +kernel
theorem dX6_hold_85 : decode cX6_hold 85 = .ok (.iload_n 1, 1) := by decide +kernel
theorem dX6_hold_86 : decode cX6_hold 86 = .ok (.imul, 1) := by decide +kernel
theorem dX6_hold_87 : decode cX6_hold 87 = .ok (.iconst 1, 1) := by decide +kernel
theorem dX6_hold_88 : decode cX6_hold 88 = .ok (.iadd, 1) := by decide +kernel
theorem dX6_hold_89 : decode cX6_hold 89 = .ok (.iaload, 1) := by decide +kernel
theorem dX6_hold_90 : decode cX6_hold 90 = .ok (.iadd, 1) := by decide +kernel
theorem dX6_hold_91 : decode cX6_hold 91 = .ok (.bipush 48, 2) := by decide +kernel
theorem dX6_hold_93 : decode cX6_hold 93 = .ok (.isub, 1) := by decide +kernel
theorem dX6_hold_94 : decode cX6_hold 94 = .ok (.putfield 70, 3) := by decide +kernel
theorem dX6_hold_97 : decode cX6_hold 97 = .ok (.iinc 1 (-1), 3) := by decide +kernel
theorem dX6_hold_100 : decode cX6_hold 100 = .ok (.goto (-72), 3) := by decide +kernel
theorem dX6_hold_103 : decode cX6_hold 103 = .ok (.aload_n 0, 1) := by decide +kernel
theorem dX6_hold_104 : decode cX6_hold 104 = .ok (.aload_n 0, 1) := by decide +kernel
theorem dX6_hold_105 : decode cX6_hold 105 = .ok (.getfield 7, 3) := by decide +kernel
theorem dX6_hold_108 : decode cX6_hold 108 = .ok (.bipush 12, 2) := by decide +kernel
theorem dX6_hold_110 : decode cX6_hold 110 = .ok (.iaload, 1) := by decide +kernel
theorem dX6_hold_111 : decode cX6_hold 111 = .ok (.bipush 48, 2) := by decide +kernel
theorem dX6_hold_113 : decode cX6_hold 113 = .ok (.isub, 1) := by decide +kernel
theorem dX6_hold_114 : decode cX6_hold 114 = .ok (.putfield 73, 3) := by decide +kernel
theorem dX6_hold_117 : decode cX6_hold 117 = .ok (.aload_n 0, 1) := by decide +kernel
theorem dX6_hold_118 : decode cX6_hold 118 = .ok (.aload_n 0, 1) := by decide +kernel
theorem dX6_hold_119 : decode cX6_hold 119 = .ok (.getfield 7, 3) := by decide +kernel
theorem dX6_hold_122 : decode cX6_hold 122 = .ok (.bipush 13, 2) := by decide +kernel
theorem dX6_hold_124 : decode cX6_hold 124 = .ok (.iaload, 1) := by decide +kernel
theorem dX6_hold_125 : decode cX6_hold 125 = .ok (.bipush 48, 2) := by decide +kernel
theorem dX6_hold_127 : decode cX6_hold 127 = .ok (.isub, 1) := by decide +kernel
theorem dX6_hold_128 : decode cX6_hold 128 = .ok (.putfield 76, 3) := by decide +kernel
theorem dX6_hold_131 : decode cX6_hold 131 = .ok (.aload_n 0, 1) := by decide +kernel
theorem dX6_hold_132 : decode cX6_hold 132 = .ok (.iconst 0, 1) := by decide +kernel
theorem dX6_hold_133 : decode cX6_hold 133 = .ok (.putfield 79, 3) := by decide +kernel
theorem dX6_hold_136 : decode cX6_hold 136 = .ok (.aload_n 0, 1) := by decide +kernel
theorem dX6_hold_137 : decode cX6_hold 137 = .ok (.iconst 0, 1) := by decide +kernel
theorem dX6_hold_138 : decode cX6_hold 138 = .ok (.putfield 82, 3) := by decide +kernel
theorem dX6_hold_141 : decode cX6_hold 141 = .ok (.aload_n 0, 1) := by decide +kernel
theorem dX6_hold_142 : decode cX6_hold 142 = .ok (.iconst 0, 1) := by decide +kernel
theorem dX6_hold_143 : decode cX6_hold 143 = .ok (.putfield 85, 3) := by decide +kernel
theorem dX6_hold_146 : decode cX6_hold 146 = .ok (.aload_n 0, 1) := by decide +kernel
theorem dX6_hold_147 : decode cX6_hold 147 = .ok (.iconst 0, 1) := by decide +kernel
theorem dX6_hold_148 : decode cX6_hold 148 = .ok (.putfield 88, 3) := by decide +kernel
theorem dX6_hold_151 : decode cX6_hold 151 = .ok (.aload_n 0, 1) := by decide +kernel
theorem dX6_hold_152 : decode cX6_hold 152 = .ok (.iconst 1, 1) := by decide +kernel
theorem dX6_hold_153 : decode cX6_hold 153 = .ok (.putfield 91, 3) := by decide +kernel
theorem dX6_hold_156 : decode cX6_hold 156 = .ok (.aload_n 0, 1) := by decide +kernel
theorem dX6_hold_157 : decode cX6_hold 157 = .ok (.dup, 1) := by decide +kernel
theorem dX6_hold_158 : decode cX6_hold 158 = .ok (.getfield 95, 3) := by decide +kernel
theorem dX6_hold_161 : decode cX6_hold 161 = .ok (.iconst 1, 1) := by decide +kernel
theorem dX6_hold_162 : decode cX6_hold 162 = .ok (.iadd, 1) := by decide +kernel
theorem dX6_hold_163 : decode cX6_hold 163 = .ok (.putfield 95, 3) := by decide +kernel
theorem dX6_hold_166 : decode cX6_hold 166 = .ok (.aload_n 0, 1) := by decide +kernel
theorem dX6_hold_167 : decode cX6_hold 167 = .ok (.iconst 0, 1) := by decide +kernel
theorem dX6_hold_168 : decode cX6_hold 168 = .ok (.putfield 51, 3) := by decide +kernel
theorem dX6_hold_171 : decode cX6_hold 171 = .ok (.aload_n 0, 1) := by decide +kernel
theorem dX6_hold_172 : decode cX6_hold 172 = .ok (.getfield 70, 3) := by decide +kernel
theorem dX6_hold_175 : decode cX6_hold 175 = .ok (.invokestatic 98, 3) := by decide +kernel
theorem dX6_hold_178 : decode cX6_hold 178 = .ok (.ireturn, 1) := by decide +kernel
theorem dX6_at_0 : decode cX6_at 0 = .ok (.iload_n 0, 1) := by decide +kernel
theorem dX6_at_1 : decode cX6_at 1 = .ok (.iconst 2, 1) := by decide +kernel
theorem dX6_at_2 : decode cX6_at 2 = .ok (.iload_n 1, 1) := by decide +kernel
theorem dX6_at_3 : decode cX6_at 3 = .ok (.imul, 1) := by decide +kernel
theorem dX6_at_4 : decode cX6_at 4 = .ok (.ishr, 1) := by decide +kernel
theorem dX6_at_5 : decode cX6_at 5 = .ok (.iconst 3, 1) := by decide +kernel
theorem dX6_at_6 : decode cX6_at 6 = .ok (.iand, 1) := by decide +kernel
theorem dX6_at_7 : decode cX6_at 7 = .ok (.ireturn, 1) := by decide +kernel
theorem dX6_tonsOf_0 : decode cX6_tonsOf 0 = .ok (.iconst 0, 1) := by decide +kernel
theorem dX6_tonsOf_1 : decode cX6_tonsOf 1 = .ok (.istore_n 1, 1) := by decide +kernel
theorem dX6_tonsOf_2 : decode cX6_tonsOf 2 = .ok (.iconst 0, 1) := by decide +kernel
theorem dX6_tonsOf_3 : decode cX6_tonsOf 3 = .ok (.istore_n 2, 1) := by decide +kernel
theorem dX6_tonsOf_4 : decode cX6_tonsOf 4 = .ok (.iload_n 2, 1) := by decide +kernel
theorem dX6_tonsOf_5 : decode cX6_tonsOf 5 = .ok (.bipush 6, 2) := by decide +kernel
theorem dX6_tonsOf_7 : decode cX6_tonsOf 7 = .ok (.if_icmp .ge 17, 3) := by decide +kernel
theorem dX6_tonsOf_10 : decode cX6_tonsOf 10 = .ok (.iload_n 1, 1) := by decide +kernel
theorem dX6_tonsOf_11 : decode cX6_tonsOf 11 = .ok (.iload_n 0, 1) := by decide +kernel
theorem dX6_tonsOf_12 : decode cX6_tonsOf 12 = .ok (.iload_n 2, 1) := by decide +kernel
theorem dX6_tonsOf_13 : decode cX6_tonsOf 13 = .ok (.invokestatic 101, 3) := by decide +kernel
theorem dX6_tonsOf_16 : decode cX6_tonsOf 16 = .ok (.iadd, 1) := by decide +kernel
theorem dX6_tonsOf_17 : decode cX6_tonsOf 17 = .ok (.istore_n 1, 1) := by decide +kernel
theorem dX6_tonsOf_18 : decode cX6_tonsOf 18 = .ok (.iinc 2 1, 3) := by decide +kernel
theorem dX6_tonsOf_21 : decode cX6_tonsOf 21 = .ok (.goto (-17), 3) := by decide +kernel
theorem dX6_tonsOf_24 : decode cX6_tonsOf 24 = .ok (.iload_n 1, 1) := by decide +kernel
theorem dX6_tonsOf_25 : decode cX6_tonsOf 25 = .ok (.ireturn, 1) := by decide +kernel
theorem dX6_unlike_0 : decode cX6_unlike 0 = .ok (.iload_n 0, 1) := by decide +kernel
theorem dX6_unlike_1 : decode cX6_unlike 1 = .ok (.iload_n 1, 1) := by decide +kernel
theorem dX6_unlike_2 : decode cX6_unlike 2 = .ok (.if_icmp .le 9, 3) := by decide +kernel
theorem dX6_unlike_5 : decode cX6_unlike 5 = .ok (.iload_n 0, 1) := by decide +kernel
theorem dX6_unlike_6 : decode cX6_unlike 6 = .ok (.iload_n 1, 1) := by decide +kernel
theorem dX6_unlike_7 : decode cX6_unlike 7 = .ok (.isub, 1) := by decide +kernel
theorem dX6_unlike_8 : decode cX6_unlike 8 = .ok (.goto 6, 3) := by decide +kernel
theorem dX6_unlike_11 : decode cX6_unlike 11 = .ok (.iload_n 1, 1) := by decide +kernel
theorem dX6_unlike_12 : decode cX6_unlike 12 = .ok (.iload_n 0, 1) := by decide +kernel
theorem dX6_unlike_13 : decode cX6_unlike 13 = .ok (.isub, 1) := by decide +kernel
theorem dX6_unlike_14 : decode cX6_unlike 14 = .ok (.ireturn, 1) := by decide +kernel
theorem dX6_bentOf_0 : decode cX6_bentOf 0 = .ok (.iload_n 0, 1) := by decide +kernel
theorem dX6_bentOf_1 : decode cX6_bentOf 1 = .ok (.iconst 0, 1) := by decide +kernel
theorem dX6_bentOf_2 : decode cX6_bentOf 2 = .ok (.invokestatic 101, 3) := by decide +kernel
theorem dX6_bentOf_5 : decode cX6_bentOf 5 = .ok (.iload_n 0, 1) := by decide +kernel
theorem dX6_bentOf_6 : decode cX6_bentOf 6 = .ok (.iconst 1, 1) := by decide +kernel
theorem dX6_bentOf_7 : decode cX6_bentOf 7 = .ok (.invokestatic 101, 3) := by decide +kernel
theorem dX6_bentOf_10 : decode cX6_bentOf 10 = .ok (.iadd, 1) := by decide +kernel
theorem dX6_bentOf_11 : decode cX6_bentOf 11 = .ok (.iload_n 0, 1) := by decide +kernel
theorem dX6_bentOf_12 : decode cX6_bentOf 12 = .ok (.iconst 4, 1) := by decide +kernel
theorem dX6_bentOf_13 : decode cX6_bentOf 13 = .ok (.invokestatic 101, 3) := by decide +kernel
theorem dX6_bentOf_16 : decode cX6_bentOf 16 = .ok (.iadd, 1) := by decide +kernel
theorem dX6_bentOf_17 : decode cX6_bentOf 17 = .ok (.iload_n 0, 1) := by decide +kernel
theorem dX6_bentOf_18 : decode cX6_bentOf 18 = .ok (.iconst 5, 1) := by decide +kernel
theorem dX6_bentOf_19 : decode cX6_bentOf 19 = .ok (.invokestatic 101, 3) := by decide +kernel
theorem dX6_bentOf_22 : decode cX6_bentOf 22 = .ok (.iadd, 1) := by decide +kernel
theorem dX6_bentOf_23 : decode cX6_bentOf 23 = .ok (.iconst 2, 1) := by decide +kernel
theorem dX6_bentOf_24 : decode cX6_bentOf 24 = .ok (.iload_n 0, 1) := by decide +kernel
theorem dX6_bentOf_25 : decode cX6_bentOf 25 = .ok (.iconst 2, 1) := by decide +kernel
theorem dX6_bentOf_26 : decode cX6_bentOf 26 = .ok (.invokestatic 101, 3) := by decide +kernel
theorem dX6_bentOf_29 : decode cX6_bentOf 29 = .ok (.iload_n 0, 1) := by decide +kernel
theorem dX6_bentOf_30 : decode cX6_bentOf 30 = .ok (.iconst 3, 1) := by decide +kernel
theorem dX6_bentOf_31 : decode cX6_bentOf 31 = .ok (.invokestatic 101, 3) := by decide +kernel
theorem dX6_bentOf_34 : decode cX6_bentOf 34 = .ok (.iadd, 1) := by decide +kernel
theorem dX6_bentOf_35 : decode cX6_bentOf 35 = .ok (.imul, 1) := by decide +kernel
theorem dX6_bentOf_36 : decode cX6_bentOf 36 = .ok (.invokestatic 105, 3) := by decide +kernel
theorem dX6_bentOf_39 : decode cX6_bentOf 39 = .ok (.ireturn, 1) := by decide +kernel
theorem dX6_listingOf_0 : decode cX6_listingOf 0 = .ok (.iload_n 0, 1) := by decide +kernel
theorem dX6_listingOf_1 : decode cX6_listingOf 1 = .ok (.iconst 0, 1) := by decide +kernel
theorem dX6_listingOf_2 : decode cX6_listingOf 2 = .ok (.invokestatic 101, 3) := by decide +kernel
theorem dX6_listingOf_5 : decode cX6_listingOf 5 = .ok (.iload_n 0, 1) := by decide +kernel
theorem dX6_listingOf_6 : decode cX6_listingOf 6 = .ok (.iconst 2, 1) := by decide +kernel
theorem dX6_listingOf_7 : decode cX6_listingOf 7 = .ok (.invokestatic 101, 3) := by decide +kernel
theorem dX6_listingOf_10 : decode cX6_listingOf 10 = .ok (.iadd, 1) := by decide +kernel
theorem dX6_listingOf_11 : decode cX6_listingOf 11 = .ok (.iload_n 0, 1) := by decide +kernel
theorem dX6_listingOf_12 : decode cX6_listingOf 12 = .ok (.iconst 4, 1) := by decide +kernel
theorem dX6_listingOf_13 : decode cX6_listingOf 13 = .ok (.invokestatic 101, 3) := by decide +kernel
theorem dX6_listingOf_16 : decode cX6_listingOf 16 = .ok (.iadd, 1) := by decide +kernel
theorem dX6_listingOf_17 : decode cX6_listingOf 17 = .ok (.iload_n 0, 1) := by decide +kernel
theorem dX6_listingOf_18 : decode cX6_listingOf 18 = .ok (.iconst 1, 1) := by decide +kernel
theorem dX6_listingOf_19 : decode cX6_listingOf 19 = .ok (.invokestatic 101, 3) := by decide +kernel
theorem dX6_listingOf_22 : decode cX6_listingOf 22 = .ok (.iload_n 0, 1) := by decide +kernel
theorem dX6_listingOf_23 : decode cX6_listingOf 23 = .ok (.iconst 3, 1) := by decide +kernel
theorem dX6_listingOf_24 : decode cX6_listingOf 24 = .ok (.invokestatic 101, 3) := by decide +kernel
theorem dX6_listingOf_27 : decode cX6_listingOf 27 = .ok (.iadd, 1) := by decide +kernel
theorem dX6_listingOf_28 : decode cX6_listingOf 28 = .ok (.iload_n 0, 1) := by decide +kernel
theorem dX6_listingOf_29 : decode cX6_listingOf 29 = .ok (.iconst 5, 1) := by decide +kernel
theorem dX6_listingOf_30 : decode cX6_listingOf 30 = .ok (.invokestatic 101, 3) := by decide +kernel
theorem dX6_listingOf_33 : decode cX6_listingOf 33 = .ok (.iadd, 1) := by decide +kernel
theorem dX6_listingOf_34 : decode cX6_listingOf 34 = .ok (.invokestatic 105, 3) := by decide +kernel
theorem dX6_listingOf_37 : decode cX6_listingOf 37 = .ok (.ireturn, 1) := by decide +kernel
theorem dX6_bendNow_0 : decode cX6_bendNow 0 = .ok (.aload_n 0, 1) := by decide +kernel
theorem dX6_bendNow_1 : decode cX6_bendNow 1 = .ok (.getfield 85, 3) := by decide +kernel
theorem dX6_bendNow_4 : decode cX6_bendNow 4 = .ok (.iconst 1, 1) := by decide +kernel
theorem dX6_bendNow_5 : decode cX6_bendNow 5 = .ok (.if_icmp .ne 12, 3) := by decide +kernel
theorem dX6_bendNow_8 : decode cX6_bendNow 8 = .ok (.aload_n 0, 1) := by decide +kernel
theorem dX6_bendNow_9 : decode cX6_bendNow 9 = .ok (.getfield 73, 3) := by decide +kernel
theorem dX6_bendNow_12 : decode cX6_bendNow 12 = .ok (.iconst 2, 1) := by decide +kernel
theorem dX6_bendNow_13 : decode cX6_bendNow 13 = .ok (.idiv, 1) := by decide +kernel
theorem dX6_bendNow_14 : decode cX6_bendNow 14 = .ok (.goto 7, 3) := by decide +kernel
theorem dX6_bendNow_17 : decode cX6_bendNow 17 = .ok (.aload_n 0, 1) := by decide +kernel
theorem dX6_bendNow_18 : decode cX6_bendNow 18 = .ok (.getfield 73, 3) := by decide +kernel
theorem dX6_bendNow_21 : decode cX6_bendNow 21 = .ok (.ireturn, 1) := by decide +kernel
theorem dX6_takingOf_0 : decode cX6_takingOf 0 = .ok (.aload_n 0, 1) := by decide +kernel
theorem dX6_takingOf_1 : decode cX6_takingOf 1 = .ok (.getfield 13, 3) := by decide +kernel
theorem dX6_takingOf_4 : decode cX6_takingOf 4 = .ok (.iload_n 1, 1) := by decide +kernel
theorem dX6_takingOf_5 : decode cX6_takingOf 5 = .ok (.iaload, 1) := by decide +kernel
theorem dX6_takingOf_6 : decode cX6_takingOf 6 = .ok (.istore_n 2, 1) := by decide +kernel
theorem dX6_takingOf_7 : decode cX6_takingOf 7 = .ok (.iload_n 2, 1) := by decide +kernel
theorem dX6_takingOf_8 : decode cX6_takingOf 8 = .ok (.iconst 1, 1) := by decide +kernel
theorem dX6_takingOf_9 : decode cX6_takingOf 9 = .ok (.if_icmp .ne 7, 3) := by decide +kernel
theorem dX6_takingOf_12 : decode cX6_takingOf 12 = .ok (.iconst 1, 1) := by decide +kernel
theorem dX6_takingOf_13 : decode cX6_takingOf 13 = .ok (.goto 22, 3) := by decide +kernel
theorem dX6_takingOf_16 : decode cX6_takingOf 16 = .ok (.iload_n 2, 1) := by decide +kernel
theorem dX6_takingOf_17 : decode cX6_takingOf 17 = .ok (.iconst 2, 1) := by decide +kernel
theorem dX6_takingOf_18 : decode cX6_takingOf 18 = .ok (.if_icmp .ne 7, 3) := by decide +kernel
theorem dX6_takingOf_21 : decode cX6_takingOf 21 = .ok (.iconst 3, 1) := by decide +kernel
theorem dX6_takingOf_22 : decode cX6_takingOf 22 = .ok (.goto 13, 3) := by decide +kernel
theorem dX6_takingOf_25 : decode cX6_takingOf 25 = .ok (.iload_n 2, 1) := by decide +kernel
theorem dX6_takingOf_26 : decode cX6_takingOf 26 = .ok (.iconst 4, 1) := by decide +kernel
theorem dX6_takingOf_27 : decode cX6_takingOf 27 = .ok (.if_icmp .ne 7, 3) := by decide +kernel
theorem dX6_takingOf_30 : decode cX6_takingOf 30 = .ok (.iconst 4, 1) := by decide +kernel
theorem dX6_takingOf_31 : decode cX6_takingOf 31 = .ok (.goto 4, 3) := by decide +kernel
theorem dX6_takingOf_34 : decode cX6_takingOf 34 = .ok (.iconst 2, 1) := by decide +kernel
theorem dX6_takingOf_35 : decode cX6_takingOf 35 = .ok (.ireturn, 1) := by decide +kernel
theorem dX6_carryingOf_0 : decode cX6_carryingOf 0 = .ok (.aload_n 0, 1) := by decide +kernel
theorem dX6_carryingOf_1 : decode cX6_carryingOf 1 = .ok (.getfield 13, 3) := by decide +kernel
theorem dX6_carryingOf_4 : decode cX6_carryingOf 4 = .ok (.iload_n 1, 1) := by decide +kernel
theorem dX6_carryingOf_5 : decode cX6_carryingOf 5 = .ok (.iaload, 1) := by decide +kernel
theorem dX6_carryingOf_6 : decode cX6_carryingOf 6 = .ok (.iconst 4, 1) := by decide +kernel
theorem dX6_carryingOf_7 : decode cX6_carryingOf 7 = .ok (.if_icmp .ne 7, 3) := by decide +kernel
theorem dX6_carryingOf_10 : decode cX6_carryingOf 10 = .ok (.iconst 3, 1) := by decide +kernel
theorem dX6_carryingOf_11 : decode cX6_carryingOf 11 = .ok (.goto 4, 3) := by decide +kernel
theorem dX6_carryingOf_14 : decode cX6_carryingOf 14 = .ok (.iconst 2, 1) := by decide +kernel
theorem dX6_carryingOf_15 : decode cX6_carryingOf 15 = .ok (.ireturn, 1) := by decide +kernel
theorem dX6_bay_0 : decode cX6_bay 0 = .ok (.aload_n 0, 1) := by decide +kernel
theorem dX6_bay_1 : decode cX6_bay 1 = .ok (.getfield 91, 3) := by decide +kernel
theorem dX6_bay_4 : decode cX6_bay 4 = .ok (.ifCond .eq 15, 3) := by decide +kernel
theorem dX6_bay_7 : decode cX6_bay 7 = .ok (.iload_n 1, 1) := by decide +kernel
theorem dX6_bay_8 : decode cX6_bay 8 = .ok (.i2l, 1) := by decide +kernel
theorem dX6_bay_9 : decode cX6_bay 9 = .ok (.lconst 0, 1) := by decide +kernel
theorem dX6_bay_10 : decode cX6_bay 10 = .ok (.ldc2_w 108, 3) := by decide +kernel
theorem dX6_bay_13 : decode cX6_bay 13 = .ok (.invokestatic 47, 3) := by decide +kernel
theorem dX6_bay_16 : decode cX6_bay 16 = .ok (.ifCond .ne 6, 3) := by decide +kernel
theorem dX6_bay_19 : decode cX6_bay 19 = .ok (.bipush (-101), 2) := by decide +kernel
theorem dX6_bay_21 : decode cX6_bay 21 = .ok (.ireturn, 1) := by decide +kernel
theorem dX6_bay_22 : decode cX6_bay 22 = .ok (.iload_n 2, 1) := by decide +kernel
theorem dX6_bay_23 : decode cX6_bay 23 = .ok (.tableswitch 67 0 4 #[33, 40, 40, 55, 61], 33) := by decide +kernel
theorem dX6_bay_56 : decode cX6_bay 56 = .ok (.aload_n 0, 1) := by decide +kernel
theorem dX6_bay_57 : decode cX6_bay 57 = .ok (.getfield 13, 3) := by decide +kernel
theorem dX6_bay_60 : decode cX6_bay 60 = .ok (.iload_n 1, 1) := by decide +kernel
theorem dX6_bay_61 : decode cX6_bay 61 = .ok (.iaload, 1) := by decide +kernel
theorem dX6_bay_62 : decode cX6_bay 62 = .ok (.ireturn, 1) := by decide +kernel
theorem dX6_bay_63 : decode cX6_bay 63 = .ok (.aload_n 0, 1) := by decide +kernel
theorem dX6_bay_64 : decode cX6_bay 64 = .ok (.getfield 70, 3) := by decide +kernel
theorem dX6_bay_67 : decode cX6_bay 67 = .ok (.iconst 2, 1) := by decide +kernel
theorem dX6_bay_68 : decode cX6_bay 68 = .ok (.iload_n 1, 1) := by decide +kernel
theorem dX6_bay_69 : decode cX6_bay 69 = .ok (.imul, 1) := by decide +kernel
theorem dX6_bay_70 : decode cX6_bay 70 = .ok (.iload_n 2, 1) := by decide +kernel
theorem dX6_bay_71 : decode cX6_bay 71 = .ok (.iadd, 1) := by decide +kernel
theorem dX6_bay_72 : decode cX6_bay 72 = .ok (.iconst 1, 1) := by decide +kernel
theorem dX6_bay_73 : decode cX6_bay 73 = .ok (.isub, 1) := by decide +kernel
theorem dX6_bay_74 : decode cX6_bay 74 = .ok (.invokestatic 101, 3) := by decide +kernel
theorem dX6_bay_77 : decode cX6_bay 77 = .ok (.ireturn, 1) := by decide +kernel
theorem dX6_bay_78 : decode cX6_bay 78 = .ok (.aload_n 0, 1) := by decide +kernel
theorem dX6_bay_79 : decode cX6_bay 79 = .ok (.iload_n 1, 1) := by decide +kernel
theorem dX6_bay_80 : decode cX6_bay 80 = .ok (.invokevirtual 110, 3) := by decide +kernel
theorem dX6_bay_83 : decode cX6_bay 83 = .ok (.ireturn, 1) := by decide +kernel
theorem dX6_bay_84 : decode cX6_bay 84 = .ok (.aload_n 0, 1) := by decide +kernel
theorem dX6_bay_85 : decode cX6_bay 85 = .ok (.iload_n 1, 1) := by decide +kernel
theorem dX6_bay_86 : decode cX6_bay 86 = .ok (.invokevirtual 113, 3) := by decide +kernel
theorem dX6_bay_89 : decode cX6_bay 89 = .ok (.ireturn, 1) := by decide +kernel
theorem dX6_bay_90 : decode cX6_bay 90 = .ok (.bipush (-102), 2) := by decide +kernel
theorem dX6_bay_92 : decode cX6_bay 92 = .ok (.ireturn, 1) := by decide +kernel
theorem dX6_as_0 : decode cX6_as 0 = .ok (.aload_n 0, 1) := by decide +kernel
theorem dX6_as_1 : decode cX6_as 1 = .ok (.getfield 91, 3) := by decide +kernel
theorem dX6_as_4 : decode cX6_as 4 = .ok (.ifCond .eq 15, 3) := by decide +kernel
theorem dX6_as_7 : decode cX6_as 7 = .ok (.iload_n 1, 1) := by decide +kernel
theorem dX6_as_8 : decode cX6_as 8 = .ok (.i2l, 1) := by decide +kernel
theorem dX6_as_9 : decode cX6_as 9 = .ok (.lconst 0, 1) := by decide +kernel
theorem dX6_as_10 : decode cX6_as 10 = .ok (.ldc2_w 108, 3) := by decide +kernel
theorem dX6_as_13 : decode cX6_as 13 = .ok (.invokestatic 47, 3) := by decide +kernel
theorem dX6_as_16 : decode cX6_as 16 = .ok (.ifCond .ne 6, 3) := by decide +kernel
theorem dX6_as_19 : decode cX6_as 19 = .ok (.bipush (-101), 2) := by decide +kernel
theorem dX6_as_21 : decode cX6_as 21 = .ok (.ireturn, 1) := by decide +kernel
theorem dX6_as_22 : decode cX6_as 22 = .ok (.iload_n 2, 1) := by decide +kernel
theorem dX6_as_23 : decode cX6_as 23 = .ok (.i2l, 1) := by decide +kernel
theorem dX6_as_24 : decode cX6_as 24 = .ok (.lconst 0, 1) := by decide +kernel
theorem dX6_as_25 : decode cX6_as 25 = .ok (.ldc2_w 116, 3) := by decide +kernel
theorem dX6_as_28 : decode cX6_as 28 = .ok (.invokestatic 47, 3) := by decide +kernel
theorem dX6_as_31 : decode cX6_as 31 = .ok (.ifCond .ne 6, 3) := by decide +kernel
theorem dX6_as_34 : decode cX6_as 34 = .ok (.bipush (-102), 2) := by decide +kernel
theorem dX6_as_36 : decode cX6_as 36 = .ok (.ireturn, 1) := by decide +kernel
theorem dX6_as_37 : decode cX6_as 37 = .ok (.iload_n 2, 1) := by decide +kernel
theorem dX6_as_38 : decode cX6_as 38 = .ok (.ifCond .eq 28, 3) := by decide +kernel
theorem dX6_as_41 : decode cX6_as 41 = .ok (.iload_n 2, 1) := by decide +kernel
theorem dX6_as_42 : decode cX6_as 42 = .ok (.aload_n 0, 1) := by decide +kernel
theorem dX6_as_43 : decode cX6_as 43 = .ok (.getfield 13, 3) := by decide +kernel
theorem dX6_as_46 : decode cX6_as 46 = .ok (.iload_n 1, 1) := by decide +kernel
theorem dX6_as_47 : decode cX6_as 47 = .ok (.iaload, 1) := by decide +kernel
theorem dX6_as_48 : decode cX6_as 48 = .ok (.if_icmp .eq 18, 3) := by decide +kernel
theorem dX6_as_51 : decode cX6_as 51 = .ok (.iload_n 2, 1) := by decide +kernel
theorem dX6_as_52 : decode cX6_as 52 = .ok (.iconst 2, 1) := by decide +kernel
theorem dX6_as_53 : decode cX6_as 53 = .ok (.if_icmp .ne 17, 3) := by decide +kernel
theorem dX6_as_56 : decode cX6_as 56 = .ok (.aload_n 0, 1) := by decide +kernel
theorem dX6_as_57 : decode cX6_as 57 = .ok (.getfield 13, 3) := by decide +kernel
theorem dX6_as_60 : decode cX6_as 60 = .ok (.iload_n 1, 1) := by decide +kernel
theorem dX6_as_61 : decode cX6_as 61 = .ok (.iaload, 1) := by decide +kernel
theorem dX6_as_62 : decode cX6_as 62 = .ok (.iconst 4, 1) := by decide +kernel
theorem dX6_as_63 : decode cX6_as 63 = .ok (.if_icmp .ne 7, 3) := by decide +kernel
theorem dX6_as_66 : decode cX6_as 66 = .ok (.iconst 1, 1) := by decide +kernel
theorem dX6_as_67 : decode cX6_as 67 = .ok (.goto 4, 3) := by decide +kernel
theorem dX6_as_70 : decode cX6_as 70 = .ok (.iconst 0, 1) := by decide +kernel
theorem dX6_as_71 : decode cX6_as 71 = .ok (.istore_n 3, 1) := by decide +kernel
theorem dX6_as_72 : decode cX6_as 72 = .ok (.iload_n 3, 1) := by decide +kernel
theorem dX6_as_73 : decode cX6_as 73 = .ok (.ifCond .eq 7, 3) := by decide +kernel
theorem dX6_as_76 : decode cX6_as 76 = .ok (.iload_n 1, 1) := by decide +kernel
theorem dX6_as_77 : decode cX6_as 77 = .ok (.goto 4, 3) := by decide +kernel
theorem dX6_as_80 : decode cX6_as 80 = .ok (.iconst (-1), 1) := by decide +kernel
theorem dX6_as_81 : decode cX6_as 81 = .ok (.ireturn, 1) := by decide +kernel
theorem dX6_ground_0 : decode cX6_ground 0 = .ok (.aload_n 0, 1) := by decide +kernel
theorem dX6_ground_1 : decode cX6_ground 1 = .ok (.getfield 91, 3) := by decide +kernel
theorem dX6_ground_4 : decode cX6_ground 4 = .ok (.ifCond .ne 6, 3) := by decide +kernel
theorem dX6_ground_7 : decode cX6_ground 7 = .ok (.bipush (-103), 2) := by decide +kernel
theorem dX6_ground_9 : decode cX6_ground 9 = .ok (.ireturn, 1) := by decide +kernel
theorem dX6_ground_10 : decode cX6_ground 10 = .ok (.aload_n 0, 1) := by decide +kernel
theorem dX6_ground_11 : decode cX6_ground 11 = .ok (.getfield 85, 3) := by decide +kernel
theorem dX6_ground_14 : decode cX6_ground 14 = .ok (.istore_n 2, 1) := by decide +kernel
theorem dX6_ground_15 : decode cX6_ground 15 = .ok (.aload_n 0, 1) := by decide +kernel
theorem dX6_ground_16 : decode cX6_ground 16 = .ok (.iload_n 1, 1) := by decide +kernel
theorem dX6_ground_17 : decode cX6_ground 17 = .ok (.ifCond .eq 7, 3) := by decide +kernel
theorem dX6_ground_20 : decode cX6_ground 20 = .ok (.iconst 1, 1) := by decide +kernel
theorem dX6_ground_21 : decode cX6_ground 21 = .ok (.goto 4, 3) := by decide +kernel
theorem dX6_ground_24 : decode cX6_ground 24 = .ok (.iconst 0, 1) := by decide +kernel
theorem dX6_ground_25 : decode cX6_ground 25 = .ok (.putfield 85, 3) := by decide +kernel
theorem dX6_ground_28 : decode cX6_ground 28 = .ok (.iload_n 2, 1) := by decide +kernel
theorem dX6_ground_29 : decode cX6_ground 29 = .ok (.ireturn, 1) := by decide +kernel
theorem dX6_bears_0 : decode cX6_bears 0 = .ok (.iload_n 1, 1) := by decide +kernel
theorem dX6_bears_1 : decode cX6_bears 1 = .ok (.invokestatic 118, 3) := by decide +kernel
theorem dX6_bears_4 : decode cX6_bears 4 = .ok (.iload_n 2, 1) := by decide +kernel
theorem dX6_bears_5 : decode cX6_bears 5 = .ok (.if_icmp .gt 18, 3) := by decide +kernel
theorem dX6_bears_8 : decode cX6_bears 8 = .ok (.iload_n 1, 1) := by decide +kernel
theorem dX6_bears_9 : decode cX6_bears 9 = .ok (.invokestatic 121, 3) := by decide +kernel
theorem dX6_bears_12 : decode cX6_bears 12 = .ok (.aload_n 0, 1) := by decide +kernel
theorem dX6_bears_13 : decode cX6_bears 13 = .ok (.getfield 76, 3) := by decide +kernel
theorem dX6_bears_16 : decode cX6_bears 16 = .ok (.if_icmp .gt 7, 3) := by decide +kernel
theorem dX6_bears_19 : decode cX6_bears 19 = .ok (.iconst 1, 1) := by decide +kernel
theorem dX6_bears_20 : decode cX6_bears 20 = .ok (.goto 4, 3) := by decide +kernel
theorem dX6_bears_23 : decode cX6_bears 23 = .ok (.iconst 0, 1) := by decide +kernel
theorem dX6_bears_24 : decode cX6_bears 24 = .ok (.ireturn, 1) := by decide +kernel
theorem dX6_hullOf_0 : decode cX6_hullOf 0 = .ok (.iload_n 1, 1) := by decide +kernel
theorem dX6_hullOf_1 : decode cX6_hullOf 1 = .ok (.ifCond .ne 13, 3) := by decide +kernel
theorem dX6_hullOf_4 : decode cX6_hullOf 4 = .ok (.aload_n 0, 1) := by decide +kernel
theorem dX6_hullOf_5 : decode cX6_hullOf 5 = .ok (.getfield 70, 3) := by decide +kernel
theorem dX6_hullOf_8 : decode cX6_hullOf 8 = .ok (.invokestatic 118, 3) := by decide +kernel
theorem dX6_hullOf_11 : decode cX6_hullOf 11 = .ok (.goto 50, 3) := by decide +kernel
theorem dX6_hullOf_14 : decode cX6_hullOf 14 = .ok (.iload_n 1, 1) := by decide +kernel
theorem dX6_hullOf_15 : decode cX6_hullOf 15 = .ok (.iconst 1, 1) := by decide +kernel
theorem dX6_hullOf_16 : decode cX6_hullOf 16 = .ok (.if_icmp .ne 13, 3) := by decide +kernel
theorem dX6_hullOf_19 : decode cX6_hullOf 19 = .ok (.aload_n 0, 1) := by decide +kernel
theorem dX6_hullOf_20 : decode cX6_hullOf 20 = .ok (.getfield 70, 3) := by decide +kernel
theorem dX6_hullOf_23 : decode cX6_hullOf 23 = .ok (.invokestatic 121, 3) := by decide +kernel
theorem dX6_hullOf_26 : decode cX6_hullOf 26 = .ok (.goto 35, 3) := by decide +kernel
theorem dX6_hullOf_29 : decode cX6_hullOf 29 = .ok (.iload_n 1, 1) := by decide +kernel
theorem dX6_hullOf_30 : decode cX6_hullOf 30 = .ok (.iconst 2, 1) := by decide +kernel
theorem dX6_hullOf_31 : decode cX6_hullOf 31 = .ok (.if_icmp .ne 26, 3) := by decide +kernel
theorem dX6_hullOf_34 : decode cX6_hullOf 34 = .ok (.aload_n 0, 1) := by decide +kernel
theorem dX6_hullOf_35 : decode cX6_hullOf 35 = .ok (.aload_n 0, 1) := by decide +kernel
theorem dX6_hullOf_36 : decode cX6_hullOf 36 = .ok (.getfield 70, 3) := by decide +kernel
theorem dX6_hullOf_39 : decode cX6_hullOf 39 = .ok (.aload_n 0, 1) := by decide +kernel
theorem dX6_hullOf_40 : decode cX6_hullOf 40 = .ok (.invokevirtual 124, 3) := by decide +kernel
theorem dX6_hullOf_43 : decode cX6_hullOf 43 = .ok (.invokevirtual 127, 3) := by decide +kernel
theorem dX6_hullOf_46 : decode cX6_hullOf 46 = .ok (.ifCond .eq 7, 3) := by decide +kernel
theorem dX6_hullOf_49 : decode cX6_hullOf 49 = .ok (.iconst 1, 1) := by decide +kernel
theorem dX6_hullOf_50 : decode cX6_hullOf 50 = .ok (.goto 11, 3) := by decide +kernel
theorem dX6_hullOf_53 : decode cX6_hullOf 53 = .ok (.iconst 0, 1) := by decide +kernel
theorem dX6_hullOf_54 : decode cX6_hullOf 54 = .ok (.goto 7, 3) := by decide +kernel
theorem dX6_hullOf_57 : decode cX6_hullOf 57 = .ok (.aload_n 0, 1) := by decide +kernel
theorem dX6_hullOf_58 : decode cX6_hullOf 58 = .ok (.invokevirtual 124, 3) := by decide +kernel
theorem dX6_hullOf_61 : decode cX6_hullOf 61 = .ok (.ireturn, 1) := by decide +kernel
theorem dX6_hull_0 : decode cX6_hull 0 = .ok (.iload_n 1, 1) := by decide +kernel
theorem dX6_hull_1 : decode cX6_hull 1 = .ok (.i2l, 1) := by decide +kernel
theorem dX6_hull_2 : decode cX6_hull 2 = .ok (.lconst 0, 1) := by decide +kernel
theorem dX6_hull_3 : decode cX6_hull 3 = .ok (.ldc2_w 60, 3) := by decide +kernel
theorem dX6_hull_6 : decode cX6_hull 6 = .ok (.invokestatic 47, 3) := by decide +kernel
theorem dX6_hull_9 : decode cX6_hull 9 = .ok (.ifCond .ne 6, 3) := by decide +kernel
theorem dX6_hull_12 : decode cX6_hull 12 = .ok (.bipush (-102), 2) := by decide +kernel
theorem dX6_hull_14 : decode cX6_hull 14 = .ok (.ireturn, 1) := by decide +kernel
theorem dX6_hull_15 : decode cX6_hull 15 = .ok (.aload_n 0, 1) := by decide +kernel
theorem dX6_hull_16 : decode cX6_hull 16 = .ok (.getfield 91, 3) := by decide +kernel
theorem dX6_hull_19 : decode cX6_hull 19 = .ok (.ifCond .eq 11, 3) := by decide +kernel
theorem dX6_hull_22 : decode cX6_hull 22 = .ok (.aload_n 0, 1) := by decide +kernel
theorem dX6_hull_23 : decode cX6_hull 23 = .ok (.iload_n 1, 1) := by decide +kernel
theorem dX6_hull_24 : decode cX6_hull 24 = .ok (.invokevirtual 130, 3) := by decide +kernel
theorem dX6_hull_27 : decode cX6_hull 27 = .ok (.goto 5, 3) := by decide +kernel
theorem dX6_hull_30 : decode cX6_hull 30 = .ok (.bipush (-103), 2) := by decide +kernel
theorem dX6_hull_32 : decode cX6_hull 32 = .ok (.ireturn, 1) := by decide +kernel
theorem dX6_isAct_0 : decode cX6_isAct 0 = .ok (.iload_n 0, 1) := by decide +kernel
theorem dX6_isAct_1 : decode cX6_isAct 1 = .ok (.i2l, 1) := by decide +kernel
theorem dX6_isAct_2 : decode cX6_isAct 2 = .ok (.lconst 0, 1) := by decide +kernel
theorem dX6_isAct_3 : decode cX6_isAct 3 = .ok (.ldc2_w 133, 3) := by decide +kernel
theorem dX6_isAct_6 : decode cX6_isAct 6 = .ok (.invokestatic 47, 3) := by decide +kernel
theorem dX6_isAct_9 : decode cX6_isAct 9 = .ok (.ifCond .ne 5, 3) := by decide +kernel
theorem dX6_isAct_12 : decode cX6_isAct 12 = .ok (.iconst 0, 1) := by decide +kernel
theorem dX6_isAct_13 : decode cX6_isAct 13 = .ok (.ireturn, 1) := by decide +kernel
theorem dX6_isAct_14 : decode cX6_isAct 14 = .ok (.iload_n 0, 1) := by decide +kernel
theorem dX6_isAct_15 : decode cX6_isAct 15 = .ok (.bipush 6, 2) := by decide +kernel
theorem dX6_isAct_17 : decode cX6_isAct 17 = .ok (.idiv, 1) := by decide +kernel
theorem dX6_isAct_18 : decode cX6_isAct 18 = .ok (.iconst 1, 1) := by decide +kernel
theorem dX6_isAct_19 : decode cX6_isAct 19 = .ok (.isub, 1) := by decide +kernel
theorem dX6_isAct_20 : decode cX6_isAct 20 = .ok (.istore_n 1, 1) := by decide +kernel
theorem dX6_isAct_21 : decode cX6_isAct 21 = .ok (.iload_n 0, 1) := by decide +kernel
theorem dX6_isAct_22 : decode cX6_isAct 22 = .ok (.bipush 6, 2) := by decide +kernel
theorem dX6_isAct_24 : decode cX6_isAct 24 = .ok (.irem, 1) := by decide +kernel
theorem dX6_isAct_25 : decode cX6_isAct 25 = .ok (.istore_n 2, 1) := by decide +kernel
theorem dX6_isAct_26 : decode cX6_isAct 26 = .ok (.iload_n 0, 1) := by decide +kernel
theorem dX6_isAct_27 : decode cX6_isAct 27 = .ok (.bipush 6, 2) := by decide +kernel
theorem dX6_isAct_29 : decode cX6_isAct 29 = .ok (.if_icmp .lt 26, 3) := by decide +kernel
theorem dX6_isAct_32 : decode cX6_isAct 32 = .ok (.iload_n 1, 1) := by decide +kernel
theorem dX6_isAct_33 : decode cX6_isAct 33 = .ok (.iconst 2, 1) := by decide +kernel
theorem dX6_isAct_34 : decode cX6_isAct 34 = .ok (.idiv, 1) := by decide +kernel
theorem dX6_isAct_35 : decode cX6_isAct 35 = .ok (.iload_n 2, 1) := by decide +kernel
theorem dX6_isAct_36 : decode cX6_isAct 36 = .ok (.iconst 2, 1) := by decide +kernel
theorem dX6_isAct_37 : decode cX6_isAct 37 = .ok (.idiv, 1) := by decide +kernel
theorem dX6_isAct_38 : decode cX6_isAct 38 = .ok (.if_icmp .ne 8, 3) := by decide +kernel
theorem dX6_isAct_41 : decode cX6_isAct 41 = .ok (.iload_n 1, 1) := by decide +kernel
theorem dX6_isAct_42 : decode cX6_isAct 42 = .ok (.iload_n 2, 1) := by decide +kernel
theorem dX6_isAct_43 : decode cX6_isAct 43 = .ok (.if_icmp .ne 12, 3) := by decide +kernel
theorem dX6_isAct_46 : decode cX6_isAct 46 = .ok (.iload_n 1, 1) := by decide +kernel
theorem dX6_isAct_47 : decode cX6_isAct 47 = .ok (.iload_n 2, 1) := by decide +kernel
theorem dX6_isAct_48 : decode cX6_isAct 48 = .ok (.invokestatic 105, 3) := by decide +kernel
theorem dX6_isAct_51 : decode cX6_isAct 51 = .ok (.iconst 2, 1) := by decide +kernel
theorem dX6_isAct_52 : decode cX6_isAct 52 = .ok (.if_icmp .ne 7, 3) := by decide +kernel
theorem dX6_isAct_55 : decode cX6_isAct 55 = .ok (.iconst 1, 1) := by decide +kernel
theorem dX6_isAct_56 : decode cX6_isAct 56 = .ok (.goto 4, 3) := by decide +kernel
theorem dX6_isAct_59 : decode cX6_isAct 59 = .ok (.iconst 0, 1) := by decide +kernel
theorem dX6_isAct_60 : decode cX6_isAct 60 = .ok (.ireturn, 1) := by decide +kernel
theorem dX6_behind_0 : decode cX6_behind 0 = .ok (.iload_n 2, 1) := by decide +kernel
theorem dX6_behind_1 : decode cX6_behind 1 = .ok (.bipush 6, 2) := by decide +kernel
theorem dX6_behind_3 : decode cX6_behind 3 = .ok (.if_icmp .ge 7, 3) := by decide +kernel
theorem dX6_behind_6 : decode cX6_behind 6 = .ok (.iload_n 2, 1) := by decide +kernel
theorem dX6_behind_7 : decode cX6_behind 7 = .ok (.goto 9, 3) := by decide +kernel
theorem dX6_behind_10 : decode cX6_behind 10 = .ok (.iload_n 2, 1) := by decide +kernel
theorem dX6_behind_11 : decode cX6_behind 11 = .ok (.bipush 6, 2) := by decide +kernel
theorem dX6_behind_13 : decode cX6_behind 13 = .ok (.idiv, 1) := by decide +kernel
theorem dX6_behind_14 : decode cX6_behind 14 = .ok (.iconst 1, 1) := by decide +kernel
theorem dX6_behind_15 : decode cX6_behind 15 = .ok (.isub, 1) := by decide +kernel
theorem dX6_behind_16 : decode cX6_behind 16 = .ok (.istore_n 3, 1) := by decide +kernel
theorem dX6_behind_17 : decode cX6_behind 17 = .ok (.iload_n 2, 1) := by decide +kernel
theorem dX6_behind_18 : decode cX6_behind 18 = .ok (.bipush 6, 2) := by decide +kernel
theorem dX6_behind_20 : decode cX6_behind 20 = .ok (.if_icmp .ge 7, 3) := by decide +kernel
theorem dX6_behind_23 : decode cX6_behind 23 = .ok (.iconst (-1), 1) := by decide +kernel
theorem dX6_behind_24 : decode cX6_behind 24 = .ok (.goto 7, 3) := by decide +kernel
theorem dX6_behind_27 : decode cX6_behind 27 = .ok (.iload_n 2, 1) := by decide +kernel
theorem dX6_behind_28 : decode cX6_behind 28 = .ok (.bipush 6, 2) := by decide +kernel
theorem dX6_behind_30 : decode cX6_behind 30 = .ok (.irem, 1) := by decide +kernel
theorem dX6_behind_31 : decode cX6_behind 31 = .ok (.istore 4, 2) := by decide +kernel
theorem dX6_behind_33 : decode cX6_behind 33 = .ok (.iload_n 1, 1) := by decide +kernel
theorem dX6_behind_34 : decode cX6_behind 34 = .ok (.iload_n 3, 1) := by decide +kernel
theorem dX6_behind_35 : decode cX6_behind 35 = .ok (.invokestatic 101, 3) := by decide +kernel
theorem dX6_behind_38 : decode cX6_behind 38 = .ok (.ifCond .eq 19, 3) := by decide +kernel
theorem dX6_behind_41 : decode cX6_behind 41 = .ok (.iload 4, 2) := by decide +kernel
theorem dX6_behind_43 : decode cX6_behind 43 = .ok (.iconst (-1), 1) := by decide +kernel
theorem dX6_behind_44 : decode cX6_behind 44 = .ok (.if_icmp .eq 15, 3) := by decide +kernel
theorem dX6_behind_47 : decode cX6_behind 47 = .ok (.iload_n 1, 1) := by decide +kernel
theorem dX6_behind_48 : decode cX6_behind 48 = .ok (.iload 4, 2) := by decide +kernel
theorem dX6_behind_50 : decode cX6_behind 50 = .ok (.invokestatic 101, 3) := by decide +kernel
theorem dX6_behind_53 : decode cX6_behind 53 = .ok (.iconst 3, 1) := by decide +kernel
theorem dX6_behind_54 : decode cX6_behind 54 = .ok (.if_icmp .ne 5, 3) := by decide +kernel
theorem dX6_behind_57 : decode cX6_behind 57 = .ok (.iconst (-1), 1) := by decide +kernel
theorem dX6_behind_58 : decode cX6_behind 58 = .ok (.ireturn, 1) := by decide +kernel
theorem dX6_behind_59 : decode cX6_behind 59 = .ok (.iload_n 1, 1) := by decide +kernel
theorem dX6_behind_60 : decode cX6_behind 60 = .ok (.iconst 1, 1) := by decide +kernel
theorem dX6_behind_61 : decode cX6_behind 61 = .ok (.iconst 2, 1) := by decide +kernel
theorem dX6_behind_62 : decode cX6_behind 62 = .ok (.iload_n 3, 1) := by decide +kernel
theorem dX6_behind_63 : decode cX6_behind 63 = .ok (.imul, 1) := by decide +kernel
theorem dX6_behind_64 : decode cX6_behind 64 = .ok (.ishl, 1) := by decide +kernel
theorem dX6_behind_65 : decode cX6_behind 65 = .ok (.isub, 1) := by decide +kernel
theorem dX6_behind_66 : decode cX6_behind 66 = .ok (.iload 4, 2) := by decide +kernel
theorem dX6_behind_68 : decode cX6_behind 68 = .ok (.iconst (-1), 1) := by decide +kernel
theorem dX6_behind_69 : decode cX6_behind 69 = .ok (.if_icmp .ne 7, 3) := by decide +kernel
theorem dX6_behind_72 : decode cX6_behind 72 = .ok (.iconst 0, 1) := by decide +kernel
theorem dX6_behind_73 : decode cX6_behind 73 = .ok (.goto 9, 3) := by decide +kernel
theorem dX6_behind_76 : decode cX6_behind 76 = .ok (.iconst 1, 1) := by decide +kernel
theorem dX6_behind_77 : decode cX6_behind 77 = .ok (.iconst 2, 1) := by decide +kernel
theorem dX6_behind_78 : decode cX6_behind 78 = .ok (.iload 4, 2) := by decide +kernel
theorem dX6_behind_80 : decode cX6_behind 80 = .ok (.imul, 1) := by decide +kernel
theorem dX6_behind_81 : decode cX6_behind 81 = .ok (.ishl, 1) := by decide +kernel
theorem dX6_behind_82 : decode cX6_behind 82 = .ok (.iadd, 1) := by decide +kernel
theorem dX6_behind_83 : decode cX6_behind 83 = .ok (.istore 5, 2) := by decide +kernel
theorem dX6_behind_85 : decode cX6_behind 85 = .ok (.iconst 0, 1) := by decide +kernel
theorem dX6_behind_86 : decode cX6_behind 86 = .ok (.istore 6, 2) := by decide +kernel
theorem dX6_behind_88 : decode cX6_behind 88 = .ok (.iload 6, 2) := by decide +kernel
theorem dX6_behind_90 : decode cX6_behind 90 = .ok (.iconst 3, 1) := by decide +kernel
theorem dX6_behind_91 : decode cX6_behind 91 = .ok (.if_icmp .ge 88, 3) := by decide +kernel
theorem dX6_behind_94 : decode cX6_behind 94 = .ok (.iload 5, 2) := by decide +kernel
theorem dX6_behind_96 : decode cX6_behind 96 = .ok (.iconst 2, 1) := by decide +kernel
theorem dX6_behind_97 : decode cX6_behind 97 = .ok (.iload 6, 2) := by decide +kernel
theorem dX6_behind_99 : decode cX6_behind 99 = .ok (.imul, 1) := by decide +kernel
theorem dX6_behind_100 : decode cX6_behind 100 = .ok (.invokestatic 101, 3) := by decide +kernel
theorem dX6_behind_103 : decode cX6_behind 103 = .ok (.iload 5, 2) := by decide +kernel
theorem dX6_behind_105 : decode cX6_behind 105 = .ok (.iconst 2, 1) := by decide +kernel
theorem dX6_behind_106 : decode cX6_behind 106 = .ok (.iload 6, 2) := by decide +kernel
theorem dX6_behind_108 : decode cX6_behind 108 = .ok (.imul, 1) := by decide +kernel
theorem dX6_behind_109 : decode cX6_behind 109 = .ok (.iconst 1, 1) := by decide +kernel
theorem dX6_behind_110 : decode cX6_behind 110 = .ok (.iadd, 1) := by decide +kernel
theorem dX6_behind_111 : decode cX6_behind 111 = .ok (.invokestatic 101, 3) := by decide +kernel
theorem dX6_behind_114 : decode cX6_behind 114 = .ok (.isub, 1) := by decide +kernel
theorem dX6_behind_115 : decode cX6_behind 115 = .ok (.istore 7, 2) := by decide +kernel
theorem dX6_behind_117 : decode cX6_behind 117 = .ok (.iconst 1, 1) := by decide +kernel
theorem dX6_behind_118 : decode cX6_behind 118 = .ok (.iconst 4, 1) := by decide +kernel
theorem dX6_behind_119 : decode cX6_behind 119 = .ok (.iload 6, 2) := by decide +kernel
theorem dX6_behind_121 : decode cX6_behind 121 = .ok (.imul, 1) := by decide +kernel
theorem dX6_behind_122 : decode cX6_behind 122 = .ok (.iconst 2, 1) := by decide +kernel
theorem dX6_behind_123 : decode cX6_behind 123 = .ok (.iadd, 1) := by decide +kernel
theorem dX6_behind_124 : decode cX6_behind 124 = .ok (.ishl, 1) := by decide +kernel
theorem dX6_behind_125 : decode cX6_behind 125 = .ok (.iconst 1, 1) := by decide +kernel
theorem dX6_behind_126 : decode cX6_behind 126 = .ok (.iconst 4, 1) := by decide +kernel
theorem dX6_behind_127 : decode cX6_behind 127 = .ok (.iload 6, 2) := by decide +kernel
theorem dX6_behind_129 : decode cX6_behind 129 = .ok (.imul, 1) := by decide +kernel
theorem dX6_behind_130 : decode cX6_behind 130 = .ok (.ishl, 1) := by decide +kernel
theorem dX6_behind_131 : decode cX6_behind 131 = .ok (.isub, 1) := by decide +kernel
theorem dX6_behind_132 : decode cX6_behind 132 = .ok (.istore 8, 2) := by decide +kernel
theorem dX6_behind_134 : decode cX6_behind 134 = .ok (.aload_n 0, 1) := by decide +kernel
theorem dX6_behind_135 : decode cX6_behind 135 = .ok (.getfield 13, 3) := by decide +kernel
theorem dX6_behind_138 : decode cX6_behind 138 = .ok (.iload 6, 2) := by decide +kernel
theorem dX6_behind_140 : decode cX6_behind 140 = .ok (.iaload, 1) := by decide +kernel
theorem dX6_behind_141 : decode cX6_behind 141 = .ok (.iconst 3, 1) := by decide +kernel
theorem dX6_behind_142 : decode cX6_behind 142 = .ok (.if_icmp .ne 31, 3) := by decide +kernel
theorem dX6_behind_145 : decode cX6_behind 145 = .ok (.iload 7, 2) := by decide +kernel
theorem dX6_behind_147 : decode cX6_behind 147 = .ok (.iconst 0, 1) := by decide +kernel
theorem dX6_behind_148 : decode cX6_behind 148 = .ok (.invokestatic 105, 3) := by decide +kernel
theorem dX6_behind_151 : decode cX6_behind 151 = .ok (.iconst 1, 1) := by decide +kernel
theorem dX6_behind_152 : decode cX6_behind 152 = .ok (.if_icmp .le 21, 3) := by decide +kernel
theorem dX6_behind_155 : decode cX6_behind 155 = .ok (.iload 5, 2) := by decide +kernel
theorem dX6_behind_157 : decode cX6_behind 157 = .ok (.iload 7, 2) := by decide +kernel
theorem dX6_behind_159 : decode cX6_behind 159 = .ok (.ifCond .le 8, 3) := by decide +kernel
theorem dX6_behind_162 : decode cX6_behind 162 = .ok (.iload 8, 2) := by decide +kernel
theorem dX6_behind_164 : decode cX6_behind 164 = .ok (.goto 6, 3) := by decide +kernel
theorem dX6_behind_167 : decode cX6_behind 167 = .ok (.iload 8, 2) := by decide +kernel
theorem dX6_behind_169 : decode cX6_behind 169 = .ok (.ineg, 1) := by decide +kernel
theorem dX6_behind_170 : decode cX6_behind 170 = .ok (.iadd, 1) := by decide +kernel
theorem dX6_behind_171 : decode cX6_behind 171 = .ok (.istore 5, 2) := by decide +kernel
theorem dX6_behind_173 : decode cX6_behind 173 = .ok (.iinc 6 1, 3) := by decide +kernel
theorem dX6_behind_176 : decode cX6_behind 176 = .ok (.goto (-88), 3) := by decide +kernel
theorem dX6_behind_179 : decode cX6_behind 179 = .ok (.iload 5, 2) := by decide +kernel
theorem dX6_behind_181 : decode cX6_behind 181 = .ok (.ireturn, 1) := by decide +kernel
theorem dX6_goes_0 : decode cX6_goes 0 = .ok (.iload_n 2, 1) := by decide +kernel
theorem dX6_goes_1 : decode cX6_goes 1 = .ok (.invokestatic 135, 3) := by decide +kernel
theorem dX6_goes_4 : decode cX6_goes 4 = .ok (.ifCond .eq 12, 3) := by decide +kernel
theorem dX6_goes_7 : decode cX6_goes 7 = .ok (.aload_n 0, 1) := by decide +kernel
theorem dX6_goes_8 : decode cX6_goes 8 = .ok (.iload_n 1, 1) := by decide +kernel
theorem dX6_goes_9 : decode cX6_goes 9 = .ok (.iload_n 2, 1) := by decide +kernel
theorem dX6_goes_10 : decode cX6_goes 10 = .ok (.invokevirtual 139, 3) := by decide +kernel
theorem dX6_goes_13 : decode cX6_goes 13 = .ok (.goto 4, 3) := by decide +kernel
theorem dX6_goes_16 : decode cX6_goes 16 = .ok (.iconst (-1), 1) := by decide +kernel
theorem dX6_goes_17 : decode cX6_goes 17 = .ok (.istore 4, 2) := by decide +kernel
theorem dX6_goes_19 : decode cX6_goes 19 = .ok (.iload 4, 2) := by decide +kernel
theorem dX6_goes_21 : decode cX6_goes 21 = .ok (.iconst (-1), 1) := by decide +kernel
theorem dX6_goes_22 : decode cX6_goes 22 = .ok (.if_icmp .eq 18, 3) := by decide +kernel
theorem dX6_goes_25 : decode cX6_goes 25 = .ok (.aload_n 0, 1) := by decide +kernel
theorem dX6_goes_26 : decode cX6_goes 26 = .ok (.iload 4, 2) := by decide +kernel
theorem dX6_goes_28 : decode cX6_goes 28 = .ok (.iload_n 3, 1) := by decide +kernel
theorem dX6_goes_29 : decode cX6_goes 29 = .ok (.invokevirtual 127, 3) := by decide +kernel
theorem dX6_goes_32 : decode cX6_goes 32 = .ok (.ifCond .eq 8, 3) := by decide +kernel
theorem dX6_goes_35 : decode cX6_goes 35 = .ok (.iload 4, 2) := by decide +kernel
theorem dX6_goes_37 : decode cX6_goes 37 = .ok (.goto 4, 3) := by decide +kernel
theorem dX6_goes_40 : decode cX6_goes 40 = .ok (.iconst (-1), 1) := by decide +kernel
theorem dX6_goes_41 : decode cX6_goes 41 = .ok (.ireturn, 1) := by decide +kernel
theorem dX6_lasts_0 : decode cX6_lasts 0 = .ok (.iload_n 1, 1) := by decide +kernel
theorem dX6_lasts_1 : decode cX6_lasts 1 = .ok (.bipush 6, 2) := by decide +kernel
theorem dX6_lasts_3 : decode cX6_lasts 3 = .ok (.if_icmp .ge 13, 3) := by decide +kernel
theorem dX6_lasts_6 : decode cX6_lasts 6 = .ok (.aload_n 0, 1) := by decide +kernel
theorem dX6_lasts_7 : decode cX6_lasts 7 = .ok (.iload_n 1, 1) := by decide +kernel
theorem dX6_lasts_8 : decode cX6_lasts 8 = .ok (.iconst 2, 1) := by decide +kernel
theorem dX6_lasts_9 : decode cX6_lasts 9 = .ok (.idiv, 1) := by decide +kernel
theorem dX6_lasts_10 : decode cX6_lasts 10 = .ok (.invokevirtual 110, 3) := by decide +kernel
theorem dX6_lasts_13 : decode cX6_lasts 13 = .ok (.goto 15, 3) := by decide +kernel
theorem dX6_lasts_16 : decode cX6_lasts 16 = .ok (.aload_n 0, 1) := by decide +kernel
theorem dX6_lasts_17 : decode cX6_lasts 17 = .ok (.iload_n 1, 1) := by decide +kernel
theorem dX6_lasts_18 : decode cX6_lasts 18 = .ok (.bipush 6, 2) := by decide +kernel
theorem dX6_lasts_20 : decode cX6_lasts 20 = .ok (.idiv, 1) := by decide +kernel
theorem dX6_lasts_21 : decode cX6_lasts 21 = .ok (.iconst 1, 1) := by decide +kernel
theorem dX6_lasts_22 : decode cX6_lasts 22 = .ok (.isub, 1) := by decide +kernel
theorem dX6_lasts_23 : decode cX6_lasts 23 = .ok (.iconst 2, 1) := by decide +kernel
theorem dX6_lasts_24 : decode cX6_lasts 24 = .ok (.idiv, 1) := by decide +kernel
theorem dX6_lasts_25 : decode cX6_lasts 25 = .ok (.invokevirtual 113, 3) := by decide +kernel
theorem dX6_lasts_28 : decode cX6_lasts 28 = .ok (.ireturn, 1) := by decide +kernel
theorem dX6_may_0 : decode cX6_may 0 = .ok (.aload_n 0, 1) := by decide +kernel
theorem dX6_may_1 : decode cX6_may 1 = .ok (.getfield 91, 3) := by decide +kernel
theorem dX6_may_4 : decode cX6_may 4 = .ok (.ifCond .eq 10, 3) := by decide +kernel
theorem dX6_may_7 : decode cX6_may 7 = .ok (.iload_n 1, 1) := by decide +kernel
theorem dX6_may_8 : decode cX6_may 8 = .ok (.invokestatic 135, 3) := by decide +kernel
theorem dX6_may_11 : decode cX6_may 11 = .ok (.ifCond .ne 6, 3) := by decide +kernel
theorem dX6_may_14 : decode cX6_may 14 = .ok (.bipush (-101), 2) := by decide +kernel
theorem dX6_may_16 : decode cX6_may 16 = .ok (.ireturn, 1) := by decide +kernel
theorem dX6_may_17 : decode cX6_may 17 = .ok (.aload_n 0, 1) := by decide +kernel
theorem dX6_may_18 : decode cX6_may 18 = .ok (.aload_n 0, 1) := by decide +kernel
theorem dX6_may_19 : decode cX6_may 19 = .ok (.getfield 70, 3) := by decide +kernel
theorem dX6_may_22 : decode cX6_may 22 = .ok (.iload_n 1, 1) := by decide +kernel
theorem dX6_may_23 : decode cX6_may 23 = .ok (.aload_n 0, 1) := by decide +kernel
theorem dX6_may_24 : decode cX6_may 24 = .ok (.invokevirtual 124, 3) := by decide +kernel
theorem dX6_may_27 : decode cX6_may 27 = .ok (.invokevirtual 142, 3) := by decide +kernel
theorem dX6_may_30 : decode cX6_may 30 = .ok (.iconst (-1), 1) := by decide +kernel
theorem dX6_may_31 : decode cX6_may 31 = .ok (.if_icmp .ne 7, 3) := by decide +kernel
theorem dX6_may_34 : decode cX6_may 34 = .ok (.iconst 0, 1) := by decide +kernel
theorem dX6_may_35 : decode cX6_may 35 = .ok (.goto 4, 3) := by decide +kernel
theorem dX6_may_38 : decode cX6_may 38 = .ok (.iconst 1, 1) := by decide +kernel
theorem dX6_may_39 : decode cX6_may 39 = .ok (.ireturn, 1) := by decide +kernel
theorem dX6_act_0 : decode cX6_act 0 = .ok (.aload_n 0, 1) := by decide +kernel
theorem dX6_act_1 : decode cX6_act 1 = .ok (.getfield 91, 3) := by decide +kernel
theorem dX6_act_4 : decode cX6_act 4 = .ok (.ifCond .eq 10, 3) := by decide +kernel
theorem dX6_act_7 : decode cX6_act 7 = .ok (.iload_n 1, 1) := by decide +kernel
theorem dX6_act_8 : decode cX6_act 8 = .ok (.invokestatic 135, 3) := by decide +kernel
theorem dX6_act_11 : decode cX6_act 11 = .ok (.ifCond .ne 6, 3) := by decide +kernel
theorem dX6_act_14 : decode cX6_act 14 = .ok (.bipush (-101), 2) := by decide +kernel
theorem dX6_act_16 : decode cX6_act 16 = .ok (.ireturn, 1) := by decide +kernel
theorem dX6_act_17 : decode cX6_act 17 = .ok (.aload_n 0, 1) := by decide +kernel
theorem dX6_act_18 : decode cX6_act 18 = .ok (.aload_n 0, 1) := by decide +kernel
theorem dX6_act_19 : decode cX6_act 19 = .ok (.getfield 70, 3) := by decide +kernel
theorem dX6_act_22 : decode cX6_act 22 = .ok (.iload_n 1, 1) := by decide +kernel
theorem dX6_act_23 : decode cX6_act 23 = .ok (.aload_n 0, 1) := by decide +kernel
theorem dX6_act_24 : decode cX6_act 24 = .ok (.invokevirtual 124, 3) := by decide +kernel
theorem dX6_act_27 : decode cX6_act 27 = .ok (.invokevirtual 142, 3) := by decide +kernel
theorem dX6_act_30 : decode cX6_act 30 = .ok (.istore_n 2, 1) := by decide +kernel
theorem dX6_act_31 : decode cX6_act 31 = .ok (.iload_n 2, 1) := by decide +kernel
theorem dX6_act_32 : decode cX6_act 32 = .ok (.iconst (-1), 1) := by decide +kernel
theorem dX6_act_33 : decode cX6_act 33 = .ok (.if_icmp .ne 6, 3) := by decide +kernel
theorem dX6_act_36 : decode cX6_act 36 = .ok (.bipush (-103), 2) := by decide +kernel
theorem dX6_act_38 : decode cX6_act 38 = .ok (.ireturn, 1) := by decide +kernel
theorem dX6_act_39 : decode cX6_act 39 = .ok (.aload_n 0, 1) := by decide +kernel
theorem dX6_act_40 : decode cX6_act 40 = .ok (.iload_n 2, 1) := by decide +kernel
theorem dX6_act_41 : decode cX6_act 41 = .ok (.putfield 70, 3) := by decide +kernel
theorem dX6_act_44 : decode cX6_act 44 = .ok (.aload_n 0, 1) := by decide +kernel
theorem dX6_act_45 : decode cX6_act 45 = .ok (.dup, 1) := by decide +kernel
theorem dX6_act_46 : decode cX6_act 46 = .ok (.getfield 79, 3) := by decide +kernel
theorem dX6_act_49 : decode cX6_act 49 = .ok (.iload_n 1, 1) := by decide +kernel
theorem dX6_act_50 : decode cX6_act 50 = .ok (.bipush 6, 2) := by decide +kernel
theorem dX6_act_52 : decode cX6_act 52 = .ok (.if_icmp .ge 7, 3) := by decide +kernel
theorem dX6_act_55 : decode cX6_act 55 = .ok (.iconst 1, 1) := by decide +kernel
theorem dX6_act_56 : decode cX6_act 56 = .ok (.goto 4, 3) := by decide +kernel
theorem dX6_act_59 : decode cX6_act 59 = .ok (.iconst 0, 1) := by decide +kernel
theorem dX6_act_60 : decode cX6_act 60 = .ok (.iadd, 1) := by decide +kernel
theorem dX6_act_61 : decode cX6_act 61 = .ok (.putfield 79, 3) := by decide +kernel
theorem dX6_act_64 : decode cX6_act 64 = .ok (.aload_n 0, 1) := by decide +kernel
theorem dX6_act_65 : decode cX6_act 65 = .ok (.dup, 1) := by decide +kernel
theorem dX6_act_66 : decode cX6_act 66 = .ok (.getfield 82, 3) := by decide +kernel
theorem dX6_act_69 : decode cX6_act 69 = .ok (.aload_n 0, 1) := by decide +kernel
theorem dX6_act_70 : decode cX6_act 70 = .ok (.iload_n 1, 1) := by decide +kernel
theorem dX6_act_71 : decode cX6_act 71 = .ok (.invokevirtual 146, 3) := by decide +kernel
theorem dX6_act_74 : decode cX6_act 74 = .ok (.iadd, 1) := by decide +kernel
theorem dX6_act_75 : decode cX6_act 75 = .ok (.putfield 82, 3) := by decide +kernel
theorem dX6_act_78 : decode cX6_act 78 = .ok (.aload_n 0, 1) := by decide +kernel
theorem dX6_act_79 : decode cX6_act 79 = .ok (.getfield 82, 3) := by decide +kernel
theorem dX6_act_82 : decode cX6_act 82 = .ok (.ireturn, 1) := by decide +kernel
theorem dX6_layFar_0 : decode cX6_layFar 0 = .ok (.iconst 0, 1) := by decide +kernel
theorem dX6_layFar_1 : decode cX6_layFar 1 = .ok (.istore_n 2, 1) := by decide +kernel
theorem dX6_layFar_2 : decode cX6_layFar 2 = .ok (.iload_n 2, 1) := by decide +kernel
theorem dX6_layFar_3 : decode cX6_layFar 3 = .ok (.sipush 4096, 3) := by decide +kernel
theorem dX6_layFar_6 : decode cX6_layFar 6 = .ok (.if_icmp .ge 30, 3) := by decide +kernel
theorem dX6_layFar_9 : decode cX6_layFar 9 = .ok (.aload_n 0, 1) := by decide +kernel
theorem dX6_layFar_10 : decode cX6_layFar 10 = .ok (.getfield 16, 3) := by decide +kernel
theorem dX6_layFar_13 : decode cX6_layFar 13 = .ok (.iload_n 2, 1) := by decide +kernel
theorem dX6_layFar_14 : decode cX6_layFar 14 = .ok (.iconst (-1), 1) := by decide +kernel
theorem dX6_layFar_15 : decode cX6_layFar 15 = .ok (.iastore, 1) := by decide +kernel
theorem dX6_layFar_16 : decode cX6_layFar 16 = .ok (.aload_n 0, 1) := by decide +kernel
theorem dX6_layFar_17 : decode cX6_layFar 17 = .ok (.getfield 19, 3) := by decide +kernel
theorem dX6_layFar_20 : decode cX6_layFar 20 = .ok (.iload_n 2, 1) := by decide +kernel
theorem dX6_layFar_21 : decode cX6_layFar 21 = .ok (.iconst (-1), 1) := by decide +kernel
theorem dX6_layFar_22 : decode cX6_layFar 22 = .ok (.iastore, 1) := by decide +kernel
theorem dX6_layFar_23 : decode cX6_layFar 23 = .ok (.aload_n 0, 1) := by decide +kernel
theorem dX6_layFar_24 : decode cX6_layFar 24 = .ok (.getfield 25, 3) := by decide +kernel
theorem dX6_layFar_27 : decode cX6_layFar 27 = .ok (.iload_n 2, 1) := by decide +kernel
theorem dX6_layFar_28 : decode cX6_layFar 28 = .ok (.iconst 0, 1) := by decide +kernel
theorem dX6_layFar_29 : decode cX6_layFar 29 = .ok (.bastore, 1) := by decide +kernel
theorem dX6_layFar_30 : decode cX6_layFar 30 = .ok (.iinc 2 1, 3) := by decide +kernel
theorem dX6_layFar_33 : decode cX6_layFar 33 = .ok (.goto (-31), 3) := by decide +kernel
theorem dX6_layFar_36 : decode cX6_layFar 36 = .ok (.aload_n 0, 1) := by decide +kernel
theorem dX6_layFar_37 : decode cX6_layFar 37 = .ok (.getfield 16, 3) := by decide +kernel
theorem dX6_layFar_40 : decode cX6_layFar 40 = .ok (.aload_n 0, 1) := by decide +kernel
theorem dX6_layFar_41 : decode cX6_layFar 41 = .ok (.getfield 70, 3) := by decide +kernel
theorem dX6_layFar_44 : decode cX6_layFar 44 = .ok (.iconst 0, 1) := by decide +kernel
theorem dX6_layFar_45 : decode cX6_layFar 45 = .ok (.iastore, 1) := by decide +kernel
theorem dX6_layFar_46 : decode cX6_layFar 46 = .ok (.aload_n 0, 1) := by decide +kernel
theorem dX6_layFar_47 : decode cX6_layFar 47 = .ok (.getfield 22, 3) := by decide +kernel
theorem dX6_layFar_50 : decode cX6_layFar 50 = .ok (.iconst 0, 1) := by decide +kernel
theorem dX6_layFar_51 : decode cX6_layFar 51 = .ok (.aload_n 0, 1) := by decide +kernel
theorem dX6_layFar_52 : decode cX6_layFar 52 = .ok (.getfield 70, 3) := by decide +kernel
theorem dX6_layFar_55 : decode cX6_layFar 55 = .ok (.iastore, 1) := by decide +kernel
theorem dX6_layFar_56 : decode cX6_layFar 56 = .ok (.aload_n 0, 1) := by decide +kernel
theorem dX6_layFar_57 : decode cX6_layFar 57 = .ok (.getfield 25, 3) := by decide +kernel
theorem dX6_layFar_60 : decode cX6_layFar 60 = .ok (.aload_n 0, 1) := by decide +kernel
theorem dX6_layFar_61 : decode cX6_layFar 61 = .ok (.getfield 70, 3) := by decide +kernel
theorem dX6_layFar_64 : decode cX6_layFar 64 = .ok (.iconst 1, 1) := by decide +kernel
theorem dX6_layFar_65 : decode cX6_layFar 65 = .ok (.bastore, 1) := by decide +kernel
theorem dX6_layFar_66 : decode cX6_layFar 66 = .ok (.iconst 0, 1) := by decide +kernel
theorem dX6_layFar_67 : decode cX6_layFar 67 = .ok (.istore_n 2, 1) := by decide +kernel
theorem dX6_layFar_68 : decode cX6_layFar 68 = .ok (.iconst 1, 1) := by decide +kernel
theorem dX6_layFar_69 : decode cX6_layFar 69 = .ok (.istore_n 3, 1) := by decide +kernel
theorem dX6_layFar_70 : decode cX6_layFar 70 = .ok (.iload_n 3, 1) := by decide +kernel
theorem dX6_layFar_71 : decode cX6_layFar 71 = .ok (.ifCond .le 114, 3) := by decide +kernel
theorem dX6_layFar_74 : decode cX6_layFar 74 = .ok (.aload_n 0, 1) := by decide +kernel
theorem dX6_layFar_75 : decode cX6_layFar 75 = .ok (.getfield 22, 3) := by decide +kernel
theorem dX6_layFar_78 : decode cX6_layFar 78 = .ok (.iload_n 2, 1) := by decide +kernel
theorem dX6_layFar_79 : decode cX6_layFar 79 = .ok (.iaload, 1) := by decide +kernel
theorem dX6_layFar_80 : decode cX6_layFar 80 = .ok (.istore 4, 2) := by decide +kernel
theorem dX6_layFar_82 : decode cX6_layFar 82 = .ok (.iload_n 2, 1) := by decide +kernel
theorem dX6_layFar_83 : decode cX6_layFar 83 = .ok (.iconst 1, 1) := by decide +kernel
theorem dX6_layFar_84 : decode cX6_layFar 84 = .ok (.iadd, 1) := by decide +kernel
theorem dX6_layFar_85 : decode cX6_layFar 85 = .ok (.sipush 4096, 3) := by decide +kernel
theorem dX6_layFar_88 : decode cX6_layFar 88 = .ok (.irem, 1) := by decide +kernel
theorem dX6_layFar_89 : decode cX6_layFar 89 = .ok (.istore_n 2, 1) := by decide +kernel
theorem dX6_layFar_90 : decode cX6_layFar 90 = .ok (.iinc 3 (-1), 3) := by decide +kernel
theorem dX6_layFar_93 : decode cX6_layFar 93 = .ok (.aload_n 0, 1) := by decide +kernel
theorem dX6_layFar_94 : decode cX6_layFar 94 = .ok (.getfield 25, 3) := by decide +kernel
theorem dX6_layFar_97 : decode cX6_layFar 97 = .ok (.iload 4, 2) := by decide +kernel
theorem dX6_layFar_99 : decode cX6_layFar 99 = .ok (.iconst 0, 1) := by decide +kernel
theorem dX6_layFar_100 : decode cX6_layFar 100 = .ok (.bastore, 1) := by decide +kernel
theorem dX6_layFar_101 : decode cX6_layFar 101 = .ok (.iconst 0, 1) := by decide +kernel
theorem dX6_layFar_102 : decode cX6_layFar 102 = .ok (.istore 5, 2) := by decide +kernel
theorem dX6_layFar_104 : decode cX6_layFar 104 = .ok (.iload 5, 2) := by decide +kernel
theorem dX6_layFar_106 : decode cX6_layFar 106 = .ok (.bipush 42, 2) := by decide +kernel
theorem dX6_layFar_108 : decode cX6_layFar 108 = .ok (.if_icmp .ge 74, 3) := by decide +kernel
theorem dX6_layFar_111 : decode cX6_layFar 111 = .ok (.aload_n 0, 1) := by decide +kernel
theorem dX6_layFar_112 : decode cX6_layFar 112 = .ok (.iload 4, 2) := by decide +kernel
theorem dX6_layFar_114 : decode cX6_layFar 114 = .ok (.iload 5, 2) := by decide +kernel
theorem dX6_layFar_116 : decode cX6_layFar 116 = .ok (.iload_n 1, 1) := by decide +kernel
theorem dX6_layFar_117 : decode cX6_layFar 117 = .ok (.invokevirtual 142, 3) := by decide +kernel
theorem dX6_layFar_120 : decode cX6_layFar 120 = .ok (.istore 6, 2) := by decide +kernel
theorem dX6_layFar_122 : decode cX6_layFar 122 = .ok (.iload 6, 2) := by decide +kernel
theorem dX6_layFar_124 : decode cX6_layFar 124 = .ok (.iconst (-1), 1) := by decide +kernel
theorem dX6_layFar_125 : decode cX6_layFar 125 = .ok (.if_icmp .eq 51, 3) := by decide +kernel
theorem dX6_layFar_128 : decode cX6_layFar 128 = .ok (.aload_n 0, 1) := by decide +kernel
theorem dX6_layFar_129 : decode cX6_layFar 129 = .ok (.iload 4, 2) := by decide +kernel
theorem dX6_layFar_131 : decode cX6_layFar 131 = .ok (.iload 6, 2) := by decide +kernel
theorem dX6_layFar_133 : decode cX6_layFar 133 = .ok (.iload 5, 2) := by decide +kernel
theorem dX6_layFar_135 : decode cX6_layFar 135 = .ok (.invokevirtual 149, 3) := by decide +kernel
theorem dX6_layFar_138 : decode cX6_layFar 138 = .ok (.ifCond .eq 38, 3) := by decide +kernel
theorem dX6_layFar_141 : decode cX6_layFar 141 = .ok (.aload_n 0, 1) := by decide +kernel
theorem dX6_layFar_142 : decode cX6_layFar 142 = .ok (.getfield 25, 3) := by decide +kernel
theorem dX6_layFar_145 : decode cX6_layFar 145 = .ok (.iload 6, 2) := by decide +kernel
theorem dX6_layFar_147 : decode cX6_layFar 147 = .ok (.baload, 1) := by decide +kernel
theorem dX6_layFar_148 : decode cX6_layFar 148 = .ok (.ifCond .ne 28, 3) := by decide +kernel
theorem dX6_layFar_151 : decode cX6_layFar 151 = .ok (.aload_n 0, 1) := by decide +kernel
theorem dX6_layFar_152 : decode cX6_layFar 152 = .ok (.getfield 22, 3) := by decide +kernel
theorem dX6_layFar_155 : decode cX6_layFar 155 = .ok (.iload_n 2, 1) := by decide +kernel
theorem dX6_layFar_156 : decode cX6_layFar 156 = .ok (.iload_n 3, 1) := by decide +kernel
theorem dX6_layFar_157 : decode cX6_layFar 157 = .ok (.iadd, 1) := by decide +kernel
theorem dX6_layFar_158 : decode cX6_layFar 158 = .ok (.sipush 4096, 3) := by decide +kernel
theorem dX6_layFar_161 : decode cX6_layFar 161 = .ok (.irem, 1) := by decide +kernel
theorem dX6_layFar_162 : decode cX6_layFar 162 = .ok (.iload 6, 2) := by decide +kernel
theorem dX6_layFar_164 : decode cX6_layFar 164 = .ok (.iastore, 1) := by decide +kernel
theorem dX6_layFar_165 : decode cX6_layFar 165 = .ok (.aload_n 0, 1) := by decide +kernel
theorem dX6_layFar_166 : decode cX6_layFar 166 = .ok (.getfield 25, 3) := by decide +kernel
theorem dX6_layFar_169 : decode cX6_layFar 169 = .ok (.iload 6, 2) := by decide +kernel
theorem dX6_layFar_171 : decode cX6_layFar 171 = .ok (.iconst 1, 1) := by decide +kernel
theorem dX6_layFar_172 : decode cX6_layFar 172 = .ok (.bastore, 1) := by decide +kernel
theorem dX6_layFar_173 : decode cX6_layFar 173 = .ok (.iinc 3 1, 3) := by decide +kernel
theorem dX6_layFar_176 : decode cX6_layFar 176 = .ok (.iinc 5 1, 3) := by decide +kernel
theorem dX6_layFar_179 : decode cX6_layFar 179 = .ok (.goto (-75), 3) := by decide +kernel
theorem dX6_layFar_182 : decode cX6_layFar 182 = .ok (.goto (-112), 3) := by decide +kernel
theorem dX6_layFar_185 : decode cX6_layFar 185 = .ok (.return_, 1) := by decide +kernel
theorem dX6_isBetter_0 : decode cX6_isBetter 0 = .ok (.aload_n 0, 1) := by decide +kernel
theorem dX6_isBetter_1 : decode cX6_isBetter 1 = .ok (.getfield 16, 3) := by decide +kernel
theorem dX6_isBetter_4 : decode cX6_isBetter 4 = .ok (.iload_n 1, 1) := by decide +kernel
theorem dX6_isBetter_5 : decode cX6_isBetter 5 = .ok (.iaload, 1) := by decide +kernel
theorem dX6_isBetter_6 : decode cX6_isBetter 6 = .ok (.aload_n 0, 1) := by decide +kernel
theorem dX6_isBetter_7 : decode cX6_isBetter 7 = .ok (.iload_n 3, 1) := by decide +kernel
theorem dX6_isBetter_8 : decode cX6_isBetter 8 = .ok (.invokevirtual 146, 3) := by decide +kernel
theorem dX6_isBetter_11 : decode cX6_isBetter 11 = .ok (.iadd, 1) := by decide +kernel
theorem dX6_isBetter_12 : decode cX6_isBetter 12 = .ok (.istore 4, 2) := by decide +kernel
theorem dX6_isBetter_14 : decode cX6_isBetter 14 = .ok (.iload_n 1, 1) := by decide +kernel
theorem dX6_isBetter_15 : decode cX6_isBetter 15 = .ok (.aload_n 0, 1) := by decide +kernel
theorem dX6_isBetter_16 : decode cX6_isBetter 16 = .ok (.getfield 70, 3) := by decide +kernel
theorem dX6_isBetter_19 : decode cX6_isBetter 19 = .ok (.if_icmp .ne 7, 3) := by decide +kernel
theorem dX6_isBetter_22 : decode cX6_isBetter 22 = .ok (.iload_n 3, 1) := by decide +kernel
theorem dX6_isBetter_23 : decode cX6_isBetter 23 = .ok (.goto 9, 3) := by decide +kernel
theorem dX6_isBetter_26 : decode cX6_isBetter 26 = .ok (.aload_n 0, 1) := by decide +kernel
theorem dX6_isBetter_27 : decode cX6_isBetter 27 = .ok (.getfield 19, 3) := by decide +kernel
theorem dX6_isBetter_30 : decode cX6_isBetter 30 = .ok (.iload_n 1, 1) := by decide +kernel
theorem dX6_isBetter_31 : decode cX6_isBetter 31 = .ok (.iaload, 1) := by decide +kernel
theorem dX6_isBetter_32 : decode cX6_isBetter 32 = .ok (.istore 5, 2) := by decide +kernel
theorem dX6_isBetter_34 : decode cX6_isBetter 34 = .ok (.aload_n 0, 1) := by decide +kernel
theorem dX6_isBetter_35 : decode cX6_isBetter 35 = .ok (.getfield 16, 3) := by decide +kernel
theorem dX6_isBetter_38 : decode cX6_isBetter 38 = .ok (.iload_n 2, 1) := by decide +kernel
theorem dX6_isBetter_39 : decode cX6_isBetter 39 = .ok (.iaload, 1) := by decide +kernel
theorem dX6_isBetter_40 : decode cX6_isBetter 40 = .ok (.iconst (-1), 1) := by decide +kernel
theorem dX6_isBetter_41 : decode cX6_isBetter 41 = .ok (.if_icmp .eq 36, 3) := by decide +kernel
theorem dX6_isBetter_44 : decode cX6_isBetter 44 = .ok (.iload 4, 2) := by decide +kernel
theorem dX6_isBetter_46 : decode cX6_isBetter 46 = .ok (.aload_n 0, 1) := by decide +kernel
theorem dX6_isBetter_47 : decode cX6_isBetter 47 = .ok (.getfield 16, 3) := by decide +kernel
theorem dX6_isBetter_50 : decode cX6_isBetter 50 = .ok (.iload_n 2, 1) := by decide +kernel
theorem dX6_isBetter_51 : decode cX6_isBetter 51 = .ok (.iaload, 1) := by decide +kernel
theorem dX6_isBetter_52 : decode cX6_isBetter 52 = .ok (.if_icmp .lt 25, 3) := by decide +kernel
theorem dX6_isBetter_55 : decode cX6_isBetter 55 = .ok (.iload 4, 2) := by decide +kernel
theorem dX6_isBetter_57 : decode cX6_isBetter 57 = .ok (.aload_n 0, 1) := by decide +kernel
theorem dX6_isBetter_58 : decode cX6_isBetter 58 = .ok (.getfield 16, 3) := by decide +kernel
theorem dX6_isBetter_61 : decode cX6_isBetter 61 = .ok (.iload_n 2, 1) := by decide +kernel
theorem dX6_isBetter_62 : decode cX6_isBetter 62 = .ok (.iaload, 1) := by decide +kernel
theorem dX6_isBetter_63 : decode cX6_isBetter 63 = .ok (.if_icmp .ne 18, 3) := by decide +kernel
theorem dX6_isBetter_66 : decode cX6_isBetter 66 = .ok (.iload 5, 2) := by decide +kernel
theorem dX6_isBetter_68 : decode cX6_isBetter 68 = .ok (.aload_n 0, 1) := by decide +kernel
theorem dX6_isBetter_69 : decode cX6_isBetter 69 = .ok (.getfield 19, 3) := by decide +kernel
theorem dX6_isBetter_72 : decode cX6_isBetter 72 = .ok (.iload_n 2, 1) := by decide +kernel
theorem dX6_isBetter_73 : decode cX6_isBetter 73 = .ok (.iaload, 1) := by decide +kernel
theorem dX6_isBetter_74 : decode cX6_isBetter 74 = .ok (.if_icmp .ge 7, 3) := by decide +kernel
theorem dX6_isBetter_77 : decode cX6_isBetter 77 = .ok (.iconst 1, 1) := by decide +kernel
theorem dX6_isBetter_78 : decode cX6_isBetter 78 = .ok (.goto 4, 3) := by decide +kernel
theorem dX6_isBetter_81 : decode cX6_isBetter 81 = .ok (.iconst 0, 1) := by decide +kernel
theorem dX6_isBetter_82 : decode cX6_isBetter 82 = .ok (.istore 6, 2) := by decide +kernel
theorem dX6_isBetter_84 : decode cX6_isBetter 84 = .ok (.iload 6, 2) := by decide +kernel
theorem dX6_isBetter_86 : decode cX6_isBetter 86 = .ok (.ifCond .eq 19, 3) := by decide +kernel
theorem dX6_isBetter_89 : decode cX6_isBetter 89 = .ok (.aload_n 0, 1) := by decide +kernel
theorem dX6_isBetter_90 : decode cX6_isBetter 90 = .ok (.getfield 16, 3) := by decide +kernel
theorem dX6_isBetter_93 : decode cX6_isBetter 93 = .ok (.iload_n 2, 1) := by decide +kernel
theorem dX6_isBetter_94 : decode cX6_isBetter 94 = .ok (.iload 4, 2) := by decide +kernel
theorem dX6_isBetter_96 : decode cX6_isBetter 96 = .ok (.iastore, 1) := by decide +kernel
theorem dX6_isBetter_97 : decode cX6_isBetter 97 = .ok (.aload_n 0, 1) := by decide +kernel
theorem dX6_isBetter_98 : decode cX6_isBetter 98 = .ok (.getfield 19, 3) := by decide +kernel
theorem dX6_isBetter_101 : decode cX6_isBetter 101 = .ok (.iload_n 2, 1) := by decide +kernel
theorem dX6_isBetter_102 : decode cX6_isBetter 102 = .ok (.iload 5, 2) := by decide +kernel
theorem dX6_isBetter_104 : decode cX6_isBetter 104 = .ok (.iastore, 1) := by decide +kernel
theorem dX6_isBetter_105 : decode cX6_isBetter 105 = .ok (.iload 6, 2) := by decide +kernel
theorem dX6_isBetter_107 : decode cX6_isBetter 107 = .ok (.ireturn, 1) := by decide +kernel
theorem dX6_soonest_0 : decode cX6_soonest 0 = .ok (.iload_n 1, 1) := by decide +kernel
theorem dX6_soonest_1 : decode cX6_soonest 1 = .ok (.i2l, 1) := by decide +kernel
theorem dX6_soonest_2 : decode cX6_soonest 2 = .ok (.lconst 0, 1) := by decide +kernel
theorem dX6_soonest_3 : decode cX6_soonest 3 = .ok (.lconst 1, 1) := by decide +kernel
theorem dX6_soonest_4 : decode cX6_soonest 4 = .ok (.invokestatic 47, 3) := by decide +kernel
theorem dX6_soonest_7 : decode cX6_soonest 7 = .ok (.ifCond .ne 6, 3) := by decide +kernel
theorem dX6_soonest_10 : decode cX6_soonest 10 = .ok (.bipush (-102), 2) := by decide +kernel
theorem dX6_soonest_12 : decode cX6_soonest 12 = .ok (.ireturn, 1) := by decide +kernel
theorem dX6_soonest_13 : decode cX6_soonest 13 = .ok (.aload_n 0, 1) := by decide +kernel
theorem dX6_soonest_14 : decode cX6_soonest 14 = .ok (.getfield 91, 3) := by decide +kernel
theorem dX6_soonest_17 : decode cX6_soonest 17 = .ok (.ifCond .ne 6, 3) := by decide +kernel
theorem dX6_soonest_20 : decode cX6_soonest 20 = .ok (.bipush (-103), 2) := by decide +kernel
theorem dX6_soonest_22 : decode cX6_soonest 22 = .ok (.ireturn, 1) := by decide +kernel
theorem dX6_soonest_23 : decode cX6_soonest 23 = .ok (.aload_n 0, 1) := by decide +kernel
theorem dX6_soonest_24 : decode cX6_soonest 24 = .ok (.aload_n 0, 1) := by decide +kernel
theorem dX6_soonest_25 : decode cX6_soonest 25 = .ok (.invokevirtual 124, 3) := by decide +kernel
theorem dX6_soonest_28 : decode cX6_soonest 28 = .ok (.invokevirtual 153, 3) := by decide +kernel
theorem dX6_soonest_31 : decode cX6_soonest 31 = .ok (.iload_n 1, 1) := by decide +kernel
theorem dX6_soonest_32 : decode cX6_soonest 32 = .ok (.ifCond .ne 12, 3) := by decide +kernel
theorem dX6_soonest_35 : decode cX6_soonest 35 = .ok (.aload_n 0, 1) := by decide +kernel
theorem dX6_soonest_36 : decode cX6_soonest 36 = .ok (.getfield 16, 3) := by decide +kernel
theorem dX6_soonest_39 : decode cX6_soonest 39 = .ok (.iconst 0, 1) := by decide +kernel
theorem dX6_soonest_40 : decode cX6_soonest 40 = .ok (.iaload, 1) := by decide +kernel
theorem dX6_soonest_41 : decode cX6_soonest 41 = .ok (.goto 9, 3) := by decide +kernel
theorem dX6_soonest_44 : decode cX6_soonest 44 = .ok (.aload_n 0, 1) := by decide +kernel
theorem dX6_soonest_45 : decode cX6_soonest 45 = .ok (.getfield 19, 3) := by decide +kernel
theorem dX6_soonest_48 : decode cX6_soonest 48 = .ok (.iconst 0, 1) := by decide +kernel
theorem dX6_soonest_49 : decode cX6_soonest 49 = .ok (.iaload, 1) := by decide +kernel
theorem dX6_soonest_50 : decode cX6_soonest 50 = .ok (.ireturn, 1) := by decide +kernel
theorem dX6_mostOf_0 : decode cX6_mostOf 0 = .ok (.bipush 18, 2) := by decide +kernel
theorem dX6_mostOf_2 : decode cX6_mostOf 2 = .ok (.istore_n 1, 1) := by decide +kernel
theorem dX6_mostOf_3 : decode cX6_mostOf 3 = .ok (.iconst 0, 1) := by decide +kernel
theorem dX6_mostOf_4 : decode cX6_mostOf 4 = .ok (.istore_n 2, 1) := by decide +kernel
theorem dX6_mostOf_5 : decode cX6_mostOf 5 = .ok (.iload_n 2, 1) := by decide +kernel
theorem dX6_mostOf_6 : decode cX6_mostOf 6 = .ok (.sipush 4096, 3) := by decide +kernel
theorem dX6_mostOf_9 : decode cX6_mostOf 9 = .ok (.if_icmp .ge 36, 3) := by decide +kernel
theorem dX6_mostOf_12 : decode cX6_mostOf 12 = .ok (.aload_n 0, 1) := by decide +kernel
theorem dX6_mostOf_13 : decode cX6_mostOf 13 = .ok (.getfield 16, 3) := by decide +kernel
theorem dX6_mostOf_16 : decode cX6_mostOf 16 = .ok (.iload_n 2, 1) := by decide +kernel
theorem dX6_mostOf_17 : decode cX6_mostOf 17 = .ok (.iaload, 1) := by decide +kernel
theorem dX6_mostOf_18 : decode cX6_mostOf 18 = .ok (.iconst (-1), 1) := by decide +kernel
theorem dX6_mostOf_19 : decode cX6_mostOf 19 = .ok (.if_icmp .eq 18, 3) := by decide +kernel
theorem dX6_mostOf_22 : decode cX6_mostOf 22 = .ok (.iload_n 2, 1) := by decide +kernel
theorem dX6_mostOf_23 : decode cX6_mostOf 23 = .ok (.invokestatic 98, 3) := by decide +kernel
theorem dX6_mostOf_26 : decode cX6_mostOf 26 = .ok (.iload_n 1, 1) := by decide +kernel
theorem dX6_mostOf_27 : decode cX6_mostOf 27 = .ok (.if_icmp .ge 10, 3) := by decide +kernel
theorem dX6_mostOf_30 : decode cX6_mostOf 30 = .ok (.iload_n 2, 1) := by decide +kernel
theorem dX6_mostOf_31 : decode cX6_mostOf 31 = .ok (.invokestatic 98, 3) := by decide +kernel
theorem dX6_mostOf_34 : decode cX6_mostOf 34 = .ok (.goto 4, 3) := by decide +kernel
theorem dX6_mostOf_37 : decode cX6_mostOf 37 = .ok (.iload_n 1, 1) := by decide +kernel
theorem dX6_mostOf_38 : decode cX6_mostOf 38 = .ok (.istore_n 1, 1) := by decide +kernel
theorem dX6_mostOf_39 : decode cX6_mostOf 39 = .ok (.iinc 2 1, 3) := by decide +kernel
theorem dX6_mostOf_42 : decode cX6_mostOf 42 = .ok (.goto (-37), 3) := by decide +kernel
theorem dX6_mostOf_45 : decode cX6_mostOf 45 = .ok (.aload_n 0, 1) := by decide +kernel
theorem dX6_mostOf_46 : decode cX6_mostOf 46 = .ok (.getfield 70, 3) := by decide +kernel
theorem dX6_mostOf_49 : decode cX6_mostOf 49 = .ok (.invokestatic 98, 3) := by decide +kernel
theorem dX6_mostOf_52 : decode cX6_mostOf 52 = .ok (.iload_n 1, 1) := by decide +kernel
theorem dX6_mostOf_53 : decode cX6_mostOf 53 = .ok (.isub, 1) := by decide +kernel
theorem dX6_mostOf_54 : decode cX6_mostOf 54 = .ok (.ireturn, 1) := by decide +kernel
theorem dX6_most_0 : decode cX6_most 0 = .ok (.aload_n 0, 1) := by decide +kernel
theorem dX6_most_1 : decode cX6_most 1 = .ok (.getfield 91, 3) := by decide +kernel
theorem dX6_most_4 : decode cX6_most 4 = .ok (.ifCond .ne 6, 3) := by decide +kernel
theorem dX6_most_7 : decode cX6_most 7 = .ok (.bipush (-103), 2) := by decide +kernel
theorem dX6_most_9 : decode cX6_most 9 = .ok (.ireturn, 1) := by decide +kernel
theorem dX6_most_10 : decode cX6_most 10 = .ok (.aload_n 0, 1) := by decide +kernel
theorem dX6_most_11 : decode cX6_most 11 = .ok (.aload_n 0, 1) := by decide +kernel
theorem dX6_most_12 : decode cX6_most 12 = .ok (.invokevirtual 124, 3) := by decide +kernel
theorem dX6_most_15 : decode cX6_most 15 = .ok (.invokevirtual 153, 3) := by decide +kernel
theorem dX6_most_18 : decode cX6_most 18 = .ok (.aload_n 0, 1) := by decide +kernel
theorem dX6_most_19 : decode cX6_most 19 = .ok (.invokevirtual 157, 3) := by decide +kernel
theorem dX6_most_22 : decode cX6_most 22 = .ok (.ireturn, 1) := by decide +kernel
theorem dX6_manyOf_0 : decode cX6_manyOf 0 = .ok (.iconst 0, 1) := by decide +kernel
theorem dX6_manyOf_1 : decode cX6_manyOf 1 = .ok (.istore_n 1, 1) := by decide +kernel
theorem dX6_manyOf_2 : decode cX6_manyOf 2 = .ok (.iconst 0, 1) := by decide +kernel
theorem dX6_manyOf_3 : decode cX6_manyOf 3 = .ok (.istore_n 2, 1) := by decide +kernel
theorem dX6_manyOf_4 : decode cX6_manyOf 4 = .ok (.iload_n 2, 1) := by decide +kernel
theorem dX6_manyOf_5 : decode cX6_manyOf 5 = .ok (.sipush 4096, 3) := by decide +kernel
theorem dX6_manyOf_8 : decode cX6_manyOf 8 = .ok (.if_icmp .ge 27, 3) := by decide +kernel
theorem dX6_manyOf_11 : decode cX6_manyOf 11 = .ok (.iload_n 1, 1) := by decide +kernel
theorem dX6_manyOf_12 : decode cX6_manyOf 12 = .ok (.aload_n 0, 1) := by decide +kernel
theorem dX6_manyOf_13 : decode cX6_manyOf 13 = .ok (.getfield 16, 3) := by decide +kernel
theorem dX6_manyOf_16 : decode cX6_manyOf 16 = .ok (.iload_n 2, 1) := by decide +kernel
theorem dX6_manyOf_17 : decode cX6_manyOf 17 = .ok (.iaload, 1) := by decide +kernel
theorem dX6_manyOf_18 : decode cX6_manyOf 18 = .ok (.iconst (-1), 1) := by decide +kernel
theorem dX6_manyOf_19 : decode cX6_manyOf 19 = .ok (.if_icmp .ne 7, 3) := by decide +kernel
theorem dX6_manyOf_22 : decode cX6_manyOf 22 = .ok (.iconst 0, 1) := by decide +kernel
theorem dX6_manyOf_23 : decode cX6_manyOf 23 = .ok (.goto 4, 3) := by decide +kernel
theorem dX6_manyOf_26 : decode cX6_manyOf 26 = .ok (.iconst 1, 1) := by decide +kernel
theorem dX6_manyOf_27 : decode cX6_manyOf 27 = .ok (.iadd, 1) := by decide +kernel
theorem dX6_manyOf_28 : decode cX6_manyOf 28 = .ok (.istore_n 1, 1) := by decide +kernel
theorem dX6_manyOf_29 : decode cX6_manyOf 29 = .ok (.iinc 2 1, 3) := by decide +kernel
theorem dX6_manyOf_32 : decode cX6_manyOf 32 = .ok (.goto (-28), 3) := by decide +kernel
theorem dX6_manyOf_35 : decode cX6_manyOf 35 = .ok (.iload_n 1, 1) := by decide +kernel
theorem dX6_manyOf_36 : decode cX6_manyOf 36 = .ok (.ireturn, 1) := by decide +kernel
theorem dX6_holds_0 : decode cX6_holds 0 = .ok (.aload_n 0, 1) := by decide +kernel
theorem dX6_holds_1 : decode cX6_holds 1 = .ok (.getfield 91, 3) := by decide +kernel
theorem dX6_holds_4 : decode cX6_holds 4 = .ok (.ifCond .ne 6, 3) := by decide +kernel
theorem dX6_holds_7 : decode cX6_holds 7 = .ok (.bipush (-103), 2) := by decide +kernel
theorem dX6_holds_9 : decode cX6_holds 9 = .ok (.ireturn, 1) := by decide +kernel
theorem dX6_holds_10 : decode cX6_holds 10 = .ok (.aload_n 0, 1) := by decide +kernel
theorem dX6_holds_11 : decode cX6_holds 11 = .ok (.aload_n 0, 1) := by decide +kernel
theorem dX6_holds_12 : decode cX6_holds 12 = .ok (.invokevirtual 124, 3) := by decide +kernel
theorem dX6_holds_15 : decode cX6_holds 15 = .ok (.invokevirtual 153, 3) := by decide +kernel
theorem dX6_holds_18 : decode cX6_holds 18 = .ok (.aload_n 0, 1) := by decide +kernel
theorem dX6_holds_19 : decode cX6_holds 19 = .ok (.invokevirtual 160, 3) := by decide +kernel
theorem dX6_holds_22 : decode cX6_holds 22 = .ok (.ireturn, 1) := by decide +kernel
theorem dX6_leastBend_0 : decode cX6_leastBend 0 = .ok (.aload_n 0, 1) := by decide +kernel
theorem dX6_leastBend_1 : decode cX6_leastBend 1 = .ok (.getfield 91, 3) := by decide +kernel
theorem dX6_leastBend_4 : decode cX6_leastBend 4 = .ok (.ifCond .eq 12, 3) := by decide +kernel
theorem dX6_leastBend_7 : decode cX6_leastBend 7 = .ok (.aload_n 0, 1) := by decide +kernel
theorem dX6_leastBend_8 : decode cX6_leastBend 8 = .ok (.getfield 163, 3) := by decide +kernel
theorem dX6_leastBend_11 : decode cX6_leastBend 11 = .ok (.bipush 12, 2) := by decide +kernel
theorem dX6_leastBend_13 : decode cX6_leastBend 13 = .ok (.if_icmp .ne 6, 3) := by decide +kernel
theorem dX6_leastBend_16 : decode cX6_leastBend 16 = .ok (.bipush (-103), 2) := by decide +kernel
theorem dX6_leastBend_18 : decode cX6_leastBend 18 = .ok (.ireturn, 1) := by decide +kernel
theorem dX6_leastBend_19 : decode cX6_leastBend 19 = .ok (.aload_n 0, 1) := by decide +kernel
theorem dX6_leastBend_20 : decode cX6_leastBend 20 = .ok (.dup, 1) := by decide +kernel
theorem dX6_leastBend_21 : decode cX6_leastBend 21 = .ok (.getfield 163, 3) := by decide +kernel
theorem dX6_leastBend_24 : decode cX6_leastBend 24 = .ok (.iconst 1, 1) := by decide +kernel
theorem dX6_leastBend_25 : decode cX6_leastBend 25 = .ok (.iadd, 1) := by decide +kernel
theorem dX6_leastBend_26 : decode cX6_leastBend 26 = .ok (.putfield 163, 3) := by decide +kernel
theorem dX6_leastBend_29 : decode cX6_leastBend 29 = .ok (.iconst 0, 1) := by decide +kernel
theorem dX6_leastBend_30 : decode cX6_leastBend 30 = .ok (.istore_n 1, 1) := by decide +kernel
theorem dX6_leastBend_31 : decode cX6_leastBend 31 = .ok (.iload_n 1, 1) := by decide +kernel
theorem dX6_leastBend_32 : decode cX6_leastBend 32 = .ok (.bipush 13, 2) := by decide +kernel
theorem dX6_leastBend_34 : decode cX6_leastBend 34 = .ok (.if_icmp .ge 26, 3) := by decide +kernel
theorem dX6_leastBend_37 : decode cX6_leastBend 37 = .ok (.aload_n 0, 1) := by decide +kernel
theorem dX6_leastBend_38 : decode cX6_leastBend 38 = .ok (.iload_n 1, 1) := by decide +kernel
theorem dX6_leastBend_39 : decode cX6_leastBend 39 = .ok (.invokevirtual 153, 3) := by decide +kernel
theorem dX6_leastBend_42 : decode cX6_leastBend 42 = .ok (.aload_n 0, 1) := by decide +kernel
theorem dX6_leastBend_43 : decode cX6_leastBend 43 = .ok (.getfield 16, 3) := by decide +kernel
theorem dX6_leastBend_46 : decode cX6_leastBend 46 = .ok (.iconst 0, 1) := by decide +kernel
theorem dX6_leastBend_47 : decode cX6_leastBend 47 = .ok (.iaload, 1) := by decide +kernel
theorem dX6_leastBend_48 : decode cX6_leastBend 48 = .ok (.iconst (-1), 1) := by decide +kernel
theorem dX6_leastBend_49 : decode cX6_leastBend 49 = .ok (.if_icmp .eq 5, 3) := by decide +kernel
theorem dX6_leastBend_52 : decode cX6_leastBend 52 = .ok (.iload_n 1, 1) := by decide +kernel
theorem dX6_leastBend_53 : decode cX6_leastBend 53 = .ok (.ireturn, 1) := by decide +kernel
theorem dX6_leastBend_54 : decode cX6_leastBend 54 = .ok (.iinc 1 1, 3) := by decide +kernel
theorem dX6_leastBend_57 : decode cX6_leastBend 57 = .ok (.goto (-26), 3) := by decide +kernel
theorem dX6_leastBend_60 : decode cX6_leastBend 60 = .ok (.iconst (-1), 1) := by decide +kernel
theorem dX6_leastBend_61 : decode cX6_leastBend 61 = .ok (.ireturn, 1) := by decide +kernel
theorem dX6_string_0 : decode cX6_string 0 = .ok (.iload_n 1, 1) := by decide +kernel
theorem dX6_string_1 : decode cX6_string 1 = .ok (.i2l, 1) := by decide +kernel
theorem dX6_string_2 : decode cX6_string 2 = .ok (.lconst 0, 1) := by decide +kernel
theorem dX6_string_3 : decode cX6_string 3 = .ok (.ldc2_w 166, 3) := by decide +kernel
theorem dX6_string_6 : decode cX6_string 6 = .ok (.invokestatic 47, 3) := by decide +kernel
theorem dX6_string_9 : decode cX6_string 9 = .ok (.ifCond .ne 6, 3) := by decide +kernel
theorem dX6_string_12 : decode cX6_string 12 = .ok (.bipush (-102), 2) := by decide +kernel
theorem dX6_string_14 : decode cX6_string 14 = .ok (.ireturn, 1) := by decide +kernel
theorem dX6_string_15 : decode cX6_string 15 = .ok (.aload_n 0, 1) := by decide +kernel
theorem dX6_string_16 : decode cX6_string 16 = .ok (.getfield 88, 3) := by decide +kernel
theorem dX6_string_19 : decode cX6_string 19 = .ok (.iconst 4, 1) := by decide +kernel
theorem dX6_string_20 : decode cX6_string 20 = .ok (.if_icmp .ne 6, 3) := by decide +kernel
theorem dX6_string_23 : decode cX6_string 23 = .ok (.bipush (-104), 2) := by decide +kernel
theorem dX6_string_25 : decode cX6_string 25 = .ok (.ireturn, 1) := by decide +kernel
theorem dX6_string_26 : decode cX6_string 26 = .ok (.aload_n 0, 1) := by decide +kernel
theorem dX6_string_27 : decode cX6_string 27 = .ok (.getfield 29, 3) := by decide +kernel
theorem dX6_string_30 : decode cX6_string 30 = .ok (.aload_n 0, 1) := by decide +kernel
theorem dX6_string_31 : decode cX6_string 31 = .ok (.getfield 88, 3) := by decide +kernel
theorem dX6_string_34 : decode cX6_string 34 = .ok (.iload_n 1, 1) := by decide +kernel
theorem dX6_string_35 : decode cX6_string 35 = .ok (.iastore, 1) := by decide +kernel
theorem dX6_string_36 : decode cX6_string 36 = .ok (.aload_n 0, 1) := by decide +kernel
theorem dX6_string_37 : decode cX6_string 37 = .ok (.dup, 1) := by decide +kernel
theorem dX6_string_38 : decode cX6_string 38 = .ok (.getfield 88, 3) := by decide +kernel
theorem dX6_string_41 : decode cX6_string 41 = .ok (.iconst 1, 1) := by decide +kernel
theorem dX6_string_42 : decode cX6_string 42 = .ok (.iadd, 1) := by decide +kernel
theorem dX6_string_43 : decode cX6_string 43 = .ok (.putfield 88, 3) := by decide +kernel
theorem dX6_string_46 : decode cX6_string 46 = .ok (.aload_n 0, 1) := by decide +kernel
theorem dX6_string_47 : decode cX6_string 47 = .ok (.getfield 88, 3) := by decide +kernel
theorem dX6_string_50 : decode cX6_string 50 = .ok (.ireturn, 1) := by decide +kernel
theorem dX6_forget_0 : decode cX6_forget 0 = .ok (.aload_n 0, 1) := by decide +kernel
theorem dX6_forget_1 : decode cX6_forget 1 = .ok (.getfield 88, 3) := by decide +kernel
theorem dX6_forget_4 : decode cX6_forget 4 = .ok (.istore_n 1, 1) := by decide +kernel
theorem dX6_forget_5 : decode cX6_forget 5 = .ok (.aload_n 0, 1) := by decide +kernel
theorem dX6_forget_6 : decode cX6_forget 6 = .ok (.iconst 0, 1) := by decide +kernel
theorem dX6_forget_7 : decode cX6_forget 7 = .ok (.putfield 88, 3) := by decide +kernel
theorem dX6_forget_10 : decode cX6_forget 10 = .ok (.iload_n 1, 1) := by decide +kernel
theorem dX6_forget_11 : decode cX6_forget 11 = .ok (.ireturn, 1) := by decide +kernel
theorem dX6_rowsFrom_0 : decode cX6_rowsFrom 0 = .ok (.iconst 0, 1) := by decide +kernel
theorem dX6_rowsFrom_1 : decode cX6_rowsFrom 1 = .ok (.istore_n 3, 1) := by decide +kernel
theorem dX6_rowsFrom_2 : decode cX6_rowsFrom 2 = .ok (.iload_n 3, 1) := by decide +kernel
theorem dX6_rowsFrom_3 : decode cX6_rowsFrom 3 = .ok (.sipush 4096, 3) := by decide +kernel
theorem dX6_rowsFrom_6 : decode cX6_rowsFrom 6 = .ok (.if_icmp .ge 16, 3) := by decide +kernel
theorem dX6_rowsFrom_9 : decode cX6_rowsFrom 9 = .ok (.aload_n 0, 1) := by decide +kernel
theorem dX6_rowsFrom_10 : decode cX6_rowsFrom 10 = .ok (.getfield 32, 3) := by decide +kernel
theorem dX6_rowsFrom_13 : decode cX6_rowsFrom 13 = .ok (.iload_n 3, 1) := by decide +kernel
theorem dX6_rowsFrom_14 : decode cX6_rowsFrom 14 = .ok (.iconst 0, 1) := by decide +kernel
theorem dX6_rowsFrom_15 : decode cX6_rowsFrom 15 = .ok (.iastore, 1) := by decide +kernel
theorem dX6_rowsFrom_16 : decode cX6_rowsFrom 16 = .ok (.iinc 3 1, 3) := by decide +kernel
theorem dX6_rowsFrom_19 : decode cX6_rowsFrom 19 = .ok (.goto (-17), 3) := by decide +kernel
theorem dX6_rowsFrom_22 : decode cX6_rowsFrom 22 = .ok (.aload_n 0, 1) := by decide +kernel
theorem dX6_rowsFrom_23 : decode cX6_rowsFrom 23 = .ok (.getfield 32, 3) := by decide +kernel
theorem dX6_rowsFrom_26 : decode cX6_rowsFrom 26 = .ok (.iload_n 1, 1) := by decide +kernel
theorem dX6_rowsFrom_27 : decode cX6_rowsFrom 27 = .ok (.iconst 1, 1) := by decide +kernel
theorem dX6_rowsFrom_28 : decode cX6_rowsFrom 28 = .ok (.iastore, 1) := by decide +kernel
theorem dX6_rowsFrom_29 : decode cX6_rowsFrom 29 = .ok (.iload_n 2, 1) := by decide +kernel
theorem dX6_rowsFrom_30 : decode cX6_rowsFrom 30 = .ok (.istore_n 3, 1) := by decide +kernel
theorem dX6_rowsFrom_31 : decode cX6_rowsFrom 31 = .ok (.iload_n 3, 1) := by decide +kernel
theorem dX6_rowsFrom_32 : decode cX6_rowsFrom 32 = .ok (.aload_n 0, 1) := by decide +kernel
theorem dX6_rowsFrom_33 : decode cX6_rowsFrom 33 = .ok (.getfield 88, 3) := by decide +kernel
theorem dX6_rowsFrom_36 : decode cX6_rowsFrom 36 = .ok (.if_icmp .ge 19, 3) := by decide +kernel
theorem dX6_rowsFrom_39 : decode cX6_rowsFrom 39 = .ok (.aload_n 0, 1) := by decide +kernel
theorem dX6_rowsFrom_40 : decode cX6_rowsFrom 40 = .ok (.aload_n 0, 1) := by decide +kernel
theorem dX6_rowsFrom_41 : decode cX6_rowsFrom 41 = .ok (.getfield 29, 3) := by decide +kernel
theorem dX6_rowsFrom_44 : decode cX6_rowsFrom 44 = .ok (.iload_n 3, 1) := by decide +kernel
theorem dX6_rowsFrom_45 : decode cX6_rowsFrom 45 = .ok (.iaload, 1) := by decide +kernel
theorem dX6_rowsFrom_46 : decode cX6_rowsFrom 46 = .ok (.invokevirtual 168, 3) := by decide +kernel
theorem dX6_rowsFrom_49 : decode cX6_rowsFrom 49 = .ok (.iinc 3 1, 3) := by decide +kernel
theorem dX6_rowsFrom_52 : decode cX6_rowsFrom 52 = .ok (.goto (-21), 3) := by decide +kernel
theorem dX6_rowsFrom_55 : decode cX6_rowsFrom 55 = .ok (.iconst 0, 1) := by decide +kernel
theorem dX6_rowsFrom_56 : decode cX6_rowsFrom 56 = .ok (.istore_n 3, 1) := by decide +kernel
theorem dX6_rowsFrom_57 : decode cX6_rowsFrom 57 = .ok (.iconst 0, 1) := by decide +kernel
theorem dX6_rowsFrom_58 : decode cX6_rowsFrom 58 = .ok (.istore 4, 2) := by decide +kernel
theorem dX6_rowsFrom_60 : decode cX6_rowsFrom 60 = .ok (.iload 4, 2) := by decide +kernel
theorem dX6_rowsFrom_62 : decode cX6_rowsFrom 62 = .ok (.sipush 4096, 3) := by decide +kernel
theorem dX6_rowsFrom_65 : decode cX6_rowsFrom 65 = .ok (.if_icmp .ge 19, 3) := by decide +kernel
theorem dX6_rowsFrom_68 : decode cX6_rowsFrom 68 = .ok (.iload_n 3, 1) := by decide +kernel
theorem dX6_rowsFrom_69 : decode cX6_rowsFrom 69 = .ok (.aload_n 0, 1) := by decide +kernel
theorem dX6_rowsFrom_70 : decode cX6_rowsFrom 70 = .ok (.getfield 32, 3) := by decide +kernel
theorem dX6_rowsFrom_73 : decode cX6_rowsFrom 73 = .ok (.iload 4, 2) := by decide +kernel
theorem dX6_rowsFrom_75 : decode cX6_rowsFrom 75 = .ok (.iaload, 1) := by decide +kernel
theorem dX6_rowsFrom_76 : decode cX6_rowsFrom 76 = .ok (.iadd, 1) := by decide +kernel
theorem dX6_rowsFrom_77 : decode cX6_rowsFrom 77 = .ok (.istore_n 3, 1) := by decide +kernel
theorem dX6_rowsFrom_78 : decode cX6_rowsFrom 78 = .ok (.iinc 4 1, 3) := by decide +kernel
theorem dX6_rowsFrom_81 : decode cX6_rowsFrom 81 = .ok (.goto (-21), 3) := by decide +kernel
theorem dX6_rowsFrom_84 : decode cX6_rowsFrom 84 = .ok (.iload_n 3, 1) := by decide +kernel
theorem dX6_rowsFrom_85 : decode cX6_rowsFrom 85 = .ok (.ireturn, 1) := by decide +kernel
theorem dX6_stepAll_0 : decode cX6_stepAll 0 = .ok (.iconst 0, 1) := by decide +kernel
theorem dX6_stepAll_1 : decode cX6_stepAll 1 = .ok (.istore_n 2, 1) := by decide +kernel
theorem dX6_stepAll_2 : decode cX6_stepAll 2 = .ok (.iload_n 2, 1) := by decide +kernel
theorem dX6_stepAll_3 : decode cX6_stepAll 3 = .ok (.sipush 4096, 3) := by decide +kernel
theorem dX6_stepAll_6 : decode cX6_stepAll 6 = .ok (.if_icmp .ge 16, 3) := by decide +kernel
theorem dX6_stepAll_9 : decode cX6_stepAll 9 = .ok (.aload_n 0, 1) := by decide +kernel
theorem dX6_stepAll_10 : decode cX6_stepAll 10 = .ok (.getfield 35, 3) := by decide +kernel
theorem dX6_stepAll_13 : decode cX6_stepAll 13 = .ok (.iload_n 2, 1) := by decide +kernel
theorem dX6_stepAll_14 : decode cX6_stepAll 14 = .ok (.iconst 0, 1) := by decide +kernel
theorem dX6_stepAll_15 : decode cX6_stepAll 15 = .ok (.iastore, 1) := by decide +kernel
theorem dX6_stepAll_16 : decode cX6_stepAll 16 = .ok (.iinc 2 1, 3) := by decide +kernel
theorem dX6_stepAll_19 : decode cX6_stepAll 19 = .ok (.goto (-17), 3) := by decide +kernel
theorem dX6_stepAll_22 : decode cX6_stepAll 22 = .ok (.iconst 0, 1) := by decide +kernel
theorem dX6_stepAll_23 : decode cX6_stepAll 23 = .ok (.istore_n 2, 1) := by decide +kernel
theorem dX6_stepAll_24 : decode cX6_stepAll 24 = .ok (.iload_n 2, 1) := by decide +kernel
theorem dX6_stepAll_25 : decode cX6_stepAll 25 = .ok (.sipush 4096, 3) := by decide +kernel
theorem dX6_stepAll_28 : decode cX6_stepAll 28 = .ok (.if_icmp .ge 75, 3) := by decide +kernel
theorem dX6_stepAll_31 : decode cX6_stepAll 31 = .ok (.iconst 0, 1) := by decide +kernel
theorem dX6_stepAll_32 : decode cX6_stepAll 32 = .ok (.istore_n 3, 1) := by decide +kernel
theorem dX6_stepAll_33 : decode cX6_stepAll 33 = .ok (.iload_n 3, 1) := by decide +kernel
theorem dX6_stepAll_34 : decode cX6_stepAll 34 = .ok (.bipush 42, 2) := by decide +kernel
theorem dX6_stepAll_36 : decode cX6_stepAll 36 = .ok (.if_icmp .ge 61, 3) := by decide +kernel
theorem dX6_stepAll_39 : decode cX6_stepAll 39 = .ok (.aload_n 0, 1) := by decide +kernel
theorem dX6_stepAll_40 : decode cX6_stepAll 40 = .ok (.getfield 32, 3) := by decide +kernel
theorem dX6_stepAll_43 : decode cX6_stepAll 43 = .ok (.iload_n 2, 1) := by decide +kernel
theorem dX6_stepAll_44 : decode cX6_stepAll 44 = .ok (.iaload, 1) := by decide +kernel
theorem dX6_stepAll_45 : decode cX6_stepAll 45 = .ok (.ifCond .le 52, 3) := by decide +kernel
theorem dX6_stepAll_48 : decode cX6_stepAll 48 = .ok (.aload_n 0, 1) := by decide +kernel
theorem dX6_stepAll_49 : decode cX6_stepAll 49 = .ok (.iload_n 2, 1) := by decide +kernel
theorem dX6_stepAll_50 : decode cX6_stepAll 50 = .ok (.iload_n 3, 1) := by decide +kernel
theorem dX6_stepAll_51 : decode cX6_stepAll 51 = .ok (.aload_n 0, 1) := by decide +kernel
theorem dX6_stepAll_52 : decode cX6_stepAll 52 = .ok (.invokevirtual 124, 3) := by decide +kernel
theorem dX6_stepAll_55 : decode cX6_stepAll 55 = .ok (.invokevirtual 142, 3) := by decide +kernel
theorem dX6_stepAll_58 : decode cX6_stepAll 58 = .ok (.istore 4, 2) := by decide +kernel
theorem dX6_stepAll_60 : decode cX6_stepAll 60 = .ok (.iload 4, 2) := by decide +kernel
theorem dX6_stepAll_62 : decode cX6_stepAll 62 = .ok (.iconst (-1), 1) := by decide +kernel
theorem dX6_stepAll_63 : decode cX6_stepAll 63 = .ok (.if_icmp .eq 28, 3) := by decide +kernel
theorem dX6_stepAll_66 : decode cX6_stepAll 66 = .ok (.iload 4, 2) := by decide +kernel
theorem dX6_stepAll_68 : decode cX6_stepAll 68 = .ok (.invokestatic 118, 3) := by decide +kernel
theorem dX6_stepAll_71 : decode cX6_stepAll 71 = .ok (.iload_n 1, 1) := by decide +kernel
theorem dX6_stepAll_72 : decode cX6_stepAll 72 = .ok (.if_icmp .ne 19, 3) := by decide +kernel
theorem dX6_stepAll_75 : decode cX6_stepAll 75 = .ok (.aload_n 0, 1) := by decide +kernel
theorem dX6_stepAll_76 : decode cX6_stepAll 76 = .ok (.getfield 35, 3) := by decide +kernel
theorem dX6_stepAll_79 : decode cX6_stepAll 79 = .ok (.iload 4, 2) := by decide +kernel
theorem dX6_stepAll_81 : decode cX6_stepAll 81 = .ok (.dup2, 1) := by decide +kernel
theorem dX6_stepAll_82 : decode cX6_stepAll 82 = .ok (.iaload, 1) := by decide +kernel
theorem dX6_stepAll_83 : decode cX6_stepAll 83 = .ok (.aload_n 0, 1) := by decide +kernel
theorem dX6_stepAll_84 : decode cX6_stepAll 84 = .ok (.getfield 32, 3) := by decide +kernel
theorem dX6_stepAll_87 : decode cX6_stepAll 87 = .ok (.iload_n 2, 1) := by decide +kernel
theorem dX6_stepAll_88 : decode cX6_stepAll 88 = .ok (.iaload, 1) := by decide +kernel
theorem dX6_stepAll_89 : decode cX6_stepAll 89 = .ok (.iadd, 1) := by decide +kernel
theorem dX6_stepAll_90 : decode cX6_stepAll 90 = .ok (.iastore, 1) := by decide +kernel
theorem dX6_stepAll_91 : decode cX6_stepAll 91 = .ok (.iinc 3 1, 3) := by decide +kernel
theorem dX6_stepAll_94 : decode cX6_stepAll 94 = .ok (.goto (-61), 3) := by decide +kernel
theorem dX6_stepAll_97 : decode cX6_stepAll 97 = .ok (.iinc 2 1, 3) := by decide +kernel
theorem dX6_stepAll_100 : decode cX6_stepAll 100 = .ok (.goto (-76), 3) := by decide +kernel
theorem dX6_stepAll_103 : decode cX6_stepAll 103 = .ok (.iconst 0, 1) := by decide +kernel
theorem dX6_stepAll_104 : decode cX6_stepAll 104 = .ok (.istore_n 2, 1) := by decide +kernel
theorem dX6_stepAll_105 : decode cX6_stepAll 105 = .ok (.iload_n 2, 1) := by decide +kernel
theorem dX6_stepAll_106 : decode cX6_stepAll 106 = .ok (.sipush 4096, 3) := by decide +kernel
theorem dX6_stepAll_109 : decode cX6_stepAll 109 = .ok (.if_icmp .ge 21, 3) := by decide +kernel
theorem dX6_stepAll_112 : decode cX6_stepAll 112 = .ok (.aload_n 0, 1) := by decide +kernel
theorem dX6_stepAll_113 : decode cX6_stepAll 113 = .ok (.getfield 32, 3) := by decide +kernel
theorem dX6_stepAll_116 : decode cX6_stepAll 116 = .ok (.iload_n 2, 1) := by decide +kernel
theorem dX6_stepAll_117 : decode cX6_stepAll 117 = .ok (.aload_n 0, 1) := by decide +kernel
theorem dX6_stepAll_118 : decode cX6_stepAll 118 = .ok (.getfield 35, 3) := by decide +kernel
theorem dX6_stepAll_121 : decode cX6_stepAll 121 = .ok (.iload_n 2, 1) := by decide +kernel
theorem dX6_stepAll_122 : decode cX6_stepAll 122 = .ok (.iaload, 1) := by decide +kernel
theorem dX6_stepAll_123 : decode cX6_stepAll 123 = .ok (.iastore, 1) := by decide +kernel
theorem dX6_stepAll_124 : decode cX6_stepAll 124 = .ok (.iinc 2 1, 3) := by decide +kernel
theorem dX6_stepAll_127 : decode cX6_stepAll 127 = .ok (.goto (-22), 3) := by decide +kernel
theorem dX6_stepAll_130 : decode cX6_stepAll 130 = .ok (.return_, 1) := by decide +kernel
theorem dX6_layFits_0 : decode cX6_layFits 0 = .ok (.aload_n 0, 1) := by decide +kernel
theorem dX6_layFits_1 : decode cX6_layFits 1 = .ok (.aload_n 0, 1) := by decide +kernel
theorem dX6_layFits_2 : decode cX6_layFits 2 = .ok (.getfield 88, 3) := by decide +kernel
theorem dX6_layFits_5 : decode cX6_layFits 5 = .ok (.ifCond .ne 7, 3) := by decide +kernel
theorem dX6_layFits_8 : decode cX6_layFits 8 = .ok (.iconst 1, 1) := by decide +kernel
theorem dX6_layFits_9 : decode cX6_layFits 9 = .ok (.goto 4, 3) := by decide +kernel
theorem dX6_layFits_12 : decode cX6_layFits 12 = .ok (.iconst 0, 1) := by decide +kernel
theorem dX6_layFits_13 : decode cX6_layFits 13 = .ok (.putfield 171, 3) := by decide +kernel
theorem dX6_layFits_16 : decode cX6_layFits 16 = .ok (.aload_n 0, 1) := by decide +kernel
theorem dX6_layFits_17 : decode cX6_layFits 17 = .ok (.iconst 0, 1) := by decide +kernel
theorem dX6_layFits_18 : decode cX6_layFits 18 = .ok (.putfield 174, 3) := by decide +kernel
theorem dX6_layFits_21 : decode cX6_layFits 21 = .ok (.aload_n 0, 1) := by decide +kernel
theorem dX6_layFits_22 : decode cX6_layFits 22 = .ok (.iconst (-1), 1) := by decide +kernel
theorem dX6_layFits_23 : decode cX6_layFits 23 = .ok (.putfield 177, 3) := by decide +kernel
theorem dX6_layFits_26 : decode cX6_layFits 26 = .ok (.iconst 0, 1) := by decide +kernel
theorem dX6_layFits_27 : decode cX6_layFits 27 = .ok (.istore_n 1, 1) := by decide +kernel
theorem dX6_layFits_28 : decode cX6_layFits 28 = .ok (.iload_n 1, 1) := by decide +kernel
theorem dX6_layFits_29 : decode cX6_layFits 29 = .ok (.bipush 42, 2) := by decide +kernel
theorem dX6_layFits_31 : decode cX6_layFits 31 = .ok (.if_icmp .ge 111, 3) := by decide +kernel
theorem dX6_layFits_34 : decode cX6_layFits 34 = .ok (.aload_n 0, 1) := by decide +kernel
theorem dX6_layFits_35 : decode cX6_layFits 35 = .ok (.getfield 88, 3) := by decide +kernel
theorem dX6_layFits_38 : decode cX6_layFits 38 = .ok (.ifCond .le 104, 3) := by decide +kernel
theorem dX6_layFits_41 : decode cX6_layFits 41 = .ok (.aload_n 0, 1) := by decide +kernel
theorem dX6_layFits_42 : decode cX6_layFits 42 = .ok (.aload_n 0, 1) := by decide +kernel
theorem dX6_layFits_43 : decode cX6_layFits 43 = .ok (.getfield 70, 3) := by decide +kernel
theorem dX6_layFits_46 : decode cX6_layFits 46 = .ok (.iload_n 1, 1) := by decide +kernel
theorem dX6_layFits_47 : decode cX6_layFits 47 = .ok (.aload_n 0, 1) := by decide +kernel
theorem dX6_layFits_48 : decode cX6_layFits 48 = .ok (.invokevirtual 124, 3) := by decide +kernel
theorem dX6_layFits_51 : decode cX6_layFits 51 = .ok (.invokevirtual 142, 3) := by decide +kernel
theorem dX6_layFits_54 : decode cX6_layFits 54 = .ok (.istore_n 2, 1) := by decide +kernel
theorem dX6_layFits_55 : decode cX6_layFits 55 = .ok (.iload_n 2, 1) := by decide +kernel
theorem dX6_layFits_56 : decode cX6_layFits 56 = .ok (.iconst (-1), 1) := by decide +kernel
theorem dX6_layFits_57 : decode cX6_layFits 57 = .ok (.if_icmp .eq 25, 3) := by decide +kernel
theorem dX6_layFits_60 : decode cX6_layFits 60 = .ok (.iload_n 2, 1) := by decide +kernel
theorem dX6_layFits_61 : decode cX6_layFits 61 = .ok (.invokestatic 118, 3) := by decide +kernel
theorem dX6_layFits_64 : decode cX6_layFits 64 = .ok (.aload_n 0, 1) := by decide +kernel
theorem dX6_layFits_65 : decode cX6_layFits 65 = .ok (.getfield 29, 3) := by decide +kernel
theorem dX6_layFits_68 : decode cX6_layFits 68 = .ok (.iconst 0, 1) := by decide +kernel
theorem dX6_layFits_69 : decode cX6_layFits 69 = .ok (.iaload, 1) := by decide +kernel
theorem dX6_layFits_70 : decode cX6_layFits 70 = .ok (.if_icmp .ne 12, 3) := by decide +kernel
theorem dX6_layFits_73 : decode cX6_layFits 73 = .ok (.aload_n 0, 1) := by decide +kernel
theorem dX6_layFits_74 : decode cX6_layFits 74 = .ok (.iload_n 2, 1) := by decide +kernel
theorem dX6_layFits_75 : decode cX6_layFits 75 = .ok (.iconst 1, 1) := by decide +kernel
theorem dX6_layFits_76 : decode cX6_layFits 76 = .ok (.invokevirtual 180, 3) := by decide +kernel
theorem dX6_layFits_79 : decode cX6_layFits 79 = .ok (.goto 4, 3) := by decide +kernel
theorem dX6_layFits_82 : decode cX6_layFits 82 = .ok (.iconst 0, 1) := by decide +kernel
theorem dX6_layFits_83 : decode cX6_layFits 83 = .ok (.istore_n 3, 1) := by decide +kernel
theorem dX6_layFits_84 : decode cX6_layFits 84 = .ok (.aload_n 0, 1) := by decide +kernel
theorem dX6_layFits_85 : decode cX6_layFits 85 = .ok (.dup, 1) := by decide +kernel
theorem dX6_layFits_86 : decode cX6_layFits 86 = .ok (.getfield 171, 3) := by decide +kernel
theorem dX6_layFits_89 : decode cX6_layFits 89 = .ok (.iload_n 3, 1) := by decide +kernel
theorem dX6_layFits_90 : decode cX6_layFits 90 = .ok (.iadd, 1) := by decide +kernel
theorem dX6_layFits_91 : decode cX6_layFits 91 = .ok (.putfield 171, 3) := by decide +kernel
theorem dX6_layFits_94 : decode cX6_layFits 94 = .ok (.aload_n 0, 1) := by decide +kernel
theorem dX6_layFits_95 : decode cX6_layFits 95 = .ok (.dup, 1) := by decide +kernel
theorem dX6_layFits_96 : decode cX6_layFits 96 = .ok (.getfield 174, 3) := by decide +kernel
theorem dX6_layFits_99 : decode cX6_layFits 99 = .ok (.iload_n 3, 1) := by decide +kernel
theorem dX6_layFits_100 : decode cX6_layFits 100 = .ok (.ifCond .le 7, 3) := by decide +kernel
theorem dX6_layFits_103 : decode cX6_layFits 103 = .ok (.iconst 1, 1) := by decide +kernel
theorem dX6_layFits_104 : decode cX6_layFits 104 = .ok (.goto 4, 3) := by decide +kernel
theorem dX6_layFits_107 : decode cX6_layFits 107 = .ok (.iconst 0, 1) := by decide +kernel
theorem dX6_layFits_108 : decode cX6_layFits 108 = .ok (.iadd, 1) := by decide +kernel
theorem dX6_layFits_109 : decode cX6_layFits 109 = .ok (.putfield 174, 3) := by decide +kernel
theorem dX6_layFits_112 : decode cX6_layFits 112 = .ok (.aload_n 0, 1) := by decide +kernel
theorem dX6_layFits_113 : decode cX6_layFits 113 = .ok (.iload_n 3, 1) := by decide +kernel
theorem dX6_layFits_114 : decode cX6_layFits 114 = .ok (.ifCond .le 15, 3) := by decide +kernel
theorem dX6_layFits_117 : decode cX6_layFits 117 = .ok (.aload_n 0, 1) := by decide +kernel
theorem dX6_layFits_118 : decode cX6_layFits 118 = .ok (.getfield 177, 3) := by decide +kernel
theorem dX6_layFits_121 : decode cX6_layFits 121 = .ok (.iconst (-1), 1) := by decide +kernel
theorem dX6_layFits_122 : decode cX6_layFits 122 = .ok (.if_icmp .ne 7, 3) := by decide +kernel
theorem dX6_layFits_125 : decode cX6_layFits 125 = .ok (.iload_n 1, 1) := by decide +kernel
theorem dX6_layFits_126 : decode cX6_layFits 126 = .ok (.goto 7, 3) := by decide +kernel
theorem dX6_layFits_129 : decode cX6_layFits 129 = .ok (.aload_n 0, 1) := by decide +kernel
theorem dX6_layFits_130 : decode cX6_layFits 130 = .ok (.getfield 177, 3) := by decide +kernel
theorem dX6_layFits_133 : decode cX6_layFits 133 = .ok (.putfield 177, 3) := by decide +kernel
theorem dX6_layFits_136 : decode cX6_layFits 136 = .ok (.iinc 1 1, 3) := by decide +kernel
theorem dX6_layFits_139 : decode cX6_layFits 139 = .ok (.goto (-111), 3) := by decide +kernel
theorem dX6_layFits_142 : decode cX6_layFits 142 = .ok (.return_, 1) := by decide +kernel
theorem dX6_fits_0 : decode cX6_fits 0 = .ok (.iload_n 1, 1) := by decide +kernel
theorem dX6_fits_1 : decode cX6_fits 1 = .ok (.i2l, 1) := by decide +kernel
theorem dX6_fits_2 : decode cX6_fits 2 = .ok (.lconst 0, 1) := by decide +kernel
theorem dX6_fits_3 : decode cX6_fits 3 = .ok (.ldc2_w 108, 3) := by decide +kernel
theorem dX6_fits_6 : decode cX6_fits 6 = .ok (.invokestatic 47, 3) := by decide +kernel
theorem dX6_fits_9 : decode cX6_fits 9 = .ok (.ifCond .ne 6, 3) := by decide +kernel
theorem dX6_fits_12 : decode cX6_fits 12 = .ok (.bipush (-102), 2) := by decide +kernel
theorem dX6_fits_14 : decode cX6_fits 14 = .ok (.ireturn, 1) := by decide +kernel
theorem dX6_fits_15 : decode cX6_fits 15 = .ok (.aload_n 0, 1) := by decide +kernel
theorem dX6_fits_16 : decode cX6_fits 16 = .ok (.getfield 91, 3) := by decide +kernel
theorem dX6_fits_19 : decode cX6_fits 19 = .ok (.ifCond .ne 6, 3) := by decide +kernel
theorem dX6_fits_22 : decode cX6_fits 22 = .ok (.bipush (-103), 2) := by decide +kernel
theorem dX6_fits_24 : decode cX6_fits 24 = .ok (.ireturn, 1) := by decide +kernel
theorem dX6_fits_25 : decode cX6_fits 25 = .ok (.aload_n 0, 1) := by decide +kernel
theorem dX6_fits_26 : decode cX6_fits 26 = .ok (.invokevirtual 183, 3) := by decide +kernel
theorem dX6_fits_29 : decode cX6_fits 29 = .ok (.iload_n 1, 1) := by decide +kernel
theorem dX6_fits_30 : decode cX6_fits 30 = .ok (.ifCond .ne 10, 3) := by decide +kernel
theorem dX6_fits_33 : decode cX6_fits 33 = .ok (.aload_n 0, 1) := by decide +kernel
theorem dX6_fits_34 : decode cX6_fits 34 = .ok (.getfield 171, 3) := by decide +kernel
theorem dX6_fits_37 : decode cX6_fits 37 = .ok (.goto 19, 3) := by decide +kernel
theorem dX6_fits_40 : decode cX6_fits 40 = .ok (.iload_n 1, 1) := by decide +kernel
theorem dX6_fits_41 : decode cX6_fits 41 = .ok (.iconst 1, 1) := by decide +kernel
theorem dX6_fits_42 : decode cX6_fits 42 = .ok (.if_icmp .ne 10, 3) := by decide +kernel
theorem dX6_fits_45 : decode cX6_fits 45 = .ok (.aload_n 0, 1) := by decide +kernel
theorem dX6_fits_46 : decode cX6_fits 46 = .ok (.getfield 174, 3) := by decide +kernel
theorem dX6_fits_49 : decode cX6_fits 49 = .ok (.goto 7, 3) := by decide +kernel
theorem dX6_fits_52 : decode cX6_fits 52 = .ok (.aload_n 0, 1) := by decide +kernel
theorem dX6_fits_53 : decode cX6_fits 53 = .ok (.getfield 177, 3) := by decide +kernel
theorem dX6_fits_56 : decode cX6_fits 56 = .ok (.ireturn, 1) := by decide +kernel
theorem dX6_draw_0 : decode cX6_draw 0 = .ok (.aload_n 0, 1) := by decide +kernel
theorem dX6_draw_1 : decode cX6_draw 1 = .ok (.ldc2_w 186, 3) := by decide +kernel
theorem dX6_draw_4 : decode cX6_draw 4 = .ok (.aload_n 0, 1) := by decide +kernel
theorem dX6_draw_5 : decode cX6_draw 5 = .ok (.getfield 188, 3) := by decide +kernel
theorem dX6_draw_8 : decode cX6_draw 8 = .ok (.i2l, 1) := by decide +kernel
theorem dX6_draw_9 : decode cX6_draw 9 = .ok (.lmul, 1) := by decide +kernel
theorem dX6_draw_10 : decode cX6_draw 10 = .ok (.ldc2_w 191, 3) := by decide +kernel
theorem dX6_draw_13 : decode cX6_draw 13 = .ok (.ladd, 1) := by decide +kernel
theorem dX6_draw_14 : decode cX6_draw 14 = .ok (.ldc2_w 193, 3) := by decide +kernel
theorem dX6_draw_17 : decode cX6_draw 17 = .ok (.land, 1) := by decide +kernel
theorem dX6_draw_18 : decode cX6_draw 18 = .ok (.l2i, 1) := by decide +kernel
theorem dX6_draw_19 : decode cX6_draw 19 = .ok (.putfield 188, 3) := by decide +kernel
theorem dX6_draw_22 : decode cX6_draw 22 = .ok (.aload_n 0, 1) := by decide +kernel
theorem dX6_draw_23 : decode cX6_draw 23 = .ok (.getfield 188, 3) := by decide +kernel
theorem dX6_draw_26 : decode cX6_draw 26 = .ok (.ldc 195, 2) := by decide +kernel
theorem dX6_draw_28 : decode cX6_draw 28 = .ok (.idiv, 1) := by decide +kernel
theorem dX6_draw_29 : decode cX6_draw 29 = .ok (.iload_n 1, 1) := by decide +kernel
theorem dX6_draw_30 : decode cX6_draw 30 = .ok (.irem, 1) := by decide +kernel
theorem dX6_draw_31 : decode cX6_draw 31 = .ok (.ireturn, 1) := by decide +kernel
theorem dX6_days_0 : decode cX6_days 0 = .ok (.iload_n 1, 1) := by decide +kernel
theorem dX6_days_1 : decode cX6_days 1 = .ok (.i2l, 1) := by decide +kernel
theorem dX6_days_2 : decode cX6_days 2 = .ok (.lconst 1, 1) := by decide +kernel
theorem dX6_days_3 : decode cX6_days 3 = .ok (.ldc2_w 196, 3) := by decide +kernel
theorem dX6_days_6 : decode cX6_days 6 = .ok (.invokestatic 47, 3) := by decide +kernel
theorem dX6_days_9 : decode cX6_days 9 = .ok (.ifCond .eq 19, 3) := by decide +kernel
theorem dX6_days_12 : decode cX6_days 12 = .ok (.iload_n 2, 1) := by decide +kernel
theorem dX6_days_13 : decode cX6_days 13 = .ok (.ifCond .lt 15, 3) := by decide +kernel
theorem dX6_days_16 : decode cX6_days 16 = .ok (.iload_n 3, 1) := by decide +kernel
theorem dX6_days_17 : decode cX6_days 17 = .ok (.i2l, 1) := by decide +kernel
theorem dX6_days_18 : decode cX6_days 18 = .ok (.lconst 0, 1) := by decide +kernel
theorem dX6_days_19 : decode cX6_days 19 = .ok (.ldc2_w 60, 3) := by decide +kernel
theorem dX6_days_22 : decode cX6_days 22 = .ok (.invokestatic 47, 3) := by decide +kernel
theorem dX6_days_25 : decode cX6_days 25 = .ok (.ifCond .ne 6, 3) := by decide +kernel
theorem dX6_days_28 : decode cX6_days 28 = .ok (.bipush (-102), 2) := by decide +kernel
theorem dX6_days_30 : decode cX6_days 30 = .ok (.ireturn, 1) := by decide +kernel
theorem dX6_days_31 : decode cX6_days 31 = .ok (.aload_n 0, 1) := by decide +kernel
theorem dX6_days_32 : decode cX6_days 32 = .ok (.getfield 91, 3) := by decide +kernel
theorem dX6_days_35 : decode cX6_days 35 = .ok (.ifCond .ne 6, 3) := by decide +kernel
theorem dX6_days_38 : decode cX6_days 38 = .ok (.bipush (-103), 2) := by decide +kernel
theorem dX6_days_40 : decode cX6_days 40 = .ok (.ireturn, 1) := by decide +kernel
theorem dX6_days_41 : decode cX6_days 41 = .ok (.aload_n 0, 1) := by decide +kernel
theorem dX6_days_42 : decode cX6_days 42 = .ok (.iload_n 2, 1) := by decide +kernel
theorem dX6_days_43 : decode cX6_days 43 = .ok (.putfield 188, 3) := by decide +kernel
theorem dX6_days_46 : decode cX6_days 46 = .ok (.aload_n 0, 1) := by decide +kernel
theorem dX6_days_47 : decode cX6_days 47 = .ok (.getfield 70, 3) := by decide +kernel
theorem dX6_days_50 : decode cX6_days 50 = .ok (.istore 4, 2) := by decide +kernel
theorem dX6_days_52 : decode cX6_days 52 = .ok (.iconst 0, 1) := by decide +kernel
theorem dX6_days_53 : decode cX6_days 53 = .ok (.istore 5, 2) := by decide +kernel
theorem dX6_days_55 : decode cX6_days 55 = .ok (.iconst 0, 1) := by decide +kernel
theorem dX6_days_56 : decode cX6_days 56 = .ok (.istore 6, 2) := by decide +kernel
theorem dX6_days_58 : decode cX6_days 58 = .ok (.iconst 0, 1) := by decide +kernel
theorem dX6_days_59 : decode cX6_days 59 = .ok (.istore 7, 2) := by decide +kernel
theorem dX6_days_61 : decode cX6_days 61 = .ok (.iload 7, 2) := by decide +kernel
theorem dX6_days_63 : decode cX6_days 63 = .ok (.iload_n 1, 1) := by decide +kernel
theorem dX6_days_64 : decode cX6_days 64 = .ok (.if_icmp .ge 55, 3) := by decide +kernel
theorem dX6_days_67 : decode cX6_days 67 = .ok (.aload_n 0, 1) := by decide +kernel
theorem dX6_days_68 : decode cX6_days 68 = .ok (.bipush 42, 2) := by decide +kernel
theorem dX6_days_70 : decode cX6_days 70 = .ok (.invokevirtual 198, 3) := by decide +kernel
theorem dX6_days_73 : decode cX6_days 73 = .ok (.istore 8, 2) := by decide +kernel
theorem dX6_days_75 : decode cX6_days 75 = .ok (.aload_n 0, 1) := by decide +kernel
theorem dX6_days_76 : decode cX6_days 76 = .ok (.iload 4, 2) := by decide +kernel
theorem dX6_days_78 : decode cX6_days 78 = .ok (.iload 8, 2) := by decide +kernel
theorem dX6_days_80 : decode cX6_days 80 = .ok (.aload_n 0, 1) := by decide +kernel
theorem dX6_days_81 : decode cX6_days 81 = .ok (.invokevirtual 124, 3) := by decide +kernel
theorem dX6_days_84 : decode cX6_days 84 = .ok (.invokevirtual 142, 3) := by decide +kernel
theorem dX6_days_87 : decode cX6_days 87 = .ok (.istore 9, 2) := by decide +kernel
theorem dX6_days_89 : decode cX6_days 89 = .ok (.iload 9, 2) := by decide +kernel
theorem dX6_days_91 : decode cX6_days 91 = .ok (.iconst (-1), 1) := by decide +kernel
theorem dX6_days_92 : decode cX6_days 92 = .ok (.if_icmp .eq 21, 3) := by decide +kernel
theorem dX6_days_95 : decode cX6_days 95 = .ok (.iload 9, 2) := by decide +kernel
theorem dX6_days_97 : decode cX6_days 97 = .ok (.istore 4, 2) := by decide +kernel
theorem dX6_days_99 : decode cX6_days 99 = .ok (.iinc 5 1, 3) := by decide +kernel
theorem dX6_days_102 : decode cX6_days 102 = .ok (.iload 6, 2) := by decide +kernel
theorem dX6_days_104 : decode cX6_days 104 = .ok (.aload_n 0, 1) := by decide +kernel
theorem dX6_days_105 : decode cX6_days 105 = .ok (.iload 8, 2) := by decide +kernel
theorem dX6_days_107 : decode cX6_days 107 = .ok (.invokevirtual 146, 3) := by decide +kernel
theorem dX6_days_110 : decode cX6_days 110 = .ok (.iadd, 1) := by decide +kernel
theorem dX6_days_111 : decode cX6_days 111 = .ok (.istore 6, 2) := by decide +kernel
theorem dX6_days_113 : decode cX6_days 113 = .ok (.iinc 7 1, 3) := by decide +kernel
theorem dX6_days_116 : decode cX6_days 116 = .ok (.goto (-55), 3) := by decide +kernel
theorem dX6_days_119 : decode cX6_days 119 = .ok (.iload_n 3, 1) := by decide +kernel
theorem dX6_days_120 : decode cX6_days 120 = .ok (.ifCond .ne 8, 3) := by decide +kernel
theorem dX6_days_123 : decode cX6_days 123 = .ok (.iload 5, 2) := by decide +kernel
theorem dX6_days_125 : decode cX6_days 125 = .ok (.goto 30, 3) := by decide +kernel
theorem dX6_days_128 : decode cX6_days 128 = .ok (.iload_n 3, 1) := by decide +kernel
theorem dX6_days_129 : decode cX6_days 129 = .ok (.iconst 1, 1) := by decide +kernel
theorem dX6_days_130 : decode cX6_days 130 = .ok (.if_icmp .ne 8, 3) := by decide +kernel
theorem dX6_days_133 : decode cX6_days 133 = .ok (.iload 6, 2) := by decide +kernel
theorem dX6_days_135 : decode cX6_days 135 = .ok (.goto 20, 3) := by decide +kernel
theorem dX6_days_138 : decode cX6_days 138 = .ok (.iload_n 3, 1) := by decide +kernel
theorem dX6_days_139 : decode cX6_days 139 = .ok (.iconst 2, 1) := by decide +kernel
theorem dX6_days_140 : decode cX6_days 140 = .ok (.if_icmp .ne 11, 3) := by decide +kernel
theorem dX6_days_143 : decode cX6_days 143 = .ok (.iload 4, 2) := by decide +kernel
theorem dX6_days_145 : decode cX6_days 145 = .ok (.invokestatic 98, 3) := by decide +kernel
theorem dX6_days_148 : decode cX6_days 148 = .ok (.goto 7, 3) := by decide +kernel
theorem dX6_days_151 : decode cX6_days 151 = .ok (.aload_n 0, 1) := by decide +kernel
theorem dX6_days_152 : decode cX6_days 152 = .ok (.getfield 188, 3) := by decide +kernel
theorem dX6_days_155 : decode cX6_days 155 = .ok (.ireturn, 1) := by decide +kernel
theorem dX6_copy_0 : decode cX6_copy 0 = .ok (.iconst 0, 1) := by decide +kernel
theorem dX6_copy_1 : decode cX6_copy 1 = .ok (.istore_n 2, 1) := by decide +kernel
theorem dX6_copy_2 : decode cX6_copy 2 = .ok (.iload_n 2, 1) := by decide +kernel
theorem dX6_copy_3 : decode cX6_copy 3 = .ok (.aload_n 0, 1) := by decide +kernel
theorem dX6_copy_4 : decode cX6_copy 4 = .ok (.arraylength, 1) := by decide +kernel
theorem dX6_copy_5 : decode cX6_copy 5 = .ok (.if_icmp .ge 15, 3) := by decide +kernel
theorem dX6_copy_8 : decode cX6_copy 8 = .ok (.aload_n 1, 1) := by decide +kernel
theorem dX6_copy_9 : decode cX6_copy 9 = .ok (.iload_n 2, 1) := by decide +kernel
theorem dX6_copy_10 : decode cX6_copy 10 = .ok (.aload_n 0, 1) := by decide +kernel
theorem dX6_copy_11 : decode cX6_copy 11 = .ok (.iload_n 2, 1) := by decide +kernel
theorem dX6_copy_12 : decode cX6_copy 12 = .ok (.iaload, 1) := by decide +kernel
theorem dX6_copy_13 : decode cX6_copy 13 = .ok (.iastore, 1) := by decide +kernel
theorem dX6_copy_14 : decode cX6_copy 14 = .ok (.iinc 2 1, 3) := by decide +kernel
theorem dX6_copy_17 : decode cX6_copy 17 = .ok (.goto (-15), 3) := by decide +kernel
theorem dX6_copy_20 : decode cX6_copy 20 = .ok (.return_, 1) := by decide +kernel
theorem dX6_image_0 : decode cX6_image 0 = .ok (.aload_n 0, 1) := by decide +kernel
theorem dX6_image_1 : decode cX6_image 1 = .ok (.getfield 91, 3) := by decide +kernel
theorem dX6_image_4 : decode cX6_image 4 = .ok (.ifCond .ne 6, 3) := by decide +kernel
theorem dX6_image_7 : decode cX6_image 7 = .ok (.bipush (-103), 2) := by decide +kernel
theorem dX6_image_9 : decode cX6_image 9 = .ok (.ireturn, 1) := by decide +kernel
theorem dX6_image_10 : decode cX6_image 10 = .ok (.aload_n 0, 1) := by decide +kernel
theorem dX6_image_11 : decode cX6_image 11 = .ok (.getfield 29, 3) := by decide +kernel
theorem dX6_image_14 : decode cX6_image 14 = .ok (.aload_n 0, 1) := by decide +kernel
theorem dX6_image_15 : decode cX6_image 15 = .ok (.getfield 38, 3) := by decide +kernel
theorem dX6_image_18 : decode cX6_image 18 = .ok (.invokestatic 201, 3) := by decide +kernel
theorem dX6_image_21 : decode cX6_image 21 = .ok (.aload_n 0, 1) := by decide +kernel
theorem dX6_image_22 : decode cX6_image 22 = .ok (.aload_n 0, 1) := by decide +kernel
theorem dX6_image_23 : decode cX6_image 23 = .ok (.getfield 70, 3) := by decide +kernel
theorem dX6_image_26 : decode cX6_image 26 = .ok (.putfield 205, 3) := by decide +kernel
theorem dX6_image_29 : decode cX6_image 29 = .ok (.aload_n 0, 1) := by decide +kernel
theorem dX6_image_30 : decode cX6_image 30 = .ok (.aload_n 0, 1) := by decide +kernel
theorem dX6_image_31 : decode cX6_image 31 = .ok (.getfield 79, 3) := by decide +kernel
theorem dX6_image_34 : decode cX6_image 34 = .ok (.putfield 208, 3) := by decide +kernel
theorem dX6_image_37 : decode cX6_image 37 = .ok (.aload_n 0, 1) := by decide +kernel
theorem dX6_image_38 : decode cX6_image 38 = .ok (.aload_n 0, 1) := by decide +kernel
theorem dX6_image_39 : decode cX6_image 39 = .ok (.getfield 82, 3) := by decide +kernel
theorem dX6_image_42 : decode cX6_image 42 = .ok (.putfield 211, 3) := by decide +kernel
theorem dX6_image_45 : decode cX6_image 45 = .ok (.aload_n 0, 1) := by decide +kernel
theorem dX6_image_46 : decode cX6_image 46 = .ok (.aload_n 0, 1) := by decide +kernel
theorem dX6_image_47 : decode cX6_image 47 = .ok (.getfield 85, 3) := by decide +kernel
theorem dX6_image_50 : decode cX6_image 50 = .ok (.putfield 214, 3) := by decide +kernel
theorem dX6_image_53 : decode cX6_image 53 = .ok (.aload_n 0, 1) := by decide +kernel
theorem dX6_image_54 : decode cX6_image 54 = .ok (.aload_n 0, 1) := by decide +kernel
theorem dX6_image_55 : decode cX6_image 55 = .ok (.getfield 88, 3) := by decide +kernel
theorem dX6_image_58 : decode cX6_image 58 = .ok (.putfield 217, 3) := by decide +kernel
theorem dX6_image_61 : decode cX6_image 61 = .ok (.aload_n 0, 1) := by decide +kernel
theorem dX6_image_62 : decode cX6_image 62 = .ok (.aload_n 0, 1) := by decide +kernel
theorem dX6_image_63 : decode cX6_image 63 = .ok (.getfield 95, 3) := by decide +kernel
theorem dX6_image_66 : decode cX6_image 66 = .ok (.putfield 41, 3) := by decide +kernel
theorem dX6_image_69 : decode cX6_image 69 = .ok (.aload_n 0, 1) := by decide +kernel
theorem dX6_image_70 : decode cX6_image 70 = .ok (.getfield 82, 3) := by decide +kernel
theorem dX6_image_73 : decode cX6_image 73 = .ok (.ireturn, 1) := by decide +kernel
theorem dX6_restore_0 : decode cX6_restore 0 = .ok (.aload_n 0, 1) := by decide +kernel
theorem dX6_restore_1 : decode cX6_restore 1 = .ok (.getfield 41, 3) := by decide +kernel
theorem dX6_restore_4 : decode cX6_restore 4 = .ok (.aload_n 0, 1) := by decide +kernel
theorem dX6_restore_5 : decode cX6_restore 5 = .ok (.getfield 95, 3) := by decide +kernel
theorem dX6_restore_8 : decode cX6_restore 8 = .ok (.if_icmp .eq 6, 3) := by decide +kernel
theorem dX6_restore_11 : decode cX6_restore 11 = .ok (.bipush (-103), 2) := by decide +kernel
theorem dX6_restore_13 : decode cX6_restore 13 = .ok (.ireturn, 1) := by decide +kernel
theorem dX6_restore_14 : decode cX6_restore 14 = .ok (.aload_n 0, 1) := by decide +kernel
theorem dX6_restore_15 : decode cX6_restore 15 = .ok (.getfield 38, 3) := by decide +kernel
theorem dX6_restore_18 : decode cX6_restore 18 = .ok (.aload_n 0, 1) := by decide +kernel
theorem dX6_restore_19 : decode cX6_restore 19 = .ok (.getfield 29, 3) := by decide +kernel
theorem dX6_restore_22 : decode cX6_restore 22 = .ok (.invokestatic 201, 3) := by decide +kernel
theorem dX6_restore_25 : decode cX6_restore 25 = .ok (.aload_n 0, 1) := by decide +kernel
theorem dX6_restore_26 : decode cX6_restore 26 = .ok (.aload_n 0, 1) := by decide +kernel
theorem dX6_restore_27 : decode cX6_restore 27 = .ok (.getfield 205, 3) := by decide +kernel
theorem dX6_restore_30 : decode cX6_restore 30 = .ok (.putfield 70, 3) := by decide +kernel
theorem dX6_restore_33 : decode cX6_restore 33 = .ok (.aload_n 0, 1) := by decide +kernel
theorem dX6_restore_34 : decode cX6_restore 34 = .ok (.aload_n 0, 1) := by decide +kernel
theorem dX6_restore_35 : decode cX6_restore 35 = .ok (.getfield 208, 3) := by decide +kernel
theorem dX6_restore_38 : decode cX6_restore 38 = .ok (.putfield 79, 3) := by decide +kernel
theorem dX6_restore_41 : decode cX6_restore 41 = .ok (.aload_n 0, 1) := by decide +kernel
theorem dX6_restore_42 : decode cX6_restore 42 = .ok (.aload_n 0, 1) := by decide +kernel
theorem dX6_restore_43 : decode cX6_restore 43 = .ok (.getfield 211, 3) := by decide +kernel
theorem dX6_restore_46 : decode cX6_restore 46 = .ok (.putfield 82, 3) := by decide +kernel
theorem dX6_restore_49 : decode cX6_restore 49 = .ok (.aload_n 0, 1) := by decide +kernel
theorem dX6_restore_50 : decode cX6_restore 50 = .ok (.aload_n 0, 1) := by decide +kernel
theorem dX6_restore_51 : decode cX6_restore 51 = .ok (.getfield 214, 3) := by decide +kernel
theorem dX6_restore_54 : decode cX6_restore 54 = .ok (.putfield 85, 3) := by decide +kernel
theorem dX6_restore_57 : decode cX6_restore 57 = .ok (.aload_n 0, 1) := by decide +kernel
theorem dX6_restore_58 : decode cX6_restore 58 = .ok (.aload_n 0, 1) := by decide +kernel
theorem dX6_restore_59 : decode cX6_restore 59 = .ok (.getfield 217, 3) := by decide +kernel
theorem dX6_restore_62 : decode cX6_restore 62 = .ok (.putfield 88, 3) := by decide +kernel
theorem dX6_restore_65 : decode cX6_restore 65 = .ok (.aload_n 0, 1) := by decide +kernel
theorem dX6_restore_66 : decode cX6_restore 66 = .ok (.getfield 82, 3) := by decide +kernel
theorem dX6_restore_69 : decode cX6_restore 69 = .ok (.ireturn, 1) := by decide +kernel
theorem dX6_countOf_0 : decode cX6_countOf 0 = .ok (.iload_n 1, 1) := by decide +kernel
theorem dX6_countOf_1 : decode cX6_countOf 1 = .ok (.tableswitch 108 0 9 #[55, 60, 65, 73, 78, 83, 88, 93, 98, 103], 55) := by decide +kernel
theorem dX6_countOf_56 : decode cX6_countOf 56 = .ok (.aload_n 0, 1) := by decide +kernel
theorem dX6_countOf_57 : decode cX6_countOf 57 = .ok (.getfield 73, 3) := by decide +kernel
theorem dX6_countOf_60 : decode cX6_countOf 60 = .ok (.ireturn, 1) := by decide +kernel
theorem dX6_countOf_61 : decode cX6_countOf 61 = .ok (.aload_n 0, 1) := by decide +kernel
theorem dX6_countOf_62 : decode cX6_countOf 62 = .ok (.getfield 76, 3) := by decide +kernel
theorem dX6_countOf_65 : decode cX6_countOf 65 = .ok (.ireturn, 1) := by decide +kernel
theorem dX6_countOf_66 : decode cX6_countOf 66 = .ok (.aload_n 0, 1) := by decide +kernel
theorem dX6_countOf_67 : decode cX6_countOf 67 = .ok (.getfield 70, 3) := by decide +kernel
theorem dX6_countOf_70 : decode cX6_countOf 70 = .ok (.invokestatic 98, 3) := by decide +kernel
theorem dX6_countOf_73 : decode cX6_countOf 73 = .ok (.ireturn, 1) := by decide +kernel
theorem dX6_countOf_74 : decode cX6_countOf 74 = .ok (.aload_n 0, 1) := by decide +kernel
theorem dX6_countOf_75 : decode cX6_countOf 75 = .ok (.getfield 79, 3) := by decide +kernel
theorem dX6_countOf_78 : decode cX6_countOf 78 = .ok (.ireturn, 1) := by decide +kernel
theorem dX6_countOf_79 : decode cX6_countOf 79 = .ok (.aload_n 0, 1) := by decide +kernel
theorem dX6_countOf_80 : decode cX6_countOf 80 = .ok (.getfield 82, 3) := by decide +kernel
theorem dX6_countOf_83 : decode cX6_countOf 83 = .ok (.ireturn, 1) := by decide +kernel
theorem dX6_countOf_84 : decode cX6_countOf 84 = .ok (.aload_n 0, 1) := by decide +kernel
theorem dX6_countOf_85 : decode cX6_countOf 85 = .ok (.getfield 85, 3) := by decide +kernel
theorem dX6_countOf_88 : decode cX6_countOf 88 = .ok (.ireturn, 1) := by decide +kernel
theorem dX6_countOf_89 : decode cX6_countOf 89 = .ok (.aload_n 0, 1) := by decide +kernel
theorem dX6_countOf_90 : decode cX6_countOf 90 = .ok (.getfield 88, 3) := by decide +kernel
theorem dX6_countOf_93 : decode cX6_countOf 93 = .ok (.ireturn, 1) := by decide +kernel
theorem dX6_countOf_94 : decode cX6_countOf 94 = .ok (.aload_n 0, 1) := by decide +kernel
theorem dX6_countOf_95 : decode cX6_countOf 95 = .ok (.getfield 51, 3) := by decide +kernel
theorem dX6_countOf_98 : decode cX6_countOf 98 = .ok (.ireturn, 1) := by decide +kernel
theorem dX6_countOf_99 : decode cX6_countOf 99 = .ok (.aload_n 0, 1) := by decide +kernel
theorem dX6_countOf_100 : decode cX6_countOf 100 = .ok (.getfield 95, 3) := by decide +kernel
theorem dX6_countOf_103 : decode cX6_countOf 103 = .ok (.ireturn, 1) := by decide +kernel
theorem dX6_countOf_104 : decode cX6_countOf 104 = .ok (.aload_n 0, 1) := by decide +kernel
theorem dX6_countOf_105 : decode cX6_countOf 105 = .ok (.getfield 163, 3) := by decide +kernel
theorem dX6_countOf_108 : decode cX6_countOf 108 = .ok (.ireturn, 1) := by decide +kernel
theorem dX6_countOf_109 : decode cX6_countOf 109 = .ok (.bipush (-102), 2) := by decide +kernel
theorem dX6_countOf_111 : decode cX6_countOf 111 = .ok (.ireturn, 1) := by decide +kernel
theorem dX6_count_0 : decode cX6_count 0 = .ok (.aload_n 0, 1) := by decide +kernel
theorem dX6_count_1 : decode cX6_count 1 = .ok (.iload_n 1, 1) := by decide +kernel
theorem dX6_count_2 : decode cX6_count 2 = .ok (.invokevirtual 220, 3) := by decide +kernel
theorem dX6_count_5 : decode cX6_count 5 = .ok (.ireturn, 1) := by decide +kernel
theorem dX6_say_0 : decode cX6_say 0 = .ok (.aload_n 0, 1) := by decide +kernel
theorem dX6_say_1 : decode cX6_say 1 = .ok (.ldc2_w 223, 3) := by decide +kernel
theorem dX6_say_4 : decode cX6_say 4 = .ok (.aload_n 0, 1) := by decide +kernel
theorem dX6_say_5 : decode cX6_say 5 = .ok (.getfield 225, 3) := by decide +kernel
theorem dX6_say_8 : decode cX6_say 8 = .ok (.lmul, 1) := by decide +kernel
theorem dX6_say_9 : decode cX6_say 9 = .ok (.lload_n 1, 1) := by decide +kernel
theorem dX6_say_10 : decode cX6_say 10 = .ok (.ladd, 1) := by decide +kernel
theorem dX6_say_11 : decode cX6_say 11 = .ok (.putfield 225, 3) := by decide +kernel
theorem dX6_say_14 : decode cX6_say 14 = .ok (.return_, 1) := by decide +kernel
theorem dX6_sayHold_0 : decode cX6_sayHold 0 = .ok (.iconst 0, 1) := by decide +kernel
theorem dX6_sayHold_1 : decode cX6_sayHold 1 = .ok (.istore_n 1, 1) := by decide +kernel
theorem dX6_sayHold_2 : decode cX6_sayHold 2 = .ok (.iload_n 1, 1) := by decide +kernel
theorem dX6_sayHold_3 : decode cX6_sayHold 3 = .ok (.iconst 3, 1) := by decide +kernel
theorem dX6_sayHold_4 : decode cX6_sayHold 4 = .ok (.if_icmp .ge 33, 3) := by decide +kernel
theorem dX6_sayHold_7 : decode cX6_sayHold 7 = .ok (.iconst 0, 1) := by decide +kernel
theorem dX6_sayHold_8 : decode cX6_sayHold 8 = .ok (.istore_n 2, 1) := by decide +kernel
theorem dX6_sayHold_9 : decode cX6_sayHold 9 = .ok (.iload_n 2, 1) := by decide +kernel
theorem dX6_sayHold_10 : decode cX6_sayHold 10 = .ok (.iconst 5, 1) := by decide +kernel
theorem dX6_sayHold_11 : decode cX6_sayHold 11 = .ok (.if_icmp .ge 20, 3) := by decide +kernel
theorem dX6_sayHold_14 : decode cX6_sayHold 14 = .ok (.aload_n 0, 1) := by decide +kernel
theorem dX6_sayHold_15 : decode cX6_sayHold 15 = .ok (.aload_n 0, 1) := by decide +kernel
theorem dX6_sayHold_16 : decode cX6_sayHold 16 = .ok (.iload_n 1, 1) := by decide +kernel
theorem dX6_sayHold_17 : decode cX6_sayHold 17 = .ok (.iload_n 2, 1) := by decide +kernel
theorem dX6_sayHold_18 : decode cX6_sayHold 18 = .ok (.invokevirtual 229, 3) := by decide +kernel
theorem dX6_sayHold_21 : decode cX6_sayHold 21 = .ok (.i2l, 1) := by decide +kernel
theorem dX6_sayHold_22 : decode cX6_sayHold 22 = .ok (.invokevirtual 232, 3) := by decide +kernel
theorem dX6_sayHold_25 : decode cX6_sayHold 25 = .ok (.iinc 2 1, 3) := by decide +kernel
theorem dX6_sayHold_28 : decode cX6_sayHold 28 = .ok (.goto (-19), 3) := by decide +kernel
theorem dX6_sayHold_31 : decode cX6_sayHold 31 = .ok (.iinc 1 1, 3) := by decide +kernel
theorem dX6_sayHold_34 : decode cX6_sayHold 34 = .ok (.goto (-32), 3) := by decide +kernel
theorem dX6_sayHold_37 : decode cX6_sayHold 37 = .ok (.iconst 0, 1) := by decide +kernel
theorem dX6_sayHold_38 : decode cX6_sayHold 38 = .ok (.istore_n 1, 1) := by decide +kernel
theorem dX6_sayHold_39 : decode cX6_sayHold 39 = .ok (.iload_n 1, 1) := by decide +kernel
theorem dX6_sayHold_40 : decode cX6_sayHold 40 = .ok (.iconst 4, 1) := by decide +kernel
theorem dX6_sayHold_41 : decode cX6_sayHold 41 = .ok (.if_icmp .ge 19, 3) := by decide +kernel
theorem dX6_sayHold_44 : decode cX6_sayHold 44 = .ok (.aload_n 0, 1) := by decide +kernel
theorem dX6_sayHold_45 : decode cX6_sayHold 45 = .ok (.aload_n 0, 1) := by decide +kernel
theorem dX6_sayHold_46 : decode cX6_sayHold 46 = .ok (.iload_n 1, 1) := by decide +kernel
theorem dX6_sayHold_47 : decode cX6_sayHold 47 = .ok (.invokevirtual 130, 3) := by decide +kernel
theorem dX6_sayHold_50 : decode cX6_sayHold 50 = .ok (.i2l, 1) := by decide +kernel
theorem dX6_sayHold_51 : decode cX6_sayHold 51 = .ok (.invokevirtual 232, 3) := by decide +kernel
theorem dX6_sayHold_54 : decode cX6_sayHold 54 = .ok (.iinc 1 1, 3) := by decide +kernel
theorem dX6_sayHold_57 : decode cX6_sayHold 57 = .ok (.goto (-18), 3) := by decide +kernel
theorem dX6_sayHold_60 : decode cX6_sayHold 60 = .ok (.iconst 0, 1) := by decide +kernel
theorem dX6_sayHold_61 : decode cX6_sayHold 61 = .ok (.istore_n 1, 1) := by decide +kernel
theorem dX6_sayHold_62 : decode cX6_sayHold 62 = .ok (.iload_n 1, 1) := by decide +kernel
theorem dX6_sayHold_63 : decode cX6_sayHold 63 = .ok (.bipush 42, 2) := by decide +kernel
theorem dX6_sayHold_65 : decode cX6_sayHold 65 = .ok (.if_icmp .ge 26, 3) := by decide +kernel
theorem dX6_sayHold_68 : decode cX6_sayHold 68 = .ok (.iload_n 1, 1) := by decide +kernel
theorem dX6_sayHold_69 : decode cX6_sayHold 69 = .ok (.invokestatic 135, 3) := by decide +kernel
theorem dX6_sayHold_72 : decode cX6_sayHold 72 = .ok (.ifCond .eq 13, 3) := by decide +kernel
theorem dX6_sayHold_75 : decode cX6_sayHold 75 = .ok (.aload_n 0, 1) := by decide +kernel
theorem dX6_sayHold_76 : decode cX6_sayHold 76 = .ok (.aload_n 0, 1) := by decide +kernel
theorem dX6_sayHold_77 : decode cX6_sayHold 77 = .ok (.iload_n 1, 1) := by decide +kernel
theorem dX6_sayHold_78 : decode cX6_sayHold 78 = .ok (.invokevirtual 236, 3) := by decide +kernel
theorem dX6_sayHold_81 : decode cX6_sayHold 81 = .ok (.i2l, 1) := by decide +kernel
theorem dX6_sayHold_82 : decode cX6_sayHold 82 = .ok (.invokevirtual 232, 3) := by decide +kernel
theorem dX6_sayHold_85 : decode cX6_sayHold 85 = .ok (.iinc 1 1, 3) := by decide +kernel
theorem dX6_sayHold_88 : decode cX6_sayHold 88 = .ok (.goto (-26), 3) := by decide +kernel
theorem dX6_sayHold_91 : decode cX6_sayHold 91 = .ok (.aload_n 0, 1) := by decide +kernel
theorem dX6_sayHold_92 : decode cX6_sayHold 92 = .ok (.aload_n 0, 1) := by decide +kernel
theorem dX6_sayHold_93 : decode cX6_sayHold 93 = .ok (.invokevirtual 124, 3) := by decide +kernel
theorem dX6_sayHold_96 : decode cX6_sayHold 96 = .ok (.invokevirtual 153, 3) := by decide +kernel
theorem dX6_sayHold_99 : decode cX6_sayHold 99 = .ok (.aload_n 0, 1) := by decide +kernel
theorem dX6_sayHold_100 : decode cX6_sayHold 100 = .ok (.aload_n 0, 1) := by decide +kernel
theorem dX6_sayHold_101 : decode cX6_sayHold 101 = .ok (.getfield 16, 3) := by decide +kernel
theorem dX6_sayHold_104 : decode cX6_sayHold 104 = .ok (.iconst 0, 1) := by decide +kernel
theorem dX6_sayHold_105 : decode cX6_sayHold 105 = .ok (.iaload, 1) := by decide +kernel
theorem dX6_sayHold_106 : decode cX6_sayHold 106 = .ok (.i2l, 1) := by decide +kernel
theorem dX6_sayHold_107 : decode cX6_sayHold 107 = .ok (.invokevirtual 232, 3) := by decide +kernel
theorem dX6_sayHold_110 : decode cX6_sayHold 110 = .ok (.aload_n 0, 1) := by decide +kernel
theorem dX6_sayHold_111 : decode cX6_sayHold 111 = .ok (.aload_n 0, 1) := by decide +kernel
theorem dX6_sayHold_112 : decode cX6_sayHold 112 = .ok (.getfield 19, 3) := by decide +kernel
theorem dX6_sayHold_115 : decode cX6_sayHold 115 = .ok (.iconst 0, 1) := by decide +kernel
theorem dX6_sayHold_116 : decode cX6_sayHold 116 = .ok (.iaload, 1) := by decide +kernel
theorem dX6_sayHold_117 : decode cX6_sayHold 117 = .ok (.i2l, 1) := by decide +kernel
theorem dX6_sayHold_118 : decode cX6_sayHold 118 = .ok (.invokevirtual 232, 3) := by decide +kernel
theorem dX6_sayHold_121 : decode cX6_sayHold 121 = .ok (.aload_n 0, 1) := by decide +kernel
theorem dX6_sayHold_122 : decode cX6_sayHold 122 = .ok (.aload_n 0, 1) := by decide +kernel
theorem dX6_sayHold_123 : decode cX6_sayHold 123 = .ok (.invokevirtual 157, 3) := by decide +kernel
theorem dX6_sayHold_126 : decode cX6_sayHold 126 = .ok (.i2l, 1) := by decide +kernel
theorem dX6_sayHold_127 : decode cX6_sayHold 127 = .ok (.invokevirtual 232, 3) := by decide +kernel
theorem dX6_sayHold_130 : decode cX6_sayHold 130 = .ok (.aload_n 0, 1) := by decide +kernel
theorem dX6_sayHold_131 : decode cX6_sayHold 131 = .ok (.aload_n 0, 1) := by decide +kernel
theorem dX6_sayHold_132 : decode cX6_sayHold 132 = .ok (.invokevirtual 160, 3) := by decide +kernel
theorem dX6_sayHold_135 : decode cX6_sayHold 135 = .ok (.i2l, 1) := by decide +kernel
theorem dX6_sayHold_136 : decode cX6_sayHold 136 = .ok (.invokevirtual 232, 3) := by decide +kernel
theorem dX6_sayHold_139 : decode cX6_sayHold 139 = .ok (.aload_n 0, 1) := by decide +kernel
theorem dX6_sayHold_140 : decode cX6_sayHold 140 = .ok (.invokevirtual 183, 3) := by decide +kernel
theorem dX6_sayHold_143 : decode cX6_sayHold 143 = .ok (.aload_n 0, 1) := by decide +kernel
theorem dX6_sayHold_144 : decode cX6_sayHold 144 = .ok (.aload_n 0, 1) := by decide +kernel
theorem dX6_sayHold_145 : decode cX6_sayHold 145 = .ok (.getfield 171, 3) := by decide +kernel
theorem dX6_sayHold_148 : decode cX6_sayHold 148 = .ok (.i2l, 1) := by decide +kernel
theorem dX6_sayHold_149 : decode cX6_sayHold 149 = .ok (.invokevirtual 232, 3) := by decide +kernel
theorem dX6_sayHold_152 : decode cX6_sayHold 152 = .ok (.aload_n 0, 1) := by decide +kernel
theorem dX6_sayHold_153 : decode cX6_sayHold 153 = .ok (.aload_n 0, 1) := by decide +kernel
theorem dX6_sayHold_154 : decode cX6_sayHold 154 = .ok (.getfield 174, 3) := by decide +kernel
theorem dX6_sayHold_157 : decode cX6_sayHold 157 = .ok (.i2l, 1) := by decide +kernel
theorem dX6_sayHold_158 : decode cX6_sayHold 158 = .ok (.invokevirtual 232, 3) := by decide +kernel
theorem dX6_sayHold_161 : decode cX6_sayHold 161 = .ok (.aload_n 0, 1) := by decide +kernel
theorem dX6_sayHold_162 : decode cX6_sayHold 162 = .ok (.aload_n 0, 1) := by decide +kernel
theorem dX6_sayHold_163 : decode cX6_sayHold 163 = .ok (.getfield 177, 3) := by decide +kernel
theorem dX6_sayHold_166 : decode cX6_sayHold 166 = .ok (.i2l, 1) := by decide +kernel
theorem dX6_sayHold_167 : decode cX6_sayHold 167 = .ok (.invokevirtual 232, 3) := by decide +kernel
theorem dX6_sayHold_170 : decode cX6_sayHold 170 = .ok (.return_, 1) := by decide +kernel
theorem dX6_digest_0 : decode cX6_digest 0 = .ok (.aload_n 0, 1) := by decide +kernel
theorem dX6_digest_1 : decode cX6_digest 1 = .ok (.ldc2_w 239, 3) := by decide +kernel
theorem dX6_digest_4 : decode cX6_digest 4 = .ok (.putfield 225, 3) := by decide +kernel
theorem dX6_digest_7 : decode cX6_digest 7 = .ok (.aload_n 0, 1) := by decide +kernel
theorem dX6_digest_8 : decode cX6_digest 8 = .ok (.getfield 91, 3) := by decide +kernel
theorem dX6_digest_11 : decode cX6_digest 11 = .ok (.ifCond .eq 7, 3) := by decide +kernel
theorem dX6_digest_14 : decode cX6_digest 14 = .ok (.aload_n 0, 1) := by decide +kernel
theorem dX6_digest_15 : decode cX6_digest 15 = .ok (.invokevirtual 241, 3) := by decide +kernel
theorem dX6_digest_18 : decode cX6_digest 18 = .ok (.iconst 0, 1) := by decide +kernel
theorem dX6_digest_19 : decode cX6_digest 19 = .ok (.istore_n 1, 1) := by decide +kernel
theorem dX6_digest_20 : decode cX6_digest 20 = .ok (.iload_n 1, 1) := by decide +kernel
theorem dX6_digest_21 : decode cX6_digest 21 = .ok (.aload_n 0, 1) := by decide +kernel
theorem dX6_digest_22 : decode cX6_digest 22 = .ok (.getfield 51, 3) := by decide +kernel
theorem dX6_digest_25 : decode cX6_digest 25 = .ok (.if_icmp .ge 20, 3) := by decide +kernel
theorem dX6_digest_28 : decode cX6_digest 28 = .ok (.aload_n 0, 1) := by decide +kernel
theorem dX6_digest_29 : decode cX6_digest 29 = .ok (.aload_n 0, 1) := by decide +kernel
theorem dX6_digest_30 : decode cX6_digest 30 = .ok (.getfield 7, 3) := by decide +kernel
theorem dX6_digest_33 : decode cX6_digest 33 = .ok (.iload_n 1, 1) := by decide +kernel
theorem dX6_digest_34 : decode cX6_digest 34 = .ok (.iaload, 1) := by decide +kernel
theorem dX6_digest_35 : decode cX6_digest 35 = .ok (.i2l, 1) := by decide +kernel
theorem dX6_digest_36 : decode cX6_digest 36 = .ok (.invokevirtual 232, 3) := by decide +kernel
theorem dX6_digest_39 : decode cX6_digest 39 = .ok (.iinc 1 1, 3) := by decide +kernel
theorem dX6_digest_42 : decode cX6_digest 42 = .ok (.goto (-22), 3) := by decide +kernel
theorem dX6_digest_45 : decode cX6_digest 45 = .ok (.iconst 0, 1) := by decide +kernel
theorem dX6_digest_46 : decode cX6_digest 46 = .ok (.istore_n 1, 1) := by decide +kernel
theorem dX6_digest_47 : decode cX6_digest 47 = .ok (.iload_n 1, 1) := by decide +kernel
theorem dX6_digest_48 : decode cX6_digest 48 = .ok (.bipush 10, 2) := by decide +kernel
theorem dX6_digest_50 : decode cX6_digest 50 = .ok (.if_icmp .ge 19, 3) := by decide +kernel
theorem dX6_digest_53 : decode cX6_digest 53 = .ok (.aload_n 0, 1) := by decide +kernel
theorem dX6_digest_54 : decode cX6_digest 54 = .ok (.aload_n 0, 1) := by decide +kernel
theorem dX6_digest_55 : decode cX6_digest 55 = .ok (.iload_n 1, 1) := by decide +kernel
theorem dX6_digest_56 : decode cX6_digest 56 = .ok (.invokevirtual 220, 3) := by decide +kernel
theorem dX6_digest_59 : decode cX6_digest 59 = .ok (.i2l, 1) := by decide +kernel
theorem dX6_digest_60 : decode cX6_digest 60 = .ok (.invokevirtual 232, 3) := by decide +kernel
theorem dX6_digest_63 : decode cX6_digest 63 = .ok (.iinc 1 1, 3) := by decide +kernel
theorem dX6_digest_66 : decode cX6_digest 66 = .ok (.goto (-19), 3) := by decide +kernel
theorem dX6_digest_69 : decode cX6_digest 69 = .ok (.aload_n 0, 1) := by decide +kernel
theorem dX6_digest_70 : decode cX6_digest 70 = .ok (.getfield 225, 3) := by decide +kernel
theorem dX6_digest_73 : decode cX6_digest 73 = .ok (.lreturn, 1) := by decide +kernel
end
section
theorem dL_law_0 : decode cL_law 0 = .ok (.new 7, 3) := by decide +kernel
theorem dL_law_3 : decode cL_law 3 = .ok (.dup, 1) := by decide +kernel
theorem dL_law_4 : decode cL_law 4 = .ok (.invokespecial 9, 3) := by decide +kernel
theorem dL_law_7 : decode cL_law 7 = .ok (.astore_n 1, 1) := by decide +kernel
theorem dL_law_8 : decode cL_law 8 = .ok (.new 10, 3) := by decide +kernel
theorem dL_law_11 : decode cL_law 11 = .ok (.dup, 1) := by decide +kernel
theorem dL_law_12 : decode cL_law 12 = .ok (.invokespecial 12, 3) := by decide +kernel
theorem dL_law_15 : decode cL_law 15 = .ok (.astore_n 2, 1) := by decide +kernel
theorem dL_law_16 : decode cL_law 16 = .ok (.iconst 0, 1) := by decide +kernel
theorem dL_law_17 : decode cL_law 17 = .ok (.istore_n 3, 1) := by decide +kernel
theorem dL_law_18 : decode cL_law 18 = .ok (.iload_n 3, 1) := by decide +kernel
theorem dL_law_19 : decode cL_law 19 = .ok (.aload_n 0, 1) := by decide +kernel
theorem dL_law_20 : decode cL_law 20 = .ok (.arraylength, 1) := by decide +kernel
theorem dL_law_21 : decode cL_law 21 = .ok (.iconst 4, 1) := by decide +kernel
theorem dL_law_22 : decode cL_law 22 = .ok (.isub, 1) := by decide +kernel
theorem dL_law_23 : decode cL_law 23 = .ok (.if_icmp .gt 582, 3) := by decide +kernel
theorem dL_law_26 : decode cL_law 26 = .ok (.aload_n 0, 1) := by decide +kernel
theorem dL_law_27 : decode cL_law 27 = .ok (.iload_n 3, 1) := by decide +kernel
theorem dL_law_28 : decode cL_law 28 = .ok (.iaload, 1) := by decide +kernel
theorem dL_law_29 : decode cL_law 29 = .ok (.bipush 31, 2) := by decide +kernel
theorem dL_law_31 : decode cL_law 31 = .ok (.iand, 1) := by decide +kernel
theorem dL_law_32 : decode cL_law 32 = .ok (.tableswitch 567 0 21 #[104, 127, 140, 153, 166, 199, 232, 271, 294, 317, 340, 363, 376, 389, 402, 425, 438, 461, 504, 517, 530, 553], 104) := by decide +kernel
theorem dL_law_136 : decode cL_law 136 = .ok (.aload_n 1, 1) := by decide +kernel
theorem dL_law_137 : decode cL_law 137 = .ok (.aload_n 0, 1) := by decide +kernel
theorem dL_law_138 : decode cL_law 138 = .ok (.iload_n 3, 1) := by decide +kernel
theorem dL_law_139 : decode cL_law 139 = .ok (.iconst 1, 1) := by decide +kernel
theorem dL_law_140 : decode cL_law 140 = .ok (.iadd, 1) := by decide +kernel
theorem dL_law_141 : decode cL_law 141 = .ok (.iaload, 1) := by decide +kernel
theorem dL_law_142 : decode cL_law 142 = .ok (.invokevirtual 13, 3) := by decide +kernel
theorem dL_law_145 : decode cL_law 145 = .ok (.aload_n 2, 1) := by decide +kernel
theorem dL_law_146 : decode cL_law 146 = .ok (.aload_n 0, 1) := by decide +kernel
theorem dL_law_147 : decode cL_law 147 = .ok (.iload_n 3, 1) := by decide +kernel
theorem dL_law_148 : decode cL_law 148 = .ok (.iconst 1, 1) := by decide +kernel
theorem dL_law_149 : decode cL_law 149 = .ok (.iadd, 1) := by decide +kernel
theorem dL_law_150 : decode cL_law 150 = .ok (.iaload, 1) := by decide +kernel
theorem dL_law_151 : decode cL_law 151 = .ok (.invokevirtual 17, 3) := by decide +kernel
theorem dL_law_154 : decode cL_law 154 = .ok (.if_icmp .eq 445, 3) := by decide +kernel
theorem dL_law_157 : decode cL_law 157 = .ok (.iconst 0, 1) := by decide +kernel
theorem dL_law_158 : decode cL_law 158 = .ok (.ireturn, 1) := by decide +kernel
theorem dL_law_159 : decode cL_law 159 = .ok (.aload_n 1, 1) := by decide +kernel
theorem dL_law_160 : decode cL_law 160 = .ok (.invokevirtual 18, 3) := by decide +kernel
theorem dL_law_163 : decode cL_law 163 = .ok (.aload_n 2, 1) := by decide +kernel
theorem dL_law_164 : decode cL_law 164 = .ok (.invokevirtual 22, 3) := by decide +kernel
theorem dL_law_167 : decode cL_law 167 = .ok (.if_icmp .eq 432, 3) := by decide +kernel
theorem dL_law_170 : decode cL_law 170 = .ok (.iconst 0, 1) := by decide +kernel
theorem dL_law_171 : decode cL_law 171 = .ok (.ireturn, 1) := by decide +kernel
theorem dL_law_172 : decode cL_law 172 = .ok (.aload_n 1, 1) := by decide +kernel
theorem dL_law_173 : decode cL_law 173 = .ok (.invokevirtual 23, 3) := by decide +kernel
theorem dL_law_176 : decode cL_law 176 = .ok (.aload_n 2, 1) := by decide +kernel
theorem dL_law_177 : decode cL_law 177 = .ok (.invokevirtual 26, 3) := by decide +kernel
theorem dL_law_180 : decode cL_law 180 = .ok (.if_icmp .eq 419, 3) := by decide +kernel
theorem dL_law_183 : decode cL_law 183 = .ok (.iconst 0, 1) := by decide +kernel
theorem dL_law_184 : decode cL_law 184 = .ok (.ireturn, 1) := by decide +kernel
theorem dL_law_185 : decode cL_law 185 = .ok (.aload_n 1, 1) := by decide +kernel
theorem dL_law_186 : decode cL_law 186 = .ok (.invokevirtual 27, 3) := by decide +kernel
theorem dL_law_189 : decode cL_law 189 = .ok (.aload_n 2, 1) := by decide +kernel
theorem dL_law_190 : decode cL_law 190 = .ok (.invokevirtual 30, 3) := by decide +kernel
theorem dL_law_193 : decode cL_law 193 = .ok (.if_icmp .eq 406, 3) := by decide +kernel
theorem dL_law_196 : decode cL_law 196 = .ok (.iconst 0, 1) := by decide +kernel
theorem dL_law_197 : decode cL_law 197 = .ok (.ireturn, 1) := by decide +kernel
theorem dL_law_198 : decode cL_law 198 = .ok (.aload_n 1, 1) := by decide +kernel
theorem dL_law_199 : decode cL_law 199 = .ok (.aload_n 0, 1) := by decide +kernel
theorem dL_law_200 : decode cL_law 200 = .ok (.iload_n 3, 1) := by decide +kernel
theorem dL_law_201 : decode cL_law 201 = .ok (.iconst 1, 1) := by decide +kernel
theorem dL_law_202 : decode cL_law 202 = .ok (.iadd, 1) := by decide +kernel
theorem dL_law_203 : decode cL_law 203 = .ok (.iaload, 1) := by decide +kernel
theorem dL_law_204 : decode cL_law 204 = .ok (.aload_n 0, 1) := by decide +kernel
theorem dL_law_205 : decode cL_law 205 = .ok (.iload_n 3, 1) := by decide +kernel
theorem dL_law_206 : decode cL_law 206 = .ok (.iconst 2, 1) := by decide +kernel
theorem dL_law_207 : decode cL_law 207 = .ok (.iadd, 1) := by decide +kernel
theorem dL_law_208 : decode cL_law 208 = .ok (.iaload, 1) := by decide +kernel
theorem dL_law_209 : decode cL_law 209 = .ok (.invokevirtual 31, 3) := by decide +kernel
theorem dL_law_212 : decode cL_law 212 = .ok (.aload_n 2, 1) := by decide +kernel
theorem dL_law_213 : decode cL_law 213 = .ok (.aload_n 0, 1) := by decide +kernel
theorem dL_law_214 : decode cL_law 214 = .ok (.iload_n 3, 1) := by decide +kernel
theorem dL_law_215 : decode cL_law 215 = .ok (.iconst 1, 1) := by decide +kernel
theorem dL_law_216 : decode cL_law 216 = .ok (.iadd, 1) := by decide +kernel
theorem dL_law_217 : decode cL_law 217 = .ok (.iaload, 1) := by decide +kernel
theorem dL_law_218 : decode cL_law 218 = .ok (.aload_n 0, 1) := by decide +kernel
theorem dL_law_219 : decode cL_law 219 = .ok (.iload_n 3, 1) := by decide +kernel
theorem dL_law_220 : decode cL_law 220 = .ok (.iconst 2, 1) := by decide +kernel
theorem dL_law_221 : decode cL_law 221 = .ok (.iadd, 1) := by decide +kernel
theorem dL_law_222 : decode cL_law 222 = .ok (.iaload, 1) := by decide +kernel
theorem dL_law_223 : decode cL_law 223 = .ok (.invokevirtual 35, 3) := by decide +kernel
theorem dL_law_226 : decode cL_law 226 = .ok (.if_icmp .eq 373, 3) := by decide +kernel
theorem dL_law_229 : decode cL_law 229 = .ok (.iconst 0, 1) := by decide +kernel
theorem dL_law_230 : decode cL_law 230 = .ok (.ireturn, 1) := by decide +kernel
theorem dL_law_231 : decode cL_law 231 = .ok (.aload_n 1, 1) := by decide +kernel
theorem dL_law_232 : decode cL_law 232 = .ok (.aload_n 0, 1) := by decide +kernel
theorem dL_law_233 : decode cL_law 233 = .ok (.iload_n 3, 1) := by decide +kernel
theorem dL_law_234 : decode cL_law 234 = .ok (.iconst 1, 1) := by decide +kernel
theorem dL_law_235 : decode cL_law 235 = .ok (.iadd, 1) := by decide +kernel
theorem dL_law_236 : decode cL_law 236 = .ok (.iaload, 1) := by decide +kernel
theorem dL_law_237 : decode cL_law 237 = .ok (.aload_n 0, 1) := by decide +kernel
theorem dL_law_238 : decode cL_law 238 = .ok (.iload_n 3, 1) := by decide +kernel
theorem dL_law_239 : decode cL_law 239 = .ok (.iconst 2, 1) := by decide +kernel
theorem dL_law_240 : decode cL_law 240 = .ok (.iadd, 1) := by decide +kernel
theorem dL_law_241 : decode cL_law 241 = .ok (.iaload, 1) := by decide +kernel
theorem dL_law_242 : decode cL_law 242 = .ok (.invokevirtual 36, 3) := by decide +kernel
theorem dL_law_245 : decode cL_law 245 = .ok (.aload_n 2, 1) := by decide +kernel
theorem dL_law_246 : decode cL_law 246 = .ok (.aload_n 0, 1) := by decide +kernel
theorem dL_law_247 : decode cL_law 247 = .ok (.iload_n 3, 1) := by decide +kernel
theorem dL_law_248 : decode cL_law 248 = .ok (.iconst 1, 1) := by decide +kernel
theorem dL_law_249 : decode cL_law 249 = .ok (.iadd, 1) := by decide +kernel
theorem dL_law_250 : decode cL_law 250 = .ok (.iaload, 1) := by decide +kernel
theorem dL_law_251 : decode cL_law 251 = .ok (.aload_n 0, 1) := by decide +kernel
theorem dL_law_252 : decode cL_law 252 = .ok (.iload_n 3, 1) := by decide +kernel
theorem dL_law_253 : decode cL_law 253 = .ok (.iconst 2, 1) := by decide +kernel
theorem dL_law_254 : decode cL_law 254 = .ok (.iadd, 1) := by decide +kernel
theorem dL_law_255 : decode cL_law 255 = .ok (.iaload, 1) := by decide +kernel
theorem dL_law_256 : decode cL_law 256 = .ok (.invokevirtual 39, 3) := by decide +kernel
theorem dL_law_259 : decode cL_law 259 = .ok (.if_icmp .eq 340, 3) := by decide +kernel
theorem dL_law_262 : decode cL_law 262 = .ok (.iconst 0, 1) := by decide +kernel
theorem dL_law_263 : decode cL_law 263 = .ok (.ireturn, 1) := by decide +kernel
theorem dL_law_264 : decode cL_law 264 = .ok (.aload_n 1, 1) := by decide +kernel
theorem dL_law_265 : decode cL_law 265 = .ok (.aload_n 0, 1) := by decide +kernel
theorem dL_law_266 : decode cL_law 266 = .ok (.iload_n 3, 1) := by decide +kernel
theorem dL_law_267 : decode cL_law 267 = .ok (.iconst 1, 1) := by decide +kernel
theorem dL_law_268 : decode cL_law 268 = .ok (.iadd, 1) := by decide +kernel
theorem dL_law_269 : decode cL_law 269 = .ok (.iaload, 1) := by decide +kernel
theorem dL_law_270 : decode cL_law 270 = .ok (.ifCond .eq 7, 3) := by decide +kernel
theorem dL_law_273 : decode cL_law 273 = .ok (.iconst 1, 1) := by decide +kernel
theorem dL_law_274 : decode cL_law 274 = .ok (.goto 4, 3) := by decide +kernel
theorem dL_law_277 : decode cL_law 277 = .ok (.iconst 0, 1) := by decide +kernel
theorem dL_law_278 : decode cL_law 278 = .ok (.invokevirtual 40, 3) := by decide +kernel
theorem dL_law_281 : decode cL_law 281 = .ok (.aload_n 2, 1) := by decide +kernel
theorem dL_law_282 : decode cL_law 282 = .ok (.aload_n 0, 1) := by decide +kernel
theorem dL_law_283 : decode cL_law 283 = .ok (.iload_n 3, 1) := by decide +kernel
theorem dL_law_284 : decode cL_law 284 = .ok (.iconst 1, 1) := by decide +kernel
theorem dL_law_285 : decode cL_law 285 = .ok (.iadd, 1) := by decide +kernel
theorem dL_law_286 : decode cL_law 286 = .ok (.iaload, 1) := by decide +kernel
theorem dL_law_287 : decode cL_law 287 = .ok (.ifCond .eq 7, 3) := by decide +kernel
theorem dL_law_290 : decode cL_law 290 = .ok (.iconst 1, 1) := by decide +kernel
theorem dL_law_291 : decode cL_law 291 = .ok (.goto 4, 3) := by decide +kernel
theorem dL_law_294 : decode cL_law 294 = .ok (.iconst 0, 1) := by decide +kernel
theorem dL_law_295 : decode cL_law 295 = .ok (.invokevirtual 44, 3) := by decide +kernel
theorem dL_law_298 : decode cL_law 298 = .ok (.if_icmp .eq 301, 3) := by decide +kernel
theorem dL_law_301 : decode cL_law 301 = .ok (.iconst 0, 1) := by decide +kernel
theorem dL_law_302 : decode cL_law 302 = .ok (.ireturn, 1) := by decide +kernel
theorem dL_law_303 : decode cL_law 303 = .ok (.aload_n 1, 1) := by decide +kernel
theorem dL_law_304 : decode cL_law 304 = .ok (.aload_n 0, 1) := by decide +kernel
theorem dL_law_305 : decode cL_law 305 = .ok (.iload_n 3, 1) := by decide +kernel
theorem dL_law_306 : decode cL_law 306 = .ok (.iconst 1, 1) := by decide +kernel
theorem dL_law_307 : decode cL_law 307 = .ok (.iadd, 1) := by decide +kernel
theorem dL_law_308 : decode cL_law 308 = .ok (.iaload, 1) := by decide +kernel
theorem dL_law_309 : decode cL_law 309 = .ok (.invokevirtual 45, 3) := by decide +kernel
theorem dL_law_312 : decode cL_law 312 = .ok (.aload_n 2, 1) := by decide +kernel
theorem dL_law_313 : decode cL_law 313 = .ok (.aload_n 0, 1) := by decide +kernel
theorem dL_law_314 : decode cL_law 314 = .ok (.iload_n 3, 1) := by decide +kernel
theorem dL_law_315 : decode cL_law 315 = .ok (.iconst 1, 1) := by decide +kernel
theorem dL_law_316 : decode cL_law 316 = .ok (.iadd, 1) := by decide +kernel
theorem dL_law_317 : decode cL_law 317 = .ok (.iaload, 1) := by decide +kernel
theorem dL_law_318 : decode cL_law 318 = .ok (.invokevirtual 48, 3) := by decide +kernel
theorem dL_law_321 : decode cL_law 321 = .ok (.if_icmp .eq 278, 3) := by decide +kernel
theorem dL_law_324 : decode cL_law 324 = .ok (.iconst 0, 1) := by decide +kernel
theorem dL_law_325 : decode cL_law 325 = .ok (.ireturn, 1) := by decide +kernel
theorem dL_law_326 : decode cL_law 326 = .ok (.aload_n 1, 1) := by decide +kernel
theorem dL_law_327 : decode cL_law 327 = .ok (.aload_n 0, 1) := by decide +kernel
theorem dL_law_328 : decode cL_law 328 = .ok (.iload_n 3, 1) := by decide +kernel
theorem dL_law_329 : decode cL_law 329 = .ok (.iconst 1, 1) := by decide +kernel
theorem dL_law_330 : decode cL_law 330 = .ok (.iadd, 1) := by decide +kernel
theorem dL_law_331 : decode cL_law 331 = .ok (.iaload, 1) := by decide +kernel
theorem dL_law_332 : decode cL_law 332 = .ok (.invokevirtual 49, 3) := by decide +kernel
theorem dL_law_335 : decode cL_law 335 = .ok (.aload_n 2, 1) := by decide +kernel
theorem dL_law_336 : decode cL_law 336 = .ok (.aload_n 0, 1) := by decide +kernel
theorem dL_law_337 : decode cL_law 337 = .ok (.iload_n 3, 1) := by decide +kernel
theorem dL_law_338 : decode cL_law 338 = .ok (.iconst 1, 1) := by decide +kernel
theorem dL_law_339 : decode cL_law 339 = .ok (.iadd, 1) := by decide +kernel
theorem dL_law_340 : decode cL_law 340 = .ok (.iaload, 1) := by decide +kernel
theorem dL_law_341 : decode cL_law 341 = .ok (.invokevirtual 52, 3) := by decide +kernel
theorem dL_law_344 : decode cL_law 344 = .ok (.if_icmp .eq 255, 3) := by decide +kernel
theorem dL_law_347 : decode cL_law 347 = .ok (.iconst 0, 1) := by decide +kernel
theorem dL_law_348 : decode cL_law 348 = .ok (.ireturn, 1) := by decide +kernel
theorem dL_law_349 : decode cL_law 349 = .ok (.aload_n 1, 1) := by decide +kernel
theorem dL_law_350 : decode cL_law 350 = .ok (.aload_n 0, 1) := by decide +kernel
theorem dL_law_351 : decode cL_law 351 = .ok (.iload_n 3, 1) := by decide +kernel
theorem dL_law_352 : decode cL_law 352 = .ok (.iconst 1, 1) := by decide +kernel
theorem dL_law_353 : decode cL_law 353 = .ok (.iadd, 1) := by decide +kernel
theorem dL_law_354 : decode cL_law 354 = .ok (.iaload, 1) := by decide +kernel
theorem dL_law_355 : decode cL_law 355 = .ok (.invokevirtual 53, 3) := by decide +kernel
theorem dL_law_358 : decode cL_law 358 = .ok (.aload_n 2, 1) := by decide +kernel
theorem dL_law_359 : decode cL_law 359 = .ok (.aload_n 0, 1) := by decide +kernel
theorem dL_law_360 : decode cL_law 360 = .ok (.iload_n 3, 1) := by decide +kernel
theorem dL_law_361 : decode cL_law 361 = .ok (.iconst 1, 1) := by decide +kernel
theorem dL_law_362 : decode cL_law 362 = .ok (.iadd, 1) := by decide +kernel
theorem dL_law_363 : decode cL_law 363 = .ok (.iaload, 1) := by decide +kernel
theorem dL_law_364 : decode cL_law 364 = .ok (.invokevirtual 56, 3) := by decide +kernel
theorem dL_law_367 : decode cL_law 367 = .ok (.if_icmp .eq 232, 3) := by decide +kernel
theorem dL_law_370 : decode cL_law 370 = .ok (.iconst 0, 1) := by decide +kernel
theorem dL_law_371 : decode cL_law 371 = .ok (.ireturn, 1) := by decide +kernel
theorem dL_law_372 : decode cL_law 372 = .ok (.aload_n 1, 1) := by decide +kernel
theorem dL_law_373 : decode cL_law 373 = .ok (.aload_n 0, 1) := by decide +kernel
theorem dL_law_374 : decode cL_law 374 = .ok (.iload_n 3, 1) := by decide +kernel
theorem dL_law_375 : decode cL_law 375 = .ok (.iconst 1, 1) := by decide +kernel
theorem dL_law_376 : decode cL_law 376 = .ok (.iadd, 1) := by decide +kernel
theorem dL_law_377 : decode cL_law 377 = .ok (.iaload, 1) := by decide +kernel
theorem dL_law_378 : decode cL_law 378 = .ok (.invokevirtual 57, 3) := by decide +kernel
theorem dL_law_381 : decode cL_law 381 = .ok (.aload_n 2, 1) := by decide +kernel
theorem dL_law_382 : decode cL_law 382 = .ok (.aload_n 0, 1) := by decide +kernel
theorem dL_law_383 : decode cL_law 383 = .ok (.iload_n 3, 1) := by decide +kernel
theorem dL_law_384 : decode cL_law 384 = .ok (.iconst 1, 1) := by decide +kernel
theorem dL_law_385 : decode cL_law 385 = .ok (.iadd, 1) := by decide +kernel
theorem dL_law_386 : decode cL_law 386 = .ok (.iaload, 1) := by decide +kernel
theorem dL_law_387 : decode cL_law 387 = .ok (.invokevirtual 60, 3) := by decide +kernel
theorem dL_law_390 : decode cL_law 390 = .ok (.if_icmp .eq 209, 3) := by decide +kernel
theorem dL_law_393 : decode cL_law 393 = .ok (.iconst 0, 1) := by decide +kernel
theorem dL_law_394 : decode cL_law 394 = .ok (.ireturn, 1) := by decide +kernel
theorem dL_law_395 : decode cL_law 395 = .ok (.aload_n 1, 1) := by decide +kernel
theorem dL_law_396 : decode cL_law 396 = .ok (.invokevirtual 61, 3) := by decide +kernel
theorem dL_law_399 : decode cL_law 399 = .ok (.aload_n 2, 1) := by decide +kernel
theorem dL_law_400 : decode cL_law 400 = .ok (.invokevirtual 64, 3) := by decide +kernel
theorem dL_law_403 : decode cL_law 403 = .ok (.if_icmp .eq 196, 3) := by decide +kernel
theorem dL_law_406 : decode cL_law 406 = .ok (.iconst 0, 1) := by decide +kernel
theorem dL_law_407 : decode cL_law 407 = .ok (.ireturn, 1) := by decide +kernel
theorem dL_law_408 : decode cL_law 408 = .ok (.aload_n 1, 1) := by decide +kernel
theorem dL_law_409 : decode cL_law 409 = .ok (.invokevirtual 65, 3) := by decide +kernel
theorem dL_law_412 : decode cL_law 412 = .ok (.aload_n 2, 1) := by decide +kernel
theorem dL_law_413 : decode cL_law 413 = .ok (.invokevirtual 68, 3) := by decide +kernel
theorem dL_law_416 : decode cL_law 416 = .ok (.if_icmp .eq 183, 3) := by decide +kernel
theorem dL_law_419 : decode cL_law 419 = .ok (.iconst 0, 1) := by decide +kernel
theorem dL_law_420 : decode cL_law 420 = .ok (.ireturn, 1) := by decide +kernel
theorem dL_law_421 : decode cL_law 421 = .ok (.aload_n 1, 1) := by decide +kernel
theorem dL_law_422 : decode cL_law 422 = .ok (.invokevirtual 69, 3) := by decide +kernel
theorem dL_law_425 : decode cL_law 425 = .ok (.aload_n 2, 1) := by decide +kernel
theorem dL_law_426 : decode cL_law 426 = .ok (.invokevirtual 72, 3) := by decide +kernel
theorem dL_law_429 : decode cL_law 429 = .ok (.if_icmp .eq 170, 3) := by decide +kernel
theorem dL_law_432 : decode cL_law 432 = .ok (.iconst 0, 1) := by decide +kernel
theorem dL_law_433 : decode cL_law 433 = .ok (.ireturn, 1) := by decide +kernel
theorem dL_law_434 : decode cL_law 434 = .ok (.aload_n 1, 1) := by decide +kernel
theorem dL_law_435 : decode cL_law 435 = .ok (.aload_n 0, 1) := by decide +kernel
theorem dL_law_436 : decode cL_law 436 = .ok (.iload_n 3, 1) := by decide +kernel
theorem dL_law_437 : decode cL_law 437 = .ok (.iconst 1, 1) := by decide +kernel
theorem dL_law_438 : decode cL_law 438 = .ok (.iadd, 1) := by decide +kernel
theorem dL_law_439 : decode cL_law 439 = .ok (.iaload, 1) := by decide +kernel
theorem dL_law_440 : decode cL_law 440 = .ok (.invokevirtual 73, 3) := by decide +kernel
theorem dL_law_443 : decode cL_law 443 = .ok (.aload_n 2, 1) := by decide +kernel
theorem dL_law_444 : decode cL_law 444 = .ok (.aload_n 0, 1) := by decide +kernel
theorem dL_law_445 : decode cL_law 445 = .ok (.iload_n 3, 1) := by decide +kernel
theorem dL_law_446 : decode cL_law 446 = .ok (.iconst 1, 1) := by decide +kernel
theorem dL_law_447 : decode cL_law 447 = .ok (.iadd, 1) := by decide +kernel
theorem dL_law_448 : decode cL_law 448 = .ok (.iaload, 1) := by decide +kernel
theorem dL_law_449 : decode cL_law 449 = .ok (.invokevirtual 76, 3) := by decide +kernel
theorem dL_law_452 : decode cL_law 452 = .ok (.if_icmp .eq 147, 3) := by decide +kernel
theorem dL_law_455 : decode cL_law 455 = .ok (.iconst 0, 1) := by decide +kernel
theorem dL_law_456 : decode cL_law 456 = .ok (.ireturn, 1) := by decide +kernel
theorem dL_law_457 : decode cL_law 457 = .ok (.aload_n 1, 1) := by decide +kernel
theorem dL_law_458 : decode cL_law 458 = .ok (.invokevirtual 77, 3) := by decide +kernel
theorem dL_law_461 : decode cL_law 461 = .ok (.aload_n 2, 1) := by decide +kernel
theorem dL_law_462 : decode cL_law 462 = .ok (.invokevirtual 80, 3) := by decide +kernel
theorem dL_law_465 : decode cL_law 465 = .ok (.if_icmp .eq 134, 3) := by decide +kernel
theorem dL_law_468 : decode cL_law 468 = .ok (.iconst 0, 1) := by decide +kernel
theorem dL_law_469 : decode cL_law 469 = .ok (.ireturn, 1) := by decide +kernel
theorem dL_law_470 : decode cL_law 470 = .ok (.aload_n 1, 1) := by decide +kernel
theorem dL_law_471 : decode cL_law 471 = .ok (.aload_n 0, 1) := by decide +kernel
theorem dL_law_472 : decode cL_law 472 = .ok (.iload_n 3, 1) := by decide +kernel
theorem dL_law_473 : decode cL_law 473 = .ok (.iconst 1, 1) := by decide +kernel
theorem dL_law_474 : decode cL_law 474 = .ok (.iadd, 1) := by decide +kernel
theorem dL_law_475 : decode cL_law 475 = .ok (.iaload, 1) := by decide +kernel
theorem dL_law_476 : decode cL_law 476 = .ok (.invokevirtual 81, 3) := by decide +kernel
theorem dL_law_479 : decode cL_law 479 = .ok (.aload_n 2, 1) := by decide +kernel
theorem dL_law_480 : decode cL_law 480 = .ok (.aload_n 0, 1) := by decide +kernel
theorem dL_law_481 : decode cL_law 481 = .ok (.iload_n 3, 1) := by decide +kernel
theorem dL_law_482 : decode cL_law 482 = .ok (.iconst 1, 1) := by decide +kernel
theorem dL_law_483 : decode cL_law 483 = .ok (.iadd, 1) := by decide +kernel
theorem dL_law_484 : decode cL_law 484 = .ok (.iaload, 1) := by decide +kernel
theorem dL_law_485 : decode cL_law 485 = .ok (.invokevirtual 84, 3) := by decide +kernel
theorem dL_law_488 : decode cL_law 488 = .ok (.if_icmp .eq 111, 3) := by decide +kernel
theorem dL_law_491 : decode cL_law 491 = .ok (.iconst 0, 1) := by decide +kernel
theorem dL_law_492 : decode cL_law 492 = .ok (.ireturn, 1) := by decide +kernel
theorem dL_law_493 : decode cL_law 493 = .ok (.aload_n 1, 1) := by decide +kernel
theorem dL_law_494 : decode cL_law 494 = .ok (.aload_n 0, 1) := by decide +kernel
theorem dL_law_495 : decode cL_law 495 = .ok (.iload_n 3, 1) := by decide +kernel
theorem dL_law_496 : decode cL_law 496 = .ok (.iconst 1, 1) := by decide +kernel
theorem dL_law_497 : decode cL_law 497 = .ok (.iadd, 1) := by decide +kernel
theorem dL_law_498 : decode cL_law 498 = .ok (.iaload, 1) := by decide +kernel
theorem dL_law_499 : decode cL_law 499 = .ok (.aload_n 0, 1) := by decide +kernel
theorem dL_law_500 : decode cL_law 500 = .ok (.iload_n 3, 1) := by decide +kernel
theorem dL_law_501 : decode cL_law 501 = .ok (.iconst 2, 1) := by decide +kernel
theorem dL_law_502 : decode cL_law 502 = .ok (.iadd, 1) := by decide +kernel
theorem dL_law_503 : decode cL_law 503 = .ok (.iaload, 1) := by decide +kernel
theorem dL_law_504 : decode cL_law 504 = .ok (.aload_n 0, 1) := by decide +kernel
theorem dL_law_505 : decode cL_law 505 = .ok (.iload_n 3, 1) := by decide +kernel
theorem dL_law_506 : decode cL_law 506 = .ok (.iconst 3, 1) := by decide +kernel
theorem dL_law_507 : decode cL_law 507 = .ok (.iadd, 1) := by decide +kernel
theorem dL_law_508 : decode cL_law 508 = .ok (.iaload, 1) := by decide +kernel
theorem dL_law_509 : decode cL_law 509 = .ok (.invokevirtual 85, 3) := by decide +kernel
theorem dL_law_512 : decode cL_law 512 = .ok (.aload_n 2, 1) := by decide +kernel
theorem dL_law_513 : decode cL_law 513 = .ok (.aload_n 0, 1) := by decide +kernel
theorem dL_law_514 : decode cL_law 514 = .ok (.iload_n 3, 1) := by decide +kernel
theorem dL_law_515 : decode cL_law 515 = .ok (.iconst 1, 1) := by decide +kernel
theorem dL_law_516 : decode cL_law 516 = .ok (.iadd, 1) := by decide +kernel
theorem dL_law_517 : decode cL_law 517 = .ok (.iaload, 1) := by decide +kernel
theorem dL_law_518 : decode cL_law 518 = .ok (.aload_n 0, 1) := by decide +kernel
theorem dL_law_519 : decode cL_law 519 = .ok (.iload_n 3, 1) := by decide +kernel
theorem dL_law_520 : decode cL_law 520 = .ok (.iconst 2, 1) := by decide +kernel
theorem dL_law_521 : decode cL_law 521 = .ok (.iadd, 1) := by decide +kernel
theorem dL_law_522 : decode cL_law 522 = .ok (.iaload, 1) := by decide +kernel
theorem dL_law_523 : decode cL_law 523 = .ok (.aload_n 0, 1) := by decide +kernel
theorem dL_law_524 : decode cL_law 524 = .ok (.iload_n 3, 1) := by decide +kernel
theorem dL_law_525 : decode cL_law 525 = .ok (.iconst 3, 1) := by decide +kernel
theorem dL_law_526 : decode cL_law 526 = .ok (.iadd, 1) := by decide +kernel
theorem dL_law_527 : decode cL_law 527 = .ok (.iaload, 1) := by decide +kernel
theorem dL_law_528 : decode cL_law 528 = .ok (.invokevirtual 89, 3) := by decide +kernel
theorem dL_law_531 : decode cL_law 531 = .ok (.if_icmp .eq 68, 3) := by decide +kernel
theorem dL_law_534 : decode cL_law 534 = .ok (.iconst 0, 1) := by decide +kernel
theorem dL_law_535 : decode cL_law 535 = .ok (.ireturn, 1) := by decide +kernel
theorem dL_law_536 : decode cL_law 536 = .ok (.aload_n 1, 1) := by decide +kernel
theorem dL_law_537 : decode cL_law 537 = .ok (.invokevirtual 90, 3) := by decide +kernel
theorem dL_law_540 : decode cL_law 540 = .ok (.aload_n 2, 1) := by decide +kernel
theorem dL_law_541 : decode cL_law 541 = .ok (.invokevirtual 93, 3) := by decide +kernel
theorem dL_law_544 : decode cL_law 544 = .ok (.if_icmp .eq 55, 3) := by decide +kernel
theorem dL_law_547 : decode cL_law 547 = .ok (.iconst 0, 1) := by decide +kernel
theorem dL_law_548 : decode cL_law 548 = .ok (.ireturn, 1) := by decide +kernel
theorem dL_law_549 : decode cL_law 549 = .ok (.aload_n 1, 1) := by decide +kernel
theorem dL_law_550 : decode cL_law 550 = .ok (.invokevirtual 94, 3) := by decide +kernel
theorem dL_law_553 : decode cL_law 553 = .ok (.aload_n 2, 1) := by decide +kernel
theorem dL_law_554 : decode cL_law 554 = .ok (.invokevirtual 97, 3) := by decide +kernel
theorem dL_law_557 : decode cL_law 557 = .ok (.if_icmp .eq 42, 3) := by decide +kernel
theorem dL_law_560 : decode cL_law 560 = .ok (.iconst 0, 1) := by decide +kernel
theorem dL_law_561 : decode cL_law 561 = .ok (.ireturn, 1) := by decide +kernel
theorem dL_law_562 : decode cL_law 562 = .ok (.aload_n 1, 1) := by decide +kernel
theorem dL_law_563 : decode cL_law 563 = .ok (.aload_n 0, 1) := by decide +kernel
theorem dL_law_564 : decode cL_law 564 = .ok (.iload_n 3, 1) := by decide +kernel
theorem dL_law_565 : decode cL_law 565 = .ok (.iconst 1, 1) := by decide +kernel
theorem dL_law_566 : decode cL_law 566 = .ok (.iadd, 1) := by decide +kernel
theorem dL_law_567 : decode cL_law 567 = .ok (.iaload, 1) := by decide +kernel
theorem dL_law_568 : decode cL_law 568 = .ok (.invokevirtual 98, 3) := by decide +kernel
theorem dL_law_571 : decode cL_law 571 = .ok (.aload_n 2, 1) := by decide +kernel
theorem dL_law_572 : decode cL_law 572 = .ok (.aload_n 0, 1) := by decide +kernel
theorem dL_law_573 : decode cL_law 573 = .ok (.iload_n 3, 1) := by decide +kernel
theorem dL_law_574 : decode cL_law 574 = .ok (.iconst 1, 1) := by decide +kernel
theorem dL_law_575 : decode cL_law 575 = .ok (.iadd, 1) := by decide +kernel
theorem dL_law_576 : decode cL_law 576 = .ok (.iaload, 1) := by decide +kernel
theorem dL_law_577 : decode cL_law 577 = .ok (.invokevirtual 101, 3) := by decide +kernel
theorem dL_law_580 : decode cL_law 580 = .ok (.if_icmp .eq 19, 3) := by decide +kernel
theorem dL_law_583 : decode cL_law 583 = .ok (.iconst 0, 1) := by decide +kernel
theorem dL_law_584 : decode cL_law 584 = .ok (.ireturn, 1) := by decide +kernel
theorem dL_law_585 : decode cL_law 585 = .ok (.aload_n 1, 1) := by decide +kernel
theorem dL_law_586 : decode cL_law 586 = .ok (.invokevirtual 102, 3) := by decide +kernel
theorem dL_law_589 : decode cL_law 589 = .ok (.aload_n 2, 1) := by decide +kernel
theorem dL_law_590 : decode cL_law 590 = .ok (.invokevirtual 106, 3) := by decide +kernel
theorem dL_law_593 : decode cL_law 593 = .ok (.lcmp, 1) := by decide +kernel
theorem dL_law_594 : decode cL_law 594 = .ok (.ifCond .eq 5, 3) := by decide +kernel
theorem dL_law_597 : decode cL_law 597 = .ok (.iconst 0, 1) := by decide +kernel
theorem dL_law_598 : decode cL_law 598 = .ok (.ireturn, 1) := by decide +kernel
theorem dL_law_599 : decode cL_law 599 = .ok (.iinc 3 4, 3) := by decide +kernel
theorem dL_law_602 : decode cL_law 602 = .ok (.goto (-584), 3) := by decide +kernel
theorem dL_law_605 : decode cL_law 605 = .ok (.iconst 1, 1) := by decide +kernel
theorem dL_law_606 : decode cL_law 606 = .ok (.ireturn, 1) := by decide +kernel
theorem dJ0_length_8abf5_0 : decode cJ0_length_8abf5 0 = .ok (.aload_n 0, 1) := by decide +kernel
theorem dJ0_length_8abf5_1 : decode cJ0_length_8abf5 1 = .ok (.getfield 9, 3) := by decide +kernel
theorem dJ0_length_8abf5_4 : decode cJ0_length_8abf5 4 = .ok (.arraylength, 1) := by decide +kernel
theorem dJ0_length_8abf5_5 : decode cJ0_length_8abf5 5 = .ok (.aload_n 0, 1) := by decide +kernel
theorem dJ0_length_8abf5_6 : decode cJ0_length_8abf5 6 = .ok (.invokevirtual 335, 3) := by decide +kernel
theorem dJ0_length_8abf5_9 : decode cJ0_length_8abf5 9 = .ok (.ishr, 1) := by decide +kernel
theorem dJ0_length_8abf5_10 : decode cJ0_length_8abf5 10 = .ok (.ireturn, 1) := by decide +kernel
theorem dJ0_charAt_5068e_0 : decode cJ0_charAt_5068e 0 = .ok (.aload_n 0, 1) := by decide +kernel
theorem dJ0_charAt_5068e_1 : decode cJ0_charAt_5068e 1 = .ok (.invokevirtual 492, 3) := by decide +kernel
theorem dJ0_charAt_5068e_4 : decode cJ0_charAt_5068e 4 = .ok (.ifCond .eq 12, 3) := by decide +kernel
theorem dJ0_charAt_5068e_7 : decode cJ0_charAt_5068e 7 = .ok (.aload_n 0, 1) := by decide +kernel
theorem dJ0_charAt_5068e_8 : decode cJ0_charAt_5068e 8 = .ok (.getfield 9, 3) := by decide +kernel
theorem dJ0_charAt_5068e_11 : decode cJ0_charAt_5068e 11 = .ok (.iload_n 1, 1) := by decide +kernel
theorem dJ0_charAt_5068e_12 : decode cJ0_charAt_5068e 12 = .ok (.invokestatic 495, 3) := by decide +kernel
theorem dJ0_charAt_5068e_15 : decode cJ0_charAt_5068e 15 = .ok (.ireturn, 1) := by decide +kernel
theorem dJ0_charAt_5068e_16 : decode cJ0_charAt_5068e 16 = .ok (.aload_n 0, 1) := by decide +kernel
theorem dJ0_charAt_5068e_17 : decode cJ0_charAt_5068e 17 = .ok (.getfield 9, 3) := by decide +kernel
theorem dJ0_charAt_5068e_20 : decode cJ0_charAt_5068e 20 = .ok (.iload_n 1, 1) := by decide +kernel
theorem dJ0_charAt_5068e_21 : decode cJ0_charAt_5068e 21 = .ok (.invokestatic 498, 3) := by decide +kernel
theorem dJ0_charAt_5068e_24 : decode cJ0_charAt_5068e 24 = .ok (.ireturn, 1) := by decide +kernel
theorem dJ0_indexOf_0f7a4_0 : decode cJ0_indexOf_0f7a4 0 = .ok (.aload_n 0, 1) := by decide +kernel
theorem dJ0_indexOf_0f7a4_1 : decode cJ0_indexOf_0f7a4 1 = .ok (.iload_n 1, 1) := by decide +kernel
theorem dJ0_indexOf_0f7a4_2 : decode cJ0_indexOf_0f7a4 2 = .ok (.iconst 0, 1) := by decide +kernel
theorem dJ0_indexOf_0f7a4_3 : decode cJ0_indexOf_0f7a4 3 = .ok (.invokevirtual 633, 3) := by decide +kernel
theorem dJ0_indexOf_0f7a4_6 : decode cJ0_indexOf_0f7a4 6 = .ok (.ireturn, 1) := by decide +kernel
theorem dJ0_indexOf_7cf53_0 : decode cJ0_indexOf_7cf53 0 = .ok (.aload_n 0, 1) := by decide +kernel
theorem dJ0_indexOf_7cf53_1 : decode cJ0_indexOf_7cf53 1 = .ok (.invokevirtual 492, 3) := by decide +kernel
theorem dJ0_indexOf_7cf53_4 : decode cJ0_indexOf_7cf53 4 = .ok (.ifCond .eq 19, 3) := by decide +kernel
theorem dJ0_indexOf_7cf53_7 : decode cJ0_indexOf_7cf53 7 = .ok (.aload_n 0, 1) := by decide +kernel
theorem dJ0_indexOf_7cf53_8 : decode cJ0_indexOf_7cf53 8 = .ok (.getfield 9, 3) := by decide +kernel
theorem dJ0_indexOf_7cf53_11 : decode cJ0_indexOf_7cf53 11 = .ok (.iload_n 1, 1) := by decide +kernel
theorem dJ0_indexOf_7cf53_12 : decode cJ0_indexOf_7cf53 12 = .ok (.iload_n 2, 1) := by decide +kernel
theorem dJ0_indexOf_7cf53_13 : decode cJ0_indexOf_7cf53 13 = .ok (.aload_n 0, 1) := by decide +kernel
theorem dJ0_indexOf_7cf53_14 : decode cJ0_indexOf_7cf53 14 = .ok (.invokevirtual 505, 3) := by decide +kernel
theorem dJ0_indexOf_7cf53_17 : decode cJ0_indexOf_7cf53 17 = .ok (.invokestatic 637, 3) := by decide +kernel
theorem dJ0_indexOf_7cf53_20 : decode cJ0_indexOf_7cf53 20 = .ok (.goto 16, 3) := by decide +kernel
theorem dJ0_indexOf_7cf53_23 : decode cJ0_indexOf_7cf53 23 = .ok (.aload_n 0, 1) := by decide +kernel
theorem dJ0_indexOf_7cf53_24 : decode cJ0_indexOf_7cf53 24 = .ok (.getfield 9, 3) := by decide +kernel
theorem dJ0_indexOf_7cf53_27 : decode cJ0_indexOf_7cf53 27 = .ok (.iload_n 1, 1) := by decide +kernel
theorem dJ0_indexOf_7cf53_28 : decode cJ0_indexOf_7cf53 28 = .ok (.iload_n 2, 1) := by decide +kernel
theorem dJ0_indexOf_7cf53_29 : decode cJ0_indexOf_7cf53 29 = .ok (.aload_n 0, 1) := by decide +kernel
theorem dJ0_indexOf_7cf53_30 : decode cJ0_indexOf_7cf53 30 = .ok (.invokevirtual 505, 3) := by decide +kernel
theorem dJ0_indexOf_7cf53_33 : decode cJ0_indexOf_7cf53 33 = .ok (.invokestatic 640, 3) := by decide +kernel
theorem dJ0_indexOf_7cf53_36 : decode cJ0_indexOf_7cf53 36 = .ok (.ireturn, 1) := by decide +kernel
theorem dJ0_coder_7d493_0 : decode cJ0_coder_7d493 0 = .ok (.getstatic 38, 3) := by decide +kernel
theorem dJ0_coder_7d493_3 : decode cJ0_coder_7d493 3 = .ok (.ifCond .eq 10, 3) := by decide +kernel
theorem dJ0_coder_7d493_6 : decode cJ0_coder_7d493 6 = .ok (.aload_n 0, 1) := by decide +kernel
theorem dJ0_coder_7d493_7 : decode cJ0_coder_7d493 7 = .ok (.getfield 15, 3) := by decide +kernel
theorem dJ0_coder_7d493_10 : decode cJ0_coder_7d493 10 = .ok (.goto 4, 3) := by decide +kernel
theorem dJ0_coder_7d493_13 : decode cJ0_coder_7d493 13 = .ok (.iconst 1, 1) := by decide +kernel
theorem dJ0_coder_7d493_14 : decode cJ0_coder_7d493 14 = .ok (.ireturn, 1) := by decide +kernel
theorem dJ0_isLatin1_aae02_0 : decode cJ0_isLatin1_aae02 0 = .ok (.getstatic 38, 3) := by decide +kernel
theorem dJ0_isLatin1_aae02_3 : decode cJ0_isLatin1_aae02 3 = .ok (.ifCond .eq 14, 3) := by decide +kernel
theorem dJ0_isLatin1_aae02_6 : decode cJ0_isLatin1_aae02 6 = .ok (.aload_n 0, 1) := by decide +kernel
theorem dJ0_isLatin1_aae02_7 : decode cJ0_isLatin1_aae02 7 = .ok (.getfield 15, 3) := by decide +kernel
theorem dJ0_isLatin1_aae02_10 : decode cJ0_isLatin1_aae02 10 = .ok (.ifCond .ne 7, 3) := by decide +kernel
theorem dJ0_isLatin1_aae02_13 : decode cJ0_isLatin1_aae02 13 = .ok (.iconst 1, 1) := by decide +kernel
theorem dJ0_isLatin1_aae02_14 : decode cJ0_isLatin1_aae02 14 = .ok (.goto 4, 3) := by decide +kernel
theorem dJ0_isLatin1_aae02_17 : decode cJ0_isLatin1_aae02 17 = .ok (.iconst 0, 1) := by decide +kernel
theorem dJ0_isLatin1_aae02_18 : decode cJ0_isLatin1_aae02 18 = .ok (.ireturn, 1) := by decide +kernel
theorem dJ0_checkIndex_df160_0 : decode cJ0_checkIndex_df160 0 = .ok (.iload_n 0, 1) := by decide +kernel
theorem dJ0_checkIndex_df160_1 : decode cJ0_checkIndex_df160 1 = .ok (.iload_n 1, 1) := by decide +kernel
theorem dJ0_checkIndex_df160_2 : decode cJ0_checkIndex_df160 2 = .ok (.getstatic 1053, 3) := by decide +kernel
theorem dJ0_checkIndex_df160_5 : decode cJ0_checkIndex_df160 5 = .ok (.invokestatic 1059, 3) := by decide +kernel
theorem dJ0_checkIndex_df160_8 : decode cJ0_checkIndex_df160 8 = .ok (.pop, 1) := by decide +kernel
theorem dJ0_checkIndex_df160_9 : decode cJ0_checkIndex_df160 9 = .ok (.return_, 1) := by decide +kernel
theorem dJ0_checkBoundsBeginEnd_23922_0 : decode cJ0_checkBoundsBeginEnd_23922 0 = .ok (.iload_n 0, 1) := by decide +kernel
theorem dJ0_checkBoundsBeginEnd_23922_1 : decode cJ0_checkBoundsBeginEnd_23922 1 = .ok (.iload_n 1, 1) := by decide +kernel
theorem dJ0_checkBoundsBeginEnd_23922_2 : decode cJ0_checkBoundsBeginEnd_23922 2 = .ok (.iload_n 2, 1) := by decide +kernel
theorem dJ0_checkBoundsBeginEnd_23922_3 : decode cJ0_checkBoundsBeginEnd_23922 3 = .ok (.getstatic 1053, 3) := by decide +kernel
theorem dJ0_checkBoundsBeginEnd_23922_6 : decode cJ0_checkBoundsBeginEnd_23922 6 = .ok (.invokestatic 1062, 3) := by decide +kernel
theorem dJ0_checkBoundsBeginEnd_23922_9 : decode cJ0_checkBoundsBeginEnd_23922 9 = .ok (.pop, 1) := by decide +kernel
theorem dJ0_checkBoundsBeginEnd_23922_10 : decode cJ0_checkBoundsBeginEnd_23922 10 = .ok (.return_, 1) := by decide +kernel
theorem dJ1_charAt_3b067_0 : decode cJ1_charAt_3b067 0 = .ok (.iload_n 1, 1) := by decide +kernel
theorem dJ1_charAt_3b067_1 : decode cJ1_charAt_3b067 1 = .ok (.aload_n 0, 1) := by decide +kernel
theorem dJ1_charAt_3b067_2 : decode cJ1_charAt_3b067 2 = .ok (.arraylength, 1) := by decide +kernel
theorem dJ1_charAt_3b067_3 : decode cJ1_charAt_3b067 3 = .ok (.invokestatic 9, 3) := by decide +kernel
theorem dJ1_charAt_3b067_6 : decode cJ1_charAt_3b067 6 = .ok (.aload_n 0, 1) := by decide +kernel
theorem dJ1_charAt_3b067_7 : decode cJ1_charAt_3b067 7 = .ok (.iload_n 1, 1) := by decide +kernel
theorem dJ1_charAt_3b067_8 : decode cJ1_charAt_3b067 8 = .ok (.baload, 1) := by decide +kernel
theorem dJ1_charAt_3b067_9 : decode cJ1_charAt_3b067 9 = .ok (.sipush 255, 3) := by decide +kernel
theorem dJ1_charAt_3b067_12 : decode cJ1_charAt_3b067 12 = .ok (.iand, 1) := by decide +kernel
theorem dJ1_charAt_3b067_13 : decode cJ1_charAt_3b067 13 = .ok (.i2c, 1) := by decide +kernel
theorem dJ1_charAt_3b067_14 : decode cJ1_charAt_3b067 14 = .ok (.ireturn, 1) := by decide +kernel
theorem dJ1_canEncode_9a6ad_0 : decode cJ1_canEncode_9a6ad 0 = .ok (.iload_n 0, 1) := by decide +kernel
theorem dJ1_canEncode_9a6ad_1 : decode cJ1_canEncode_9a6ad 1 = .ok (.ifCond .lt 14, 3) := by decide +kernel
theorem dJ1_canEncode_9a6ad_4 : decode cJ1_canEncode_9a6ad 4 = .ok (.iload_n 0, 1) := by decide +kernel
theorem dJ1_canEncode_9a6ad_5 : decode cJ1_canEncode_9a6ad 5 = .ok (.sipush 255, 3) := by decide +kernel
theorem dJ1_canEncode_9a6ad_8 : decode cJ1_canEncode_9a6ad 8 = .ok (.if_icmp .gt 7, 3) := by decide +kernel
theorem dJ1_canEncode_9a6ad_11 : decode cJ1_canEncode_9a6ad 11 = .ok (.iconst 1, 1) := by decide +kernel
theorem dJ1_canEncode_9a6ad_12 : decode cJ1_canEncode_9a6ad 12 = .ok (.goto 4, 3) := by decide +kernel
theorem dJ1_canEncode_9a6ad_15 : decode cJ1_canEncode_9a6ad 15 = .ok (.iconst 0, 1) := by decide +kernel
theorem dJ1_canEncode_9a6ad_16 : decode cJ1_canEncode_9a6ad 16 = .ok (.ireturn, 1) := by decide +kernel
theorem dJ1_indexOf_4cfef_0 : decode cJ1_indexOf_4cfef 0 = .ok (.iload_n 1, 1) := by decide +kernel
theorem dJ1_indexOf_4cfef_1 : decode cJ1_indexOf_4cfef 1 = .ok (.invokestatic 88, 3) := by decide +kernel
theorem dJ1_indexOf_4cfef_4 : decode cJ1_indexOf_4cfef 4 = .ok (.ifCond .ne 5, 3) := by decide +kernel
theorem dJ1_indexOf_4cfef_7 : decode cJ1_indexOf_4cfef 7 = .ok (.iconst (-1), 1) := by decide +kernel
theorem dJ1_indexOf_4cfef_8 : decode cJ1_indexOf_4cfef 8 = .ok (.ireturn, 1) := by decide +kernel
theorem dJ1_indexOf_4cfef_9 : decode cJ1_indexOf_4cfef 9 = .ok (.iload_n 2, 1) := by decide +kernel
theorem dJ1_indexOf_4cfef_10 : decode cJ1_indexOf_4cfef 10 = .ok (.iconst 0, 1) := by decide +kernel
theorem dJ1_indexOf_4cfef_11 : decode cJ1_indexOf_4cfef 11 = .ok (.invokestatic 92, 3) := by decide +kernel
theorem dJ1_indexOf_4cfef_14 : decode cJ1_indexOf_4cfef 14 = .ok (.istore_n 2, 1) := by decide +kernel
theorem dJ1_indexOf_4cfef_15 : decode cJ1_indexOf_4cfef 15 = .ok (.iload_n 3, 1) := by decide +kernel
theorem dJ1_indexOf_4cfef_16 : decode cJ1_indexOf_4cfef 16 = .ok (.aload_n 0, 1) := by decide +kernel
theorem dJ1_indexOf_4cfef_17 : decode cJ1_indexOf_4cfef 17 = .ok (.arraylength, 1) := by decide +kernel
theorem dJ1_indexOf_4cfef_18 : decode cJ1_indexOf_4cfef 18 = .ok (.invokestatic 38, 3) := by decide +kernel
theorem dJ1_indexOf_4cfef_21 : decode cJ1_indexOf_4cfef 21 = .ok (.istore_n 3, 1) := by decide +kernel
theorem dJ1_indexOf_4cfef_22 : decode cJ1_indexOf_4cfef 22 = .ok (.iload_n 2, 1) := by decide +kernel
theorem dJ1_indexOf_4cfef_23 : decode cJ1_indexOf_4cfef 23 = .ok (.iload_n 3, 1) := by decide +kernel
theorem dJ1_indexOf_4cfef_24 : decode cJ1_indexOf_4cfef 24 = .ok (.if_icmp .lt 5, 3) := by decide +kernel
theorem dJ1_indexOf_4cfef_27 : decode cJ1_indexOf_4cfef 27 = .ok (.iconst (-1), 1) := by decide +kernel
theorem dJ1_indexOf_4cfef_28 : decode cJ1_indexOf_4cfef 28 = .ok (.ireturn, 1) := by decide +kernel
theorem dJ1_indexOf_4cfef_29 : decode cJ1_indexOf_4cfef 29 = .ok (.aload_n 0, 1) := by decide +kernel
theorem dJ1_indexOf_4cfef_30 : decode cJ1_indexOf_4cfef 30 = .ok (.iload_n 1, 1) := by decide +kernel
theorem dJ1_indexOf_4cfef_31 : decode cJ1_indexOf_4cfef 31 = .ok (.iload_n 2, 1) := by decide +kernel
theorem dJ1_indexOf_4cfef_32 : decode cJ1_indexOf_4cfef 32 = .ok (.iload_n 3, 1) := by decide +kernel
theorem dJ1_indexOf_4cfef_33 : decode cJ1_indexOf_4cfef 33 = .ok (.invokestatic 95, 3) := by decide +kernel
theorem dJ1_indexOf_4cfef_36 : decode cJ1_indexOf_4cfef 36 = .ok (.ireturn, 1) := by decide +kernel
theorem dJ1_indexOfChar_4cfef_0 : decode cJ1_indexOfChar_4cfef 0 = .ok (.iload_n 1, 1) := by decide +kernel
theorem dJ1_indexOfChar_4cfef_1 : decode cJ1_indexOfChar_4cfef 1 = .ok (.i2b, 1) := by decide +kernel
theorem dJ1_indexOfChar_4cfef_2 : decode cJ1_indexOfChar_4cfef 2 = .ok (.istore 4, 2) := by decide +kernel
theorem dJ1_indexOfChar_4cfef_4 : decode cJ1_indexOfChar_4cfef 4 = .ok (.iload_n 2, 1) := by decide +kernel
theorem dJ1_indexOfChar_4cfef_5 : decode cJ1_indexOfChar_4cfef 5 = .ok (.istore 5, 2) := by decide +kernel
theorem dJ1_indexOfChar_4cfef_7 : decode cJ1_indexOfChar_4cfef 7 = .ok (.iload 5, 2) := by decide +kernel
theorem dJ1_indexOfChar_4cfef_9 : decode cJ1_indexOfChar_4cfef 9 = .ok (.iload_n 3, 1) := by decide +kernel
theorem dJ1_indexOfChar_4cfef_10 : decode cJ1_indexOfChar_4cfef 10 = .ok (.if_icmp .ge 21, 3) := by decide +kernel
theorem dJ1_indexOfChar_4cfef_13 : decode cJ1_indexOfChar_4cfef 13 = .ok (.aload_n 0, 1) := by decide +kernel
theorem dJ1_indexOfChar_4cfef_14 : decode cJ1_indexOfChar_4cfef 14 = .ok (.iload 5, 2) := by decide +kernel
theorem dJ1_indexOfChar_4cfef_16 : decode cJ1_indexOfChar_4cfef 16 = .ok (.baload, 1) := by decide +kernel
theorem dJ1_indexOfChar_4cfef_17 : decode cJ1_indexOfChar_4cfef 17 = .ok (.iload 4, 2) := by decide +kernel
theorem dJ1_indexOfChar_4cfef_19 : decode cJ1_indexOfChar_4cfef 19 = .ok (.if_icmp .ne 6, 3) := by decide +kernel
theorem dJ1_indexOfChar_4cfef_22 : decode cJ1_indexOfChar_4cfef 22 = .ok (.iload 5, 2) := by decide +kernel
theorem dJ1_indexOfChar_4cfef_24 : decode cJ1_indexOfChar_4cfef 24 = .ok (.ireturn, 1) := by decide +kernel
theorem dJ1_indexOfChar_4cfef_25 : decode cJ1_indexOfChar_4cfef 25 = .ok (.iinc 5 1, 3) := by decide +kernel
theorem dJ1_indexOfChar_4cfef_28 : decode cJ1_indexOfChar_4cfef 28 = .ok (.goto (-21), 3) := by decide +kernel
theorem dJ1_indexOfChar_4cfef_31 : decode cJ1_indexOfChar_4cfef 31 = .ok (.iconst (-1), 1) := by decide +kernel
theorem dJ1_indexOfChar_4cfef_32 : decode cJ1_indexOfChar_4cfef 32 = .ok (.ireturn, 1) := by decide +kernel
theorem dJ3_checkIndex_8e157_0 : decode cJ3_checkIndex_8e157 0 = .ok (.iload_n 0, 1) := by decide +kernel
theorem dJ3_checkIndex_8e157_1 : decode cJ3_checkIndex_8e157 1 = .ok (.ifCond .lt 8, 3) := by decide +kernel
theorem dJ3_checkIndex_8e157_4 : decode cJ3_checkIndex_8e157 4 = .ok (.iload_n 0, 1) := by decide +kernel
theorem dJ3_checkIndex_8e157_5 : decode cJ3_checkIndex_8e157 5 = .ok (.iload_n 1, 1) := by decide +kernel
theorem dJ3_checkIndex_8e157_6 : decode cJ3_checkIndex_8e157 6 = .ok (.if_icmp .lt 10, 3) := by decide +kernel
theorem dJ3_checkIndex_8e157_9 : decode cJ3_checkIndex_8e157 9 = .ok (.aload_n 2, 1) := by decide +kernel
theorem dJ3_checkIndex_8e157_10 : decode cJ3_checkIndex_8e157 10 = .ok (.iload_n 0, 1) := by decide +kernel
theorem dJ3_checkIndex_8e157_11 : decode cJ3_checkIndex_8e157 11 = .ok (.iload_n 1, 1) := by decide +kernel
theorem dJ3_checkIndex_8e157_12 : decode cJ3_checkIndex_8e157 12 = .ok (.invokestatic 95, 3) := by decide +kernel
theorem dJ3_checkIndex_8e157_15 : decode cJ3_checkIndex_8e157 15 = .ok (.athrow, 1) := by decide +kernel
theorem dJ3_checkIndex_8e157_16 : decode cJ3_checkIndex_8e157 16 = .ok (.iload_n 0, 1) := by decide +kernel
theorem dJ3_checkIndex_8e157_17 : decode cJ3_checkIndex_8e157 17 = .ok (.ireturn, 1) := by decide +kernel
theorem dJ3_checkFromToIndex_8c36e_0 : decode cJ3_checkFromToIndex_8c36e 0 = .ok (.iload_n 0, 1) := by decide +kernel
theorem dJ3_checkFromToIndex_8c36e_1 : decode cJ3_checkFromToIndex_8c36e 1 = .ok (.ifCond .lt 13, 3) := by decide +kernel
theorem dJ3_checkFromToIndex_8c36e_4 : decode cJ3_checkFromToIndex_8c36e 4 = .ok (.iload_n 0, 1) := by decide +kernel
theorem dJ3_checkFromToIndex_8c36e_5 : decode cJ3_checkFromToIndex_8c36e 5 = .ok (.iload_n 1, 1) := by decide +kernel
theorem dJ3_checkFromToIndex_8c36e_6 : decode cJ3_checkFromToIndex_8c36e 6 = .ok (.if_icmp .gt 8, 3) := by decide +kernel
theorem dJ3_checkFromToIndex_8c36e_9 : decode cJ3_checkFromToIndex_8c36e 9 = .ok (.iload_n 1, 1) := by decide +kernel
theorem dJ3_checkFromToIndex_8c36e_10 : decode cJ3_checkFromToIndex_8c36e 10 = .ok (.iload_n 2, 1) := by decide +kernel
theorem dJ3_checkFromToIndex_8c36e_11 : decode cJ3_checkFromToIndex_8c36e 11 = .ok (.if_icmp .le 11, 3) := by decide +kernel
theorem dJ3_checkFromToIndex_8c36e_14 : decode cJ3_checkFromToIndex_8c36e 14 = .ok (.aload_n 3, 1) := by decide +kernel
theorem dJ3_checkFromToIndex_8c36e_15 : decode cJ3_checkFromToIndex_8c36e 15 = .ok (.iload_n 0, 1) := by decide +kernel
theorem dJ3_checkFromToIndex_8c36e_16 : decode cJ3_checkFromToIndex_8c36e 16 = .ok (.iload_n 1, 1) := by decide +kernel
theorem dJ3_checkFromToIndex_8c36e_17 : decode cJ3_checkFromToIndex_8c36e 17 = .ok (.iload_n 2, 1) := by decide +kernel
theorem dJ3_checkFromToIndex_8c36e_18 : decode cJ3_checkFromToIndex_8c36e 18 = .ok (.invokestatic 99, 3) := by decide +kernel
theorem dJ3_checkFromToIndex_8c36e_21 : decode cJ3_checkFromToIndex_8c36e 21 = .ok (.athrow, 1) := by decide +kernel
theorem dJ3_checkFromToIndex_8c36e_22 : decode cJ3_checkFromToIndex_8c36e 22 = .ok (.iload_n 0, 1) := by decide +kernel
theorem dJ3_checkFromToIndex_8c36e_23 : decode cJ3_checkFromToIndex_8c36e 23 = .ok (.ireturn, 1) := by decide +kernel
theorem dJ7_fill_53178_0 : decode cJ7_fill_53178 0 = .ok (.iconst 0, 1) := by decide +kernel
theorem dJ7_fill_53178_1 : decode cJ7_fill_53178 1 = .ok (.istore_n 2, 1) := by decide +kernel
theorem dJ7_fill_53178_2 : decode cJ7_fill_53178 2 = .ok (.aload_n 0, 1) := by decide +kernel
theorem dJ7_fill_53178_3 : decode cJ7_fill_53178 3 = .ok (.arraylength, 1) := by decide +kernel
theorem dJ7_fill_53178_4 : decode cJ7_fill_53178 4 = .ok (.istore_n 3, 1) := by decide +kernel
theorem dJ7_fill_53178_5 : decode cJ7_fill_53178 5 = .ok (.iload_n 2, 1) := by decide +kernel
theorem dJ7_fill_53178_6 : decode cJ7_fill_53178 6 = .ok (.iload_n 3, 1) := by decide +kernel
theorem dJ7_fill_53178_7 : decode cJ7_fill_53178 7 = .ok (.if_icmp .ge 13, 3) := by decide +kernel
theorem dJ7_fill_53178_10 : decode cJ7_fill_53178 10 = .ok (.aload_n 0, 1) := by decide +kernel
theorem dJ7_fill_53178_11 : decode cJ7_fill_53178 11 = .ok (.iload_n 2, 1) := by decide +kernel
theorem dJ7_fill_53178_12 : decode cJ7_fill_53178 12 = .ok (.iload_n 1, 1) := by decide +kernel
theorem dJ7_fill_53178_13 : decode cJ7_fill_53178 13 = .ok (.iastore, 1) := by decide +kernel
theorem dJ7_fill_53178_14 : decode cJ7_fill_53178 14 = .ok (.iinc 2 1, 3) := by decide +kernel
theorem dJ7_fill_53178_17 : decode cJ7_fill_53178 17 = .ok (.goto (-12), 3) := by decide +kernel
theorem dJ7_fill_53178_20 : decode cJ7_fill_53178 20 = .ok (.return_, 1) := by decide +kernel
theorem dJ9_abs_0f7a4_0 : decode cJ9_abs_0f7a4 0 = .ok (.iload_n 0, 1) := by decide +kernel
theorem dJ9_abs_0f7a4_1 : decode cJ9_abs_0f7a4 1 = .ok (.ifCond .ge 8, 3) := by decide +kernel
theorem dJ9_abs_0f7a4_4 : decode cJ9_abs_0f7a4 4 = .ok (.iload_n 0, 1) := by decide +kernel
theorem dJ9_abs_0f7a4_5 : decode cJ9_abs_0f7a4 5 = .ok (.ineg, 1) := by decide +kernel
theorem dJ9_abs_0f7a4_6 : decode cJ9_abs_0f7a4 6 = .ok (.goto 4, 3) := by decide +kernel
theorem dJ9_abs_0f7a4_9 : decode cJ9_abs_0f7a4 9 = .ok (.iload_n 0, 1) := by decide +kernel
theorem dJ9_abs_0f7a4_10 : decode cJ9_abs_0f7a4 10 = .ok (.ireturn, 1) := by decide +kernel
theorem dJ9_max_7cf53_0 : decode cJ9_max_7cf53 0 = .ok (.iload_n 0, 1) := by decide +kernel
theorem dJ9_max_7cf53_1 : decode cJ9_max_7cf53 1 = .ok (.iload_n 1, 1) := by decide +kernel
theorem dJ9_max_7cf53_2 : decode cJ9_max_7cf53 2 = .ok (.if_icmp .lt 7, 3) := by decide +kernel
theorem dJ9_max_7cf53_5 : decode cJ9_max_7cf53 5 = .ok (.iload_n 0, 1) := by decide +kernel
theorem dJ9_max_7cf53_6 : decode cJ9_max_7cf53 6 = .ok (.goto 4, 3) := by decide +kernel
theorem dJ9_max_7cf53_9 : decode cJ9_max_7cf53 9 = .ok (.iload_n 1, 1) := by decide +kernel
theorem dJ9_max_7cf53_10 : decode cJ9_max_7cf53 10 = .ok (.ireturn, 1) := by decide +kernel
theorem dJ9_min_7cf53_0 : decode cJ9_min_7cf53 0 = .ok (.iload_n 0, 1) := by decide +kernel
theorem dJ9_min_7cf53_1 : decode cJ9_min_7cf53 1 = .ok (.iload_n 1, 1) := by decide +kernel
theorem dJ9_min_7cf53_2 : decode cJ9_min_7cf53 2 = .ok (.if_icmp .gt 7, 3) := by decide +kernel
theorem dJ9_min_7cf53_5 : decode cJ9_min_7cf53 5 = .ok (.iload_n 0, 1) := by decide +kernel
theorem dJ9_min_7cf53_6 : decode cJ9_min_7cf53 6 = .ok (.goto 4, 3) := by decide +kernel
theorem dJ9_min_7cf53_9 : decode cJ9_min_7cf53 9 = .ok (.iload_n 1, 1) := by decide +kernel
theorem dJ9_min_7cf53_10 : decode cJ9_min_7cf53 10 = .ok (.ireturn, 1) := by decide +kernel
end
section
/-! ===== the J layer: a walk of a method, what stands still in it bundled ===== -/
abbrev jX : Type := Program × Launch × Env × Room × State × MethodId × Array Value × List Frame × Method × Code × (State → Prop) × (Nat → Prop) × va_G × Nat
def jT (cI cZ : ClassId) : List (ClassId × FieldType) := [(cI, .int), (cZ, .boolean)]
def jTak (j : Nat) : Int32 := ([2, 1, 3, 2, 4] : List Int32).getD j 0
def jCar (j : Nat) : Int32 := ([2, 2, 2, 2, 3] : List Int32).getD j 0
def jAct (j : Nat) : Int32 := ([0, 1, 2, 3, 4, 5, 7, 8, 12, 15, 18, 21, 22, 25, 26, 29, 32, 35, 39, 40] : List Int32).getD j 0
def jByt : List (List Int32) := [[107, 51, 51, 44, 107, 51, 51, 44, 107, 51, 51, 59, 57, 57], [98, 110, 102, 104, 100]]
def jLen : List Nat := [14, 5]
/-- nest mates' links: methods and static fields -/
def jNM : List (String × Nat × MethodName) := [(RX5, 19, yX2_init), (RX5, 30, yX3_init), (RX5, 49, yX4_init), (RX5, 56, yX0_init), (RX5, 63, yX1_init), (RX2, 31, yX5_at), (RX2, 38, yX5_bentBy), (RX2, 42, yX5_listingBy), (RX2, 45, yX5_cellFrom), (RX2, 56, yX5_cellInto), (RX4, 46, yX5_tonsOf), (RX0, 41, yX5_listingBy), (RX0, 49, yX5_bentBy), (RX1, 46, yX5_bentBy)]
def jNF : List (String × Nat × String) := [(RX2, 28, "TAKING"), (RX2, 35, "CARRYING"), (RX4, 73, "ACTS"), (RX0, 32, "ACTS"), (RX1, 26, "ACTS")]
def jSt (z : Nat → Nat) (A : Nat → Prop) (U : State) (H : Heap) : Prop :=
  (∀ q ∈ jNM, va_Nw (.methodLinkNest q.1 q.2.1 q.2.2 RX5) U) ∧ (∀ q ∈ jNF, va_Nw (.fieldLinkNest q.1 q.2.1 RX5 q.2.2 "[I" RX5) U) ∧
  va_Z RX5 "TAKING" "[I" (.ref (z 0)) A U H ∧ va_T .int (z 0) 5 (fun j => .int (jTak j)) A U H ∧
  va_Z RX5 "CARRYING" "[I" (.ref (z 1)) A U H ∧ va_T .int (z 1) 5 (fun j => .int (jCar j)) A U H ∧
  va_Z RX5 "ACTS" "[I" (.ref (z 2)) A U H ∧ va_T .int (z 2) 20 (fun j => .int (jAct j)) A U H ∧
  vk_R RX5 72 "k33,k33,k33;99" (z 3) U ∧ vk_R RX5 117 "bnfhd" (z 4) U ∧ vk_S 2 jLen jByt (fun i => z (3 + i)) (fun i => z (5 + i)) A U H ∧
  va_Z "java/lang/String" "COMPACT_STRINGS" "Z" (.int 1) A U H ∧ va_Zq "jdk/internal/util/Preconditions" "SIOOBE_FORMATTER" "Ljava/util/function/BiFunction;" A U H
theorem jZq_narrow {C n d : String} {A B : Nat → Prop} {U : State} {H : Heap} (h : va_Zq C n d A U H) (hAB : ∀ q, B q → A q) : va_Zq C n d B U H := by
  rcases h with h | ⟨t, h⟩
  · exact Or.inl (h.narrow hAB)
  · exact Or.inr ⟨t, h.narrow hAB⟩
theorem jSt.go {z : Nat → Nat} {A B : Nat → Prop} {s U : State} {H : Heap} {locs : List Loc} (h : jSt z A s s.heap) (hW : s.WarmedH U.vm) (hH : U.heap = H) (hS : va_S A s.heap H locs) (hB : ∀ q, B q → A q) : jSt z B U U.heap := by
  obtain ⟨h1, h2, h3, h4, h5, h6, h7, h8, h9, h10, h11, h12, h13⟩ := h
  have hq : ∀ a : Nat, a < s.heap.size → ¬ A a → U.heap[a]? = s.heap[a]? := fun a ha hn => by rw [hH]; exact hS.2.1 a ha hn
  exact ⟨fun q hm => va_Nw.warmM hW (h1 q hm), fun q hm => va_Nw.warmF hW (h2 q hm), ((h3.moved hW.alike).kept hq).narrow hB, ((h4.moved hW.alike).kept hq).narrow hB, ((h5.moved hW.alike).kept hq).narrow hB, ((h6.moved hW.alike).kept hq).narrow hB, ((h7.moved hW.alike).kept hq).narrow hB, ((h8.moved hW.alike).kept hq).narrow hB, h9.warm hW, h10.warm hW, ((h11.moved hW.alike).kept hq).narrow hB, ((h12.moved hW.alike).kept hq).narrow hB, jZq_narrow ((h13.moved hW.alike).kept hq) hB⟩
theorem jSt.bl {z : Nat → Nat} {A : Nat → Prop} {U V : State} (hv : U.vm = V.vm) (hh : V.heap = U.heap) (h : jSt z A U U.heap) : jSt z A V V.heap := by
  obtain ⟨h1, h2, h3, h4, h5, h6, h7, h8, h9, h10, h11, h12, h13⟩ := h
  have ha : U.vm.Alike V.vm := by rw [← hv]; exact Vm.Alike.refl _
  rw [hh]
  exact ⟨fun q hm => va_Nw.same rfl hv (h1 q hm), fun q hm => va_Nw.same rfl hv (h2 q hm), h3.moved ha, h4.moved ha, h5.moved ha, h6.moved ha, h7.moved ha, h8.moved ha, h9.same hv.symm, h10.same hv.symm, h11.moved ha, h12.moved ha, h13.moved ha⟩


def jI (X : jX) (b : Bool) (ws : va_W) (H : Heap) (locs : List Loc) : Prop :=
  match X with
  | (_, _, _, _, s, _, _, _, _, _, _, A, D, _) => va_P D vwCl ws H ∧ (match b with | true => va_D A ws ∧ va_S A s.heap H locs | false => H = s.heap ∧ locs = [])
def J (X : jX) (b : Bool) (k n pc : Nat) (lv : List (Nat × Value)) (st : List Value) (ws : va_W) : Prop :=
  match X with
  | (p, l, e, R, s, m, args, below, meth, c, Q, A, D, nL) => ∀ (H : Heap) (locs : List Loc) (ls : Array Slot), jI (p, l, e, R, s, m, args, below, meth, c, Q, A, D, nL) b ws H locs → lv_has ls nL lv → W p l e R s m args below meth c H locs k n Q (F0 m pc ls st)
def JF (X : jX) (cc : ByteArray) (own : String) (cI cZ : ClassId) (z : Nat → Nat) : Prop :=
  match X with
  | (p, _, _, _, s, m, args, _, meth, c, _, A, D, nL) => p.tables.exec = Jvm.exec ∧ c.code = cc ∧ c.maxLocals = nL ∧ s.vm.findClass own = some m.cls ∧ (∀ w ∈ wsG, w.before args s = true) ∧ meth.locks = false ∧ va_K D vwCl (jT cI cZ) s ∧ jSt z A s s.heap
/-- a word on the number of locals -/
def jL (X : jX) (P : Nat → Prop) : Prop :=
  match X with
  | (_, _, _, _, _, _, _, _, _, _, _, _, _, nL) => P nL
def jD (X : jX) : va_G :=
  match X with
  | (_, _, _, _, _, _, _, _, _, _, _, _, D, _) => D
def jR (X : jX) : Room :=
  match X with
  | (_, _, _, R, _, _, _, _, _, _, _, _, _, _) => R
def jl (X : jX) : Launch :=
  match X with
  | (_, l, _, _, _, _, _, _, _, _, _, _, _, _) => l
/-- what the method makes is its own -/
def jA (X : jX) : Prop :=
  match X with
  | (_, _, _, _, s, _, _, _, _, _, _, A, _, _) => ∀ q : Nat, s.heap.size ≤ q → A q

theorem J_iconst {X : jX} {b : Bool} {k : Nat} {n : Nat} {pc : Nat} {pc' : Nat} {lv : List (Nat × Value)} {st : List Value} {ws : va_W} {cc : ByteArray} {own : String} {cI : ClassId} {cZ : ClassId} {z : Nat → Nat} {i : Int} {v : Int32} (F : JF X cc own cI cZ z) (hd : decode cc pc = .ok (.iconst i, 1)) (hv : Int32.ofInt i = v) (hn : pc + 1 = pc') (kk : J X b k n pc' lv (.int v :: st) ws) : J X b k n pc lv (st) ws := by
  obtain ⟨p, l, e, R, s, m, args, below, meth, c, Q, A, D, nL⟩ := X
  obtain ⟨hx, hb, hml, hown, hts, hlk, hK, hZ⟩ := F
  subst hn
  exact fun H locs ls hI hl => lv_iconst hx hb hd hv (kk H locs ls hI hl)
theorem J_bipush {X : jX} {b : Bool} {k : Nat} {n : Nat} {pc : Nat} {pc' : Nat} {lv : List (Nat × Value)} {st : List Value} {ws : va_W} {cc : ByteArray} {own : String} {cI : ClassId} {cZ : ClassId} {z : Nat → Nat} {i : Int} {v : Int32} (F : JF X cc own cI cZ z) (hd : decode cc pc = .ok (.bipush i, 2)) (hv : (Int8.ofInt i).toInt32 = v) (hn : pc + 2 = pc') (kk : J X b k n pc' lv (.int v :: st) ws) : J X b k n pc lv (st) ws := by
  obtain ⟨p, l, e, R, s, m, args, below, meth, c, Q, A, D, nL⟩ := X
  obtain ⟨hx, hb, hml, hown, hts, hlk, hK, hZ⟩ := F
  subst hn
  exact fun H locs ls hI hl => lv_bipush hx hb hd hv (kk H locs ls hI hl)
theorem J_sipush {X : jX} {b : Bool} {k : Nat} {n : Nat} {pc : Nat} {pc' : Nat} {lv : List (Nat × Value)} {st : List Value} {ws : va_W} {cc : ByteArray} {own : String} {cI : ClassId} {cZ : ClassId} {z : Nat → Nat} {i : Int} {v : Int32} (F : JF X cc own cI cZ z) (hd : decode cc pc = .ok (.sipush i, 3)) (hv : (Int16.ofInt i).toInt32 = v) (hn : pc + 3 = pc') (kk : J X b k n pc' lv (.int v :: st) ws) : J X b k n pc lv (st) ws := by
  obtain ⟨p, l, e, R, s, m, args, below, meth, c, Q, A, D, nL⟩ := X
  obtain ⟨hx, hb, hml, hown, hts, hlk, hK, hZ⟩ := F
  subst hn
  exact fun H locs ls hI hl => lv_sipush hx hb hd hv (kk H locs ls hI hl)
theorem J_lconst {X : jX} {b : Bool} {k : Nat} {n : Nat} {pc : Nat} {pc' : Nat} {lv : List (Nat × Value)} {st : List Value} {ws : va_W} {cc : ByteArray} {own : String} {cI : ClassId} {cZ : ClassId} {z : Nat → Nat} {i : Fin 2} {v : Int64} (F : JF X cc own cI cZ z) (hd : decode cc pc = .ok (.lconst i, 1)) (hv : Int64.ofNat (i : Nat) = v) (hn : pc + 1 = pc') (kk : J X b k n pc' lv (.long v :: st) ws) : J X b k n pc lv (st) ws := by
  obtain ⟨p, l, e, R, s, m, args, below, meth, c, Q, A, D, nL⟩ := X
  obtain ⟨hx, hb, hml, hown, hts, hlk, hK, hZ⟩ := F
  subst hn
  exact fun H locs ls hI hl => lv_lconst hx hb hd hv (kk H locs ls hI hl)
theorem J_ldc {X : jX} {b : Bool} {k : Nat} {n : Nat} {pc : Nat} {pc' : Nat} {lv : List (Nat × Value)} {st : List Value} {ws : va_W} {cc : ByteArray} {own : String} {cI : ClassId} {cZ : ClassId} {z : Nat → Nat} {i : Nat} {v : Int32} (F : JF X cc own cI cZ z) (hd : decode cc pc = .ok (.ldc i, 2)) (hm : Cond.constant own i v ∈ wsG) (hn : pc + 2 = pc') (kk : J X b k n pc' lv (.int v :: st) ws) : J X b k n pc lv st ws := by
  obtain ⟨p, l, e, R, s, m, args, below, meth, c, Q, A, D, nL⟩ := X
  obtain ⟨hx, hb, hml, hown, hts, hlk, hK, hZ⟩ := F
  subst hn
  exact fun H locs ls hI hl => lv_ldc hx hb hown (hts _ hm) hd (kk H locs ls hI hl)
theorem J_ldc2 {X : jX} {b : Bool} {k : Nat} {n : Nat} {pc : Nat} {pc' : Nat} {lv : List (Nat × Value)} {st : List Value} {ws : va_W} {cc : ByteArray} {own : String} {cI : ClassId} {cZ : ClassId} {z : Nat → Nat} {i : Nat} {v : Int64} (F : JF X cc own cI cZ z) (hd : decode cc pc = .ok (.ldc2_w i, 3)) (hm : Cond.constantLong own i v ∈ wsG) (hn : pc + 3 = pc') (kk : J X b k n pc' lv (.long v :: st) ws) : J X b k n pc lv st ws := by
  obtain ⟨p, l, e, R, s, m, args, below, meth, c, Q, A, D, nL⟩ := X
  obtain ⟨hx, hb, hml, hown, hts, hlk, hK, hZ⟩ := F
  subst hn
  exact fun H locs ls hI hl => lv_ldc2 hx hb hown (hts _ hm) hd (kk H locs ls hI hl)
theorem J_iload_n {X : jX} {b : Bool} {k : Nat} {n : Nat} {pc : Nat} {pc' : Nat} {lv : List (Nat × Value)} {st : List Value} {ws : va_W} {cc : ByteArray} {own : String} {cI : ClassId} {cZ : ClassId} {z : Nat → Nat} {i : Fin 4} {q : Nat} {x : Int32} (F : JF X cc own cI cZ z) (hd : decode cc pc = .ok (.iload_n i, 1)) (hq : lv[q]? = some ((i : Nat), .int x)) (hn : pc + 1 = pc') (kk : J X b k n pc' lv (.int x :: st) ws) : J X b k n pc lv st ws := by
  obtain ⟨p, l, e, R, s, m, args, below, meth, c, Q, A, D, nL⟩ := X
  obtain ⟨hx, hb, hml, hown, hts, hlk, hK, hZ⟩ := F
  subst hn
  exact fun H locs ls hI hl => lv_iload_n hx hb hd rfl (lv_at hl q hq) (kk H locs ls hI hl)
theorem J_iload {X : jX} {b : Bool} {k : Nat} {n : Nat} {pc : Nat} {pc' : Nat} {lv : List (Nat × Value)} {st : List Value} {ws : va_W} {cc : ByteArray} {own : String} {cI : ClassId} {cZ : ClassId} {z : Nat → Nat} {i q : Nat} {x : Int32} (F : JF X cc own cI cZ z) (hd : decode cc pc = .ok (.iload i, 2)) (hq : lv[q]? = some (i, .int x)) (hn : pc + 2 = pc') (kk : J X b k n pc' lv (.int x :: st) ws) : J X b k n pc lv st ws := by
  obtain ⟨p, l, e, R, s, m, args, below, meth, c, Q, A, D, nL⟩ := X
  obtain ⟨hx, hb, hml, hown, hts, hlk, hK, hZ⟩ := F
  subst hn
  exact fun H locs ls hI hl => lv_iload hx hb hd (lv_at hl q hq) (kk H locs ls hI hl)
theorem J_lload_n {X : jX} {b : Bool} {k : Nat} {n : Nat} {pc : Nat} {pc' : Nat} {lv : List (Nat × Value)} {st : List Value} {ws : va_W} {cc : ByteArray} {own : String} {cI : ClassId} {cZ : ClassId} {z : Nat → Nat} {i : Fin 4} {q : Nat} {x : Int64} (F : JF X cc own cI cZ z) (hd : decode cc pc = .ok (.lload_n i, 1)) (hq : lv[q]? = some ((i : Nat), .long x)) (hn : pc + 1 = pc') (kk : J X b k n pc' lv (.long x :: st) ws) : J X b k n pc lv st ws := by
  obtain ⟨p, l, e, R, s, m, args, below, meth, c, Q, A, D, nL⟩ := X
  obtain ⟨hx, hb, hml, hown, hts, hlk, hK, hZ⟩ := F
  subst hn
  exact fun H locs ls hI hl => lv_lload_n hx hb hd rfl (lv_at hl q hq) (kk H locs ls hI hl)
theorem J_lload {X : jX} {b : Bool} {k : Nat} {n : Nat} {pc : Nat} {pc' : Nat} {lv : List (Nat × Value)} {st : List Value} {ws : va_W} {cc : ByteArray} {own : String} {cI : ClassId} {cZ : ClassId} {z : Nat → Nat} {i q : Nat} {x : Int64} (F : JF X cc own cI cZ z) (hd : decode cc pc = .ok (.lload i, 2)) (hq : lv[q]? = some (i, .long x)) (hn : pc + 2 = pc') (kk : J X b k n pc' lv (.long x :: st) ws) : J X b k n pc lv st ws := by
  obtain ⟨p, l, e, R, s, m, args, below, meth, c, Q, A, D, nL⟩ := X
  obtain ⟨hx, hb, hml, hown, hts, hlk, hK, hZ⟩ := F
  subst hn
  exact fun H locs ls hI hl => lv_lload hx hb hd (lv_at hl q hq) (kk H locs ls hI hl)
theorem J_aload_n {X : jX} {b : Bool} {k : Nat} {n : Nat} {pc : Nat} {pc' : Nat} {lv : List (Nat × Value)} {st : List Value} {ws : va_W} {cc : ByteArray} {own : String} {cI : ClassId} {cZ : ClassId} {z : Nat → Nat} {i : Fin 4} {q : Nat} {x : Nat} (F : JF X cc own cI cZ z) (hd : decode cc pc = .ok (.aload_n i, 1)) (hq : lv[q]? = some ((i : Nat), .ref x)) (hn : pc + 1 = pc') (kk : J X b k n pc' lv (.ref x :: st) ws) : J X b k n pc lv st ws := by
  obtain ⟨p, l, e, R, s, m, args, below, meth, c, Q, A, D, nL⟩ := X
  obtain ⟨hx, hb, hml, hown, hts, hlk, hK, hZ⟩ := F
  subst hn
  exact fun H locs ls hI hl => lv_aload_n hx hb hd rfl (lv_at hl q hq) (kk H locs ls hI hl)
theorem J_aload {X : jX} {b : Bool} {k : Nat} {n : Nat} {pc : Nat} {pc' : Nat} {lv : List (Nat × Value)} {st : List Value} {ws : va_W} {cc : ByteArray} {own : String} {cI : ClassId} {cZ : ClassId} {z : Nat → Nat} {i q : Nat} {x : Nat} (F : JF X cc own cI cZ z) (hd : decode cc pc = .ok (.aload i, 2)) (hq : lv[q]? = some (i, .ref x)) (hn : pc + 2 = pc') (kk : J X b k n pc' lv (.ref x :: st) ws) : J X b k n pc lv st ws := by
  obtain ⟨p, l, e, R, s, m, args, below, meth, c, Q, A, D, nL⟩ := X
  obtain ⟨hx, hb, hml, hown, hts, hlk, hK, hZ⟩ := F
  subst hn
  exact fun H locs ls hI hl => lv_aload hx hb hd (lv_at hl q hq) (kk H locs ls hI hl)
theorem J_istore_n {X : jX} {b : Bool} {k : Nat} {n : Nat} {pc : Nat} {pc' : Nat} {lv : List (Nat × Value)} {st : List Value} {ws : va_W} {cc : ByteArray} {own : String} {cI : ClassId} {cZ : ClassId} {z : Nat → Nat} {i9 : Fin 4} {i : Nat} {x : Int32} (ks : List Nat) (lv' : List (Nat × Value)) (F : JF X cc own cI cZ z) (hd : decode cc pc = .ok (.istore_n i9, 1)) (hi : (i9 : Nat) = i) (hnl : jL X (fun nn => i < nn)) (hk : lv_pick ((i, Value.int x) :: lv.filter (fun q => !(q.1 == i) && !(q.1 + 1 == i && q.2.category == 2))) ks = lv') (hn : pc + 1 = pc') (kk : J X b k n pc' lv' st ws) : J X b k n pc lv (.int x :: st) ws := by
  obtain ⟨p, l, e, R, s, m, args, below, meth, c, Q, A, D, nL⟩ := X
  obtain ⟨hx, hb, hml, hown, hts, hlk, hK, hZ⟩ := F
  subst hn
  exact fun H locs ls hI hl => lv_istore_n hx hb hd hi hl hnl rfl (fun ls' hl' => kk H locs ls' hI (lv_sub hl' ks hk))
theorem J_istore {X : jX} {b : Bool} {k : Nat} {n : Nat} {pc : Nat} {pc' : Nat} {lv : List (Nat × Value)} {st : List Value} {ws : va_W} {cc : ByteArray} {own : String} {cI : ClassId} {cZ : ClassId} {z : Nat → Nat} {i : Nat} {x : Int32} (ks : List Nat) (lv' : List (Nat × Value)) (F : JF X cc own cI cZ z) (hd : decode cc pc = .ok (.istore i, 2)) (hnl : jL X (fun nn => i < nn)) (hk : lv_pick ((i, Value.int x) :: lv.filter (fun q => !(q.1 == i) && !(q.1 + 1 == i && q.2.category == 2))) ks = lv') (hn : pc + 2 = pc') (kk : J X b k n pc' lv' st ws) : J X b k n pc lv (.int x :: st) ws := by
  obtain ⟨p, l, e, R, s, m, args, below, meth, c, Q, A, D, nL⟩ := X
  obtain ⟨hx, hb, hml, hown, hts, hlk, hK, hZ⟩ := F
  subst hn
  exact fun H locs ls hI hl => lv_istore hx hb hd hl hnl rfl (fun ls' hl' => kk H locs ls' hI (lv_sub hl' ks hk))
theorem J_astore_n {X : jX} {b : Bool} {k : Nat} {n : Nat} {pc : Nat} {pc' : Nat} {lv : List (Nat × Value)} {st : List Value} {ws : va_W} {cc : ByteArray} {own : String} {cI : ClassId} {cZ : ClassId} {z : Nat → Nat} {i9 : Fin 4} {i : Nat} {x : Nat} (ks : List Nat) (lv' : List (Nat × Value)) (F : JF X cc own cI cZ z) (hd : decode cc pc = .ok (.astore_n i9, 1)) (hi : (i9 : Nat) = i) (hnl : jL X (fun nn => i < nn)) (hk : lv_pick ((i, Value.ref x) :: lv.filter (fun q => !(q.1 == i) && !(q.1 + 1 == i && q.2.category == 2))) ks = lv') (hn : pc + 1 = pc') (kk : J X b k n pc' lv' st ws) : J X b k n pc lv (.ref x :: st) ws := by
  obtain ⟨p, l, e, R, s, m, args, below, meth, c, Q, A, D, nL⟩ := X
  obtain ⟨hx, hb, hml, hown, hts, hlk, hK, hZ⟩ := F
  subst hn
  exact fun H locs ls hI hl => lv_astore_n hx hb hd hi hl hnl rfl (fun ls' hl' => kk H locs ls' hI (lv_sub hl' ks hk))
theorem J_astore {X : jX} {b : Bool} {k : Nat} {n : Nat} {pc : Nat} {pc' : Nat} {lv : List (Nat × Value)} {st : List Value} {ws : va_W} {cc : ByteArray} {own : String} {cI : ClassId} {cZ : ClassId} {z : Nat → Nat} {i : Nat} {x : Nat} (ks : List Nat) (lv' : List (Nat × Value)) (F : JF X cc own cI cZ z) (hd : decode cc pc = .ok (.astore i, 2)) (hnl : jL X (fun nn => i < nn)) (hk : lv_pick ((i, Value.ref x) :: lv.filter (fun q => !(q.1 == i) && !(q.1 + 1 == i && q.2.category == 2))) ks = lv') (hn : pc + 2 = pc') (kk : J X b k n pc' lv' st ws) : J X b k n pc lv (.ref x :: st) ws := by
  obtain ⟨p, l, e, R, s, m, args, below, meth, c, Q, A, D, nL⟩ := X
  obtain ⟨hx, hb, hml, hown, hts, hlk, hK, hZ⟩ := F
  subst hn
  exact fun H locs ls hI hl => lv_astore hx hb hd hl hnl rfl (fun ls' hl' => kk H locs ls' hI (lv_sub hl' ks hk))
theorem J_lstore_n {X : jX} {b : Bool} {k : Nat} {n : Nat} {pc : Nat} {pc' : Nat} {lv : List (Nat × Value)} {st : List Value} {ws : va_W} {cc : ByteArray} {own : String} {cI : ClassId} {cZ : ClassId} {z : Nat → Nat} {i9 : Fin 4} {i : Nat} {x : Int64} (ks : List Nat) (lv' : List (Nat × Value)) (F : JF X cc own cI cZ z) (hd : decode cc pc = .ok (.lstore_n i9, 1)) (hi : (i9 : Nat) = i) (hnl : jL X (fun nn => i + 1 < nn)) (hk : lv_pick ((i, Value.long x) :: lv.filter (fun q => !(q.1 == i) && (!(q.1 == i + 1) && !(q.1 + 1 == i && q.2.category == 2)))) ks = lv') (hn : pc + 1 = pc') (kk : J X b k n pc' lv' st ws) : J X b k n pc lv (.long x :: st) ws := by
  obtain ⟨p, l, e, R, s, m, args, below, meth, c, Q, A, D, nL⟩ := X
  obtain ⟨hx, hb, hml, hown, hts, hlk, hK, hZ⟩ := F
  subst hn
  exact fun H locs ls hI hl => lv_lstore_n hx hb hd hi hl hnl rfl (fun ls' hl' => kk H locs ls' hI (lv_sub hl' ks hk))
theorem J_lstore {X : jX} {b : Bool} {k : Nat} {n : Nat} {pc : Nat} {pc' : Nat} {lv : List (Nat × Value)} {st : List Value} {ws : va_W} {cc : ByteArray} {own : String} {cI : ClassId} {cZ : ClassId} {z : Nat → Nat} {i : Nat} {x : Int64} (ks : List Nat) (lv' : List (Nat × Value)) (F : JF X cc own cI cZ z) (hd : decode cc pc = .ok (.lstore i, 2)) (hnl : jL X (fun nn => i + 1 < nn)) (hk : lv_pick ((i, Value.long x) :: lv.filter (fun q => !(q.1 == i) && (!(q.1 == i + 1) && !(q.1 + 1 == i && q.2.category == 2)))) ks = lv') (hn : pc + 2 = pc') (kk : J X b k n pc' lv' st ws) : J X b k n pc lv (.long x :: st) ws := by
  obtain ⟨p, l, e, R, s, m, args, below, meth, c, Q, A, D, nL⟩ := X
  obtain ⟨hx, hb, hml, hown, hts, hlk, hK, hZ⟩ := F
  subst hn
  exact fun H locs ls hI hl => lv_lstore hx hb hd hl hnl rfl (fun ls' hl' => kk H locs ls' hI (lv_sub hl' ks hk))
theorem J_iinc {X : jX} {b : Bool} {k : Nat} {n : Nat} {pc : Nat} {pc' : Nat} {lv : List (Nat × Value)} {st : List Value} {ws : va_W} {cc : ByteArray} {own : String} {cI : ClassId} {cZ : ClassId} {z : Nat → Nat} {i q : Nat} {j : Int} {x v : Int32} (ks : List Nat) (lv' : List (Nat × Value)) (F : JF X cc own cI cZ z) (hd : decode cc pc = .ok (.iinc i j, 3)) (hq : lv[q]? = some (i, .int x)) (hv : x + Int32.ofInt j = v) (hnl : jL X (fun nn => i < nn)) (hk : lv_pick ((i, Value.int v) :: lv.filter (fun q => !(q.1 == i) && !(q.1 + 1 == i && q.2.category == 2))) ks = lv') (hn : pc + 3 = pc') (kk : J X b k n pc' lv' st ws) : J X b k n pc lv st ws := by
  obtain ⟨p, l, e, R, s, m, args, below, meth, c, Q, A, D, nL⟩ := X
  obtain ⟨hx, hb, hml, hown, hts, hlk, hK, hZ⟩ := F
  subst hn
  exact fun H locs ls hI hl => lv_iinc hx hb hd hl hq hv hnl rfl (fun ls' hl' => kk H locs ls' hI (lv_sub hl' ks hk))
theorem J_iadd {X : jX} {b : Bool} {k : Nat} {n : Nat} {pc : Nat} {pc' : Nat} {lv : List (Nat × Value)} {st : List Value} {ws : va_W} {cc : ByteArray} {own : String} {cI : ClassId} {cZ : ClassId} {z : Nat → Nat} {x y : Int32} (F : JF X cc own cI cZ z) (hd : decode cc pc = .ok (.iadd, 1))  (hn : pc + 1 = pc') (kk : J X b k n pc' lv (.int (x + y) :: st) ws) : J X b k n pc lv (.int y :: .int x :: st) ws := by
  obtain ⟨p, l, e, R, s, m, args, below, meth, c, Q, A, D, nL⟩ := X
  obtain ⟨hx, hb, hml, hown, hts, hlk, hK, hZ⟩ := F
  subst hn
  exact fun H locs ls hI hl => lv_iadd hx hb hd  (kk H locs ls hI hl)
theorem J_isub {X : jX} {b : Bool} {k : Nat} {n : Nat} {pc : Nat} {pc' : Nat} {lv : List (Nat × Value)} {st : List Value} {ws : va_W} {cc : ByteArray} {own : String} {cI : ClassId} {cZ : ClassId} {z : Nat → Nat} {x y : Int32} (F : JF X cc own cI cZ z) (hd : decode cc pc = .ok (.isub, 1))  (hn : pc + 1 = pc') (kk : J X b k n pc' lv (.int (x - y) :: st) ws) : J X b k n pc lv (.int y :: .int x :: st) ws := by
  obtain ⟨p, l, e, R, s, m, args, below, meth, c, Q, A, D, nL⟩ := X
  obtain ⟨hx, hb, hml, hown, hts, hlk, hK, hZ⟩ := F
  subst hn
  exact fun H locs ls hI hl => lv_isub hx hb hd  (kk H locs ls hI hl)
theorem J_imul {X : jX} {b : Bool} {k : Nat} {n : Nat} {pc : Nat} {pc' : Nat} {lv : List (Nat × Value)} {st : List Value} {ws : va_W} {cc : ByteArray} {own : String} {cI : ClassId} {cZ : ClassId} {z : Nat → Nat} {x y : Int32} (F : JF X cc own cI cZ z) (hd : decode cc pc = .ok (.imul, 1))  (hn : pc + 1 = pc') (kk : J X b k n pc' lv (.int (x * y) :: st) ws) : J X b k n pc lv (.int y :: .int x :: st) ws := by
  obtain ⟨p, l, e, R, s, m, args, below, meth, c, Q, A, D, nL⟩ := X
  obtain ⟨hx, hb, hml, hown, hts, hlk, hK, hZ⟩ := F
  subst hn
  exact fun H locs ls hI hl => lv_imul hx hb hd  (kk H locs ls hI hl)
theorem J_iand {X : jX} {b : Bool} {k : Nat} {n : Nat} {pc : Nat} {pc' : Nat} {lv : List (Nat × Value)} {st : List Value} {ws : va_W} {cc : ByteArray} {own : String} {cI : ClassId} {cZ : ClassId} {z : Nat → Nat} {x y : Int32} (F : JF X cc own cI cZ z) (hd : decode cc pc = .ok (.iand, 1))  (hn : pc + 1 = pc') (kk : J X b k n pc' lv (.int (x &&& y) :: st) ws) : J X b k n pc lv (.int y :: .int x :: st) ws := by
  obtain ⟨p, l, e, R, s, m, args, below, meth, c, Q, A, D, nL⟩ := X
  obtain ⟨hx, hb, hml, hown, hts, hlk, hK, hZ⟩ := F
  subst hn
  exact fun H locs ls hI hl => lv_iand hx hb hd  (kk H locs ls hI hl)
theorem J_ior {X : jX} {b : Bool} {k : Nat} {n : Nat} {pc : Nat} {pc' : Nat} {lv : List (Nat × Value)} {st : List Value} {ws : va_W} {cc : ByteArray} {own : String} {cI : ClassId} {cZ : ClassId} {z : Nat → Nat} {x y : Int32} (F : JF X cc own cI cZ z) (hd : decode cc pc = .ok (.ior, 1))  (hn : pc + 1 = pc') (kk : J X b k n pc' lv (.int (x ||| y) :: st) ws) : J X b k n pc lv (.int y :: .int x :: st) ws := by
  obtain ⟨p, l, e, R, s, m, args, below, meth, c, Q, A, D, nL⟩ := X
  obtain ⟨hx, hb, hml, hown, hts, hlk, hK, hZ⟩ := F
  subst hn
  exact fun H locs ls hI hl => lv_ior hx hb hd  (kk H locs ls hI hl)
theorem J_ixor {X : jX} {b : Bool} {k : Nat} {n : Nat} {pc : Nat} {pc' : Nat} {lv : List (Nat × Value)} {st : List Value} {ws : va_W} {cc : ByteArray} {own : String} {cI : ClassId} {cZ : ClassId} {z : Nat → Nat} {x y : Int32} (F : JF X cc own cI cZ z) (hd : decode cc pc = .ok (.ixor, 1))  (hn : pc + 1 = pc') (kk : J X b k n pc' lv (.int (x ^^^ y) :: st) ws) : J X b k n pc lv (.int y :: .int x :: st) ws := by
  obtain ⟨p, l, e, R, s, m, args, below, meth, c, Q, A, D, nL⟩ := X
  obtain ⟨hx, hb, hml, hown, hts, hlk, hK, hZ⟩ := F
  subst hn
  exact fun H locs ls hI hl => lv_ixor hx hb hd  (kk H locs ls hI hl)
theorem J_ishl {X : jX} {b : Bool} {k : Nat} {n : Nat} {pc : Nat} {pc' : Nat} {lv : List (Nat × Value)} {st : List Value} {ws : va_W} {cc : ByteArray} {own : String} {cI : ClassId} {cZ : ClassId} {z : Nat → Nat} {x y : Int32} (F : JF X cc own cI cZ z) (hd : decode cc pc = .ok (.ishl, 1))  (hn : pc + 1 = pc') (kk : J X b k n pc' lv (.int (x <<< (y &&& 31)) :: st) ws) : J X b k n pc lv (.int y :: .int x :: st) ws := by
  obtain ⟨p, l, e, R, s, m, args, below, meth, c, Q, A, D, nL⟩ := X
  obtain ⟨hx, hb, hml, hown, hts, hlk, hK, hZ⟩ := F
  subst hn
  exact fun H locs ls hI hl => lv_ishl hx hb hd  (kk H locs ls hI hl)
theorem J_ishr {X : jX} {b : Bool} {k : Nat} {n : Nat} {pc : Nat} {pc' : Nat} {lv : List (Nat × Value)} {st : List Value} {ws : va_W} {cc : ByteArray} {own : String} {cI : ClassId} {cZ : ClassId} {z : Nat → Nat} {x y : Int32} (F : JF X cc own cI cZ z) (hd : decode cc pc = .ok (.ishr, 1))  (hn : pc + 1 = pc') (kk : J X b k n pc' lv (.int (x >>> (y &&& 31)) :: st) ws) : J X b k n pc lv (.int y :: .int x :: st) ws := by
  obtain ⟨p, l, e, R, s, m, args, below, meth, c, Q, A, D, nL⟩ := X
  obtain ⟨hx, hb, hml, hown, hts, hlk, hK, hZ⟩ := F
  subst hn
  exact fun H locs ls hI hl => lv_ishr hx hb hd  (kk H locs ls hI hl)
theorem J_idiv {X : jX} {b : Bool} {k : Nat} {n : Nat} {pc : Nat} {pc' : Nat} {lv : List (Nat × Value)} {st : List Value} {ws : va_W} {cc : ByteArray} {own : String} {cI : ClassId} {cZ : ClassId} {z : Nat → Nat} {x y : Int32} (F : JF X cc own cI cZ z) (hd : decode cc pc = .ok (.idiv, 1)) (hne : ¬ y = 0) (hn : pc + 1 = pc') (kk : J X b k n pc' lv (.int (x / y) :: st) ws) : J X b k n pc lv (.int y :: .int x :: st) ws := by
  obtain ⟨p, l, e, R, s, m, args, below, meth, c, Q, A, D, nL⟩ := X
  obtain ⟨hx, hb, hml, hown, hts, hlk, hK, hZ⟩ := F
  subst hn
  exact fun H locs ls hI hl => lv_idiv hx hb hd hne (kk H locs ls hI hl)
theorem J_irem {X : jX} {b : Bool} {k : Nat} {n : Nat} {pc : Nat} {pc' : Nat} {lv : List (Nat × Value)} {st : List Value} {ws : va_W} {cc : ByteArray} {own : String} {cI : ClassId} {cZ : ClassId} {z : Nat → Nat} {x y : Int32} (F : JF X cc own cI cZ z) (hd : decode cc pc = .ok (.irem, 1)) (hne : ¬ y = 0) (hn : pc + 1 = pc') (kk : J X b k n pc' lv (.int (x - x / y * y) :: st) ws) : J X b k n pc lv (.int y :: .int x :: st) ws := by
  obtain ⟨p, l, e, R, s, m, args, below, meth, c, Q, A, D, nL⟩ := X
  obtain ⟨hx, hb, hml, hown, hts, hlk, hK, hZ⟩ := F
  subst hn
  exact fun H locs ls hI hl => lv_irem hx hb hd hne (kk H locs ls hI hl)
theorem J_ineg {X : jX} {b : Bool} {k : Nat} {n : Nat} {pc : Nat} {pc' : Nat} {lv : List (Nat × Value)} {st : List Value} {ws : va_W} {cc : ByteArray} {own : String} {cI : ClassId} {cZ : ClassId} {z : Nat → Nat} {x : Int32} (F : JF X cc own cI cZ z) (hd : decode cc pc = .ok (.ineg, 1))  (hn : pc + 1 = pc') (kk : J X b k n pc' lv (.int (-x) :: st) ws) : J X b k n pc lv (.int x :: st) ws := by
  obtain ⟨p, l, e, R, s, m, args, below, meth, c, Q, A, D, nL⟩ := X
  obtain ⟨hx, hb, hml, hown, hts, hlk, hK, hZ⟩ := F
  subst hn
  exact fun H locs ls hI hl => lv_ineg hx hb hd  (kk H locs ls hI hl)
theorem J_ladd {X : jX} {b : Bool} {k : Nat} {n : Nat} {pc : Nat} {pc' : Nat} {lv : List (Nat × Value)} {st : List Value} {ws : va_W} {cc : ByteArray} {own : String} {cI : ClassId} {cZ : ClassId} {z : Nat → Nat} {x y : Int64} (F : JF X cc own cI cZ z) (hd : decode cc pc = .ok (.ladd, 1))  (hn : pc + 1 = pc') (kk : J X b k n pc' lv (.long (x + y) :: st) ws) : J X b k n pc lv (.long y :: .long x :: st) ws := by
  obtain ⟨p, l, e, R, s, m, args, below, meth, c, Q, A, D, nL⟩ := X
  obtain ⟨hx, hb, hml, hown, hts, hlk, hK, hZ⟩ := F
  subst hn
  exact fun H locs ls hI hl => lv_ladd hx hb hd  (kk H locs ls hI hl)
theorem J_lsub {X : jX} {b : Bool} {k : Nat} {n : Nat} {pc : Nat} {pc' : Nat} {lv : List (Nat × Value)} {st : List Value} {ws : va_W} {cc : ByteArray} {own : String} {cI : ClassId} {cZ : ClassId} {z : Nat → Nat} {x y : Int64} (F : JF X cc own cI cZ z) (hd : decode cc pc = .ok (.lsub, 1))  (hn : pc + 1 = pc') (kk : J X b k n pc' lv (.long (x - y) :: st) ws) : J X b k n pc lv (.long y :: .long x :: st) ws := by
  obtain ⟨p, l, e, R, s, m, args, below, meth, c, Q, A, D, nL⟩ := X
  obtain ⟨hx, hb, hml, hown, hts, hlk, hK, hZ⟩ := F
  subst hn
  exact fun H locs ls hI hl => lv_lsub hx hb hd  (kk H locs ls hI hl)
theorem J_lmul {X : jX} {b : Bool} {k : Nat} {n : Nat} {pc : Nat} {pc' : Nat} {lv : List (Nat × Value)} {st : List Value} {ws : va_W} {cc : ByteArray} {own : String} {cI : ClassId} {cZ : ClassId} {z : Nat → Nat} {x y : Int64} (F : JF X cc own cI cZ z) (hd : decode cc pc = .ok (.lmul, 1))  (hn : pc + 1 = pc') (kk : J X b k n pc' lv (.long (x * y) :: st) ws) : J X b k n pc lv (.long y :: .long x :: st) ws := by
  obtain ⟨p, l, e, R, s, m, args, below, meth, c, Q, A, D, nL⟩ := X
  obtain ⟨hx, hb, hml, hown, hts, hlk, hK, hZ⟩ := F
  subst hn
  exact fun H locs ls hI hl => lv_lmul hx hb hd  (kk H locs ls hI hl)
theorem J_land {X : jX} {b : Bool} {k : Nat} {n : Nat} {pc : Nat} {pc' : Nat} {lv : List (Nat × Value)} {st : List Value} {ws : va_W} {cc : ByteArray} {own : String} {cI : ClassId} {cZ : ClassId} {z : Nat → Nat} {x y : Int64} (F : JF X cc own cI cZ z) (hd : decode cc pc = .ok (.land, 1))  (hn : pc + 1 = pc') (kk : J X b k n pc' lv (.long (x &&& y) :: st) ws) : J X b k n pc lv (.long y :: .long x :: st) ws := by
  obtain ⟨p, l, e, R, s, m, args, below, meth, c, Q, A, D, nL⟩ := X
  obtain ⟨hx, hb, hml, hown, hts, hlk, hK, hZ⟩ := F
  subst hn
  exact fun H locs ls hI hl => lv_land hx hb hd  (kk H locs ls hI hl)
theorem J_lrem {X : jX} {b : Bool} {k : Nat} {n : Nat} {pc : Nat} {pc' : Nat} {lv : List (Nat × Value)} {st : List Value} {ws : va_W} {cc : ByteArray} {own : String} {cI : ClassId} {cZ : ClassId} {z : Nat → Nat} {x y : Int64} (F : JF X cc own cI cZ z) (hd : decode cc pc = .ok (.lrem, 1)) (hne : ¬ y = 0) (hn : pc + 1 = pc') (kk : J X b k n pc' lv (.long (x - x / y * y) :: st) ws) : J X b k n pc lv (.long y :: .long x :: st) ws := by
  obtain ⟨p, l, e, R, s, m, args, below, meth, c, Q, A, D, nL⟩ := X
  obtain ⟨hx, hb, hml, hown, hts, hlk, hK, hZ⟩ := F
  subst hn
  exact fun H locs ls hI hl => lv_lrem hx hb hd hne (kk H locs ls hI hl)
theorem J_lcmp {X : jX} {b : Bool} {k : Nat} {n : Nat} {pc : Nat} {pc' : Nat} {lv : List (Nat × Value)} {st : List Value} {ws : va_W} {cc : ByteArray} {own : String} {cI : ClassId} {cZ : ClassId} {z : Nat → Nat} {x y : Int64} (F : JF X cc own cI cZ z) (hd : decode cc pc = .ok (.lcmp, 1))  (hn : pc + 1 = pc') (kk : J X b k n pc' lv (.int (lg_cmp x y) :: st) ws) : J X b k n pc lv (.long y :: .long x :: st) ws := by
  obtain ⟨p, l, e, R, s, m, args, below, meth, c, Q, A, D, nL⟩ := X
  obtain ⟨hx, hb, hml, hown, hts, hlk, hK, hZ⟩ := F
  subst hn
  exact fun H locs ls hI hl => W.lcmp hx hb hd  (kk H locs ls hI hl)
theorem J_iushr {X : jX} {b : Bool} {k : Nat} {n : Nat} {pc : Nat} {pc' : Nat} {lv : List (Nat × Value)} {st : List Value} {ws : va_W} {cc : ByteArray} {own : String} {cI : ClassId} {cZ : ClassId} {z : Nat → Nat} {x y v : Int32} (F : JF X cc own cI cZ z) (hd : decode cc pc = .ok (.iushr, 1)) (hv : (x.toUInt32 >>> (y.toUInt32 &&& Int32.toUInt32 31)).toInt32 = v) (hn : pc + 1 = pc') (kk : J X b k n pc' lv (.int v :: st) ws) : J X b k n pc lv (.int y :: .int x :: st) ws := by
  obtain ⟨p, l, e, R, s, m, args, below, meth, c, Q, A, D, nL⟩ := X
  obtain ⟨hx, hb, hml, hown, hts, hlk, hK, hZ⟩ := F
  subst hn
  exact fun H locs ls hI hl => lv_iushr hx hb hd hv (kk H locs ls hI hl)
theorem J_i2l {X : jX} {b : Bool} {k : Nat} {n : Nat} {pc : Nat} {pc' : Nat} {lv : List (Nat × Value)} {st : List Value} {ws : va_W} {cc : ByteArray} {own : String} {cI : ClassId} {cZ : ClassId} {z : Nat → Nat} {x : Int32} {v : Int64} (F : JF X cc own cI cZ z) (hd : decode cc pc = .ok (.i2l, 1)) (hv : x.toInt64 = v) (hn : pc + 1 = pc') (kk : J X b k n pc' lv (.long v :: st) ws) : J X b k n pc lv (.int x :: st) ws := by
  obtain ⟨p, l, e, R, s, m, args, below, meth, c, Q, A, D, nL⟩ := X
  obtain ⟨hx, hb, hml, hown, hts, hlk, hK, hZ⟩ := F
  subst hn
  exact fun H locs ls hI hl => lv_i2l hx hb hd hv (kk H locs ls hI hl)
theorem J_l2i {X : jX} {b : Bool} {k : Nat} {n : Nat} {pc : Nat} {pc' : Nat} {lv : List (Nat × Value)} {st : List Value} {ws : va_W} {cc : ByteArray} {own : String} {cI : ClassId} {cZ : ClassId} {z : Nat → Nat} {x : Int64} {v : Int32} (F : JF X cc own cI cZ z) (hd : decode cc pc = .ok (.l2i, 1)) (hv : x.toInt32 = v) (hn : pc + 1 = pc') (kk : J X b k n pc' lv (.int v :: st) ws) : J X b k n pc lv (.long x :: st) ws := by
  obtain ⟨p, l, e, R, s, m, args, below, meth, c, Q, A, D, nL⟩ := X
  obtain ⟨hx, hb, hml, hown, hts, hlk, hK, hZ⟩ := F
  subst hn
  exact fun H locs ls hI hl => lv_l2i hx hb hd hv (kk H locs ls hI hl)
theorem J_i2c {X : jX} {b : Bool} {k : Nat} {n : Nat} {pc : Nat} {pc' : Nat} {lv : List (Nat × Value)} {st : List Value} {ws : va_W} {cc : ByteArray} {own : String} {cI : ClassId} {cZ : ClassId} {z : Nat → Nat} {x : Int32} {v : Int32} (F : JF X cc own cI cZ z) (hd : decode cc pc = .ok (.i2c, 1)) (hv : (x.toUInt32 % 65536).toInt32 = v) (hn : pc + 1 = pc') (kk : J X b k n pc' lv (.int v :: st) ws) : J X b k n pc lv (.int x :: st) ws := by
  obtain ⟨p, l, e, R, s, m, args, below, meth, c, Q, A, D, nL⟩ := X
  obtain ⟨hx, hb, hml, hown, hts, hlk, hK, hZ⟩ := F
  subst hn
  exact fun H locs ls hI hl => lv_i2c hx hb hd hv (kk H locs ls hI hl)
theorem J_i2b {X : jX} {b : Bool} {k : Nat} {n : Nat} {pc : Nat} {pc' : Nat} {lv : List (Nat × Value)} {st : List Value} {ws : va_W} {cc : ByteArray} {own : String} {cI : ClassId} {cZ : ClassId} {z : Nat → Nat} {x : Int32} {v : Int32} (F : JF X cc own cI cZ z) (hd : decode cc pc = .ok (.i2b, 1)) (hv : x.toInt8.toInt32 = v) (hn : pc + 1 = pc') (kk : J X b k n pc' lv (.int v :: st) ws) : J X b k n pc lv (.int x :: st) ws := by
  obtain ⟨p, l, e, R, s, m, args, below, meth, c, Q, A, D, nL⟩ := X
  obtain ⟨hx, hb, hml, hown, hts, hlk, hK, hZ⟩ := F
  subst hn
  exact fun H locs ls hI hl => lv_i2b hx hb hd hv (kk H locs ls hI hl)
theorem J_dup {X : jX} {b : Bool} {k : Nat} {n : Nat} {pc : Nat} {pc' : Nat} {lv : List (Nat × Value)} {st : List Value} {ws : va_W} {cc : ByteArray} {own : String} {cI : ClassId} {cZ : ClassId} {z : Nat → Nat} {v : Value} (F : JF X cc own cI cZ z) (hd : decode cc pc = .ok (.dup, 1)) (hv : v.category = 1) (hn : pc + 1 = pc') (kk : J X b k n pc' lv (v :: v :: st) ws) : J X b k n pc lv (v :: st) ws := by
  obtain ⟨p, l, e, R, s, m, args, below, meth, c, Q, A, D, nL⟩ := X
  obtain ⟨hx, hb, hml, hown, hts, hlk, hK, hZ⟩ := F
  subst hn
  exact fun H locs ls hI hl => lv_dup hx hb hd hv (kk H locs ls hI hl)
theorem J_pop {X : jX} {b : Bool} {k : Nat} {n : Nat} {pc : Nat} {pc' : Nat} {lv : List (Nat × Value)} {st : List Value} {ws : va_W} {cc : ByteArray} {own : String} {cI : ClassId} {cZ : ClassId} {z : Nat → Nat} {v : Value} (F : JF X cc own cI cZ z) (hd : decode cc pc = .ok (.pop, 1)) (hv : v.category = 1) (hn : pc + 1 = pc') (kk : J X b k n pc' lv (st) ws) : J X b k n pc lv (v :: st) ws := by
  obtain ⟨p, l, e, R, s, m, args, below, meth, c, Q, A, D, nL⟩ := X
  obtain ⟨hx, hb, hml, hown, hts, hlk, hK, hZ⟩ := F
  subst hn
  exact fun H locs ls hI hl => lv_pop hx hb hd hv (kk H locs ls hI hl)
theorem J_dup2 {X : jX} {b : Bool} {k : Nat} {n : Nat} {pc : Nat} {pc' : Nat} {lv : List (Nat × Value)} {st : List Value} {ws : va_W} {cc : ByteArray} {own : String} {cI : ClassId} {cZ : ClassId} {z : Nat → Nat} {v w : Value} (F : JF X cc own cI cZ z) (hd : decode cc pc = .ok (.dup2, 1)) (hv : v.category = 1) (hw : w.category = 1) (hn : pc + 1 = pc') (kk : J X b k n pc' lv (v :: w :: v :: w :: st) ws) : J X b k n pc lv (v :: w :: st) ws := by
  obtain ⟨p, l, e, R, s, m, args, below, meth, c, Q, A, D, nL⟩ := X
  obtain ⟨hx, hb, hml, hown, hts, hlk, hK, hZ⟩ := F
  subst hn
  exact fun H locs ls hI hl => lv_dup2_11 hx hb hd hv hw (kk H locs ls hI hl)
theorem J_if_eq {X : jX} {b : Bool} {k : Nat} {n : Nat} {pc : Nat} {pc' : Nat} {lv : List (Nat × Value)} {st : List Value} {ws : va_W} {cc : ByteArray} {own : String} {cI : ClassId} {cZ : ClassId} {z : Nat → Nat} {x : Int32} {off : Int} {tgt : Nat} (F : JF X cc own cI cZ z) (hd : decode cc pc = .ok (.ifCond .eq off, 3)) (ht : (pc : Int) + off = (tgt : Int)) (hn : pc + 3 = pc') (kt : x = 0 → J X b k n tgt lv st ws) (kf : ¬ (x = 0) → J X b k n pc' lv st ws) : J X b k n pc lv (.int x :: st) ws := by
  obtain ⟨p, l, e, R, s, m, args, below, meth, c, Q, A, D, nL⟩ := X
  obtain ⟨hx, hb, hml, hown, hts, hlk, hK, hZ⟩ := F
  subst hn
  exact fun H locs ls hI hl => lv_if_eq hx hb hd ht (fun h => kt h H locs ls hI hl) (fun h => kf h H locs ls hI hl)
theorem J_icmp_eq {X : jX} {b : Bool} {k : Nat} {n : Nat} {pc : Nat} {pc' : Nat} {lv : List (Nat × Value)} {st : List Value} {ws : va_W} {cc : ByteArray} {own : String} {cI : ClassId} {cZ : ClassId} {z : Nat → Nat} {x y : Int32} {off : Int} {tgt : Nat} (F : JF X cc own cI cZ z) (hd : decode cc pc = .ok (.if_icmp .eq off, 3)) (ht : (pc : Int) + off = (tgt : Int)) (hn : pc + 3 = pc') (kt : x = y → J X b k n tgt lv st ws) (kf : ¬ (x = y) → J X b k n pc' lv st ws) : J X b k n pc lv (.int y :: .int x :: st) ws := by
  obtain ⟨p, l, e, R, s, m, args, below, meth, c, Q, A, D, nL⟩ := X
  obtain ⟨hx, hb, hml, hown, hts, hlk, hK, hZ⟩ := F
  subst hn
  exact fun H locs ls hI hl => lv_icmp_eq hx hb hd ht (fun h => kt h H locs ls hI hl) (fun h => kf h H locs ls hI hl)
theorem J_if_ne {X : jX} {b : Bool} {k : Nat} {n : Nat} {pc : Nat} {pc' : Nat} {lv : List (Nat × Value)} {st : List Value} {ws : va_W} {cc : ByteArray} {own : String} {cI : ClassId} {cZ : ClassId} {z : Nat → Nat} {x : Int32} {off : Int} {tgt : Nat} (F : JF X cc own cI cZ z) (hd : decode cc pc = .ok (.ifCond .ne off, 3)) (ht : (pc : Int) + off = (tgt : Int)) (hn : pc + 3 = pc') (kt : ¬ x = 0 → J X b k n tgt lv st ws) (kf : x = 0 → J X b k n pc' lv st ws) : J X b k n pc lv (.int x :: st) ws := by
  obtain ⟨p, l, e, R, s, m, args, below, meth, c, Q, A, D, nL⟩ := X
  obtain ⟨hx, hb, hml, hown, hts, hlk, hK, hZ⟩ := F
  subst hn
  exact fun H locs ls hI hl => lv_if_ne hx hb hd ht (fun h => kt h H locs ls hI hl) (fun h => kf h H locs ls hI hl)
theorem J_icmp_ne {X : jX} {b : Bool} {k : Nat} {n : Nat} {pc : Nat} {pc' : Nat} {lv : List (Nat × Value)} {st : List Value} {ws : va_W} {cc : ByteArray} {own : String} {cI : ClassId} {cZ : ClassId} {z : Nat → Nat} {x y : Int32} {off : Int} {tgt : Nat} (F : JF X cc own cI cZ z) (hd : decode cc pc = .ok (.if_icmp .ne off, 3)) (ht : (pc : Int) + off = (tgt : Int)) (hn : pc + 3 = pc') (kt : ¬ x = y → J X b k n tgt lv st ws) (kf : x = y → J X b k n pc' lv st ws) : J X b k n pc lv (.int y :: .int x :: st) ws := by
  obtain ⟨p, l, e, R, s, m, args, below, meth, c, Q, A, D, nL⟩ := X
  obtain ⟨hx, hb, hml, hown, hts, hlk, hK, hZ⟩ := F
  subst hn
  exact fun H locs ls hI hl => lv_icmp_ne hx hb hd ht (fun h => kt h H locs ls hI hl) (fun h => kf h H locs ls hI hl)
theorem J_if_lt {X : jX} {b : Bool} {k : Nat} {n : Nat} {pc : Nat} {pc' : Nat} {lv : List (Nat × Value)} {st : List Value} {ws : va_W} {cc : ByteArray} {own : String} {cI : ClassId} {cZ : ClassId} {z : Nat → Nat} {x : Int32} {off : Int} {tgt : Nat} (F : JF X cc own cI cZ z) (hd : decode cc pc = .ok (.ifCond .lt off, 3)) (ht : (pc : Int) + off = (tgt : Int)) (hn : pc + 3 = pc') (kt : x < 0 → J X b k n tgt lv st ws) (kf : ¬ (x < 0) → J X b k n pc' lv st ws) : J X b k n pc lv (.int x :: st) ws := by
  obtain ⟨p, l, e, R, s, m, args, below, meth, c, Q, A, D, nL⟩ := X
  obtain ⟨hx, hb, hml, hown, hts, hlk, hK, hZ⟩ := F
  subst hn
  exact fun H locs ls hI hl => lv_if_lt hx hb hd ht (fun h => kt h H locs ls hI hl) (fun h => kf h H locs ls hI hl)
theorem J_icmp_lt {X : jX} {b : Bool} {k : Nat} {n : Nat} {pc : Nat} {pc' : Nat} {lv : List (Nat × Value)} {st : List Value} {ws : va_W} {cc : ByteArray} {own : String} {cI : ClassId} {cZ : ClassId} {z : Nat → Nat} {x y : Int32} {off : Int} {tgt : Nat} (F : JF X cc own cI cZ z) (hd : decode cc pc = .ok (.if_icmp .lt off, 3)) (ht : (pc : Int) + off = (tgt : Int)) (hn : pc + 3 = pc') (kt : x < y → J X b k n tgt lv st ws) (kf : ¬ (x < y) → J X b k n pc' lv st ws) : J X b k n pc lv (.int y :: .int x :: st) ws := by
  obtain ⟨p, l, e, R, s, m, args, below, meth, c, Q, A, D, nL⟩ := X
  obtain ⟨hx, hb, hml, hown, hts, hlk, hK, hZ⟩ := F
  subst hn
  exact fun H locs ls hI hl => lv_icmp_lt hx hb hd ht (fun h => kt h H locs ls hI hl) (fun h => kf h H locs ls hI hl)
theorem J_if_ge {X : jX} {b : Bool} {k : Nat} {n : Nat} {pc : Nat} {pc' : Nat} {lv : List (Nat × Value)} {st : List Value} {ws : va_W} {cc : ByteArray} {own : String} {cI : ClassId} {cZ : ClassId} {z : Nat → Nat} {x : Int32} {off : Int} {tgt : Nat} (F : JF X cc own cI cZ z) (hd : decode cc pc = .ok (.ifCond .ge off, 3)) (ht : (pc : Int) + off = (tgt : Int)) (hn : pc + 3 = pc') (kt : 0 ≤ x → J X b k n tgt lv st ws) (kf : ¬ (0 ≤ x) → J X b k n pc' lv st ws) : J X b k n pc lv (.int x :: st) ws := by
  obtain ⟨p, l, e, R, s, m, args, below, meth, c, Q, A, D, nL⟩ := X
  obtain ⟨hx, hb, hml, hown, hts, hlk, hK, hZ⟩ := F
  subst hn
  exact fun H locs ls hI hl => lv_if_ge hx hb hd ht (fun h => kt h H locs ls hI hl) (fun h => kf h H locs ls hI hl)
theorem J_icmp_ge {X : jX} {b : Bool} {k : Nat} {n : Nat} {pc : Nat} {pc' : Nat} {lv : List (Nat × Value)} {st : List Value} {ws : va_W} {cc : ByteArray} {own : String} {cI : ClassId} {cZ : ClassId} {z : Nat → Nat} {x y : Int32} {off : Int} {tgt : Nat} (F : JF X cc own cI cZ z) (hd : decode cc pc = .ok (.if_icmp .ge off, 3)) (ht : (pc : Int) + off = (tgt : Int)) (hn : pc + 3 = pc') (kt : y ≤ x → J X b k n tgt lv st ws) (kf : ¬ (y ≤ x) → J X b k n pc' lv st ws) : J X b k n pc lv (.int y :: .int x :: st) ws := by
  obtain ⟨p, l, e, R, s, m, args, below, meth, c, Q, A, D, nL⟩ := X
  obtain ⟨hx, hb, hml, hown, hts, hlk, hK, hZ⟩ := F
  subst hn
  exact fun H locs ls hI hl => lv_icmp_ge hx hb hd ht (fun h => kt h H locs ls hI hl) (fun h => kf h H locs ls hI hl)
theorem J_if_gt {X : jX} {b : Bool} {k : Nat} {n : Nat} {pc : Nat} {pc' : Nat} {lv : List (Nat × Value)} {st : List Value} {ws : va_W} {cc : ByteArray} {own : String} {cI : ClassId} {cZ : ClassId} {z : Nat → Nat} {x : Int32} {off : Int} {tgt : Nat} (F : JF X cc own cI cZ z) (hd : decode cc pc = .ok (.ifCond .gt off, 3)) (ht : (pc : Int) + off = (tgt : Int)) (hn : pc + 3 = pc') (kt : 0 < x → J X b k n tgt lv st ws) (kf : ¬ (0 < x) → J X b k n pc' lv st ws) : J X b k n pc lv (.int x :: st) ws := by
  obtain ⟨p, l, e, R, s, m, args, below, meth, c, Q, A, D, nL⟩ := X
  obtain ⟨hx, hb, hml, hown, hts, hlk, hK, hZ⟩ := F
  subst hn
  exact fun H locs ls hI hl => lv_if_gt hx hb hd ht (fun h => kt h H locs ls hI hl) (fun h => kf h H locs ls hI hl)
theorem J_icmp_gt {X : jX} {b : Bool} {k : Nat} {n : Nat} {pc : Nat} {pc' : Nat} {lv : List (Nat × Value)} {st : List Value} {ws : va_W} {cc : ByteArray} {own : String} {cI : ClassId} {cZ : ClassId} {z : Nat → Nat} {x y : Int32} {off : Int} {tgt : Nat} (F : JF X cc own cI cZ z) (hd : decode cc pc = .ok (.if_icmp .gt off, 3)) (ht : (pc : Int) + off = (tgt : Int)) (hn : pc + 3 = pc') (kt : y < x → J X b k n tgt lv st ws) (kf : ¬ (y < x) → J X b k n pc' lv st ws) : J X b k n pc lv (.int y :: .int x :: st) ws := by
  obtain ⟨p, l, e, R, s, m, args, below, meth, c, Q, A, D, nL⟩ := X
  obtain ⟨hx, hb, hml, hown, hts, hlk, hK, hZ⟩ := F
  subst hn
  exact fun H locs ls hI hl => lv_icmp_gt hx hb hd ht (fun h => kt h H locs ls hI hl) (fun h => kf h H locs ls hI hl)
theorem J_if_le {X : jX} {b : Bool} {k : Nat} {n : Nat} {pc : Nat} {pc' : Nat} {lv : List (Nat × Value)} {st : List Value} {ws : va_W} {cc : ByteArray} {own : String} {cI : ClassId} {cZ : ClassId} {z : Nat → Nat} {x : Int32} {off : Int} {tgt : Nat} (F : JF X cc own cI cZ z) (hd : decode cc pc = .ok (.ifCond .le off, 3)) (ht : (pc : Int) + off = (tgt : Int)) (hn : pc + 3 = pc') (kt : x ≤ 0 → J X b k n tgt lv st ws) (kf : ¬ (x ≤ 0) → J X b k n pc' lv st ws) : J X b k n pc lv (.int x :: st) ws := by
  obtain ⟨p, l, e, R, s, m, args, below, meth, c, Q, A, D, nL⟩ := X
  obtain ⟨hx, hb, hml, hown, hts, hlk, hK, hZ⟩ := F
  subst hn
  exact fun H locs ls hI hl => lv_if_le hx hb hd ht (fun h => kt h H locs ls hI hl) (fun h => kf h H locs ls hI hl)
theorem J_icmp_le {X : jX} {b : Bool} {k : Nat} {n : Nat} {pc : Nat} {pc' : Nat} {lv : List (Nat × Value)} {st : List Value} {ws : va_W} {cc : ByteArray} {own : String} {cI : ClassId} {cZ : ClassId} {z : Nat → Nat} {x y : Int32} {off : Int} {tgt : Nat} (F : JF X cc own cI cZ z) (hd : decode cc pc = .ok (.if_icmp .le off, 3)) (ht : (pc : Int) + off = (tgt : Int)) (hn : pc + 3 = pc') (kt : x ≤ y → J X b k n tgt lv st ws) (kf : ¬ (x ≤ y) → J X b k n pc' lv st ws) : J X b k n pc lv (.int y :: .int x :: st) ws := by
  obtain ⟨p, l, e, R, s, m, args, below, meth, c, Q, A, D, nL⟩ := X
  obtain ⟨hx, hb, hml, hown, hts, hlk, hK, hZ⟩ := F
  subst hn
  exact fun H locs ls hI hl => lv_icmp_le hx hb hd ht (fun h => kt h H locs ls hI hl) (fun h => kf h H locs ls hI hl)
theorem J_goto {X : jX} {b : Bool} {k : Nat} {n : Nat} {pc : Nat} {lv : List (Nat × Value)} {st : List Value} {ws : va_W} {cc : ByteArray} {own : String} {cI : ClassId} {cZ : ClassId} {z : Nat → Nat} {off : Int} {tgt : Nat} (F : JF X cc own cI cZ z) (hd : decode cc pc = .ok (.goto off, 3)) (ht : (pc : Int) + off = (tgt : Int)) (kk : J X b k n tgt lv st ws) : J X b k n pc lv st ws := by
  obtain ⟨p, l, e, R, s, m, args, below, meth, c, Q, A, D, nL⟩ := X
  obtain ⟨hx, hb, hml, hown, hts, hlk, hK, hZ⟩ := F
  exact fun H locs ls hI hl => lv_goto hx hb hd ht (kk H locs ls hI hl)
theorem J_tsIn {X : jX} {b : Bool} {k : Nat} {n : Nat} {pc : Nat} {lv : List (Nat × Value)} {st : List Value} {ws : va_W} {cc : ByteArray} {own : String} {cI : ClassId} {cZ : ClassId} {z : Nat → Nat} {x : Int32} {off dflt lo hi : Int} {offs : Array Int} {len tgt : Nat} (F : JF X cc own cI cZ z) (hd : decode cc pc = .ok (.tableswitch dflt lo hi offs, len)) (h1 : ¬ x.toInt < lo) (h2 : ¬ hi < x.toInt) (ho : offs[(x.toInt - lo).toNat]? = some off) (ht : (pc : Int) + off = (tgt : Int)) (kk : J X b k n tgt lv st ws) : J X b k n pc lv (.int x :: st) ws := by
  obtain ⟨p, l, e, R, s, m, args, below, meth, c, Q, A, D, nL⟩ := X
  obtain ⟨hx, hb, hml, hown, hts, hlk, hK, hZ⟩ := F
  exact fun H locs ls hI hl => lv_tableIn hx hb hd h1 h2 ho ht (kk H locs ls hI hl)
theorem J_tsOut {X : jX} {b : Bool} {k : Nat} {n : Nat} {pc : Nat} {lv : List (Nat × Value)} {st : List Value} {ws : va_W} {cc : ByteArray} {own : String} {cI : ClassId} {cZ : ClassId} {z : Nat → Nat} {x : Int32} {dflt lo hi : Int} {offs : Array Int} {len tgt : Nat} (F : JF X cc own cI cZ z) (hd : decode cc pc = .ok (.tableswitch dflt lo hi offs, len)) (h : x.toInt < lo ∨ hi < x.toInt) (ht : (pc : Int) + dflt = (tgt : Int)) (kk : J X b k n tgt lv st ws) : J X b k n pc lv (.int x :: st) ws := by
  obtain ⟨p, l, e, R, s, m, args, below, meth, c, Q, A, D, nL⟩ := X
  obtain ⟨hx, hb, hml, hown, hts, hlk, hK, hZ⟩ := F
  exact fun H locs ls hI hl => lv_tableOut hx hb hd h ht (kk H locs ls hI hl)
theorem J_lookup {X : jX} {b : Bool} {k : Nat} {n : Nat} {pc : Nat} {lv : List (Nat × Value)} {st : List Value} {ws : va_W} {cc : ByteArray} {own : String} {cI : ClassId} {cZ : ClassId} {z : Nat → Nat} {x : Int32} {off dflt : Int} {ps : Array (Int × Int)} {len tgt : Nat} (F : JF X cc own cI cZ z) (hd : decode cc pc = .ok (.lookupswitch dflt ps, len)) (hp : (ps.toList.zip (ps.toList.drop 1)).all (fun (a, next) => a.1 < next.1) = true) (ho : Op.lookupswitch.offset ps.toList dflt x.toInt = off) (ht : (pc : Int) + off = (tgt : Int)) (kk : J X b k n tgt lv st ws) : J X b k n pc lv (.int x :: st) ws := by
  obtain ⟨p, l, e, R, s, m, args, below, meth, c, Q, A, D, nL⟩ := X
  obtain ⟨hx, hb, hml, hown, hts, hlk, hK, hZ⟩ := F
  exact fun H locs ls hI hl => lv_lookup hx hb hd hp ho ht (kk H locs ls hI hl)
theorem J_topi {X : jX} {b : Bool} {k : Nat} {n : Nat} {pc : Nat} {lv : List (Nat × Value)} {st : List Value} {ws : va_W} {x : Int32} (kk : ∀ y : Int32, y = x → J X b k n pc lv (.int y :: st) ws) : J X b k n pc lv (.int x :: st) ws := kk x rfl
theorem J_topl {X : jX} {b : Bool} {k : Nat} {n : Nat} {pc : Nat} {lv : List (Nat × Value)} {st : List Value} {ws : va_W} {x : Int64} (kk : ∀ y : Int64, y = x → J X b k n pc lv (.long y :: st) ws) : J X b k n pc lv (.long x :: st) ws := kk x rfl
theorem J_vali {X : jX} {b : Bool} {k : Nat} {n : Nat} {pc : Nat} {lv : List (Nat × Value)} {st : List Value} {ws : va_W} {x y : Int32} (h : x = y) (kk : J X b k n pc lv (.int y :: st) ws) : J X b k n pc lv (.int x :: st) ws := h ▸ kk
theorem J_vall {X : jX} {b : Bool} {k : Nat} {n : Nat} {pc : Nat} {lv : List (Nat × Value)} {st : List Value} {ws : va_W} {x y : Int64} (h : x = y) (kk : J X b k n pc lv (.long y :: st) ws) : J X b k n pc lv (.long x :: st) ws := h ▸ kk
theorem J_lv {X : jX} {b : Bool} {k n pc : Nat} {lv lv' : List (Nat × Value)} {st : List Value} {ws : va_W} (ks : List Nat) (h : lv_pick lv ks = lv') (kk : J X b k n pc lv' st ws) : J X b k n pc lv st ws := by
  obtain ⟨p, l, e, R, s, m, args, below, meth, c, Q, A, D, nL⟩ := X
  exact fun H locs ls hI hl => kk H locs ls hI (lv_sub hl ks h)
theorem J_ws {X : jX} {b : Bool} {k n pc : Nat} {lv : List (Nat × Value)} {st : List Value} {ws ws' : va_W} (h : ws = ws') (kk : J X b k n pc lv st ws') : J X b k n pc lv st ws := h ▸ kk
theorem J_widen {X : jX} {b : Bool} {k n k' n' pc : Nat} {lv : List (Nat × Value)} {st : List Value} {ws : va_W} (h1 : k ≤ k') (h2 : n ≤ n') (kk : J X b k' n' pc lv st ws) : J X b k n pc lv st ws := by
  obtain ⟨p, l, e, R, s, m, args, below, meth, c, Q, A, D, nL⟩ := X
  exact fun H locs ls hI hl => W.widen h1 h2 (kk H locs ls hI hl)
theorem jI.S {p : Program} {l : Launch} {e : Env} {R : Room} {s : State} {m : MethodId} {args : Array Value} {below : List Frame} {meth : Method} {c : Code} {Q : State → Prop} {A : Nat → Prop} {D : va_G} {nL : Nat} {b : Bool} {ws : va_W} {H : Heap} {locs : List Loc} (h : jI (p, l, e, R, s, m, args, below, meth, c, Q, A, D, nL) b ws H locs) : va_S A s.heap H locs := by
  cases b with
  | true => exact h.2.2
  | false =>
    obtain ⟨-, rfl, rfl⟩ := h
    exact va_S.rf
theorem J_get {X : jX} {b : Bool} {k : Nat} {n : Nat} {pc : Nat} {pc' : Nat} {lv : List (Nat × Value)} {st : List Value} {ws : va_W} {cc : ByteArray} {own : String} {cI : ClassId} {cZ : ClassId} {z : Nat → Nat} {ref C : String} {T : u_T} {N ci index a : Nat} {fs : List Value} {v : Value} (q0 kf : Nat) (F : JF X cc own cI cZ z) (hd : decode cc pc = .ok (.getfield index, 3)) (hin : ∀ w ∈ u_ws C T N, w ∈ wsG) (he : ws[q0]? = some (a, .inr (ci, fs))) (hc : vwCl[ci]? = some (C, T, N)) (hk : kf < N) (hr : (T kf).1 = ref) (hlink : Cond.fieldLink own index ref (T kf).2.1 (T kf).2.2.1 ∈ wsG) (hv : fs[kf]? = some v) (hn : pc + 3 = pc') (kk : J X b k n pc' lv (v :: st) ws) : J X b k n pc lv (.ref a :: st) ws := by
  obtain ⟨p, l, e, R, s, m, args, below, meth, c, Q, A, D, nL⟩ := X
  obtain ⟨hx, hb, hml, hown, hts, hlk, hK, hZ⟩ := F
  subst hn
  exact fun H locs ls hI hl => va_get hx hb hts hin hown hK hI.1 q0 he hc kf hk (hts _ hlink) (fun x h => by rw [← hr]; exact h) hv hd (kk H locs ls hI hl)
theorem J_put {X : jX} {k : Nat} {n : Nat} {pc : Nat} {pc' : Nat} {lv : List (Nat × Value)} {st : List Value} {ws : va_W} {cc : ByteArray} {own : String} {cI : ClassId} {cZ : ClassId} {z : Nat → Nat} {ref C : String} {T : u_T} {N ci index a : Nat} {fs : List Value} {v : Value} {ty : FieldType} {ws' : va_W} (q0 kf : Nat) (F : JF X cc own cI cZ z) (hd : decode cc pc = .ok (.putfield index, 3)) (hin : ∀ w ∈ u_ws C T N, w ∈ wsG) (ty0 : Nat → FieldType) (hty : ∀ k, k < N → parseFieldDescriptor (T k).2.2.1 = some (ty0 k)) (hnm : ∀ a1, a1 < N → ∀ b1, b1 < N → a1 ≠ b1 → (T a1).2.1 ≠ (T b1).2.1) (he : ws[q0]? = some (a, .inr (ci, fs))) (hc : vwCl[ci]? = some (C, T, N)) (hk : kf < N) (hr : (T kf).1 = ref) (hlink : Cond.fieldLink own index ref (T kf).2.1 (T kf).2.2.1 ∈ wsG) (hfin : (T kf).2.2.2 = false) (hdt : parseFieldDescriptor (T kf).2.2.1 = some ty) (hnar : narrow ty v = v) (hfit : fits ty v = true) (hlen : kf < fs.length) (hws : ws.set q0 (a, .inr (ci, fs.set kf v)) = ws') (hn : pc + 3 = pc') (kk : J X true k n pc' lv st ws') : J X true k n pc lv (v :: .ref a :: st) ws := by
  obtain ⟨p, l, e, R, s, m, args, below, meth, c, Q, A, D, nL⟩ := X
  obtain ⟨hx, hb, hml, hown, hts, hlk, hK, hZ⟩ := F
  subst hn; subst hws
  exact fun H locs ls hI hl => va_put hx hb hts hin ty0 hty hnm hown hK hI.1 hI.2.1 hI.2.2 q0 he hc kf hk (hts _ hlink) (fun x h => by rw [← hr]; exact h) hfin hdt hnar hfit hlen hd (fun H1 locs1 h1 h2 h3 => kk H1 locs1 ls ⟨h1, h2, h3⟩ hl)
theorem J_iald {X : jX} {b : Bool} {k : Nat} {n : Nat} {pc : Nat} {pc' : Nat} {lv : List (Nat × Value)} {st : List Value} {ws : va_W} {cc : ByteArray} {own : String} {cI : ClassId} {cZ : ClassId} {z : Nat → Nat} {a N : Nat} {f : Nat → Int32} {i : Int32} (q0 : Nat) (F : JF X cc own cI cZ z) (hd : decode cc pc = .ok (.iaload, 1)) (ha : ws[q0]? = some (a, .inl (cI, N, .inl f))) (hin : vp_in i N) (hn : pc + 1 = pc') (kk : J X b k n pc' lv (.int (f i.toNatClampNeg) :: st) ws) : J X b k n pc lv (.int i :: .ref a :: st) ws := by
  obtain ⟨p, l, e, R, s, m, args, below, meth, c, Q, A, D, nL⟩ := X
  obtain ⟨hx, hb, hml, hown, hts, hlk, hK, hZ⟩ := F
  subst hn
  exact fun H locs ls hI hl => va_iald hx hb hK hI.1 q0 0 ha rfl hin hd (kk H locs ls hI hl)
theorem J_zald {X : jX} {b : Bool} {k : Nat} {n : Nat} {pc : Nat} {pc' : Nat} {lv : List (Nat × Value)} {st : List Value} {ws : va_W} {cc : ByteArray} {own : String} {cI : ClassId} {cZ : ClassId} {z : Nat → Nat} {a N : Nat} {f : Nat → Int32} {i : Int32} (q0 : Nat) (F : JF X cc own cI cZ z) (hd : decode cc pc = .ok (.baload, 1)) (ha : ws[q0]? = some (a, .inl (cZ, N, .inl f))) (hin : vp_in i N) (hn : pc + 1 = pc') (kk : J X b k n pc' lv (.int (f i.toNatClampNeg) :: st) ws) : J X b k n pc lv (.int i :: .ref a :: st) ws := by
  obtain ⟨p, l, e, R, s, m, args, below, meth, c, Q, A, D, nL⟩ := X
  obtain ⟨hx, hb, hml, hown, hts, hlk, hK, hZ⟩ := F
  subst hn
  exact fun H locs ls hI hl => va_zald hx hb hK hI.1 q0 1 ha rfl hin hd (kk H locs ls hI hl)
theorem J_alen {X : jX} {b : Bool} {k : Nat} {n : Nat} {pc : Nat} {pc' : Nat} {lv : List (Nat × Value)} {st : List Value} {ws : va_W} {cc : ByteArray} {own : String} {cI : ClassId} {cZ : ClassId} {z : Nat → Nat} {a : Nat} {x : vp_A} {v : Int32} (q0 : Nat) (F : JF X cc own cI cZ z) (hd : decode cc pc = .ok (.arraylength, 1)) (ha : ws[q0]? = some (a, .inl (cI, x))) (hv : Int32.ofNat x.1 = v) (hn : pc + 1 = pc') (kk : J X b k n pc' lv (.int v :: st) ws) : J X b k n pc lv (.ref a :: st) ws := by
  obtain ⟨p, l, e, R, s, m, args, below, meth, c, Q, A, D, nL⟩ := X
  obtain ⟨hx, hb, hml, hown, hts, hlk, hK, hZ⟩ := F
  subst hn
  exact fun H locs ls hI hl => va_alen hx hb hK hI.1 q0 0 ha rfl hv hd (kk H locs ls hI hl)
theorem J_iast {X : jX} {k : Nat} {n : Nat} {pc : Nat} {pc' : Nat} {lv : List (Nat × Value)} {st : List Value} {ws : va_W} {cc : ByteArray} {own : String} {cI : ClassId} {cZ : ClassId} {z : Nat → Nat} {a N : Nat} {f : Nat → Int32} {i x : Int32} {ws' : va_W} (q0 : Nat) (F : JF X cc own cI cZ z) (hd : decode cc pc = .ok (.iastore, 1)) (ha : ws[q0]? = some (a, .inl (cI, N, .inl f))) (hin : vp_in i N) (hws : ws.set q0 (a, .inl (cI, N, .inl (upd f i.toNatClampNeg x))) = ws') (hn : pc + 1 = pc') (kk : J X true k n pc' lv st ws') : J X true k n pc lv (.int x :: .int i :: .ref a :: st) ws := by
  obtain ⟨p, l, e, R, s, m, args, below, meth, c, Q, A, D, nL⟩ := X
  obtain ⟨hx, hb, hml, hown, hts, hlk, hK, hZ⟩ := F
  subst hn; subst hws
  exact fun H locs ls hI hl => va_iast hx hb hK hI.1 hI.2.1 hI.2.2 q0 0 ha rfl hin hd (fun H1 locs1 h1 h2 h3 => kk H1 locs1 ls ⟨h1, h2, h3⟩ hl)
theorem J_zast {X : jX} {k : Nat} {n : Nat} {pc : Nat} {pc' : Nat} {lv : List (Nat × Value)} {st : List Value} {ws : va_W} {cc : ByteArray} {own : String} {cI : ClassId} {cZ : ClassId} {z : Nat → Nat} {a N : Nat} {f : Nat → Int32} {i x : Int32} {ws' : va_W} (q0 : Nat) (F : JF X cc own cI cZ z) (hd : decode cc pc = .ok (.bastore, 1)) (ha : ws[q0]? = some (a, .inl (cZ, N, .inl f))) (hin : vp_in i N) (hws : ws.set q0 (a, .inl (cZ, N, .inl (upd f i.toNatClampNeg (vp_nar .boolean x)))) = ws') (hn : pc + 1 = pc') (kk : J X true k n pc' lv st ws') : J X true k n pc lv (.int x :: .int i :: .ref a :: st) ws := by
  obtain ⟨p, l, e, R, s, m, args, below, meth, c, Q, A, D, nL⟩ := X
  obtain ⟨hx, hb, hml, hown, hts, hlk, hK, hZ⟩ := F
  subst hn; subst hws
  exact fun H locs ls hI hl => va_zast hx hb hK hI.1 hI.2.1 hI.2.2 q0 1 ha rfl hin hd (fun H1 locs1 h1 h2 h3 => kk H1 locs1 ls ⟨h1, h2, h3⟩ hl)
/-- the walk's launch, room, layout of classes, number of locals -/
def JE (X : jX) (l : Launch) (rm : Room) (D : va_G) (nl : Nat) : Prop :=
  match X with
  | (_, l', _, R, _, _, _, _, _, _, _, _, D', nL) => l' = l ∧ R = rm ∧ D' = D ∧ nL = nl
def JRi (X : jX) (rt : FieldType) (post : Int32 → Prop) : Prop :=
  match X with
  | (_, _, _, _, s, _, args, below, meth, _, Q, _, _, _) => Q = MQ below (vp_Si post) args s 0 0 (fun _ => False) ∧ meth.sig.returnType = some rt
def JRl (X : jX) (post : Int64 → Prop) : Prop :=
  match X with
  | (_, _, _, _, s, _, args, below, meth, _, Q, _, _, _) => Q = MQ below (vp_Sl post) args s 0 0 (fun _ => False) ∧ meth.sig.returnType = some .long
def jPcR (D : va_G) (cI cZ : ClassId) (z : Nat → Nat) (wc : va_W) (av : List Value) : Array Value → State → Prop := va_Pc av (fun U => va_P D vwCl wc U.heap ∧ va_K D vwCl (jT cI cZ) U ∧ jSt z (fun _ => False) U U.heap)
/-- a method that reads alone: its answer -/
def cRi (l : Launch) (y : MethodName) (ws : List Cond) (rm : Room) (D : va_G) (cI cZ : ClassId) (z : Nat → Nat) (wc : va_W) (av : List Value) (post : Int32 → Prop) : Prop := Met l y ws rm (jPcR D cI cZ z wc av) (vp_Si post) 0 0 (fun _ => False)
def cRl (l : Launch) (y : MethodName) (ws : List Cond) (rm : Room) (D : va_G) (cI cZ : ClassId) (z : Nat → Nat) (wc : va_W) (av : List Value) (post : Int64 → Prop) : Prop := Met l y ws rm (jPcR D cI cZ z wc av) (vp_Sl post) 0 0 (fun _ => False)
def cRv (l : Launch) (y : MethodName) (ws : List Cond) (rm : Room) (D : va_G) (cI cZ : ClassId) (z : Nat → Nat) (wc : va_W) (av : List Value) (post : Unit → Prop) : Prop := Met l y ws rm (jPcR D cI cZ z wc av) (va_Sv post) 0 0 (fun _ => False)
def JRv (X : jX) (post : Unit → Prop) : Prop :=
  match X with
  | (_, _, _, _, s, _, args, below, meth, _, Q, _, _, _) => Q = MQ below (va_Sv post) args s 0 0 (fun _ => False) ∧ meth.sig.returnType = none
def jPcW (D : va_G) (cI cZ : ClassId) (z : Nat → Nat) (w0 : va_W) (sz : Nat) (av : List Value) : Array Value → State → Prop := va_Pc av (fun U => U.heap.size = sz ∧ va_P D vwCl w0 U.heap ∧ va_K D vwCl (jT cI cZ) U ∧ va_D (fun _ => True) w0 ∧ jSt z (va_A w0 sz) U U.heap)
def jBW {σ : Type} (D : va_G) (wf : σ → va_W) (w0 : va_W) (sz : Nat) : σ → State → Prop := fun u t => va_P D vwCl (wf u) t.heap ∧ va_D (va_A w0 sz) (wf u)
def cWi {σ : Type} (l : Launch) (y : MethodName) (ws : List Cond) (rm : Room) (D : va_G) (cI cZ : ClassId) (z : Nat → Nat) (wf : σ → va_W) (w0 : va_W) (av : List Value) (post : Int32 → σ → Prop) : Prop := ∀ sz : Nat, Met l y ws rm (jPcW D cI cZ z w0 sz av) (va_Qi post (jBW D wf w0 sz) (va_A w0 sz)) 0 0 (va_A w0 sz)
def cWl {σ : Type} (l : Launch) (y : MethodName) (ws : List Cond) (rm : Room) (D : va_G) (cI cZ : ClassId) (z : Nat → Nat) (wf : σ → va_W) (w0 : va_W) (av : List Value) (post : Int64 → σ → Prop) : Prop := ∀ sz : Nat, Met l y ws rm (jPcW D cI cZ z w0 sz av) (va_Ql post (jBW D wf w0 sz) (va_A w0 sz)) 0 0 (va_A w0 sz)
def cWv {σ : Type} (l : Launch) (y : MethodName) (ws : List Cond) (rm : Room) (D : va_G) (cI cZ : ClassId) (z : Nat → Nat) (wf : σ → va_W) (w0 : va_W) (av : List Value) (post : σ → Prop) : Prop := ∀ sz : Nat, Met l y ws rm (jPcW D cI cZ z w0 sz av) (va_Qv post (jBW D wf w0 sz) (va_A w0 sz)) 0 0 (va_A w0 sz)
def JWi {σ : Type} (X : jX) (wf : σ → va_W) (w0 : va_W) (rt : FieldType) (post : Int32 → σ → Prop) : Prop :=
  match X with
  | (_, _, _, _, s, _, args, below, meth, _, Q, A, D, _) => Q = MQ below (va_Qi post (jBW D wf w0 s.heap.size) (va_A w0 s.heap.size)) args s 0 0 (va_A w0 s.heap.size) ∧ meth.sig.returnType = some rt ∧ A = va_A w0 s.heap.size
def JWl {σ : Type} (X : jX) (wf : σ → va_W) (w0 : va_W) (post : Int64 → σ → Prop) : Prop :=
  match X with
  | (_, _, _, _, s, _, args, below, meth, _, Q, A, D, _) => Q = MQ below (va_Ql post (jBW D wf w0 s.heap.size) (va_A w0 s.heap.size)) args s 0 0 (va_A w0 s.heap.size) ∧ meth.sig.returnType = some .long ∧ A = va_A w0 s.heap.size
def JWv {σ : Type} (X : jX) (wf : σ → va_W) (w0 : va_W) (post : σ → Prop) : Prop :=
  match X with
  | (_, _, _, _, s, _, args, below, meth, _, Q, A, D, _) => Q = MQ below (va_Qv post (jBW D wf w0 s.heap.size) (va_A w0 s.heap.size)) args s 0 0 (va_A w0 s.heap.size) ∧ meth.sig.returnType = none ∧ A = va_A w0 s.heap.size
theorem cRi.of {l : Launch} {y : MethodName} {cc : ByteArray} {maxL : Nat} {ws : List Cond} {rm : Room} {D : va_G} {cI cZ : ClassId} {z : Nat → Nat} {av : List Value} {rt : FieldType} {wc : va_W} {post : Int32 → Prop} (hy : plainName y.cls = true) (hw0 : ws = Cond.code y cc maxL (some rt) :: wsG) (hlen : (lg_sl av).length ≤ maxL) (body : ∀ X : jX, JF X cc y.cls cI cZ z → JE X l rm D maxL → JRi X rt post → J X false 0 0 0 (lv_args 0 av) [] wc) : cRi l y ws rm D cI cZ z wc av post := by
  refine Met.ofW (cc := cc) (maxL := maxL) (ret := some rt) hy hw0 ?_
  intro p e s m args below meth c s₁ B hml hv
  obtain ⟨rfl, hP, hK, hZ⟩ := hv
  have hts := atoms_spec (ws := ws) B.pre
  have hown : s.vm.findClass y.cls = some m.cls := findClass_of_methodNamed B.named
  rw [lg_entry_eq]
  exact body (p, l, e, (headSpec ws rm).room, s, m, av.toArray, below, meth, c, _, (fun _ => False), D, maxL) ⟨B.exec, B.bytes, hml, hown, (fun w hw => hts w (by rw [hw0]; exact List.mem_cons_of_mem _ hw)), B.notSynchronized, hK, hZ⟩ ⟨rfl, rfl, rfl, rfl⟩ ⟨rfl, B.returns⟩ s.heap [] _ ⟨hP, rfl, rfl⟩ (lv_entry av hlen)
theorem cRl.of {l : Launch} {y : MethodName} {cc : ByteArray} {maxL : Nat} {ws : List Cond} {rm : Room} {D : va_G} {cI cZ : ClassId} {z : Nat → Nat} {av : List Value} {wc : va_W} {post : Int64 → Prop} (hy : plainName y.cls = true) (hw0 : ws = Cond.code y cc maxL (some .long) :: wsG) (hlen : (lg_sl av).length ≤ maxL) (body : ∀ X : jX, JF X cc y.cls cI cZ z → JE X l rm D maxL → JRl X post → J X false 0 0 0 (lv_args 0 av) [] wc) : cRl l y ws rm D cI cZ z wc av post := by
  refine Met.ofW (cc := cc) (maxL := maxL) (ret := some .long) hy hw0 ?_
  intro p e s m args below meth c s₁ B hml hv
  obtain ⟨rfl, hP, hK, hZ⟩ := hv
  have hts := atoms_spec (ws := ws) B.pre
  have hown : s.vm.findClass y.cls = some m.cls := findClass_of_methodNamed B.named
  rw [lg_entry_eq]
  exact body (p, l, e, (headSpec ws rm).room, s, m, av.toArray, below, meth, c, _, (fun _ => False), D, maxL) ⟨B.exec, B.bytes, hml, hown, (fun w hw => hts w (by rw [hw0]; exact List.mem_cons_of_mem _ hw)), B.notSynchronized, hK, hZ⟩ ⟨rfl, rfl, rfl, rfl⟩ ⟨rfl, B.returns⟩ s.heap [] _ ⟨hP, rfl, rfl⟩ (lv_entry av hlen)
theorem cRv.of {l : Launch} {y : MethodName} {cc : ByteArray} {maxL : Nat} {ws : List Cond} {rm : Room} {D : va_G} {cI cZ : ClassId} {z : Nat → Nat} {av : List Value} {wc : va_W} {post : Unit → Prop} (hy : plainName y.cls = true) (hw0 : ws = Cond.code y cc maxL (none) :: wsG) (hlen : (lg_sl av).length ≤ maxL) (body : ∀ X : jX, JF X cc y.cls cI cZ z → JE X l rm D maxL → JRv X post → J X false 0 0 0 (lv_args 0 av) [] wc) : cRv l y ws rm D cI cZ z wc av post := by
  refine Met.ofW (cc := cc) (maxL := maxL) (ret := none) hy hw0 ?_
  intro p e s m args below meth c s₁ B hml hv
  obtain ⟨rfl, hP, hK, hZ⟩ := hv
  have hts := atoms_spec (ws := ws) B.pre
  have hown : s.vm.findClass y.cls = some m.cls := findClass_of_methodNamed B.named
  rw [lg_entry_eq]
  exact body (p, l, e, (headSpec ws rm).room, s, m, av.toArray, below, meth, c, _, (fun _ => False), D, maxL) ⟨B.exec, B.bytes, hml, hown, (fun w hw => hts w (by rw [hw0]; exact List.mem_cons_of_mem _ hw)), B.notSynchronized, hK, hZ⟩ ⟨rfl, rfl, rfl, rfl⟩ ⟨rfl, B.returns⟩ s.heap [] _ ⟨hP, rfl, rfl⟩ (lv_entry av hlen)
theorem cWi.of {l : Launch} {y : MethodName} {cc : ByteArray} {maxL : Nat} {ws : List Cond} {rm : Room} {D : va_G} {cI cZ : ClassId} {z : Nat → Nat} {av : List Value} {rt : FieldType} {σ : Type} {wf : σ → va_W} {w0 : va_W} {post : Int32 → σ → Prop} (hy : plainName y.cls = true) (hw0 : ws = Cond.code y cc maxL (some rt) :: wsG) (hlen : (lg_sl av).length ≤ maxL) (body : ∀ X : jX, JF X cc y.cls cI cZ z → JE X l rm D maxL → jA X → JWi X wf w0 rt post → J X true 0 0 0 (lv_args 0 av) [] w0) : cWi l y ws rm D cI cZ z wf w0 av post := by
  intro sz
  refine Met.ofW (cc := cc) (maxL := maxL) (ret := some rt) hy hw0 ?_
  intro p e s m args below meth c s₁ B hml hv
  obtain ⟨rfl, hsz, hP, hK, hD, hZ⟩ := hv
  subst hsz
  have hts := atoms_spec (ws := ws) B.pre
  have hown : s.vm.findClass y.cls = some m.cls := findClass_of_methodNamed B.named
  rw [lg_entry_eq]
  exact body (p, l, e, (headSpec ws rm).room, s, m, av.toArray, below, meth, c, _, va_A w0 s.heap.size, D, maxL) ⟨B.exec, B.bytes, hml, hown, (fun w hw => hts w (by rw [hw0]; exact List.mem_cons_of_mem _ hw)), B.notSynchronized, hK, hZ⟩ ⟨rfl, rfl, rfl, rfl⟩ (fun q h => Or.inr h) ⟨rfl, B.returns, rfl⟩ s.heap [] _ ⟨hP, hD.self, va_S.rf⟩ (lv_entry av hlen)
theorem cWl.of {l : Launch} {y : MethodName} {cc : ByteArray} {maxL : Nat} {ws : List Cond} {rm : Room} {D : va_G} {cI cZ : ClassId} {z : Nat → Nat} {av : List Value} {σ : Type} {wf : σ → va_W} {w0 : va_W} {post : Int64 → σ → Prop} (hy : plainName y.cls = true) (hw0 : ws = Cond.code y cc maxL (some .long) :: wsG) (hlen : (lg_sl av).length ≤ maxL) (body : ∀ X : jX, JF X cc y.cls cI cZ z → JE X l rm D maxL → jA X → JWl X wf w0 post → J X true 0 0 0 (lv_args 0 av) [] w0) : cWl l y ws rm D cI cZ z wf w0 av post := by
  intro sz
  refine Met.ofW (cc := cc) (maxL := maxL) (ret := some .long) hy hw0 ?_
  intro p e s m args below meth c s₁ B hml hv
  obtain ⟨rfl, hsz, hP, hK, hD, hZ⟩ := hv
  subst hsz
  have hts := atoms_spec (ws := ws) B.pre
  have hown : s.vm.findClass y.cls = some m.cls := findClass_of_methodNamed B.named
  rw [lg_entry_eq]
  exact body (p, l, e, (headSpec ws rm).room, s, m, av.toArray, below, meth, c, _, va_A w0 s.heap.size, D, maxL) ⟨B.exec, B.bytes, hml, hown, (fun w hw => hts w (by rw [hw0]; exact List.mem_cons_of_mem _ hw)), B.notSynchronized, hK, hZ⟩ ⟨rfl, rfl, rfl, rfl⟩ (fun q h => Or.inr h) ⟨rfl, B.returns, rfl⟩ s.heap [] _ ⟨hP, hD.self, va_S.rf⟩ (lv_entry av hlen)
theorem cWv.of {l : Launch} {y : MethodName} {cc : ByteArray} {maxL : Nat} {ws : List Cond} {rm : Room} {D : va_G} {cI cZ : ClassId} {z : Nat → Nat} {av : List Value} {σ : Type} {wf : σ → va_W} {w0 : va_W} {post : σ → Prop} (hy : plainName y.cls = true) (hw0 : ws = Cond.code y cc maxL (none) :: wsG) (hlen : (lg_sl av).length ≤ maxL) (body : ∀ X : jX, JF X cc y.cls cI cZ z → JE X l rm D maxL → jA X → JWv X wf w0 post → J X true 0 0 0 (lv_args 0 av) [] w0) : cWv l y ws rm D cI cZ z wf w0 av post := by
  intro sz
  refine Met.ofW (cc := cc) (maxL := maxL) (ret := none) hy hw0 ?_
  intro p e s m args below meth c s₁ B hml hv
  obtain ⟨rfl, hsz, hP, hK, hD, hZ⟩ := hv
  subst hsz
  have hts := atoms_spec (ws := ws) B.pre
  have hown : s.vm.findClass y.cls = some m.cls := findClass_of_methodNamed B.named
  rw [lg_entry_eq]
  exact body (p, l, e, (headSpec ws rm).room, s, m, av.toArray, below, meth, c, _, va_A w0 s.heap.size, D, maxL) ⟨B.exec, B.bytes, hml, hown, (fun w hw => hts w (by rw [hw0]; exact List.mem_cons_of_mem _ hw)), B.notSynchronized, hK, hZ⟩ ⟨rfl, rfl, rfl, rfl⟩ (fun q h => Or.inr h) ⟨rfl, B.returns, rfl⟩ s.heap [] _ ⟨hP, hD.self, va_S.rf⟩ (lv_entry av hlen)
theorem J_iretR {X : jX} {pc : Nat} {lv : List (Nat × Value)} {ws : va_W} {cc : ByteArray} {own : String} {cI : ClassId} {cZ : ClassId} {z : Nat → Nat} {rt : FieldType} {post : Int32 → Prop} {v : Int32} (F : JF X cc own cI cZ z) (hR : JRi X rt post) (hd : decode cc pc = .ok (.ireturn, 1)) (hnar : narrow rt (.int v) = .int v) (hp : post v) : J X false 0 0 pc lv [.int v] ws := by
  obtain ⟨p, l, e, R, s, m, args, below, meth, c, Q, A, D, nL⟩ := X
  obtain ⟨hx, hb, hml, hown, hts, hlk, hK, hZ⟩ := F
  obtain ⟨rfl, hr⟩ := hR
  intro H locs ls hI hl
  obtain ⟨-, rfl, rfl⟩ := hI
  exact W.zret hx hb hr hnar (fun t ht hW => ⟨v, rfl, hp, ht⟩) (fun q h => by cases h) hd hlk
theorem J_lretR {X : jX} {pc : Nat} {lv : List (Nat × Value)} {ws : va_W} {cc : ByteArray} {own : String} {cI : ClassId} {cZ : ClassId} {z : Nat → Nat} {post : Int64 → Prop} {v : Int64} (F : JF X cc own cI cZ z) (hR : JRl X post) (hd : decode cc pc = .ok (.lreturn, 1)) (hp : post v) : J X false 0 0 pc lv [.long v] ws := by
  obtain ⟨p, l, e, R, s, m, args, below, meth, c, Q, A, D, nL⟩ := X
  obtain ⟨hx, hb, hml, hown, hts, hlk, hK, hZ⟩ := F
  obtain ⟨rfl, hr⟩ := hR
  intro H locs ls hI hl
  obtain ⟨-, rfl, rfl⟩ := hI
  exact W.lret hx hb hr (fun t ht hW => ⟨v, rfl, hp, ht⟩) (fun q h => by cases h) hd hlk
theorem J_vretR {X : jX} {pc : Nat} {lv : List (Nat × Value)} {ws : va_W} {cc : ByteArray} {own : String} {cI : ClassId} {cZ : ClassId} {z : Nat → Nat} {post : Unit → Prop} (F : JF X cc own cI cZ z) (hR : JRv X post) (hd : decode cc pc = .ok (.return_, 1)) (hp : post ()) : J X false 0 0 pc lv [] ws := by
  obtain ⟨p, l, e, R, s, m, args, below, meth, c, Q, A, D, nL⟩ := X
  obtain ⟨hx, hb, hml, hown, hts, hlk, hK, hZ⟩ := F
  obtain ⟨rfl, hr⟩ := hR
  intro H locs ls hI hl
  obtain ⟨-, rfl, rfl⟩ := hI
  exact W.vret hx hb hr (fun t ht hW => ⟨rfl, hp, ht⟩) (fun q h => by cases h) hd hlk
theorem J_iretW {X : jX} {pc : Nat} {lv : List (Nat × Value)} {ws : va_W} {cc : ByteArray} {own : String} {cI : ClassId} {cZ : ClassId} {z : Nat → Nat} {σ : Type} {wf : σ → va_W} {w0 : va_W} {rt : FieldType} {post : Int32 → σ → Prop} {v : Int32} (u : σ) (F : JF X cc own cI cZ z) (hR : JWi X wf w0 rt post) (hd : decode cc pc = .ok (.ireturn, 1)) (hnar : narrow rt (.int v) = .int v) (hws : ws = wf u) (hp : post v u) : J X true 0 0 pc lv [.int v] ws := by
  obtain ⟨p, l, e, R, s, m, args, below, meth, c, Q, A, D, nL⟩ := X
  obtain ⟨hx, hb, hml, hown, hts, hlk, hK, hZ⟩ := F
  obtain ⟨rfl, hr, rfl⟩ := hR
  subst hws
  intro H locs ls hI hl
  obtain ⟨hP, hD, hS⟩ := hI
  exact W.zret hx hb hr hnar (fun t ht hW => ⟨⟨v, u, rfl, hp, by rw [ht]; exact hP, hD⟩, hS.F ht⟩) hS.2.2 hd hlk
theorem J_lretW {X : jX} {pc : Nat} {lv : List (Nat × Value)} {ws : va_W} {cc : ByteArray} {own : String} {cI : ClassId} {cZ : ClassId} {z : Nat → Nat} {σ : Type} {wf : σ → va_W} {w0 : va_W} {post : Int64 → σ → Prop} {v : Int64} (u : σ) (F : JF X cc own cI cZ z) (hR : JWl X wf w0 post) (hd : decode cc pc = .ok (.lreturn, 1)) (hws : ws = wf u) (hp : post v u) : J X true 0 0 pc lv [.long v] ws := by
  obtain ⟨p, l, e, R, s, m, args, below, meth, c, Q, A, D, nL⟩ := X
  obtain ⟨hx, hb, hml, hown, hts, hlk, hK, hZ⟩ := F
  obtain ⟨rfl, hr, rfl⟩ := hR
  subst hws
  intro H locs ls hI hl
  obtain ⟨hP, hD, hS⟩ := hI
  exact W.lret hx hb hr (fun t ht hW => ⟨⟨v, u, rfl, hp, by rw [ht]; exact hP, hD⟩, hS.F ht⟩) hS.2.2 hd hlk
theorem J_vretW {X : jX} {pc : Nat} {lv : List (Nat × Value)} {ws : va_W} {cc : ByteArray} {own : String} {cI : ClassId} {cZ : ClassId} {z : Nat → Nat} {σ : Type} {wf : σ → va_W} {w0 : va_W} {post : σ → Prop} (u : σ) (F : JF X cc own cI cZ z) (hR : JWv X wf w0 post) (hd : decode cc pc = .ok (.return_, 1)) (hws : ws = wf u) (hp : post u) : J X true 0 0 pc lv [] ws := by
  obtain ⟨p, l, e, R, s, m, args, below, meth, c, Q, A, D, nL⟩ := X
  obtain ⟨hx, hb, hml, hown, hts, hlk, hK, hZ⟩ := F
  obtain ⟨rfl, hr, rfl⟩ := hR
  subst hws
  intro H locs ls hI hl
  obtain ⟨hP, hD, hS⟩ := hI
  exact W.vret hx hb hr (fun t ht hW => ⟨⟨u, rfl, hp, by rw [ht]; exact hP, hD⟩, hS.F ht⟩) hS.2.2 hd hlk
theorem J_getsN {X : jX} {b : Bool} {k : Nat} {n : Nat} {pc : Nat} {pc' : Nat} {lv : List (Nat × Value)} {st : List Value} {ws : va_W} {cc : ByteArray} {own : String} {cI : ClassId} {cZ : ClassId} {z : Nat → Nat} {nm : String} {a index : Nat} (F : JF X cc own cI cZ z) (hd : decode cc pc = .ok (.getstatic index, 3)) (hm : (own, index, nm) ∈ jNF) (hz : ∀ (A : Nat → Prop) (U : State) (H : Heap), jSt z A U H → va_Z RX5 nm "[I" (.ref a) A U H) (hn : pc + 3 = pc') (kk : J X b k n pc' lv (.ref a :: st) ws) : J X b k n pc lv st ws := by
  obtain ⟨p, l, e, R, s, m, args, below, meth, c, Q, A, D, nL⟩ := X
  obtain ⟨hx, hb, hml, hown, hts, hlk, hK, hZ⟩ := F
  subst hn
  exact fun H locs ls hI hl => va_getsN hx hb (hz _ _ _ hZ) hI.S hown (va_Nw.use rfl (hZ.2.1 _ hm)) (fun _ h => h) hd (kk H locs ls hI hl)
theorem J_gets {X : jX} {b : Bool} {k : Nat} {n : Nat} {pc : Nat} {pc' : Nat} {lv : List (Nat × Value)} {st : List Value} {ws : va_W} {cc : ByteArray} {own : String} {cI : ClassId} {cZ : ClassId} {z : Nat → Nat} {C nm d ref : String} {v : Value} {index : Nat} (F : JF X cc own cI cZ z) (hd : decode cc pc = .ok (.getstatic index, 3)) (hlink : Cond.fieldLink own index ref nm d ∈ wsG) (hz : ∀ (A : Nat → Prop) (U : State) (H : Heap), jSt z A U H → va_Z C nm d v A U H) (hr : C = ref) (hn : pc + 3 = pc') (kk : J X b k n pc' lv (v :: st) ws) : J X b k n pc lv st ws := by
  obtain ⟨p, l, e, R, s, m, args, below, meth, c, Q, A, D, nL⟩ := X
  obtain ⟨hx, hb, hml, hown, hts, hlk, hK, hZ⟩ := F
  subst hn; subst hr
  exact fun H locs ls hI hl => va_gets hx hb (hz _ _ _ hZ) hI.S hown (hts _ hlink) (fun _ h => h) hd (kk H locs ls hI hl)
theorem J_tiald {X : jX} {b : Bool} {k : Nat} {n : Nat} {pc : Nat} {pc' : Nat} {lv : List (Nat × Value)} {st : List Value} {ws : va_W} {cc : ByteArray} {own : String} {cI : ClassId} {cZ : ClassId} {z : Nat → Nat} {t N : Nat} {f : Nat → Value} {i : Int32} {v : Value} (F : JF X cc own cI cZ z) (hd : decode cc pc = .ok (.iaload, 1)) (hT : ∀ (A : Nat → Prop) (U : State) (H : Heap), jSt z A U H → va_T .int t N f A U H) (hin : vp_in i N) (hv : f i.toNatClampNeg = v) (hn : pc + 1 = pc') (kk : J X b k n pc' lv (v :: st) ws) : J X b k n pc lv (.int i :: .ref t :: st) ws := by
  obtain ⟨p, l, e, R, s, m, args, below, meth, c, Q, A, D, nL⟩ := X
  obtain ⟨hx, hb, hml, hown, hts, hlk, hK, hZ⟩ := F
  subst hn
  exact fun H locs ls hI hl => va_ti hx hb (hT _ _ _ hZ) hI.S hin hv hd (kk H locs ls hI hl)
theorem J_tbald {X : jX} {b : Bool} {k : Nat} {n : Nat} {pc : Nat} {pc' : Nat} {lv : List (Nat × Value)} {st : List Value} {ws : va_W} {cc : ByteArray} {own : String} {cI : ClassId} {cZ : ClassId} {z : Nat → Nat} {t N : Nat} {f : Nat → Value} {i : Int32} {v : Value} (F : JF X cc own cI cZ z) (hd : decode cc pc = .ok (.baload, 1)) (hT : ∀ (A : Nat → Prop) (U : State) (H : Heap), jSt z A U H → va_T .byte t N f A U H) (hin : vp_in i N) (hv : f i.toNatClampNeg = v) (hn : pc + 1 = pc') (kk : J X b k n pc' lv (v :: st) ws) : J X b k n pc lv (.int i :: .ref t :: st) ws := by
  obtain ⟨p, l, e, R, s, m, args, below, meth, c, Q, A, D, nL⟩ := X
  obtain ⟨hx, hb, hml, hown, hts, hlk, hK, hZ⟩ := F
  subst hn
  exact fun H locs ls hI hl => va_tb hx hb (hT _ _ _ hZ) hI.S hin hv hd (kk H locs ls hI hl)
theorem J_tlen {X : jX} {b : Bool} {k : Nat} {n : Nat} {pc : Nat} {pc' : Nat} {lv : List (Nat × Value)} {st : List Value} {ws : va_W} {cc : ByteArray} {own : String} {cI : ClassId} {cZ : ClassId} {z : Nat → Nat} {t N : Nat} {f : Nat → Value} {ty : FieldType} {v : Int32} (F : JF X cc own cI cZ z) (hd : decode cc pc = .ok (.arraylength, 1)) (hT : ∀ (A : Nat → Prop) (U : State) (H : Heap), jSt z A U H → va_T ty t N f A U H) (hv : Int32.ofNat N = v) (hn : pc + 1 = pc') (kk : J X b k n pc' lv (.int v :: st) ws) : J X b k n pc lv (.ref t :: st) ws := by
  obtain ⟨p, l, e, R, s, m, args, below, meth, c, Q, A, D, nL⟩ := X
  obtain ⟨hx, hb, hml, hown, hts, hlk, hK, hZ⟩ := F
  subst hn
  exact fun H locs ls hI hl => va_tlen hx hb (hT _ _ _ hZ) hI.S hv hd (kk H locs ls hI hl)
theorem J_ldcS {X : jX} {b : Bool} {k : Nat} {n : Nat} {pc : Nat} {pc' : Nat} {lv : List (Nat × Value)} {st : List Value} {ws : va_W} {cc : ByteArray} {own : String} {cI : ClassId} {cZ : ClassId} {z : Nat → Nat} {tx : String} {index a : Nat} (F : JF X cc own cI cZ z) (hd : decode cc pc = .ok (.ldc index, 2)) (hz : ∀ (A : Nat → Prop) (U : State) (H : Heap), jSt z A U H → vk_R own index tx a U) (hn : pc + 2 = pc') (kk : J X b k n pc' lv (.ref a :: st) ws) : J X b k n pc lv st ws := by
  obtain ⟨p, l, e, R, s, m, args, below, meth, c, Q, A, D, nL⟩ := X
  obtain ⟨hx, hb, hml, hown, hts, hlk, hK, hZ⟩ := F
  subst hn
  exact fun H locs ls hI hl => va_ldcS hx hb hown (hz _ _ _ hZ) hd (kk H locs ls hI hl)
theorem J_getO {X : jX} {b : Bool} {k : Nat} {n : Nat} {pc : Nat} {pc' : Nat} {lv : List (Nat × Value)} {st : List Value} {ws : va_W} {cc : ByteArray} {own : String} {cI : ClassId} {cZ : ClassId} {z : Nat → Nat} {o nm d ref : String} {v : Value} {index a : Nat} (F : JF X cc own cI cZ z) (hd : decode cc pc = .ok (.getfield index, 3)) (hlink : Cond.fieldLink own index ref nm d ∈ wsG) (hz : ∀ (A : Nat → Prop) (U : State) (H : Heap), jSt z A U H → va_OF o nm d v a A U H) (hr : o = ref) (hn : pc + 3 = pc') (kk : J X b k n pc' lv (v :: st) ws) : J X b k n pc lv (.ref a :: st) ws := by
  obtain ⟨p, l, e, R, s, m, args, below, meth, c, Q, A, D, nL⟩ := X
  obtain ⟨hx, hb, hml, hown, hts, hlk, hK, hZ⟩ := F
  subst hn; subst hr
  exact fun H locs ls hI hl => vk_getf hx hb (hz _ _ _ hZ) hI.S hown (hts _ hlink) (fun _ h => h) hd (kk H locs ls hI hl)
theorem J_mmax {X : jX} {b : Bool} {k : Nat} {n : Nat} {pc : Nat} {pc' : Nat} {lv : List (Nat × Value)} {st : List Value} {ws : va_W} {cc : ByteArray} {own : String} {cI : ClassId} {cZ : ClassId} {z : Nat → Nat} {rm0 : Room} {l0 : Launch} {D0 : va_G} {nl index : Nat} {x y : Int32} (F : JF X cc own cI cZ z) (E : JE X l0 rm0 D0 nl) (hd : decode cc pc = .ok (.invokestatic index, 3)) (h1 : Cond.methodLink own index Lib.Math.max.name ∈ wsG) (h2 : Cond.static Lib.Math.max.name ∈ wsG) (h3 : Cond.initialized "java/lang/Math" ∈ wsG) (h4 : Cond.code Lib.Math.max.name Lib.Math.max.code 2 (some .int) ∈ wsG) (h5 : 1 ≤ rm0.frames) (h6 : (st.map fun v => v.category).sum + 13 ≤ rm0.locals) (h7 : k ≤ rm0.cells) (h8 : n ≤ rm0.slots) (hn : pc + 3 = pc') (kk : J X b k n pc' lv (.int (if x < y then y else x) :: st) ws) : J X b k n pc lv (.int y :: .int x :: st) ws := by
  obtain ⟨p, l, e, R, s, m, args, below, meth, c, Q, A, D, nL⟩ := X
  obtain ⟨hx, hb, hml, hown, hts, hlk, hK, hZ⟩ := F
  subst hn
  obtain ⟨rfl, rfl, rfl, rfl⟩ := E
  exact fun H locs ls hI hl => va_mmax hx hb (hml.trans hl.1.symm) hown (hts _ h1) (hts _ h2) (hts _ h3) (hts _ h4) h5 h6 h7 h8 hd (kk H locs ls hI hl)
theorem J_mmin {X : jX} {b : Bool} {k : Nat} {n : Nat} {pc : Nat} {pc' : Nat} {lv : List (Nat × Value)} {st : List Value} {ws : va_W} {cc : ByteArray} {own : String} {cI : ClassId} {cZ : ClassId} {z : Nat → Nat} {rm0 : Room} {l0 : Launch} {D0 : va_G} {nl index : Nat} {x y : Int32} (F : JF X cc own cI cZ z) (E : JE X l0 rm0 D0 nl) (hd : decode cc pc = .ok (.invokestatic index, 3)) (h1 : Cond.methodLink own index Lib.Math.min.name ∈ wsG) (h2 : Cond.static Lib.Math.min.name ∈ wsG) (h3 : Cond.initialized "java/lang/Math" ∈ wsG) (h4 : Cond.code Lib.Math.min.name Lib.Math.min.code 2 (some .int) ∈ wsG) (h5 : 1 ≤ rm0.frames) (h6 : (st.map fun v => v.category).sum + 13 ≤ rm0.locals) (h7 : k ≤ rm0.cells) (h8 : n ≤ rm0.slots) (hn : pc + 3 = pc') (kk : J X b k n pc' lv (.int (if y < x then y else x) :: st) ws) : J X b k n pc lv (.int y :: .int x :: st) ws := by
  obtain ⟨p, l, e, R, s, m, args, below, meth, c, Q, A, D, nL⟩ := X
  obtain ⟨hx, hb, hml, hown, hts, hlk, hK, hZ⟩ := F
  subst hn
  obtain ⟨rfl, rfl, rfl, rfl⟩ := E
  exact fun H locs ls hI hl => va_mmin hx hb (hml.trans hl.1.symm) hown (hts _ h1) (hts _ h2) (hts _ h3) (hts _ h4) h5 h6 h7 h8 hd (kk H locs ls hI hl)
theorem J_mabs {X : jX} {b : Bool} {k : Nat} {n : Nat} {pc : Nat} {pc' : Nat} {lv : List (Nat × Value)} {st : List Value} {ws : va_W} {cc : ByteArray} {own : String} {cI : ClassId} {cZ : ClassId} {z : Nat → Nat} {rm0 : Room} {l0 : Launch} {D0 : va_G} {nl index : Nat} {x : Int32} (F : JF X cc own cI cZ z) (E : JE X l0 rm0 D0 nl) (hd : decode cc pc = .ok (.invokestatic index, 3)) (h1 : Cond.methodLink own index Lib.Math.abs.name ∈ wsG) (h2 : Cond.static Lib.Math.abs.name ∈ wsG) (h3 : Cond.initialized "java/lang/Math" ∈ wsG) (h4 : Cond.code Lib.Math.abs.name Lib.Math.abs.code 1 (some .int) ∈ wsG) (h5 : 1 ≤ rm0.frames) (h6 : (st.map fun v => v.category).sum + 13 ≤ rm0.locals) (h7 : k ≤ rm0.cells) (h8 : n ≤ rm0.slots) (hn : pc + 3 = pc') (kk : J X b k n pc' lv (.int (if 0 ≤ x then x else 0 - x) :: st) ws) : J X b k n pc lv (.int x :: st) ws := by
  obtain ⟨p, l, e, R, s, m, args, below, meth, c, Q, A, D, nL⟩ := X
  obtain ⟨hx, hb, hml, hown, hts, hlk, hK, hZ⟩ := F
  subst hn
  obtain ⟨rfl, rfl, rfl, rfl⟩ := E
  exact fun H locs ls hI hl => va_mabs hx hb (hml.trans hl.1.symm) hown (hts _ h1) (hts _ h2) (hts _ h3) (hts _ h4) h5 h6 h7 h8 hd (kk H locs ls hI hl)
theorem jgood {wsc : List Cond} {y : MethodName} {bytes : ByteArray} {maxL : Nat} {ret : Option FieldType} (hw : wsc = Cond.code y bytes maxL ret :: wsG) (hcd : Cond.code y bytes maxL ret ∈ wsG) : GoodIn wsG wsc := by
  intro w h
  rw [hw] at h
  have hm : w ∈ wsG := (List.mem_cons.mp h).elim (fun e => by rw [e]; exact hcd) id
  exact ⟨hm, good_of_word (wsG_good w hm)⟩
def jPre (X : jX) (H : Heap) (Pc : Array Value → State → Prop) (av : List Value) : Prop :=
  match X with
  | (_, _, _, _, s, _, _, _, _, _, _, _, _, _) => FrameBlind Pc ∧ ∀ U : State, U.heap = H → s.WarmedH U.vm → Pc av.toArray U
def jRun (X : jX) (k n pc : Nat) (lv : List (Nat × Value)) (st : List Value) (H : Heap) (locs : List Loc) (rest : List Value) (Qa : State → Outcome → State → Prop) (free : Addr → Prop) : Prop :=
  match X with
  | (p, l, e, R, s, m, args, below, meth, c, _, _, _, nL) => ∀ ls : Array Slot, lv_has ls nL lv → va_Run p l e R s m args below meth c H locs k n 0 0 (F0 m pc ls st) rest Qa free
def jOut (y : MethodName) (n : Nat) : Prop := y.cls ≠ "java/lang/invoke/MethodHandle" ∧ y.cls ≠ "java/lang/invoke/VarHandle" ∧ (parseMethodDescriptor y.desc).map (fun d => d.parameters.length) = some n
def jRoom (rm rm0 : Room) (maxL k n : Nat) : Prop := (rm.cells = 0 ∧ rm.slots = 0) ∧ (rm.frames + 1 ≤ rm0.frames ∧ 8 + (maxL + 11) + rm.locals ≤ rm0.locals) ∧ k ≤ rm0.cells ∧ n ≤ rm0.slots
theorem jrun_S {X : jX} {k : Nat} {n : Nat} {pc : Nat} {lv : List (Nat × Value)} {st : List Value} {cc : ByteArray} {own : String} {cI : ClassId} {cZ : ClassId} {z : Nat → Nat} {y : MethodName} {bytes : ByteArray} {maxL : Nat} {nl : Nat} {index : Nat} {ret : Option FieldType} {wsc : List Cond} {rm : Room} {rm0 : Room} {l : Launch} {D : va_G} {Pc : Array Value → State → Prop} {Qc : Array Value → State → Outcome → State → Prop} {free : Addr → Prop} {av : List Value} {rest : List Value} {H : Heap} {locs : List Loc} (F : JF X cc own cI cZ z) (E : JE X l rm0 D nl) (hM : Met l y wsc rm Pc Qc 0 0 free) (hlk2 : Cond.methodLink own index y ∈ wsG) (hs : Cond.static y ∈ wsG) (hw : wsc = Cond.code y bytes maxL ret :: wsG) (hcd : Cond.code y bytes maxL ret ∈ wsG) (hi : Cond.initialized y.cls ∈ wsG) (ho : jOut y av.length) (hr : jRoom rm rm0 maxL k n) (hst : st = av.reverse ++ rest) (hrest : (rest.map fun v => v.category).sum ≤ 8) (hd : decode cc pc = .ok (.invokestatic index, 3)) (hp : jPre X H Pc av) : jRun X k n pc lv st H locs rest (Qc av.toArray) free := by
  obtain ⟨p, l, e, R, s, m, args, below, meth, c, Q, A, D, nL⟩ := X
  obtain ⟨hx, hb, hml, hown, hts, hlk, hK, hZ⟩ := F
  obtain ⟨rfl, rfl, rfl, rfl⟩ := E
  obtain ⟨⟨r1, r2⟩, r3, r4, r5⟩ := hr
  intro ls hl
  exact va_runS ⟨hx, hb, hml, hown, hts⟩ hM ⟨callB_of av.length hts (jgood hw hcd) hw r1 r2 (hts _ hi) (hts _ hlk2) ho r3, hts _ hs⟩ hp rfl rfl hl.1 hst (lv_room hrest) hd ⟨r4, r5⟩
theorem jrun_SN {X : jX} {k : Nat} {n : Nat} {pc : Nat} {lv : List (Nat × Value)} {st : List Value} {cc : ByteArray} {own : String} {cI : ClassId} {cZ : ClassId} {z : Nat → Nat} {y : MethodName} {bytes : ByteArray} {maxL : Nat} {nl : Nat} {index : Nat} {ret : Option FieldType} {wsc : List Cond} {rm : Room} {rm0 : Room} {l : Launch} {D : va_G} {Pc : Array Value → State → Prop} {Qc : Array Value → State → Outcome → State → Prop} {free : Addr → Prop} {av : List Value} {rest : List Value} {H : Heap} {locs : List Loc} (F : JF X cc own cI cZ z) (E : JE X l rm0 D nl) (hM : Met l y wsc rm Pc Qc 0 0 free) (hs : Cond.static y ∈ wsG) (hm : (own, index, y) ∈ jNM) (hw : wsc = Cond.code y bytes maxL ret :: wsG) (hcd : Cond.code y bytes maxL ret ∈ wsG) (hi : Cond.initialized y.cls ∈ wsG) (ho : jOut y av.length) (hr : jRoom rm rm0 maxL k n) (hst : st = av.reverse ++ rest) (hrest : (rest.map fun v => v.category).sum ≤ 8) (hd : decode cc pc = .ok (.invokestatic index, 3)) (hp : jPre X H Pc av) : jRun X k n pc lv st H locs rest (Qc av.toArray) free := by
  obtain ⟨p, l, e, R, s, m, args, below, meth, c, Q, A, D, nL⟩ := X
  obtain ⟨hx, hb, hml, hown, hts, hlk, hK, hZ⟩ := F
  obtain ⟨rfl, rfl, rfl, rfl⟩ := E
  obtain ⟨⟨r1, r2⟩, r3, r4, r5⟩ := hr
  intro ls hl
  exact va_runSN ⟨hx, hb, hml, hown, hts⟩ hM ⟨va_cnB av.length hts (jgood hw hcd) hw r1 r2 (hZ.1 _ hm) (hts _ hi) ho r3, hts _ hs, trivial⟩ hp rfl rfl hl.1 hst (lv_room hrest) hd ⟨r4, r5⟩
theorem jrun_V {X : jX} {k : Nat} {n : Nat} {pc : Nat} {lv : List (Nat × Value)} {st : List Value} {ws : va_W} {cc : ByteArray} {own : String} {cI : ClassId} {cZ : ClassId} {z : Nat → Nat} {y : MethodName} {bytes : ByteArray} {maxL : Nat} {nl : Nat} {index : Nat} {ret : Option FieldType} {wsc : List Cond} {rm : Room} {rm0 : Room} {l : Launch} {D : va_G} {Pc : Array Value → State → Prop} {Qc : Array Value → State → Outcome → State → Prop} {free : Addr → Prop} {av : List Value} {rest : List Value} {H : Heap} {locs : List Loc} {C : String} {T : u_T} {N ci a : Nat} {fs As : List Value} (q0 : Nat) (F : JF X cc own cI cZ z) (E : JE X l rm0 D nl) (hM : Met l y wsc rm Pc Qc 0 0 free) (hlk2 : Cond.methodLink own index y ∈ wsG) (hin : Cond.instanceMethod y ∈ wsG) (hse : Cond.selects C y y ∈ wsG) (hw : wsc = Cond.code y bytes maxL ret :: wsG) (hcd : Cond.code y bytes maxL ret ∈ wsG) (hi : Cond.initialized y.cls ∈ wsG) (ho : jOut y As.length) (hr : jRoom rm rm0 maxL k n) (hav : av = .ref a :: As) (hst : st = As.reverse ++ .ref a :: rest) (hrest : (rest.map fun v => v.category).sum ≤ 8) (hd : decode cc pc = .ok (.invokevirtual index, 3)) (hc : vwCl[ci]? = some (C, T, N)) (he : ws[q0]? = some (a, .inr (ci, fs))) (hP : va_P D vwCl ws H) (hp : jPre X H Pc av) : jRun X k n pc lv st H locs rest (Qc av.toArray) free := by
  obtain ⟨p, l, e, R, s, m, args, below, meth, c, Q, A, D, nL⟩ := X
  obtain ⟨hx, hb, hml, hown, hts, hlk, hK, hZ⟩ := F
  obtain ⟨rfl, rfl, rfl, rfl⟩ := E
  subst hav
  obtain ⟨⟨r1, r2⟩, r3, r4, r5⟩ := hr
  intro ls hl
  exact va_runV ⟨hx, hb, hml, hown, hts⟩ hM ⟨callB_of As.length hts (jgood hw hcd) hw r1 r2 (hts _ hi) (hts _ hlk2) ho r3, hts _ hin, hts _ hse⟩ ⟨hp.1, va_recv hK hP hc he, hp.2⟩ rfl rfl hl.1 hst (lv_room hrest) hd ⟨r4, r5⟩
theorem jrun_VS {X : jX} {b : Bool} {k : Nat} {n : Nat} {pc : Nat} {lv : List (Nat × Value)} {st : List Value} {ws : va_W} {cc : ByteArray} {own : String} {cI : ClassId} {cZ : ClassId} {z : Nat → Nat} {y : MethodName} {bytes : ByteArray} {maxL : Nat} {nl : Nat} {index : Nat} {ret : Option FieldType} {wsc : List Cond} {rm : Room} {rm0 : Room} {l : Launch} {D : va_G} {Pc : Array Value → State → Prop} {Qc : Array Value → State → Outcome → State → Prop} {free : Addr → Prop} {av : List Value} {rest : List Value} {H : Heap} {locs : List Loc} {i : Nat} {As : List Value} (F : JF X cc own cI cZ z) (E : JE X l rm0 D nl) (hM : Met l y wsc rm Pc Qc 0 0 free) (hlk2 : Cond.methodLink own index y ∈ wsG) (hin : Cond.instanceMethod y ∈ wsG) (hse : Cond.selects "java/lang/String" y y ∈ wsG) (hw : wsc = Cond.code y bytes maxL ret :: wsG) (hcd : Cond.code y bytes maxL ret ∈ wsG) (hi : Cond.initialized y.cls ∈ wsG) (ho : jOut y As.length) (hr : jRoom rm rm0 maxL k n) (hi2 : i < 2) (hav : av = .ref (z (3 + i)) :: As) (hst : st = As.reverse ++ .ref (z (3 + i)) :: rest) (hrest : (rest.map fun v => v.category).sum ≤ 8) (hd : decode cc pc = .ok (.invokevirtual index, 3)) (hI : jI X b ws H locs) (hp : jPre X H Pc av) : jRun X k n pc lv st H locs rest (Qc av.toArray) free := by
  obtain ⟨p, l, e, R, s, m, args, below, meth, c, Q, A, D, nL⟩ := X
  obtain ⟨hx, hb, hml, hown, hts, hlk, hK, hZ⟩ := F
  obtain ⟨rfl, rfl, rfl, rfl⟩ := E
  subst hav
  obtain ⟨⟨r1, r2⟩, r3, r4, r5⟩ := hr
  intro ls hl
  obtain ⟨-, -, -, -, -, -, -, -, -, -, h11, -⟩ := hZ
  exact va_runV ⟨hx, hb, hml, hown, hts⟩ hM ⟨callB_of As.length hts (jgood hw hcd) hw r1 r2 (hts _ hi) (hts _ hlk2) ho r3, hts _ hin, hts _ hse⟩ ⟨hp.1, vk_recv (i := i) (adK := fun i => z (3 + i)) h11 hi2 hI.S, hp.2⟩ rfl rfl hl.1 hst (lv_room hrest) hd ⟨r4, r5⟩
theorem jpre_R {X : jX} {b : Bool} {ws : va_W} {cc : ByteArray} {own : String} {cI : ClassId} {cZ : ClassId} {z : Nat → Nat} {l : Launch} {rm0 : Room} {D : va_G} {nl : Nat} {wc : va_W} {av : List Value} {H : Heap} {locs : List Loc} (F : JF X cc own cI cZ z) (E : JE X l rm0 D nl) (hs : va_P D vwCl ws H → va_P D vwCl wc H) (hI : jI X b ws H locs) : jPre X H (jPcR D cI cZ z wc av) av := by
  obtain ⟨p, l, e, R, s, m, args, below, meth, c, Q, A, D, nL⟩ := X
  obtain ⟨hx, hb, hml, hown, hts, hlk, hK, hZ⟩ := F
  obtain ⟨rfl, rfl, rfl, rfl⟩ := E
  refine ⟨fun a U g mk q => ?_, fun U hU hW => ⟨rfl, by rw [hU]; exact hs hI.1, va_K.moved hW.alike hK, hZ.go hW hU hI.S (fun _ h => h.elim)⟩⟩
  obtain ⟨q0, qP, qK, qZ⟩ := q
  exact ⟨q0, qP, va_K.moved (u := U) (U := U.calling g mk a) (Vm.Alike.refl U.vm) qK, jSt.bl (U := U) (V := U.calling g mk a) rfl rfl qZ⟩
theorem jA.of {p : Program} {l : Launch} {e : Env} {R : Room} {s : State} {m : MethodId} {args : Array Value} {below : List Frame} {meth : Method} {c : Code} {Q : State → Prop} {A : Nat → Prop} {D : va_G} {nL : Nat} {ws wc : va_W} {H : Heap} {locs : List Loc} (hA : jA (p, l, e, R, s, m, args, below, meth, c, Q, A, D, nL)) (hI : jI (p, l, e, R, s, m, args, below, meth, c, Q, A, D, nL) true ws H locs) (hs : ∀ (i : Nat) (q : Nat × va_E), wc[i]? = some q → ∃ (j : Nat) (q' : Nat × va_E), ws[j]? = some q' ∧ q'.1 = q.1) : ∀ q, va_A wc H.size q → A q := by
  intro q h
  rcases h with ⟨i, e, h⟩ | h
  · obtain ⟨j, q', h1, h2⟩ := hs i _ h
    have := hI.2.1.2 j q' h1
    rw [h2] at this
    exact this
  · exact hA q (Nat.le_trans hI.2.2.1 h)
theorem jpre_W {X : jX} {ws : va_W} {cc : ByteArray} {own : String} {cI : ClassId} {cZ : ClassId} {z : Nat → Nat} {l : Launch} {rm0 : Room} {D : va_G} {nl : Nat} {wc : va_W} {av : List Value} {H : Heap} {locs : List Loc} (F : JF X cc own cI cZ z) (E : JE X l rm0 D nl) (hA : jA X) (hs : va_P D vwCl ws H → va_P D vwCl wc H) (hsD : va_D (fun _ => True) ws → va_D (fun _ => True) wc) (hsA : ∀ (i : Nat) (q : Nat × va_E), wc[i]? = some q → ∃ (j : Nat) (q' : Nat × va_E), ws[j]? = some q' ∧ q'.1 = q.1) (hI : jI X true ws H locs) : jPre X H (jPcW D cI cZ z wc H.size av) av := by
  obtain ⟨p, l, e, R, s, m, args, below, meth, c, Q, A, D, nL⟩ := X
  obtain ⟨hx, hb, hml, hown, hts, hlk, hK, hZ⟩ := F
  obtain ⟨rfl, rfl, rfl, rfl⟩ := E
  refine ⟨fun a U g mk q => ?_, fun U hU hW => ⟨rfl, by rw [hU], by rw [hU]; exact hs hI.1, va_K.moved hW.alike hK, hsD (hI.2.1.weaken (fun _ _ _ _ => trivial)), hZ.go hW hU hI.S (hA.of hI hsA)⟩⟩
  obtain ⟨q0, q1, qP, qK, qD, qZ⟩ := q
  exact ⟨q0, q1, qP, va_K.moved (u := U) (U := U.calling g mk a) (Vm.Alike.refl U.vm) qK, qD, jSt.bl (U := U) (V := U.calling g mk a) rfl rfl qZ⟩
theorem J_goRi {X : jX} {b : Bool} {k : Nat} {n : Nat} {pc : Nat} {pc' : Nat} {lv : List (Nat × Value)} {st : List Value} {ws : va_W} {cc : ByteArray} {own : String} {cI : ClassId} {cZ : ClassId} {z : Nat → Nat} {l : Launch} {rm0 : Room} {D : va_G} {nl : Nat} {wc : va_W} {av rest : List Value} {post : Int32 → Prop} (F : JF X cc own cI cZ z) (E : JE X l rm0 D nl) (hs : ∀ H : Heap, va_P D vwCl ws H → va_P D vwCl wc H) (hrun : ∀ (H : Heap) (locs : List Loc), jI X b ws H locs → jPre X H (jPcR D cI cZ z wc av) av → jRun X k n pc lv st H locs rest (vp_Si post av.toArray) (fun _ => False)) (hn : pc + 3 = pc') (kk : ∀ r : Int32, post r → J X b k n pc' lv (.int r :: rest) ws) : J X b k n pc lv st ws := by
  have hpre := fun (H : Heap) (locs : List Loc) (hI : jI X b ws H locs) => jpre_R (av := av) F E (hs H) hI
  obtain ⟨p, l', e, R, s, m, args, below, meth, c, Q, A, D', nL⟩ := X
  obtain ⟨rfl, rfl, rfl, rfl⟩ := E
  subst hn
  intro H locs ls hI hl T hT XX
  obtain ⟨v, st₀, t, T', L, h0, X', hL, e1, e2, ⟨r, hv, hp, hh⟩, stp⟩ := hrun H locs hI (hpre H locs hI) ls hl T hT XX
  cases hv
  obtain ⟨t2, a1, b1⟩ := kk r hp H locs ls hI hl T' (by rw [e1, hh, h0]) (Stand.forget X' (fun q h => (hL q h).elim))
  exact ⟨t2, stp t2 a1, b1⟩
theorem J_goRl {X : jX} {b : Bool} {k : Nat} {n : Nat} {pc : Nat} {pc' : Nat} {lv : List (Nat × Value)} {st : List Value} {ws : va_W} {cc : ByteArray} {own : String} {cI : ClassId} {cZ : ClassId} {z : Nat → Nat} {l : Launch} {rm0 : Room} {D : va_G} {nl : Nat} {wc : va_W} {av rest : List Value} {post : Int64 → Prop} (F : JF X cc own cI cZ z) (E : JE X l rm0 D nl) (hs : ∀ H : Heap, va_P D vwCl ws H → va_P D vwCl wc H) (hrun : ∀ (H : Heap) (locs : List Loc), jI X b ws H locs → jPre X H (jPcR D cI cZ z wc av) av → jRun X k n pc lv st H locs rest (vp_Sl post av.toArray) (fun _ => False)) (hn : pc + 3 = pc') (kk : ∀ r : Int64, post r → J X b k n pc' lv (.long r :: rest) ws) : J X b k n pc lv st ws := by
  have hpre := fun (H : Heap) (locs : List Loc) (hI : jI X b ws H locs) => jpre_R (av := av) F E (hs H) hI
  obtain ⟨p, l', e, R, s, m, args, below, meth, c, Q, A, D', nL⟩ := X
  obtain ⟨rfl, rfl, rfl, rfl⟩ := E
  subst hn
  intro H locs ls hI hl T hT XX
  obtain ⟨v, st₀, t, T', L, h0, X', hL, e1, e2, ⟨r, hv, hp, hh⟩, stp⟩ := hrun H locs hI (hpre H locs hI) ls hl T hT XX
  cases hv
  obtain ⟨t2, a1, b1⟩ := kk r hp H locs ls hI hl T' (by rw [e1, hh, h0]) (Stand.forget X' (fun q h => (hL q h).elim))
  exact ⟨t2, stp t2 a1, b1⟩
theorem J_goRv {X : jX} {b : Bool} {k : Nat} {n : Nat} {pc : Nat} {pc' : Nat} {lv : List (Nat × Value)} {st : List Value} {ws : va_W} {cc : ByteArray} {own : String} {cI : ClassId} {cZ : ClassId} {z : Nat → Nat} {l : Launch} {rm0 : Room} {D : va_G} {nl : Nat} {wc : va_W} {av rest : List Value} {post : Unit → Prop} (F : JF X cc own cI cZ z) (E : JE X l rm0 D nl) (hs : ∀ H : Heap, va_P D vwCl ws H → va_P D vwCl wc H) (hrun : ∀ (H : Heap) (locs : List Loc), jI X b ws H locs → jPre X H (jPcR D cI cZ z wc av) av → jRun X k n pc lv st H locs rest (va_Sv post av.toArray) (fun _ => False)) (hn : pc + 3 = pc') (kk : post () → J X b k n pc' lv rest ws) : J X b k n pc lv st ws := by
  have hpre := fun (H : Heap) (locs : List Loc) (hI : jI X b ws H locs) => jpre_R (av := av) F E (hs H) hI
  obtain ⟨p, l', e, R, s, m, args, below, meth, c, Q, A, D', nL⟩ := X
  obtain ⟨rfl, rfl, rfl, rfl⟩ := E
  subst hn
  intro H locs ls hI hl T hT XX
  obtain ⟨v, st₀, t, T', L, h0, X', hL, e1, e2, ⟨hv, hp, hh⟩, stp⟩ := hrun H locs hI (hpre H locs hI) ls hl T hT XX
  cases hv
  obtain ⟨t2, a1, b1⟩ := kk hp H locs ls hI hl T' (by rw [e1, hh, h0]) (Stand.forget X' (fun q h => (hL q h).elim))
  exact ⟨t2, stp t2 a1, b1⟩
def jsubA (wc ws : va_W) : Prop := ∀ (i : Nat) (q : Nat × va_E), wc[i]? = some q → ∃ (j : Nat) (q' : Nat × va_E), ws[j]? = some q' ∧ q'.1 = q.1
theorem jsubA_rf (ws : va_W) : jsubA ws ws := fun i q h => ⟨i, q, h, rfl⟩
/-- how the caller's world goes over: from ws with wc in it to ws' with w1 in wc's place -/
def jOver (D : va_G) (ws wc w1 ws' : va_W) : Prop := ∀ (A0 : Nat → Prop) (H H1 : Heap), va_P D vwCl ws H → va_D A0 ws → (∀ q : Nat, q < H.size → ¬ va_A wc H.size q → H1[q]? = H[q]?) → (∀ q, va_A wc H.size q → A0 q) → va_P D vwCl w1 H1 → va_D (va_A wc H.size) w1 → va_P D vwCl ws' H1 ∧ va_D A0 ws'
theorem jOver_rf (D : va_G) (ws w1 : va_W) : jOver D ws ws w1 w1 := fun A0 H H1 hP hD hk hF hP1 hD1 => ⟨hP1, hD1.weaken (fun _ q _ h => hF _ h)⟩
theorem jOver_of {D : va_G} {ws wc wr w1 ws' : va_W} (isC isR is2 : List Nat) (hC : isC.map (fun i => ws[i]?) = wc.map some) (hR : isR.map (fun i => ws[i]?) = wr.map some) (hn : va_nd isR = true) (hdis : ∀ i ∈ isR, i ∉ isC) (h2 : is2.map (fun i => (wr ++ w1)[i]?) = ws'.map some) (hn2 : va_nd is2 = true) : jOver D ws wc w1 ws' := by
  intro A0 H H1 hP hD hk hF hP1 hD1
  obtain ⟨a, b⟩ := va_join hP hD isC isR hC hR hn hdis hk hF hP1 hD1
  refine ⟨?_, b.sub is2 hn2 h2⟩
  have h3 : is2.filterMap (fun i => (wr ++ w1)[i]?) = ws' := by
    have h4 : (is2.map (fun i => (wr ++ w1)[i]?)).filterMap id = (ws'.map some).filterMap id := by rw [h2]
    simpa [List.filterMap_map, Function.comp_def] using h4
  exact a.sub is2 h3
theorem J_goWi {X : jX} {k : Nat} {n : Nat} {pc : Nat} {pc' : Nat} {lv : List (Nat × Value)} {st : List Value} {ws : va_W} {cc : ByteArray} {own : String} {cI : ClassId} {cZ : ClassId} {z : Nat → Nat} {l : Launch} {rm0 : Room} {D : va_G} {nl : Nat} {σ : Type} {wf : σ → va_W} {w0 : va_W} {av rest : List Value} {post : Int32 → σ → Prop} (ws' : σ → va_W) (F : JF X cc own cI cZ z) (E : JE X l rm0 D nl) (hA : jA X) (hs : ∀ H : Heap, va_P D vwCl ws H → va_P D vwCl w0 H) (hsD : va_D (fun _ => True) ws → va_D (fun _ => True) w0) (hsA : jsubA w0 ws) (hov : ∀ u : σ, jOver D ws w0 (wf u) (ws' u)) (hrun : ∀ (H : Heap) (locs : List Loc), jI X true ws H locs → jPre X H (jPcW D cI cZ z w0 H.size av) av → jRun X k n pc lv st H locs rest (va_Qi post (jBW D wf w0 H.size) (va_A w0 H.size) av.toArray) (va_A w0 H.size)) (hn : pc + 3 = pc') (kk : ∀ (r : Int32) (u : σ), post r u → J X true k n pc' lv (.int r :: rest) (ws' u)) : J X true k n pc lv st ws := by
  have hpre := fun (H : Heap) (locs : List Loc) (hI : jI X true ws H locs) => jpre_W (av := av) F E hA (hs H) hsD hsA hI
  obtain ⟨p, l', e, R, s, m, args, below, meth, c, Q, A, D', nL⟩ := X
  obtain ⟨rfl, rfl, rfl, rfl⟩ := E
  subst hn
  intro H locs ls hI hl
  have hF := hA.of hI hsA
  refine va_calli (hrun H locs hI (hpre H locs hI) ls hl) hI.2.2 (fun q _ h => hF q h) hF (fun r u t H1 locs1 ht hvm hw hB hz1 hk1 hS1 => ?_)
  subst ht
  obtain ⟨a1, a2⟩ := hov u A H t.heap hI.1 hI.2.1 hk1 hF hB.1 hB.2
  exact kk r u hw t.heap locs1 ls ⟨a1, a2, hS1⟩ hl
theorem J_goWl {X : jX} {k : Nat} {n : Nat} {pc : Nat} {pc' : Nat} {lv : List (Nat × Value)} {st : List Value} {ws : va_W} {cc : ByteArray} {own : String} {cI : ClassId} {cZ : ClassId} {z : Nat → Nat} {l : Launch} {rm0 : Room} {D : va_G} {nl : Nat} {σ : Type} {wf : σ → va_W} {w0 : va_W} {av rest : List Value} {post : Int64 → σ → Prop} (ws' : σ → va_W) (F : JF X cc own cI cZ z) (E : JE X l rm0 D nl) (hA : jA X) (hs : ∀ H : Heap, va_P D vwCl ws H → va_P D vwCl w0 H) (hsD : va_D (fun _ => True) ws → va_D (fun _ => True) w0) (hsA : jsubA w0 ws) (hov : ∀ u : σ, jOver D ws w0 (wf u) (ws' u)) (hrun : ∀ (H : Heap) (locs : List Loc), jI X true ws H locs → jPre X H (jPcW D cI cZ z w0 H.size av) av → jRun X k n pc lv st H locs rest (va_Ql post (jBW D wf w0 H.size) (va_A w0 H.size) av.toArray) (va_A w0 H.size)) (hn : pc + 3 = pc') (kk : ∀ (r : Int64) (u : σ), post r u → J X true k n pc' lv (.long r :: rest) (ws' u)) : J X true k n pc lv st ws := by
  have hpre := fun (H : Heap) (locs : List Loc) (hI : jI X true ws H locs) => jpre_W (av := av) F E hA (hs H) hsD hsA hI
  obtain ⟨p, l', e, R, s, m, args, below, meth, c, Q, A, D', nL⟩ := X
  obtain ⟨rfl, rfl, rfl, rfl⟩ := E
  subst hn
  intro H locs ls hI hl
  have hF := hA.of hI hsA
  refine va_calll (hrun H locs hI (hpre H locs hI) ls hl) hI.2.2 (fun q _ h => hF q h) hF (fun r u t H1 locs1 ht hvm hw hB hz1 hk1 hS1 => ?_)
  subst ht
  obtain ⟨a1, a2⟩ := hov u A H t.heap hI.1 hI.2.1 hk1 hF hB.1 hB.2
  exact kk r u hw t.heap locs1 ls ⟨a1, a2, hS1⟩ hl
theorem J_goWv {X : jX} {k : Nat} {n : Nat} {pc : Nat} {pc' : Nat} {lv : List (Nat × Value)} {st : List Value} {ws : va_W} {cc : ByteArray} {own : String} {cI : ClassId} {cZ : ClassId} {z : Nat → Nat} {l : Launch} {rm0 : Room} {D : va_G} {nl : Nat} {σ : Type} {wf : σ → va_W} {w0 : va_W} {av rest : List Value} {post : σ → Prop} (ws' : σ → va_W) (F : JF X cc own cI cZ z) (E : JE X l rm0 D nl) (hA : jA X) (hs : ∀ H : Heap, va_P D vwCl ws H → va_P D vwCl w0 H) (hsD : va_D (fun _ => True) ws → va_D (fun _ => True) w0) (hsA : jsubA w0 ws) (hov : ∀ u : σ, jOver D ws w0 (wf u) (ws' u)) (hrun : ∀ (H : Heap) (locs : List Loc), jI X true ws H locs → jPre X H (jPcW D cI cZ z w0 H.size av) av → jRun X k n pc lv st H locs rest (va_Qv post (jBW D wf w0 H.size) (va_A w0 H.size) av.toArray) (va_A w0 H.size)) (hn : pc + 3 = pc') (kk : ∀ u : σ, post u → J X true k n pc' lv (rest) (ws' u)) : J X true k n pc lv st ws := by
  have hpre := fun (H : Heap) (locs : List Loc) (hI : jI X true ws H locs) => jpre_W (av := av) F E hA (hs H) hsD hsA hI
  obtain ⟨p, l', e, R, s, m, args, below, meth, c, Q, A, D', nL⟩ := X
  obtain ⟨rfl, rfl, rfl, rfl⟩ := E
  subst hn
  intro H locs ls hI hl
  have hF := hA.of hI hsA
  refine va_callv (hrun H locs hI (hpre H locs hI) ls hl) hI.2.2 (fun q _ h => hF q h) hF (fun u t H1 locs1 ht hvm hw hB hz1 hk1 hS1 => ?_)
  subst ht
  obtain ⟨a1, a2⟩ := hov u A H t.heap hI.1 hI.2.1 hk1 hF hB.1 hB.2
  exact kk u hw t.heap locs1 ls ⟨a1, a2, hS1⟩ hl
end
section
/-! the worlds: the class under proof (wC) and the reference (wM), all cells of one object each; a row for each field and each row of numbers -/
abbrev uC : Type := (Nat → Int32) × (Nat → Nat → Int32)
abbrev uM : Type := (Nat → Int32) × (Nat → Nat → Int32) × Int64
def wC (cI : ClassId) (g : Nat → Nat) (sc : Nat → Int32) (ar : Nat → Nat → Int32) : va_W := [(g 0, .inr (5, [.ref (g 1), .int (sc 0), .ref (g 2), .int (sc 1), .ref (g 6), .ref (g 8), .int (sc 2), .int (sc 3), .int (sc 4), .ref (g 10), .ref (g 15), .ref (g 18)])),
  (g 1, .inl (cI, 16, .inl (ar 0))),
  (g 2, .inr (2, [.ref (g 3), .ref (g 4), .ref (g 5), .int (sc 5), .int (sc 6)])),
  (g 3, .inl (cI, 3, .inl (ar 1))),
  (g 4, .inl (cI, 3, .inl (ar 2))),
  (g 5, .inl (cI, 3, .inl (ar 3))),
  (g 6, .inr (3, [.int (sc 7), .int (sc 8), .int (sc 9), .int (sc 10), .ref (g 7), .int (sc 11)])),
  (g 7, .inl (cI, 4, .inl (ar 4))),
  (g 8, .inr (3, [.int (sc 12), .int (sc 13), .int (sc 14), .int (sc 15), .ref (g 9), .int (sc 16)])),
  (g 9, .inl (cI, 4, .inl (ar 5))),
  (g 10, .inr (4, [.ref (g 11), .ref (g 12), .ref (g 13), .ref (g 14), .int (sc 17), .int (sc 18), .int (sc 19), .int (sc 20), .int (sc 21), .int (sc 22), .int (sc 23)])),
  (g 11, .inl (cI, 4096, .inl (ar 6))),
  (g 12, .inl (cI, 4096, .inl (ar 7))),
  (g 13, .inl (cI, 20480, .inl (ar 8))),
  (g 14, .inl (cI, 5, .inl (ar 9))),
  (g 15, .inr (0, [.ref (g 16), .ref (g 17)])),
  (g 16, .inl (cI, 4096, .inl (ar 10))),
  (g 17, .inl (cI, 13, .inl (ar 11))),
  (g 18, .inr (1, [.int (sc 24), .int (sc 25), .int (sc 26)]))]
def wM (cI cZ : ClassId) (g : Nat → Nat) (sc : Nat → Int32) (ar : Nat → Nat → Int32) (hs : Int64) : va_W := [(g 0, .inr (6, [.ref (g 1), .int (sc 1), .int (sc 2), .int (sc 3), .int (sc 4), .int (sc 5), .int (sc 6), .int (sc 7), .int (sc 8), .int (sc 9), .ref (g 2), .ref (g 3), .ref (g 4), .ref (g 5), .ref (g 6), .int (sc 15), .int (sc 16), .ref (g 7), .ref (g 8), .ref (g 9), .int (sc 20), .int (sc 21), .int (sc 22), .int (sc 23), .int (sc 24), .int (sc 25), .int (sc 26), .int (sc 27), .int (sc 28), .int (sc 29), .ref (g 10), .long hs])),
  (g 1, .inl (cI, 16, .inl (ar 0))),
  (g 2, .inl (cI, 3, .inl (ar 1))),
  (g 3, .inl (cI, 4096, .inl (ar 2))),
  (g 4, .inl (cI, 4096, .inl (ar 3))),
  (g 5, .inl (cI, 4096, .inl (ar 4))),
  (g 6, .inl (cZ, 4096, .inl (ar 5))),
  (g 7, .inl (cI, 4, .inl (ar 6))),
  (g 8, .inl (cI, 4096, .inl (ar 7))),
  (g 9, .inl (cI, 4096, .inl (ar 8))),
  (g 10, .inl (cI, 4, .inl (ar 9)))]
abbrev fC (cI : ClassId) (g : Nat → Nat) : uC → va_W := fun u => wC cI g u.1 u.2
abbrev fM (cI cZ : ClassId) (g : Nat → Nat) : uM → va_W := fun u => wM cI cZ g u.1 u.2.1 u.2.2
theorem inG_X0 : ∀ w ∈ wsX00, w ∈ wsG := by
  intro w h
  have h2 : w ∈ [u_lay RX0 TX0 0, u_lay RX0 TX0 1] := h
  simp only [List.mem_cons, List.not_mem_nil, or_false] at h2
  rcases h2 with rfl | rfl
  · exact kw_138
  · exact kw_140
theorem inG_X1 : ∀ w ∈ wsX10, w ∈ wsG := by
  intro w h
  have h2 : w ∈ [u_lay RX1 TX1 0, u_lay RX1 TX1 1, u_lay RX1 TX1 2] := h
  simp only [List.mem_cons, List.not_mem_nil, or_false] at h2
  rcases h2 with rfl | rfl | rfl
  · exact kw_155
  · exact kw_157
  · exact kw_159
theorem inG_X2 : ∀ w ∈ wsX20, w ∈ wsG := by
  intro w h
  have h2 : w ∈ [u_lay RX2 TX2 0, u_lay RX2 TX2 1, u_lay RX2 TX2 2, u_lay RX2 TX2 3, u_lay RX2 TX2 4] := h
  simp only [List.mem_cons, List.not_mem_nil, or_false] at h2
  rcases h2 with rfl | rfl | rfl | rfl | rfl
  · exact kw_40
  · exact kw_42
  · exact kw_44
  · exact kw_46
  · exact kw_48
theorem inG_X3 : ∀ w ∈ wsX30, w ∈ wsG := by
  intro w h
  have h2 : w ∈ [u_lay RX3 TX3 0, u_lay RX3 TX3 1, u_lay RX3 TX3 2, u_lay RX3 TX3 3, u_lay RX3 TX3 4, u_lay RX3 TX3 5] := h
  simp only [List.mem_cons, List.not_mem_nil, or_false] at h2
  rcases h2 with rfl | rfl | rfl | rfl | rfl | rfl
  · exact kw_73
  · exact kw_75
  · exact kw_77
  · exact kw_79
  · exact kw_81
  · exact kw_83
theorem inG_X4 : ∀ w ∈ wsX40, w ∈ wsG := by
  intro w h
  have h2 : w ∈ [u_lay RX4 TX4 0, u_lay RX4 TX4 1, u_lay RX4 TX4 2, u_lay RX4 TX4 3, u_lay RX4 TX4 4, u_lay RX4 TX4 5, u_lay RX4 TX4 6, u_lay RX4 TX4 7, u_lay RX4 TX4 8, u_lay RX4 TX4 9, u_lay RX4 TX4 10] := h
  simp only [List.mem_cons, List.not_mem_nil, or_false] at h2
  rcases h2 with rfl | rfl | rfl | rfl | rfl | rfl | rfl | rfl | rfl | rfl | rfl
  · exact kw_107
  · exact kw_109
  · exact kw_111
  · exact kw_113
  · exact kw_115
  · exact kw_117
  · exact kw_119
  · exact kw_121
  · exact kw_123
  · exact kw_125
  · exact kw_127
theorem inG_X5 : ∀ w ∈ wsX50, w ∈ wsG := by
  intro w h
  have h2 : w ∈ [u_lay RX5 TX5 0, u_lay RX5 TX5 1, u_lay RX5 TX5 2, u_lay RX5 TX5 3, u_lay RX5 TX5 4, u_lay RX5 TX5 5, u_lay RX5 TX5 6, u_lay RX5 TX5 7, u_lay RX5 TX5 8, u_lay RX5 TX5 9, u_lay RX5 TX5 10, u_lay RX5 TX5 11] := h
  simp only [List.mem_cons, List.not_mem_nil, or_false] at h2
  rcases h2 with rfl | rfl | rfl | rfl | rfl | rfl | rfl | rfl | rfl | rfl | rfl | rfl
  · exact kw_174
  · exact kw_176
  · exact kw_178
  · exact kw_180
  · exact kw_182
  · exact kw_184
  · exact kw_186
  · exact kw_188
  · exact kw_190
  · exact kw_192
  · exact kw_194
  · exact kw_196
theorem inG_X6 : ∀ w ∈ wsX60, w ∈ wsG := by
  intro w h
  have h2 : w ∈ [u_lay RX6 TX6 0, u_lay RX6 TX6 1, u_lay RX6 TX6 2, u_lay RX6 TX6 3, u_lay RX6 TX6 4, u_lay RX6 TX6 5, u_lay RX6 TX6 6, u_lay RX6 TX6 7, u_lay RX6 TX6 8, u_lay RX6 TX6 9, u_lay RX6 TX6 10, u_lay RX6 TX6 11, u_lay RX6 TX6 12, u_lay RX6 TX6 13, u_lay RX6 TX6 14, u_lay RX6 TX6 15, u_lay RX6 TX6 16, u_lay RX6 TX6 17, u_lay RX6 TX6 18, u_lay RX6 TX6 19, u_lay RX6 TX6 20, u_lay RX6 TX6 21, u_lay RX6 TX6 22, u_lay RX6 TX6 23, u_lay RX6 TX6 24, u_lay RX6 TX6 25, u_lay RX6 TX6 26, u_lay RX6 TX6 27, u_lay RX6 TX6 28, u_lay RX6 TX6 29, u_lay RX6 TX6 30, u_lay RX6 TX6 31] := h
  simp only [List.mem_cons, List.not_mem_nil, or_false] at h2
  rcases h2 with rfl | rfl | rfl | rfl | rfl | rfl | rfl | rfl | rfl | rfl | rfl | rfl | rfl | rfl | rfl | rfl | rfl | rfl | rfl | rfl | rfl | rfl | rfl | rfl | rfl | rfl | rfl | rfl | rfl | rfl | rfl | rfl
  · exact kw_611
  · exact kw_613
  · exact kw_615
  · exact kw_617
  · exact kw_619
  · exact kw_621
  · exact kw_623
  · exact kw_625
  · exact kw_627
  · exact kw_629
  · exact kw_631
  · exact kw_633
  · exact kw_635
  · exact kw_637
  · exact kw_639
  · exact kw_641
  · exact kw_643
  · exact kw_645
  · exact kw_647
  · exact kw_649
  · exact kw_651
  · exact kw_653
  · exact kw_655
  · exact kw_657
  · exact kw_659
  · exact kw_661
  · exact kw_663
  · exact kw_665
  · exact kw_667
  · exact kw_669
  · exact kw_671
  · exact kw_673
theorem C_get_0_0 {X : jX} {b : Bool} {k n pc pc' : Nat} {lv : List (Nat × Value)} {st : List Value} {cc : ByteArray} {own : String} {cI cZ : ClassId} {z g : Nat → Nat} {sc : Nat → Int32} {ar : Nat → Nat → Int32} {index : Nat} (F : JF X cc own cI cZ z) (hd : decode cc pc = .ok (.getfield index, 3)) (hlink : Cond.fieldLink own index "EvenHold" "page" "[I" ∈ wsG) (hn : pc + 3 = pc') (kk : J X b k n pc' lv (.ref (g 1) :: st) (wC cI g sc ar)) : J X b k n pc lv (.ref (g 0) :: st) (wC cI g sc ar) := J_get 0 0 F hd inG_X5 rfl rfl (by decide) rfl hlink rfl hn kk
theorem C_get_0_1 {X : jX} {b : Bool} {k n pc pc' : Nat} {lv : List (Nat × Value)} {st : List Value} {cc : ByteArray} {own : String} {cI cZ : ClassId} {z g : Nat → Nat} {sc : Nat → Int32} {ar : Nat → Nat → Int32} {index : Nat} {v : Int32} (F : JF X cc own cI cZ z) (hd : decode cc pc = .ok (.getfield index, 3)) (hlink : Cond.fieldLink own index "EvenHold" "letters" "I" ∈ wsG) (hv : sc 0 = v) (hn : pc + 3 = pc') (kk : J X b k n pc' lv (.int v :: st) (wC cI g sc ar)) : J X b k n pc lv (.ref (g 0) :: st) (wC cI g sc ar) := by
  subst hv
  exact J_get 0 1 F hd inG_X5 rfl rfl (by decide) rfl hlink rfl hn kk
theorem C_put_0_1 {X : jX} {k n pc pc' : Nat} {lv : List (Nat × Value)} {st : List Value} {cc : ByteArray} {own : String} {cI cZ : ClassId} {z g : Nat → Nat} {sc : Nat → Int32} {ar : Nat → Nat → Int32} {index : Nat} {v : Int32} (F : JF X cc own cI cZ z) (hd : decode cc pc = .ok (.putfield index, 3)) (hlink : Cond.fieldLink own index "EvenHold" "letters" "I" ∈ wsG) (hn : pc + 3 = pc') (kk : J X true k n pc' lv st (wC cI g (upd sc 0 v) ar)) : J X true k n pc lv (.int v :: .ref (g 0) :: st) (wC cI g sc ar) := J_put (ty := .int) 0 1 F hd inG_X5 tyX5 tyX5_ok nmX5 rfl rfl (by decide) rfl hlink rfl (tyX5_ok 1 (by decide)) rfl rfl (Nat.le_of_ble_eq_true rfl) rfl hn kk
theorem C_get_0_2 {X : jX} {b : Bool} {k n pc pc' : Nat} {lv : List (Nat × Value)} {st : List Value} {cc : ByteArray} {own : String} {cI cZ : ClassId} {z g : Nat → Nat} {sc : Nat → Int32} {ar : Nat → Nat → Int32} {index : Nat} (F : JF X cc own cI cZ z) (hd : decode cc pc = .ok (.getfield index, 3)) (hlink : Cond.fieldLink own index "EvenHold" "lighter" "LEvenHold$Lighter;" ∈ wsG) (hn : pc + 3 = pc') (kk : J X b k n pc' lv (.ref (g 2) :: st) (wC cI g sc ar)) : J X b k n pc lv (.ref (g 0) :: st) (wC cI g sc ar) := J_get 0 2 F hd inG_X5 rfl rfl (by decide) rfl hlink rfl hn kk
theorem C_get_0_3 {X : jX} {b : Bool} {k n pc pc' : Nat} {lv : List (Nat × Value)} {st : List Value} {cc : ByteArray} {own : String} {cI cZ : ClassId} {z g : Nat → Nat} {sc : Nat → Int32} {ar : Nat → Nat → Int32} {index : Nat} {v : Int32} (F : JF X cc own cI cZ z) (hd : decode cc pc = .ok (.getfield index, 3)) (hlink : Cond.fieldLink own index "EvenHold" "held" "Z" ∈ wsG) (hv : sc 1 = v) (hn : pc + 3 = pc') (kk : J X b k n pc' lv (.int v :: st) (wC cI g sc ar)) : J X b k n pc lv (.ref (g 0) :: st) (wC cI g sc ar) := by
  subst hv
  exact J_get 0 3 F hd inG_X5 rfl rfl (by decide) rfl hlink rfl hn kk
theorem C_put_0_3 {X : jX} {k n pc pc' : Nat} {lv : List (Nat × Value)} {st : List Value} {cc : ByteArray} {own : String} {cI cZ : ClassId} {z g : Nat → Nat} {sc : Nat → Int32} {ar : Nat → Nat → Int32} {index : Nat} {v : Int32} (F : JF X cc own cI cZ z) (hd : decode cc pc = .ok (.putfield index, 3)) (hlink : Cond.fieldLink own index "EvenHold" "held" "Z" ∈ wsG) (hz : v = 0 ∨ v = 1) (hn : pc + 3 = pc') (kk : J X true k n pc' lv st (wC cI g (upd sc 1 v) ar)) : J X true k n pc lv (.int v :: .ref (g 0) :: st) (wC cI g sc ar) := J_put (ty := .boolean) 0 3 F hd inG_X5 tyX5 tyX5_ok nmX5 rfl rfl (by decide) rfl hlink rfl (tyX5_ok 3 (by decide)) (by rcases hz with rfl | rfl <;> rfl) (by rcases hz with rfl | rfl <;> rfl) (Nat.le_of_ble_eq_true rfl) rfl hn kk
theorem C_get_0_4 {X : jX} {b : Bool} {k n pc pc' : Nat} {lv : List (Nat × Value)} {st : List Value} {cc : ByteArray} {own : String} {cI cZ : ClassId} {z g : Nat → Nat} {sc : Nat → Int32} {ar : Nat → Nat → Int32} {index : Nat} (F : JF X cc own cI cZ z) (hd : decode cc pc = .ok (.getfield index, 3)) (hlink : Cond.fieldLink own index "EvenHold" "now" "LEvenHold$Now;" ∈ wsG) (hn : pc + 3 = pc') (kk : J X b k n pc' lv (.ref (g 6) :: st) (wC cI g sc ar)) : J X b k n pc lv (.ref (g 0) :: st) (wC cI g sc ar) := J_get 0 4 F hd inG_X5 rfl rfl (by decide) rfl hlink rfl hn kk
theorem C_get_0_5 {X : jX} {b : Bool} {k n pc pc' : Nat} {lv : List (Nat × Value)} {st : List Value} {cc : ByteArray} {own : String} {cI cZ : ClassId} {z g : Nat → Nat} {sc : Nat → Int32} {ar : Nat → Nat → Int32} {index : Nat} (F : JF X cc own cI cZ z) (hd : decode cc pc = .ok (.getfield index, 3)) (hlink : Cond.fieldLink own index "EvenHold" "kept" "LEvenHold$Now;" ∈ wsG) (hn : pc + 3 = pc') (kk : J X b k n pc' lv (.ref (g 8) :: st) (wC cI g sc ar)) : J X b k n pc lv (.ref (g 0) :: st) (wC cI g sc ar) := J_get 0 5 F hd inG_X5 rfl rfl (by decide) rfl hlink rfl hn kk
theorem C_get_0_6 {X : jX} {b : Bool} {k n pc pc' : Nat} {lv : List (Nat × Value)} {st : List Value} {cc : ByteArray} {own : String} {cI cZ : ClassId} {z g : Nat → Nat} {sc : Nat → Int32} {ar : Nat → Nat → Int32} {index : Nat} {v : Int32} (F : JF X cc own cI cZ z) (hd : decode cc pc = .ok (.getfield index, 3)) (hlink : Cond.fieldLink own index "EvenHold" "isKept" "Z" ∈ wsG) (hv : sc 2 = v) (hn : pc + 3 = pc') (kk : J X b k n pc' lv (.int v :: st) (wC cI g sc ar)) : J X b k n pc lv (.ref (g 0) :: st) (wC cI g sc ar) := by
  subst hv
  exact J_get 0 6 F hd inG_X5 rfl rfl (by decide) rfl hlink rfl hn kk
theorem C_put_0_6 {X : jX} {k n pc pc' : Nat} {lv : List (Nat × Value)} {st : List Value} {cc : ByteArray} {own : String} {cI cZ : ClassId} {z g : Nat → Nat} {sc : Nat → Int32} {ar : Nat → Nat → Int32} {index : Nat} {v : Int32} (F : JF X cc own cI cZ z) (hd : decode cc pc = .ok (.putfield index, 3)) (hlink : Cond.fieldLink own index "EvenHold" "isKept" "Z" ∈ wsG) (hz : v = 0 ∨ v = 1) (hn : pc + 3 = pc') (kk : J X true k n pc' lv st (wC cI g (upd sc 2 v) ar)) : J X true k n pc lv (.int v :: .ref (g 0) :: st) (wC cI g sc ar) := J_put (ty := .boolean) 0 6 F hd inG_X5 tyX5 tyX5_ok nmX5 rfl rfl (by decide) rfl hlink rfl (tyX5_ok 6 (by decide)) (by rcases hz with rfl | rfl <;> rfl) (by rcases hz with rfl | rfl <;> rfl) (Nat.le_of_ble_eq_true rfl) rfl hn kk
theorem C_get_0_7 {X : jX} {b : Bool} {k n pc pc' : Nat} {lv : List (Nat × Value)} {st : List Value} {cc : ByteArray} {own : String} {cI cZ : ClassId} {z g : Nat → Nat} {sc : Nat → Int32} {ar : Nat → Nat → Int32} {index : Nat} {v : Int32} (F : JF X cc own cI cZ z) (hd : decode cc pc = .ok (.getfield index, 3)) (hlink : Cond.fieldLink own index "EvenHold" "reads" "I" ∈ wsG) (hv : sc 3 = v) (hn : pc + 3 = pc') (kk : J X b k n pc' lv (.int v :: st) (wC cI g sc ar)) : J X b k n pc lv (.ref (g 0) :: st) (wC cI g sc ar) := by
  subst hv
  exact J_get 0 7 F hd inG_X5 rfl rfl (by decide) rfl hlink rfl hn kk
theorem C_put_0_7 {X : jX} {k n pc pc' : Nat} {lv : List (Nat × Value)} {st : List Value} {cc : ByteArray} {own : String} {cI cZ : ClassId} {z g : Nat → Nat} {sc : Nat → Int32} {ar : Nat → Nat → Int32} {index : Nat} {v : Int32} (F : JF X cc own cI cZ z) (hd : decode cc pc = .ok (.putfield index, 3)) (hlink : Cond.fieldLink own index "EvenHold" "reads" "I" ∈ wsG) (hn : pc + 3 = pc') (kk : J X true k n pc' lv st (wC cI g (upd sc 3 v) ar)) : J X true k n pc lv (.int v :: .ref (g 0) :: st) (wC cI g sc ar) := J_put (ty := .int) 0 7 F hd inG_X5 tyX5 tyX5_ok nmX5 rfl rfl (by decide) rfl hlink rfl (tyX5_ok 7 (by decide)) rfl rfl (Nat.le_of_ble_eq_true rfl) rfl hn kk
theorem C_get_0_8 {X : jX} {b : Bool} {k n pc pc' : Nat} {lv : List (Nat × Value)} {st : List Value} {cc : ByteArray} {own : String} {cI cZ : ClassId} {z g : Nat → Nat} {sc : Nat → Int32} {ar : Nat → Nat → Int32} {index : Nat} {v : Int32} (F : JF X cc own cI cZ z) (hd : decode cc pc = .ok (.getfield index, 3)) (hlink : Cond.fieldLink own index "EvenHold" "easings" "I" ∈ wsG) (hv : sc 4 = v) (hn : pc + 3 = pc') (kk : J X b k n pc' lv (.int v :: st) (wC cI g sc ar)) : J X b k n pc lv (.ref (g 0) :: st) (wC cI g sc ar) := by
  subst hv
  exact J_get 0 8 F hd inG_X5 rfl rfl (by decide) rfl hlink rfl hn kk
theorem C_put_0_8 {X : jX} {k n pc pc' : Nat} {lv : List (Nat × Value)} {st : List Value} {cc : ByteArray} {own : String} {cI cZ : ClassId} {z g : Nat → Nat} {sc : Nat → Int32} {ar : Nat → Nat → Int32} {index : Nat} {v : Int32} (F : JF X cc own cI cZ z) (hd : decode cc pc = .ok (.putfield index, 3)) (hlink : Cond.fieldLink own index "EvenHold" "easings" "I" ∈ wsG) (hn : pc + 3 = pc') (kk : J X true k n pc' lv st (wC cI g (upd sc 4 v) ar)) : J X true k n pc lv (.int v :: .ref (g 0) :: st) (wC cI g sc ar) := J_put (ty := .int) 0 8 F hd inG_X5 tyX5 tyX5_ok nmX5 rfl rfl (by decide) rfl hlink rfl (tyX5_ok 8 (by decide)) rfl rfl (Nat.le_of_ble_eq_true rfl) rfl hn kk
theorem C_get_0_9 {X : jX} {b : Bool} {k n pc pc' : Nat} {lv : List (Nat × Value)} {st : List Value} {cc : ByteArray} {own : String} {cI cZ : ClassId} {z g : Nat → Nat} {sc : Nat → Int32} {ar : Nat → Nat → Int32} {index : Nat} (F : JF X cc own cI cZ z) (hd : decode cc pc = .ok (.getfield index, 3)) (hlink : Cond.fieldLink own index "EvenHold" "outlook" "LEvenHold$Outlook;" ∈ wsG) (hn : pc + 3 = pc') (kk : J X b k n pc' lv (.ref (g 10) :: st) (wC cI g sc ar)) : J X b k n pc lv (.ref (g 0) :: st) (wC cI g sc ar) := J_get 0 9 F hd inG_X5 rfl rfl (by decide) rfl hlink rfl hn kk
theorem C_get_0_10 {X : jX} {b : Bool} {k n pc pc' : Nat} {lv : List (Nat × Value)} {st : List Value} {cc : ByteArray} {own : String} {cI cZ : ClassId} {z g : Nat → Nat} {sc : Nat → Int32} {ar : Nat → Nat → Int32} {index : Nat} (F : JF X cc own cI cZ z) (hd : decode cc pc = .ok (.getfield index, 3)) (hlink : Cond.fieldLink own index "EvenHold" "easing" "LEvenHold$Easing;" ∈ wsG) (hn : pc + 3 = pc') (kk : J X b k n pc' lv (.ref (g 15) :: st) (wC cI g sc ar)) : J X b k n pc lv (.ref (g 0) :: st) (wC cI g sc ar) := J_get 0 10 F hd inG_X5 rfl rfl (by decide) rfl hlink rfl hn kk
theorem C_get_0_11 {X : jX} {b : Bool} {k n pc pc' : Nat} {lv : List (Nat × Value)} {st : List Value} {cc : ByteArray} {own : String} {cI cZ : ClassId} {z g : Nat → Nat} {sc : Nat → Int32} {ar : Nat → Nat → Int32} {index : Nat} (F : JF X cc own cI cZ z) (hd : decode cc pc = .ok (.getfield index, 3)) (hlink : Cond.fieldLink own index "EvenHold" "fit" "LEvenHold$Fit;" ∈ wsG) (hn : pc + 3 = pc') (kk : J X b k n pc' lv (.ref (g 18) :: st) (wC cI g sc ar)) : J X b k n pc lv (.ref (g 0) :: st) (wC cI g sc ar) := J_get 0 11 F hd inG_X5 rfl rfl (by decide) rfl hlink rfl hn kk
theorem C_ld_0 {X : jX} {b : Bool} {k n pc pc' : Nat} {lv : List (Nat × Value)} {st : List Value} {cc : ByteArray} {own : String} {cI cZ : ClassId} {z g : Nat → Nat} {sc : Nat → Int32} {ar : Nat → Nat → Int32} {f : Nat → Int32} {i : Int32} {q : Nat} (F : JF X cc own cI cZ z) (hd : decode cc pc = .ok (.iaload, 1)) (hf : ar 0 = f) (hq : i.toNatClampNeg = q) (hin : vp_in i 16) (hn : pc + 1 = pc') (kk : J X b k n pc' lv (.int (f q) :: st) (wC cI g sc ar)) : J X b k n pc lv (.int i :: .ref (g 1) :: st) (wC cI g sc ar) := by
  subst hf; subst hq
  exact J_iald 1 F hd rfl hin hn kk
theorem C_st_0 {X : jX} {k n pc pc' : Nat} {lv : List (Nat × Value)} {st : List Value} {cc : ByteArray} {own : String} {cI cZ : ClassId} {z g : Nat → Nat} {sc : Nat → Int32} {ar : Nat → Nat → Int32} {f : Nat → Int32} {i x : Int32} {q : Nat} (F : JF X cc own cI cZ z) (hd : decode cc pc = .ok (.iastore, 1)) (hf : ar 0 = f) (hq : i.toNatClampNeg = q) (hin : vp_in i 16) (hn : pc + 1 = pc') (kk : J X true k n pc' lv st (wC cI g sc (va_up ar 0 (upd f q x)))) : J X true k n pc lv (.int x :: .int i :: .ref (g 1) :: st) (wC cI g sc ar) := by
  subst hf; subst hq
  exact J_iast 1 F hd rfl hin rfl hn kk
theorem C_len_0 {X : jX} {b : Bool} {k n pc pc' : Nat} {lv : List (Nat × Value)} {st : List Value} {cc : ByteArray} {own : String} {cI cZ : ClassId} {z g : Nat → Nat} {sc : Nat → Int32} {ar : Nat → Nat → Int32} (F : JF X cc own cI cZ z) (hd : decode cc pc = .ok (.arraylength, 1)) (hn : pc + 1 = pc') (kk : J X b k n pc' lv (.int 16 :: st) (wC cI g sc ar)) : J X b k n pc lv (.ref (g 1) :: st) (wC cI g sc ar) := J_alen 1 F hd rfl rfl hn kk
theorem C_get_2_0 {X : jX} {b : Bool} {k n pc pc' : Nat} {lv : List (Nat × Value)} {st : List Value} {cc : ByteArray} {own : String} {cI cZ : ClassId} {z g : Nat → Nat} {sc : Nat → Int32} {ar : Nat → Nat → Int32} {index : Nat} (F : JF X cc own cI cZ z) (hd : decode cc pc = .ok (.getfield index, 3)) (hlink : Cond.fieldLink own index "EvenHold$Lighter" "kind" "[I" ∈ wsG) (hn : pc + 3 = pc') (kk : J X b k n pc' lv (.ref (g 3) :: st) (wC cI g sc ar)) : J X b k n pc lv (.ref (g 2) :: st) (wC cI g sc ar) := J_get 2 0 F hd inG_X2 rfl rfl (by decide) rfl hlink rfl hn kk
theorem C_get_2_1 {X : jX} {b : Bool} {k n pc pc' : Nat} {lv : List (Nat × Value)} {st : List Value} {cc : ByteArray} {own : String} {cI cZ : ClassId} {z g : Nat → Nat} {sc : Nat → Int32} {ar : Nat → Nat → Int32} {index : Nat} (F : JF X cc own cI cZ z) (hd : decode cc pc = .ok (.getfield index, 3)) (hlink : Cond.fieldLink own index "EvenHold$Lighter" "taking" "[I" ∈ wsG) (hn : pc + 3 = pc') (kk : J X b k n pc' lv (.ref (g 4) :: st) (wC cI g sc ar)) : J X b k n pc lv (.ref (g 2) :: st) (wC cI g sc ar) := J_get 2 1 F hd inG_X2 rfl rfl (by decide) rfl hlink rfl hn kk
theorem C_get_2_2 {X : jX} {b : Bool} {k n pc pc' : Nat} {lv : List (Nat × Value)} {st : List Value} {cc : ByteArray} {own : String} {cI cZ : ClassId} {z g : Nat → Nat} {sc : Nat → Int32} {ar : Nat → Nat → Int32} {index : Nat} (F : JF X cc own cI cZ z) (hd : decode cc pc = .ok (.getfield index, 3)) (hlink : Cond.fieldLink own index "EvenHold$Lighter" "carrying" "[I" ∈ wsG) (hn : pc + 3 = pc') (kk : J X b k n pc' lv (.ref (g 5) :: st) (wC cI g sc ar)) : J X b k n pc lv (.ref (g 2) :: st) (wC cI g sc ar) := J_get 2 2 F hd inG_X2 rfl rfl (by decide) rfl hlink rfl hn kk
theorem C_get_2_3 {X : jX} {b : Bool} {k n pc pc' : Nat} {lv : List (Nat × Value)} {st : List Value} {cc : ByteArray} {own : String} {cI cZ : ClassId} {z g : Nat → Nat} {sc : Nat → Int32} {ar : Nat → Nat → Int32} {index : Nat} {v : Int32} (F : JF X cc own cI cZ z) (hd : decode cc pc = .ok (.getfield index, 3)) (hlink : Cond.fieldLink own index "EvenHold$Lighter" "bend" "I" ∈ wsG) (hv : sc 5 = v) (hn : pc + 3 = pc') (kk : J X b k n pc' lv (.int v :: st) (wC cI g sc ar)) : J X b k n pc lv (.ref (g 2) :: st) (wC cI g sc ar) := by
  subst hv
  exact J_get 2 3 F hd inG_X2 rfl rfl (by decide) rfl hlink rfl hn kk
theorem C_put_2_3 {X : jX} {k n pc pc' : Nat} {lv : List (Nat × Value)} {st : List Value} {cc : ByteArray} {own : String} {cI cZ : ClassId} {z g : Nat → Nat} {sc : Nat → Int32} {ar : Nat → Nat → Int32} {index : Nat} {v : Int32} (F : JF X cc own cI cZ z) (hd : decode cc pc = .ok (.putfield index, 3)) (hlink : Cond.fieldLink own index "EvenHold$Lighter" "bend" "I" ∈ wsG) (hn : pc + 3 = pc') (kk : J X true k n pc' lv st (wC cI g (upd sc 5 v) ar)) : J X true k n pc lv (.int v :: .ref (g 2) :: st) (wC cI g sc ar) := J_put (ty := .int) 2 3 F hd inG_X2 tyX2 tyX2_ok nmX2 rfl rfl (by decide) rfl hlink rfl (tyX2_ok 3 (by decide)) rfl rfl (Nat.le_of_ble_eq_true rfl) rfl hn kk
theorem C_get_2_4 {X : jX} {b : Bool} {k n pc pc' : Nat} {lv : List (Nat × Value)} {st : List Value} {cc : ByteArray} {own : String} {cI cZ : ClassId} {z g : Nat → Nat} {sc : Nat → Int32} {ar : Nat → Nat → Int32} {index : Nat} {v : Int32} (F : JF X cc own cI cZ z) (hd : decode cc pc = .ok (.getfield index, 3)) (hlink : Cond.fieldLink own index "EvenHold$Lighter" "list" "I" ∈ wsG) (hv : sc 6 = v) (hn : pc + 3 = pc') (kk : J X b k n pc' lv (.int v :: st) (wC cI g sc ar)) : J X b k n pc lv (.ref (g 2) :: st) (wC cI g sc ar) := by
  subst hv
  exact J_get 2 4 F hd inG_X2 rfl rfl (by decide) rfl hlink rfl hn kk
theorem C_put_2_4 {X : jX} {k n pc pc' : Nat} {lv : List (Nat × Value)} {st : List Value} {cc : ByteArray} {own : String} {cI cZ : ClassId} {z g : Nat → Nat} {sc : Nat → Int32} {ar : Nat → Nat → Int32} {index : Nat} {v : Int32} (F : JF X cc own cI cZ z) (hd : decode cc pc = .ok (.putfield index, 3)) (hlink : Cond.fieldLink own index "EvenHold$Lighter" "list" "I" ∈ wsG) (hn : pc + 3 = pc') (kk : J X true k n pc' lv st (wC cI g (upd sc 6 v) ar)) : J X true k n pc lv (.int v :: .ref (g 2) :: st) (wC cI g sc ar) := J_put (ty := .int) 2 4 F hd inG_X2 tyX2 tyX2_ok nmX2 rfl rfl (by decide) rfl hlink rfl (tyX2_ok 4 (by decide)) rfl rfl (Nat.le_of_ble_eq_true rfl) rfl hn kk
theorem C_ld_1 {X : jX} {b : Bool} {k n pc pc' : Nat} {lv : List (Nat × Value)} {st : List Value} {cc : ByteArray} {own : String} {cI cZ : ClassId} {z g : Nat → Nat} {sc : Nat → Int32} {ar : Nat → Nat → Int32} {f : Nat → Int32} {i : Int32} {q : Nat} (F : JF X cc own cI cZ z) (hd : decode cc pc = .ok (.iaload, 1)) (hf : ar 1 = f) (hq : i.toNatClampNeg = q) (hin : vp_in i 3) (hn : pc + 1 = pc') (kk : J X b k n pc' lv (.int (f q) :: st) (wC cI g sc ar)) : J X b k n pc lv (.int i :: .ref (g 3) :: st) (wC cI g sc ar) := by
  subst hf; subst hq
  exact J_iald 3 F hd rfl hin hn kk
theorem C_st_1 {X : jX} {k n pc pc' : Nat} {lv : List (Nat × Value)} {st : List Value} {cc : ByteArray} {own : String} {cI cZ : ClassId} {z g : Nat → Nat} {sc : Nat → Int32} {ar : Nat → Nat → Int32} {f : Nat → Int32} {i x : Int32} {q : Nat} (F : JF X cc own cI cZ z) (hd : decode cc pc = .ok (.iastore, 1)) (hf : ar 1 = f) (hq : i.toNatClampNeg = q) (hin : vp_in i 3) (hn : pc + 1 = pc') (kk : J X true k n pc' lv st (wC cI g sc (va_up ar 1 (upd f q x)))) : J X true k n pc lv (.int x :: .int i :: .ref (g 3) :: st) (wC cI g sc ar) := by
  subst hf; subst hq
  exact J_iast 3 F hd rfl hin rfl hn kk
theorem C_len_1 {X : jX} {b : Bool} {k n pc pc' : Nat} {lv : List (Nat × Value)} {st : List Value} {cc : ByteArray} {own : String} {cI cZ : ClassId} {z g : Nat → Nat} {sc : Nat → Int32} {ar : Nat → Nat → Int32} (F : JF X cc own cI cZ z) (hd : decode cc pc = .ok (.arraylength, 1)) (hn : pc + 1 = pc') (kk : J X b k n pc' lv (.int 3 :: st) (wC cI g sc ar)) : J X b k n pc lv (.ref (g 3) :: st) (wC cI g sc ar) := J_alen 3 F hd rfl rfl hn kk
theorem C_ld_2 {X : jX} {b : Bool} {k n pc pc' : Nat} {lv : List (Nat × Value)} {st : List Value} {cc : ByteArray} {own : String} {cI cZ : ClassId} {z g : Nat → Nat} {sc : Nat → Int32} {ar : Nat → Nat → Int32} {f : Nat → Int32} {i : Int32} {q : Nat} (F : JF X cc own cI cZ z) (hd : decode cc pc = .ok (.iaload, 1)) (hf : ar 2 = f) (hq : i.toNatClampNeg = q) (hin : vp_in i 3) (hn : pc + 1 = pc') (kk : J X b k n pc' lv (.int (f q) :: st) (wC cI g sc ar)) : J X b k n pc lv (.int i :: .ref (g 4) :: st) (wC cI g sc ar) := by
  subst hf; subst hq
  exact J_iald 4 F hd rfl hin hn kk
theorem C_st_2 {X : jX} {k n pc pc' : Nat} {lv : List (Nat × Value)} {st : List Value} {cc : ByteArray} {own : String} {cI cZ : ClassId} {z g : Nat → Nat} {sc : Nat → Int32} {ar : Nat → Nat → Int32} {f : Nat → Int32} {i x : Int32} {q : Nat} (F : JF X cc own cI cZ z) (hd : decode cc pc = .ok (.iastore, 1)) (hf : ar 2 = f) (hq : i.toNatClampNeg = q) (hin : vp_in i 3) (hn : pc + 1 = pc') (kk : J X true k n pc' lv st (wC cI g sc (va_up ar 2 (upd f q x)))) : J X true k n pc lv (.int x :: .int i :: .ref (g 4) :: st) (wC cI g sc ar) := by
  subst hf; subst hq
  exact J_iast 4 F hd rfl hin rfl hn kk
theorem C_len_2 {X : jX} {b : Bool} {k n pc pc' : Nat} {lv : List (Nat × Value)} {st : List Value} {cc : ByteArray} {own : String} {cI cZ : ClassId} {z g : Nat → Nat} {sc : Nat → Int32} {ar : Nat → Nat → Int32} (F : JF X cc own cI cZ z) (hd : decode cc pc = .ok (.arraylength, 1)) (hn : pc + 1 = pc') (kk : J X b k n pc' lv (.int 3 :: st) (wC cI g sc ar)) : J X b k n pc lv (.ref (g 4) :: st) (wC cI g sc ar) := J_alen 4 F hd rfl rfl hn kk
theorem C_ld_3 {X : jX} {b : Bool} {k n pc pc' : Nat} {lv : List (Nat × Value)} {st : List Value} {cc : ByteArray} {own : String} {cI cZ : ClassId} {z g : Nat → Nat} {sc : Nat → Int32} {ar : Nat → Nat → Int32} {f : Nat → Int32} {i : Int32} {q : Nat} (F : JF X cc own cI cZ z) (hd : decode cc pc = .ok (.iaload, 1)) (hf : ar 3 = f) (hq : i.toNatClampNeg = q) (hin : vp_in i 3) (hn : pc + 1 = pc') (kk : J X b k n pc' lv (.int (f q) :: st) (wC cI g sc ar)) : J X b k n pc lv (.int i :: .ref (g 5) :: st) (wC cI g sc ar) := by
  subst hf; subst hq
  exact J_iald 5 F hd rfl hin hn kk
theorem C_st_3 {X : jX} {k n pc pc' : Nat} {lv : List (Nat × Value)} {st : List Value} {cc : ByteArray} {own : String} {cI cZ : ClassId} {z g : Nat → Nat} {sc : Nat → Int32} {ar : Nat → Nat → Int32} {f : Nat → Int32} {i x : Int32} {q : Nat} (F : JF X cc own cI cZ z) (hd : decode cc pc = .ok (.iastore, 1)) (hf : ar 3 = f) (hq : i.toNatClampNeg = q) (hin : vp_in i 3) (hn : pc + 1 = pc') (kk : J X true k n pc' lv st (wC cI g sc (va_up ar 3 (upd f q x)))) : J X true k n pc lv (.int x :: .int i :: .ref (g 5) :: st) (wC cI g sc ar) := by
  subst hf; subst hq
  exact J_iast 5 F hd rfl hin rfl hn kk
theorem C_len_3 {X : jX} {b : Bool} {k n pc pc' : Nat} {lv : List (Nat × Value)} {st : List Value} {cc : ByteArray} {own : String} {cI cZ : ClassId} {z g : Nat → Nat} {sc : Nat → Int32} {ar : Nat → Nat → Int32} (F : JF X cc own cI cZ z) (hd : decode cc pc = .ok (.arraylength, 1)) (hn : pc + 1 = pc') (kk : J X b k n pc' lv (.int 3 :: st) (wC cI g sc ar)) : J X b k n pc lv (.ref (g 5) :: st) (wC cI g sc ar) := J_alen 5 F hd rfl rfl hn kk
theorem C_get_6_0 {X : jX} {b : Bool} {k n pc pc' : Nat} {lv : List (Nat × Value)} {st : List Value} {cc : ByteArray} {own : String} {cI cZ : ClassId} {z g : Nat → Nat} {sc : Nat → Int32} {ar : Nat → Nat → Int32} {index : Nat} {v : Int32} (F : JF X cc own cI cZ z) (hd : decode cc pc = .ok (.getfield index, 3)) (hlink : Cond.fieldLink own index "EvenHold$Now" "lying" "I" ∈ wsG) (hv : sc 7 = v) (hn : pc + 3 = pc') (kk : J X b k n pc' lv (.int v :: st) (wC cI g sc ar)) : J X b k n pc lv (.ref (g 6) :: st) (wC cI g sc ar) := by
  subst hv
  exact J_get 6 0 F hd inG_X3 rfl rfl (by decide) rfl hlink rfl hn kk
theorem C_put_6_0 {X : jX} {k n pc pc' : Nat} {lv : List (Nat × Value)} {st : List Value} {cc : ByteArray} {own : String} {cI cZ : ClassId} {z g : Nat → Nat} {sc : Nat → Int32} {ar : Nat → Nat → Int32} {index : Nat} {v : Int32} (F : JF X cc own cI cZ z) (hd : decode cc pc = .ok (.putfield index, 3)) (hlink : Cond.fieldLink own index "EvenHold$Now" "lying" "I" ∈ wsG) (hn : pc + 3 = pc') (kk : J X true k n pc' lv st (wC cI g (upd sc 7 v) ar)) : J X true k n pc lv (.int v :: .ref (g 6) :: st) (wC cI g sc ar) := J_put (ty := .int) 6 0 F hd inG_X3 tyX3 tyX3_ok nmX3 rfl rfl (by decide) rfl hlink rfl (tyX3_ok 0 (by decide)) rfl rfl (Nat.le_of_ble_eq_true rfl) rfl hn kk
theorem C_get_6_1 {X : jX} {b : Bool} {k n pc pc' : Nat} {lv : List (Nat × Value)} {st : List Value} {cc : ByteArray} {own : String} {cI cZ : ClassId} {z g : Nat → Nat} {sc : Nat → Int32} {ar : Nat → Nat → Int32} {index : Nat} {v : Int32} (F : JF X cc own cI cZ z) (hd : decode cc pc = .ok (.getfield index, 3)) (hlink : Cond.fieldLink own index "EvenHold$Now" "aground" "Z" ∈ wsG) (hv : sc 8 = v) (hn : pc + 3 = pc') (kk : J X b k n pc' lv (.int v :: st) (wC cI g sc ar)) : J X b k n pc lv (.ref (g 6) :: st) (wC cI g sc ar) := by
  subst hv
  exact J_get 6 1 F hd inG_X3 rfl rfl (by decide) rfl hlink rfl hn kk
theorem C_put_6_1 {X : jX} {k n pc pc' : Nat} {lv : List (Nat × Value)} {st : List Value} {cc : ByteArray} {own : String} {cI cZ : ClassId} {z g : Nat → Nat} {sc : Nat → Int32} {ar : Nat → Nat → Int32} {index : Nat} {v : Int32} (F : JF X cc own cI cZ z) (hd : decode cc pc = .ok (.putfield index, 3)) (hlink : Cond.fieldLink own index "EvenHold$Now" "aground" "Z" ∈ wsG) (hz : v = 0 ∨ v = 1) (hn : pc + 3 = pc') (kk : J X true k n pc' lv st (wC cI g (upd sc 8 v) ar)) : J X true k n pc lv (.int v :: .ref (g 6) :: st) (wC cI g sc ar) := J_put (ty := .boolean) 6 1 F hd inG_X3 tyX3 tyX3_ok nmX3 rfl rfl (by decide) rfl hlink rfl (tyX3_ok 1 (by decide)) (by rcases hz with rfl | rfl <;> rfl) (by rcases hz with rfl | rfl <;> rfl) (Nat.le_of_ble_eq_true rfl) rfl hn kk
theorem C_get_6_2 {X : jX} {b : Bool} {k n pc pc' : Nat} {lv : List (Nat × Value)} {st : List Value} {cc : ByteArray} {own : String} {cI cZ : ClassId} {z g : Nat → Nat} {sc : Nat → Int32} {ar : Nat → Nat → Int32} {index : Nat} {v : Int32} (F : JF X cc own cI cZ z) (hd : decode cc pc = .ok (.getfield index, 3)) (hlink : Cond.fieldLink own index "EvenHold$Now" "minutes" "I" ∈ wsG) (hv : sc 9 = v) (hn : pc + 3 = pc') (kk : J X b k n pc' lv (.int v :: st) (wC cI g sc ar)) : J X b k n pc lv (.ref (g 6) :: st) (wC cI g sc ar) := by
  subst hv
  exact J_get 6 2 F hd inG_X3 rfl rfl (by decide) rfl hlink rfl hn kk
theorem C_put_6_2 {X : jX} {k n pc pc' : Nat} {lv : List (Nat × Value)} {st : List Value} {cc : ByteArray} {own : String} {cI cZ : ClassId} {z g : Nat → Nat} {sc : Nat → Int32} {ar : Nat → Nat → Int32} {index : Nat} {v : Int32} (F : JF X cc own cI cZ z) (hd : decode cc pc = .ok (.putfield index, 3)) (hlink : Cond.fieldLink own index "EvenHold$Now" "minutes" "I" ∈ wsG) (hn : pc + 3 = pc') (kk : J X true k n pc' lv st (wC cI g (upd sc 9 v) ar)) : J X true k n pc lv (.int v :: .ref (g 6) :: st) (wC cI g sc ar) := J_put (ty := .int) 6 2 F hd inG_X3 tyX3 tyX3_ok nmX3 rfl rfl (by decide) rfl hlink rfl (tyX3_ok 2 (by decide)) rfl rfl (Nat.le_of_ble_eq_true rfl) rfl hn kk
theorem C_get_6_3 {X : jX} {b : Bool} {k n pc pc' : Nat} {lv : List (Nat × Value)} {st : List Value} {cc : ByteArray} {own : String} {cI cZ : ClassId} {z g : Nat → Nat} {sc : Nat → Int32} {ar : Nat → Nat → Int32} {index : Nat} {v : Int32} (F : JF X cc own cI cZ z) (hd : decode cc pc = .ok (.getfield index, 3)) (hlink : Cond.fieldLink own index "EvenHold$Now" "out" "I" ∈ wsG) (hv : sc 10 = v) (hn : pc + 3 = pc') (kk : J X b k n pc' lv (.int v :: st) (wC cI g sc ar)) : J X b k n pc lv (.ref (g 6) :: st) (wC cI g sc ar) := by
  subst hv
  exact J_get 6 3 F hd inG_X3 rfl rfl (by decide) rfl hlink rfl hn kk
theorem C_put_6_3 {X : jX} {k n pc pc' : Nat} {lv : List (Nat × Value)} {st : List Value} {cc : ByteArray} {own : String} {cI cZ : ClassId} {z g : Nat → Nat} {sc : Nat → Int32} {ar : Nat → Nat → Int32} {index : Nat} {v : Int32} (F : JF X cc own cI cZ z) (hd : decode cc pc = .ok (.putfield index, 3)) (hlink : Cond.fieldLink own index "EvenHold$Now" "out" "I" ∈ wsG) (hn : pc + 3 = pc') (kk : J X true k n pc' lv st (wC cI g (upd sc 10 v) ar)) : J X true k n pc lv (.int v :: .ref (g 6) :: st) (wC cI g sc ar) := J_put (ty := .int) 6 3 F hd inG_X3 tyX3 tyX3_ok nmX3 rfl rfl (by decide) rfl hlink rfl (tyX3_ok 3 (by decide)) rfl rfl (Nat.le_of_ble_eq_true rfl) rfl hn kk
theorem C_get_6_4 {X : jX} {b : Bool} {k n pc pc' : Nat} {lv : List (Nat × Value)} {st : List Value} {cc : ByteArray} {own : String} {cI cZ : ClassId} {z g : Nat → Nat} {sc : Nat → Int32} {ar : Nat → Nat → Int32} {index : Nat} (F : JF X cc own cI cZ z) (hd : decode cc pc = .ok (.getfield index, 3)) (hlink : Cond.fieldLink own index "EvenHold$Now" "bents" "[I" ∈ wsG) (hn : pc + 3 = pc') (kk : J X b k n pc' lv (.ref (g 7) :: st) (wC cI g sc ar)) : J X b k n pc lv (.ref (g 6) :: st) (wC cI g sc ar) := J_get 6 4 F hd inG_X3 rfl rfl (by decide) rfl hlink rfl hn kk
theorem C_get_6_5 {X : jX} {b : Bool} {k n pc pc' : Nat} {lv : List (Nat × Value)} {st : List Value} {cc : ByteArray} {own : String} {cI cZ : ClassId} {z g : Nat → Nat} {sc : Nat → Int32} {ar : Nat → Nat → Int32} {index : Nat} {v : Int32} (F : JF X cc own cI cZ z) (hd : decode cc pc = .ok (.getfield index, 3)) (hlink : Cond.fieldLink own index "EvenHold$Now" "told" "I" ∈ wsG) (hv : sc 11 = v) (hn : pc + 3 = pc') (kk : J X b k n pc' lv (.int v :: st) (wC cI g sc ar)) : J X b k n pc lv (.ref (g 6) :: st) (wC cI g sc ar) := by
  subst hv
  exact J_get 6 5 F hd inG_X3 rfl rfl (by decide) rfl hlink rfl hn kk
theorem C_put_6_5 {X : jX} {k n pc pc' : Nat} {lv : List (Nat × Value)} {st : List Value} {cc : ByteArray} {own : String} {cI cZ : ClassId} {z g : Nat → Nat} {sc : Nat → Int32} {ar : Nat → Nat → Int32} {index : Nat} {v : Int32} (F : JF X cc own cI cZ z) (hd : decode cc pc = .ok (.putfield index, 3)) (hlink : Cond.fieldLink own index "EvenHold$Now" "told" "I" ∈ wsG) (hn : pc + 3 = pc') (kk : J X true k n pc' lv st (wC cI g (upd sc 11 v) ar)) : J X true k n pc lv (.int v :: .ref (g 6) :: st) (wC cI g sc ar) := J_put (ty := .int) 6 5 F hd inG_X3 tyX3 tyX3_ok nmX3 rfl rfl (by decide) rfl hlink rfl (tyX3_ok 5 (by decide)) rfl rfl (Nat.le_of_ble_eq_true rfl) rfl hn kk
theorem C_ld_4 {X : jX} {b : Bool} {k n pc pc' : Nat} {lv : List (Nat × Value)} {st : List Value} {cc : ByteArray} {own : String} {cI cZ : ClassId} {z g : Nat → Nat} {sc : Nat → Int32} {ar : Nat → Nat → Int32} {f : Nat → Int32} {i : Int32} {q : Nat} (F : JF X cc own cI cZ z) (hd : decode cc pc = .ok (.iaload, 1)) (hf : ar 4 = f) (hq : i.toNatClampNeg = q) (hin : vp_in i 4) (hn : pc + 1 = pc') (kk : J X b k n pc' lv (.int (f q) :: st) (wC cI g sc ar)) : J X b k n pc lv (.int i :: .ref (g 7) :: st) (wC cI g sc ar) := by
  subst hf; subst hq
  exact J_iald 7 F hd rfl hin hn kk
theorem C_st_4 {X : jX} {k n pc pc' : Nat} {lv : List (Nat × Value)} {st : List Value} {cc : ByteArray} {own : String} {cI cZ : ClassId} {z g : Nat → Nat} {sc : Nat → Int32} {ar : Nat → Nat → Int32} {f : Nat → Int32} {i x : Int32} {q : Nat} (F : JF X cc own cI cZ z) (hd : decode cc pc = .ok (.iastore, 1)) (hf : ar 4 = f) (hq : i.toNatClampNeg = q) (hin : vp_in i 4) (hn : pc + 1 = pc') (kk : J X true k n pc' lv st (wC cI g sc (va_up ar 4 (upd f q x)))) : J X true k n pc lv (.int x :: .int i :: .ref (g 7) :: st) (wC cI g sc ar) := by
  subst hf; subst hq
  exact J_iast 7 F hd rfl hin rfl hn kk
theorem C_len_4 {X : jX} {b : Bool} {k n pc pc' : Nat} {lv : List (Nat × Value)} {st : List Value} {cc : ByteArray} {own : String} {cI cZ : ClassId} {z g : Nat → Nat} {sc : Nat → Int32} {ar : Nat → Nat → Int32} (F : JF X cc own cI cZ z) (hd : decode cc pc = .ok (.arraylength, 1)) (hn : pc + 1 = pc') (kk : J X b k n pc' lv (.int 4 :: st) (wC cI g sc ar)) : J X b k n pc lv (.ref (g 7) :: st) (wC cI g sc ar) := J_alen 7 F hd rfl rfl hn kk
theorem C_get_8_0 {X : jX} {b : Bool} {k n pc pc' : Nat} {lv : List (Nat × Value)} {st : List Value} {cc : ByteArray} {own : String} {cI cZ : ClassId} {z g : Nat → Nat} {sc : Nat → Int32} {ar : Nat → Nat → Int32} {index : Nat} {v : Int32} (F : JF X cc own cI cZ z) (hd : decode cc pc = .ok (.getfield index, 3)) (hlink : Cond.fieldLink own index "EvenHold$Now" "lying" "I" ∈ wsG) (hv : sc 12 = v) (hn : pc + 3 = pc') (kk : J X b k n pc' lv (.int v :: st) (wC cI g sc ar)) : J X b k n pc lv (.ref (g 8) :: st) (wC cI g sc ar) := by
  subst hv
  exact J_get 8 0 F hd inG_X3 rfl rfl (by decide) rfl hlink rfl hn kk
theorem C_put_8_0 {X : jX} {k n pc pc' : Nat} {lv : List (Nat × Value)} {st : List Value} {cc : ByteArray} {own : String} {cI cZ : ClassId} {z g : Nat → Nat} {sc : Nat → Int32} {ar : Nat → Nat → Int32} {index : Nat} {v : Int32} (F : JF X cc own cI cZ z) (hd : decode cc pc = .ok (.putfield index, 3)) (hlink : Cond.fieldLink own index "EvenHold$Now" "lying" "I" ∈ wsG) (hn : pc + 3 = pc') (kk : J X true k n pc' lv st (wC cI g (upd sc 12 v) ar)) : J X true k n pc lv (.int v :: .ref (g 8) :: st) (wC cI g sc ar) := J_put (ty := .int) 8 0 F hd inG_X3 tyX3 tyX3_ok nmX3 rfl rfl (by decide) rfl hlink rfl (tyX3_ok 0 (by decide)) rfl rfl (Nat.le_of_ble_eq_true rfl) rfl hn kk
theorem C_get_8_1 {X : jX} {b : Bool} {k n pc pc' : Nat} {lv : List (Nat × Value)} {st : List Value} {cc : ByteArray} {own : String} {cI cZ : ClassId} {z g : Nat → Nat} {sc : Nat → Int32} {ar : Nat → Nat → Int32} {index : Nat} {v : Int32} (F : JF X cc own cI cZ z) (hd : decode cc pc = .ok (.getfield index, 3)) (hlink : Cond.fieldLink own index "EvenHold$Now" "aground" "Z" ∈ wsG) (hv : sc 13 = v) (hn : pc + 3 = pc') (kk : J X b k n pc' lv (.int v :: st) (wC cI g sc ar)) : J X b k n pc lv (.ref (g 8) :: st) (wC cI g sc ar) := by
  subst hv
  exact J_get 8 1 F hd inG_X3 rfl rfl (by decide) rfl hlink rfl hn kk
theorem C_put_8_1 {X : jX} {k n pc pc' : Nat} {lv : List (Nat × Value)} {st : List Value} {cc : ByteArray} {own : String} {cI cZ : ClassId} {z g : Nat → Nat} {sc : Nat → Int32} {ar : Nat → Nat → Int32} {index : Nat} {v : Int32} (F : JF X cc own cI cZ z) (hd : decode cc pc = .ok (.putfield index, 3)) (hlink : Cond.fieldLink own index "EvenHold$Now" "aground" "Z" ∈ wsG) (hz : v = 0 ∨ v = 1) (hn : pc + 3 = pc') (kk : J X true k n pc' lv st (wC cI g (upd sc 13 v) ar)) : J X true k n pc lv (.int v :: .ref (g 8) :: st) (wC cI g sc ar) := J_put (ty := .boolean) 8 1 F hd inG_X3 tyX3 tyX3_ok nmX3 rfl rfl (by decide) rfl hlink rfl (tyX3_ok 1 (by decide)) (by rcases hz with rfl | rfl <;> rfl) (by rcases hz with rfl | rfl <;> rfl) (Nat.le_of_ble_eq_true rfl) rfl hn kk
theorem C_get_8_2 {X : jX} {b : Bool} {k n pc pc' : Nat} {lv : List (Nat × Value)} {st : List Value} {cc : ByteArray} {own : String} {cI cZ : ClassId} {z g : Nat → Nat} {sc : Nat → Int32} {ar : Nat → Nat → Int32} {index : Nat} {v : Int32} (F : JF X cc own cI cZ z) (hd : decode cc pc = .ok (.getfield index, 3)) (hlink : Cond.fieldLink own index "EvenHold$Now" "minutes" "I" ∈ wsG) (hv : sc 14 = v) (hn : pc + 3 = pc') (kk : J X b k n pc' lv (.int v :: st) (wC cI g sc ar)) : J X b k n pc lv (.ref (g 8) :: st) (wC cI g sc ar) := by
  subst hv
  exact J_get 8 2 F hd inG_X3 rfl rfl (by decide) rfl hlink rfl hn kk
theorem C_put_8_2 {X : jX} {k n pc pc' : Nat} {lv : List (Nat × Value)} {st : List Value} {cc : ByteArray} {own : String} {cI cZ : ClassId} {z g : Nat → Nat} {sc : Nat → Int32} {ar : Nat → Nat → Int32} {index : Nat} {v : Int32} (F : JF X cc own cI cZ z) (hd : decode cc pc = .ok (.putfield index, 3)) (hlink : Cond.fieldLink own index "EvenHold$Now" "minutes" "I" ∈ wsG) (hn : pc + 3 = pc') (kk : J X true k n pc' lv st (wC cI g (upd sc 14 v) ar)) : J X true k n pc lv (.int v :: .ref (g 8) :: st) (wC cI g sc ar) := J_put (ty := .int) 8 2 F hd inG_X3 tyX3 tyX3_ok nmX3 rfl rfl (by decide) rfl hlink rfl (tyX3_ok 2 (by decide)) rfl rfl (Nat.le_of_ble_eq_true rfl) rfl hn kk
theorem C_get_8_3 {X : jX} {b : Bool} {k n pc pc' : Nat} {lv : List (Nat × Value)} {st : List Value} {cc : ByteArray} {own : String} {cI cZ : ClassId} {z g : Nat → Nat} {sc : Nat → Int32} {ar : Nat → Nat → Int32} {index : Nat} {v : Int32} (F : JF X cc own cI cZ z) (hd : decode cc pc = .ok (.getfield index, 3)) (hlink : Cond.fieldLink own index "EvenHold$Now" "out" "I" ∈ wsG) (hv : sc 15 = v) (hn : pc + 3 = pc') (kk : J X b k n pc' lv (.int v :: st) (wC cI g sc ar)) : J X b k n pc lv (.ref (g 8) :: st) (wC cI g sc ar) := by
  subst hv
  exact J_get 8 3 F hd inG_X3 rfl rfl (by decide) rfl hlink rfl hn kk
theorem C_put_8_3 {X : jX} {k n pc pc' : Nat} {lv : List (Nat × Value)} {st : List Value} {cc : ByteArray} {own : String} {cI cZ : ClassId} {z g : Nat → Nat} {sc : Nat → Int32} {ar : Nat → Nat → Int32} {index : Nat} {v : Int32} (F : JF X cc own cI cZ z) (hd : decode cc pc = .ok (.putfield index, 3)) (hlink : Cond.fieldLink own index "EvenHold$Now" "out" "I" ∈ wsG) (hn : pc + 3 = pc') (kk : J X true k n pc' lv st (wC cI g (upd sc 15 v) ar)) : J X true k n pc lv (.int v :: .ref (g 8) :: st) (wC cI g sc ar) := J_put (ty := .int) 8 3 F hd inG_X3 tyX3 tyX3_ok nmX3 rfl rfl (by decide) rfl hlink rfl (tyX3_ok 3 (by decide)) rfl rfl (Nat.le_of_ble_eq_true rfl) rfl hn kk
theorem C_get_8_4 {X : jX} {b : Bool} {k n pc pc' : Nat} {lv : List (Nat × Value)} {st : List Value} {cc : ByteArray} {own : String} {cI cZ : ClassId} {z g : Nat → Nat} {sc : Nat → Int32} {ar : Nat → Nat → Int32} {index : Nat} (F : JF X cc own cI cZ z) (hd : decode cc pc = .ok (.getfield index, 3)) (hlink : Cond.fieldLink own index "EvenHold$Now" "bents" "[I" ∈ wsG) (hn : pc + 3 = pc') (kk : J X b k n pc' lv (.ref (g 9) :: st) (wC cI g sc ar)) : J X b k n pc lv (.ref (g 8) :: st) (wC cI g sc ar) := J_get 8 4 F hd inG_X3 rfl rfl (by decide) rfl hlink rfl hn kk
theorem C_get_8_5 {X : jX} {b : Bool} {k n pc pc' : Nat} {lv : List (Nat × Value)} {st : List Value} {cc : ByteArray} {own : String} {cI cZ : ClassId} {z g : Nat → Nat} {sc : Nat → Int32} {ar : Nat → Nat → Int32} {index : Nat} {v : Int32} (F : JF X cc own cI cZ z) (hd : decode cc pc = .ok (.getfield index, 3)) (hlink : Cond.fieldLink own index "EvenHold$Now" "told" "I" ∈ wsG) (hv : sc 16 = v) (hn : pc + 3 = pc') (kk : J X b k n pc' lv (.int v :: st) (wC cI g sc ar)) : J X b k n pc lv (.ref (g 8) :: st) (wC cI g sc ar) := by
  subst hv
  exact J_get 8 5 F hd inG_X3 rfl rfl (by decide) rfl hlink rfl hn kk
theorem C_put_8_5 {X : jX} {k n pc pc' : Nat} {lv : List (Nat × Value)} {st : List Value} {cc : ByteArray} {own : String} {cI cZ : ClassId} {z g : Nat → Nat} {sc : Nat → Int32} {ar : Nat → Nat → Int32} {index : Nat} {v : Int32} (F : JF X cc own cI cZ z) (hd : decode cc pc = .ok (.putfield index, 3)) (hlink : Cond.fieldLink own index "EvenHold$Now" "told" "I" ∈ wsG) (hn : pc + 3 = pc') (kk : J X true k n pc' lv st (wC cI g (upd sc 16 v) ar)) : J X true k n pc lv (.int v :: .ref (g 8) :: st) (wC cI g sc ar) := J_put (ty := .int) 8 5 F hd inG_X3 tyX3 tyX3_ok nmX3 rfl rfl (by decide) rfl hlink rfl (tyX3_ok 5 (by decide)) rfl rfl (Nat.le_of_ble_eq_true rfl) rfl hn kk
theorem C_ld_5 {X : jX} {b : Bool} {k n pc pc' : Nat} {lv : List (Nat × Value)} {st : List Value} {cc : ByteArray} {own : String} {cI cZ : ClassId} {z g : Nat → Nat} {sc : Nat → Int32} {ar : Nat → Nat → Int32} {f : Nat → Int32} {i : Int32} {q : Nat} (F : JF X cc own cI cZ z) (hd : decode cc pc = .ok (.iaload, 1)) (hf : ar 5 = f) (hq : i.toNatClampNeg = q) (hin : vp_in i 4) (hn : pc + 1 = pc') (kk : J X b k n pc' lv (.int (f q) :: st) (wC cI g sc ar)) : J X b k n pc lv (.int i :: .ref (g 9) :: st) (wC cI g sc ar) := by
  subst hf; subst hq
  exact J_iald 9 F hd rfl hin hn kk
theorem C_st_5 {X : jX} {k n pc pc' : Nat} {lv : List (Nat × Value)} {st : List Value} {cc : ByteArray} {own : String} {cI cZ : ClassId} {z g : Nat → Nat} {sc : Nat → Int32} {ar : Nat → Nat → Int32} {f : Nat → Int32} {i x : Int32} {q : Nat} (F : JF X cc own cI cZ z) (hd : decode cc pc = .ok (.iastore, 1)) (hf : ar 5 = f) (hq : i.toNatClampNeg = q) (hin : vp_in i 4) (hn : pc + 1 = pc') (kk : J X true k n pc' lv st (wC cI g sc (va_up ar 5 (upd f q x)))) : J X true k n pc lv (.int x :: .int i :: .ref (g 9) :: st) (wC cI g sc ar) := by
  subst hf; subst hq
  exact J_iast 9 F hd rfl hin rfl hn kk
theorem C_len_5 {X : jX} {b : Bool} {k n pc pc' : Nat} {lv : List (Nat × Value)} {st : List Value} {cc : ByteArray} {own : String} {cI cZ : ClassId} {z g : Nat → Nat} {sc : Nat → Int32} {ar : Nat → Nat → Int32} (F : JF X cc own cI cZ z) (hd : decode cc pc = .ok (.arraylength, 1)) (hn : pc + 1 = pc') (kk : J X b k n pc' lv (.int 4 :: st) (wC cI g sc ar)) : J X b k n pc lv (.ref (g 9) :: st) (wC cI g sc ar) := J_alen 9 F hd rfl rfl hn kk
theorem C_get_10_0 {X : jX} {b : Bool} {k n pc pc' : Nat} {lv : List (Nat × Value)} {st : List Value} {cc : ByteArray} {own : String} {cI cZ : ClassId} {z g : Nat → Nat} {sc : Nat → Int32} {ar : Nat → Nat → Int32} {index : Nat} (F : JF X cc own cI cZ z) (hd : decode cc pc = .ok (.getfield index, 3)) (hlink : Cond.fieldLink own index "EvenHold$Outlook" "minutes" "[I" ∈ wsG) (hn : pc + 3 = pc') (kk : J X b k n pc' lv (.ref (g 11) :: st) (wC cI g sc ar)) : J X b k n pc lv (.ref (g 10) :: st) (wC cI g sc ar) := J_get 10 0 F hd inG_X4 rfl rfl (by decide) rfl hlink rfl hn kk
theorem C_get_10_1 {X : jX} {b : Bool} {k n pc pc' : Nat} {lv : List (Nat × Value)} {st : List Value} {cc : ByteArray} {own : String} {cI cZ : ClassId} {z g : Nat → Nat} {sc : Nat → Int32} {ar : Nat → Nat → Int32} {index : Nat} (F : JF X cc own cI cZ z) (hd : decode cc pc = .ok (.getfield index, 3)) (hlink : Cond.fieldLink own index "EvenHold$Outlook" "first" "[I" ∈ wsG) (hn : pc + 3 = pc') (kk : J X b k n pc' lv (.ref (g 12) :: st) (wC cI g sc ar)) : J X b k n pc lv (.ref (g 10) :: st) (wC cI g sc ar) := J_get 10 1 F hd inG_X4 rfl rfl (by decide) rfl hlink rfl hn kk
theorem C_get_10_2 {X : jX} {b : Bool} {k n pc pc' : Nat} {lv : List (Nat × Value)} {st : List Value} {cc : ByteArray} {own : String} {cI cZ : ClassId} {z g : Nat → Nat} {sc : Nat → Int32} {ar : Nat → Nat → Int32} {index : Nat} (F : JF X cc own cI cZ z) (hd : decode cc pc = .ok (.getfield index, 3)) (hlink : Cond.fieldLink own index "EvenHold$Outlook" "waiting" "[I" ∈ wsG) (hn : pc + 3 = pc') (kk : J X b k n pc' lv (.ref (g 13) :: st) (wC cI g sc ar)) : J X b k n pc lv (.ref (g 10) :: st) (wC cI g sc ar) := J_get 10 2 F hd inG_X4 rfl rfl (by decide) rfl hlink rfl hn kk
theorem C_get_10_3 {X : jX} {b : Bool} {k n pc pc' : Nat} {lv : List (Nat × Value)} {st : List Value} {cc : ByteArray} {own : String} {cI cZ : ClassId} {z g : Nat → Nat} {sc : Nat → Int32} {ar : Nat → Nat → Int32} {index : Nat} (F : JF X cc own cI cZ z) (hd : decode cc pc = .ok (.getfield index, 3)) (hlink : Cond.fieldLink own index "EvenHold$Outlook" "waitingIn" "[I" ∈ wsG) (hn : pc + 3 = pc') (kk : J X b k n pc' lv (.ref (g 14) :: st) (wC cI g sc ar)) : J X b k n pc lv (.ref (g 10) :: st) (wC cI g sc ar) := J_get 10 3 F hd inG_X4 rfl rfl (by decide) rfl hlink rfl hn kk
theorem C_get_10_4 {X : jX} {b : Bool} {k n pc pc' : Nat} {lv : List (Nat × Value)} {st : List Value} {cc : ByteArray} {own : String} {cI cZ : ClassId} {z g : Nat → Nat} {sc : Nat → Int32} {ar : Nat → Nat → Int32} {index : Nat} {v : Int32} (F : JF X cc own cI cZ z) (hd : decode cc pc = .ok (.getfield index, 3)) (hlink : Cond.fieldLink own index "EvenHold$Outlook" "waitingInAll" "I" ∈ wsG) (hv : sc 17 = v) (hn : pc + 3 = pc') (kk : J X b k n pc' lv (.int v :: st) (wC cI g sc ar)) : J X b k n pc lv (.ref (g 10) :: st) (wC cI g sc ar) := by
  subst hv
  exact J_get 10 4 F hd inG_X4 rfl rfl (by decide) rfl hlink rfl hn kk
theorem C_put_10_4 {X : jX} {k n pc pc' : Nat} {lv : List (Nat × Value)} {st : List Value} {cc : ByteArray} {own : String} {cI cZ : ClassId} {z g : Nat → Nat} {sc : Nat → Int32} {ar : Nat → Nat → Int32} {index : Nat} {v : Int32} (F : JF X cc own cI cZ z) (hd : decode cc pc = .ok (.putfield index, 3)) (hlink : Cond.fieldLink own index "EvenHold$Outlook" "waitingInAll" "I" ∈ wsG) (hn : pc + 3 = pc') (kk : J X true k n pc' lv st (wC cI g (upd sc 17 v) ar)) : J X true k n pc lv (.int v :: .ref (g 10) :: st) (wC cI g sc ar) := J_put (ty := .int) 10 4 F hd inG_X4 tyX4 tyX4_ok nmX4 rfl rfl (by decide) rfl hlink rfl (tyX4_ok 4 (by decide)) rfl rfl (Nat.le_of_ble_eq_true rfl) rfl hn kk
theorem C_get_10_5 {X : jX} {b : Bool} {k n pc pc' : Nat} {lv : List (Nat × Value)} {st : List Value} {cc : ByteArray} {own : String} {cI cZ : ClassId} {z g : Nat → Nat} {sc : Nat → Int32} {ar : Nat → Nat → Int32} {index : Nat} {v : Int32} (F : JF X cc own cI cZ z) (hd : decode cc pc = .ok (.getfield index, 3)) (hlink : Cond.fieldLink own index "EvenHold$Outlook" "comeTo" "I" ∈ wsG) (hv : sc 18 = v) (hn : pc + 3 = pc') (kk : J X b k n pc' lv (.int v :: st) (wC cI g sc ar)) : J X b k n pc lv (.ref (g 10) :: st) (wC cI g sc ar) := by
  subst hv
  exact J_get 10 5 F hd inG_X4 rfl rfl (by decide) rfl hlink rfl hn kk
theorem C_put_10_5 {X : jX} {k n pc pc' : Nat} {lv : List (Nat × Value)} {st : List Value} {cc : ByteArray} {own : String} {cI cZ : ClassId} {z g : Nat → Nat} {sc : Nat → Int32} {ar : Nat → Nat → Int32} {index : Nat} {v : Int32} (F : JF X cc own cI cZ z) (hd : decode cc pc = .ok (.putfield index, 3)) (hlink : Cond.fieldLink own index "EvenHold$Outlook" "comeTo" "I" ∈ wsG) (hn : pc + 3 = pc') (kk : J X true k n pc' lv st (wC cI g (upd sc 18 v) ar)) : J X true k n pc lv (.int v :: .ref (g 10) :: st) (wC cI g sc ar) := J_put (ty := .int) 10 5 F hd inG_X4 tyX4 tyX4_ok nmX4 rfl rfl (by decide) rfl hlink rfl (tyX4_ok 5 (by decide)) rfl rfl (Nat.le_of_ble_eq_true rfl) rfl hn kk
theorem C_get_10_6 {X : jX} {b : Bool} {k n pc pc' : Nat} {lv : List (Nat × Value)} {st : List Value} {cc : ByteArray} {own : String} {cI cZ : ClassId} {z g : Nat → Nat} {sc : Nat → Int32} {ar : Nat → Nat → Int32} {index : Nat} {v : Int32} (F : JF X cc own cI cZ z) (hd : decode cc pc = .ok (.getfield index, 3)) (hlink : Cond.fieldLink own index "EvenHold$Outlook" "mostOut" "I" ∈ wsG) (hv : sc 19 = v) (hn : pc + 3 = pc') (kk : J X b k n pc' lv (.int v :: st) (wC cI g sc ar)) : J X b k n pc lv (.ref (g 10) :: st) (wC cI g sc ar) := by
  subst hv
  exact J_get 10 6 F hd inG_X4 rfl rfl (by decide) rfl hlink rfl hn kk
theorem C_put_10_6 {X : jX} {k n pc pc' : Nat} {lv : List (Nat × Value)} {st : List Value} {cc : ByteArray} {own : String} {cI cZ : ClassId} {z g : Nat → Nat} {sc : Nat → Int32} {ar : Nat → Nat → Int32} {index : Nat} {v : Int32} (F : JF X cc own cI cZ z) (hd : decode cc pc = .ok (.putfield index, 3)) (hlink : Cond.fieldLink own index "EvenHold$Outlook" "mostOut" "I" ∈ wsG) (hn : pc + 3 = pc') (kk : J X true k n pc' lv st (wC cI g (upd sc 19 v) ar)) : J X true k n pc lv (.int v :: .ref (g 10) :: st) (wC cI g sc ar) := J_put (ty := .int) 10 6 F hd inG_X4 tyX4 tyX4_ok nmX4 rfl rfl (by decide) rfl hlink rfl (tyX4_ok 6 (by decide)) rfl rfl (Nat.le_of_ble_eq_true rfl) rfl hn kk
theorem C_get_10_7 {X : jX} {b : Bool} {k n pc pc' : Nat} {lv : List (Nat × Value)} {st : List Value} {cc : ByteArray} {own : String} {cI cZ : ClassId} {z g : Nat → Nat} {sc : Nat → Int32} {ar : Nat → Nat → Int32} {index : Nat} {v : Int32} (F : JF X cc own cI cZ z) (hd : decode cc pc = .ok (.getfield index, 3)) (hlink : Cond.fieldLink own index "EvenHold$Outlook" "knownRead" "I" ∈ wsG) (hv : sc 20 = v) (hn : pc + 3 = pc') (kk : J X b k n pc' lv (.int v :: st) (wC cI g sc ar)) : J X b k n pc lv (.ref (g 10) :: st) (wC cI g sc ar) := by
  subst hv
  exact J_get 10 7 F hd inG_X4 rfl rfl (by decide) rfl hlink rfl hn kk
theorem C_put_10_7 {X : jX} {k n pc pc' : Nat} {lv : List (Nat × Value)} {st : List Value} {cc : ByteArray} {own : String} {cI cZ : ClassId} {z g : Nat → Nat} {sc : Nat → Int32} {ar : Nat → Nat → Int32} {index : Nat} {v : Int32} (F : JF X cc own cI cZ z) (hd : decode cc pc = .ok (.putfield index, 3)) (hlink : Cond.fieldLink own index "EvenHold$Outlook" "knownRead" "I" ∈ wsG) (hn : pc + 3 = pc') (kk : J X true k n pc' lv st (wC cI g (upd sc 20 v) ar)) : J X true k n pc lv (.int v :: .ref (g 10) :: st) (wC cI g sc ar) := J_put (ty := .int) 10 7 F hd inG_X4 tyX4 tyX4_ok nmX4 rfl rfl (by decide) rfl hlink rfl (tyX4_ok 7 (by decide)) rfl rfl (Nat.le_of_ble_eq_true rfl) rfl hn kk
theorem C_get_10_8 {X : jX} {b : Bool} {k n pc pc' : Nat} {lv : List (Nat × Value)} {st : List Value} {cc : ByteArray} {own : String} {cI cZ : ClassId} {z g : Nat → Nat} {sc : Nat → Int32} {ar : Nat → Nat → Int32} {index : Nat} {v : Int32} (F : JF X cc own cI cZ z) (hd : decode cc pc = .ok (.getfield index, 3)) (hlink : Cond.fieldLink own index "EvenHold$Outlook" "knownLying" "I" ∈ wsG) (hv : sc 21 = v) (hn : pc + 3 = pc') (kk : J X b k n pc' lv (.int v :: st) (wC cI g sc ar)) : J X b k n pc lv (.ref (g 10) :: st) (wC cI g sc ar) := by
  subst hv
  exact J_get 10 8 F hd inG_X4 rfl rfl (by decide) rfl hlink rfl hn kk
theorem C_put_10_8 {X : jX} {k n pc pc' : Nat} {lv : List (Nat × Value)} {st : List Value} {cc : ByteArray} {own : String} {cI cZ : ClassId} {z g : Nat → Nat} {sc : Nat → Int32} {ar : Nat → Nat → Int32} {index : Nat} {v : Int32} (F : JF X cc own cI cZ z) (hd : decode cc pc = .ok (.putfield index, 3)) (hlink : Cond.fieldLink own index "EvenHold$Outlook" "knownLying" "I" ∈ wsG) (hn : pc + 3 = pc') (kk : J X true k n pc' lv st (wC cI g (upd sc 21 v) ar)) : J X true k n pc lv (.int v :: .ref (g 10) :: st) (wC cI g sc ar) := J_put (ty := .int) 10 8 F hd inG_X4 tyX4 tyX4_ok nmX4 rfl rfl (by decide) rfl hlink rfl (tyX4_ok 8 (by decide)) rfl rfl (Nat.le_of_ble_eq_true rfl) rfl hn kk
theorem C_get_10_9 {X : jX} {b : Bool} {k n pc pc' : Nat} {lv : List (Nat × Value)} {st : List Value} {cc : ByteArray} {own : String} {cI cZ : ClassId} {z g : Nat → Nat} {sc : Nat → Int32} {ar : Nat → Nat → Int32} {index : Nat} {v : Int32} (F : JF X cc own cI cZ z) (hd : decode cc pc = .ok (.getfield index, 3)) (hlink : Cond.fieldLink own index "EvenHold$Outlook" "knownTons" "I" ∈ wsG) (hv : sc 22 = v) (hn : pc + 3 = pc') (kk : J X b k n pc' lv (.int v :: st) (wC cI g sc ar)) : J X b k n pc lv (.ref (g 10) :: st) (wC cI g sc ar) := by
  subst hv
  exact J_get 10 9 F hd inG_X4 rfl rfl (by decide) rfl hlink rfl hn kk
theorem C_put_10_9 {X : jX} {k n pc pc' : Nat} {lv : List (Nat × Value)} {st : List Value} {cc : ByteArray} {own : String} {cI cZ : ClassId} {z g : Nat → Nat} {sc : Nat → Int32} {ar : Nat → Nat → Int32} {index : Nat} {v : Int32} (F : JF X cc own cI cZ z) (hd : decode cc pc = .ok (.putfield index, 3)) (hlink : Cond.fieldLink own index "EvenHold$Outlook" "knownTons" "I" ∈ wsG) (hn : pc + 3 = pc') (kk : J X true k n pc' lv st (wC cI g (upd sc 22 v) ar)) : J X true k n pc lv (.int v :: .ref (g 10) :: st) (wC cI g sc ar) := J_put (ty := .int) 10 9 F hd inG_X4 tyX4 tyX4_ok nmX4 rfl rfl (by decide) rfl hlink rfl (tyX4_ok 9 (by decide)) rfl rfl (Nat.le_of_ble_eq_true rfl) rfl hn kk
theorem C_get_10_10 {X : jX} {b : Bool} {k n pc pc' : Nat} {lv : List (Nat × Value)} {st : List Value} {cc : ByteArray} {own : String} {cI cZ : ClassId} {z g : Nat → Nat} {sc : Nat → Int32} {ar : Nat → Nat → Int32} {index : Nat} {v : Int32} (F : JF X cc own cI cZ z) (hd : decode cc pc = .ok (.getfield index, 3)) (hlink : Cond.fieldLink own index "EvenHold$Outlook" "knownBend" "I" ∈ wsG) (hv : sc 23 = v) (hn : pc + 3 = pc') (kk : J X b k n pc' lv (.int v :: st) (wC cI g sc ar)) : J X b k n pc lv (.ref (g 10) :: st) (wC cI g sc ar) := by
  subst hv
  exact J_get 10 10 F hd inG_X4 rfl rfl (by decide) rfl hlink rfl hn kk
theorem C_put_10_10 {X : jX} {k n pc pc' : Nat} {lv : List (Nat × Value)} {st : List Value} {cc : ByteArray} {own : String} {cI cZ : ClassId} {z g : Nat → Nat} {sc : Nat → Int32} {ar : Nat → Nat → Int32} {index : Nat} {v : Int32} (F : JF X cc own cI cZ z) (hd : decode cc pc = .ok (.putfield index, 3)) (hlink : Cond.fieldLink own index "EvenHold$Outlook" "knownBend" "I" ∈ wsG) (hn : pc + 3 = pc') (kk : J X true k n pc' lv st (wC cI g (upd sc 23 v) ar)) : J X true k n pc lv (.int v :: .ref (g 10) :: st) (wC cI g sc ar) := J_put (ty := .int) 10 10 F hd inG_X4 tyX4 tyX4_ok nmX4 rfl rfl (by decide) rfl hlink rfl (tyX4_ok 10 (by decide)) rfl rfl (Nat.le_of_ble_eq_true rfl) rfl hn kk
theorem C_ld_6 {X : jX} {b : Bool} {k n pc pc' : Nat} {lv : List (Nat × Value)} {st : List Value} {cc : ByteArray} {own : String} {cI cZ : ClassId} {z g : Nat → Nat} {sc : Nat → Int32} {ar : Nat → Nat → Int32} {f : Nat → Int32} {i : Int32} {q : Nat} (F : JF X cc own cI cZ z) (hd : decode cc pc = .ok (.iaload, 1)) (hf : ar 6 = f) (hq : i.toNatClampNeg = q) (hin : vp_in i 4096) (hn : pc + 1 = pc') (kk : J X b k n pc' lv (.int (f q) :: st) (wC cI g sc ar)) : J X b k n pc lv (.int i :: .ref (g 11) :: st) (wC cI g sc ar) := by
  subst hf; subst hq
  exact J_iald 11 F hd rfl hin hn kk
theorem C_st_6 {X : jX} {k n pc pc' : Nat} {lv : List (Nat × Value)} {st : List Value} {cc : ByteArray} {own : String} {cI cZ : ClassId} {z g : Nat → Nat} {sc : Nat → Int32} {ar : Nat → Nat → Int32} {f : Nat → Int32} {i x : Int32} {q : Nat} (F : JF X cc own cI cZ z) (hd : decode cc pc = .ok (.iastore, 1)) (hf : ar 6 = f) (hq : i.toNatClampNeg = q) (hin : vp_in i 4096) (hn : pc + 1 = pc') (kk : J X true k n pc' lv st (wC cI g sc (va_up ar 6 (upd f q x)))) : J X true k n pc lv (.int x :: .int i :: .ref (g 11) :: st) (wC cI g sc ar) := by
  subst hf; subst hq
  exact J_iast 11 F hd rfl hin rfl hn kk
theorem C_len_6 {X : jX} {b : Bool} {k n pc pc' : Nat} {lv : List (Nat × Value)} {st : List Value} {cc : ByteArray} {own : String} {cI cZ : ClassId} {z g : Nat → Nat} {sc : Nat → Int32} {ar : Nat → Nat → Int32} (F : JF X cc own cI cZ z) (hd : decode cc pc = .ok (.arraylength, 1)) (hn : pc + 1 = pc') (kk : J X b k n pc' lv (.int 4096 :: st) (wC cI g sc ar)) : J X b k n pc lv (.ref (g 11) :: st) (wC cI g sc ar) := J_alen 11 F hd rfl rfl hn kk
theorem C_ld_7 {X : jX} {b : Bool} {k n pc pc' : Nat} {lv : List (Nat × Value)} {st : List Value} {cc : ByteArray} {own : String} {cI cZ : ClassId} {z g : Nat → Nat} {sc : Nat → Int32} {ar : Nat → Nat → Int32} {f : Nat → Int32} {i : Int32} {q : Nat} (F : JF X cc own cI cZ z) (hd : decode cc pc = .ok (.iaload, 1)) (hf : ar 7 = f) (hq : i.toNatClampNeg = q) (hin : vp_in i 4096) (hn : pc + 1 = pc') (kk : J X b k n pc' lv (.int (f q) :: st) (wC cI g sc ar)) : J X b k n pc lv (.int i :: .ref (g 12) :: st) (wC cI g sc ar) := by
  subst hf; subst hq
  exact J_iald 12 F hd rfl hin hn kk
theorem C_st_7 {X : jX} {k n pc pc' : Nat} {lv : List (Nat × Value)} {st : List Value} {cc : ByteArray} {own : String} {cI cZ : ClassId} {z g : Nat → Nat} {sc : Nat → Int32} {ar : Nat → Nat → Int32} {f : Nat → Int32} {i x : Int32} {q : Nat} (F : JF X cc own cI cZ z) (hd : decode cc pc = .ok (.iastore, 1)) (hf : ar 7 = f) (hq : i.toNatClampNeg = q) (hin : vp_in i 4096) (hn : pc + 1 = pc') (kk : J X true k n pc' lv st (wC cI g sc (va_up ar 7 (upd f q x)))) : J X true k n pc lv (.int x :: .int i :: .ref (g 12) :: st) (wC cI g sc ar) := by
  subst hf; subst hq
  exact J_iast 12 F hd rfl hin rfl hn kk
theorem C_len_7 {X : jX} {b : Bool} {k n pc pc' : Nat} {lv : List (Nat × Value)} {st : List Value} {cc : ByteArray} {own : String} {cI cZ : ClassId} {z g : Nat → Nat} {sc : Nat → Int32} {ar : Nat → Nat → Int32} (F : JF X cc own cI cZ z) (hd : decode cc pc = .ok (.arraylength, 1)) (hn : pc + 1 = pc') (kk : J X b k n pc' lv (.int 4096 :: st) (wC cI g sc ar)) : J X b k n pc lv (.ref (g 12) :: st) (wC cI g sc ar) := J_alen 12 F hd rfl rfl hn kk
theorem C_ld_8 {X : jX} {b : Bool} {k n pc pc' : Nat} {lv : List (Nat × Value)} {st : List Value} {cc : ByteArray} {own : String} {cI cZ : ClassId} {z g : Nat → Nat} {sc : Nat → Int32} {ar : Nat → Nat → Int32} {f : Nat → Int32} {i : Int32} {q : Nat} (F : JF X cc own cI cZ z) (hd : decode cc pc = .ok (.iaload, 1)) (hf : ar 8 = f) (hq : i.toNatClampNeg = q) (hin : vp_in i 20480) (hn : pc + 1 = pc') (kk : J X b k n pc' lv (.int (f q) :: st) (wC cI g sc ar)) : J X b k n pc lv (.int i :: .ref (g 13) :: st) (wC cI g sc ar) := by
  subst hf; subst hq
  exact J_iald 13 F hd rfl hin hn kk
theorem C_st_8 {X : jX} {k n pc pc' : Nat} {lv : List (Nat × Value)} {st : List Value} {cc : ByteArray} {own : String} {cI cZ : ClassId} {z g : Nat → Nat} {sc : Nat → Int32} {ar : Nat → Nat → Int32} {f : Nat → Int32} {i x : Int32} {q : Nat} (F : JF X cc own cI cZ z) (hd : decode cc pc = .ok (.iastore, 1)) (hf : ar 8 = f) (hq : i.toNatClampNeg = q) (hin : vp_in i 20480) (hn : pc + 1 = pc') (kk : J X true k n pc' lv st (wC cI g sc (va_up ar 8 (upd f q x)))) : J X true k n pc lv (.int x :: .int i :: .ref (g 13) :: st) (wC cI g sc ar) := by
  subst hf; subst hq
  exact J_iast 13 F hd rfl hin rfl hn kk
theorem C_len_8 {X : jX} {b : Bool} {k n pc pc' : Nat} {lv : List (Nat × Value)} {st : List Value} {cc : ByteArray} {own : String} {cI cZ : ClassId} {z g : Nat → Nat} {sc : Nat → Int32} {ar : Nat → Nat → Int32} (F : JF X cc own cI cZ z) (hd : decode cc pc = .ok (.arraylength, 1)) (hn : pc + 1 = pc') (kk : J X b k n pc' lv (.int 20480 :: st) (wC cI g sc ar)) : J X b k n pc lv (.ref (g 13) :: st) (wC cI g sc ar) := J_alen 13 F hd rfl rfl hn kk
theorem C_ld_9 {X : jX} {b : Bool} {k n pc pc' : Nat} {lv : List (Nat × Value)} {st : List Value} {cc : ByteArray} {own : String} {cI cZ : ClassId} {z g : Nat → Nat} {sc : Nat → Int32} {ar : Nat → Nat → Int32} {f : Nat → Int32} {i : Int32} {q : Nat} (F : JF X cc own cI cZ z) (hd : decode cc pc = .ok (.iaload, 1)) (hf : ar 9 = f) (hq : i.toNatClampNeg = q) (hin : vp_in i 5) (hn : pc + 1 = pc') (kk : J X b k n pc' lv (.int (f q) :: st) (wC cI g sc ar)) : J X b k n pc lv (.int i :: .ref (g 14) :: st) (wC cI g sc ar) := by
  subst hf; subst hq
  exact J_iald 14 F hd rfl hin hn kk
theorem C_st_9 {X : jX} {k n pc pc' : Nat} {lv : List (Nat × Value)} {st : List Value} {cc : ByteArray} {own : String} {cI cZ : ClassId} {z g : Nat → Nat} {sc : Nat → Int32} {ar : Nat → Nat → Int32} {f : Nat → Int32} {i x : Int32} {q : Nat} (F : JF X cc own cI cZ z) (hd : decode cc pc = .ok (.iastore, 1)) (hf : ar 9 = f) (hq : i.toNatClampNeg = q) (hin : vp_in i 5) (hn : pc + 1 = pc') (kk : J X true k n pc' lv st (wC cI g sc (va_up ar 9 (upd f q x)))) : J X true k n pc lv (.int x :: .int i :: .ref (g 14) :: st) (wC cI g sc ar) := by
  subst hf; subst hq
  exact J_iast 14 F hd rfl hin rfl hn kk
theorem C_len_9 {X : jX} {b : Bool} {k n pc pc' : Nat} {lv : List (Nat × Value)} {st : List Value} {cc : ByteArray} {own : String} {cI cZ : ClassId} {z g : Nat → Nat} {sc : Nat → Int32} {ar : Nat → Nat → Int32} (F : JF X cc own cI cZ z) (hd : decode cc pc = .ok (.arraylength, 1)) (hn : pc + 1 = pc') (kk : J X b k n pc' lv (.int 5 :: st) (wC cI g sc ar)) : J X b k n pc lv (.ref (g 14) :: st) (wC cI g sc ar) := J_alen 14 F hd rfl rfl hn kk
theorem C_get_15_0 {X : jX} {b : Bool} {k n pc pc' : Nat} {lv : List (Nat × Value)} {st : List Value} {cc : ByteArray} {own : String} {cI cZ : ClassId} {z g : Nat → Nat} {sc : Nat → Int32} {ar : Nat → Nat → Int32} {index : Nat} (F : JF X cc own cI cZ z) (hd : decode cc pc = .ok (.getfield index, 3)) (hlink : Cond.fieldLink own index "EvenHold$Easing" "next" "[I" ∈ wsG) (hn : pc + 3 = pc') (kk : J X b k n pc' lv (.ref (g 16) :: st) (wC cI g sc ar)) : J X b k n pc lv (.ref (g 15) :: st) (wC cI g sc ar) := J_get 15 0 F hd inG_X0 rfl rfl (by decide) rfl hlink rfl hn kk
theorem C_get_15_1 {X : jX} {b : Bool} {k n pc pc' : Nat} {lv : List (Nat × Value)} {st : List Value} {cc : ByteArray} {own : String} {cI cZ : ClassId} {z g : Nat → Nat} {sc : Nat → Int32} {ar : Nat → Nat → Int32} {index : Nat} (F : JF X cc own cI cZ z) (hd : decode cc pc = .ok (.getfield index, 3)) (hlink : Cond.fieldLink own index "EvenHold$Easing" "head" "[I" ∈ wsG) (hn : pc + 3 = pc') (kk : J X b k n pc' lv (.ref (g 17) :: st) (wC cI g sc ar)) : J X b k n pc lv (.ref (g 15) :: st) (wC cI g sc ar) := J_get 15 1 F hd inG_X0 rfl rfl (by decide) rfl hlink rfl hn kk
theorem C_ld_10 {X : jX} {b : Bool} {k n pc pc' : Nat} {lv : List (Nat × Value)} {st : List Value} {cc : ByteArray} {own : String} {cI cZ : ClassId} {z g : Nat → Nat} {sc : Nat → Int32} {ar : Nat → Nat → Int32} {f : Nat → Int32} {i : Int32} {q : Nat} (F : JF X cc own cI cZ z) (hd : decode cc pc = .ok (.iaload, 1)) (hf : ar 10 = f) (hq : i.toNatClampNeg = q) (hin : vp_in i 4096) (hn : pc + 1 = pc') (kk : J X b k n pc' lv (.int (f q) :: st) (wC cI g sc ar)) : J X b k n pc lv (.int i :: .ref (g 16) :: st) (wC cI g sc ar) := by
  subst hf; subst hq
  exact J_iald 16 F hd rfl hin hn kk
theorem C_st_10 {X : jX} {k n pc pc' : Nat} {lv : List (Nat × Value)} {st : List Value} {cc : ByteArray} {own : String} {cI cZ : ClassId} {z g : Nat → Nat} {sc : Nat → Int32} {ar : Nat → Nat → Int32} {f : Nat → Int32} {i x : Int32} {q : Nat} (F : JF X cc own cI cZ z) (hd : decode cc pc = .ok (.iastore, 1)) (hf : ar 10 = f) (hq : i.toNatClampNeg = q) (hin : vp_in i 4096) (hn : pc + 1 = pc') (kk : J X true k n pc' lv st (wC cI g sc (va_up ar 10 (upd f q x)))) : J X true k n pc lv (.int x :: .int i :: .ref (g 16) :: st) (wC cI g sc ar) := by
  subst hf; subst hq
  exact J_iast 16 F hd rfl hin rfl hn kk
theorem C_len_10 {X : jX} {b : Bool} {k n pc pc' : Nat} {lv : List (Nat × Value)} {st : List Value} {cc : ByteArray} {own : String} {cI cZ : ClassId} {z g : Nat → Nat} {sc : Nat → Int32} {ar : Nat → Nat → Int32} (F : JF X cc own cI cZ z) (hd : decode cc pc = .ok (.arraylength, 1)) (hn : pc + 1 = pc') (kk : J X b k n pc' lv (.int 4096 :: st) (wC cI g sc ar)) : J X b k n pc lv (.ref (g 16) :: st) (wC cI g sc ar) := J_alen 16 F hd rfl rfl hn kk
theorem C_ld_11 {X : jX} {b : Bool} {k n pc pc' : Nat} {lv : List (Nat × Value)} {st : List Value} {cc : ByteArray} {own : String} {cI cZ : ClassId} {z g : Nat → Nat} {sc : Nat → Int32} {ar : Nat → Nat → Int32} {f : Nat → Int32} {i : Int32} {q : Nat} (F : JF X cc own cI cZ z) (hd : decode cc pc = .ok (.iaload, 1)) (hf : ar 11 = f) (hq : i.toNatClampNeg = q) (hin : vp_in i 13) (hn : pc + 1 = pc') (kk : J X b k n pc' lv (.int (f q) :: st) (wC cI g sc ar)) : J X b k n pc lv (.int i :: .ref (g 17) :: st) (wC cI g sc ar) := by
  subst hf; subst hq
  exact J_iald 17 F hd rfl hin hn kk
theorem C_st_11 {X : jX} {k n pc pc' : Nat} {lv : List (Nat × Value)} {st : List Value} {cc : ByteArray} {own : String} {cI cZ : ClassId} {z g : Nat → Nat} {sc : Nat → Int32} {ar : Nat → Nat → Int32} {f : Nat → Int32} {i x : Int32} {q : Nat} (F : JF X cc own cI cZ z) (hd : decode cc pc = .ok (.iastore, 1)) (hf : ar 11 = f) (hq : i.toNatClampNeg = q) (hin : vp_in i 13) (hn : pc + 1 = pc') (kk : J X true k n pc' lv st (wC cI g sc (va_up ar 11 (upd f q x)))) : J X true k n pc lv (.int x :: .int i :: .ref (g 17) :: st) (wC cI g sc ar) := by
  subst hf; subst hq
  exact J_iast 17 F hd rfl hin rfl hn kk
theorem C_len_11 {X : jX} {b : Bool} {k n pc pc' : Nat} {lv : List (Nat × Value)} {st : List Value} {cc : ByteArray} {own : String} {cI cZ : ClassId} {z g : Nat → Nat} {sc : Nat → Int32} {ar : Nat → Nat → Int32} (F : JF X cc own cI cZ z) (hd : decode cc pc = .ok (.arraylength, 1)) (hn : pc + 1 = pc') (kk : J X b k n pc' lv (.int 13 :: st) (wC cI g sc ar)) : J X b k n pc lv (.ref (g 17) :: st) (wC cI g sc ar) := J_alen 17 F hd rfl rfl hn kk
theorem C_get_18_0 {X : jX} {b : Bool} {k n pc pc' : Nat} {lv : List (Nat × Value)} {st : List Value} {cc : ByteArray} {own : String} {cI cZ : ClassId} {z g : Nat → Nat} {sc : Nat → Int32} {ar : Nat → Nat → Int32} {index : Nat} {v : Int32} (F : JF X cc own cI cZ z) (hd : decode cc pc = .ok (.getfield index, 3)) (hlink : Cond.fieldLink own index "EvenHold$Fit" "rows" "I" ∈ wsG) (hv : sc 24 = v) (hn : pc + 3 = pc') (kk : J X b k n pc' lv (.int v :: st) (wC cI g sc ar)) : J X b k n pc lv (.ref (g 18) :: st) (wC cI g sc ar) := by
  subst hv
  exact J_get 18 0 F hd inG_X1 rfl rfl (by decide) rfl hlink rfl hn kk
theorem C_put_18_0 {X : jX} {k n pc pc' : Nat} {lv : List (Nat × Value)} {st : List Value} {cc : ByteArray} {own : String} {cI cZ : ClassId} {z g : Nat → Nat} {sc : Nat → Int32} {ar : Nat → Nat → Int32} {index : Nat} {v : Int32} (F : JF X cc own cI cZ z) (hd : decode cc pc = .ok (.putfield index, 3)) (hlink : Cond.fieldLink own index "EvenHold$Fit" "rows" "I" ∈ wsG) (hn : pc + 3 = pc') (kk : J X true k n pc' lv st (wC cI g (upd sc 24 v) ar)) : J X true k n pc lv (.int v :: .ref (g 18) :: st) (wC cI g sc ar) := J_put (ty := .int) 18 0 F hd inG_X1 tyX1 tyX1_ok nmX1 rfl rfl (by decide) rfl hlink rfl (tyX1_ok 0 (by decide)) rfl rfl (Nat.le_of_ble_eq_true rfl) rfl hn kk
theorem C_get_18_1 {X : jX} {b : Bool} {k n pc pc' : Nat} {lv : List (Nat × Value)} {st : List Value} {cc : ByteArray} {own : String} {cI cZ : ClassId} {z g : Nat → Nat} {sc : Nat → Int32} {ar : Nat → Nat → Int32} {index : Nat} {v : Int32} (F : JF X cc own cI cZ z) (hd : decode cc pc = .ok (.getfield index, 3)) (hlink : Cond.fieldLink own index "EvenHold$Fit" "firsts" "I" ∈ wsG) (hv : sc 25 = v) (hn : pc + 3 = pc') (kk : J X b k n pc' lv (.int v :: st) (wC cI g sc ar)) : J X b k n pc lv (.ref (g 18) :: st) (wC cI g sc ar) := by
  subst hv
  exact J_get 18 1 F hd inG_X1 rfl rfl (by decide) rfl hlink rfl hn kk
theorem C_put_18_1 {X : jX} {k n pc pc' : Nat} {lv : List (Nat × Value)} {st : List Value} {cc : ByteArray} {own : String} {cI cZ : ClassId} {z g : Nat → Nat} {sc : Nat → Int32} {ar : Nat → Nat → Int32} {index : Nat} {v : Int32} (F : JF X cc own cI cZ z) (hd : decode cc pc = .ok (.putfield index, 3)) (hlink : Cond.fieldLink own index "EvenHold$Fit" "firsts" "I" ∈ wsG) (hn : pc + 3 = pc') (kk : J X true k n pc' lv st (wC cI g (upd sc 25 v) ar)) : J X true k n pc lv (.int v :: .ref (g 18) :: st) (wC cI g sc ar) := J_put (ty := .int) 18 1 F hd inG_X1 tyX1 tyX1_ok nmX1 rfl rfl (by decide) rfl hlink rfl (tyX1_ok 1 (by decide)) rfl rfl (Nat.le_of_ble_eq_true rfl) rfl hn kk
theorem C_get_18_2 {X : jX} {b : Bool} {k n pc pc' : Nat} {lv : List (Nat × Value)} {st : List Value} {cc : ByteArray} {own : String} {cI cZ : ClassId} {z g : Nat → Nat} {sc : Nat → Int32} {ar : Nat → Nat → Int32} {index : Nat} {v : Int32} (F : JF X cc own cI cZ z) (hd : decode cc pc = .ok (.getfield index, 3)) (hlink : Cond.fieldLink own index "EvenHold$Fit" "leastFirst" "I" ∈ wsG) (hv : sc 26 = v) (hn : pc + 3 = pc') (kk : J X b k n pc' lv (.int v :: st) (wC cI g sc ar)) : J X b k n pc lv (.ref (g 18) :: st) (wC cI g sc ar) := by
  subst hv
  exact J_get 18 2 F hd inG_X1 rfl rfl (by decide) rfl hlink rfl hn kk
theorem C_put_18_2 {X : jX} {k n pc pc' : Nat} {lv : List (Nat × Value)} {st : List Value} {cc : ByteArray} {own : String} {cI cZ : ClassId} {z g : Nat → Nat} {sc : Nat → Int32} {ar : Nat → Nat → Int32} {index : Nat} {v : Int32} (F : JF X cc own cI cZ z) (hd : decode cc pc = .ok (.putfield index, 3)) (hlink : Cond.fieldLink own index "EvenHold$Fit" "leastFirst" "I" ∈ wsG) (hn : pc + 3 = pc') (kk : J X true k n pc' lv st (wC cI g (upd sc 26 v) ar)) : J X true k n pc lv (.int v :: .ref (g 18) :: st) (wC cI g sc ar) := J_put (ty := .int) 18 2 F hd inG_X1 tyX1 tyX1_ok nmX1 rfl rfl (by decide) rfl hlink rfl (tyX1_ok 2 (by decide)) rfl rfl (Nat.le_of_ble_eq_true rfl) rfl hn kk
theorem M_get_0_0 {X : jX} {b : Bool} {k n pc pc' : Nat} {lv : List (Nat × Value)} {st : List Value} {cc : ByteArray} {own : String} {cI cZ : ClassId} {z g : Nat → Nat} {sc : Nat → Int32} {ar : Nat → Nat → Int32} {hs : Int64} {index : Nat} (F : JF X cc own cI cZ z) (hd : decode cc pc = .ok (.getfield index, 3)) (hlink : Cond.fieldLink own index "EvenHoldModel" "page" "[I" ∈ wsG) (hn : pc + 3 = pc') (kk : J X b k n pc' lv (.ref (g 1) :: st) (wM cI cZ g sc ar hs)) : J X b k n pc lv (.ref (g 0) :: st) (wM cI cZ g sc ar hs) := J_get 0 0 F hd inG_X6 rfl rfl (by decide) rfl hlink rfl hn kk
theorem M_get_0_1 {X : jX} {b : Bool} {k n pc pc' : Nat} {lv : List (Nat × Value)} {st : List Value} {cc : ByteArray} {own : String} {cI cZ : ClassId} {z g : Nat → Nat} {sc : Nat → Int32} {ar : Nat → Nat → Int32} {hs : Int64} {index : Nat} {v : Int32} (F : JF X cc own cI cZ z) (hd : decode cc pc = .ok (.getfield index, 3)) (hlink : Cond.fieldLink own index "EvenHoldModel" "pageMany" "I" ∈ wsG) (hv : sc 1 = v) (hn : pc + 3 = pc') (kk : J X b k n pc' lv (.int v :: st) (wM cI cZ g sc ar hs)) : J X b k n pc lv (.ref (g 0) :: st) (wM cI cZ g sc ar hs) := by
  subst hv
  exact J_get 0 1 F hd inG_X6 rfl rfl (by decide) rfl hlink rfl hn kk
theorem M_put_0_1 {X : jX} {k n pc pc' : Nat} {lv : List (Nat × Value)} {st : List Value} {cc : ByteArray} {own : String} {cI cZ : ClassId} {z g : Nat → Nat} {sc : Nat → Int32} {ar : Nat → Nat → Int32} {hs : Int64} {index : Nat} {v : Int32} (F : JF X cc own cI cZ z) (hd : decode cc pc = .ok (.putfield index, 3)) (hlink : Cond.fieldLink own index "EvenHoldModel" "pageMany" "I" ∈ wsG) (hn : pc + 3 = pc') (kk : J X true k n pc' lv st (wM cI cZ g (upd sc 1 v) ar hs)) : J X true k n pc lv (.int v :: .ref (g 0) :: st) (wM cI cZ g sc ar hs) := J_put (ty := .int) 0 1 F hd inG_X6 tyX6 tyX6_ok nmX6 rfl rfl (by decide) rfl hlink rfl (tyX6_ok 1 (by decide)) rfl rfl (Nat.le_of_ble_eq_true rfl) rfl hn kk
theorem M_get_0_2 {X : jX} {b : Bool} {k n pc pc' : Nat} {lv : List (Nat × Value)} {st : List Value} {cc : ByteArray} {own : String} {cI cZ : ClassId} {z g : Nat → Nat} {sc : Nat → Int32} {ar : Nat → Nat → Int32} {hs : Int64} {index : Nat} {v : Int32} (F : JF X cc own cI cZ z) (hd : decode cc pc = .ok (.getfield index, 3)) (hlink : Cond.fieldLink own index "EvenHoldModel" "isThere" "Z" ∈ wsG) (hv : sc 2 = v) (hn : pc + 3 = pc') (kk : J X b k n pc' lv (.int v :: st) (wM cI cZ g sc ar hs)) : J X b k n pc lv (.ref (g 0) :: st) (wM cI cZ g sc ar hs) := by
  subst hv
  exact J_get 0 2 F hd inG_X6 rfl rfl (by decide) rfl hlink rfl hn kk
theorem M_put_0_2 {X : jX} {k n pc pc' : Nat} {lv : List (Nat × Value)} {st : List Value} {cc : ByteArray} {own : String} {cI cZ : ClassId} {z g : Nat → Nat} {sc : Nat → Int32} {ar : Nat → Nat → Int32} {hs : Int64} {index : Nat} {v : Int32} (F : JF X cc own cI cZ z) (hd : decode cc pc = .ok (.putfield index, 3)) (hlink : Cond.fieldLink own index "EvenHoldModel" "isThere" "Z" ∈ wsG) (hz : v = 0 ∨ v = 1) (hn : pc + 3 = pc') (kk : J X true k n pc' lv st (wM cI cZ g (upd sc 2 v) ar hs)) : J X true k n pc lv (.int v :: .ref (g 0) :: st) (wM cI cZ g sc ar hs) := J_put (ty := .boolean) 0 2 F hd inG_X6 tyX6 tyX6_ok nmX6 rfl rfl (by decide) rfl hlink rfl (tyX6_ok 2 (by decide)) (by rcases hz with rfl | rfl <;> rfl) (by rcases hz with rfl | rfl <;> rfl) (Nat.le_of_ble_eq_true rfl) rfl hn kk
theorem M_get_0_3 {X : jX} {b : Bool} {k n pc pc' : Nat} {lv : List (Nat × Value)} {st : List Value} {cc : ByteArray} {own : String} {cI cZ : ClassId} {z g : Nat → Nat} {sc : Nat → Int32} {ar : Nat → Nat → Int32} {hs : Int64} {index : Nat} {v : Int32} (F : JF X cc own cI cZ z) (hd : decode cc pc = .ok (.getfield index, 3)) (hlink : Cond.fieldLink own index "EvenHoldModel" "bend" "I" ∈ wsG) (hv : sc 3 = v) (hn : pc + 3 = pc') (kk : J X b k n pc' lv (.int v :: st) (wM cI cZ g sc ar hs)) : J X b k n pc lv (.ref (g 0) :: st) (wM cI cZ g sc ar hs) := by
  subst hv
  exact J_get 0 3 F hd inG_X6 rfl rfl (by decide) rfl hlink rfl hn kk
theorem M_put_0_3 {X : jX} {k n pc pc' : Nat} {lv : List (Nat × Value)} {st : List Value} {cc : ByteArray} {own : String} {cI cZ : ClassId} {z g : Nat → Nat} {sc : Nat → Int32} {ar : Nat → Nat → Int32} {hs : Int64} {index : Nat} {v : Int32} (F : JF X cc own cI cZ z) (hd : decode cc pc = .ok (.putfield index, 3)) (hlink : Cond.fieldLink own index "EvenHoldModel" "bend" "I" ∈ wsG) (hn : pc + 3 = pc') (kk : J X true k n pc' lv st (wM cI cZ g (upd sc 3 v) ar hs)) : J X true k n pc lv (.int v :: .ref (g 0) :: st) (wM cI cZ g sc ar hs) := J_put (ty := .int) 0 3 F hd inG_X6 tyX6 tyX6_ok nmX6 rfl rfl (by decide) rfl hlink rfl (tyX6_ok 3 (by decide)) rfl rfl (Nat.le_of_ble_eq_true rfl) rfl hn kk
theorem M_get_0_4 {X : jX} {b : Bool} {k n pc pc' : Nat} {lv : List (Nat × Value)} {st : List Value} {cc : ByteArray} {own : String} {cI cZ : ClassId} {z g : Nat → Nat} {sc : Nat → Int32} {ar : Nat → Nat → Int32} {hs : Int64} {index : Nat} {v : Int32} (F : JF X cc own cI cZ z) (hd : decode cc pc = .ok (.getfield index, 3)) (hlink : Cond.fieldLink own index "EvenHoldModel" "list" "I" ∈ wsG) (hv : sc 4 = v) (hn : pc + 3 = pc') (kk : J X b k n pc' lv (.int v :: st) (wM cI cZ g sc ar hs)) : J X b k n pc lv (.ref (g 0) :: st) (wM cI cZ g sc ar hs) := by
  subst hv
  exact J_get 0 4 F hd inG_X6 rfl rfl (by decide) rfl hlink rfl hn kk
theorem M_put_0_4 {X : jX} {k n pc pc' : Nat} {lv : List (Nat × Value)} {st : List Value} {cc : ByteArray} {own : String} {cI cZ : ClassId} {z g : Nat → Nat} {sc : Nat → Int32} {ar : Nat → Nat → Int32} {hs : Int64} {index : Nat} {v : Int32} (F : JF X cc own cI cZ z) (hd : decode cc pc = .ok (.putfield index, 3)) (hlink : Cond.fieldLink own index "EvenHoldModel" "list" "I" ∈ wsG) (hn : pc + 3 = pc') (kk : J X true k n pc' lv st (wM cI cZ g (upd sc 4 v) ar hs)) : J X true k n pc lv (.int v :: .ref (g 0) :: st) (wM cI cZ g sc ar hs) := J_put (ty := .int) 0 4 F hd inG_X6 tyX6 tyX6_ok nmX6 rfl rfl (by decide) rfl hlink rfl (tyX6_ok 4 (by decide)) rfl rfl (Nat.le_of_ble_eq_true rfl) rfl hn kk
theorem M_get_0_5 {X : jX} {b : Bool} {k n pc pc' : Nat} {lv : List (Nat × Value)} {st : List Value} {cc : ByteArray} {own : String} {cI cZ : ClassId} {z g : Nat → Nat} {sc : Nat → Int32} {ar : Nat → Nat → Int32} {hs : Int64} {index : Nat} {v : Int32} (F : JF X cc own cI cZ z) (hd : decode cc pc = .ok (.getfield index, 3)) (hlink : Cond.fieldLink own index "EvenHoldModel" "lies" "I" ∈ wsG) (hv : sc 5 = v) (hn : pc + 3 = pc') (kk : J X b k n pc' lv (.int v :: st) (wM cI cZ g sc ar hs)) : J X b k n pc lv (.ref (g 0) :: st) (wM cI cZ g sc ar hs) := by
  subst hv
  exact J_get 0 5 F hd inG_X6 rfl rfl (by decide) rfl hlink rfl hn kk
theorem M_put_0_5 {X : jX} {k n pc pc' : Nat} {lv : List (Nat × Value)} {st : List Value} {cc : ByteArray} {own : String} {cI cZ : ClassId} {z g : Nat → Nat} {sc : Nat → Int32} {ar : Nat → Nat → Int32} {hs : Int64} {index : Nat} {v : Int32} (F : JF X cc own cI cZ z) (hd : decode cc pc = .ok (.putfield index, 3)) (hlink : Cond.fieldLink own index "EvenHoldModel" "lies" "I" ∈ wsG) (hn : pc + 3 = pc') (kk : J X true k n pc' lv st (wM cI cZ g (upd sc 5 v) ar hs)) : J X true k n pc lv (.int v :: .ref (g 0) :: st) (wM cI cZ g sc ar hs) := J_put (ty := .int) 0 5 F hd inG_X6 tyX6 tyX6_ok nmX6 rfl rfl (by decide) rfl hlink rfl (tyX6_ok 5 (by decide)) rfl rfl (Nat.le_of_ble_eq_true rfl) rfl hn kk
theorem M_get_0_6 {X : jX} {b : Bool} {k n pc pc' : Nat} {lv : List (Nat × Value)} {st : List Value} {cc : ByteArray} {own : String} {cI cZ : ClassId} {z g : Nat → Nat} {sc : Nat → Int32} {ar : Nat → Nat → Int32} {hs : Int64} {index : Nat} {v : Int32} (F : JF X cc own cI cZ z) (hd : decode cc pc = .ok (.getfield index, 3)) (hlink : Cond.fieldLink own index "EvenHoldModel" "out" "I" ∈ wsG) (hv : sc 6 = v) (hn : pc + 3 = pc') (kk : J X b k n pc' lv (.int v :: st) (wM cI cZ g sc ar hs)) : J X b k n pc lv (.ref (g 0) :: st) (wM cI cZ g sc ar hs) := by
  subst hv
  exact J_get 0 6 F hd inG_X6 rfl rfl (by decide) rfl hlink rfl hn kk
theorem M_put_0_6 {X : jX} {k n pc pc' : Nat} {lv : List (Nat × Value)} {st : List Value} {cc : ByteArray} {own : String} {cI cZ : ClassId} {z g : Nat → Nat} {sc : Nat → Int32} {ar : Nat → Nat → Int32} {hs : Int64} {index : Nat} {v : Int32} (F : JF X cc own cI cZ z) (hd : decode cc pc = .ok (.putfield index, 3)) (hlink : Cond.fieldLink own index "EvenHoldModel" "out" "I" ∈ wsG) (hn : pc + 3 = pc') (kk : J X true k n pc' lv st (wM cI cZ g (upd sc 6 v) ar hs)) : J X true k n pc lv (.int v :: .ref (g 0) :: st) (wM cI cZ g sc ar hs) := J_put (ty := .int) 0 6 F hd inG_X6 tyX6 tyX6_ok nmX6 rfl rfl (by decide) rfl hlink rfl (tyX6_ok 6 (by decide)) rfl rfl (Nat.le_of_ble_eq_true rfl) rfl hn kk
theorem M_get_0_7 {X : jX} {b : Bool} {k n pc pc' : Nat} {lv : List (Nat × Value)} {st : List Value} {cc : ByteArray} {own : String} {cI cZ : ClassId} {z g : Nat → Nat} {sc : Nat → Int32} {ar : Nat → Nat → Int32} {hs : Int64} {index : Nat} {v : Int32} (F : JF X cc own cI cZ z) (hd : decode cc pc = .ok (.getfield index, 3)) (hlink : Cond.fieldLink own index "EvenHoldModel" "minutes" "I" ∈ wsG) (hv : sc 7 = v) (hn : pc + 3 = pc') (kk : J X b k n pc' lv (.int v :: st) (wM cI cZ g sc ar hs)) : J X b k n pc lv (.ref (g 0) :: st) (wM cI cZ g sc ar hs) := by
  subst hv
  exact J_get 0 7 F hd inG_X6 rfl rfl (by decide) rfl hlink rfl hn kk
theorem M_put_0_7 {X : jX} {k n pc pc' : Nat} {lv : List (Nat × Value)} {st : List Value} {cc : ByteArray} {own : String} {cI cZ : ClassId} {z g : Nat → Nat} {sc : Nat → Int32} {ar : Nat → Nat → Int32} {hs : Int64} {index : Nat} {v : Int32} (F : JF X cc own cI cZ z) (hd : decode cc pc = .ok (.putfield index, 3)) (hlink : Cond.fieldLink own index "EvenHoldModel" "minutes" "I" ∈ wsG) (hn : pc + 3 = pc') (kk : J X true k n pc' lv st (wM cI cZ g (upd sc 7 v) ar hs)) : J X true k n pc lv (.int v :: .ref (g 0) :: st) (wM cI cZ g sc ar hs) := J_put (ty := .int) 0 7 F hd inG_X6 tyX6 tyX6_ok nmX6 rfl rfl (by decide) rfl hlink rfl (tyX6_ok 7 (by decide)) rfl rfl (Nat.le_of_ble_eq_true rfl) rfl hn kk
theorem M_get_0_8 {X : jX} {b : Bool} {k n pc pc' : Nat} {lv : List (Nat × Value)} {st : List Value} {cc : ByteArray} {own : String} {cI cZ : ClassId} {z g : Nat → Nat} {sc : Nat → Int32} {ar : Nat → Nat → Int32} {hs : Int64} {index : Nat} {v : Int32} (F : JF X cc own cI cZ z) (hd : decode cc pc = .ok (.getfield index, 3)) (hlink : Cond.fieldLink own index "EvenHoldModel" "groundNow" "I" ∈ wsG) (hv : sc 8 = v) (hn : pc + 3 = pc') (kk : J X b k n pc' lv (.int v :: st) (wM cI cZ g sc ar hs)) : J X b k n pc lv (.ref (g 0) :: st) (wM cI cZ g sc ar hs) := by
  subst hv
  exact J_get 0 8 F hd inG_X6 rfl rfl (by decide) rfl hlink rfl hn kk
theorem M_put_0_8 {X : jX} {k n pc pc' : Nat} {lv : List (Nat × Value)} {st : List Value} {cc : ByteArray} {own : String} {cI cZ : ClassId} {z g : Nat → Nat} {sc : Nat → Int32} {ar : Nat → Nat → Int32} {hs : Int64} {index : Nat} {v : Int32} (F : JF X cc own cI cZ z) (hd : decode cc pc = .ok (.putfield index, 3)) (hlink : Cond.fieldLink own index "EvenHoldModel" "groundNow" "I" ∈ wsG) (hn : pc + 3 = pc') (kk : J X true k n pc' lv st (wM cI cZ g (upd sc 8 v) ar hs)) : J X true k n pc lv (.int v :: .ref (g 0) :: st) (wM cI cZ g sc ar hs) := J_put (ty := .int) 0 8 F hd inG_X6 tyX6 tyX6_ok nmX6 rfl rfl (by decide) rfl hlink rfl (tyX6_ok 8 (by decide)) rfl rfl (Nat.le_of_ble_eq_true rfl) rfl hn kk
theorem M_get_0_9 {X : jX} {b : Bool} {k n pc pc' : Nat} {lv : List (Nat × Value)} {st : List Value} {cc : ByteArray} {own : String} {cI cZ : ClassId} {z g : Nat → Nat} {sc : Nat → Int32} {ar : Nat → Nat → Int32} {hs : Int64} {index : Nat} {v : Int32} (F : JF X cc own cI cZ z) (hd : decode cc pc = .ok (.getfield index, 3)) (hlink : Cond.fieldLink own index "EvenHoldModel" "holdsRead" "I" ∈ wsG) (hv : sc 9 = v) (hn : pc + 3 = pc') (kk : J X b k n pc' lv (.int v :: st) (wM cI cZ g sc ar hs)) : J X b k n pc lv (.ref (g 0) :: st) (wM cI cZ g sc ar hs) := by
  subst hv
  exact J_get 0 9 F hd inG_X6 rfl rfl (by decide) rfl hlink rfl hn kk
theorem M_put_0_9 {X : jX} {k n pc pc' : Nat} {lv : List (Nat × Value)} {st : List Value} {cc : ByteArray} {own : String} {cI cZ : ClassId} {z g : Nat → Nat} {sc : Nat → Int32} {ar : Nat → Nat → Int32} {hs : Int64} {index : Nat} {v : Int32} (F : JF X cc own cI cZ z) (hd : decode cc pc = .ok (.putfield index, 3)) (hlink : Cond.fieldLink own index "EvenHoldModel" "holdsRead" "I" ∈ wsG) (hn : pc + 3 = pc') (kk : J X true k n pc' lv st (wM cI cZ g (upd sc 9 v) ar hs)) : J X true k n pc lv (.int v :: .ref (g 0) :: st) (wM cI cZ g sc ar hs) := J_put (ty := .int) 0 9 F hd inG_X6 tyX6 tyX6_ok nmX6 rfl rfl (by decide) rfl hlink rfl (tyX6_ok 9 (by decide)) rfl rfl (Nat.le_of_ble_eq_true rfl) rfl hn kk
theorem M_get_0_10 {X : jX} {b : Bool} {k n pc pc' : Nat} {lv : List (Nat × Value)} {st : List Value} {cc : ByteArray} {own : String} {cI cZ : ClassId} {z g : Nat → Nat} {sc : Nat → Int32} {ar : Nat → Nat → Int32} {hs : Int64} {index : Nat} (F : JF X cc own cI cZ z) (hd : decode cc pc = .ok (.getfield index, 3)) (hlink : Cond.fieldLink own index "EvenHoldModel" "kinds" "[I" ∈ wsG) (hn : pc + 3 = pc') (kk : J X b k n pc' lv (.ref (g 2) :: st) (wM cI cZ g sc ar hs)) : J X b k n pc lv (.ref (g 0) :: st) (wM cI cZ g sc ar hs) := J_get 0 10 F hd inG_X6 rfl rfl (by decide) rfl hlink rfl hn kk
theorem M_get_0_11 {X : jX} {b : Bool} {k n pc pc' : Nat} {lv : List (Nat × Value)} {st : List Value} {cc : ByteArray} {own : String} {cI cZ : ClassId} {z g : Nat → Nat} {sc : Nat → Int32} {ar : Nat → Nat → Int32} {hs : Int64} {index : Nat} (F : JF X cc own cI cZ z) (hd : decode cc pc = .ok (.getfield index, 3)) (hlink : Cond.fieldLink own index "EvenHoldModel" "far" "[I" ∈ wsG) (hn : pc + 3 = pc') (kk : J X b k n pc' lv (.ref (g 3) :: st) (wM cI cZ g sc ar hs)) : J X b k n pc lv (.ref (g 0) :: st) (wM cI cZ g sc ar hs) := J_get 0 11 F hd inG_X6 rfl rfl (by decide) rfl hlink rfl hn kk
theorem M_get_0_12 {X : jX} {b : Bool} {k n pc pc' : Nat} {lv : List (Nat × Value)} {st : List Value} {cc : ByteArray} {own : String} {cI cZ : ClassId} {z g : Nat → Nat} {sc : Nat → Int32} {ar : Nat → Nat → Int32} {hs : Int64} {index : Nat} (F : JF X cc own cI cZ z) (hd : decode cc pc = .ok (.getfield index, 3)) (hlink : Cond.fieldLink own index "EvenHoldModel" "firsts" "[I" ∈ wsG) (hn : pc + 3 = pc') (kk : J X b k n pc' lv (.ref (g 4) :: st) (wM cI cZ g sc ar hs)) : J X b k n pc lv (.ref (g 0) :: st) (wM cI cZ g sc ar hs) := J_get 0 12 F hd inG_X6 rfl rfl (by decide) rfl hlink rfl hn kk
theorem M_get_0_13 {X : jX} {b : Bool} {k n pc pc' : Nat} {lv : List (Nat × Value)} {st : List Value} {cc : ByteArray} {own : String} {cI cZ : ClassId} {z g : Nat → Nat} {sc : Nat → Int32} {ar : Nat → Nat → Int32} {hs : Int64} {index : Nat} (F : JF X cc own cI cZ z) (hd : decode cc pc = .ok (.getfield index, 3)) (hlink : Cond.fieldLink own index "EvenHoldModel" "waits" "[I" ∈ wsG) (hn : pc + 3 = pc') (kk : J X b k n pc' lv (.ref (g 5) :: st) (wM cI cZ g sc ar hs)) : J X b k n pc lv (.ref (g 0) :: st) (wM cI cZ g sc ar hs) := J_get 0 13 F hd inG_X6 rfl rfl (by decide) rfl hlink rfl hn kk
theorem M_get_0_14 {X : jX} {b : Bool} {k n pc pc' : Nat} {lv : List (Nat × Value)} {st : List Value} {cc : ByteArray} {own : String} {cI cZ : ClassId} {z g : Nat → Nat} {sc : Nat → Int32} {ar : Nat → Nat → Int32} {hs : Int64} {index : Nat} (F : JF X cc own cI cZ z) (hd : decode cc pc = .ok (.getfield index, 3)) (hlink : Cond.fieldLink own index "EvenHoldModel" "isWaiting" "[Z" ∈ wsG) (hn : pc + 3 = pc') (kk : J X b k n pc' lv (.ref (g 6) :: st) (wM cI cZ g sc ar hs)) : J X b k n pc lv (.ref (g 0) :: st) (wM cI cZ g sc ar hs) := J_get 0 14 F hd inG_X6 rfl rfl (by decide) rfl hlink rfl hn kk
theorem M_get_0_15 {X : jX} {b : Bool} {k n pc pc' : Nat} {lv : List (Nat × Value)} {st : List Value} {cc : ByteArray} {own : String} {cI cZ : ClassId} {z g : Nat → Nat} {sc : Nat → Int32} {ar : Nat → Nat → Int32} {hs : Int64} {index : Nat} {v : Int32} (F : JF X cc own cI cZ z) (hd : decode cc pc = .ok (.getfield index, 3)) (hlink : Cond.fieldLink own index "EvenHoldModel" "leastMany" "I" ∈ wsG) (hv : sc 15 = v) (hn : pc + 3 = pc') (kk : J X b k n pc' lv (.int v :: st) (wM cI cZ g sc ar hs)) : J X b k n pc lv (.ref (g 0) :: st) (wM cI cZ g sc ar hs) := by
  subst hv
  exact J_get 0 15 F hd inG_X6 rfl rfl (by decide) rfl hlink rfl hn kk
theorem M_put_0_15 {X : jX} {k n pc pc' : Nat} {lv : List (Nat × Value)} {st : List Value} {cc : ByteArray} {own : String} {cI cZ : ClassId} {z g : Nat → Nat} {sc : Nat → Int32} {ar : Nat → Nat → Int32} {hs : Int64} {index : Nat} {v : Int32} (F : JF X cc own cI cZ z) (hd : decode cc pc = .ok (.putfield index, 3)) (hlink : Cond.fieldLink own index "EvenHoldModel" "leastMany" "I" ∈ wsG) (hn : pc + 3 = pc') (kk : J X true k n pc' lv st (wM cI cZ g (upd sc 15 v) ar hs)) : J X true k n pc lv (.int v :: .ref (g 0) :: st) (wM cI cZ g sc ar hs) := J_put (ty := .int) 0 15 F hd inG_X6 tyX6 tyX6_ok nmX6 rfl rfl (by decide) rfl hlink rfl (tyX6_ok 15 (by decide)) rfl rfl (Nat.le_of_ble_eq_true rfl) rfl hn kk
theorem M_get_0_16 {X : jX} {b : Bool} {k n pc pc' : Nat} {lv : List (Nat × Value)} {st : List Value} {cc : ByteArray} {own : String} {cI cZ : ClassId} {z g : Nat → Nat} {sc : Nat → Int32} {ar : Nat → Nat → Int32} {hs : Int64} {index : Nat} {v : Int32} (F : JF X cc own cI cZ z) (hd : decode cc pc = .ok (.getfield index, 3)) (hlink : Cond.fieldLink own index "EvenHoldModel" "stringMany" "I" ∈ wsG) (hv : sc 16 = v) (hn : pc + 3 = pc') (kk : J X b k n pc' lv (.int v :: st) (wM cI cZ g sc ar hs)) : J X b k n pc lv (.ref (g 0) :: st) (wM cI cZ g sc ar hs) := by
  subst hv
  exact J_get 0 16 F hd inG_X6 rfl rfl (by decide) rfl hlink rfl hn kk
theorem M_put_0_16 {X : jX} {k n pc pc' : Nat} {lv : List (Nat × Value)} {st : List Value} {cc : ByteArray} {own : String} {cI cZ : ClassId} {z g : Nat → Nat} {sc : Nat → Int32} {ar : Nat → Nat → Int32} {hs : Int64} {index : Nat} {v : Int32} (F : JF X cc own cI cZ z) (hd : decode cc pc = .ok (.putfield index, 3)) (hlink : Cond.fieldLink own index "EvenHoldModel" "stringMany" "I" ∈ wsG) (hn : pc + 3 = pc') (kk : J X true k n pc' lv st (wM cI cZ g (upd sc 16 v) ar hs)) : J X true k n pc lv (.int v :: .ref (g 0) :: st) (wM cI cZ g sc ar hs) := J_put (ty := .int) 0 16 F hd inG_X6 tyX6 tyX6_ok nmX6 rfl rfl (by decide) rfl hlink rfl (tyX6_ok 16 (by decide)) rfl rfl (Nat.le_of_ble_eq_true rfl) rfl hn kk
theorem M_get_0_17 {X : jX} {b : Bool} {k n pc pc' : Nat} {lv : List (Nat × Value)} {st : List Value} {cc : ByteArray} {own : String} {cI cZ : ClassId} {z g : Nat → Nat} {sc : Nat → Int32} {ar : Nat → Nat → Int32} {hs : Int64} {index : Nat} (F : JF X cc own cI cZ z) (hd : decode cc pc = .ok (.getfield index, 3)) (hlink : Cond.fieldLink own index "EvenHoldModel" "strings" "[I" ∈ wsG) (hn : pc + 3 = pc') (kk : J X b k n pc' lv (.ref (g 7) :: st) (wM cI cZ g sc ar hs)) : J X b k n pc lv (.ref (g 0) :: st) (wM cI cZ g sc ar hs) := J_get 0 17 F hd inG_X6 rfl rfl (by decide) rfl hlink rfl hn kk
theorem M_get_0_18 {X : jX} {b : Bool} {k n pc pc' : Nat} {lv : List (Nat × Value)} {st : List Value} {cc : ByteArray} {own : String} {cI cZ : ClassId} {z g : Nat → Nat} {sc : Nat → Int32} {ar : Nat → Nat → Int32} {hs : Int64} {index : Nat} (F : JF X cc own cI cZ z) (hd : decode cc pc = .ok (.getfield index, 3)) (hlink : Cond.fieldLink own index "EvenHoldModel" "now" "[I" ∈ wsG) (hn : pc + 3 = pc') (kk : J X b k n pc' lv (.ref (g 8) :: st) (wM cI cZ g sc ar hs)) : J X b k n pc lv (.ref (g 0) :: st) (wM cI cZ g sc ar hs) := J_get 0 18 F hd inG_X6 rfl rfl (by decide) rfl hlink rfl hn kk
theorem M_get_0_19 {X : jX} {b : Bool} {k n pc pc' : Nat} {lv : List (Nat × Value)} {st : List Value} {cc : ByteArray} {own : String} {cI cZ : ClassId} {z g : Nat → Nat} {sc : Nat → Int32} {ar : Nat → Nat → Int32} {hs : Int64} {index : Nat} (F : JF X cc own cI cZ z) (hd : decode cc pc = .ok (.getfield index, 3)) (hlink : Cond.fieldLink own index "EvenHoldModel" "next" "[I" ∈ wsG) (hn : pc + 3 = pc') (kk : J X b k n pc' lv (.ref (g 9) :: st) (wM cI cZ g sc ar hs)) : J X b k n pc lv (.ref (g 0) :: st) (wM cI cZ g sc ar hs) := J_get 0 19 F hd inG_X6 rfl rfl (by decide) rfl hlink rfl hn kk
theorem M_get_0_20 {X : jX} {b : Bool} {k n pc pc' : Nat} {lv : List (Nat × Value)} {st : List Value} {cc : ByteArray} {own : String} {cI cZ : ClassId} {z g : Nat → Nat} {sc : Nat → Int32} {ar : Nat → Nat → Int32} {hs : Int64} {index : Nat} {v : Int32} (F : JF X cc own cI cZ z) (hd : decode cc pc = .ok (.getfield index, 3)) (hlink : Cond.fieldLink own index "EvenHoldModel" "fitsAll" "I" ∈ wsG) (hv : sc 20 = v) (hn : pc + 3 = pc') (kk : J X b k n pc' lv (.int v :: st) (wM cI cZ g sc ar hs)) : J X b k n pc lv (.ref (g 0) :: st) (wM cI cZ g sc ar hs) := by
  subst hv
  exact J_get 0 20 F hd inG_X6 rfl rfl (by decide) rfl hlink rfl hn kk
theorem M_put_0_20 {X : jX} {k n pc pc' : Nat} {lv : List (Nat × Value)} {st : List Value} {cc : ByteArray} {own : String} {cI cZ : ClassId} {z g : Nat → Nat} {sc : Nat → Int32} {ar : Nat → Nat → Int32} {hs : Int64} {index : Nat} {v : Int32} (F : JF X cc own cI cZ z) (hd : decode cc pc = .ok (.putfield index, 3)) (hlink : Cond.fieldLink own index "EvenHoldModel" "fitsAll" "I" ∈ wsG) (hn : pc + 3 = pc') (kk : J X true k n pc' lv st (wM cI cZ g (upd sc 20 v) ar hs)) : J X true k n pc lv (.int v :: .ref (g 0) :: st) (wM cI cZ g sc ar hs) := J_put (ty := .int) 0 20 F hd inG_X6 tyX6 tyX6_ok nmX6 rfl rfl (by decide) rfl hlink rfl (tyX6_ok 20 (by decide)) rfl rfl (Nat.le_of_ble_eq_true rfl) rfl hn kk
theorem M_get_0_21 {X : jX} {b : Bool} {k n pc pc' : Nat} {lv : List (Nat × Value)} {st : List Value} {cc : ByteArray} {own : String} {cI cZ : ClassId} {z g : Nat → Nat} {sc : Nat → Int32} {ar : Nat → Nat → Int32} {hs : Int64} {index : Nat} {v : Int32} (F : JF X cc own cI cZ z) (hd : decode cc pc = .ok (.getfield index, 3)) (hlink : Cond.fieldLink own index "EvenHoldModel" "firstMany" "I" ∈ wsG) (hv : sc 21 = v) (hn : pc + 3 = pc') (kk : J X b k n pc' lv (.int v :: st) (wM cI cZ g sc ar hs)) : J X b k n pc lv (.ref (g 0) :: st) (wM cI cZ g sc ar hs) := by
  subst hv
  exact J_get 0 21 F hd inG_X6 rfl rfl (by decide) rfl hlink rfl hn kk
theorem M_put_0_21 {X : jX} {k n pc pc' : Nat} {lv : List (Nat × Value)} {st : List Value} {cc : ByteArray} {own : String} {cI cZ : ClassId} {z g : Nat → Nat} {sc : Nat → Int32} {ar : Nat → Nat → Int32} {hs : Int64} {index : Nat} {v : Int32} (F : JF X cc own cI cZ z) (hd : decode cc pc = .ok (.putfield index, 3)) (hlink : Cond.fieldLink own index "EvenHoldModel" "firstMany" "I" ∈ wsG) (hn : pc + 3 = pc') (kk : J X true k n pc' lv st (wM cI cZ g (upd sc 21 v) ar hs)) : J X true k n pc lv (.int v :: .ref (g 0) :: st) (wM cI cZ g sc ar hs) := J_put (ty := .int) 0 21 F hd inG_X6 tyX6 tyX6_ok nmX6 rfl rfl (by decide) rfl hlink rfl (tyX6_ok 21 (by decide)) rfl rfl (Nat.le_of_ble_eq_true rfl) rfl hn kk
theorem M_get_0_22 {X : jX} {b : Bool} {k n pc pc' : Nat} {lv : List (Nat × Value)} {st : List Value} {cc : ByteArray} {own : String} {cI cZ : ClassId} {z g : Nat → Nat} {sc : Nat → Int32} {ar : Nat → Nat → Int32} {hs : Int64} {index : Nat} {v : Int32} (F : JF X cc own cI cZ z) (hd : decode cc pc = .ok (.getfield index, 3)) (hlink : Cond.fieldLink own index "EvenHoldModel" "firstLeast" "I" ∈ wsG) (hv : sc 22 = v) (hn : pc + 3 = pc') (kk : J X b k n pc' lv (.int v :: st) (wM cI cZ g sc ar hs)) : J X b k n pc lv (.ref (g 0) :: st) (wM cI cZ g sc ar hs) := by
  subst hv
  exact J_get 0 22 F hd inG_X6 rfl rfl (by decide) rfl hlink rfl hn kk
theorem M_put_0_22 {X : jX} {k n pc pc' : Nat} {lv : List (Nat × Value)} {st : List Value} {cc : ByteArray} {own : String} {cI cZ : ClassId} {z g : Nat → Nat} {sc : Nat → Int32} {ar : Nat → Nat → Int32} {hs : Int64} {index : Nat} {v : Int32} (F : JF X cc own cI cZ z) (hd : decode cc pc = .ok (.putfield index, 3)) (hlink : Cond.fieldLink own index "EvenHoldModel" "firstLeast" "I" ∈ wsG) (hn : pc + 3 = pc') (kk : J X true k n pc' lv st (wM cI cZ g (upd sc 22 v) ar hs)) : J X true k n pc lv (.int v :: .ref (g 0) :: st) (wM cI cZ g sc ar hs) := J_put (ty := .int) 0 22 F hd inG_X6 tyX6 tyX6_ok nmX6 rfl rfl (by decide) rfl hlink rfl (tyX6_ok 22 (by decide)) rfl rfl (Nat.le_of_ble_eq_true rfl) rfl hn kk
theorem M_get_0_23 {X : jX} {b : Bool} {k n pc pc' : Nat} {lv : List (Nat × Value)} {st : List Value} {cc : ByteArray} {own : String} {cI cZ : ClassId} {z g : Nat → Nat} {sc : Nat → Int32} {ar : Nat → Nat → Int32} {hs : Int64} {index : Nat} {v : Int32} (F : JF X cc own cI cZ z) (hd : decode cc pc = .ok (.getfield index, 3)) (hlink : Cond.fieldLink own index "EvenHoldModel" "seedNow" "I" ∈ wsG) (hv : sc 23 = v) (hn : pc + 3 = pc') (kk : J X b k n pc' lv (.int v :: st) (wM cI cZ g sc ar hs)) : J X b k n pc lv (.ref (g 0) :: st) (wM cI cZ g sc ar hs) := by
  subst hv
  exact J_get 0 23 F hd inG_X6 rfl rfl (by decide) rfl hlink rfl hn kk
theorem M_put_0_23 {X : jX} {k n pc pc' : Nat} {lv : List (Nat × Value)} {st : List Value} {cc : ByteArray} {own : String} {cI cZ : ClassId} {z g : Nat → Nat} {sc : Nat → Int32} {ar : Nat → Nat → Int32} {hs : Int64} {index : Nat} {v : Int32} (F : JF X cc own cI cZ z) (hd : decode cc pc = .ok (.putfield index, 3)) (hlink : Cond.fieldLink own index "EvenHoldModel" "seedNow" "I" ∈ wsG) (hn : pc + 3 = pc') (kk : J X true k n pc' lv st (wM cI cZ g (upd sc 23 v) ar hs)) : J X true k n pc lv (.int v :: .ref (g 0) :: st) (wM cI cZ g sc ar hs) := J_put (ty := .int) 0 23 F hd inG_X6 tyX6 tyX6_ok nmX6 rfl rfl (by decide) rfl hlink rfl (tyX6_ok 23 (by decide)) rfl rfl (Nat.le_of_ble_eq_true rfl) rfl hn kk
theorem M_get_0_24 {X : jX} {b : Bool} {k n pc pc' : Nat} {lv : List (Nat × Value)} {st : List Value} {cc : ByteArray} {own : String} {cI cZ : ClassId} {z g : Nat → Nat} {sc : Nat → Int32} {ar : Nat → Nat → Int32} {hs : Int64} {index : Nat} {v : Int32} (F : JF X cc own cI cZ z) (hd : decode cc pc = .ok (.getfield index, 3)) (hlink : Cond.fieldLink own index "EvenHoldModel" "keptHold" "I" ∈ wsG) (hv : sc 24 = v) (hn : pc + 3 = pc') (kk : J X b k n pc' lv (.int v :: st) (wM cI cZ g sc ar hs)) : J X b k n pc lv (.ref (g 0) :: st) (wM cI cZ g sc ar hs) := by
  subst hv
  exact J_get 0 24 F hd inG_X6 rfl rfl (by decide) rfl hlink rfl hn kk
theorem M_put_0_24 {X : jX} {k n pc pc' : Nat} {lv : List (Nat × Value)} {st : List Value} {cc : ByteArray} {own : String} {cI cZ : ClassId} {z g : Nat → Nat} {sc : Nat → Int32} {ar : Nat → Nat → Int32} {hs : Int64} {index : Nat} {v : Int32} (F : JF X cc own cI cZ z) (hd : decode cc pc = .ok (.putfield index, 3)) (hlink : Cond.fieldLink own index "EvenHoldModel" "keptHold" "I" ∈ wsG) (hn : pc + 3 = pc') (kk : J X true k n pc' lv st (wM cI cZ g (upd sc 24 v) ar hs)) : J X true k n pc lv (.int v :: .ref (g 0) :: st) (wM cI cZ g sc ar hs) := J_put (ty := .int) 0 24 F hd inG_X6 tyX6 tyX6_ok nmX6 rfl rfl (by decide) rfl hlink rfl (tyX6_ok 24 (by decide)) rfl rfl (Nat.le_of_ble_eq_true rfl) rfl hn kk
theorem M_get_0_25 {X : jX} {b : Bool} {k n pc pc' : Nat} {lv : List (Nat × Value)} {st : List Value} {cc : ByteArray} {own : String} {cI cZ : ClassId} {z g : Nat → Nat} {sc : Nat → Int32} {ar : Nat → Nat → Int32} {hs : Int64} {index : Nat} {v : Int32} (F : JF X cc own cI cZ z) (hd : decode cc pc = .ok (.getfield index, 3)) (hlink : Cond.fieldLink own index "EvenHoldModel" "keptLies" "I" ∈ wsG) (hv : sc 25 = v) (hn : pc + 3 = pc') (kk : J X b k n pc' lv (.int v :: st) (wM cI cZ g sc ar hs)) : J X b k n pc lv (.ref (g 0) :: st) (wM cI cZ g sc ar hs) := by
  subst hv
  exact J_get 0 25 F hd inG_X6 rfl rfl (by decide) rfl hlink rfl hn kk
theorem M_put_0_25 {X : jX} {k n pc pc' : Nat} {lv : List (Nat × Value)} {st : List Value} {cc : ByteArray} {own : String} {cI cZ : ClassId} {z g : Nat → Nat} {sc : Nat → Int32} {ar : Nat → Nat → Int32} {hs : Int64} {index : Nat} {v : Int32} (F : JF X cc own cI cZ z) (hd : decode cc pc = .ok (.putfield index, 3)) (hlink : Cond.fieldLink own index "EvenHoldModel" "keptLies" "I" ∈ wsG) (hn : pc + 3 = pc') (kk : J X true k n pc' lv st (wM cI cZ g (upd sc 25 v) ar hs)) : J X true k n pc lv (.int v :: .ref (g 0) :: st) (wM cI cZ g sc ar hs) := J_put (ty := .int) 0 25 F hd inG_X6 tyX6 tyX6_ok nmX6 rfl rfl (by decide) rfl hlink rfl (tyX6_ok 25 (by decide)) rfl rfl (Nat.le_of_ble_eq_true rfl) rfl hn kk
theorem M_get_0_26 {X : jX} {b : Bool} {k n pc pc' : Nat} {lv : List (Nat × Value)} {st : List Value} {cc : ByteArray} {own : String} {cI cZ : ClassId} {z g : Nat → Nat} {sc : Nat → Int32} {ar : Nat → Nat → Int32} {hs : Int64} {index : Nat} {v : Int32} (F : JF X cc own cI cZ z) (hd : decode cc pc = .ok (.getfield index, 3)) (hlink : Cond.fieldLink own index "EvenHoldModel" "keptOut" "I" ∈ wsG) (hv : sc 26 = v) (hn : pc + 3 = pc') (kk : J X b k n pc' lv (.int v :: st) (wM cI cZ g sc ar hs)) : J X b k n pc lv (.ref (g 0) :: st) (wM cI cZ g sc ar hs) := by
  subst hv
  exact J_get 0 26 F hd inG_X6 rfl rfl (by decide) rfl hlink rfl hn kk
theorem M_put_0_26 {X : jX} {k n pc pc' : Nat} {lv : List (Nat × Value)} {st : List Value} {cc : ByteArray} {own : String} {cI cZ : ClassId} {z g : Nat → Nat} {sc : Nat → Int32} {ar : Nat → Nat → Int32} {hs : Int64} {index : Nat} {v : Int32} (F : JF X cc own cI cZ z) (hd : decode cc pc = .ok (.putfield index, 3)) (hlink : Cond.fieldLink own index "EvenHoldModel" "keptOut" "I" ∈ wsG) (hn : pc + 3 = pc') (kk : J X true k n pc' lv st (wM cI cZ g (upd sc 26 v) ar hs)) : J X true k n pc lv (.int v :: .ref (g 0) :: st) (wM cI cZ g sc ar hs) := J_put (ty := .int) 0 26 F hd inG_X6 tyX6 tyX6_ok nmX6 rfl rfl (by decide) rfl hlink rfl (tyX6_ok 26 (by decide)) rfl rfl (Nat.le_of_ble_eq_true rfl) rfl hn kk
theorem M_get_0_27 {X : jX} {b : Bool} {k n pc pc' : Nat} {lv : List (Nat × Value)} {st : List Value} {cc : ByteArray} {own : String} {cI cZ : ClassId} {z g : Nat → Nat} {sc : Nat → Int32} {ar : Nat → Nat → Int32} {hs : Int64} {index : Nat} {v : Int32} (F : JF X cc own cI cZ z) (hd : decode cc pc = .ok (.getfield index, 3)) (hlink : Cond.fieldLink own index "EvenHoldModel" "keptMinutes" "I" ∈ wsG) (hv : sc 27 = v) (hn : pc + 3 = pc') (kk : J X b k n pc' lv (.int v :: st) (wM cI cZ g sc ar hs)) : J X b k n pc lv (.ref (g 0) :: st) (wM cI cZ g sc ar hs) := by
  subst hv
  exact J_get 0 27 F hd inG_X6 rfl rfl (by decide) rfl hlink rfl hn kk
theorem M_put_0_27 {X : jX} {k n pc pc' : Nat} {lv : List (Nat × Value)} {st : List Value} {cc : ByteArray} {own : String} {cI cZ : ClassId} {z g : Nat → Nat} {sc : Nat → Int32} {ar : Nat → Nat → Int32} {hs : Int64} {index : Nat} {v : Int32} (F : JF X cc own cI cZ z) (hd : decode cc pc = .ok (.putfield index, 3)) (hlink : Cond.fieldLink own index "EvenHoldModel" "keptMinutes" "I" ∈ wsG) (hn : pc + 3 = pc') (kk : J X true k n pc' lv st (wM cI cZ g (upd sc 27 v) ar hs)) : J X true k n pc lv (.int v :: .ref (g 0) :: st) (wM cI cZ g sc ar hs) := J_put (ty := .int) 0 27 F hd inG_X6 tyX6 tyX6_ok nmX6 rfl rfl (by decide) rfl hlink rfl (tyX6_ok 27 (by decide)) rfl rfl (Nat.le_of_ble_eq_true rfl) rfl hn kk
theorem M_get_0_28 {X : jX} {b : Bool} {k n pc pc' : Nat} {lv : List (Nat × Value)} {st : List Value} {cc : ByteArray} {own : String} {cI cZ : ClassId} {z g : Nat → Nat} {sc : Nat → Int32} {ar : Nat → Nat → Int32} {hs : Int64} {index : Nat} {v : Int32} (F : JF X cc own cI cZ z) (hd : decode cc pc = .ok (.getfield index, 3)) (hlink : Cond.fieldLink own index "EvenHoldModel" "keptGround" "I" ∈ wsG) (hv : sc 28 = v) (hn : pc + 3 = pc') (kk : J X b k n pc' lv (.int v :: st) (wM cI cZ g sc ar hs)) : J X b k n pc lv (.ref (g 0) :: st) (wM cI cZ g sc ar hs) := by
  subst hv
  exact J_get 0 28 F hd inG_X6 rfl rfl (by decide) rfl hlink rfl hn kk
theorem M_put_0_28 {X : jX} {k n pc pc' : Nat} {lv : List (Nat × Value)} {st : List Value} {cc : ByteArray} {own : String} {cI cZ : ClassId} {z g : Nat → Nat} {sc : Nat → Int32} {ar : Nat → Nat → Int32} {hs : Int64} {index : Nat} {v : Int32} (F : JF X cc own cI cZ z) (hd : decode cc pc = .ok (.putfield index, 3)) (hlink : Cond.fieldLink own index "EvenHoldModel" "keptGround" "I" ∈ wsG) (hn : pc + 3 = pc') (kk : J X true k n pc' lv st (wM cI cZ g (upd sc 28 v) ar hs)) : J X true k n pc lv (.int v :: .ref (g 0) :: st) (wM cI cZ g sc ar hs) := J_put (ty := .int) 0 28 F hd inG_X6 tyX6 tyX6_ok nmX6 rfl rfl (by decide) rfl hlink rfl (tyX6_ok 28 (by decide)) rfl rfl (Nat.le_of_ble_eq_true rfl) rfl hn kk
theorem M_get_0_29 {X : jX} {b : Bool} {k n pc pc' : Nat} {lv : List (Nat × Value)} {st : List Value} {cc : ByteArray} {own : String} {cI cZ : ClassId} {z g : Nat → Nat} {sc : Nat → Int32} {ar : Nat → Nat → Int32} {hs : Int64} {index : Nat} {v : Int32} (F : JF X cc own cI cZ z) (hd : decode cc pc = .ok (.getfield index, 3)) (hlink : Cond.fieldLink own index "EvenHoldModel" "keptStringMany" "I" ∈ wsG) (hv : sc 29 = v) (hn : pc + 3 = pc') (kk : J X b k n pc' lv (.int v :: st) (wM cI cZ g sc ar hs)) : J X b k n pc lv (.ref (g 0) :: st) (wM cI cZ g sc ar hs) := by
  subst hv
  exact J_get 0 29 F hd inG_X6 rfl rfl (by decide) rfl hlink rfl hn kk
theorem M_put_0_29 {X : jX} {k n pc pc' : Nat} {lv : List (Nat × Value)} {st : List Value} {cc : ByteArray} {own : String} {cI cZ : ClassId} {z g : Nat → Nat} {sc : Nat → Int32} {ar : Nat → Nat → Int32} {hs : Int64} {index : Nat} {v : Int32} (F : JF X cc own cI cZ z) (hd : decode cc pc = .ok (.putfield index, 3)) (hlink : Cond.fieldLink own index "EvenHoldModel" "keptStringMany" "I" ∈ wsG) (hn : pc + 3 = pc') (kk : J X true k n pc' lv st (wM cI cZ g (upd sc 29 v) ar hs)) : J X true k n pc lv (.int v :: .ref (g 0) :: st) (wM cI cZ g sc ar hs) := J_put (ty := .int) 0 29 F hd inG_X6 tyX6 tyX6_ok nmX6 rfl rfl (by decide) rfl hlink rfl (tyX6_ok 29 (by decide)) rfl rfl (Nat.le_of_ble_eq_true rfl) rfl hn kk
theorem M_get_0_30 {X : jX} {b : Bool} {k n pc pc' : Nat} {lv : List (Nat × Value)} {st : List Value} {cc : ByteArray} {own : String} {cI cZ : ClassId} {z g : Nat → Nat} {sc : Nat → Int32} {ar : Nat → Nat → Int32} {hs : Int64} {index : Nat} (F : JF X cc own cI cZ z) (hd : decode cc pc = .ok (.getfield index, 3)) (hlink : Cond.fieldLink own index "EvenHoldModel" "keptStrings" "[I" ∈ wsG) (hn : pc + 3 = pc') (kk : J X b k n pc' lv (.ref (g 10) :: st) (wM cI cZ g sc ar hs)) : J X b k n pc lv (.ref (g 0) :: st) (wM cI cZ g sc ar hs) := J_get 0 30 F hd inG_X6 rfl rfl (by decide) rfl hlink rfl hn kk
theorem M_get_0_31 {X : jX} {b : Bool} {k n pc pc' : Nat} {lv : List (Nat × Value)} {st : List Value} {cc : ByteArray} {own : String} {cI cZ : ClassId} {z g : Nat → Nat} {sc : Nat → Int32} {ar : Nat → Nat → Int32} {hs : Int64} {index : Nat} {v : Int64} (F : JF X cc own cI cZ z) (hd : decode cc pc = .ok (.getfield index, 3)) (hlink : Cond.fieldLink own index "EvenHoldModel" "hash" "J" ∈ wsG) (hv : hs = v) (hn : pc + 3 = pc') (kk : J X b k n pc' lv (.long v :: st) (wM cI cZ g sc ar hs)) : J X b k n pc lv (.ref (g 0) :: st) (wM cI cZ g sc ar hs) := by
  subst hv
  exact J_get 0 31 F hd inG_X6 rfl rfl (by decide) rfl hlink rfl hn kk
theorem M_put_0_31 {X : jX} {k n pc pc' : Nat} {lv : List (Nat × Value)} {st : List Value} {cc : ByteArray} {own : String} {cI cZ : ClassId} {z g : Nat → Nat} {sc : Nat → Int32} {ar : Nat → Nat → Int32} {hs : Int64} {index : Nat} {v : Int64} (F : JF X cc own cI cZ z) (hd : decode cc pc = .ok (.putfield index, 3)) (hlink : Cond.fieldLink own index "EvenHoldModel" "hash" "J" ∈ wsG) (hn : pc + 3 = pc') (kk : J X true k n pc' lv st (wM cI cZ g sc ar v)) : J X true k n pc lv (.long v :: .ref (g 0) :: st) (wM cI cZ g sc ar hs) := J_put (ty := .long) 0 31 F hd inG_X6 tyX6 tyX6_ok nmX6 rfl rfl (by decide) rfl hlink rfl (tyX6_ok 31 (by decide)) rfl rfl (Nat.le_of_ble_eq_true rfl) rfl hn kk
theorem M_ld_0 {X : jX} {b : Bool} {k n pc pc' : Nat} {lv : List (Nat × Value)} {st : List Value} {cc : ByteArray} {own : String} {cI cZ : ClassId} {z g : Nat → Nat} {sc : Nat → Int32} {ar : Nat → Nat → Int32} {hs : Int64} {f : Nat → Int32} {i : Int32} {q : Nat} (F : JF X cc own cI cZ z) (hd : decode cc pc = .ok (.iaload, 1)) (hf : ar 0 = f) (hq : i.toNatClampNeg = q) (hin : vp_in i 16) (hn : pc + 1 = pc') (kk : J X b k n pc' lv (.int (f q) :: st) (wM cI cZ g sc ar hs)) : J X b k n pc lv (.int i :: .ref (g 1) :: st) (wM cI cZ g sc ar hs) := by
  subst hf; subst hq
  exact J_iald 1 F hd rfl hin hn kk
theorem M_st_0 {X : jX} {k n pc pc' : Nat} {lv : List (Nat × Value)} {st : List Value} {cc : ByteArray} {own : String} {cI cZ : ClassId} {z g : Nat → Nat} {sc : Nat → Int32} {ar : Nat → Nat → Int32} {hs : Int64} {f : Nat → Int32} {i x : Int32} {q : Nat} (F : JF X cc own cI cZ z) (hd : decode cc pc = .ok (.iastore, 1)) (hf : ar 0 = f) (hq : i.toNatClampNeg = q) (hin : vp_in i 16) (hn : pc + 1 = pc') (kk : J X true k n pc' lv st (wM cI cZ g sc (va_up ar 0 (upd f q x)) hs)) : J X true k n pc lv (.int x :: .int i :: .ref (g 1) :: st) (wM cI cZ g sc ar hs) := by
  subst hf; subst hq
  exact J_iast 1 F hd rfl hin rfl hn kk
theorem M_len_0 {X : jX} {b : Bool} {k n pc pc' : Nat} {lv : List (Nat × Value)} {st : List Value} {cc : ByteArray} {own : String} {cI cZ : ClassId} {z g : Nat → Nat} {sc : Nat → Int32} {ar : Nat → Nat → Int32} {hs : Int64} (F : JF X cc own cI cZ z) (hd : decode cc pc = .ok (.arraylength, 1)) (hn : pc + 1 = pc') (kk : J X b k n pc' lv (.int 16 :: st) (wM cI cZ g sc ar hs)) : J X b k n pc lv (.ref (g 1) :: st) (wM cI cZ g sc ar hs) := J_alen 1 F hd rfl rfl hn kk
theorem M_ld_1 {X : jX} {b : Bool} {k n pc pc' : Nat} {lv : List (Nat × Value)} {st : List Value} {cc : ByteArray} {own : String} {cI cZ : ClassId} {z g : Nat → Nat} {sc : Nat → Int32} {ar : Nat → Nat → Int32} {hs : Int64} {f : Nat → Int32} {i : Int32} {q : Nat} (F : JF X cc own cI cZ z) (hd : decode cc pc = .ok (.iaload, 1)) (hf : ar 1 = f) (hq : i.toNatClampNeg = q) (hin : vp_in i 3) (hn : pc + 1 = pc') (kk : J X b k n pc' lv (.int (f q) :: st) (wM cI cZ g sc ar hs)) : J X b k n pc lv (.int i :: .ref (g 2) :: st) (wM cI cZ g sc ar hs) := by
  subst hf; subst hq
  exact J_iald 2 F hd rfl hin hn kk
theorem M_st_1 {X : jX} {k n pc pc' : Nat} {lv : List (Nat × Value)} {st : List Value} {cc : ByteArray} {own : String} {cI cZ : ClassId} {z g : Nat → Nat} {sc : Nat → Int32} {ar : Nat → Nat → Int32} {hs : Int64} {f : Nat → Int32} {i x : Int32} {q : Nat} (F : JF X cc own cI cZ z) (hd : decode cc pc = .ok (.iastore, 1)) (hf : ar 1 = f) (hq : i.toNatClampNeg = q) (hin : vp_in i 3) (hn : pc + 1 = pc') (kk : J X true k n pc' lv st (wM cI cZ g sc (va_up ar 1 (upd f q x)) hs)) : J X true k n pc lv (.int x :: .int i :: .ref (g 2) :: st) (wM cI cZ g sc ar hs) := by
  subst hf; subst hq
  exact J_iast 2 F hd rfl hin rfl hn kk
theorem M_len_1 {X : jX} {b : Bool} {k n pc pc' : Nat} {lv : List (Nat × Value)} {st : List Value} {cc : ByteArray} {own : String} {cI cZ : ClassId} {z g : Nat → Nat} {sc : Nat → Int32} {ar : Nat → Nat → Int32} {hs : Int64} (F : JF X cc own cI cZ z) (hd : decode cc pc = .ok (.arraylength, 1)) (hn : pc + 1 = pc') (kk : J X b k n pc' lv (.int 3 :: st) (wM cI cZ g sc ar hs)) : J X b k n pc lv (.ref (g 2) :: st) (wM cI cZ g sc ar hs) := J_alen 2 F hd rfl rfl hn kk
theorem M_ld_2 {X : jX} {b : Bool} {k n pc pc' : Nat} {lv : List (Nat × Value)} {st : List Value} {cc : ByteArray} {own : String} {cI cZ : ClassId} {z g : Nat → Nat} {sc : Nat → Int32} {ar : Nat → Nat → Int32} {hs : Int64} {f : Nat → Int32} {i : Int32} {q : Nat} (F : JF X cc own cI cZ z) (hd : decode cc pc = .ok (.iaload, 1)) (hf : ar 2 = f) (hq : i.toNatClampNeg = q) (hin : vp_in i 4096) (hn : pc + 1 = pc') (kk : J X b k n pc' lv (.int (f q) :: st) (wM cI cZ g sc ar hs)) : J X b k n pc lv (.int i :: .ref (g 3) :: st) (wM cI cZ g sc ar hs) := by
  subst hf; subst hq
  exact J_iald 3 F hd rfl hin hn kk
theorem M_st_2 {X : jX} {k n pc pc' : Nat} {lv : List (Nat × Value)} {st : List Value} {cc : ByteArray} {own : String} {cI cZ : ClassId} {z g : Nat → Nat} {sc : Nat → Int32} {ar : Nat → Nat → Int32} {hs : Int64} {f : Nat → Int32} {i x : Int32} {q : Nat} (F : JF X cc own cI cZ z) (hd : decode cc pc = .ok (.iastore, 1)) (hf : ar 2 = f) (hq : i.toNatClampNeg = q) (hin : vp_in i 4096) (hn : pc + 1 = pc') (kk : J X true k n pc' lv st (wM cI cZ g sc (va_up ar 2 (upd f q x)) hs)) : J X true k n pc lv (.int x :: .int i :: .ref (g 3) :: st) (wM cI cZ g sc ar hs) := by
  subst hf; subst hq
  exact J_iast 3 F hd rfl hin rfl hn kk
theorem M_len_2 {X : jX} {b : Bool} {k n pc pc' : Nat} {lv : List (Nat × Value)} {st : List Value} {cc : ByteArray} {own : String} {cI cZ : ClassId} {z g : Nat → Nat} {sc : Nat → Int32} {ar : Nat → Nat → Int32} {hs : Int64} (F : JF X cc own cI cZ z) (hd : decode cc pc = .ok (.arraylength, 1)) (hn : pc + 1 = pc') (kk : J X b k n pc' lv (.int 4096 :: st) (wM cI cZ g sc ar hs)) : J X b k n pc lv (.ref (g 3) :: st) (wM cI cZ g sc ar hs) := J_alen 3 F hd rfl rfl hn kk
theorem M_ld_3 {X : jX} {b : Bool} {k n pc pc' : Nat} {lv : List (Nat × Value)} {st : List Value} {cc : ByteArray} {own : String} {cI cZ : ClassId} {z g : Nat → Nat} {sc : Nat → Int32} {ar : Nat → Nat → Int32} {hs : Int64} {f : Nat → Int32} {i : Int32} {q : Nat} (F : JF X cc own cI cZ z) (hd : decode cc pc = .ok (.iaload, 1)) (hf : ar 3 = f) (hq : i.toNatClampNeg = q) (hin : vp_in i 4096) (hn : pc + 1 = pc') (kk : J X b k n pc' lv (.int (f q) :: st) (wM cI cZ g sc ar hs)) : J X b k n pc lv (.int i :: .ref (g 4) :: st) (wM cI cZ g sc ar hs) := by
  subst hf; subst hq
  exact J_iald 4 F hd rfl hin hn kk
theorem M_st_3 {X : jX} {k n pc pc' : Nat} {lv : List (Nat × Value)} {st : List Value} {cc : ByteArray} {own : String} {cI cZ : ClassId} {z g : Nat → Nat} {sc : Nat → Int32} {ar : Nat → Nat → Int32} {hs : Int64} {f : Nat → Int32} {i x : Int32} {q : Nat} (F : JF X cc own cI cZ z) (hd : decode cc pc = .ok (.iastore, 1)) (hf : ar 3 = f) (hq : i.toNatClampNeg = q) (hin : vp_in i 4096) (hn : pc + 1 = pc') (kk : J X true k n pc' lv st (wM cI cZ g sc (va_up ar 3 (upd f q x)) hs)) : J X true k n pc lv (.int x :: .int i :: .ref (g 4) :: st) (wM cI cZ g sc ar hs) := by
  subst hf; subst hq
  exact J_iast 4 F hd rfl hin rfl hn kk
theorem M_len_3 {X : jX} {b : Bool} {k n pc pc' : Nat} {lv : List (Nat × Value)} {st : List Value} {cc : ByteArray} {own : String} {cI cZ : ClassId} {z g : Nat → Nat} {sc : Nat → Int32} {ar : Nat → Nat → Int32} {hs : Int64} (F : JF X cc own cI cZ z) (hd : decode cc pc = .ok (.arraylength, 1)) (hn : pc + 1 = pc') (kk : J X b k n pc' lv (.int 4096 :: st) (wM cI cZ g sc ar hs)) : J X b k n pc lv (.ref (g 4) :: st) (wM cI cZ g sc ar hs) := J_alen 4 F hd rfl rfl hn kk
theorem M_ld_4 {X : jX} {b : Bool} {k n pc pc' : Nat} {lv : List (Nat × Value)} {st : List Value} {cc : ByteArray} {own : String} {cI cZ : ClassId} {z g : Nat → Nat} {sc : Nat → Int32} {ar : Nat → Nat → Int32} {hs : Int64} {f : Nat → Int32} {i : Int32} {q : Nat} (F : JF X cc own cI cZ z) (hd : decode cc pc = .ok (.iaload, 1)) (hf : ar 4 = f) (hq : i.toNatClampNeg = q) (hin : vp_in i 4096) (hn : pc + 1 = pc') (kk : J X b k n pc' lv (.int (f q) :: st) (wM cI cZ g sc ar hs)) : J X b k n pc lv (.int i :: .ref (g 5) :: st) (wM cI cZ g sc ar hs) := by
  subst hf; subst hq
  exact J_iald 5 F hd rfl hin hn kk
theorem M_st_4 {X : jX} {k n pc pc' : Nat} {lv : List (Nat × Value)} {st : List Value} {cc : ByteArray} {own : String} {cI cZ : ClassId} {z g : Nat → Nat} {sc : Nat → Int32} {ar : Nat → Nat → Int32} {hs : Int64} {f : Nat → Int32} {i x : Int32} {q : Nat} (F : JF X cc own cI cZ z) (hd : decode cc pc = .ok (.iastore, 1)) (hf : ar 4 = f) (hq : i.toNatClampNeg = q) (hin : vp_in i 4096) (hn : pc + 1 = pc') (kk : J X true k n pc' lv st (wM cI cZ g sc (va_up ar 4 (upd f q x)) hs)) : J X true k n pc lv (.int x :: .int i :: .ref (g 5) :: st) (wM cI cZ g sc ar hs) := by
  subst hf; subst hq
  exact J_iast 5 F hd rfl hin rfl hn kk
theorem M_len_4 {X : jX} {b : Bool} {k n pc pc' : Nat} {lv : List (Nat × Value)} {st : List Value} {cc : ByteArray} {own : String} {cI cZ : ClassId} {z g : Nat → Nat} {sc : Nat → Int32} {ar : Nat → Nat → Int32} {hs : Int64} (F : JF X cc own cI cZ z) (hd : decode cc pc = .ok (.arraylength, 1)) (hn : pc + 1 = pc') (kk : J X b k n pc' lv (.int 4096 :: st) (wM cI cZ g sc ar hs)) : J X b k n pc lv (.ref (g 5) :: st) (wM cI cZ g sc ar hs) := J_alen 5 F hd rfl rfl hn kk
theorem M_ld_5 {X : jX} {b : Bool} {k n pc pc' : Nat} {lv : List (Nat × Value)} {st : List Value} {cc : ByteArray} {own : String} {cI cZ : ClassId} {z g : Nat → Nat} {sc : Nat → Int32} {ar : Nat → Nat → Int32} {hs : Int64} {f : Nat → Int32} {i : Int32} {q : Nat} (F : JF X cc own cI cZ z) (hd : decode cc pc = .ok (.baload, 1)) (hf : ar 5 = f) (hq : i.toNatClampNeg = q) (hin : vp_in i 4096) (hn : pc + 1 = pc') (kk : J X b k n pc' lv (.int (f q) :: st) (wM cI cZ g sc ar hs)) : J X b k n pc lv (.int i :: .ref (g 6) :: st) (wM cI cZ g sc ar hs) := by
  subst hf; subst hq
  exact J_zald 6 F hd rfl hin hn kk
theorem M_st_5 {X : jX} {k n pc pc' : Nat} {lv : List (Nat × Value)} {st : List Value} {cc : ByteArray} {own : String} {cI cZ : ClassId} {z g : Nat → Nat} {sc : Nat → Int32} {ar : Nat → Nat → Int32} {hs : Int64} {f : Nat → Int32} {i x : Int32} {q : Nat} (F : JF X cc own cI cZ z) (hd : decode cc pc = .ok (.bastore, 1)) (hf : ar 5 = f) (hq : i.toNatClampNeg = q) (hz : x = 0 ∨ x = 1) (hin : vp_in i 4096) (hn : pc + 1 = pc') (kk : J X true k n pc' lv st (wM cI cZ g sc (va_up ar 5 (upd f q x)) hs)) : J X true k n pc lv (.int x :: .int i :: .ref (g 6) :: st) (wM cI cZ g sc ar hs) := by
  subst hf; subst hq
  have hx : vp_nar .boolean x = x := by rcases hz with rfl | rfl <;> rfl
  exact J_zast 6 F hd rfl hin (by rw [hx]; rfl) hn kk
theorem M_ld_6 {X : jX} {b : Bool} {k n pc pc' : Nat} {lv : List (Nat × Value)} {st : List Value} {cc : ByteArray} {own : String} {cI cZ : ClassId} {z g : Nat → Nat} {sc : Nat → Int32} {ar : Nat → Nat → Int32} {hs : Int64} {f : Nat → Int32} {i : Int32} {q : Nat} (F : JF X cc own cI cZ z) (hd : decode cc pc = .ok (.iaload, 1)) (hf : ar 6 = f) (hq : i.toNatClampNeg = q) (hin : vp_in i 4) (hn : pc + 1 = pc') (kk : J X b k n pc' lv (.int (f q) :: st) (wM cI cZ g sc ar hs)) : J X b k n pc lv (.int i :: .ref (g 7) :: st) (wM cI cZ g sc ar hs) := by
  subst hf; subst hq
  exact J_iald 7 F hd rfl hin hn kk
theorem M_st_6 {X : jX} {k n pc pc' : Nat} {lv : List (Nat × Value)} {st : List Value} {cc : ByteArray} {own : String} {cI cZ : ClassId} {z g : Nat → Nat} {sc : Nat → Int32} {ar : Nat → Nat → Int32} {hs : Int64} {f : Nat → Int32} {i x : Int32} {q : Nat} (F : JF X cc own cI cZ z) (hd : decode cc pc = .ok (.iastore, 1)) (hf : ar 6 = f) (hq : i.toNatClampNeg = q) (hin : vp_in i 4) (hn : pc + 1 = pc') (kk : J X true k n pc' lv st (wM cI cZ g sc (va_up ar 6 (upd f q x)) hs)) : J X true k n pc lv (.int x :: .int i :: .ref (g 7) :: st) (wM cI cZ g sc ar hs) := by
  subst hf; subst hq
  exact J_iast 7 F hd rfl hin rfl hn kk
theorem M_len_6 {X : jX} {b : Bool} {k n pc pc' : Nat} {lv : List (Nat × Value)} {st : List Value} {cc : ByteArray} {own : String} {cI cZ : ClassId} {z g : Nat → Nat} {sc : Nat → Int32} {ar : Nat → Nat → Int32} {hs : Int64} (F : JF X cc own cI cZ z) (hd : decode cc pc = .ok (.arraylength, 1)) (hn : pc + 1 = pc') (kk : J X b k n pc' lv (.int 4 :: st) (wM cI cZ g sc ar hs)) : J X b k n pc lv (.ref (g 7) :: st) (wM cI cZ g sc ar hs) := J_alen 7 F hd rfl rfl hn kk
theorem M_ld_7 {X : jX} {b : Bool} {k n pc pc' : Nat} {lv : List (Nat × Value)} {st : List Value} {cc : ByteArray} {own : String} {cI cZ : ClassId} {z g : Nat → Nat} {sc : Nat → Int32} {ar : Nat → Nat → Int32} {hs : Int64} {f : Nat → Int32} {i : Int32} {q : Nat} (F : JF X cc own cI cZ z) (hd : decode cc pc = .ok (.iaload, 1)) (hf : ar 7 = f) (hq : i.toNatClampNeg = q) (hin : vp_in i 4096) (hn : pc + 1 = pc') (kk : J X b k n pc' lv (.int (f q) :: st) (wM cI cZ g sc ar hs)) : J X b k n pc lv (.int i :: .ref (g 8) :: st) (wM cI cZ g sc ar hs) := by
  subst hf; subst hq
  exact J_iald 8 F hd rfl hin hn kk
theorem M_st_7 {X : jX} {k n pc pc' : Nat} {lv : List (Nat × Value)} {st : List Value} {cc : ByteArray} {own : String} {cI cZ : ClassId} {z g : Nat → Nat} {sc : Nat → Int32} {ar : Nat → Nat → Int32} {hs : Int64} {f : Nat → Int32} {i x : Int32} {q : Nat} (F : JF X cc own cI cZ z) (hd : decode cc pc = .ok (.iastore, 1)) (hf : ar 7 = f) (hq : i.toNatClampNeg = q) (hin : vp_in i 4096) (hn : pc + 1 = pc') (kk : J X true k n pc' lv st (wM cI cZ g sc (va_up ar 7 (upd f q x)) hs)) : J X true k n pc lv (.int x :: .int i :: .ref (g 8) :: st) (wM cI cZ g sc ar hs) := by
  subst hf; subst hq
  exact J_iast 8 F hd rfl hin rfl hn kk
theorem M_len_7 {X : jX} {b : Bool} {k n pc pc' : Nat} {lv : List (Nat × Value)} {st : List Value} {cc : ByteArray} {own : String} {cI cZ : ClassId} {z g : Nat → Nat} {sc : Nat → Int32} {ar : Nat → Nat → Int32} {hs : Int64} (F : JF X cc own cI cZ z) (hd : decode cc pc = .ok (.arraylength, 1)) (hn : pc + 1 = pc') (kk : J X b k n pc' lv (.int 4096 :: st) (wM cI cZ g sc ar hs)) : J X b k n pc lv (.ref (g 8) :: st) (wM cI cZ g sc ar hs) := J_alen 8 F hd rfl rfl hn kk
theorem M_ld_8 {X : jX} {b : Bool} {k n pc pc' : Nat} {lv : List (Nat × Value)} {st : List Value} {cc : ByteArray} {own : String} {cI cZ : ClassId} {z g : Nat → Nat} {sc : Nat → Int32} {ar : Nat → Nat → Int32} {hs : Int64} {f : Nat → Int32} {i : Int32} {q : Nat} (F : JF X cc own cI cZ z) (hd : decode cc pc = .ok (.iaload, 1)) (hf : ar 8 = f) (hq : i.toNatClampNeg = q) (hin : vp_in i 4096) (hn : pc + 1 = pc') (kk : J X b k n pc' lv (.int (f q) :: st) (wM cI cZ g sc ar hs)) : J X b k n pc lv (.int i :: .ref (g 9) :: st) (wM cI cZ g sc ar hs) := by
  subst hf; subst hq
  exact J_iald 9 F hd rfl hin hn kk
theorem M_st_8 {X : jX} {k n pc pc' : Nat} {lv : List (Nat × Value)} {st : List Value} {cc : ByteArray} {own : String} {cI cZ : ClassId} {z g : Nat → Nat} {sc : Nat → Int32} {ar : Nat → Nat → Int32} {hs : Int64} {f : Nat → Int32} {i x : Int32} {q : Nat} (F : JF X cc own cI cZ z) (hd : decode cc pc = .ok (.iastore, 1)) (hf : ar 8 = f) (hq : i.toNatClampNeg = q) (hin : vp_in i 4096) (hn : pc + 1 = pc') (kk : J X true k n pc' lv st (wM cI cZ g sc (va_up ar 8 (upd f q x)) hs)) : J X true k n pc lv (.int x :: .int i :: .ref (g 9) :: st) (wM cI cZ g sc ar hs) := by
  subst hf; subst hq
  exact J_iast 9 F hd rfl hin rfl hn kk
theorem M_len_8 {X : jX} {b : Bool} {k n pc pc' : Nat} {lv : List (Nat × Value)} {st : List Value} {cc : ByteArray} {own : String} {cI cZ : ClassId} {z g : Nat → Nat} {sc : Nat → Int32} {ar : Nat → Nat → Int32} {hs : Int64} (F : JF X cc own cI cZ z) (hd : decode cc pc = .ok (.arraylength, 1)) (hn : pc + 1 = pc') (kk : J X b k n pc' lv (.int 4096 :: st) (wM cI cZ g sc ar hs)) : J X b k n pc lv (.ref (g 9) :: st) (wM cI cZ g sc ar hs) := J_alen 9 F hd rfl rfl hn kk
theorem M_ld_9 {X : jX} {b : Bool} {k n pc pc' : Nat} {lv : List (Nat × Value)} {st : List Value} {cc : ByteArray} {own : String} {cI cZ : ClassId} {z g : Nat → Nat} {sc : Nat → Int32} {ar : Nat → Nat → Int32} {hs : Int64} {f : Nat → Int32} {i : Int32} {q : Nat} (F : JF X cc own cI cZ z) (hd : decode cc pc = .ok (.iaload, 1)) (hf : ar 9 = f) (hq : i.toNatClampNeg = q) (hin : vp_in i 4) (hn : pc + 1 = pc') (kk : J X b k n pc' lv (.int (f q) :: st) (wM cI cZ g sc ar hs)) : J X b k n pc lv (.int i :: .ref (g 10) :: st) (wM cI cZ g sc ar hs) := by
  subst hf; subst hq
  exact J_iald 10 F hd rfl hin hn kk
theorem M_st_9 {X : jX} {k n pc pc' : Nat} {lv : List (Nat × Value)} {st : List Value} {cc : ByteArray} {own : String} {cI cZ : ClassId} {z g : Nat → Nat} {sc : Nat → Int32} {ar : Nat → Nat → Int32} {hs : Int64} {f : Nat → Int32} {i x : Int32} {q : Nat} (F : JF X cc own cI cZ z) (hd : decode cc pc = .ok (.iastore, 1)) (hf : ar 9 = f) (hq : i.toNatClampNeg = q) (hin : vp_in i 4) (hn : pc + 1 = pc') (kk : J X true k n pc' lv st (wM cI cZ g sc (va_up ar 9 (upd f q x)) hs)) : J X true k n pc lv (.int x :: .int i :: .ref (g 10) :: st) (wM cI cZ g sc ar hs) := by
  subst hf; subst hq
  exact J_iast 10 F hd rfl hin rfl hn kk
theorem M_len_9 {X : jX} {b : Bool} {k n pc pc' : Nat} {lv : List (Nat × Value)} {st : List Value} {cc : ByteArray} {own : String} {cI cZ : ClassId} {z g : Nat → Nat} {sc : Nat → Int32} {ar : Nat → Nat → Int32} {hs : Int64} (F : JF X cc own cI cZ z) (hd : decode cc pc = .ok (.arraylength, 1)) (hn : pc + 1 = pc') (kk : J X b k n pc' lv (.int 4 :: st) (wM cI cZ g sc ar hs)) : J X b k n pc lv (.ref (g 10) :: st) (wM cI cZ g sc ar hs) := J_alen 10 F hd rfl rfl hn kk
end
section
/-! helpers of the walks -/
theorem jI_P {X : jX} {l : Launch} {rm : Room} {D : va_G} {nl : Nat} {b : Bool} {ws : va_W} {H : Heap} {locs : List Loc} (E : JE X l rm D nl) (hI : jI X b ws H locs) : va_P D vwCl ws H := by
  obtain ⟨p, l, e, R, s, m, args, below, meth, c, Q, A, D, nL⟩ := X
  obtain ⟨rfl, rfl, rfl, rfl⟩ := E
  exact hI.1
theorem jL_of {X : jX} {l : Launch} {rm : Room} {D : va_G} {nl : Nat} {P : Nat → Prop} (E : JE X l rm D nl) (h : P nl) : jL X P := by
  obtain ⟨p, l, e, R, s, m, args, below, meth, c, Q, A, D, nL⟩ := X
  obtain ⟨rfl, rfl, rfl, rfl⟩ := E
  exact h
theorem jP_nil (D : va_G) (H : Heap) : va_P D vwCl [] H := fun k q h => by simp at h
theorem J_goRie {X : jX} {b : Bool} {k n pc pc' : Nat} {lv : List (Nat × Value)} {st : List Value} {ws : va_W} {cc : ByteArray} {own : String} {cI cZ : ClassId} {z : Nat → Nat} {l : Launch} {rm0 : Room} {D : va_G} {nl : Nat} {wc : va_W} {av rest : List Value} {v : Int32} (F : JF X cc own cI cZ z) (E : JE X l rm0 D nl) (hs : ∀ H : Heap, va_P D vwCl ws H → va_P D vwCl wc H) (hrun : ∀ (H : Heap) (locs : List Loc), jI X b ws H locs → jPre X H (jPcR D cI cZ z wc av) av → jRun X k n pc lv st H locs rest (vp_Si (fun r => r = v) av.toArray) (fun _ => False)) (hn : pc + 3 = pc') (kk : J X b k n pc' lv (.int v :: rest) ws) : J X b k n pc lv st ws := J_goRi F E hs hrun hn (fun r h => by subst h; exact kk)
theorem J_goRle {X : jX} {b : Bool} {k n pc pc' : Nat} {lv : List (Nat × Value)} {st : List Value} {ws : va_W} {cc : ByteArray} {own : String} {cI cZ : ClassId} {z : Nat → Nat} {l : Launch} {rm0 : Room} {D : va_G} {nl : Nat} {wc : va_W} {av rest : List Value} {v : Int64} (F : JF X cc own cI cZ z) (E : JE X l rm0 D nl) (hs : ∀ H : Heap, va_P D vwCl ws H → va_P D vwCl wc H) (hrun : ∀ (H : Heap) (locs : List Loc), jI X b ws H locs → jPre X H (jPcR D cI cZ z wc av) av → jRun X k n pc lv st H locs rest (vp_Sl (fun r => r = v) av.toArray) (fun _ => False)) (hn : pc + 3 = pc') (kk : J X b k n pc' lv (.long v :: rest) ws) : J X b k n pc lv st ws := J_goRl F E hs hrun hn (fun r h => by subst h; exact kk)
theorem jts_1 {x : Int32} (h0 : ¬ x = 0) (h1 : ¬ x = 1) : x.toInt < 0 ∨ 1 < x.toInt := by
  simp only [← Int32.toInt_inj] at h0 h1
  have e0 : (0 : Int32).toInt = 0 := by decide
  have e1 : (1 : Int32).toInt = 1 := by decide
  simp only [e0, e1] at h0 h1
  omega
theorem jts_2 {x : Int32} (h0 : ¬ x = 0) (h1 : ¬ x = 1) (h2 : ¬ x = 2) : x.toInt < 0 ∨ 2 < x.toInt := by
  simp only [← Int32.toInt_inj] at h0 h1 h2
  have e0 : (0 : Int32).toInt = 0 := by decide
  have e1 : (1 : Int32).toInt = 1 := by decide
  have e2 : (2 : Int32).toInt = 2 := by decide
  simp only [e0, e1, e2] at h0 h1 h2
  omega
theorem jts_3 {x : Int32} (h0 : ¬ x = 0) (h1 : ¬ x = 1) (h2 : ¬ x = 2) (h3 : ¬ x = 3) : x.toInt < 0 ∨ 3 < x.toInt := by
  simp only [← Int32.toInt_inj] at h0 h1 h2 h3
  have e0 : (0 : Int32).toInt = 0 := by decide
  have e1 : (1 : Int32).toInt = 1 := by decide
  have e2 : (2 : Int32).toInt = 2 := by decide
  have e3 : (3 : Int32).toInt = 3 := by decide
  simp only [e0, e1, e2, e3] at h0 h1 h2 h3
  omega
theorem jts_4 {x : Int32} (h0 : ¬ x = 0) (h1 : ¬ x = 1) (h2 : ¬ x = 2) (h3 : ¬ x = 3) (h4 : ¬ x = 4) : x.toInt < 0 ∨ 4 < x.toInt := by
  simp only [← Int32.toInt_inj] at h0 h1 h2 h3 h4
  have e0 : (0 : Int32).toInt = 0 := by decide
  have e1 : (1 : Int32).toInt = 1 := by decide
  have e2 : (2 : Int32).toInt = 2 := by decide
  have e3 : (3 : Int32).toInt = 3 := by decide
  have e4 : (4 : Int32).toInt = 4 := by decide
  simp only [e0, e1, e2, e3, e4] at h0 h1 h2 h3 h4
  omega
theorem jts_9 {x : Int32} (h0 : ¬ x = 0) (h1 : ¬ x = 1) (h2 : ¬ x = 2) (h3 : ¬ x = 3) (h4 : ¬ x = 4) (h5 : ¬ x = 5) (h6 : ¬ x = 6) (h7 : ¬ x = 7) (h8 : ¬ x = 8) (h9 : ¬ x = 9) : x.toInt < 0 ∨ 9 < x.toInt := by
  simp only [← Int32.toInt_inj] at h0 h1 h2 h3 h4 h5 h6 h7 h8 h9
  have e0 : (0 : Int32).toInt = 0 := by decide
  have e1 : (1 : Int32).toInt = 1 := by decide
  have e2 : (2 : Int32).toInt = 2 := by decide
  have e3 : (3 : Int32).toInt = 3 := by decide
  have e4 : (4 : Int32).toInt = 4 := by decide
  have e5 : (5 : Int32).toInt = 5 := by decide
  have e6 : (6 : Int32).toInt = 6 := by decide
  have e7 : (7 : Int32).toInt = 7 := by decide
  have e8 : (8 : Int32).toInt = 8 := by decide
  have e9 : (9 : Int32).toInt = 9 := by decide
  simp only [e0, e1, e2, e3, e4, e5, e6, e7, e8, e9] at h0 h1 h2 h3 h4 h5 h6 h7 h8 h9
  omega
theorem jts_21 {x : Int32} (h0 : ¬ x = 0) (h1 : ¬ x = 1) (h2 : ¬ x = 2) (h3 : ¬ x = 3) (h4 : ¬ x = 4) (h5 : ¬ x = 5) (h6 : ¬ x = 6) (h7 : ¬ x = 7) (h8 : ¬ x = 8) (h9 : ¬ x = 9) (h10 : ¬ x = 10) (h11 : ¬ x = 11) (h12 : ¬ x = 12) (h13 : ¬ x = 13) (h14 : ¬ x = 14) (h15 : ¬ x = 15) (h16 : ¬ x = 16) (h17 : ¬ x = 17) (h18 : ¬ x = 18) (h19 : ¬ x = 19) (h20 : ¬ x = 20) (h21 : ¬ x = 21) : x.toInt < 0 ∨ 21 < x.toInt := by
  simp only [← Int32.toInt_inj] at h0 h1 h2 h3 h4 h5 h6 h7 h8 h9 h10 h11 h12 h13 h14 h15 h16 h17 h18 h19 h20 h21
  have e0 : (0 : Int32).toInt = 0 := by decide
  have e1 : (1 : Int32).toInt = 1 := by decide
  have e2 : (2 : Int32).toInt = 2 := by decide
  have e3 : (3 : Int32).toInt = 3 := by decide
  have e4 : (4 : Int32).toInt = 4 := by decide
  have e5 : (5 : Int32).toInt = 5 := by decide
  have e6 : (6 : Int32).toInt = 6 := by decide
  have e7 : (7 : Int32).toInt = 7 := by decide
  have e8 : (8 : Int32).toInt = 8 := by decide
  have e9 : (9 : Int32).toInt = 9 := by decide
  have e10 : (10 : Int32).toInt = 10 := by decide
  have e11 : (11 : Int32).toInt = 11 := by decide
  have e12 : (12 : Int32).toInt = 12 := by decide
  have e13 : (13 : Int32).toInt = 13 := by decide
  have e14 : (14 : Int32).toInt = 14 := by decide
  have e15 : (15 : Int32).toInt = 15 := by decide
  have e16 : (16 : Int32).toInt = 16 := by decide
  have e17 : (17 : Int32).toInt = 17 := by decide
  have e18 : (18 : Int32).toInt = 18 := by decide
  have e19 : (19 : Int32).toInt = 19 := by decide
  have e20 : (20 : Int32).toInt = 20 := by decide
  have e21 : (21 : Int32).toInt = 21 := by decide
  simp only [e0, e1, e2, e3, e4, e5, e6, e7, e8, e9, e10, e11, e12, e13, e14, e15, e16, e17, e18, e19, e20, e21] at h0 h1 h2 h3 h4 h5 h6 h7 h8 h9 h10 h11 h12 h13 h14 h15 h16 h17 h18 h19 h20 h21
  omega
theorem jzb {v : Int32} (h : v = 0 ∨ v = 1) : narrow .boolean (.int v) = .int v := by rcases h with rfl | rfl <;> rfl
theorem jStS {z : Nat → Nat} {A : Nat → Prop} {U : State} {H : Heap} (h : jSt z A U H) : vk_S 2 jLen jByt (fun i => z (3 + i)) (fun i => z (5 + i)) A U H := h.2.2.2.2.2.2.2.2.2.2.1
theorem J_getsq {X : jX} {b : Bool} {k n pc pc' : Nat} {lv : List (Nat × Value)} {st : List Value} {ws : va_W} {cc : ByteArray} {own : String} {cI cZ : ClassId} {z : Nat → Nat} {index : Nat} (F : JF X cc own cI cZ z) (hd : decode cc pc = .ok (.getstatic index, 3)) (hlink : Cond.fieldLink own index "jdk/internal/util/Preconditions" "SIOOBE_FORMATTER" "Ljava/util/function/BiFunction;" ∈ wsG) (hn : pc + 3 = pc') (kk : ∀ v : Value, v.category = 1 → J X b k n pc' lv (v :: st) ws) : J X b k n pc lv st ws := by
  obtain ⟨p, l, e, R, s, m, args, below, meth, c, Q, A, D, nL⟩ := X
  obtain ⟨hx, hb, hml, hown, hts, hlk, hK, hZ⟩ := F
  subst hn
  intro H locs ls hI hl
  rcases hZ.2.2.2.2.2.2.2.2.2.2.2.2 with h | ⟨t, h⟩
  · exact va_gets hx hb h hI.S hown (hts _ hlink) (fun _ h => h) hd (kk .null rfl H locs ls hI hl)
  · exact va_gets hx hb h hI.S hown (hts _ hlink) (fun _ h => h) hd (kk (.ref t) rfl H locs ls hI hl)
theorem jin_lt {i N : Nat} (hN : N < 2 ^ 31) (hi : i ≤ N) (c : ¬ nI N ≤ nI i) : i < N := by
  rcases Nat.lt_or_ge i N with h | h
  · exact h
  · have e : i = N := by omega
    subst e
    exact absurd ((nI_leI hN hN).mpr (Nat.le_refl _)) c
theorem vp_in2 {x : Int32} {N : Nat} (h0 : ¬ x < 0) (h1 : ¬ nI N ≤ x) (hN : N < 2 ^ 31) : vp_in x N := by
  obtain ⟨j, hj, hx, -⟩ := pk_mu h0 h1 hN
  rw [hx]; exact vp_in_nI hj hN
theorem vp_in3 {x : Int32} {N : Nat} (h0 : ¬ x < 0) (h1 : x < nI N) (hN : N < 2 ^ 31) : vp_in x N := vp_in2 h0 (fun h => by have a := Int32.lt_iff_toInt_lt.mp h1; have b := Int32.le_iff_toInt_le.mp h; omega) hN
theorem oX0_init : jOut yX0_init 0 := by unfold jOut; decide +kernel
theorem oJ7_fill_53178 : jOut yJ7_fill_53178 2 := by unfold jOut; decide +kernel
theorem oX0_put : jOut yX0_put 2 := by unfold jOut; decide +kernel
theorem oX5_cellFrom : jOut yX5_cellFrom 1 := by unfold jOut; decide +kernel
theorem oX5_cellInto : jOut yX5_cellInto 1 := by unfold jOut; decide +kernel
theorem oX2_slid : jOut yX2_slid 1 := by unfold jOut; decide +kernel
theorem oX2_moved : jOut yX2_moved 2 := by unfold jOut; decide +kernel
theorem oX5_listingBy : jOut yX5_listingBy 1 := by unfold jOut; decide +kernel
theorem oX5_bentBy : jOut yX5_bentBy 1 := by unfold jOut; decide +kernel
theorem oX0_leaveHead : jOut yX0_leaveHead 2 := by unfold jOut; decide +kernel
theorem oX0_leastFrom : jOut yX0_leastFrom 2 := by unfold jOut; decide +kernel
theorem oX1_init : jOut yX1_init 0 := by unfold jOut; decide +kernel
theorem oX2_bears : jOut yX2_bears 2 := by unfold jOut; decide +kernel
theorem oX2_behind : jOut yX2_behind 3 := by unfold jOut; decide +kernel
theorem oX1_rowsBehind : jOut yX1_rowsBehind 5 := by unfold jOut; decide +kernel
theorem oX1_tellOf : jOut yX1_tellOf 3 := by unfold jOut; decide +kernel
theorem oX2_init : jOut yX2_init 0 := by unfold jOut; decide +kernel
theorem oX5_at : jOut yX5_at 2 := by unfold jOut; decide +kernel
theorem oX2_setKind : jOut yX2_setKind 2 := by unfold jOut; decide +kernel
theorem oX2_minutesOf : jOut yX2_minutesOf 1 := by unfold jOut; decide +kernel
theorem oX3_init : jOut yX3_init 0 := by unfold jOut; decide +kernel
theorem oX3_clear : jOut yX3_clear 0 := by unfold jOut; decide +kernel
theorem oX3_copyOf : jOut yX3_copyOf 1 := by unfold jOut; decide +kernel
theorem oX4_init : jOut yX4_init 0 := by unfold jOut; decide +kernel
theorem oX5_tonsAt : jOut yX5_tonsAt 2 := by unfold jOut; decide +kernel
theorem oX5_tonsOf : jOut yX5_tonsOf 1 := by unfold jOut; decide +kernel
theorem oX4_reach : jOut yX4_reach 3 := by unfold jOut; decide +kernel
theorem oX4_leave : jOut yX4_leave 4 := by unfold jOut; decide +kernel
theorem oX4_lookFrom : jOut yX4_lookFrom 4 := by unfold jOut; decide +kernel
theorem oX5_init : jOut yX5_init 0 := by unfold jOut; decide +kernel
theorem oX5_letter : jOut yX5_letter 1 := by unfold jOut; decide +kernel
theorem oX5_blank : jOut yX5_blank 0 := by unfold jOut; decide +kernel
theorem oJ0_coder_7d493 : jOut yJ0_coder_7d493 0 := by unfold jOut; decide +kernel
theorem oJ0_length_8abf5 : jOut yJ0_length_8abf5 0 := by unfold jOut; decide +kernel
theorem oJ0_isLatin1_aae02 : jOut yJ0_isLatin1_aae02 0 := by unfold jOut; decide +kernel
theorem oJ3_checkIndex_8e157 : jOut yJ3_checkIndex_8e157 3 := by unfold jOut; decide +kernel
theorem oJ0_checkIndex_df160 : jOut yJ0_checkIndex_df160 2 := by unfold jOut; decide +kernel
theorem oJ1_charAt_3b067 : jOut yJ1_charAt_3b067 2 := by unfold jOut; decide +kernel
theorem oJ0_charAt_5068e : jOut yJ0_charAt_5068e 1 := by unfold jOut; decide +kernel
theorem oJ1_canEncode_9a6ad : jOut yJ1_canEncode_9a6ad 1 := by unfold jOut; decide +kernel
theorem oJ1_indexOfChar_4cfef : jOut yJ1_indexOfChar_4cfef 4 := by unfold jOut; decide +kernel
theorem oJ1_indexOf_4cfef : jOut yJ1_indexOf_4cfef 4 := by unfold jOut; decide +kernel
theorem oJ3_checkFromToIndex_8c36e : jOut yJ3_checkFromToIndex_8c36e 4 := by unfold jOut; decide +kernel
theorem oJ0_checkBoundsBeginEnd_23922 : jOut yJ0_checkBoundsBeginEnd_23922 3 := by unfold jOut; decide +kernel
theorem oJ0_indexOf_7cf53 : jOut yJ0_indexOf_7cf53 2 := by unfold jOut; decide +kernel
theorem oJ0_indexOf_0f7a4 : jOut yJ0_indexOf_0f7a4 1 := by unfold jOut; decide +kernel
theorem oX5_isOfForm : jOut yX5_isOfForm 2 := by unfold jOut; decide +kernel
theorem oX5_fault : jOut yX5_fault 0 := by unfold jOut; decide +kernel
theorem oX5_digitAt : jOut yX5_digitAt 1 := by unfold jOut; decide +kernel
theorem oX5_readPage : jOut yX5_readPage 0 := by unfold jOut; decide +kernel
theorem oX5_hold : jOut yX5_hold 0 := by unfold jOut; decide +kernel
theorem oX5_isBay : jOut yX5_isBay 1 := by unfold jOut; decide +kernel
theorem oX5_bay : jOut yX5_bay 2 := by unfold jOut; decide +kernel
theorem oX5_as : jOut yX5_as 2 := by unfold jOut; decide +kernel
theorem oX5_asNumber : jOut yX5_asNumber 1 := by unfold jOut; decide +kernel
theorem oX5_ground : jOut yX5_ground 1 := by unfold jOut; decide +kernel
theorem oX5_bendNow : jOut yX5_bendNow 0 := by unfold jOut; decide +kernel
theorem oX5_hull : jOut yX5_hull 1 := by unfold jOut; decide +kernel
theorem oX5_isAct : jOut yX5_isAct 1 := by unfold jOut; decide +kernel
theorem oX5_may : jOut yX5_may 1 := by unfold jOut; decide +kernel
theorem oX5_act : jOut yX5_act 1 := by unfold jOut; decide +kernel
theorem oX5_lookAhead : jOut yX5_lookAhead 0 := by unfold jOut; decide +kernel
theorem oX5_soonest : jOut yX5_soonest 1 := by unfold jOut; decide +kernel
theorem oX5_most : jOut yX5_most 0 := by unfold jOut; decide +kernel
theorem oX5_holds : jOut yX5_holds 0 := by unfold jOut; decide +kernel
theorem oX5_leastBend : jOut yX5_leastBend 0 := by unfold jOut; decide +kernel
theorem oX5_string : jOut yX5_string 1 := by unfold jOut; decide +kernel
theorem oX5_forget : jOut yX5_forget 0 := by unfold jOut; decide +kernel
theorem oX5_lookBack : jOut yX5_lookBack 0 := by unfold jOut; decide +kernel
theorem oX5_fits : jOut yX5_fits 1 := by unfold jOut; decide +kernel
theorem oX5_nextSeed : jOut yX5_nextSeed 1 := by unfold jOut; decide +kernel
theorem oX5_days : jOut yX5_days 3 := by unfold jOut; decide +kernel
theorem oX5_image : jOut yX5_image 0 := by unfold jOut; decide +kernel
theorem oX5_restore : jOut yX5_restore 0 := by unfold jOut; decide +kernel
theorem oX5_count : jOut yX5_count 1 := by unfold jOut; decide +kernel
theorem oX5_withLighter : jOut yX5_withLighter 1 := by unfold jOut; decide +kernel
theorem oX5_withActs : jOut yX5_withActs 1 := by unfold jOut; decide +kernel
theorem oX5_withOutlook : jOut yX5_withOutlook 1 := by unfold jOut; decide +kernel
theorem oX5_digest : jOut yX5_digest 0 := by unfold jOut; decide +kernel
theorem oX6_init : jOut yX6_init 0 := by unfold jOut; decide +kernel
theorem oX6_in : jOut yX6_in 3 := by unfold jOut; decide +kernel
theorem oX6_letter : jOut yX6_letter 1 := by unfold jOut; decide +kernel
theorem oX6_blank : jOut yX6_blank 0 := by unfold jOut; decide +kernel
theorem oX6_kindBy : jOut yX6_kindBy 1 := by unfold jOut; decide +kernel
theorem oX6_isGood : jOut yX6_isGood 2 := by unfold jOut; decide +kernel
theorem oX6_faultOf : jOut yX6_faultOf 0 := by unfold jOut; decide +kernel
theorem oX6_fault : jOut yX6_fault 0 := by unfold jOut; decide +kernel
theorem oX6_at : jOut yX6_at 2 := by unfold jOut; decide +kernel
theorem oX6_tonsOf : jOut yX6_tonsOf 1 := by unfold jOut; decide +kernel
theorem oX6_hold : jOut yX6_hold 0 := by unfold jOut; decide +kernel
theorem oX6_unlike : jOut yX6_unlike 2 := by unfold jOut; decide +kernel
theorem oX6_bentOf : jOut yX6_bentOf 1 := by unfold jOut; decide +kernel
theorem oX6_listingOf : jOut yX6_listingOf 1 := by unfold jOut; decide +kernel
theorem oX6_bendNow : jOut yX6_bendNow 0 := by unfold jOut; decide +kernel
theorem oX6_takingOf : jOut yX6_takingOf 1 := by unfold jOut; decide +kernel
theorem oX6_carryingOf : jOut yX6_carryingOf 1 := by unfold jOut; decide +kernel
theorem oX6_bay : jOut yX6_bay 2 := by unfold jOut; decide +kernel
theorem oX6_as : jOut yX6_as 2 := by unfold jOut; decide +kernel
theorem oX6_ground : jOut yX6_ground 1 := by unfold jOut; decide +kernel
theorem oX6_bears : jOut yX6_bears 2 := by unfold jOut; decide +kernel
theorem oX6_hullOf : jOut yX6_hullOf 1 := by unfold jOut; decide +kernel
theorem oX6_hull : jOut yX6_hull 1 := by unfold jOut; decide +kernel
theorem oX6_isAct : jOut yX6_isAct 1 := by unfold jOut; decide +kernel
theorem oX6_behind : jOut yX6_behind 2 := by unfold jOut; decide +kernel
theorem oX6_goes : jOut yX6_goes 3 := by unfold jOut; decide +kernel
theorem oX6_lasts : jOut yX6_lasts 1 := by unfold jOut; decide +kernel
theorem oX6_may : jOut yX6_may 1 := by unfold jOut; decide +kernel
theorem oX6_act : jOut yX6_act 1 := by unfold jOut; decide +kernel
theorem oX6_isBetter : jOut yX6_isBetter 3 := by unfold jOut; decide +kernel
theorem oX6_layFar : jOut yX6_layFar 1 := by unfold jOut; decide +kernel
theorem oX6_soonest : jOut yX6_soonest 1 := by unfold jOut; decide +kernel
theorem oX6_mostOf : jOut yX6_mostOf 0 := by unfold jOut; decide +kernel
theorem oX6_most : jOut yX6_most 0 := by unfold jOut; decide +kernel
theorem oX6_manyOf : jOut yX6_manyOf 0 := by unfold jOut; decide +kernel
theorem oX6_holds : jOut yX6_holds 0 := by unfold jOut; decide +kernel
theorem oX6_leastBend : jOut yX6_leastBend 0 := by unfold jOut; decide +kernel
theorem oX6_string : jOut yX6_string 1 := by unfold jOut; decide +kernel
theorem oX6_forget : jOut yX6_forget 0 := by unfold jOut; decide +kernel
theorem oX6_stepAll : jOut yX6_stepAll 1 := by unfold jOut; decide +kernel
theorem oX6_rowsFrom : jOut yX6_rowsFrom 2 := by unfold jOut; decide +kernel
theorem oX6_layFits : jOut yX6_layFits 0 := by unfold jOut; decide +kernel
theorem oX6_fits : jOut yX6_fits 1 := by unfold jOut; decide +kernel
theorem oX6_draw : jOut yX6_draw 1 := by unfold jOut; decide +kernel
theorem oX6_days : jOut yX6_days 3 := by unfold jOut; decide +kernel
theorem oX6_copy : jOut yX6_copy 2 := by unfold jOut; decide +kernel
theorem oX6_image : jOut yX6_image 0 := by unfold jOut; decide +kernel
theorem oX6_restore : jOut yX6_restore 0 := by unfold jOut; decide +kernel
theorem oX6_countOf : jOut yX6_countOf 1 := by unfold jOut; decide +kernel
theorem oX6_count : jOut yX6_count 1 := by unfold jOut; decide +kernel
theorem oX6_say : jOut yX6_say 1 := by unfold jOut; decide +kernel
theorem oX6_sayHold : jOut yX6_sayHold 0 := by unfold jOut; decide +kernel
theorem oX6_digest : jOut yX6_digest 0 := by unfold jOut; decide +kernel
theorem oJ9_abs_0f7a4 : jOut yJ9_abs_0f7a4 1 := by unfold jOut; decide +kernel
theorem oJ9_max_7cf53 : jOut yJ9_max_7cf53 2 := by unfold jOut; decide +kernel
theorem oJ9_min_7cf53 : jOut yJ9_min_7cf53 2 := by unfold jOut; decide +kernel
abbrev ww_X0_init : List Cond := Cond.code yX0_init cX0_init 1 none :: wsG
abbrev ww_J7_fill_53178 : List Cond := Cond.code yJ7_fill_53178 cJ7_fill_53178 4 none :: wsG
abbrev ww_X0_put : List Cond := Cond.code yX0_put cX0_put 3 none :: wsG
abbrev ww_X5_cellFrom : List Cond := Cond.code yX5_cellFrom cX5_cellFrom 1 (some .int) :: wsG
abbrev ww_X5_cellInto : List Cond := Cond.code yX5_cellInto cX5_cellInto 1 (some .int) :: wsG
abbrev ww_X2_slid : List Cond := Cond.code yX2_slid cX2_slid 7 (some .int) :: wsG
abbrev ww_X2_moved : List Cond := Cond.code yX2_moved cX2_moved 6 (some .int) :: wsG
abbrev ww_X5_listingBy : List Cond := Cond.code yX5_listingBy cX5_listingBy 3 (some .int) :: wsG
abbrev ww_X5_bentBy : List Cond := Cond.code yX5_bentBy cX5_bentBy 4 (some .int) :: wsG
abbrev ww_X0_leaveHead : List Cond := Cond.code yX0_leaveHead cX0_leaveHead 9 none :: wsG
abbrev ww_X0_leastFrom : List Cond := Cond.code yX0_leastFrom cX0_leastFrom 5 (some .int) :: wsG
abbrev ww_X1_init : List Cond := Cond.code yX1_init cX1_init 1 none :: wsG
abbrev ww_X2_bears : List Cond := Cond.code yX2_bears cX2_bears 3 (some .boolean) :: wsG
abbrev ww_X2_behind : List Cond := Cond.code yX2_behind cX2_behind 5 (some .int) :: wsG
abbrev ww_X1_rowsBehind : List Cond := Cond.code yX1_rowsBehind cX1_rowsBehind 10 (some .int) :: wsG
abbrev ww_X1_tellOf : List Cond := Cond.code yX1_tellOf cX1_tellOf 9 none :: wsG
abbrev ww_X2_init : List Cond := Cond.code yX2_init cX2_init 1 none :: wsG
abbrev ww_X5_at : List Cond := Cond.code yX5_at cX5_at 2 (some .int) :: wsG
abbrev ww_X2_setKind : List Cond := Cond.code yX2_setKind cX2_setKind 3 none :: wsG
abbrev ww_X2_minutesOf : List Cond := Cond.code yX2_minutesOf cX2_minutesOf 2 (some .int) :: wsG
abbrev ww_X3_init : List Cond := Cond.code yX3_init cX3_init 1 none :: wsG
abbrev ww_X3_clear : List Cond := Cond.code yX3_clear cX3_clear 1 none :: wsG
abbrev ww_X3_copyOf : List Cond := Cond.code yX3_copyOf cX3_copyOf 3 none :: wsG
abbrev ww_X4_init : List Cond := Cond.code yX4_init cX4_init 1 none :: wsG
abbrev ww_X5_tonsAt : List Cond := Cond.code yX5_tonsAt cX5_tonsAt 2 (some .int) :: wsG
abbrev ww_X5_tonsOf : List Cond := Cond.code yX5_tonsOf cX5_tonsOf 3 (some .int) :: wsG
abbrev ww_X4_reach : List Cond := Cond.code yX4_reach cX4_reach 5 none :: wsG
abbrev ww_X4_leave : List Cond := Cond.code yX4_leave cX4_leave 11 none :: wsG
abbrev ww_X4_lookFrom : List Cond := Cond.code yX4_lookFrom cX4_lookFrom 9 none :: wsG
abbrev ww_X5_init : List Cond := Cond.code yX5_init cX5_init 1 none :: wsG
abbrev ww_X5_letter : List Cond := Cond.code yX5_letter cX5_letter 2 (some .int) :: wsG
abbrev ww_X5_blank : List Cond := Cond.code yX5_blank cX5_blank 2 (some .int) :: wsG
abbrev ww_J0_coder_7d493 : List Cond := Cond.code yJ0_coder_7d493 cJ0_coder_7d493 1 (some .byte) :: wsG
abbrev ww_J0_length_8abf5 : List Cond := Cond.code yJ0_length_8abf5 cJ0_length_8abf5 1 (some .int) :: wsG
abbrev ww_J0_isLatin1_aae02 : List Cond := Cond.code yJ0_isLatin1_aae02 cJ0_isLatin1_aae02 1 (some .boolean) :: wsG
abbrev ww_J3_checkIndex_8e157 : List Cond := Cond.code yJ3_checkIndex_8e157 cJ3_checkIndex_8e157 3 (some .int) :: wsG
abbrev ww_J0_checkIndex_df160 : List Cond := Cond.code yJ0_checkIndex_df160 cJ0_checkIndex_df160 2 none :: wsG
abbrev ww_J1_charAt_3b067 : List Cond := Cond.code yJ1_charAt_3b067 cJ1_charAt_3b067 2 (some .char) :: wsG
abbrev ww_J0_charAt_5068e : List Cond := Cond.code yJ0_charAt_5068e cJ0_charAt_5068e 2 (some .char) :: wsG
abbrev ww_J1_canEncode_9a6ad : List Cond := Cond.code yJ1_canEncode_9a6ad cJ1_canEncode_9a6ad 1 (some .boolean) :: wsG
abbrev ww_J1_indexOfChar_4cfef : List Cond := Cond.code yJ1_indexOfChar_4cfef cJ1_indexOfChar_4cfef 6 (some .int) :: wsG
abbrev ww_J1_indexOf_4cfef : List Cond := Cond.code yJ1_indexOf_4cfef cJ1_indexOf_4cfef 4 (some .int) :: wsG
abbrev ww_J3_checkFromToIndex_8c36e : List Cond := Cond.code yJ3_checkFromToIndex_8c36e cJ3_checkFromToIndex_8c36e 4 (some .int) :: wsG
abbrev ww_J0_checkBoundsBeginEnd_23922 : List Cond := Cond.code yJ0_checkBoundsBeginEnd_23922 cJ0_checkBoundsBeginEnd_23922 3 none :: wsG
abbrev ww_J0_indexOf_7cf53 : List Cond := Cond.code yJ0_indexOf_7cf53 cJ0_indexOf_7cf53 3 (some .int) :: wsG
abbrev ww_J0_indexOf_0f7a4 : List Cond := Cond.code yJ0_indexOf_0f7a4 cJ0_indexOf_0f7a4 2 (some .int) :: wsG
abbrev ww_X5_isOfForm : List Cond := Cond.code yX5_isOfForm cX5_isOfForm 3 (some .boolean) :: wsG
abbrev ww_X5_fault : List Cond := Cond.code yX5_fault cX5_fault 2 (some .int) :: wsG
abbrev ww_X5_digitAt : List Cond := Cond.code yX5_digitAt cX5_digitAt 2 (some .int) :: wsG
abbrev ww_X5_readPage : List Cond := Cond.code yX5_readPage cX5_readPage 3 (some .int) :: wsG
abbrev ww_X5_hold : List Cond := Cond.code yX5_hold cX5_hold 1 (some .int) :: wsG
abbrev ww_X5_isBay : List Cond := Cond.code yX5_isBay cX5_isBay 2 (some .boolean) :: wsG
abbrev ww_X5_bay : List Cond := Cond.code yX5_bay cX5_bay 3 (some .int) :: wsG
abbrev ww_X5_as : List Cond := Cond.code yX5_as cX5_as 5 (some .int) :: wsG
abbrev ww_X5_asNumber : List Cond := Cond.code yX5_asNumber cX5_asNumber 1 (some .int) :: wsG
abbrev ww_X5_ground : List Cond := Cond.code yX5_ground cX5_ground 3 (some .int) :: wsG
abbrev ww_X5_bendNow : List Cond := Cond.code yX5_bendNow cX5_bendNow 1 (some .int) :: wsG
abbrev ww_X5_hull : List Cond := Cond.code yX5_hull cX5_hull 2 (some .int) :: wsG
abbrev ww_X5_isAct : List Cond := Cond.code yX5_isAct cX5_isAct 5 (some .boolean) :: wsG
abbrev ww_X5_may : List Cond := Cond.code yX5_may cX5_may 2 (some .int) :: wsG
abbrev ww_X5_act : List Cond := Cond.code yX5_act cX5_act 3 (some .int) :: wsG
abbrev ww_X5_lookAhead : List Cond := Cond.code yX5_lookAhead cX5_lookAhead 1 none :: wsG
abbrev ww_X5_soonest : List Cond := Cond.code yX5_soonest cX5_soonest 2 (some .int) :: wsG
abbrev ww_X5_most : List Cond := Cond.code yX5_most cX5_most 1 (some .int) :: wsG
abbrev ww_X5_holds : List Cond := Cond.code yX5_holds cX5_holds 1 (some .int) :: wsG
abbrev ww_X5_leastBend : List Cond := Cond.code yX5_leastBend cX5_leastBend 1 (some .int) :: wsG
abbrev ww_X5_string : List Cond := Cond.code yX5_string cX5_string 2 (some .int) :: wsG
abbrev ww_X5_forget : List Cond := Cond.code yX5_forget cX5_forget 2 (some .int) :: wsG
abbrev ww_X5_lookBack : List Cond := Cond.code yX5_lookBack cX5_lookBack 1 none :: wsG
abbrev ww_X5_fits : List Cond := Cond.code yX5_fits cX5_fits 2 (some .int) :: wsG
abbrev ww_X5_nextSeed : List Cond := Cond.code yX5_nextSeed cX5_nextSeed 1 (some .int) :: wsG
abbrev ww_X5_days : List Cond := Cond.code yX5_days cX5_days 12 (some .int) :: wsG
abbrev ww_X5_image : List Cond := Cond.code yX5_image cX5_image 1 (some .int) :: wsG
abbrev ww_X5_restore : List Cond := Cond.code yX5_restore cX5_restore 1 (some .int) :: wsG
abbrev ww_X5_count : List Cond := Cond.code yX5_count cX5_count 2 (some .int) :: wsG
abbrev ww_X5_withLighter : List Cond := Cond.code yX5_withLighter cX5_withLighter 7 (some .long) :: wsG
abbrev ww_X5_withActs : List Cond := Cond.code yX5_withActs cX5_withActs 9 (some .long) :: wsG
abbrev ww_X5_withOutlook : List Cond := Cond.code yX5_withOutlook cX5_withOutlook 5 (some .long) :: wsG
abbrev ww_X5_digest : List Cond := Cond.code yX5_digest cX5_digest 4 (some .long) :: wsG
abbrev ww_X6_init : List Cond := Cond.code yX6_init cX6_init 1 none :: wsG
abbrev ww_X6_in : List Cond := Cond.code yX6_in cX6_in 6 (some .boolean) :: wsG
abbrev ww_X6_letter : List Cond := Cond.code yX6_letter cX6_letter 2 (some .int) :: wsG
abbrev ww_X6_blank : List Cond := Cond.code yX6_blank cX6_blank 2 (some .int) :: wsG
abbrev ww_X6_kindBy : List Cond := Cond.code yX6_kindBy cX6_kindBy 1 (some .int) :: wsG
abbrev ww_X6_isGood : List Cond := Cond.code yX6_isGood cX6_isGood 3 (some .boolean) :: wsG
abbrev ww_X6_faultOf : List Cond := Cond.code yX6_faultOf cX6_faultOf 2 (some .int) :: wsG
abbrev ww_X6_fault : List Cond := Cond.code yX6_fault cX6_fault 1 (some .int) :: wsG
abbrev ww_X6_at : List Cond := Cond.code yX6_at cX6_at 2 (some .int) :: wsG
abbrev ww_X6_tonsOf : List Cond := Cond.code yX6_tonsOf cX6_tonsOf 3 (some .int) :: wsG
abbrev ww_X6_hold : List Cond := Cond.code yX6_hold cX6_hold 2 (some .int) :: wsG
abbrev ww_X6_unlike : List Cond := Cond.code yX6_unlike cX6_unlike 2 (some .int) :: wsG
abbrev ww_X6_bentOf : List Cond := Cond.code yX6_bentOf cX6_bentOf 1 (some .int) :: wsG
abbrev ww_X6_listingOf : List Cond := Cond.code yX6_listingOf cX6_listingOf 1 (some .int) :: wsG
abbrev ww_X6_bendNow : List Cond := Cond.code yX6_bendNow cX6_bendNow 1 (some .int) :: wsG
abbrev ww_X6_takingOf : List Cond := Cond.code yX6_takingOf cX6_takingOf 3 (some .int) :: wsG
abbrev ww_X6_carryingOf : List Cond := Cond.code yX6_carryingOf cX6_carryingOf 2 (some .int) :: wsG
abbrev ww_X6_bay : List Cond := Cond.code yX6_bay cX6_bay 3 (some .int) :: wsG
abbrev ww_X6_as : List Cond := Cond.code yX6_as cX6_as 4 (some .int) :: wsG
abbrev ww_X6_ground : List Cond := Cond.code yX6_ground cX6_ground 3 (some .int) :: wsG
abbrev ww_X6_bears : List Cond := Cond.code yX6_bears cX6_bears 3 (some .boolean) :: wsG
abbrev ww_X6_hullOf : List Cond := Cond.code yX6_hullOf cX6_hullOf 2 (some .int) :: wsG
abbrev ww_X6_hull : List Cond := Cond.code yX6_hull cX6_hull 2 (some .int) :: wsG
abbrev ww_X6_isAct : List Cond := Cond.code yX6_isAct cX6_isAct 3 (some .boolean) :: wsG
abbrev ww_X6_behind : List Cond := Cond.code yX6_behind cX6_behind 9 (some .int) :: wsG
abbrev ww_X6_goes : List Cond := Cond.code yX6_goes cX6_goes 5 (some .int) :: wsG
abbrev ww_X6_lasts : List Cond := Cond.code yX6_lasts cX6_lasts 2 (some .int) :: wsG
abbrev ww_X6_may : List Cond := Cond.code yX6_may cX6_may 2 (some .int) :: wsG
abbrev ww_X6_act : List Cond := Cond.code yX6_act cX6_act 3 (some .int) :: wsG
abbrev ww_X6_isBetter : List Cond := Cond.code yX6_isBetter cX6_isBetter 7 (some .boolean) :: wsG
abbrev ww_X6_layFar : List Cond := Cond.code yX6_layFar cX6_layFar 7 none :: wsG
abbrev ww_X6_soonest : List Cond := Cond.code yX6_soonest cX6_soonest 2 (some .int) :: wsG
abbrev ww_X6_mostOf : List Cond := Cond.code yX6_mostOf cX6_mostOf 3 (some .int) :: wsG
abbrev ww_X6_most : List Cond := Cond.code yX6_most cX6_most 1 (some .int) :: wsG
abbrev ww_X6_manyOf : List Cond := Cond.code yX6_manyOf cX6_manyOf 3 (some .int) :: wsG
abbrev ww_X6_holds : List Cond := Cond.code yX6_holds cX6_holds 1 (some .int) :: wsG
abbrev ww_X6_leastBend : List Cond := Cond.code yX6_leastBend cX6_leastBend 2 (some .int) :: wsG
abbrev ww_X6_string : List Cond := Cond.code yX6_string cX6_string 2 (some .int) :: wsG
abbrev ww_X6_forget : List Cond := Cond.code yX6_forget cX6_forget 2 (some .int) :: wsG
abbrev ww_X6_stepAll : List Cond := Cond.code yX6_stepAll cX6_stepAll 5 none :: wsG
abbrev ww_X6_rowsFrom : List Cond := Cond.code yX6_rowsFrom cX6_rowsFrom 5 (some .int) :: wsG
abbrev ww_X6_layFits : List Cond := Cond.code yX6_layFits cX6_layFits 4 none :: wsG
abbrev ww_X6_fits : List Cond := Cond.code yX6_fits cX6_fits 2 (some .int) :: wsG
abbrev ww_X6_draw : List Cond := Cond.code yX6_draw cX6_draw 2 (some .int) :: wsG
abbrev ww_X6_days : List Cond := Cond.code yX6_days cX6_days 10 (some .int) :: wsG
abbrev ww_X6_copy : List Cond := Cond.code yX6_copy cX6_copy 3 none :: wsG
abbrev ww_X6_image : List Cond := Cond.code yX6_image cX6_image 1 (some .int) :: wsG
abbrev ww_X6_restore : List Cond := Cond.code yX6_restore cX6_restore 1 (some .int) :: wsG
abbrev ww_X6_countOf : List Cond := Cond.code yX6_countOf cX6_countOf 2 (some .int) :: wsG
abbrev ww_X6_count : List Cond := Cond.code yX6_count cX6_count 2 (some .int) :: wsG
abbrev ww_X6_say : List Cond := Cond.code yX6_say cX6_say 3 none :: wsG
abbrev ww_X6_sayHold : List Cond := Cond.code yX6_sayHold cX6_sayHold 3 none :: wsG
abbrev ww_X6_digest : List Cond := Cond.code yX6_digest cX6_digest 2 (some .long) :: wsG
abbrev ww_J9_abs_0f7a4 : List Cond := Cond.code yJ9_abs_0f7a4 cJ9_abs_0f7a4 1 (some .int) :: wsG
abbrev ww_J9_max_7cf53 : List Cond := Cond.code yJ9_max_7cf53 cJ9_max_7cf53 2 (some .int) :: wsG
abbrev ww_J9_min_7cf53 : List Cond := Cond.code yJ9_min_7cf53 cJ9_min_7cf53 2 (some .int) :: wsG
end
section
/-! pure static methods, as functions of their numbers -/
def zX5_asNumber  (x0 : Int32) : Int32 := if x0 = 0 then 0 else 1
abbrev rm_X5_asNumber : Room := { frames := 0, cells := 0, slots := 0, locals := 0 }
set_option maxHeartbeats 4000000 in
set_option maxRecDepth 100000 in
theorem c_X5_asNumber (l : Launch) (D : va_G) (cI cZ : ClassId) (z : Nat → Nat) (x0 : Int32)  : cRi l yX5_asNumber ww_X5_asNumber rm_X5_asNumber D cI cZ z [] [.int x0] (fun r => r = zX5_asNumber x0) := by
  refine cRi.of (cc := cX5_asNumber) (maxL := 1) (rt := .int) (by decide) rfl (Nat.le_of_ble_eq_true rfl) (fun X F E hR => ?_)
  refine J_lv [0] (lv' := [(0, .int x0)]) rfl ?_
  refine J_iload_n (pc' := 1) (q := 0) F dX5_asNumber_0 rfl rfl ?_
  refine J_if_eq (tgt := 8) (pc' := 4) F dX5_asNumber_1 (by decide) rfl (fun c1 => ?_) (fun c1 => ?_)
  · refine J_iconst (pc' := 9) (v := 0) F dX5_asNumber_8 (by decide) rfl ?_
    exact J_iretR F hR dX5_asNumber_9 rfl (by show _ = zX5_asNumber x0; unfold zX5_asNumber; rw [if_pos c1])
  · refine J_iconst (pc' := 5) (v := 1) F dX5_asNumber_4 (by decide) rfl ?_
    refine J_goto (tgt := 9) F dX5_asNumber_5 (by decide) ?_
    exact J_iretR F hR dX5_asNumber_9 rfl (by show _ = zX5_asNumber x0; unfold zX5_asNumber; rw [if_neg c1])
def zX5_nextSeed  (x0 : Int32) : Int32 := ((((1103515245 * ((x0 : Int32).toInt64)) + 12345) - ((1103515245 * ((x0 : Int32).toInt64)) + 12345) / 2147483648 * 2147483648) : Int64).toInt32
abbrev rm_X5_nextSeed : Room := { frames := 0, cells := 0, slots := 0, locals := 0 }
set_option maxHeartbeats 4000000 in
set_option maxRecDepth 100000 in
theorem c_X5_nextSeed (l : Launch) (D : va_G) (cI cZ : ClassId) (z : Nat → Nat) (x0 : Int32)  : cRi l yX5_nextSeed ww_X5_nextSeed rm_X5_nextSeed D cI cZ z [] [.int x0] (fun r => r = zX5_nextSeed x0) := by
  refine cRi.of (cc := cX5_nextSeed) (maxL := 1) (rt := .int) (by decide) rfl (Nat.le_of_ble_eq_true rfl) (fun X F E hR => ?_)
  refine J_lv [0] (lv' := [(0, .int x0)]) rfl ?_
  refine J_ldc2 (pc' := 3) (v := 1103515245) F dX5_nextSeed_0 kw_530 rfl ?_
  refine J_iload_n (pc' := 4) (q := 0) F dX5_nextSeed_3 rfl rfl ?_
  refine J_i2l (pc' := 5) (v := (x0 : Int32).toInt64) F dX5_nextSeed_4 rfl rfl ?_
  refine J_lmul (pc' := 6) F dX5_nextSeed_5 rfl ?_
  refine J_ldc2 (pc' := 9) (v := 12345) F dX5_nextSeed_6 kw_531 rfl ?_
  refine J_ladd (pc' := 10) F dX5_nextSeed_9 rfl ?_
  refine J_ldc2 (pc' := 13) (v := 2147483648) F dX5_nextSeed_10 kw_532 rfl ?_
  refine J_lrem (pc' := 14) F dX5_nextSeed_13 (by decide) rfl ?_
  refine J_l2i (pc' := 15) (v := ((((1103515245 * ((x0 : Int32).toInt64)) + 12345) - ((1103515245 * ((x0 : Int32).toInt64)) + 12345) / 2147483648 * 2147483648) : Int64).toInt32) F dX5_nextSeed_14 rfl rfl ?_
  exact J_iretR F hR dX5_nextSeed_15 rfl rfl
def zX5_cellFrom  (x0 : Int32) : Int32 := if (6 : Int32) ≤ x0 then (x0 - 6) / 6 else x0
abbrev rm_X5_cellFrom : Room := { frames := 0, cells := 0, slots := 0, locals := 0 }
set_option maxHeartbeats 4000000 in
set_option maxRecDepth 100000 in
theorem c_X5_cellFrom (l : Launch) (D : va_G) (cI cZ : ClassId) (z : Nat → Nat) (x0 : Int32)  : cRi l yX5_cellFrom ww_X5_cellFrom rm_X5_cellFrom D cI cZ z [] [.int x0] (fun r => r = zX5_cellFrom x0) := by
  refine cRi.of (cc := cX5_cellFrom) (maxL := 1) (rt := .int) (by decide) rfl (Nat.le_of_ble_eq_true rfl) (fun X F E hR => ?_)
  refine J_lv [0] (lv' := [(0, .int x0)]) rfl ?_
  refine J_iload_n (pc' := 1) (q := 0) F dX5_cellFrom_0 rfl rfl ?_
  refine J_bipush (pc' := 3) (v := 6) F dX5_cellFrom_1 (by decide) rfl ?_
  refine J_icmp_ge (tgt := 10) (pc' := 6) F dX5_cellFrom_3 (by decide) rfl (fun c3 => ?_) (fun c3 => ?_)
  · refine J_iload_n (pc' := 11) (q := 0) F dX5_cellFrom_10 rfl rfl ?_
    refine J_bipush (pc' := 13) (v := 6) F dX5_cellFrom_11 (by decide) rfl ?_
    refine J_isub (pc' := 14) F dX5_cellFrom_13 rfl ?_
    refine J_bipush (pc' := 16) (v := 6) F dX5_cellFrom_14 (by decide) rfl ?_
    refine J_idiv (pc' := 17) F dX5_cellFrom_16 (by decide) rfl ?_
    exact J_iretR F hR dX5_cellFrom_17 rfl (by show _ = zX5_cellFrom x0; unfold zX5_cellFrom; rw [if_pos c3])
  · refine J_iload_n (pc' := 7) (q := 0) F dX5_cellFrom_6 rfl rfl ?_
    refine J_goto (tgt := 17) F dX5_cellFrom_7 (by decide) ?_
    exact J_iretR F hR dX5_cellFrom_17 rfl (by show _ = zX5_cellFrom x0; unfold zX5_cellFrom; rw [if_neg c3])
def zX5_cellInto  (x0 : Int32) : Int32 := if (6 : Int32) ≤ x0 then (x0 - 6) - (x0 - 6) / 6 * 6 else (-1)
abbrev rm_X5_cellInto : Room := { frames := 0, cells := 0, slots := 0, locals := 0 }
set_option maxHeartbeats 4000000 in
set_option maxRecDepth 100000 in
theorem c_X5_cellInto (l : Launch) (D : va_G) (cI cZ : ClassId) (z : Nat → Nat) (x0 : Int32)  : cRi l yX5_cellInto ww_X5_cellInto rm_X5_cellInto D cI cZ z [] [.int x0] (fun r => r = zX5_cellInto x0) := by
  refine cRi.of (cc := cX5_cellInto) (maxL := 1) (rt := .int) (by decide) rfl (Nat.le_of_ble_eq_true rfl) (fun X F E hR => ?_)
  refine J_lv [0] (lv' := [(0, .int x0)]) rfl ?_
  refine J_iload_n (pc' := 1) (q := 0) F dX5_cellInto_0 rfl rfl ?_
  refine J_bipush (pc' := 3) (v := 6) F dX5_cellInto_1 (by decide) rfl ?_
  refine J_icmp_ge (tgt := 10) (pc' := 6) F dX5_cellInto_3 (by decide) rfl (fun c3 => ?_) (fun c3 => ?_)
  · refine J_iload_n (pc' := 11) (q := 0) F dX5_cellInto_10 rfl rfl ?_
    refine J_bipush (pc' := 13) (v := 6) F dX5_cellInto_11 (by decide) rfl ?_
    refine J_isub (pc' := 14) F dX5_cellInto_13 rfl ?_
    refine J_bipush (pc' := 16) (v := 6) F dX5_cellInto_14 (by decide) rfl ?_
    refine J_irem (pc' := 17) F dX5_cellInto_16 (by decide) rfl ?_
    exact J_iretR F hR dX5_cellInto_17 rfl (by show _ = zX5_cellInto x0; unfold zX5_cellInto; rw [if_pos c3])
  · refine J_iconst (pc' := 7) (v := (-1)) F dX5_cellInto_6 (by decide) rfl ?_
    refine J_goto (tgt := 17) F dX5_cellInto_7 (by decide) ?_
    exact J_iretR F hR dX5_cellInto_17 rfl (by show _ = zX5_cellInto x0; unfold zX5_cellInto; rw [if_neg c3])
def zX5_isAct  (x0 : Int32) : Int32 := if x0 < 0 then 0 else (if x0 < 42 then (if (6 : Int32) ≤ x0 then (if ((zX5_cellFrom x0) - (zX5_cellFrom x0) / 2 * 2) = ((zX5_cellInto x0) - (zX5_cellInto x0) / 2 * 2) then (if (if 0 ≤ (((zX5_cellFrom x0) / 2) - ((zX5_cellInto x0) / 2)) then (((zX5_cellFrom x0) / 2) - ((zX5_cellInto x0) / 2)) else 0 - (((zX5_cellFrom x0) / 2) - ((zX5_cellInto x0) / 2))) = 1 then 1 else 0) else (if (if 0 ≤ (((zX5_cellFrom x0) / 2) - ((zX5_cellInto x0) / 2)) then (((zX5_cellFrom x0) / 2) - ((zX5_cellInto x0) / 2)) else 0 - (((zX5_cellFrom x0) / 2) - ((zX5_cellInto x0) / 2))) = 0 then 1 else 0)) else 1) else 0)
abbrev rm_X5_isAct : Room := { frames := 1, cells := 0, slots := 0, locals := 21 }
set_option maxHeartbeats 4000000 in
set_option maxRecDepth 100000 in
theorem c_X5_isAct (l : Launch) (D : va_G) (cI cZ : ClassId) (z : Nat → Nat) (x0 : Int32)  : cRi l yX5_isAct ww_X5_isAct rm_X5_isAct D cI cZ z [] [.int x0] (fun r => r = zX5_isAct x0) := by
  refine cRi.of (cc := cX5_isAct) (maxL := 5) (rt := .boolean) (by decide) rfl (Nat.le_of_ble_eq_true rfl) (fun X F E hR => ?_)
  refine J_lv [0] (lv' := [(0, .int x0)]) rfl ?_
  refine J_iload_n (pc' := 1) (q := 0) F dX5_isAct_0 rfl rfl ?_
  refine J_if_lt (tgt := 10) (pc' := 4) F dX5_isAct_1 (by decide) rfl (fun c1 => ?_) (fun c1 => ?_)
  · refine J_iconst (pc' := 11) (v := 0) F dX5_isAct_10 (by decide) rfl ?_
    exact J_iretR F hR dX5_isAct_11 rfl (by show _ = zX5_isAct x0; unfold zX5_isAct; rw [if_pos c1])
  · refine J_iload_n (pc' := 5) (q := 0) F dX5_isAct_4 rfl rfl ?_
    refine J_bipush (pc' := 7) (v := 42) F dX5_isAct_5 (by decide) rfl ?_
    refine J_icmp_lt (tgt := 12) (pc' := 10) F dX5_isAct_7 (by decide) rfl (fun c7 => ?_) (fun c7 => ?_)
    · refine J_iload_n (pc' := 13) (q := 0) F dX5_isAct_12 rfl rfl ?_
      refine J_bipush (pc' := 15) (v := 6) F dX5_isAct_13 (by decide) rfl ?_
      refine J_icmp_ge (tgt := 20) (pc' := 18) F dX5_isAct_15 (by decide) rfl (fun c15 => ?_) (fun c15 => ?_)
      · refine J_iload_n (pc' := 21) (q := 0) F dX5_isAct_20 rfl rfl ?_
        refine J_goRie (wc := []) (av := [.int x0]) (rest := []) (v := zX5_cellFrom x0) (pc' := 24) F E (fun _ _ => jP_nil _ _) (fun H locs hI hp => jrun_S F E (c_X5_cellFrom l D cI cZ z x0) kw_405 kw_406 rfl kw_407 kw_1 oX5_cellFrom ⟨⟨rfl, rfl⟩, ⟨Nat.le_of_ble_eq_true rfl, Nat.le_of_ble_eq_true rfl⟩, Nat.zero_le _, Nat.zero_le _⟩ rfl (Nat.le_of_ble_eq_true rfl) dX5_isAct_21 hp) rfl ?_
        refine J_istore_n (pc' := 25) [1, 0] [(0, .int x0), (1, .int (zX5_cellFrom x0))] F dX5_isAct_24 rfl (jL_of E (show 1 < 5 by decide)) rfl rfl ?_
        refine J_iload_n (pc' := 26) (q := 0) F dX5_isAct_25 rfl rfl ?_
        refine J_goRie (wc := []) (av := [.int x0]) (rest := []) (v := zX5_cellInto x0) (pc' := 29) F E (fun _ _ => jP_nil _ _) (fun H locs hI hp => jrun_S F E (c_X5_cellInto l D cI cZ z x0) kw_408 kw_409 rfl kw_410 kw_1 oX5_cellInto ⟨⟨rfl, rfl⟩, ⟨Nat.le_of_ble_eq_true rfl, Nat.le_of_ble_eq_true rfl⟩, Nat.zero_le _, Nat.zero_le _⟩ rfl (Nat.le_of_ble_eq_true rfl) dX5_isAct_26 hp) rfl ?_
        refine J_istore_n (pc' := 30) [1, 2, 0] [(0, .int x0), (1, .int (zX5_cellFrom x0)), (2, .int (zX5_cellInto x0))] F dX5_isAct_29 rfl (jL_of E (show 2 < 5 by decide)) rfl rfl ?_
        refine J_iload_n (pc' := 31) (q := 1) F dX5_isAct_30 rfl rfl ?_
        refine J_iconst (pc' := 32) (v := 2) F dX5_isAct_31 (by decide) rfl ?_
        refine J_idiv (pc' := 33) F dX5_isAct_32 (by decide) rfl ?_
        refine J_iload_n (pc' := 34) (q := 2) F dX5_isAct_33 rfl rfl ?_
        refine J_iconst (pc' := 35) (v := 2) F dX5_isAct_34 (by decide) rfl ?_
        refine J_idiv (pc' := 36) F dX5_isAct_35 (by decide) rfl ?_
        refine J_isub (pc' := 37) F dX5_isAct_36 rfl ?_
        refine J_mabs (pc' := 40) F E dX5_isAct_37 kw_411 kw_412 kw_12 kw_413 (Nat.le_of_ble_eq_true rfl) (Nat.le_of_ble_eq_true rfl) (Nat.zero_le _) (Nat.zero_le _) rfl ?_
        refine J_istore_n (pc' := 41) [1, 2, 3, 0] [(0, .int x0), (1, .int (zX5_cellFrom x0)), (2, .int (zX5_cellInto x0)), (3, .int (if 0 ≤ (((zX5_cellFrom x0) / 2) - ((zX5_cellInto x0) / 2)) then (((zX5_cellFrom x0) / 2) - ((zX5_cellInto x0) / 2)) else 0 - (((zX5_cellFrom x0) / 2) - ((zX5_cellInto x0) / 2))))] F dX5_isAct_40 rfl (jL_of E (show 3 < 5 by decide)) rfl rfl ?_
        refine J_iload_n (pc' := 42) (q := 1) F dX5_isAct_41 rfl rfl ?_
        refine J_iconst (pc' := 43) (v := 2) F dX5_isAct_42 (by decide) rfl ?_
        refine J_irem (pc' := 44) F dX5_isAct_43 (by decide) rfl ?_
        refine J_iload_n (pc' := 45) (q := 2) F dX5_isAct_44 rfl rfl ?_
        refine J_iconst (pc' := 46) (v := 2) F dX5_isAct_45 (by decide) rfl ?_
        refine J_irem (pc' := 47) F dX5_isAct_46 (by decide) rfl ?_
        refine J_icmp_ne (tgt := 54) (pc' := 50) F dX5_isAct_47 (by decide) rfl (fun c47 => ?_) (fun c47 => ?_)
        · refine J_iconst (pc' := 55) (v := 0) F dX5_isAct_54 (by decide) rfl ?_
          refine J_istore (pc' := 57) [1, 2, 3, 4, 0] [(0, .int x0), (1, .int (zX5_cellFrom x0)), (2, .int (zX5_cellInto x0)), (3, .int (if 0 ≤ (((zX5_cellFrom x0) / 2) - ((zX5_cellInto x0) / 2)) then (((zX5_cellFrom x0) / 2) - ((zX5_cellInto x0) / 2)) else 0 - (((zX5_cellFrom x0) / 2) - ((zX5_cellInto x0) / 2)))), (4, .int 0)] F dX5_isAct_55 (jL_of E (show 4 < 5 by decide)) rfl rfl ?_
          refine J_iload (pc' := 59) (q := 4) F dX5_isAct_57 rfl rfl ?_
          refine J_if_eq (tgt := 75) (pc' := 62) F dX5_isAct_59 (by decide) rfl (fun _ => ?_) (fun c9 => absurd (by decide) c9)
          refine J_iload_n (pc' := 76) (q := 3) F dX5_isAct_75 rfl rfl ?_
          refine J_if_ne (tgt := 83) (pc' := 79) F dX5_isAct_76 (by decide) rfl (fun c76 => ?_) (fun c76 => ?_)
          · refine J_iconst (pc' := 84) (v := 0) F dX5_isAct_83 (by decide) rfl ?_
            exact J_iretR F hR dX5_isAct_84 rfl (by show _ = zX5_isAct x0; unfold zX5_isAct; rw [if_neg c1, if_pos c7, if_pos c15, if_neg c47, if_neg c76])
          · refine J_iconst (pc' := 80) (v := 1) F dX5_isAct_79 (by decide) rfl ?_
            refine J_goto (tgt := 84) F dX5_isAct_80 (by decide) ?_
            exact J_iretR F hR dX5_isAct_84 rfl (by show _ = zX5_isAct x0; unfold zX5_isAct; rw [if_neg c1, if_pos c7, if_pos c15, if_neg c47, if_pos c76])
        · refine J_iconst (pc' := 51) (v := 1) F dX5_isAct_50 (by decide) rfl ?_
          refine J_goto (tgt := 55) F dX5_isAct_51 (by decide) ?_
          refine J_istore (pc' := 57) [1, 2, 3, 4, 0] [(0, .int x0), (1, .int (zX5_cellFrom x0)), (2, .int (zX5_cellInto x0)), (3, .int (if 0 ≤ (((zX5_cellFrom x0) / 2) - ((zX5_cellInto x0) / 2)) then (((zX5_cellFrom x0) / 2) - ((zX5_cellInto x0) / 2)) else 0 - (((zX5_cellFrom x0) / 2) - ((zX5_cellInto x0) / 2)))), (4, .int 1)] F dX5_isAct_55 (jL_of E (show 4 < 5 by decide)) rfl rfl ?_
          refine J_iload (pc' := 59) (q := 4) F dX5_isAct_57 rfl rfl ?_
          refine J_if_eq (tgt := 75) (pc' := 62) F dX5_isAct_59 (by decide) rfl (fun c9 => absurd c9 (by decide)) (fun _ => ?_)
          refine J_iload_n (pc' := 63) (q := 3) F dX5_isAct_62 rfl rfl ?_
          refine J_iconst (pc' := 64) (v := 1) F dX5_isAct_63 (by decide) rfl ?_
          refine J_icmp_ne (tgt := 71) (pc' := 67) F dX5_isAct_64 (by decide) rfl (fun c64 => ?_) (fun c64 => ?_)
          · refine J_iconst (pc' := 72) (v := 0) F dX5_isAct_71 (by decide) rfl ?_
            refine J_goto (tgt := 84) F dX5_isAct_72 (by decide) ?_
            exact J_iretR F hR dX5_isAct_84 rfl (by show _ = zX5_isAct x0; unfold zX5_isAct; rw [if_neg c1, if_pos c7, if_pos c15, if_pos c47, if_neg c64])
          · refine J_iconst (pc' := 68) (v := 1) F dX5_isAct_67 (by decide) rfl ?_
            refine J_goto (tgt := 84) F dX5_isAct_68 (by decide) ?_
            exact J_iretR F hR dX5_isAct_84 rfl (by show _ = zX5_isAct x0; unfold zX5_isAct; rw [if_neg c1, if_pos c7, if_pos c15, if_pos c47, if_pos c64])
      · refine J_iconst (pc' := 19) (v := 1) F dX5_isAct_18 (by decide) rfl ?_
        exact J_iretR F hR dX5_isAct_19 rfl (by show _ = zX5_isAct x0; unfold zX5_isAct; rw [if_neg c1, if_pos c7, if_neg c15])
    · refine J_iconst (pc' := 11) (v := 0) F dX5_isAct_10 (by decide) rfl ?_
      exact J_iretR F hR dX5_isAct_11 rfl (by show _ = zX5_isAct x0; unfold zX5_isAct; rw [if_neg c1, if_neg c7])
def zX5_tonsAt  (x0 : Int32) (x1 : Int32) : Int32 := ((x0 : Int32) >>> (((2 * x1) : Int32) &&& 31)) &&& 3
abbrev rm_X5_tonsAt : Room := { frames := 0, cells := 0, slots := 0, locals := 0 }
set_option maxHeartbeats 4000000 in
set_option maxRecDepth 100000 in
theorem c_X5_tonsAt (l : Launch) (D : va_G) (cI cZ : ClassId) (z : Nat → Nat) (x0 : Int32) (x1 : Int32)  : cRi l yX5_tonsAt ww_X5_tonsAt rm_X5_tonsAt D cI cZ z [] [.int x0, .int x1] (fun r => r = zX5_tonsAt x0 x1) := by
  refine cRi.of (cc := cX5_tonsAt) (maxL := 2) (rt := .int) (by decide) rfl (Nat.le_of_ble_eq_true rfl) (fun X F E hR => ?_)
  refine J_lv [0, 1] (lv' := [(0, .int x0), (1, .int x1)]) rfl ?_
  refine J_iload_n (pc' := 1) (q := 0) F dX5_tonsAt_0 rfl rfl ?_
  refine J_iconst (pc' := 2) (v := 2) F dX5_tonsAt_1 (by decide) rfl ?_
  refine J_iload_n (pc' := 3) (q := 1) F dX5_tonsAt_2 rfl rfl ?_
  refine J_imul (pc' := 4) F dX5_tonsAt_3 rfl ?_
  refine J_ishr (pc' := 5) F dX5_tonsAt_4 rfl ?_
  refine J_iconst (pc' := 6) (v := 3) F dX5_tonsAt_5 (by decide) rfl ?_
  refine J_iand (pc' := 7) F dX5_tonsAt_6 rfl ?_
  exact J_iretR F hR dX5_tonsAt_7 rfl rfl
def zX5_tonsOf  (x0 : Int32) : Int32 := (((((0 + (zX5_tonsAt x0 0)) + (zX5_tonsAt x0 1)) + (zX5_tonsAt x0 2)) + (zX5_tonsAt x0 3)) + (zX5_tonsAt x0 4)) + (zX5_tonsAt x0 5)
abbrev rm_X5_tonsOf : Room := { frames := 1, cells := 0, slots := 0, locals := 21 }
set_option maxHeartbeats 4000000 in
set_option maxRecDepth 100000 in
theorem c_X5_tonsOf (l : Launch) (D : va_G) (cI cZ : ClassId) (z : Nat → Nat) (x0 : Int32)  : cRi l yX5_tonsOf ww_X5_tonsOf rm_X5_tonsOf D cI cZ z [] [.int x0] (fun r => r = zX5_tonsOf x0) := by
  refine cRi.of (cc := cX5_tonsOf) (maxL := 3) (rt := .int) (by decide) rfl (Nat.le_of_ble_eq_true rfl) (fun X F E hR => ?_)
  refine J_lv [0] (lv' := [(0, .int x0)]) rfl ?_
  refine J_iconst (pc' := 1) (v := 0) F dX5_tonsOf_0 (by decide) rfl ?_
  refine J_istore_n (pc' := 2) [1, 0] [(0, .int x0), (1, .int 0)] F dX5_tonsOf_1 rfl (jL_of E (show 1 < 3 by decide)) rfl rfl ?_
  refine J_iconst (pc' := 3) (v := 0) F dX5_tonsOf_2 (by decide) rfl ?_
  refine J_istore_n (pc' := 4) [1, 2, 0] [(0, .int x0), (1, .int 0), (2, .int 0)] F dX5_tonsOf_3 rfl (jL_of E (show 2 < 3 by decide)) rfl rfl ?_
  refine J_iload_n (pc' := 5) (q := 2) F dX5_tonsOf_4 rfl rfl ?_
  refine J_bipush (pc' := 7) (v := 6) F dX5_tonsOf_5 (by decide) rfl ?_
  refine J_icmp_ge (tgt := 24) (pc' := 10) F dX5_tonsOf_7 (by decide) rfl (fun c9 => absurd c9 (by decide)) (fun _ => ?_)
  refine J_iload_n (pc' := 11) (q := 1) F dX5_tonsOf_10 rfl rfl ?_
  refine J_iload_n (pc' := 12) (q := 0) F dX5_tonsOf_11 rfl rfl ?_
  refine J_iload_n (pc' := 13) (q := 2) F dX5_tonsOf_12 rfl rfl ?_
  refine J_goRie (wc := []) (av := [.int x0, .int 0]) (rest := [.int 0]) (v := zX5_tonsAt x0 0) (pc' := 16) F E (fun _ _ => jP_nil _ _) (fun H locs hI hp => jrun_S F E (c_X5_tonsAt l D cI cZ z x0 0) kw_356 kw_357 rfl kw_358 kw_1 oX5_tonsAt ⟨⟨rfl, rfl⟩, ⟨Nat.le_of_ble_eq_true rfl, Nat.le_of_ble_eq_true rfl⟩, Nat.zero_le _, Nat.zero_le _⟩ rfl (Nat.le_of_ble_eq_true rfl) dX5_tonsOf_13 hp) rfl ?_
  refine J_iadd (pc' := 17) F dX5_tonsOf_16 rfl ?_
  refine J_istore_n (pc' := 18) [1, 0, 2] [(0, .int x0), (1, .int (0 + (zX5_tonsAt x0 0))), (2, .int 0)] F dX5_tonsOf_17 rfl (jL_of E (show 1 < 3 by decide)) rfl rfl ?_
  refine J_iinc (v := 1) (q := 2) (pc' := 21) [1, 2, 0] [(0, .int x0), (1, .int (0 + (zX5_tonsAt x0 0))), (2, .int 1)] F dX5_tonsOf_18 rfl (by decide) (jL_of E (show 2 < 3 by decide)) rfl rfl ?_
  refine J_goto (tgt := 4) F dX5_tonsOf_21 (by decide) ?_
  refine J_iload_n (pc' := 5) (q := 2) F dX5_tonsOf_4 rfl rfl ?_
  refine J_bipush (pc' := 7) (v := 6) F dX5_tonsOf_5 (by decide) rfl ?_
  refine J_icmp_ge (tgt := 24) (pc' := 10) F dX5_tonsOf_7 (by decide) rfl (fun c9 => absurd c9 (by decide)) (fun _ => ?_)
  refine J_iload_n (pc' := 11) (q := 1) F dX5_tonsOf_10 rfl rfl ?_
  refine J_iload_n (pc' := 12) (q := 0) F dX5_tonsOf_11 rfl rfl ?_
  refine J_iload_n (pc' := 13) (q := 2) F dX5_tonsOf_12 rfl rfl ?_
  refine J_goRie (wc := []) (av := [.int x0, .int 1]) (rest := [.int (0 + (zX5_tonsAt x0 0))]) (v := zX5_tonsAt x0 1) (pc' := 16) F E (fun _ _ => jP_nil _ _) (fun H locs hI hp => jrun_S F E (c_X5_tonsAt l D cI cZ z x0 1) kw_356 kw_357 rfl kw_358 kw_1 oX5_tonsAt ⟨⟨rfl, rfl⟩, ⟨Nat.le_of_ble_eq_true rfl, Nat.le_of_ble_eq_true rfl⟩, Nat.zero_le _, Nat.zero_le _⟩ rfl (Nat.le_of_ble_eq_true rfl) dX5_tonsOf_13 hp) rfl ?_
  refine J_iadd (pc' := 17) F dX5_tonsOf_16 rfl ?_
  refine J_istore_n (pc' := 18) [1, 0, 2] [(0, .int x0), (1, .int ((0 + (zX5_tonsAt x0 0)) + (zX5_tonsAt x0 1))), (2, .int 1)] F dX5_tonsOf_17 rfl (jL_of E (show 1 < 3 by decide)) rfl rfl ?_
  refine J_iinc (v := 2) (q := 2) (pc' := 21) [1, 2, 0] [(0, .int x0), (1, .int ((0 + (zX5_tonsAt x0 0)) + (zX5_tonsAt x0 1))), (2, .int 2)] F dX5_tonsOf_18 rfl (by decide) (jL_of E (show 2 < 3 by decide)) rfl rfl ?_
  refine J_goto (tgt := 4) F dX5_tonsOf_21 (by decide) ?_
  refine J_iload_n (pc' := 5) (q := 2) F dX5_tonsOf_4 rfl rfl ?_
  refine J_bipush (pc' := 7) (v := 6) F dX5_tonsOf_5 (by decide) rfl ?_
  refine J_icmp_ge (tgt := 24) (pc' := 10) F dX5_tonsOf_7 (by decide) rfl (fun c9 => absurd c9 (by decide)) (fun _ => ?_)
  refine J_iload_n (pc' := 11) (q := 1) F dX5_tonsOf_10 rfl rfl ?_
  refine J_iload_n (pc' := 12) (q := 0) F dX5_tonsOf_11 rfl rfl ?_
  refine J_iload_n (pc' := 13) (q := 2) F dX5_tonsOf_12 rfl rfl ?_
  refine J_goRie (wc := []) (av := [.int x0, .int 2]) (rest := [.int ((0 + (zX5_tonsAt x0 0)) + (zX5_tonsAt x0 1))]) (v := zX5_tonsAt x0 2) (pc' := 16) F E (fun _ _ => jP_nil _ _) (fun H locs hI hp => jrun_S F E (c_X5_tonsAt l D cI cZ z x0 2) kw_356 kw_357 rfl kw_358 kw_1 oX5_tonsAt ⟨⟨rfl, rfl⟩, ⟨Nat.le_of_ble_eq_true rfl, Nat.le_of_ble_eq_true rfl⟩, Nat.zero_le _, Nat.zero_le _⟩ rfl (Nat.le_of_ble_eq_true rfl) dX5_tonsOf_13 hp) rfl ?_
  refine J_iadd (pc' := 17) F dX5_tonsOf_16 rfl ?_
  refine J_istore_n (pc' := 18) [1, 0, 2] [(0, .int x0), (1, .int (((0 + (zX5_tonsAt x0 0)) + (zX5_tonsAt x0 1)) + (zX5_tonsAt x0 2))), (2, .int 2)] F dX5_tonsOf_17 rfl (jL_of E (show 1 < 3 by decide)) rfl rfl ?_
  refine J_iinc (v := 3) (q := 2) (pc' := 21) [1, 2, 0] [(0, .int x0), (1, .int (((0 + (zX5_tonsAt x0 0)) + (zX5_tonsAt x0 1)) + (zX5_tonsAt x0 2))), (2, .int 3)] F dX5_tonsOf_18 rfl (by decide) (jL_of E (show 2 < 3 by decide)) rfl rfl ?_
  refine J_goto (tgt := 4) F dX5_tonsOf_21 (by decide) ?_
  refine J_iload_n (pc' := 5) (q := 2) F dX5_tonsOf_4 rfl rfl ?_
  refine J_bipush (pc' := 7) (v := 6) F dX5_tonsOf_5 (by decide) rfl ?_
  refine J_icmp_ge (tgt := 24) (pc' := 10) F dX5_tonsOf_7 (by decide) rfl (fun c9 => absurd c9 (by decide)) (fun _ => ?_)
  refine J_iload_n (pc' := 11) (q := 1) F dX5_tonsOf_10 rfl rfl ?_
  refine J_iload_n (pc' := 12) (q := 0) F dX5_tonsOf_11 rfl rfl ?_
  refine J_iload_n (pc' := 13) (q := 2) F dX5_tonsOf_12 rfl rfl ?_
  refine J_goRie (wc := []) (av := [.int x0, .int 3]) (rest := [.int (((0 + (zX5_tonsAt x0 0)) + (zX5_tonsAt x0 1)) + (zX5_tonsAt x0 2))]) (v := zX5_tonsAt x0 3) (pc' := 16) F E (fun _ _ => jP_nil _ _) (fun H locs hI hp => jrun_S F E (c_X5_tonsAt l D cI cZ z x0 3) kw_356 kw_357 rfl kw_358 kw_1 oX5_tonsAt ⟨⟨rfl, rfl⟩, ⟨Nat.le_of_ble_eq_true rfl, Nat.le_of_ble_eq_true rfl⟩, Nat.zero_le _, Nat.zero_le _⟩ rfl (Nat.le_of_ble_eq_true rfl) dX5_tonsOf_13 hp) rfl ?_
  refine J_iadd (pc' := 17) F dX5_tonsOf_16 rfl ?_
  refine J_istore_n (pc' := 18) [1, 0, 2] [(0, .int x0), (1, .int ((((0 + (zX5_tonsAt x0 0)) + (zX5_tonsAt x0 1)) + (zX5_tonsAt x0 2)) + (zX5_tonsAt x0 3))), (2, .int 3)] F dX5_tonsOf_17 rfl (jL_of E (show 1 < 3 by decide)) rfl rfl ?_
  refine J_iinc (v := 4) (q := 2) (pc' := 21) [1, 2, 0] [(0, .int x0), (1, .int ((((0 + (zX5_tonsAt x0 0)) + (zX5_tonsAt x0 1)) + (zX5_tonsAt x0 2)) + (zX5_tonsAt x0 3))), (2, .int 4)] F dX5_tonsOf_18 rfl (by decide) (jL_of E (show 2 < 3 by decide)) rfl rfl ?_
  refine J_goto (tgt := 4) F dX5_tonsOf_21 (by decide) ?_
  refine J_iload_n (pc' := 5) (q := 2) F dX5_tonsOf_4 rfl rfl ?_
  refine J_bipush (pc' := 7) (v := 6) F dX5_tonsOf_5 (by decide) rfl ?_
  refine J_icmp_ge (tgt := 24) (pc' := 10) F dX5_tonsOf_7 (by decide) rfl (fun c9 => absurd c9 (by decide)) (fun _ => ?_)
  refine J_iload_n (pc' := 11) (q := 1) F dX5_tonsOf_10 rfl rfl ?_
  refine J_iload_n (pc' := 12) (q := 0) F dX5_tonsOf_11 rfl rfl ?_
  refine J_iload_n (pc' := 13) (q := 2) F dX5_tonsOf_12 rfl rfl ?_
  refine J_goRie (wc := []) (av := [.int x0, .int 4]) (rest := [.int ((((0 + (zX5_tonsAt x0 0)) + (zX5_tonsAt x0 1)) + (zX5_tonsAt x0 2)) + (zX5_tonsAt x0 3))]) (v := zX5_tonsAt x0 4) (pc' := 16) F E (fun _ _ => jP_nil _ _) (fun H locs hI hp => jrun_S F E (c_X5_tonsAt l D cI cZ z x0 4) kw_356 kw_357 rfl kw_358 kw_1 oX5_tonsAt ⟨⟨rfl, rfl⟩, ⟨Nat.le_of_ble_eq_true rfl, Nat.le_of_ble_eq_true rfl⟩, Nat.zero_le _, Nat.zero_le _⟩ rfl (Nat.le_of_ble_eq_true rfl) dX5_tonsOf_13 hp) rfl ?_
  refine J_iadd (pc' := 17) F dX5_tonsOf_16 rfl ?_
  refine J_istore_n (pc' := 18) [1, 0, 2] [(0, .int x0), (1, .int (((((0 + (zX5_tonsAt x0 0)) + (zX5_tonsAt x0 1)) + (zX5_tonsAt x0 2)) + (zX5_tonsAt x0 3)) + (zX5_tonsAt x0 4))), (2, .int 4)] F dX5_tonsOf_17 rfl (jL_of E (show 1 < 3 by decide)) rfl rfl ?_
  refine J_iinc (v := 5) (q := 2) (pc' := 21) [1, 2, 0] [(0, .int x0), (1, .int (((((0 + (zX5_tonsAt x0 0)) + (zX5_tonsAt x0 1)) + (zX5_tonsAt x0 2)) + (zX5_tonsAt x0 3)) + (zX5_tonsAt x0 4))), (2, .int 5)] F dX5_tonsOf_18 rfl (by decide) (jL_of E (show 2 < 3 by decide)) rfl rfl ?_
  refine J_goto (tgt := 4) F dX5_tonsOf_21 (by decide) ?_
  refine J_iload_n (pc' := 5) (q := 2) F dX5_tonsOf_4 rfl rfl ?_
  refine J_bipush (pc' := 7) (v := 6) F dX5_tonsOf_5 (by decide) rfl ?_
  refine J_icmp_ge (tgt := 24) (pc' := 10) F dX5_tonsOf_7 (by decide) rfl (fun c9 => absurd c9 (by decide)) (fun _ => ?_)
  refine J_iload_n (pc' := 11) (q := 1) F dX5_tonsOf_10 rfl rfl ?_
  refine J_iload_n (pc' := 12) (q := 0) F dX5_tonsOf_11 rfl rfl ?_
  refine J_iload_n (pc' := 13) (q := 2) F dX5_tonsOf_12 rfl rfl ?_
  refine J_goRie (wc := []) (av := [.int x0, .int 5]) (rest := [.int (((((0 + (zX5_tonsAt x0 0)) + (zX5_tonsAt x0 1)) + (zX5_tonsAt x0 2)) + (zX5_tonsAt x0 3)) + (zX5_tonsAt x0 4))]) (v := zX5_tonsAt x0 5) (pc' := 16) F E (fun _ _ => jP_nil _ _) (fun H locs hI hp => jrun_S F E (c_X5_tonsAt l D cI cZ z x0 5) kw_356 kw_357 rfl kw_358 kw_1 oX5_tonsAt ⟨⟨rfl, rfl⟩, ⟨Nat.le_of_ble_eq_true rfl, Nat.le_of_ble_eq_true rfl⟩, Nat.zero_le _, Nat.zero_le _⟩ rfl (Nat.le_of_ble_eq_true rfl) dX5_tonsOf_13 hp) rfl ?_
  refine J_iadd (pc' := 17) F dX5_tonsOf_16 rfl ?_
  refine J_istore_n (pc' := 18) [1, 0, 2] [(0, .int x0), (1, .int ((((((0 + (zX5_tonsAt x0 0)) + (zX5_tonsAt x0 1)) + (zX5_tonsAt x0 2)) + (zX5_tonsAt x0 3)) + (zX5_tonsAt x0 4)) + (zX5_tonsAt x0 5))), (2, .int 5)] F dX5_tonsOf_17 rfl (jL_of E (show 1 < 3 by decide)) rfl rfl ?_
  refine J_iinc (v := 6) (q := 2) (pc' := 21) [1, 2, 0] [(0, .int x0), (1, .int ((((((0 + (zX5_tonsAt x0 0)) + (zX5_tonsAt x0 1)) + (zX5_tonsAt x0 2)) + (zX5_tonsAt x0 3)) + (zX5_tonsAt x0 4)) + (zX5_tonsAt x0 5))), (2, .int 6)] F dX5_tonsOf_18 rfl (by decide) (jL_of E (show 2 < 3 by decide)) rfl rfl ?_
  refine J_goto (tgt := 4) F dX5_tonsOf_21 (by decide) ?_
  refine J_iload_n (pc' := 5) (q := 2) F dX5_tonsOf_4 rfl rfl ?_
  refine J_bipush (pc' := 7) (v := 6) F dX5_tonsOf_5 (by decide) rfl ?_
  refine J_icmp_ge (tgt := 24) (pc' := 10) F dX5_tonsOf_7 (by decide) rfl (fun _ => ?_) (fun c9 => absurd (by decide) c9)
  refine J_iload_n (pc' := 25) (q := 1) F dX5_tonsOf_24 rfl rfl ?_
  exact J_iretR F hR dX5_tonsOf_25 rfl rfl
def zX5_bentBy  (x0 : Int32) : Int32 := if (0 : Int32) ≤ (((((x0 &&& 3) + (((x0 : Int32) >>> ((2 : Int32) &&& 31)) &&& 3)) + (((x0 : Int32) >>> ((8 : Int32) &&& 31)) &&& 3)) + (((x0 : Int32) >>> ((10 : Int32) &&& 31)) &&& 3)) - (2 * ((((x0 : Int32) >>> ((4 : Int32) &&& 31)) &&& 3) + (((x0 : Int32) >>> ((6 : Int32) &&& 31)) &&& 3)))) then ((((x0 &&& 3) + (((x0 : Int32) >>> ((2 : Int32) &&& 31)) &&& 3)) + (((x0 : Int32) >>> ((8 : Int32) &&& 31)) &&& 3)) + (((x0 : Int32) >>> ((10 : Int32) &&& 31)) &&& 3)) - (2 * ((((x0 : Int32) >>> ((4 : Int32) &&& 31)) &&& 3) + (((x0 : Int32) >>> ((6 : Int32) &&& 31)) &&& 3))) else -(((((x0 &&& 3) + (((x0 : Int32) >>> ((2 : Int32) &&& 31)) &&& 3)) + (((x0 : Int32) >>> ((8 : Int32) &&& 31)) &&& 3)) + (((x0 : Int32) >>> ((10 : Int32) &&& 31)) &&& 3)) - (2 * ((((x0 : Int32) >>> ((4 : Int32) &&& 31)) &&& 3) + (((x0 : Int32) >>> ((6 : Int32) &&& 31)) &&& 3))))
abbrev rm_X5_bentBy : Room := { frames := 0, cells := 0, slots := 0, locals := 0 }
set_option maxHeartbeats 4000000 in
set_option maxRecDepth 100000 in
theorem c_X5_bentBy (l : Launch) (D : va_G) (cI cZ : ClassId) (z : Nat → Nat) (x0 : Int32)  : cRi l yX5_bentBy ww_X5_bentBy rm_X5_bentBy D cI cZ z [] [.int x0] (fun r => r = zX5_bentBy x0) := by
  refine cRi.of (cc := cX5_bentBy) (maxL := 4) (rt := .int) (by decide) rfl (Nat.le_of_ble_eq_true rfl) (fun X F E hR => ?_)
  refine J_lv [0] (lv' := [(0, .int x0)]) rfl ?_
  refine J_iload_n (pc' := 1) (q := 0) F dX5_bentBy_0 rfl rfl ?_
  refine J_iconst (pc' := 2) (v := 3) F dX5_bentBy_1 (by decide) rfl ?_
  refine J_iand (pc' := 3) F dX5_bentBy_2 rfl ?_
  refine J_iload_n (pc' := 4) (q := 0) F dX5_bentBy_3 rfl rfl ?_
  refine J_iconst (pc' := 5) (v := 2) F dX5_bentBy_4 (by decide) rfl ?_
  refine J_ishr (pc' := 6) F dX5_bentBy_5 rfl ?_
  refine J_iconst (pc' := 7) (v := 3) F dX5_bentBy_6 (by decide) rfl ?_
  refine J_iand (pc' := 8) F dX5_bentBy_7 rfl ?_
  refine J_iadd (pc' := 9) F dX5_bentBy_8 rfl ?_
  refine J_iload_n (pc' := 10) (q := 0) F dX5_bentBy_9 rfl rfl ?_
  refine J_bipush (pc' := 12) (v := 8) F dX5_bentBy_10 (by decide) rfl ?_
  refine J_ishr (pc' := 13) F dX5_bentBy_12 rfl ?_
  refine J_iconst (pc' := 14) (v := 3) F dX5_bentBy_13 (by decide) rfl ?_
  refine J_iand (pc' := 15) F dX5_bentBy_14 rfl ?_
  refine J_iadd (pc' := 16) F dX5_bentBy_15 rfl ?_
  refine J_iload_n (pc' := 17) (q := 0) F dX5_bentBy_16 rfl rfl ?_
  refine J_bipush (pc' := 19) (v := 10) F dX5_bentBy_17 (by decide) rfl ?_
  refine J_ishr (pc' := 20) F dX5_bentBy_19 rfl ?_
  refine J_iconst (pc' := 21) (v := 3) F dX5_bentBy_20 (by decide) rfl ?_
  refine J_iand (pc' := 22) F dX5_bentBy_21 rfl ?_
  refine J_iadd (pc' := 23) F dX5_bentBy_22 rfl ?_
  refine J_istore_n (pc' := 24) [1, 0] [(0, .int x0), (1, .int ((((x0 &&& 3) + (((x0 : Int32) >>> ((2 : Int32) &&& 31)) &&& 3)) + (((x0 : Int32) >>> ((8 : Int32) &&& 31)) &&& 3)) + (((x0 : Int32) >>> ((10 : Int32) &&& 31)) &&& 3)))] F dX5_bentBy_23 rfl (jL_of E (show 1 < 4 by decide)) rfl rfl ?_
  refine J_iload_n (pc' := 25) (q := 0) F dX5_bentBy_24 rfl rfl ?_
  refine J_iconst (pc' := 26) (v := 4) F dX5_bentBy_25 (by decide) rfl ?_
  refine J_ishr (pc' := 27) F dX5_bentBy_26 rfl ?_
  refine J_iconst (pc' := 28) (v := 3) F dX5_bentBy_27 (by decide) rfl ?_
  refine J_iand (pc' := 29) F dX5_bentBy_28 rfl ?_
  refine J_iload_n (pc' := 30) (q := 0) F dX5_bentBy_29 rfl rfl ?_
  refine J_bipush (pc' := 32) (v := 6) F dX5_bentBy_30 (by decide) rfl ?_
  refine J_ishr (pc' := 33) F dX5_bentBy_32 rfl ?_
  refine J_iconst (pc' := 34) (v := 3) F dX5_bentBy_33 (by decide) rfl ?_
  refine J_iand (pc' := 35) F dX5_bentBy_34 rfl ?_
  refine J_iadd (pc' := 36) F dX5_bentBy_35 rfl ?_
  refine J_istore_n (pc' := 37) [1, 2, 0] [(0, .int x0), (1, .int ((((x0 &&& 3) + (((x0 : Int32) >>> ((2 : Int32) &&& 31)) &&& 3)) + (((x0 : Int32) >>> ((8 : Int32) &&& 31)) &&& 3)) + (((x0 : Int32) >>> ((10 : Int32) &&& 31)) &&& 3))), (2, .int ((((x0 : Int32) >>> ((4 : Int32) &&& 31)) &&& 3) + (((x0 : Int32) >>> ((6 : Int32) &&& 31)) &&& 3)))] F dX5_bentBy_36 rfl (jL_of E (show 2 < 4 by decide)) rfl rfl ?_
  refine J_iload_n (pc' := 38) (q := 1) F dX5_bentBy_37 rfl rfl ?_
  refine J_iconst (pc' := 39) (v := 2) F dX5_bentBy_38 (by decide) rfl ?_
  refine J_iload_n (pc' := 40) (q := 2) F dX5_bentBy_39 rfl rfl ?_
  refine J_imul (pc' := 41) F dX5_bentBy_40 rfl ?_
  refine J_isub (pc' := 42) F dX5_bentBy_41 rfl ?_
  refine J_istore_n (pc' := 43) [1, 2, 3, 0] [(0, .int x0), (1, .int ((((x0 &&& 3) + (((x0 : Int32) >>> ((2 : Int32) &&& 31)) &&& 3)) + (((x0 : Int32) >>> ((8 : Int32) &&& 31)) &&& 3)) + (((x0 : Int32) >>> ((10 : Int32) &&& 31)) &&& 3))), (2, .int ((((x0 : Int32) >>> ((4 : Int32) &&& 31)) &&& 3) + (((x0 : Int32) >>> ((6 : Int32) &&& 31)) &&& 3))), (3, .int (((((x0 &&& 3) + (((x0 : Int32) >>> ((2 : Int32) &&& 31)) &&& 3)) + (((x0 : Int32) >>> ((8 : Int32) &&& 31)) &&& 3)) + (((x0 : Int32) >>> ((10 : Int32) &&& 31)) &&& 3)) - (2 * ((((x0 : Int32) >>> ((4 : Int32) &&& 31)) &&& 3) + (((x0 : Int32) >>> ((6 : Int32) &&& 31)) &&& 3)))))] F dX5_bentBy_42 rfl (jL_of E (show 3 < 4 by decide)) rfl rfl ?_
  refine J_iload_n (pc' := 44) (q := 3) F dX5_bentBy_43 rfl rfl ?_
  refine J_if_ge (tgt := 52) (pc' := 47) F dX5_bentBy_44 (by decide) rfl (fun c44 => ?_) (fun c44 => ?_)
  · refine J_iload_n (pc' := 53) (q := 3) F dX5_bentBy_52 rfl rfl ?_
    exact J_iretR F hR dX5_bentBy_53 rfl (by show _ = zX5_bentBy x0; unfold zX5_bentBy; rw [if_pos c44])
  · refine J_iload_n (pc' := 48) (q := 3) F dX5_bentBy_47 rfl rfl ?_
    refine J_ineg (pc' := 49) F dX5_bentBy_48 rfl ?_
    refine J_goto (tgt := 53) F dX5_bentBy_49 (by decide) ?_
    exact J_iretR F hR dX5_bentBy_53 rfl (by show _ = zX5_bentBy x0; unfold zX5_bentBy; rw [if_neg c44])
def zX5_listingBy  (x0 : Int32) : Int32 := if (((((x0 : Int32) >>> ((2 : Int32) &&& 31)) &&& 3) + (((x0 : Int32) >>> ((6 : Int32) &&& 31)) &&& 3)) + (((x0 : Int32) >>> ((10 : Int32) &&& 31)) &&& 3)) ≤ (((x0 &&& 3) + (((x0 : Int32) >>> ((4 : Int32) &&& 31)) &&& 3)) + (((x0 : Int32) >>> ((8 : Int32) &&& 31)) &&& 3)) then (((x0 &&& 3) + (((x0 : Int32) >>> ((4 : Int32) &&& 31)) &&& 3)) + (((x0 : Int32) >>> ((8 : Int32) &&& 31)) &&& 3)) - (((((x0 : Int32) >>> ((2 : Int32) &&& 31)) &&& 3) + (((x0 : Int32) >>> ((6 : Int32) &&& 31)) &&& 3)) + (((x0 : Int32) >>> ((10 : Int32) &&& 31)) &&& 3)) else (((((x0 : Int32) >>> ((2 : Int32) &&& 31)) &&& 3) + (((x0 : Int32) >>> ((6 : Int32) &&& 31)) &&& 3)) + (((x0 : Int32) >>> ((10 : Int32) &&& 31)) &&& 3)) - (((x0 &&& 3) + (((x0 : Int32) >>> ((4 : Int32) &&& 31)) &&& 3)) + (((x0 : Int32) >>> ((8 : Int32) &&& 31)) &&& 3))
abbrev rm_X5_listingBy : Room := { frames := 0, cells := 0, slots := 0, locals := 0 }
set_option maxHeartbeats 4000000 in
set_option maxRecDepth 100000 in
theorem c_X5_listingBy (l : Launch) (D : va_G) (cI cZ : ClassId) (z : Nat → Nat) (x0 : Int32)  : cRi l yX5_listingBy ww_X5_listingBy rm_X5_listingBy D cI cZ z [] [.int x0] (fun r => r = zX5_listingBy x0) := by
  refine cRi.of (cc := cX5_listingBy) (maxL := 3) (rt := .int) (by decide) rfl (Nat.le_of_ble_eq_true rfl) (fun X F E hR => ?_)
  refine J_lv [0] (lv' := [(0, .int x0)]) rfl ?_
  refine J_iload_n (pc' := 1) (q := 0) F dX5_listingBy_0 rfl rfl ?_
  refine J_iconst (pc' := 2) (v := 3) F dX5_listingBy_1 (by decide) rfl ?_
  refine J_iand (pc' := 3) F dX5_listingBy_2 rfl ?_
  refine J_iload_n (pc' := 4) (q := 0) F dX5_listingBy_3 rfl rfl ?_
  refine J_iconst (pc' := 5) (v := 4) F dX5_listingBy_4 (by decide) rfl ?_
  refine J_ishr (pc' := 6) F dX5_listingBy_5 rfl ?_
  refine J_iconst (pc' := 7) (v := 3) F dX5_listingBy_6 (by decide) rfl ?_
  refine J_iand (pc' := 8) F dX5_listingBy_7 rfl ?_
  refine J_iadd (pc' := 9) F dX5_listingBy_8 rfl ?_
  refine J_iload_n (pc' := 10) (q := 0) F dX5_listingBy_9 rfl rfl ?_
  refine J_bipush (pc' := 12) (v := 8) F dX5_listingBy_10 (by decide) rfl ?_
  refine J_ishr (pc' := 13) F dX5_listingBy_12 rfl ?_
  refine J_iconst (pc' := 14) (v := 3) F dX5_listingBy_13 (by decide) rfl ?_
  refine J_iand (pc' := 15) F dX5_listingBy_14 rfl ?_
  refine J_iadd (pc' := 16) F dX5_listingBy_15 rfl ?_
  refine J_istore_n (pc' := 17) [1, 0] [(0, .int x0), (1, .int (((x0 &&& 3) + (((x0 : Int32) >>> ((4 : Int32) &&& 31)) &&& 3)) + (((x0 : Int32) >>> ((8 : Int32) &&& 31)) &&& 3)))] F dX5_listingBy_16 rfl (jL_of E (show 1 < 3 by decide)) rfl rfl ?_
  refine J_iload_n (pc' := 18) (q := 0) F dX5_listingBy_17 rfl rfl ?_
  refine J_iconst (pc' := 19) (v := 2) F dX5_listingBy_18 (by decide) rfl ?_
  refine J_ishr (pc' := 20) F dX5_listingBy_19 rfl ?_
  refine J_iconst (pc' := 21) (v := 3) F dX5_listingBy_20 (by decide) rfl ?_
  refine J_iand (pc' := 22) F dX5_listingBy_21 rfl ?_
  refine J_iload_n (pc' := 23) (q := 0) F dX5_listingBy_22 rfl rfl ?_
  refine J_bipush (pc' := 25) (v := 6) F dX5_listingBy_23 (by decide) rfl ?_
  refine J_ishr (pc' := 26) F dX5_listingBy_25 rfl ?_
  refine J_iconst (pc' := 27) (v := 3) F dX5_listingBy_26 (by decide) rfl ?_
  refine J_iand (pc' := 28) F dX5_listingBy_27 rfl ?_
  refine J_iadd (pc' := 29) F dX5_listingBy_28 rfl ?_
  refine J_iload_n (pc' := 30) (q := 0) F dX5_listingBy_29 rfl rfl ?_
  refine J_bipush (pc' := 32) (v := 10) F dX5_listingBy_30 (by decide) rfl ?_
  refine J_ishr (pc' := 33) F dX5_listingBy_32 rfl ?_
  refine J_iconst (pc' := 34) (v := 3) F dX5_listingBy_33 (by decide) rfl ?_
  refine J_iand (pc' := 35) F dX5_listingBy_34 rfl ?_
  refine J_iadd (pc' := 36) F dX5_listingBy_35 rfl ?_
  refine J_istore_n (pc' := 37) [1, 2, 0] [(0, .int x0), (1, .int (((x0 &&& 3) + (((x0 : Int32) >>> ((4 : Int32) &&& 31)) &&& 3)) + (((x0 : Int32) >>> ((8 : Int32) &&& 31)) &&& 3))), (2, .int (((((x0 : Int32) >>> ((2 : Int32) &&& 31)) &&& 3) + (((x0 : Int32) >>> ((6 : Int32) &&& 31)) &&& 3)) + (((x0 : Int32) >>> ((10 : Int32) &&& 31)) &&& 3)))] F dX5_listingBy_36 rfl (jL_of E (show 2 < 3 by decide)) rfl rfl ?_
  refine J_iload_n (pc' := 38) (q := 1) F dX5_listingBy_37 rfl rfl ?_
  refine J_iload_n (pc' := 39) (q := 2) F dX5_listingBy_38 rfl rfl ?_
  refine J_icmp_ge (tgt := 48) (pc' := 42) F dX5_listingBy_39 (by decide) rfl (fun c39 => ?_) (fun c39 => ?_)
  · refine J_iload_n (pc' := 49) (q := 1) F dX5_listingBy_48 rfl rfl ?_
    refine J_iload_n (pc' := 50) (q := 2) F dX5_listingBy_49 rfl rfl ?_
    refine J_isub (pc' := 51) F dX5_listingBy_50 rfl ?_
    exact J_iretR F hR dX5_listingBy_51 rfl (by show _ = zX5_listingBy x0; unfold zX5_listingBy; rw [if_pos c39])
  · refine J_iload_n (pc' := 43) (q := 2) F dX5_listingBy_42 rfl rfl ?_
    refine J_iload_n (pc' := 44) (q := 1) F dX5_listingBy_43 rfl rfl ?_
    refine J_isub (pc' := 45) F dX5_listingBy_44 rfl ?_
    refine J_goto (tgt := 51) F dX5_listingBy_45 (by decide) ?_
    exact J_iretR F hR dX5_listingBy_51 rfl (by show _ = zX5_listingBy x0; unfold zX5_listingBy; rw [if_neg c39])
def zX6_in  (x0 : Int64) (x2 : Int64) (x4 : Int64) : Int32 := if (lg_cmp x0 x2) < 0 then 0 else (if (0 : Int32) < (lg_cmp x0 x4) then 0 else 1)
abbrev rm_X6_in : Room := { frames := 0, cells := 0, slots := 0, locals := 0 }
set_option maxHeartbeats 4000000 in
set_option maxRecDepth 100000 in
theorem c_X6_in (l : Launch) (D : va_G) (cI cZ : ClassId) (z : Nat → Nat) (x0 : Int64) (x2 : Int64) (x4 : Int64)  : cRi l yX6_in ww_X6_in rm_X6_in D cI cZ z [] [.long x0, .long x2, .long x4] (fun r => r = zX6_in x0 x2 x4) := by
  refine cRi.of (cc := cX6_in) (maxL := 6) (rt := .boolean) (by decide) rfl (Nat.le_of_ble_eq_true rfl) (fun X F E hR => ?_)
  refine J_lv [0, 1, 2] (lv' := [(0, .long x0), (2, .long x2), (4, .long x4)]) rfl ?_
  refine J_lload_n (pc' := 1) (q := 0) F dX6_in_0 rfl rfl ?_
  refine J_lload_n (pc' := 2) (q := 1) F dX6_in_1 rfl rfl ?_
  refine J_lcmp (pc' := 3) F dX6_in_2 rfl ?_
  refine J_if_lt (tgt := 17) (pc' := 6) F dX6_in_3 (by decide) rfl (fun c3 => ?_) (fun c3 => ?_)
  · refine J_iconst (pc' := 18) (v := 0) F dX6_in_17 (by decide) rfl ?_
    exact J_iretR F hR dX6_in_18 rfl (by show _ = zX6_in x0 x2 x4; unfold zX6_in; rw [if_pos c3])
  · refine J_lload_n (pc' := 7) (q := 0) F dX6_in_6 rfl rfl ?_
    refine J_lload (pc' := 9) (q := 2) F dX6_in_7 rfl rfl ?_
    refine J_lcmp (pc' := 10) F dX6_in_9 rfl ?_
    refine J_if_gt (tgt := 17) (pc' := 13) F dX6_in_10 (by decide) rfl (fun c10 => ?_) (fun c10 => ?_)
    · refine J_iconst (pc' := 18) (v := 0) F dX6_in_17 (by decide) rfl ?_
      exact J_iretR F hR dX6_in_18 rfl (by show _ = zX6_in x0 x2 x4; unfold zX6_in; rw [if_neg c3, if_pos c10])
    · refine J_iconst (pc' := 14) (v := 1) F dX6_in_13 (by decide) rfl ?_
      refine J_goto (tgt := 18) F dX6_in_14 (by decide) ?_
      exact J_iretR F hR dX6_in_18 rfl (by show _ = zX6_in x0 x2 x4; unfold zX6_in; rw [if_neg c3, if_neg c10])
def zX6_kindBy  (x0 : Int32) : Int32 := if x0 = 98 then 0 else (if x0 = 110 then 1 else (if x0 = 102 then 2 else (if x0 = 104 then 3 else (if x0 = 100 then 4 else (-1)))))
abbrev rm_X6_kindBy : Room := { frames := 0, cells := 0, slots := 0, locals := 0 }
set_option maxHeartbeats 4000000 in
set_option maxRecDepth 100000 in
theorem c_X6_kindBy (l : Launch) (D : va_G) (cI cZ : ClassId) (z : Nat → Nat) (x0 : Int32)  : cRi l yX6_kindBy ww_X6_kindBy rm_X6_kindBy D cI cZ z [] [.int x0] (fun r => r = zX6_kindBy x0) := by
  refine cRi.of (cc := cX6_kindBy) (maxL := 1) (rt := .int) (by decide) rfl (Nat.le_of_ble_eq_true rfl) (fun X F E hR => ?_)
  refine J_lv [0] (lv' := [(0, .int x0)]) rfl ?_
  refine J_iload_n (pc' := 1) (q := 0) F dX6_kindBy_0 rfl rfl ?_
  refine J_bipush (pc' := 3) (v := 98) F dX6_kindBy_1 (by decide) rfl ?_
  refine J_icmp_ne (tgt := 10) (pc' := 6) F dX6_kindBy_3 (by decide) rfl (fun c3 => ?_) (fun c3 => ?_)
  · refine J_iload_n (pc' := 11) (q := 0) F dX6_kindBy_10 rfl rfl ?_
    refine J_bipush (pc' := 13) (v := 110) F dX6_kindBy_11 (by decide) rfl ?_
    refine J_icmp_ne (tgt := 20) (pc' := 16) F dX6_kindBy_13 (by decide) rfl (fun c13 => ?_) (fun c13 => ?_)
    · refine J_iload_n (pc' := 21) (q := 0) F dX6_kindBy_20 rfl rfl ?_
      refine J_bipush (pc' := 23) (v := 102) F dX6_kindBy_21 (by decide) rfl ?_
      refine J_icmp_ne (tgt := 30) (pc' := 26) F dX6_kindBy_23 (by decide) rfl (fun c23 => ?_) (fun c23 => ?_)
      · refine J_iload_n (pc' := 31) (q := 0) F dX6_kindBy_30 rfl rfl ?_
        refine J_bipush (pc' := 33) (v := 104) F dX6_kindBy_31 (by decide) rfl ?_
        refine J_icmp_ne (tgt := 40) (pc' := 36) F dX6_kindBy_33 (by decide) rfl (fun c33 => ?_) (fun c33 => ?_)
        · refine J_iload_n (pc' := 41) (q := 0) F dX6_kindBy_40 rfl rfl ?_
          refine J_bipush (pc' := 43) (v := 100) F dX6_kindBy_41 (by decide) rfl ?_
          refine J_icmp_ne (tgt := 50) (pc' := 46) F dX6_kindBy_43 (by decide) rfl (fun c43 => ?_) (fun c43 => ?_)
          · refine J_iconst (pc' := 51) (v := (-1)) F dX6_kindBy_50 (by decide) rfl ?_
            exact J_iretR F hR dX6_kindBy_51 rfl (by show _ = zX6_kindBy x0; unfold zX6_kindBy; rw [if_neg c3, if_neg c13, if_neg c23, if_neg c33, if_neg c43])
          · refine J_iconst (pc' := 47) (v := 4) F dX6_kindBy_46 (by decide) rfl ?_
            refine J_goto (tgt := 51) F dX6_kindBy_47 (by decide) ?_
            exact J_iretR F hR dX6_kindBy_51 rfl (by show _ = zX6_kindBy x0; unfold zX6_kindBy; rw [if_neg c3, if_neg c13, if_neg c23, if_neg c33, if_pos c43])
        · refine J_iconst (pc' := 37) (v := 3) F dX6_kindBy_36 (by decide) rfl ?_
          refine J_goto (tgt := 51) F dX6_kindBy_37 (by decide) ?_
          exact J_iretR F hR dX6_kindBy_51 rfl (by show _ = zX6_kindBy x0; unfold zX6_kindBy; rw [if_neg c3, if_neg c13, if_neg c23, if_pos c33])
      · refine J_iconst (pc' := 27) (v := 2) F dX6_kindBy_26 (by decide) rfl ?_
        refine J_goto (tgt := 51) F dX6_kindBy_27 (by decide) ?_
        exact J_iretR F hR dX6_kindBy_51 rfl (by show _ = zX6_kindBy x0; unfold zX6_kindBy; rw [if_neg c3, if_neg c13, if_pos c23])
    · refine J_iconst (pc' := 17) (v := 1) F dX6_kindBy_16 (by decide) rfl ?_
      refine J_goto (tgt := 51) F dX6_kindBy_17 (by decide) ?_
      exact J_iretR F hR dX6_kindBy_51 rfl (by show _ = zX6_kindBy x0; unfold zX6_kindBy; rw [if_neg c3, if_pos c13])
  · refine J_iconst (pc' := 7) (v := 0) F dX6_kindBy_6 (by decide) rfl ?_
    refine J_goto (tgt := 51) F dX6_kindBy_7 (by decide) ?_
    exact J_iretR F hR dX6_kindBy_51 rfl (by show _ = zX6_kindBy x0; unfold zX6_kindBy; rw [if_pos c3])
theorem zX6_in01 (a b c : Int64) : zX6_in a b c = 0 ∨ zX6_in a b c = 1 := by
  unfold zX6_in
  split
  · exact Or.inl rfl
  · split
    · exact Or.inl rfl
    · exact Or.inr rfl
def zX6_isGood  (x0 : Int32) (x1 : Int32) : Int32 := if x0 ≤ 10 then (if (x0 - x0 / 4 * 4) = 0 then (if (zX6_kindBy x1) = (-1) then 0 else 1) else (if (x0 - x0 / 4 * 4) = 3 then (if x1 = 44 then 1 else 0) else zX6_in (((x1 - 48) : Int32).toInt64) 0 3)) else (if x0 = 11 then (if x1 = 59 then 1 else 0) else (if (14 : Int32) ≤ x0 then 0 else (if (zX6_in (((x1 - 48) : Int32).toInt64) 0 9) = 0 then 0 else 1)))
abbrev rm_X6_isGood : Room := { frames := 1, cells := 0, slots := 0, locals := 25 }
set_option maxHeartbeats 4000000 in
set_option maxRecDepth 100000 in
theorem c_X6_isGood (l : Launch) (D : va_G) (cI cZ : ClassId) (z : Nat → Nat) (x0 : Int32) (x1 : Int32)  : cRi l yX6_isGood ww_X6_isGood rm_X6_isGood D cI cZ z [] [.int x0, .int x1] (fun r => r = zX6_isGood x0 x1) := by
  refine cRi.of (cc := cX6_isGood) (maxL := 3) (rt := .boolean) (by decide) rfl (Nat.le_of_ble_eq_true rfl) (fun X F E hR => ?_)
  refine J_lv [0, 1] (lv' := [(0, .int x0), (1, .int x1)]) rfl ?_
  refine J_iload_n (pc' := 1) (q := 0) F dX6_isGood_0 rfl rfl ?_
  refine J_bipush (pc' := 3) (v := 10) F dX6_isGood_1 (by decide) rfl ?_
  refine J_icmp_le (tgt := 53) (pc' := 6) F dX6_isGood_3 (by decide) rfl (fun c3 => ?_) (fun c3 => ?_)
  · refine J_iload_n (pc' := 54) (q := 0) F dX6_isGood_53 rfl rfl ?_
    refine J_iconst (pc' := 55) (v := 4) F dX6_isGood_54 (by decide) rfl ?_
    refine J_irem (pc' := 56) F dX6_isGood_55 (by decide) rfl ?_
    refine J_istore_n (pc' := 57) [1, 2, 0] [(0, .int x0), (1, .int x1), (2, .int (x0 - x0 / 4 * 4))] F dX6_isGood_56 rfl (jL_of E (show 2 < 3 by decide)) rfl rfl ?_
    refine J_iload_n (pc' := 58) (q := 2) F dX6_isGood_57 rfl rfl ?_
    refine J_if_ne (tgt := 77) (pc' := 61) F dX6_isGood_58 (by decide) rfl (fun c58 => ?_) (fun c58 => ?_)
    · refine J_iload_n (pc' := 78) (q := 2) F dX6_isGood_77 rfl rfl ?_
      refine J_iconst (pc' := 79) (v := 3) F dX6_isGood_78 (by decide) rfl ?_
      refine J_icmp_ne (tgt := 96) (pc' := 82) F dX6_isGood_79 (by decide) rfl (fun c79 => ?_) (fun c79 => ?_)
      · refine J_iload_n (pc' := 97) (q := 1) F dX6_isGood_96 rfl rfl ?_
        refine J_bipush (pc' := 99) (v := 48) F dX6_isGood_97 (by decide) rfl ?_
        refine J_isub (pc' := 100) F dX6_isGood_99 rfl ?_
        refine J_i2l (pc' := 101) (v := ((x1 - 48) : Int32).toInt64) F dX6_isGood_100 rfl rfl ?_
        refine J_lconst (pc' := 102) (v := 0) F dX6_isGood_101 (by decide) rfl ?_
        refine J_ldc2 (pc' := 105) (v := 3) F dX6_isGood_102 kw_704 rfl ?_
        refine J_goRie (wc := []) (av := [.long (((x1 - 48) : Int32).toInt64), .long 0, .long 3]) (rest := []) (v := zX6_in (((x1 - 48) : Int32).toInt64) 0 3) (pc' := 108) F E (fun _ _ => jP_nil _ _) (fun H locs hI hp => jrun_S F E (c_X6_in l D cI cZ z (((x1 - 48) : Int32).toInt64) 0 3) kw_682 kw_683 rfl kw_684 kw_7 oX6_in ⟨⟨rfl, rfl⟩, ⟨Nat.le_of_ble_eq_true rfl, Nat.le_of_ble_eq_true rfl⟩, Nat.zero_le _, Nat.zero_le _⟩ rfl (Nat.le_of_ble_eq_true rfl) dX6_isGood_105 hp) rfl ?_
        exact J_iretR F hR dX6_isGood_108 (jzb (zX6_in01 _ _ _)) (by show _ = zX6_isGood x0 x1; unfold zX6_isGood; rw [if_pos c3, if_neg c58, if_neg c79])
      · refine J_iload_n (pc' := 83) (q := 1) F dX6_isGood_82 rfl rfl ?_
        refine J_bipush (pc' := 85) (v := 44) F dX6_isGood_83 (by decide) rfl ?_
        refine J_icmp_ne (tgt := 92) (pc' := 88) F dX6_isGood_85 (by decide) rfl (fun c85 => ?_) (fun c85 => ?_)
        · refine J_iconst (pc' := 93) (v := 0) F dX6_isGood_92 (by decide) rfl ?_
          refine J_goto (tgt := 108) F dX6_isGood_93 (by decide) ?_
          exact J_iretR F hR dX6_isGood_108 rfl (by show _ = zX6_isGood x0 x1; unfold zX6_isGood; rw [if_pos c3, if_neg c58, if_pos c79, if_neg c85])
        · refine J_iconst (pc' := 89) (v := 1) F dX6_isGood_88 (by decide) rfl ?_
          refine J_goto (tgt := 108) F dX6_isGood_89 (by decide) ?_
          exact J_iretR F hR dX6_isGood_108 rfl (by show _ = zX6_isGood x0 x1; unfold zX6_isGood; rw [if_pos c3, if_neg c58, if_pos c79, if_pos c85])
    · refine J_iload_n (pc' := 62) (q := 1) F dX6_isGood_61 rfl rfl ?_
      refine J_goRie (wc := []) (av := [.int x1]) (rest := []) (v := zX6_kindBy x1) (pc' := 65) F E (fun _ _ => jP_nil _ _) (fun H locs hI hp => jrun_S F E (c_X6_kindBy l D cI cZ z x1) kw_701 kw_702 rfl kw_703 kw_7 oX6_kindBy ⟨⟨rfl, rfl⟩, ⟨Nat.le_of_ble_eq_true rfl, Nat.le_of_ble_eq_true rfl⟩, Nat.zero_le _, Nat.zero_le _⟩ rfl (Nat.le_of_ble_eq_true rfl) dX6_isGood_62 hp) rfl ?_
      refine J_iconst (pc' := 66) (v := (-1)) F dX6_isGood_65 (by decide) rfl ?_
      refine J_icmp_eq (tgt := 73) (pc' := 69) F dX6_isGood_66 (by decide) rfl (fun c66 => ?_) (fun c66 => ?_)
      · refine J_iconst (pc' := 74) (v := 0) F dX6_isGood_73 (by decide) rfl ?_
        refine J_goto (tgt := 108) F dX6_isGood_74 (by decide) ?_
        exact J_iretR F hR dX6_isGood_108 rfl (by show _ = zX6_isGood x0 x1; unfold zX6_isGood; rw [if_pos c3, if_pos c58, if_pos c66])
      · refine J_iconst (pc' := 70) (v := 1) F dX6_isGood_69 (by decide) rfl ?_
        refine J_goto (tgt := 108) F dX6_isGood_70 (by decide) ?_
        exact J_iretR F hR dX6_isGood_108 rfl (by show _ = zX6_isGood x0 x1; unfold zX6_isGood; rw [if_pos c3, if_pos c58, if_neg c66])
  · refine J_iload_n (pc' := 7) (q := 0) F dX6_isGood_6 rfl rfl ?_
    refine J_bipush (pc' := 9) (v := 11) F dX6_isGood_7 (by decide) rfl ?_
    refine J_icmp_ne (tgt := 26) (pc' := 12) F dX6_isGood_9 (by decide) rfl (fun c9 => ?_) (fun c9 => ?_)
    · refine J_iload_n (pc' := 27) (q := 0) F dX6_isGood_26 rfl rfl ?_
      refine J_bipush (pc' := 29) (v := 14) F dX6_isGood_27 (by decide) rfl ?_
      refine J_icmp_ge (tgt := 51) (pc' := 32) F dX6_isGood_29 (by decide) rfl (fun c29 => ?_) (fun c29 => ?_)
      · refine J_iconst (pc' := 52) (v := 0) F dX6_isGood_51 (by decide) rfl ?_
        exact J_iretR F hR dX6_isGood_52 rfl (by show _ = zX6_isGood x0 x1; unfold zX6_isGood; rw [if_neg c3, if_neg c9, if_pos c29])
      · refine J_iload_n (pc' := 33) (q := 1) F dX6_isGood_32 rfl rfl ?_
        refine J_bipush (pc' := 35) (v := 48) F dX6_isGood_33 (by decide) rfl ?_
        refine J_isub (pc' := 36) F dX6_isGood_35 rfl ?_
        refine J_i2l (pc' := 37) (v := ((x1 - 48) : Int32).toInt64) F dX6_isGood_36 rfl rfl ?_
        refine J_lconst (pc' := 38) (v := 0) F dX6_isGood_37 (by decide) rfl ?_
        refine J_ldc2 (pc' := 41) (v := 9) F dX6_isGood_38 kw_700 rfl ?_
        refine J_goRie (wc := []) (av := [.long (((x1 - 48) : Int32).toInt64), .long 0, .long 9]) (rest := []) (v := zX6_in (((x1 - 48) : Int32).toInt64) 0 9) (pc' := 44) F E (fun _ _ => jP_nil _ _) (fun H locs hI hp => jrun_S F E (c_X6_in l D cI cZ z (((x1 - 48) : Int32).toInt64) 0 9) kw_682 kw_683 rfl kw_684 kw_7 oX6_in ⟨⟨rfl, rfl⟩, ⟨Nat.le_of_ble_eq_true rfl, Nat.le_of_ble_eq_true rfl⟩, Nat.zero_le _, Nat.zero_le _⟩ rfl (Nat.le_of_ble_eq_true rfl) dX6_isGood_41 hp) rfl ?_
        refine J_if_eq (tgt := 51) (pc' := 47) F dX6_isGood_44 (by decide) rfl (fun c44 => ?_) (fun c44 => ?_)
        · refine J_iconst (pc' := 52) (v := 0) F dX6_isGood_51 (by decide) rfl ?_
          exact J_iretR F hR dX6_isGood_52 rfl (by show _ = zX6_isGood x0 x1; unfold zX6_isGood; rw [if_neg c3, if_neg c9, if_neg c29, if_pos c44])
        · refine J_iconst (pc' := 48) (v := 1) F dX6_isGood_47 (by decide) rfl ?_
          refine J_goto (tgt := 52) F dX6_isGood_48 (by decide) ?_
          exact J_iretR F hR dX6_isGood_52 rfl (by show _ = zX6_isGood x0 x1; unfold zX6_isGood; rw [if_neg c3, if_neg c9, if_neg c29, if_neg c44])
    · refine J_iload_n (pc' := 13) (q := 1) F dX6_isGood_12 rfl rfl ?_
      refine J_bipush (pc' := 15) (v := 59) F dX6_isGood_13 (by decide) rfl ?_
      refine J_icmp_ne (tgt := 22) (pc' := 18) F dX6_isGood_15 (by decide) rfl (fun c15 => ?_) (fun c15 => ?_)
      · refine J_iconst (pc' := 23) (v := 0) F dX6_isGood_22 (by decide) rfl ?_
        refine J_goto (tgt := 52) F dX6_isGood_23 (by decide) ?_
        exact J_iretR F hR dX6_isGood_52 rfl (by show _ = zX6_isGood x0 x1; unfold zX6_isGood; rw [if_neg c3, if_pos c9, if_neg c15])
      · refine J_iconst (pc' := 19) (v := 1) F dX6_isGood_18 (by decide) rfl ?_
        refine J_goto (tgt := 52) F dX6_isGood_19 (by decide) ?_
        exact J_iretR F hR dX6_isGood_52 rfl (by show _ = zX6_isGood x0 x1; unfold zX6_isGood; rw [if_neg c3, if_pos c9, if_pos c15])
def zX6_at  (x0 : Int32) (x1 : Int32) : Int32 := ((x0 : Int32) >>> (((2 * x1) : Int32) &&& 31)) &&& 3
abbrev rm_X6_at : Room := { frames := 0, cells := 0, slots := 0, locals := 0 }
set_option maxHeartbeats 4000000 in
set_option maxRecDepth 100000 in
theorem c_X6_at (l : Launch) (D : va_G) (cI cZ : ClassId) (z : Nat → Nat) (x0 : Int32) (x1 : Int32)  : cRi l yX6_at ww_X6_at rm_X6_at D cI cZ z [] [.int x0, .int x1] (fun r => r = zX6_at x0 x1) := by
  refine cRi.of (cc := cX6_at) (maxL := 2) (rt := .int) (by decide) rfl (Nat.le_of_ble_eq_true rfl) (fun X F E hR => ?_)
  refine J_lv [0, 1] (lv' := [(0, .int x0), (1, .int x1)]) rfl ?_
  refine J_iload_n (pc' := 1) (q := 0) F dX6_at_0 rfl rfl ?_
  refine J_iconst (pc' := 2) (v := 2) F dX6_at_1 (by decide) rfl ?_
  refine J_iload_n (pc' := 3) (q := 1) F dX6_at_2 rfl rfl ?_
  refine J_imul (pc' := 4) F dX6_at_3 rfl ?_
  refine J_ishr (pc' := 5) F dX6_at_4 rfl ?_
  refine J_iconst (pc' := 6) (v := 3) F dX6_at_5 (by decide) rfl ?_
  refine J_iand (pc' := 7) F dX6_at_6 rfl ?_
  exact J_iretR F hR dX6_at_7 rfl rfl
def zX6_tonsOf  (x0 : Int32) : Int32 := (((((0 + (zX6_at x0 0)) + (zX6_at x0 1)) + (zX6_at x0 2)) + (zX6_at x0 3)) + (zX6_at x0 4)) + (zX6_at x0 5)
abbrev rm_X6_tonsOf : Room := { frames := 1, cells := 0, slots := 0, locals := 21 }
set_option maxHeartbeats 4000000 in
set_option maxRecDepth 100000 in
theorem c_X6_tonsOf (l : Launch) (D : va_G) (cI cZ : ClassId) (z : Nat → Nat) (x0 : Int32)  : cRi l yX6_tonsOf ww_X6_tonsOf rm_X6_tonsOf D cI cZ z [] [.int x0] (fun r => r = zX6_tonsOf x0) := by
  refine cRi.of (cc := cX6_tonsOf) (maxL := 3) (rt := .int) (by decide) rfl (Nat.le_of_ble_eq_true rfl) (fun X F E hR => ?_)
  refine J_lv [0] (lv' := [(0, .int x0)]) rfl ?_
  refine J_iconst (pc' := 1) (v := 0) F dX6_tonsOf_0 (by decide) rfl ?_
  refine J_istore_n (pc' := 2) [1, 0] [(0, .int x0), (1, .int 0)] F dX6_tonsOf_1 rfl (jL_of E (show 1 < 3 by decide)) rfl rfl ?_
  refine J_iconst (pc' := 3) (v := 0) F dX6_tonsOf_2 (by decide) rfl ?_
  refine J_istore_n (pc' := 4) [1, 2, 0] [(0, .int x0), (1, .int 0), (2, .int 0)] F dX6_tonsOf_3 rfl (jL_of E (show 2 < 3 by decide)) rfl rfl ?_
  refine J_iload_n (pc' := 5) (q := 2) F dX6_tonsOf_4 rfl rfl ?_
  refine J_bipush (pc' := 7) (v := 6) F dX6_tonsOf_5 (by decide) rfl ?_
  refine J_icmp_ge (tgt := 24) (pc' := 10) F dX6_tonsOf_7 (by decide) rfl (fun c9 => absurd c9 (by decide)) (fun _ => ?_)
  refine J_iload_n (pc' := 11) (q := 1) F dX6_tonsOf_10 rfl rfl ?_
  refine J_iload_n (pc' := 12) (q := 0) F dX6_tonsOf_11 rfl rfl ?_
  refine J_iload_n (pc' := 13) (q := 2) F dX6_tonsOf_12 rfl rfl ?_
  refine J_goRie (wc := []) (av := [.int x0, .int 0]) (rest := [.int 0]) (v := zX6_at x0 0) (pc' := 16) F E (fun _ _ => jP_nil _ _) (fun H locs hI hp => jrun_S F E (c_X6_at l D cI cZ z x0 0) kw_712 kw_713 rfl kw_714 kw_7 oX6_at ⟨⟨rfl, rfl⟩, ⟨Nat.le_of_ble_eq_true rfl, Nat.le_of_ble_eq_true rfl⟩, Nat.zero_le _, Nat.zero_le _⟩ rfl (Nat.le_of_ble_eq_true rfl) dX6_tonsOf_13 hp) rfl ?_
  refine J_iadd (pc' := 17) F dX6_tonsOf_16 rfl ?_
  refine J_istore_n (pc' := 18) [1, 0, 2] [(0, .int x0), (1, .int (0 + (zX6_at x0 0))), (2, .int 0)] F dX6_tonsOf_17 rfl (jL_of E (show 1 < 3 by decide)) rfl rfl ?_
  refine J_iinc (v := 1) (q := 2) (pc' := 21) [1, 2, 0] [(0, .int x0), (1, .int (0 + (zX6_at x0 0))), (2, .int 1)] F dX6_tonsOf_18 rfl (by decide) (jL_of E (show 2 < 3 by decide)) rfl rfl ?_
  refine J_goto (tgt := 4) F dX6_tonsOf_21 (by decide) ?_
  refine J_iload_n (pc' := 5) (q := 2) F dX6_tonsOf_4 rfl rfl ?_
  refine J_bipush (pc' := 7) (v := 6) F dX6_tonsOf_5 (by decide) rfl ?_
  refine J_icmp_ge (tgt := 24) (pc' := 10) F dX6_tonsOf_7 (by decide) rfl (fun c9 => absurd c9 (by decide)) (fun _ => ?_)
  refine J_iload_n (pc' := 11) (q := 1) F dX6_tonsOf_10 rfl rfl ?_
  refine J_iload_n (pc' := 12) (q := 0) F dX6_tonsOf_11 rfl rfl ?_
  refine J_iload_n (pc' := 13) (q := 2) F dX6_tonsOf_12 rfl rfl ?_
  refine J_goRie (wc := []) (av := [.int x0, .int 1]) (rest := [.int (0 + (zX6_at x0 0))]) (v := zX6_at x0 1) (pc' := 16) F E (fun _ _ => jP_nil _ _) (fun H locs hI hp => jrun_S F E (c_X6_at l D cI cZ z x0 1) kw_712 kw_713 rfl kw_714 kw_7 oX6_at ⟨⟨rfl, rfl⟩, ⟨Nat.le_of_ble_eq_true rfl, Nat.le_of_ble_eq_true rfl⟩, Nat.zero_le _, Nat.zero_le _⟩ rfl (Nat.le_of_ble_eq_true rfl) dX6_tonsOf_13 hp) rfl ?_
  refine J_iadd (pc' := 17) F dX6_tonsOf_16 rfl ?_
  refine J_istore_n (pc' := 18) [1, 0, 2] [(0, .int x0), (1, .int ((0 + (zX6_at x0 0)) + (zX6_at x0 1))), (2, .int 1)] F dX6_tonsOf_17 rfl (jL_of E (show 1 < 3 by decide)) rfl rfl ?_
  refine J_iinc (v := 2) (q := 2) (pc' := 21) [1, 2, 0] [(0, .int x0), (1, .int ((0 + (zX6_at x0 0)) + (zX6_at x0 1))), (2, .int 2)] F dX6_tonsOf_18 rfl (by decide) (jL_of E (show 2 < 3 by decide)) rfl rfl ?_
  refine J_goto (tgt := 4) F dX6_tonsOf_21 (by decide) ?_
  refine J_iload_n (pc' := 5) (q := 2) F dX6_tonsOf_4 rfl rfl ?_
  refine J_bipush (pc' := 7) (v := 6) F dX6_tonsOf_5 (by decide) rfl ?_
  refine J_icmp_ge (tgt := 24) (pc' := 10) F dX6_tonsOf_7 (by decide) rfl (fun c9 => absurd c9 (by decide)) (fun _ => ?_)
  refine J_iload_n (pc' := 11) (q := 1) F dX6_tonsOf_10 rfl rfl ?_
  refine J_iload_n (pc' := 12) (q := 0) F dX6_tonsOf_11 rfl rfl ?_
  refine J_iload_n (pc' := 13) (q := 2) F dX6_tonsOf_12 rfl rfl ?_
  refine J_goRie (wc := []) (av := [.int x0, .int 2]) (rest := [.int ((0 + (zX6_at x0 0)) + (zX6_at x0 1))]) (v := zX6_at x0 2) (pc' := 16) F E (fun _ _ => jP_nil _ _) (fun H locs hI hp => jrun_S F E (c_X6_at l D cI cZ z x0 2) kw_712 kw_713 rfl kw_714 kw_7 oX6_at ⟨⟨rfl, rfl⟩, ⟨Nat.le_of_ble_eq_true rfl, Nat.le_of_ble_eq_true rfl⟩, Nat.zero_le _, Nat.zero_le _⟩ rfl (Nat.le_of_ble_eq_true rfl) dX6_tonsOf_13 hp) rfl ?_
  refine J_iadd (pc' := 17) F dX6_tonsOf_16 rfl ?_
  refine J_istore_n (pc' := 18) [1, 0, 2] [(0, .int x0), (1, .int (((0 + (zX6_at x0 0)) + (zX6_at x0 1)) + (zX6_at x0 2))), (2, .int 2)] F dX6_tonsOf_17 rfl (jL_of E (show 1 < 3 by decide)) rfl rfl ?_
  refine J_iinc (v := 3) (q := 2) (pc' := 21) [1, 2, 0] [(0, .int x0), (1, .int (((0 + (zX6_at x0 0)) + (zX6_at x0 1)) + (zX6_at x0 2))), (2, .int 3)] F dX6_tonsOf_18 rfl (by decide) (jL_of E (show 2 < 3 by decide)) rfl rfl ?_
  refine J_goto (tgt := 4) F dX6_tonsOf_21 (by decide) ?_
  refine J_iload_n (pc' := 5) (q := 2) F dX6_tonsOf_4 rfl rfl ?_
  refine J_bipush (pc' := 7) (v := 6) F dX6_tonsOf_5 (by decide) rfl ?_
  refine J_icmp_ge (tgt := 24) (pc' := 10) F dX6_tonsOf_7 (by decide) rfl (fun c9 => absurd c9 (by decide)) (fun _ => ?_)
  refine J_iload_n (pc' := 11) (q := 1) F dX6_tonsOf_10 rfl rfl ?_
  refine J_iload_n (pc' := 12) (q := 0) F dX6_tonsOf_11 rfl rfl ?_
  refine J_iload_n (pc' := 13) (q := 2) F dX6_tonsOf_12 rfl rfl ?_
  refine J_goRie (wc := []) (av := [.int x0, .int 3]) (rest := [.int (((0 + (zX6_at x0 0)) + (zX6_at x0 1)) + (zX6_at x0 2))]) (v := zX6_at x0 3) (pc' := 16) F E (fun _ _ => jP_nil _ _) (fun H locs hI hp => jrun_S F E (c_X6_at l D cI cZ z x0 3) kw_712 kw_713 rfl kw_714 kw_7 oX6_at ⟨⟨rfl, rfl⟩, ⟨Nat.le_of_ble_eq_true rfl, Nat.le_of_ble_eq_true rfl⟩, Nat.zero_le _, Nat.zero_le _⟩ rfl (Nat.le_of_ble_eq_true rfl) dX6_tonsOf_13 hp) rfl ?_
  refine J_iadd (pc' := 17) F dX6_tonsOf_16 rfl ?_
  refine J_istore_n (pc' := 18) [1, 0, 2] [(0, .int x0), (1, .int ((((0 + (zX6_at x0 0)) + (zX6_at x0 1)) + (zX6_at x0 2)) + (zX6_at x0 3))), (2, .int 3)] F dX6_tonsOf_17 rfl (jL_of E (show 1 < 3 by decide)) rfl rfl ?_
  refine J_iinc (v := 4) (q := 2) (pc' := 21) [1, 2, 0] [(0, .int x0), (1, .int ((((0 + (zX6_at x0 0)) + (zX6_at x0 1)) + (zX6_at x0 2)) + (zX6_at x0 3))), (2, .int 4)] F dX6_tonsOf_18 rfl (by decide) (jL_of E (show 2 < 3 by decide)) rfl rfl ?_
  refine J_goto (tgt := 4) F dX6_tonsOf_21 (by decide) ?_
  refine J_iload_n (pc' := 5) (q := 2) F dX6_tonsOf_4 rfl rfl ?_
  refine J_bipush (pc' := 7) (v := 6) F dX6_tonsOf_5 (by decide) rfl ?_
  refine J_icmp_ge (tgt := 24) (pc' := 10) F dX6_tonsOf_7 (by decide) rfl (fun c9 => absurd c9 (by decide)) (fun _ => ?_)
  refine J_iload_n (pc' := 11) (q := 1) F dX6_tonsOf_10 rfl rfl ?_
  refine J_iload_n (pc' := 12) (q := 0) F dX6_tonsOf_11 rfl rfl ?_
  refine J_iload_n (pc' := 13) (q := 2) F dX6_tonsOf_12 rfl rfl ?_
  refine J_goRie (wc := []) (av := [.int x0, .int 4]) (rest := [.int ((((0 + (zX6_at x0 0)) + (zX6_at x0 1)) + (zX6_at x0 2)) + (zX6_at x0 3))]) (v := zX6_at x0 4) (pc' := 16) F E (fun _ _ => jP_nil _ _) (fun H locs hI hp => jrun_S F E (c_X6_at l D cI cZ z x0 4) kw_712 kw_713 rfl kw_714 kw_7 oX6_at ⟨⟨rfl, rfl⟩, ⟨Nat.le_of_ble_eq_true rfl, Nat.le_of_ble_eq_true rfl⟩, Nat.zero_le _, Nat.zero_le _⟩ rfl (Nat.le_of_ble_eq_true rfl) dX6_tonsOf_13 hp) rfl ?_
  refine J_iadd (pc' := 17) F dX6_tonsOf_16 rfl ?_
  refine J_istore_n (pc' := 18) [1, 0, 2] [(0, .int x0), (1, .int (((((0 + (zX6_at x0 0)) + (zX6_at x0 1)) + (zX6_at x0 2)) + (zX6_at x0 3)) + (zX6_at x0 4))), (2, .int 4)] F dX6_tonsOf_17 rfl (jL_of E (show 1 < 3 by decide)) rfl rfl ?_
  refine J_iinc (v := 5) (q := 2) (pc' := 21) [1, 2, 0] [(0, .int x0), (1, .int (((((0 + (zX6_at x0 0)) + (zX6_at x0 1)) + (zX6_at x0 2)) + (zX6_at x0 3)) + (zX6_at x0 4))), (2, .int 5)] F dX6_tonsOf_18 rfl (by decide) (jL_of E (show 2 < 3 by decide)) rfl rfl ?_
  refine J_goto (tgt := 4) F dX6_tonsOf_21 (by decide) ?_
  refine J_iload_n (pc' := 5) (q := 2) F dX6_tonsOf_4 rfl rfl ?_
  refine J_bipush (pc' := 7) (v := 6) F dX6_tonsOf_5 (by decide) rfl ?_
  refine J_icmp_ge (tgt := 24) (pc' := 10) F dX6_tonsOf_7 (by decide) rfl (fun c9 => absurd c9 (by decide)) (fun _ => ?_)
  refine J_iload_n (pc' := 11) (q := 1) F dX6_tonsOf_10 rfl rfl ?_
  refine J_iload_n (pc' := 12) (q := 0) F dX6_tonsOf_11 rfl rfl ?_
  refine J_iload_n (pc' := 13) (q := 2) F dX6_tonsOf_12 rfl rfl ?_
  refine J_goRie (wc := []) (av := [.int x0, .int 5]) (rest := [.int (((((0 + (zX6_at x0 0)) + (zX6_at x0 1)) + (zX6_at x0 2)) + (zX6_at x0 3)) + (zX6_at x0 4))]) (v := zX6_at x0 5) (pc' := 16) F E (fun _ _ => jP_nil _ _) (fun H locs hI hp => jrun_S F E (c_X6_at l D cI cZ z x0 5) kw_712 kw_713 rfl kw_714 kw_7 oX6_at ⟨⟨rfl, rfl⟩, ⟨Nat.le_of_ble_eq_true rfl, Nat.le_of_ble_eq_true rfl⟩, Nat.zero_le _, Nat.zero_le _⟩ rfl (Nat.le_of_ble_eq_true rfl) dX6_tonsOf_13 hp) rfl ?_
  refine J_iadd (pc' := 17) F dX6_tonsOf_16 rfl ?_
  refine J_istore_n (pc' := 18) [1, 0, 2] [(0, .int x0), (1, .int ((((((0 + (zX6_at x0 0)) + (zX6_at x0 1)) + (zX6_at x0 2)) + (zX6_at x0 3)) + (zX6_at x0 4)) + (zX6_at x0 5))), (2, .int 5)] F dX6_tonsOf_17 rfl (jL_of E (show 1 < 3 by decide)) rfl rfl ?_
  refine J_iinc (v := 6) (q := 2) (pc' := 21) [1, 2, 0] [(0, .int x0), (1, .int ((((((0 + (zX6_at x0 0)) + (zX6_at x0 1)) + (zX6_at x0 2)) + (zX6_at x0 3)) + (zX6_at x0 4)) + (zX6_at x0 5))), (2, .int 6)] F dX6_tonsOf_18 rfl (by decide) (jL_of E (show 2 < 3 by decide)) rfl rfl ?_
  refine J_goto (tgt := 4) F dX6_tonsOf_21 (by decide) ?_
  refine J_iload_n (pc' := 5) (q := 2) F dX6_tonsOf_4 rfl rfl ?_
  refine J_bipush (pc' := 7) (v := 6) F dX6_tonsOf_5 (by decide) rfl ?_
  refine J_icmp_ge (tgt := 24) (pc' := 10) F dX6_tonsOf_7 (by decide) rfl (fun _ => ?_) (fun c9 => absurd (by decide) c9)
  refine J_iload_n (pc' := 25) (q := 1) F dX6_tonsOf_24 rfl rfl ?_
  exact J_iretR F hR dX6_tonsOf_25 rfl rfl
def zX6_unlike  (x0 : Int32) (x1 : Int32) : Int32 := if x0 ≤ x1 then x1 - x0 else x0 - x1
abbrev rm_X6_unlike : Room := { frames := 0, cells := 0, slots := 0, locals := 0 }
set_option maxHeartbeats 4000000 in
set_option maxRecDepth 100000 in
theorem c_X6_unlike (l : Launch) (D : va_G) (cI cZ : ClassId) (z : Nat → Nat) (x0 : Int32) (x1 : Int32)  : cRi l yX6_unlike ww_X6_unlike rm_X6_unlike D cI cZ z [] [.int x0, .int x1] (fun r => r = zX6_unlike x0 x1) := by
  refine cRi.of (cc := cX6_unlike) (maxL := 2) (rt := .int) (by decide) rfl (Nat.le_of_ble_eq_true rfl) (fun X F E hR => ?_)
  refine J_lv [0, 1] (lv' := [(0, .int x0), (1, .int x1)]) rfl ?_
  refine J_iload_n (pc' := 1) (q := 0) F dX6_unlike_0 rfl rfl ?_
  refine J_iload_n (pc' := 2) (q := 1) F dX6_unlike_1 rfl rfl ?_
  refine J_icmp_le (tgt := 11) (pc' := 5) F dX6_unlike_2 (by decide) rfl (fun c2 => ?_) (fun c2 => ?_)
  · refine J_iload_n (pc' := 12) (q := 1) F dX6_unlike_11 rfl rfl ?_
    refine J_iload_n (pc' := 13) (q := 0) F dX6_unlike_12 rfl rfl ?_
    refine J_isub (pc' := 14) F dX6_unlike_13 rfl ?_
    exact J_iretR F hR dX6_unlike_14 rfl (by show _ = zX6_unlike x0 x1; unfold zX6_unlike; rw [if_pos c2])
  · refine J_iload_n (pc' := 6) (q := 0) F dX6_unlike_5 rfl rfl ?_
    refine J_iload_n (pc' := 7) (q := 1) F dX6_unlike_6 rfl rfl ?_
    refine J_isub (pc' := 8) F dX6_unlike_7 rfl ?_
    refine J_goto (tgt := 14) F dX6_unlike_8 (by decide) ?_
    exact J_iretR F hR dX6_unlike_14 rfl (by show _ = zX6_unlike x0 x1; unfold zX6_unlike; rw [if_neg c2])
def zX6_bentOf  (x0 : Int32) : Int32 := zX6_unlike ((((zX6_at x0 0) + (zX6_at x0 1)) + (zX6_at x0 4)) + (zX6_at x0 5)) (2 * ((zX6_at x0 2) + (zX6_at x0 3)))
abbrev rm_X6_bentOf : Room := { frames := 1, cells := 0, slots := 0, locals := 21 }
set_option maxHeartbeats 4000000 in
set_option maxRecDepth 100000 in
theorem c_X6_bentOf (l : Launch) (D : va_G) (cI cZ : ClassId) (z : Nat → Nat) (x0 : Int32)  : cRi l yX6_bentOf ww_X6_bentOf rm_X6_bentOf D cI cZ z [] [.int x0] (fun r => r = zX6_bentOf x0) := by
  refine cRi.of (cc := cX6_bentOf) (maxL := 1) (rt := .int) (by decide) rfl (Nat.le_of_ble_eq_true rfl) (fun X F E hR => ?_)
  refine J_lv [0] (lv' := [(0, .int x0)]) rfl ?_
  refine J_iload_n (pc' := 1) (q := 0) F dX6_bentOf_0 rfl rfl ?_
  refine J_iconst (pc' := 2) (v := 0) F dX6_bentOf_1 (by decide) rfl ?_
  refine J_goRie (wc := []) (av := [.int x0, .int 0]) (rest := []) (v := zX6_at x0 0) (pc' := 5) F E (fun _ _ => jP_nil _ _) (fun H locs hI hp => jrun_S F E (c_X6_at l D cI cZ z x0 0) kw_712 kw_713 rfl kw_714 kw_7 oX6_at ⟨⟨rfl, rfl⟩, ⟨Nat.le_of_ble_eq_true rfl, Nat.le_of_ble_eq_true rfl⟩, Nat.zero_le _, Nat.zero_le _⟩ rfl (Nat.le_of_ble_eq_true rfl) dX6_bentOf_2 hp) rfl ?_
  refine J_iload_n (pc' := 6) (q := 0) F dX6_bentOf_5 rfl rfl ?_
  refine J_iconst (pc' := 7) (v := 1) F dX6_bentOf_6 (by decide) rfl ?_
  refine J_goRie (wc := []) (av := [.int x0, .int 1]) (rest := [.int (zX6_at x0 0)]) (v := zX6_at x0 1) (pc' := 10) F E (fun _ _ => jP_nil _ _) (fun H locs hI hp => jrun_S F E (c_X6_at l D cI cZ z x0 1) kw_712 kw_713 rfl kw_714 kw_7 oX6_at ⟨⟨rfl, rfl⟩, ⟨Nat.le_of_ble_eq_true rfl, Nat.le_of_ble_eq_true rfl⟩, Nat.zero_le _, Nat.zero_le _⟩ rfl (Nat.le_of_ble_eq_true rfl) dX6_bentOf_7 hp) rfl ?_
  refine J_iadd (pc' := 11) F dX6_bentOf_10 rfl ?_
  refine J_iload_n (pc' := 12) (q := 0) F dX6_bentOf_11 rfl rfl ?_
  refine J_iconst (pc' := 13) (v := 4) F dX6_bentOf_12 (by decide) rfl ?_
  refine J_goRie (wc := []) (av := [.int x0, .int 4]) (rest := [.int ((zX6_at x0 0) + (zX6_at x0 1))]) (v := zX6_at x0 4) (pc' := 16) F E (fun _ _ => jP_nil _ _) (fun H locs hI hp => jrun_S F E (c_X6_at l D cI cZ z x0 4) kw_712 kw_713 rfl kw_714 kw_7 oX6_at ⟨⟨rfl, rfl⟩, ⟨Nat.le_of_ble_eq_true rfl, Nat.le_of_ble_eq_true rfl⟩, Nat.zero_le _, Nat.zero_le _⟩ rfl (Nat.le_of_ble_eq_true rfl) dX6_bentOf_13 hp) rfl ?_
  refine J_iadd (pc' := 17) F dX6_bentOf_16 rfl ?_
  refine J_iload_n (pc' := 18) (q := 0) F dX6_bentOf_17 rfl rfl ?_
  refine J_iconst (pc' := 19) (v := 5) F dX6_bentOf_18 (by decide) rfl ?_
  refine J_goRie (wc := []) (av := [.int x0, .int 5]) (rest := [.int (((zX6_at x0 0) + (zX6_at x0 1)) + (zX6_at x0 4))]) (v := zX6_at x0 5) (pc' := 22) F E (fun _ _ => jP_nil _ _) (fun H locs hI hp => jrun_S F E (c_X6_at l D cI cZ z x0 5) kw_712 kw_713 rfl kw_714 kw_7 oX6_at ⟨⟨rfl, rfl⟩, ⟨Nat.le_of_ble_eq_true rfl, Nat.le_of_ble_eq_true rfl⟩, Nat.zero_le _, Nat.zero_le _⟩ rfl (Nat.le_of_ble_eq_true rfl) dX6_bentOf_19 hp) rfl ?_
  refine J_iadd (pc' := 23) F dX6_bentOf_22 rfl ?_
  refine J_iconst (pc' := 24) (v := 2) F dX6_bentOf_23 (by decide) rfl ?_
  refine J_iload_n (pc' := 25) (q := 0) F dX6_bentOf_24 rfl rfl ?_
  refine J_iconst (pc' := 26) (v := 2) F dX6_bentOf_25 (by decide) rfl ?_
  refine J_goRie (wc := []) (av := [.int x0, .int 2]) (rest := [.int 2, .int ((((zX6_at x0 0) + (zX6_at x0 1)) + (zX6_at x0 4)) + (zX6_at x0 5))]) (v := zX6_at x0 2) (pc' := 29) F E (fun _ _ => jP_nil _ _) (fun H locs hI hp => jrun_S F E (c_X6_at l D cI cZ z x0 2) kw_712 kw_713 rfl kw_714 kw_7 oX6_at ⟨⟨rfl, rfl⟩, ⟨Nat.le_of_ble_eq_true rfl, Nat.le_of_ble_eq_true rfl⟩, Nat.zero_le _, Nat.zero_le _⟩ rfl (Nat.le_of_ble_eq_true rfl) dX6_bentOf_26 hp) rfl ?_
  refine J_iload_n (pc' := 30) (q := 0) F dX6_bentOf_29 rfl rfl ?_
  refine J_iconst (pc' := 31) (v := 3) F dX6_bentOf_30 (by decide) rfl ?_
  refine J_goRie (wc := []) (av := [.int x0, .int 3]) (rest := [.int (zX6_at x0 2), .int 2, .int ((((zX6_at x0 0) + (zX6_at x0 1)) + (zX6_at x0 4)) + (zX6_at x0 5))]) (v := zX6_at x0 3) (pc' := 34) F E (fun _ _ => jP_nil _ _) (fun H locs hI hp => jrun_S F E (c_X6_at l D cI cZ z x0 3) kw_712 kw_713 rfl kw_714 kw_7 oX6_at ⟨⟨rfl, rfl⟩, ⟨Nat.le_of_ble_eq_true rfl, Nat.le_of_ble_eq_true rfl⟩, Nat.zero_le _, Nat.zero_le _⟩ rfl (Nat.le_of_ble_eq_true rfl) dX6_bentOf_31 hp) rfl ?_
  refine J_iadd (pc' := 35) F dX6_bentOf_34 rfl ?_
  refine J_imul (pc' := 36) F dX6_bentOf_35 rfl ?_
  refine J_goRie (wc := []) (av := [.int ((((zX6_at x0 0) + (zX6_at x0 1)) + (zX6_at x0 4)) + (zX6_at x0 5)), .int (2 * ((zX6_at x0 2) + (zX6_at x0 3)))]) (rest := []) (v := zX6_unlike ((((zX6_at x0 0) + (zX6_at x0 1)) + (zX6_at x0 4)) + (zX6_at x0 5)) (2 * ((zX6_at x0 2) + (zX6_at x0 3)))) (pc' := 39) F E (fun _ _ => jP_nil _ _) (fun H locs hI hp => jrun_S F E (c_X6_unlike l D cI cZ z ((((zX6_at x0 0) + (zX6_at x0 1)) + (zX6_at x0 4)) + (zX6_at x0 5)) (2 * ((zX6_at x0 2) + (zX6_at x0 3)))) kw_748 kw_749 rfl kw_750 kw_7 oX6_unlike ⟨⟨rfl, rfl⟩, ⟨Nat.le_of_ble_eq_true rfl, Nat.le_of_ble_eq_true rfl⟩, Nat.zero_le _, Nat.zero_le _⟩ rfl (Nat.le_of_ble_eq_true rfl) dX6_bentOf_36 hp) rfl ?_
  exact J_iretR F hR dX6_bentOf_39 rfl rfl
def zX6_listingOf  (x0 : Int32) : Int32 := zX6_unlike (((zX6_at x0 0) + (zX6_at x0 2)) + (zX6_at x0 4)) (((zX6_at x0 1) + (zX6_at x0 3)) + (zX6_at x0 5))
abbrev rm_X6_listingOf : Room := { frames := 1, cells := 0, slots := 0, locals := 21 }
set_option maxHeartbeats 4000000 in
set_option maxRecDepth 100000 in
theorem c_X6_listingOf (l : Launch) (D : va_G) (cI cZ : ClassId) (z : Nat → Nat) (x0 : Int32)  : cRi l yX6_listingOf ww_X6_listingOf rm_X6_listingOf D cI cZ z [] [.int x0] (fun r => r = zX6_listingOf x0) := by
  refine cRi.of (cc := cX6_listingOf) (maxL := 1) (rt := .int) (by decide) rfl (Nat.le_of_ble_eq_true rfl) (fun X F E hR => ?_)
  refine J_lv [0] (lv' := [(0, .int x0)]) rfl ?_
  refine J_iload_n (pc' := 1) (q := 0) F dX6_listingOf_0 rfl rfl ?_
  refine J_iconst (pc' := 2) (v := 0) F dX6_listingOf_1 (by decide) rfl ?_
  refine J_goRie (wc := []) (av := [.int x0, .int 0]) (rest := []) (v := zX6_at x0 0) (pc' := 5) F E (fun _ _ => jP_nil _ _) (fun H locs hI hp => jrun_S F E (c_X6_at l D cI cZ z x0 0) kw_712 kw_713 rfl kw_714 kw_7 oX6_at ⟨⟨rfl, rfl⟩, ⟨Nat.le_of_ble_eq_true rfl, Nat.le_of_ble_eq_true rfl⟩, Nat.zero_le _, Nat.zero_le _⟩ rfl (Nat.le_of_ble_eq_true rfl) dX6_listingOf_2 hp) rfl ?_
  refine J_iload_n (pc' := 6) (q := 0) F dX6_listingOf_5 rfl rfl ?_
  refine J_iconst (pc' := 7) (v := 2) F dX6_listingOf_6 (by decide) rfl ?_
  refine J_goRie (wc := []) (av := [.int x0, .int 2]) (rest := [.int (zX6_at x0 0)]) (v := zX6_at x0 2) (pc' := 10) F E (fun _ _ => jP_nil _ _) (fun H locs hI hp => jrun_S F E (c_X6_at l D cI cZ z x0 2) kw_712 kw_713 rfl kw_714 kw_7 oX6_at ⟨⟨rfl, rfl⟩, ⟨Nat.le_of_ble_eq_true rfl, Nat.le_of_ble_eq_true rfl⟩, Nat.zero_le _, Nat.zero_le _⟩ rfl (Nat.le_of_ble_eq_true rfl) dX6_listingOf_7 hp) rfl ?_
  refine J_iadd (pc' := 11) F dX6_listingOf_10 rfl ?_
  refine J_iload_n (pc' := 12) (q := 0) F dX6_listingOf_11 rfl rfl ?_
  refine J_iconst (pc' := 13) (v := 4) F dX6_listingOf_12 (by decide) rfl ?_
  refine J_goRie (wc := []) (av := [.int x0, .int 4]) (rest := [.int ((zX6_at x0 0) + (zX6_at x0 2))]) (v := zX6_at x0 4) (pc' := 16) F E (fun _ _ => jP_nil _ _) (fun H locs hI hp => jrun_S F E (c_X6_at l D cI cZ z x0 4) kw_712 kw_713 rfl kw_714 kw_7 oX6_at ⟨⟨rfl, rfl⟩, ⟨Nat.le_of_ble_eq_true rfl, Nat.le_of_ble_eq_true rfl⟩, Nat.zero_le _, Nat.zero_le _⟩ rfl (Nat.le_of_ble_eq_true rfl) dX6_listingOf_13 hp) rfl ?_
  refine J_iadd (pc' := 17) F dX6_listingOf_16 rfl ?_
  refine J_iload_n (pc' := 18) (q := 0) F dX6_listingOf_17 rfl rfl ?_
  refine J_iconst (pc' := 19) (v := 1) F dX6_listingOf_18 (by decide) rfl ?_
  refine J_goRie (wc := []) (av := [.int x0, .int 1]) (rest := [.int (((zX6_at x0 0) + (zX6_at x0 2)) + (zX6_at x0 4))]) (v := zX6_at x0 1) (pc' := 22) F E (fun _ _ => jP_nil _ _) (fun H locs hI hp => jrun_S F E (c_X6_at l D cI cZ z x0 1) kw_712 kw_713 rfl kw_714 kw_7 oX6_at ⟨⟨rfl, rfl⟩, ⟨Nat.le_of_ble_eq_true rfl, Nat.le_of_ble_eq_true rfl⟩, Nat.zero_le _, Nat.zero_le _⟩ rfl (Nat.le_of_ble_eq_true rfl) dX6_listingOf_19 hp) rfl ?_
  refine J_iload_n (pc' := 23) (q := 0) F dX6_listingOf_22 rfl rfl ?_
  refine J_iconst (pc' := 24) (v := 3) F dX6_listingOf_23 (by decide) rfl ?_
  refine J_goRie (wc := []) (av := [.int x0, .int 3]) (rest := [.int (zX6_at x0 1), .int (((zX6_at x0 0) + (zX6_at x0 2)) + (zX6_at x0 4))]) (v := zX6_at x0 3) (pc' := 27) F E (fun _ _ => jP_nil _ _) (fun H locs hI hp => jrun_S F E (c_X6_at l D cI cZ z x0 3) kw_712 kw_713 rfl kw_714 kw_7 oX6_at ⟨⟨rfl, rfl⟩, ⟨Nat.le_of_ble_eq_true rfl, Nat.le_of_ble_eq_true rfl⟩, Nat.zero_le _, Nat.zero_le _⟩ rfl (Nat.le_of_ble_eq_true rfl) dX6_listingOf_24 hp) rfl ?_
  refine J_iadd (pc' := 28) F dX6_listingOf_27 rfl ?_
  refine J_iload_n (pc' := 29) (q := 0) F dX6_listingOf_28 rfl rfl ?_
  refine J_iconst (pc' := 30) (v := 5) F dX6_listingOf_29 (by decide) rfl ?_
  refine J_goRie (wc := []) (av := [.int x0, .int 5]) (rest := [.int ((zX6_at x0 1) + (zX6_at x0 3)), .int (((zX6_at x0 0) + (zX6_at x0 2)) + (zX6_at x0 4))]) (v := zX6_at x0 5) (pc' := 33) F E (fun _ _ => jP_nil _ _) (fun H locs hI hp => jrun_S F E (c_X6_at l D cI cZ z x0 5) kw_712 kw_713 rfl kw_714 kw_7 oX6_at ⟨⟨rfl, rfl⟩, ⟨Nat.le_of_ble_eq_true rfl, Nat.le_of_ble_eq_true rfl⟩, Nat.zero_le _, Nat.zero_le _⟩ rfl (Nat.le_of_ble_eq_true rfl) dX6_listingOf_30 hp) rfl ?_
  refine J_iadd (pc' := 34) F dX6_listingOf_33 rfl ?_
  refine J_goRie (wc := []) (av := [.int (((zX6_at x0 0) + (zX6_at x0 2)) + (zX6_at x0 4)), .int (((zX6_at x0 1) + (zX6_at x0 3)) + (zX6_at x0 5))]) (rest := []) (v := zX6_unlike (((zX6_at x0 0) + (zX6_at x0 2)) + (zX6_at x0 4)) (((zX6_at x0 1) + (zX6_at x0 3)) + (zX6_at x0 5))) (pc' := 37) F E (fun _ _ => jP_nil _ _) (fun H locs hI hp => jrun_S F E (c_X6_unlike l D cI cZ z (((zX6_at x0 0) + (zX6_at x0 2)) + (zX6_at x0 4)) (((zX6_at x0 1) + (zX6_at x0 3)) + (zX6_at x0 5))) kw_748 kw_749 rfl kw_750 kw_7 oX6_unlike ⟨⟨rfl, rfl⟩, ⟨Nat.le_of_ble_eq_true rfl, Nat.le_of_ble_eq_true rfl⟩, Nat.zero_le _, Nat.zero_le _⟩ rfl (Nat.le_of_ble_eq_true rfl) dX6_listingOf_34 hp) rfl ?_
  exact J_iretR F hR dX6_listingOf_37 rfl rfl
def zX6_isAct  (x0 : Int32) : Int32 := if (zX6_in ((x0 : Int32).toInt64) 0 41) = 0 then 0 else (if x0 < 6 then 1 else (if (((x0 / 6) - 1) / 2) = ((x0 - x0 / 6 * 6) / 2) then (if ((x0 / 6) - 1) = (x0 - x0 / 6 * 6) then (if (zX6_unlike ((x0 / 6) - 1) (x0 - x0 / 6 * 6)) = 2 then 1 else 0) else 1) else (if (zX6_unlike ((x0 / 6) - 1) (x0 - x0 / 6 * 6)) = 2 then 1 else 0)))
abbrev rm_X6_isAct : Room := { frames := 1, cells := 0, slots := 0, locals := 25 }
set_option maxHeartbeats 4000000 in
set_option maxRecDepth 100000 in
theorem c_X6_isAct (l : Launch) (D : va_G) (cI cZ : ClassId) (z : Nat → Nat) (x0 : Int32)  : cRi l yX6_isAct ww_X6_isAct rm_X6_isAct D cI cZ z [] [.int x0] (fun r => r = zX6_isAct x0) := by
  refine cRi.of (cc := cX6_isAct) (maxL := 3) (rt := .boolean) (by decide) rfl (Nat.le_of_ble_eq_true rfl) (fun X F E hR => ?_)
  refine J_lv [0] (lv' := [(0, .int x0)]) rfl ?_
  refine J_iload_n (pc' := 1) (q := 0) F dX6_isAct_0 rfl rfl ?_
  refine J_i2l (pc' := 2) (v := (x0 : Int32).toInt64) F dX6_isAct_1 rfl rfl ?_
  refine J_lconst (pc' := 3) (v := 0) F dX6_isAct_2 (by decide) rfl ?_
  refine J_ldc2 (pc' := 6) (v := 41) F dX6_isAct_3 kw_769 rfl ?_
  refine J_goRie (wc := []) (av := [.long ((x0 : Int32).toInt64), .long 0, .long 41]) (rest := []) (v := zX6_in ((x0 : Int32).toInt64) 0 41) (pc' := 9) F E (fun _ _ => jP_nil _ _) (fun H locs hI hp => jrun_S F E (c_X6_in l D cI cZ z ((x0 : Int32).toInt64) 0 41) kw_682 kw_683 rfl kw_684 kw_7 oX6_in ⟨⟨rfl, rfl⟩, ⟨Nat.le_of_ble_eq_true rfl, Nat.le_of_ble_eq_true rfl⟩, Nat.zero_le _, Nat.zero_le _⟩ rfl (Nat.le_of_ble_eq_true rfl) dX6_isAct_6 hp) rfl ?_
  refine J_if_ne (tgt := 14) (pc' := 12) F dX6_isAct_9 (by decide) rfl (fun c9 => ?_) (fun c9 => ?_)
  · refine J_iload_n (pc' := 15) (q := 0) F dX6_isAct_14 rfl rfl ?_
    refine J_bipush (pc' := 17) (v := 6) F dX6_isAct_15 (by decide) rfl ?_
    refine J_idiv (pc' := 18) F dX6_isAct_17 (by decide) rfl ?_
    refine J_iconst (pc' := 19) (v := 1) F dX6_isAct_18 (by decide) rfl ?_
    refine J_isub (pc' := 20) F dX6_isAct_19 rfl ?_
    refine J_istore_n (pc' := 21) [1, 0] [(0, .int x0), (1, .int ((x0 / 6) - 1))] F dX6_isAct_20 rfl (jL_of E (show 1 < 3 by decide)) rfl rfl ?_
    refine J_iload_n (pc' := 22) (q := 0) F dX6_isAct_21 rfl rfl ?_
    refine J_bipush (pc' := 24) (v := 6) F dX6_isAct_22 (by decide) rfl ?_
    refine J_irem (pc' := 25) F dX6_isAct_24 (by decide) rfl ?_
    refine J_istore_n (pc' := 26) [1, 2, 0] [(0, .int x0), (1, .int ((x0 / 6) - 1)), (2, .int (x0 - x0 / 6 * 6))] F dX6_isAct_25 rfl (jL_of E (show 2 < 3 by decide)) rfl rfl ?_
    refine J_iload_n (pc' := 27) (q := 0) F dX6_isAct_26 rfl rfl ?_
    refine J_bipush (pc' := 29) (v := 6) F dX6_isAct_27 (by decide) rfl ?_
    refine J_icmp_lt (tgt := 55) (pc' := 32) F dX6_isAct_29 (by decide) rfl (fun c29 => ?_) (fun c29 => ?_)
    · refine J_iconst (pc' := 56) (v := 1) F dX6_isAct_55 (by decide) rfl ?_
      refine J_goto (tgt := 60) F dX6_isAct_56 (by decide) ?_
      exact J_iretR F hR dX6_isAct_60 rfl (by show _ = zX6_isAct x0; unfold zX6_isAct; rw [if_neg c9, if_pos c29])
    · refine J_iload_n (pc' := 33) (q := 1) F dX6_isAct_32 rfl rfl ?_
      refine J_iconst (pc' := 34) (v := 2) F dX6_isAct_33 (by decide) rfl ?_
      refine J_idiv (pc' := 35) F dX6_isAct_34 (by decide) rfl ?_
      refine J_iload_n (pc' := 36) (q := 2) F dX6_isAct_35 rfl rfl ?_
      refine J_iconst (pc' := 37) (v := 2) F dX6_isAct_36 (by decide) rfl ?_
      refine J_idiv (pc' := 38) F dX6_isAct_37 (by decide) rfl ?_
      refine J_icmp_ne (tgt := 46) (pc' := 41) F dX6_isAct_38 (by decide) rfl (fun c38 => ?_) (fun c38 => ?_)
      · refine J_iload_n (pc' := 47) (q := 1) F dX6_isAct_46 rfl rfl ?_
        refine J_iload_n (pc' := 48) (q := 2) F dX6_isAct_47 rfl rfl ?_
        refine J_goRie (wc := []) (av := [.int ((x0 / 6) - 1), .int (x0 - x0 / 6 * 6)]) (rest := []) (v := zX6_unlike ((x0 / 6) - 1) (x0 - x0 / 6 * 6)) (pc' := 51) F E (fun _ _ => jP_nil _ _) (fun H locs hI hp => jrun_S F E (c_X6_unlike l D cI cZ z ((x0 / 6) - 1) (x0 - x0 / 6 * 6)) kw_748 kw_749 rfl kw_750 kw_7 oX6_unlike ⟨⟨rfl, rfl⟩, ⟨Nat.le_of_ble_eq_true rfl, Nat.le_of_ble_eq_true rfl⟩, Nat.zero_le _, Nat.zero_le _⟩ rfl (Nat.le_of_ble_eq_true rfl) dX6_isAct_48 hp) rfl ?_
        refine J_iconst (pc' := 52) (v := 2) F dX6_isAct_51 (by decide) rfl ?_
        refine J_icmp_ne (tgt := 59) (pc' := 55) F dX6_isAct_52 (by decide) rfl (fun c52 => ?_) (fun c52 => ?_)
        · refine J_iconst (pc' := 60) (v := 0) F dX6_isAct_59 (by decide) rfl ?_
          exact J_iretR F hR dX6_isAct_60 rfl (by show _ = zX6_isAct x0; unfold zX6_isAct; rw [if_neg c9, if_neg c29, if_neg c38, if_neg c52])
        · refine J_iconst (pc' := 56) (v := 1) F dX6_isAct_55 (by decide) rfl ?_
          refine J_goto (tgt := 60) F dX6_isAct_56 (by decide) ?_
          exact J_iretR F hR dX6_isAct_60 rfl (by show _ = zX6_isAct x0; unfold zX6_isAct; rw [if_neg c9, if_neg c29, if_neg c38, if_pos c52])
      · refine J_iload_n (pc' := 42) (q := 1) F dX6_isAct_41 rfl rfl ?_
        refine J_iload_n (pc' := 43) (q := 2) F dX6_isAct_42 rfl rfl ?_
        refine J_icmp_ne (tgt := 55) (pc' := 46) F dX6_isAct_43 (by decide) rfl (fun c43 => ?_) (fun c43 => ?_)
        · refine J_iconst (pc' := 56) (v := 1) F dX6_isAct_55 (by decide) rfl ?_
          refine J_goto (tgt := 60) F dX6_isAct_56 (by decide) ?_
          exact J_iretR F hR dX6_isAct_60 rfl (by show _ = zX6_isAct x0; unfold zX6_isAct; rw [if_neg c9, if_neg c29, if_pos c38, if_neg c43])
        · refine J_iload_n (pc' := 47) (q := 1) F dX6_isAct_46 rfl rfl ?_
          refine J_iload_n (pc' := 48) (q := 2) F dX6_isAct_47 rfl rfl ?_
          refine J_goRie (wc := []) (av := [.int ((x0 / 6) - 1), .int (x0 - x0 / 6 * 6)]) (rest := []) (v := zX6_unlike ((x0 / 6) - 1) (x0 - x0 / 6 * 6)) (pc' := 51) F E (fun _ _ => jP_nil _ _) (fun H locs hI hp => jrun_S F E (c_X6_unlike l D cI cZ z ((x0 / 6) - 1) (x0 - x0 / 6 * 6)) kw_748 kw_749 rfl kw_750 kw_7 oX6_unlike ⟨⟨rfl, rfl⟩, ⟨Nat.le_of_ble_eq_true rfl, Nat.le_of_ble_eq_true rfl⟩, Nat.zero_le _, Nat.zero_le _⟩ rfl (Nat.le_of_ble_eq_true rfl) dX6_isAct_48 hp) rfl ?_
          refine J_iconst (pc' := 52) (v := 2) F dX6_isAct_51 (by decide) rfl ?_
          refine J_icmp_ne (tgt := 59) (pc' := 55) F dX6_isAct_52 (by decide) rfl (fun c52_2 => ?_) (fun c52_2 => ?_)
          · refine J_iconst (pc' := 60) (v := 0) F dX6_isAct_59 (by decide) rfl ?_
            exact J_iretR F hR dX6_isAct_60 rfl (by show _ = zX6_isAct x0; unfold zX6_isAct; rw [if_neg c9, if_neg c29, if_pos c38, if_pos c43, if_neg c52_2])
          · refine J_iconst (pc' := 56) (v := 1) F dX6_isAct_55 (by decide) rfl ?_
            refine J_goto (tgt := 60) F dX6_isAct_56 (by decide) ?_
            exact J_iretR F hR dX6_isAct_60 rfl (by show _ = zX6_isAct x0; unfold zX6_isAct; rw [if_neg c9, if_neg c29, if_pos c38, if_pos c43, if_pos c52_2])
  · refine J_iconst (pc' := 13) (v := 0) F dX6_isAct_12 (by decide) rfl ?_
    exact J_iretR F hR dX6_isAct_13 rfl (by show _ = zX6_isAct x0; unfold zX6_isAct; rw [if_pos c9])
end
section
/-! the JDK: two String constants (z 3: FORM, z 4: KINDS), Arrays.fill; EvenHold.at -/
def zAt (N : Nat) (f : Nat → Int32) (x : Int32) : Int32 := if x < 0 then 0 else if nI N ≤ x then 0 else f x.toNatClampNeg
abbrev rm_X5_at : Room := { frames := 0, cells := 0, slots := 0, locals := 0 }
set_option maxHeartbeats 4000000 in
set_option maxRecDepth 100000 in
theorem c_X5_at (l : Launch) (D : va_G) (cI cZ : ClassId) (z : Nat → Nat) (a N : Nat) (f : Nat → Int32) (hN : N < 2 ^ 31) (x1 : Int32) : cRi l yX5_at ww_X5_at rm_X5_at D cI cZ z [(a, .inl (cI, N, .inl f))] [.ref a, .int x1] (fun r => r = zAt N f x1) := by
  refine cRi.of (cc := cX5_at) (maxL := 2) (rt := .int) (by decide) rfl (Nat.le_of_ble_eq_true rfl) (fun X F E hR => ?_)
  refine J_lv [0, 1] (lv' := [(0, .ref a), (1, .int x1)]) rfl ?_
  refine J_iload_n (pc' := 1) (q := 1) F dX5_at_0 rfl rfl ?_
  refine J_if_lt (tgt := 16) (pc' := 4) F dX5_at_1 (by decide) rfl (fun c1 => ?_) (fun c1 => ?_)
  · refine J_iconst (pc' := 17) (v := 0) F dX5_at_16 (by decide) rfl ?_
    exact J_iretR F hR dX5_at_17 rfl (by show _ = zAt N f x1; unfold zAt; rw [if_pos c1])
  · refine J_iload_n (pc' := 5) (q := 1) F dX5_at_4 rfl rfl ?_
    refine J_aload_n (pc' := 6) (q := 0) F dX5_at_5 rfl rfl ?_
    refine J_alen (v := nI N) (pc' := 7) 0 F dX5_at_6 rfl rfl rfl ?_
    refine J_icmp_ge (tgt := 16) (pc' := 10) F dX5_at_7 (by decide) rfl (fun c7 => ?_) (fun c7 => ?_)
    · refine J_iconst (pc' := 17) (v := 0) F dX5_at_16 (by decide) rfl ?_
      exact J_iretR F hR dX5_at_17 rfl (by show _ = zAt N f x1; unfold zAt; rw [if_neg c1, if_pos c7])
    · refine J_aload_n (pc' := 11) (q := 0) F dX5_at_10 rfl rfl ?_
      refine J_iload_n (pc' := 12) (q := 1) F dX5_at_11 rfl rfl ?_
      refine J_iald (pc' := 13) 0 F dX5_at_12 rfl (vp_in2 c1 c7 hN) rfl ?_
      refine J_goto (tgt := 17) F dX5_at_13 (by decide) ?_
      exact J_iretR F hR dX5_at_17 rfl (by show _ = zAt N f x1; unfold zAt; rw [if_neg c1, if_neg c7])
set_option maxHeartbeats 4000000 in
set_option maxRecDepth 100000 in
theorem c_X5_atz (l : Launch) (D : va_G) (cI cZ : ClassId) (z : Nat → Nat) (a N : Nat) (f : Nat → Int32) (hT : ∀ (A : Nat → Prop) (U : State) (H : Heap), jSt z A U H → va_T .int a N (fun j => .int (f j)) A U H) (hN : N < 2 ^ 31) (x1 : Int32) : cRi l yX5_at ww_X5_at rm_X5_at D cI cZ z [] [.ref a, .int x1] (fun r => r = zAt N f x1) := by
  refine cRi.of (cc := cX5_at) (maxL := 2) (rt := .int) (by decide) rfl (Nat.le_of_ble_eq_true rfl) (fun X F E hR => ?_)
  refine J_lv [0, 1] (lv' := [(0, .ref a), (1, .int x1)]) rfl ?_
  refine J_iload_n (pc' := 1) (q := 1) F dX5_at_0 rfl rfl ?_
  refine J_if_lt (tgt := 16) (pc' := 4) F dX5_at_1 (by decide) rfl (fun c1 => ?_) (fun c1 => ?_)
  · refine J_iconst (pc' := 17) (v := 0) F dX5_at_16 (by decide) rfl ?_
    exact J_iretR F hR dX5_at_17 rfl (by show _ = zAt N f x1; unfold zAt; rw [if_pos c1])
  · refine J_iload_n (pc' := 5) (q := 1) F dX5_at_4 rfl rfl ?_
    refine J_aload_n (pc' := 6) (q := 0) F dX5_at_5 rfl rfl ?_
    refine J_tlen (v := nI N) (pc' := 7) F dX5_at_6 hT rfl rfl ?_
    refine J_icmp_ge (tgt := 16) (pc' := 10) F dX5_at_7 (by decide) rfl (fun c7 => ?_) (fun c7 => ?_)
    · refine J_iconst (pc' := 17) (v := 0) F dX5_at_16 (by decide) rfl ?_
      exact J_iretR F hR dX5_at_17 rfl (by show _ = zAt N f x1; unfold zAt; rw [if_neg c1, if_pos c7])
    · refine J_aload_n (pc' := 11) (q := 0) F dX5_at_10 rfl rfl ?_
      refine J_iload_n (pc' := 12) (q := 1) F dX5_at_11 rfl rfl ?_
      refine J_tiald (v := .int (f x1.toNatClampNeg)) (pc' := 13) F dX5_at_12 hT (vp_in2 c1 c7 hN) rfl rfl ?_
      refine J_goto (tgt := 17) F dX5_at_13 (by decide) ?_
      exact J_iretR F hR dX5_at_17 rfl (by show _ = zAt N f x1; unfold zAt; rw [if_neg c1, if_neg c7])
def zJ0_coder_3  : Int32 := 0
abbrev rm_J0_coder_3 : Room := { frames := 0, cells := 0, slots := 0, locals := 0 }
set_option maxHeartbeats 4000000 in
set_option maxRecDepth 100000 in
theorem c_J0_coder_3 (l : Launch) (D : va_G) (cI cZ : ClassId) (z : Nat → Nat)   : cRi l yJ0_coder_7d493 ww_J0_coder_7d493 rm_J0_coder_3 D cI cZ z [] [.ref (z 3)] (fun r => r = 0) := by
  refine cRi.of (cc := cJ0_coder_7d493) (maxL := 1) (rt := .byte) (by decide) rfl (Nat.le_of_ble_eq_true rfl) (fun X F E hR => ?_)
  refine J_lv [0] (lv' := [(0, .ref (z 3))]) rfl ?_
  refine J_gets (v := .int 1) (pc' := 3) F dJ0_coder_7d493_0 kw_223 (fun _ _ _ h => h.2.2.2.2.2.2.2.2.2.2.2.1) rfl rfl ?_
  refine J_if_eq (tgt := 13) (pc' := 6) F dJ0_coder_7d493_3 (by decide) rfl (fun c9 => absurd c9 (by decide)) (fun _ => ?_)
  refine J_aload_n (pc' := 7) (q := 0) F dJ0_coder_7d493_6 rfl rfl ?_
  refine J_getO (v := .int 0) (pc' := 10) F dJ0_coder_7d493_7 kw_892 (fun _ _ _ h => ((jStS h).1 0 (by decide)).2.1) rfl rfl ?_
  refine J_goto (tgt := 14) F dJ0_coder_7d493_10 (by decide) ?_
  exact J_iretR F hR dJ0_coder_7d493_14 rfl rfl
def zJ0_isLatin1_3  : Int32 := 1
abbrev rm_J0_isLatin1_3 : Room := { frames := 0, cells := 0, slots := 0, locals := 0 }
set_option maxHeartbeats 4000000 in
set_option maxRecDepth 100000 in
theorem c_J0_isLatin1_3 (l : Launch) (D : va_G) (cI cZ : ClassId) (z : Nat → Nat)   : cRi l yJ0_isLatin1_aae02 ww_J0_isLatin1_aae02 rm_J0_isLatin1_3 D cI cZ z [] [.ref (z 3)] (fun r => r = 1) := by
  refine cRi.of (cc := cJ0_isLatin1_aae02) (maxL := 1) (rt := .boolean) (by decide) rfl (Nat.le_of_ble_eq_true rfl) (fun X F E hR => ?_)
  refine J_lv [0] (lv' := [(0, .ref (z 3))]) rfl ?_
  refine J_gets (v := .int 1) (pc' := 3) F dJ0_isLatin1_aae02_0 kw_223 (fun _ _ _ h => h.2.2.2.2.2.2.2.2.2.2.2.1) rfl rfl ?_
  refine J_if_eq (tgt := 17) (pc' := 6) F dJ0_isLatin1_aae02_3 (by decide) rfl (fun c9 => absurd c9 (by decide)) (fun _ => ?_)
  refine J_aload_n (pc' := 7) (q := 0) F dJ0_isLatin1_aae02_6 rfl rfl ?_
  refine J_getO (v := .int 0) (pc' := 10) F dJ0_isLatin1_aae02_7 kw_892 (fun _ _ _ h => ((jStS h).1 0 (by decide)).2.1) rfl rfl ?_
  refine J_if_ne (tgt := 17) (pc' := 13) F dJ0_isLatin1_aae02_10 (by decide) rfl (fun c9 => absurd (by decide) c9) (fun _ => ?_)
  refine J_iconst (pc' := 14) (v := 1) F dJ0_isLatin1_aae02_13 (by decide) rfl ?_
  refine J_goto (tgt := 18) F dJ0_isLatin1_aae02_14 (by decide) ?_
  exact J_iretR F hR dJ0_isLatin1_aae02_18 rfl rfl
def zJ0_length_3  : Int32 := 14
abbrev rm_J0_length_3 : Room := { frames := 1, cells := 0, slots := 0, locals := 20 }
set_option maxHeartbeats 4000000 in
set_option maxRecDepth 100000 in
theorem c_J0_length_3 (l : Launch) (D : va_G) (cI cZ : ClassId) (z : Nat → Nat)   : cRi l yJ0_length_8abf5 ww_J0_length_8abf5 rm_J0_length_3 D cI cZ z [] [.ref (z 3)] (fun r => r = 14) := by
  refine cRi.of (cc := cJ0_length_8abf5) (maxL := 1) (rt := .int) (by decide) rfl (Nat.le_of_ble_eq_true rfl) (fun X F E hR => ?_)
  refine J_lv [0] (lv' := [(0, .ref (z 3))]) rfl ?_
  refine J_aload_n (pc' := 1) (q := 0) F dJ0_length_8abf5_0 rfl rfl ?_
  refine J_getO (v := .ref (z 5)) (pc' := 4) F dJ0_length_8abf5_1 kw_891 (fun _ _ _ h => ((jStS h).1 0 (by decide)).2.2.1) rfl rfl ?_
  refine J_tlen (v := 14) (pc' := 5) F dJ0_length_8abf5_4 (fun _ _ _ h => ((jStS h).1 0 (by decide)).2.2.2) rfl rfl ?_
  refine J_aload_n (pc' := 6) (q := 0) F dJ0_length_8abf5_5 rfl rfl ?_
  refine J_goRie (wc := []) (av := [.ref (z 3)]) (rest := [.int 14]) (v := 0) (pc' := 9) F E (fun _ _ => jP_nil _ _) (fun H locs hI hp => jrun_VS (i := 0) (As := []) F E (c_J0_coder_3 l D cI cZ z ) kw_219 kw_220 kw_221 rfl kw_222 kw_8 oJ0_coder_7d493 ⟨⟨rfl, rfl⟩, ⟨Nat.le_of_ble_eq_true rfl, Nat.le_of_ble_eq_true rfl⟩, Nat.zero_le _, Nat.zero_le _⟩ (by decide) rfl rfl (Nat.le_of_ble_eq_true rfl) dJ0_length_8abf5_6 hI hp) rfl ?_
  refine J_ishr (pc' := 10) F dJ0_length_8abf5_9 rfl ?_
  refine J_vali (y := 14) (by decide) ?_
  exact J_iretR F hR dJ0_length_8abf5_10 rfl rfl
def zJ0_coder_4  : Int32 := 0
abbrev rm_J0_coder_4 : Room := { frames := 0, cells := 0, slots := 0, locals := 0 }
set_option maxHeartbeats 4000000 in
set_option maxRecDepth 100000 in
theorem c_J0_coder_4 (l : Launch) (D : va_G) (cI cZ : ClassId) (z : Nat → Nat)   : cRi l yJ0_coder_7d493 ww_J0_coder_7d493 rm_J0_coder_4 D cI cZ z [] [.ref (z 4)] (fun r => r = 0) := by
  refine cRi.of (cc := cJ0_coder_7d493) (maxL := 1) (rt := .byte) (by decide) rfl (Nat.le_of_ble_eq_true rfl) (fun X F E hR => ?_)
  refine J_lv [0] (lv' := [(0, .ref (z 4))]) rfl ?_
  refine J_gets (v := .int 1) (pc' := 3) F dJ0_coder_7d493_0 kw_223 (fun _ _ _ h => h.2.2.2.2.2.2.2.2.2.2.2.1) rfl rfl ?_
  refine J_if_eq (tgt := 13) (pc' := 6) F dJ0_coder_7d493_3 (by decide) rfl (fun c9 => absurd c9 (by decide)) (fun _ => ?_)
  refine J_aload_n (pc' := 7) (q := 0) F dJ0_coder_7d493_6 rfl rfl ?_
  refine J_getO (v := .int 0) (pc' := 10) F dJ0_coder_7d493_7 kw_892 (fun _ _ _ h => ((jStS h).1 1 (by decide)).2.1) rfl rfl ?_
  refine J_goto (tgt := 14) F dJ0_coder_7d493_10 (by decide) ?_
  exact J_iretR F hR dJ0_coder_7d493_14 rfl rfl
def zJ0_isLatin1_4  : Int32 := 1
abbrev rm_J0_isLatin1_4 : Room := { frames := 0, cells := 0, slots := 0, locals := 0 }
set_option maxHeartbeats 4000000 in
set_option maxRecDepth 100000 in
theorem c_J0_isLatin1_4 (l : Launch) (D : va_G) (cI cZ : ClassId) (z : Nat → Nat)   : cRi l yJ0_isLatin1_aae02 ww_J0_isLatin1_aae02 rm_J0_isLatin1_4 D cI cZ z [] [.ref (z 4)] (fun r => r = 1) := by
  refine cRi.of (cc := cJ0_isLatin1_aae02) (maxL := 1) (rt := .boolean) (by decide) rfl (Nat.le_of_ble_eq_true rfl) (fun X F E hR => ?_)
  refine J_lv [0] (lv' := [(0, .ref (z 4))]) rfl ?_
  refine J_gets (v := .int 1) (pc' := 3) F dJ0_isLatin1_aae02_0 kw_223 (fun _ _ _ h => h.2.2.2.2.2.2.2.2.2.2.2.1) rfl rfl ?_
  refine J_if_eq (tgt := 17) (pc' := 6) F dJ0_isLatin1_aae02_3 (by decide) rfl (fun c9 => absurd c9 (by decide)) (fun _ => ?_)
  refine J_aload_n (pc' := 7) (q := 0) F dJ0_isLatin1_aae02_6 rfl rfl ?_
  refine J_getO (v := .int 0) (pc' := 10) F dJ0_isLatin1_aae02_7 kw_892 (fun _ _ _ h => ((jStS h).1 1 (by decide)).2.1) rfl rfl ?_
  refine J_if_ne (tgt := 17) (pc' := 13) F dJ0_isLatin1_aae02_10 (by decide) rfl (fun c9 => absurd (by decide) c9) (fun _ => ?_)
  refine J_iconst (pc' := 14) (v := 1) F dJ0_isLatin1_aae02_13 (by decide) rfl ?_
  refine J_goto (tgt := 18) F dJ0_isLatin1_aae02_14 (by decide) ?_
  exact J_iretR F hR dJ0_isLatin1_aae02_18 rfl rfl
def zJ0_length_4  : Int32 := 5
abbrev rm_J0_length_4 : Room := { frames := 1, cells := 0, slots := 0, locals := 20 }
set_option maxHeartbeats 4000000 in
set_option maxRecDepth 100000 in
theorem c_J0_length_4 (l : Launch) (D : va_G) (cI cZ : ClassId) (z : Nat → Nat)   : cRi l yJ0_length_8abf5 ww_J0_length_8abf5 rm_J0_length_4 D cI cZ z [] [.ref (z 4)] (fun r => r = 5) := by
  refine cRi.of (cc := cJ0_length_8abf5) (maxL := 1) (rt := .int) (by decide) rfl (Nat.le_of_ble_eq_true rfl) (fun X F E hR => ?_)
  refine J_lv [0] (lv' := [(0, .ref (z 4))]) rfl ?_
  refine J_aload_n (pc' := 1) (q := 0) F dJ0_length_8abf5_0 rfl rfl ?_
  refine J_getO (v := .ref (z 6)) (pc' := 4) F dJ0_length_8abf5_1 kw_891 (fun _ _ _ h => ((jStS h).1 1 (by decide)).2.2.1) rfl rfl ?_
  refine J_tlen (v := 5) (pc' := 5) F dJ0_length_8abf5_4 (fun _ _ _ h => ((jStS h).1 1 (by decide)).2.2.2) rfl rfl ?_
  refine J_aload_n (pc' := 6) (q := 0) F dJ0_length_8abf5_5 rfl rfl ?_
  refine J_goRie (wc := []) (av := [.ref (z 4)]) (rest := [.int 5]) (v := 0) (pc' := 9) F E (fun _ _ => jP_nil _ _) (fun H locs hI hp => jrun_VS (i := 1) (As := []) F E (c_J0_coder_4 l D cI cZ z ) kw_219 kw_220 kw_221 rfl kw_222 kw_8 oJ0_coder_7d493 ⟨⟨rfl, rfl⟩, ⟨Nat.le_of_ble_eq_true rfl, Nat.le_of_ble_eq_true rfl⟩, Nat.zero_le _, Nat.zero_le _⟩ (by decide) rfl rfl (Nat.le_of_ble_eq_true rfl) dJ0_length_8abf5_6 hI hp) rfl ?_
  refine J_ishr (pc' := 10) F dJ0_length_8abf5_9 rfl ?_
  refine J_vali (y := 5) (by decide) ?_
  exact J_iretR F hR dJ0_length_8abf5_10 rfl rfl
abbrev rm_J3_checkIndex_8e157 : Room := { frames := 0, cells := 0, slots := 0, locals := 0 }
set_option maxHeartbeats 4000000 in
set_option maxRecDepth 100000 in
theorem c_J3_checkIndex_8e157 (l : Launch) (D : va_G) (cI cZ : ClassId) (z : Nat → Nat) (x0 x1 : Int32) (v2 : Value) (hv2 : v2.category = 1) (h0 : ¬ x0 < 0) (h1 : x0 < x1) : cRi l yJ3_checkIndex_8e157 ww_J3_checkIndex_8e157 rm_J3_checkIndex_8e157 D cI cZ z [] [.int x0, .int x1, v2] (fun r => r = x0) := by
  refine cRi.of (cc := cJ3_checkIndex_8e157) (maxL := 3) (rt := .int) (by decide) rfl (by simp [lg_sl, hv2, show ∀ x : Int32, (Value.int x).category = 1 from fun _ => rfl]) (fun X F E hR => ?_)
  refine J_lv [0, 1] (lv' := [(0, .int x0), (1, .int x1)]) rfl ?_
  refine J_iload_n (pc' := 1) (q := 0) F dJ3_checkIndex_8e157_0 rfl rfl ?_
  refine J_if_lt (tgt := 9) (pc' := 4) F dJ3_checkIndex_8e157_1 (by decide) rfl (fun c1 => False.elim (h0 c1)) (fun c1 => ?_)
  refine J_iload_n (pc' := 5) (q := 0) F dJ3_checkIndex_8e157_4 rfl rfl ?_
  refine J_iload_n (pc' := 6) (q := 1) F dJ3_checkIndex_8e157_5 rfl rfl ?_
  refine J_icmp_lt (tgt := 16) (pc' := 9) F dJ3_checkIndex_8e157_6 (by decide) rfl (fun c6 => ?_) (fun c6 => False.elim (c6 h1))
  refine J_iload_n (pc' := 17) (q := 0) F dJ3_checkIndex_8e157_16 rfl rfl ?_
  exact J_iretR F hR dJ3_checkIndex_8e157_17 rfl rfl
abbrev rm_J0_checkIndex_df160 : Room := { frames := 1, cells := 0, slots := 0, locals := 22 }
set_option maxHeartbeats 4000000 in
set_option maxRecDepth 100000 in
theorem c_J0_checkIndex_df160 (l : Launch) (D : va_G) (cI cZ : ClassId) (z : Nat → Nat) (x0 x1 : Int32) (h0 : ¬ x0 < 0) (h1 : x0 < x1) : cRv l yJ0_checkIndex_df160 ww_J0_checkIndex_df160 rm_J0_checkIndex_df160 D cI cZ z [] [.int x0, .int x1] (fun _ => True) := by
  refine cRv.of (cc := cJ0_checkIndex_df160) (maxL := 2) (by decide) rfl (Nat.le_of_ble_eq_true rfl) (fun X F E hR => ?_)
  refine J_lv [0, 1] (lv' := [(0, .int x0), (1, .int x1)]) rfl ?_
  refine J_iload_n (pc' := 1) (q := 0) F dJ0_checkIndex_df160_0 rfl rfl ?_
  refine J_iload_n (pc' := 2) (q := 1) F dJ0_checkIndex_df160_1 rfl rfl ?_
  refine J_getsq (pc' := 5) F dJ0_checkIndex_df160_2 kw_239 rfl (fun v2 hv2 => ?_)
  refine J_goRie (wc := []) (av := [.int x0, .int x1, v2]) (rest := []) (v := x0) (pc' := 8) F E (fun _ _ => jP_nil _ _) (fun H locs hI hp => jrun_S F E (c_J3_checkIndex_8e157 l D cI cZ z x0 x1 v2 hv2 h0 h1) kw_241 kw_242 rfl kw_243 kw_10 oJ3_checkIndex_8e157 ⟨⟨rfl, rfl⟩, ⟨Nat.le_of_ble_eq_true rfl, Nat.le_of_ble_eq_true rfl⟩, Nat.zero_le _, Nat.zero_le _⟩ rfl (Nat.le_of_ble_eq_true rfl) dJ0_checkIndex_df160_5 hp) rfl ?_
  refine J_pop (pc' := 9) F dJ0_checkIndex_df160_8 rfl rfl ?_
  exact J_vretR F hR dJ0_checkIndex_df160_9 trivial
def zJ1_charAt_3b067  (x1 : Int32) : Int32 := (((((jByt.getD 0 []).getD ((x1 : Int32).toNatClampNeg) 0) &&& 255) : Int32).toUInt32 % 65536).toInt32
abbrev rm_J1_charAt_3b067 : Room := { frames := 2, cells := 0, slots := 0, locals := 43 }
set_option maxHeartbeats 4000000 in
set_option maxRecDepth 100000 in
theorem c_J1_charAt_3b067 (l : Launch) (D : va_G) (cI cZ : ClassId) (z : Nat → Nat) (x1 : Int32) (h0 : ¬ x1 < 0) (h1 : x1 < 14) : cRi l yJ1_charAt_3b067 ww_J1_charAt_3b067 rm_J1_charAt_3b067 D cI cZ z [] [.ref (z 5), .int x1] (fun r => r = zJ1_charAt_3b067 x1) := by
  refine cRi.of (cc := cJ1_charAt_3b067) (maxL := 2) (rt := .char) (by decide) rfl (Nat.le_of_ble_eq_true rfl) (fun X F E hR => ?_)
  refine J_lv [0, 1] (lv' := [(0, .ref (z 5)), (1, .int x1)]) rfl ?_
  refine J_iload_n (pc' := 1) (q := 1) F dJ1_charAt_3b067_0 rfl rfl ?_
  refine J_aload_n (pc' := 2) (q := 0) F dJ1_charAt_3b067_1 rfl rfl ?_
  refine J_tlen (v := 14) (pc' := 3) F dJ1_charAt_3b067_2 (fun _ _ _ h => ((jStS h).1 0 (by decide)).2.2.2) rfl rfl ?_
  refine J_goRv (wc := []) (av := [.int x1, .int 14]) (rest := []) (pc' := 6) F E (fun _ _ => jP_nil _ _) (fun H locs hI hp => jrun_S F E (c_J0_checkIndex_df160 l D cI cZ z x1 14 h0 h1) kw_236 kw_237 rfl kw_238 kw_8 oJ0_checkIndex_df160 ⟨⟨rfl, rfl⟩, ⟨Nat.le_of_ble_eq_true rfl, Nat.le_of_ble_eq_true rfl⟩, Nat.zero_le _, Nat.zero_le _⟩ rfl (Nat.le_of_ble_eq_true rfl) dJ1_charAt_3b067_3 hp) rfl (fun _ => ?_)
  refine J_aload_n (pc' := 7) (q := 0) F dJ1_charAt_3b067_6 rfl rfl ?_
  refine J_iload_n (pc' := 8) (q := 1) F dJ1_charAt_3b067_7 rfl rfl ?_
  refine J_tbald (v := .int ((jByt.getD 0 []).getD ((x1 : Int32).toNatClampNeg) 0)) (pc' := 9) F dJ1_charAt_3b067_8 (fun _ _ _ h => ((jStS h).1 0 (by decide)).2.2.2) (vp_in3 h0 h1 (by decide)) rfl rfl ?_
  refine J_sipush (pc' := 12) (v := 255) F dJ1_charAt_3b067_9 (by decide) rfl ?_
  refine J_iand (pc' := 13) F dJ1_charAt_3b067_12 rfl ?_
  refine J_i2c (pc' := 14) (v := (((((jByt.getD 0 []).getD ((x1 : Int32).toNatClampNeg) 0) &&& 255) : Int32).toUInt32 % 65536).toInt32) F dJ1_charAt_3b067_13 rfl rfl ?_
  exact J_iretR F hR dJ1_charAt_3b067_14 (pk_nc _) rfl
def zJ0_charAt_5068e  (x1 : Int32) : Int32 := zJ1_charAt_3b067 x1
abbrev rm_J0_charAt_5068e : Room := { frames := 3, cells := 0, slots := 0, locals := 64 }
set_option maxHeartbeats 4000000 in
set_option maxRecDepth 100000 in
theorem c_J0_charAt_5068e (l : Launch) (D : va_G) (cI cZ : ClassId) (z : Nat → Nat) (x1 : Int32) (h0 : ¬ x1 < 0) (h1 : x1 < 14) : cRi l yJ0_charAt_5068e ww_J0_charAt_5068e rm_J0_charAt_5068e D cI cZ z [] [.ref (z 3), .int x1] (fun r => r = zJ0_charAt_5068e x1) := by
  refine cRi.of (cc := cJ0_charAt_5068e) (maxL := 2) (rt := .char) (by decide) rfl (Nat.le_of_ble_eq_true rfl) (fun X F E hR => ?_)
  refine J_lv [0, 1] (lv' := [(0, .ref (z 3)), (1, .int x1)]) rfl ?_
  refine J_aload_n (pc' := 1) (q := 0) F dJ0_charAt_5068e_0 rfl rfl ?_
  refine J_goRie (wc := []) (av := [.ref (z 3)]) (rest := []) (v := 1) (pc' := 4) F E (fun _ _ => jP_nil _ _) (fun H locs hI hp => jrun_VS (i := 0) (As := []) F E (c_J0_isLatin1_3 l D cI cZ z ) kw_229 kw_230 kw_231 rfl kw_232 kw_8 oJ0_isLatin1_aae02 ⟨⟨rfl, rfl⟩, ⟨Nat.le_of_ble_eq_true rfl, Nat.le_of_ble_eq_true rfl⟩, Nat.zero_le _, Nat.zero_le _⟩ (by decide) rfl rfl (Nat.le_of_ble_eq_true rfl) dJ0_charAt_5068e_1 hI hp) rfl ?_
  refine J_if_eq (tgt := 16) (pc' := 7) F dJ0_charAt_5068e_4 (by decide) rfl (fun c9 => absurd c9 (by decide)) (fun _ => ?_)
  refine J_aload_n (pc' := 8) (q := 0) F dJ0_charAt_5068e_7 rfl rfl ?_
  refine J_getO (v := .ref (z 5)) (pc' := 11) F dJ0_charAt_5068e_8 kw_891 (fun _ _ _ h => ((jStS h).1 0 (by decide)).2.2.1) rfl rfl ?_
  refine J_iload_n (pc' := 12) (q := 1) F dJ0_charAt_5068e_11 rfl rfl ?_
  refine J_goRie (wc := []) (av := [.ref (z 5), .int x1]) (rest := []) (v := zJ1_charAt_3b067 x1) (pc' := 15) F E (fun _ _ => jP_nil _ _) (fun H locs hI hp => jrun_S F E (c_J1_charAt_3b067 l D cI cZ z x1 h0 h1) kw_233 kw_234 rfl kw_235 kw_9 oJ1_charAt_3b067 ⟨⟨rfl, rfl⟩, ⟨Nat.le_of_ble_eq_true rfl, Nat.le_of_ble_eq_true rfl⟩, Nat.zero_le _, Nat.zero_le _⟩ rfl (Nat.le_of_ble_eq_true rfl) dJ0_charAt_5068e_12 hp) rfl ?_
  exact J_iretR F hR dJ0_charAt_5068e_15 (pk_nc _) rfl
def zJ1_canEncode_9a6ad  (x0 : Int32) : Int32 := if x0 < 0 then 0 else (if (255 : Int32) < x0 then 0 else 1)
abbrev rm_J1_canEncode_9a6ad : Room := { frames := 0, cells := 0, slots := 0, locals := 0 }
set_option maxHeartbeats 4000000 in
set_option maxRecDepth 100000 in
theorem c_J1_canEncode_9a6ad (l : Launch) (D : va_G) (cI cZ : ClassId) (z : Nat → Nat) (x0 : Int32)  : cRi l yJ1_canEncode_9a6ad ww_J1_canEncode_9a6ad rm_J1_canEncode_9a6ad D cI cZ z [] [.int x0] (fun r => r = zJ1_canEncode_9a6ad x0) := by
  refine cRi.of (cc := cJ1_canEncode_9a6ad) (maxL := 1) (rt := .boolean) (by decide) rfl (Nat.le_of_ble_eq_true rfl) (fun X F E hR => ?_)
  refine J_lv [0] (lv' := [(0, .int x0)]) rfl ?_
  refine J_iload_n (pc' := 1) (q := 0) F dJ1_canEncode_9a6ad_0 rfl rfl ?_
  refine J_if_lt (tgt := 15) (pc' := 4) F dJ1_canEncode_9a6ad_1 (by decide) rfl (fun c1 => ?_) (fun c1 => ?_)
  · refine J_iconst (pc' := 16) (v := 0) F dJ1_canEncode_9a6ad_15 (by decide) rfl ?_
    exact J_iretR F hR dJ1_canEncode_9a6ad_16 rfl (by show _ = zJ1_canEncode_9a6ad x0; unfold zJ1_canEncode_9a6ad; rw [if_pos c1])
  · refine J_iload_n (pc' := 5) (q := 0) F dJ1_canEncode_9a6ad_4 rfl rfl ?_
    refine J_sipush (pc' := 8) (v := 255) F dJ1_canEncode_9a6ad_5 (by decide) rfl ?_
    refine J_icmp_gt (tgt := 15) (pc' := 11) F dJ1_canEncode_9a6ad_8 (by decide) rfl (fun c8 => ?_) (fun c8 => ?_)
    · refine J_iconst (pc' := 16) (v := 0) F dJ1_canEncode_9a6ad_15 (by decide) rfl ?_
      exact J_iretR F hR dJ1_canEncode_9a6ad_16 rfl (by show _ = zJ1_canEncode_9a6ad x0; unfold zJ1_canEncode_9a6ad; rw [if_neg c1, if_pos c8])
    · refine J_iconst (pc' := 12) (v := 1) F dJ1_canEncode_9a6ad_11 (by decide) rfl ?_
      refine J_goto (tgt := 16) F dJ1_canEncode_9a6ad_12 (by decide) ?_
      exact J_iretR F hR dJ1_canEncode_9a6ad_16 rfl (by show _ = zJ1_canEncode_9a6ad x0; unfold zJ1_canEncode_9a6ad; rw [if_neg c1, if_neg c8])
def zJ1_indexOfChar_4cfef  (x1 : Int32) : Int32 := if (98 : Int32) = ((x1 : Int32).toInt8.toInt32) then 0 else (if (110 : Int32) = ((x1 : Int32).toInt8.toInt32) then 1 else (if (102 : Int32) = ((x1 : Int32).toInt8.toInt32) then 2 else (if (104 : Int32) = ((x1 : Int32).toInt8.toInt32) then 3 else (if (100 : Int32) = ((x1 : Int32).toInt8.toInt32) then 4 else (-1)))))
abbrev rm_J1_indexOfChar_4cfef : Room := { frames := 0, cells := 0, slots := 0, locals := 0 }
set_option maxHeartbeats 4000000 in
set_option maxRecDepth 100000 in
theorem c_J1_indexOfChar_4cfef (l : Launch) (D : va_G) (cI cZ : ClassId) (z : Nat → Nat) (x1 : Int32)  : cRi l yJ1_indexOfChar_4cfef ww_J1_indexOfChar_4cfef rm_J1_indexOfChar_4cfef D cI cZ z [] [.ref (z 6), .int x1, .int 0, .int 5] (fun r => r = zJ1_indexOfChar_4cfef x1) := by
  refine cRi.of (cc := cJ1_indexOfChar_4cfef) (maxL := 6) (rt := .int) (by decide) rfl (Nat.le_of_ble_eq_true rfl) (fun X F E hR => ?_)
  refine J_lv [0, 1, 2, 3] (lv' := [(0, .ref (z 6)), (1, .int x1), (2, .int 0), (3, .int 5)]) rfl ?_
  refine J_iload_n (pc' := 1) (q := 1) F dJ1_indexOfChar_4cfef_0 rfl rfl ?_
  refine J_i2b (pc' := 2) (v := (x1 : Int32).toInt8.toInt32) F dJ1_indexOfChar_4cfef_1 rfl rfl ?_
  refine J_istore (pc' := 4) [1, 2, 3, 4, 0] [(0, .ref (z 6)), (1, .int x1), (2, .int 0), (3, .int 5), (4, .int ((x1 : Int32).toInt8.toInt32))] F dJ1_indexOfChar_4cfef_2 (jL_of E (show 4 < 6 by decide)) rfl rfl ?_
  refine J_iload_n (pc' := 5) (q := 2) F dJ1_indexOfChar_4cfef_4 rfl rfl ?_
  refine J_istore (pc' := 7) [1, 2, 3, 4, 5, 0] [(0, .ref (z 6)), (1, .int x1), (2, .int 0), (3, .int 5), (4, .int ((x1 : Int32).toInt8.toInt32)), (5, .int 0)] F dJ1_indexOfChar_4cfef_5 (jL_of E (show 5 < 6 by decide)) rfl rfl ?_
  refine J_iload (pc' := 9) (q := 5) F dJ1_indexOfChar_4cfef_7 rfl rfl ?_
  refine J_iload_n (pc' := 10) (q := 3) F dJ1_indexOfChar_4cfef_9 rfl rfl ?_
  refine J_icmp_ge (tgt := 31) (pc' := 13) F dJ1_indexOfChar_4cfef_10 (by decide) rfl (fun c9 => absurd c9 (by decide)) (fun _ => ?_)
  refine J_aload_n (pc' := 14) (q := 0) F dJ1_indexOfChar_4cfef_13 rfl rfl ?_
  refine J_iload (pc' := 16) (q := 5) F dJ1_indexOfChar_4cfef_14 rfl rfl ?_
  refine J_tbald (v := .int 98) (pc' := 17) F dJ1_indexOfChar_4cfef_16 (fun _ _ _ h => ((jStS h).1 1 (by decide)).2.2.2) (by unfold vp_in; decide) rfl rfl ?_
  refine J_iload (pc' := 19) (q := 4) F dJ1_indexOfChar_4cfef_17 rfl rfl ?_
  refine J_icmp_ne (tgt := 25) (pc' := 22) F dJ1_indexOfChar_4cfef_19 (by decide) rfl (fun c19 => ?_) (fun c19 => ?_)
  · refine J_iinc (v := 1) (q := 5) (pc' := 28) [1, 2, 3, 4, 5, 0] [(0, .ref (z 6)), (1, .int x1), (2, .int 0), (3, .int 5), (4, .int ((x1 : Int32).toInt8.toInt32)), (5, .int 1)] F dJ1_indexOfChar_4cfef_25 rfl (by decide) (jL_of E (show 5 < 6 by decide)) rfl rfl ?_
    refine J_goto (tgt := 7) F dJ1_indexOfChar_4cfef_28 (by decide) ?_
    refine J_iload (pc' := 9) (q := 5) F dJ1_indexOfChar_4cfef_7 rfl rfl ?_
    refine J_iload_n (pc' := 10) (q := 3) F dJ1_indexOfChar_4cfef_9 rfl rfl ?_
    refine J_icmp_ge (tgt := 31) (pc' := 13) F dJ1_indexOfChar_4cfef_10 (by decide) rfl (fun c9 => absurd c9 (by decide)) (fun _ => ?_)
    refine J_aload_n (pc' := 14) (q := 0) F dJ1_indexOfChar_4cfef_13 rfl rfl ?_
    refine J_iload (pc' := 16) (q := 5) F dJ1_indexOfChar_4cfef_14 rfl rfl ?_
    refine J_tbald (v := .int 110) (pc' := 17) F dJ1_indexOfChar_4cfef_16 (fun _ _ _ h => ((jStS h).1 1 (by decide)).2.2.2) (by unfold vp_in; decide) rfl rfl ?_
    refine J_iload (pc' := 19) (q := 4) F dJ1_indexOfChar_4cfef_17 rfl rfl ?_
    refine J_icmp_ne (tgt := 25) (pc' := 22) F dJ1_indexOfChar_4cfef_19 (by decide) rfl (fun c19_2 => ?_) (fun c19_2 => ?_)
    · refine J_iinc (v := 2) (q := 5) (pc' := 28) [1, 2, 3, 4, 5, 0] [(0, .ref (z 6)), (1, .int x1), (2, .int 0), (3, .int 5), (4, .int ((x1 : Int32).toInt8.toInt32)), (5, .int 2)] F dJ1_indexOfChar_4cfef_25 rfl (by decide) (jL_of E (show 5 < 6 by decide)) rfl rfl ?_
      refine J_goto (tgt := 7) F dJ1_indexOfChar_4cfef_28 (by decide) ?_
      refine J_iload (pc' := 9) (q := 5) F dJ1_indexOfChar_4cfef_7 rfl rfl ?_
      refine J_iload_n (pc' := 10) (q := 3) F dJ1_indexOfChar_4cfef_9 rfl rfl ?_
      refine J_icmp_ge (tgt := 31) (pc' := 13) F dJ1_indexOfChar_4cfef_10 (by decide) rfl (fun c9 => absurd c9 (by decide)) (fun _ => ?_)
      refine J_aload_n (pc' := 14) (q := 0) F dJ1_indexOfChar_4cfef_13 rfl rfl ?_
      refine J_iload (pc' := 16) (q := 5) F dJ1_indexOfChar_4cfef_14 rfl rfl ?_
      refine J_tbald (v := .int 102) (pc' := 17) F dJ1_indexOfChar_4cfef_16 (fun _ _ _ h => ((jStS h).1 1 (by decide)).2.2.2) (by unfold vp_in; decide) rfl rfl ?_
      refine J_iload (pc' := 19) (q := 4) F dJ1_indexOfChar_4cfef_17 rfl rfl ?_
      refine J_icmp_ne (tgt := 25) (pc' := 22) F dJ1_indexOfChar_4cfef_19 (by decide) rfl (fun c19_3 => ?_) (fun c19_3 => ?_)
      · refine J_iinc (v := 3) (q := 5) (pc' := 28) [1, 2, 3, 4, 5, 0] [(0, .ref (z 6)), (1, .int x1), (2, .int 0), (3, .int 5), (4, .int ((x1 : Int32).toInt8.toInt32)), (5, .int 3)] F dJ1_indexOfChar_4cfef_25 rfl (by decide) (jL_of E (show 5 < 6 by decide)) rfl rfl ?_
        refine J_goto (tgt := 7) F dJ1_indexOfChar_4cfef_28 (by decide) ?_
        refine J_iload (pc' := 9) (q := 5) F dJ1_indexOfChar_4cfef_7 rfl rfl ?_
        refine J_iload_n (pc' := 10) (q := 3) F dJ1_indexOfChar_4cfef_9 rfl rfl ?_
        refine J_icmp_ge (tgt := 31) (pc' := 13) F dJ1_indexOfChar_4cfef_10 (by decide) rfl (fun c9 => absurd c9 (by decide)) (fun _ => ?_)
        refine J_aload_n (pc' := 14) (q := 0) F dJ1_indexOfChar_4cfef_13 rfl rfl ?_
        refine J_iload (pc' := 16) (q := 5) F dJ1_indexOfChar_4cfef_14 rfl rfl ?_
        refine J_tbald (v := .int 104) (pc' := 17) F dJ1_indexOfChar_4cfef_16 (fun _ _ _ h => ((jStS h).1 1 (by decide)).2.2.2) (by unfold vp_in; decide) rfl rfl ?_
        refine J_iload (pc' := 19) (q := 4) F dJ1_indexOfChar_4cfef_17 rfl rfl ?_
        refine J_icmp_ne (tgt := 25) (pc' := 22) F dJ1_indexOfChar_4cfef_19 (by decide) rfl (fun c19_4 => ?_) (fun c19_4 => ?_)
        · refine J_iinc (v := 4) (q := 5) (pc' := 28) [1, 2, 3, 4, 5, 0] [(0, .ref (z 6)), (1, .int x1), (2, .int 0), (3, .int 5), (4, .int ((x1 : Int32).toInt8.toInt32)), (5, .int 4)] F dJ1_indexOfChar_4cfef_25 rfl (by decide) (jL_of E (show 5 < 6 by decide)) rfl rfl ?_
          refine J_goto (tgt := 7) F dJ1_indexOfChar_4cfef_28 (by decide) ?_
          refine J_iload (pc' := 9) (q := 5) F dJ1_indexOfChar_4cfef_7 rfl rfl ?_
          refine J_iload_n (pc' := 10) (q := 3) F dJ1_indexOfChar_4cfef_9 rfl rfl ?_
          refine J_icmp_ge (tgt := 31) (pc' := 13) F dJ1_indexOfChar_4cfef_10 (by decide) rfl (fun c9 => absurd c9 (by decide)) (fun _ => ?_)
          refine J_aload_n (pc' := 14) (q := 0) F dJ1_indexOfChar_4cfef_13 rfl rfl ?_
          refine J_iload (pc' := 16) (q := 5) F dJ1_indexOfChar_4cfef_14 rfl rfl ?_
          refine J_tbald (v := .int 100) (pc' := 17) F dJ1_indexOfChar_4cfef_16 (fun _ _ _ h => ((jStS h).1 1 (by decide)).2.2.2) (by unfold vp_in; decide) rfl rfl ?_
          refine J_iload (pc' := 19) (q := 4) F dJ1_indexOfChar_4cfef_17 rfl rfl ?_
          refine J_icmp_ne (tgt := 25) (pc' := 22) F dJ1_indexOfChar_4cfef_19 (by decide) rfl (fun c19_5 => ?_) (fun c19_5 => ?_)
          · refine J_iinc (v := 5) (q := 5) (pc' := 28) [1, 2, 3, 4, 5, 0] [(0, .ref (z 6)), (1, .int x1), (2, .int 0), (3, .int 5), (4, .int ((x1 : Int32).toInt8.toInt32)), (5, .int 5)] F dJ1_indexOfChar_4cfef_25 rfl (by decide) (jL_of E (show 5 < 6 by decide)) rfl rfl ?_
            refine J_goto (tgt := 7) F dJ1_indexOfChar_4cfef_28 (by decide) ?_
            refine J_iload (pc' := 9) (q := 5) F dJ1_indexOfChar_4cfef_7 rfl rfl ?_
            refine J_iload_n (pc' := 10) (q := 3) F dJ1_indexOfChar_4cfef_9 rfl rfl ?_
            refine J_icmp_ge (tgt := 31) (pc' := 13) F dJ1_indexOfChar_4cfef_10 (by decide) rfl (fun _ => ?_) (fun c9 => absurd (by decide) c9)
            refine J_iconst (pc' := 32) (v := (-1)) F dJ1_indexOfChar_4cfef_31 (by decide) rfl ?_
            exact J_iretR F hR dJ1_indexOfChar_4cfef_32 rfl (by show _ = zJ1_indexOfChar_4cfef x1; unfold zJ1_indexOfChar_4cfef; rw [if_neg c19, if_neg c19_2, if_neg c19_3, if_neg c19_4, if_neg c19_5])
          · refine J_iload (pc' := 24) (q := 5) F dJ1_indexOfChar_4cfef_22 rfl rfl ?_
            exact J_iretR F hR dJ1_indexOfChar_4cfef_24 rfl (by show _ = zJ1_indexOfChar_4cfef x1; unfold zJ1_indexOfChar_4cfef; rw [if_neg c19, if_neg c19_2, if_neg c19_3, if_neg c19_4, if_pos c19_5])
        · refine J_iload (pc' := 24) (q := 5) F dJ1_indexOfChar_4cfef_22 rfl rfl ?_
          exact J_iretR F hR dJ1_indexOfChar_4cfef_24 rfl (by show _ = zJ1_indexOfChar_4cfef x1; unfold zJ1_indexOfChar_4cfef; rw [if_neg c19, if_neg c19_2, if_neg c19_3, if_pos c19_4])
      · refine J_iload (pc' := 24) (q := 5) F dJ1_indexOfChar_4cfef_22 rfl rfl ?_
        exact J_iretR F hR dJ1_indexOfChar_4cfef_24 rfl (by show _ = zJ1_indexOfChar_4cfef x1; unfold zJ1_indexOfChar_4cfef; rw [if_neg c19, if_neg c19_2, if_pos c19_3])
    · refine J_iload (pc' := 24) (q := 5) F dJ1_indexOfChar_4cfef_22 rfl rfl ?_
      exact J_iretR F hR dJ1_indexOfChar_4cfef_24 rfl (by show _ = zJ1_indexOfChar_4cfef x1; unfold zJ1_indexOfChar_4cfef; rw [if_neg c19, if_pos c19_2])
  · refine J_iload (pc' := 24) (q := 5) F dJ1_indexOfChar_4cfef_22 rfl rfl ?_
    exact J_iretR F hR dJ1_indexOfChar_4cfef_24 rfl (by show _ = zJ1_indexOfChar_4cfef x1; unfold zJ1_indexOfChar_4cfef; rw [if_pos c19])
def zJ1_indexOf_4cfef  (x1 : Int32) : Int32 := if (zJ1_canEncode_9a6ad x1) = 0 then (-1) else zJ1_indexOfChar_4cfef x1
abbrev rm_J1_indexOf_4cfef : Room := { frames := 1, cells := 0, slots := 0, locals := 25 }
set_option maxHeartbeats 4000000 in
set_option maxRecDepth 100000 in
theorem c_J1_indexOf_4cfef (l : Launch) (D : va_G) (cI cZ : ClassId) (z : Nat → Nat) (x1 : Int32)  : cRi l yJ1_indexOf_4cfef ww_J1_indexOf_4cfef rm_J1_indexOf_4cfef D cI cZ z [] [.ref (z 6), .int x1, .int 0, .int 5] (fun r => r = zJ1_indexOf_4cfef x1) := by
  refine cRi.of (cc := cJ1_indexOf_4cfef) (maxL := 4) (rt := .int) (by decide) rfl (Nat.le_of_ble_eq_true rfl) (fun X F E hR => ?_)
  refine J_lv [0, 1, 2, 3] (lv' := [(0, .ref (z 6)), (1, .int x1), (2, .int 0), (3, .int 5)]) rfl ?_
  refine J_iload_n (pc' := 1) (q := 1) F dJ1_indexOf_4cfef_0 rfl rfl ?_
  refine J_goRie (wc := []) (av := [.int x1]) (rest := []) (v := zJ1_canEncode_9a6ad x1) (pc' := 4) F E (fun _ _ => jP_nil _ _) (fun H locs hI hp => jrun_S F E (c_J1_canEncode_9a6ad l D cI cZ z x1) kw_276 kw_277 rfl kw_278 kw_9 oJ1_canEncode_9a6ad ⟨⟨rfl, rfl⟩, ⟨Nat.le_of_ble_eq_true rfl, Nat.le_of_ble_eq_true rfl⟩, Nat.zero_le _, Nat.zero_le _⟩ rfl (Nat.le_of_ble_eq_true rfl) dJ1_indexOf_4cfef_1 hp) rfl ?_
  refine J_if_ne (tgt := 9) (pc' := 7) F dJ1_indexOf_4cfef_4 (by decide) rfl (fun c4 => ?_) (fun c4 => ?_)
  · refine J_iload_n (pc' := 10) (q := 2) F dJ1_indexOf_4cfef_9 rfl rfl ?_
    refine J_iconst (pc' := 11) (v := 0) F dJ1_indexOf_4cfef_10 (by decide) rfl ?_
    refine J_mmax (pc' := 14) F E dJ1_indexOf_4cfef_11 kw_279 kw_280 kw_12 kw_281 (Nat.le_of_ble_eq_true rfl) (Nat.le_of_ble_eq_true rfl) (Nat.zero_le _) (Nat.zero_le _) rfl ?_
    refine J_vali (y := 0) (by decide) ?_
    refine J_istore_n (pc' := 15) [1, 2, 0, 3] [(0, .ref (z 6)), (1, .int x1), (2, .int 0), (3, .int 5)] F dJ1_indexOf_4cfef_14 rfl (jL_of E (show 2 < 4 by decide)) rfl rfl ?_
    refine J_iload_n (pc' := 16) (q := 3) F dJ1_indexOf_4cfef_15 rfl rfl ?_
    refine J_aload_n (pc' := 17) (q := 0) F dJ1_indexOf_4cfef_16 rfl rfl ?_
    refine J_tlen (v := 5) (pc' := 18) F dJ1_indexOf_4cfef_17 (fun _ _ _ h => ((jStS h).1 1 (by decide)).2.2.2) rfl rfl ?_
    refine J_mmin (pc' := 21) F E dJ1_indexOf_4cfef_18 kw_282 kw_283 kw_12 kw_284 (Nat.le_of_ble_eq_true rfl) (Nat.le_of_ble_eq_true rfl) (Nat.zero_le _) (Nat.zero_le _) rfl ?_
    refine J_vali (y := 5) (by decide) ?_
    refine J_istore_n (pc' := 22) [1, 2, 3, 0] [(0, .ref (z 6)), (1, .int x1), (2, .int 0), (3, .int 5)] F dJ1_indexOf_4cfef_21 rfl (jL_of E (show 3 < 4 by decide)) rfl rfl ?_
    refine J_iload_n (pc' := 23) (q := 2) F dJ1_indexOf_4cfef_22 rfl rfl ?_
    refine J_iload_n (pc' := 24) (q := 3) F dJ1_indexOf_4cfef_23 rfl rfl ?_
    refine J_icmp_lt (tgt := 29) (pc' := 27) F dJ1_indexOf_4cfef_24 (by decide) rfl (fun _ => ?_) (fun c9 => absurd (by decide) c9)
    refine J_aload_n (pc' := 30) (q := 0) F dJ1_indexOf_4cfef_29 rfl rfl ?_
    refine J_iload_n (pc' := 31) (q := 1) F dJ1_indexOf_4cfef_30 rfl rfl ?_
    refine J_iload_n (pc' := 32) (q := 2) F dJ1_indexOf_4cfef_31 rfl rfl ?_
    refine J_iload_n (pc' := 33) (q := 3) F dJ1_indexOf_4cfef_32 rfl rfl ?_
    refine J_goRie (wc := []) (av := [.ref (z 6), .int x1, .int 0, .int 5]) (rest := []) (v := zJ1_indexOfChar_4cfef x1) (pc' := 36) F E (fun _ _ => jP_nil _ _) (fun H locs hI hp => jrun_S F E (c_J1_indexOfChar_4cfef l D cI cZ z x1) kw_285 kw_286 rfl kw_287 kw_9 oJ1_indexOfChar_4cfef ⟨⟨rfl, rfl⟩, ⟨Nat.le_of_ble_eq_true rfl, Nat.le_of_ble_eq_true rfl⟩, Nat.zero_le _, Nat.zero_le _⟩ rfl (Nat.le_of_ble_eq_true rfl) dJ1_indexOf_4cfef_33 hp) rfl ?_
    exact J_iretR F hR dJ1_indexOf_4cfef_36 rfl (by show _ = zJ1_indexOf_4cfef x1; unfold zJ1_indexOf_4cfef; rw [if_neg c4])
  · refine J_iconst (pc' := 8) (v := (-1)) F dJ1_indexOf_4cfef_7 (by decide) rfl ?_
    exact J_iretR F hR dJ1_indexOf_4cfef_8 rfl (by show _ = zJ1_indexOf_4cfef x1; unfold zJ1_indexOf_4cfef; rw [if_pos c4])
def zJ0_indexOf_7cf53  (x1 : Int32) : Int32 := zJ1_indexOf_4cfef x1
abbrev rm_J0_indexOf_7cf53 : Room := { frames := 2, cells := 0, slots := 0, locals := 48 }
set_option maxHeartbeats 4000000 in
set_option maxRecDepth 100000 in
theorem c_J0_indexOf_7cf53 (l : Launch) (D : va_G) (cI cZ : ClassId) (z : Nat → Nat) (x1 : Int32)  : cRi l yJ0_indexOf_7cf53 ww_J0_indexOf_7cf53 rm_J0_indexOf_7cf53 D cI cZ z [] [.ref (z 4), .int x1, .int 0] (fun r => r = zJ0_indexOf_7cf53 x1) := by
  refine cRi.of (cc := cJ0_indexOf_7cf53) (maxL := 3) (rt := .int) (by decide) rfl (Nat.le_of_ble_eq_true rfl) (fun X F E hR => ?_)
  refine J_lv [0, 1, 2] (lv' := [(0, .ref (z 4)), (1, .int x1), (2, .int 0)]) rfl ?_
  refine J_aload_n (pc' := 1) (q := 0) F dJ0_indexOf_7cf53_0 rfl rfl ?_
  refine J_goRie (wc := []) (av := [.ref (z 4)]) (rest := []) (v := 1) (pc' := 4) F E (fun _ _ => jP_nil _ _) (fun H locs hI hp => jrun_VS (i := 1) (As := []) F E (c_J0_isLatin1_4 l D cI cZ z ) kw_229 kw_230 kw_231 rfl kw_232 kw_8 oJ0_isLatin1_aae02 ⟨⟨rfl, rfl⟩, ⟨Nat.le_of_ble_eq_true rfl, Nat.le_of_ble_eq_true rfl⟩, Nat.zero_le _, Nat.zero_le _⟩ (by decide) rfl rfl (Nat.le_of_ble_eq_true rfl) dJ0_indexOf_7cf53_1 hI hp) rfl ?_
  refine J_if_eq (tgt := 23) (pc' := 7) F dJ0_indexOf_7cf53_4 (by decide) rfl (fun c9 => absurd c9 (by decide)) (fun _ => ?_)
  refine J_aload_n (pc' := 8) (q := 0) F dJ0_indexOf_7cf53_7 rfl rfl ?_
  refine J_getO (v := .ref (z 6)) (pc' := 11) F dJ0_indexOf_7cf53_8 kw_891 (fun _ _ _ h => ((jStS h).1 1 (by decide)).2.2.1) rfl rfl ?_
  refine J_iload_n (pc' := 12) (q := 1) F dJ0_indexOf_7cf53_11 rfl rfl ?_
  refine J_iload_n (pc' := 13) (q := 2) F dJ0_indexOf_7cf53_12 rfl rfl ?_
  refine J_aload_n (pc' := 14) (q := 0) F dJ0_indexOf_7cf53_13 rfl rfl ?_
  refine J_goRie (wc := []) (av := [.ref (z 4)]) (rest := [.int 0, .int x1, .ref (z 6)]) (v := 5) (pc' := 17) F E (fun _ _ => jP_nil _ _) (fun H locs hI hp => jrun_VS (i := 1) (As := []) F E (c_J0_length_4 l D cI cZ z ) kw_272 kw_216 kw_217 rfl kw_218 kw_8 oJ0_length_8abf5 ⟨⟨rfl, rfl⟩, ⟨Nat.le_of_ble_eq_true rfl, Nat.le_of_ble_eq_true rfl⟩, Nat.zero_le _, Nat.zero_le _⟩ (by decide) rfl rfl (Nat.le_of_ble_eq_true rfl) dJ0_indexOf_7cf53_14 hI hp) rfl ?_
  refine J_goRie (wc := []) (av := [.ref (z 6), .int x1, .int 0, .int 5]) (rest := []) (v := zJ1_indexOf_4cfef x1) (pc' := 20) F E (fun _ _ => jP_nil _ _) (fun H locs hI hp => jrun_S F E (c_J1_indexOf_4cfef l D cI cZ z x1) kw_273 kw_274 rfl kw_275 kw_9 oJ1_indexOf_4cfef ⟨⟨rfl, rfl⟩, ⟨Nat.le_of_ble_eq_true rfl, Nat.le_of_ble_eq_true rfl⟩, Nat.zero_le _, Nat.zero_le _⟩ rfl (Nat.le_of_ble_eq_true rfl) dJ0_indexOf_7cf53_17 hp) rfl ?_
  refine J_goto (tgt := 36) F dJ0_indexOf_7cf53_20 (by decide) ?_
  exact J_iretR F hR dJ0_indexOf_7cf53_36 rfl rfl
def zJ0_indexOf_0f7a4  (x1 : Int32) : Int32 := zJ0_indexOf_7cf53 x1
abbrev rm_J0_indexOf_0f7a4 : Room := { frames := 3, cells := 0, slots := 0, locals := 70 }
set_option maxHeartbeats 4000000 in
set_option maxRecDepth 100000 in
theorem c_J0_indexOf_0f7a4 (l : Launch) (D : va_G) (cI cZ : ClassId) (z : Nat → Nat) (x1 : Int32)  : cRi l yJ0_indexOf_0f7a4 ww_J0_indexOf_0f7a4 rm_J0_indexOf_0f7a4 D cI cZ z [] [.ref (z 4), .int x1] (fun r => r = zJ0_indexOf_0f7a4 x1) := by
  refine cRi.of (cc := cJ0_indexOf_0f7a4) (maxL := 2) (rt := .int) (by decide) rfl (Nat.le_of_ble_eq_true rfl) (fun X F E hR => ?_)
  refine J_lv [0, 1] (lv' := [(0, .ref (z 4)), (1, .int x1)]) rfl ?_
  refine J_aload_n (pc' := 1) (q := 0) F dJ0_indexOf_0f7a4_0 rfl rfl ?_
  refine J_iload_n (pc' := 2) (q := 1) F dJ0_indexOf_0f7a4_1 rfl rfl ?_
  refine J_iconst (pc' := 3) (v := 0) F dJ0_indexOf_0f7a4_2 (by decide) rfl ?_
  refine J_goRie (wc := []) (av := [.ref (z 4), .int x1, .int 0]) (rest := []) (v := zJ0_indexOf_7cf53 x1) (pc' := 6) F E (fun _ _ => jP_nil _ _) (fun H locs hI hp => jrun_VS (i := 1) (As := [.int x1, .int 0]) F E (c_J0_indexOf_7cf53 l D cI cZ z x1) kw_268 kw_269 kw_270 rfl kw_271 kw_8 oJ0_indexOf_7cf53 ⟨⟨rfl, rfl⟩, ⟨Nat.le_of_ble_eq_true rfl, Nat.le_of_ble_eq_true rfl⟩, Nat.zero_le _, Nat.zero_le _⟩ (by decide) rfl rfl (Nat.le_of_ble_eq_true rfl) dJ0_indexOf_0f7a4_3 hI hp) rfl ?_
  exact J_iretR F hR dJ0_indexOf_0f7a4_6 rfl rfl
end
