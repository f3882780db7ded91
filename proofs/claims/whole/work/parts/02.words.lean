/-! the words of the tables that a call may carry along, and each of them by its place -/
def wsG : List Cond := lw_tbl.filter goodWord
theorem wsG_in : ∀ w ∈ wsG, w ∈ lw_tbl := fun w h => (List.mem_filter.mp h).1
theorem wsG_good : ∀ w ∈ wsG, goodWord w = true := fun w h => (List.mem_filter.mp h).2
theorem mG1 {w : Cond} (i : Nat) (h : tables_1_1[i]? = some w) (hg : goodWord w = true) : w ∈ wsG := List.mem_filter.mpr ⟨List.mem_append_right _ (List.mem_append_left _ (List.mem_of_getElem? h)), hg⟩
theorem mG2 {w : Cond} (i : Nat) (h : tables_1_2[i]? = some w) (hg : goodWord w = true) : w ∈ wsG := List.mem_filter.mpr ⟨List.mem_append_right _ (List.mem_append_right _ (List.mem_append_left _ (List.mem_of_getElem? h))), hg⟩
theorem mG3 {w : Cond} (i : Nat) (h : tables_1_3[i]? = some w) (hg : goodWord w = true) : w ∈ wsG := List.mem_filter.mpr ⟨List.mem_append_right _ (List.mem_append_right _ (List.mem_append_right _ (List.mem_append_left _ (List.mem_of_getElem? h)))), hg⟩
theorem mG4 {w : Cond} (i : Nat) (h : tables_1_4[i]? = some w) (hg : goodWord w = true) : w ∈ wsG := List.mem_filter.mpr ⟨List.mem_append_right _ (List.mem_append_right _ (List.mem_append_right _ (List.mem_append_right _ (List.mem_of_getElem? h)))), hg⟩
theorem mGs {w : Cond} (i : Nat) (h : (k2_sels lw_privs)[i]? = some w) (hg : goodWord w = true) : w ∈ wsG := List.mem_filter.mpr ⟨List.mem_append_left _ (List.mem_of_getElem? h), hg⟩
theorem kw_0 : (Jvm.Cond.initialized "EvenHoldLaw") ∈ wsG := mG1 0 rfl rfl
theorem kw_1 : (Jvm.Cond.initialized "EvenHold") ∈ wsG := mG1 1 rfl rfl
theorem kw_2 : (Jvm.Cond.initialized "EvenHold$Lighter") ∈ wsG := mG1 2 rfl rfl
theorem kw_3 : (Jvm.Cond.initialized "EvenHold$Now") ∈ wsG := mG1 3 rfl rfl
theorem kw_4 : (Jvm.Cond.initialized "EvenHold$Outlook") ∈ wsG := mG1 4 rfl rfl
theorem kw_5 : (Jvm.Cond.initialized "EvenHold$Easing") ∈ wsG := mG1 5 rfl rfl
theorem kw_6 : (Jvm.Cond.initialized "EvenHold$Fit") ∈ wsG := mG1 6 rfl rfl
theorem kw_7 : (Jvm.Cond.initialized "EvenHoldModel") ∈ wsG := mG1 7 rfl rfl
theorem kw_8 : (Jvm.Cond.initialized "java/lang/String") ∈ wsG := mG1 8 rfl rfl
theorem kw_9 : (Jvm.Cond.initialized "java/lang/StringLatin1") ∈ wsG := mG1 9 rfl rfl
theorem kw_10 : (Jvm.Cond.initialized "jdk/internal/util/Preconditions") ∈ wsG := mG1 10 rfl rfl
theorem kw_11 : (Jvm.Cond.initialized "java/lang/StringUTF16") ∈ wsG := mG1 11 rfl rfl
theorem kw_12 : (Jvm.Cond.initialized "java/lang/Math") ∈ wsG := mG1 12 rfl rfl
theorem kw_13 : (Jvm.Cond.initialized "java/lang/Character") ∈ wsG := mG1 13 rfl rfl
theorem kw_14 : (Jvm.Cond.initialized "java/util/Arrays") ∈ wsG := mG1 14 rfl rfl
theorem kw_15 : (Jvm.Cond.classLink "EvenHoldLaw" (7 : Nat) "EvenHold") ∈ wsG := mG1 15 rfl rfl
theorem kw_16 : (Jvm.Cond.instantiable "EvenHold" (12 : Nat)) ∈ wsG := mG1 16 rfl rfl
theorem kw_17 : (Jvm.Cond.methodLink "EvenHoldLaw" (9 : Nat) ({ cls := "EvenHold", name := "<init>", desc := "()V" } : Jvm.MethodName)) ∈ wsG := mG1 17 rfl rfl
theorem kw_18 : (Jvm.Cond.instanceMethod ({ cls := "EvenHold", name := "<init>", desc := "()V" } : Jvm.MethodName)) ∈ wsG := mG1 18 rfl rfl
theorem kw_19 : (Jvm.Cond.code ({ cls := "EvenHold", name := "<init>", desc := "()V" } : Jvm.MethodName) prog_1_method_1_code (1 : Nat) (Option.none : Option Jvm.ClassFile.FieldType)) ∈ wsG := mG1 19 rfl rfl
theorem kw_20 : (Jvm.Cond.methodLink "EvenHold" (1 : Nat) ({ cls := "java/lang/Object", name := "<init>", desc := "()V" } : Jvm.MethodName)) ∈ wsG := mG1 20 rfl rfl
theorem kw_21 : (Jvm.Cond.instanceMethod ({ cls := "java/lang/Object", name := "<init>", desc := "()V" } : Jvm.MethodName)) ∈ wsG := mG1 21 rfl rfl
theorem kw_22 : (Jvm.Cond.code ({ cls := "java/lang/Object", name := "<init>", desc := "()V" } : Jvm.MethodName) object_method_1_code (1 : Nat) (Option.none : Option Jvm.ClassFile.FieldType)) ∈ wsG := mG1 22 rfl rfl
theorem kw_23 : (Jvm.Cond.classLink "EvenHold" (17 : Nat) "EvenHold$Lighter") ∈ wsG := mG1 23 rfl rfl
theorem kw_24 : (Jvm.Cond.instantiable "EvenHold$Lighter" (5 : Nat)) ∈ wsG := mG1 24 rfl rfl
theorem kw_26 : (Jvm.Cond.instanceMethod ({ cls := "EvenHold$Lighter", name := "<init>", desc := "()V" } : Jvm.MethodName)) ∈ wsG := mG1 26 rfl rfl
theorem kw_27 : (Jvm.Cond.code ({ cls := "EvenHold$Lighter", name := "<init>", desc := "()V" } : Jvm.MethodName) prog_4_method_1_code (1 : Nat) (Option.none : Option Jvm.ClassFile.FieldType)) ∈ wsG := mG1 27 rfl rfl
theorem kw_28 : (Jvm.Cond.methodLink "EvenHold$Lighter" (3 : Nat) ({ cls := "java/lang/Object", name := "<init>", desc := "()V" } : Jvm.MethodName)) ∈ wsG := mG1 28 rfl rfl
theorem kw_29 : (Jvm.Cond.fieldLink "EvenHold$Lighter" (9 : Nat) "EvenHold$Lighter" "kind" "[I") ∈ wsG := mG1 29 rfl rfl
theorem kw_30 : (Jvm.Cond.fieldLink "EvenHold" (100 : Nat) "EvenHold$Lighter" "kind" "[I") ∈ wsG := mG1 30 rfl rfl
theorem kw_31 : (Jvm.Cond.fieldLink "EvenHold$Lighter" (15 : Nat) "EvenHold$Lighter" "taking" "[I") ∈ wsG := mG1 31 rfl rfl
theorem kw_32 : (Jvm.Cond.fieldLink "EvenHold" (111 : Nat) "EvenHold$Lighter" "taking" "[I") ∈ wsG := mG1 32 rfl rfl
theorem kw_33 : (Jvm.Cond.fieldLink "EvenHold$Lighter" (18 : Nat) "EvenHold$Lighter" "carrying" "[I") ∈ wsG := mG1 33 rfl rfl
theorem kw_34 : (Jvm.Cond.fieldLink "EvenHold" (114 : Nat) "EvenHold$Lighter" "carrying" "[I") ∈ wsG := mG1 34 rfl rfl
theorem kw_35 : (Jvm.Cond.fieldLink "EvenHold$Lighter" (21 : Nat) "EvenHold$Lighter" "bend" "I") ∈ wsG := mG1 35 rfl rfl
theorem kw_36 : (Jvm.Cond.fieldLink "EvenHold" (198 : Nat) "EvenHold$Lighter" "bend" "I") ∈ wsG := mG1 36 rfl rfl
theorem kw_37 : (Jvm.Cond.fieldLink "EvenHold$Lighter" (25 : Nat) "EvenHold$Lighter" "list" "I") ∈ wsG := mG1 37 rfl rfl
theorem kw_38 : (Jvm.Cond.fieldLink "EvenHold$Easing" (45 : Nat) "EvenHold$Lighter" "list" "I") ∈ wsG := mG1 38 rfl rfl
theorem kw_39 : (Jvm.Cond.fieldLink "EvenHold" (201 : Nat) "EvenHold$Lighter" "list" "I") ∈ wsG := mG1 39 rfl rfl
theorem kw_40 : (Jvm.Cond.laysFinal "EvenHold$Lighter" "EvenHold$Lighter" "kind" "[I") ∈ wsG := mG1 40 rfl rfl
theorem kw_42 : (Jvm.Cond.laysFinal "EvenHold$Lighter" "EvenHold$Lighter" "taking" "[I") ∈ wsG := mG1 42 rfl rfl
theorem kw_44 : (Jvm.Cond.laysFinal "EvenHold$Lighter" "EvenHold$Lighter" "carrying" "[I") ∈ wsG := mG1 44 rfl rfl
theorem kw_46 : (Jvm.Cond.lays "EvenHold$Lighter" "EvenHold$Lighter" "bend" "I") ∈ wsG := mG1 46 rfl rfl
theorem kw_48 : (Jvm.Cond.lays "EvenHold$Lighter" "EvenHold$Lighter" "list" "I") ∈ wsG := mG1 48 rfl rfl
theorem kw_51 : (Jvm.Cond.arrayClass Jvm.ClassFile.FieldType.int) ∈ wsG := mG1 51 rfl rfl
theorem kw_52 : (Jvm.Cond.classLink "EvenHold" (28 : Nat) "EvenHold$Now") ∈ wsG := mG1 52 rfl rfl
theorem kw_53 : (Jvm.Cond.instantiable "EvenHold$Now" (6 : Nat)) ∈ wsG := mG1 53 rfl rfl
theorem kw_55 : (Jvm.Cond.instanceMethod ({ cls := "EvenHold$Now", name := "<init>", desc := "()V" } : Jvm.MethodName)) ∈ wsG := mG1 55 rfl rfl
theorem kw_56 : (Jvm.Cond.code ({ cls := "EvenHold$Now", name := "<init>", desc := "()V" } : Jvm.MethodName) prog_5_method_1_code (1 : Nat) (Option.none : Option Jvm.ClassFile.FieldType)) ∈ wsG := mG1 56 rfl rfl
theorem kw_57 : (Jvm.Cond.methodLink "EvenHold$Now" (3 : Nat) ({ cls := "java/lang/Object", name := "<init>", desc := "()V" } : Jvm.MethodName)) ∈ wsG := mG1 57 rfl rfl
theorem kw_58 : (Jvm.Cond.fieldLink "EvenHold$Now" (9 : Nat) "EvenHold$Now" "lying" "I") ∈ wsG := mG1 58 rfl rfl
theorem kw_59 : (Jvm.Cond.fieldLink "EvenHold$Fit" (30 : Nat) "EvenHold$Now" "lying" "I") ∈ wsG := mG1 59 rfl rfl
theorem kw_60 : (Jvm.Cond.fieldLink "EvenHold" (89 : Nat) "EvenHold$Now" "lying" "I") ∈ wsG := mG1 60 rfl rfl
theorem kw_61 : (Jvm.Cond.fieldLink "EvenHold$Now" (15 : Nat) "EvenHold$Now" "aground" "Z") ∈ wsG := mG1 61 rfl rfl
theorem kw_62 : (Jvm.Cond.fieldLink "EvenHold" (119 : Nat) "EvenHold$Now" "aground" "Z") ∈ wsG := mG1 62 rfl rfl
theorem kw_63 : (Jvm.Cond.fieldLink "EvenHold$Now" (19 : Nat) "EvenHold$Now" "minutes" "I") ∈ wsG := mG1 63 rfl rfl
theorem kw_64 : (Jvm.Cond.fieldLink "EvenHold" (148 : Nat) "EvenHold$Now" "minutes" "I") ∈ wsG := mG1 64 rfl rfl
theorem kw_65 : (Jvm.Cond.fieldLink "EvenHold$Now" (22 : Nat) "EvenHold$Now" "out" "I") ∈ wsG := mG1 65 rfl rfl
theorem kw_66 : (Jvm.Cond.fieldLink "EvenHold" (145 : Nat) "EvenHold$Now" "out" "I") ∈ wsG := mG1 66 rfl rfl
theorem kw_67 : (Jvm.Cond.fieldLink "EvenHold$Now" (25 : Nat) "EvenHold$Now" "bents" "[I") ∈ wsG := mG1 67 rfl rfl
theorem kw_68 : (Jvm.Cond.fieldLink "EvenHold$Fit" (43 : Nat) "EvenHold$Now" "bents" "[I") ∈ wsG := mG1 68 rfl rfl
theorem kw_69 : (Jvm.Cond.fieldLink "EvenHold" (175 : Nat) "EvenHold$Now" "bents" "[I") ∈ wsG := mG1 69 rfl rfl
theorem kw_70 : (Jvm.Cond.fieldLink "EvenHold$Now" (29 : Nat) "EvenHold$Now" "told" "I") ∈ wsG := mG1 70 rfl rfl
theorem kw_71 : (Jvm.Cond.fieldLink "EvenHold$Fit" (21 : Nat) "EvenHold$Now" "told" "I") ∈ wsG := mG1 71 rfl rfl
theorem kw_72 : (Jvm.Cond.fieldLink "EvenHold" (172 : Nat) "EvenHold$Now" "told" "I") ∈ wsG := mG1 72 rfl rfl
theorem kw_73 : (Jvm.Cond.lays "EvenHold$Now" "EvenHold$Now" "lying" "I") ∈ wsG := mG1 73 rfl rfl
theorem kw_75 : (Jvm.Cond.lays "EvenHold$Now" "EvenHold$Now" "aground" "Z") ∈ wsG := mG1 75 rfl rfl
theorem kw_77 : (Jvm.Cond.lays "EvenHold$Now" "EvenHold$Now" "minutes" "I") ∈ wsG := mG1 77 rfl rfl
theorem kw_79 : (Jvm.Cond.lays "EvenHold$Now" "EvenHold$Now" "out" "I") ∈ wsG := mG1 79 rfl rfl
theorem kw_81 : (Jvm.Cond.laysFinal "EvenHold$Now" "EvenHold$Now" "bents" "[I") ∈ wsG := mG1 81 rfl rfl
theorem kw_83 : (Jvm.Cond.lays "EvenHold$Now" "EvenHold$Now" "told" "I") ∈ wsG := mG1 83 rfl rfl
theorem kw_86 : (Jvm.Cond.classLink "EvenHold" (47 : Nat) "EvenHold$Outlook") ∈ wsG := mG1 86 rfl rfl
theorem kw_87 : (Jvm.Cond.instantiable "EvenHold$Outlook" (11 : Nat)) ∈ wsG := mG1 87 rfl rfl
theorem kw_89 : (Jvm.Cond.instanceMethod ({ cls := "EvenHold$Outlook", name := "<init>", desc := "()V" } : Jvm.MethodName)) ∈ wsG := mG1 89 rfl rfl
theorem kw_90 : (Jvm.Cond.code ({ cls := "EvenHold$Outlook", name := "<init>", desc := "()V" } : Jvm.MethodName) prog_6_method_1_code (1 : Nat) (Option.none : Option Jvm.ClassFile.FieldType)) ∈ wsG := mG1 90 rfl rfl
theorem kw_91 : (Jvm.Cond.methodLink "EvenHold$Outlook" (3 : Nat) ({ cls := "java/lang/Object", name := "<init>", desc := "()V" } : Jvm.MethodName)) ∈ wsG := mG1 91 rfl rfl
theorem kw_92 : (Jvm.Cond.fieldLink "EvenHold$Outlook" (9 : Nat) "EvenHold$Outlook" "minutes" "[I") ∈ wsG := mG1 92 rfl rfl
theorem kw_93 : (Jvm.Cond.fieldLink "EvenHold" (157 : Nat) "EvenHold$Outlook" "minutes" "[I") ∈ wsG := mG1 93 rfl rfl
theorem kw_94 : (Jvm.Cond.fieldLink "EvenHold$Outlook" (15 : Nat) "EvenHold$Outlook" "first" "[I") ∈ wsG := mG1 94 rfl rfl
theorem kw_95 : (Jvm.Cond.fieldLink "EvenHold" (159 : Nat) "EvenHold$Outlook" "first" "[I") ∈ wsG := mG1 95 rfl rfl
theorem kw_96 : (Jvm.Cond.fieldLink "EvenHold$Outlook" (18 : Nat) "EvenHold$Outlook" "waiting" "[I") ∈ wsG := mG1 96 rfl rfl
theorem kw_97 : (Jvm.Cond.fieldLink "EvenHold$Outlook" (21 : Nat) "EvenHold$Outlook" "waitingIn" "[I") ∈ wsG := mG1 97 rfl rfl
theorem kw_98 : (Jvm.Cond.fieldLink "EvenHold$Outlook" (24 : Nat) "EvenHold$Outlook" "waitingInAll" "I") ∈ wsG := mG1 98 rfl rfl
theorem kw_99 : (Jvm.Cond.fieldLink "EvenHold$Outlook" (28 : Nat) "EvenHold$Outlook" "comeTo" "I") ∈ wsG := mG1 99 rfl rfl
theorem kw_100 : (Jvm.Cond.fieldLink "EvenHold" (165 : Nat) "EvenHold$Outlook" "comeTo" "I") ∈ wsG := mG1 100 rfl rfl
theorem kw_101 : (Jvm.Cond.fieldLink "EvenHold$Outlook" (31 : Nat) "EvenHold$Outlook" "mostOut" "I") ∈ wsG := mG1 101 rfl rfl
theorem kw_102 : (Jvm.Cond.fieldLink "EvenHold" (162 : Nat) "EvenHold$Outlook" "mostOut" "I") ∈ wsG := mG1 102 rfl rfl
theorem kw_103 : (Jvm.Cond.fieldLink "EvenHold$Outlook" (34 : Nat) "EvenHold$Outlook" "knownRead" "I") ∈ wsG := mG1 103 rfl rfl
theorem kw_104 : (Jvm.Cond.fieldLink "EvenHold$Outlook" (37 : Nat) "EvenHold$Outlook" "knownLying" "I") ∈ wsG := mG1 104 rfl rfl
theorem kw_105 : (Jvm.Cond.fieldLink "EvenHold$Outlook" (40 : Nat) "EvenHold$Outlook" "knownTons" "I") ∈ wsG := mG1 105 rfl rfl
theorem kw_106 : (Jvm.Cond.fieldLink "EvenHold$Outlook" (43 : Nat) "EvenHold$Outlook" "knownBend" "I") ∈ wsG := mG1 106 rfl rfl
theorem kw_107 : (Jvm.Cond.laysFinal "EvenHold$Outlook" "EvenHold$Outlook" "minutes" "[I") ∈ wsG := mG1 107 rfl rfl
theorem kw_109 : (Jvm.Cond.laysFinal "EvenHold$Outlook" "EvenHold$Outlook" "first" "[I") ∈ wsG := mG1 109 rfl rfl
theorem kw_111 : (Jvm.Cond.laysFinal "EvenHold$Outlook" "EvenHold$Outlook" "waiting" "[I") ∈ wsG := mG1 111 rfl rfl
theorem kw_113 : (Jvm.Cond.laysFinal "EvenHold$Outlook" "EvenHold$Outlook" "waitingIn" "[I") ∈ wsG := mG1 113 rfl rfl
theorem kw_115 : (Jvm.Cond.lays "EvenHold$Outlook" "EvenHold$Outlook" "waitingInAll" "I") ∈ wsG := mG1 115 rfl rfl
theorem kw_117 : (Jvm.Cond.lays "EvenHold$Outlook" "EvenHold$Outlook" "comeTo" "I") ∈ wsG := mG1 117 rfl rfl
theorem kw_119 : (Jvm.Cond.lays "EvenHold$Outlook" "EvenHold$Outlook" "mostOut" "I") ∈ wsG := mG1 119 rfl rfl
theorem kw_121 : (Jvm.Cond.lays "EvenHold$Outlook" "EvenHold$Outlook" "knownRead" "I") ∈ wsG := mG1 121 rfl rfl
theorem kw_123 : (Jvm.Cond.lays "EvenHold$Outlook" "EvenHold$Outlook" "knownLying" "I") ∈ wsG := mG1 123 rfl rfl
theorem kw_125 : (Jvm.Cond.lays "EvenHold$Outlook" "EvenHold$Outlook" "knownTons" "I") ∈ wsG := mG1 125 rfl rfl
theorem kw_127 : (Jvm.Cond.lays "EvenHold$Outlook" "EvenHold$Outlook" "knownBend" "I") ∈ wsG := mG1 127 rfl rfl
theorem kw_130 : (Jvm.Cond.classLink "EvenHold" (54 : Nat) "EvenHold$Easing") ∈ wsG := mG1 130 rfl rfl
theorem kw_131 : (Jvm.Cond.instantiable "EvenHold$Easing" (2 : Nat)) ∈ wsG := mG1 131 rfl rfl
theorem kw_133 : (Jvm.Cond.instanceMethod ({ cls := "EvenHold$Easing", name := "<init>", desc := "()V" } : Jvm.MethodName)) ∈ wsG := mG1 133 rfl rfl
theorem kw_134 : (Jvm.Cond.code ({ cls := "EvenHold$Easing", name := "<init>", desc := "()V" } : Jvm.MethodName) prog_2_method_1_code (1 : Nat) (Option.none : Option Jvm.ClassFile.FieldType)) ∈ wsG := mG1 134 rfl rfl
theorem kw_135 : (Jvm.Cond.methodLink "EvenHold$Easing" (3 : Nat) ({ cls := "java/lang/Object", name := "<init>", desc := "()V" } : Jvm.MethodName)) ∈ wsG := mG1 135 rfl rfl
theorem kw_136 : (Jvm.Cond.fieldLink "EvenHold$Easing" (9 : Nat) "EvenHold$Easing" "next" "[I") ∈ wsG := mG1 136 rfl rfl
theorem kw_137 : (Jvm.Cond.fieldLink "EvenHold$Easing" (15 : Nat) "EvenHold$Easing" "head" "[I") ∈ wsG := mG1 137 rfl rfl
theorem kw_138 : (Jvm.Cond.laysFinal "EvenHold$Easing" "EvenHold$Easing" "next" "[I") ∈ wsG := mG1 138 rfl rfl
theorem kw_140 : (Jvm.Cond.laysFinal "EvenHold$Easing" "EvenHold$Easing" "head" "[I") ∈ wsG := mG1 140 rfl rfl
theorem kw_143 : (Jvm.Cond.classLink "EvenHold" (61 : Nat) "EvenHold$Fit") ∈ wsG := mG1 143 rfl rfl
theorem kw_144 : (Jvm.Cond.instantiable "EvenHold$Fit" (3 : Nat)) ∈ wsG := mG1 144 rfl rfl
theorem kw_146 : (Jvm.Cond.instanceMethod ({ cls := "EvenHold$Fit", name := "<init>", desc := "()V" } : Jvm.MethodName)) ∈ wsG := mG1 146 rfl rfl
theorem kw_147 : (Jvm.Cond.code ({ cls := "EvenHold$Fit", name := "<init>", desc := "()V" } : Jvm.MethodName) prog_3_method_1_code (1 : Nat) (Option.none : Option Jvm.ClassFile.FieldType)) ∈ wsG := mG1 147 rfl rfl
theorem kw_148 : (Jvm.Cond.methodLink "EvenHold$Fit" (3 : Nat) ({ cls := "java/lang/Object", name := "<init>", desc := "()V" } : Jvm.MethodName)) ∈ wsG := mG1 148 rfl rfl
theorem kw_149 : (Jvm.Cond.fieldLink "EvenHold$Fit" (9 : Nat) "EvenHold$Fit" "rows" "I") ∈ wsG := mG1 149 rfl rfl
theorem kw_150 : (Jvm.Cond.fieldLink "EvenHold" (181 : Nat) "EvenHold$Fit" "rows" "I") ∈ wsG := mG1 150 rfl rfl
theorem kw_151 : (Jvm.Cond.fieldLink "EvenHold$Fit" (15 : Nat) "EvenHold$Fit" "firsts" "I") ∈ wsG := mG1 151 rfl rfl
theorem kw_152 : (Jvm.Cond.fieldLink "EvenHold" (184 : Nat) "EvenHold$Fit" "firsts" "I") ∈ wsG := mG1 152 rfl rfl
theorem kw_153 : (Jvm.Cond.fieldLink "EvenHold$Fit" (18 : Nat) "EvenHold$Fit" "leastFirst" "I") ∈ wsG := mG1 153 rfl rfl
theorem kw_154 : (Jvm.Cond.fieldLink "EvenHold" (187 : Nat) "EvenHold$Fit" "leastFirst" "I") ∈ wsG := mG1 154 rfl rfl
theorem kw_155 : (Jvm.Cond.lays "EvenHold$Fit" "EvenHold$Fit" "rows" "I") ∈ wsG := mG1 155 rfl rfl
theorem kw_157 : (Jvm.Cond.lays "EvenHold$Fit" "EvenHold$Fit" "firsts" "I") ∈ wsG := mG1 157 rfl rfl
theorem kw_159 : (Jvm.Cond.lays "EvenHold$Fit" "EvenHold$Fit" "leastFirst" "I") ∈ wsG := mG1 159 rfl rfl
theorem kw_162 : (Jvm.Cond.fieldLink "EvenHold" (9 : Nat) "EvenHold" "page" "[I") ∈ wsG := mG1 162 rfl rfl
theorem kw_163 : (Jvm.Cond.fieldLink "EvenHold" (13 : Nat) "EvenHold" "letters" "I") ∈ wsG := mG1 163 rfl rfl
theorem kw_164 : (Jvm.Cond.fieldLink "EvenHold" (20 : Nat) "EvenHold" "lighter" "LEvenHold$Lighter;") ∈ wsG := mG1 164 rfl rfl
theorem kw_165 : (Jvm.Cond.fieldLink "EvenHold" (24 : Nat) "EvenHold" "held" "Z") ∈ wsG := mG1 165 rfl rfl
theorem kw_166 : (Jvm.Cond.fieldLink "EvenHold" (31 : Nat) "EvenHold" "now" "LEvenHold$Now;") ∈ wsG := mG1 166 rfl rfl
theorem kw_167 : (Jvm.Cond.fieldLink "EvenHold" (35 : Nat) "EvenHold" "kept" "LEvenHold$Now;") ∈ wsG := mG1 167 rfl rfl
theorem kw_168 : (Jvm.Cond.fieldLink "EvenHold" (38 : Nat) "EvenHold" "isKept" "Z") ∈ wsG := mG1 168 rfl rfl
theorem kw_169 : (Jvm.Cond.fieldLink "EvenHold" (41 : Nat) "EvenHold" "reads" "I") ∈ wsG := mG1 169 rfl rfl
theorem kw_170 : (Jvm.Cond.fieldLink "EvenHold" (44 : Nat) "EvenHold" "easings" "I") ∈ wsG := mG1 170 rfl rfl
theorem kw_171 : (Jvm.Cond.fieldLink "EvenHold" (50 : Nat) "EvenHold" "outlook" "LEvenHold$Outlook;") ∈ wsG := mG1 171 rfl rfl
theorem kw_172 : (Jvm.Cond.fieldLink "EvenHold" (57 : Nat) "EvenHold" "easing" "LEvenHold$Easing;") ∈ wsG := mG1 172 rfl rfl
theorem kw_173 : (Jvm.Cond.fieldLink "EvenHold" (64 : Nat) "EvenHold" "fit" "LEvenHold$Fit;") ∈ wsG := mG1 173 rfl rfl
theorem kw_174 : (Jvm.Cond.laysFinal "EvenHold" "EvenHold" "page" "[I") ∈ wsG := mG1 174 rfl rfl
theorem kw_176 : (Jvm.Cond.lays "EvenHold" "EvenHold" "letters" "I") ∈ wsG := mG1 176 rfl rfl
theorem kw_178 : (Jvm.Cond.laysFinal "EvenHold" "EvenHold" "lighter" "LEvenHold$Lighter;") ∈ wsG := mG1 178 rfl rfl
theorem kw_180 : (Jvm.Cond.lays "EvenHold" "EvenHold" "held" "Z") ∈ wsG := mG1 180 rfl rfl
theorem kw_182 : (Jvm.Cond.laysFinal "EvenHold" "EvenHold" "now" "LEvenHold$Now;") ∈ wsG := mG1 182 rfl rfl
theorem kw_184 : (Jvm.Cond.laysFinal "EvenHold" "EvenHold" "kept" "LEvenHold$Now;") ∈ wsG := mG1 184 rfl rfl
theorem kw_186 : (Jvm.Cond.lays "EvenHold" "EvenHold" "isKept" "Z") ∈ wsG := mG1 186 rfl rfl
theorem kw_188 : (Jvm.Cond.lays "EvenHold" "EvenHold" "reads" "I") ∈ wsG := mG1 188 rfl rfl
theorem kw_190 : (Jvm.Cond.lays "EvenHold" "EvenHold" "easings" "I") ∈ wsG := mG1 190 rfl rfl
theorem kw_192 : (Jvm.Cond.laysFinal "EvenHold" "EvenHold" "outlook" "LEvenHold$Outlook;") ∈ wsG := mG1 192 rfl rfl
theorem kw_194 : (Jvm.Cond.laysFinal "EvenHold" "EvenHold" "easing" "LEvenHold$Easing;") ∈ wsG := mG1 194 rfl rfl
theorem kw_196 : (Jvm.Cond.laysFinal "EvenHold" "EvenHold" "fit" "LEvenHold$Fit;") ∈ wsG := mG1 196 rfl rfl
theorem kw_199 : (Jvm.Cond.methodLink "EvenHoldLaw" (13 : Nat) ({ cls := "EvenHold", name := "letter", desc := "(I)I" } : Jvm.MethodName)) ∈ wsG := mG1 199 rfl rfl
theorem kw_200 : (Jvm.Cond.instanceMethod ({ cls := "EvenHold", name := "letter", desc := "(I)I" } : Jvm.MethodName)) ∈ wsG := mG1 200 rfl rfl
theorem kw_201 : (Jvm.Cond.selects "EvenHold" ({ cls := "EvenHold", name := "letter", desc := "(I)I" } : Jvm.MethodName) ({ cls := "EvenHold", name := "letter", desc := "(I)I" } : Jvm.MethodName)) ∈ wsG := mG1 201 rfl rfl
theorem kw_202 : (Jvm.Cond.code ({ cls := "EvenHold", name := "letter", desc := "(I)I" } : Jvm.MethodName) prog_1_method_2_code (2 : Nat) (Option.some Jvm.ClassFile.FieldType.int)) ∈ wsG := mG1 202 rfl rfl
theorem kw_203 : (Jvm.Cond.methodLink "EvenHoldLaw" (18 : Nat) ({ cls := "EvenHold", name := "blank", desc := "()I" } : Jvm.MethodName)) ∈ wsG := mG1 203 rfl rfl
theorem kw_204 : (Jvm.Cond.instanceMethod ({ cls := "EvenHold", name := "blank", desc := "()I" } : Jvm.MethodName)) ∈ wsG := mG1 204 rfl rfl
theorem kw_205 : (Jvm.Cond.selects "EvenHold" ({ cls := "EvenHold", name := "blank", desc := "()I" } : Jvm.MethodName) ({ cls := "EvenHold", name := "blank", desc := "()I" } : Jvm.MethodName)) ∈ wsG := mG1 205 rfl rfl
theorem kw_206 : (Jvm.Cond.code ({ cls := "EvenHold", name := "blank", desc := "()I" } : Jvm.MethodName) prog_1_method_3_code (2 : Nat) (Option.some Jvm.ClassFile.FieldType.int)) ∈ wsG := mG1 206 rfl rfl
theorem kw_207 : (Jvm.Cond.methodLink "EvenHoldLaw" (23 : Nat) ({ cls := "EvenHold", name := "fault", desc := "()I" } : Jvm.MethodName)) ∈ wsG := mG1 207 rfl rfl
theorem kw_208 : (Jvm.Cond.instanceMethod ({ cls := "EvenHold", name := "fault", desc := "()I" } : Jvm.MethodName)) ∈ wsG := mG1 208 rfl rfl
theorem kw_209 : (Jvm.Cond.selects "EvenHold" ({ cls := "EvenHold", name := "fault", desc := "()I" } : Jvm.MethodName) ({ cls := "EvenHold", name := "fault", desc := "()I" } : Jvm.MethodName)) ∈ wsG := mG1 209 rfl rfl
theorem kw_210 : (Jvm.Cond.code ({ cls := "EvenHold", name := "fault", desc := "()I" } : Jvm.MethodName) prog_1_method_4_code (2 : Nat) (Option.some Jvm.ClassFile.FieldType.int)) ∈ wsG := mG1 210 rfl rfl
theorem kw_211 : (Jvm.Cond.methodLink "EvenHold" (68 : Nat) ({ cls := "EvenHold", name := "isOfForm", desc := "(II)Z" } : Jvm.MethodName)) ∈ wsG := mG1 211 rfl rfl
theorem kw_212 : (Jvm.Cond.static ({ cls := "EvenHold", name := "isOfForm", desc := "(II)Z" } : Jvm.MethodName)) ∈ wsG := mG1 212 rfl rfl
theorem kw_213 : (Jvm.Cond.code ({ cls := "EvenHold", name := "isOfForm", desc := "(II)Z" } : Jvm.MethodName) prog_1_method_27_code (3 : Nat) (Option.some Jvm.ClassFile.FieldType.boolean)) ∈ wsG := mG1 213 rfl rfl
theorem kw_215 : (Jvm.Cond.methodLink "EvenHold" (74 : Nat) ({ cls := "java/lang/String", name := "length", desc := "()I" } : Jvm.MethodName)) ∈ wsG := mG1 215 rfl rfl
theorem kw_216 : (Jvm.Cond.instanceMethod ({ cls := "java/lang/String", name := "length", desc := "()I" } : Jvm.MethodName)) ∈ wsG := mG1 216 rfl rfl
theorem kw_217 : (Jvm.Cond.selects "java/lang/String" ({ cls := "java/lang/String", name := "length", desc := "()I" } : Jvm.MethodName) ({ cls := "java/lang/String", name := "length", desc := "()I" } : Jvm.MethodName)) ∈ wsG := mG1 217 rfl rfl
theorem kw_218 : (Jvm.Cond.code ({ cls := "java/lang/String", name := "length", desc := "()I" } : Jvm.MethodName) prog_11_method_54_code (1 : Nat) (Option.some Jvm.ClassFile.FieldType.int)) ∈ wsG := mG1 218 rfl rfl
theorem kw_219 : (Jvm.Cond.methodLink "java/lang/String" (335 : Nat) ({ cls := "java/lang/String", name := "coder", desc := "()B" } : Jvm.MethodName)) ∈ wsG := mG1 219 rfl rfl
theorem kw_220 : (Jvm.Cond.instanceMethod ({ cls := "java/lang/String", name := "coder", desc := "()B" } : Jvm.MethodName)) ∈ wsG := mG1 220 rfl rfl
theorem kw_221 : (Jvm.Cond.selects "java/lang/String" ({ cls := "java/lang/String", name := "coder", desc := "()B" } : Jvm.MethodName) ({ cls := "java/lang/String", name := "coder", desc := "()B" } : Jvm.MethodName)) ∈ wsG := mG1 221 rfl rfl
theorem kw_222 : (Jvm.Cond.code ({ cls := "java/lang/String", name := "coder", desc := "()B" } : Jvm.MethodName) prog_11_method_152_code (1 : Nat) (Option.some Jvm.ClassFile.FieldType.byte)) ∈ wsG := mG1 222 rfl rfl
theorem kw_223 : (Jvm.Cond.fieldLink "java/lang/String" (38 : Nat) "java/lang/String" "COMPACT_STRINGS" "Z") ∈ wsG := mG1 223 rfl rfl
theorem kw_225 : (Jvm.Cond.methodLink "EvenHold" (233 : Nat) ({ cls := "java/lang/String", name := "charAt", desc := "(I)C" } : Jvm.MethodName)) ∈ wsG := mG1 225 rfl rfl
theorem kw_226 : (Jvm.Cond.instanceMethod ({ cls := "java/lang/String", name := "charAt", desc := "(I)C" } : Jvm.MethodName)) ∈ wsG := mG1 226 rfl rfl
theorem kw_227 : (Jvm.Cond.selects "java/lang/String" ({ cls := "java/lang/String", name := "charAt", desc := "(I)C" } : Jvm.MethodName) ({ cls := "java/lang/String", name := "charAt", desc := "(I)C" } : Jvm.MethodName)) ∈ wsG := mG1 227 rfl rfl
theorem kw_228 : (Jvm.Cond.code ({ cls := "java/lang/String", name := "charAt", desc := "(I)C" } : Jvm.MethodName) prog_11_method_56_code (2 : Nat) (Option.some Jvm.ClassFile.FieldType.char)) ∈ wsG := mG1 228 rfl rfl
theorem kw_229 : (Jvm.Cond.methodLink "java/lang/String" (492 : Nat) ({ cls := "java/lang/String", name := "isLatin1", desc := "()Z" } : Jvm.MethodName)) ∈ wsG := mG1 229 rfl rfl
theorem kw_230 : (Jvm.Cond.instanceMethod ({ cls := "java/lang/String", name := "isLatin1", desc := "()Z" } : Jvm.MethodName)) ∈ wsG := mG1 230 rfl rfl
theorem kw_231 : (Jvm.Cond.selects "java/lang/String" ({ cls := "java/lang/String", name := "isLatin1", desc := "()Z" } : Jvm.MethodName) ({ cls := "java/lang/String", name := "isLatin1", desc := "()Z" } : Jvm.MethodName)) ∈ wsG := mG1 231 rfl rfl
theorem kw_232 : (Jvm.Cond.code ({ cls := "java/lang/String", name := "isLatin1", desc := "()Z" } : Jvm.MethodName) prog_11_method_154_code (1 : Nat) (Option.some Jvm.ClassFile.FieldType.boolean)) ∈ wsG := mG1 232 rfl rfl
theorem kw_233 : (Jvm.Cond.methodLink "java/lang/String" (495 : Nat) ({ cls := "java/lang/StringLatin1", name := "charAt", desc := "([BI)C" } : Jvm.MethodName)) ∈ wsG := mG1 233 rfl rfl
theorem kw_234 : (Jvm.Cond.static ({ cls := "java/lang/StringLatin1", name := "charAt", desc := "([BI)C" } : Jvm.MethodName)) ∈ wsG := mG1 234 rfl rfl
theorem kw_235 : (Jvm.Cond.code ({ cls := "java/lang/StringLatin1", name := "charAt", desc := "([BI)C" } : Jvm.MethodName) prog_12_method_2_code (2 : Nat) (Option.some Jvm.ClassFile.FieldType.char)) ∈ wsG := mG1 235 rfl rfl
theorem kw_236 : (Jvm.Cond.methodLink "java/lang/StringLatin1" (9 : Nat) ({ cls := "java/lang/String", name := "checkIndex", desc := "(II)V" } : Jvm.MethodName)) ∈ wsG := mG1 236 rfl rfl
theorem kw_237 : (Jvm.Cond.static ({ cls := "java/lang/String", name := "checkIndex", desc := "(II)V" } : Jvm.MethodName)) ∈ wsG := mG1 237 rfl rfl
theorem kw_238 : (Jvm.Cond.code ({ cls := "java/lang/String", name := "checkIndex", desc := "(II)V" } : Jvm.MethodName) prog_11_method_155_code (2 : Nat) (Option.none : Option Jvm.ClassFile.FieldType)) ∈ wsG := mG1 238 rfl rfl
theorem kw_239 : (Jvm.Cond.fieldLink "java/lang/String" (1053 : Nat) "jdk/internal/util/Preconditions" "SIOOBE_FORMATTER" "Ljava/util/function/BiFunction;") ∈ wsG := mG1 239 rfl rfl
theorem kw_241 : (Jvm.Cond.methodLink "java/lang/String" (1059 : Nat) ({ cls := "jdk/internal/util/Preconditions", name := "checkIndex", desc := "(IILjava/util/function/BiFunction;)I" } : Jvm.MethodName)) ∈ wsG := mG2 1 rfl rfl
theorem kw_242 : (Jvm.Cond.static ({ cls := "jdk/internal/util/Preconditions", name := "checkIndex", desc := "(IILjava/util/function/BiFunction;)I" } : Jvm.MethodName)) ∈ wsG := mG2 2 rfl rfl
theorem kw_243 : (Jvm.Cond.code ({ cls := "jdk/internal/util/Preconditions", name := "checkIndex", desc := "(IILjava/util/function/BiFunction;)I" } : Jvm.MethodName) prog_15_method_11_code (3 : Nat) (Option.some Jvm.ClassFile.FieldType.int)) ∈ wsG := mG2 3 rfl rfl
theorem kw_244 : (Jvm.Cond.methodLink "java/lang/String" (498 : Nat) ({ cls := "java/lang/StringUTF16", name := "charAt", desc := "([BI)C" } : Jvm.MethodName)) ∈ wsG := mG2 4 rfl rfl
theorem kw_245 : (Jvm.Cond.static ({ cls := "java/lang/StringUTF16", name := "charAt", desc := "([BI)C" } : Jvm.MethodName)) ∈ wsG := mG2 5 rfl rfl
theorem kw_246 : (Jvm.Cond.code ({ cls := "java/lang/StringUTF16", name := "charAt", desc := "([BI)C" } : Jvm.MethodName) prog_13_method_83_code (2 : Nat) (Option.some Jvm.ClassFile.FieldType.char)) ∈ wsG := mG2 6 rfl rfl
theorem kw_247 : (Jvm.Cond.methodLink "java/lang/StringUTF16" (67 : Nat) ({ cls := "java/lang/StringUTF16", name := "checkIndex", desc := "(I[B)V" } : Jvm.MethodName)) ∈ wsG := mG2 7 rfl rfl
theorem kw_248 : (Jvm.Cond.static ({ cls := "java/lang/StringUTF16", name := "checkIndex", desc := "(I[B)V" } : Jvm.MethodName)) ∈ wsG := mG2 8 rfl rfl
theorem kw_249 : (Jvm.Cond.code ({ cls := "java/lang/StringUTF16", name := "checkIndex", desc := "(I[B)V" } : Jvm.MethodName) prog_13_method_91_code (2 : Nat) (Option.none : Option Jvm.ClassFile.FieldType)) ∈ wsG := mG2 9 rfl rfl
theorem kw_250 : (Jvm.Cond.methodLink "java/lang/StringUTF16" (48 : Nat) ({ cls := "java/lang/StringUTF16", name := "length", desc := "([B)I" } : Jvm.MethodName)) ∈ wsG := mG2 10 rfl rfl
theorem kw_251 : (Jvm.Cond.static ({ cls := "java/lang/StringUTF16", name := "length", desc := "([B)I" } : Jvm.MethodName)) ∈ wsG := mG2 11 rfl rfl
theorem kw_252 : (Jvm.Cond.code ({ cls := "java/lang/StringUTF16", name := "length", desc := "([B)I" } : Jvm.MethodName) prog_13_method_6_code (1 : Nat) (Option.some Jvm.ClassFile.FieldType.int)) ∈ wsG := mG2 12 rfl rfl
theorem kw_253 : (Jvm.Cond.methodLink "java/lang/StringUTF16" (414 : Nat) ({ cls := "java/lang/String", name := "checkIndex", desc := "(II)V" } : Jvm.MethodName)) ∈ wsG := mG2 13 rfl rfl
theorem kw_254 : (Jvm.Cond.methodLink "java/lang/StringUTF16" (71 : Nat) ({ cls := "java/lang/StringUTF16", name := "getChar", desc := "([BI)C" } : Jvm.MethodName)) ∈ wsG := mG2 14 rfl rfl
theorem kw_255 : (Jvm.Cond.static ({ cls := "java/lang/StringUTF16", name := "getChar", desc := "([BI)C" } : Jvm.MethodName)) ∈ wsG := mG2 15 rfl rfl
theorem kw_256 : (Jvm.Cond.code ({ cls := "java/lang/StringUTF16", name := "getChar", desc := "([BI)C" } : Jvm.MethodName) prog_13_method_5_code (2 : Nat) (Option.some Jvm.ClassFile.FieldType.char)) ∈ wsG := mG2 16 rfl rfl
theorem kw_257 : (Jvm.Cond.fieldLink "java/lang/StringUTF16" (44 : Nat) "java/lang/StringUTF16" "$assertionsDisabled" "Z") ∈ wsG := mG2 17 rfl rfl
theorem kw_259 : (Jvm.Cond.fieldLink "java/lang/StringUTF16" (59 : Nat) "java/lang/StringUTF16" "HI_BYTE_SHIFT" "I") ∈ wsG := mG2 19 rfl rfl
theorem kw_261 : (Jvm.Cond.fieldLink "java/lang/StringUTF16" (63 : Nat) "java/lang/StringUTF16" "LO_BYTE_SHIFT" "I") ∈ wsG := mG2 21 rfl rfl
theorem kw_264 : (Jvm.Cond.methodLink "EvenHold" (237 : Nat) ({ cls := "java/lang/String", name := "indexOf", desc := "(I)I" } : Jvm.MethodName)) ∈ wsG := mG2 24 rfl rfl
theorem kw_265 : (Jvm.Cond.instanceMethod ({ cls := "java/lang/String", name := "indexOf", desc := "(I)I" } : Jvm.MethodName)) ∈ wsG := mG2 25 rfl rfl
theorem kw_266 : (Jvm.Cond.selects "java/lang/String" ({ cls := "java/lang/String", name := "indexOf", desc := "(I)I" } : Jvm.MethodName) ({ cls := "java/lang/String", name := "indexOf", desc := "(I)I" } : Jvm.MethodName)) ∈ wsG := mG2 26 rfl rfl
theorem kw_267 : (Jvm.Cond.code ({ cls := "java/lang/String", name := "indexOf", desc := "(I)I" } : Jvm.MethodName) prog_11_method_79_code (2 : Nat) (Option.some Jvm.ClassFile.FieldType.int)) ∈ wsG := mG2 27 rfl rfl
theorem kw_268 : (Jvm.Cond.methodLink "java/lang/String" (633 : Nat) ({ cls := "java/lang/String", name := "indexOf", desc := "(II)I" } : Jvm.MethodName)) ∈ wsG := mG2 28 rfl rfl
theorem kw_269 : (Jvm.Cond.instanceMethod ({ cls := "java/lang/String", name := "indexOf", desc := "(II)I" } : Jvm.MethodName)) ∈ wsG := mG2 29 rfl rfl
theorem kw_270 : (Jvm.Cond.selects "java/lang/String" ({ cls := "java/lang/String", name := "indexOf", desc := "(II)I" } : Jvm.MethodName) ({ cls := "java/lang/String", name := "indexOf", desc := "(II)I" } : Jvm.MethodName)) ∈ wsG := mG2 30 rfl rfl
theorem kw_271 : (Jvm.Cond.code ({ cls := "java/lang/String", name := "indexOf", desc := "(II)I" } : Jvm.MethodName) prog_11_method_80_code (3 : Nat) (Option.some Jvm.ClassFile.FieldType.int)) ∈ wsG := mG2 31 rfl rfl
theorem kw_272 : (Jvm.Cond.methodLink "java/lang/String" (505 : Nat) ({ cls := "java/lang/String", name := "length", desc := "()I" } : Jvm.MethodName)) ∈ wsG := mG2 32 rfl rfl
theorem kw_273 : (Jvm.Cond.methodLink "java/lang/String" (637 : Nat) ({ cls := "java/lang/StringLatin1", name := "indexOf", desc := "([BIII)I" } : Jvm.MethodName)) ∈ wsG := mG2 33 rfl rfl
theorem kw_274 : (Jvm.Cond.static ({ cls := "java/lang/StringLatin1", name := "indexOf", desc := "([BIII)I" } : Jvm.MethodName)) ∈ wsG := mG2 34 rfl rfl
theorem kw_275 : (Jvm.Cond.code ({ cls := "java/lang/StringLatin1", name := "indexOf", desc := "([BIII)I" } : Jvm.MethodName) prog_12_method_22_code (4 : Nat) (Option.some Jvm.ClassFile.FieldType.int)) ∈ wsG := mG2 35 rfl rfl
theorem kw_276 : (Jvm.Cond.methodLink "java/lang/StringLatin1" (88 : Nat) ({ cls := "java/lang/StringLatin1", name := "canEncode", desc := "(I)Z" } : Jvm.MethodName)) ∈ wsG := mG2 36 rfl rfl
theorem kw_277 : (Jvm.Cond.static ({ cls := "java/lang/StringLatin1", name := "canEncode", desc := "(I)Z" } : Jvm.MethodName)) ∈ wsG := mG2 37 rfl rfl
theorem kw_278 : (Jvm.Cond.code ({ cls := "java/lang/StringLatin1", name := "canEncode", desc := "(I)Z" } : Jvm.MethodName) prog_12_method_4_code (1 : Nat) (Option.some Jvm.ClassFile.FieldType.boolean)) ∈ wsG := mG2 38 rfl rfl
theorem kw_279 : (Jvm.Cond.methodLink "java/lang/StringLatin1" (92 : Nat) ({ cls := "java/lang/Math", name := "max", desc := "(II)I" } : Jvm.MethodName)) ∈ wsG := mG2 39 rfl rfl
theorem kw_280 : (Jvm.Cond.static ({ cls := "java/lang/Math", name := "max", desc := "(II)I" } : Jvm.MethodName)) ∈ wsG := mG2 40 rfl rfl
theorem kw_281 : (Jvm.Cond.code ({ cls := "java/lang/Math", name := "max", desc := "(II)I" } : Jvm.MethodName) prog_10_method_65_code (2 : Nat) (Option.some Jvm.ClassFile.FieldType.int)) ∈ wsG := mG2 41 rfl rfl
theorem kw_282 : (Jvm.Cond.methodLink "java/lang/StringLatin1" (38 : Nat) ({ cls := "java/lang/Math", name := "min", desc := "(II)I" } : Jvm.MethodName)) ∈ wsG := mG2 42 rfl rfl
theorem kw_283 : (Jvm.Cond.static ({ cls := "java/lang/Math", name := "min", desc := "(II)I" } : Jvm.MethodName)) ∈ wsG := mG2 43 rfl rfl
theorem kw_284 : (Jvm.Cond.code ({ cls := "java/lang/Math", name := "min", desc := "(II)I" } : Jvm.MethodName) prog_10_method_69_code (2 : Nat) (Option.some Jvm.ClassFile.FieldType.int)) ∈ wsG := mG2 44 rfl rfl
theorem kw_285 : (Jvm.Cond.methodLink "java/lang/StringLatin1" (95 : Nat) ({ cls := "java/lang/StringLatin1", name := "indexOfChar", desc := "([BIII)I" } : Jvm.MethodName)) ∈ wsG := mG2 45 rfl rfl
theorem kw_286 : (Jvm.Cond.static ({ cls := "java/lang/StringLatin1", name := "indexOfChar", desc := "([BIII)I" } : Jvm.MethodName)) ∈ wsG := mG2 46 rfl rfl
theorem kw_287 : (Jvm.Cond.code ({ cls := "java/lang/StringLatin1", name := "indexOfChar", desc := "([BIII)I" } : Jvm.MethodName) prog_12_method_23_code (6 : Nat) (Option.some Jvm.ClassFile.FieldType.int)) ∈ wsG := mG2 47 rfl rfl
theorem kw_288 : (Jvm.Cond.methodLink "java/lang/String" (640 : Nat) ({ cls := "java/lang/StringUTF16", name := "indexOf", desc := "([BIII)I" } : Jvm.MethodName)) ∈ wsG := mG2 48 rfl rfl
theorem kw_289 : (Jvm.Cond.static ({ cls := "java/lang/StringUTF16", name := "indexOf", desc := "([BIII)I" } : Jvm.MethodName)) ∈ wsG := mG2 49 rfl rfl
theorem kw_290 : (Jvm.Cond.code ({ cls := "java/lang/StringUTF16", name := "indexOf", desc := "([BIII)I" } : Jvm.MethodName) prog_13_method_40_code (4 : Nat) (Option.some Jvm.ClassFile.FieldType.int)) ∈ wsG := mG2 50 rfl rfl
theorem kw_291 : (Jvm.Cond.methodLink "java/lang/StringUTF16" (224 : Nat) ({ cls := "java/lang/Math", name := "max", desc := "(II)I" } : Jvm.MethodName)) ∈ wsG := mG2 51 rfl rfl
theorem kw_292 : (Jvm.Cond.methodLink "java/lang/StringUTF16" (183 : Nat) ({ cls := "java/lang/Math", name := "min", desc := "(II)I" } : Jvm.MethodName)) ∈ wsG := mG2 52 rfl rfl
theorem kw_293 : (Jvm.Cond.constant "java/lang/StringUTF16" (227 : Nat) (65536 : Int32)) ∈ wsG := mG2 53 rfl rfl
theorem kw_294 : (Jvm.Cond.methodLink "java/lang/StringUTF16" (228 : Nat) ({ cls := "java/lang/StringUTF16", name := "indexOfChar", desc := "([BIII)I" } : Jvm.MethodName)) ∈ wsG := mG2 54 rfl rfl
theorem kw_295 : (Jvm.Cond.static ({ cls := "java/lang/StringUTF16", name := "indexOfChar", desc := "([BIII)I" } : Jvm.MethodName)) ∈ wsG := mG2 55 rfl rfl
theorem kw_296 : (Jvm.Cond.code ({ cls := "java/lang/StringUTF16", name := "indexOfChar", desc := "([BIII)I" } : Jvm.MethodName) prog_13_method_47_code (4 : Nat) (Option.some Jvm.ClassFile.FieldType.int)) ∈ wsG := mG2 56 rfl rfl
theorem kw_297 : (Jvm.Cond.methodLink "java/lang/StringUTF16" (96 : Nat) ({ cls := "java/lang/StringUTF16", name := "checkBoundsBeginEnd", desc := "(II[B)V" } : Jvm.MethodName)) ∈ wsG := mG2 57 rfl rfl
theorem kw_298 : (Jvm.Cond.static ({ cls := "java/lang/StringUTF16", name := "checkBoundsBeginEnd", desc := "(II[B)V" } : Jvm.MethodName)) ∈ wsG := mG2 58 rfl rfl
theorem kw_299 : (Jvm.Cond.code ({ cls := "java/lang/StringUTF16", name := "checkBoundsBeginEnd", desc := "(II[B)V" } : Jvm.MethodName) prog_13_method_93_code (3 : Nat) (Option.none : Option Jvm.ClassFile.FieldType)) ∈ wsG := mG2 59 rfl rfl
theorem kw_300 : (Jvm.Cond.methodLink "java/lang/StringUTF16" (241 : Nat) ({ cls := "java/lang/String", name := "checkBoundsBeginEnd", desc := "(III)V" } : Jvm.MethodName)) ∈ wsG := mG2 60 rfl rfl
theorem kw_301 : (Jvm.Cond.static ({ cls := "java/lang/String", name := "checkBoundsBeginEnd", desc := "(III)V" } : Jvm.MethodName)) ∈ wsG := mG2 61 rfl rfl
theorem kw_302 : (Jvm.Cond.code ({ cls := "java/lang/String", name := "checkBoundsBeginEnd", desc := "(III)V" } : Jvm.MethodName) prog_11_method_158_code (3 : Nat) (Option.none : Option Jvm.ClassFile.FieldType)) ∈ wsG := mG2 62 rfl rfl
theorem kw_303 : (Jvm.Cond.methodLink "java/lang/String" (1062 : Nat) ({ cls := "jdk/internal/util/Preconditions", name := "checkFromToIndex", desc := "(IIILjava/util/function/BiFunction;)I" } : Jvm.MethodName)) ∈ wsG := mG2 63 rfl rfl
theorem kw_304 : (Jvm.Cond.static ({ cls := "jdk/internal/util/Preconditions", name := "checkFromToIndex", desc := "(IIILjava/util/function/BiFunction;)I" } : Jvm.MethodName)) ∈ wsG := mG2 64 rfl rfl
theorem kw_305 : (Jvm.Cond.code ({ cls := "jdk/internal/util/Preconditions", name := "checkFromToIndex", desc := "(IIILjava/util/function/BiFunction;)I" } : Jvm.MethodName) prog_15_method_12_code (4 : Nat) (Option.some Jvm.ClassFile.FieldType.int)) ∈ wsG := mG2 65 rfl rfl
theorem kw_306 : (Jvm.Cond.methodLink "java/lang/StringUTF16" (244 : Nat) ({ cls := "java/lang/StringUTF16", name := "indexOfCharUnsafe", desc := "([BIII)I" } : Jvm.MethodName)) ∈ wsG := mG2 66 rfl rfl
theorem kw_307 : (Jvm.Cond.static ({ cls := "java/lang/StringUTF16", name := "indexOfCharUnsafe", desc := "([BIII)I" } : Jvm.MethodName)) ∈ wsG := mG2 67 rfl rfl
theorem kw_308 : (Jvm.Cond.code ({ cls := "java/lang/StringUTF16", name := "indexOfCharUnsafe", desc := "([BIII)I" } : Jvm.MethodName) prog_13_method_48_code (5 : Nat) (Option.some Jvm.ClassFile.FieldType.int)) ∈ wsG := mG2 68 rfl rfl
theorem kw_309 : (Jvm.Cond.methodLink "java/lang/StringUTF16" (232 : Nat) ({ cls := "java/lang/StringUTF16", name := "indexOfSupplementary", desc := "([BIII)I" } : Jvm.MethodName)) ∈ wsG := mG2 69 rfl rfl
theorem kw_310 : (Jvm.Cond.static ({ cls := "java/lang/StringUTF16", name := "indexOfSupplementary", desc := "([BIII)I" } : Jvm.MethodName)) ∈ wsG := mG2 70 rfl rfl
theorem kw_311 : (Jvm.Cond.code ({ cls := "java/lang/StringUTF16", name := "indexOfSupplementary", desc := "([BIII)I" } : Jvm.MethodName) prog_13_method_49_code (7 : Nat) (Option.some Jvm.ClassFile.FieldType.int)) ∈ wsG := mG2 71 rfl rfl
theorem kw_312 : (Jvm.Cond.methodLink "java/lang/StringUTF16" (164 : Nat) ({ cls := "java/lang/Character", name := "isValidCodePoint", desc := "(I)Z" } : Jvm.MethodName)) ∈ wsG := mG2 72 rfl rfl
theorem kw_313 : (Jvm.Cond.static ({ cls := "java/lang/Character", name := "isValidCodePoint", desc := "(I)Z" } : Jvm.MethodName)) ∈ wsG := mG2 73 rfl rfl
theorem kw_314 : (Jvm.Cond.code ({ cls := "java/lang/Character", name := "isValidCodePoint", desc := "(I)Z" } : Jvm.MethodName) prog_9_method_11_code (2 : Nat) (Option.some Jvm.ClassFile.FieldType.boolean)) ∈ wsG := mG2 74 rfl rfl
theorem kw_315 : (Jvm.Cond.methodLink "java/lang/StringUTF16" (157 : Nat) ({ cls := "java/lang/Character", name := "highSurrogate", desc := "(I)C" } : Jvm.MethodName)) ∈ wsG := mG2 75 rfl rfl
theorem kw_316 : (Jvm.Cond.static ({ cls := "java/lang/Character", name := "highSurrogate", desc := "(I)C" } : Jvm.MethodName)) ∈ wsG := mG2 76 rfl rfl
theorem kw_317 : (Jvm.Cond.code ({ cls := "java/lang/Character", name := "highSurrogate", desc := "(I)C" } : Jvm.MethodName) prog_9_method_28_code (1 : Nat) (Option.some Jvm.ClassFile.FieldType.char)) ∈ wsG := mG2 77 rfl rfl
theorem kw_318 : (Jvm.Cond.constant "java/lang/Character" (110 : Nat) (55232 : Int32)) ∈ wsG := mG2 78 rfl rfl
theorem kw_319 : (Jvm.Cond.methodLink "java/lang/StringUTF16" (161 : Nat) ({ cls := "java/lang/Character", name := "lowSurrogate", desc := "(I)C" } : Jvm.MethodName)) ∈ wsG := mG2 79 rfl rfl
theorem kw_320 : (Jvm.Cond.static ({ cls := "java/lang/Character", name := "lowSurrogate", desc := "(I)C" } : Jvm.MethodName)) ∈ wsG := mG2 80 rfl rfl
theorem kw_321 : (Jvm.Cond.code ({ cls := "java/lang/Character", name := "lowSurrogate", desc := "(I)C" } : Jvm.MethodName) prog_9_method_29_code (1 : Nat) (Option.some Jvm.ClassFile.FieldType.char)) ∈ wsG := mG2 81 rfl rfl
theorem kw_322 : (Jvm.Cond.constant "java/lang/Character" (76 : Nat) (56320 : Int32)) ∈ wsG := mG2 82 rfl rfl
theorem kw_323 : (Jvm.Cond.arrayClass Jvm.ClassFile.FieldType.byte) ∈ wsG := mG2 83 rfl rfl
theorem kw_324 : (Jvm.Cond.methodLink "EvenHoldLaw" (27 : Nat) ({ cls := "EvenHold", name := "hold", desc := "()I" } : Jvm.MethodName)) ∈ wsG := mG2 84 rfl rfl
theorem kw_325 : (Jvm.Cond.instanceMethod ({ cls := "EvenHold", name := "hold", desc := "()I" } : Jvm.MethodName)) ∈ wsG := mG2 85 rfl rfl
theorem kw_326 : (Jvm.Cond.selects "EvenHold" ({ cls := "EvenHold", name := "hold", desc := "()I" } : Jvm.MethodName) ({ cls := "EvenHold", name := "hold", desc := "()I" } : Jvm.MethodName)) ∈ wsG := mG2 86 rfl rfl
theorem kw_327 : (Jvm.Cond.code ({ cls := "EvenHold", name := "hold", desc := "()I" } : Jvm.MethodName) prog_1_method_5_code (1 : Nat) (Option.some Jvm.ClassFile.FieldType.int)) ∈ wsG := mG2 87 rfl rfl
theorem kw_328 : (Jvm.Cond.methodLink "EvenHold" (80 : Nat) ({ cls := "EvenHold", name := "fault", desc := "()I" } : Jvm.MethodName)) ∈ wsG := mG2 88 rfl rfl
theorem kw_329 : (Jvm.Cond.methodLink "EvenHold" (83 : Nat) ({ cls := "EvenHold$Now", name := "clear", desc := "()V" } : Jvm.MethodName)) ∈ wsG := mG2 89 rfl rfl
theorem kw_330 : (Jvm.Cond.instanceMethod ({ cls := "EvenHold$Now", name := "clear", desc := "()V" } : Jvm.MethodName)) ∈ wsG := mG2 90 rfl rfl
theorem kw_331 : (Jvm.Cond.selects "EvenHold$Now" ({ cls := "EvenHold$Now", name := "clear", desc := "()V" } : Jvm.MethodName) ({ cls := "EvenHold$Now", name := "clear", desc := "()V" } : Jvm.MethodName)) ∈ wsG := mG2 91 rfl rfl
theorem kw_332 : (Jvm.Cond.code ({ cls := "EvenHold$Now", name := "clear", desc := "()V" } : Jvm.MethodName) prog_5_method_2_code (1 : Nat) (Option.none : Option Jvm.ClassFile.FieldType)) ∈ wsG := mG2 92 rfl rfl
theorem kw_333 : (Jvm.Cond.methodLink "EvenHold" (86 : Nat) ({ cls := "EvenHold", name := "readPage", desc := "()I" } : Jvm.MethodName)) ∈ wsG := mG2 93 rfl rfl
theorem kw_335 : (Jvm.Cond.instanceMethod ({ cls := "EvenHold", name := "readPage", desc := "()I" } : Jvm.MethodName)) ∈ wsG := mG2 95 rfl rfl
theorem kw_336 : (Jvm.Cond.code ({ cls := "EvenHold", name := "readPage", desc := "()I" } : Jvm.MethodName) prog_1_method_28_code (3 : Nat) (Option.some Jvm.ClassFile.FieldType.int)) ∈ wsG := mG2 96 rfl rfl
theorem kw_337 : (Jvm.Cond.methodLink "EvenHold" (103 : Nat) ({ cls := "EvenHold", name := "at", desc := "([II)I" } : Jvm.MethodName)) ∈ wsG := mG2 97 rfl rfl
theorem kw_338 : (Jvm.Cond.static ({ cls := "EvenHold", name := "at", desc := "([II)I" } : Jvm.MethodName)) ∈ wsG := mG2 98 rfl rfl
theorem kw_339 : (Jvm.Cond.code ({ cls := "EvenHold", name := "at", desc := "([II)I" } : Jvm.MethodName) prog_1_method_34_code (2 : Nat) (Option.some Jvm.ClassFile.FieldType.int)) ∈ wsG := mG2 99 rfl rfl
theorem kw_340 : (Jvm.Cond.methodLink "EvenHold" (240 : Nat) ({ cls := "EvenHold$Lighter", name := "setKind", desc := "(II)V" } : Jvm.MethodName)) ∈ wsG := mG2 100 rfl rfl
theorem kw_341 : (Jvm.Cond.instanceMethod ({ cls := "EvenHold$Lighter", name := "setKind", desc := "(II)V" } : Jvm.MethodName)) ∈ wsG := mG2 101 rfl rfl
theorem kw_342 : (Jvm.Cond.selects "EvenHold$Lighter" ({ cls := "EvenHold$Lighter", name := "setKind", desc := "(II)V" } : Jvm.MethodName) ({ cls := "EvenHold$Lighter", name := "setKind", desc := "(II)V" } : Jvm.MethodName)) ∈ wsG := mG2 102 rfl rfl
theorem kw_343 : (Jvm.Cond.code ({ cls := "EvenHold$Lighter", name := "setKind", desc := "(II)V" } : Jvm.MethodName) prog_4_method_2_code (3 : Nat) (Option.none : Option Jvm.ClassFile.FieldType)) ∈ wsG := mG2 103 rfl rfl
theorem kw_349 : (Jvm.Cond.methodLink "EvenHold" (244 : Nat) ({ cls := "EvenHold", name := "digitAt", desc := "(I)I" } : Jvm.MethodName)) ∈ wsG := mG2 109 rfl rfl
theorem kw_351 : (Jvm.Cond.instanceMethod ({ cls := "EvenHold", name := "digitAt", desc := "(I)I" } : Jvm.MethodName)) ∈ wsG := mG2 111 rfl rfl
theorem kw_352 : (Jvm.Cond.code ({ cls := "EvenHold", name := "digitAt", desc := "(I)I" } : Jvm.MethodName) prog_1_method_29_code (2 : Nat) (Option.some Jvm.ClassFile.FieldType.int)) ∈ wsG := mG2 112 rfl rfl
theorem kw_353 : (Jvm.Cond.methodLink "EvenHold" (92 : Nat) ({ cls := "EvenHold", name := "tonsOf", desc := "(I)I" } : Jvm.MethodName)) ∈ wsG := mG2 113 rfl rfl
theorem kw_354 : (Jvm.Cond.static ({ cls := "EvenHold", name := "tonsOf", desc := "(I)I" } : Jvm.MethodName)) ∈ wsG := mG2 114 rfl rfl
theorem kw_355 : (Jvm.Cond.code ({ cls := "EvenHold", name := "tonsOf", desc := "(I)I" } : Jvm.MethodName) prog_1_method_41_code (3 : Nat) (Option.some Jvm.ClassFile.FieldType.int)) ∈ wsG := mG2 115 rfl rfl
theorem kw_356 : (Jvm.Cond.methodLink "EvenHold" (107 : Nat) ({ cls := "EvenHold", name := "tonsAt", desc := "(II)I" } : Jvm.MethodName)) ∈ wsG := mG2 116 rfl rfl
theorem kw_357 : (Jvm.Cond.static ({ cls := "EvenHold", name := "tonsAt", desc := "(II)I" } : Jvm.MethodName)) ∈ wsG := mG2 117 rfl rfl
theorem kw_358 : (Jvm.Cond.code ({ cls := "EvenHold", name := "tonsAt", desc := "(II)I" } : Jvm.MethodName) prog_1_method_40_code (2 : Nat) (Option.some Jvm.ClassFile.FieldType.int)) ∈ wsG := mG2 118 rfl rfl
theorem kw_359 : (Jvm.Cond.methodLink "EvenHoldLaw" (31 : Nat) ({ cls := "EvenHold", name := "bay", desc := "(II)I" } : Jvm.MethodName)) ∈ wsG := mG2 119 rfl rfl
theorem kw_360 : (Jvm.Cond.instanceMethod ({ cls := "EvenHold", name := "bay", desc := "(II)I" } : Jvm.MethodName)) ∈ wsG := mG2 120 rfl rfl
theorem kw_361 : (Jvm.Cond.selects "EvenHold" ({ cls := "EvenHold", name := "bay", desc := "(II)I" } : Jvm.MethodName) ({ cls := "EvenHold", name := "bay", desc := "(II)I" } : Jvm.MethodName)) ∈ wsG := mG2 121 rfl rfl
theorem kw_362 : (Jvm.Cond.code ({ cls := "EvenHold", name := "bay", desc := "(II)I" } : Jvm.MethodName) prog_1_method_6_code (3 : Nat) (Option.some Jvm.ClassFile.FieldType.int)) ∈ wsG := mG2 122 rfl rfl
theorem kw_363 : (Jvm.Cond.methodLink "EvenHold" (96 : Nat) ({ cls := "EvenHold", name := "isBay", desc := "(I)Z" } : Jvm.MethodName)) ∈ wsG := mG2 123 rfl rfl
theorem kw_365 : (Jvm.Cond.instanceMethod ({ cls := "EvenHold", name := "isBay", desc := "(I)Z" } : Jvm.MethodName)) ∈ wsG := mG2 125 rfl rfl
theorem kw_366 : (Jvm.Cond.code ({ cls := "EvenHold", name := "isBay", desc := "(I)Z" } : Jvm.MethodName) prog_1_method_30_code (2 : Nat) (Option.some Jvm.ClassFile.FieldType.boolean)) ∈ wsG := mG2 126 rfl rfl
theorem kw_367 : (Jvm.Cond.methodLink "EvenHoldLaw" (36 : Nat) ({ cls := "EvenHold", name := "as", desc := "(II)I" } : Jvm.MethodName)) ∈ wsG := mG2 127 rfl rfl
theorem kw_368 : (Jvm.Cond.instanceMethod ({ cls := "EvenHold", name := "as", desc := "(II)I" } : Jvm.MethodName)) ∈ wsG := mG2 128 rfl rfl
theorem kw_369 : (Jvm.Cond.selects "EvenHold" ({ cls := "EvenHold", name := "as", desc := "(II)I" } : Jvm.MethodName) ({ cls := "EvenHold", name := "as", desc := "(II)I" } : Jvm.MethodName)) ∈ wsG := mG2 129 rfl rfl
theorem kw_370 : (Jvm.Cond.code ({ cls := "EvenHold", name := "as", desc := "(II)I" } : Jvm.MethodName) prog_1_method_7_code (5 : Nat) (Option.some Jvm.ClassFile.FieldType.int)) ∈ wsG := mG2 130 rfl rfl
theorem kw_371 : (Jvm.Cond.methodLink "EvenHoldLaw" (40 : Nat) ({ cls := "EvenHold", name := "ground", desc := "(Z)I" } : Jvm.MethodName)) ∈ wsG := mG2 131 rfl rfl
theorem kw_372 : (Jvm.Cond.instanceMethod ({ cls := "EvenHold", name := "ground", desc := "(Z)I" } : Jvm.MethodName)) ∈ wsG := mG2 132 rfl rfl
theorem kw_373 : (Jvm.Cond.selects "EvenHold" ({ cls := "EvenHold", name := "ground", desc := "(Z)I" } : Jvm.MethodName) ({ cls := "EvenHold", name := "ground", desc := "(Z)I" } : Jvm.MethodName)) ∈ wsG := mG2 133 rfl rfl
theorem kw_374 : (Jvm.Cond.code ({ cls := "EvenHold", name := "ground", desc := "(Z)I" } : Jvm.MethodName) prog_1_method_8_code (3 : Nat) (Option.some Jvm.ClassFile.FieldType.int)) ∈ wsG := mG2 134 rfl rfl
theorem kw_375 : (Jvm.Cond.methodLink "EvenHold" (122 : Nat) ({ cls := "EvenHold", name := "asNumber", desc := "(Z)I" } : Jvm.MethodName)) ∈ wsG := mG2 135 rfl rfl
theorem kw_376 : (Jvm.Cond.static ({ cls := "EvenHold", name := "asNumber", desc := "(Z)I" } : Jvm.MethodName)) ∈ wsG := mG2 136 rfl rfl
theorem kw_377 : (Jvm.Cond.code ({ cls := "EvenHold", name := "asNumber", desc := "(Z)I" } : Jvm.MethodName) prog_1_method_35_code (1 : Nat) (Option.some Jvm.ClassFile.FieldType.int)) ∈ wsG := mG2 137 rfl rfl
theorem kw_378 : (Jvm.Cond.methodLink "EvenHoldLaw" (45 : Nat) ({ cls := "EvenHold", name := "hull", desc := "(I)I" } : Jvm.MethodName)) ∈ wsG := mG2 138 rfl rfl
theorem kw_379 : (Jvm.Cond.instanceMethod ({ cls := "EvenHold", name := "hull", desc := "(I)I" } : Jvm.MethodName)) ∈ wsG := mG2 139 rfl rfl
theorem kw_380 : (Jvm.Cond.selects "EvenHold" ({ cls := "EvenHold", name := "hull", desc := "(I)I" } : Jvm.MethodName) ({ cls := "EvenHold", name := "hull", desc := "(I)I" } : Jvm.MethodName)) ∈ wsG := mG2 140 rfl rfl
theorem kw_381 : (Jvm.Cond.code ({ cls := "EvenHold", name := "hull", desc := "(I)I" } : Jvm.MethodName) prog_1_method_9_code (2 : Nat) (Option.some Jvm.ClassFile.FieldType.int)) ∈ wsG := mG2 141 rfl rfl
theorem kw_382 : (Jvm.Cond.methodLink "EvenHold" (126 : Nat) ({ cls := "EvenHold", name := "bentBy", desc := "(I)I" } : Jvm.MethodName)) ∈ wsG := mG2 142 rfl rfl
theorem kw_383 : (Jvm.Cond.static ({ cls := "EvenHold", name := "bentBy", desc := "(I)I" } : Jvm.MethodName)) ∈ wsG := mG2 143 rfl rfl
theorem kw_384 : (Jvm.Cond.code ({ cls := "EvenHold", name := "bentBy", desc := "(I)I" } : Jvm.MethodName) prog_1_method_42_code (4 : Nat) (Option.some Jvm.ClassFile.FieldType.int)) ∈ wsG := mG2 144 rfl rfl
theorem kw_385 : (Jvm.Cond.methodLink "EvenHold" (129 : Nat) ({ cls := "EvenHold", name := "listingBy", desc := "(I)I" } : Jvm.MethodName)) ∈ wsG := mG2 145 rfl rfl
theorem kw_386 : (Jvm.Cond.static ({ cls := "EvenHold", name := "listingBy", desc := "(I)I" } : Jvm.MethodName)) ∈ wsG := mG2 146 rfl rfl
theorem kw_387 : (Jvm.Cond.code ({ cls := "EvenHold", name := "listingBy", desc := "(I)I" } : Jvm.MethodName) prog_1_method_43_code (3 : Nat) (Option.some Jvm.ClassFile.FieldType.int)) ∈ wsG := mG2 147 rfl rfl
theorem kw_388 : (Jvm.Cond.methodLink "EvenHold" (132 : Nat) ({ cls := "EvenHold", name := "bendNow", desc := "()I" } : Jvm.MethodName)) ∈ wsG := mG2 148 rfl rfl
theorem kw_390 : (Jvm.Cond.instanceMethod ({ cls := "EvenHold", name := "bendNow", desc := "()I" } : Jvm.MethodName)) ∈ wsG := mG2 150 rfl rfl
theorem kw_391 : (Jvm.Cond.code ({ cls := "EvenHold", name := "bendNow", desc := "()I" } : Jvm.MethodName) prog_1_method_31_code (1 : Nat) (Option.some Jvm.ClassFile.FieldType.int)) ∈ wsG := mG2 151 rfl rfl
theorem kw_392 : (Jvm.Cond.methodLink "EvenHold" (135 : Nat) ({ cls := "EvenHold$Lighter", name := "bears", desc := "(II)Z" } : Jvm.MethodName)) ∈ wsG := mG2 152 rfl rfl
theorem kw_393 : (Jvm.Cond.instanceMethod ({ cls := "EvenHold$Lighter", name := "bears", desc := "(II)Z" } : Jvm.MethodName)) ∈ wsG := mG2 153 rfl rfl
theorem kw_394 : (Jvm.Cond.selects "EvenHold$Lighter" ({ cls := "EvenHold$Lighter", name := "bears", desc := "(II)Z" } : Jvm.MethodName) ({ cls := "EvenHold$Lighter", name := "bears", desc := "(II)Z" } : Jvm.MethodName)) ∈ wsG := mG2 154 rfl rfl
theorem kw_395 : (Jvm.Cond.code ({ cls := "EvenHold$Lighter", name := "bears", desc := "(II)Z" } : Jvm.MethodName) prog_4_method_3_code (3 : Nat) (Option.some Jvm.ClassFile.FieldType.boolean)) ∈ wsG := mG2 155 rfl rfl
theorem kw_398 : (Jvm.Cond.methodLink "EvenHoldLaw" (49 : Nat) ({ cls := "EvenHold", name := "may", desc := "(I)I" } : Jvm.MethodName)) ∈ wsG := mG2 158 rfl rfl
theorem kw_399 : (Jvm.Cond.instanceMethod ({ cls := "EvenHold", name := "may", desc := "(I)I" } : Jvm.MethodName)) ∈ wsG := mG2 159 rfl rfl
theorem kw_400 : (Jvm.Cond.selects "EvenHold" ({ cls := "EvenHold", name := "may", desc := "(I)I" } : Jvm.MethodName) ({ cls := "EvenHold", name := "may", desc := "(I)I" } : Jvm.MethodName)) ∈ wsG := mG2 160 rfl rfl
theorem kw_401 : (Jvm.Cond.code ({ cls := "EvenHold", name := "may", desc := "(I)I" } : Jvm.MethodName) prog_1_method_10_code (2 : Nat) (Option.some Jvm.ClassFile.FieldType.int)) ∈ wsG := mG2 161 rfl rfl
theorem kw_402 : (Jvm.Cond.methodLink "EvenHold" (138 : Nat) ({ cls := "EvenHold", name := "isAct", desc := "(I)Z" } : Jvm.MethodName)) ∈ wsG := mG2 162 rfl rfl
theorem kw_403 : (Jvm.Cond.static ({ cls := "EvenHold", name := "isAct", desc := "(I)Z" } : Jvm.MethodName)) ∈ wsG := mG2 163 rfl rfl
theorem kw_404 : (Jvm.Cond.code ({ cls := "EvenHold", name := "isAct", desc := "(I)Z" } : Jvm.MethodName) prog_1_method_39_code (5 : Nat) (Option.some Jvm.ClassFile.FieldType.boolean)) ∈ wsG := mG2 164 rfl rfl
theorem kw_405 : (Jvm.Cond.methodLink "EvenHold" (261 : Nat) ({ cls := "EvenHold", name := "cellFrom", desc := "(I)I" } : Jvm.MethodName)) ∈ wsG := mG2 165 rfl rfl
theorem kw_406 : (Jvm.Cond.static ({ cls := "EvenHold", name := "cellFrom", desc := "(I)I" } : Jvm.MethodName)) ∈ wsG := mG2 166 rfl rfl
theorem kw_407 : (Jvm.Cond.code ({ cls := "EvenHold", name := "cellFrom", desc := "(I)I" } : Jvm.MethodName) prog_1_method_37_code (1 : Nat) (Option.some Jvm.ClassFile.FieldType.int)) ∈ wsG := mG2 167 rfl rfl
theorem kw_408 : (Jvm.Cond.methodLink "EvenHold" (264 : Nat) ({ cls := "EvenHold", name := "cellInto", desc := "(I)I" } : Jvm.MethodName)) ∈ wsG := mG2 168 rfl rfl
theorem kw_409 : (Jvm.Cond.static ({ cls := "EvenHold", name := "cellInto", desc := "(I)I" } : Jvm.MethodName)) ∈ wsG := mG2 169 rfl rfl
theorem kw_410 : (Jvm.Cond.code ({ cls := "EvenHold", name := "cellInto", desc := "(I)I" } : Jvm.MethodName) prog_1_method_38_code (1 : Nat) (Option.some Jvm.ClassFile.FieldType.int)) ∈ wsG := mG2 170 rfl rfl
theorem kw_411 : (Jvm.Cond.methodLink "EvenHold" (267 : Nat) ({ cls := "java/lang/Math", name := "abs", desc := "(I)I" } : Jvm.MethodName)) ∈ wsG := mG2 171 rfl rfl
theorem kw_412 : (Jvm.Cond.static ({ cls := "java/lang/Math", name := "abs", desc := "(I)I" } : Jvm.MethodName)) ∈ wsG := mG2 172 rfl rfl
theorem kw_413 : (Jvm.Cond.code ({ cls := "java/lang/Math", name := "abs", desc := "(I)I" } : Jvm.MethodName) prog_10_method_59_code (1 : Nat) (Option.some Jvm.ClassFile.FieldType.int)) ∈ wsG := mG2 173 rfl rfl
theorem kw_414 : (Jvm.Cond.methodLink "EvenHold" (141 : Nat) ({ cls := "EvenHold$Lighter", name := "behind", desc := "(III)I" } : Jvm.MethodName)) ∈ wsG := mG2 174 rfl rfl
theorem kw_415 : (Jvm.Cond.instanceMethod ({ cls := "EvenHold$Lighter", name := "behind", desc := "(III)I" } : Jvm.MethodName)) ∈ wsG := mG2 175 rfl rfl
theorem kw_416 : (Jvm.Cond.selects "EvenHold$Lighter" ({ cls := "EvenHold$Lighter", name := "behind", desc := "(III)I" } : Jvm.MethodName) ({ cls := "EvenHold$Lighter", name := "behind", desc := "(III)I" } : Jvm.MethodName)) ∈ wsG := mG2 176 rfl rfl
theorem kw_417 : (Jvm.Cond.code ({ cls := "EvenHold$Lighter", name := "behind", desc := "(III)I" } : Jvm.MethodName) prog_4_method_5_code (5 : Nat) (Option.some Jvm.ClassFile.FieldType.int)) ∈ wsG := mG2 177 rfl rfl
theorem kw_418 : (Jvm.Cond.methodLink "EvenHold$Lighter" (48 : Nat) ({ cls := "EvenHold$Lighter", name := "moved", desc := "(II)I" } : Jvm.MethodName)) ∈ wsG := mG2 178 rfl rfl
theorem kw_419 : (Jvm.Cond.instanceMethod ({ cls := "EvenHold$Lighter", name := "moved", desc := "(II)I" } : Jvm.MethodName)) ∈ wsG := mG2 179 rfl rfl
theorem kw_420 : (Jvm.Cond.selects "EvenHold$Lighter" ({ cls := "EvenHold$Lighter", name := "moved", desc := "(II)I" } : Jvm.MethodName) ({ cls := "EvenHold$Lighter", name := "moved", desc := "(II)I" } : Jvm.MethodName)) ∈ wsG := mG2 180 rfl rfl
theorem kw_421 : (Jvm.Cond.code ({ cls := "EvenHold$Lighter", name := "moved", desc := "(II)I" } : Jvm.MethodName) prog_4_method_6_code (6 : Nat) (Option.some Jvm.ClassFile.FieldType.int)) ∈ wsG := mG2 181 rfl rfl
theorem kw_424 : (Jvm.Cond.methodLink "EvenHold$Lighter" (59 : Nat) ({ cls := "EvenHold$Lighter", name := "slid", desc := "(I)I" } : Jvm.MethodName)) ∈ wsG := mG2 184 rfl rfl
theorem kw_425 : (Jvm.Cond.instanceMethod ({ cls := "EvenHold$Lighter", name := "slid", desc := "(I)I" } : Jvm.MethodName)) ∈ wsG := mG2 185 rfl rfl
theorem kw_426 : (Jvm.Cond.selects "EvenHold$Lighter" ({ cls := "EvenHold$Lighter", name := "slid", desc := "(I)I" } : Jvm.MethodName) ({ cls := "EvenHold$Lighter", name := "slid", desc := "(I)I" } : Jvm.MethodName)) ∈ wsG := mG2 186 rfl rfl
theorem kw_427 : (Jvm.Cond.code ({ cls := "EvenHold$Lighter", name := "slid", desc := "(I)I" } : Jvm.MethodName) prog_4_method_7_code (7 : Nat) (Option.some Jvm.ClassFile.FieldType.int)) ∈ wsG := mG2 187 rfl rfl
theorem kw_428 : (Jvm.Cond.methodLink "EvenHold$Lighter" (52 : Nat) ({ cls := "EvenHold$Lighter", name := "bears", desc := "(II)Z" } : Jvm.MethodName)) ∈ wsG := mG2 188 rfl rfl
theorem kw_429 : (Jvm.Cond.methodLink "EvenHoldLaw" (53 : Nat) ({ cls := "EvenHold", name := "act", desc := "(I)I" } : Jvm.MethodName)) ∈ wsG := mG2 189 rfl rfl
theorem kw_430 : (Jvm.Cond.instanceMethod ({ cls := "EvenHold", name := "act", desc := "(I)I" } : Jvm.MethodName)) ∈ wsG := mG2 190 rfl rfl
theorem kw_431 : (Jvm.Cond.selects "EvenHold" ({ cls := "EvenHold", name := "act", desc := "(I)I" } : Jvm.MethodName) ({ cls := "EvenHold", name := "act", desc := "(I)I" } : Jvm.MethodName)) ∈ wsG := mG2 191 rfl rfl
theorem kw_432 : (Jvm.Cond.code ({ cls := "EvenHold", name := "act", desc := "(I)I" } : Jvm.MethodName) prog_1_method_11_code (3 : Nat) (Option.some Jvm.ClassFile.FieldType.int)) ∈ wsG := mG2 192 rfl rfl
theorem kw_433 : (Jvm.Cond.methodLink "EvenHold" (151 : Nat) ({ cls := "EvenHold$Lighter", name := "minutesOf", desc := "(I)I" } : Jvm.MethodName)) ∈ wsG := mG2 193 rfl rfl
theorem kw_434 : (Jvm.Cond.instanceMethod ({ cls := "EvenHold$Lighter", name := "minutesOf", desc := "(I)I" } : Jvm.MethodName)) ∈ wsG := mG2 194 rfl rfl
theorem kw_435 : (Jvm.Cond.selects "EvenHold$Lighter" ({ cls := "EvenHold$Lighter", name := "minutesOf", desc := "(I)I" } : Jvm.MethodName) ({ cls := "EvenHold$Lighter", name := "minutesOf", desc := "(I)I" } : Jvm.MethodName)) ∈ wsG := mG2 195 rfl rfl
theorem kw_436 : (Jvm.Cond.code ({ cls := "EvenHold$Lighter", name := "minutesOf", desc := "(I)I" } : Jvm.MethodName) prog_4_method_4_code (2 : Nat) (Option.some Jvm.ClassFile.FieldType.int)) ∈ wsG := mG2 196 rfl rfl
theorem kw_437 : (Jvm.Cond.methodLink "EvenHoldLaw" (57 : Nat) ({ cls := "EvenHold", name := "soonest", desc := "(I)I" } : Jvm.MethodName)) ∈ wsG := mG2 197 rfl rfl
theorem kw_438 : (Jvm.Cond.instanceMethod ({ cls := "EvenHold", name := "soonest", desc := "(I)I" } : Jvm.MethodName)) ∈ wsG := mG2 198 rfl rfl
theorem kw_439 : (Jvm.Cond.selects "EvenHold" ({ cls := "EvenHold", name := "soonest", desc := "(I)I" } : Jvm.MethodName) ({ cls := "EvenHold", name := "soonest", desc := "(I)I" } : Jvm.MethodName)) ∈ wsG := mG2 199 rfl rfl
theorem kw_440 : (Jvm.Cond.code ({ cls := "EvenHold", name := "soonest", desc := "(I)I" } : Jvm.MethodName) prog_1_method_12_code (2 : Nat) (Option.some Jvm.ClassFile.FieldType.int)) ∈ wsG := mG2 200 rfl rfl
theorem kw_441 : (Jvm.Cond.methodLink "EvenHold" (154 : Nat) ({ cls := "EvenHold", name := "lookAhead", desc := "()V" } : Jvm.MethodName)) ∈ wsG := mG2 201 rfl rfl
theorem kw_443 : (Jvm.Cond.instanceMethod ({ cls := "EvenHold", name := "lookAhead", desc := "()V" } : Jvm.MethodName)) ∈ wsG := mG2 203 rfl rfl
theorem kw_444 : (Jvm.Cond.code ({ cls := "EvenHold", name := "lookAhead", desc := "()V" } : Jvm.MethodName) prog_1_method_32_code (1 : Nat) (Option.none : Option Jvm.ClassFile.FieldType)) ∈ wsG := mG2 204 rfl rfl
theorem kw_445 : (Jvm.Cond.methodLink "EvenHold" (247 : Nat) ({ cls := "EvenHold$Outlook", name := "lookFrom", desc := "(LEvenHold$Lighter;III)V" } : Jvm.MethodName)) ∈ wsG := mG2 205 rfl rfl
theorem kw_446 : (Jvm.Cond.instanceMethod ({ cls := "EvenHold$Outlook", name := "lookFrom", desc := "(LEvenHold$Lighter;III)V" } : Jvm.MethodName)) ∈ wsG := mG2 206 rfl rfl
theorem kw_447 : (Jvm.Cond.selects "EvenHold$Outlook" ({ cls := "EvenHold$Outlook", name := "lookFrom", desc := "(LEvenHold$Lighter;III)V" } : Jvm.MethodName) ({ cls := "EvenHold$Outlook", name := "lookFrom", desc := "(LEvenHold$Lighter;III)V" } : Jvm.MethodName)) ∈ wsG := mG2 207 rfl rfl
theorem kw_448 : (Jvm.Cond.code ({ cls := "EvenHold$Outlook", name := "lookFrom", desc := "(LEvenHold$Lighter;III)V" } : Jvm.MethodName) prog_6_method_2_code (9 : Nat) (Option.none : Option Jvm.ClassFile.FieldType)) ∈ wsG := mG2 208 rfl rfl
theorem kw_450 : (Jvm.Cond.methodLink "EvenHold$Outlook" (50 : Nat) ({ cls := "java/util/Arrays", name := "fill", desc := "([II)V" } : Jvm.MethodName)) ∈ wsG := mG2 210 rfl rfl
theorem kw_451 : (Jvm.Cond.static ({ cls := "java/util/Arrays", name := "fill", desc := "([II)V" } : Jvm.MethodName)) ∈ wsG := mG2 211 rfl rfl
theorem kw_452 : (Jvm.Cond.code ({ cls := "java/util/Arrays", name := "fill", desc := "([II)V" } : Jvm.MethodName) prog_14_method_103_code (4 : Nat) (Option.none : Option Jvm.ClassFile.FieldType)) ∈ wsG := mG2 212 rfl rfl
theorem kw_453 : (Jvm.Cond.methodLink "EvenHold$Outlook" (56 : Nat) ({ cls := "EvenHold$Outlook", name := "reach", desc := "(III)V" } : Jvm.MethodName)) ∈ wsG := mG2 213 rfl rfl
theorem kw_454 : (Jvm.Cond.instanceMethod ({ cls := "EvenHold$Outlook", name := "reach", desc := "(III)V" } : Jvm.MethodName)) ∈ wsG := mG2 214 rfl rfl
theorem kw_455 : (Jvm.Cond.selects "EvenHold$Outlook" ({ cls := "EvenHold$Outlook", name := "reach", desc := "(III)V" } : Jvm.MethodName) ({ cls := "EvenHold$Outlook", name := "reach", desc := "(III)V" } : Jvm.MethodName)) ∈ wsG := mG2 215 rfl rfl
theorem kw_456 : (Jvm.Cond.code ({ cls := "EvenHold$Outlook", name := "reach", desc := "(III)V" } : Jvm.MethodName) prog_6_method_4_code (5 : Nat) (Option.none : Option Jvm.ClassFile.FieldType)) ∈ wsG := mG2 216 rfl rfl
theorem kw_457 : (Jvm.Cond.methodLink "EvenHold$Outlook" (60 : Nat) ({ cls := "java/lang/Math", name := "min", desc := "(II)I" } : Jvm.MethodName)) ∈ wsG := mG2 217 rfl rfl
theorem kw_458 : (Jvm.Cond.methodLink "EvenHold$Outlook" (66 : Nat) ({ cls := "EvenHold$Outlook", name := "leave", desc := "(LEvenHold$Lighter;III)V" } : Jvm.MethodName)) ∈ wsG := mG2 218 rfl rfl
theorem kw_459 : (Jvm.Cond.instanceMethod ({ cls := "EvenHold$Outlook", name := "leave", desc := "(LEvenHold$Lighter;III)V" } : Jvm.MethodName)) ∈ wsG := mG2 219 rfl rfl
theorem kw_460 : (Jvm.Cond.selects "EvenHold$Outlook" ({ cls := "EvenHold$Outlook", name := "leave", desc := "(LEvenHold$Lighter;III)V" } : Jvm.MethodName) ({ cls := "EvenHold$Outlook", name := "leave", desc := "(LEvenHold$Lighter;III)V" } : Jvm.MethodName)) ∈ wsG := mG2 220 rfl rfl
theorem kw_461 : (Jvm.Cond.code ({ cls := "EvenHold$Outlook", name := "leave", desc := "(LEvenHold$Lighter;III)V" } : Jvm.MethodName) prog_6_method_3_code (11 : Nat) (Option.none : Option Jvm.ClassFile.FieldType)) ∈ wsG := mG2 221 rfl rfl
theorem kw_462 : (Jvm.Cond.methodLink "EvenHold$Outlook" (70 : Nat) ({ cls := "java/lang/Math", name := "max", desc := "(II)I" } : Jvm.MethodName)) ∈ wsG := mG2 222 rfl rfl
theorem kw_465 : (Jvm.Cond.methodLink "EvenHold$Outlook" (76 : Nat) ({ cls := "EvenHold$Lighter", name := "behind", desc := "(III)I" } : Jvm.MethodName)) ∈ wsG := mG2 225 rfl rfl
theorem kw_466 : (Jvm.Cond.methodLink "EvenHold$Outlook" (82 : Nat) ({ cls := "EvenHold$Lighter", name := "minutesOf", desc := "(I)I" } : Jvm.MethodName)) ∈ wsG := mG2 226 rfl rfl
theorem kw_467 : (Jvm.Cond.methodLink "EvenHoldLaw" (61 : Nat) ({ cls := "EvenHold", name := "most", desc := "()I" } : Jvm.MethodName)) ∈ wsG := mG2 227 rfl rfl
theorem kw_468 : (Jvm.Cond.instanceMethod ({ cls := "EvenHold", name := "most", desc := "()I" } : Jvm.MethodName)) ∈ wsG := mG2 228 rfl rfl
theorem kw_469 : (Jvm.Cond.selects "EvenHold" ({ cls := "EvenHold", name := "most", desc := "()I" } : Jvm.MethodName) ({ cls := "EvenHold", name := "most", desc := "()I" } : Jvm.MethodName)) ∈ wsG := mG2 229 rfl rfl
theorem kw_470 : (Jvm.Cond.code ({ cls := "EvenHold", name := "most", desc := "()I" } : Jvm.MethodName) prog_1_method_13_code (1 : Nat) (Option.some Jvm.ClassFile.FieldType.int)) ∈ wsG := mG2 230 rfl rfl
theorem kw_471 : (Jvm.Cond.methodLink "EvenHoldLaw" (65 : Nat) ({ cls := "EvenHold", name := "holds", desc := "()I" } : Jvm.MethodName)) ∈ wsG := mG2 231 rfl rfl
theorem kw_472 : (Jvm.Cond.instanceMethod ({ cls := "EvenHold", name := "holds", desc := "()I" } : Jvm.MethodName)) ∈ wsG := mG2 232 rfl rfl
theorem kw_473 : (Jvm.Cond.selects "EvenHold" ({ cls := "EvenHold", name := "holds", desc := "()I" } : Jvm.MethodName) ({ cls := "EvenHold", name := "holds", desc := "()I" } : Jvm.MethodName)) ∈ wsG := mG2 233 rfl rfl
theorem kw_474 : (Jvm.Cond.code ({ cls := "EvenHold", name := "holds", desc := "()I" } : Jvm.MethodName) prog_1_method_14_code (1 : Nat) (Option.some Jvm.ClassFile.FieldType.int)) ∈ wsG := mG2 234 rfl rfl
theorem kw_475 : (Jvm.Cond.methodLink "EvenHoldLaw" (69 : Nat) ({ cls := "EvenHold", name := "leastBend", desc := "()I" } : Jvm.MethodName)) ∈ wsG := mG2 235 rfl rfl
theorem kw_476 : (Jvm.Cond.instanceMethod ({ cls := "EvenHold", name := "leastBend", desc := "()I" } : Jvm.MethodName)) ∈ wsG := mG2 236 rfl rfl
theorem kw_477 : (Jvm.Cond.selects "EvenHold" ({ cls := "EvenHold", name := "leastBend", desc := "()I" } : Jvm.MethodName) ({ cls := "EvenHold", name := "leastBend", desc := "()I" } : Jvm.MethodName)) ∈ wsG := mG2 237 rfl rfl
theorem kw_478 : (Jvm.Cond.code ({ cls := "EvenHold", name := "leastBend", desc := "()I" } : Jvm.MethodName) prog_1_method_15_code (1 : Nat) (Option.some Jvm.ClassFile.FieldType.int)) ∈ wsG := mG2 238 rfl rfl
theorem kw_479 : (Jvm.Cond.methodLink "EvenHold" (168 : Nat) ({ cls := "EvenHold$Easing", name := "leastFrom", desc := "(LEvenHold$Lighter;I)I" } : Jvm.MethodName)) ∈ wsG := mG2 239 rfl rfl
theorem kw_480 : (Jvm.Cond.instanceMethod ({ cls := "EvenHold$Easing", name := "leastFrom", desc := "(LEvenHold$Lighter;I)I" } : Jvm.MethodName)) ∈ wsG := mG3 0 rfl rfl
theorem kw_481 : (Jvm.Cond.selects "EvenHold$Easing" ({ cls := "EvenHold$Easing", name := "leastFrom", desc := "(LEvenHold$Lighter;I)I" } : Jvm.MethodName) ({ cls := "EvenHold$Easing", name := "leastFrom", desc := "(LEvenHold$Lighter;I)I" } : Jvm.MethodName)) ∈ wsG := mG3 1 rfl rfl
theorem kw_482 : (Jvm.Cond.code ({ cls := "EvenHold$Easing", name := "leastFrom", desc := "(LEvenHold$Lighter;I)I" } : Jvm.MethodName) prog_2_method_2_code (5 : Nat) (Option.some Jvm.ClassFile.FieldType.int)) ∈ wsG := mG3 2 rfl rfl
theorem kw_483 : (Jvm.Cond.methodLink "EvenHold$Easing" (18 : Nat) ({ cls := "java/util/Arrays", name := "fill", desc := "([II)V" } : Jvm.MethodName)) ∈ wsG := mG3 3 rfl rfl
theorem kw_484 : (Jvm.Cond.methodLink "EvenHold$Easing" (24 : Nat) ({ cls := "EvenHold$Easing", name := "put", desc := "(II)V" } : Jvm.MethodName)) ∈ wsG := mG3 4 rfl rfl
theorem kw_485 : (Jvm.Cond.instanceMethod ({ cls := "EvenHold$Easing", name := "put", desc := "(II)V" } : Jvm.MethodName)) ∈ wsG := mG3 5 rfl rfl
theorem kw_486 : (Jvm.Cond.selects "EvenHold$Easing" ({ cls := "EvenHold$Easing", name := "put", desc := "(II)V" } : Jvm.MethodName) ({ cls := "EvenHold$Easing", name := "put", desc := "(II)V" } : Jvm.MethodName)) ∈ wsG := mG3 6 rfl rfl
theorem kw_487 : (Jvm.Cond.code ({ cls := "EvenHold$Easing", name := "put", desc := "(II)V" } : Jvm.MethodName) prog_2_method_4_code (3 : Nat) (Option.none : Option Jvm.ClassFile.FieldType)) ∈ wsG := mG3 7 rfl rfl
theorem kw_488 : (Jvm.Cond.methodLink "EvenHold$Easing" (28 : Nat) ({ cls := "EvenHold$Easing", name := "leaveHead", desc := "(LEvenHold$Lighter;I)V" } : Jvm.MethodName)) ∈ wsG := mG3 8 rfl rfl
theorem kw_489 : (Jvm.Cond.instanceMethod ({ cls := "EvenHold$Easing", name := "leaveHead", desc := "(LEvenHold$Lighter;I)V" } : Jvm.MethodName)) ∈ wsG := mG3 9 rfl rfl
theorem kw_490 : (Jvm.Cond.selects "EvenHold$Easing" ({ cls := "EvenHold$Easing", name := "leaveHead", desc := "(LEvenHold$Lighter;I)V" } : Jvm.MethodName) ({ cls := "EvenHold$Easing", name := "leaveHead", desc := "(LEvenHold$Lighter;I)V" } : Jvm.MethodName)) ∈ wsG := mG3 10 rfl rfl
theorem kw_491 : (Jvm.Cond.code ({ cls := "EvenHold$Easing", name := "leaveHead", desc := "(LEvenHold$Lighter;I)V" } : Jvm.MethodName) prog_2_method_3_code (9 : Nat) (Option.none : Option Jvm.ClassFile.FieldType)) ∈ wsG := mG3 11 rfl rfl
theorem kw_493 : (Jvm.Cond.methodLink "EvenHold$Easing" (35 : Nat) ({ cls := "EvenHold$Lighter", name := "moved", desc := "(II)I" } : Jvm.MethodName)) ∈ wsG := mG3 13 rfl rfl
theorem kw_496 : (Jvm.Cond.methodLink "EvenHold$Easing" (52 : Nat) ({ cls := "java/lang/Math", name := "max", desc := "(II)I" } : Jvm.MethodName)) ∈ wsG := mG3 16 rfl rfl
theorem kw_497 : (Jvm.Cond.methodLink "EvenHoldLaw" (73 : Nat) ({ cls := "EvenHold", name := "string", desc := "(I)I" } : Jvm.MethodName)) ∈ wsG := mG3 17 rfl rfl
theorem kw_498 : (Jvm.Cond.instanceMethod ({ cls := "EvenHold", name := "string", desc := "(I)I" } : Jvm.MethodName)) ∈ wsG := mG3 18 rfl rfl
theorem kw_499 : (Jvm.Cond.selects "EvenHold" ({ cls := "EvenHold", name := "string", desc := "(I)I" } : Jvm.MethodName) ({ cls := "EvenHold", name := "string", desc := "(I)I" } : Jvm.MethodName)) ∈ wsG := mG3 19 rfl rfl
theorem kw_500 : (Jvm.Cond.code ({ cls := "EvenHold", name := "string", desc := "(I)I" } : Jvm.MethodName) prog_1_method_16_code (2 : Nat) (Option.some Jvm.ClassFile.FieldType.int)) ∈ wsG := mG3 20 rfl rfl
theorem kw_501 : (Jvm.Cond.methodLink "EvenHoldLaw" (77 : Nat) ({ cls := "EvenHold", name := "forget", desc := "()I" } : Jvm.MethodName)) ∈ wsG := mG3 21 rfl rfl
theorem kw_502 : (Jvm.Cond.instanceMethod ({ cls := "EvenHold", name := "forget", desc := "()I" } : Jvm.MethodName)) ∈ wsG := mG3 22 rfl rfl
theorem kw_503 : (Jvm.Cond.selects "EvenHold" ({ cls := "EvenHold", name := "forget", desc := "()I" } : Jvm.MethodName) ({ cls := "EvenHold", name := "forget", desc := "()I" } : Jvm.MethodName)) ∈ wsG := mG3 23 rfl rfl
theorem kw_504 : (Jvm.Cond.code ({ cls := "EvenHold", name := "forget", desc := "()I" } : Jvm.MethodName) prog_1_method_17_code (2 : Nat) (Option.some Jvm.ClassFile.FieldType.int)) ∈ wsG := mG3 24 rfl rfl
theorem kw_505 : (Jvm.Cond.methodLink "EvenHoldLaw" (81 : Nat) ({ cls := "EvenHold", name := "fits", desc := "(I)I" } : Jvm.MethodName)) ∈ wsG := mG3 25 rfl rfl
theorem kw_506 : (Jvm.Cond.instanceMethod ({ cls := "EvenHold", name := "fits", desc := "(I)I" } : Jvm.MethodName)) ∈ wsG := mG3 26 rfl rfl
theorem kw_507 : (Jvm.Cond.selects "EvenHold" ({ cls := "EvenHold", name := "fits", desc := "(I)I" } : Jvm.MethodName) ({ cls := "EvenHold", name := "fits", desc := "(I)I" } : Jvm.MethodName)) ∈ wsG := mG3 27 rfl rfl
theorem kw_508 : (Jvm.Cond.code ({ cls := "EvenHold", name := "fits", desc := "(I)I" } : Jvm.MethodName) prog_1_method_18_code (2 : Nat) (Option.some Jvm.ClassFile.FieldType.int)) ∈ wsG := mG3 28 rfl rfl
theorem kw_509 : (Jvm.Cond.methodLink "EvenHold" (178 : Nat) ({ cls := "EvenHold", name := "lookBack", desc := "()V" } : Jvm.MethodName)) ∈ wsG := mG3 29 rfl rfl
theorem kw_511 : (Jvm.Cond.instanceMethod ({ cls := "EvenHold", name := "lookBack", desc := "()V" } : Jvm.MethodName)) ∈ wsG := mG3 31 rfl rfl
theorem kw_512 : (Jvm.Cond.code ({ cls := "EvenHold", name := "lookBack", desc := "()V" } : Jvm.MethodName) prog_1_method_33_code (1 : Nat) (Option.none : Option Jvm.ClassFile.FieldType)) ∈ wsG := mG3 32 rfl rfl
theorem kw_513 : (Jvm.Cond.methodLink "EvenHold" (251 : Nat) ({ cls := "EvenHold$Fit", name := "tellOf", desc := "(LEvenHold$Lighter;LEvenHold$Now;I)V" } : Jvm.MethodName)) ∈ wsG := mG3 33 rfl rfl
theorem kw_514 : (Jvm.Cond.instanceMethod ({ cls := "EvenHold$Fit", name := "tellOf", desc := "(LEvenHold$Lighter;LEvenHold$Now;I)V" } : Jvm.MethodName)) ∈ wsG := mG3 34 rfl rfl
theorem kw_515 : (Jvm.Cond.selects "EvenHold$Fit" ({ cls := "EvenHold$Fit", name := "tellOf", desc := "(LEvenHold$Lighter;LEvenHold$Now;I)V" } : Jvm.MethodName) ({ cls := "EvenHold$Fit", name := "tellOf", desc := "(LEvenHold$Lighter;LEvenHold$Now;I)V" } : Jvm.MethodName)) ∈ wsG := mG3 35 rfl rfl
theorem kw_516 : (Jvm.Cond.code ({ cls := "EvenHold$Fit", name := "tellOf", desc := "(LEvenHold$Lighter;LEvenHold$Now;I)V" } : Jvm.MethodName) prog_3_method_2_code (9 : Nat) (Option.none : Option Jvm.ClassFile.FieldType)) ∈ wsG := mG3 36 rfl rfl
theorem kw_518 : (Jvm.Cond.methodLink "EvenHold$Fit" (33 : Nat) ({ cls := "EvenHold$Lighter", name := "behind", desc := "(III)I" } : Jvm.MethodName)) ∈ wsG := mG3 38 rfl rfl
theorem kw_519 : (Jvm.Cond.methodLink "EvenHold$Fit" (39 : Nat) ({ cls := "EvenHold$Fit", name := "rowsBehind", desc := "(LEvenHold$Lighter;LEvenHold$Now;III)I" } : Jvm.MethodName)) ∈ wsG := mG3 39 rfl rfl
theorem kw_520 : (Jvm.Cond.static ({ cls := "EvenHold$Fit", name := "rowsBehind", desc := "(LEvenHold$Lighter;LEvenHold$Now;III)I" } : Jvm.MethodName)) ∈ wsG := mG3 40 rfl rfl
theorem kw_521 : (Jvm.Cond.code ({ cls := "EvenHold$Fit", name := "rowsBehind", desc := "(LEvenHold$Lighter;LEvenHold$Now;III)I" } : Jvm.MethodName) prog_3_method_3_code (10 : Nat) (Option.some Jvm.ClassFile.FieldType.int)) ∈ wsG := mG3 41 rfl rfl
theorem kw_523 : (Jvm.Cond.methodLink "EvenHoldLaw" (85 : Nat) ({ cls := "EvenHold", name := "days", desc := "(III)I" } : Jvm.MethodName)) ∈ wsG := mG3 43 rfl rfl
theorem kw_524 : (Jvm.Cond.instanceMethod ({ cls := "EvenHold", name := "days", desc := "(III)I" } : Jvm.MethodName)) ∈ wsG := mG3 44 rfl rfl
theorem kw_525 : (Jvm.Cond.selects "EvenHold" ({ cls := "EvenHold", name := "days", desc := "(III)I" } : Jvm.MethodName) ({ cls := "EvenHold", name := "days", desc := "(III)I" } : Jvm.MethodName)) ∈ wsG := mG3 45 rfl rfl
theorem kw_526 : (Jvm.Cond.code ({ cls := "EvenHold", name := "days", desc := "(III)I" } : Jvm.MethodName) prog_1_method_19_code (12 : Nat) (Option.some Jvm.ClassFile.FieldType.int)) ∈ wsG := mG3 46 rfl rfl
theorem kw_527 : (Jvm.Cond.methodLink "EvenHold" (190 : Nat) ({ cls := "EvenHold", name := "nextSeed", desc := "(I)I" } : Jvm.MethodName)) ∈ wsG := mG3 47 rfl rfl
theorem kw_528 : (Jvm.Cond.static ({ cls := "EvenHold", name := "nextSeed", desc := "(I)I" } : Jvm.MethodName)) ∈ wsG := mG3 48 rfl rfl
theorem kw_529 : (Jvm.Cond.code ({ cls := "EvenHold", name := "nextSeed", desc := "(I)I" } : Jvm.MethodName) prog_1_method_36_code (1 : Nat) (Option.some Jvm.ClassFile.FieldType.int)) ∈ wsG := mG3 49 rfl rfl
theorem kw_530 : (Jvm.Cond.constantLong "EvenHold" (255 : Nat) (1103515245 : Int64)) ∈ wsG := mG3 50 rfl rfl
theorem kw_531 : (Jvm.Cond.constantLong "EvenHold" (257 : Nat) (12345 : Int64)) ∈ wsG := mG3 51 rfl rfl
theorem kw_532 : (Jvm.Cond.constantLong "EvenHold" (259 : Nat) (2147483648 : Int64)) ∈ wsG := mG3 52 rfl rfl
theorem kw_533 : (Jvm.Cond.constant "EvenHold" (193 : Nat) (65536 : Int32)) ∈ wsG := mG3 53 rfl rfl
theorem kw_534 : (Jvm.Cond.methodLink "EvenHoldLaw" (90 : Nat) ({ cls := "EvenHold", name := "image", desc := "()I" } : Jvm.MethodName)) ∈ wsG := mG3 54 rfl rfl
theorem kw_535 : (Jvm.Cond.instanceMethod ({ cls := "EvenHold", name := "image", desc := "()I" } : Jvm.MethodName)) ∈ wsG := mG3 55 rfl rfl
theorem kw_536 : (Jvm.Cond.selects "EvenHold" ({ cls := "EvenHold", name := "image", desc := "()I" } : Jvm.MethodName) ({ cls := "EvenHold", name := "image", desc := "()I" } : Jvm.MethodName)) ∈ wsG := mG3 56 rfl rfl
theorem kw_537 : (Jvm.Cond.code ({ cls := "EvenHold", name := "image", desc := "()I" } : Jvm.MethodName) prog_1_method_20_code (1 : Nat) (Option.some Jvm.ClassFile.FieldType.int)) ∈ wsG := mG3 57 rfl rfl
theorem kw_538 : (Jvm.Cond.methodLink "EvenHold" (194 : Nat) ({ cls := "EvenHold$Now", name := "copyOf", desc := "(LEvenHold$Now;)V" } : Jvm.MethodName)) ∈ wsG := mG3 58 rfl rfl
theorem kw_539 : (Jvm.Cond.instanceMethod ({ cls := "EvenHold$Now", name := "copyOf", desc := "(LEvenHold$Now;)V" } : Jvm.MethodName)) ∈ wsG := mG3 59 rfl rfl
theorem kw_540 : (Jvm.Cond.selects "EvenHold$Now" ({ cls := "EvenHold$Now", name := "copyOf", desc := "(LEvenHold$Now;)V" } : Jvm.MethodName) ({ cls := "EvenHold$Now", name := "copyOf", desc := "(LEvenHold$Now;)V" } : Jvm.MethodName)) ∈ wsG := mG3 60 rfl rfl
theorem kw_541 : (Jvm.Cond.code ({ cls := "EvenHold$Now", name := "copyOf", desc := "(LEvenHold$Now;)V" } : Jvm.MethodName) prog_5_method_3_code (3 : Nat) (Option.none : Option Jvm.ClassFile.FieldType)) ∈ wsG := mG3 61 rfl rfl
theorem kw_542 : (Jvm.Cond.methodLink "EvenHoldLaw" (94 : Nat) ({ cls := "EvenHold", name := "restore", desc := "()I" } : Jvm.MethodName)) ∈ wsG := mG3 62 rfl rfl
theorem kw_543 : (Jvm.Cond.instanceMethod ({ cls := "EvenHold", name := "restore", desc := "()I" } : Jvm.MethodName)) ∈ wsG := mG3 63 rfl rfl
theorem kw_544 : (Jvm.Cond.selects "EvenHold" ({ cls := "EvenHold", name := "restore", desc := "()I" } : Jvm.MethodName) ({ cls := "EvenHold", name := "restore", desc := "()I" } : Jvm.MethodName)) ∈ wsG := mG3 64 rfl rfl
theorem kw_545 : (Jvm.Cond.code ({ cls := "EvenHold", name := "restore", desc := "()I" } : Jvm.MethodName) prog_1_method_21_code (1 : Nat) (Option.some Jvm.ClassFile.FieldType.int)) ∈ wsG := mG3 65 rfl rfl
theorem kw_546 : (Jvm.Cond.methodLink "EvenHoldLaw" (98 : Nat) ({ cls := "EvenHold", name := "count", desc := "(I)I" } : Jvm.MethodName)) ∈ wsG := mG3 66 rfl rfl
theorem kw_547 : (Jvm.Cond.instanceMethod ({ cls := "EvenHold", name := "count", desc := "(I)I" } : Jvm.MethodName)) ∈ wsG := mG3 67 rfl rfl
theorem kw_548 : (Jvm.Cond.selects "EvenHold" ({ cls := "EvenHold", name := "count", desc := "(I)I" } : Jvm.MethodName) ({ cls := "EvenHold", name := "count", desc := "(I)I" } : Jvm.MethodName)) ∈ wsG := mG3 68 rfl rfl
theorem kw_549 : (Jvm.Cond.code ({ cls := "EvenHold", name := "count", desc := "(I)I" } : Jvm.MethodName) prog_1_method_22_code (2 : Nat) (Option.some Jvm.ClassFile.FieldType.int)) ∈ wsG := mG3 69 rfl rfl
theorem kw_550 : (Jvm.Cond.methodLink "EvenHoldLaw" (102 : Nat) ({ cls := "EvenHold", name := "digest", desc := "()J" } : Jvm.MethodName)) ∈ wsG := mG3 70 rfl rfl
theorem kw_551 : (Jvm.Cond.instanceMethod ({ cls := "EvenHold", name := "digest", desc := "()J" } : Jvm.MethodName)) ∈ wsG := mG3 71 rfl rfl
theorem kw_552 : (Jvm.Cond.selects "EvenHold" ({ cls := "EvenHold", name := "digest", desc := "()J" } : Jvm.MethodName) ({ cls := "EvenHold", name := "digest", desc := "()J" } : Jvm.MethodName)) ∈ wsG := mG3 72 rfl rfl
theorem kw_553 : (Jvm.Cond.code ({ cls := "EvenHold", name := "digest", desc := "()J" } : Jvm.MethodName) prog_1_method_23_code (4 : Nat) (Option.some Jvm.ClassFile.FieldType.long)) ∈ wsG := mG3 73 rfl rfl
theorem kw_554 : (Jvm.Cond.constantLong "EvenHold" (204 : Nat) (829 : Int64)) ∈ wsG := mG3 74 rfl rfl
theorem kw_555 : (Jvm.Cond.methodLink "EvenHold" (206 : Nat) ({ cls := "EvenHold", name := "withLighter", desc := "(J)J" } : Jvm.MethodName)) ∈ wsG := mG3 75 rfl rfl
theorem kw_557 : (Jvm.Cond.instanceMethod ({ cls := "EvenHold", name := "withLighter", desc := "(J)J" } : Jvm.MethodName)) ∈ wsG := mG3 77 rfl rfl
theorem kw_558 : (Jvm.Cond.code ({ cls := "EvenHold", name := "withLighter", desc := "(J)J" } : Jvm.MethodName) prog_1_method_24_code (7 : Nat) (Option.some Jvm.ClassFile.FieldType.long)) ∈ wsG := mG3 78 rfl rfl
theorem kw_559 : (Jvm.Cond.constantLong "EvenHold" (216 : Nat) (31 : Int64)) ∈ wsG := mG3 79 rfl rfl
theorem kw_560 : (Jvm.Cond.methodLink "EvenHold" (221 : Nat) ({ cls := "EvenHold", name := "bay", desc := "(II)I" } : Jvm.MethodName)) ∈ wsG := mG3 80 rfl rfl
theorem kw_561 : (Jvm.Cond.methodLink "EvenHold" (224 : Nat) ({ cls := "EvenHold", name := "hull", desc := "(I)I" } : Jvm.MethodName)) ∈ wsG := mG3 81 rfl rfl
theorem kw_562 : (Jvm.Cond.methodLink "EvenHold" (210 : Nat) ({ cls := "EvenHold", name := "withActs", desc := "(J)J" } : Jvm.MethodName)) ∈ wsG := mG3 82 rfl rfl
theorem kw_564 : (Jvm.Cond.instanceMethod ({ cls := "EvenHold", name := "withActs", desc := "(J)J" } : Jvm.MethodName)) ∈ wsG := mG3 84 rfl rfl
theorem kw_565 : (Jvm.Cond.code ({ cls := "EvenHold", name := "withActs", desc := "(J)J" } : Jvm.MethodName) prog_1_method_25_code (9 : Nat) (Option.some Jvm.ClassFile.FieldType.long)) ∈ wsG := mG3 85 rfl rfl
theorem kw_566 : (Jvm.Cond.fieldLink "EvenHold" (227 : Nat) "EvenHold" "ACTS" "[I") ∈ wsG := mG3 86 rfl rfl
theorem kw_567 : (Jvm.Cond.methodLink "EvenHold" (230 : Nat) ({ cls := "EvenHold", name := "may", desc := "(I)I" } : Jvm.MethodName)) ∈ wsG := mG3 87 rfl rfl
theorem kw_568 : (Jvm.Cond.methodLink "EvenHold" (213 : Nat) ({ cls := "EvenHold", name := "withOutlook", desc := "(J)J" } : Jvm.MethodName)) ∈ wsG := mG3 88 rfl rfl
theorem kw_570 : (Jvm.Cond.instanceMethod ({ cls := "EvenHold", name := "withOutlook", desc := "(J)J" } : Jvm.MethodName)) ∈ wsG := mG3 90 rfl rfl
theorem kw_571 : (Jvm.Cond.code ({ cls := "EvenHold", name := "withOutlook", desc := "(J)J" } : Jvm.MethodName) prog_1_method_26_code (5 : Nat) (Option.some Jvm.ClassFile.FieldType.long)) ∈ wsG := mG3 91 rfl rfl
theorem kw_572 : (Jvm.Cond.methodLink "EvenHold" (218 : Nat) ({ cls := "EvenHold", name := "count", desc := "(I)I" } : Jvm.MethodName)) ∈ wsG := mG3 92 rfl rfl
theorem kw_573 : (Jvm.Cond.classLink "EvenHoldLaw" (10 : Nat) "EvenHoldModel") ∈ wsG := mG3 93 rfl rfl
theorem kw_574 : (Jvm.Cond.instantiable "EvenHoldModel" (32 : Nat)) ∈ wsG := mG3 94 rfl rfl
theorem kw_575 : (Jvm.Cond.methodLink "EvenHoldLaw" (12 : Nat) ({ cls := "EvenHoldModel", name := "<init>", desc := "()V" } : Jvm.MethodName)) ∈ wsG := mG3 95 rfl rfl
theorem kw_576 : (Jvm.Cond.instanceMethod ({ cls := "EvenHoldModel", name := "<init>", desc := "()V" } : Jvm.MethodName)) ∈ wsG := mG3 96 rfl rfl
theorem kw_577 : (Jvm.Cond.code ({ cls := "EvenHoldModel", name := "<init>", desc := "()V" } : Jvm.MethodName) prog_8_method_1_code (1 : Nat) (Option.none : Option Jvm.ClassFile.FieldType)) ∈ wsG := mG3 97 rfl rfl
theorem kw_578 : (Jvm.Cond.methodLink "EvenHoldModel" (1 : Nat) ({ cls := "java/lang/Object", name := "<init>", desc := "()V" } : Jvm.MethodName)) ∈ wsG := mG3 98 rfl rfl
theorem kw_579 : (Jvm.Cond.fieldLink "EvenHoldModel" (7 : Nat) "EvenHoldModel" "page" "[I") ∈ wsG := mG3 99 rfl rfl
theorem kw_580 : (Jvm.Cond.fieldLink "EvenHoldModel" (51 : Nat) "EvenHoldModel" "pageMany" "I") ∈ wsG := mG3 100 rfl rfl
theorem kw_581 : (Jvm.Cond.fieldLink "EvenHoldModel" (91 : Nat) "EvenHoldModel" "isThere" "Z") ∈ wsG := mG3 101 rfl rfl
theorem kw_582 : (Jvm.Cond.fieldLink "EvenHoldModel" (73 : Nat) "EvenHoldModel" "bend" "I") ∈ wsG := mG3 102 rfl rfl
theorem kw_583 : (Jvm.Cond.fieldLink "EvenHoldModel" (76 : Nat) "EvenHoldModel" "list" "I") ∈ wsG := mG3 103 rfl rfl
theorem kw_584 : (Jvm.Cond.fieldLink "EvenHoldModel" (70 : Nat) "EvenHoldModel" "lies" "I") ∈ wsG := mG3 104 rfl rfl
theorem kw_585 : (Jvm.Cond.fieldLink "EvenHoldModel" (79 : Nat) "EvenHoldModel" "out" "I") ∈ wsG := mG3 105 rfl rfl
theorem kw_586 : (Jvm.Cond.fieldLink "EvenHoldModel" (82 : Nat) "EvenHoldModel" "minutes" "I") ∈ wsG := mG3 106 rfl rfl
theorem kw_587 : (Jvm.Cond.fieldLink "EvenHoldModel" (85 : Nat) "EvenHoldModel" "groundNow" "I") ∈ wsG := mG3 107 rfl rfl
theorem kw_588 : (Jvm.Cond.fieldLink "EvenHoldModel" (95 : Nat) "EvenHoldModel" "holdsRead" "I") ∈ wsG := mG3 108 rfl rfl
theorem kw_589 : (Jvm.Cond.fieldLink "EvenHoldModel" (13 : Nat) "EvenHoldModel" "kinds" "[I") ∈ wsG := mG3 109 rfl rfl
theorem kw_590 : (Jvm.Cond.fieldLink "EvenHoldModel" (16 : Nat) "EvenHoldModel" "far" "[I") ∈ wsG := mG3 110 rfl rfl
theorem kw_591 : (Jvm.Cond.fieldLink "EvenHoldModel" (19 : Nat) "EvenHoldModel" "firsts" "[I") ∈ wsG := mG3 111 rfl rfl
theorem kw_592 : (Jvm.Cond.fieldLink "EvenHoldModel" (22 : Nat) "EvenHoldModel" "waits" "[I") ∈ wsG := mG3 112 rfl rfl
theorem kw_593 : (Jvm.Cond.fieldLink "EvenHoldModel" (25 : Nat) "EvenHoldModel" "isWaiting" "[Z") ∈ wsG := mG3 113 rfl rfl
theorem kw_594 : (Jvm.Cond.fieldLink "EvenHoldModel" (163 : Nat) "EvenHoldModel" "leastMany" "I") ∈ wsG := mG3 114 rfl rfl
theorem kw_595 : (Jvm.Cond.fieldLink "EvenHoldModel" (88 : Nat) "EvenHoldModel" "stringMany" "I") ∈ wsG := mG3 115 rfl rfl
theorem kw_596 : (Jvm.Cond.fieldLink "EvenHoldModel" (29 : Nat) "EvenHoldModel" "strings" "[I") ∈ wsG := mG3 116 rfl rfl
theorem kw_597 : (Jvm.Cond.fieldLink "EvenHoldModel" (32 : Nat) "EvenHoldModel" "now" "[I") ∈ wsG := mG3 117 rfl rfl
theorem kw_598 : (Jvm.Cond.fieldLink "EvenHoldModel" (35 : Nat) "EvenHoldModel" "next" "[I") ∈ wsG := mG3 118 rfl rfl
theorem kw_599 : (Jvm.Cond.fieldLink "EvenHoldModel" (171 : Nat) "EvenHoldModel" "fitsAll" "I") ∈ wsG := mG3 119 rfl rfl
theorem kw_600 : (Jvm.Cond.fieldLink "EvenHoldModel" (174 : Nat) "EvenHoldModel" "firstMany" "I") ∈ wsG := mG3 120 rfl rfl
theorem kw_601 : (Jvm.Cond.fieldLink "EvenHoldModel" (177 : Nat) "EvenHoldModel" "firstLeast" "I") ∈ wsG := mG3 121 rfl rfl
theorem kw_602 : (Jvm.Cond.fieldLink "EvenHoldModel" (188 : Nat) "EvenHoldModel" "seedNow" "I") ∈ wsG := mG3 122 rfl rfl
theorem kw_603 : (Jvm.Cond.fieldLink "EvenHoldModel" (41 : Nat) "EvenHoldModel" "keptHold" "I") ∈ wsG := mG3 123 rfl rfl
theorem kw_604 : (Jvm.Cond.fieldLink "EvenHoldModel" (205 : Nat) "EvenHoldModel" "keptLies" "I") ∈ wsG := mG3 124 rfl rfl
theorem kw_605 : (Jvm.Cond.fieldLink "EvenHoldModel" (208 : Nat) "EvenHoldModel" "keptOut" "I") ∈ wsG := mG3 125 rfl rfl
theorem kw_606 : (Jvm.Cond.fieldLink "EvenHoldModel" (211 : Nat) "EvenHoldModel" "keptMinutes" "I") ∈ wsG := mG3 126 rfl rfl
theorem kw_607 : (Jvm.Cond.fieldLink "EvenHoldModel" (214 : Nat) "EvenHoldModel" "keptGround" "I") ∈ wsG := mG3 127 rfl rfl
theorem kw_608 : (Jvm.Cond.fieldLink "EvenHoldModel" (217 : Nat) "EvenHoldModel" "keptStringMany" "I") ∈ wsG := mG3 128 rfl rfl
theorem kw_609 : (Jvm.Cond.fieldLink "EvenHoldModel" (38 : Nat) "EvenHoldModel" "keptStrings" "[I") ∈ wsG := mG3 129 rfl rfl
theorem kw_610 : (Jvm.Cond.fieldLink "EvenHoldModel" (225 : Nat) "EvenHoldModel" "hash" "J") ∈ wsG := mG3 130 rfl rfl
theorem kw_611 : (Jvm.Cond.laysFinal "EvenHoldModel" "EvenHoldModel" "page" "[I") ∈ wsG := mG3 131 rfl rfl
theorem kw_613 : (Jvm.Cond.lays "EvenHoldModel" "EvenHoldModel" "pageMany" "I") ∈ wsG := mG3 133 rfl rfl
theorem kw_615 : (Jvm.Cond.lays "EvenHoldModel" "EvenHoldModel" "isThere" "Z") ∈ wsG := mG3 135 rfl rfl
theorem kw_617 : (Jvm.Cond.lays "EvenHoldModel" "EvenHoldModel" "bend" "I") ∈ wsG := mG3 137 rfl rfl
theorem kw_619 : (Jvm.Cond.lays "EvenHoldModel" "EvenHoldModel" "list" "I") ∈ wsG := mG3 139 rfl rfl
theorem kw_621 : (Jvm.Cond.lays "EvenHoldModel" "EvenHoldModel" "lies" "I") ∈ wsG := mG3 141 rfl rfl
theorem kw_623 : (Jvm.Cond.lays "EvenHoldModel" "EvenHoldModel" "out" "I") ∈ wsG := mG3 143 rfl rfl
theorem kw_625 : (Jvm.Cond.lays "EvenHoldModel" "EvenHoldModel" "minutes" "I") ∈ wsG := mG3 145 rfl rfl
theorem kw_627 : (Jvm.Cond.lays "EvenHoldModel" "EvenHoldModel" "groundNow" "I") ∈ wsG := mG3 147 rfl rfl
theorem kw_629 : (Jvm.Cond.lays "EvenHoldModel" "EvenHoldModel" "holdsRead" "I") ∈ wsG := mG3 149 rfl rfl
theorem kw_631 : (Jvm.Cond.laysFinal "EvenHoldModel" "EvenHoldModel" "kinds" "[I") ∈ wsG := mG3 151 rfl rfl
theorem kw_633 : (Jvm.Cond.laysFinal "EvenHoldModel" "EvenHoldModel" "far" "[I") ∈ wsG := mG3 153 rfl rfl
theorem kw_635 : (Jvm.Cond.laysFinal "EvenHoldModel" "EvenHoldModel" "firsts" "[I") ∈ wsG := mG3 155 rfl rfl
theorem kw_637 : (Jvm.Cond.laysFinal "EvenHoldModel" "EvenHoldModel" "waits" "[I") ∈ wsG := mG3 157 rfl rfl
theorem kw_639 : (Jvm.Cond.laysFinal "EvenHoldModel" "EvenHoldModel" "isWaiting" "[Z") ∈ wsG := mG3 159 rfl rfl
theorem kw_641 : (Jvm.Cond.lays "EvenHoldModel" "EvenHoldModel" "leastMany" "I") ∈ wsG := mG3 161 rfl rfl
theorem kw_643 : (Jvm.Cond.lays "EvenHoldModel" "EvenHoldModel" "stringMany" "I") ∈ wsG := mG3 163 rfl rfl
theorem kw_645 : (Jvm.Cond.laysFinal "EvenHoldModel" "EvenHoldModel" "strings" "[I") ∈ wsG := mG3 165 rfl rfl
theorem kw_647 : (Jvm.Cond.laysFinal "EvenHoldModel" "EvenHoldModel" "now" "[I") ∈ wsG := mG3 167 rfl rfl
theorem kw_649 : (Jvm.Cond.laysFinal "EvenHoldModel" "EvenHoldModel" "next" "[I") ∈ wsG := mG3 169 rfl rfl
theorem kw_651 : (Jvm.Cond.lays "EvenHoldModel" "EvenHoldModel" "fitsAll" "I") ∈ wsG := mG3 171 rfl rfl
theorem kw_653 : (Jvm.Cond.lays "EvenHoldModel" "EvenHoldModel" "firstMany" "I") ∈ wsG := mG3 173 rfl rfl
theorem kw_655 : (Jvm.Cond.lays "EvenHoldModel" "EvenHoldModel" "firstLeast" "I") ∈ wsG := mG3 175 rfl rfl
theorem kw_657 : (Jvm.Cond.lays "EvenHoldModel" "EvenHoldModel" "seedNow" "I") ∈ wsG := mG3 177 rfl rfl
theorem kw_659 : (Jvm.Cond.lays "EvenHoldModel" "EvenHoldModel" "keptHold" "I") ∈ wsG := mG3 179 rfl rfl
theorem kw_661 : (Jvm.Cond.lays "EvenHoldModel" "EvenHoldModel" "keptLies" "I") ∈ wsG := mG3 181 rfl rfl
theorem kw_663 : (Jvm.Cond.lays "EvenHoldModel" "EvenHoldModel" "keptOut" "I") ∈ wsG := mG3 183 rfl rfl
theorem kw_665 : (Jvm.Cond.lays "EvenHoldModel" "EvenHoldModel" "keptMinutes" "I") ∈ wsG := mG3 185 rfl rfl
theorem kw_667 : (Jvm.Cond.lays "EvenHoldModel" "EvenHoldModel" "keptGround" "I") ∈ wsG := mG3 187 rfl rfl
theorem kw_669 : (Jvm.Cond.lays "EvenHoldModel" "EvenHoldModel" "keptStringMany" "I") ∈ wsG := mG3 189 rfl rfl
theorem kw_671 : (Jvm.Cond.laysFinal "EvenHoldModel" "EvenHoldModel" "keptStrings" "[I") ∈ wsG := mG3 191 rfl rfl
theorem kw_673 : (Jvm.Cond.lays "EvenHoldModel" "EvenHoldModel" "hash" "J") ∈ wsG := mG3 193 rfl rfl
theorem kw_676 : (Jvm.Cond.arrayClass Jvm.ClassFile.FieldType.boolean) ∈ wsG := mG3 196 rfl rfl
theorem kw_677 : (Jvm.Cond.methodLink "EvenHoldLaw" (17 : Nat) ({ cls := "EvenHoldModel", name := "letter", desc := "(I)I" } : Jvm.MethodName)) ∈ wsG := mG3 197 rfl rfl
theorem kw_678 : (Jvm.Cond.instanceMethod ({ cls := "EvenHoldModel", name := "letter", desc := "(I)I" } : Jvm.MethodName)) ∈ wsG := mG3 198 rfl rfl
theorem kw_679 : (Jvm.Cond.selects "EvenHoldModel" ({ cls := "EvenHoldModel", name := "letter", desc := "(I)I" } : Jvm.MethodName) ({ cls := "EvenHoldModel", name := "letter", desc := "(I)I" } : Jvm.MethodName)) ∈ wsG := mG3 199 rfl rfl
theorem kw_680 : (Jvm.Cond.code ({ cls := "EvenHoldModel", name := "letter", desc := "(I)I" } : Jvm.MethodName) prog_8_method_3_code (2 : Nat) (Option.some Jvm.ClassFile.FieldType.int)) ∈ wsG := mG3 200 rfl rfl
theorem kw_681 : (Jvm.Cond.constantLong "EvenHoldModel" (45 : Nat) (126 : Int64)) ∈ wsG := mG3 201 rfl rfl
theorem kw_682 : (Jvm.Cond.methodLink "EvenHoldModel" (47 : Nat) ({ cls := "EvenHoldModel", name := "in", desc := "(JJJ)Z" } : Jvm.MethodName)) ∈ wsG := mG3 202 rfl rfl
theorem kw_683 : (Jvm.Cond.static ({ cls := "EvenHoldModel", name := "in", desc := "(JJJ)Z" } : Jvm.MethodName)) ∈ wsG := mG3 203 rfl rfl
theorem kw_684 : (Jvm.Cond.code ({ cls := "EvenHoldModel", name := "in", desc := "(JJJ)Z" } : Jvm.MethodName) prog_8_method_2_code (6 : Nat) (Option.some Jvm.ClassFile.FieldType.boolean)) ∈ wsG := mG3 204 rfl rfl
theorem kw_685 : (Jvm.Cond.methodLink "EvenHoldLaw" (22 : Nat) ({ cls := "EvenHoldModel", name := "blank", desc := "()I" } : Jvm.MethodName)) ∈ wsG := mG3 205 rfl rfl
theorem kw_686 : (Jvm.Cond.instanceMethod ({ cls := "EvenHoldModel", name := "blank", desc := "()I" } : Jvm.MethodName)) ∈ wsG := mG3 206 rfl rfl
theorem kw_687 : (Jvm.Cond.selects "EvenHoldModel" ({ cls := "EvenHoldModel", name := "blank", desc := "()I" } : Jvm.MethodName) ({ cls := "EvenHoldModel", name := "blank", desc := "()I" } : Jvm.MethodName)) ∈ wsG := mG3 207 rfl rfl
theorem kw_688 : (Jvm.Cond.code ({ cls := "EvenHoldModel", name := "blank", desc := "()I" } : Jvm.MethodName) prog_8_method_4_code (2 : Nat) (Option.some Jvm.ClassFile.FieldType.int)) ∈ wsG := mG3 208 rfl rfl
theorem kw_689 : (Jvm.Cond.methodLink "EvenHoldLaw" (26 : Nat) ({ cls := "EvenHoldModel", name := "fault", desc := "()I" } : Jvm.MethodName)) ∈ wsG := mG3 209 rfl rfl
theorem kw_690 : (Jvm.Cond.instanceMethod ({ cls := "EvenHoldModel", name := "fault", desc := "()I" } : Jvm.MethodName)) ∈ wsG := mG3 210 rfl rfl
theorem kw_691 : (Jvm.Cond.selects "EvenHoldModel" ({ cls := "EvenHoldModel", name := "fault", desc := "()I" } : Jvm.MethodName) ({ cls := "EvenHoldModel", name := "fault", desc := "()I" } : Jvm.MethodName)) ∈ wsG := mG3 211 rfl rfl
theorem kw_692 : (Jvm.Cond.code ({ cls := "EvenHoldModel", name := "fault", desc := "()I" } : Jvm.MethodName) prog_8_method_8_code (1 : Nat) (Option.some Jvm.ClassFile.FieldType.int)) ∈ wsG := mG3 212 rfl rfl
theorem kw_693 : (Jvm.Cond.methodLink "EvenHoldModel" (66 : Nat) ({ cls := "EvenHoldModel", name := "faultOf", desc := "()I" } : Jvm.MethodName)) ∈ wsG := mG3 213 rfl rfl
theorem kw_695 : (Jvm.Cond.instanceMethod ({ cls := "EvenHoldModel", name := "faultOf", desc := "()I" } : Jvm.MethodName)) ∈ wsG := mG3 215 rfl rfl
theorem kw_696 : (Jvm.Cond.code ({ cls := "EvenHoldModel", name := "faultOf", desc := "()I" } : Jvm.MethodName) prog_8_method_7_code (2 : Nat) (Option.some Jvm.ClassFile.FieldType.int)) ∈ wsG := mG3 216 rfl rfl
theorem kw_697 : (Jvm.Cond.methodLink "EvenHoldModel" (62 : Nat) ({ cls := "EvenHoldModel", name := "isGood", desc := "(II)Z" } : Jvm.MethodName)) ∈ wsG := mG3 217 rfl rfl
theorem kw_698 : (Jvm.Cond.static ({ cls := "EvenHoldModel", name := "isGood", desc := "(II)Z" } : Jvm.MethodName)) ∈ wsG := mG3 218 rfl rfl
theorem kw_699 : (Jvm.Cond.code ({ cls := "EvenHoldModel", name := "isGood", desc := "(II)Z" } : Jvm.MethodName) prog_8_method_6_code (3 : Nat) (Option.some Jvm.ClassFile.FieldType.boolean)) ∈ wsG := mG3 219 rfl rfl
theorem kw_700 : (Jvm.Cond.constantLong "EvenHoldModel" (54 : Nat) (9 : Int64)) ∈ wsG := mG3 220 rfl rfl
theorem kw_701 : (Jvm.Cond.methodLink "EvenHoldModel" (56 : Nat) ({ cls := "EvenHoldModel", name := "kindBy", desc := "(I)I" } : Jvm.MethodName)) ∈ wsG := mG3 221 rfl rfl
theorem kw_702 : (Jvm.Cond.static ({ cls := "EvenHoldModel", name := "kindBy", desc := "(I)I" } : Jvm.MethodName)) ∈ wsG := mG3 222 rfl rfl
theorem kw_703 : (Jvm.Cond.code ({ cls := "EvenHoldModel", name := "kindBy", desc := "(I)I" } : Jvm.MethodName) prog_8_method_5_code (1 : Nat) (Option.some Jvm.ClassFile.FieldType.int)) ∈ wsG := mG3 223 rfl rfl
theorem kw_704 : (Jvm.Cond.constantLong "EvenHoldModel" (60 : Nat) (3 : Int64)) ∈ wsG := mG3 224 rfl rfl
theorem kw_705 : (Jvm.Cond.methodLink "EvenHoldLaw" (30 : Nat) ({ cls := "EvenHoldModel", name := "hold", desc := "()I" } : Jvm.MethodName)) ∈ wsG := mG3 225 rfl rfl
theorem kw_706 : (Jvm.Cond.instanceMethod ({ cls := "EvenHoldModel", name := "hold", desc := "()I" } : Jvm.MethodName)) ∈ wsG := mG3 226 rfl rfl
theorem kw_707 : (Jvm.Cond.selects "EvenHoldModel" ({ cls := "EvenHoldModel", name := "hold", desc := "()I" } : Jvm.MethodName) ({ cls := "EvenHoldModel", name := "hold", desc := "()I" } : Jvm.MethodName)) ∈ wsG := mG3 227 rfl rfl
theorem kw_708 : (Jvm.Cond.code ({ cls := "EvenHoldModel", name := "hold", desc := "()I" } : Jvm.MethodName) prog_8_method_9_code (2 : Nat) (Option.some Jvm.ClassFile.FieldType.int)) ∈ wsG := mG3 228 rfl rfl
theorem kw_709 : (Jvm.Cond.methodLink "EvenHoldModel" (98 : Nat) ({ cls := "EvenHoldModel", name := "tonsOf", desc := "(I)I" } : Jvm.MethodName)) ∈ wsG := mG3 229 rfl rfl
theorem kw_710 : (Jvm.Cond.static ({ cls := "EvenHoldModel", name := "tonsOf", desc := "(I)I" } : Jvm.MethodName)) ∈ wsG := mG3 230 rfl rfl
theorem kw_711 : (Jvm.Cond.code ({ cls := "EvenHoldModel", name := "tonsOf", desc := "(I)I" } : Jvm.MethodName) prog_8_method_11_code (3 : Nat) (Option.some Jvm.ClassFile.FieldType.int)) ∈ wsG := mG3 231 rfl rfl
theorem kw_712 : (Jvm.Cond.methodLink "EvenHoldModel" (101 : Nat) ({ cls := "EvenHoldModel", name := "at", desc := "(II)I" } : Jvm.MethodName)) ∈ wsG := mG3 232 rfl rfl
theorem kw_713 : (Jvm.Cond.static ({ cls := "EvenHoldModel", name := "at", desc := "(II)I" } : Jvm.MethodName)) ∈ wsG := mG3 233 rfl rfl
theorem kw_714 : (Jvm.Cond.code ({ cls := "EvenHoldModel", name := "at", desc := "(II)I" } : Jvm.MethodName) prog_8_method_10_code (2 : Nat) (Option.some Jvm.ClassFile.FieldType.int)) ∈ wsG := mG3 234 rfl rfl
theorem kw_715 : (Jvm.Cond.methodLink "EvenHoldLaw" (35 : Nat) ({ cls := "EvenHoldModel", name := "bay", desc := "(II)I" } : Jvm.MethodName)) ∈ wsG := mG3 235 rfl rfl
theorem kw_716 : (Jvm.Cond.instanceMethod ({ cls := "EvenHoldModel", name := "bay", desc := "(II)I" } : Jvm.MethodName)) ∈ wsG := mG3 236 rfl rfl
theorem kw_717 : (Jvm.Cond.selects "EvenHoldModel" ({ cls := "EvenHoldModel", name := "bay", desc := "(II)I" } : Jvm.MethodName) ({ cls := "EvenHoldModel", name := "bay", desc := "(II)I" } : Jvm.MethodName)) ∈ wsG := mG3 237 rfl rfl
theorem kw_718 : (Jvm.Cond.code ({ cls := "EvenHoldModel", name := "bay", desc := "(II)I" } : Jvm.MethodName) prog_8_method_18_code (3 : Nat) (Option.some Jvm.ClassFile.FieldType.int)) ∈ wsG := mG3 238 rfl rfl
theorem kw_719 : (Jvm.Cond.constantLong "EvenHoldModel" (108 : Nat) (2 : Int64)) ∈ wsG := mG3 239 rfl rfl
theorem kw_720 : (Jvm.Cond.methodLink "EvenHoldModel" (110 : Nat) ({ cls := "EvenHoldModel", name := "takingOf", desc := "(I)I" } : Jvm.MethodName)) ∈ wsG := mG4 0 rfl rfl
theorem kw_722 : (Jvm.Cond.instanceMethod ({ cls := "EvenHoldModel", name := "takingOf", desc := "(I)I" } : Jvm.MethodName)) ∈ wsG := mG4 2 rfl rfl
theorem kw_723 : (Jvm.Cond.code ({ cls := "EvenHoldModel", name := "takingOf", desc := "(I)I" } : Jvm.MethodName) prog_8_method_16_code (3 : Nat) (Option.some Jvm.ClassFile.FieldType.int)) ∈ wsG := mG4 3 rfl rfl
theorem kw_724 : (Jvm.Cond.methodLink "EvenHoldModel" (113 : Nat) ({ cls := "EvenHoldModel", name := "carryingOf", desc := "(I)I" } : Jvm.MethodName)) ∈ wsG := mG4 4 rfl rfl
theorem kw_726 : (Jvm.Cond.instanceMethod ({ cls := "EvenHoldModel", name := "carryingOf", desc := "(I)I" } : Jvm.MethodName)) ∈ wsG := mG4 6 rfl rfl
theorem kw_727 : (Jvm.Cond.code ({ cls := "EvenHoldModel", name := "carryingOf", desc := "(I)I" } : Jvm.MethodName) prog_8_method_17_code (2 : Nat) (Option.some Jvm.ClassFile.FieldType.int)) ∈ wsG := mG4 7 rfl rfl
theorem kw_728 : (Jvm.Cond.methodLink "EvenHoldLaw" (39 : Nat) ({ cls := "EvenHoldModel", name := "as", desc := "(II)I" } : Jvm.MethodName)) ∈ wsG := mG4 8 rfl rfl
theorem kw_729 : (Jvm.Cond.instanceMethod ({ cls := "EvenHoldModel", name := "as", desc := "(II)I" } : Jvm.MethodName)) ∈ wsG := mG4 9 rfl rfl
theorem kw_730 : (Jvm.Cond.selects "EvenHoldModel" ({ cls := "EvenHoldModel", name := "as", desc := "(II)I" } : Jvm.MethodName) ({ cls := "EvenHoldModel", name := "as", desc := "(II)I" } : Jvm.MethodName)) ∈ wsG := mG4 10 rfl rfl
theorem kw_731 : (Jvm.Cond.code ({ cls := "EvenHoldModel", name := "as", desc := "(II)I" } : Jvm.MethodName) prog_8_method_19_code (4 : Nat) (Option.some Jvm.ClassFile.FieldType.int)) ∈ wsG := mG4 11 rfl rfl
theorem kw_732 : (Jvm.Cond.constantLong "EvenHoldModel" (116 : Nat) (4 : Int64)) ∈ wsG := mG4 12 rfl rfl
theorem kw_733 : (Jvm.Cond.methodLink "EvenHoldLaw" (44 : Nat) ({ cls := "EvenHoldModel", name := "ground", desc := "(Z)I" } : Jvm.MethodName)) ∈ wsG := mG4 13 rfl rfl
theorem kw_734 : (Jvm.Cond.instanceMethod ({ cls := "EvenHoldModel", name := "ground", desc := "(Z)I" } : Jvm.MethodName)) ∈ wsG := mG4 14 rfl rfl
theorem kw_735 : (Jvm.Cond.selects "EvenHoldModel" ({ cls := "EvenHoldModel", name := "ground", desc := "(Z)I" } : Jvm.MethodName) ({ cls := "EvenHoldModel", name := "ground", desc := "(Z)I" } : Jvm.MethodName)) ∈ wsG := mG4 15 rfl rfl
theorem kw_736 : (Jvm.Cond.code ({ cls := "EvenHoldModel", name := "ground", desc := "(Z)I" } : Jvm.MethodName) prog_8_method_20_code (3 : Nat) (Option.some Jvm.ClassFile.FieldType.int)) ∈ wsG := mG4 16 rfl rfl
theorem kw_737 : (Jvm.Cond.methodLink "EvenHoldLaw" (48 : Nat) ({ cls := "EvenHoldModel", name := "hull", desc := "(I)I" } : Jvm.MethodName)) ∈ wsG := mG4 17 rfl rfl
theorem kw_738 : (Jvm.Cond.instanceMethod ({ cls := "EvenHoldModel", name := "hull", desc := "(I)I" } : Jvm.MethodName)) ∈ wsG := mG4 18 rfl rfl
theorem kw_739 : (Jvm.Cond.selects "EvenHoldModel" ({ cls := "EvenHoldModel", name := "hull", desc := "(I)I" } : Jvm.MethodName) ({ cls := "EvenHoldModel", name := "hull", desc := "(I)I" } : Jvm.MethodName)) ∈ wsG := mG4 19 rfl rfl
theorem kw_740 : (Jvm.Cond.code ({ cls := "EvenHoldModel", name := "hull", desc := "(I)I" } : Jvm.MethodName) prog_8_method_23_code (2 : Nat) (Option.some Jvm.ClassFile.FieldType.int)) ∈ wsG := mG4 20 rfl rfl
theorem kw_741 : (Jvm.Cond.methodLink "EvenHoldModel" (130 : Nat) ({ cls := "EvenHoldModel", name := "hullOf", desc := "(I)I" } : Jvm.MethodName)) ∈ wsG := mG4 21 rfl rfl
theorem kw_743 : (Jvm.Cond.instanceMethod ({ cls := "EvenHoldModel", name := "hullOf", desc := "(I)I" } : Jvm.MethodName)) ∈ wsG := mG4 23 rfl rfl
theorem kw_744 : (Jvm.Cond.code ({ cls := "EvenHoldModel", name := "hullOf", desc := "(I)I" } : Jvm.MethodName) prog_8_method_22_code (2 : Nat) (Option.some Jvm.ClassFile.FieldType.int)) ∈ wsG := mG4 24 rfl rfl
theorem kw_745 : (Jvm.Cond.methodLink "EvenHoldModel" (118 : Nat) ({ cls := "EvenHoldModel", name := "bentOf", desc := "(I)I" } : Jvm.MethodName)) ∈ wsG := mG4 25 rfl rfl
theorem kw_746 : (Jvm.Cond.static ({ cls := "EvenHoldModel", name := "bentOf", desc := "(I)I" } : Jvm.MethodName)) ∈ wsG := mG4 26 rfl rfl
theorem kw_747 : (Jvm.Cond.code ({ cls := "EvenHoldModel", name := "bentOf", desc := "(I)I" } : Jvm.MethodName) prog_8_method_13_code (1 : Nat) (Option.some Jvm.ClassFile.FieldType.int)) ∈ wsG := mG4 27 rfl rfl
theorem kw_748 : (Jvm.Cond.methodLink "EvenHoldModel" (105 : Nat) ({ cls := "EvenHoldModel", name := "unlike", desc := "(II)I" } : Jvm.MethodName)) ∈ wsG := mG4 28 rfl rfl
theorem kw_749 : (Jvm.Cond.static ({ cls := "EvenHoldModel", name := "unlike", desc := "(II)I" } : Jvm.MethodName)) ∈ wsG := mG4 29 rfl rfl
theorem kw_750 : (Jvm.Cond.code ({ cls := "EvenHoldModel", name := "unlike", desc := "(II)I" } : Jvm.MethodName) prog_8_method_12_code (2 : Nat) (Option.some Jvm.ClassFile.FieldType.int)) ∈ wsG := mG4 30 rfl rfl
theorem kw_751 : (Jvm.Cond.methodLink "EvenHoldModel" (121 : Nat) ({ cls := "EvenHoldModel", name := "listingOf", desc := "(I)I" } : Jvm.MethodName)) ∈ wsG := mG4 31 rfl rfl
theorem kw_752 : (Jvm.Cond.static ({ cls := "EvenHoldModel", name := "listingOf", desc := "(I)I" } : Jvm.MethodName)) ∈ wsG := mG4 32 rfl rfl
theorem kw_753 : (Jvm.Cond.code ({ cls := "EvenHoldModel", name := "listingOf", desc := "(I)I" } : Jvm.MethodName) prog_8_method_14_code (1 : Nat) (Option.some Jvm.ClassFile.FieldType.int)) ∈ wsG := mG4 33 rfl rfl
theorem kw_754 : (Jvm.Cond.methodLink "EvenHoldModel" (124 : Nat) ({ cls := "EvenHoldModel", name := "bendNow", desc := "()I" } : Jvm.MethodName)) ∈ wsG := mG4 34 rfl rfl
theorem kw_756 : (Jvm.Cond.instanceMethod ({ cls := "EvenHoldModel", name := "bendNow", desc := "()I" } : Jvm.MethodName)) ∈ wsG := mG4 36 rfl rfl
theorem kw_757 : (Jvm.Cond.code ({ cls := "EvenHoldModel", name := "bendNow", desc := "()I" } : Jvm.MethodName) prog_8_method_15_code (1 : Nat) (Option.some Jvm.ClassFile.FieldType.int)) ∈ wsG := mG4 37 rfl rfl
theorem kw_758 : (Jvm.Cond.methodLink "EvenHoldModel" (127 : Nat) ({ cls := "EvenHoldModel", name := "bears", desc := "(II)Z" } : Jvm.MethodName)) ∈ wsG := mG4 38 rfl rfl
theorem kw_760 : (Jvm.Cond.instanceMethod ({ cls := "EvenHoldModel", name := "bears", desc := "(II)Z" } : Jvm.MethodName)) ∈ wsG := mG4 40 rfl rfl
theorem kw_761 : (Jvm.Cond.code ({ cls := "EvenHoldModel", name := "bears", desc := "(II)Z" } : Jvm.MethodName) prog_8_method_21_code (3 : Nat) (Option.some Jvm.ClassFile.FieldType.boolean)) ∈ wsG := mG4 41 rfl rfl
theorem kw_762 : (Jvm.Cond.methodLink "EvenHoldLaw" (52 : Nat) ({ cls := "EvenHoldModel", name := "may", desc := "(I)I" } : Jvm.MethodName)) ∈ wsG := mG4 42 rfl rfl
theorem kw_763 : (Jvm.Cond.instanceMethod ({ cls := "EvenHoldModel", name := "may", desc := "(I)I" } : Jvm.MethodName)) ∈ wsG := mG4 43 rfl rfl
theorem kw_764 : (Jvm.Cond.selects "EvenHoldModel" ({ cls := "EvenHoldModel", name := "may", desc := "(I)I" } : Jvm.MethodName) ({ cls := "EvenHoldModel", name := "may", desc := "(I)I" } : Jvm.MethodName)) ∈ wsG := mG4 44 rfl rfl
theorem kw_765 : (Jvm.Cond.code ({ cls := "EvenHoldModel", name := "may", desc := "(I)I" } : Jvm.MethodName) prog_8_method_28_code (2 : Nat) (Option.some Jvm.ClassFile.FieldType.int)) ∈ wsG := mG4 45 rfl rfl
theorem kw_766 : (Jvm.Cond.methodLink "EvenHoldModel" (135 : Nat) ({ cls := "EvenHoldModel", name := "isAct", desc := "(I)Z" } : Jvm.MethodName)) ∈ wsG := mG4 46 rfl rfl
theorem kw_767 : (Jvm.Cond.static ({ cls := "EvenHoldModel", name := "isAct", desc := "(I)Z" } : Jvm.MethodName)) ∈ wsG := mG4 47 rfl rfl
theorem kw_768 : (Jvm.Cond.code ({ cls := "EvenHoldModel", name := "isAct", desc := "(I)Z" } : Jvm.MethodName) prog_8_method_24_code (3 : Nat) (Option.some Jvm.ClassFile.FieldType.boolean)) ∈ wsG := mG4 48 rfl rfl
theorem kw_769 : (Jvm.Cond.constantLong "EvenHoldModel" (133 : Nat) (41 : Int64)) ∈ wsG := mG4 49 rfl rfl
theorem kw_770 : (Jvm.Cond.methodLink "EvenHoldModel" (142 : Nat) ({ cls := "EvenHoldModel", name := "goes", desc := "(III)I" } : Jvm.MethodName)) ∈ wsG := mG4 50 rfl rfl
theorem kw_772 : (Jvm.Cond.instanceMethod ({ cls := "EvenHoldModel", name := "goes", desc := "(III)I" } : Jvm.MethodName)) ∈ wsG := mG4 52 rfl rfl
theorem kw_773 : (Jvm.Cond.code ({ cls := "EvenHoldModel", name := "goes", desc := "(III)I" } : Jvm.MethodName) prog_8_method_26_code (5 : Nat) (Option.some Jvm.ClassFile.FieldType.int)) ∈ wsG := mG4 53 rfl rfl
theorem kw_774 : (Jvm.Cond.methodLink "EvenHoldModel" (139 : Nat) ({ cls := "EvenHoldModel", name := "behind", desc := "(II)I" } : Jvm.MethodName)) ∈ wsG := mG4 54 rfl rfl
theorem kw_776 : (Jvm.Cond.instanceMethod ({ cls := "EvenHoldModel", name := "behind", desc := "(II)I" } : Jvm.MethodName)) ∈ wsG := mG4 56 rfl rfl
theorem kw_777 : (Jvm.Cond.code ({ cls := "EvenHoldModel", name := "behind", desc := "(II)I" } : Jvm.MethodName) prog_8_method_25_code (9 : Nat) (Option.some Jvm.ClassFile.FieldType.int)) ∈ wsG := mG4 57 rfl rfl
theorem kw_778 : (Jvm.Cond.methodLink "EvenHoldLaw" (56 : Nat) ({ cls := "EvenHoldModel", name := "act", desc := "(I)I" } : Jvm.MethodName)) ∈ wsG := mG4 58 rfl rfl
theorem kw_779 : (Jvm.Cond.instanceMethod ({ cls := "EvenHoldModel", name := "act", desc := "(I)I" } : Jvm.MethodName)) ∈ wsG := mG4 59 rfl rfl
theorem kw_780 : (Jvm.Cond.selects "EvenHoldModel" ({ cls := "EvenHoldModel", name := "act", desc := "(I)I" } : Jvm.MethodName) ({ cls := "EvenHoldModel", name := "act", desc := "(I)I" } : Jvm.MethodName)) ∈ wsG := mG4 60 rfl rfl
theorem kw_781 : (Jvm.Cond.code ({ cls := "EvenHoldModel", name := "act", desc := "(I)I" } : Jvm.MethodName) prog_8_method_29_code (3 : Nat) (Option.some Jvm.ClassFile.FieldType.int)) ∈ wsG := mG4 61 rfl rfl
theorem kw_782 : (Jvm.Cond.methodLink "EvenHoldModel" (146 : Nat) ({ cls := "EvenHoldModel", name := "lasts", desc := "(I)I" } : Jvm.MethodName)) ∈ wsG := mG4 62 rfl rfl
theorem kw_784 : (Jvm.Cond.instanceMethod ({ cls := "EvenHoldModel", name := "lasts", desc := "(I)I" } : Jvm.MethodName)) ∈ wsG := mG4 64 rfl rfl
theorem kw_785 : (Jvm.Cond.code ({ cls := "EvenHoldModel", name := "lasts", desc := "(I)I" } : Jvm.MethodName) prog_8_method_27_code (2 : Nat) (Option.some Jvm.ClassFile.FieldType.int)) ∈ wsG := mG4 65 rfl rfl
theorem kw_786 : (Jvm.Cond.methodLink "EvenHoldLaw" (60 : Nat) ({ cls := "EvenHoldModel", name := "soonest", desc := "(I)I" } : Jvm.MethodName)) ∈ wsG := mG4 66 rfl rfl
theorem kw_787 : (Jvm.Cond.instanceMethod ({ cls := "EvenHoldModel", name := "soonest", desc := "(I)I" } : Jvm.MethodName)) ∈ wsG := mG4 67 rfl rfl
theorem kw_788 : (Jvm.Cond.selects "EvenHoldModel" ({ cls := "EvenHoldModel", name := "soonest", desc := "(I)I" } : Jvm.MethodName) ({ cls := "EvenHoldModel", name := "soonest", desc := "(I)I" } : Jvm.MethodName)) ∈ wsG := mG4 68 rfl rfl
theorem kw_789 : (Jvm.Cond.code ({ cls := "EvenHoldModel", name := "soonest", desc := "(I)I" } : Jvm.MethodName) prog_8_method_32_code (2 : Nat) (Option.some Jvm.ClassFile.FieldType.int)) ∈ wsG := mG4 69 rfl rfl
theorem kw_790 : (Jvm.Cond.methodLink "EvenHoldModel" (153 : Nat) ({ cls := "EvenHoldModel", name := "layFar", desc := "(I)V" } : Jvm.MethodName)) ∈ wsG := mG4 70 rfl rfl
theorem kw_792 : (Jvm.Cond.instanceMethod ({ cls := "EvenHoldModel", name := "layFar", desc := "(I)V" } : Jvm.MethodName)) ∈ wsG := mG4 72 rfl rfl
theorem kw_793 : (Jvm.Cond.code ({ cls := "EvenHoldModel", name := "layFar", desc := "(I)V" } : Jvm.MethodName) prog_8_method_30_code (7 : Nat) (Option.none : Option Jvm.ClassFile.FieldType)) ∈ wsG := mG4 73 rfl rfl
theorem kw_794 : (Jvm.Cond.methodLink "EvenHoldModel" (149 : Nat) ({ cls := "EvenHoldModel", name := "isBetter", desc := "(III)Z" } : Jvm.MethodName)) ∈ wsG := mG4 74 rfl rfl
theorem kw_796 : (Jvm.Cond.instanceMethod ({ cls := "EvenHoldModel", name := "isBetter", desc := "(III)Z" } : Jvm.MethodName)) ∈ wsG := mG4 76 rfl rfl
theorem kw_797 : (Jvm.Cond.code ({ cls := "EvenHoldModel", name := "isBetter", desc := "(III)Z" } : Jvm.MethodName) prog_8_method_31_code (7 : Nat) (Option.some Jvm.ClassFile.FieldType.boolean)) ∈ wsG := mG4 77 rfl rfl
theorem kw_798 : (Jvm.Cond.methodLink "EvenHoldLaw" (64 : Nat) ({ cls := "EvenHoldModel", name := "most", desc := "()I" } : Jvm.MethodName)) ∈ wsG := mG4 78 rfl rfl
theorem kw_799 : (Jvm.Cond.instanceMethod ({ cls := "EvenHoldModel", name := "most", desc := "()I" } : Jvm.MethodName)) ∈ wsG := mG4 79 rfl rfl
theorem kw_800 : (Jvm.Cond.selects "EvenHoldModel" ({ cls := "EvenHoldModel", name := "most", desc := "()I" } : Jvm.MethodName) ({ cls := "EvenHoldModel", name := "most", desc := "()I" } : Jvm.MethodName)) ∈ wsG := mG4 80 rfl rfl
theorem kw_801 : (Jvm.Cond.code ({ cls := "EvenHoldModel", name := "most", desc := "()I" } : Jvm.MethodName) prog_8_method_34_code (1 : Nat) (Option.some Jvm.ClassFile.FieldType.int)) ∈ wsG := mG4 81 rfl rfl
theorem kw_802 : (Jvm.Cond.methodLink "EvenHoldModel" (157 : Nat) ({ cls := "EvenHoldModel", name := "mostOf", desc := "()I" } : Jvm.MethodName)) ∈ wsG := mG4 82 rfl rfl
theorem kw_804 : (Jvm.Cond.instanceMethod ({ cls := "EvenHoldModel", name := "mostOf", desc := "()I" } : Jvm.MethodName)) ∈ wsG := mG4 84 rfl rfl
theorem kw_805 : (Jvm.Cond.code ({ cls := "EvenHoldModel", name := "mostOf", desc := "()I" } : Jvm.MethodName) prog_8_method_33_code (3 : Nat) (Option.some Jvm.ClassFile.FieldType.int)) ∈ wsG := mG4 85 rfl rfl
theorem kw_806 : (Jvm.Cond.methodLink "EvenHoldLaw" (68 : Nat) ({ cls := "EvenHoldModel", name := "holds", desc := "()I" } : Jvm.MethodName)) ∈ wsG := mG4 86 rfl rfl
theorem kw_807 : (Jvm.Cond.instanceMethod ({ cls := "EvenHoldModel", name := "holds", desc := "()I" } : Jvm.MethodName)) ∈ wsG := mG4 87 rfl rfl
theorem kw_808 : (Jvm.Cond.selects "EvenHoldModel" ({ cls := "EvenHoldModel", name := "holds", desc := "()I" } : Jvm.MethodName) ({ cls := "EvenHoldModel", name := "holds", desc := "()I" } : Jvm.MethodName)) ∈ wsG := mG4 88 rfl rfl
theorem kw_809 : (Jvm.Cond.code ({ cls := "EvenHoldModel", name := "holds", desc := "()I" } : Jvm.MethodName) prog_8_method_36_code (1 : Nat) (Option.some Jvm.ClassFile.FieldType.int)) ∈ wsG := mG4 89 rfl rfl
theorem kw_810 : (Jvm.Cond.methodLink "EvenHoldModel" (160 : Nat) ({ cls := "EvenHoldModel", name := "manyOf", desc := "()I" } : Jvm.MethodName)) ∈ wsG := mG4 90 rfl rfl
theorem kw_812 : (Jvm.Cond.instanceMethod ({ cls := "EvenHoldModel", name := "manyOf", desc := "()I" } : Jvm.MethodName)) ∈ wsG := mG4 92 rfl rfl
theorem kw_813 : (Jvm.Cond.code ({ cls := "EvenHoldModel", name := "manyOf", desc := "()I" } : Jvm.MethodName) prog_8_method_35_code (3 : Nat) (Option.some Jvm.ClassFile.FieldType.int)) ∈ wsG := mG4 93 rfl rfl
theorem kw_814 : (Jvm.Cond.methodLink "EvenHoldLaw" (72 : Nat) ({ cls := "EvenHoldModel", name := "leastBend", desc := "()I" } : Jvm.MethodName)) ∈ wsG := mG4 94 rfl rfl
theorem kw_815 : (Jvm.Cond.instanceMethod ({ cls := "EvenHoldModel", name := "leastBend", desc := "()I" } : Jvm.MethodName)) ∈ wsG := mG4 95 rfl rfl
theorem kw_816 : (Jvm.Cond.selects "EvenHoldModel" ({ cls := "EvenHoldModel", name := "leastBend", desc := "()I" } : Jvm.MethodName) ({ cls := "EvenHoldModel", name := "leastBend", desc := "()I" } : Jvm.MethodName)) ∈ wsG := mG4 96 rfl rfl
theorem kw_817 : (Jvm.Cond.code ({ cls := "EvenHoldModel", name := "leastBend", desc := "()I" } : Jvm.MethodName) prog_8_method_37_code (2 : Nat) (Option.some Jvm.ClassFile.FieldType.int)) ∈ wsG := mG4 97 rfl rfl
theorem kw_818 : (Jvm.Cond.methodLink "EvenHoldLaw" (76 : Nat) ({ cls := "EvenHoldModel", name := "string", desc := "(I)I" } : Jvm.MethodName)) ∈ wsG := mG4 98 rfl rfl
theorem kw_819 : (Jvm.Cond.instanceMethod ({ cls := "EvenHoldModel", name := "string", desc := "(I)I" } : Jvm.MethodName)) ∈ wsG := mG4 99 rfl rfl
theorem kw_820 : (Jvm.Cond.selects "EvenHoldModel" ({ cls := "EvenHoldModel", name := "string", desc := "(I)I" } : Jvm.MethodName) ({ cls := "EvenHoldModel", name := "string", desc := "(I)I" } : Jvm.MethodName)) ∈ wsG := mG4 100 rfl rfl
theorem kw_821 : (Jvm.Cond.code ({ cls := "EvenHoldModel", name := "string", desc := "(I)I" } : Jvm.MethodName) prog_8_method_38_code (2 : Nat) (Option.some Jvm.ClassFile.FieldType.int)) ∈ wsG := mG4 101 rfl rfl
theorem kw_822 : (Jvm.Cond.constantLong "EvenHoldModel" (166 : Nat) (12 : Int64)) ∈ wsG := mG4 102 rfl rfl
theorem kw_823 : (Jvm.Cond.methodLink "EvenHoldLaw" (80 : Nat) ({ cls := "EvenHoldModel", name := "forget", desc := "()I" } : Jvm.MethodName)) ∈ wsG := mG4 103 rfl rfl
theorem kw_824 : (Jvm.Cond.instanceMethod ({ cls := "EvenHoldModel", name := "forget", desc := "()I" } : Jvm.MethodName)) ∈ wsG := mG4 104 rfl rfl
theorem kw_825 : (Jvm.Cond.selects "EvenHoldModel" ({ cls := "EvenHoldModel", name := "forget", desc := "()I" } : Jvm.MethodName) ({ cls := "EvenHoldModel", name := "forget", desc := "()I" } : Jvm.MethodName)) ∈ wsG := mG4 105 rfl rfl
theorem kw_826 : (Jvm.Cond.code ({ cls := "EvenHoldModel", name := "forget", desc := "()I" } : Jvm.MethodName) prog_8_method_39_code (2 : Nat) (Option.some Jvm.ClassFile.FieldType.int)) ∈ wsG := mG4 106 rfl rfl
theorem kw_827 : (Jvm.Cond.methodLink "EvenHoldLaw" (84 : Nat) ({ cls := "EvenHoldModel", name := "fits", desc := "(I)I" } : Jvm.MethodName)) ∈ wsG := mG4 107 rfl rfl
theorem kw_828 : (Jvm.Cond.instanceMethod ({ cls := "EvenHoldModel", name := "fits", desc := "(I)I" } : Jvm.MethodName)) ∈ wsG := mG4 108 rfl rfl
theorem kw_829 : (Jvm.Cond.selects "EvenHoldModel" ({ cls := "EvenHoldModel", name := "fits", desc := "(I)I" } : Jvm.MethodName) ({ cls := "EvenHoldModel", name := "fits", desc := "(I)I" } : Jvm.MethodName)) ∈ wsG := mG4 109 rfl rfl
theorem kw_830 : (Jvm.Cond.code ({ cls := "EvenHoldModel", name := "fits", desc := "(I)I" } : Jvm.MethodName) prog_8_method_43_code (2 : Nat) (Option.some Jvm.ClassFile.FieldType.int)) ∈ wsG := mG4 110 rfl rfl
theorem kw_831 : (Jvm.Cond.methodLink "EvenHoldModel" (183 : Nat) ({ cls := "EvenHoldModel", name := "layFits", desc := "()V" } : Jvm.MethodName)) ∈ wsG := mG4 111 rfl rfl
theorem kw_833 : (Jvm.Cond.instanceMethod ({ cls := "EvenHoldModel", name := "layFits", desc := "()V" } : Jvm.MethodName)) ∈ wsG := mG4 113 rfl rfl
theorem kw_834 : (Jvm.Cond.code ({ cls := "EvenHoldModel", name := "layFits", desc := "()V" } : Jvm.MethodName) prog_8_method_42_code (4 : Nat) (Option.none : Option Jvm.ClassFile.FieldType)) ∈ wsG := mG4 114 rfl rfl
theorem kw_835 : (Jvm.Cond.methodLink "EvenHoldModel" (180 : Nat) ({ cls := "EvenHoldModel", name := "rowsFrom", desc := "(II)I" } : Jvm.MethodName)) ∈ wsG := mG4 115 rfl rfl
theorem kw_837 : (Jvm.Cond.instanceMethod ({ cls := "EvenHoldModel", name := "rowsFrom", desc := "(II)I" } : Jvm.MethodName)) ∈ wsG := mG4 117 rfl rfl
theorem kw_838 : (Jvm.Cond.code ({ cls := "EvenHoldModel", name := "rowsFrom", desc := "(II)I" } : Jvm.MethodName) prog_8_method_40_code (5 : Nat) (Option.some Jvm.ClassFile.FieldType.int)) ∈ wsG := mG4 118 rfl rfl
theorem kw_839 : (Jvm.Cond.methodLink "EvenHoldModel" (168 : Nat) ({ cls := "EvenHoldModel", name := "stepAll", desc := "(I)V" } : Jvm.MethodName)) ∈ wsG := mG4 119 rfl rfl
theorem kw_841 : (Jvm.Cond.instanceMethod ({ cls := "EvenHoldModel", name := "stepAll", desc := "(I)V" } : Jvm.MethodName)) ∈ wsG := mG4 121 rfl rfl
theorem kw_842 : (Jvm.Cond.code ({ cls := "EvenHoldModel", name := "stepAll", desc := "(I)V" } : Jvm.MethodName) prog_8_method_41_code (5 : Nat) (Option.none : Option Jvm.ClassFile.FieldType)) ∈ wsG := mG4 122 rfl rfl
theorem kw_843 : (Jvm.Cond.methodLink "EvenHoldLaw" (89 : Nat) ({ cls := "EvenHoldModel", name := "days", desc := "(III)I" } : Jvm.MethodName)) ∈ wsG := mG4 123 rfl rfl
theorem kw_844 : (Jvm.Cond.instanceMethod ({ cls := "EvenHoldModel", name := "days", desc := "(III)I" } : Jvm.MethodName)) ∈ wsG := mG4 124 rfl rfl
theorem kw_845 : (Jvm.Cond.selects "EvenHoldModel" ({ cls := "EvenHoldModel", name := "days", desc := "(III)I" } : Jvm.MethodName) ({ cls := "EvenHoldModel", name := "days", desc := "(III)I" } : Jvm.MethodName)) ∈ wsG := mG4 125 rfl rfl
theorem kw_846 : (Jvm.Cond.code ({ cls := "EvenHoldModel", name := "days", desc := "(III)I" } : Jvm.MethodName) prog_8_method_45_code (10 : Nat) (Option.some Jvm.ClassFile.FieldType.int)) ∈ wsG := mG4 126 rfl rfl
theorem kw_847 : (Jvm.Cond.constantLong "EvenHoldModel" (196 : Nat) (90 : Int64)) ∈ wsG := mG4 127 rfl rfl
theorem kw_848 : (Jvm.Cond.methodLink "EvenHoldModel" (198 : Nat) ({ cls := "EvenHoldModel", name := "draw", desc := "(I)I" } : Jvm.MethodName)) ∈ wsG := mG4 128 rfl rfl
theorem kw_850 : (Jvm.Cond.instanceMethod ({ cls := "EvenHoldModel", name := "draw", desc := "(I)I" } : Jvm.MethodName)) ∈ wsG := mG4 130 rfl rfl
theorem kw_851 : (Jvm.Cond.code ({ cls := "EvenHoldModel", name := "draw", desc := "(I)I" } : Jvm.MethodName) prog_8_method_44_code (2 : Nat) (Option.some Jvm.ClassFile.FieldType.int)) ∈ wsG := mG4 131 rfl rfl
theorem kw_852 : (Jvm.Cond.constantLong "EvenHoldModel" (186 : Nat) (1103515245 : Int64)) ∈ wsG := mG4 132 rfl rfl
theorem kw_853 : (Jvm.Cond.constantLong "EvenHoldModel" (191 : Nat) (12345 : Int64)) ∈ wsG := mG4 133 rfl rfl
theorem kw_854 : (Jvm.Cond.constantLong "EvenHoldModel" (193 : Nat) (2147483647 : Int64)) ∈ wsG := mG4 134 rfl rfl
theorem kw_855 : (Jvm.Cond.constant "EvenHoldModel" (195 : Nat) (65536 : Int32)) ∈ wsG := mG4 135 rfl rfl
theorem kw_856 : (Jvm.Cond.methodLink "EvenHoldLaw" (93 : Nat) ({ cls := "EvenHoldModel", name := "image", desc := "()I" } : Jvm.MethodName)) ∈ wsG := mG4 136 rfl rfl
theorem kw_857 : (Jvm.Cond.instanceMethod ({ cls := "EvenHoldModel", name := "image", desc := "()I" } : Jvm.MethodName)) ∈ wsG := mG4 137 rfl rfl
theorem kw_858 : (Jvm.Cond.selects "EvenHoldModel" ({ cls := "EvenHoldModel", name := "image", desc := "()I" } : Jvm.MethodName) ({ cls := "EvenHoldModel", name := "image", desc := "()I" } : Jvm.MethodName)) ∈ wsG := mG4 138 rfl rfl
theorem kw_859 : (Jvm.Cond.code ({ cls := "EvenHoldModel", name := "image", desc := "()I" } : Jvm.MethodName) prog_8_method_47_code (1 : Nat) (Option.some Jvm.ClassFile.FieldType.int)) ∈ wsG := mG4 139 rfl rfl
theorem kw_860 : (Jvm.Cond.methodLink "EvenHoldModel" (201 : Nat) ({ cls := "EvenHoldModel", name := "copy", desc := "([I[I)V" } : Jvm.MethodName)) ∈ wsG := mG4 140 rfl rfl
theorem kw_861 : (Jvm.Cond.static ({ cls := "EvenHoldModel", name := "copy", desc := "([I[I)V" } : Jvm.MethodName)) ∈ wsG := mG4 141 rfl rfl
theorem kw_862 : (Jvm.Cond.code ({ cls := "EvenHoldModel", name := "copy", desc := "([I[I)V" } : Jvm.MethodName) prog_8_method_46_code (3 : Nat) (Option.none : Option Jvm.ClassFile.FieldType)) ∈ wsG := mG4 142 rfl rfl
theorem kw_863 : (Jvm.Cond.methodLink "EvenHoldLaw" (97 : Nat) ({ cls := "EvenHoldModel", name := "restore", desc := "()I" } : Jvm.MethodName)) ∈ wsG := mG4 143 rfl rfl
theorem kw_864 : (Jvm.Cond.instanceMethod ({ cls := "EvenHoldModel", name := "restore", desc := "()I" } : Jvm.MethodName)) ∈ wsG := mG4 144 rfl rfl
theorem kw_865 : (Jvm.Cond.selects "EvenHoldModel" ({ cls := "EvenHoldModel", name := "restore", desc := "()I" } : Jvm.MethodName) ({ cls := "EvenHoldModel", name := "restore", desc := "()I" } : Jvm.MethodName)) ∈ wsG := mG4 145 rfl rfl
theorem kw_866 : (Jvm.Cond.code ({ cls := "EvenHoldModel", name := "restore", desc := "()I" } : Jvm.MethodName) prog_8_method_48_code (1 : Nat) (Option.some Jvm.ClassFile.FieldType.int)) ∈ wsG := mG4 146 rfl rfl
theorem kw_867 : (Jvm.Cond.methodLink "EvenHoldLaw" (101 : Nat) ({ cls := "EvenHoldModel", name := "count", desc := "(I)I" } : Jvm.MethodName)) ∈ wsG := mG4 147 rfl rfl
theorem kw_868 : (Jvm.Cond.instanceMethod ({ cls := "EvenHoldModel", name := "count", desc := "(I)I" } : Jvm.MethodName)) ∈ wsG := mG4 148 rfl rfl
theorem kw_869 : (Jvm.Cond.selects "EvenHoldModel" ({ cls := "EvenHoldModel", name := "count", desc := "(I)I" } : Jvm.MethodName) ({ cls := "EvenHoldModel", name := "count", desc := "(I)I" } : Jvm.MethodName)) ∈ wsG := mG4 149 rfl rfl
theorem kw_870 : (Jvm.Cond.code ({ cls := "EvenHoldModel", name := "count", desc := "(I)I" } : Jvm.MethodName) prog_8_method_50_code (2 : Nat) (Option.some Jvm.ClassFile.FieldType.int)) ∈ wsG := mG4 150 rfl rfl
theorem kw_871 : (Jvm.Cond.methodLink "EvenHoldModel" (220 : Nat) ({ cls := "EvenHoldModel", name := "countOf", desc := "(I)I" } : Jvm.MethodName)) ∈ wsG := mG4 151 rfl rfl
theorem kw_873 : (Jvm.Cond.instanceMethod ({ cls := "EvenHoldModel", name := "countOf", desc := "(I)I" } : Jvm.MethodName)) ∈ wsG := mG4 153 rfl rfl
theorem kw_874 : (Jvm.Cond.code ({ cls := "EvenHoldModel", name := "countOf", desc := "(I)I" } : Jvm.MethodName) prog_8_method_49_code (2 : Nat) (Option.some Jvm.ClassFile.FieldType.int)) ∈ wsG := mG4 154 rfl rfl
theorem kw_875 : (Jvm.Cond.methodLink "EvenHoldLaw" (106 : Nat) ({ cls := "EvenHoldModel", name := "digest", desc := "()J" } : Jvm.MethodName)) ∈ wsG := mG4 155 rfl rfl
theorem kw_876 : (Jvm.Cond.instanceMethod ({ cls := "EvenHoldModel", name := "digest", desc := "()J" } : Jvm.MethodName)) ∈ wsG := mG4 156 rfl rfl
theorem kw_877 : (Jvm.Cond.selects "EvenHoldModel" ({ cls := "EvenHoldModel", name := "digest", desc := "()J" } : Jvm.MethodName) ({ cls := "EvenHoldModel", name := "digest", desc := "()J" } : Jvm.MethodName)) ∈ wsG := mG4 157 rfl rfl
theorem kw_878 : (Jvm.Cond.code ({ cls := "EvenHoldModel", name := "digest", desc := "()J" } : Jvm.MethodName) prog_8_method_53_code (2 : Nat) (Option.some Jvm.ClassFile.FieldType.long)) ∈ wsG := mG4 158 rfl rfl
theorem kw_879 : (Jvm.Cond.constantLong "EvenHoldModel" (239 : Nat) (829 : Int64)) ∈ wsG := mG4 159 rfl rfl
theorem kw_880 : (Jvm.Cond.methodLink "EvenHoldModel" (241 : Nat) ({ cls := "EvenHoldModel", name := "sayHold", desc := "()V" } : Jvm.MethodName)) ∈ wsG := mG4 160 rfl rfl
theorem kw_882 : (Jvm.Cond.instanceMethod ({ cls := "EvenHoldModel", name := "sayHold", desc := "()V" } : Jvm.MethodName)) ∈ wsG := mG4 162 rfl rfl
theorem kw_883 : (Jvm.Cond.code ({ cls := "EvenHoldModel", name := "sayHold", desc := "()V" } : Jvm.MethodName) prog_8_method_52_code (3 : Nat) (Option.none : Option Jvm.ClassFile.FieldType)) ∈ wsG := mG4 163 rfl rfl
theorem kw_884 : (Jvm.Cond.methodLink "EvenHoldModel" (229 : Nat) ({ cls := "EvenHoldModel", name := "bay", desc := "(II)I" } : Jvm.MethodName)) ∈ wsG := mG4 164 rfl rfl
theorem kw_885 : (Jvm.Cond.methodLink "EvenHoldModel" (232 : Nat) ({ cls := "EvenHoldModel", name := "say", desc := "(J)V" } : Jvm.MethodName)) ∈ wsG := mG4 165 rfl rfl
theorem kw_887 : (Jvm.Cond.instanceMethod ({ cls := "EvenHoldModel", name := "say", desc := "(J)V" } : Jvm.MethodName)) ∈ wsG := mG4 167 rfl rfl
theorem kw_888 : (Jvm.Cond.code ({ cls := "EvenHoldModel", name := "say", desc := "(J)V" } : Jvm.MethodName) prog_8_method_51_code (3 : Nat) (Option.none : Option Jvm.ClassFile.FieldType)) ∈ wsG := mG4 168 rfl rfl
theorem kw_889 : (Jvm.Cond.constantLong "EvenHoldModel" (223 : Nat) (31 : Int64)) ∈ wsG := mG4 169 rfl rfl
theorem kw_890 : (Jvm.Cond.methodLink "EvenHoldModel" (236 : Nat) ({ cls := "EvenHoldModel", name := "may", desc := "(I)I" } : Jvm.MethodName)) ∈ wsG := mG4 170 rfl rfl
theorem kw_891 : (Jvm.Cond.fieldLink "java/lang/String" (9 : Nat) "java/lang/String" "value" "[B") ∈ wsG := mG4 171 rfl rfl
theorem kw_892 : (Jvm.Cond.fieldLink "java/lang/String" (15 : Nat) "java/lang/String" "coder" "B") ∈ wsG := mG4 172 rfl rfl
theorem kp_0 : (Cond.selects "EvenHold" ({ cls := "EvenHold", name := "readPage", desc := "()I" } : Jvm.MethodName) ({ cls := "EvenHold", name := "readPage", desc := "()I" } : Jvm.MethodName)) ∈ wsG := mGs 0 rfl rfl
theorem kp_1 : (Cond.selects "EvenHold" ({ cls := "EvenHold", name := "digitAt", desc := "(I)I" } : Jvm.MethodName) ({ cls := "EvenHold", name := "digitAt", desc := "(I)I" } : Jvm.MethodName)) ∈ wsG := mGs 1 rfl rfl
theorem kp_2 : (Cond.selects "EvenHold" ({ cls := "EvenHold", name := "isBay", desc := "(I)Z" } : Jvm.MethodName) ({ cls := "EvenHold", name := "isBay", desc := "(I)Z" } : Jvm.MethodName)) ∈ wsG := mGs 2 rfl rfl
theorem kp_3 : (Cond.selects "EvenHold" ({ cls := "EvenHold", name := "bendNow", desc := "()I" } : Jvm.MethodName) ({ cls := "EvenHold", name := "bendNow", desc := "()I" } : Jvm.MethodName)) ∈ wsG := mGs 3 rfl rfl
theorem kp_4 : (Cond.selects "EvenHold" ({ cls := "EvenHold", name := "lookAhead", desc := "()V" } : Jvm.MethodName) ({ cls := "EvenHold", name := "lookAhead", desc := "()V" } : Jvm.MethodName)) ∈ wsG := mGs 4 rfl rfl
theorem kp_5 : (Cond.selects "EvenHold" ({ cls := "EvenHold", name := "lookBack", desc := "()V" } : Jvm.MethodName) ({ cls := "EvenHold", name := "lookBack", desc := "()V" } : Jvm.MethodName)) ∈ wsG := mGs 5 rfl rfl
theorem kp_6 : (Cond.selects "EvenHold" ({ cls := "EvenHold", name := "withLighter", desc := "(J)J" } : Jvm.MethodName) ({ cls := "EvenHold", name := "withLighter", desc := "(J)J" } : Jvm.MethodName)) ∈ wsG := mGs 6 rfl rfl
theorem kp_7 : (Cond.selects "EvenHold" ({ cls := "EvenHold", name := "withActs", desc := "(J)J" } : Jvm.MethodName) ({ cls := "EvenHold", name := "withActs", desc := "(J)J" } : Jvm.MethodName)) ∈ wsG := mGs 7 rfl rfl
theorem kp_8 : (Cond.selects "EvenHold" ({ cls := "EvenHold", name := "withOutlook", desc := "(J)J" } : Jvm.MethodName) ({ cls := "EvenHold", name := "withOutlook", desc := "(J)J" } : Jvm.MethodName)) ∈ wsG := mGs 8 rfl rfl
theorem kp_9 : (Cond.selects "EvenHoldModel" ({ cls := "EvenHoldModel", name := "faultOf", desc := "()I" } : Jvm.MethodName) ({ cls := "EvenHoldModel", name := "faultOf", desc := "()I" } : Jvm.MethodName)) ∈ wsG := mGs 9 rfl rfl
theorem kp_10 : (Cond.selects "EvenHoldModel" ({ cls := "EvenHoldModel", name := "takingOf", desc := "(I)I" } : Jvm.MethodName) ({ cls := "EvenHoldModel", name := "takingOf", desc := "(I)I" } : Jvm.MethodName)) ∈ wsG := mGs 10 rfl rfl
theorem kp_11 : (Cond.selects "EvenHoldModel" ({ cls := "EvenHoldModel", name := "carryingOf", desc := "(I)I" } : Jvm.MethodName) ({ cls := "EvenHoldModel", name := "carryingOf", desc := "(I)I" } : Jvm.MethodName)) ∈ wsG := mGs 11 rfl rfl
theorem kp_12 : (Cond.selects "EvenHoldModel" ({ cls := "EvenHoldModel", name := "hullOf", desc := "(I)I" } : Jvm.MethodName) ({ cls := "EvenHoldModel", name := "hullOf", desc := "(I)I" } : Jvm.MethodName)) ∈ wsG := mGs 12 rfl rfl
theorem kp_13 : (Cond.selects "EvenHoldModel" ({ cls := "EvenHoldModel", name := "bendNow", desc := "()I" } : Jvm.MethodName) ({ cls := "EvenHoldModel", name := "bendNow", desc := "()I" } : Jvm.MethodName)) ∈ wsG := mGs 13 rfl rfl
theorem kp_14 : (Cond.selects "EvenHoldModel" ({ cls := "EvenHoldModel", name := "bears", desc := "(II)Z" } : Jvm.MethodName) ({ cls := "EvenHoldModel", name := "bears", desc := "(II)Z" } : Jvm.MethodName)) ∈ wsG := mGs 14 rfl rfl
theorem kp_15 : (Cond.selects "EvenHoldModel" ({ cls := "EvenHoldModel", name := "goes", desc := "(III)I" } : Jvm.MethodName) ({ cls := "EvenHoldModel", name := "goes", desc := "(III)I" } : Jvm.MethodName)) ∈ wsG := mGs 15 rfl rfl
theorem kp_16 : (Cond.selects "EvenHoldModel" ({ cls := "EvenHoldModel", name := "behind", desc := "(II)I" } : Jvm.MethodName) ({ cls := "EvenHoldModel", name := "behind", desc := "(II)I" } : Jvm.MethodName)) ∈ wsG := mGs 16 rfl rfl
theorem kp_17 : (Cond.selects "EvenHoldModel" ({ cls := "EvenHoldModel", name := "lasts", desc := "(I)I" } : Jvm.MethodName) ({ cls := "EvenHoldModel", name := "lasts", desc := "(I)I" } : Jvm.MethodName)) ∈ wsG := mGs 17 rfl rfl
theorem kp_18 : (Cond.selects "EvenHoldModel" ({ cls := "EvenHoldModel", name := "layFar", desc := "(I)V" } : Jvm.MethodName) ({ cls := "EvenHoldModel", name := "layFar", desc := "(I)V" } : Jvm.MethodName)) ∈ wsG := mGs 18 rfl rfl
theorem kp_19 : (Cond.selects "EvenHoldModel" ({ cls := "EvenHoldModel", name := "isBetter", desc := "(III)Z" } : Jvm.MethodName) ({ cls := "EvenHoldModel", name := "isBetter", desc := "(III)Z" } : Jvm.MethodName)) ∈ wsG := mGs 19 rfl rfl
theorem kp_20 : (Cond.selects "EvenHoldModel" ({ cls := "EvenHoldModel", name := "mostOf", desc := "()I" } : Jvm.MethodName) ({ cls := "EvenHoldModel", name := "mostOf", desc := "()I" } : Jvm.MethodName)) ∈ wsG := mGs 20 rfl rfl
theorem kp_21 : (Cond.selects "EvenHoldModel" ({ cls := "EvenHoldModel", name := "manyOf", desc := "()I" } : Jvm.MethodName) ({ cls := "EvenHoldModel", name := "manyOf", desc := "()I" } : Jvm.MethodName)) ∈ wsG := mGs 21 rfl rfl
theorem kp_22 : (Cond.selects "EvenHoldModel" ({ cls := "EvenHoldModel", name := "layFits", desc := "()V" } : Jvm.MethodName) ({ cls := "EvenHoldModel", name := "layFits", desc := "()V" } : Jvm.MethodName)) ∈ wsG := mGs 22 rfl rfl
theorem kp_23 : (Cond.selects "EvenHoldModel" ({ cls := "EvenHoldModel", name := "rowsFrom", desc := "(II)I" } : Jvm.MethodName) ({ cls := "EvenHoldModel", name := "rowsFrom", desc := "(II)I" } : Jvm.MethodName)) ∈ wsG := mGs 23 rfl rfl
theorem kp_24 : (Cond.selects "EvenHoldModel" ({ cls := "EvenHoldModel", name := "stepAll", desc := "(I)V" } : Jvm.MethodName) ({ cls := "EvenHoldModel", name := "stepAll", desc := "(I)V" } : Jvm.MethodName)) ∈ wsG := mGs 24 rfl rfl
theorem kp_25 : (Cond.selects "EvenHoldModel" ({ cls := "EvenHoldModel", name := "draw", desc := "(I)I" } : Jvm.MethodName) ({ cls := "EvenHoldModel", name := "draw", desc := "(I)I" } : Jvm.MethodName)) ∈ wsG := mGs 25 rfl rfl
theorem kp_26 : (Cond.selects "EvenHoldModel" ({ cls := "EvenHoldModel", name := "countOf", desc := "(I)I" } : Jvm.MethodName) ({ cls := "EvenHoldModel", name := "countOf", desc := "(I)I" } : Jvm.MethodName)) ∈ wsG := mGs 26 rfl rfl
theorem kp_27 : (Cond.selects "EvenHoldModel" ({ cls := "EvenHoldModel", name := "sayHold", desc := "()V" } : Jvm.MethodName) ({ cls := "EvenHoldModel", name := "sayHold", desc := "()V" } : Jvm.MethodName)) ∈ wsG := mGs 27 rfl rfl
theorem kp_28 : (Cond.selects "EvenHoldModel" ({ cls := "EvenHoldModel", name := "say", desc := "(J)V" } : Jvm.MethodName) ({ cls := "EvenHoldModel", name := "say", desc := "(J)V" } : Jvm.MethodName)) ∈ wsG := mGs 28 rfl rfl
