theorem kw_0 : Cond.initialized "DiceAuditLaw" ∈ kTB := kTB_of (List.mem_append_right _ (List.mem_of_getElem? (i := 0) (by decide +kernel))) rfl
theorem kw_1 : Cond.initialized "DiceAudit" ∈ kTB := kTB_of (List.mem_append_right _ (List.mem_of_getElem? (i := 1) (by decide +kernel))) rfl
theorem kw_2 : Cond.initialized "DiceAudit$Text" ∈ kTB := kTB_of (List.mem_append_right _ (List.mem_of_getElem? (i := 2) (by decide +kernel))) rfl
theorem kw_3 : Cond.initialized "DiceAudit$Hall" ∈ kTB := kTB_of (List.mem_append_right _ (List.mem_of_getElem? (i := 3) (by decide +kernel))) rfl
theorem kw_4 : Cond.initialized "DiceAudit$Dice" ∈ kTB := kTB_of (List.mem_append_right _ (List.mem_of_getElem? (i := 4) (by decide +kernel))) rfl
theorem kw_5 : Cond.initialized "DiceAudit$Players" ∈ kTB := kTB_of (List.mem_append_right _ (List.mem_of_getElem? (i := 5) (by decide +kernel))) rfl
theorem kw_6 : Cond.initialized "DiceAudit$Ledger" ∈ kTB := kTB_of (List.mem_append_right _ (List.mem_of_getElem? (i := 6) (by decide +kernel))) rfl
theorem kw_7 : Cond.initialized "DiceAudit$Offences" ∈ kTB := kTB_of (List.mem_append_right _ (List.mem_of_getElem? (i := 7) (by decide +kernel))) rfl
theorem kw_8 : Cond.initialized "DiceAudit$Forecast" ∈ kTB := kTB_of (List.mem_append_right _ (List.mem_of_getElem? (i := 8) (by decide +kernel))) rfl
theorem kw_9 : Cond.initialized "DiceAudit$History" ∈ kTB := kTB_of (List.mem_append_right _ (List.mem_of_getElem? (i := 9) (by decide +kernel))) rfl
theorem kw_10 : Cond.initialized "DiceAudit$Loader" ∈ kTB := kTB_of (List.mem_append_right _ (List.mem_of_getElem? (i := 10) (by decide +kernel))) rfl
theorem kw_11 : Cond.initialized "DiceAudit$Tokens" ∈ kTB := kTB_of (List.mem_append_right _ (List.mem_of_getElem? (i := 11) (by decide +kernel))) rfl
theorem kw_12 : Cond.initialized "java/lang/String" ∈ kTB := kTB_of (List.mem_append_right _ (List.mem_of_getElem? (i := 12) (by decide +kernel))) rfl
theorem kw_13 : Cond.initialized "java/lang/StringLatin1" ∈ kTB := kTB_of (List.mem_append_right _ (List.mem_of_getElem? (i := 13) (by decide +kernel))) rfl
theorem kw_14 : Cond.initialized "jdk/internal/util/Preconditions" ∈ kTB := kTB_of (List.mem_append_right _ (List.mem_of_getElem? (i := 14) (by decide +kernel))) rfl
theorem kw_15 : Cond.initialized "java/lang/StringUTF16" ∈ kTB := kTB_of (List.mem_append_right _ (List.mem_of_getElem? (i := 15) (by decide +kernel))) rfl
theorem kw_16 : Cond.initialized "java/lang/Math" ∈ kTB := kTB_of (List.mem_append_right _ (List.mem_of_getElem? (i := 16) (by decide +kernel))) rfl
theorem kw_17 : Cond.initialized "java/util/Arrays" ∈ kTB := kTB_of (List.mem_append_right _ (List.mem_of_getElem? (i := 17) (by decide +kernel))) rfl
theorem kw_18 : Cond.initialized "java/lang/System" ∈ kTB := kTB_of (List.mem_append_right _ (List.mem_of_getElem? (i := 18) (by decide +kernel))) rfl
theorem kw_19 : Cond.initialized "DiceAuditModel" ∈ kTB := kTB_of (List.mem_append_right _ (List.mem_of_getElem? (i := 19) (by decide +kernel))) rfl
theorem kw_20 : Cond.initialized "java/lang/Throwable" ∈ kTB := kTB_of (List.mem_append_right _ (List.mem_of_getElem? (i := 20) (by decide +kernel))) rfl
theorem kw_21 : Cond.initialized "java/lang/Exception" ∈ kTB := kTB_of (List.mem_append_right _ (List.mem_of_getElem? (i := 21) (by decide +kernel))) rfl
theorem kw_22 : Cond.initialized "java/lang/RuntimeException" ∈ kTB := kTB_of (List.mem_append_right _ (List.mem_of_getElem? (i := 22) (by decide +kernel))) rfl
theorem kw_23 : Cond.initialized "java/lang/IllegalStateException" ∈ kTB := kTB_of (List.mem_append_right _ (List.mem_of_getElem? (i := 23) (by decide +kernel))) rfl
theorem kw_24 : Cond.initialized "java/lang/IllegalArgumentException" ∈ kTB := kTB_of (List.mem_append_right _ (List.mem_of_getElem? (i := 24) (by decide +kernel))) rfl
theorem kw_25 : Cond.initialized "java/lang/IndexOutOfBoundsException" ∈ kTB := kTB_of (List.mem_append_right _ (List.mem_of_getElem? (i := 25) (by decide +kernel))) rfl
theorem kw_26 : Cond.initialized "java/util/NoSuchElementException" ∈ kTB := kTB_of (List.mem_append_right _ (List.mem_of_getElem? (i := 26) (by decide +kernel))) rfl
theorem kw_27 : Cond.classLink "DiceAuditLaw" (8 : Nat) "DiceAudit" ∈ kTB := kTB_of (List.mem_append_right _ (List.mem_of_getElem? (i := 27) (by decide +kernel))) rfl
theorem kw_28 : Cond.instantiable "DiceAudit" (8 : Nat) ∈ kTB := kTB_of (List.mem_append_right _ (List.mem_of_getElem? (i := 28) (by decide +kernel))) rfl
theorem kw_29 : Cond.methodLink "DiceAuditLaw" (160 : Nat) yX10_init ∈ kTB := kTB_of (List.mem_append_right _ (List.mem_of_getElem? (i := 29) (by decide +kernel))) rfl
theorem kw_30 : Cond.instanceMethod yX10_init ∈ kTB := kTB_of (List.mem_append_right _ (List.mem_of_getElem? (i := 30) (by decide +kernel))) rfl
theorem kw_31 : Cond.code yX10_init prog_1_method_1_code (4 : Nat) (Option.none : Option Jvm.ClassFile.FieldType) ∈ kTB := kTB_of (List.mem_append_right _ (List.mem_of_getElem? (i := 31) (by decide +kernel))) rfl
theorem kw_32 : Cond.methodLink "DiceAudit" (3 : Nat) ({ cls := "java/lang/Object", name := "<init>", desc := "()V" } : Jvm.MethodName) ∈ kTB := kTB_of (List.mem_append_right _ (List.mem_of_getElem? (i := 32) (by decide +kernel))) rfl
theorem kw_33 : Cond.instanceMethod ({ cls := "java/lang/Object", name := "<init>", desc := "()V" } : Jvm.MethodName) ∈ kTB := kTB_of (List.mem_append_right _ (List.mem_of_getElem? (i := 33) (by decide +kernel))) rfl
theorem kw_34 : Cond.code ({ cls := "java/lang/Object", name := "<init>", desc := "()V" } : Jvm.MethodName) object_method_1_code (1 : Nat) (Option.none : Option Jvm.ClassFile.FieldType) ∈ kTB := kTB_of (List.mem_append_right _ (List.mem_of_getElem? (i := 34) (by decide +kernel))) rfl
theorem kw_35 : Cond.classLink "DiceAudit" (9 : Nat) "DiceAudit$Text" ∈ kTB := kTB_of (List.mem_append_right _ (List.mem_of_getElem? (i := 35) (by decide +kernel))) rfl
theorem kw_36 : Cond.instantiable "DiceAudit$Text" (2 : Nat) ∈ kTB := kTB_of (List.mem_append_right _ (List.mem_of_getElem? (i := 36) (by decide +kernel))) rfl
theorem kw_37 : Cond.methodLinkNest "DiceAudit" (11 : Nat) yX8_init "DiceAudit" ∈ kTN := kTN_of (List.mem_append_right _ (List.mem_of_getElem? (i := 37) (by decide +kernel))) rfl
theorem kw_38 : Cond.instanceMethod yX8_init ∈ kTB := kTB_of (List.mem_append_right _ (List.mem_of_getElem? (i := 38) (by decide +kernel))) rfl
theorem kw_39 : Cond.code yX8_init prog_10_method_1_code (1 : Nat) (Option.none : Option Jvm.ClassFile.FieldType) ∈ kTB := kTB_of (List.mem_append_right _ (List.mem_of_getElem? (i := 39) (by decide +kernel))) rfl
theorem kw_40 : Cond.methodLink "DiceAudit$Text" (3 : Nat) ({ cls := "java/lang/Object", name := "<init>", desc := "()V" } : Jvm.MethodName) ∈ kTB := kTB_of (List.mem_append_right _ (List.mem_of_getElem? (i := 40) (by decide +kernel))) rfl
theorem kw_41 : Cond.fieldLink "DiceAudit$Text" (9 : Nat) "DiceAudit$Text" "bytes" "[I" ∈ kTB := kTB_of (List.mem_append_right _ (List.mem_of_getElem? (i := 41) (by decide +kernel))) rfl
theorem kw_42 : Cond.fieldLink "DiceAudit$Text" (15 : Nat) "DiceAudit$Text" "length" "I" ∈ kTB := kTB_of (List.mem_append_right _ (List.mem_of_getElem? (i := 42) (by decide +kernel))) rfl
theorem kw_43 : Cond.fieldLink "DiceAudit" (78 : Nat) "DiceAudit$Text" "length" "I" ∈ kTB := kTB_of (List.mem_append_right _ (List.mem_of_getElem? (i := 43) (by decide +kernel))) rfl
theorem kw_44 : Cond.fieldLink "DiceAudit$Tokens" (29 : Nat) "DiceAudit$Text" "length" "I" ∈ kTB := kTB_of (List.mem_append_right _ (List.mem_of_getElem? (i := 44) (by decide +kernel))) rfl
theorem kw_50 : Cond.arrayClass Jvm.ClassFile.FieldType.int ∈ kTB := kTB_of (List.mem_append_right _ (List.mem_of_getElem? (i := 50) (by decide +kernel))) rfl
theorem kw_51 : Cond.classLink "DiceAudit" (16 : Nat) "DiceAudit$Hall" ∈ kTB := kTB_of (List.mem_append_right _ (List.mem_of_getElem? (i := 51) (by decide +kernel))) rfl
theorem kw_52 : Cond.instantiable "DiceAudit$Hall" (7 : Nat) ∈ kTB := kTB_of (List.mem_append_right _ (List.mem_of_getElem? (i := 52) (by decide +kernel))) rfl
theorem kw_53 : Cond.methodLinkNest "DiceAudit" (18 : Nat) yX2_init "DiceAudit" ∈ kTN := kTN_of (List.mem_append_right _ (List.mem_of_getElem? (i := 53) (by decide +kernel))) rfl
theorem kw_54 : Cond.instanceMethod yX2_init ∈ kTB := kTB_of (List.mem_append_right _ (List.mem_of_getElem? (i := 54) (by decide +kernel))) rfl
theorem kw_55 : Cond.code yX2_init prog_4_method_1_code (1 : Nat) (Option.none : Option Jvm.ClassFile.FieldType) ∈ kTB := kTB_of (List.mem_append_right _ (List.mem_of_getElem? (i := 55) (by decide +kernel))) rfl
theorem kw_56 : Cond.methodLink "DiceAudit$Hall" (3 : Nat) ({ cls := "java/lang/Object", name := "<init>", desc := "()V" } : Jvm.MethodName) ∈ kTB := kTB_of (List.mem_append_right _ (List.mem_of_getElem? (i := 56) (by decide +kernel))) rfl
theorem kw_57 : Cond.classLink "DiceAudit$Hall" (9 : Nat) "DiceAudit$Dice" ∈ kTB := kTB_of (List.mem_append_right _ (List.mem_of_getElem? (i := 57) (by decide +kernel))) rfl
theorem kw_58 : Cond.instantiable "DiceAudit$Dice" (3 : Nat) ∈ kTB := kTB_of (List.mem_append_right _ (List.mem_of_getElem? (i := 58) (by decide +kernel))) rfl
theorem kw_59 : Cond.methodLinkNest "DiceAudit$Hall" (11 : Nat) yX0_init "DiceAudit" ∈ kTN := kTN_of (List.mem_append_right _ (List.mem_of_getElem? (i := 59) (by decide +kernel))) rfl
theorem kw_60 : Cond.instanceMethod yX0_init ∈ kTB := kTB_of (List.mem_append_right _ (List.mem_of_getElem? (i := 60) (by decide +kernel))) rfl
theorem kw_61 : Cond.code yX0_init prog_2_method_1_code (1 : Nat) (Option.none : Option Jvm.ClassFile.FieldType) ∈ kTB := kTB_of (List.mem_append_right _ (List.mem_of_getElem? (i := 61) (by decide +kernel))) rfl
theorem kw_62 : Cond.methodLink "DiceAudit$Dice" (3 : Nat) ({ cls := "java/lang/Object", name := "<init>", desc := "()V" } : Jvm.MethodName) ∈ kTB := kTB_of (List.mem_append_right _ (List.mem_of_getElem? (i := 62) (by decide +kernel))) rfl
theorem kw_63 : Cond.fieldLink "DiceAudit$Dice" (9 : Nat) "DiceAudit$Dice" "faceCounts" "[I" ∈ kTB := kTB_of (List.mem_append_right _ (List.mem_of_getElem? (i := 63) (by decide +kernel))) rfl
theorem kw_64 : Cond.fieldLink "DiceAudit$Dice" (15 : Nat) "DiceAudit$Dice" "weights" "[I" ∈ kTB := kTB_of (List.mem_append_right _ (List.mem_of_getElem? (i := 64) (by decide +kernel))) rfl
theorem kw_65 : Cond.fieldLink "DiceAudit" (160 : Nat) "DiceAudit$Dice" "weights" "[I" ∈ kTB := kTB_of (List.mem_append_right _ (List.mem_of_getElem? (i := 65) (by decide +kernel))) rfl
theorem kw_66 : Cond.fieldLink "DiceAudit$Dice" (18 : Nat) "DiceAudit$Dice" "count" "I" ∈ kTB := kTB_of (List.mem_append_right _ (List.mem_of_getElem? (i := 66) (by decide +kernel))) rfl
theorem kw_67 : Cond.fieldLink "DiceAudit$Loader" (113 : Nat) "DiceAudit$Dice" "count" "I" ∈ kTB := kTB_of (List.mem_append_right _ (List.mem_of_getElem? (i := 67) (by decide +kernel))) rfl
theorem kw_68 : Cond.fieldLink "DiceAudit" (131 : Nat) "DiceAudit$Dice" "count" "I" ∈ kTB := kTB_of (List.mem_append_right _ (List.mem_of_getElem? (i := 68) (by decide +kernel))) rfl
theorem kw_76 : Cond.classLink "DiceAudit$Hall" (18 : Nat) "DiceAudit$Players" ∈ kTB := kTB_of (List.mem_append_right _ (List.mem_of_getElem? (i := 76) (by decide +kernel))) rfl
theorem kw_77 : Cond.instantiable "DiceAudit$Players" (3 : Nat) ∈ kTB := kTB_of (List.mem_append_right _ (List.mem_of_getElem? (i := 77) (by decide +kernel))) rfl
theorem kw_78 : Cond.methodLinkNest "DiceAudit$Hall" (20 : Nat) yX7_init "DiceAudit" ∈ kTN := kTN_of (List.mem_append_right _ (List.mem_of_getElem? (i := 78) (by decide +kernel))) rfl
theorem kw_79 : Cond.instanceMethod yX7_init ∈ kTB := kTB_of (List.mem_append_right _ (List.mem_of_getElem? (i := 79) (by decide +kernel))) rfl
theorem kw_80 : Cond.code yX7_init prog_9_method_1_code (1 : Nat) (Option.none : Option Jvm.ClassFile.FieldType) ∈ kTB := kTB_of (List.mem_append_right _ (List.mem_of_getElem? (i := 80) (by decide +kernel))) rfl
theorem kw_81 : Cond.methodLink "DiceAudit$Players" (3 : Nat) ({ cls := "java/lang/Object", name := "<init>", desc := "()V" } : Jvm.MethodName) ∈ kTB := kTB_of (List.mem_append_right _ (List.mem_of_getElem? (i := 81) (by decide +kernel))) rfl
theorem kw_82 : Cond.fieldLink "DiceAudit$Players" (9 : Nat) "DiceAudit$Players" "lengths" "[I" ∈ kTB := kTB_of (List.mem_append_right _ (List.mem_of_getElem? (i := 82) (by decide +kernel))) rfl
theorem kw_83 : Cond.fieldLink "DiceAudit$Players" (15 : Nat) "DiceAudit$Players" "letters" "[I" ∈ kTB := kTB_of (List.mem_append_right _ (List.mem_of_getElem? (i := 83) (by decide +kernel))) rfl
theorem kw_84 : Cond.fieldLink "DiceAudit$Players" (18 : Nat) "DiceAudit$Players" "count" "I" ∈ kTB := kTB_of (List.mem_append_right _ (List.mem_of_getElem? (i := 84) (by decide +kernel))) rfl
theorem kw_85 : Cond.fieldLink "DiceAudit$Loader" (135 : Nat) "DiceAudit$Players" "count" "I" ∈ kTB := kTB_of (List.mem_append_right _ (List.mem_of_getElem? (i := 85) (by decide +kernel))) rfl
theorem kw_86 : Cond.fieldLink "DiceAudit" (138 : Nat) "DiceAudit$Players" "count" "I" ∈ kTB := kTB_of (List.mem_append_right _ (List.mem_of_getElem? (i := 86) (by decide +kernel))) rfl
theorem kw_87 : Cond.fieldLink "DiceAudit$Hall" (152 : Nat) "DiceAudit$Players" "count" "I" ∈ kTB := kTB_of (List.mem_append_right _ (List.mem_of_getElem? (i := 87) (by decide +kernel))) rfl
theorem kw_95 : Cond.classLink "DiceAudit$Hall" (25 : Nat) "DiceAudit$Ledger" ∈ kTB := kTB_of (List.mem_append_right _ (List.mem_of_getElem? (i := 95) (by decide +kernel))) rfl
theorem kw_96 : Cond.instantiable "DiceAudit$Ledger" (3 : Nat) ∈ kTB := kTB_of (List.mem_append_right _ (List.mem_of_getElem? (i := 96) (by decide +kernel))) rfl
theorem kw_97 : Cond.methodLinkNest "DiceAudit$Hall" (27 : Nat) yX4_init "DiceAudit" ∈ kTN := kTN_of (List.mem_append_right _ (List.mem_of_getElem? (i := 97) (by decide +kernel))) rfl
theorem kw_98 : Cond.instanceMethod yX4_init ∈ kTB := kTB_of (List.mem_append_right _ (List.mem_of_getElem? (i := 98) (by decide +kernel))) rfl
theorem kw_99 : Cond.code yX4_init prog_6_method_1_code (1 : Nat) (Option.none : Option Jvm.ClassFile.FieldType) ∈ kTB := kTB_of (List.mem_append_right _ (List.mem_of_getElem? (i := 99) (by decide +kernel))) rfl
theorem kw_100 : Cond.methodLink "DiceAudit$Ledger" (3 : Nat) ({ cls := "java/lang/Object", name := "<init>", desc := "()V" } : Jvm.MethodName) ∈ kTB := kTB_of (List.mem_append_right _ (List.mem_of_getElem? (i := 100) (by decide +kernel))) rfl
theorem kw_101 : Cond.fieldLink "DiceAudit$Ledger" (9 : Nat) "DiceAudit$Ledger" "entries" "[I" ∈ kTB := kTB_of (List.mem_append_right _ (List.mem_of_getElem? (i := 101) (by decide +kernel))) rfl
theorem kw_102 : Cond.fieldLink "DiceAudit$Ledger" (15 : Nat) "DiceAudit$Ledger" "frequencies" "[I" ∈ kTB := kTB_of (List.mem_append_right _ (List.mem_of_getElem? (i := 102) (by decide +kernel))) rfl
theorem kw_103 : Cond.fieldLink "DiceAudit$Forecast" (29 : Nat) "DiceAudit$Ledger" "frequencies" "[I" ∈ kTB := kTB_of (List.mem_append_right _ (List.mem_of_getElem? (i := 103) (by decide +kernel))) rfl
theorem kw_104 : Cond.fieldLink "DiceAudit$Hall" (86 : Nat) "DiceAudit$Ledger" "frequencies" "[I" ∈ kTB := kTB_of (List.mem_append_right _ (List.mem_of_getElem? (i := 104) (by decide +kernel))) rfl
theorem kw_105 : Cond.fieldLink "DiceAudit" (229 : Nat) "DiceAudit$Ledger" "frequencies" "[I" ∈ kTB := kTB_of (List.mem_append_right _ (List.mem_of_getElem? (i := 105) (by decide +kernel))) rfl
theorem kw_106 : Cond.fieldLink "DiceAudit$Ledger" (18 : Nat) "DiceAudit$Ledger" "count" "I" ∈ kTB := kTB_of (List.mem_append_right _ (List.mem_of_getElem? (i := 106) (by decide +kernel))) rfl
theorem kw_107 : Cond.fieldLink "DiceAudit" (107 : Nat) "DiceAudit$Ledger" "count" "I" ∈ kTB := kTB_of (List.mem_append_right _ (List.mem_of_getElem? (i := 107) (by decide +kernel))) rfl
theorem kw_108 : Cond.fieldLink "DiceAudit$Loader" (165 : Nat) "DiceAudit$Ledger" "count" "I" ∈ kTB := kTB_of (List.mem_append_right _ (List.mem_of_getElem? (i := 108) (by decide +kernel))) rfl
theorem kw_116 : Cond.classLink "DiceAudit$Hall" (32 : Nat) "DiceAudit$Offences" ∈ kTB := kTB_of (List.mem_append_right _ (List.mem_of_getElem? (i := 116) (by decide +kernel))) rfl
theorem kw_117 : Cond.instantiable "DiceAudit$Offences" (3 : Nat) ∈ kTB := kTB_of (List.mem_append_right _ (List.mem_of_getElem? (i := 117) (by decide +kernel))) rfl
theorem kw_118 : Cond.methodLinkNest "DiceAudit$Hall" (34 : Nat) yX6_init "DiceAudit" ∈ kTN := kTN_of (List.mem_append_right _ (List.mem_of_getElem? (i := 118) (by decide +kernel))) rfl
theorem kw_119 : Cond.instanceMethod yX6_init ∈ kTB := kTB_of (List.mem_append_right _ (List.mem_of_getElem? (i := 119) (by decide +kernel))) rfl
theorem kw_120 : Cond.code yX6_init prog_8_method_1_code (1 : Nat) (Option.none : Option Jvm.ClassFile.FieldType) ∈ kTB := kTB_of (List.mem_append_right _ (List.mem_of_getElem? (i := 120) (by decide +kernel))) rfl
theorem kw_121 : Cond.methodLink "DiceAudit$Offences" (3 : Nat) ({ cls := "java/lang/Object", name := "<init>", desc := "()V" } : Jvm.MethodName) ∈ kTB := kTB_of (List.mem_append_right _ (List.mem_of_getElem? (i := 121) (by decide +kernel))) rfl
theorem kw_122 : Cond.fieldLink "DiceAudit$Offences" (9 : Nat) "DiceAudit$Offences" "pairs" "[I" ∈ kTB := kTB_of (List.mem_append_right _ (List.mem_of_getElem? (i := 122) (by decide +kernel))) rfl
theorem kw_123 : Cond.fieldLink "DiceAudit$Hall" (130 : Nat) "DiceAudit$Offences" "pairs" "[I" ∈ kTB := kTB_of (List.mem_append_right _ (List.mem_of_getElem? (i := 123) (by decide +kernel))) rfl
theorem kw_124 : Cond.fieldLink "DiceAudit" (265 : Nat) "DiceAudit$Offences" "pairs" "[I" ∈ kTB := kTB_of (List.mem_append_right _ (List.mem_of_getElem? (i := 124) (by decide +kernel))) rfl
theorem kw_125 : Cond.fieldLink "DiceAudit$Offences" (15 : Nat) "DiceAudit$Offences" "scores" "[I" ∈ kTB := kTB_of (List.mem_append_right _ (List.mem_of_getElem? (i := 125) (by decide +kernel))) rfl
theorem kw_126 : Cond.fieldLink "DiceAudit$Hall" (123 : Nat) "DiceAudit$Offences" "scores" "[I" ∈ kTB := kTB_of (List.mem_append_right _ (List.mem_of_getElem? (i := 126) (by decide +kernel))) rfl
theorem kw_127 : Cond.fieldLink "DiceAudit" (268 : Nat) "DiceAudit$Offences" "scores" "[I" ∈ kTB := kTB_of (List.mem_append_right _ (List.mem_of_getElem? (i := 127) (by decide +kernel))) rfl
theorem kw_128 : Cond.fieldLink "DiceAudit$Offences" (18 : Nat) "DiceAudit$Offences" "count" "I" ∈ kTB := kTB_of (List.mem_append_right _ (List.mem_of_getElem? (i := 128) (by decide +kernel))) rfl
theorem kw_129 : Cond.fieldLink "DiceAudit$Hall" (114 : Nat) "DiceAudit$Offences" "count" "I" ∈ kTB := kTB_of (List.mem_append_right _ (List.mem_of_getElem? (i := 129) (by decide +kernel))) rfl
theorem kw_130 : Cond.fieldLink "DiceAudit$Loader" (182 : Nat) "DiceAudit$Offences" "count" "I" ∈ kTB := kTB_of (List.mem_append_right _ (List.mem_of_getElem? (i := 130) (by decide +kernel))) rfl
theorem kw_131 : Cond.fieldLink "DiceAudit" (259 : Nat) "DiceAudit$Offences" "count" "I" ∈ kTB := kTB_of (List.mem_append_right _ (List.mem_of_getElem? (i := 131) (by decide +kernel))) rfl
theorem kw_139 : Cond.fieldLink "DiceAudit$Hall" (12 : Nat) "DiceAudit$Hall" "dice" "LDiceAudit$Dice;" ∈ kTB := kTB_of (List.mem_append_right _ (List.mem_of_getElem? (i := 139) (by decide +kernel))) rfl
theorem kw_140 : Cond.fieldLink "DiceAudit$Forecast" (51 : Nat) "DiceAudit$Hall" "dice" "LDiceAudit$Dice;" ∈ kTB := kTB_of (List.mem_append_right _ (List.mem_of_getElem? (i := 140) (by decide +kernel))) rfl
theorem kw_141 : Cond.fieldLink "DiceAudit$Loader" (109 : Nat) "DiceAudit$Hall" "dice" "LDiceAudit$Dice;" ∈ kTB := kTB_of (List.mem_append_right _ (List.mem_of_getElem? (i := 141) (by decide +kernel))) rfl
theorem kw_142 : Cond.fieldLink "DiceAudit" (127 : Nat) "DiceAudit$Hall" "dice" "LDiceAudit$Dice;" ∈ kTB := kTB_of (List.mem_append_right _ (List.mem_of_getElem? (i := 142) (by decide +kernel))) rfl
theorem kw_143 : Cond.fieldLink "DiceAudit$Hall" (21 : Nat) "DiceAudit$Hall" "players" "LDiceAudit$Players;" ∈ kTB := kTB_of (List.mem_append_right _ (List.mem_of_getElem? (i := 143) (by decide +kernel))) rfl
theorem kw_144 : Cond.fieldLink "DiceAudit$Loader" (131 : Nat) "DiceAudit$Hall" "players" "LDiceAudit$Players;" ∈ kTB := kTB_of (List.mem_append_right _ (List.mem_of_getElem? (i := 144) (by decide +kernel))) rfl
theorem kw_145 : Cond.fieldLink "DiceAudit" (134 : Nat) "DiceAudit$Hall" "players" "LDiceAudit$Players;" ∈ kTB := kTB_of (List.mem_append_right _ (List.mem_of_getElem? (i := 145) (by decide +kernel))) rfl
theorem kw_146 : Cond.fieldLink "DiceAudit$Hall" (28 : Nat) "DiceAudit$Hall" "ledger" "LDiceAudit$Ledger;" ∈ kTB := kTB_of (List.mem_append_right _ (List.mem_of_getElem? (i := 146) (by decide +kernel))) rfl
theorem kw_147 : Cond.fieldLink "DiceAudit$Forecast" (25 : Nat) "DiceAudit$Hall" "ledger" "LDiceAudit$Ledger;" ∈ kTB := kTB_of (List.mem_append_right _ (List.mem_of_getElem? (i := 147) (by decide +kernel))) rfl
theorem kw_148 : Cond.fieldLink "DiceAudit" (103 : Nat) "DiceAudit$Hall" "ledger" "LDiceAudit$Ledger;" ∈ kTB := kTB_of (List.mem_append_right _ (List.mem_of_getElem? (i := 148) (by decide +kernel))) rfl
theorem kw_149 : Cond.fieldLink "DiceAudit$Loader" (161 : Nat) "DiceAudit$Hall" "ledger" "LDiceAudit$Ledger;" ∈ kTB := kTB_of (List.mem_append_right _ (List.mem_of_getElem? (i := 149) (by decide +kernel))) rfl
theorem kw_150 : Cond.fieldLink "DiceAudit$Hall" (35 : Nat) "DiceAudit$Hall" "offences" "LDiceAudit$Offences;" ∈ kTB := kTB_of (List.mem_append_right _ (List.mem_of_getElem? (i := 150) (by decide +kernel))) rfl
theorem kw_151 : Cond.fieldLink "DiceAudit$Loader" (178 : Nat) "DiceAudit$Hall" "offences" "LDiceAudit$Offences;" ∈ kTB := kTB_of (List.mem_append_right _ (List.mem_of_getElem? (i := 151) (by decide +kernel))) rfl
theorem kw_152 : Cond.fieldLink "DiceAudit" (255 : Nat) "DiceAudit$Hall" "offences" "LDiceAudit$Offences;" ∈ kTB := kTB_of (List.mem_append_right _ (List.mem_of_getElem? (i := 152) (by decide +kernel))) rfl
theorem kw_153 : Cond.fieldLink "DiceAudit$Hall" (39 : Nat) "DiceAudit$Hall" "seed" "I" ∈ kTB := kTB_of (List.mem_append_right _ (List.mem_of_getElem? (i := 153) (by decide +kernel))) rfl
theorem kw_154 : Cond.fieldLink "DiceAudit$Forecast" (22 : Nat) "DiceAudit$Hall" "seed" "I" ∈ kTB := kTB_of (List.mem_append_right _ (List.mem_of_getElem? (i := 154) (by decide +kernel))) rfl
theorem kw_155 : Cond.fieldLink "DiceAudit" (118 : Nat) "DiceAudit$Hall" "seed" "I" ∈ kTB := kTB_of (List.mem_append_right _ (List.mem_of_getElem? (i := 155) (by decide +kernel))) rfl
theorem kw_156 : Cond.fieldLink "DiceAudit$Hall" (43 : Nat) "DiceAudit$Hall" "minimum" "I" ∈ kTB := kTB_of (List.mem_append_right _ (List.mem_of_getElem? (i := 156) (by decide +kernel))) rfl
theorem kw_157 : Cond.fieldLink "DiceAudit" (121 : Nat) "DiceAudit$Hall" "minimum" "I" ∈ kTB := kTB_of (List.mem_append_right _ (List.mem_of_getElem? (i := 157) (by decide +kernel))) rfl
theorem kw_158 : Cond.fieldLink "DiceAudit$Hall" (46 : Nat) "DiceAudit$Hall" "threshold" "I" ∈ kTB := kTB_of (List.mem_append_right _ (List.mem_of_getElem? (i := 158) (by decide +kernel))) rfl
theorem kw_159 : Cond.fieldLink "DiceAudit" (124 : Nat) "DiceAudit$Hall" "threshold" "I" ∈ kTB := kTB_of (List.mem_append_right _ (List.mem_of_getElem? (i := 159) (by decide +kernel))) rfl
theorem kw_175 : Cond.classLink "DiceAudit" (23 : Nat) "DiceAudit$Forecast" ∈ kTB := kTB_of (List.mem_append_right _ (List.mem_of_getElem? (i := 175) (by decide +kernel))) rfl
theorem kw_176 : Cond.instantiable "DiceAudit$Forecast" (3 : Nat) ∈ kTB := kTB_of (List.mem_append_right _ (List.mem_of_getElem? (i := 176) (by decide +kernel))) rfl
theorem kw_177 : Cond.methodLinkNest "DiceAudit" (25 : Nat) yX1_init "DiceAudit" ∈ kTN := kTN_of (List.mem_append_right _ (List.mem_of_getElem? (i := 177) (by decide +kernel))) rfl
theorem kw_178 : Cond.instanceMethod yX1_init ∈ kTB := kTB_of (List.mem_append_right _ (List.mem_of_getElem? (i := 178) (by decide +kernel))) rfl
theorem kw_179 : Cond.code yX1_init prog_3_method_1_code (1 : Nat) (Option.none : Option Jvm.ClassFile.FieldType) ∈ kTB := kTB_of (List.mem_append_right _ (List.mem_of_getElem? (i := 179) (by decide +kernel))) rfl
theorem kw_180 : Cond.methodLink "DiceAudit$Forecast" (3 : Nat) ({ cls := "java/lang/Object", name := "<init>", desc := "()V" } : Jvm.MethodName) ∈ kTB := kTB_of (List.mem_append_right _ (List.mem_of_getElem? (i := 180) (by decide +kernel))) rfl
theorem kw_181 : Cond.fieldLink "DiceAudit$Forecast" (9 : Nat) "DiceAudit$Forecast" "frequencies" "[I" ∈ kTB := kTB_of (List.mem_append_right _ (List.mem_of_getElem? (i := 181) (by decide +kernel))) rfl
theorem kw_182 : Cond.fieldLink "DiceAudit$Forecast" (15 : Nat) "DiceAudit$Forecast" "die" "I" ∈ kTB := kTB_of (List.mem_append_right _ (List.mem_of_getElem? (i := 182) (by decide +kernel))) rfl
theorem kw_183 : Cond.fieldLink "DiceAudit$Forecast" (19 : Nat) "DiceAudit$Forecast" "seed" "I" ∈ kTB := kTB_of (List.mem_append_right _ (List.mem_of_getElem? (i := 183) (by decide +kernel))) rfl
theorem kw_191 : Cond.classLink "DiceAudit" (30 : Nat) "DiceAudit$History" ∈ kTB := kTB_of (List.mem_append_right _ (List.mem_of_getElem? (i := 191) (by decide +kernel))) rfl
theorem kw_192 : Cond.instantiable "DiceAudit$History" (3 : Nat) ∈ kTB := kTB_of (List.mem_append_right _ (List.mem_of_getElem? (i := 192) (by decide +kernel))) rfl
theorem kw_193 : Cond.methodLink "DiceAudit" (32 : Nat) yX3_init ∈ kTB := kTB_of (List.mem_append_right _ (List.mem_of_getElem? (i := 193) (by decide +kernel))) rfl
theorem kw_194 : Cond.instanceMethod yX3_init ∈ kTB := kTB_of (List.mem_append_right _ (List.mem_of_getElem? (i := 194) (by decide +kernel))) rfl
theorem kw_195 : Cond.code yX3_init prog_5_method_1_code (2 : Nat) (Option.none : Option Jvm.ClassFile.FieldType) ∈ kTB := kTB_of (List.mem_append_right _ (List.mem_of_getElem? (i := 195) (by decide +kernel))) rfl
theorem kw_196 : Cond.methodLink "DiceAudit$History" (3 : Nat) ({ cls := "java/lang/Object", name := "<init>", desc := "()V" } : Jvm.MethodName) ∈ kTB := kTB_of (List.mem_append_right _ (List.mem_of_getElem? (i := 196) (by decide +kernel))) rfl
theorem kw_197 : Cond.classLink "DiceAudit$History" (9 : Nat) "DiceAudit$Hall" ∈ kTB := kTB_of (List.mem_append_right _ (List.mem_of_getElem? (i := 197) (by decide +kernel))) rfl
theorem kw_198 : Cond.arrayOver (Jvm.ClassFile.FieldType.object "DiceAudit$Hall") ∈ kTN := kTN_of (List.mem_append_right _ (List.mem_of_getElem? (i := 198) (by decide +kernel))) rfl
theorem kw_199 : Cond.methodLinkNest "DiceAudit$History" (24 : Nat) yX2_init "DiceAudit" ∈ kTN := kTN_of (List.mem_append_right _ (List.mem_of_getElem? (i := 199) (by decide +kernel))) rfl
theorem kw_200 : Cond.fieldLink "DiceAudit$History" (11 : Nat) "DiceAudit$History" "rows" "[LDiceAudit$Hall;" ∈ kTB := kTB_of (List.mem_append_right _ (List.mem_of_getElem? (i := 200) (by decide +kernel))) rfl
theorem kw_201 : Cond.fieldLink "DiceAudit$History" (17 : Nat) "DiceAudit$History" "next" "I" ∈ kTB := kTB_of (List.mem_append_right _ (List.mem_of_getElem? (i := 201) (by decide +kernel))) rfl
theorem kw_202 : Cond.fieldLink "DiceAudit$History" (21 : Nat) "DiceAudit$History" "depth" "I" ∈ kTB := kTB_of (List.mem_append_right _ (List.mem_of_getElem? (i := 202) (by decide +kernel))) rfl
theorem kw_203 : Cond.fieldLink "DiceAudit" (362 : Nat) "DiceAudit$History" "depth" "I" ∈ kTB := kTB_of (List.mem_append_right _ (List.mem_of_getElem? (i := 203) (by decide +kernel))) rfl
theorem kw_211 : Cond.classLink "DiceAudit" (45 : Nat) "DiceAudit$Loader" ∈ kTB := kTB_of (List.mem_append_right _ (List.mem_of_getElem? (i := 211) (by decide +kernel))) rfl
theorem kw_212 : Cond.instantiable "DiceAudit$Loader" (5 : Nat) ∈ kTB := kTB_of (List.mem_append_right _ (List.mem_of_getElem? (i := 212) (by decide +kernel))) rfl
theorem kw_213 : Cond.methodLink "DiceAudit" (47 : Nat) yX5_init ∈ kTB := kTB_of (List.mem_append_right _ (List.mem_of_getElem? (i := 213) (by decide +kernel))) rfl
theorem kw_214 : Cond.instanceMethod yX5_init ∈ kTB := kTB_of (List.mem_append_right _ (List.mem_of_getElem? (i := 214) (by decide +kernel))) rfl
theorem kw_215 : Cond.code yX5_init prog_7_method_1_code (2 : Nat) (Option.none : Option Jvm.ClassFile.FieldType) ∈ kTB := kTB_of (List.mem_append_right _ (List.mem_of_getElem? (i := 215) (by decide +kernel))) rfl
theorem kw_216 : Cond.methodLink "DiceAudit$Loader" (3 : Nat) ({ cls := "java/lang/Object", name := "<init>", desc := "()V" } : Jvm.MethodName) ∈ kTB := kTB_of (List.mem_append_right _ (List.mem_of_getElem? (i := 216) (by decide +kernel))) rfl
theorem kw_217 : Cond.classLink "DiceAudit$Loader" (9 : Nat) "DiceAudit$Hall" ∈ kTB := kTB_of (List.mem_append_right _ (List.mem_of_getElem? (i := 217) (by decide +kernel))) rfl
theorem kw_218 : Cond.methodLinkNest "DiceAudit$Loader" (11 : Nat) yX2_init "DiceAudit" ∈ kTN := kTN_of (List.mem_append_right _ (List.mem_of_getElem? (i := 218) (by decide +kernel))) rfl
theorem kw_219 : Cond.classLink "DiceAudit$Loader" (29 : Nat) "DiceAudit$Tokens" ∈ kTB := kTB_of (List.mem_append_right _ (List.mem_of_getElem? (i := 219) (by decide +kernel))) rfl
theorem kw_220 : Cond.instantiable "DiceAudit$Tokens" (5 : Nat) ∈ kTB := kTB_of (List.mem_append_right _ (List.mem_of_getElem? (i := 220) (by decide +kernel))) rfl
theorem kw_221 : Cond.methodLink "DiceAudit$Loader" (31 : Nat) yX9_init ∈ kTB := kTB_of (List.mem_append_right _ (List.mem_of_getElem? (i := 221) (by decide +kernel))) rfl
theorem kw_222 : Cond.instanceMethod yX9_init ∈ kTB := kTB_of (List.mem_append_right _ (List.mem_of_getElem? (i := 222) (by decide +kernel))) rfl
theorem kw_223 : Cond.code yX9_init prog_11_method_1_code (2 : Nat) (Option.none : Option Jvm.ClassFile.FieldType) ∈ kTB := kTB_of (List.mem_append_right _ (List.mem_of_getElem? (i := 223) (by decide +kernel))) rfl
theorem kw_224 : Cond.methodLink "DiceAudit$Tokens" (1 : Nat) ({ cls := "java/lang/Object", name := "<init>", desc := "()V" } : Jvm.MethodName) ∈ kTB := kTB_of (List.mem_append_right _ (List.mem_of_getElem? (i := 224) (by decide +kernel))) rfl
theorem kw_225 : Cond.fieldLink "DiceAudit$Tokens" (22 : Nat) "DiceAudit$Tokens" "text" "LDiceAudit$Text;" ∈ kTB := kTB_of (List.mem_append_right _ (List.mem_of_getElem? (i := 225) (by decide +kernel))) rfl
theorem kw_226 : Cond.fieldLink "DiceAudit$Tokens" (9 : Nat) "DiceAudit$Tokens" "kind" "I" ∈ kTB := kTB_of (List.mem_append_right _ (List.mem_of_getElem? (i := 226) (by decide +kernel))) rfl
theorem kw_227 : Cond.fieldLink "DiceAudit$Loader" (51 : Nat) "DiceAudit$Tokens" "kind" "I" ∈ kTB := kTB_of (List.mem_append_right _ (List.mem_of_getElem? (i := 227) (by decide +kernel))) rfl
theorem kw_228 : Cond.fieldLink "DiceAudit$Tokens" (13 : Nat) "DiceAudit$Tokens" "start" "I" ∈ kTB := kTB_of (List.mem_append_right _ (List.mem_of_getElem? (i := 228) (by decide +kernel))) rfl
theorem kw_229 : Cond.fieldLink "DiceAudit$Loader" (138 : Nat) "DiceAudit$Tokens" "start" "I" ∈ kTB := kTB_of (List.mem_append_right _ (List.mem_of_getElem? (i := 229) (by decide +kernel))) rfl
theorem kw_230 : Cond.fieldLink "DiceAudit$Tokens" (16 : Nat) "DiceAudit$Tokens" "end" "I" ∈ kTB := kTB_of (List.mem_append_right _ (List.mem_of_getElem? (i := 230) (by decide +kernel))) rfl
theorem kw_231 : Cond.fieldLink "DiceAudit$Loader" (141 : Nat) "DiceAudit$Tokens" "end" "I" ∈ kTB := kTB_of (List.mem_append_right _ (List.mem_of_getElem? (i := 231) (by decide +kernel))) rfl
theorem kw_232 : Cond.fieldLink "DiceAudit$Tokens" (19 : Nat) "DiceAudit$Tokens" "value" "I" ∈ kTB := kTB_of (List.mem_append_right _ (List.mem_of_getElem? (i := 232) (by decide +kernel))) rfl
theorem kw_233 : Cond.fieldLink "DiceAudit$Loader" (192 : Nat) "DiceAudit$Tokens" "value" "I" ∈ kTB := kTB_of (List.mem_append_right _ (List.mem_of_getElem? (i := 233) (by decide +kernel))) rfl
theorem kw_245 : Cond.fieldLink "DiceAudit$Loader" (25 : Nat) "DiceAudit$Loader" "text" "LDiceAudit$Text;" ∈ kTB := kTB_of (List.mem_append_right _ (List.mem_of_getElem? (i := 245) (by decide +kernel))) rfl
theorem kw_246 : Cond.fieldLink "DiceAudit$Loader" (34 : Nat) "DiceAudit$Loader" "tokens" "LDiceAudit$Tokens;" ∈ kTB := kTB_of (List.mem_append_right _ (List.mem_of_getElem? (i := 246) (by decide +kernel))) rfl
theorem kw_247 : Cond.fieldLink "DiceAudit$Loader" (12 : Nat) "DiceAudit$Loader" "draft" "LDiceAudit$Hall;" ∈ kTB := kTB_of (List.mem_append_right _ (List.mem_of_getElem? (i := 247) (by decide +kernel))) rfl
theorem kw_248 : Cond.fieldLink "DiceAudit" (71 : Nat) "DiceAudit$Loader" "draft" "LDiceAudit$Hall;" ∈ kTB := kTB_of (List.mem_append_right _ (List.mem_of_getElem? (i := 248) (by decide +kernel))) rfl
theorem kw_249 : Cond.fieldLink "DiceAudit$Loader" (18 : Nat) "DiceAudit$Loader" "error" "I" ∈ kTB := kTB_of (List.mem_append_right _ (List.mem_of_getElem? (i := 249) (by decide +kernel))) rfl
theorem kw_250 : Cond.fieldLink "DiceAudit" (112 : Nat) "DiceAudit$Loader" "error" "I" ∈ kTB := kTB_of (List.mem_append_right _ (List.mem_of_getElem? (i := 250) (by decide +kernel))) rfl
theorem kw_251 : Cond.fieldLink "DiceAudit$Loader" (22 : Nat) "DiceAudit$Loader" "errorOffset" "I" ∈ kTB := kTB_of (List.mem_append_right _ (List.mem_of_getElem? (i := 251) (by decide +kernel))) rfl
theorem kw_252 : Cond.fieldLink "DiceAudit" (115 : Nat) "DiceAudit$Loader" "errorOffset" "I" ∈ kTB := kTB_of (List.mem_append_right _ (List.mem_of_getElem? (i := 252) (by decide +kernel))) rfl
theorem kw_265 : Cond.methodLink "DiceAudit" (52 : Nat) yX8_appendString ∈ kTB := kTB_of (List.mem_append_right _ (List.mem_of_getElem? (i := 265) (by decide +kernel))) rfl
theorem kw_266 : Cond.instanceMethod yX8_appendString ∈ kTB := kTB_of (List.mem_append_right _ (List.mem_of_getElem? (i := 266) (by decide +kernel))) rfl
theorem kw_267 : Cond.selects "DiceAudit$Text" yX8_appendString yX8_appendString ∈ kTB := kTB_of (List.mem_append_right _ (List.mem_of_getElem? (i := 267) (by decide +kernel))) rfl
theorem kw_268 : Cond.code yX8_appendString prog_10_method_5_code (3 : Nat) (Option.none : Option Jvm.ClassFile.FieldType) ∈ kTB := kTB_of (List.mem_append_right _ (List.mem_of_getElem? (i := 268) (by decide +kernel))) rfl
theorem kw_269 : Cond.methodLink "DiceAudit$Text" (27 : Nat) yJ0_length_8abf5 ∈ kTB := kTB_of (List.mem_append_right _ (List.mem_of_getElem? (i := 269) (by decide +kernel))) rfl
theorem kw_270 : Cond.instanceMethod yJ0_length_8abf5 ∈ kTB := kTB_of (List.mem_append_right _ (List.mem_of_getElem? (i := 270) (by decide +kernel))) rfl
theorem kw_271 : Cond.selects "java/lang/String" yJ0_length_8abf5 yJ0_length_8abf5 ∈ kTB := kTB_of (List.mem_append_right _ (List.mem_of_getElem? (i := 271) (by decide +kernel))) rfl
theorem kw_272 : Cond.code yJ0_length_8abf5 prog_23_method_54_code (1 : Nat) (Option.some Jvm.ClassFile.FieldType.int) ∈ kTB := kTB_of (List.mem_append_right _ (List.mem_of_getElem? (i := 272) (by decide +kernel))) rfl
theorem kw_273 : Cond.methodLink "java/lang/String" (335 : Nat) yJ0_coder_7d493 ∈ kTB := kTB_of (List.mem_append_right _ (List.mem_of_getElem? (i := 273) (by decide +kernel))) rfl
theorem kw_274 : Cond.instanceMethod yJ0_coder_7d493 ∈ kTB := kTB_of (List.mem_append_right _ (List.mem_of_getElem? (i := 274) (by decide +kernel))) rfl
theorem kw_275 : Cond.selects "java/lang/String" yJ0_coder_7d493 yJ0_coder_7d493 ∈ kTB := kTB_of (List.mem_append_right _ (List.mem_of_getElem? (i := 275) (by decide +kernel))) rfl
theorem kw_276 : Cond.code yJ0_coder_7d493 prog_23_method_152_code (1 : Nat) (Option.some Jvm.ClassFile.FieldType.byte) ∈ kTB := kTB_of (List.mem_append_right _ (List.mem_of_getElem? (i := 276) (by decide +kernel))) rfl
theorem kw_277 : Cond.fieldLink "java/lang/String" (38 : Nat) "java/lang/String" "COMPACT_STRINGS" "Z" ∈ kTB := kTB_of (List.mem_append_right _ (List.mem_of_getElem? (i := 277) (by decide +kernel))) rfl
theorem kw_279 : Cond.methodLink "DiceAudit$Text" (32 : Nat) yJ0_charAt_5068e ∈ kTB := kTB_of (List.mem_append_right _ (List.mem_of_getElem? (i := 279) (by decide +kernel))) rfl
theorem kw_280 : Cond.instanceMethod yJ0_charAt_5068e ∈ kTB := kTB_of (List.mem_append_right _ (List.mem_of_getElem? (i := 280) (by decide +kernel))) rfl
theorem kw_281 : Cond.selects "java/lang/String" yJ0_charAt_5068e yJ0_charAt_5068e ∈ kTB := kTB_of (List.mem_append_right _ (List.mem_of_getElem? (i := 281) (by decide +kernel))) rfl
theorem kw_282 : Cond.code yJ0_charAt_5068e prog_23_method_56_code (2 : Nat) (Option.some Jvm.ClassFile.FieldType.char) ∈ kTB := kTB_of (List.mem_append_right _ (List.mem_of_getElem? (i := 282) (by decide +kernel))) rfl
theorem kw_283 : Cond.methodLink "java/lang/String" (492 : Nat) yJ0_isLatin1_aae02 ∈ kTB := kTB_of (List.mem_append_right _ (List.mem_of_getElem? (i := 283) (by decide +kernel))) rfl
theorem kw_284 : Cond.instanceMethod yJ0_isLatin1_aae02 ∈ kTB := kTB_of (List.mem_append_right _ (List.mem_of_getElem? (i := 284) (by decide +kernel))) rfl
theorem kw_285 : Cond.selects "java/lang/String" yJ0_isLatin1_aae02 yJ0_isLatin1_aae02 ∈ kTB := kTB_of (List.mem_append_right _ (List.mem_of_getElem? (i := 285) (by decide +kernel))) rfl
theorem kw_286 : Cond.code yJ0_isLatin1_aae02 prog_23_method_154_code (1 : Nat) (Option.some Jvm.ClassFile.FieldType.boolean) ∈ kTB := kTB_of (List.mem_append_right _ (List.mem_of_getElem? (i := 286) (by decide +kernel))) rfl
theorem kw_287 : Cond.methodLink "java/lang/String" (495 : Nat) yJ1_charAt_3b067 ∈ kTB := kTB_of (List.mem_append_right _ (List.mem_of_getElem? (i := 287) (by decide +kernel))) rfl
theorem kw_288 : Cond.static yJ1_charAt_3b067 ∈ kTB := kTB_of (List.mem_append_right _ (List.mem_of_getElem? (i := 288) (by decide +kernel))) rfl
theorem kw_289 : Cond.code yJ1_charAt_3b067 prog_24_method_2_code (2 : Nat) (Option.some Jvm.ClassFile.FieldType.char) ∈ kTB := kTB_of (List.mem_append_right _ (List.mem_of_getElem? (i := 289) (by decide +kernel))) rfl
theorem kw_290 : Cond.methodLink "java/lang/StringLatin1" (9 : Nat) yJ0_checkIndex_df160 ∈ kTB := kTB_of (List.mem_append_right _ (List.mem_of_getElem? (i := 290) (by decide +kernel))) rfl
theorem kw_291 : Cond.static yJ0_checkIndex_df160 ∈ kTB := kTB_of (List.mem_append_right _ (List.mem_of_getElem? (i := 291) (by decide +kernel))) rfl
theorem kw_292 : Cond.code yJ0_checkIndex_df160 prog_23_method_155_code (2 : Nat) (Option.none : Option Jvm.ClassFile.FieldType) ∈ kTB := kTB_of (List.mem_append_right _ (List.mem_of_getElem? (i := 292) (by decide +kernel))) rfl
theorem kw_293 : Cond.fieldLink "java/lang/String" (1053 : Nat) "jdk/internal/util/Preconditions" "SIOOBE_FORMATTER" "Ljava/util/function/BiFunction;" ∈ kTB := kTB_of (List.mem_append_right _ (List.mem_of_getElem? (i := 293) (by decide +kernel))) rfl
theorem kw_295 : Cond.methodLink "java/lang/String" (1059 : Nat) yJ3_checkIndex_8e157 ∈ kTB := kTB_of (List.mem_append_right _ (List.mem_of_getElem? (i := 295) (by decide +kernel))) rfl
theorem kw_296 : Cond.static yJ3_checkIndex_8e157 ∈ kTB := kTB_of (List.mem_append_right _ (List.mem_of_getElem? (i := 296) (by decide +kernel))) rfl
theorem kw_297 : Cond.code yJ3_checkIndex_8e157 prog_32_method_11_code (3 : Nat) (Option.some Jvm.ClassFile.FieldType.int) ∈ kTB := kTB_of (List.mem_append_right _ (List.mem_of_getElem? (i := 297) (by decide +kernel))) rfl
theorem kw_298 : Cond.methodLink "java/lang/String" (498 : Nat) yJ2_charAt_3b067 ∈ kTB := kTB_of (List.mem_append_right _ (List.mem_of_getElem? (i := 298) (by decide +kernel))) rfl
theorem kw_299 : Cond.static yJ2_charAt_3b067 ∈ kTB := kTB_of (List.mem_append_right _ (List.mem_of_getElem? (i := 299) (by decide +kernel))) rfl
theorem kw_300 : Cond.code yJ2_charAt_3b067 prog_25_method_83_code (2 : Nat) (Option.some Jvm.ClassFile.FieldType.char) ∈ kTB := kTB_of (List.mem_append_right _ (List.mem_of_getElem? (i := 300) (by decide +kernel))) rfl
theorem kw_301 : Cond.methodLink "java/lang/StringUTF16" (67 : Nat) yJ2_checkIndex_2214a ∈ kTB := kTB_of (List.mem_append_right _ (List.mem_of_getElem? (i := 301) (by decide +kernel))) rfl
theorem kw_302 : Cond.static yJ2_checkIndex_2214a ∈ kTB := kTB_of (List.mem_append_right _ (List.mem_of_getElem? (i := 302) (by decide +kernel))) rfl
theorem kw_303 : Cond.code yJ2_checkIndex_2214a prog_25_method_91_code (2 : Nat) (Option.none : Option Jvm.ClassFile.FieldType) ∈ kTB := kTB_of (List.mem_append_right _ (List.mem_of_getElem? (i := 303) (by decide +kernel))) rfl
theorem kw_304 : Cond.methodLink "java/lang/StringUTF16" (48 : Nat) yJ2_length_9d52b ∈ kTB := kTB_of (List.mem_append_right _ (List.mem_of_getElem? (i := 304) (by decide +kernel))) rfl
theorem kw_305 : Cond.static yJ2_length_9d52b ∈ kTB := kTB_of (List.mem_append_right _ (List.mem_of_getElem? (i := 305) (by decide +kernel))) rfl
theorem kw_306 : Cond.code yJ2_length_9d52b prog_25_method_6_code (1 : Nat) (Option.some Jvm.ClassFile.FieldType.int) ∈ kTB := kTB_of (List.mem_append_right _ (List.mem_of_getElem? (i := 306) (by decide +kernel))) rfl
theorem kw_307 : Cond.methodLink "java/lang/StringUTF16" (414 : Nat) yJ0_checkIndex_df160 ∈ kTB := kTB_of (List.mem_append_right _ (List.mem_of_getElem? (i := 307) (by decide +kernel))) rfl
theorem kw_308 : Cond.methodLink "java/lang/StringUTF16" (71 : Nat) yJ2_getChar_3b067 ∈ kTB := kTB_of (List.mem_append_right _ (List.mem_of_getElem? (i := 308) (by decide +kernel))) rfl
theorem kw_309 : Cond.static yJ2_getChar_3b067 ∈ kTB := kTB_of (List.mem_append_right _ (List.mem_of_getElem? (i := 309) (by decide +kernel))) rfl
theorem kw_310 : Cond.code yJ2_getChar_3b067 prog_25_method_5_code (2 : Nat) (Option.some Jvm.ClassFile.FieldType.char) ∈ kTB := kTB_of (List.mem_append_right _ (List.mem_of_getElem? (i := 310) (by decide +kernel))) rfl
theorem kw_311 : Cond.fieldLink "java/lang/StringUTF16" (44 : Nat) "java/lang/StringUTF16" "$assertionsDisabled" "Z" ∈ kTB := kTB_of (List.mem_append_right _ (List.mem_of_getElem? (i := 311) (by decide +kernel))) rfl
theorem kw_313 : Cond.fieldLink "java/lang/StringUTF16" (59 : Nat) "java/lang/StringUTF16" "HI_BYTE_SHIFT" "I" ∈ kTB := kTB_of (List.mem_append_right _ (List.mem_of_getElem? (i := 313) (by decide +kernel))) rfl
theorem kw_315 : Cond.fieldLink "java/lang/StringUTF16" (63 : Nat) "java/lang/StringUTF16" "LO_BYTE_SHIFT" "I" ∈ kTB := kTB_of (List.mem_append_right _ (List.mem_of_getElem? (i := 315) (by decide +kernel))) rfl
theorem kw_317 : Cond.methodLink "DiceAudit$Text" (23 : Nat) yX8_append ∈ kTB := kTB_of (List.mem_append_right _ (List.mem_of_getElem? (i := 317) (by decide +kernel))) rfl
theorem kw_318 : Cond.instanceMethod yX8_append ∈ kTB := kTB_of (List.mem_append_right _ (List.mem_of_getElem? (i := 318) (by decide +kernel))) rfl
theorem kw_319 : Cond.selects "DiceAudit$Text" yX8_append yX8_append ∈ kTB := kTB_of (List.mem_append_right _ (List.mem_of_getElem? (i := 319) (by decide +kernel))) rfl
theorem kw_320 : Cond.code yX8_append prog_10_method_3_code (2 : Nat) (Option.none : Option Jvm.ClassFile.FieldType) ∈ kTB := kTB_of (List.mem_append_right _ (List.mem_of_getElem? (i := 320) (by decide +kernel))) rfl
theorem kw_321 : Cond.methodLinkNest "DiceAudit$Text" (19 : Nat) yX10_put "DiceAudit" ∈ kTN := kTN_of (List.mem_append_right _ (List.mem_of_getElem? (i := 321) (by decide +kernel))) rfl
theorem kw_322 : Cond.static yX10_put ∈ kTB := kTB_of (List.mem_append_right _ (List.mem_of_getElem? (i := 322) (by decide +kernel))) rfl
theorem kw_323 : Cond.code yX10_put prog_1_method_77_code (3 : Nat) (Option.none : Option Jvm.ClassFile.FieldType) ∈ kTB := kTB_of (List.mem_append_right _ (List.mem_of_getElem? (i := 323) (by decide +kernel))) rfl
theorem kw_324 : Cond.methodLink "DiceAudit" (56 : Nat) yX5_parse ∈ kTB := kTB_of (List.mem_append_right _ (List.mem_of_getElem? (i := 324) (by decide +kernel))) rfl
theorem kw_325 : Cond.instanceMethod yX5_parse ∈ kTB := kTB_of (List.mem_append_right _ (List.mem_of_getElem? (i := 325) (by decide +kernel))) rfl
theorem kw_326 : Cond.selects "DiceAudit$Loader" yX5_parse yX5_parse ∈ kTB := kTB_of (List.mem_append_right _ (List.mem_of_getElem? (i := 326) (by decide +kernel))) rfl
theorem kw_327 : Cond.code yX5_parse prog_7_method_2_code (2 : Nat) (Option.some Jvm.ClassFile.FieldType.boolean) ∈ kTB := kTB_of (List.mem_append_right _ (List.mem_of_getElem? (i := 327) (by decide +kernel))) rfl
theorem kw_328 : Cond.methodLink "DiceAudit$Loader" (38 : Nat) yX9_rewind ∈ kTB := kTB_of (List.mem_append_right _ (List.mem_of_getElem? (i := 328) (by decide +kernel))) rfl
theorem kw_329 : Cond.instanceMethod yX9_rewind ∈ kTB := kTB_of (List.mem_append_right _ (List.mem_of_getElem? (i := 329) (by decide +kernel))) rfl
theorem kw_330 : Cond.selects "DiceAudit$Tokens" yX9_rewind yX9_rewind ∈ kTB := kTB_of (List.mem_append_right _ (List.mem_of_getElem? (i := 330) (by decide +kernel))) rfl
theorem kw_331 : Cond.code yX9_rewind prog_11_method_2_code (1 : Nat) (Option.none : Option Jvm.ClassFile.FieldType) ∈ kTB := kTB_of (List.mem_append_right _ (List.mem_of_getElem? (i := 331) (by decide +kernel))) rfl
theorem kw_332 : Cond.methodLink "DiceAudit$Tokens" (26 : Nat) yX9_advance ∈ kTB := kTB_of (List.mem_append_right _ (List.mem_of_getElem? (i := 332) (by decide +kernel))) rfl
theorem kw_333 : Cond.instanceMethod yX9_advance ∈ kTB := kTB_of (List.mem_append_right _ (List.mem_of_getElem? (i := 333) (by decide +kernel))) rfl
theorem kw_334 : Cond.selects "DiceAudit$Tokens" yX9_advance yX9_advance ∈ kTB := kTB_of (List.mem_append_right _ (List.mem_of_getElem? (i := 334) (by decide +kernel))) rfl
theorem kw_335 : Cond.code yX9_advance prog_11_method_3_code (2 : Nat) (Option.none : Option Jvm.ClassFile.FieldType) ∈ kTB := kTB_of (List.mem_append_right _ (List.mem_of_getElem? (i := 335) (by decide +kernel))) rfl
theorem kw_336 : Cond.methodLink "DiceAudit$Tokens" (34 : Nat) yX8_byteIn ∈ kTB := kTB_of (List.mem_append_right _ (List.mem_of_getElem? (i := 336) (by decide +kernel))) rfl
theorem kw_337 : Cond.instanceMethod yX8_byteIn ∈ kTB := kTB_of (List.mem_append_right _ (List.mem_of_getElem? (i := 337) (by decide +kernel))) rfl
theorem kw_338 : Cond.selects "DiceAudit$Text" yX8_byteIn yX8_byteIn ∈ kTB := kTB_of (List.mem_append_right _ (List.mem_of_getElem? (i := 338) (by decide +kernel))) rfl
theorem kw_339 : Cond.code yX8_byteIn prog_10_method_2_code (2 : Nat) (Option.some Jvm.ClassFile.FieldType.int) ∈ kTB := kTB_of (List.mem_append_right _ (List.mem_of_getElem? (i := 339) (by decide +kernel))) rfl
theorem kw_340 : Cond.methodLink "DiceAudit$Tokens" (38 : Nat) yX9_isBlank ∈ kTB := kTB_of (List.mem_append_right _ (List.mem_of_getElem? (i := 340) (by decide +kernel))) rfl
theorem kw_341 : Cond.static yX9_isBlank ∈ kTB := kTB_of (List.mem_append_right _ (List.mem_of_getElem? (i := 341) (by decide +kernel))) rfl
theorem kw_342 : Cond.code yX9_isBlank prog_11_method_8_code (1 : Nat) (Option.some Jvm.ClassFile.FieldType.boolean) ∈ kTB := kTB_of (List.mem_append_right _ (List.mem_of_getElem? (i := 342) (by decide +kernel))) rfl
theorem kw_343 : Cond.methodLink "DiceAudit$Tokens" (42 : Nat) yX9_isLetter ∈ kTB := kTB_of (List.mem_append_right _ (List.mem_of_getElem? (i := 343) (by decide +kernel))) rfl
theorem kw_344 : Cond.static yX9_isLetter ∈ kTB := kTB_of (List.mem_append_right _ (List.mem_of_getElem? (i := 344) (by decide +kernel))) rfl
theorem kw_345 : Cond.code yX9_isLetter prog_11_method_9_code (1 : Nat) (Option.some Jvm.ClassFile.FieldType.boolean) ∈ kTB := kTB_of (List.mem_append_right _ (List.mem_of_getElem? (i := 345) (by decide +kernel))) rfl
theorem kw_346 : Cond.methodLink "DiceAudit$Tokens" (45 : Nat) yX9_passLetters ∈ kTB := kTB_of (List.mem_append_right _ (List.mem_of_getElem? (i := 346) (by decide +kernel))) rfl
theorem kw_348 : Cond.instanceMethod yX9_passLetters ∈ kTB := kTB_of (List.mem_append_right _ (List.mem_of_getElem? (i := 348) (by decide +kernel))) rfl
theorem kw_349 : Cond.code yX9_passLetters prog_11_method_4_code (1 : Nat) (Option.none : Option Jvm.ClassFile.FieldType) ∈ kTB := kTB_of (List.mem_append_right _ (List.mem_of_getElem? (i := 349) (by decide +kernel))) rfl
theorem kw_350 : Cond.methodLink "DiceAudit$Tokens" (48 : Nat) yX9_isDigit ∈ kTB := kTB_of (List.mem_append_right _ (List.mem_of_getElem? (i := 350) (by decide +kernel))) rfl
theorem kw_351 : Cond.static yX9_isDigit ∈ kTB := kTB_of (List.mem_append_right _ (List.mem_of_getElem? (i := 351) (by decide +kernel))) rfl
theorem kw_352 : Cond.code yX9_isDigit prog_11_method_10_code (1 : Nat) (Option.some Jvm.ClassFile.FieldType.boolean) ∈ kTB := kTB_of (List.mem_append_right _ (List.mem_of_getElem? (i := 352) (by decide +kernel))) rfl
theorem kw_353 : Cond.methodLink "DiceAudit$Tokens" (51 : Nat) yX9_passDigits ∈ kTB := kTB_of (List.mem_append_right _ (List.mem_of_getElem? (i := 353) (by decide +kernel))) rfl
theorem kw_355 : Cond.instanceMethod yX9_passDigits ∈ kTB := kTB_of (List.mem_append_right _ (List.mem_of_getElem? (i := 355) (by decide +kernel))) rfl
theorem kw_356 : Cond.code yX9_passDigits prog_11_method_5_code (1 : Nat) (Option.none : Option Jvm.ClassFile.FieldType) ∈ kTB := kTB_of (List.mem_append_right _ (List.mem_of_getElem? (i := 356) (by decide +kernel))) rfl
theorem kw_357 : Cond.constant "DiceAudit$Tokens" (54 : Nat) (1000000 : Int32) ∈ kTB := kTB_of (List.mem_append_right _ (List.mem_of_getElem? (i := 357) (by decide +kernel))) rfl
theorem kw_358 : Cond.methodLink "DiceAudit$Tokens" (55 : Nat) yJ9_min_7cf53 ∈ kTB := kTB_of (List.mem_append_right _ (List.mem_of_getElem? (i := 358) (by decide +kernel))) rfl
theorem kw_359 : Cond.static yJ9_min_7cf53 ∈ kTB := kTB_of (List.mem_append_right _ (List.mem_of_getElem? (i := 359) (by decide +kernel))) rfl
theorem kw_360 : Cond.code yJ9_min_7cf53 prog_21_method_69_code (2 : Nat) (Option.some Jvm.ClassFile.FieldType.int) ∈ kTB := kTB_of (List.mem_append_right _ (List.mem_of_getElem? (i := 360) (by decide +kernel))) rfl
theorem kw_361 : Cond.methodLink "DiceAudit$Loader" (41 : Nat) yX5_readHall ∈ kTB := kTB_of (List.mem_append_right _ (List.mem_of_getElem? (i := 361) (by decide +kernel))) rfl
theorem kw_363 : Cond.instanceMethod yX5_readHall ∈ kTB := kTB_of (List.mem_append_right _ (List.mem_of_getElem? (i := 363) (by decide +kernel))) rfl
theorem kw_364 : Cond.code yX5_readHall prog_7_method_4_code (4 : Nat) (Option.none : Option Jvm.ClassFile.FieldType) ∈ kTB := kTB_of (List.mem_append_right _ (List.mem_of_getElem? (i := 364) (by decide +kernel))) rfl
theorem kw_366 : Cond.methodLink "DiceAudit$Loader" (56 : Nat) yX9_isWord ∈ kTB := kTB_of (List.mem_append_right _ (List.mem_of_getElem? (i := 366) (by decide +kernel))) rfl
theorem kw_367 : Cond.instanceMethod yX9_isWord ∈ kTB := kTB_of (List.mem_append_right _ (List.mem_of_getElem? (i := 367) (by decide +kernel))) rfl
theorem kw_368 : Cond.selects "DiceAudit$Tokens" yX9_isWord yX9_isWord ∈ kTB := kTB_of (List.mem_append_right _ (List.mem_of_getElem? (i := 368) (by decide +kernel))) rfl
theorem kw_369 : Cond.code yX9_isWord prog_11_method_6_code (3 : Nat) (Option.some Jvm.ClassFile.FieldType.boolean) ∈ kTB := kTB_of (List.mem_append_right _ (List.mem_of_getElem? (i := 369) (by decide +kernel))) rfl
theorem kw_370 : Cond.methodLink "DiceAudit$Tokens" (61 : Nat) yJ0_length_8abf5 ∈ kTB := kTB_of (List.mem_append_right _ (List.mem_of_getElem? (i := 370) (by decide +kernel))) rfl
theorem kw_371 : Cond.methodLink "DiceAudit$Tokens" (66 : Nat) yJ0_charAt_5068e ∈ kTB := kTB_of (List.mem_append_right _ (List.mem_of_getElem? (i := 371) (by decide +kernel))) rfl
theorem kw_372 : Cond.methodLink "DiceAudit$Loader" (60 : Nat) yX5_takeKeyword ∈ kTB := kTB_of (List.mem_append_right _ (List.mem_of_getElem? (i := 372) (by decide +kernel))) rfl
theorem kw_374 : Cond.instanceMethod yX5_takeKeyword ∈ kTB := kTB_of (List.mem_append_right _ (List.mem_of_getElem? (i := 374) (by decide +kernel))) rfl
theorem kw_375 : Cond.code yX5_takeKeyword prog_7_method_14_code (2 : Nat) (Option.none : Option Jvm.ClassFile.FieldType) ∈ kTB := kTB_of (List.mem_append_right _ (List.mem_of_getElem? (i := 375) (by decide +kernel))) rfl
theorem kw_376 : Cond.methodLink "DiceAudit$Loader" (106 : Nat) yX5_fail ∈ kTB := kTB_of (List.mem_append_right _ (List.mem_of_getElem? (i := 376) (by decide +kernel))) rfl
theorem kw_378 : Cond.instanceMethod yX5_fail ∈ kTB := kTB_of (List.mem_append_right _ (List.mem_of_getElem? (i := 378) (by decide +kernel))) rfl
theorem kw_379 : Cond.code yX5_fail prog_7_method_18_code (2 : Nat) (Option.none : Option Jvm.ClassFile.FieldType) ∈ kTB := kTB_of (List.mem_append_right _ (List.mem_of_getElem? (i := 379) (by decide +kernel))) rfl
theorem kw_380 : Cond.methodLink "DiceAudit$Loader" (154 : Nat) yX9_advance ∈ kTB := kTB_of (List.mem_append_right _ (List.mem_of_getElem? (i := 380) (by decide +kernel))) rfl
theorem kw_381 : Cond.constant "DiceAudit$Loader" (64 : Nat) (65536 : Int32) ∈ kTB := kTB_of (List.mem_append_right _ (List.mem_of_getElem? (i := 381) (by decide +kernel))) rfl
theorem kw_382 : Cond.methodLink "DiceAudit$Loader" (65 : Nat) yX5_takeNumber ∈ kTB := kTB_of (List.mem_append_right _ (List.mem_of_getElem? (i := 382) (by decide +kernel))) rfl
theorem kw_384 : Cond.instanceMethod yX5_takeNumber ∈ kTB := kTB_of (List.mem_append_right _ (List.mem_of_getElem? (i := 384) (by decide +kernel))) rfl
theorem kw_385 : Cond.code yX5_takeNumber prog_7_method_16_code (4 : Nat) (Option.some Jvm.ClassFile.FieldType.int) ∈ kTB := kTB_of (List.mem_append_right _ (List.mem_of_getElem? (i := 385) (by decide +kernel))) rfl
theorem kw_386 : Cond.methodLink "DiceAudit$Loader" (121 : Nat) yX5_isNumberIn ∈ kTB := kTB_of (List.mem_append_right _ (List.mem_of_getElem? (i := 386) (by decide +kernel))) rfl
theorem kw_388 : Cond.instanceMethod yX5_isNumberIn ∈ kTB := kTB_of (List.mem_append_right _ (List.mem_of_getElem? (i := 388) (by decide +kernel))) rfl
theorem kw_389 : Cond.code yX5_isNumberIn prog_7_method_15_code (3 : Nat) (Option.some Jvm.ClassFile.FieldType.boolean) ∈ kTB := kTB_of (List.mem_append_right _ (List.mem_of_getElem? (i := 389) (by decide +kernel))) rfl
theorem kw_390 : Cond.methodLink "DiceAudit$Loader" (69 : Nat) yX5_takeSemicolon ∈ kTB := kTB_of (List.mem_append_right _ (List.mem_of_getElem? (i := 390) (by decide +kernel))) rfl
theorem kw_392 : Cond.instanceMethod yX5_takeSemicolon ∈ kTB := kTB_of (List.mem_append_right _ (List.mem_of_getElem? (i := 392) (by decide +kernel))) rfl
theorem kw_393 : Cond.code yX5_takeSemicolon prog_7_method_17_code (2 : Nat) (Option.none : Option Jvm.ClassFile.FieldType) ∈ kTB := kTB_of (List.mem_append_right _ (List.mem_of_getElem? (i := 393) (by decide +kernel))) rfl
theorem kw_394 : Cond.methodLink "DiceAudit$Loader" (118 : Nat) yX9_isSemicolon ∈ kTB := kTB_of (List.mem_append_right _ (List.mem_of_getElem? (i := 394) (by decide +kernel))) rfl
theorem kw_395 : Cond.instanceMethod yX9_isSemicolon ∈ kTB := kTB_of (List.mem_append_right _ (List.mem_of_getElem? (i := 395) (by decide +kernel))) rfl
theorem kw_396 : Cond.selects "DiceAudit$Tokens" yX9_isSemicolon yX9_isSemicolon ∈ kTB := kTB_of (List.mem_append_right _ (List.mem_of_getElem? (i := 396) (by decide +kernel))) rfl
theorem kw_397 : Cond.code yX9_isSemicolon prog_11_method_7_code (1 : Nat) (Option.some Jvm.ClassFile.FieldType.boolean) ∈ kTB := kTB_of (List.mem_append_right _ (List.mem_of_getElem? (i := 397) (by decide +kernel))) rfl
theorem kw_398 : Cond.methodLink "DiceAudit$Loader" (72 : Nat) yX2_begin ∈ kTB := kTB_of (List.mem_append_right _ (List.mem_of_getElem? (i := 398) (by decide +kernel))) rfl
theorem kw_399 : Cond.instanceMethod yX2_begin ∈ kTB := kTB_of (List.mem_append_right _ (List.mem_of_getElem? (i := 399) (by decide +kernel))) rfl
theorem kw_400 : Cond.selects "DiceAudit$Hall" yX2_begin yX2_begin ∈ kTB := kTB_of (List.mem_append_right _ (List.mem_of_getElem? (i := 400) (by decide +kernel))) rfl
theorem kw_401 : Cond.code yX2_begin prog_4_method_2_code (4 : Nat) (Option.none : Option Jvm.ClassFile.FieldType) ∈ kTB := kTB_of (List.mem_append_right _ (List.mem_of_getElem? (i := 401) (by decide +kernel))) rfl
theorem kw_402 : Cond.methodLink "DiceAudit$Hall" (49 : Nat) yX0_clear ∈ kTB := kTB_of (List.mem_append_right _ (List.mem_of_getElem? (i := 402) (by decide +kernel))) rfl
theorem kw_403 : Cond.instanceMethod yX0_clear ∈ kTB := kTB_of (List.mem_append_right _ (List.mem_of_getElem? (i := 403) (by decide +kernel))) rfl
theorem kw_404 : Cond.selects "DiceAudit$Dice" yX0_clear yX0_clear ∈ kTB := kTB_of (List.mem_append_right _ (List.mem_of_getElem? (i := 404) (by decide +kernel))) rfl
theorem kw_405 : Cond.code yX0_clear prog_2_method_2_code (1 : Nat) (Option.none : Option Jvm.ClassFile.FieldType) ∈ kTB := kTB_of (List.mem_append_right _ (List.mem_of_getElem? (i := 405) (by decide +kernel))) rfl
theorem kw_406 : Cond.methodLink "DiceAudit$Hall" (52 : Nat) yX7_clear ∈ kTB := kTB_of (List.mem_append_right _ (List.mem_of_getElem? (i := 406) (by decide +kernel))) rfl
theorem kw_407 : Cond.instanceMethod yX7_clear ∈ kTB := kTB_of (List.mem_append_right _ (List.mem_of_getElem? (i := 407) (by decide +kernel))) rfl
theorem kw_408 : Cond.selects "DiceAudit$Players" yX7_clear yX7_clear ∈ kTB := kTB_of (List.mem_append_right _ (List.mem_of_getElem? (i := 408) (by decide +kernel))) rfl
theorem kw_409 : Cond.code yX7_clear prog_9_method_2_code (1 : Nat) (Option.none : Option Jvm.ClassFile.FieldType) ∈ kTB := kTB_of (List.mem_append_right _ (List.mem_of_getElem? (i := 409) (by decide +kernel))) rfl
theorem kw_410 : Cond.methodLink "DiceAudit$Hall" (53 : Nat) yX4_clear ∈ kTB := kTB_of (List.mem_append_right _ (List.mem_of_getElem? (i := 410) (by decide +kernel))) rfl
theorem kw_411 : Cond.instanceMethod yX4_clear ∈ kTB := kTB_of (List.mem_append_right _ (List.mem_of_getElem? (i := 411) (by decide +kernel))) rfl
theorem kw_412 : Cond.selects "DiceAudit$Ledger" yX4_clear yX4_clear ∈ kTB := kTB_of (List.mem_append_right _ (List.mem_of_getElem? (i := 412) (by decide +kernel))) rfl
theorem kw_413 : Cond.code yX4_clear prog_6_method_2_code (1 : Nat) (Option.none : Option Jvm.ClassFile.FieldType) ∈ kTB := kTB_of (List.mem_append_right _ (List.mem_of_getElem? (i := 413) (by decide +kernel))) rfl
theorem kw_414 : Cond.methodLink "DiceAudit$Ledger" (22 : Nat) yJ7_fill_53178 ∈ kTB := kTB_of (List.mem_append_right _ (List.mem_of_getElem? (i := 414) (by decide +kernel))) rfl
theorem kw_415 : Cond.static yJ7_fill_53178 ∈ kTB := kTB_of (List.mem_append_right _ (List.mem_of_getElem? (i := 415) (by decide +kernel))) rfl
theorem kw_416 : Cond.code yJ7_fill_53178 prog_30_method_103_code (4 : Nat) (Option.none : Option Jvm.ClassFile.FieldType) ∈ kTB := kTB_of (List.mem_append_right _ (List.mem_of_getElem? (i := 416) (by decide +kernel))) rfl
theorem kw_417 : Cond.methodLink "DiceAudit$Hall" (54 : Nat) yX6_clear ∈ kTB := kTB_of (List.mem_append_right _ (List.mem_of_getElem? (i := 417) (by decide +kernel))) rfl
theorem kw_418 : Cond.instanceMethod yX6_clear ∈ kTB := kTB_of (List.mem_append_right _ (List.mem_of_getElem? (i := 418) (by decide +kernel))) rfl
theorem kw_419 : Cond.selects "DiceAudit$Offences" yX6_clear yX6_clear ∈ kTB := kTB_of (List.mem_append_right _ (List.mem_of_getElem? (i := 419) (by decide +kernel))) rfl
theorem kw_420 : Cond.code yX6_clear prog_8_method_2_code (1 : Nat) (Option.none : Option Jvm.ClassFile.FieldType) ∈ kTB := kTB_of (List.mem_append_right _ (List.mem_of_getElem? (i := 420) (by decide +kernel))) rfl
theorem kw_421 : Cond.methodLink "DiceAudit$Loader" (44 : Nat) yX5_hasMore ∈ kTB := kTB_of (List.mem_append_right _ (List.mem_of_getElem? (i := 421) (by decide +kernel))) rfl
theorem kw_423 : Cond.instanceMethod yX5_hasMore ∈ kTB := kTB_of (List.mem_append_right _ (List.mem_of_getElem? (i := 423) (by decide +kernel))) rfl
theorem kw_424 : Cond.code yX5_hasMore prog_7_method_3_code (1 : Nat) (Option.some Jvm.ClassFile.FieldType.boolean) ∈ kTB := kTB_of (List.mem_append_right _ (List.mem_of_getElem? (i := 424) (by decide +kernel))) rfl
theorem kw_425 : Cond.methodLink "DiceAudit$Loader" (48 : Nat) yX5_readStatement ∈ kTB := kTB_of (List.mem_append_right _ (List.mem_of_getElem? (i := 425) (by decide +kernel))) rfl
theorem kw_427 : Cond.instanceMethod yX5_readStatement ∈ kTB := kTB_of (List.mem_append_right _ (List.mem_of_getElem? (i := 427) (by decide +kernel))) rfl
theorem kw_428 : Cond.code yX5_readStatement prog_7_method_5_code (1 : Nat) (Option.none : Option Jvm.ClassFile.FieldType) ∈ kTB := kTB_of (List.mem_append_right _ (List.mem_of_getElem? (i := 428) (by decide +kernel))) rfl
theorem kw_430 : Cond.methodLink "DiceAudit$Loader" (78 : Nat) yX5_readDie ∈ kTB := kTB_of (List.mem_append_right _ (List.mem_of_getElem? (i := 430) (by decide +kernel))) rfl
theorem kw_432 : Cond.instanceMethod yX5_readDie ∈ kTB := kTB_of (List.mem_append_right _ (List.mem_of_getElem? (i := 432) (by decide +kernel))) rfl
theorem kw_433 : Cond.code yX5_readDie prog_7_method_6_code (5 : Nat) (Option.none : Option Jvm.ClassFile.FieldType) ∈ kTB := kTB_of (List.mem_append_right _ (List.mem_of_getElem? (i := 433) (by decide +kernel))) rfl
theorem kw_434 : Cond.methodLink "DiceAudit$Loader" (125 : Nat) yX0_putWeight ∈ kTB := kTB_of (List.mem_append_right _ (List.mem_of_getElem? (i := 434) (by decide +kernel))) rfl
theorem kw_435 : Cond.instanceMethod yX0_putWeight ∈ kTB := kTB_of (List.mem_append_right _ (List.mem_of_getElem? (i := 435) (by decide +kernel))) rfl
theorem kw_436 : Cond.selects "DiceAudit$Dice" yX0_putWeight yX0_putWeight ∈ kTB := kTB_of (List.mem_append_right _ (List.mem_of_getElem? (i := 436) (by decide +kernel))) rfl
theorem kw_437 : Cond.code yX0_putWeight prog_2_method_7_code (4 : Nat) (Option.none : Option Jvm.ClassFile.FieldType) ∈ kTB := kTB_of (List.mem_append_right _ (List.mem_of_getElem? (i := 437) (by decide +kernel))) rfl
theorem kw_438 : Cond.methodLinkNest "DiceAudit$Dice" (34 : Nat) yX10_cellOf "DiceAudit" ∈ kTN := kTN_of (List.mem_append_right _ (List.mem_of_getElem? (i := 438) (by decide +kernel))) rfl
theorem kw_439 : Cond.static yX10_cellOf ∈ kTB := kTB_of (List.mem_append_right _ (List.mem_of_getElem? (i := 439) (by decide +kernel))) rfl
theorem kw_440 : Cond.code yX10_cellOf prog_1_method_86_code (2 : Nat) (Option.some Jvm.ClassFile.FieldType.int) ∈ kTB := kTB_of (List.mem_append_right _ (List.mem_of_getElem? (i := 440) (by decide +kernel))) rfl
theorem kw_441 : Cond.methodLinkNest "DiceAudit$Dice" (26 : Nat) yX10_put "DiceAudit" ∈ kTN := kTN_of (List.mem_append_right _ (List.mem_of_getElem? (i := 441) (by decide +kernel))) rfl
theorem kw_442 : Cond.methodLink "DiceAudit$Loader" (128 : Nat) yX0_add ∈ kTB := kTB_of (List.mem_append_right _ (List.mem_of_getElem? (i := 442) (by decide +kernel))) rfl
theorem kw_443 : Cond.instanceMethod yX0_add ∈ kTB := kTB_of (List.mem_append_right _ (List.mem_of_getElem? (i := 443) (by decide +kernel))) rfl
theorem kw_444 : Cond.selects "DiceAudit$Dice" yX0_add yX0_add ∈ kTB := kTB_of (List.mem_append_right _ (List.mem_of_getElem? (i := 444) (by decide +kernel))) rfl
theorem kw_445 : Cond.code yX0_add prog_2_method_4_code (2 : Nat) (Option.none : Option Jvm.ClassFile.FieldType) ∈ kTB := kTB_of (List.mem_append_right _ (List.mem_of_getElem? (i := 445) (by decide +kernel))) rfl
theorem kw_447 : Cond.methodLink "DiceAudit$Loader" (83 : Nat) yX5_readPlayer ∈ kTB := kTB_of (List.mem_append_right _ (List.mem_of_getElem? (i := 447) (by decide +kernel))) rfl
theorem kw_449 : Cond.instanceMethod yX5_readPlayer ∈ kTB := kTB_of (List.mem_append_right _ (List.mem_of_getElem? (i := 449) (by decide +kernel))) rfl
theorem kw_450 : Cond.code yX5_readPlayer prog_7_method_7_code (3 : Nat) (Option.none : Option Jvm.ClassFile.FieldType) ∈ kTB := kTB_of (List.mem_append_right _ (List.mem_of_getElem? (i := 450) (by decide +kernel))) rfl
theorem kw_451 : Cond.methodLink "DiceAudit$Loader" (144 : Nat) yX5_takeNewName ∈ kTB := kTB_of (List.mem_append_right _ (List.mem_of_getElem? (i := 451) (by decide +kernel))) rfl
theorem kw_453 : Cond.instanceMethod yX5_takeNewName ∈ kTB := kTB_of (List.mem_append_right _ (List.mem_of_getElem? (i := 453) (by decide +kernel))) rfl
theorem kw_454 : Cond.code yX5_takeNewName prog_7_method_8_code (1 : Nat) (Option.none : Option Jvm.ClassFile.FieldType) ∈ kTB := kTB_of (List.mem_append_right _ (List.mem_of_getElem? (i := 454) (by decide +kernel))) rfl
theorem kw_455 : Cond.methodLink "DiceAudit$Loader" (150 : Nat) yX7_find ∈ kTB := kTB_of (List.mem_append_right _ (List.mem_of_getElem? (i := 455) (by decide +kernel))) rfl
theorem kw_456 : Cond.instanceMethod yX7_find ∈ kTB := kTB_of (List.mem_append_right _ (List.mem_of_getElem? (i := 456) (by decide +kernel))) rfl
theorem kw_457 : Cond.selects "DiceAudit$Players" yX7_find yX7_find ∈ kTB := kTB_of (List.mem_append_right _ (List.mem_of_getElem? (i := 457) (by decide +kernel))) rfl
theorem kw_458 : Cond.code yX7_find prog_9_method_7_code (5 : Nat) (Option.some Jvm.ClassFile.FieldType.int) ∈ kTB := kTB_of (List.mem_append_right _ (List.mem_of_getElem? (i := 458) (by decide +kernel))) rfl
theorem kw_459 : Cond.methodLink "DiceAudit$Players" (40 : Nat) yX7_isNamed ∈ kTB := kTB_of (List.mem_append_right _ (List.mem_of_getElem? (i := 459) (by decide +kernel))) rfl
theorem kw_461 : Cond.instanceMethod yX7_isNamed ∈ kTB := kTB_of (List.mem_append_right _ (List.mem_of_getElem? (i := 461) (by decide +kernel))) rfl
theorem kw_462 : Cond.code yX7_isNamed prog_9_method_8_code (7 : Nat) (Option.some Jvm.ClassFile.FieldType.boolean) ∈ kTB := kTB_of (List.mem_append_right _ (List.mem_of_getElem? (i := 462) (by decide +kernel))) rfl
theorem kw_463 : Cond.methodLinkNest "DiceAudit$Players" (36 : Nat) yX10_at "DiceAudit" ∈ kTN := kTN_of (List.mem_append_right _ (List.mem_of_getElem? (i := 463) (by decide +kernel))) rfl
theorem kw_464 : Cond.static yX10_at ∈ kTB := kTB_of (List.mem_append_right _ (List.mem_of_getElem? (i := 464) (by decide +kernel))) rfl
theorem kw_465 : Cond.code yX10_at prog_1_method_76_code (2 : Nat) (Option.some Jvm.ClassFile.FieldType.int) ∈ kTB := kTB_of (List.mem_append_right _ (List.mem_of_getElem? (i := 465) (by decide +kernel))) rfl
theorem kw_466 : Cond.methodLink "DiceAudit$Players" (26 : Nat) yX8_byteIn ∈ kTB := kTB_of (List.mem_append_right _ (List.mem_of_getElem? (i := 466) (by decide +kernel))) rfl
theorem kw_467 : Cond.methodLink "DiceAudit$Loader" (147 : Nat) yX7_add ∈ kTB := kTB_of (List.mem_append_right _ (List.mem_of_getElem? (i := 467) (by decide +kernel))) rfl
theorem kw_468 : Cond.instanceMethod yX7_add ∈ kTB := kTB_of (List.mem_append_right _ (List.mem_of_getElem? (i := 468) (by decide +kernel))) rfl
theorem kw_469 : Cond.selects "DiceAudit$Players" yX7_add yX7_add ∈ kTB := kTB_of (List.mem_append_right _ (List.mem_of_getElem? (i := 469) (by decide +kernel))) rfl
theorem kw_470 : Cond.code yX7_add prog_9_method_4_code (5 : Nat) (Option.none : Option Jvm.ClassFile.FieldType) ∈ kTB := kTB_of (List.mem_append_right _ (List.mem_of_getElem? (i := 470) (by decide +kernel))) rfl
theorem kw_471 : Cond.methodLinkNest "DiceAudit$Players" (32 : Nat) yX10_put "DiceAudit" ∈ kTN := kTN_of (List.mem_append_right _ (List.mem_of_getElem? (i := 471) (by decide +kernel))) rfl
theorem kw_473 : Cond.methodLink "DiceAudit$Loader" (88 : Nat) yX5_readThrow ∈ kTB := kTB_of (List.mem_append_right _ (List.mem_of_getElem? (i := 473) (by decide +kernel))) rfl
theorem kw_475 : Cond.instanceMethod yX5_readThrow ∈ kTB := kTB_of (List.mem_append_right _ (List.mem_of_getElem? (i := 475) (by decide +kernel))) rfl
theorem kw_476 : Cond.code yX5_readThrow prog_7_method_9_code (4 : Nat) (Option.none : Option Jvm.ClassFile.FieldType) ∈ kTB := kTB_of (List.mem_append_right _ (List.mem_of_getElem? (i := 476) (by decide +kernel))) rfl
theorem kw_477 : Cond.methodLink "DiceAudit$Loader" (157 : Nat) yX5_takeKnownName ∈ kTB := kTB_of (List.mem_append_right _ (List.mem_of_getElem? (i := 477) (by decide +kernel))) rfl
theorem kw_479 : Cond.instanceMethod yX5_takeKnownName ∈ kTB := kTB_of (List.mem_append_right _ (List.mem_of_getElem? (i := 479) (by decide +kernel))) rfl
theorem kw_480 : Cond.code yX5_takeKnownName prog_7_method_13_code (2 : Nat) (Option.some Jvm.ClassFile.FieldType.int) ∈ kTB := kTB_of (List.mem_append_right _ (List.mem_of_getElem? (i := 480) (by decide +kernel))) rfl
theorem kw_481 : Cond.methodLinkNest "DiceAudit$Loader" (168 : Nat) yX10_pairOf "DiceAudit" ∈ kTN := kTN_of (List.mem_append_right _ (List.mem_of_getElem? (i := 481) (by decide +kernel))) rfl
theorem kw_482 : Cond.static yX10_pairOf ∈ kTB := kTB_of (List.mem_append_right _ (List.mem_of_getElem? (i := 482) (by decide +kernel))) rfl
theorem kw_483 : Cond.code yX10_pairOf prog_1_method_83_code (2 : Nat) (Option.some Jvm.ClassFile.FieldType.int) ∈ kTB := kTB_of (List.mem_append_right _ (List.mem_of_getElem? (i := 483) (by decide +kernel))) rfl
theorem kw_484 : Cond.methodLink "DiceAudit$Loader" (171 : Nat) yX2_makeThrows ∈ kTB := kTB_of (List.mem_append_right _ (List.mem_of_getElem? (i := 484) (by decide +kernel))) rfl
theorem kw_485 : Cond.instanceMethod yX2_makeThrows ∈ kTB := kTB_of (List.mem_append_right _ (List.mem_of_getElem? (i := 485) (by decide +kernel))) rfl
theorem kw_486 : Cond.selects "DiceAudit$Hall" yX2_makeThrows yX2_makeThrows ∈ kTB := kTB_of (List.mem_append_right _ (List.mem_of_getElem? (i := 486) (by decide +kernel))) rfl
theorem kw_487 : Cond.code yX2_makeThrows prog_4_method_4_code (8 : Nat) (Option.some Jvm.ClassFile.FieldType.int) ∈ kTB := kTB_of (List.mem_append_right _ (List.mem_of_getElem? (i := 487) (by decide +kernel))) rfl
theorem kw_488 : Cond.methodLinkNest "DiceAudit$Hall" (68 : Nat) yX10_dieOf "DiceAudit" ∈ kTN := kTN_of (List.mem_append_right _ (List.mem_of_getElem? (i := 488) (by decide +kernel))) rfl
theorem kw_489 : Cond.static yX10_dieOf ∈ kTB := kTB_of (List.mem_append_right _ (List.mem_of_getElem? (i := 489) (by decide +kernel))) rfl
theorem kw_490 : Cond.code yX10_dieOf prog_1_method_85_code (1 : Nat) (Option.some Jvm.ClassFile.FieldType.int) ∈ kTB := kTB_of (List.mem_append_right _ (List.mem_of_getElem? (i := 490) (by decide +kernel))) rfl
theorem kw_491 : Cond.methodLinkNest "DiceAudit$Hall" (72 : Nat) yX10_nextSeed "DiceAudit" ∈ kTN := kTN_of (List.mem_append_right _ (List.mem_of_getElem? (i := 491) (by decide +kernel))) rfl
theorem kw_492 : Cond.static yX10_nextSeed ∈ kTB := kTB_of (List.mem_append_right _ (List.mem_of_getElem? (i := 492) (by decide +kernel))) rfl
theorem kw_493 : Cond.code yX10_nextSeed prog_1_method_82_code (1 : Nat) (Option.some Jvm.ClassFile.FieldType.int) ∈ kTB := kTB_of (List.mem_append_right _ (List.mem_of_getElem? (i := 493) (by decide +kernel))) rfl
theorem kw_494 : Cond.constant "DiceAudit" (392 : Nat) (65537 : Int32) ∈ kTB := kTB_of (List.mem_append_right _ (List.mem_of_getElem? (i := 494) (by decide +kernel))) rfl
theorem kw_495 : Cond.methodLink "DiceAudit$Hall" (75 : Nat) yX0_fairFaceShown ∈ kTB := kTB_of (List.mem_append_right _ (List.mem_of_getElem? (i := 495) (by decide +kernel))) rfl
theorem kw_496 : Cond.instanceMethod yX0_fairFaceShown ∈ kTB := kTB_of (List.mem_append_right _ (List.mem_of_getElem? (i := 496) (by decide +kernel))) rfl
theorem kw_497 : Cond.selects "DiceAudit$Dice" yX0_fairFaceShown yX0_fairFaceShown ∈ kTB := kTB_of (List.mem_append_right _ (List.mem_of_getElem? (i := 497) (by decide +kernel))) rfl
theorem kw_498 : Cond.code yX0_fairFaceShown prog_2_method_11_code (4 : Nat) (Option.some Jvm.ClassFile.FieldType.int) ∈ kTB := kTB_of (List.mem_append_right _ (List.mem_of_getElem? (i := 498) (by decide +kernel))) rfl
theorem kw_499 : Cond.methodLinkNest "DiceAudit$Dice" (30 : Nat) yX10_at "DiceAudit" ∈ kTN := kTN_of (List.mem_append_right _ (List.mem_of_getElem? (i := 499) (by decide +kernel))) rfl
theorem kw_500 : Cond.methodLink "DiceAudit$Hall" (79 : Nat) yX0_faceShown ∈ kTB := kTB_of (List.mem_append_right _ (List.mem_of_getElem? (i := 500) (by decide +kernel))) rfl
theorem kw_501 : Cond.instanceMethod yX0_faceShown ∈ kTB := kTB_of (List.mem_append_right _ (List.mem_of_getElem? (i := 501) (by decide +kernel))) rfl
theorem kw_502 : Cond.selects "DiceAudit$Dice" yX0_faceShown yX0_faceShown ∈ kTB := kTB_of (List.mem_append_right _ (List.mem_of_getElem? (i := 502) (by decide +kernel))) rfl
theorem kw_503 : Cond.code yX0_faceShown prog_2_method_10_code (8 : Nat) (Option.some Jvm.ClassFile.FieldType.int) ∈ kTB := kTB_of (List.mem_append_right _ (List.mem_of_getElem? (i := 503) (by decide +kernel))) rfl
theorem kw_504 : Cond.methodLinkNest "DiceAudit$Dice" (42 : Nat) yX10_sumOf "DiceAudit" ∈ kTN := kTN_of (List.mem_append_right _ (List.mem_of_getElem? (i := 504) (by decide +kernel))) rfl
theorem kw_505 : Cond.static yX10_sumOf ∈ kTB := kTB_of (List.mem_append_right _ (List.mem_of_getElem? (i := 505) (by decide +kernel))) rfl
theorem kw_506 : Cond.code yX10_sumOf prog_1_method_79_code (6 : Nat) (Option.some Jvm.ClassFile.FieldType.int) ∈ kTB := kTB_of (List.mem_append_right _ (List.mem_of_getElem? (i := 506) (by decide +kernel))) rfl
theorem kw_507 : Cond.methodLink "DiceAudit$Hall" (82 : Nat) yX4_add ∈ kTB := kTB_of (List.mem_append_right _ (List.mem_of_getElem? (i := 507) (by decide +kernel))) rfl
theorem kw_508 : Cond.instanceMethod yX4_add ∈ kTB := kTB_of (List.mem_append_right _ (List.mem_of_getElem? (i := 508) (by decide +kernel))) rfl
theorem kw_509 : Cond.selects "DiceAudit$Ledger" yX4_add yX4_add ∈ kTB := kTB_of (List.mem_append_right _ (List.mem_of_getElem? (i := 509) (by decide +kernel))) rfl
theorem kw_510 : Cond.code yX4_add prog_6_method_4_code (5 : Nat) (Option.none : Option Jvm.ClassFile.FieldType) ∈ kTB := kTB_of (List.mem_append_right _ (List.mem_of_getElem? (i := 510) (by decide +kernel))) rfl
theorem kw_511 : Cond.methodLinkNest "DiceAudit$Ledger" (32 : Nat) yX10_put "DiceAudit" ∈ kTN := kTN_of (List.mem_append_right _ (List.mem_of_getElem? (i := 511) (by decide +kernel))) rfl
theorem kw_512 : Cond.methodLinkNest "DiceAudit$Ledger" (36 : Nat) yX10_cellOf "DiceAudit" ∈ kTN := kTN_of (List.mem_append_right _ (List.mem_of_getElem? (i := 512) (by decide +kernel))) rfl
theorem kw_513 : Cond.methodLinkNest "DiceAudit$Ledger" (40 : Nat) yX10_at "DiceAudit" ∈ kTN := kTN_of (List.mem_append_right _ (List.mem_of_getElem? (i := 513) (by decide +kernel))) rfl
theorem kw_515 : Cond.methodLink "DiceAudit$Loader" (93 : Nat) yX5_readAudit ∈ kTB := kTB_of (List.mem_append_right _ (List.mem_of_getElem? (i := 515) (by decide +kernel))) rfl
theorem kw_517 : Cond.instanceMethod yX5_readAudit ∈ kTB := kTB_of (List.mem_append_right _ (List.mem_of_getElem? (i := 517) (by decide +kernel))) rfl
theorem kw_518 : Cond.code yX5_readAudit prog_7_method_10_code (1 : Nat) (Option.none : Option Jvm.ClassFile.FieldType) ∈ kTB := kTB_of (List.mem_append_right _ (List.mem_of_getElem? (i := 518) (by decide +kernel))) rfl
theorem kw_519 : Cond.methodLink "DiceAudit$Loader" (175 : Nat) yX2_holdAudit ∈ kTB := kTB_of (List.mem_append_right _ (List.mem_of_getElem? (i := 519) (by decide +kernel))) rfl
theorem kw_520 : Cond.instanceMethod yX2_holdAudit ∈ kTB := kTB_of (List.mem_append_right _ (List.mem_of_getElem? (i := 520) (by decide +kernel))) rfl
theorem kw_521 : Cond.selects "DiceAudit$Hall" yX2_holdAudit yX2_holdAudit ∈ kTB := kTB_of (List.mem_append_right _ (List.mem_of_getElem? (i := 521) (by decide +kernel))) rfl
theorem kw_522 : Cond.code yX2_holdAudit prog_4_method_10_code (4 : Nat) (Option.some Jvm.ClassFile.FieldType.int) ∈ kTB := kTB_of (List.mem_append_right _ (List.mem_of_getElem? (i := 522) (by decide +kernel))) rfl
theorem kw_523 : Cond.methodLink "DiceAudit$Hall" (103 : Nat) yX2_pairScore ∈ kTB := kTB_of (List.mem_append_right _ (List.mem_of_getElem? (i := 523) (by decide +kernel))) rfl
theorem kw_524 : Cond.instanceMethod yX2_pairScore ∈ kTB := kTB_of (List.mem_append_right _ (List.mem_of_getElem? (i := 524) (by decide +kernel))) rfl
theorem kw_525 : Cond.selects "DiceAudit$Hall" yX2_pairScore yX2_pairScore ∈ kTB := kTB_of (List.mem_append_right _ (List.mem_of_getElem? (i := 525) (by decide +kernel))) rfl
theorem kw_526 : Cond.code yX2_pairScore prog_4_method_5_code (2 : Nat) (Option.some Jvm.ClassFile.FieldType.int) ∈ kTB := kTB_of (List.mem_append_right _ (List.mem_of_getElem? (i := 526) (by decide +kernel))) rfl
theorem kw_527 : Cond.methodLinkNest "DiceAudit$Hall" (90 : Nat) yX10_cellOf "DiceAudit" ∈ kTN := kTN_of (List.mem_append_right _ (List.mem_of_getElem? (i := 527) (by decide +kernel))) rfl
theorem kw_528 : Cond.methodLink "DiceAudit$Hall" (93 : Nat) yX0_faceCount ∈ kTB := kTB_of (List.mem_append_right _ (List.mem_of_getElem? (i := 528) (by decide +kernel))) rfl
theorem kw_529 : Cond.instanceMethod yX0_faceCount ∈ kTB := kTB_of (List.mem_append_right _ (List.mem_of_getElem? (i := 529) (by decide +kernel))) rfl
theorem kw_530 : Cond.selects "DiceAudit$Dice" yX0_faceCount yX0_faceCount ∈ kTB := kTB_of (List.mem_append_right _ (List.mem_of_getElem? (i := 530) (by decide +kernel))) rfl
theorem kw_531 : Cond.code yX0_faceCount prog_2_method_5_code (2 : Nat) (Option.some Jvm.ClassFile.FieldType.int) ∈ kTB := kTB_of (List.mem_append_right _ (List.mem_of_getElem? (i := 531) (by decide +kernel))) rfl
theorem kw_532 : Cond.methodLinkNest "DiceAudit$Hall" (96 : Nat) yX10_testScore "DiceAudit" ∈ kTN := kTN_of (List.mem_append_right _ (List.mem_of_getElem? (i := 532) (by decide +kernel))) rfl
theorem kw_533 : Cond.static yX10_testScore ∈ kTB := kTB_of (List.mem_append_right _ (List.mem_of_getElem? (i := 533) (by decide +kernel))) rfl
theorem kw_534 : Cond.code yX10_testScore prog_1_method_81_code (8 : Nat) (Option.some Jvm.ClassFile.FieldType.int) ∈ kTB := kTB_of (List.mem_append_right _ (List.mem_of_getElem? (i := 534) (by decide +kernel))) rfl
theorem kw_535 : Cond.methodLink "DiceAudit" (389 : Nat) yX10_sumOf ∈ kTB := kTB_of (List.mem_append_right _ (List.mem_of_getElem? (i := 535) (by decide +kernel))) rfl
theorem kw_536 : Cond.methodLink "DiceAudit" (232 : Nat) yX10_at ∈ kTB := kTB_of (List.mem_append_right _ (List.mem_of_getElem? (i := 536) (by decide +kernel))) rfl
theorem kw_537 : Cond.methodLink "DiceAudit$Hall" (100 : Nat) yX4_pairThrows ∈ kTB := kTB_of (List.mem_append_right _ (List.mem_of_getElem? (i := 537) (by decide +kernel))) rfl
theorem kw_538 : Cond.instanceMethod yX4_pairThrows ∈ kTB := kTB_of (List.mem_append_right _ (List.mem_of_getElem? (i := 538) (by decide +kernel))) rfl
theorem kw_539 : Cond.selects "DiceAudit$Ledger" yX4_pairThrows yX4_pairThrows ∈ kTB := kTB_of (List.mem_append_right _ (List.mem_of_getElem? (i := 539) (by decide +kernel))) rfl
theorem kw_540 : Cond.code yX4_pairThrows prog_6_method_9_code (2 : Nat) (Option.some Jvm.ClassFile.FieldType.int) ∈ kTB := kTB_of (List.mem_append_right _ (List.mem_of_getElem? (i := 540) (by decide +kernel))) rfl
theorem kw_541 : Cond.methodLinkNest "DiceAudit$Ledger" (65 : Nat) yX10_sumOf "DiceAudit" ∈ kTN := kTN_of (List.mem_append_right _ (List.mem_of_getElem? (i := 541) (by decide +kernel))) rfl
theorem kw_542 : Cond.methodLink "DiceAudit$Hall" (106 : Nat) yX2_exceedsLimits ∈ kTB := kTB_of (List.mem_append_right _ (List.mem_of_getElem? (i := 542) (by decide +kernel))) rfl
theorem kw_543 : Cond.instanceMethod yX2_exceedsLimits ∈ kTB := kTB_of (List.mem_append_right _ (List.mem_of_getElem? (i := 543) (by decide +kernel))) rfl
theorem kw_544 : Cond.selects "DiceAudit$Hall" yX2_exceedsLimits yX2_exceedsLimits ∈ kTB := kTB_of (List.mem_append_right _ (List.mem_of_getElem? (i := 544) (by decide +kernel))) rfl
theorem kw_545 : Cond.code yX2_exceedsLimits prog_4_method_6_code (3 : Nat) (Option.some Jvm.ClassFile.FieldType.boolean) ∈ kTB := kTB_of (List.mem_append_right _ (List.mem_of_getElem? (i := 545) (by decide +kernel))) rfl
theorem kw_546 : Cond.methodLink "DiceAudit$Hall" (117 : Nat) yX6_has ∈ kTB := kTB_of (List.mem_append_right _ (List.mem_of_getElem? (i := 546) (by decide +kernel))) rfl
theorem kw_547 : Cond.instanceMethod yX6_has ∈ kTB := kTB_of (List.mem_append_right _ (List.mem_of_getElem? (i := 547) (by decide +kernel))) rfl
theorem kw_548 : Cond.selects "DiceAudit$Offences" yX6_has yX6_has ∈ kTB := kTB_of (List.mem_append_right _ (List.mem_of_getElem? (i := 548) (by decide +kernel))) rfl
theorem kw_549 : Cond.code yX6_has prog_8_method_4_code (3 : Nat) (Option.some Jvm.ClassFile.FieldType.boolean) ∈ kTB := kTB_of (List.mem_append_right _ (List.mem_of_getElem? (i := 549) (by decide +kernel))) rfl
theorem kw_550 : Cond.methodLinkNest "DiceAudit$Offences" (26 : Nat) yX10_at "DiceAudit" ∈ kTN := kTN_of (List.mem_append_right _ (List.mem_of_getElem? (i := 550) (by decide +kernel))) rfl
theorem kw_551 : Cond.methodLink "DiceAudit$Hall" (120 : Nat) yX6_add ∈ kTB := kTB_of (List.mem_append_right _ (List.mem_of_getElem? (i := 551) (by decide +kernel))) rfl
theorem kw_552 : Cond.instanceMethod yX6_add ∈ kTB := kTB_of (List.mem_append_right _ (List.mem_of_getElem? (i := 552) (by decide +kernel))) rfl
theorem kw_553 : Cond.selects "DiceAudit$Offences" yX6_add yX6_add ∈ kTB := kTB_of (List.mem_append_right _ (List.mem_of_getElem? (i := 553) (by decide +kernel))) rfl
theorem kw_554 : Cond.code yX6_add prog_8_method_5_code (4 : Nat) (Option.none : Option Jvm.ClassFile.FieldType) ∈ kTB := kTB_of (List.mem_append_right _ (List.mem_of_getElem? (i := 554) (by decide +kernel))) rfl
theorem kw_555 : Cond.methodLink "DiceAudit$Offences" (30 : Nat) yX6_goesBefore ∈ kTB := kTB_of (List.mem_append_right _ (List.mem_of_getElem? (i := 555) (by decide +kernel))) rfl
theorem kw_557 : Cond.instanceMethod yX6_goesBefore ∈ kTB := kTB_of (List.mem_append_right _ (List.mem_of_getElem? (i := 557) (by decide +kernel))) rfl
theorem kw_558 : Cond.code yX6_goesBefore prog_8_method_6_code (5 : Nat) (Option.some Jvm.ClassFile.FieldType.boolean) ∈ kTB := kTB_of (List.mem_append_right _ (List.mem_of_getElem? (i := 558) (by decide +kernel))) rfl
theorem kw_559 : Cond.methodLink "DiceAudit$Offences" (34 : Nat) yX6_set ∈ kTB := kTB_of (List.mem_append_right _ (List.mem_of_getElem? (i := 559) (by decide +kernel))) rfl
theorem kw_561 : Cond.instanceMethod yX6_set ∈ kTB := kTB_of (List.mem_append_right _ (List.mem_of_getElem? (i := 561) (by decide +kernel))) rfl
theorem kw_562 : Cond.code yX6_set prog_8_method_7_code (4 : Nat) (Option.none : Option Jvm.ClassFile.FieldType) ∈ kTB := kTB_of (List.mem_append_right _ (List.mem_of_getElem? (i := 562) (by decide +kernel))) rfl
theorem kw_563 : Cond.methodLinkNest "DiceAudit$Offences" (38 : Nat) yX10_put "DiceAudit" ∈ kTN := kTN_of (List.mem_append_right _ (List.mem_of_getElem? (i := 563) (by decide +kernel))) rfl
theorem kw_565 : Cond.methodLink "DiceAudit$Loader" (98 : Nat) yX5_readAbsolve ∈ kTB := kTB_of (List.mem_append_right _ (List.mem_of_getElem? (i := 565) (by decide +kernel))) rfl
theorem kw_567 : Cond.instanceMethod yX5_readAbsolve ∈ kTB := kTB_of (List.mem_append_right _ (List.mem_of_getElem? (i := 567) (by decide +kernel))) rfl
theorem kw_568 : Cond.code yX5_readAbsolve prog_7_method_11_code (1 : Nat) (Option.none : Option Jvm.ClassFile.FieldType) ∈ kTB := kTB_of (List.mem_append_right _ (List.mem_of_getElem? (i := 568) (by decide +kernel))) rfl
theorem kw_569 : Cond.methodLink "DiceAudit$Loader" (185 : Nat) yX2_doPenance ∈ kTB := kTB_of (List.mem_append_right _ (List.mem_of_getElem? (i := 569) (by decide +kernel))) rfl
theorem kw_570 : Cond.instanceMethod yX2_doPenance ∈ kTB := kTB_of (List.mem_append_right _ (List.mem_of_getElem? (i := 570) (by decide +kernel))) rfl
theorem kw_571 : Cond.selects "DiceAudit$Hall" yX2_doPenance yX2_doPenance ∈ kTB := kTB_of (List.mem_append_right _ (List.mem_of_getElem? (i := 571) (by decide +kernel))) rfl
theorem kw_572 : Cond.code yX2_doPenance prog_4_method_12_code (3 : Nat) (Option.some Jvm.ClassFile.FieldType.int) ∈ kTB := kTB_of (List.mem_append_right _ (List.mem_of_getElem? (i := 572) (by decide +kernel))) rfl
theorem kw_573 : Cond.methodLink "DiceAudit$Hall" (138 : Nat) yX2_penanceSize ∈ kTB := kTB_of (List.mem_append_right _ (List.mem_of_getElem? (i := 573) (by decide +kernel))) rfl
theorem kw_574 : Cond.instanceMethod yX2_penanceSize ∈ kTB := kTB_of (List.mem_append_right _ (List.mem_of_getElem? (i := 574) (by decide +kernel))) rfl
theorem kw_575 : Cond.selects "DiceAudit$Hall" yX2_penanceSize yX2_penanceSize ∈ kTB := kTB_of (List.mem_append_right _ (List.mem_of_getElem? (i := 575) (by decide +kernel))) rfl
theorem kw_576 : Cond.code yX2_penanceSize prog_4_method_11_code (1 : Nat) (Option.some Jvm.ClassFile.FieldType.int) ∈ kTB := kTB_of (List.mem_append_right _ (List.mem_of_getElem? (i := 576) (by decide +kernel))) rfl
theorem kw_577 : Cond.methodLinkNest "DiceAudit$Hall" (126 : Nat) yX10_at "DiceAudit" ∈ kTN := kTN_of (List.mem_append_right _ (List.mem_of_getElem? (i := 577) (by decide +kernel))) rfl
theorem kw_578 : Cond.methodLink "DiceAudit$Hall" (133 : Nat) yJ9_min_7cf53 ∈ kTB := kTB_of (List.mem_append_right _ (List.mem_of_getElem? (i := 578) (by decide +kernel))) rfl
theorem kw_579 : Cond.methodLink "DiceAudit$Hall" (142 : Nat) yX6_removeFirst ∈ kTB := kTB_of (List.mem_append_right _ (List.mem_of_getElem? (i := 579) (by decide +kernel))) rfl
theorem kw_580 : Cond.instanceMethod yX6_removeFirst ∈ kTB := kTB_of (List.mem_append_right _ (List.mem_of_getElem? (i := 580) (by decide +kernel))) rfl
theorem kw_581 : Cond.selects "DiceAudit$Offences" yX6_removeFirst yX6_removeFirst ∈ kTB := kTB_of (List.mem_append_right _ (List.mem_of_getElem? (i := 581) (by decide +kernel))) rfl
theorem kw_582 : Cond.code yX6_removeFirst prog_8_method_8_code (2 : Nat) (Option.none : Option Jvm.ClassFile.FieldType) ∈ kTB := kTB_of (List.mem_append_right _ (List.mem_of_getElem? (i := 582) (by decide +kernel))) rfl
theorem kw_583 : Cond.methodLink "DiceAudit$Offences" (42 : Nat) yJ9_max_7cf53 ∈ kTB := kTB_of (List.mem_append_right _ (List.mem_of_getElem? (i := 583) (by decide +kernel))) rfl
theorem kw_584 : Cond.static yJ9_max_7cf53 ∈ kTB := kTB_of (List.mem_append_right _ (List.mem_of_getElem? (i := 584) (by decide +kernel))) rfl
theorem kw_585 : Cond.code yJ9_max_7cf53 prog_21_method_65_code (2 : Nat) (Option.some Jvm.ClassFile.FieldType.int) ∈ kTB := kTB_of (List.mem_append_right _ (List.mem_of_getElem? (i := 585) (by decide +kernel))) rfl
theorem kw_586 : Cond.methodLink "DiceAudit$Hall" (145 : Nat) yX4_removeLatest ∈ kTB := kTB_of (List.mem_append_right _ (List.mem_of_getElem? (i := 586) (by decide +kernel))) rfl
theorem kw_587 : Cond.instanceMethod yX4_removeLatest ∈ kTB := kTB_of (List.mem_append_right _ (List.mem_of_getElem? (i := 587) (by decide +kernel))) rfl
theorem kw_588 : Cond.selects "DiceAudit$Ledger" yX4_removeLatest yX4_removeLatest ∈ kTB := kTB_of (List.mem_append_right _ (List.mem_of_getElem? (i := 588) (by decide +kernel))) rfl
theorem kw_589 : Cond.code yX4_removeLatest prog_6_method_8_code (7 : Nat) (Option.none : Option Jvm.ClassFile.FieldType) ∈ kTB := kTB_of (List.mem_append_right _ (List.mem_of_getElem? (i := 589) (by decide +kernel))) rfl
theorem kw_590 : Cond.methodLink "DiceAudit$Ledger" (44 : Nat) yX4_pairThrows ∈ kTB := kTB_of (List.mem_append_right _ (List.mem_of_getElem? (i := 590) (by decide +kernel))) rfl
theorem kw_591 : Cond.methodLink "DiceAudit$Ledger" (48 : Nat) yX4_clear ∈ kTB := kTB_of (List.mem_append_right _ (List.mem_of_getElem? (i := 591) (by decide +kernel))) rfl
theorem kw_592 : Cond.methodLink "DiceAudit$Ledger" (51 : Nat) yX4_pairIn ∈ kTB := kTB_of (List.mem_append_right _ (List.mem_of_getElem? (i := 592) (by decide +kernel))) rfl
theorem kw_593 : Cond.instanceMethod yX4_pairIn ∈ kTB := kTB_of (List.mem_append_right _ (List.mem_of_getElem? (i := 593) (by decide +kernel))) rfl
theorem kw_594 : Cond.selects "DiceAudit$Ledger" yX4_pairIn yX4_pairIn ∈ kTB := kTB_of (List.mem_append_right _ (List.mem_of_getElem? (i := 594) (by decide +kernel))) rfl
theorem kw_595 : Cond.code yX4_pairIn prog_6_method_5_code (2 : Nat) (Option.some Jvm.ClassFile.FieldType.int) ∈ kTB := kTB_of (List.mem_append_right _ (List.mem_of_getElem? (i := 595) (by decide +kernel))) rfl
theorem kw_596 : Cond.methodLink "DiceAudit$Ledger" (54 : Nat) yX4_faceIn ∈ kTB := kTB_of (List.mem_append_right _ (List.mem_of_getElem? (i := 596) (by decide +kernel))) rfl
theorem kw_597 : Cond.instanceMethod yX4_faceIn ∈ kTB := kTB_of (List.mem_append_right _ (List.mem_of_getElem? (i := 597) (by decide +kernel))) rfl
theorem kw_598 : Cond.selects "DiceAudit$Ledger" yX4_faceIn yX4_faceIn ∈ kTB := kTB_of (List.mem_append_right _ (List.mem_of_getElem? (i := 598) (by decide +kernel))) rfl
theorem kw_599 : Cond.code yX4_faceIn prog_6_method_6_code (2 : Nat) (Option.some Jvm.ClassFile.FieldType.int) ∈ kTB := kTB_of (List.mem_append_right _ (List.mem_of_getElem? (i := 599) (by decide +kernel))) rfl
theorem kw_600 : Cond.methodLink "DiceAudit$Ledger" (57 : Nat) yX4_isMarked ∈ kTB := kTB_of (List.mem_append_right _ (List.mem_of_getElem? (i := 600) (by decide +kernel))) rfl
theorem kw_601 : Cond.instanceMethod yX4_isMarked ∈ kTB := kTB_of (List.mem_append_right _ (List.mem_of_getElem? (i := 601) (by decide +kernel))) rfl
theorem kw_602 : Cond.selects "DiceAudit$Ledger" yX4_isMarked yX4_isMarked ∈ kTB := kTB_of (List.mem_append_right _ (List.mem_of_getElem? (i := 602) (by decide +kernel))) rfl
theorem kw_603 : Cond.code yX4_isMarked prog_6_method_7_code (2 : Nat) (Option.some Jvm.ClassFile.FieldType.boolean) ∈ kTB := kTB_of (List.mem_append_right _ (List.mem_of_getElem? (i := 603) (by decide +kernel))) rfl
theorem kw_604 : Cond.methodLink "DiceAudit$Ledger" (61 : Nat) yX4_add ∈ kTB := kTB_of (List.mem_append_right _ (List.mem_of_getElem? (i := 604) (by decide +kernel))) rfl
theorem kw_605 : Cond.methodLink "DiceAudit$Hall" (148 : Nat) yX2_makeThrows ∈ kTB := kTB_of (List.mem_append_right _ (List.mem_of_getElem? (i := 605) (by decide +kernel))) rfl
theorem kw_607 : Cond.methodLink "DiceAudit$Loader" (103 : Nat) yX5_readForgive ∈ kTB := kTB_of (List.mem_append_right _ (List.mem_of_getElem? (i := 607) (by decide +kernel))) rfl
theorem kw_609 : Cond.instanceMethod yX5_readForgive ∈ kTB := kTB_of (List.mem_append_right _ (List.mem_of_getElem? (i := 609) (by decide +kernel))) rfl
theorem kw_610 : Cond.code yX5_readForgive prog_7_method_12_code (2 : Nat) (Option.none : Option Jvm.ClassFile.FieldType) ∈ kTB := kTB_of (List.mem_append_right _ (List.mem_of_getElem? (i := 610) (by decide +kernel))) rfl
theorem kw_611 : Cond.methodLink "DiceAudit$Loader" (188 : Nat) yX6_removeAllOf ∈ kTB := kTB_of (List.mem_append_right _ (List.mem_of_getElem? (i := 611) (by decide +kernel))) rfl
theorem kw_612 : Cond.instanceMethod yX6_removeAllOf ∈ kTB := kTB_of (List.mem_append_right _ (List.mem_of_getElem? (i := 612) (by decide +kernel))) rfl
theorem kw_613 : Cond.selects "DiceAudit$Offences" yX6_removeAllOf yX6_removeAllOf ∈ kTB := kTB_of (List.mem_append_right _ (List.mem_of_getElem? (i := 613) (by decide +kernel))) rfl
theorem kw_614 : Cond.code yX6_removeAllOf prog_8_method_9_code (4 : Nat) (Option.some Jvm.ClassFile.FieldType.int) ∈ kTB := kTB_of (List.mem_append_right _ (List.mem_of_getElem? (i := 614) (by decide +kernel))) rfl
theorem kw_615 : Cond.methodLinkNest "DiceAudit$Offences" (48 : Nat) yX10_playerOf "DiceAudit" ∈ kTN := kTN_of (List.mem_append_right _ (List.mem_of_getElem? (i := 615) (by decide +kernel))) rfl
theorem kw_616 : Cond.static yX10_playerOf ∈ kTB := kTB_of (List.mem_append_right _ (List.mem_of_getElem? (i := 616) (by decide +kernel))) rfl
theorem kw_617 : Cond.code yX10_playerOf prog_1_method_84_code (1 : Nat) (Option.some Jvm.ClassFile.FieldType.int) ∈ kTB := kTB_of (List.mem_append_right _ (List.mem_of_getElem? (i := 617) (by decide +kernel))) rfl
theorem kw_618 : Cond.methodLink "DiceAudit" (60 : Nat) yX8_cutTo ∈ kTB := kTB_of (List.mem_append_right _ (List.mem_of_getElem? (i := 618) (by decide +kernel))) rfl
theorem kw_619 : Cond.instanceMethod yX8_cutTo ∈ kTB := kTB_of (List.mem_append_right _ (List.mem_of_getElem? (i := 619) (by decide +kernel))) rfl
theorem kw_620 : Cond.selects "DiceAudit$Text" yX8_cutTo yX8_cutTo ∈ kTB := kTB_of (List.mem_append_right _ (List.mem_of_getElem? (i := 620) (by decide +kernel))) rfl
theorem kw_621 : Cond.code yX8_cutTo prog_10_method_8_code (2 : Nat) (Option.none : Option Jvm.ClassFile.FieldType) ∈ kTB := kTB_of (List.mem_append_right _ (List.mem_of_getElem? (i := 621) (by decide +kernel))) rfl
theorem kw_622 : Cond.methodLink "DiceAudit" (74 : Nat) yX2_copyFrom ∈ kTB := kTB_of (List.mem_append_right _ (List.mem_of_getElem? (i := 622) (by decide +kernel))) rfl
theorem kw_623 : Cond.instanceMethod yX2_copyFrom ∈ kTB := kTB_of (List.mem_append_right _ (List.mem_of_getElem? (i := 623) (by decide +kernel))) rfl
theorem kw_624 : Cond.selects "DiceAudit$Hall" yX2_copyFrom yX2_copyFrom ∈ kTB := kTB_of (List.mem_append_right _ (List.mem_of_getElem? (i := 624) (by decide +kernel))) rfl
theorem kw_625 : Cond.code yX2_copyFrom prog_4_method_3_code (2 : Nat) (Option.none : Option Jvm.ClassFile.FieldType) ∈ kTB := kTB_of (List.mem_append_right _ (List.mem_of_getElem? (i := 625) (by decide +kernel))) rfl
theorem kw_626 : Cond.methodLink "DiceAudit$Hall" (55 : Nat) yX0_copyFrom ∈ kTB := kTB_of (List.mem_append_right _ (List.mem_of_getElem? (i := 626) (by decide +kernel))) rfl
theorem kw_627 : Cond.instanceMethod yX0_copyFrom ∈ kTB := kTB_of (List.mem_append_right _ (List.mem_of_getElem? (i := 627) (by decide +kernel))) rfl
theorem kw_628 : Cond.selects "DiceAudit$Dice" yX0_copyFrom yX0_copyFrom ∈ kTB := kTB_of (List.mem_append_right _ (List.mem_of_getElem? (i := 628) (by decide +kernel))) rfl
theorem kw_629 : Cond.code yX0_copyFrom prog_2_method_3_code (2 : Nat) (Option.none : Option Jvm.ClassFile.FieldType) ∈ kTB := kTB_of (List.mem_append_right _ (List.mem_of_getElem? (i := 629) (by decide +kernel))) rfl
theorem kw_630 : Cond.methodLinkNest "DiceAudit$Dice" (22 : Nat) yX10_copyRow "DiceAudit" ∈ kTN := kTN_of (List.mem_append_right _ (List.mem_of_getElem? (i := 630) (by decide +kernel))) rfl
theorem kw_631 : Cond.static yX10_copyRow ∈ kTB := kTB_of (List.mem_append_right _ (List.mem_of_getElem? (i := 631) (by decide +kernel))) rfl
theorem kw_632 : Cond.code yX10_copyRow prog_1_method_78_code (2 : Nat) (Option.none : Option Jvm.ClassFile.FieldType) ∈ kTB := kTB_of (List.mem_append_right _ (List.mem_of_getElem? (i := 632) (by decide +kernel))) rfl
theorem kw_633 : Cond.methodLink "DiceAudit" (383 : Nat) ({ cls := "java/lang/System", name := "arraycopy", desc := "(Ljava/lang/Object;ILjava/lang/Object;II)V" } : Jvm.MethodName) ∈ kTB := kTB_of (List.mem_append_right _ (List.mem_of_getElem? (i := 633) (by decide +kernel))) rfl
theorem kw_634 : Cond.static ({ cls := "java/lang/System", name := "arraycopy", desc := "(Ljava/lang/Object;ILjava/lang/Object;II)V" } : Jvm.MethodName) ∈ kTB := kTB_of (List.mem_append_right _ (List.mem_of_getElem? (i := 634) (by decide +kernel))) rfl
theorem kw_635 : Cond.native ({ cls := "java/lang/System", name := "arraycopy", desc := "(Ljava/lang/Object;ILjava/lang/Object;II)V" } : Jvm.MethodName) ∈ kTB := kTB_of (List.mem_append_right _ (List.mem_of_getElem? (i := 635) (by decide +kernel))) rfl
theorem kw_636 : Cond.methodLink "DiceAudit$Hall" (59 : Nat) yX7_copyFrom ∈ kTB := kTB_of (List.mem_append_right _ (List.mem_of_getElem? (i := 636) (by decide +kernel))) rfl
theorem kw_637 : Cond.instanceMethod yX7_copyFrom ∈ kTB := kTB_of (List.mem_append_right _ (List.mem_of_getElem? (i := 637) (by decide +kernel))) rfl
theorem kw_638 : Cond.selects "DiceAudit$Players" yX7_copyFrom yX7_copyFrom ∈ kTB := kTB_of (List.mem_append_right _ (List.mem_of_getElem? (i := 638) (by decide +kernel))) rfl
theorem kw_639 : Cond.code yX7_copyFrom prog_9_method_3_code (2 : Nat) (Option.none : Option Jvm.ClassFile.FieldType) ∈ kTB := kTB_of (List.mem_append_right _ (List.mem_of_getElem? (i := 639) (by decide +kernel))) rfl
theorem kw_640 : Cond.methodLinkNest "DiceAudit$Players" (22 : Nat) yX10_copyRow "DiceAudit" ∈ kTN := kTN_of (List.mem_append_right _ (List.mem_of_getElem? (i := 640) (by decide +kernel))) rfl
theorem kw_641 : Cond.methodLink "DiceAudit$Hall" (62 : Nat) yX4_copyFrom ∈ kTB := kTB_of (List.mem_append_right _ (List.mem_of_getElem? (i := 641) (by decide +kernel))) rfl
theorem kw_642 : Cond.instanceMethod yX4_copyFrom ∈ kTB := kTB_of (List.mem_append_right _ (List.mem_of_getElem? (i := 642) (by decide +kernel))) rfl
theorem kw_643 : Cond.selects "DiceAudit$Ledger" yX4_copyFrom yX4_copyFrom ∈ kTB := kTB_of (List.mem_append_right _ (List.mem_of_getElem? (i := 643) (by decide +kernel))) rfl
theorem kw_644 : Cond.code yX4_copyFrom prog_6_method_3_code (2 : Nat) (Option.none : Option Jvm.ClassFile.FieldType) ∈ kTB := kTB_of (List.mem_append_right _ (List.mem_of_getElem? (i := 644) (by decide +kernel))) rfl
theorem kw_645 : Cond.methodLinkNest "DiceAudit$Ledger" (28 : Nat) yX10_copyRow "DiceAudit" ∈ kTN := kTN_of (List.mem_append_right _ (List.mem_of_getElem? (i := 645) (by decide +kernel))) rfl
theorem kw_646 : Cond.methodLink "DiceAudit$Hall" (65 : Nat) yX6_copyFrom ∈ kTB := kTB_of (List.mem_append_right _ (List.mem_of_getElem? (i := 646) (by decide +kernel))) rfl
theorem kw_647 : Cond.instanceMethod yX6_copyFrom ∈ kTB := kTB_of (List.mem_append_right _ (List.mem_of_getElem? (i := 647) (by decide +kernel))) rfl
theorem kw_648 : Cond.selects "DiceAudit$Offences" yX6_copyFrom yX6_copyFrom ∈ kTB := kTB_of (List.mem_append_right _ (List.mem_of_getElem? (i := 648) (by decide +kernel))) rfl
theorem kw_649 : Cond.code yX6_copyFrom prog_8_method_3_code (2 : Nat) (Option.none : Option Jvm.ClassFile.FieldType) ∈ kTB := kTB_of (List.mem_append_right _ (List.mem_of_getElem? (i := 649) (by decide +kernel))) rfl
theorem kw_650 : Cond.methodLinkNest "DiceAudit$Offences" (22 : Nat) yX10_copyRow "DiceAudit" ∈ kTN := kTN_of (List.mem_append_right _ (List.mem_of_getElem? (i := 650) (by decide +kernel))) rfl
theorem kw_651 : Cond.fieldLink "DiceAudit" (64 : Nat) "DiceAudit" "input" "LDiceAudit$Text;" ∈ kTB := kTB_of (List.mem_append_right _ (List.mem_of_getElem? (i := 651) (by decide +kernel))) rfl
theorem kw_652 : Cond.fieldLink "DiceAudit" (67 : Nat) "DiceAudit" "loader" "LDiceAudit$Loader;" ∈ kTB := kTB_of (List.mem_append_right _ (List.mem_of_getElem? (i := 652) (by decide +kernel))) rfl
theorem kw_653 : Cond.fieldLink "DiceAudit" (12 : Nat) "DiceAudit" "output" "LDiceAudit$Text;" ∈ kTB := kTB_of (List.mem_append_right _ (List.mem_of_getElem? (i := 653) (by decide +kernel))) rfl
theorem kw_654 : Cond.fieldLink "DiceAudit" (19 : Nat) "DiceAudit" "hall" "LDiceAudit$Hall;" ∈ kTB := kTB_of (List.mem_append_right _ (List.mem_of_getElem? (i := 654) (by decide +kernel))) rfl
theorem kw_655 : Cond.fieldLink "DiceAudit" (26 : Nat) "DiceAudit" "forecast" "LDiceAudit$Forecast;" ∈ kTB := kTB_of (List.mem_append_right _ (List.mem_of_getElem? (i := 655) (by decide +kernel))) rfl
theorem kw_656 : Cond.fieldLink "DiceAudit" (33 : Nat) "DiceAudit" "history" "LDiceAudit$History;" ∈ kTB := kTB_of (List.mem_append_right _ (List.mem_of_getElem? (i := 656) (by decide +kernel))) rfl
theorem kw_657 : Cond.fieldLink "DiceAudit" (37 : Nat) "DiceAudit" "slots" "[LDiceAudit$Hall;" ∈ kTB := kTB_of (List.mem_append_right _ (List.mem_of_getElem? (i := 657) (by decide +kernel))) rfl
theorem kw_658 : Cond.fieldLink "DiceAudit" (41 : Nat) "DiceAudit" "slotsInUse" "[I" ∈ kTB := kTB_of (List.mem_append_right _ (List.mem_of_getElem? (i := 658) (by decide +kernel))) rfl
theorem kw_676 : Cond.arrayClass Jvm.ClassFile.FieldType.byte ∈ kTB := kTB_of (List.mem_append_right _ (List.mem_of_getElem? (i := 676) (by decide +kernel))) rfl
theorem kw_677 : Cond.methodLink "DiceAuditLaw" (181 : Nat) yX10_errorCode ∈ kTB := kTB_of (List.mem_append_right _ (List.mem_of_getElem? (i := 677) (by decide +kernel))) rfl
theorem kw_678 : Cond.instanceMethod yX10_errorCode ∈ kTB := kTB_of (List.mem_append_right _ (List.mem_of_getElem? (i := 678) (by decide +kernel))) rfl
theorem kw_679 : Cond.selects "DiceAudit" yX10_errorCode yX10_errorCode ∈ kTB := kTB_of (List.mem_append_right _ (List.mem_of_getElem? (i := 679) (by decide +kernel))) rfl
theorem kw_680 : Cond.code yX10_errorCode prog_1_method_5_code (1 : Nat) (Option.some Jvm.ClassFile.FieldType.int) ∈ kTB := kTB_of (List.mem_append_right _ (List.mem_of_getElem? (i := 680) (by decide +kernel))) rfl
theorem kw_681 : Cond.methodLink "DiceAuditLaw" (185 : Nat) yX10_errorPosition ∈ kTB := kTB_of (List.mem_append_right _ (List.mem_of_getElem? (i := 681) (by decide +kernel))) rfl
theorem kw_682 : Cond.instanceMethod yX10_errorPosition ∈ kTB := kTB_of (List.mem_append_right _ (List.mem_of_getElem? (i := 682) (by decide +kernel))) rfl
theorem kw_683 : Cond.selects "DiceAudit" yX10_errorPosition yX10_errorPosition ∈ kTB := kTB_of (List.mem_append_right _ (List.mem_of_getElem? (i := 683) (by decide +kernel))) rfl
theorem kw_684 : Cond.code yX10_errorPosition prog_1_method_6_code (1 : Nat) (Option.some Jvm.ClassFile.FieldType.int) ∈ kTB := kTB_of (List.mem_append_right _ (List.mem_of_getElem? (i := 684) (by decide +kernel))) rfl
theorem kw_685 : Cond.methodLink "DiceAuditLaw" (189 : Nat) yX10_seed ∈ kTB := kTB_of (List.mem_append_right _ (List.mem_of_getElem? (i := 685) (by decide +kernel))) rfl
theorem kw_686 : Cond.instanceMethod yX10_seed ∈ kTB := kTB_of (List.mem_append_right _ (List.mem_of_getElem? (i := 686) (by decide +kernel))) rfl
theorem kw_687 : Cond.selects "DiceAudit" yX10_seed yX10_seed ∈ kTB := kTB_of (List.mem_append_right _ (List.mem_of_getElem? (i := 687) (by decide +kernel))) rfl
theorem kw_688 : Cond.code yX10_seed prog_1_method_7_code (1 : Nat) (Option.some Jvm.ClassFile.FieldType.int) ∈ kTB := kTB_of (List.mem_append_right _ (List.mem_of_getElem? (i := 688) (by decide +kernel))) rfl
theorem kw_689 : Cond.methodLink "DiceAuditLaw" (193 : Nat) yX10_minimum ∈ kTB := kTB_of (List.mem_append_right _ (List.mem_of_getElem? (i := 689) (by decide +kernel))) rfl
theorem kw_690 : Cond.instanceMethod yX10_minimum ∈ kTB := kTB_of (List.mem_append_right _ (List.mem_of_getElem? (i := 690) (by decide +kernel))) rfl
theorem kw_691 : Cond.selects "DiceAudit" yX10_minimum yX10_minimum ∈ kTB := kTB_of (List.mem_append_right _ (List.mem_of_getElem? (i := 691) (by decide +kernel))) rfl
theorem kw_692 : Cond.code yX10_minimum prog_1_method_8_code (1 : Nat) (Option.some Jvm.ClassFile.FieldType.int) ∈ kTB := kTB_of (List.mem_append_right _ (List.mem_of_getElem? (i := 692) (by decide +kernel))) rfl
theorem kw_693 : Cond.methodLink "DiceAuditLaw" (197 : Nat) yX10_threshold ∈ kTB := kTB_of (List.mem_append_right _ (List.mem_of_getElem? (i := 693) (by decide +kernel))) rfl
theorem kw_694 : Cond.instanceMethod yX10_threshold ∈ kTB := kTB_of (List.mem_append_right _ (List.mem_of_getElem? (i := 694) (by decide +kernel))) rfl
theorem kw_695 : Cond.selects "DiceAudit" yX10_threshold yX10_threshold ∈ kTB := kTB_of (List.mem_append_right _ (List.mem_of_getElem? (i := 695) (by decide +kernel))) rfl
theorem kw_696 : Cond.code yX10_threshold prog_1_method_9_code (1 : Nat) (Option.some Jvm.ClassFile.FieldType.int) ∈ kTB := kTB_of (List.mem_append_right _ (List.mem_of_getElem? (i := 696) (by decide +kernel))) rfl
theorem kw_697 : Cond.methodLink "DiceAuditLaw" (201 : Nat) yX10_dieCount ∈ kTB := kTB_of (List.mem_append_right _ (List.mem_of_getElem? (i := 697) (by decide +kernel))) rfl
theorem kw_698 : Cond.instanceMethod yX10_dieCount ∈ kTB := kTB_of (List.mem_append_right _ (List.mem_of_getElem? (i := 698) (by decide +kernel))) rfl
theorem kw_699 : Cond.selects "DiceAudit" yX10_dieCount yX10_dieCount ∈ kTB := kTB_of (List.mem_append_right _ (List.mem_of_getElem? (i := 699) (by decide +kernel))) rfl
theorem kw_700 : Cond.code yX10_dieCount prog_1_method_10_code (1 : Nat) (Option.some Jvm.ClassFile.FieldType.int) ∈ kTB := kTB_of (List.mem_append_right _ (List.mem_of_getElem? (i := 700) (by decide +kernel))) rfl
theorem kw_701 : Cond.methodLink "DiceAuditLaw" (205 : Nat) yX10_playerCount ∈ kTB := kTB_of (List.mem_append_right _ (List.mem_of_getElem? (i := 701) (by decide +kernel))) rfl
theorem kw_702 : Cond.instanceMethod yX10_playerCount ∈ kTB := kTB_of (List.mem_append_right _ (List.mem_of_getElem? (i := 702) (by decide +kernel))) rfl
theorem kw_703 : Cond.selects "DiceAudit" yX10_playerCount yX10_playerCount ∈ kTB := kTB_of (List.mem_append_right _ (List.mem_of_getElem? (i := 703) (by decide +kernel))) rfl
theorem kw_704 : Cond.code yX10_playerCount prog_1_method_11_code (1 : Nat) (Option.some Jvm.ClassFile.FieldType.int) ∈ kTB := kTB_of (List.mem_append_right _ (List.mem_of_getElem? (i := 704) (by decide +kernel))) rfl
theorem kw_705 : Cond.methodLink "DiceAuditLaw" (209 : Nat) yX10_throwCount ∈ kTB := kTB_of (List.mem_append_right _ (List.mem_of_getElem? (i := 705) (by decide +kernel))) rfl
theorem kw_706 : Cond.instanceMethod yX10_throwCount ∈ kTB := kTB_of (List.mem_append_right _ (List.mem_of_getElem? (i := 706) (by decide +kernel))) rfl
theorem kw_707 : Cond.selects "DiceAudit" yX10_throwCount yX10_throwCount ∈ kTB := kTB_of (List.mem_append_right _ (List.mem_of_getElem? (i := 707) (by decide +kernel))) rfl
theorem kw_708 : Cond.code yX10_throwCount prog_1_method_12_code (1 : Nat) (Option.some Jvm.ClassFile.FieldType.int) ∈ kTB := kTB_of (List.mem_append_right _ (List.mem_of_getElem? (i := 708) (by decide +kernel))) rfl
theorem kw_709 : Cond.methodLink "DiceAuditLaw" (260 : Nat) yX10_findPlayer ∈ kTB := kTB_of (List.mem_append_right _ (List.mem_of_getElem? (i := 709) (by decide +kernel))) rfl
theorem kw_710 : Cond.instanceMethod yX10_findPlayer ∈ kTB := kTB_of (List.mem_append_right _ (List.mem_of_getElem? (i := 710) (by decide +kernel))) rfl
theorem kw_711 : Cond.selects "DiceAudit" yX10_findPlayer yX10_findPlayer ∈ kTB := kTB_of (List.mem_append_right _ (List.mem_of_getElem? (i := 711) (by decide +kernel))) rfl
theorem kw_712 : Cond.code yX10_findPlayer prog_1_method_28_code (1 : Nat) (Option.some Jvm.ClassFile.FieldType.int) ∈ kTB := kTB_of (List.mem_append_right _ (List.mem_of_getElem? (i := 712) (by decide +kernel))) rfl
theorem kw_713 : Cond.methodLink "DiceAudit" (216 : Nat) yX7_find ∈ kTB := kTB_of (List.mem_append_right _ (List.mem_of_getElem? (i := 713) (by decide +kernel))) rfl
theorem kw_714 : Cond.methodLink "DiceAuditLaw" (286 : Nat) yX10_suspiciousPairs ∈ kTB := kTB_of (List.mem_append_right _ (List.mem_of_getElem? (i := 714) (by decide +kernel))) rfl
theorem kw_715 : Cond.instanceMethod yX10_suspiciousPairs ∈ kTB := kTB_of (List.mem_append_right _ (List.mem_of_getElem? (i := 715) (by decide +kernel))) rfl
theorem kw_716 : Cond.selects "DiceAudit" yX10_suspiciousPairs yX10_suspiciousPairs ∈ kTB := kTB_of (List.mem_append_right _ (List.mem_of_getElem? (i := 716) (by decide +kernel))) rfl
theorem kw_717 : Cond.code yX10_suspiciousPairs prog_1_method_36_code (1 : Nat) (Option.some Jvm.ClassFile.FieldType.int) ∈ kTB := kTB_of (List.mem_append_right _ (List.mem_of_getElem? (i := 717) (by decide +kernel))) rfl
theorem kw_718 : Cond.methodLink "DiceAudit" (248 : Nat) yX2_countSuspicious ∈ kTB := kTB_of (List.mem_append_right _ (List.mem_of_getElem? (i := 718) (by decide +kernel))) rfl
theorem kw_719 : Cond.instanceMethod yX2_countSuspicious ∈ kTB := kTB_of (List.mem_append_right _ (List.mem_of_getElem? (i := 719) (by decide +kernel))) rfl
theorem kw_720 : Cond.selects "DiceAudit$Hall" yX2_countSuspicious yX2_countSuspicious ∈ kTB := kTB_of (List.mem_append_right _ (List.mem_of_getElem? (i := 720) (by decide +kernel))) rfl
theorem kw_721 : Cond.code yX2_countSuspicious prog_4_method_8_code (3 : Nat) (Option.some Jvm.ClassFile.FieldType.int) ∈ kTB := kTB_of (List.mem_append_right _ (List.mem_of_getElem? (i := 721) (by decide +kernel))) rfl
theorem kw_722 : Cond.methodLink "DiceAudit$Hall" (110 : Nat) yX2_isPairSuspicious ∈ kTB := kTB_of (List.mem_append_right _ (List.mem_of_getElem? (i := 722) (by decide +kernel))) rfl
theorem kw_723 : Cond.instanceMethod yX2_isPairSuspicious ∈ kTB := kTB_of (List.mem_append_right _ (List.mem_of_getElem? (i := 723) (by decide +kernel))) rfl
theorem kw_724 : Cond.selects "DiceAudit$Hall" yX2_isPairSuspicious yX2_isPairSuspicious ∈ kTB := kTB_of (List.mem_append_right _ (List.mem_of_getElem? (i := 724) (by decide +kernel))) rfl
theorem kw_725 : Cond.code yX2_isPairSuspicious prog_4_method_7_code (2 : Nat) (Option.some Jvm.ClassFile.FieldType.boolean) ∈ kTB := kTB_of (List.mem_append_right _ (List.mem_of_getElem? (i := 725) (by decide +kernel))) rfl
theorem kw_726 : Cond.methodLink "DiceAuditLaw" (290 : Nat) yX10_worstPair ∈ kTB := kTB_of (List.mem_append_right _ (List.mem_of_getElem? (i := 726) (by decide +kernel))) rfl
theorem kw_727 : Cond.instanceMethod yX10_worstPair ∈ kTB := kTB_of (List.mem_append_right _ (List.mem_of_getElem? (i := 727) (by decide +kernel))) rfl
theorem kw_728 : Cond.selects "DiceAudit" yX10_worstPair yX10_worstPair ∈ kTB := kTB_of (List.mem_append_right _ (List.mem_of_getElem? (i := 728) (by decide +kernel))) rfl
theorem kw_729 : Cond.code yX10_worstPair prog_1_method_37_code (2 : Nat) (Option.some Jvm.ClassFile.FieldType.int) ∈ kTB := kTB_of (List.mem_append_right _ (List.mem_of_getElem? (i := 729) (by decide +kernel))) rfl
theorem kw_730 : Cond.methodLink "DiceAudit" (252 : Nat) yX2_pairWithGreatestScore ∈ kTB := kTB_of (List.mem_append_right _ (List.mem_of_getElem? (i := 730) (by decide +kernel))) rfl
theorem kw_731 : Cond.instanceMethod yX2_pairWithGreatestScore ∈ kTB := kTB_of (List.mem_append_right _ (List.mem_of_getElem? (i := 731) (by decide +kernel))) rfl
theorem kw_732 : Cond.selects "DiceAudit$Hall" yX2_pairWithGreatestScore yX2_pairWithGreatestScore ∈ kTB := kTB_of (List.mem_append_right _ (List.mem_of_getElem? (i := 732) (by decide +kernel))) rfl
theorem kw_733 : Cond.code yX2_pairWithGreatestScore prog_4_method_9_code (5 : Nat) (Option.some Jvm.ClassFile.FieldType.int) ∈ kTB := kTB_of (List.mem_append_right _ (List.mem_of_getElem? (i := 733) (by decide +kernel))) rfl
theorem kw_734 : Cond.methodLink "DiceAudit" (190 : Nat) yX10_playerOf ∈ kTB := kTB_of (List.mem_append_right _ (List.mem_of_getElem? (i := 734) (by decide +kernel))) rfl
theorem kw_735 : Cond.methodLink "DiceAudit" (193 : Nat) yX10_dieOf ∈ kTB := kTB_of (List.mem_append_right _ (List.mem_of_getElem? (i := 735) (by decide +kernel))) rfl
theorem kw_736 : Cond.methodLink "DiceAuditLaw" (294 : Nat) yX10_offenceCount ∈ kTB := kTB_of (List.mem_append_right _ (List.mem_of_getElem? (i := 736) (by decide +kernel))) rfl
theorem kw_737 : Cond.instanceMethod yX10_offenceCount ∈ kTB := kTB_of (List.mem_append_right _ (List.mem_of_getElem? (i := 737) (by decide +kernel))) rfl
theorem kw_738 : Cond.selects "DiceAudit" yX10_offenceCount yX10_offenceCount ∈ kTB := kTB_of (List.mem_append_right _ (List.mem_of_getElem? (i := 738) (by decide +kernel))) rfl
theorem kw_739 : Cond.code yX10_offenceCount prog_1_method_38_code (1 : Nat) (Option.some Jvm.ClassFile.FieldType.int) ∈ kTB := kTB_of (List.mem_append_right _ (List.mem_of_getElem? (i := 739) (by decide +kernel))) rfl
theorem kw_740 : Cond.methodLink "DiceAuditLaw" (325 : Nat) yX10_penanceNow ∈ kTB := kTB_of (List.mem_append_right _ (List.mem_of_getElem? (i := 740) (by decide +kernel))) rfl
theorem kw_741 : Cond.instanceMethod yX10_penanceNow ∈ kTB := kTB_of (List.mem_append_right _ (List.mem_of_getElem? (i := 741) (by decide +kernel))) rfl
theorem kw_742 : Cond.selects "DiceAudit" yX10_penanceNow yX10_penanceNow ∈ kTB := kTB_of (List.mem_append_right _ (List.mem_of_getElem? (i := 742) (by decide +kernel))) rfl
theorem kw_743 : Cond.code yX10_penanceNow prog_1_method_48_code (1 : Nat) (Option.some Jvm.ClassFile.FieldType.int) ∈ kTB := kTB_of (List.mem_append_right _ (List.mem_of_getElem? (i := 743) (by decide +kernel))) rfl
theorem kw_744 : Cond.methodLink "DiceAudit" (298 : Nat) yX2_penanceSize ∈ kTB := kTB_of (List.mem_append_right _ (List.mem_of_getElem? (i := 744) (by decide +kernel))) rfl
theorem kw_745 : Cond.methodLink "DiceAuditLaw" (329 : Nat) yX10_frequencyDifference ∈ kTB := kTB_of (List.mem_append_right _ (List.mem_of_getElem? (i := 745) (by decide +kernel))) rfl
theorem kw_746 : Cond.instanceMethod yX10_frequencyDifference ∈ kTB := kTB_of (List.mem_append_right _ (List.mem_of_getElem? (i := 746) (by decide +kernel))) rfl
theorem kw_747 : Cond.selects "DiceAudit" yX10_frequencyDifference yX10_frequencyDifference ∈ kTB := kTB_of (List.mem_append_right _ (List.mem_of_getElem? (i := 747) (by decide +kernel))) rfl
theorem kw_748 : Cond.code yX10_frequencyDifference prog_1_method_49_code (1 : Nat) (Option.some Jvm.ClassFile.FieldType.int) ∈ kTB := kTB_of (List.mem_append_right _ (List.mem_of_getElem? (i := 748) (by decide +kernel))) rfl
theorem kw_749 : Cond.methodLink "DiceAudit" (301 : Nat) yX4_frequencySum ∈ kTB := kTB_of (List.mem_append_right _ (List.mem_of_getElem? (i := 749) (by decide +kernel))) rfl
theorem kw_750 : Cond.instanceMethod yX4_frequencySum ∈ kTB := kTB_of (List.mem_append_right _ (List.mem_of_getElem? (i := 750) (by decide +kernel))) rfl
theorem kw_751 : Cond.selects "DiceAudit$Ledger" yX4_frequencySum yX4_frequencySum ∈ kTB := kTB_of (List.mem_append_right _ (List.mem_of_getElem? (i := 751) (by decide +kernel))) rfl
theorem kw_752 : Cond.code yX4_frequencySum prog_6_method_15_code (1 : Nat) (Option.some Jvm.ClassFile.FieldType.int) ∈ kTB := kTB_of (List.mem_append_right _ (List.mem_of_getElem? (i := 752) (by decide +kernel))) rfl
theorem kw_753 : Cond.methodLink "DiceAuditLaw" (333 : Nat) yX10_totalDifference ∈ kTB := kTB_of (List.mem_append_right _ (List.mem_of_getElem? (i := 753) (by decide +kernel))) rfl
theorem kw_754 : Cond.instanceMethod yX10_totalDifference ∈ kTB := kTB_of (List.mem_append_right _ (List.mem_of_getElem? (i := 754) (by decide +kernel))) rfl
theorem kw_755 : Cond.selects "DiceAudit" yX10_totalDifference yX10_totalDifference ∈ kTB := kTB_of (List.mem_append_right _ (List.mem_of_getElem? (i := 755) (by decide +kernel))) rfl
theorem kw_756 : Cond.code yX10_totalDifference prog_1_method_50_code (3 : Nat) (Option.some Jvm.ClassFile.FieldType.int) ∈ kTB := kTB_of (List.mem_append_right _ (List.mem_of_getElem? (i := 756) (by decide +kernel))) rfl
theorem kw_757 : Cond.methodLink "DiceAudit" (205 : Nat) yX4_playerTotal ∈ kTB := kTB_of (List.mem_append_right _ (List.mem_of_getElem? (i := 757) (by decide +kernel))) rfl
theorem kw_758 : Cond.instanceMethod yX4_playerTotal ∈ kTB := kTB_of (List.mem_append_right _ (List.mem_of_getElem? (i := 758) (by decide +kernel))) rfl
theorem kw_759 : Cond.selects "DiceAudit$Ledger" yX4_playerTotal yX4_playerTotal ∈ kTB := kTB_of (List.mem_append_right _ (List.mem_of_getElem? (i := 759) (by decide +kernel))) rfl
theorem kw_760 : Cond.code yX4_playerTotal prog_6_method_13_code (5 : Nat) (Option.some Jvm.ClassFile.FieldType.int) ∈ kTB := kTB_of (List.mem_append_right _ (List.mem_of_getElem? (i := 760) (by decide +kernel))) rfl
theorem kw_761 : Cond.methodLinkNest "DiceAudit$Ledger" (69 : Nat) yX10_pairOf "DiceAudit" ∈ kTN := kTN_of (List.mem_append_right _ (List.mem_of_getElem? (i := 761) (by decide +kernel))) rfl
theorem kw_762 : Cond.methodLink "DiceAudit" (304 : Nat) yX4_faceSum ∈ kTB := kTB_of (List.mem_append_right _ (List.mem_of_getElem? (i := 762) (by decide +kernel))) rfl
theorem kw_763 : Cond.instanceMethod yX4_faceSum ∈ kTB := kTB_of (List.mem_append_right _ (List.mem_of_getElem? (i := 763) (by decide +kernel))) rfl
theorem kw_764 : Cond.selects "DiceAudit$Ledger" yX4_faceSum yX4_faceSum ∈ kTB := kTB_of (List.mem_append_right _ (List.mem_of_getElem? (i := 764) (by decide +kernel))) rfl
theorem kw_765 : Cond.code yX4_faceSum prog_6_method_16_code (3 : Nat) (Option.some Jvm.ClassFile.FieldType.int) ∈ kTB := kTB_of (List.mem_append_right _ (List.mem_of_getElem? (i := 765) (by decide +kernel))) rfl
theorem kw_766 : Cond.methodLink "DiceAuditLaw" (337 : Nat) yX10_fairShare ∈ kTB := kTB_of (List.mem_append_right _ (List.mem_of_getElem? (i := 766) (by decide +kernel))) rfl
theorem kw_767 : Cond.instanceMethod yX10_fairShare ∈ kTB := kTB_of (List.mem_append_right _ (List.mem_of_getElem? (i := 767) (by decide +kernel))) rfl
theorem kw_768 : Cond.selects "DiceAudit" yX10_fairShare yX10_fairShare ∈ kTB := kTB_of (List.mem_append_right _ (List.mem_of_getElem? (i := 768) (by decide +kernel))) rfl
theorem kw_769 : Cond.code yX10_fairShare prog_1_method_51_code (2 : Nat) (Option.some Jvm.ClassFile.FieldType.float) ∈ kTB := kTB_of (List.mem_append_right _ (List.mem_of_getElem? (i := 769) (by decide +kernel))) rfl
theorem kw_770 : Cond.methodLink "DiceAudit" (307 : Nat) yX4_markedThrows ∈ kTB := kTB_of (List.mem_append_right _ (List.mem_of_getElem? (i := 770) (by decide +kernel))) rfl
theorem kw_771 : Cond.instanceMethod yX4_markedThrows ∈ kTB := kTB_of (List.mem_append_right _ (List.mem_of_getElem? (i := 771) (by decide +kernel))) rfl
theorem kw_772 : Cond.selects "DiceAudit$Ledger" yX4_markedThrows yX4_markedThrows ∈ kTB := kTB_of (List.mem_append_right _ (List.mem_of_getElem? (i := 772) (by decide +kernel))) rfl
theorem kw_773 : Cond.code yX4_markedThrows prog_6_method_17_code (3 : Nat) (Option.some Jvm.ClassFile.FieldType.int) ∈ kTB := kTB_of (List.mem_append_right _ (List.mem_of_getElem? (i := 773) (by decide +kernel))) rfl
theorem kw_774 : Cond.methodLink "DiceAuditLaw" (345 : Nat) yX10_audit ∈ kTB := kTB_of (List.mem_append_right _ (List.mem_of_getElem? (i := 774) (by decide +kernel))) rfl
theorem kw_775 : Cond.instanceMethod yX10_audit ∈ kTB := kTB_of (List.mem_append_right _ (List.mem_of_getElem? (i := 775) (by decide +kernel))) rfl
theorem kw_776 : Cond.selects "DiceAudit" yX10_audit yX10_audit ∈ kTB := kTB_of (List.mem_append_right _ (List.mem_of_getElem? (i := 776) (by decide +kernel))) rfl
theorem kw_777 : Cond.code yX10_audit prog_1_method_53_code (1 : Nat) (Option.some Jvm.ClassFile.FieldType.int) ∈ kTB := kTB_of (List.mem_append_right _ (List.mem_of_getElem? (i := 777) (by decide +kernel))) rfl
theorem kw_778 : Cond.methodLink "DiceAudit" (100 : Nat) yX3_remember ∈ kTB := kTB_of (List.mem_append_right _ (List.mem_of_getElem? (i := 778) (by decide +kernel))) rfl
theorem kw_779 : Cond.instanceMethod yX3_remember ∈ kTB := kTB_of (List.mem_append_right _ (List.mem_of_getElem? (i := 779) (by decide +kernel))) rfl
theorem kw_780 : Cond.selects "DiceAudit$History" yX3_remember yX3_remember ∈ kTB := kTB_of (List.mem_append_right _ (List.mem_of_getElem? (i := 780) (by decide +kernel))) rfl
theorem kw_781 : Cond.code yX3_remember prog_5_method_2_code (2 : Nat) (Option.none : Option Jvm.ClassFile.FieldType) ∈ kTB := kTB_of (List.mem_append_right _ (List.mem_of_getElem? (i := 781) (by decide +kernel))) rfl
theorem kw_782 : Cond.methodLink "DiceAudit$History" (25 : Nat) yX2_copyFrom ∈ kTB := kTB_of (List.mem_append_right _ (List.mem_of_getElem? (i := 782) (by decide +kernel))) rfl
theorem kw_783 : Cond.methodLink "DiceAudit$History" (29 : Nat) yJ9_min_7cf53 ∈ kTB := kTB_of (List.mem_append_right _ (List.mem_of_getElem? (i := 783) (by decide +kernel))) rfl
theorem kw_784 : Cond.methodLink "DiceAudit" (316 : Nat) yX2_holdAudit ∈ kTB := kTB_of (List.mem_append_right _ (List.mem_of_getElem? (i := 784) (by decide +kernel))) rfl
theorem kw_785 : Cond.methodLink "DiceAuditLaw" (364 : Nat) yX10_writeRecords ∈ kTB := kTB_of (List.mem_append_right _ (List.mem_of_getElem? (i := 785) (by decide +kernel))) rfl
theorem kw_786 : Cond.instanceMethod yX10_writeRecords ∈ kTB := kTB_of (List.mem_append_right _ (List.mem_of_getElem? (i := 786) (by decide +kernel))) rfl
theorem kw_787 : Cond.selects "DiceAudit" yX10_writeRecords yX10_writeRecords ∈ kTB := kTB_of (List.mem_append_right _ (List.mem_of_getElem? (i := 787) (by decide +kernel))) rfl
theorem kw_788 : Cond.code yX10_writeRecords prog_1_method_59_code (2 : Nat) (Option.some Jvm.ClassFile.FieldType.int) ∈ kTB := kTB_of (List.mem_append_right _ (List.mem_of_getElem? (i := 788) (by decide +kernel))) rfl
theorem kw_789 : Cond.methodLink "DiceAudit" (336 : Nat) yX7_playerInPlace ∈ kTB := kTB_of (List.mem_append_right _ (List.mem_of_getElem? (i := 789) (by decide +kernel))) rfl
theorem kw_790 : Cond.instanceMethod yX7_playerInPlace ∈ kTB := kTB_of (List.mem_append_right _ (List.mem_of_getElem? (i := 790) (by decide +kernel))) rfl
theorem kw_791 : Cond.selects "DiceAudit$Players" yX7_playerInPlace yX7_playerInPlace ∈ kTB := kTB_of (List.mem_append_right _ (List.mem_of_getElem? (i := 791) (by decide +kernel))) rfl
theorem kw_792 : Cond.code yX7_playerInPlace prog_9_method_10_code (3 : Nat) (Option.some Jvm.ClassFile.FieldType.int) ∈ kTB := kTB_of (List.mem_append_right _ (List.mem_of_getElem? (i := 792) (by decide +kernel))) rfl
theorem kw_793 : Cond.methodLink "DiceAudit$Players" (48 : Nat) yX7_placeByName ∈ kTB := kTB_of (List.mem_append_right _ (List.mem_of_getElem? (i := 793) (by decide +kernel))) rfl
theorem kw_795 : Cond.instanceMethod yX7_placeByName ∈ kTB := kTB_of (List.mem_append_right _ (List.mem_of_getElem? (i := 795) (by decide +kernel))) rfl
theorem kw_796 : Cond.code yX7_placeByName prog_9_method_11_code (4 : Nat) (Option.some Jvm.ClassFile.FieldType.int) ∈ kTB := kTB_of (List.mem_append_right _ (List.mem_of_getElem? (i := 796) (by decide +kernel))) rfl
theorem kw_797 : Cond.methodLink "DiceAudit$Players" (51 : Nat) yX7_comesBefore ∈ kTB := kTB_of (List.mem_append_right _ (List.mem_of_getElem? (i := 797) (by decide +kernel))) rfl
theorem kw_798 : Cond.instanceMethod yX7_comesBefore ∈ kTB := kTB_of (List.mem_append_right _ (List.mem_of_getElem? (i := 798) (by decide +kernel))) rfl
theorem kw_799 : Cond.selects "DiceAudit$Players" yX7_comesBefore yX7_comesBefore ∈ kTB := kTB_of (List.mem_append_right _ (List.mem_of_getElem? (i := 799) (by decide +kernel))) rfl
theorem kw_800 : Cond.code yX7_comesBefore prog_9_method_9_code (5 : Nat) (Option.some Jvm.ClassFile.FieldType.boolean) ∈ kTB := kTB_of (List.mem_append_right _ (List.mem_of_getElem? (i := 800) (by decide +kernel))) rfl
theorem kw_801 : Cond.methodLink "DiceAudit$Players" (44 : Nat) yX7_letter ∈ kTB := kTB_of (List.mem_append_right _ (List.mem_of_getElem? (i := 801) (by decide +kernel))) rfl
theorem kw_802 : Cond.instanceMethod yX7_letter ∈ kTB := kTB_of (List.mem_append_right _ (List.mem_of_getElem? (i := 802) (by decide +kernel))) rfl
theorem kw_803 : Cond.selects "DiceAudit$Players" yX7_letter yX7_letter ∈ kTB := kTB_of (List.mem_append_right _ (List.mem_of_getElem? (i := 803) (by decide +kernel))) rfl
theorem kw_804 : Cond.code yX7_letter prog_9_method_6_code (3 : Nat) (Option.some Jvm.ClassFile.FieldType.int) ∈ kTB := kTB_of (List.mem_append_right _ (List.mem_of_getElem? (i := 804) (by decide +kernel))) rfl
theorem kw_805 : Cond.methodLink "DiceAudit" (339 : Nat) yX10_writeRecordOf ∈ kTB := kTB_of (List.mem_append_right _ (List.mem_of_getElem? (i := 805) (by decide +kernel))) rfl
theorem kw_807 : Cond.instanceMethod yX10_writeRecordOf ∈ kTB := kTB_of (List.mem_append_right _ (List.mem_of_getElem? (i := 807) (by decide +kernel))) rfl
theorem kw_808 : Cond.code yX10_writeRecordOf prog_1_method_66_code (3 : Nat) (Option.none : Option Jvm.ClassFile.FieldType) ∈ kTB := kTB_of (List.mem_append_right _ (List.mem_of_getElem? (i := 808) (by decide +kernel))) rfl
theorem kw_809 : Cond.methodLink "DiceAudit" (202 : Nat) yX4_playerThrows ∈ kTB := kTB_of (List.mem_append_right _ (List.mem_of_getElem? (i := 809) (by decide +kernel))) rfl
theorem kw_810 : Cond.instanceMethod yX4_playerThrows ∈ kTB := kTB_of (List.mem_append_right _ (List.mem_of_getElem? (i := 810) (by decide +kernel))) rfl
theorem kw_811 : Cond.selects "DiceAudit$Ledger" yX4_playerThrows yX4_playerThrows ∈ kTB := kTB_of (List.mem_append_right _ (List.mem_of_getElem? (i := 811) (by decide +kernel))) rfl
theorem kw_812 : Cond.code yX4_playerThrows prog_6_method_12_code (2 : Nat) (Option.some Jvm.ClassFile.FieldType.int) ∈ kTB := kTB_of (List.mem_append_right _ (List.mem_of_getElem? (i := 812) (by decide +kernel))) rfl
theorem kw_813 : Cond.methodLink "DiceAudit" (342 : Nat) yX8_appendSeparator ∈ kTB := kTB_of (List.mem_append_right _ (List.mem_of_getElem? (i := 813) (by decide +kernel))) rfl
theorem kw_814 : Cond.instanceMethod yX8_appendSeparator ∈ kTB := kTB_of (List.mem_append_right _ (List.mem_of_getElem? (i := 814) (by decide +kernel))) rfl
theorem kw_815 : Cond.selects "DiceAudit$Text" yX8_appendSeparator yX8_appendSeparator ∈ kTB := kTB_of (List.mem_append_right _ (List.mem_of_getElem? (i := 815) (by decide +kernel))) rfl
theorem kw_816 : Cond.code yX8_appendSeparator prog_10_method_6_code (2 : Nat) (Option.none : Option Jvm.ClassFile.FieldType) ∈ kTB := kTB_of (List.mem_append_right _ (List.mem_of_getElem? (i := 816) (by decide +kernel))) rfl
theorem kw_817 : Cond.methodLink "DiceAudit" (173 : Nat) yX7_nameLength ∈ kTB := kTB_of (List.mem_append_right _ (List.mem_of_getElem? (i := 817) (by decide +kernel))) rfl
theorem kw_818 : Cond.instanceMethod yX7_nameLength ∈ kTB := kTB_of (List.mem_append_right _ (List.mem_of_getElem? (i := 818) (by decide +kernel))) rfl
theorem kw_819 : Cond.selects "DiceAudit$Players" yX7_nameLength yX7_nameLength ∈ kTB := kTB_of (List.mem_append_right _ (List.mem_of_getElem? (i := 819) (by decide +kernel))) rfl
theorem kw_820 : Cond.code yX7_nameLength prog_9_method_5_code (2 : Nat) (Option.some Jvm.ClassFile.FieldType.int) ∈ kTB := kTB_of (List.mem_append_right _ (List.mem_of_getElem? (i := 820) (by decide +kernel))) rfl
theorem kw_821 : Cond.methodLink "DiceAudit" (181 : Nat) yX7_letter ∈ kTB := kTB_of (List.mem_append_right _ (List.mem_of_getElem? (i := 821) (by decide +kernel))) rfl
theorem kw_822 : Cond.methodLink "DiceAudit" (370 : Nat) yX8_append ∈ kTB := kTB_of (List.mem_append_right _ (List.mem_of_getElem? (i := 822) (by decide +kernel))) rfl
theorem kw_823 : Cond.methodLink "DiceAudit" (345 : Nat) yX8_appendNumber ∈ kTB := kTB_of (List.mem_append_right _ (List.mem_of_getElem? (i := 823) (by decide +kernel))) rfl
theorem kw_824 : Cond.instanceMethod yX8_appendNumber ∈ kTB := kTB_of (List.mem_append_right _ (List.mem_of_getElem? (i := 824) (by decide +kernel))) rfl
theorem kw_825 : Cond.selects "DiceAudit$Text" yX8_appendNumber yX8_appendNumber ∈ kTB := kTB_of (List.mem_append_right _ (List.mem_of_getElem? (i := 825) (by decide +kernel))) rfl
theorem kw_826 : Cond.code yX8_appendNumber prog_10_method_7_code (3 : Nat) (Option.none : Option Jvm.ClassFile.FieldType) ∈ kTB := kTB_of (List.mem_append_right _ (List.mem_of_getElem? (i := 826) (by decide +kernel))) rfl
theorem kw_827 : Cond.methodLink "DiceAudit" (271 : Nat) yX6_countOf ∈ kTB := kTB_of (List.mem_append_right _ (List.mem_of_getElem? (i := 827) (by decide +kernel))) rfl
theorem kw_828 : Cond.instanceMethod yX6_countOf ∈ kTB := kTB_of (List.mem_append_right _ (List.mem_of_getElem? (i := 828) (by decide +kernel))) rfl
theorem kw_829 : Cond.selects "DiceAudit$Offences" yX6_countOf yX6_countOf ∈ kTB := kTB_of (List.mem_append_right _ (List.mem_of_getElem? (i := 829) (by decide +kernel))) rfl
theorem kw_830 : Cond.code yX6_countOf prog_8_method_10_code (4 : Nat) (Option.some Jvm.ClassFile.FieldType.int) ∈ kTB := kTB_of (List.mem_append_right _ (List.mem_of_getElem? (i := 830) (by decide +kernel))) rfl
theorem kw_831 : Cond.methodLink "DiceAuditLaw" (383 : Nat) yX10_undoDepth ∈ kTB := kTB_of (List.mem_append_right _ (List.mem_of_getElem? (i := 831) (by decide +kernel))) rfl
theorem kw_832 : Cond.instanceMethod yX10_undoDepth ∈ kTB := kTB_of (List.mem_append_right _ (List.mem_of_getElem? (i := 832) (by decide +kernel))) rfl
theorem kw_833 : Cond.selects "DiceAudit" yX10_undoDepth yX10_undoDepth ∈ kTB := kTB_of (List.mem_append_right _ (List.mem_of_getElem? (i := 833) (by decide +kernel))) rfl
theorem kw_834 : Cond.code yX10_undoDepth prog_1_method_65_code (1 : Nat) (Option.some Jvm.ClassFile.FieldType.int) ∈ kTB := kTB_of (List.mem_append_right _ (List.mem_of_getElem? (i := 834) (by decide +kernel))) rfl
theorem kw_835 : Cond.methodLink "DiceAuditLaw" (164 : Nat) yL_appendInput ∈ kTB := kTB_of (List.mem_append_right _ (List.mem_of_getElem? (i := 835) (by decide +kernel))) rfl
theorem kw_836 : Cond.static yL_appendInput ∈ kTB := kTB_of (List.mem_append_right _ (List.mem_of_getElem? (i := 836) (by decide +kernel))) rfl
theorem kw_837 : Cond.codeWith yL_appendInput method_3_code (8 : Nat) (Option.some Jvm.ClassFile.FieldType.int) [((0 : Nat), (16 : Nat), (19 : Nat), (13 : Nat))] ∈ kTB := kTB_of (List.mem_append_right _ (List.mem_of_getElem? (i := 837) (by decide +kernel))) rfl
theorem kw_838 : Cond.classLink "DiceAuditLaw" (13 : Nat) "java/lang/IllegalStateException" ∈ kTB := kTB_of (List.mem_append_right _ (List.mem_of_getElem? (i := 838) (by decide +kernel))) rfl
theorem kw_839 : Cond.methodLink "DiceAuditLaw" (7 : Nat) yX10_appendInput ∈ kTB := kTB_of (List.mem_append_right _ (List.mem_of_getElem? (i := 839) (by decide +kernel))) rfl
theorem kw_840 : Cond.instanceMethod yX10_appendInput ∈ kTB := kTB_of (List.mem_append_right _ (List.mem_of_getElem? (i := 840) (by decide +kernel))) rfl
theorem kw_841 : Cond.selects "DiceAudit" yX10_appendInput yX10_appendInput ∈ kTB := kTB_of (List.mem_append_right _ (List.mem_of_getElem? (i := 841) (by decide +kernel))) rfl
theorem kw_842 : Cond.code yX10_appendInput prog_1_method_2_code (6 : Nat) (Option.some Jvm.ClassFile.FieldType.int) ∈ kTB := kTB_of (List.mem_append_right _ (List.mem_of_getElem? (i := 842) (by decide +kernel))) rfl
theorem kw_843 : Cond.classLink "DiceAudit" (82 : Nat) "java/lang/IllegalStateException" ∈ kTB := kTB_of (List.mem_append_right _ (List.mem_of_getElem? (i := 843) (by decide +kernel))) rfl
theorem kw_844 : Cond.instantiable "java/lang/IllegalStateException" (6 : Nat) ∈ kTB := kTB_of (List.mem_append_right _ (List.mem_of_getElem? (i := 844) (by decide +kernel))) rfl
theorem kw_845 : Cond.castable "java/lang/IllegalStateException" "java/lang/IllegalStateException" ∈ kTN := kTN_of (List.mem_append_right _ (List.mem_of_getElem? (i := 845) (by decide +kernel))) rfl
theorem kw_852 : Cond.selects "java/lang/IllegalStateException" ({ cls := "java/lang/Throwable", name := "fillInStackTrace", desc := "(I)Ljava/lang/Throwable;" } : Jvm.MethodName) ({ cls := "java/lang/Throwable", name := "fillInStackTrace", desc := "(I)Ljava/lang/Throwable;" } : Jvm.MethodName) ∈ kTB := kTB_of (List.mem_append_right _ (List.mem_of_getElem? (i := 852) (by decide +kernel))) rfl
theorem kw_853 : Cond.selects "java/lang/IllegalStateException" ({ cls := "java/lang/Throwable", name := "fillInStackTrace", desc := "()Ljava/lang/Throwable;" } : Jvm.MethodName) ({ cls := "java/lang/Throwable", name := "fillInStackTrace", desc := "()Ljava/lang/Throwable;" } : Jvm.MethodName) ∈ kTB := kTB_of (List.mem_append_right _ (List.mem_of_getElem? (i := 853) (by decide +kernel))) rfl
theorem kw_864 : Cond.fieldLink "java/lang/Throwable" (198 : Nat) "java/lang/Throwable" "backtrace" "Ljava/lang/Object;" ∈ kTB := kTB_of (List.mem_append_right _ (List.mem_of_getElem? (i := 864) (by decide +kernel))) rfl
theorem kw_866 : Cond.instanceMethod ({ cls := "java/lang/Throwable", name := "<init>", desc := "()V" } : Jvm.MethodName) ∈ kTB := kTB_of (List.mem_append_right _ (List.mem_of_getElem? (i := 866) (by decide +kernel))) rfl
theorem kw_867 : Cond.code ({ cls := "java/lang/Throwable", name := "<init>", desc := "()V" } : Jvm.MethodName) prog_27_method_1_code (1 : Nat) (Option.none : Option Jvm.ClassFile.FieldType) ∈ kTB := kTB_of (List.mem_append_right _ (List.mem_of_getElem? (i := 867) (by decide +kernel))) rfl
theorem kw_868 : Cond.methodLink "java/lang/Throwable" (1 : Nat) ({ cls := "java/lang/Object", name := "<init>", desc := "()V" } : Jvm.MethodName) ∈ kTB := kTB_of (List.mem_append_right _ (List.mem_of_getElem? (i := 868) (by decide +kernel))) rfl
theorem kw_869 : Cond.fieldLink "java/lang/Throwable" (13 : Nat) "java/lang/Throwable" "UNASSIGNED_STACK" "[Ljava/lang/StackTraceElement;" ∈ kTB := kTB_of (List.mem_append_right _ (List.mem_of_getElem? (i := 869) (by decide +kernel))) rfl
theorem kw_871 : Cond.fieldLink "java/lang/Throwable" (20 : Nat) "java/lang/Throwable" "SUPPRESSED_SENTINEL" "Ljava/util/List;" ∈ kTB := kTB_of (List.mem_append_right _ (List.mem_of_getElem? (i := 871) (by decide +kernel))) rfl
theorem kw_873 : Cond.methodLink "java/lang/Throwable" (27 : Nat) ({ cls := "java/lang/Throwable", name := "fillInStackTrace", desc := "()Ljava/lang/Throwable;" } : Jvm.MethodName) ∈ kTB := kTB_of (List.mem_append_right _ (List.mem_of_getElem? (i := 873) (by decide +kernel))) rfl
theorem kw_874 : Cond.instanceMethod ({ cls := "java/lang/Throwable", name := "fillInStackTrace", desc := "()Ljava/lang/Throwable;" } : Jvm.MethodName) ∈ kTB := kTB_of (List.mem_append_right _ (List.mem_of_getElem? (i := 874) (by decide +kernel))) rfl
theorem kw_875 : Cond.sameMethod "java/lang/Throwable" "java/lang/Throwable" "fillInStackTrace" "()Ljava/lang/Throwable;" ∈ kTB := kTB_of (List.mem_append_right _ (List.mem_of_getElem? (i := 875) (by decide +kernel))) rfl
theorem kw_876 : Cond.selects "java/lang/IllegalArgumentException" ({ cls := "java/lang/Throwable", name := "fillInStackTrace", desc := "()Ljava/lang/Throwable;" } : Jvm.MethodName) ({ cls := "java/lang/Throwable", name := "fillInStackTrace", desc := "()Ljava/lang/Throwable;" } : Jvm.MethodName) ∈ kTB := kTB_of (List.mem_append_right _ (List.mem_of_getElem? (i := 876) (by decide +kernel))) rfl
theorem kw_877 : Cond.selects "java/lang/IndexOutOfBoundsException" ({ cls := "java/lang/Throwable", name := "fillInStackTrace", desc := "()Ljava/lang/Throwable;" } : Jvm.MethodName) ({ cls := "java/lang/Throwable", name := "fillInStackTrace", desc := "()Ljava/lang/Throwable;" } : Jvm.MethodName) ∈ kTB := kTB_of (List.mem_append_right _ (List.mem_of_getElem? (i := 877) (by decide +kernel))) rfl
theorem kw_878 : Cond.selects "java/util/NoSuchElementException" ({ cls := "java/lang/Throwable", name := "fillInStackTrace", desc := "()Ljava/lang/Throwable;" } : Jvm.MethodName) ({ cls := "java/lang/Throwable", name := "fillInStackTrace", desc := "()Ljava/lang/Throwable;" } : Jvm.MethodName) ∈ kTB := kTB_of (List.mem_append_right _ (List.mem_of_getElem? (i := 878) (by decide +kernel))) rfl
theorem kw_879 : Cond.codeSync ({ cls := "java/lang/Throwable", name := "fillInStackTrace", desc := "()Ljava/lang/Throwable;" } : Jvm.MethodName) prog_27_method_18_code (1 : Nat) (Option.some (Jvm.ClassFile.FieldType.object "java/lang/Throwable")) ∈ kTB := kTB_of (List.mem_append_right _ (List.mem_of_getElem? (i := 879) (by decide +kernel))) rfl
theorem kw_880 : Cond.methodLink "java/lang/Throwable" (202 : Nat) ({ cls := "java/lang/Throwable", name := "fillInStackTrace", desc := "(I)Ljava/lang/Throwable;" } : Jvm.MethodName) ∈ kTB := kTB_of (List.mem_append_right _ (List.mem_of_getElem? (i := 880) (by decide +kernel))) rfl
theorem kw_882 : Cond.instanceMethod ({ cls := "java/lang/Throwable", name := "fillInStackTrace", desc := "(I)Ljava/lang/Throwable;" } : Jvm.MethodName) ∈ kTB := kTB_of (List.mem_append_right _ (List.mem_of_getElem? (i := 882) (by decide +kernel))) rfl
theorem kw_883 : Cond.instantiable "java/lang/Throwable" (6 : Nat) ∈ kTB := kTB_of (List.mem_append_right _ (List.mem_of_getElem? (i := 883) (by decide +kernel))) rfl
theorem kw_884 : Cond.native ({ cls := "java/lang/Throwable", name := "fillInStackTrace", desc := "(I)Ljava/lang/Throwable;" } : Jvm.MethodName) ∈ kTB := kTB_of (List.mem_append_right _ (List.mem_of_getElem? (i := 884) (by decide +kernel))) rfl
theorem kw_886 : Cond.methodLink "DiceAudit" (86 : Nat) ({ cls := "java/lang/IllegalStateException", name := "<init>", desc := "(Ljava/lang/String;)V" } : Jvm.MethodName) ∈ kTB := kTB_of (List.mem_append_right _ (List.mem_of_getElem? (i := 886) (by decide +kernel))) rfl
theorem kw_887 : Cond.instanceMethod ({ cls := "java/lang/IllegalStateException", name := "<init>", desc := "(Ljava/lang/String;)V" } : Jvm.MethodName) ∈ kTB := kTB_of (List.mem_append_right _ (List.mem_of_getElem? (i := 887) (by decide +kernel))) rfl
theorem kw_888 : Cond.code ({ cls := "java/lang/IllegalStateException", name := "<init>", desc := "(Ljava/lang/String;)V" } : Jvm.MethodName) prog_19_method_2_code (2 : Nat) (Option.none : Option Jvm.ClassFile.FieldType) ∈ kTB := kTB_of (List.mem_append_right _ (List.mem_of_getElem? (i := 888) (by decide +kernel))) rfl
theorem kw_889 : Cond.methodLink "java/lang/IllegalStateException" (7 : Nat) ({ cls := "java/lang/RuntimeException", name := "<init>", desc := "(Ljava/lang/String;)V" } : Jvm.MethodName) ∈ kTB := kTB_of (List.mem_append_right _ (List.mem_of_getElem? (i := 889) (by decide +kernel))) rfl
theorem kw_890 : Cond.instanceMethod ({ cls := "java/lang/RuntimeException", name := "<init>", desc := "(Ljava/lang/String;)V" } : Jvm.MethodName) ∈ kTB := kTB_of (List.mem_append_right _ (List.mem_of_getElem? (i := 890) (by decide +kernel))) rfl
theorem kw_891 : Cond.code ({ cls := "java/lang/RuntimeException", name := "<init>", desc := "(Ljava/lang/String;)V" } : Jvm.MethodName) prog_22_method_2_code (2 : Nat) (Option.none : Option Jvm.ClassFile.FieldType) ∈ kTB := kTB_of (List.mem_append_right _ (List.mem_of_getElem? (i := 891) (by decide +kernel))) rfl
theorem kw_892 : Cond.methodLink "java/lang/RuntimeException" (7 : Nat) ({ cls := "java/lang/Exception", name := "<init>", desc := "(Ljava/lang/String;)V" } : Jvm.MethodName) ∈ kTB := kTB_of (List.mem_append_right _ (List.mem_of_getElem? (i := 892) (by decide +kernel))) rfl
theorem kw_893 : Cond.instanceMethod ({ cls := "java/lang/Exception", name := "<init>", desc := "(Ljava/lang/String;)V" } : Jvm.MethodName) ∈ kTB := kTB_of (List.mem_append_right _ (List.mem_of_getElem? (i := 893) (by decide +kernel))) rfl
theorem kw_894 : Cond.code ({ cls := "java/lang/Exception", name := "<init>", desc := "(Ljava/lang/String;)V" } : Jvm.MethodName) prog_17_method_2_code (2 : Nat) (Option.none : Option Jvm.ClassFile.FieldType) ∈ kTB := kTB_of (List.mem_append_right _ (List.mem_of_getElem? (i := 894) (by decide +kernel))) rfl
theorem kw_895 : Cond.methodLink "java/lang/Exception" (7 : Nat) ({ cls := "java/lang/Throwable", name := "<init>", desc := "(Ljava/lang/String;)V" } : Jvm.MethodName) ∈ kTB := kTB_of (List.mem_append_right _ (List.mem_of_getElem? (i := 895) (by decide +kernel))) rfl
theorem kw_896 : Cond.instanceMethod ({ cls := "java/lang/Throwable", name := "<init>", desc := "(Ljava/lang/String;)V" } : Jvm.MethodName) ∈ kTB := kTB_of (List.mem_append_right _ (List.mem_of_getElem? (i := 896) (by decide +kernel))) rfl
theorem kw_897 : Cond.code ({ cls := "java/lang/Throwable", name := "<init>", desc := "(Ljava/lang/String;)V" } : Jvm.MethodName) prog_27_method_2_code (2 : Nat) (Option.none : Option Jvm.ClassFile.FieldType) ∈ kTB := kTB_of (List.mem_append_right _ (List.mem_of_getElem? (i := 897) (by decide +kernel))) rfl
theorem kw_898 : Cond.fieldLink "java/lang/Throwable" (198 : Nat) "java/lang/Throwable" "backtrace" "Ljava/lang/Object;" ∈ kTB := kTB_of (List.mem_append_right _ (List.mem_of_getElem? (i := 898) (by decide +kernel))) rfl
theorem kw_899 : Cond.fieldLink "java/lang/Throwable" (31 : Nat) "java/lang/Throwable" "detailMessage" "Ljava/lang/String;" ∈ kTB := kTB_of (List.mem_append_right _ (List.mem_of_getElem? (i := 899) (by decide +kernel))) rfl
theorem kw_900 : Cond.fieldLink "java/lang/Throwable" (7 : Nat) "java/lang/Throwable" "cause" "Ljava/lang/Throwable;" ∈ kTB := kTB_of (List.mem_append_right _ (List.mem_of_getElem? (i := 900) (by decide +kernel))) rfl
theorem kw_901 : Cond.fieldLink "java/lang/Throwable" (17 : Nat) "java/lang/Throwable" "stackTrace" "[Ljava/lang/StackTraceElement;" ∈ kTB := kTB_of (List.mem_append_right _ (List.mem_of_getElem? (i := 901) (by decide +kernel))) rfl
theorem kw_902 : Cond.fieldLink "java/lang/Throwable" (24 : Nat) "java/lang/Throwable" "suppressedExceptions" "Ljava/util/List;" ∈ kTB := kTB_of (List.mem_append_right _ (List.mem_of_getElem? (i := 902) (by decide +kernel))) rfl
theorem kw_911 : Cond.methodLink "DiceAudit" (88 : Nat) yX8_appendWord ∈ kTB := kTB_of (List.mem_append_right _ (List.mem_of_getElem? (i := 911) (by decide +kernel))) rfl
theorem kw_912 : Cond.instanceMethod yX8_appendWord ∈ kTB := kTB_of (List.mem_append_right _ (List.mem_of_getElem? (i := 912) (by decide +kernel))) rfl
theorem kw_913 : Cond.selects "DiceAudit$Text" yX8_appendWord yX8_appendWord ∈ kTB := kTB_of (List.mem_append_right _ (List.mem_of_getElem? (i := 913) (by decide +kernel))) rfl
theorem kw_914 : Cond.code yX8_appendWord prog_10_method_4_code (3 : Nat) (Option.none : Option Jvm.ClassFile.FieldType) ∈ kTB := kTB_of (List.mem_append_right _ (List.mem_of_getElem? (i := 914) (by decide +kernel))) rfl
theorem kw_915 : Cond.methodLink "DiceAuditLaw" (173 : Nat) yL_truncateInput ∈ kTB := kTB_of (List.mem_append_right _ (List.mem_of_getElem? (i := 915) (by decide +kernel))) rfl
theorem kw_916 : Cond.static yL_truncateInput ∈ kTB := kTB_of (List.mem_append_right _ (List.mem_of_getElem? (i := 916) (by decide +kernel))) rfl
theorem kw_917 : Cond.codeWith yL_truncateInput method_4_code (4 : Nat) (Option.some Jvm.ClassFile.FieldType.int) [((0 : Nat), (9 : Nat), (12 : Nat), (19 : Nat))] ∈ kTB := kTB_of (List.mem_append_right _ (List.mem_of_getElem? (i := 917) (by decide +kernel))) rfl
theorem kw_918 : Cond.classLink "DiceAuditLaw" (19 : Nat) "java/lang/IllegalArgumentException" ∈ kTB := kTB_of (List.mem_append_right _ (List.mem_of_getElem? (i := 918) (by decide +kernel))) rfl
theorem kw_919 : Cond.methodLink "DiceAuditLaw" (15 : Nat) yX10_truncateInput ∈ kTB := kTB_of (List.mem_append_right _ (List.mem_of_getElem? (i := 919) (by decide +kernel))) rfl
theorem kw_920 : Cond.instanceMethod yX10_truncateInput ∈ kTB := kTB_of (List.mem_append_right _ (List.mem_of_getElem? (i := 920) (by decide +kernel))) rfl
theorem kw_921 : Cond.selects "DiceAudit" yX10_truncateInput yX10_truncateInput ∈ kTB := kTB_of (List.mem_append_right _ (List.mem_of_getElem? (i := 921) (by decide +kernel))) rfl
theorem kw_922 : Cond.code yX10_truncateInput prog_1_method_3_code (2 : Nat) (Option.some Jvm.ClassFile.FieldType.int) ∈ kTB := kTB_of (List.mem_append_right _ (List.mem_of_getElem? (i := 922) (by decide +kernel))) rfl
theorem kw_923 : Cond.methodLink "DiceAudit" (91 : Nat) yX10_requireRange ∈ kTB := kTB_of (List.mem_append_right _ (List.mem_of_getElem? (i := 923) (by decide +kernel))) rfl
theorem kw_924 : Cond.static yX10_requireRange ∈ kTB := kTB_of (List.mem_append_right _ (List.mem_of_getElem? (i := 924) (by decide +kernel))) rfl
theorem kw_925 : Cond.code yX10_requireRange prog_1_method_75_code (3 : Nat) (Option.none : Option Jvm.ClassFile.FieldType) ∈ kTB := kTB_of (List.mem_append_right _ (List.mem_of_getElem? (i := 925) (by decide +kernel))) rfl
theorem kw_926 : Cond.classLink "DiceAudit" (95 : Nat) "java/lang/IllegalArgumentException" ∈ kTB := kTB_of (List.mem_append_right _ (List.mem_of_getElem? (i := 926) (by decide +kernel))) rfl
theorem kw_927 : Cond.instantiable "java/lang/IllegalArgumentException" (6 : Nat) ∈ kTB := kTB_of (List.mem_append_right _ (List.mem_of_getElem? (i := 927) (by decide +kernel))) rfl
theorem kw_928 : Cond.castable "java/lang/IllegalArgumentException" "java/lang/IllegalArgumentException" ∈ kTN := kTN_of (List.mem_append_right _ (List.mem_of_getElem? (i := 928) (by decide +kernel))) rfl
theorem kw_929 : Cond.selects "java/lang/IllegalArgumentException" ({ cls := "java/lang/Throwable", name := "fillInStackTrace", desc := "(I)Ljava/lang/Throwable;" } : Jvm.MethodName) ({ cls := "java/lang/Throwable", name := "fillInStackTrace", desc := "(I)Ljava/lang/Throwable;" } : Jvm.MethodName) ∈ kTB := kTB_of (List.mem_append_right _ (List.mem_of_getElem? (i := 929) (by decide +kernel))) rfl
theorem kw_936 : Cond.methodLink "DiceAudit" (99 : Nat) ({ cls := "java/lang/IllegalArgumentException", name := "<init>", desc := "(Ljava/lang/String;)V" } : Jvm.MethodName) ∈ kTB := kTB_of (List.mem_append_right _ (List.mem_of_getElem? (i := 936) (by decide +kernel))) rfl
theorem kw_937 : Cond.instanceMethod ({ cls := "java/lang/IllegalArgumentException", name := "<init>", desc := "(Ljava/lang/String;)V" } : Jvm.MethodName) ∈ kTB := kTB_of (List.mem_append_right _ (List.mem_of_getElem? (i := 937) (by decide +kernel))) rfl
theorem kw_938 : Cond.code ({ cls := "java/lang/IllegalArgumentException", name := "<init>", desc := "(Ljava/lang/String;)V" } : Jvm.MethodName) prog_18_method_2_code (2 : Nat) (Option.none : Option Jvm.ClassFile.FieldType) ∈ kTB := kTB_of (List.mem_append_right _ (List.mem_of_getElem? (i := 938) (by decide +kernel))) rfl
theorem kw_939 : Cond.methodLink "java/lang/IllegalArgumentException" (7 : Nat) ({ cls := "java/lang/RuntimeException", name := "<init>", desc := "(Ljava/lang/String;)V" } : Jvm.MethodName) ∈ kTB := kTB_of (List.mem_append_right _ (List.mem_of_getElem? (i := 939) (by decide +kernel))) rfl
theorem kw_942 : Cond.methodLink "DiceAuditLaw" (177 : Nat) yL_load ∈ kTB := kTB_of (List.mem_append_right _ (List.mem_of_getElem? (i := 942) (by decide +kernel))) rfl
theorem kw_943 : Cond.static yL_load ∈ kTB := kTB_of (List.mem_append_right _ (List.mem_of_getElem? (i := 943) (by decide +kernel))) rfl
theorem kw_944 : Cond.codeWith yL_load method_5_code (3 : Nat) (Option.some Jvm.ClassFile.FieldType.int) [((0 : Nat), (8 : Nat), (11 : Nat), (19 : Nat))] ∈ kTB := kTB_of (List.mem_append_right _ (List.mem_of_getElem? (i := 944) (by decide +kernel))) rfl
theorem kw_945 : Cond.methodLink "DiceAuditLaw" (21 : Nat) yX10_load ∈ kTB := kTB_of (List.mem_append_right _ (List.mem_of_getElem? (i := 945) (by decide +kernel))) rfl
theorem kw_946 : Cond.instanceMethod yX10_load ∈ kTB := kTB_of (List.mem_append_right _ (List.mem_of_getElem? (i := 946) (by decide +kernel))) rfl
theorem kw_947 : Cond.selects "DiceAudit" yX10_load yX10_load ∈ kTB := kTB_of (List.mem_append_right _ (List.mem_of_getElem? (i := 947) (by decide +kernel))) rfl
theorem kw_948 : Cond.code yX10_load prog_1_method_4_code (2 : Nat) (Option.some Jvm.ClassFile.FieldType.int) ∈ kTB := kTB_of (List.mem_append_right _ (List.mem_of_getElem? (i := 948) (by decide +kernel))) rfl
theorem kw_950 : Cond.methodLink "DiceAuditLaw" (213 : Nat) yL_faces ∈ kTB := kTB_of (List.mem_append_right _ (List.mem_of_getElem? (i := 950) (by decide +kernel))) rfl
theorem kw_951 : Cond.static yL_faces ∈ kTB := kTB_of (List.mem_append_right _ (List.mem_of_getElem? (i := 951) (by decide +kernel))) rfl
theorem kw_952 : Cond.codeWith yL_faces method_6_code (4 : Nat) (Option.some Jvm.ClassFile.FieldType.int) [((0 : Nat), (9 : Nat), (12 : Nat), (28 : Nat))] ∈ kTB := kTB_of (List.mem_append_right _ (List.mem_of_getElem? (i := 952) (by decide +kernel))) rfl
theorem kw_953 : Cond.classLink "DiceAuditLaw" (28 : Nat) "java/lang/IndexOutOfBoundsException" ∈ kTB := kTB_of (List.mem_append_right _ (List.mem_of_getElem? (i := 953) (by decide +kernel))) rfl
theorem kw_954 : Cond.methodLink "DiceAuditLaw" (25 : Nat) yX10_faces ∈ kTB := kTB_of (List.mem_append_right _ (List.mem_of_getElem? (i := 954) (by decide +kernel))) rfl
theorem kw_955 : Cond.instanceMethod yX10_faces ∈ kTB := kTB_of (List.mem_append_right _ (List.mem_of_getElem? (i := 955) (by decide +kernel))) rfl
theorem kw_956 : Cond.selects "DiceAudit" yX10_faces yX10_faces ∈ kTB := kTB_of (List.mem_append_right _ (List.mem_of_getElem? (i := 956) (by decide +kernel))) rfl
theorem kw_957 : Cond.code yX10_faces prog_1_method_13_code (2 : Nat) (Option.some Jvm.ClassFile.FieldType.int) ∈ kTB := kTB_of (List.mem_append_right _ (List.mem_of_getElem? (i := 957) (by decide +kernel))) rfl
theorem kw_958 : Cond.methodLink "DiceAudit" (141 : Nat) yX10_requireDie ∈ kTB := kTB_of (List.mem_append_right _ (List.mem_of_getElem? (i := 958) (by decide +kernel))) rfl
theorem kw_960 : Cond.instanceMethod yX10_requireDie ∈ kTB := kTB_of (List.mem_append_right _ (List.mem_of_getElem? (i := 960) (by decide +kernel))) rfl
theorem kw_961 : Cond.code yX10_requireDie prog_1_method_67_code (2 : Nat) (Option.none : Option Jvm.ClassFile.FieldType) ∈ kTB := kTB_of (List.mem_append_right _ (List.mem_of_getElem? (i := 961) (by decide +kernel))) rfl
theorem kw_962 : Cond.methodLink "DiceAudit" (373 : Nat) yX10_requireIndex ∈ kTB := kTB_of (List.mem_append_right _ (List.mem_of_getElem? (i := 962) (by decide +kernel))) rfl
theorem kw_963 : Cond.static yX10_requireIndex ∈ kTB := kTB_of (List.mem_append_right _ (List.mem_of_getElem? (i := 963) (by decide +kernel))) rfl
theorem kw_964 : Cond.code yX10_requireIndex prog_1_method_74_code (2 : Nat) (Option.none : Option Jvm.ClassFile.FieldType) ∈ kTB := kTB_of (List.mem_append_right _ (List.mem_of_getElem? (i := 964) (by decide +kernel))) rfl
theorem kw_965 : Cond.classLink "DiceAudit" (376 : Nat) "java/lang/IndexOutOfBoundsException" ∈ kTB := kTB_of (List.mem_append_right _ (List.mem_of_getElem? (i := 965) (by decide +kernel))) rfl
theorem kw_966 : Cond.instantiable "java/lang/IndexOutOfBoundsException" (6 : Nat) ∈ kTB := kTB_of (List.mem_append_right _ (List.mem_of_getElem? (i := 966) (by decide +kernel))) rfl
theorem kw_967 : Cond.castable "java/lang/IndexOutOfBoundsException" "java/lang/IndexOutOfBoundsException" ∈ kTN := kTN_of (List.mem_append_right _ (List.mem_of_getElem? (i := 967) (by decide +kernel))) rfl
theorem kw_968 : Cond.selects "java/lang/IndexOutOfBoundsException" ({ cls := "java/lang/Throwable", name := "fillInStackTrace", desc := "(I)Ljava/lang/Throwable;" } : Jvm.MethodName) ({ cls := "java/lang/Throwable", name := "fillInStackTrace", desc := "(I)Ljava/lang/Throwable;" } : Jvm.MethodName) ∈ kTB := kTB_of (List.mem_append_right _ (List.mem_of_getElem? (i := 968) (by decide +kernel))) rfl
theorem kw_975 : Cond.methodLink "DiceAudit" (380 : Nat) ({ cls := "java/lang/IndexOutOfBoundsException", name := "<init>", desc := "(Ljava/lang/String;)V" } : Jvm.MethodName) ∈ kTB := kTB_of (List.mem_append_right _ (List.mem_of_getElem? (i := 975) (by decide +kernel))) rfl
theorem kw_976 : Cond.instanceMethod ({ cls := "java/lang/IndexOutOfBoundsException", name := "<init>", desc := "(Ljava/lang/String;)V" } : Jvm.MethodName) ∈ kTB := kTB_of (List.mem_append_right _ (List.mem_of_getElem? (i := 976) (by decide +kernel))) rfl
theorem kw_977 : Cond.code ({ cls := "java/lang/IndexOutOfBoundsException", name := "<init>", desc := "(Ljava/lang/String;)V" } : Jvm.MethodName) prog_20_method_2_code (2 : Nat) (Option.none : Option Jvm.ClassFile.FieldType) ∈ kTB := kTB_of (List.mem_append_right _ (List.mem_of_getElem? (i := 977) (by decide +kernel))) rfl
theorem kw_978 : Cond.methodLink "java/lang/IndexOutOfBoundsException" (7 : Nat) ({ cls := "java/lang/RuntimeException", name := "<init>", desc := "(Ljava/lang/String;)V" } : Jvm.MethodName) ∈ kTB := kTB_of (List.mem_append_right _ (List.mem_of_getElem? (i := 978) (by decide +kernel))) rfl
theorem kw_981 : Cond.methodLink "DiceAudit" (144 : Nat) yX0_faceCount ∈ kTB := kTB_of (List.mem_append_right _ (List.mem_of_getElem? (i := 981) (by decide +kernel))) rfl
theorem kw_982 : Cond.methodLink "DiceAuditLaw" (216 : Nat) yL_weightOf ∈ kTB := kTB_of (List.mem_append_right _ (List.mem_of_getElem? (i := 982) (by decide +kernel))) rfl
theorem kw_983 : Cond.static yL_weightOf ∈ kTB := kTB_of (List.mem_append_right _ (List.mem_of_getElem? (i := 983) (by decide +kernel))) rfl
theorem kw_984 : Cond.codeWith yL_weightOf method_7_code (5 : Nat) (Option.some Jvm.ClassFile.FieldType.int) [((0 : Nat), (10 : Nat), (13 : Nat), (28 : Nat)), ((0 : Nat), (10 : Nat), (17 : Nat), (19 : Nat))] ∈ kTB := kTB_of (List.mem_append_right _ (List.mem_of_getElem? (i := 984) (by decide +kernel))) rfl
theorem kw_985 : Cond.methodLink "DiceAuditLaw" (30 : Nat) yX10_weightOf ∈ kTB := kTB_of (List.mem_append_right _ (List.mem_of_getElem? (i := 985) (by decide +kernel))) rfl
theorem kw_986 : Cond.instanceMethod yX10_weightOf ∈ kTB := kTB_of (List.mem_append_right _ (List.mem_of_getElem? (i := 986) (by decide +kernel))) rfl
theorem kw_987 : Cond.selects "DiceAudit" yX10_weightOf yX10_weightOf ∈ kTB := kTB_of (List.mem_append_right _ (List.mem_of_getElem? (i := 987) (by decide +kernel))) rfl
theorem kw_988 : Cond.code yX10_weightOf prog_1_method_14_code (3 : Nat) (Option.some Jvm.ClassFile.FieldType.int) ∈ kTB := kTB_of (List.mem_append_right _ (List.mem_of_getElem? (i := 988) (by decide +kernel))) rfl
theorem kw_989 : Cond.methodLink "DiceAudit" (148 : Nat) yX10_requireFace ∈ kTB := kTB_of (List.mem_append_right _ (List.mem_of_getElem? (i := 989) (by decide +kernel))) rfl
theorem kw_991 : Cond.instanceMethod yX10_requireFace ∈ kTB := kTB_of (List.mem_append_right _ (List.mem_of_getElem? (i := 991) (by decide +kernel))) rfl
theorem kw_992 : Cond.code yX10_requireFace prog_1_method_72_code (3 : Nat) (Option.none : Option Jvm.ClassFile.FieldType) ∈ kTB := kTB_of (List.mem_append_right _ (List.mem_of_getElem? (i := 992) (by decide +kernel))) rfl
theorem kw_993 : Cond.methodLink "DiceAudit" (152 : Nat) yX0_weight ∈ kTB := kTB_of (List.mem_append_right _ (List.mem_of_getElem? (i := 993) (by decide +kernel))) rfl
theorem kw_994 : Cond.instanceMethod yX0_weight ∈ kTB := kTB_of (List.mem_append_right _ (List.mem_of_getElem? (i := 994) (by decide +kernel))) rfl
theorem kw_995 : Cond.selects "DiceAudit$Dice" yX0_weight yX0_weight ∈ kTB := kTB_of (List.mem_append_right _ (List.mem_of_getElem? (i := 995) (by decide +kernel))) rfl
theorem kw_996 : Cond.code yX0_weight prog_2_method_6_code (3 : Nat) (Option.some Jvm.ClassFile.FieldType.int) ∈ kTB := kTB_of (List.mem_append_right _ (List.mem_of_getElem? (i := 996) (by decide +kernel))) rfl
theorem kw_997 : Cond.methodLink "DiceAuditLaw" (220 : Nat) yL_isBalanced ∈ kTB := kTB_of (List.mem_append_right _ (List.mem_of_getElem? (i := 997) (by decide +kernel))) rfl
theorem kw_998 : Cond.static yL_isBalanced ∈ kTB := kTB_of (List.mem_append_right _ (List.mem_of_getElem? (i := 998) (by decide +kernel))) rfl
theorem kw_999 : Cond.codeWith yL_isBalanced method_8_code (4 : Nat) (Option.some Jvm.ClassFile.FieldType.int) [((0 : Nat), (16 : Nat), (19 : Nat), (28 : Nat))] ∈ kTB := kTB_of (List.mem_append_right _ (List.mem_of_getElem? (i := 999) (by decide +kernel))) rfl
theorem kw_1000 : Cond.methodLink "DiceAuditLaw" (34 : Nat) yX10_isBalanced ∈ kTB := kTB_of (List.mem_append_right _ (List.mem_of_getElem? (i := 1000) (by decide +kernel))) rfl
theorem kw_1001 : Cond.instanceMethod yX10_isBalanced ∈ kTB := kTB_of (List.mem_append_right _ (List.mem_of_getElem? (i := 1001) (by decide +kernel))) rfl
theorem kw_1002 : Cond.selects "DiceAudit" yX10_isBalanced yX10_isBalanced ∈ kTB := kTB_of (List.mem_append_right _ (List.mem_of_getElem? (i := 1002) (by decide +kernel))) rfl
theorem kw_1003 : Cond.code yX10_isBalanced prog_1_method_15_code (2 : Nat) (Option.some Jvm.ClassFile.FieldType.boolean) ∈ kTB := kTB_of (List.mem_append_right _ (List.mem_of_getElem? (i := 1003) (by decide +kernel))) rfl
theorem kw_1004 : Cond.methodLink "DiceAudit" (156 : Nat) yX0_hasEqualWeights ∈ kTB := kTB_of (List.mem_append_right _ (List.mem_of_getElem? (i := 1004) (by decide +kernel))) rfl
theorem kw_1005 : Cond.instanceMethod yX0_hasEqualWeights ∈ kTB := kTB_of (List.mem_append_right _ (List.mem_of_getElem? (i := 1005) (by decide +kernel))) rfl
theorem kw_1006 : Cond.selects "DiceAudit$Dice" yX0_hasEqualWeights yX0_hasEqualWeights ∈ kTB := kTB_of (List.mem_append_right _ (List.mem_of_getElem? (i := 1006) (by decide +kernel))) rfl
theorem kw_1007 : Cond.code yX0_hasEqualWeights prog_2_method_9_code (4 : Nat) (Option.some Jvm.ClassFile.FieldType.boolean) ∈ kTB := kTB_of (List.mem_append_right _ (List.mem_of_getElem? (i := 1007) (by decide +kernel))) rfl
theorem kw_1008 : Cond.methodLink "DiceAudit$Dice" (46 : Nat) yX0_weight ∈ kTB := kTB_of (List.mem_append_right _ (List.mem_of_getElem? (i := 1008) (by decide +kernel))) rfl
theorem kw_1009 : Cond.methodLink "DiceAudit$Dice" (38 : Nat) yX0_faceCount ∈ kTB := kTB_of (List.mem_append_right _ (List.mem_of_getElem? (i := 1009) (by decide +kernel))) rfl
theorem kw_1010 : Cond.methodLink "DiceAuditLaw" (223 : Nat) yL_heaviestFace ∈ kTB := kTB_of (List.mem_append_right _ (List.mem_of_getElem? (i := 1010) (by decide +kernel))) rfl
theorem kw_1011 : Cond.static yL_heaviestFace ∈ kTB := kTB_of (List.mem_append_right _ (List.mem_of_getElem? (i := 1011) (by decide +kernel))) rfl
theorem kw_1012 : Cond.codeWith yL_heaviestFace method_9_code (4 : Nat) (Option.some Jvm.ClassFile.FieldType.int) [((0 : Nat), (9 : Nat), (12 : Nat), (28 : Nat))] ∈ kTB := kTB_of (List.mem_append_right _ (List.mem_of_getElem? (i := 1012) (by decide +kernel))) rfl
theorem kw_1013 : Cond.methodLink "DiceAuditLaw" (38 : Nat) yX10_heaviestFace ∈ kTB := kTB_of (List.mem_append_right _ (List.mem_of_getElem? (i := 1013) (by decide +kernel))) rfl
theorem kw_1014 : Cond.instanceMethod yX10_heaviestFace ∈ kTB := kTB_of (List.mem_append_right _ (List.mem_of_getElem? (i := 1014) (by decide +kernel))) rfl
theorem kw_1015 : Cond.selects "DiceAudit" yX10_heaviestFace yX10_heaviestFace ∈ kTB := kTB_of (List.mem_append_right _ (List.mem_of_getElem? (i := 1015) (by decide +kernel))) rfl
theorem kw_1016 : Cond.code yX10_heaviestFace prog_1_method_16_code (2 : Nat) (Option.some Jvm.ClassFile.FieldType.int) ∈ kTB := kTB_of (List.mem_append_right _ (List.mem_of_getElem? (i := 1016) (by decide +kernel))) rfl
theorem kw_1017 : Cond.methodLink "DiceAudit" (163 : Nat) yX10_cellOf ∈ kTB := kTB_of (List.mem_append_right _ (List.mem_of_getElem? (i := 1017) (by decide +kernel))) rfl
theorem kw_1018 : Cond.methodLink "DiceAudit" (166 : Nat) yX10_greatestCell ∈ kTB := kTB_of (List.mem_append_right _ (List.mem_of_getElem? (i := 1018) (by decide +kernel))) rfl
theorem kw_1019 : Cond.static yX10_greatestCell ∈ kTB := kTB_of (List.mem_append_right _ (List.mem_of_getElem? (i := 1019) (by decide +kernel))) rfl
theorem kw_1020 : Cond.code yX10_greatestCell prog_1_method_80_code (7 : Nat) (Option.some Jvm.ClassFile.FieldType.int) ∈ kTB := kTB_of (List.mem_append_right _ (List.mem_of_getElem? (i := 1020) (by decide +kernel))) rfl
theorem kw_1021 : Cond.methodLink "DiceAuditLaw" (226 : Nat) yL_nameByte ∈ kTB := kTB_of (List.mem_append_right _ (List.mem_of_getElem? (i := 1021) (by decide +kernel))) rfl
theorem kw_1022 : Cond.static yL_nameByte ∈ kTB := kTB_of (List.mem_append_right _ (List.mem_of_getElem? (i := 1022) (by decide +kernel))) rfl
theorem kw_1023 : Cond.codeWith yL_nameByte method_10_code (5 : Nat) (Option.some Jvm.ClassFile.FieldType.int) [((0 : Nat), (10 : Nat), (13 : Nat), (28 : Nat)), ((0 : Nat), (10 : Nat), (17 : Nat), (44 : Nat))] ∈ kTB := kTB_of (List.mem_append_right _ (List.mem_of_getElem? (i := 1023) (by decide +kernel))) rfl
theorem kw_1024 : Cond.classLink "DiceAuditLaw" (44 : Nat) "java/util/NoSuchElementException" ∈ kTB := kTB_of (List.mem_append_right _ (List.mem_of_getElem? (i := 1024) (by decide +kernel))) rfl
theorem kw_1025 : Cond.methodLink "DiceAuditLaw" (41 : Nat) yX10_nameByte ∈ kTB := kTB_of (List.mem_append_right _ (List.mem_of_getElem? (i := 1025) (by decide +kernel))) rfl
theorem kw_1026 : Cond.instanceMethod yX10_nameByte ∈ kTB := kTB_of (List.mem_append_right _ (List.mem_of_getElem? (i := 1026) (by decide +kernel))) rfl
theorem kw_1027 : Cond.selects "DiceAudit" yX10_nameByte yX10_nameByte ∈ kTB := kTB_of (List.mem_append_right _ (List.mem_of_getElem? (i := 1027) (by decide +kernel))) rfl
theorem kw_1028 : Cond.code yX10_nameByte prog_1_method_17_code (3 : Nat) (Option.some Jvm.ClassFile.FieldType.int) ∈ kTB := kTB_of (List.mem_append_right _ (List.mem_of_getElem? (i := 1028) (by decide +kernel))) rfl
theorem kw_1029 : Cond.methodLink "DiceAudit" (170 : Nat) yX10_requirePlayer ∈ kTB := kTB_of (List.mem_append_right _ (List.mem_of_getElem? (i := 1029) (by decide +kernel))) rfl
theorem kw_1031 : Cond.instanceMethod yX10_requirePlayer ∈ kTB := kTB_of (List.mem_append_right _ (List.mem_of_getElem? (i := 1031) (by decide +kernel))) rfl
theorem kw_1032 : Cond.code yX10_requirePlayer prog_1_method_68_code (2 : Nat) (Option.none : Option Jvm.ClassFile.FieldType) ∈ kTB := kTB_of (List.mem_append_right _ (List.mem_of_getElem? (i := 1032) (by decide +kernel))) rfl
theorem kw_1033 : Cond.classLink "DiceAudit" (176 : Nat) "java/util/NoSuchElementException" ∈ kTB := kTB_of (List.mem_append_right _ (List.mem_of_getElem? (i := 1033) (by decide +kernel))) rfl
theorem kw_1034 : Cond.instantiable "java/util/NoSuchElementException" (6 : Nat) ∈ kTB := kTB_of (List.mem_append_right _ (List.mem_of_getElem? (i := 1034) (by decide +kernel))) rfl
theorem kw_1035 : Cond.castable "java/util/NoSuchElementException" "java/util/NoSuchElementException" ∈ kTN := kTN_of (List.mem_append_right _ (List.mem_of_getElem? (i := 1035) (by decide +kernel))) rfl
theorem kw_1036 : Cond.selects "java/util/NoSuchElementException" ({ cls := "java/lang/Throwable", name := "fillInStackTrace", desc := "(I)Ljava/lang/Throwable;" } : Jvm.MethodName) ({ cls := "java/lang/Throwable", name := "fillInStackTrace", desc := "(I)Ljava/lang/Throwable;" } : Jvm.MethodName) ∈ kTB := kTB_of (List.mem_append_right _ (List.mem_of_getElem? (i := 1036) (by decide +kernel))) rfl
theorem kw_1043 : Cond.methodLink "DiceAudit" (180 : Nat) ({ cls := "java/util/NoSuchElementException", name := "<init>", desc := "(Ljava/lang/String;)V" } : Jvm.MethodName) ∈ kTB := kTB_of (List.mem_append_right _ (List.mem_of_getElem? (i := 1043) (by decide +kernel))) rfl
theorem kw_1044 : Cond.instanceMethod ({ cls := "java/util/NoSuchElementException", name := "<init>", desc := "(Ljava/lang/String;)V" } : Jvm.MethodName) ∈ kTB := kTB_of (List.mem_append_right _ (List.mem_of_getElem? (i := 1044) (by decide +kernel))) rfl
theorem kw_1045 : Cond.code ({ cls := "java/util/NoSuchElementException", name := "<init>", desc := "(Ljava/lang/String;)V" } : Jvm.MethodName) prog_31_method_4_code (2 : Nat) (Option.none : Option Jvm.ClassFile.FieldType) ∈ kTB := kTB_of (List.mem_append_right _ (List.mem_of_getElem? (i := 1045) (by decide +kernel))) rfl
theorem kw_1046 : Cond.methodLink "java/util/NoSuchElementException" (13 : Nat) ({ cls := "java/lang/RuntimeException", name := "<init>", desc := "(Ljava/lang/String;)V" } : Jvm.MethodName) ∈ kTB := kTB_of (List.mem_append_right _ (List.mem_of_getElem? (i := 1046) (by decide +kernel))) rfl
theorem kw_1049 : Cond.methodLink "DiceAuditLaw" (229 : Nat) yL_playerAt ∈ kTB := kTB_of (List.mem_append_right _ (List.mem_of_getElem? (i := 1049) (by decide +kernel))) rfl
theorem kw_1050 : Cond.static yL_playerAt ∈ kTB := kTB_of (List.mem_append_right _ (List.mem_of_getElem? (i := 1050) (by decide +kernel))) rfl
theorem kw_1051 : Cond.codeWith yL_playerAt method_11_code (4 : Nat) (Option.some Jvm.ClassFile.FieldType.int) [((0 : Nat), (9 : Nat), (12 : Nat), (28 : Nat))] ∈ kTB := kTB_of (List.mem_append_right _ (List.mem_of_getElem? (i := 1051) (by decide +kernel))) rfl
theorem kw_1052 : Cond.methodLink "DiceAuditLaw" (46 : Nat) yX10_playerAt ∈ kTB := kTB_of (List.mem_append_right _ (List.mem_of_getElem? (i := 1052) (by decide +kernel))) rfl
theorem kw_1053 : Cond.instanceMethod yX10_playerAt ∈ kTB := kTB_of (List.mem_append_right _ (List.mem_of_getElem? (i := 1053) (by decide +kernel))) rfl
theorem kw_1054 : Cond.selects "DiceAudit" yX10_playerAt yX10_playerAt ∈ kTB := kTB_of (List.mem_append_right _ (List.mem_of_getElem? (i := 1054) (by decide +kernel))) rfl
theorem kw_1055 : Cond.code yX10_playerAt prog_1_method_18_code (2 : Nat) (Option.some Jvm.ClassFile.FieldType.int) ∈ kTB := kTB_of (List.mem_append_right _ (List.mem_of_getElem? (i := 1055) (by decide +kernel))) rfl
theorem kw_1056 : Cond.methodLink "DiceAudit" (184 : Nat) yX10_requireThrow ∈ kTB := kTB_of (List.mem_append_right _ (List.mem_of_getElem? (i := 1056) (by decide +kernel))) rfl
theorem kw_1058 : Cond.instanceMethod yX10_requireThrow ∈ kTB := kTB_of (List.mem_append_right _ (List.mem_of_getElem? (i := 1058) (by decide +kernel))) rfl
theorem kw_1059 : Cond.code yX10_requireThrow prog_1_method_70_code (2 : Nat) (Option.none : Option Jvm.ClassFile.FieldType) ∈ kTB := kTB_of (List.mem_append_right _ (List.mem_of_getElem? (i := 1059) (by decide +kernel))) rfl
theorem kw_1060 : Cond.methodLink "DiceAudit" (187 : Nat) yX4_pairIn ∈ kTB := kTB_of (List.mem_append_right _ (List.mem_of_getElem? (i := 1060) (by decide +kernel))) rfl
theorem kw_1061 : Cond.methodLink "DiceAuditLaw" (232 : Nat) yL_dieAt ∈ kTB := kTB_of (List.mem_append_right _ (List.mem_of_getElem? (i := 1061) (by decide +kernel))) rfl
theorem kw_1062 : Cond.static yL_dieAt ∈ kTB := kTB_of (List.mem_append_right _ (List.mem_of_getElem? (i := 1062) (by decide +kernel))) rfl
theorem kw_1063 : Cond.codeWith yL_dieAt method_12_code (4 : Nat) (Option.some Jvm.ClassFile.FieldType.int) [((0 : Nat), (9 : Nat), (12 : Nat), (28 : Nat))] ∈ kTB := kTB_of (List.mem_append_right _ (List.mem_of_getElem? (i := 1063) (by decide +kernel))) rfl
theorem kw_1064 : Cond.methodLink "DiceAuditLaw" (49 : Nat) yX10_dieAt ∈ kTB := kTB_of (List.mem_append_right _ (List.mem_of_getElem? (i := 1064) (by decide +kernel))) rfl
theorem kw_1065 : Cond.instanceMethod yX10_dieAt ∈ kTB := kTB_of (List.mem_append_right _ (List.mem_of_getElem? (i := 1065) (by decide +kernel))) rfl
theorem kw_1066 : Cond.selects "DiceAudit" yX10_dieAt yX10_dieAt ∈ kTB := kTB_of (List.mem_append_right _ (List.mem_of_getElem? (i := 1066) (by decide +kernel))) rfl
theorem kw_1067 : Cond.code yX10_dieAt prog_1_method_19_code (2 : Nat) (Option.some Jvm.ClassFile.FieldType.int) ∈ kTB := kTB_of (List.mem_append_right _ (List.mem_of_getElem? (i := 1067) (by decide +kernel))) rfl
theorem kw_1068 : Cond.methodLink "DiceAuditLaw" (235 : Nat) yL_faceAt ∈ kTB := kTB_of (List.mem_append_right _ (List.mem_of_getElem? (i := 1068) (by decide +kernel))) rfl
theorem kw_1069 : Cond.static yL_faceAt ∈ kTB := kTB_of (List.mem_append_right _ (List.mem_of_getElem? (i := 1069) (by decide +kernel))) rfl
theorem kw_1070 : Cond.codeWith yL_faceAt method_13_code (4 : Nat) (Option.some Jvm.ClassFile.FieldType.int) [((0 : Nat), (9 : Nat), (12 : Nat), (28 : Nat))] ∈ kTB := kTB_of (List.mem_append_right _ (List.mem_of_getElem? (i := 1070) (by decide +kernel))) rfl
theorem kw_1071 : Cond.methodLink "DiceAuditLaw" (52 : Nat) yX10_faceAt ∈ kTB := kTB_of (List.mem_append_right _ (List.mem_of_getElem? (i := 1071) (by decide +kernel))) rfl
theorem kw_1072 : Cond.instanceMethod yX10_faceAt ∈ kTB := kTB_of (List.mem_append_right _ (List.mem_of_getElem? (i := 1072) (by decide +kernel))) rfl
theorem kw_1073 : Cond.selects "DiceAudit" yX10_faceAt yX10_faceAt ∈ kTB := kTB_of (List.mem_append_right _ (List.mem_of_getElem? (i := 1073) (by decide +kernel))) rfl
theorem kw_1074 : Cond.code yX10_faceAt prog_1_method_20_code (2 : Nat) (Option.some Jvm.ClassFile.FieldType.int) ∈ kTB := kTB_of (List.mem_append_right _ (List.mem_of_getElem? (i := 1074) (by decide +kernel))) rfl
theorem kw_1075 : Cond.methodLink "DiceAudit" (196 : Nat) yX4_faceIn ∈ kTB := kTB_of (List.mem_append_right _ (List.mem_of_getElem? (i := 1075) (by decide +kernel))) rfl
theorem kw_1076 : Cond.methodLink "DiceAuditLaw" (238 : Nat) yL_isFairAt ∈ kTB := kTB_of (List.mem_append_right _ (List.mem_of_getElem? (i := 1076) (by decide +kernel))) rfl
theorem kw_1077 : Cond.static yL_isFairAt ∈ kTB := kTB_of (List.mem_append_right _ (List.mem_of_getElem? (i := 1077) (by decide +kernel))) rfl
theorem kw_1078 : Cond.codeWith yL_isFairAt method_14_code (4 : Nat) (Option.some Jvm.ClassFile.FieldType.int) [((0 : Nat), (16 : Nat), (19 : Nat), (28 : Nat))] ∈ kTB := kTB_of (List.mem_append_right _ (List.mem_of_getElem? (i := 1078) (by decide +kernel))) rfl
theorem kw_1079 : Cond.methodLink "DiceAuditLaw" (55 : Nat) yX10_isFairAt ∈ kTB := kTB_of (List.mem_append_right _ (List.mem_of_getElem? (i := 1079) (by decide +kernel))) rfl
theorem kw_1080 : Cond.instanceMethod yX10_isFairAt ∈ kTB := kTB_of (List.mem_append_right _ (List.mem_of_getElem? (i := 1080) (by decide +kernel))) rfl
theorem kw_1081 : Cond.selects "DiceAudit" yX10_isFairAt yX10_isFairAt ∈ kTB := kTB_of (List.mem_append_right _ (List.mem_of_getElem? (i := 1081) (by decide +kernel))) rfl
theorem kw_1082 : Cond.code yX10_isFairAt prog_1_method_21_code (2 : Nat) (Option.some Jvm.ClassFile.FieldType.boolean) ∈ kTB := kTB_of (List.mem_append_right _ (List.mem_of_getElem? (i := 1082) (by decide +kernel))) rfl
theorem kw_1083 : Cond.methodLink "DiceAudit" (199 : Nat) yX4_isMarked ∈ kTB := kTB_of (List.mem_append_right _ (List.mem_of_getElem? (i := 1083) (by decide +kernel))) rfl
theorem kw_1084 : Cond.methodLink "DiceAuditLaw" (241 : Nat) yL_throwsOf ∈ kTB := kTB_of (List.mem_append_right _ (List.mem_of_getElem? (i := 1084) (by decide +kernel))) rfl
theorem kw_1085 : Cond.static yL_throwsOf ∈ kTB := kTB_of (List.mem_append_right _ (List.mem_of_getElem? (i := 1085) (by decide +kernel))) rfl
theorem kw_1086 : Cond.codeWith yL_throwsOf method_15_code (4 : Nat) (Option.some Jvm.ClassFile.FieldType.int) [((0 : Nat), (9 : Nat), (12 : Nat), (28 : Nat))] ∈ kTB := kTB_of (List.mem_append_right _ (List.mem_of_getElem? (i := 1086) (by decide +kernel))) rfl
theorem kw_1087 : Cond.methodLink "DiceAuditLaw" (58 : Nat) yX10_throwsOf ∈ kTB := kTB_of (List.mem_append_right _ (List.mem_of_getElem? (i := 1087) (by decide +kernel))) rfl
theorem kw_1088 : Cond.instanceMethod yX10_throwsOf ∈ kTB := kTB_of (List.mem_append_right _ (List.mem_of_getElem? (i := 1088) (by decide +kernel))) rfl
theorem kw_1089 : Cond.selects "DiceAudit" yX10_throwsOf yX10_throwsOf ∈ kTB := kTB_of (List.mem_append_right _ (List.mem_of_getElem? (i := 1089) (by decide +kernel))) rfl
theorem kw_1090 : Cond.code yX10_throwsOf prog_1_method_22_code (2 : Nat) (Option.some Jvm.ClassFile.FieldType.int) ∈ kTB := kTB_of (List.mem_append_right _ (List.mem_of_getElem? (i := 1090) (by decide +kernel))) rfl
theorem kw_1091 : Cond.methodLink "DiceAuditLaw" (244 : Nat) yL_total ∈ kTB := kTB_of (List.mem_append_right _ (List.mem_of_getElem? (i := 1091) (by decide +kernel))) rfl
theorem kw_1092 : Cond.static yL_total ∈ kTB := kTB_of (List.mem_append_right _ (List.mem_of_getElem? (i := 1092) (by decide +kernel))) rfl
theorem kw_1093 : Cond.codeWith yL_total method_16_code (4 : Nat) (Option.some Jvm.ClassFile.FieldType.int) [((0 : Nat), (9 : Nat), (12 : Nat), (28 : Nat))] ∈ kTB := kTB_of (List.mem_append_right _ (List.mem_of_getElem? (i := 1093) (by decide +kernel))) rfl
theorem kw_1094 : Cond.methodLink "DiceAuditLaw" (61 : Nat) yX10_total ∈ kTB := kTB_of (List.mem_append_right _ (List.mem_of_getElem? (i := 1094) (by decide +kernel))) rfl
theorem kw_1095 : Cond.instanceMethod yX10_total ∈ kTB := kTB_of (List.mem_append_right _ (List.mem_of_getElem? (i := 1095) (by decide +kernel))) rfl
theorem kw_1096 : Cond.selects "DiceAudit" yX10_total yX10_total ∈ kTB := kTB_of (List.mem_append_right _ (List.mem_of_getElem? (i := 1096) (by decide +kernel))) rfl
theorem kw_1097 : Cond.code yX10_total prog_1_method_23_code (2 : Nat) (Option.some Jvm.ClassFile.FieldType.int) ∈ kTB := kTB_of (List.mem_append_right _ (List.mem_of_getElem? (i := 1097) (by decide +kernel))) rfl
theorem kw_1098 : Cond.methodLink "DiceAuditLaw" (247 : Nat) yL_meanFace ∈ kTB := kTB_of (List.mem_append_right _ (List.mem_of_getElem? (i := 1098) (by decide +kernel))) rfl
theorem kw_1099 : Cond.static yL_meanFace ∈ kTB := kTB_of (List.mem_append_right _ (List.mem_of_getElem? (i := 1099) (by decide +kernel))) rfl
theorem kw_1100 : Cond.codeWith yL_meanFace method_17_code (4 : Nat) (Option.some Jvm.ClassFile.FieldType.int) [((0 : Nat), (8 : Nat), (11 : Nat), (28 : Nat))] ∈ kTB := kTB_of (List.mem_append_right _ (List.mem_of_getElem? (i := 1100) (by decide +kernel))) rfl
theorem kw_1101 : Cond.methodLink "DiceAuditLaw" (64 : Nat) yX10_meanFace ∈ kTB := kTB_of (List.mem_append_right _ (List.mem_of_getElem? (i := 1101) (by decide +kernel))) rfl
theorem kw_1102 : Cond.instanceMethod yX10_meanFace ∈ kTB := kTB_of (List.mem_append_right _ (List.mem_of_getElem? (i := 1102) (by decide +kernel))) rfl
theorem kw_1103 : Cond.selects "DiceAudit" yX10_meanFace yX10_meanFace ∈ kTB := kTB_of (List.mem_append_right _ (List.mem_of_getElem? (i := 1103) (by decide +kernel))) rfl
theorem kw_1104 : Cond.code yX10_meanFace prog_1_method_24_code (3 : Nat) (Option.some Jvm.ClassFile.FieldType.double) ∈ kTB := kTB_of (List.mem_append_right _ (List.mem_of_getElem? (i := 1104) (by decide +kernel))) rfl
theorem kw_1105 : Cond.methodLink "DiceAuditLaw" (251 : Nat) yL_rankOf ∈ kTB := kTB_of (List.mem_append_right _ (List.mem_of_getElem? (i := 1105) (by decide +kernel))) rfl
theorem kw_1106 : Cond.static yL_rankOf ∈ kTB := kTB_of (List.mem_append_right _ (List.mem_of_getElem? (i := 1106) (by decide +kernel))) rfl
theorem kw_1107 : Cond.codeWith yL_rankOf method_18_code (4 : Nat) (Option.some Jvm.ClassFile.FieldType.int) [((0 : Nat), (9 : Nat), (12 : Nat), (28 : Nat))] ∈ kTB := kTB_of (List.mem_append_right _ (List.mem_of_getElem? (i := 1107) (by decide +kernel))) rfl
theorem kw_1108 : Cond.methodLink "DiceAuditLaw" (68 : Nat) yX10_rankOf ∈ kTB := kTB_of (List.mem_append_right _ (List.mem_of_getElem? (i := 1108) (by decide +kernel))) rfl
theorem kw_1109 : Cond.instanceMethod yX10_rankOf ∈ kTB := kTB_of (List.mem_append_right _ (List.mem_of_getElem? (i := 1109) (by decide +kernel))) rfl
theorem kw_1110 : Cond.selects "DiceAudit" yX10_rankOf yX10_rankOf ∈ kTB := kTB_of (List.mem_append_right _ (List.mem_of_getElem? (i := 1110) (by decide +kernel))) rfl
theorem kw_1111 : Cond.code yX10_rankOf prog_1_method_25_code (2 : Nat) (Option.some Jvm.ClassFile.FieldType.int) ∈ kTB := kTB_of (List.mem_append_right _ (List.mem_of_getElem? (i := 1111) (by decide +kernel))) rfl
theorem kw_1112 : Cond.methodLink "DiceAudit" (208 : Nat) yX2_placeByTotal ∈ kTB := kTB_of (List.mem_append_right _ (List.mem_of_getElem? (i := 1112) (by decide +kernel))) rfl
theorem kw_1113 : Cond.instanceMethod yX2_placeByTotal ∈ kTB := kTB_of (List.mem_append_right _ (List.mem_of_getElem? (i := 1113) (by decide +kernel))) rfl
theorem kw_1114 : Cond.selects "DiceAudit$Hall" yX2_placeByTotal yX2_placeByTotal ∈ kTB := kTB_of (List.mem_append_right _ (List.mem_of_getElem? (i := 1114) (by decide +kernel))) rfl
theorem kw_1115 : Cond.code yX2_placeByTotal prog_4_method_13_code (4 : Nat) (Option.some Jvm.ClassFile.FieldType.int) ∈ kTB := kTB_of (List.mem_append_right _ (List.mem_of_getElem? (i := 1115) (by decide +kernel))) rfl
theorem kw_1116 : Cond.methodLink "DiceAudit$Hall" (153 : Nat) yX2_ranksBefore ∈ kTB := kTB_of (List.mem_append_right _ (List.mem_of_getElem? (i := 1116) (by decide +kernel))) rfl
theorem kw_1118 : Cond.instanceMethod yX2_ranksBefore ∈ kTB := kTB_of (List.mem_append_right _ (List.mem_of_getElem? (i := 1118) (by decide +kernel))) rfl
theorem kw_1119 : Cond.code yX2_ranksBefore prog_4_method_14_code (4 : Nat) (Option.some Jvm.ClassFile.FieldType.boolean) ∈ kTB := kTB_of (List.mem_append_right _ (List.mem_of_getElem? (i := 1119) (by decide +kernel))) rfl
theorem kw_1120 : Cond.methodLink "DiceAudit$Hall" (156 : Nat) yX4_playerTotal ∈ kTB := kTB_of (List.mem_append_right _ (List.mem_of_getElem? (i := 1120) (by decide +kernel))) rfl
theorem kw_1121 : Cond.methodLink "DiceAudit$Hall" (159 : Nat) yX7_comesBefore ∈ kTB := kTB_of (List.mem_append_right _ (List.mem_of_getElem? (i := 1121) (by decide +kernel))) rfl
theorem kw_1122 : Cond.methodLink "DiceAuditLaw" (254 : Nat) yL_playerWithRank ∈ kTB := kTB_of (List.mem_append_right _ (List.mem_of_getElem? (i := 1122) (by decide +kernel))) rfl
theorem kw_1123 : Cond.static yL_playerWithRank ∈ kTB := kTB_of (List.mem_append_right _ (List.mem_of_getElem? (i := 1123) (by decide +kernel))) rfl
theorem kw_1124 : Cond.codeWith yL_playerWithRank method_19_code (4 : Nat) (Option.some Jvm.ClassFile.FieldType.int) [((0 : Nat), (9 : Nat), (12 : Nat), (44 : Nat))] ∈ kTB := kTB_of (List.mem_append_right _ (List.mem_of_getElem? (i := 1124) (by decide +kernel))) rfl
theorem kw_1125 : Cond.methodLink "DiceAuditLaw" (71 : Nat) yX10_playerWithRank ∈ kTB := kTB_of (List.mem_append_right _ (List.mem_of_getElem? (i := 1125) (by decide +kernel))) rfl
theorem kw_1126 : Cond.instanceMethod yX10_playerWithRank ∈ kTB := kTB_of (List.mem_append_right _ (List.mem_of_getElem? (i := 1126) (by decide +kernel))) rfl
theorem kw_1127 : Cond.selects "DiceAudit" yX10_playerWithRank yX10_playerWithRank ∈ kTB := kTB_of (List.mem_append_right _ (List.mem_of_getElem? (i := 1127) (by decide +kernel))) rfl
theorem kw_1128 : Cond.code yX10_playerWithRank prog_1_method_26_code (3 : Nat) (Option.some Jvm.ClassFile.FieldType.int) ∈ kTB := kTB_of (List.mem_append_right _ (List.mem_of_getElem? (i := 1128) (by decide +kernel))) rfl
theorem kw_1130 : Cond.methodLink "DiceAuditLaw" (257 : Nat) yL_longestRun ∈ kTB := kTB_of (List.mem_append_right _ (List.mem_of_getElem? (i := 1130) (by decide +kernel))) rfl
theorem kw_1131 : Cond.static yL_longestRun ∈ kTB := kTB_of (List.mem_append_right _ (List.mem_of_getElem? (i := 1131) (by decide +kernel))) rfl
theorem kw_1132 : Cond.codeWith yL_longestRun method_20_code (4 : Nat) (Option.some Jvm.ClassFile.FieldType.int) [((0 : Nat), (9 : Nat), (12 : Nat), (28 : Nat))] ∈ kTB := kTB_of (List.mem_append_right _ (List.mem_of_getElem? (i := 1132) (by decide +kernel))) rfl
theorem kw_1133 : Cond.methodLink "DiceAuditLaw" (74 : Nat) yX10_longestRun ∈ kTB := kTB_of (List.mem_append_right _ (List.mem_of_getElem? (i := 1133) (by decide +kernel))) rfl
theorem kw_1134 : Cond.instanceMethod yX10_longestRun ∈ kTB := kTB_of (List.mem_append_right _ (List.mem_of_getElem? (i := 1134) (by decide +kernel))) rfl
theorem kw_1135 : Cond.selects "DiceAudit" yX10_longestRun yX10_longestRun ∈ kTB := kTB_of (List.mem_append_right _ (List.mem_of_getElem? (i := 1135) (by decide +kernel))) rfl
theorem kw_1136 : Cond.code yX10_longestRun prog_1_method_27_code (2 : Nat) (Option.some Jvm.ClassFile.FieldType.int) ∈ kTB := kTB_of (List.mem_append_right _ (List.mem_of_getElem? (i := 1136) (by decide +kernel))) rfl
theorem kw_1137 : Cond.methodLink "DiceAudit" (213 : Nat) yX4_longestStreak ∈ kTB := kTB_of (List.mem_append_right _ (List.mem_of_getElem? (i := 1137) (by decide +kernel))) rfl
theorem kw_1138 : Cond.instanceMethod yX4_longestStreak ∈ kTB := kTB_of (List.mem_append_right _ (List.mem_of_getElem? (i := 1138) (by decide +kernel))) rfl
theorem kw_1139 : Cond.selects "DiceAudit$Ledger" yX4_longestStreak yX4_longestStreak ∈ kTB := kTB_of (List.mem_append_right _ (List.mem_of_getElem? (i := 1139) (by decide +kernel))) rfl
theorem kw_1140 : Cond.code yX4_longestStreak prog_6_method_14_code (6 : Nat) (Option.some Jvm.ClassFile.FieldType.int) ∈ kTB := kTB_of (List.mem_append_right _ (List.mem_of_getElem? (i := 1140) (by decide +kernel))) rfl
theorem kw_1141 : Cond.methodLinkNest "DiceAudit$Ledger" (72 : Nat) yX10_playerOf "DiceAudit" ∈ kTN := kTN_of (List.mem_append_right _ (List.mem_of_getElem? (i := 1141) (by decide +kernel))) rfl
theorem kw_1142 : Cond.methodLink "DiceAudit$Ledger" (75 : Nat) yJ9_max_7cf53 ∈ kTB := kTB_of (List.mem_append_right _ (List.mem_of_getElem? (i := 1142) (by decide +kernel))) rfl
theorem kw_1143 : Cond.methodLink "DiceAuditLaw" (264 : Nat) yL_throwsOfPair ∈ kTB := kTB_of (List.mem_append_right _ (List.mem_of_getElem? (i := 1143) (by decide +kernel))) rfl
theorem kw_1144 : Cond.static yL_throwsOfPair ∈ kTB := kTB_of (List.mem_append_right _ (List.mem_of_getElem? (i := 1144) (by decide +kernel))) rfl
theorem kw_1145 : Cond.codeWith yL_throwsOfPair method_21_code (5 : Nat) (Option.some Jvm.ClassFile.FieldType.int) [((0 : Nat), (10 : Nat), (13 : Nat), (28 : Nat))] ∈ kTB := kTB_of (List.mem_append_right _ (List.mem_of_getElem? (i := 1145) (by decide +kernel))) rfl
theorem kw_1146 : Cond.methodLink "DiceAuditLaw" (77 : Nat) yX10_throwsOfPair ∈ kTB := kTB_of (List.mem_append_right _ (List.mem_of_getElem? (i := 1146) (by decide +kernel))) rfl
theorem kw_1147 : Cond.instanceMethod yX10_throwsOfPair ∈ kTB := kTB_of (List.mem_append_right _ (List.mem_of_getElem? (i := 1147) (by decide +kernel))) rfl
theorem kw_1148 : Cond.selects "DiceAudit" yX10_throwsOfPair yX10_throwsOfPair ∈ kTB := kTB_of (List.mem_append_right _ (List.mem_of_getElem? (i := 1148) (by decide +kernel))) rfl
theorem kw_1149 : Cond.code yX10_throwsOfPair prog_1_method_29_code (3 : Nat) (Option.some Jvm.ClassFile.FieldType.int) ∈ kTB := kTB_of (List.mem_append_right _ (List.mem_of_getElem? (i := 1149) (by decide +kernel))) rfl
theorem kw_1150 : Cond.methodLink "DiceAudit" (220 : Nat) yX10_requirePair ∈ kTB := kTB_of (List.mem_append_right _ (List.mem_of_getElem? (i := 1150) (by decide +kernel))) rfl
theorem kw_1152 : Cond.instanceMethod yX10_requirePair ∈ kTB := kTB_of (List.mem_append_right _ (List.mem_of_getElem? (i := 1152) (by decide +kernel))) rfl
theorem kw_1153 : Cond.code yX10_requirePair prog_1_method_69_code (3 : Nat) (Option.none : Option Jvm.ClassFile.FieldType) ∈ kTB := kTB_of (List.mem_append_right _ (List.mem_of_getElem? (i := 1153) (by decide +kernel))) rfl
theorem kw_1154 : Cond.methodLink "DiceAudit" (223 : Nat) yX10_pairOf ∈ kTB := kTB_of (List.mem_append_right _ (List.mem_of_getElem? (i := 1154) (by decide +kernel))) rfl
theorem kw_1155 : Cond.methodLink "DiceAudit" (226 : Nat) yX4_pairThrows ∈ kTB := kTB_of (List.mem_append_right _ (List.mem_of_getElem? (i := 1155) (by decide +kernel))) rfl
theorem kw_1156 : Cond.methodLink "DiceAuditLaw" (267 : Nat) yL_frequency ∈ kTB := kTB_of (List.mem_append_right _ (List.mem_of_getElem? (i := 1156) (by decide +kernel))) rfl
theorem kw_1157 : Cond.static yL_frequency ∈ kTB := kTB_of (List.mem_append_right _ (List.mem_of_getElem? (i := 1157) (by decide +kernel))) rfl
theorem kw_1158 : Cond.codeWith yL_frequency method_22_code (6 : Nat) (Option.some Jvm.ClassFile.FieldType.int) [((0 : Nat), (12 : Nat), (15 : Nat), (28 : Nat)), ((0 : Nat), (12 : Nat), (19 : Nat), (19 : Nat))] ∈ kTB := kTB_of (List.mem_append_right _ (List.mem_of_getElem? (i := 1158) (by decide +kernel))) rfl
theorem kw_1159 : Cond.methodLink "DiceAuditLaw" (80 : Nat) yX10_frequency ∈ kTB := kTB_of (List.mem_append_right _ (List.mem_of_getElem? (i := 1159) (by decide +kernel))) rfl
theorem kw_1160 : Cond.instanceMethod yX10_frequency ∈ kTB := kTB_of (List.mem_append_right _ (List.mem_of_getElem? (i := 1160) (by decide +kernel))) rfl
theorem kw_1161 : Cond.selects "DiceAudit" yX10_frequency yX10_frequency ∈ kTB := kTB_of (List.mem_append_right _ (List.mem_of_getElem? (i := 1161) (by decide +kernel))) rfl
theorem kw_1162 : Cond.code yX10_frequency prog_1_method_30_code (4 : Nat) (Option.some Jvm.ClassFile.FieldType.int) ∈ kTB := kTB_of (List.mem_append_right _ (List.mem_of_getElem? (i := 1162) (by decide +kernel))) rfl
theorem kw_1163 : Cond.methodLink "DiceAuditLaw" (271 : Nat) yL_commonFace ∈ kTB := kTB_of (List.mem_append_right _ (List.mem_of_getElem? (i := 1163) (by decide +kernel))) rfl
theorem kw_1164 : Cond.static yL_commonFace ∈ kTB := kTB_of (List.mem_append_right _ (List.mem_of_getElem? (i := 1164) (by decide +kernel))) rfl
theorem kw_1165 : Cond.codeWith yL_commonFace method_23_code (5 : Nat) (Option.some Jvm.ClassFile.FieldType.int) [((0 : Nat), (10 : Nat), (13 : Nat), (28 : Nat))] ∈ kTB := kTB_of (List.mem_append_right _ (List.mem_of_getElem? (i := 1165) (by decide +kernel))) rfl
theorem kw_1166 : Cond.methodLink "DiceAuditLaw" (84 : Nat) yX10_commonFace ∈ kTB := kTB_of (List.mem_append_right _ (List.mem_of_getElem? (i := 1166) (by decide +kernel))) rfl
theorem kw_1167 : Cond.instanceMethod yX10_commonFace ∈ kTB := kTB_of (List.mem_append_right _ (List.mem_of_getElem? (i := 1167) (by decide +kernel))) rfl
theorem kw_1168 : Cond.selects "DiceAudit" yX10_commonFace yX10_commonFace ∈ kTB := kTB_of (List.mem_append_right _ (List.mem_of_getElem? (i := 1168) (by decide +kernel))) rfl
theorem kw_1169 : Cond.code yX10_commonFace prog_1_method_31_code (4 : Nat) (Option.some Jvm.ClassFile.FieldType.int) ∈ kTB := kTB_of (List.mem_append_right _ (List.mem_of_getElem? (i := 1169) (by decide +kernel))) rfl
theorem kw_1170 : Cond.methodLink "DiceAuditLaw" (274 : Nat) yL_facesSeen ∈ kTB := kTB_of (List.mem_append_right _ (List.mem_of_getElem? (i := 1170) (by decide +kernel))) rfl
theorem kw_1171 : Cond.static yL_facesSeen ∈ kTB := kTB_of (List.mem_append_right _ (List.mem_of_getElem? (i := 1171) (by decide +kernel))) rfl
theorem kw_1172 : Cond.codeWith yL_facesSeen method_24_code (5 : Nat) (Option.some Jvm.ClassFile.FieldType.int) [((0 : Nat), (10 : Nat), (13 : Nat), (28 : Nat))] ∈ kTB := kTB_of (List.mem_append_right _ (List.mem_of_getElem? (i := 1172) (by decide +kernel))) rfl
theorem kw_1173 : Cond.methodLink "DiceAuditLaw" (87 : Nat) yX10_facesSeen ∈ kTB := kTB_of (List.mem_append_right _ (List.mem_of_getElem? (i := 1173) (by decide +kernel))) rfl
theorem kw_1174 : Cond.instanceMethod yX10_facesSeen ∈ kTB := kTB_of (List.mem_append_right _ (List.mem_of_getElem? (i := 1174) (by decide +kernel))) rfl
theorem kw_1175 : Cond.selects "DiceAudit" yX10_facesSeen yX10_facesSeen ∈ kTB := kTB_of (List.mem_append_right _ (List.mem_of_getElem? (i := 1175) (by decide +kernel))) rfl
theorem kw_1176 : Cond.code yX10_facesSeen prog_1_method_32_code (3 : Nat) (Option.some Jvm.ClassFile.FieldType.int) ∈ kTB := kTB_of (List.mem_append_right _ (List.mem_of_getElem? (i := 1176) (by decide +kernel))) rfl
theorem kw_1177 : Cond.methodLink "DiceAudit" (236 : Nat) yX4_distinctFaces ∈ kTB := kTB_of (List.mem_append_right _ (List.mem_of_getElem? (i := 1177) (by decide +kernel))) rfl
theorem kw_1178 : Cond.instanceMethod yX4_distinctFaces ∈ kTB := kTB_of (List.mem_append_right _ (List.mem_of_getElem? (i := 1178) (by decide +kernel))) rfl
theorem kw_1179 : Cond.selects "DiceAudit$Ledger" yX4_distinctFaces yX4_distinctFaces ∈ kTB := kTB_of (List.mem_append_right _ (List.mem_of_getElem? (i := 1179) (by decide +kernel))) rfl
theorem kw_1180 : Cond.code yX4_distinctFaces prog_6_method_10_code (4 : Nat) (Option.some Jvm.ClassFile.FieldType.int) ∈ kTB := kTB_of (List.mem_append_right _ (List.mem_of_getElem? (i := 1180) (by decide +kernel))) rfl
theorem kw_1181 : Cond.methodLink "DiceAuditLaw" (277 : Nat) yL_latestThrow ∈ kTB := kTB_of (List.mem_append_right _ (List.mem_of_getElem? (i := 1181) (by decide +kernel))) rfl
theorem kw_1182 : Cond.static yL_latestThrow ∈ kTB := kTB_of (List.mem_append_right _ (List.mem_of_getElem? (i := 1182) (by decide +kernel))) rfl
theorem kw_1183 : Cond.codeWith yL_latestThrow method_25_code (5 : Nat) (Option.some Jvm.ClassFile.FieldType.int) [((0 : Nat), (10 : Nat), (13 : Nat), (28 : Nat))] ∈ kTB := kTB_of (List.mem_append_right _ (List.mem_of_getElem? (i := 1183) (by decide +kernel))) rfl
theorem kw_1184 : Cond.methodLink "DiceAuditLaw" (90 : Nat) yX10_latestThrow ∈ kTB := kTB_of (List.mem_append_right _ (List.mem_of_getElem? (i := 1184) (by decide +kernel))) rfl
theorem kw_1185 : Cond.instanceMethod yX10_latestThrow ∈ kTB := kTB_of (List.mem_append_right _ (List.mem_of_getElem? (i := 1185) (by decide +kernel))) rfl
theorem kw_1186 : Cond.selects "DiceAudit" yX10_latestThrow yX10_latestThrow ∈ kTB := kTB_of (List.mem_append_right _ (List.mem_of_getElem? (i := 1186) (by decide +kernel))) rfl
theorem kw_1187 : Cond.code yX10_latestThrow prog_1_method_33_code (3 : Nat) (Option.some Jvm.ClassFile.FieldType.int) ∈ kTB := kTB_of (List.mem_append_right _ (List.mem_of_getElem? (i := 1187) (by decide +kernel))) rfl
theorem kw_1188 : Cond.methodLink "DiceAudit" (239 : Nat) yX4_latestOf ∈ kTB := kTB_of (List.mem_append_right _ (List.mem_of_getElem? (i := 1188) (by decide +kernel))) rfl
theorem kw_1189 : Cond.instanceMethod yX4_latestOf ∈ kTB := kTB_of (List.mem_append_right _ (List.mem_of_getElem? (i := 1189) (by decide +kernel))) rfl
theorem kw_1190 : Cond.selects "DiceAudit$Ledger" yX4_latestOf yX4_latestOf ∈ kTB := kTB_of (List.mem_append_right _ (List.mem_of_getElem? (i := 1190) (by decide +kernel))) rfl
theorem kw_1191 : Cond.code yX4_latestOf prog_6_method_11_code (3 : Nat) (Option.some Jvm.ClassFile.FieldType.int) ∈ kTB := kTB_of (List.mem_append_right _ (List.mem_of_getElem? (i := 1191) (by decide +kernel))) rfl
theorem kw_1192 : Cond.methodLink "DiceAuditLaw" (280 : Nat) yL_score ∈ kTB := kTB_of (List.mem_append_right _ (List.mem_of_getElem? (i := 1192) (by decide +kernel))) rfl
theorem kw_1193 : Cond.static yL_score ∈ kTB := kTB_of (List.mem_append_right _ (List.mem_of_getElem? (i := 1193) (by decide +kernel))) rfl
theorem kw_1194 : Cond.codeWith yL_score method_26_code (5 : Nat) (Option.some Jvm.ClassFile.FieldType.int) [((0 : Nat), (10 : Nat), (13 : Nat), (28 : Nat))] ∈ kTB := kTB_of (List.mem_append_right _ (List.mem_of_getElem? (i := 1194) (by decide +kernel))) rfl
theorem kw_1195 : Cond.methodLink "DiceAuditLaw" (93 : Nat) yX10_score ∈ kTB := kTB_of (List.mem_append_right _ (List.mem_of_getElem? (i := 1195) (by decide +kernel))) rfl
theorem kw_1196 : Cond.instanceMethod yX10_score ∈ kTB := kTB_of (List.mem_append_right _ (List.mem_of_getElem? (i := 1196) (by decide +kernel))) rfl
theorem kw_1197 : Cond.selects "DiceAudit" yX10_score yX10_score ∈ kTB := kTB_of (List.mem_append_right _ (List.mem_of_getElem? (i := 1197) (by decide +kernel))) rfl
theorem kw_1198 : Cond.code yX10_score prog_1_method_34_code (3 : Nat) (Option.some Jvm.ClassFile.FieldType.int) ∈ kTB := kTB_of (List.mem_append_right _ (List.mem_of_getElem? (i := 1198) (by decide +kernel))) rfl
theorem kw_1199 : Cond.methodLink "DiceAudit" (242 : Nat) yX2_pairScore ∈ kTB := kTB_of (List.mem_append_right _ (List.mem_of_getElem? (i := 1199) (by decide +kernel))) rfl
theorem kw_1200 : Cond.methodLink "DiceAuditLaw" (283 : Nat) yL_isSuspicious ∈ kTB := kTB_of (List.mem_append_right _ (List.mem_of_getElem? (i := 1200) (by decide +kernel))) rfl
theorem kw_1201 : Cond.static yL_isSuspicious ∈ kTB := kTB_of (List.mem_append_right _ (List.mem_of_getElem? (i := 1201) (by decide +kernel))) rfl
theorem kw_1202 : Cond.codeWith yL_isSuspicious method_27_code (5 : Nat) (Option.some Jvm.ClassFile.FieldType.int) [((0 : Nat), (17 : Nat), (20 : Nat), (28 : Nat))] ∈ kTB := kTB_of (List.mem_append_right _ (List.mem_of_getElem? (i := 1202) (by decide +kernel))) rfl
theorem kw_1203 : Cond.methodLink "DiceAuditLaw" (96 : Nat) yX10_isSuspicious ∈ kTB := kTB_of (List.mem_append_right _ (List.mem_of_getElem? (i := 1203) (by decide +kernel))) rfl
theorem kw_1204 : Cond.instanceMethod yX10_isSuspicious ∈ kTB := kTB_of (List.mem_append_right _ (List.mem_of_getElem? (i := 1204) (by decide +kernel))) rfl
theorem kw_1205 : Cond.selects "DiceAudit" yX10_isSuspicious yX10_isSuspicious ∈ kTB := kTB_of (List.mem_append_right _ (List.mem_of_getElem? (i := 1205) (by decide +kernel))) rfl
theorem kw_1206 : Cond.code yX10_isSuspicious prog_1_method_35_code (3 : Nat) (Option.some Jvm.ClassFile.FieldType.boolean) ∈ kTB := kTB_of (List.mem_append_right _ (List.mem_of_getElem? (i := 1206) (by decide +kernel))) rfl
theorem kw_1207 : Cond.methodLink "DiceAudit" (245 : Nat) yX2_isPairSuspicious ∈ kTB := kTB_of (List.mem_append_right _ (List.mem_of_getElem? (i := 1207) (by decide +kernel))) rfl
theorem kw_1208 : Cond.methodLink "DiceAuditLaw" (298 : Nat) yL_offencePlayer ∈ kTB := kTB_of (List.mem_append_right _ (List.mem_of_getElem? (i := 1208) (by decide +kernel))) rfl
theorem kw_1209 : Cond.static yL_offencePlayer ∈ kTB := kTB_of (List.mem_append_right _ (List.mem_of_getElem? (i := 1209) (by decide +kernel))) rfl
theorem kw_1210 : Cond.codeWith yL_offencePlayer method_28_code (4 : Nat) (Option.some Jvm.ClassFile.FieldType.int) [((0 : Nat), (9 : Nat), (12 : Nat), (28 : Nat))] ∈ kTB := kTB_of (List.mem_append_right _ (List.mem_of_getElem? (i := 1210) (by decide +kernel))) rfl
theorem kw_1211 : Cond.methodLink "DiceAuditLaw" (100 : Nat) yX10_offencePlayer ∈ kTB := kTB_of (List.mem_append_right _ (List.mem_of_getElem? (i := 1211) (by decide +kernel))) rfl
theorem kw_1212 : Cond.instanceMethod yX10_offencePlayer ∈ kTB := kTB_of (List.mem_append_right _ (List.mem_of_getElem? (i := 1212) (by decide +kernel))) rfl
theorem kw_1213 : Cond.selects "DiceAudit" yX10_offencePlayer yX10_offencePlayer ∈ kTB := kTB_of (List.mem_append_right _ (List.mem_of_getElem? (i := 1213) (by decide +kernel))) rfl
theorem kw_1214 : Cond.code yX10_offencePlayer prog_1_method_39_code (2 : Nat) (Option.some Jvm.ClassFile.FieldType.int) ∈ kTB := kTB_of (List.mem_append_right _ (List.mem_of_getElem? (i := 1214) (by decide +kernel))) rfl
theorem kw_1215 : Cond.methodLink "DiceAudit" (262 : Nat) yX10_requireOffence ∈ kTB := kTB_of (List.mem_append_right _ (List.mem_of_getElem? (i := 1215) (by decide +kernel))) rfl
theorem kw_1217 : Cond.instanceMethod yX10_requireOffence ∈ kTB := kTB_of (List.mem_append_right _ (List.mem_of_getElem? (i := 1217) (by decide +kernel))) rfl
theorem kw_1218 : Cond.code yX10_requireOffence prog_1_method_71_code (2 : Nat) (Option.none : Option Jvm.ClassFile.FieldType) ∈ kTB := kTB_of (List.mem_append_right _ (List.mem_of_getElem? (i := 1218) (by decide +kernel))) rfl
theorem kw_1219 : Cond.methodLink "DiceAuditLaw" (301 : Nat) yL_offenceDie ∈ kTB := kTB_of (List.mem_append_right _ (List.mem_of_getElem? (i := 1219) (by decide +kernel))) rfl
theorem kw_1220 : Cond.static yL_offenceDie ∈ kTB := kTB_of (List.mem_append_right _ (List.mem_of_getElem? (i := 1220) (by decide +kernel))) rfl
theorem kw_1221 : Cond.codeWith yL_offenceDie method_29_code (4 : Nat) (Option.some Jvm.ClassFile.FieldType.int) [((0 : Nat), (9 : Nat), (12 : Nat), (28 : Nat))] ∈ kTB := kTB_of (List.mem_append_right _ (List.mem_of_getElem? (i := 1221) (by decide +kernel))) rfl
theorem kw_1222 : Cond.methodLink "DiceAuditLaw" (103 : Nat) yX10_offenceDie ∈ kTB := kTB_of (List.mem_append_right _ (List.mem_of_getElem? (i := 1222) (by decide +kernel))) rfl
theorem kw_1223 : Cond.instanceMethod yX10_offenceDie ∈ kTB := kTB_of (List.mem_append_right _ (List.mem_of_getElem? (i := 1223) (by decide +kernel))) rfl
theorem kw_1224 : Cond.selects "DiceAudit" yX10_offenceDie yX10_offenceDie ∈ kTB := kTB_of (List.mem_append_right _ (List.mem_of_getElem? (i := 1224) (by decide +kernel))) rfl
theorem kw_1225 : Cond.code yX10_offenceDie prog_1_method_40_code (2 : Nat) (Option.some Jvm.ClassFile.FieldType.int) ∈ kTB := kTB_of (List.mem_append_right _ (List.mem_of_getElem? (i := 1225) (by decide +kernel))) rfl
theorem kw_1226 : Cond.methodLink "DiceAuditLaw" (304 : Nat) yL_offenceScore ∈ kTB := kTB_of (List.mem_append_right _ (List.mem_of_getElem? (i := 1226) (by decide +kernel))) rfl
theorem kw_1227 : Cond.static yL_offenceScore ∈ kTB := kTB_of (List.mem_append_right _ (List.mem_of_getElem? (i := 1227) (by decide +kernel))) rfl
theorem kw_1228 : Cond.codeWith yL_offenceScore method_30_code (4 : Nat) (Option.some Jvm.ClassFile.FieldType.int) [((0 : Nat), (9 : Nat), (12 : Nat), (28 : Nat))] ∈ kTB := kTB_of (List.mem_append_right _ (List.mem_of_getElem? (i := 1228) (by decide +kernel))) rfl
theorem kw_1229 : Cond.methodLink "DiceAuditLaw" (106 : Nat) yX10_offenceScore ∈ kTB := kTB_of (List.mem_append_right _ (List.mem_of_getElem? (i := 1229) (by decide +kernel))) rfl
theorem kw_1230 : Cond.instanceMethod yX10_offenceScore ∈ kTB := kTB_of (List.mem_append_right _ (List.mem_of_getElem? (i := 1230) (by decide +kernel))) rfl
theorem kw_1231 : Cond.selects "DiceAudit" yX10_offenceScore yX10_offenceScore ∈ kTB := kTB_of (List.mem_append_right _ (List.mem_of_getElem? (i := 1231) (by decide +kernel))) rfl
theorem kw_1232 : Cond.code yX10_offenceScore prog_1_method_41_code (2 : Nat) (Option.some Jvm.ClassFile.FieldType.int) ∈ kTB := kTB_of (List.mem_append_right _ (List.mem_of_getElem? (i := 1232) (by decide +kernel))) rfl
theorem kw_1233 : Cond.methodLink "DiceAuditLaw" (307 : Nat) yL_offencesOf ∈ kTB := kTB_of (List.mem_append_right _ (List.mem_of_getElem? (i := 1233) (by decide +kernel))) rfl
theorem kw_1234 : Cond.static yL_offencesOf ∈ kTB := kTB_of (List.mem_append_right _ (List.mem_of_getElem? (i := 1234) (by decide +kernel))) rfl
theorem kw_1235 : Cond.codeWith yL_offencesOf method_31_code (4 : Nat) (Option.some Jvm.ClassFile.FieldType.int) [((0 : Nat), (9 : Nat), (12 : Nat), (28 : Nat))] ∈ kTB := kTB_of (List.mem_append_right _ (List.mem_of_getElem? (i := 1235) (by decide +kernel))) rfl
theorem kw_1236 : Cond.methodLink "DiceAuditLaw" (109 : Nat) yX10_offencesOf ∈ kTB := kTB_of (List.mem_append_right _ (List.mem_of_getElem? (i := 1236) (by decide +kernel))) rfl
theorem kw_1237 : Cond.instanceMethod yX10_offencesOf ∈ kTB := kTB_of (List.mem_append_right _ (List.mem_of_getElem? (i := 1237) (by decide +kernel))) rfl
theorem kw_1238 : Cond.selects "DiceAudit" yX10_offencesOf yX10_offencesOf ∈ kTB := kTB_of (List.mem_append_right _ (List.mem_of_getElem? (i := 1238) (by decide +kernel))) rfl
theorem kw_1239 : Cond.code yX10_offencesOf prog_1_method_42_code (2 : Nat) (Option.some Jvm.ClassFile.FieldType.int) ∈ kTB := kTB_of (List.mem_append_right _ (List.mem_of_getElem? (i := 1239) (by decide +kernel))) rfl
theorem kw_1240 : Cond.methodLink "DiceAuditLaw" (310 : Nat) yL_nextFace ∈ kTB := kTB_of (List.mem_append_right _ (List.mem_of_getElem? (i := 1240) (by decide +kernel))) rfl
theorem kw_1241 : Cond.static yL_nextFace ∈ kTB := kTB_of (List.mem_append_right _ (List.mem_of_getElem? (i := 1241) (by decide +kernel))) rfl
theorem kw_1242 : Cond.codeWith yL_nextFace method_32_code (4 : Nat) (Option.some Jvm.ClassFile.FieldType.int) [((0 : Nat), (9 : Nat), (12 : Nat), (28 : Nat))] ∈ kTB := kTB_of (List.mem_append_right _ (List.mem_of_getElem? (i := 1242) (by decide +kernel))) rfl
theorem kw_1243 : Cond.methodLink "DiceAuditLaw" (112 : Nat) yX10_nextFace ∈ kTB := kTB_of (List.mem_append_right _ (List.mem_of_getElem? (i := 1243) (by decide +kernel))) rfl
theorem kw_1244 : Cond.instanceMethod yX10_nextFace ∈ kTB := kTB_of (List.mem_append_right _ (List.mem_of_getElem? (i := 1244) (by decide +kernel))) rfl
theorem kw_1245 : Cond.selects "DiceAudit" yX10_nextFace yX10_nextFace ∈ kTB := kTB_of (List.mem_append_right _ (List.mem_of_getElem? (i := 1245) (by decide +kernel))) rfl
theorem kw_1246 : Cond.code yX10_nextFace prog_1_method_43_code (2 : Nat) (Option.some Jvm.ClassFile.FieldType.int) ∈ kTB := kTB_of (List.mem_append_right _ (List.mem_of_getElem? (i := 1246) (by decide +kernel))) rfl
theorem kw_1247 : Cond.methodLink "DiceAudit" (274 : Nat) yX10_nextSeed ∈ kTB := kTB_of (List.mem_append_right _ (List.mem_of_getElem? (i := 1247) (by decide +kernel))) rfl
theorem kw_1248 : Cond.methodLink "DiceAudit" (277 : Nat) yX0_faceShown ∈ kTB := kTB_of (List.mem_append_right _ (List.mem_of_getElem? (i := 1248) (by decide +kernel))) rfl
theorem kw_1249 : Cond.methodLink "DiceAuditLaw" (313 : Nat) yL_faceAfter ∈ kTB := kTB_of (List.mem_append_right _ (List.mem_of_getElem? (i := 1249) (by decide +kernel))) rfl
theorem kw_1250 : Cond.static yL_faceAfter ∈ kTB := kTB_of (List.mem_append_right _ (List.mem_of_getElem? (i := 1250) (by decide +kernel))) rfl
theorem kw_1251 : Cond.codeWith yL_faceAfter method_33_code (5 : Nat) (Option.some Jvm.ClassFile.FieldType.int) [((0 : Nat), (10 : Nat), (13 : Nat), (28 : Nat)), ((0 : Nat), (10 : Nat), (17 : Nat), (19 : Nat))] ∈ kTB := kTB_of (List.mem_append_right _ (List.mem_of_getElem? (i := 1251) (by decide +kernel))) rfl
theorem kw_1252 : Cond.methodLink "DiceAuditLaw" (115 : Nat) yX10_faceAfter ∈ kTB := kTB_of (List.mem_append_right _ (List.mem_of_getElem? (i := 1252) (by decide +kernel))) rfl
theorem kw_1253 : Cond.instanceMethod yX10_faceAfter ∈ kTB := kTB_of (List.mem_append_right _ (List.mem_of_getElem? (i := 1253) (by decide +kernel))) rfl
theorem kw_1254 : Cond.selects "DiceAudit" yX10_faceAfter yX10_faceAfter ∈ kTB := kTB_of (List.mem_append_right _ (List.mem_of_getElem? (i := 1254) (by decide +kernel))) rfl
theorem kw_1255 : Cond.code yX10_faceAfter prog_1_method_44_code (5 : Nat) (Option.some Jvm.ClassFile.FieldType.int) ∈ kTB := kTB_of (List.mem_append_right _ (List.mem_of_getElem? (i := 1255) (by decide +kernel))) rfl
theorem kw_1256 : Cond.methodLink "DiceAuditLaw" (316 : Nat) yL_throwsUntil ∈ kTB := kTB_of (List.mem_append_right _ (List.mem_of_getElem? (i := 1256) (by decide +kernel))) rfl
theorem kw_1257 : Cond.static yL_throwsUntil ∈ kTB := kTB_of (List.mem_append_right _ (List.mem_of_getElem? (i := 1257) (by decide +kernel))) rfl
theorem kw_1258 : Cond.codeWith yL_throwsUntil method_34_code (5 : Nat) (Option.some Jvm.ClassFile.FieldType.int) [((0 : Nat), (10 : Nat), (13 : Nat), (28 : Nat)), ((0 : Nat), (10 : Nat), (17 : Nat), (19 : Nat))] ∈ kTB := kTB_of (List.mem_append_right _ (List.mem_of_getElem? (i := 1258) (by decide +kernel))) rfl
theorem kw_1259 : Cond.methodLink "DiceAuditLaw" (118 : Nat) yX10_throwsUntil ∈ kTB := kTB_of (List.mem_append_right _ (List.mem_of_getElem? (i := 1259) (by decide +kernel))) rfl
theorem kw_1260 : Cond.instanceMethod yX10_throwsUntil ∈ kTB := kTB_of (List.mem_append_right _ (List.mem_of_getElem? (i := 1260) (by decide +kernel))) rfl
theorem kw_1261 : Cond.selects "DiceAudit" yX10_throwsUntil yX10_throwsUntil ∈ kTB := kTB_of (List.mem_append_right _ (List.mem_of_getElem? (i := 1261) (by decide +kernel))) rfl
theorem kw_1262 : Cond.code yX10_throwsUntil prog_1_method_45_code (5 : Nat) (Option.some Jvm.ClassFile.FieldType.int) ∈ kTB := kTB_of (List.mem_append_right _ (List.mem_of_getElem? (i := 1262) (by decide +kernel))) rfl
theorem kw_1263 : Cond.methodLink "DiceAuditLaw" (319 : Nat) yL_scoreAfter ∈ kTB := kTB_of (List.mem_append_right _ (List.mem_of_getElem? (i := 1263) (by decide +kernel))) rfl
theorem kw_1264 : Cond.static yL_scoreAfter ∈ kTB := kTB_of (List.mem_append_right _ (List.mem_of_getElem? (i := 1264) (by decide +kernel))) rfl
theorem kw_1265 : Cond.codeWith yL_scoreAfter method_35_code (6 : Nat) (Option.some Jvm.ClassFile.FieldType.int) [((0 : Nat), (12 : Nat), (15 : Nat), (28 : Nat)), ((0 : Nat), (12 : Nat), (19 : Nat), (19 : Nat))] ∈ kTB := kTB_of (List.mem_append_right _ (List.mem_of_getElem? (i := 1265) (by decide +kernel))) rfl
theorem kw_1266 : Cond.methodLink "DiceAuditLaw" (121 : Nat) yX10_scoreAfter ∈ kTB := kTB_of (List.mem_append_right _ (List.mem_of_getElem? (i := 1266) (by decide +kernel))) rfl
theorem kw_1267 : Cond.instanceMethod yX10_scoreAfter ∈ kTB := kTB_of (List.mem_append_right _ (List.mem_of_getElem? (i := 1267) (by decide +kernel))) rfl
theorem kw_1268 : Cond.selects "DiceAudit" yX10_scoreAfter yX10_scoreAfter ∈ kTB := kTB_of (List.mem_append_right _ (List.mem_of_getElem? (i := 1268) (by decide +kernel))) rfl
theorem kw_1269 : Cond.code yX10_scoreAfter prog_1_method_46_code (5 : Nat) (Option.some Jvm.ClassFile.FieldType.int) ∈ kTB := kTB_of (List.mem_append_right _ (List.mem_of_getElem? (i := 1269) (by decide +kernel))) rfl
theorem kw_1270 : Cond.methodLink "DiceAudit" (280 : Nat) yX1_begin ∈ kTB := kTB_of (List.mem_append_right _ (List.mem_of_getElem? (i := 1270) (by decide +kernel))) rfl
theorem kw_1271 : Cond.instanceMethod yX1_begin ∈ kTB := kTB_of (List.mem_append_right _ (List.mem_of_getElem? (i := 1271) (by decide +kernel))) rfl
theorem kw_1272 : Cond.selects "DiceAudit$Forecast" yX1_begin yX1_begin ∈ kTB := kTB_of (List.mem_append_right _ (List.mem_of_getElem? (i := 1272) (by decide +kernel))) rfl
theorem kw_1273 : Cond.code yX1_begin prog_3_method_2_code (5 : Nat) (Option.none : Option Jvm.ClassFile.FieldType) ∈ kTB := kTB_of (List.mem_append_right _ (List.mem_of_getElem? (i := 1273) (by decide +kernel))) rfl
theorem kw_1274 : Cond.methodLinkNest "DiceAudit$Forecast" (32 : Nat) yX10_pairOf "DiceAudit" ∈ kTN := kTN_of (List.mem_append_right _ (List.mem_of_getElem? (i := 1274) (by decide +kernel))) rfl
theorem kw_1275 : Cond.methodLinkNest "DiceAudit$Forecast" (36 : Nat) yX10_cellOf "DiceAudit" ∈ kTN := kTN_of (List.mem_append_right _ (List.mem_of_getElem? (i := 1275) (by decide +kernel))) rfl
theorem kw_1276 : Cond.methodLinkNest "DiceAudit$Forecast" (39 : Nat) yX10_at "DiceAudit" ∈ kTN := kTN_of (List.mem_append_right _ (List.mem_of_getElem? (i := 1276) (by decide +kernel))) rfl
theorem kw_1277 : Cond.methodLinkNest "DiceAudit$Forecast" (43 : Nat) yX10_put "DiceAudit" ∈ kTN := kTN_of (List.mem_append_right _ (List.mem_of_getElem? (i := 1277) (by decide +kernel))) rfl
theorem kw_1278 : Cond.methodLink "DiceAudit" (284 : Nat) yX1_throwOnce ∈ kTB := kTB_of (List.mem_append_right _ (List.mem_of_getElem? (i := 1278) (by decide +kernel))) rfl
theorem kw_1279 : Cond.instanceMethod yX1_throwOnce ∈ kTB := kTB_of (List.mem_append_right _ (List.mem_of_getElem? (i := 1279) (by decide +kernel))) rfl
theorem kw_1280 : Cond.selects "DiceAudit$Forecast" yX1_throwOnce yX1_throwOnce ∈ kTB := kTB_of (List.mem_append_right _ (List.mem_of_getElem? (i := 1280) (by decide +kernel))) rfl
theorem kw_1281 : Cond.code yX1_throwOnce prog_3_method_3_code (3 : Nat) (Option.none : Option Jvm.ClassFile.FieldType) ∈ kTB := kTB_of (List.mem_append_right _ (List.mem_of_getElem? (i := 1281) (by decide +kernel))) rfl
theorem kw_1282 : Cond.methodLinkNest "DiceAudit$Forecast" (47 : Nat) yX10_nextSeed "DiceAudit" ∈ kTN := kTN_of (List.mem_append_right _ (List.mem_of_getElem? (i := 1282) (by decide +kernel))) rfl
theorem kw_1283 : Cond.methodLink "DiceAudit$Forecast" (55 : Nat) yX0_faceShown ∈ kTB := kTB_of (List.mem_append_right _ (List.mem_of_getElem? (i := 1283) (by decide +kernel))) rfl
theorem kw_1284 : Cond.methodLink "DiceAudit" (287 : Nat) yX1_presentScore ∈ kTB := kTB_of (List.mem_append_right _ (List.mem_of_getElem? (i := 1284) (by decide +kernel))) rfl
theorem kw_1285 : Cond.instanceMethod yX1_presentScore ∈ kTB := kTB_of (List.mem_append_right _ (List.mem_of_getElem? (i := 1285) (by decide +kernel))) rfl
theorem kw_1286 : Cond.selects "DiceAudit$Forecast" yX1_presentScore yX1_presentScore ∈ kTB := kTB_of (List.mem_append_right _ (List.mem_of_getElem? (i := 1286) (by decide +kernel))) rfl
theorem kw_1287 : Cond.code yX1_presentScore prog_3_method_5_code (2 : Nat) (Option.some Jvm.ClassFile.FieldType.int) ∈ kTB := kTB_of (List.mem_append_right _ (List.mem_of_getElem? (i := 1287) (by decide +kernel))) rfl
theorem kw_1288 : Cond.methodLink "DiceAudit$Forecast" (64 : Nat) yX0_faceCount ∈ kTB := kTB_of (List.mem_append_right _ (List.mem_of_getElem? (i := 1288) (by decide +kernel))) rfl
theorem kw_1289 : Cond.methodLinkNest "DiceAudit$Forecast" (67 : Nat) yX10_testScore "DiceAudit" ∈ kTN := kTN_of (List.mem_append_right _ (List.mem_of_getElem? (i := 1289) (by decide +kernel))) rfl
theorem kw_1290 : Cond.methodLink "DiceAuditLaw" (322 : Nat) yL_throwsUntilSuspicious ∈ kTB := kTB_of (List.mem_append_right _ (List.mem_of_getElem? (i := 1290) (by decide +kernel))) rfl
theorem kw_1291 : Cond.static yL_throwsUntilSuspicious ∈ kTB := kTB_of (List.mem_append_right _ (List.mem_of_getElem? (i := 1291) (by decide +kernel))) rfl
theorem kw_1292 : Cond.codeWith yL_throwsUntilSuspicious method_36_code (5 : Nat) (Option.some Jvm.ClassFile.FieldType.int) [((0 : Nat), (10 : Nat), (13 : Nat), (28 : Nat))] ∈ kTB := kTB_of (List.mem_append_right _ (List.mem_of_getElem? (i := 1292) (by decide +kernel))) rfl
theorem kw_1293 : Cond.methodLink "DiceAuditLaw" (124 : Nat) yX10_throwsUntilSuspicious ∈ kTB := kTB_of (List.mem_append_right _ (List.mem_of_getElem? (i := 1293) (by decide +kernel))) rfl
theorem kw_1294 : Cond.instanceMethod yX10_throwsUntilSuspicious ∈ kTB := kTB_of (List.mem_append_right _ (List.mem_of_getElem? (i := 1294) (by decide +kernel))) rfl
theorem kw_1295 : Cond.selects "DiceAudit" yX10_throwsUntilSuspicious yX10_throwsUntilSuspicious ∈ kTB := kTB_of (List.mem_append_right _ (List.mem_of_getElem? (i := 1295) (by decide +kernel))) rfl
theorem kw_1296 : Cond.code yX10_throwsUntilSuspicious prog_1_method_47_code (4 : Nat) (Option.some Jvm.ClassFile.FieldType.int) ∈ kTB := kTB_of (List.mem_append_right _ (List.mem_of_getElem? (i := 1296) (by decide +kernel))) rfl
theorem kw_1297 : Cond.methodLink "DiceAudit" (291 : Nat) yX1_made ∈ kTB := kTB_of (List.mem_append_right _ (List.mem_of_getElem? (i := 1297) (by decide +kernel))) rfl
theorem kw_1298 : Cond.instanceMethod yX1_made ∈ kTB := kTB_of (List.mem_append_right _ (List.mem_of_getElem? (i := 1298) (by decide +kernel))) rfl
theorem kw_1299 : Cond.selects "DiceAudit$Forecast" yX1_made yX1_made ∈ kTB := kTB_of (List.mem_append_right _ (List.mem_of_getElem? (i := 1299) (by decide +kernel))) rfl
theorem kw_1300 : Cond.code yX1_made prog_3_method_4_code (1 : Nat) (Option.some Jvm.ClassFile.FieldType.int) ∈ kTB := kTB_of (List.mem_append_right _ (List.mem_of_getElem? (i := 1300) (by decide +kernel))) rfl
theorem kw_1301 : Cond.methodLinkNest "DiceAudit$Forecast" (60 : Nat) yX10_sumOf "DiceAudit" ∈ kTN := kTN_of (List.mem_append_right _ (List.mem_of_getElem? (i := 1301) (by decide +kernel))) rfl
theorem kw_1302 : Cond.methodLink "DiceAudit" (294 : Nat) yX2_exceedsLimits ∈ kTB := kTB_of (List.mem_append_right _ (List.mem_of_getElem? (i := 1302) (by decide +kernel))) rfl
theorem kw_1303 : Cond.methodLink "DiceAuditLaw" (342 : Nat) yL_throwDie ∈ kTB := kTB_of (List.mem_append_right _ (List.mem_of_getElem? (i := 1303) (by decide +kernel))) rfl
theorem kw_1304 : Cond.static yL_throwDie ∈ kTB := kTB_of (List.mem_append_right _ (List.mem_of_getElem? (i := 1304) (by decide +kernel))) rfl
theorem kw_1305 : Cond.codeWith yL_throwDie method_37_code (6 : Nat) (Option.some Jvm.ClassFile.FieldType.int) [((0 : Nat), (12 : Nat), (15 : Nat), (28 : Nat)), ((0 : Nat), (12 : Nat), (19 : Nat), (19 : Nat)), ((0 : Nat), (12 : Nat), (23 : Nat), (13 : Nat))] ∈ kTB := kTB_of (List.mem_append_right _ (List.mem_of_getElem? (i := 1305) (by decide +kernel))) rfl
theorem kw_1306 : Cond.methodLink "DiceAuditLaw" (127 : Nat) yX10_throwDie ∈ kTB := kTB_of (List.mem_append_right _ (List.mem_of_getElem? (i := 1306) (by decide +kernel))) rfl
theorem kw_1307 : Cond.instanceMethod yX10_throwDie ∈ kTB := kTB_of (List.mem_append_right _ (List.mem_of_getElem? (i := 1307) (by decide +kernel))) rfl
theorem kw_1308 : Cond.selects "DiceAudit" yX10_throwDie yX10_throwDie ∈ kTB := kTB_of (List.mem_append_right _ (List.mem_of_getElem? (i := 1308) (by decide +kernel))) rfl
theorem kw_1309 : Cond.code yX10_throwDie prog_1_method_52_code (4 : Nat) (Option.some Jvm.ClassFile.FieldType.int) ∈ kTB := kTB_of (List.mem_append_right _ (List.mem_of_getElem? (i := 1309) (by decide +kernel))) rfl
theorem kw_1311 : Cond.methodLink "DiceAudit" (312 : Nat) yX2_makeThrows ∈ kTB := kTB_of (List.mem_append_right _ (List.mem_of_getElem? (i := 1311) (by decide +kernel))) rfl
theorem kw_1312 : Cond.methodLink "DiceAuditLaw" (349 : Nat) yL_absolve ∈ kTB := kTB_of (List.mem_append_right _ (List.mem_of_getElem? (i := 1312) (by decide +kernel))) rfl
theorem kw_1313 : Cond.static yL_absolve ∈ kTB := kTB_of (List.mem_append_right _ (List.mem_of_getElem? (i := 1313) (by decide +kernel))) rfl
theorem kw_1314 : Cond.codeWith yL_absolve method_38_code (3 : Nat) (Option.some Jvm.ClassFile.FieldType.int) [((0 : Nat), (8 : Nat), (11 : Nat), (13 : Nat))] ∈ kTB := kTB_of (List.mem_append_right _ (List.mem_of_getElem? (i := 1314) (by decide +kernel))) rfl
theorem kw_1315 : Cond.methodLink "DiceAuditLaw" (130 : Nat) yX10_absolve ∈ kTB := kTB_of (List.mem_append_right _ (List.mem_of_getElem? (i := 1315) (by decide +kernel))) rfl
theorem kw_1316 : Cond.instanceMethod yX10_absolve ∈ kTB := kTB_of (List.mem_append_right _ (List.mem_of_getElem? (i := 1316) (by decide +kernel))) rfl
theorem kw_1317 : Cond.selects "DiceAudit" yX10_absolve yX10_absolve ∈ kTB := kTB_of (List.mem_append_right _ (List.mem_of_getElem? (i := 1317) (by decide +kernel))) rfl
theorem kw_1318 : Cond.code yX10_absolve prog_1_method_54_code (1 : Nat) (Option.some Jvm.ClassFile.FieldType.int) ∈ kTB := kTB_of (List.mem_append_right _ (List.mem_of_getElem? (i := 1318) (by decide +kernel))) rfl
theorem kw_1320 : Cond.methodLink "DiceAudit" (321 : Nat) yX2_doPenance ∈ kTB := kTB_of (List.mem_append_right _ (List.mem_of_getElem? (i := 1320) (by decide +kernel))) rfl
theorem kw_1321 : Cond.methodLink "DiceAuditLaw" (352 : Nat) yL_forgive ∈ kTB := kTB_of (List.mem_append_right _ (List.mem_of_getElem? (i := 1321) (by decide +kernel))) rfl
theorem kw_1322 : Cond.static yL_forgive ∈ kTB := kTB_of (List.mem_append_right _ (List.mem_of_getElem? (i := 1322) (by decide +kernel))) rfl
theorem kw_1323 : Cond.codeWith yL_forgive method_39_code (4 : Nat) (Option.some Jvm.ClassFile.FieldType.int) [((0 : Nat), (9 : Nat), (12 : Nat), (28 : Nat))] ∈ kTB := kTB_of (List.mem_append_right _ (List.mem_of_getElem? (i := 1323) (by decide +kernel))) rfl
theorem kw_1324 : Cond.methodLink "DiceAuditLaw" (133 : Nat) yX10_forgive ∈ kTB := kTB_of (List.mem_append_right _ (List.mem_of_getElem? (i := 1324) (by decide +kernel))) rfl
theorem kw_1325 : Cond.instanceMethod yX10_forgive ∈ kTB := kTB_of (List.mem_append_right _ (List.mem_of_getElem? (i := 1325) (by decide +kernel))) rfl
theorem kw_1326 : Cond.selects "DiceAudit" yX10_forgive yX10_forgive ∈ kTB := kTB_of (List.mem_append_right _ (List.mem_of_getElem? (i := 1326) (by decide +kernel))) rfl
theorem kw_1327 : Cond.code yX10_forgive prog_1_method_55_code (2 : Nat) (Option.some Jvm.ClassFile.FieldType.int) ∈ kTB := kTB_of (List.mem_append_right _ (List.mem_of_getElem? (i := 1327) (by decide +kernel))) rfl
theorem kw_1328 : Cond.methodLink "DiceAudit" (324 : Nat) yX6_removeAllOf ∈ kTB := kTB_of (List.mem_append_right _ (List.mem_of_getElem? (i := 1328) (by decide +kernel))) rfl
theorem kw_1329 : Cond.methodLink "DiceAuditLaw" (355 : Nat) yL_setWeight ∈ kTB := kTB_of (List.mem_append_right _ (List.mem_of_getElem? (i := 1329) (by decide +kernel))) rfl
theorem kw_1330 : Cond.static yL_setWeight ∈ kTB := kTB_of (List.mem_append_right _ (List.mem_of_getElem? (i := 1330) (by decide +kernel))) rfl
theorem kw_1331 : Cond.codeWith yL_setWeight method_40_code (6 : Nat) (Option.some Jvm.ClassFile.FieldType.int) [((0 : Nat), (12 : Nat), (15 : Nat), (28 : Nat)), ((0 : Nat), (12 : Nat), (19 : Nat), (19 : Nat)), ((0 : Nat), (12 : Nat), (23 : Nat), (13 : Nat))] ∈ kTB := kTB_of (List.mem_append_right _ (List.mem_of_getElem? (i := 1331) (by decide +kernel))) rfl
theorem kw_1332 : Cond.methodLink "DiceAuditLaw" (136 : Nat) yX10_setWeight ∈ kTB := kTB_of (List.mem_append_right _ (List.mem_of_getElem? (i := 1332) (by decide +kernel))) rfl
theorem kw_1333 : Cond.instanceMethod yX10_setWeight ∈ kTB := kTB_of (List.mem_append_right _ (List.mem_of_getElem? (i := 1333) (by decide +kernel))) rfl
theorem kw_1334 : Cond.selects "DiceAudit" yX10_setWeight yX10_setWeight ∈ kTB := kTB_of (List.mem_append_right _ (List.mem_of_getElem? (i := 1334) (by decide +kernel))) rfl
theorem kw_1335 : Cond.code yX10_setWeight prog_1_method_56_code (5 : Nat) (Option.some Jvm.ClassFile.FieldType.int) ∈ kTB := kTB_of (List.mem_append_right _ (List.mem_of_getElem? (i := 1335) (by decide +kernel))) rfl
theorem kw_1336 : Cond.methodLink "DiceAudit" (327 : Nat) yX0_weightSum ∈ kTB := kTB_of (List.mem_append_right _ (List.mem_of_getElem? (i := 1336) (by decide +kernel))) rfl
theorem kw_1337 : Cond.instanceMethod yX0_weightSum ∈ kTB := kTB_of (List.mem_append_right _ (List.mem_of_getElem? (i := 1337) (by decide +kernel))) rfl
theorem kw_1338 : Cond.selects "DiceAudit$Dice" yX0_weightSum yX0_weightSum ∈ kTB := kTB_of (List.mem_append_right _ (List.mem_of_getElem? (i := 1338) (by decide +kernel))) rfl
theorem kw_1339 : Cond.code yX0_weightSum prog_2_method_8_code (2 : Nat) (Option.some Jvm.ClassFile.FieldType.int) ∈ kTB := kTB_of (List.mem_append_right _ (List.mem_of_getElem? (i := 1339) (by decide +kernel))) rfl
theorem kw_1341 : Cond.methodLink "DiceAudit" (332 : Nat) yX0_putWeight ∈ kTB := kTB_of (List.mem_append_right _ (List.mem_of_getElem? (i := 1341) (by decide +kernel))) rfl
theorem kw_1342 : Cond.methodLink "DiceAuditLaw" (358 : Nat) yL_setSeed ∈ kTB := kTB_of (List.mem_append_right _ (List.mem_of_getElem? (i := 1342) (by decide +kernel))) rfl
theorem kw_1343 : Cond.static yL_setSeed ∈ kTB := kTB_of (List.mem_append_right _ (List.mem_of_getElem? (i := 1343) (by decide +kernel))) rfl
theorem kw_1344 : Cond.codeWith yL_setSeed method_41_code (4 : Nat) (Option.some Jvm.ClassFile.FieldType.int) [((0 : Nat), (9 : Nat), (12 : Nat), (19 : Nat))] ∈ kTB := kTB_of (List.mem_append_right _ (List.mem_of_getElem? (i := 1344) (by decide +kernel))) rfl
theorem kw_1345 : Cond.methodLink "DiceAuditLaw" (139 : Nat) yX10_setSeed ∈ kTB := kTB_of (List.mem_append_right _ (List.mem_of_getElem? (i := 1345) (by decide +kernel))) rfl
theorem kw_1346 : Cond.instanceMethod yX10_setSeed ∈ kTB := kTB_of (List.mem_append_right _ (List.mem_of_getElem? (i := 1346) (by decide +kernel))) rfl
theorem kw_1347 : Cond.selects "DiceAudit" yX10_setSeed yX10_setSeed ∈ kTB := kTB_of (List.mem_append_right _ (List.mem_of_getElem? (i := 1347) (by decide +kernel))) rfl
theorem kw_1348 : Cond.code yX10_setSeed prog_1_method_57_code (3 : Nat) (Option.some Jvm.ClassFile.FieldType.int) ∈ kTB := kTB_of (List.mem_append_right _ (List.mem_of_getElem? (i := 1348) (by decide +kernel))) rfl
theorem kw_1349 : Cond.constant "DiceAudit" (335 : Nat) (65536 : Int32) ∈ kTB := kTB_of (List.mem_append_right _ (List.mem_of_getElem? (i := 1349) (by decide +kernel))) rfl
theorem kw_1350 : Cond.methodLink "DiceAuditLaw" (361 : Nat) yL_setLimits ∈ kTB := kTB_of (List.mem_append_right _ (List.mem_of_getElem? (i := 1350) (by decide +kernel))) rfl
theorem kw_1351 : Cond.static yL_setLimits ∈ kTB := kTB_of (List.mem_append_right _ (List.mem_of_getElem? (i := 1351) (by decide +kernel))) rfl
theorem kw_1352 : Cond.codeWith yL_setLimits method_42_code (5 : Nat) (Option.some Jvm.ClassFile.FieldType.int) [((0 : Nat), (10 : Nat), (13 : Nat), (19 : Nat))] ∈ kTB := kTB_of (List.mem_append_right _ (List.mem_of_getElem? (i := 1352) (by decide +kernel))) rfl
theorem kw_1353 : Cond.methodLink "DiceAuditLaw" (142 : Nat) yX10_setLimits ∈ kTB := kTB_of (List.mem_append_right _ (List.mem_of_getElem? (i := 1353) (by decide +kernel))) rfl
theorem kw_1354 : Cond.instanceMethod yX10_setLimits ∈ kTB := kTB_of (List.mem_append_right _ (List.mem_of_getElem? (i := 1354) (by decide +kernel))) rfl
theorem kw_1355 : Cond.selects "DiceAudit" yX10_setLimits yX10_setLimits ∈ kTB := kTB_of (List.mem_append_right _ (List.mem_of_getElem? (i := 1355) (by decide +kernel))) rfl
theorem kw_1356 : Cond.code yX10_setLimits prog_1_method_58_code (3 : Nat) (Option.some Jvm.ClassFile.FieldType.int) ∈ kTB := kTB_of (List.mem_append_right _ (List.mem_of_getElem? (i := 1356) (by decide +kernel))) rfl
theorem kw_1357 : Cond.methodLink "DiceAuditLaw" (368 : Nat) yL_writeFaces ∈ kTB := kTB_of (List.mem_append_right _ (List.mem_of_getElem? (i := 1357) (by decide +kernel))) rfl
theorem kw_1358 : Cond.static yL_writeFaces ∈ kTB := kTB_of (List.mem_append_right _ (List.mem_of_getElem? (i := 1358) (by decide +kernel))) rfl
theorem kw_1359 : Cond.codeWith yL_writeFaces method_43_code (4 : Nat) (Option.some Jvm.ClassFile.FieldType.int) [((0 : Nat), (9 : Nat), (12 : Nat), (28 : Nat))] ∈ kTB := kTB_of (List.mem_append_right _ (List.mem_of_getElem? (i := 1359) (by decide +kernel))) rfl
theorem kw_1360 : Cond.methodLink "DiceAuditLaw" (145 : Nat) yX10_writeFaces ∈ kTB := kTB_of (List.mem_append_right _ (List.mem_of_getElem? (i := 1360) (by decide +kernel))) rfl
theorem kw_1361 : Cond.instanceMethod yX10_writeFaces ∈ kTB := kTB_of (List.mem_append_right _ (List.mem_of_getElem? (i := 1361) (by decide +kernel))) rfl
theorem kw_1362 : Cond.selects "DiceAudit" yX10_writeFaces yX10_writeFaces ∈ kTB := kTB_of (List.mem_append_right _ (List.mem_of_getElem? (i := 1362) (by decide +kernel))) rfl
theorem kw_1363 : Cond.code yX10_writeFaces prog_1_method_60_code (3 : Nat) (Option.some Jvm.ClassFile.FieldType.int) ∈ kTB := kTB_of (List.mem_append_right _ (List.mem_of_getElem? (i := 1363) (by decide +kernel))) rfl
theorem kw_1364 : Cond.methodLink "DiceAuditLaw" (371 : Nat) yL_outputByte ∈ kTB := kTB_of (List.mem_append_right _ (List.mem_of_getElem? (i := 1364) (by decide +kernel))) rfl
theorem kw_1365 : Cond.static yL_outputByte ∈ kTB := kTB_of (List.mem_append_right _ (List.mem_of_getElem? (i := 1365) (by decide +kernel))) rfl
theorem kw_1366 : Cond.codeWith yL_outputByte method_44_code (4 : Nat) (Option.some Jvm.ClassFile.FieldType.int) [((0 : Nat), (9 : Nat), (12 : Nat), (44 : Nat))] ∈ kTB := kTB_of (List.mem_append_right _ (List.mem_of_getElem? (i := 1366) (by decide +kernel))) rfl
theorem kw_1367 : Cond.methodLink "DiceAuditLaw" (148 : Nat) yX10_outputByte ∈ kTB := kTB_of (List.mem_append_right _ (List.mem_of_getElem? (i := 1367) (by decide +kernel))) rfl
theorem kw_1368 : Cond.instanceMethod yX10_outputByte ∈ kTB := kTB_of (List.mem_append_right _ (List.mem_of_getElem? (i := 1368) (by decide +kernel))) rfl
theorem kw_1369 : Cond.selects "DiceAudit" yX10_outputByte yX10_outputByte ∈ kTB := kTB_of (List.mem_append_right _ (List.mem_of_getElem? (i := 1369) (by decide +kernel))) rfl
theorem kw_1370 : Cond.code yX10_outputByte prog_1_method_61_code (2 : Nat) (Option.some Jvm.ClassFile.FieldType.int) ∈ kTB := kTB_of (List.mem_append_right _ (List.mem_of_getElem? (i := 1370) (by decide +kernel))) rfl
theorem kw_1372 : Cond.methodLink "DiceAudit" (350 : Nat) yX8_byteIn ∈ kTB := kTB_of (List.mem_append_right _ (List.mem_of_getElem? (i := 1372) (by decide +kernel))) rfl
theorem kw_1373 : Cond.methodLink "DiceAuditLaw" (374 : Nat) yL_save ∈ kTB := kTB_of (List.mem_append_right _ (List.mem_of_getElem? (i := 1373) (by decide +kernel))) rfl
theorem kw_1374 : Cond.static yL_save ∈ kTB := kTB_of (List.mem_append_right _ (List.mem_of_getElem? (i := 1374) (by decide +kernel))) rfl
theorem kw_1375 : Cond.codeWith yL_save method_45_code (4 : Nat) (Option.some Jvm.ClassFile.FieldType.int) [((0 : Nat), (9 : Nat), (12 : Nat), (28 : Nat))] ∈ kTB := kTB_of (List.mem_append_right _ (List.mem_of_getElem? (i := 1375) (by decide +kernel))) rfl
theorem kw_1376 : Cond.methodLink "DiceAuditLaw" (151 : Nat) yX10_save ∈ kTB := kTB_of (List.mem_append_right _ (List.mem_of_getElem? (i := 1376) (by decide +kernel))) rfl
theorem kw_1377 : Cond.instanceMethod yX10_save ∈ kTB := kTB_of (List.mem_append_right _ (List.mem_of_getElem? (i := 1377) (by decide +kernel))) rfl
theorem kw_1378 : Cond.selects "DiceAudit" yX10_save yX10_save ∈ kTB := kTB_of (List.mem_append_right _ (List.mem_of_getElem? (i := 1378) (by decide +kernel))) rfl
theorem kw_1379 : Cond.code yX10_save prog_1_method_62_code (2 : Nat) (Option.some Jvm.ClassFile.FieldType.int) ∈ kTB := kTB_of (List.mem_append_right _ (List.mem_of_getElem? (i := 1379) (by decide +kernel))) rfl
theorem kw_1380 : Cond.methodLink "DiceAudit" (353 : Nat) yX10_requireSlot ∈ kTB := kTB_of (List.mem_append_right _ (List.mem_of_getElem? (i := 1380) (by decide +kernel))) rfl
theorem kw_1381 : Cond.static yX10_requireSlot ∈ kTB := kTB_of (List.mem_append_right _ (List.mem_of_getElem? (i := 1381) (by decide +kernel))) rfl
theorem kw_1382 : Cond.code yX10_requireSlot prog_1_method_73_code (1 : Nat) (Option.none : Option Jvm.ClassFile.FieldType) ∈ kTB := kTB_of (List.mem_append_right _ (List.mem_of_getElem? (i := 1382) (by decide +kernel))) rfl
theorem kw_1383 : Cond.methodLink "DiceAudit" (356 : Nat) yX10_put ∈ kTB := kTB_of (List.mem_append_right _ (List.mem_of_getElem? (i := 1383) (by decide +kernel))) rfl
theorem kw_1384 : Cond.methodLink "DiceAuditLaw" (377 : Nat) yL_restore ∈ kTB := kTB_of (List.mem_append_right _ (List.mem_of_getElem? (i := 1384) (by decide +kernel))) rfl
theorem kw_1385 : Cond.static yL_restore ∈ kTB := kTB_of (List.mem_append_right _ (List.mem_of_getElem? (i := 1385) (by decide +kernel))) rfl
theorem kw_1386 : Cond.codeWith yL_restore method_46_code (4 : Nat) (Option.some Jvm.ClassFile.FieldType.int) [((0 : Nat), (9 : Nat), (12 : Nat), (28 : Nat)), ((0 : Nat), (9 : Nat), (15 : Nat), (13 : Nat))] ∈ kTB := kTB_of (List.mem_append_right _ (List.mem_of_getElem? (i := 1386) (by decide +kernel))) rfl
theorem kw_1387 : Cond.methodLink "DiceAuditLaw" (154 : Nat) yX10_restore ∈ kTB := kTB_of (List.mem_append_right _ (List.mem_of_getElem? (i := 1387) (by decide +kernel))) rfl
theorem kw_1388 : Cond.instanceMethod yX10_restore ∈ kTB := kTB_of (List.mem_append_right _ (List.mem_of_getElem? (i := 1388) (by decide +kernel))) rfl
theorem kw_1389 : Cond.selects "DiceAudit" yX10_restore yX10_restore ∈ kTB := kTB_of (List.mem_append_right _ (List.mem_of_getElem? (i := 1389) (by decide +kernel))) rfl
theorem kw_1390 : Cond.code yX10_restore prog_1_method_63_code (2 : Nat) (Option.some Jvm.ClassFile.FieldType.int) ∈ kTB := kTB_of (List.mem_append_right _ (List.mem_of_getElem? (i := 1390) (by decide +kernel))) rfl
theorem kw_1392 : Cond.methodLink "DiceAuditLaw" (380 : Nat) yL_undo ∈ kTB := kTB_of (List.mem_append_right _ (List.mem_of_getElem? (i := 1392) (by decide +kernel))) rfl
theorem kw_1393 : Cond.static yL_undo ∈ kTB := kTB_of (List.mem_append_right _ (List.mem_of_getElem? (i := 1393) (by decide +kernel))) rfl
theorem kw_1394 : Cond.codeWith yL_undo method_47_code (3 : Nat) (Option.some Jvm.ClassFile.FieldType.int) [((0 : Nat), (8 : Nat), (11 : Nat), (13 : Nat))] ∈ kTB := kTB_of (List.mem_append_right _ (List.mem_of_getElem? (i := 1394) (by decide +kernel))) rfl
theorem kw_1395 : Cond.methodLink "DiceAuditLaw" (157 : Nat) yX10_undo ∈ kTB := kTB_of (List.mem_append_right _ (List.mem_of_getElem? (i := 1395) (by decide +kernel))) rfl
theorem kw_1396 : Cond.instanceMethod yX10_undo ∈ kTB := kTB_of (List.mem_append_right _ (List.mem_of_getElem? (i := 1396) (by decide +kernel))) rfl
theorem kw_1397 : Cond.selects "DiceAudit" yX10_undo yX10_undo ∈ kTB := kTB_of (List.mem_append_right _ (List.mem_of_getElem? (i := 1397) (by decide +kernel))) rfl
theorem kw_1398 : Cond.code yX10_undo prog_1_method_64_code (1 : Nat) (Option.some Jvm.ClassFile.FieldType.int) ∈ kTB := kTB_of (List.mem_append_right _ (List.mem_of_getElem? (i := 1398) (by decide +kernel))) rfl
theorem kw_1400 : Cond.methodLink "DiceAudit" (367 : Nat) yX3_bringBack ∈ kTB := kTB_of (List.mem_append_right _ (List.mem_of_getElem? (i := 1400) (by decide +kernel))) rfl
theorem kw_1401 : Cond.instanceMethod yX3_bringBack ∈ kTB := kTB_of (List.mem_append_right _ (List.mem_of_getElem? (i := 1401) (by decide +kernel))) rfl
theorem kw_1402 : Cond.selects "DiceAudit$History" yX3_bringBack yX3_bringBack ∈ kTB := kTB_of (List.mem_append_right _ (List.mem_of_getElem? (i := 1402) (by decide +kernel))) rfl
theorem kw_1403 : Cond.code yX3_bringBack prog_5_method_3_code (2 : Nat) (Option.none : Option Jvm.ClassFile.FieldType) ∈ kTB := kTB_of (List.mem_append_right _ (List.mem_of_getElem? (i := 1403) (by decide +kernel))) rfl
theorem kw_1404 : Cond.methodLink "DiceAudit$History" (35 : Nat) yJ9_max_7cf53 ∈ kTB := kTB_of (List.mem_append_right _ (List.mem_of_getElem? (i := 1404) (by decide +kernel))) rfl
theorem kw_1405 : Cond.classLink "DiceAuditLaw" (161 : Nat) "DiceAuditModel" ∈ kTB := kTB_of (List.mem_append_right _ (List.mem_of_getElem? (i := 1405) (by decide +kernel))) rfl
theorem kw_1406 : Cond.instantiable "DiceAuditModel" (21 : Nat) ∈ kTB := kTB_of (List.mem_append_right _ (List.mem_of_getElem? (i := 1406) (by decide +kernel))) rfl
theorem kw_1407 : Cond.methodLink "DiceAuditLaw" (163 : Nat) yX11_init ∈ kTB := kTB_of (List.mem_append_right _ (List.mem_of_getElem? (i := 1407) (by decide +kernel))) rfl
theorem kw_1408 : Cond.instanceMethod yX11_init ∈ kTB := kTB_of (List.mem_append_right _ (List.mem_of_getElem? (i := 1408) (by decide +kernel))) rfl
theorem kw_1409 : Cond.code yX11_init prog_13_method_1_code (1 : Nat) (Option.none : Option Jvm.ClassFile.FieldType) ∈ kTB := kTB_of (List.mem_append_right _ (List.mem_of_getElem? (i := 1409) (by decide +kernel))) rfl
theorem kw_1410 : Cond.methodLink "DiceAuditModel" (1 : Nat) ({ cls := "java/lang/Object", name := "<init>", desc := "()V" } : Jvm.MethodName) ∈ kTB := kTB_of (List.mem_append_right _ (List.mem_of_getElem? (i := 1410) (by decide +kernel))) rfl
theorem kw_1412 : Cond.methodLink "DiceAuditModel" (42 : Nat) yX11_layInput ∈ kTB := kTB_of (List.mem_append_right _ (List.mem_of_getElem? (i := 1412) (by decide +kernel))) rfl
theorem kw_1414 : Cond.instanceMethod yX11_layInput ∈ kTB := kTB_of (List.mem_append_right _ (List.mem_of_getElem? (i := 1414) (by decide +kernel))) rfl
theorem kw_1415 : Cond.code yX11_layInput prog_13_method_2_code (3 : Nat) (Option.none : Option Jvm.ClassFile.FieldType) ∈ kTB := kTB_of (List.mem_append_right _ (List.mem_of_getElem? (i := 1415) (by decide +kernel))) rfl
theorem kw_1416 : Cond.methodLink "DiceAuditModel" (56 : Nat) yJ0_length_8abf5 ∈ kTB := kTB_of (List.mem_append_right _ (List.mem_of_getElem? (i := 1416) (by decide +kernel))) rfl
theorem kw_1417 : Cond.methodLink "DiceAuditModel" (62 : Nat) yJ0_charAt_5068e ∈ kTB := kTB_of (List.mem_append_right _ (List.mem_of_getElem? (i := 1417) (by decide +kernel))) rfl
theorem kw_1418 : Cond.methodLink "DiceAuditModel" (46 : Nat) yX11_read ∈ kTB := kTB_of (List.mem_append_right _ (List.mem_of_getElem? (i := 1418) (by decide +kernel))) rfl
theorem kw_1420 : Cond.instanceMethod yX11_read ∈ kTB := kTB_of (List.mem_append_right _ (List.mem_of_getElem? (i := 1420) (by decide +kernel))) rfl
theorem kw_1421 : Cond.code yX11_read prog_13_method_62_code (2 : Nat) (Option.none : Option Jvm.ClassFile.FieldType) ∈ kTB := kTB_of (List.mem_append_right _ (List.mem_of_getElem? (i := 1421) (by decide +kernel))) rfl
theorem kw_1422 : Cond.methodLink "DiceAuditModel" (202 : Nat) yX11_advance ∈ kTB := kTB_of (List.mem_append_right _ (List.mem_of_getElem? (i := 1422) (by decide +kernel))) rfl
theorem kw_1424 : Cond.instanceMethod yX11_advance ∈ kTB := kTB_of (List.mem_append_right _ (List.mem_of_getElem? (i := 1424) (by decide +kernel))) rfl
theorem kw_1425 : Cond.code yX11_advance prog_13_method_44_code (2 : Nat) (Option.none : Option Jvm.ClassFile.FieldType) ∈ kTB := kTB_of (List.mem_append_right _ (List.mem_of_getElem? (i := 1425) (by decide +kernel))) rfl
theorem kw_1426 : Cond.methodLink "DiceAuditModel" (182 : Nat) yX11_byteAt ∈ kTB := kTB_of (List.mem_append_right _ (List.mem_of_getElem? (i := 1426) (by decide +kernel))) rfl
theorem kw_1428 : Cond.instanceMethod yX11_byteAt ∈ kTB := kTB_of (List.mem_append_right _ (List.mem_of_getElem? (i := 1428) (by decide +kernel))) rfl
theorem kw_1429 : Cond.code yX11_byteAt prog_13_method_42_code (2 : Nat) (Option.some Jvm.ClassFile.FieldType.int) ∈ kTB := kTB_of (List.mem_append_right _ (List.mem_of_getElem? (i := 1429) (by decide +kernel))) rfl
theorem kw_1430 : Cond.methodLink "DiceAuditModel" (197 : Nat) yX11_isLetter ∈ kTB := kTB_of (List.mem_append_right _ (List.mem_of_getElem? (i := 1430) (by decide +kernel))) rfl
theorem kw_1431 : Cond.static yX11_isLetter ∈ kTB := kTB_of (List.mem_append_right _ (List.mem_of_getElem? (i := 1431) (by decide +kernel))) rfl
theorem kw_1432 : Cond.code yX11_isLetter prog_13_method_43_code (1 : Nat) (Option.some Jvm.ClassFile.FieldType.boolean) ∈ kTB := kTB_of (List.mem_append_right _ (List.mem_of_getElem? (i := 1432) (by decide +kernel))) rfl
theorem kw_1433 : Cond.methodLink "DiceAuditModel" (176 : Nat) yX11_isBetween ∈ kTB := kTB_of (List.mem_append_right _ (List.mem_of_getElem? (i := 1433) (by decide +kernel))) rfl
theorem kw_1434 : Cond.static yX11_isBetween ∈ kTB := kTB_of (List.mem_append_right _ (List.mem_of_getElem? (i := 1434) (by decide +kernel))) rfl
theorem kw_1435 : Cond.code yX11_isBetween prog_13_method_5_code (3 : Nat) (Option.some Jvm.ClassFile.FieldType.boolean) ∈ kTB := kTB_of (List.mem_append_right _ (List.mem_of_getElem? (i := 1435) (by decide +kernel))) rfl
theorem kw_1436 : Cond.constant "DiceAuditModel" (201 : Nat) (99999999 : Int32) ∈ kTB := kTB_of (List.mem_append_right _ (List.mem_of_getElem? (i := 1436) (by decide +kernel))) rfl
theorem kw_1438 : Cond.methodLink "DiceAuditModel" (244 : Nat) yX11_is ∈ kTB := kTB_of (List.mem_append_right _ (List.mem_of_getElem? (i := 1438) (by decide +kernel))) rfl
theorem kw_1440 : Cond.instanceMethod yX11_is ∈ kTB := kTB_of (List.mem_append_right _ (List.mem_of_getElem? (i := 1440) (by decide +kernel))) rfl
theorem kw_1441 : Cond.code yX11_is prog_13_method_45_code (3 : Nat) (Option.some Jvm.ClassFile.FieldType.boolean) ∈ kTB := kTB_of (List.mem_append_right _ (List.mem_of_getElem? (i := 1441) (by decide +kernel))) rfl
theorem kw_1442 : Cond.methodLink "DiceAuditModel" (205 : Nat) yX11_check ∈ kTB := kTB_of (List.mem_append_right _ (List.mem_of_getElem? (i := 1442) (by decide +kernel))) rfl
theorem kw_1444 : Cond.instanceMethod yX11_check ∈ kTB := kTB_of (List.mem_append_right _ (List.mem_of_getElem? (i := 1444) (by decide +kernel))) rfl
theorem kw_1445 : Cond.code yX11_check prog_13_method_46_code (3 : Nat) (Option.some Jvm.ClassFile.FieldType.boolean) ∈ kTB := kTB_of (List.mem_append_right _ (List.mem_of_getElem? (i := 1445) (by decide +kernel))) rfl
theorem kw_1446 : Cond.methodLink "DiceAuditModel" (212 : Nat) yX11_next ∈ kTB := kTB_of (List.mem_append_right _ (List.mem_of_getElem? (i := 1446) (by decide +kernel))) rfl
theorem kw_1448 : Cond.instanceMethod yX11_next ∈ kTB := kTB_of (List.mem_append_right _ (List.mem_of_getElem? (i := 1448) (by decide +kernel))) rfl
theorem kw_1449 : Cond.code yX11_next prog_13_method_47_code (1 : Nat) (Option.none : Option Jvm.ClassFile.FieldType) ∈ kTB := kTB_of (List.mem_append_right _ (List.mem_of_getElem? (i := 1449) (by decide +kernel))) rfl
theorem kw_1450 : Cond.constant "DiceAuditModel" (277 : Nat) (65536 : Int32) ∈ kTB := kTB_of (List.mem_append_right _ (List.mem_of_getElem? (i := 1450) (by decide +kernel))) rfl
theorem kw_1451 : Cond.methodLink "DiceAuditModel" (230 : Nat) yX11_number ∈ kTB := kTB_of (List.mem_append_right _ (List.mem_of_getElem? (i := 1451) (by decide +kernel))) rfl
theorem kw_1453 : Cond.instanceMethod yX11_number ∈ kTB := kTB_of (List.mem_append_right _ (List.mem_of_getElem? (i := 1453) (by decide +kernel))) rfl
theorem kw_1454 : Cond.code yX11_number prog_13_method_49_code (4 : Nat) (Option.some Jvm.ClassFile.FieldType.int) ∈ kTB := kTB_of (List.mem_append_right _ (List.mem_of_getElem? (i := 1454) (by decide +kernel))) rfl
theorem kw_1455 : Cond.methodLink "DiceAuditModel" (208 : Nat) yX11_look ∈ kTB := kTB_of (List.mem_append_right _ (List.mem_of_getElem? (i := 1455) (by decide +kernel))) rfl
theorem kw_1457 : Cond.instanceMethod yX11_look ∈ kTB := kTB_of (List.mem_append_right _ (List.mem_of_getElem? (i := 1457) (by decide +kernel))) rfl
theorem kw_1458 : Cond.code yX11_look prog_13_method_48_code (3 : Nat) (Option.some Jvm.ClassFile.FieldType.int) ∈ kTB := kTB_of (List.mem_append_right _ (List.mem_of_getElem? (i := 1458) (by decide +kernel))) rfl
theorem kw_1459 : Cond.methodLink "DiceAuditModel" (224 : Nat) yX11_finish ∈ kTB := kTB_of (List.mem_append_right _ (List.mem_of_getElem? (i := 1459) (by decide +kernel))) rfl
theorem kw_1461 : Cond.instanceMethod yX11_finish ∈ kTB := kTB_of (List.mem_append_right _ (List.mem_of_getElem? (i := 1461) (by decide +kernel))) rfl
theorem kw_1462 : Cond.code yX11_finish prog_13_method_51_code (1 : Nat) (Option.none : Option Jvm.ClassFile.FieldType) ∈ kTB := kTB_of (List.mem_append_right _ (List.mem_of_getElem? (i := 1462) (by decide +kernel))) rfl
theorem kw_1463 : Cond.methodLink "DiceAuditModel" (215 : Nat) yX11_semicolon ∈ kTB := kTB_of (List.mem_append_right _ (List.mem_of_getElem? (i := 1463) (by decide +kernel))) rfl
theorem kw_1465 : Cond.instanceMethod yX11_semicolon ∈ kTB := kTB_of (List.mem_append_right _ (List.mem_of_getElem? (i := 1465) (by decide +kernel))) rfl
theorem kw_1466 : Cond.code yX11_semicolon prog_13_method_50_code (1 : Nat) (Option.none : Option Jvm.ClassFile.FieldType) ∈ kTB := kTB_of (List.mem_append_right _ (List.mem_of_getElem? (i := 1466) (by decide +kernel))) rfl
theorem kw_1467 : Cond.methodLink "DiceAuditModel" (278 : Nat) yX11_readStatement ∈ kTB := kTB_of (List.mem_append_right _ (List.mem_of_getElem? (i := 1467) (by decide +kernel))) rfl
theorem kw_1469 : Cond.instanceMethod yX11_readStatement ∈ kTB := kTB_of (List.mem_append_right _ (List.mem_of_getElem? (i := 1469) (by decide +kernel))) rfl
theorem kw_1470 : Cond.code yX11_readStatement prog_13_method_61_code (1 : Nat) (Option.none : Option Jvm.ClassFile.FieldType) ∈ kTB := kTB_of (List.mem_append_right _ (List.mem_of_getElem? (i := 1470) (by decide +kernel))) rfl
theorem kw_1472 : Cond.methodLink "DiceAuditModel" (248 : Nat) yX11_readDie ∈ kTB := kTB_of (List.mem_append_right _ (List.mem_of_getElem? (i := 1472) (by decide +kernel))) rfl
theorem kw_1474 : Cond.instanceMethod yX11_readDie ∈ kTB := kTB_of (List.mem_append_right _ (List.mem_of_getElem? (i := 1474) (by decide +kernel))) rfl
theorem kw_1475 : Cond.code yX11_readDie prog_13_method_54_code (4 : Nat) (Option.none : Option Jvm.ClassFile.FieldType) ∈ kTB := kTB_of (List.mem_append_right _ (List.mem_of_getElem? (i := 1475) (by decide +kernel))) rfl
theorem kw_1476 : Cond.methodLink "DiceAuditModel" (69 : Nat) yX11_ofDie ∈ kTB := kTB_of (List.mem_append_right _ (List.mem_of_getElem? (i := 1476) (by decide +kernel))) rfl
theorem kw_1477 : Cond.static yX11_ofDie ∈ kTB := kTB_of (List.mem_append_right _ (List.mem_of_getElem? (i := 1477) (by decide +kernel))) rfl
theorem kw_1478 : Cond.code yX11_ofDie prog_13_method_7_code (1 : Nat) (Option.some Jvm.ClassFile.FieldType.int) ∈ kTB := kTB_of (List.mem_append_right _ (List.mem_of_getElem? (i := 1478) (by decide +kernel))) rfl
theorem kw_1479 : Cond.methodLink "DiceAuditModel" (82 : Nat) yX11_allWeights ∈ kTB := kTB_of (List.mem_append_right _ (List.mem_of_getElem? (i := 1479) (by decide +kernel))) rfl
theorem kw_1480 : Cond.static yX11_allWeights ∈ kTB := kTB_of (List.mem_append_right _ (List.mem_of_getElem? (i := 1480) (by decide +kernel))) rfl
theorem kw_1481 : Cond.code yX11_allWeights prog_13_method_12_code (4 : Nat) (Option.some Jvm.ClassFile.FieldType.int) ∈ kTB := kTB_of (List.mem_append_right _ (List.mem_of_getElem? (i := 1481) (by decide +kernel))) rfl
theorem kw_1482 : Cond.methodLink "DiceAuditModel" (73 : Nat) yX11_facesOf ∈ kTB := kTB_of (List.mem_append_right _ (List.mem_of_getElem? (i := 1482) (by decide +kernel))) rfl
theorem kw_1483 : Cond.static yX11_facesOf ∈ kTB := kTB_of (List.mem_append_right _ (List.mem_of_getElem? (i := 1483) (by decide +kernel))) rfl
theorem kw_1484 : Cond.code yX11_facesOf prog_13_method_10_code (2 : Nat) (Option.some Jvm.ClassFile.FieldType.int) ∈ kTB := kTB_of (List.mem_append_right _ (List.mem_of_getElem? (i := 1484) (by decide +kernel))) rfl
theorem kw_1485 : Cond.methodLink "DiceAuditModel" (77 : Nat) yX11_weight ∈ kTB := kTB_of (List.mem_append_right _ (List.mem_of_getElem? (i := 1485) (by decide +kernel))) rfl
theorem kw_1486 : Cond.static yX11_weight ∈ kTB := kTB_of (List.mem_append_right _ (List.mem_of_getElem? (i := 1486) (by decide +kernel))) rfl
theorem kw_1487 : Cond.code yX11_weight prog_13_method_11_code (3 : Nat) (Option.some Jvm.ClassFile.FieldType.int) ∈ kTB := kTB_of (List.mem_append_right _ (List.mem_of_getElem? (i := 1487) (by decide +kernel))) rfl
theorem kw_1489 : Cond.methodLink "DiceAuditModel" (252 : Nat) yX11_readPlayer ∈ kTB := kTB_of (List.mem_append_right _ (List.mem_of_getElem? (i := 1489) (by decide +kernel))) rfl
theorem kw_1491 : Cond.instanceMethod yX11_readPlayer ∈ kTB := kTB_of (List.mem_append_right _ (List.mem_of_getElem? (i := 1491) (by decide +kernel))) rfl
theorem kw_1492 : Cond.code yX11_readPlayer prog_13_method_55_code (2 : Nat) (Option.none : Option Jvm.ClassFile.FieldType) ∈ kTB := kTB_of (List.mem_append_right _ (List.mem_of_getElem? (i := 1492) (by decide +kernel))) rfl
theorem kw_1493 : Cond.methodLink "DiceAuditModel" (218 : Nat) yX11_nameFrom ∈ kTB := kTB_of (List.mem_append_right _ (List.mem_of_getElem? (i := 1493) (by decide +kernel))) rfl
theorem kw_1495 : Cond.instanceMethod yX11_nameFrom ∈ kTB := kTB_of (List.mem_append_right _ (List.mem_of_getElem? (i := 1495) (by decide +kernel))) rfl
theorem kw_1496 : Cond.code yX11_nameFrom prog_13_method_52_code (5 : Nat) (Option.some Jvm.ClassFile.FieldType.int) ∈ kTB := kTB_of (List.mem_append_right _ (List.mem_of_getElem? (i := 1496) (by decide +kernel))) rfl
theorem kw_1497 : Cond.methodLink "DiceAuditModel" (221 : Nat) yX11_named ∈ kTB := kTB_of (List.mem_append_right _ (List.mem_of_getElem? (i := 1497) (by decide +kernel))) rfl
theorem kw_1498 : Cond.static yX11_named ∈ kTB := kTB_of (List.mem_append_right _ (List.mem_of_getElem? (i := 1498) (by decide +kernel))) rfl
theorem kw_1499 : Cond.code yX11_named prog_13_method_53_code (3 : Nat) (Option.some Jvm.ClassFile.FieldType.int) ∈ kTB := kTB_of (List.mem_append_right _ (List.mem_of_getElem? (i := 1499) (by decide +kernel))) rfl
theorem kw_1501 : Cond.methodLink "DiceAuditModel" (257 : Nat) yX11_readThrow ∈ kTB := kTB_of (List.mem_append_right _ (List.mem_of_getElem? (i := 1501) (by decide +kernel))) rfl
theorem kw_1503 : Cond.instanceMethod yX11_readThrow ∈ kTB := kTB_of (List.mem_append_right _ (List.mem_of_getElem? (i := 1503) (by decide +kernel))) rfl
theorem kw_1504 : Cond.code yX11_readThrow prog_13_method_57_code (4 : Nat) (Option.none : Option Jvm.ClassFile.FieldType) ∈ kTB := kTB_of (List.mem_append_right _ (List.mem_of_getElem? (i := 1504) (by decide +kernel))) rfl
theorem kw_1505 : Cond.methodLink "DiceAuditModel" (227 : Nat) yX11_player ∈ kTB := kTB_of (List.mem_append_right _ (List.mem_of_getElem? (i := 1505) (by decide +kernel))) rfl
theorem kw_1507 : Cond.instanceMethod yX11_player ∈ kTB := kTB_of (List.mem_append_right _ (List.mem_of_getElem? (i := 1507) (by decide +kernel))) rfl
theorem kw_1508 : Cond.code yX11_player prog_13_method_56_code (2 : Nat) (Option.some Jvm.ClassFile.FieldType.int) ∈ kTB := kTB_of (List.mem_append_right _ (List.mem_of_getElem? (i := 1508) (by decide +kernel))) rfl
theorem kw_1509 : Cond.methodLink "DiceAuditModel" (151 : Nat) yX11_throwMany ∈ kTB := kTB_of (List.mem_append_right _ (List.mem_of_getElem? (i := 1509) (by decide +kernel))) rfl
theorem kw_1510 : Cond.static yX11_throwMany ∈ kTB := kTB_of (List.mem_append_right _ (List.mem_of_getElem? (i := 1510) (by decide +kernel))) rfl
theorem kw_1511 : Cond.code yX11_throwMany prog_13_method_16_code (8 : Nat) (Option.some Jvm.ClassFile.FieldType.int) ∈ kTB := kTB_of (List.mem_append_right _ (List.mem_of_getElem? (i := 1511) (by decide +kernel))) rfl
theorem kw_1512 : Cond.methodLink "DiceAuditModel" (88 : Nat) yX11_nextSeed ∈ kTB := kTB_of (List.mem_append_right _ (List.mem_of_getElem? (i := 1512) (by decide +kernel))) rfl
theorem kw_1513 : Cond.static yX11_nextSeed ∈ kTB := kTB_of (List.mem_append_right _ (List.mem_of_getElem? (i := 1513) (by decide +kernel))) rfl
theorem kw_1514 : Cond.code yX11_nextSeed prog_13_method_13_code (1 : Nat) (Option.some Jvm.ClassFile.FieldType.int) ∈ kTB := kTB_of (List.mem_append_right _ (List.mem_of_getElem? (i := 1514) (by decide +kernel))) rfl
theorem kw_1515 : Cond.constant "DiceAuditModel" (81 : Nat) (65537 : Int32) ∈ kTB := kTB_of (List.mem_append_right _ (List.mem_of_getElem? (i := 1515) (by decide +kernel))) rfl
theorem kw_1516 : Cond.methodLink "DiceAuditModel" (91 : Nat) yX11_faceBy ∈ kTB := kTB_of (List.mem_append_right _ (List.mem_of_getElem? (i := 1516) (by decide +kernel))) rfl
theorem kw_1517 : Cond.static yX11_faceBy ∈ kTB := kTB_of (List.mem_append_right _ (List.mem_of_getElem? (i := 1517) (by decide +kernel))) rfl
theorem kw_1518 : Cond.code yX11_faceBy prog_13_method_14_code (5 : Nat) (Option.some Jvm.ClassFile.FieldType.int) ∈ kTB := kTB_of (List.mem_append_right _ (List.mem_of_getElem? (i := 1518) (by decide +kernel))) rfl
theorem kw_1519 : Cond.methodLink "DiceAuditModel" (94 : Nat) yX11_enter ∈ kTB := kTB_of (List.mem_append_right _ (List.mem_of_getElem? (i := 1519) (by decide +kernel))) rfl
theorem kw_1520 : Cond.static yX11_enter ∈ kTB := kTB_of (List.mem_append_right _ (List.mem_of_getElem? (i := 1520) (by decide +kernel))) rfl
theorem kw_1521 : Cond.code yX11_enter prog_13_method_15_code (6 : Nat) (Option.none : Option Jvm.ClassFile.FieldType) ∈ kTB := kTB_of (List.mem_append_right _ (List.mem_of_getElem? (i := 1521) (by decide +kernel))) rfl
theorem kw_1522 : Cond.methodLink "DiceAuditModel" (85 : Nat) yX11_ofThrow ∈ kTB := kTB_of (List.mem_append_right _ (List.mem_of_getElem? (i := 1522) (by decide +kernel))) rfl
theorem kw_1523 : Cond.static yX11_ofThrow ∈ kTB := kTB_of (List.mem_append_right _ (List.mem_of_getElem? (i := 1523) (by decide +kernel))) rfl
theorem kw_1524 : Cond.code yX11_ofThrow prog_13_method_8_code (1 : Nat) (Option.some Jvm.ClassFile.FieldType.int) ∈ kTB := kTB_of (List.mem_append_right _ (List.mem_of_getElem? (i := 1524) (by decide +kernel))) rfl
theorem kw_1526 : Cond.methodLink "DiceAuditModel" (262 : Nat) yX11_readAudit ∈ kTB := kTB_of (List.mem_append_right _ (List.mem_of_getElem? (i := 1526) (by decide +kernel))) rfl
theorem kw_1528 : Cond.instanceMethod yX11_readAudit ∈ kTB := kTB_of (List.mem_append_right _ (List.mem_of_getElem? (i := 1528) (by decide +kernel))) rfl
theorem kw_1529 : Cond.code yX11_readAudit prog_13_method_58_code (1 : Nat) (Option.none : Option Jvm.ClassFile.FieldType) ∈ kTB := kTB_of (List.mem_append_right _ (List.mem_of_getElem? (i := 1529) (by decide +kernel))) rfl
theorem kw_1530 : Cond.methodLink "DiceAuditModel" (233 : Nat) yX11_holdAudit ∈ kTB := kTB_of (List.mem_append_right _ (List.mem_of_getElem? (i := 1530) (by decide +kernel))) rfl
theorem kw_1532 : Cond.instanceMethod yX11_holdAudit ∈ kTB := kTB_of (List.mem_append_right _ (List.mem_of_getElem? (i := 1532) (by decide +kernel))) rfl
theorem kw_1533 : Cond.code yX11_holdAudit prog_13_method_27_code (5 : Nat) (Option.some Jvm.ClassFile.FieldType.int) ∈ kTB := kTB_of (List.mem_append_right _ (List.mem_of_getElem? (i := 1533) (by decide +kernel))) rfl
theorem kw_1534 : Cond.methodLink "DiceAuditModel" (123 : Nat) yX11_suspects ∈ kTB := kTB_of (List.mem_append_right _ (List.mem_of_getElem? (i := 1534) (by decide +kernel))) rfl
theorem kw_1536 : Cond.instanceMethod yX11_suspects ∈ kTB := kTB_of (List.mem_append_right _ (List.mem_of_getElem? (i := 1536) (by decide +kernel))) rfl
theorem kw_1537 : Cond.code yX11_suspects prog_13_method_23_code (4 : Nat) (Option.some Jvm.ClassFile.FieldType.boolean) ∈ kTB := kTB_of (List.mem_append_right _ (List.mem_of_getElem? (i := 1537) (by decide +kernel))) rfl
theorem kw_1538 : Cond.methodLink "DiceAuditModel" (105 : Nat) yX11_countPair ∈ kTB := kTB_of (List.mem_append_right _ (List.mem_of_getElem? (i := 1538) (by decide +kernel))) rfl
theorem kw_1540 : Cond.instanceMethod yX11_countPair ∈ kTB := kTB_of (List.mem_append_right _ (List.mem_of_getElem? (i := 1540) (by decide +kernel))) rfl
theorem kw_1541 : Cond.code yX11_countPair prog_13_method_19_code (5 : Nat) (Option.none : Option Jvm.ClassFile.FieldType) ∈ kTB := kTB_of (List.mem_append_right _ (List.mem_of_getElem? (i := 1541) (by decide +kernel))) rfl
theorem kw_1542 : Cond.methodLink "DiceAuditModel" (98 : Nat) yX11_isOf ∈ kTB := kTB_of (List.mem_append_right _ (List.mem_of_getElem? (i := 1542) (by decide +kernel))) rfl
theorem kw_1543 : Cond.static yX11_isOf ∈ kTB := kTB_of (List.mem_append_right _ (List.mem_of_getElem? (i := 1543) (by decide +kernel))) rfl
theorem kw_1544 : Cond.code yX11_isOf prog_13_method_17_code (4 : Nat) (Option.some Jvm.ClassFile.FieldType.boolean) ∈ kTB := kTB_of (List.mem_append_right _ (List.mem_of_getElem? (i := 1544) (by decide +kernel))) rfl
theorem kw_1545 : Cond.methodLink "DiceAuditModel" (112 : Nat) yX11_isBad ∈ kTB := kTB_of (List.mem_append_right _ (List.mem_of_getElem? (i := 1545) (by decide +kernel))) rfl
theorem kw_1547 : Cond.instanceMethod yX11_isBad ∈ kTB := kTB_of (List.mem_append_right _ (List.mem_of_getElem? (i := 1547) (by decide +kernel))) rfl
theorem kw_1548 : Cond.code yX11_isBad prog_13_method_22_code (3 : Nat) (Option.some Jvm.ClassFile.FieldType.boolean) ∈ kTB := kTB_of (List.mem_append_right _ (List.mem_of_getElem? (i := 1548) (by decide +kernel))) rfl
theorem kw_1549 : Cond.methodLink "DiceAuditModel" (109 : Nat) yX11_scoreOfCounts ∈ kTB := kTB_of (List.mem_append_right _ (List.mem_of_getElem? (i := 1549) (by decide +kernel))) rfl
theorem kw_1551 : Cond.instanceMethod yX11_scoreOfCounts ∈ kTB := kTB_of (List.mem_append_right _ (List.mem_of_getElem? (i := 1551) (by decide +kernel))) rfl
theorem kw_1552 : Cond.code yX11_scoreOfCounts prog_13_method_20_code (5 : Nat) (Option.some Jvm.ClassFile.FieldType.int) ∈ kTB := kTB_of (List.mem_append_right _ (List.mem_of_getElem? (i := 1552) (by decide +kernel))) rfl
theorem kw_1553 : Cond.methodLink "DiceAuditModel" (127 : Nat) yX11_hasOffence ∈ kTB := kTB_of (List.mem_append_right _ (List.mem_of_getElem? (i := 1553) (by decide +kernel))) rfl
theorem kw_1554 : Cond.static yX11_hasOffence ∈ kTB := kTB_of (List.mem_append_right _ (List.mem_of_getElem? (i := 1554) (by decide +kernel))) rfl
theorem kw_1555 : Cond.code yX11_hasOffence prog_13_method_24_code (4 : Nat) (Option.some Jvm.ClassFile.FieldType.boolean) ∈ kTB := kTB_of (List.mem_append_right _ (List.mem_of_getElem? (i := 1555) (by decide +kernel))) rfl
theorem kw_1556 : Cond.methodLink "DiceAuditModel" (116 : Nat) yX11_ofOffence ∈ kTB := kTB_of (List.mem_append_right _ (List.mem_of_getElem? (i := 1556) (by decide +kernel))) rfl
theorem kw_1557 : Cond.static yX11_ofOffence ∈ kTB := kTB_of (List.mem_append_right _ (List.mem_of_getElem? (i := 1557) (by decide +kernel))) rfl
theorem kw_1558 : Cond.code yX11_ofOffence prog_13_method_9_code (1 : Nat) (Option.some Jvm.ClassFile.FieldType.int) ∈ kTB := kTB_of (List.mem_append_right _ (List.mem_of_getElem? (i := 1558) (by decide +kernel))) rfl
theorem kw_1559 : Cond.methodLink "DiceAuditModel" (130 : Nat) yX11_scoreOf ∈ kTB := kTB_of (List.mem_append_right _ (List.mem_of_getElem? (i := 1559) (by decide +kernel))) rfl
theorem kw_1561 : Cond.instanceMethod yX11_scoreOf ∈ kTB := kTB_of (List.mem_append_right _ (List.mem_of_getElem? (i := 1561) (by decide +kernel))) rfl
theorem kw_1562 : Cond.code yX11_scoreOf prog_13_method_21_code (4 : Nat) (Option.some Jvm.ClassFile.FieldType.int) ∈ kTB := kTB_of (List.mem_append_right _ (List.mem_of_getElem? (i := 1562) (by decide +kernel))) rfl
theorem kw_1563 : Cond.methodLink "DiceAuditModel" (133 : Nat) yX11_layOffence ∈ kTB := kTB_of (List.mem_append_right _ (List.mem_of_getElem? (i := 1563) (by decide +kernel))) rfl
theorem kw_1564 : Cond.static yX11_layOffence ∈ kTB := kTB_of (List.mem_append_right _ (List.mem_of_getElem? (i := 1564) (by decide +kernel))) rfl
theorem kw_1565 : Cond.code yX11_layOffence prog_13_method_26_code (6 : Nat) (Option.none : Option Jvm.ClassFile.FieldType) ∈ kTB := kTB_of (List.mem_append_right _ (List.mem_of_getElem? (i := 1565) (by decide +kernel))) rfl
theorem kw_1566 : Cond.methodLink "DiceAuditModel" (119 : Nat) yX11_isAhead ∈ kTB := kTB_of (List.mem_append_right _ (List.mem_of_getElem? (i := 1566) (by decide +kernel))) rfl
theorem kw_1567 : Cond.static yX11_isAhead ∈ kTB := kTB_of (List.mem_append_right _ (List.mem_of_getElem? (i := 1567) (by decide +kernel))) rfl
theorem kw_1568 : Cond.code yX11_isAhead prog_13_method_25_code (5 : Nat) (Option.some Jvm.ClassFile.FieldType.boolean) ∈ kTB := kTB_of (List.mem_append_right _ (List.mem_of_getElem? (i := 1568) (by decide +kernel))) rfl
theorem kw_1570 : Cond.methodLink "DiceAuditModel" (267 : Nat) yX11_readAbsolve ∈ kTB := kTB_of (List.mem_append_right _ (List.mem_of_getElem? (i := 1570) (by decide +kernel))) rfl
theorem kw_1572 : Cond.instanceMethod yX11_readAbsolve ∈ kTB := kTB_of (List.mem_append_right _ (List.mem_of_getElem? (i := 1572) (by decide +kernel))) rfl
theorem kw_1573 : Cond.code yX11_readAbsolve prog_13_method_59_code (1 : Nat) (Option.none : Option Jvm.ClassFile.FieldType) ∈ kTB := kTB_of (List.mem_append_right _ (List.mem_of_getElem? (i := 1573) (by decide +kernel))) rfl
theorem kw_1574 : Cond.methodLink "DiceAuditModel" (236 : Nat) yX11_absolveFirst ∈ kTB := kTB_of (List.mem_append_right _ (List.mem_of_getElem? (i := 1574) (by decide +kernel))) rfl
theorem kw_1575 : Cond.static yX11_absolveFirst ∈ kTB := kTB_of (List.mem_append_right _ (List.mem_of_getElem? (i := 1575) (by decide +kernel))) rfl
theorem kw_1576 : Cond.code yX11_absolveFirst prog_13_method_31_code (6 : Nat) (Option.some Jvm.ClassFile.FieldType.int) ∈ kTB := kTB_of (List.mem_append_right _ (List.mem_of_getElem? (i := 1576) (by decide +kernel))) rfl
theorem kw_1577 : Cond.methodLink "DiceAuditModel" (140 : Nat) yX11_penance ∈ kTB := kTB_of (List.mem_append_right _ (List.mem_of_getElem? (i := 1577) (by decide +kernel))) rfl
theorem kw_1578 : Cond.static yX11_penance ∈ kTB := kTB_of (List.mem_append_right _ (List.mem_of_getElem? (i := 1578) (by decide +kernel))) rfl
theorem kw_1579 : Cond.code yX11_penance prog_13_method_30_code (3 : Nat) (Option.some Jvm.ClassFile.FieldType.int) ∈ kTB := kTB_of (List.mem_append_right _ (List.mem_of_getElem? (i := 1579) (by decide +kernel))) rfl
theorem kw_1580 : Cond.methodLink "DiceAuditModel" (137 : Nat) yX11_ofPair ∈ kTB := kTB_of (List.mem_append_right _ (List.mem_of_getElem? (i := 1580) (by decide +kernel))) rfl
theorem kw_1581 : Cond.static yX11_ofPair ∈ kTB := kTB_of (List.mem_append_right _ (List.mem_of_getElem? (i := 1581) (by decide +kernel))) rfl
theorem kw_1582 : Cond.code yX11_ofPair prog_13_method_18_code (5 : Nat) (Option.some Jvm.ClassFile.FieldType.int) ∈ kTB := kTB_of (List.mem_append_right _ (List.mem_of_getElem? (i := 1582) (by decide +kernel))) rfl
theorem kw_1583 : Cond.methodLink "DiceAuditModel" (144 : Nat) yX11_dropOffence ∈ kTB := kTB_of (List.mem_append_right _ (List.mem_of_getElem? (i := 1583) (by decide +kernel))) rfl
theorem kw_1584 : Cond.static yX11_dropOffence ∈ kTB := kTB_of (List.mem_append_right _ (List.mem_of_getElem? (i := 1584) (by decide +kernel))) rfl
theorem kw_1585 : Cond.code yX11_dropOffence prog_13_method_28_code (3 : Nat) (Option.none : Option Jvm.ClassFile.FieldType) ∈ kTB := kTB_of (List.mem_append_right _ (List.mem_of_getElem? (i := 1585) (by decide +kernel))) rfl
theorem kw_1586 : Cond.methodLink "DiceAuditModel" (148 : Nat) yX11_dropThrow ∈ kTB := kTB_of (List.mem_append_right _ (List.mem_of_getElem? (i := 1586) (by decide +kernel))) rfl
theorem kw_1587 : Cond.static yX11_dropThrow ∈ kTB := kTB_of (List.mem_append_right _ (List.mem_of_getElem? (i := 1587) (by decide +kernel))) rfl
theorem kw_1588 : Cond.code yX11_dropThrow prog_13_method_29_code (3 : Nat) (Option.none : Option Jvm.ClassFile.FieldType) ∈ kTB := kTB_of (List.mem_append_right _ (List.mem_of_getElem? (i := 1588) (by decide +kernel))) rfl
theorem kw_1590 : Cond.methodLink "DiceAuditModel" (272 : Nat) yX11_readForgive ∈ kTB := kTB_of (List.mem_append_right _ (List.mem_of_getElem? (i := 1590) (by decide +kernel))) rfl
theorem kw_1592 : Cond.instanceMethod yX11_readForgive ∈ kTB := kTB_of (List.mem_append_right _ (List.mem_of_getElem? (i := 1592) (by decide +kernel))) rfl
theorem kw_1593 : Cond.code yX11_readForgive prog_13_method_60_code (2 : Nat) (Option.none : Option Jvm.ClassFile.FieldType) ∈ kTB := kTB_of (List.mem_append_right _ (List.mem_of_getElem? (i := 1593) (by decide +kernel))) rfl
theorem kw_1594 : Cond.methodLink "DiceAuditModel" (239 : Nat) yX11_forgiveAll ∈ kTB := kTB_of (List.mem_append_right _ (List.mem_of_getElem? (i := 1594) (by decide +kernel))) rfl
theorem kw_1595 : Cond.static yX11_forgiveAll ∈ kTB := kTB_of (List.mem_append_right _ (List.mem_of_getElem? (i := 1595) (by decide +kernel))) rfl
theorem kw_1596 : Cond.code yX11_forgiveAll prog_13_method_33_code (4 : Nat) (Option.some Jvm.ClassFile.FieldType.int) ∈ kTB := kTB_of (List.mem_append_right _ (List.mem_of_getElem? (i := 1596) (by decide +kernel))) rfl
theorem kw_1597 : Cond.methodLink "DiceAuditModel" (155 : Nat) yX11_offencesBy ∈ kTB := kTB_of (List.mem_append_right _ (List.mem_of_getElem? (i := 1597) (by decide +kernel))) rfl
theorem kw_1598 : Cond.static yX11_offencesBy ∈ kTB := kTB_of (List.mem_append_right _ (List.mem_of_getElem? (i := 1598) (by decide +kernel))) rfl
theorem kw_1599 : Cond.code yX11_offencesBy prog_13_method_32_code (4 : Nat) (Option.some Jvm.ClassFile.FieldType.int) ∈ kTB := kTB_of (List.mem_append_right _ (List.mem_of_getElem? (i := 1599) (by decide +kernel))) rfl
theorem kw_1600 : Cond.methodLink "DiceAuditModel" (52 : Nat) yX11_copyRow ∈ kTB := kTB_of (List.mem_append_right _ (List.mem_of_getElem? (i := 1600) (by decide +kernel))) rfl
theorem kw_1601 : Cond.static yX11_copyRow ∈ kTB := kTB_of (List.mem_append_right _ (List.mem_of_getElem? (i := 1601) (by decide +kernel))) rfl
theorem kw_1602 : Cond.code yX11_copyRow prog_13_method_6_code (5 : Nat) (Option.none : Option Jvm.ClassFile.FieldType) ∈ kTB := kTB_of (List.mem_append_right _ (List.mem_of_getElem? (i := 1602) (by decide +kernel))) rfl
theorem kw_1603 : Cond.fieldLink "DiceAuditModel" (7 : Nat) "DiceAuditModel" "s" "[I" ∈ kTB := kTB_of (List.mem_append_right _ (List.mem_of_getElem? (i := 1603) (by decide +kernel))) rfl
theorem kw_1604 : Cond.fieldLink "DiceAuditModel" (13 : Nat) "DiceAuditModel" "parsed" "[I" ∈ kTB := kTB_of (List.mem_append_right _ (List.mem_of_getElem? (i := 1604) (by decide +kernel))) rfl
theorem kw_1605 : Cond.fieldLink "DiceAuditModel" (16 : Nat) "DiceAuditModel" "remembered" "[I" ∈ kTB := kTB_of (List.mem_append_right _ (List.mem_of_getElem? (i := 1605) (by decide +kernel))) rfl
theorem kw_1606 : Cond.fieldLink "DiceAuditModel" (19 : Nat) "DiceAuditModel" "slots" "[I" ∈ kTB := kTB_of (List.mem_append_right _ (List.mem_of_getElem? (i := 1606) (by decide +kernel))) rfl
theorem kw_1607 : Cond.fieldLink "DiceAuditModel" (22 : Nat) "DiceAuditModel" "kept" "[Z" ∈ kTB := kTB_of (List.mem_append_right _ (List.mem_of_getElem? (i := 1607) (by decide +kernel))) rfl
theorem kw_1608 : Cond.fieldLink "DiceAuditModel" (284 : Nat) "DiceAuditModel" "undoable" "I" ∈ kTB := kTB_of (List.mem_append_right _ (List.mem_of_getElem? (i := 1608) (by decide +kernel))) rfl
theorem kw_1609 : Cond.fieldLink "DiceAuditModel" (287 : Nat) "DiceAuditModel" "undoStart" "I" ∈ kTB := kTB_of (List.mem_append_right _ (List.mem_of_getElem? (i := 1609) (by decide +kernel))) rfl
theorem kw_1610 : Cond.fieldLink "DiceAuditModel" (66 : Nat) "DiceAuditModel" "thrown" "I" ∈ kTB := kTB_of (List.mem_append_right _ (List.mem_of_getElem? (i := 1610) (by decide +kernel))) rfl
theorem kw_1611 : Cond.fieldLink "DiceAuditModel" (26 : Nat) "DiceAuditModel" "often" "[I" ∈ kTB := kTB_of (List.mem_append_right _ (List.mem_of_getElem? (i := 1611) (by decide +kernel))) rfl
theorem kw_1612 : Cond.fieldLink "DiceAuditModel" (102 : Nat) "DiceAuditModel" "oftenAll" "I" ∈ kTB := kTB_of (List.mem_append_right _ (List.mem_of_getElem? (i := 1612) (by decide +kernel))) rfl
theorem kw_1613 : Cond.fieldLink "DiceAuditModel" (29 : Nat) "DiceAuditModel" "input" "[I" ∈ kTB := kTB_of (List.mem_append_right _ (List.mem_of_getElem? (i := 1613) (by decide +kernel))) rfl
theorem kw_1614 : Cond.fieldLink "DiceAuditModel" (49 : Nat) "DiceAuditModel" "inputLength" "I" ∈ kTB := kTB_of (List.mem_append_right _ (List.mem_of_getElem? (i := 1614) (by decide +kernel))) rfl
theorem kw_1615 : Cond.fieldLink "DiceAuditModel" (179 : Nat) "DiceAuditModel" "position" "I" ∈ kTB := kTB_of (List.mem_append_right _ (List.mem_of_getElem? (i := 1615) (by decide +kernel))) rfl
theorem kw_1616 : Cond.fieldLink "DiceAuditModel" (185 : Nat) "DiceAuditModel" "start" "I" ∈ kTB := kTB_of (List.mem_append_right _ (List.mem_of_getElem? (i := 1616) (by decide +kernel))) rfl
theorem kw_1617 : Cond.fieldLink "DiceAuditModel" (194 : Nat) "DiceAuditModel" "token" "I" ∈ kTB := kTB_of (List.mem_append_right _ (List.mem_of_getElem? (i := 1617) (by decide +kernel))) rfl
theorem kw_1618 : Cond.fieldLink "DiceAuditModel" (191 : Nat) "DiceAuditModel" "value" "I" ∈ kTB := kTB_of (List.mem_append_right _ (List.mem_of_getElem? (i := 1618) (by decide +kernel))) rfl
theorem kw_1619 : Cond.fieldLink "DiceAuditModel" (188 : Nat) "DiceAuditModel" "letters" "I" ∈ kTB := kTB_of (List.mem_append_right _ (List.mem_of_getElem? (i := 1619) (by decide +kernel))) rfl
theorem kw_1620 : Cond.fieldLink "DiceAuditModel" (173 : Nat) "DiceAuditModel" "code" "I" ∈ kTB := kTB_of (List.mem_append_right _ (List.mem_of_getElem? (i := 1620) (by decide +kernel))) rfl
theorem kw_1621 : Cond.fieldLink "DiceAuditModel" (32 : Nat) "DiceAuditModel" "place" "I" ∈ kTB := kTB_of (List.mem_append_right _ (List.mem_of_getElem? (i := 1621) (by decide +kernel))) rfl
theorem kw_1622 : Cond.fieldLink "DiceAuditModel" (36 : Nat) "DiceAuditModel" "output" "[B" ∈ kTB := kTB_of (List.mem_append_right _ (List.mem_of_getElem? (i := 1622) (by decide +kernel))) rfl
theorem kw_1623 : Cond.fieldLink "DiceAuditModel" (333 : Nat) "DiceAuditModel" "outputLength" "I" ∈ kTB := kTB_of (List.mem_append_right _ (List.mem_of_getElem? (i := 1623) (by decide +kernel))) rfl
theorem kw_1667 : Cond.arrayClass Jvm.ClassFile.FieldType.boolean ∈ kTB := kTB_of (List.mem_append_right _ (List.mem_of_getElem? (i := 1667) (by decide +kernel))) rfl
theorem kw_1668 : Cond.methodLink "DiceAuditLaw" (170 : Nat) yX11_thrown ∈ kTB := kTB_of (List.mem_append_right _ (List.mem_of_getElem? (i := 1668) (by decide +kernel))) rfl
theorem kw_1669 : Cond.instanceMethod yX11_thrown ∈ kTB := kTB_of (List.mem_append_right _ (List.mem_of_getElem? (i := 1669) (by decide +kernel))) rfl
theorem kw_1670 : Cond.selects "DiceAuditModel" yX11_thrown yX11_thrown ∈ kTB := kTB_of (List.mem_append_right _ (List.mem_of_getElem? (i := 1670) (by decide +kernel))) rfl
theorem kw_1671 : Cond.code yX11_thrown prog_13_method_3_code (1 : Nat) (Option.some Jvm.ClassFile.FieldType.int) ∈ kTB := kTB_of (List.mem_append_right _ (List.mem_of_getElem? (i := 1671) (by decide +kernel))) rfl
theorem kw_1672 : Cond.methodLink "DiceAuditLaw" (169 : Nat) yX11_appendInput ∈ kTB := kTB_of (List.mem_append_right _ (List.mem_of_getElem? (i := 1672) (by decide +kernel))) rfl
theorem kw_1673 : Cond.instanceMethod yX11_appendInput ∈ kTB := kTB_of (List.mem_append_right _ (List.mem_of_getElem? (i := 1673) (by decide +kernel))) rfl
theorem kw_1674 : Cond.selects "DiceAuditModel" yX11_appendInput yX11_appendInput ∈ kTB := kTB_of (List.mem_append_right _ (List.mem_of_getElem? (i := 1674) (by decide +kernel))) rfl
theorem kw_1675 : Cond.code yX11_appendInput prog_13_method_38_code (6 : Nat) (Option.some Jvm.ClassFile.FieldType.int) ∈ kTB := kTB_of (List.mem_append_right _ (List.mem_of_getElem? (i := 1675) (by decide +kernel))) rfl
theorem kw_1676 : Cond.methodLink "DiceAuditModel" (161 : Nat) yX11_refuses ∈ kTB := kTB_of (List.mem_append_right _ (List.mem_of_getElem? (i := 1676) (by decide +kernel))) rfl
theorem kw_1678 : Cond.instanceMethod yX11_refuses ∈ kTB := kTB_of (List.mem_append_right _ (List.mem_of_getElem? (i := 1678) (by decide +kernel))) rfl
theorem kw_1679 : Cond.code yX11_refuses prog_13_method_4_code (3 : Nat) (Option.some Jvm.ClassFile.FieldType.boolean) ∈ kTB := kTB_of (List.mem_append_right _ (List.mem_of_getElem? (i := 1679) (by decide +kernel))) rfl
theorem kw_1680 : Cond.methodLink "DiceAuditModel" (165 : Nat) yX11_appendWord ∈ kTB := kTB_of (List.mem_append_right _ (List.mem_of_getElem? (i := 1680) (by decide +kernel))) rfl
theorem kw_1682 : Cond.instanceMethod yX11_appendWord ∈ kTB := kTB_of (List.mem_append_right _ (List.mem_of_getElem? (i := 1682) (by decide +kernel))) rfl
theorem kw_1683 : Cond.code yX11_appendWord prog_13_method_37_code (3 : Nat) (Option.none : Option Jvm.ClassFile.FieldType) ∈ kTB := kTB_of (List.mem_append_right _ (List.mem_of_getElem? (i := 1683) (by decide +kernel))) rfl
theorem kw_1684 : Cond.methodLink "DiceAuditLaw" (176 : Nat) yX11_truncateInput ∈ kTB := kTB_of (List.mem_append_right _ (List.mem_of_getElem? (i := 1684) (by decide +kernel))) rfl
theorem kw_1685 : Cond.instanceMethod yX11_truncateInput ∈ kTB := kTB_of (List.mem_append_right _ (List.mem_of_getElem? (i := 1685) (by decide +kernel))) rfl
theorem kw_1686 : Cond.selects "DiceAuditModel" yX11_truncateInput yX11_truncateInput ∈ kTB := kTB_of (List.mem_append_right _ (List.mem_of_getElem? (i := 1686) (by decide +kernel))) rfl
theorem kw_1687 : Cond.code yX11_truncateInput prog_13_method_39_code (2 : Nat) (Option.some Jvm.ClassFile.FieldType.int) ∈ kTB := kTB_of (List.mem_append_right _ (List.mem_of_getElem? (i := 1687) (by decide +kernel))) rfl
theorem kw_1688 : Cond.methodLink "DiceAuditModel" (169 : Nat) yX11_noNumber ∈ kTB := kTB_of (List.mem_append_right _ (List.mem_of_getElem? (i := 1688) (by decide +kernel))) rfl
theorem kw_1690 : Cond.instanceMethod yX11_noNumber ∈ kTB := kTB_of (List.mem_append_right _ (List.mem_of_getElem? (i := 1690) (by decide +kernel))) rfl
theorem kw_1691 : Cond.code yX11_noNumber prog_13_method_67_code (4 : Nat) (Option.some Jvm.ClassFile.FieldType.boolean) ∈ kTB := kTB_of (List.mem_append_right _ (List.mem_of_getElem? (i := 1691) (by decide +kernel))) rfl
theorem kw_1692 : Cond.methodLink "DiceAuditLaw" (184 : Nat) yX11_errorCode ∈ kTB := kTB_of (List.mem_append_right _ (List.mem_of_getElem? (i := 1692) (by decide +kernel))) rfl
theorem kw_1693 : Cond.instanceMethod yX11_errorCode ∈ kTB := kTB_of (List.mem_append_right _ (List.mem_of_getElem? (i := 1693) (by decide +kernel))) rfl
theorem kw_1694 : Cond.selects "DiceAuditModel" yX11_errorCode yX11_errorCode ∈ kTB := kTB_of (List.mem_append_right _ (List.mem_of_getElem? (i := 1694) (by decide +kernel))) rfl
theorem kw_1695 : Cond.code yX11_errorCode prog_13_method_40_code (1 : Nat) (Option.some Jvm.ClassFile.FieldType.int) ∈ kTB := kTB_of (List.mem_append_right _ (List.mem_of_getElem? (i := 1695) (by decide +kernel))) rfl
theorem kw_1696 : Cond.methodLink "DiceAuditLaw" (188 : Nat) yX11_errorPosition ∈ kTB := kTB_of (List.mem_append_right _ (List.mem_of_getElem? (i := 1696) (by decide +kernel))) rfl
theorem kw_1697 : Cond.instanceMethod yX11_errorPosition ∈ kTB := kTB_of (List.mem_append_right _ (List.mem_of_getElem? (i := 1697) (by decide +kernel))) rfl
theorem kw_1698 : Cond.selects "DiceAuditModel" yX11_errorPosition yX11_errorPosition ∈ kTB := kTB_of (List.mem_append_right _ (List.mem_of_getElem? (i := 1698) (by decide +kernel))) rfl
theorem kw_1699 : Cond.code yX11_errorPosition prog_13_method_41_code (1 : Nat) (Option.some Jvm.ClassFile.FieldType.int) ∈ kTB := kTB_of (List.mem_append_right _ (List.mem_of_getElem? (i := 1699) (by decide +kernel))) rfl
theorem kw_1700 : Cond.methodLink "DiceAuditLaw" (180 : Nat) yX11_load ∈ kTB := kTB_of (List.mem_append_right _ (List.mem_of_getElem? (i := 1700) (by decide +kernel))) rfl
theorem kw_1701 : Cond.instanceMethod yX11_load ∈ kTB := kTB_of (List.mem_append_right _ (List.mem_of_getElem? (i := 1701) (by decide +kernel))) rfl
theorem kw_1702 : Cond.selects "DiceAuditModel" yX11_load yX11_load ∈ kTB := kTB_of (List.mem_append_right _ (List.mem_of_getElem? (i := 1702) (by decide +kernel))) rfl
theorem kw_1703 : Cond.code yX11_load prog_13_method_63_code (1 : Nat) (Option.some Jvm.ClassFile.FieldType.int) ∈ kTB := kTB_of (List.mem_append_right _ (List.mem_of_getElem? (i := 1703) (by decide +kernel))) rfl
theorem kw_1704 : Cond.methodLink "DiceAuditModel" (281 : Nat) yX11_remember ∈ kTB := kTB_of (List.mem_append_right _ (List.mem_of_getElem? (i := 1704) (by decide +kernel))) rfl
theorem kw_1706 : Cond.instanceMethod yX11_remember ∈ kTB := kTB_of (List.mem_append_right _ (List.mem_of_getElem? (i := 1706) (by decide +kernel))) rfl
theorem kw_1707 : Cond.code yX11_remember prog_13_method_64_code (1 : Nat) (Option.none : Option Jvm.ClassFile.FieldType) ∈ kTB := kTB_of (List.mem_append_right _ (List.mem_of_getElem? (i := 1707) (by decide +kernel))) rfl
theorem kw_1708 : Cond.methodLink "DiceAuditLaw" (382 : Nat) yX11_undo ∈ kTB := kTB_of (List.mem_append_right _ (List.mem_of_getElem? (i := 1708) (by decide +kernel))) rfl
theorem kw_1709 : Cond.instanceMethod yX11_undo ∈ kTB := kTB_of (List.mem_append_right _ (List.mem_of_getElem? (i := 1709) (by decide +kernel))) rfl
theorem kw_1710 : Cond.selects "DiceAuditModel" yX11_undo yX11_undo ∈ kTB := kTB_of (List.mem_append_right _ (List.mem_of_getElem? (i := 1710) (by decide +kernel))) rfl
theorem kw_1711 : Cond.code yX11_undo prog_13_method_65_code (1 : Nat) (Option.some Jvm.ClassFile.FieldType.int) ∈ kTB := kTB_of (List.mem_append_right _ (List.mem_of_getElem? (i := 1711) (by decide +kernel))) rfl
theorem kw_1712 : Cond.methodLink "DiceAuditLaw" (386 : Nat) yX11_undoDepth ∈ kTB := kTB_of (List.mem_append_right _ (List.mem_of_getElem? (i := 1712) (by decide +kernel))) rfl
theorem kw_1713 : Cond.instanceMethod yX11_undoDepth ∈ kTB := kTB_of (List.mem_append_right _ (List.mem_of_getElem? (i := 1713) (by decide +kernel))) rfl
theorem kw_1714 : Cond.selects "DiceAuditModel" yX11_undoDepth yX11_undoDepth ∈ kTB := kTB_of (List.mem_append_right _ (List.mem_of_getElem? (i := 1714) (by decide +kernel))) rfl
theorem kw_1715 : Cond.code yX11_undoDepth prog_13_method_66_code (1 : Nat) (Option.some Jvm.ClassFile.FieldType.int) ∈ kTB := kTB_of (List.mem_append_right _ (List.mem_of_getElem? (i := 1715) (by decide +kernel))) rfl
theorem kw_1716 : Cond.methodLink "DiceAuditLaw" (192 : Nat) yX11_seed ∈ kTB := kTB_of (List.mem_append_right _ (List.mem_of_getElem? (i := 1716) (by decide +kernel))) rfl
theorem kw_1717 : Cond.instanceMethod yX11_seed ∈ kTB := kTB_of (List.mem_append_right _ (List.mem_of_getElem? (i := 1717) (by decide +kernel))) rfl
theorem kw_1718 : Cond.selects "DiceAuditModel" yX11_seed yX11_seed ∈ kTB := kTB_of (List.mem_append_right _ (List.mem_of_getElem? (i := 1718) (by decide +kernel))) rfl
theorem kw_1719 : Cond.code yX11_seed prog_13_method_74_code (1 : Nat) (Option.some Jvm.ClassFile.FieldType.int) ∈ kTB := kTB_of (List.mem_append_right _ (List.mem_of_getElem? (i := 1719) (by decide +kernel))) rfl
theorem kw_1720 : Cond.methodLink "DiceAuditLaw" (196 : Nat) yX11_minimum ∈ kTB := kTB_of (List.mem_append_right _ (List.mem_of_getElem? (i := 1720) (by decide +kernel))) rfl
theorem kw_1721 : Cond.instanceMethod yX11_minimum ∈ kTB := kTB_of (List.mem_append_right _ (List.mem_of_getElem? (i := 1721) (by decide +kernel))) rfl
theorem kw_1722 : Cond.selects "DiceAuditModel" yX11_minimum yX11_minimum ∈ kTB := kTB_of (List.mem_append_right _ (List.mem_of_getElem? (i := 1722) (by decide +kernel))) rfl
theorem kw_1723 : Cond.code yX11_minimum prog_13_method_75_code (1 : Nat) (Option.some Jvm.ClassFile.FieldType.int) ∈ kTB := kTB_of (List.mem_append_right _ (List.mem_of_getElem? (i := 1723) (by decide +kernel))) rfl
theorem kw_1724 : Cond.methodLink "DiceAuditLaw" (200 : Nat) yX11_threshold ∈ kTB := kTB_of (List.mem_append_right _ (List.mem_of_getElem? (i := 1724) (by decide +kernel))) rfl
theorem kw_1725 : Cond.instanceMethod yX11_threshold ∈ kTB := kTB_of (List.mem_append_right _ (List.mem_of_getElem? (i := 1725) (by decide +kernel))) rfl
theorem kw_1726 : Cond.selects "DiceAuditModel" yX11_threshold yX11_threshold ∈ kTB := kTB_of (List.mem_append_right _ (List.mem_of_getElem? (i := 1726) (by decide +kernel))) rfl
theorem kw_1727 : Cond.code yX11_threshold prog_13_method_76_code (1 : Nat) (Option.some Jvm.ClassFile.FieldType.int) ∈ kTB := kTB_of (List.mem_append_right _ (List.mem_of_getElem? (i := 1727) (by decide +kernel))) rfl
theorem kw_1728 : Cond.methodLink "DiceAuditLaw" (204 : Nat) yX11_dieCount ∈ kTB := kTB_of (List.mem_append_right _ (List.mem_of_getElem? (i := 1728) (by decide +kernel))) rfl
theorem kw_1729 : Cond.instanceMethod yX11_dieCount ∈ kTB := kTB_of (List.mem_append_right _ (List.mem_of_getElem? (i := 1729) (by decide +kernel))) rfl
theorem kw_1730 : Cond.selects "DiceAuditModel" yX11_dieCount yX11_dieCount ∈ kTB := kTB_of (List.mem_append_right _ (List.mem_of_getElem? (i := 1730) (by decide +kernel))) rfl
theorem kw_1731 : Cond.code yX11_dieCount prog_13_method_77_code (1 : Nat) (Option.some Jvm.ClassFile.FieldType.int) ∈ kTB := kTB_of (List.mem_append_right _ (List.mem_of_getElem? (i := 1731) (by decide +kernel))) rfl
theorem kw_1732 : Cond.methodLink "DiceAuditLaw" (208 : Nat) yX11_playerCount ∈ kTB := kTB_of (List.mem_append_right _ (List.mem_of_getElem? (i := 1732) (by decide +kernel))) rfl
theorem kw_1733 : Cond.instanceMethod yX11_playerCount ∈ kTB := kTB_of (List.mem_append_right _ (List.mem_of_getElem? (i := 1733) (by decide +kernel))) rfl
theorem kw_1734 : Cond.selects "DiceAuditModel" yX11_playerCount yX11_playerCount ∈ kTB := kTB_of (List.mem_append_right _ (List.mem_of_getElem? (i := 1734) (by decide +kernel))) rfl
theorem kw_1735 : Cond.code yX11_playerCount prog_13_method_78_code (1 : Nat) (Option.some Jvm.ClassFile.FieldType.int) ∈ kTB := kTB_of (List.mem_append_right _ (List.mem_of_getElem? (i := 1735) (by decide +kernel))) rfl
theorem kw_1736 : Cond.methodLink "DiceAuditLaw" (212 : Nat) yX11_throwCount ∈ kTB := kTB_of (List.mem_append_right _ (List.mem_of_getElem? (i := 1736) (by decide +kernel))) rfl
theorem kw_1737 : Cond.instanceMethod yX11_throwCount ∈ kTB := kTB_of (List.mem_append_right _ (List.mem_of_getElem? (i := 1737) (by decide +kernel))) rfl
theorem kw_1738 : Cond.selects "DiceAuditModel" yX11_throwCount yX11_throwCount ∈ kTB := kTB_of (List.mem_append_right _ (List.mem_of_getElem? (i := 1738) (by decide +kernel))) rfl
theorem kw_1739 : Cond.code yX11_throwCount prog_13_method_79_code (1 : Nat) (Option.some Jvm.ClassFile.FieldType.int) ∈ kTB := kTB_of (List.mem_append_right _ (List.mem_of_getElem? (i := 1739) (by decide +kernel))) rfl
theorem kw_1740 : Cond.methodLink "DiceAuditLaw" (215 : Nat) yX11_faces ∈ kTB := kTB_of (List.mem_append_right _ (List.mem_of_getElem? (i := 1740) (by decide +kernel))) rfl
theorem kw_1741 : Cond.instanceMethod yX11_faces ∈ kTB := kTB_of (List.mem_append_right _ (List.mem_of_getElem? (i := 1741) (by decide +kernel))) rfl
theorem kw_1742 : Cond.selects "DiceAuditModel" yX11_faces yX11_faces ∈ kTB := kTB_of (List.mem_append_right _ (List.mem_of_getElem? (i := 1742) (by decide +kernel))) rfl
theorem kw_1743 : Cond.code yX11_faces prog_13_method_80_code (2 : Nat) (Option.some Jvm.ClassFile.FieldType.int) ∈ kTB := kTB_of (List.mem_append_right _ (List.mem_of_getElem? (i := 1743) (by decide +kernel))) rfl
theorem kw_1744 : Cond.methodLink "DiceAuditModel" (293 : Nat) yX11_noDie ∈ kTB := kTB_of (List.mem_append_right _ (List.mem_of_getElem? (i := 1744) (by decide +kernel))) rfl
theorem kw_1746 : Cond.instanceMethod yX11_noDie ∈ kTB := kTB_of (List.mem_append_right _ (List.mem_of_getElem? (i := 1746) (by decide +kernel))) rfl
theorem kw_1747 : Cond.code yX11_noDie prog_13_method_68_code (2 : Nat) (Option.some Jvm.ClassFile.FieldType.boolean) ∈ kTB := kTB_of (List.mem_append_right _ (List.mem_of_getElem? (i := 1747) (by decide +kernel))) rfl
theorem kw_1748 : Cond.methodLink "DiceAuditLaw" (219 : Nat) yX11_weightOf ∈ kTB := kTB_of (List.mem_append_right _ (List.mem_of_getElem? (i := 1748) (by decide +kernel))) rfl
theorem kw_1749 : Cond.instanceMethod yX11_weightOf ∈ kTB := kTB_of (List.mem_append_right _ (List.mem_of_getElem? (i := 1749) (by decide +kernel))) rfl
theorem kw_1750 : Cond.selects "DiceAuditModel" yX11_weightOf yX11_weightOf ∈ kTB := kTB_of (List.mem_append_right _ (List.mem_of_getElem? (i := 1750) (by decide +kernel))) rfl
theorem kw_1751 : Cond.code yX11_weightOf prog_13_method_81_code (3 : Nat) (Option.some Jvm.ClassFile.FieldType.int) ∈ kTB := kTB_of (List.mem_append_right _ (List.mem_of_getElem? (i := 1751) (by decide +kernel))) rfl
theorem kw_1752 : Cond.methodLink "DiceAuditModel" (296 : Nat) yX11_out ∈ kTB := kTB_of (List.mem_append_right _ (List.mem_of_getElem? (i := 1752) (by decide +kernel))) rfl
theorem kw_1754 : Cond.instanceMethod yX11_out ∈ kTB := kTB_of (List.mem_append_right _ (List.mem_of_getElem? (i := 1754) (by decide +kernel))) rfl
theorem kw_1755 : Cond.code yX11_out prog_13_method_73_code (4 : Nat) (Option.some Jvm.ClassFile.FieldType.boolean) ∈ kTB := kTB_of (List.mem_append_right _ (List.mem_of_getElem? (i := 1755) (by decide +kernel))) rfl
theorem kw_1756 : Cond.methodLink "DiceAuditLaw" (222 : Nat) yX11_isBalanced ∈ kTB := kTB_of (List.mem_append_right _ (List.mem_of_getElem? (i := 1756) (by decide +kernel))) rfl
theorem kw_1757 : Cond.instanceMethod yX11_isBalanced ∈ kTB := kTB_of (List.mem_append_right _ (List.mem_of_getElem? (i := 1757) (by decide +kernel))) rfl
theorem kw_1758 : Cond.selects "DiceAuditModel" yX11_isBalanced yX11_isBalanced ∈ kTB := kTB_of (List.mem_append_right _ (List.mem_of_getElem? (i := 1758) (by decide +kernel))) rfl
theorem kw_1759 : Cond.code yX11_isBalanced prog_13_method_82_code (3 : Nat) (Option.some Jvm.ClassFile.FieldType.boolean) ∈ kTB := kTB_of (List.mem_append_right _ (List.mem_of_getElem? (i := 1759) (by decide +kernel))) rfl
theorem kw_1760 : Cond.methodLink "DiceAuditLaw" (225 : Nat) yX11_heaviestFace ∈ kTB := kTB_of (List.mem_append_right _ (List.mem_of_getElem? (i := 1760) (by decide +kernel))) rfl
theorem kw_1761 : Cond.instanceMethod yX11_heaviestFace ∈ kTB := kTB_of (List.mem_append_right _ (List.mem_of_getElem? (i := 1761) (by decide +kernel))) rfl
theorem kw_1762 : Cond.selects "DiceAuditModel" yX11_heaviestFace yX11_heaviestFace ∈ kTB := kTB_of (List.mem_append_right _ (List.mem_of_getElem? (i := 1762) (by decide +kernel))) rfl
theorem kw_1763 : Cond.code yX11_heaviestFace prog_13_method_83_code (4 : Nat) (Option.some Jvm.ClassFile.FieldType.int) ∈ kTB := kTB_of (List.mem_append_right _ (List.mem_of_getElem? (i := 1763) (by decide +kernel))) rfl
theorem kw_1764 : Cond.methodLink "DiceAuditLaw" (228 : Nat) yX11_nameByte ∈ kTB := kTB_of (List.mem_append_right _ (List.mem_of_getElem? (i := 1764) (by decide +kernel))) rfl
theorem kw_1765 : Cond.instanceMethod yX11_nameByte ∈ kTB := kTB_of (List.mem_append_right _ (List.mem_of_getElem? (i := 1765) (by decide +kernel))) rfl
theorem kw_1766 : Cond.selects "DiceAuditModel" yX11_nameByte yX11_nameByte ∈ kTB := kTB_of (List.mem_append_right _ (List.mem_of_getElem? (i := 1766) (by decide +kernel))) rfl
theorem kw_1767 : Cond.code yX11_nameByte prog_13_method_86_code (3 : Nat) (Option.some Jvm.ClassFile.FieldType.int) ∈ kTB := kTB_of (List.mem_append_right _ (List.mem_of_getElem? (i := 1767) (by decide +kernel))) rfl
theorem kw_1768 : Cond.methodLink "DiceAuditModel" (290 : Nat) yX11_noPlayer ∈ kTB := kTB_of (List.mem_append_right _ (List.mem_of_getElem? (i := 1768) (by decide +kernel))) rfl
theorem kw_1770 : Cond.instanceMethod yX11_noPlayer ∈ kTB := kTB_of (List.mem_append_right _ (List.mem_of_getElem? (i := 1770) (by decide +kernel))) rfl
theorem kw_1771 : Cond.code yX11_noPlayer prog_13_method_69_code (2 : Nat) (Option.some Jvm.ClassFile.FieldType.boolean) ∈ kTB := kTB_of (List.mem_append_right _ (List.mem_of_getElem? (i := 1771) (by decide +kernel))) rfl
theorem kw_1772 : Cond.methodLink "DiceAuditModel" (302 : Nat) yX11_lettersOf ∈ kTB := kTB_of (List.mem_append_right _ (List.mem_of_getElem? (i := 1772) (by decide +kernel))) rfl
theorem kw_1773 : Cond.static yX11_lettersOf ∈ kTB := kTB_of (List.mem_append_right _ (List.mem_of_getElem? (i := 1773) (by decide +kernel))) rfl
theorem kw_1774 : Cond.code yX11_lettersOf prog_13_method_85_code (2 : Nat) (Option.some Jvm.ClassFile.FieldType.int) ∈ kTB := kTB_of (List.mem_append_right _ (List.mem_of_getElem? (i := 1774) (by decide +kernel))) rfl
theorem kw_1775 : Cond.methodLink "DiceAuditModel" (299 : Nat) yX11_letterOf ∈ kTB := kTB_of (List.mem_append_right _ (List.mem_of_getElem? (i := 1775) (by decide +kernel))) rfl
theorem kw_1776 : Cond.static yX11_letterOf ∈ kTB := kTB_of (List.mem_append_right _ (List.mem_of_getElem? (i := 1776) (by decide +kernel))) rfl
theorem kw_1777 : Cond.code yX11_letterOf prog_13_method_84_code (4 : Nat) (Option.some Jvm.ClassFile.FieldType.int) ∈ kTB := kTB_of (List.mem_append_right _ (List.mem_of_getElem? (i := 1777) (by decide +kernel))) rfl
theorem kw_1778 : Cond.methodLink "DiceAuditLaw" (231 : Nat) yX11_playerAt ∈ kTB := kTB_of (List.mem_append_right _ (List.mem_of_getElem? (i := 1778) (by decide +kernel))) rfl
theorem kw_1779 : Cond.instanceMethod yX11_playerAt ∈ kTB := kTB_of (List.mem_append_right _ (List.mem_of_getElem? (i := 1779) (by decide +kernel))) rfl
theorem kw_1780 : Cond.selects "DiceAuditModel" yX11_playerAt yX11_playerAt ∈ kTB := kTB_of (List.mem_append_right _ (List.mem_of_getElem? (i := 1780) (by decide +kernel))) rfl
theorem kw_1781 : Cond.code yX11_playerAt prog_13_method_88_code (2 : Nat) (Option.some Jvm.ClassFile.FieldType.int) ∈ kTB := kTB_of (List.mem_append_right _ (List.mem_of_getElem? (i := 1781) (by decide +kernel))) rfl
theorem kw_1782 : Cond.methodLink "DiceAuditModel" (308 : Nat) yX11_ofIt ∈ kTB := kTB_of (List.mem_append_right _ (List.mem_of_getElem? (i := 1782) (by decide +kernel))) rfl
theorem kw_1784 : Cond.instanceMethod yX11_ofIt ∈ kTB := kTB_of (List.mem_append_right _ (List.mem_of_getElem? (i := 1784) (by decide +kernel))) rfl
theorem kw_1785 : Cond.code yX11_ofIt prog_13_method_87_code (3 : Nat) (Option.some Jvm.ClassFile.FieldType.int) ∈ kTB := kTB_of (List.mem_append_right _ (List.mem_of_getElem? (i := 1785) (by decide +kernel))) rfl
theorem kw_1786 : Cond.methodLink "DiceAuditModel" (305 : Nat) yX11_noThrow ∈ kTB := kTB_of (List.mem_append_right _ (List.mem_of_getElem? (i := 1786) (by decide +kernel))) rfl
theorem kw_1788 : Cond.instanceMethod yX11_noThrow ∈ kTB := kTB_of (List.mem_append_right _ (List.mem_of_getElem? (i := 1788) (by decide +kernel))) rfl
theorem kw_1789 : Cond.code yX11_noThrow prog_13_method_71_code (2 : Nat) (Option.some Jvm.ClassFile.FieldType.boolean) ∈ kTB := kTB_of (List.mem_append_right _ (List.mem_of_getElem? (i := 1789) (by decide +kernel))) rfl
theorem kw_1790 : Cond.methodLink "DiceAuditLaw" (234 : Nat) yX11_dieAt ∈ kTB := kTB_of (List.mem_append_right _ (List.mem_of_getElem? (i := 1790) (by decide +kernel))) rfl
theorem kw_1791 : Cond.instanceMethod yX11_dieAt ∈ kTB := kTB_of (List.mem_append_right _ (List.mem_of_getElem? (i := 1791) (by decide +kernel))) rfl
theorem kw_1792 : Cond.selects "DiceAuditModel" yX11_dieAt yX11_dieAt ∈ kTB := kTB_of (List.mem_append_right _ (List.mem_of_getElem? (i := 1792) (by decide +kernel))) rfl
theorem kw_1793 : Cond.code yX11_dieAt prog_13_method_89_code (2 : Nat) (Option.some Jvm.ClassFile.FieldType.int) ∈ kTB := kTB_of (List.mem_append_right _ (List.mem_of_getElem? (i := 1793) (by decide +kernel))) rfl
theorem kw_1794 : Cond.methodLink "DiceAuditLaw" (237 : Nat) yX11_faceAt ∈ kTB := kTB_of (List.mem_append_right _ (List.mem_of_getElem? (i := 1794) (by decide +kernel))) rfl
theorem kw_1795 : Cond.instanceMethod yX11_faceAt ∈ kTB := kTB_of (List.mem_append_right _ (List.mem_of_getElem? (i := 1795) (by decide +kernel))) rfl
theorem kw_1796 : Cond.selects "DiceAuditModel" yX11_faceAt yX11_faceAt ∈ kTB := kTB_of (List.mem_append_right _ (List.mem_of_getElem? (i := 1796) (by decide +kernel))) rfl
theorem kw_1797 : Cond.code yX11_faceAt prog_13_method_90_code (2 : Nat) (Option.some Jvm.ClassFile.FieldType.int) ∈ kTB := kTB_of (List.mem_append_right _ (List.mem_of_getElem? (i := 1797) (by decide +kernel))) rfl
theorem kw_1798 : Cond.methodLink "DiceAuditLaw" (240 : Nat) yX11_isFairAt ∈ kTB := kTB_of (List.mem_append_right _ (List.mem_of_getElem? (i := 1798) (by decide +kernel))) rfl
theorem kw_1799 : Cond.instanceMethod yX11_isFairAt ∈ kTB := kTB_of (List.mem_append_right _ (List.mem_of_getElem? (i := 1799) (by decide +kernel))) rfl
theorem kw_1800 : Cond.selects "DiceAuditModel" yX11_isFairAt yX11_isFairAt ∈ kTB := kTB_of (List.mem_append_right _ (List.mem_of_getElem? (i := 1800) (by decide +kernel))) rfl
theorem kw_1801 : Cond.code yX11_isFairAt prog_13_method_91_code (2 : Nat) (Option.some Jvm.ClassFile.FieldType.boolean) ∈ kTB := kTB_of (List.mem_append_right _ (List.mem_of_getElem? (i := 1801) (by decide +kernel))) rfl
theorem kw_1802 : Cond.methodLink "DiceAuditLaw" (243 : Nat) yX11_throwsOf ∈ kTB := kTB_of (List.mem_append_right _ (List.mem_of_getElem? (i := 1802) (by decide +kernel))) rfl
theorem kw_1803 : Cond.instanceMethod yX11_throwsOf ∈ kTB := kTB_of (List.mem_append_right _ (List.mem_of_getElem? (i := 1803) (by decide +kernel))) rfl
theorem kw_1804 : Cond.selects "DiceAuditModel" yX11_throwsOf yX11_throwsOf ∈ kTB := kTB_of (List.mem_append_right _ (List.mem_of_getElem? (i := 1804) (by decide +kernel))) rfl
theorem kw_1805 : Cond.code yX11_throwsOf prog_13_method_92_code (2 : Nat) (Option.some Jvm.ClassFile.FieldType.int) ∈ kTB := kTB_of (List.mem_append_right _ (List.mem_of_getElem? (i := 1805) (by decide +kernel))) rfl
theorem kw_1806 : Cond.methodLink "DiceAuditModel" (311 : Nat) yX11_throwsBy ∈ kTB := kTB_of (List.mem_append_right _ (List.mem_of_getElem? (i := 1806) (by decide +kernel))) rfl
theorem kw_1807 : Cond.static yX11_throwsBy ∈ kTB := kTB_of (List.mem_append_right _ (List.mem_of_getElem? (i := 1807) (by decide +kernel))) rfl
theorem kw_1808 : Cond.code yX11_throwsBy prog_13_method_35_code (4 : Nat) (Option.some Jvm.ClassFile.FieldType.int) ∈ kTB := kTB_of (List.mem_append_right _ (List.mem_of_getElem? (i := 1808) (by decide +kernel))) rfl
theorem kw_1809 : Cond.methodLink "DiceAuditLaw" (246 : Nat) yX11_total ∈ kTB := kTB_of (List.mem_append_right _ (List.mem_of_getElem? (i := 1809) (by decide +kernel))) rfl
theorem kw_1810 : Cond.instanceMethod yX11_total ∈ kTB := kTB_of (List.mem_append_right _ (List.mem_of_getElem? (i := 1810) (by decide +kernel))) rfl
theorem kw_1811 : Cond.selects "DiceAuditModel" yX11_total yX11_total ∈ kTB := kTB_of (List.mem_append_right _ (List.mem_of_getElem? (i := 1811) (by decide +kernel))) rfl
theorem kw_1812 : Cond.code yX11_total prog_13_method_93_code (2 : Nat) (Option.some Jvm.ClassFile.FieldType.int) ∈ kTB := kTB_of (List.mem_append_right _ (List.mem_of_getElem? (i := 1812) (by decide +kernel))) rfl
theorem kw_1813 : Cond.methodLink "DiceAuditModel" (158 : Nat) yX11_totalOf ∈ kTB := kTB_of (List.mem_append_right _ (List.mem_of_getElem? (i := 1813) (by decide +kernel))) rfl
theorem kw_1814 : Cond.static yX11_totalOf ∈ kTB := kTB_of (List.mem_append_right _ (List.mem_of_getElem? (i := 1814) (by decide +kernel))) rfl
theorem kw_1815 : Cond.code yX11_totalOf prog_13_method_34_code (4 : Nat) (Option.some Jvm.ClassFile.FieldType.int) ∈ kTB := kTB_of (List.mem_append_right _ (List.mem_of_getElem? (i := 1815) (by decide +kernel))) rfl
theorem kw_1816 : Cond.methodLink "DiceAuditLaw" (250 : Nat) yX11_meanFace ∈ kTB := kTB_of (List.mem_append_right _ (List.mem_of_getElem? (i := 1816) (by decide +kernel))) rfl
theorem kw_1817 : Cond.instanceMethod yX11_meanFace ∈ kTB := kTB_of (List.mem_append_right _ (List.mem_of_getElem? (i := 1817) (by decide +kernel))) rfl
theorem kw_1818 : Cond.selects "DiceAuditModel" yX11_meanFace yX11_meanFace ∈ kTB := kTB_of (List.mem_append_right _ (List.mem_of_getElem? (i := 1818) (by decide +kernel))) rfl
theorem kw_1819 : Cond.code yX11_meanFace prog_13_method_94_code (3 : Nat) (Option.some Jvm.ClassFile.FieldType.double) ∈ kTB := kTB_of (List.mem_append_right _ (List.mem_of_getElem? (i := 1819) (by decide +kernel))) rfl
theorem kw_1820 : Cond.methodLink "DiceAuditLaw" (253 : Nat) yX11_rankOf ∈ kTB := kTB_of (List.mem_append_right _ (List.mem_of_getElem? (i := 1820) (by decide +kernel))) rfl
theorem kw_1821 : Cond.instanceMethod yX11_rankOf ∈ kTB := kTB_of (List.mem_append_right _ (List.mem_of_getElem? (i := 1821) (by decide +kernel))) rfl
theorem kw_1822 : Cond.selects "DiceAuditModel" yX11_rankOf yX11_rankOf ∈ kTB := kTB_of (List.mem_append_right _ (List.mem_of_getElem? (i := 1822) (by decide +kernel))) rfl
theorem kw_1823 : Cond.code yX11_rankOf prog_13_method_95_code (2 : Nat) (Option.some Jvm.ClassFile.FieldType.int) ∈ kTB := kTB_of (List.mem_append_right _ (List.mem_of_getElem? (i := 1823) (by decide +kernel))) rfl
theorem kw_1824 : Cond.methodLink "DiceAuditModel" (314 : Nat) yX11_rank ∈ kTB := kTB_of (List.mem_append_right _ (List.mem_of_getElem? (i := 1824) (by decide +kernel))) rfl
theorem kw_1825 : Cond.static yX11_rank ∈ kTB := kTB_of (List.mem_append_right _ (List.mem_of_getElem? (i := 1825) (by decide +kernel))) rfl
theorem kw_1826 : Cond.code yX11_rank prog_13_method_36_code (6 : Nat) (Option.some Jvm.ClassFile.FieldType.int) ∈ kTB := kTB_of (List.mem_append_right _ (List.mem_of_getElem? (i := 1826) (by decide +kernel))) rfl
theorem kw_1827 : Cond.methodLink "DiceAuditLaw" (256 : Nat) yX11_playerWithRank ∈ kTB := kTB_of (List.mem_append_right _ (List.mem_of_getElem? (i := 1827) (by decide +kernel))) rfl
theorem kw_1828 : Cond.instanceMethod yX11_playerWithRank ∈ kTB := kTB_of (List.mem_append_right _ (List.mem_of_getElem? (i := 1828) (by decide +kernel))) rfl
theorem kw_1829 : Cond.selects "DiceAuditModel" yX11_playerWithRank yX11_playerWithRank ∈ kTB := kTB_of (List.mem_append_right _ (List.mem_of_getElem? (i := 1829) (by decide +kernel))) rfl
theorem kw_1830 : Cond.code yX11_playerWithRank prog_13_method_96_code (3 : Nat) (Option.some Jvm.ClassFile.FieldType.int) ∈ kTB := kTB_of (List.mem_append_right _ (List.mem_of_getElem? (i := 1830) (by decide +kernel))) rfl
theorem kw_1831 : Cond.methodLink "DiceAuditLaw" (259 : Nat) yX11_longestRun ∈ kTB := kTB_of (List.mem_append_right _ (List.mem_of_getElem? (i := 1831) (by decide +kernel))) rfl
theorem kw_1832 : Cond.instanceMethod yX11_longestRun ∈ kTB := kTB_of (List.mem_append_right _ (List.mem_of_getElem? (i := 1832) (by decide +kernel))) rfl
theorem kw_1833 : Cond.selects "DiceAuditModel" yX11_longestRun yX11_longestRun ∈ kTB := kTB_of (List.mem_append_right _ (List.mem_of_getElem? (i := 1833) (by decide +kernel))) rfl
theorem kw_1834 : Cond.code yX11_longestRun prog_13_method_97_code (6 : Nat) (Option.some Jvm.ClassFile.FieldType.int) ∈ kTB := kTB_of (List.mem_append_right _ (List.mem_of_getElem? (i := 1834) (by decide +kernel))) rfl
theorem kw_1835 : Cond.methodLink "DiceAuditLaw" (263 : Nat) yX11_findPlayer ∈ kTB := kTB_of (List.mem_append_right _ (List.mem_of_getElem? (i := 1835) (by decide +kernel))) rfl
theorem kw_1836 : Cond.instanceMethod yX11_findPlayer ∈ kTB := kTB_of (List.mem_append_right _ (List.mem_of_getElem? (i := 1836) (by decide +kernel))) rfl
theorem kw_1837 : Cond.selects "DiceAuditModel" yX11_findPlayer yX11_findPlayer ∈ kTB := kTB_of (List.mem_append_right _ (List.mem_of_getElem? (i := 1837) (by decide +kernel))) rfl
theorem kw_1838 : Cond.code yX11_findPlayer prog_13_method_98_code (2 : Nat) (Option.some Jvm.ClassFile.FieldType.int) ∈ kTB := kTB_of (List.mem_append_right _ (List.mem_of_getElem? (i := 1838) (by decide +kernel))) rfl
theorem kw_1839 : Cond.methodLink "DiceAuditLaw" (266 : Nat) yX11_throwsOfPair ∈ kTB := kTB_of (List.mem_append_right _ (List.mem_of_getElem? (i := 1839) (by decide +kernel))) rfl
theorem kw_1840 : Cond.instanceMethod yX11_throwsOfPair ∈ kTB := kTB_of (List.mem_append_right _ (List.mem_of_getElem? (i := 1840) (by decide +kernel))) rfl
theorem kw_1841 : Cond.selects "DiceAuditModel" yX11_throwsOfPair yX11_throwsOfPair ∈ kTB := kTB_of (List.mem_append_right _ (List.mem_of_getElem? (i := 1841) (by decide +kernel))) rfl
theorem kw_1842 : Cond.code yX11_throwsOfPair prog_13_method_99_code (3 : Nat) (Option.some Jvm.ClassFile.FieldType.int) ∈ kTB := kTB_of (List.mem_append_right _ (List.mem_of_getElem? (i := 1842) (by decide +kernel))) rfl
theorem kw_1843 : Cond.methodLink "DiceAuditModel" (317 : Nat) yX11_noPair ∈ kTB := kTB_of (List.mem_append_right _ (List.mem_of_getElem? (i := 1843) (by decide +kernel))) rfl
theorem kw_1845 : Cond.instanceMethod yX11_noPair ∈ kTB := kTB_of (List.mem_append_right _ (List.mem_of_getElem? (i := 1845) (by decide +kernel))) rfl
theorem kw_1846 : Cond.code yX11_noPair prog_13_method_70_code (3 : Nat) (Option.some Jvm.ClassFile.FieldType.boolean) ∈ kTB := kTB_of (List.mem_append_right _ (List.mem_of_getElem? (i := 1846) (by decide +kernel))) rfl
theorem kw_1847 : Cond.methodLink "DiceAuditLaw" (270 : Nat) yX11_frequency ∈ kTB := kTB_of (List.mem_append_right _ (List.mem_of_getElem? (i := 1847) (by decide +kernel))) rfl
theorem kw_1848 : Cond.instanceMethod yX11_frequency ∈ kTB := kTB_of (List.mem_append_right _ (List.mem_of_getElem? (i := 1848) (by decide +kernel))) rfl
theorem kw_1849 : Cond.selects "DiceAuditModel" yX11_frequency yX11_frequency ∈ kTB := kTB_of (List.mem_append_right _ (List.mem_of_getElem? (i := 1849) (by decide +kernel))) rfl
theorem kw_1850 : Cond.code yX11_frequency prog_13_method_100_code (4 : Nat) (Option.some Jvm.ClassFile.FieldType.int) ∈ kTB := kTB_of (List.mem_append_right _ (List.mem_of_getElem? (i := 1850) (by decide +kernel))) rfl
theorem kw_1851 : Cond.methodLink "DiceAuditLaw" (273 : Nat) yX11_commonFace ∈ kTB := kTB_of (List.mem_append_right _ (List.mem_of_getElem? (i := 1851) (by decide +kernel))) rfl
theorem kw_1852 : Cond.instanceMethod yX11_commonFace ∈ kTB := kTB_of (List.mem_append_right _ (List.mem_of_getElem? (i := 1852) (by decide +kernel))) rfl
theorem kw_1853 : Cond.selects "DiceAuditModel" yX11_commonFace yX11_commonFace ∈ kTB := kTB_of (List.mem_append_right _ (List.mem_of_getElem? (i := 1853) (by decide +kernel))) rfl
theorem kw_1854 : Cond.code yX11_commonFace prog_13_method_101_code (6 : Nat) (Option.some Jvm.ClassFile.FieldType.int) ∈ kTB := kTB_of (List.mem_append_right _ (List.mem_of_getElem? (i := 1854) (by decide +kernel))) rfl
theorem kw_1855 : Cond.methodLink "DiceAuditLaw" (276 : Nat) yX11_facesSeen ∈ kTB := kTB_of (List.mem_append_right _ (List.mem_of_getElem? (i := 1855) (by decide +kernel))) rfl
theorem kw_1856 : Cond.instanceMethod yX11_facesSeen ∈ kTB := kTB_of (List.mem_append_right _ (List.mem_of_getElem? (i := 1856) (by decide +kernel))) rfl
theorem kw_1857 : Cond.selects "DiceAuditModel" yX11_facesSeen yX11_facesSeen ∈ kTB := kTB_of (List.mem_append_right _ (List.mem_of_getElem? (i := 1857) (by decide +kernel))) rfl
theorem kw_1858 : Cond.code yX11_facesSeen prog_13_method_102_code (5 : Nat) (Option.some Jvm.ClassFile.FieldType.int) ∈ kTB := kTB_of (List.mem_append_right _ (List.mem_of_getElem? (i := 1858) (by decide +kernel))) rfl
theorem kw_1859 : Cond.methodLink "DiceAuditLaw" (279 : Nat) yX11_latestThrow ∈ kTB := kTB_of (List.mem_append_right _ (List.mem_of_getElem? (i := 1859) (by decide +kernel))) rfl
theorem kw_1860 : Cond.instanceMethod yX11_latestThrow ∈ kTB := kTB_of (List.mem_append_right _ (List.mem_of_getElem? (i := 1860) (by decide +kernel))) rfl
theorem kw_1861 : Cond.selects "DiceAuditModel" yX11_latestThrow yX11_latestThrow ∈ kTB := kTB_of (List.mem_append_right _ (List.mem_of_getElem? (i := 1861) (by decide +kernel))) rfl
theorem kw_1862 : Cond.code yX11_latestThrow prog_13_method_103_code (4 : Nat) (Option.some Jvm.ClassFile.FieldType.int) ∈ kTB := kTB_of (List.mem_append_right _ (List.mem_of_getElem? (i := 1862) (by decide +kernel))) rfl
theorem kw_1863 : Cond.methodLink "DiceAuditLaw" (282 : Nat) yX11_score ∈ kTB := kTB_of (List.mem_append_right _ (List.mem_of_getElem? (i := 1863) (by decide +kernel))) rfl
theorem kw_1864 : Cond.instanceMethod yX11_score ∈ kTB := kTB_of (List.mem_append_right _ (List.mem_of_getElem? (i := 1864) (by decide +kernel))) rfl
theorem kw_1865 : Cond.selects "DiceAuditModel" yX11_score yX11_score ∈ kTB := kTB_of (List.mem_append_right _ (List.mem_of_getElem? (i := 1865) (by decide +kernel))) rfl
theorem kw_1866 : Cond.code yX11_score prog_13_method_104_code (3 : Nat) (Option.some Jvm.ClassFile.FieldType.int) ∈ kTB := kTB_of (List.mem_append_right _ (List.mem_of_getElem? (i := 1866) (by decide +kernel))) rfl
theorem kw_1867 : Cond.methodLink "DiceAuditLaw" (285 : Nat) yX11_isSuspicious ∈ kTB := kTB_of (List.mem_append_right _ (List.mem_of_getElem? (i := 1867) (by decide +kernel))) rfl
theorem kw_1868 : Cond.instanceMethod yX11_isSuspicious ∈ kTB := kTB_of (List.mem_append_right _ (List.mem_of_getElem? (i := 1868) (by decide +kernel))) rfl
theorem kw_1869 : Cond.selects "DiceAuditModel" yX11_isSuspicious yX11_isSuspicious ∈ kTB := kTB_of (List.mem_append_right _ (List.mem_of_getElem? (i := 1869) (by decide +kernel))) rfl
theorem kw_1870 : Cond.code yX11_isSuspicious prog_13_method_105_code (3 : Nat) (Option.some Jvm.ClassFile.FieldType.boolean) ∈ kTB := kTB_of (List.mem_append_right _ (List.mem_of_getElem? (i := 1870) (by decide +kernel))) rfl
theorem kw_1871 : Cond.methodLink "DiceAuditLaw" (289 : Nat) yX11_suspiciousPairs ∈ kTB := kTB_of (List.mem_append_right _ (List.mem_of_getElem? (i := 1871) (by decide +kernel))) rfl
theorem kw_1872 : Cond.instanceMethod yX11_suspiciousPairs ∈ kTB := kTB_of (List.mem_append_right _ (List.mem_of_getElem? (i := 1872) (by decide +kernel))) rfl
theorem kw_1873 : Cond.selects "DiceAuditModel" yX11_suspiciousPairs yX11_suspiciousPairs ∈ kTB := kTB_of (List.mem_append_right _ (List.mem_of_getElem? (i := 1873) (by decide +kernel))) rfl
theorem kw_1874 : Cond.code yX11_suspiciousPairs prog_13_method_107_code (1 : Nat) (Option.some Jvm.ClassFile.FieldType.int) ∈ kTB := kTB_of (List.mem_append_right _ (List.mem_of_getElem? (i := 1874) (by decide +kernel))) rfl
theorem kw_1875 : Cond.methodLink "DiceAuditModel" (321 : Nat) yX11_suspiciousIn ∈ kTB := kTB_of (List.mem_append_right _ (List.mem_of_getElem? (i := 1875) (by decide +kernel))) rfl
theorem kw_1877 : Cond.instanceMethod yX11_suspiciousIn ∈ kTB := kTB_of (List.mem_append_right _ (List.mem_of_getElem? (i := 1877) (by decide +kernel))) rfl
theorem kw_1878 : Cond.code yX11_suspiciousIn prog_13_method_106_code (4 : Nat) (Option.some Jvm.ClassFile.FieldType.int) ∈ kTB := kTB_of (List.mem_append_right _ (List.mem_of_getElem? (i := 1878) (by decide +kernel))) rfl
theorem kw_1879 : Cond.methodLink "DiceAuditLaw" (293 : Nat) yX11_worstPair ∈ kTB := kTB_of (List.mem_append_right _ (List.mem_of_getElem? (i := 1879) (by decide +kernel))) rfl
theorem kw_1880 : Cond.instanceMethod yX11_worstPair ∈ kTB := kTB_of (List.mem_append_right _ (List.mem_of_getElem? (i := 1880) (by decide +kernel))) rfl
theorem kw_1881 : Cond.selects "DiceAuditModel" yX11_worstPair yX11_worstPair ∈ kTB := kTB_of (List.mem_append_right _ (List.mem_of_getElem? (i := 1881) (by decide +kernel))) rfl
theorem kw_1882 : Cond.code yX11_worstPair prog_13_method_108_code (6 : Nat) (Option.some Jvm.ClassFile.FieldType.int) ∈ kTB := kTB_of (List.mem_append_right _ (List.mem_of_getElem? (i := 1882) (by decide +kernel))) rfl
theorem kw_1883 : Cond.methodLink "DiceAuditLaw" (297 : Nat) yX11_offenceCount ∈ kTB := kTB_of (List.mem_append_right _ (List.mem_of_getElem? (i := 1883) (by decide +kernel))) rfl
theorem kw_1884 : Cond.instanceMethod yX11_offenceCount ∈ kTB := kTB_of (List.mem_append_right _ (List.mem_of_getElem? (i := 1884) (by decide +kernel))) rfl
theorem kw_1885 : Cond.selects "DiceAuditModel" yX11_offenceCount yX11_offenceCount ∈ kTB := kTB_of (List.mem_append_right _ (List.mem_of_getElem? (i := 1885) (by decide +kernel))) rfl
theorem kw_1886 : Cond.code yX11_offenceCount prog_13_method_109_code (1 : Nat) (Option.some Jvm.ClassFile.FieldType.int) ∈ kTB := kTB_of (List.mem_append_right _ (List.mem_of_getElem? (i := 1886) (by decide +kernel))) rfl
theorem kw_1887 : Cond.methodLink "DiceAuditLaw" (300 : Nat) yX11_offencePlayer ∈ kTB := kTB_of (List.mem_append_right _ (List.mem_of_getElem? (i := 1887) (by decide +kernel))) rfl
theorem kw_1888 : Cond.instanceMethod yX11_offencePlayer ∈ kTB := kTB_of (List.mem_append_right _ (List.mem_of_getElem? (i := 1888) (by decide +kernel))) rfl
theorem kw_1889 : Cond.selects "DiceAuditModel" yX11_offencePlayer yX11_offencePlayer ∈ kTB := kTB_of (List.mem_append_right _ (List.mem_of_getElem? (i := 1889) (by decide +kernel))) rfl
theorem kw_1890 : Cond.code yX11_offencePlayer prog_13_method_111_code (2 : Nat) (Option.some Jvm.ClassFile.FieldType.int) ∈ kTB := kTB_of (List.mem_append_right _ (List.mem_of_getElem? (i := 1890) (by decide +kernel))) rfl
theorem kw_1891 : Cond.methodLink "DiceAuditModel" (327 : Nat) yX11_ofThat ∈ kTB := kTB_of (List.mem_append_right _ (List.mem_of_getElem? (i := 1891) (by decide +kernel))) rfl
theorem kw_1893 : Cond.instanceMethod yX11_ofThat ∈ kTB := kTB_of (List.mem_append_right _ (List.mem_of_getElem? (i := 1893) (by decide +kernel))) rfl
theorem kw_1894 : Cond.code yX11_ofThat prog_13_method_110_code (3 : Nat) (Option.some Jvm.ClassFile.FieldType.int) ∈ kTB := kTB_of (List.mem_append_right _ (List.mem_of_getElem? (i := 1894) (by decide +kernel))) rfl
theorem kw_1895 : Cond.methodLink "DiceAuditModel" (324 : Nat) yX11_noOffence ∈ kTB := kTB_of (List.mem_append_right _ (List.mem_of_getElem? (i := 1895) (by decide +kernel))) rfl
theorem kw_1897 : Cond.instanceMethod yX11_noOffence ∈ kTB := kTB_of (List.mem_append_right _ (List.mem_of_getElem? (i := 1897) (by decide +kernel))) rfl
theorem kw_1898 : Cond.code yX11_noOffence prog_13_method_72_code (2 : Nat) (Option.some Jvm.ClassFile.FieldType.boolean) ∈ kTB := kTB_of (List.mem_append_right _ (List.mem_of_getElem? (i := 1898) (by decide +kernel))) rfl
theorem kw_1899 : Cond.methodLink "DiceAuditLaw" (303 : Nat) yX11_offenceDie ∈ kTB := kTB_of (List.mem_append_right _ (List.mem_of_getElem? (i := 1899) (by decide +kernel))) rfl
theorem kw_1900 : Cond.instanceMethod yX11_offenceDie ∈ kTB := kTB_of (List.mem_append_right _ (List.mem_of_getElem? (i := 1900) (by decide +kernel))) rfl
theorem kw_1901 : Cond.selects "DiceAuditModel" yX11_offenceDie yX11_offenceDie ∈ kTB := kTB_of (List.mem_append_right _ (List.mem_of_getElem? (i := 1901) (by decide +kernel))) rfl
theorem kw_1902 : Cond.code yX11_offenceDie prog_13_method_112_code (2 : Nat) (Option.some Jvm.ClassFile.FieldType.int) ∈ kTB := kTB_of (List.mem_append_right _ (List.mem_of_getElem? (i := 1902) (by decide +kernel))) rfl
theorem kw_1903 : Cond.methodLink "DiceAuditLaw" (306 : Nat) yX11_offenceScore ∈ kTB := kTB_of (List.mem_append_right _ (List.mem_of_getElem? (i := 1903) (by decide +kernel))) rfl
theorem kw_1904 : Cond.instanceMethod yX11_offenceScore ∈ kTB := kTB_of (List.mem_append_right _ (List.mem_of_getElem? (i := 1904) (by decide +kernel))) rfl
theorem kw_1905 : Cond.selects "DiceAuditModel" yX11_offenceScore yX11_offenceScore ∈ kTB := kTB_of (List.mem_append_right _ (List.mem_of_getElem? (i := 1905) (by decide +kernel))) rfl
theorem kw_1906 : Cond.code yX11_offenceScore prog_13_method_113_code (2 : Nat) (Option.some Jvm.ClassFile.FieldType.int) ∈ kTB := kTB_of (List.mem_append_right _ (List.mem_of_getElem? (i := 1906) (by decide +kernel))) rfl
theorem kw_1907 : Cond.methodLink "DiceAuditLaw" (309 : Nat) yX11_offencesOf ∈ kTB := kTB_of (List.mem_append_right _ (List.mem_of_getElem? (i := 1907) (by decide +kernel))) rfl
theorem kw_1908 : Cond.instanceMethod yX11_offencesOf ∈ kTB := kTB_of (List.mem_append_right _ (List.mem_of_getElem? (i := 1908) (by decide +kernel))) rfl
theorem kw_1909 : Cond.selects "DiceAuditModel" yX11_offencesOf yX11_offencesOf ∈ kTB := kTB_of (List.mem_append_right _ (List.mem_of_getElem? (i := 1909) (by decide +kernel))) rfl
theorem kw_1910 : Cond.code yX11_offencesOf prog_13_method_114_code (2 : Nat) (Option.some Jvm.ClassFile.FieldType.int) ∈ kTB := kTB_of (List.mem_append_right _ (List.mem_of_getElem? (i := 1910) (by decide +kernel))) rfl
theorem kw_1911 : Cond.methodLink "DiceAuditLaw" (312 : Nat) yX11_nextFace ∈ kTB := kTB_of (List.mem_append_right _ (List.mem_of_getElem? (i := 1911) (by decide +kernel))) rfl
theorem kw_1912 : Cond.instanceMethod yX11_nextFace ∈ kTB := kTB_of (List.mem_append_right _ (List.mem_of_getElem? (i := 1912) (by decide +kernel))) rfl
theorem kw_1913 : Cond.selects "DiceAuditModel" yX11_nextFace yX11_nextFace ∈ kTB := kTB_of (List.mem_append_right _ (List.mem_of_getElem? (i := 1913) (by decide +kernel))) rfl
theorem kw_1914 : Cond.code yX11_nextFace prog_13_method_115_code (2 : Nat) (Option.some Jvm.ClassFile.FieldType.int) ∈ kTB := kTB_of (List.mem_append_right _ (List.mem_of_getElem? (i := 1914) (by decide +kernel))) rfl
theorem kw_1915 : Cond.methodLink "DiceAuditLaw" (315 : Nat) yX11_faceAfter ∈ kTB := kTB_of (List.mem_append_right _ (List.mem_of_getElem? (i := 1915) (by decide +kernel))) rfl
theorem kw_1916 : Cond.instanceMethod yX11_faceAfter ∈ kTB := kTB_of (List.mem_append_right _ (List.mem_of_getElem? (i := 1916) (by decide +kernel))) rfl
theorem kw_1917 : Cond.selects "DiceAuditModel" yX11_faceAfter yX11_faceAfter ∈ kTB := kTB_of (List.mem_append_right _ (List.mem_of_getElem? (i := 1917) (by decide +kernel))) rfl
theorem kw_1918 : Cond.code yX11_faceAfter prog_13_method_116_code (5 : Nat) (Option.some Jvm.ClassFile.FieldType.int) ∈ kTB := kTB_of (List.mem_append_right _ (List.mem_of_getElem? (i := 1918) (by decide +kernel))) rfl
theorem kw_1919 : Cond.methodLink "DiceAuditLaw" (318 : Nat) yX11_throwsUntil ∈ kTB := kTB_of (List.mem_append_right _ (List.mem_of_getElem? (i := 1919) (by decide +kernel))) rfl
theorem kw_1920 : Cond.instanceMethod yX11_throwsUntil ∈ kTB := kTB_of (List.mem_append_right _ (List.mem_of_getElem? (i := 1920) (by decide +kernel))) rfl
theorem kw_1921 : Cond.selects "DiceAuditModel" yX11_throwsUntil yX11_throwsUntil ∈ kTB := kTB_of (List.mem_append_right _ (List.mem_of_getElem? (i := 1921) (by decide +kernel))) rfl
theorem kw_1922 : Cond.code yX11_throwsUntil prog_13_method_117_code (5 : Nat) (Option.some Jvm.ClassFile.FieldType.int) ∈ kTB := kTB_of (List.mem_append_right _ (List.mem_of_getElem? (i := 1922) (by decide +kernel))) rfl
theorem kw_1923 : Cond.methodLink "DiceAuditLaw" (321 : Nat) yX11_scoreAfter ∈ kTB := kTB_of (List.mem_append_right _ (List.mem_of_getElem? (i := 1923) (by decide +kernel))) rfl
theorem kw_1924 : Cond.instanceMethod yX11_scoreAfter ∈ kTB := kTB_of (List.mem_append_right _ (List.mem_of_getElem? (i := 1924) (by decide +kernel))) rfl
theorem kw_1925 : Cond.selects "DiceAuditModel" yX11_scoreAfter yX11_scoreAfter ∈ kTB := kTB_of (List.mem_append_right _ (List.mem_of_getElem? (i := 1925) (by decide +kernel))) rfl
theorem kw_1926 : Cond.code yX11_scoreAfter prog_13_method_119_code (6 : Nat) (Option.some Jvm.ClassFile.FieldType.int) ∈ kTB := kTB_of (List.mem_append_right _ (List.mem_of_getElem? (i := 1926) (by decide +kernel))) rfl
theorem kw_1927 : Cond.methodLink "DiceAuditModel" (330 : Nat) yX11_countThrow ∈ kTB := kTB_of (List.mem_append_right _ (List.mem_of_getElem? (i := 1927) (by decide +kernel))) rfl
theorem kw_1929 : Cond.instanceMethod yX11_countThrow ∈ kTB := kTB_of (List.mem_append_right _ (List.mem_of_getElem? (i := 1929) (by decide +kernel))) rfl
theorem kw_1930 : Cond.code yX11_countThrow prog_13_method_118_code (4 : Nat) (Option.some Jvm.ClassFile.FieldType.int) ∈ kTB := kTB_of (List.mem_append_right _ (List.mem_of_getElem? (i := 1930) (by decide +kernel))) rfl
theorem kw_1931 : Cond.methodLink "DiceAuditLaw" (324 : Nat) yX11_throwsUntilSuspicious ∈ kTB := kTB_of (List.mem_append_right _ (List.mem_of_getElem? (i := 1931) (by decide +kernel))) rfl
theorem kw_1932 : Cond.instanceMethod yX11_throwsUntilSuspicious ∈ kTB := kTB_of (List.mem_append_right _ (List.mem_of_getElem? (i := 1932) (by decide +kernel))) rfl
theorem kw_1933 : Cond.selects "DiceAuditModel" yX11_throwsUntilSuspicious yX11_throwsUntilSuspicious ∈ kTB := kTB_of (List.mem_append_right _ (List.mem_of_getElem? (i := 1933) (by decide +kernel))) rfl
theorem kw_1934 : Cond.code yX11_throwsUntilSuspicious prog_13_method_120_code (5 : Nat) (Option.some Jvm.ClassFile.FieldType.int) ∈ kTB := kTB_of (List.mem_append_right _ (List.mem_of_getElem? (i := 1934) (by decide +kernel))) rfl
theorem kw_1935 : Cond.methodLink "DiceAuditLaw" (328 : Nat) yX11_penanceNow ∈ kTB := kTB_of (List.mem_append_right _ (List.mem_of_getElem? (i := 1935) (by decide +kernel))) rfl
theorem kw_1936 : Cond.instanceMethod yX11_penanceNow ∈ kTB := kTB_of (List.mem_append_right _ (List.mem_of_getElem? (i := 1936) (by decide +kernel))) rfl
theorem kw_1937 : Cond.selects "DiceAuditModel" yX11_penanceNow yX11_penanceNow ∈ kTB := kTB_of (List.mem_append_right _ (List.mem_of_getElem? (i := 1937) (by decide +kernel))) rfl
theorem kw_1938 : Cond.code yX11_penanceNow prog_13_method_121_code (1 : Nat) (Option.some Jvm.ClassFile.FieldType.int) ∈ kTB := kTB_of (List.mem_append_right _ (List.mem_of_getElem? (i := 1938) (by decide +kernel))) rfl
theorem kw_1939 : Cond.methodLink "DiceAuditLaw" (332 : Nat) yX11_frequencyDifference ∈ kTB := kTB_of (List.mem_append_right _ (List.mem_of_getElem? (i := 1939) (by decide +kernel))) rfl
theorem kw_1940 : Cond.instanceMethod yX11_frequencyDifference ∈ kTB := kTB_of (List.mem_append_right _ (List.mem_of_getElem? (i := 1940) (by decide +kernel))) rfl
theorem kw_1941 : Cond.selects "DiceAuditModel" yX11_frequencyDifference yX11_frequencyDifference ∈ kTB := kTB_of (List.mem_append_right _ (List.mem_of_getElem? (i := 1941) (by decide +kernel))) rfl
theorem kw_1942 : Cond.code yX11_frequencyDifference prog_13_method_122_code (5 : Nat) (Option.some Jvm.ClassFile.FieldType.int) ∈ kTB := kTB_of (List.mem_append_right _ (List.mem_of_getElem? (i := 1942) (by decide +kernel))) rfl
theorem kw_1943 : Cond.methodLink "DiceAuditLaw" (336 : Nat) yX11_totalDifference ∈ kTB := kTB_of (List.mem_append_right _ (List.mem_of_getElem? (i := 1943) (by decide +kernel))) rfl
theorem kw_1944 : Cond.instanceMethod yX11_totalDifference ∈ kTB := kTB_of (List.mem_append_right _ (List.mem_of_getElem? (i := 1944) (by decide +kernel))) rfl
theorem kw_1945 : Cond.selects "DiceAuditModel" yX11_totalDifference yX11_totalDifference ∈ kTB := kTB_of (List.mem_append_right _ (List.mem_of_getElem? (i := 1945) (by decide +kernel))) rfl
theorem kw_1946 : Cond.code yX11_totalDifference prog_13_method_123_code (3 : Nat) (Option.some Jvm.ClassFile.FieldType.int) ∈ kTB := kTB_of (List.mem_append_right _ (List.mem_of_getElem? (i := 1946) (by decide +kernel))) rfl
theorem kw_1947 : Cond.methodLink "DiceAuditLaw" (341 : Nat) yX11_fairShare ∈ kTB := kTB_of (List.mem_append_right _ (List.mem_of_getElem? (i := 1947) (by decide +kernel))) rfl
theorem kw_1948 : Cond.instanceMethod yX11_fairShare ∈ kTB := kTB_of (List.mem_append_right _ (List.mem_of_getElem? (i := 1948) (by decide +kernel))) rfl
theorem kw_1949 : Cond.selects "DiceAuditModel" yX11_fairShare yX11_fairShare ∈ kTB := kTB_of (List.mem_append_right _ (List.mem_of_getElem? (i := 1949) (by decide +kernel))) rfl
theorem kw_1950 : Cond.code yX11_fairShare prog_13_method_124_code (3 : Nat) (Option.some Jvm.ClassFile.FieldType.float) ∈ kTB := kTB_of (List.mem_append_right _ (List.mem_of_getElem? (i := 1950) (by decide +kernel))) rfl
theorem kw_1951 : Cond.methodLink "DiceAuditLaw" (344 : Nat) yX11_throwDie ∈ kTB := kTB_of (List.mem_append_right _ (List.mem_of_getElem? (i := 1951) (by decide +kernel))) rfl
theorem kw_1952 : Cond.instanceMethod yX11_throwDie ∈ kTB := kTB_of (List.mem_append_right _ (List.mem_of_getElem? (i := 1952) (by decide +kernel))) rfl
theorem kw_1953 : Cond.selects "DiceAuditModel" yX11_throwDie yX11_throwDie ∈ kTB := kTB_of (List.mem_append_right _ (List.mem_of_getElem? (i := 1953) (by decide +kernel))) rfl
theorem kw_1954 : Cond.code yX11_throwDie prog_13_method_125_code (4 : Nat) (Option.some Jvm.ClassFile.FieldType.int) ∈ kTB := kTB_of (List.mem_append_right _ (List.mem_of_getElem? (i := 1954) (by decide +kernel))) rfl
theorem kw_1955 : Cond.methodLink "DiceAuditLaw" (348 : Nat) yX11_audit ∈ kTB := kTB_of (List.mem_append_right _ (List.mem_of_getElem? (i := 1955) (by decide +kernel))) rfl
theorem kw_1956 : Cond.instanceMethod yX11_audit ∈ kTB := kTB_of (List.mem_append_right _ (List.mem_of_getElem? (i := 1956) (by decide +kernel))) rfl
theorem kw_1957 : Cond.selects "DiceAuditModel" yX11_audit yX11_audit ∈ kTB := kTB_of (List.mem_append_right _ (List.mem_of_getElem? (i := 1957) (by decide +kernel))) rfl
theorem kw_1958 : Cond.code yX11_audit prog_13_method_126_code (1 : Nat) (Option.some Jvm.ClassFile.FieldType.int) ∈ kTB := kTB_of (List.mem_append_right _ (List.mem_of_getElem? (i := 1958) (by decide +kernel))) rfl
theorem kw_1959 : Cond.methodLink "DiceAuditLaw" (351 : Nat) yX11_absolve ∈ kTB := kTB_of (List.mem_append_right _ (List.mem_of_getElem? (i := 1959) (by decide +kernel))) rfl
theorem kw_1960 : Cond.instanceMethod yX11_absolve ∈ kTB := kTB_of (List.mem_append_right _ (List.mem_of_getElem? (i := 1960) (by decide +kernel))) rfl
theorem kw_1961 : Cond.selects "DiceAuditModel" yX11_absolve yX11_absolve ∈ kTB := kTB_of (List.mem_append_right _ (List.mem_of_getElem? (i := 1961) (by decide +kernel))) rfl
theorem kw_1962 : Cond.code yX11_absolve prog_13_method_127_code (1 : Nat) (Option.some Jvm.ClassFile.FieldType.int) ∈ kTB := kTB_of (List.mem_append_right _ (List.mem_of_getElem? (i := 1962) (by decide +kernel))) rfl
theorem kw_1963 : Cond.methodLink "DiceAuditLaw" (354 : Nat) yX11_forgive ∈ kTB := kTB_of (List.mem_append_right _ (List.mem_of_getElem? (i := 1963) (by decide +kernel))) rfl
theorem kw_1964 : Cond.instanceMethod yX11_forgive ∈ kTB := kTB_of (List.mem_append_right _ (List.mem_of_getElem? (i := 1964) (by decide +kernel))) rfl
theorem kw_1965 : Cond.selects "DiceAuditModel" yX11_forgive yX11_forgive ∈ kTB := kTB_of (List.mem_append_right _ (List.mem_of_getElem? (i := 1965) (by decide +kernel))) rfl
theorem kw_1966 : Cond.code yX11_forgive prog_13_method_128_code (2 : Nat) (Option.some Jvm.ClassFile.FieldType.int) ∈ kTB := kTB_of (List.mem_append_right _ (List.mem_of_getElem? (i := 1966) (by decide +kernel))) rfl
theorem kw_1967 : Cond.methodLink "DiceAuditLaw" (357 : Nat) yX11_setWeight ∈ kTB := kTB_of (List.mem_append_right _ (List.mem_of_getElem? (i := 1967) (by decide +kernel))) rfl
theorem kw_1968 : Cond.instanceMethod yX11_setWeight ∈ kTB := kTB_of (List.mem_append_right _ (List.mem_of_getElem? (i := 1968) (by decide +kernel))) rfl
theorem kw_1969 : Cond.selects "DiceAuditModel" yX11_setWeight yX11_setWeight ∈ kTB := kTB_of (List.mem_append_right _ (List.mem_of_getElem? (i := 1969) (by decide +kernel))) rfl
theorem kw_1970 : Cond.code yX11_setWeight prog_13_method_129_code (5 : Nat) (Option.some Jvm.ClassFile.FieldType.int) ∈ kTB := kTB_of (List.mem_append_right _ (List.mem_of_getElem? (i := 1970) (by decide +kernel))) rfl
theorem kw_1971 : Cond.methodLink "DiceAuditLaw" (360 : Nat) yX11_setSeed ∈ kTB := kTB_of (List.mem_append_right _ (List.mem_of_getElem? (i := 1971) (by decide +kernel))) rfl
theorem kw_1972 : Cond.instanceMethod yX11_setSeed ∈ kTB := kTB_of (List.mem_append_right _ (List.mem_of_getElem? (i := 1972) (by decide +kernel))) rfl
theorem kw_1973 : Cond.selects "DiceAuditModel" yX11_setSeed yX11_setSeed ∈ kTB := kTB_of (List.mem_append_right _ (List.mem_of_getElem? (i := 1973) (by decide +kernel))) rfl
theorem kw_1974 : Cond.code yX11_setSeed prog_13_method_130_code (3 : Nat) (Option.some Jvm.ClassFile.FieldType.int) ∈ kTB := kTB_of (List.mem_append_right _ (List.mem_of_getElem? (i := 1974) (by decide +kernel))) rfl
theorem kw_1975 : Cond.methodLink "DiceAuditLaw" (363 : Nat) yX11_setLimits ∈ kTB := kTB_of (List.mem_append_right _ (List.mem_of_getElem? (i := 1975) (by decide +kernel))) rfl
theorem kw_1976 : Cond.instanceMethod yX11_setLimits ∈ kTB := kTB_of (List.mem_append_right _ (List.mem_of_getElem? (i := 1976) (by decide +kernel))) rfl
theorem kw_1977 : Cond.selects "DiceAuditModel" yX11_setLimits yX11_setLimits ∈ kTB := kTB_of (List.mem_append_right _ (List.mem_of_getElem? (i := 1977) (by decide +kernel))) rfl
theorem kw_1978 : Cond.code yX11_setLimits prog_13_method_131_code (3 : Nat) (Option.some Jvm.ClassFile.FieldType.int) ∈ kTB := kTB_of (List.mem_append_right _ (List.mem_of_getElem? (i := 1978) (by decide +kernel))) rfl
theorem kw_1979 : Cond.methodLink "DiceAuditLaw" (367 : Nat) yX11_writeRecords ∈ kTB := kTB_of (List.mem_append_right _ (List.mem_of_getElem? (i := 1979) (by decide +kernel))) rfl
theorem kw_1980 : Cond.instanceMethod yX11_writeRecords ∈ kTB := kTB_of (List.mem_append_right _ (List.mem_of_getElem? (i := 1980) (by decide +kernel))) rfl
theorem kw_1981 : Cond.selects "DiceAuditModel" yX11_writeRecords yX11_writeRecords ∈ kTB := kTB_of (List.mem_append_right _ (List.mem_of_getElem? (i := 1981) (by decide +kernel))) rfl
theorem kw_1982 : Cond.code yX11_writeRecords prog_13_method_136_code (2 : Nat) (Option.some Jvm.ClassFile.FieldType.int) ∈ kTB := kTB_of (List.mem_append_right _ (List.mem_of_getElem? (i := 1982) (by decide +kernel))) rfl
theorem kw_1983 : Cond.methodLink "DiceAuditModel" (342 : Nat) yX11_byName ∈ kTB := kTB_of (List.mem_append_right _ (List.mem_of_getElem? (i := 1983) (by decide +kernel))) rfl
theorem kw_1985 : Cond.instanceMethod yX11_byName ∈ kTB := kTB_of (List.mem_append_right _ (List.mem_of_getElem? (i := 1985) (by decide +kernel))) rfl
theorem kw_1986 : Cond.code yX11_byName prog_13_method_135_code (5 : Nat) (Option.some Jvm.ClassFile.FieldType.int) ∈ kTB := kTB_of (List.mem_append_right _ (List.mem_of_getElem? (i := 1986) (by decide +kernel))) rfl
theorem kw_1987 : Cond.methodLink "DiceAuditModel" (345 : Nat) yX11_printPlayer ∈ kTB := kTB_of (List.mem_append_right _ (List.mem_of_getElem? (i := 1987) (by decide +kernel))) rfl
theorem kw_1989 : Cond.instanceMethod yX11_printPlayer ∈ kTB := kTB_of (List.mem_append_right _ (List.mem_of_getElem? (i := 1989) (by decide +kernel))) rfl
theorem kw_1990 : Cond.code yX11_printPlayer prog_13_method_134_code (3 : Nat) (Option.none : Option Jvm.ClassFile.FieldType) ∈ kTB := kTB_of (List.mem_append_right _ (List.mem_of_getElem? (i := 1990) (by decide +kernel))) rfl
theorem kw_1991 : Cond.methodLink "DiceAuditModel" (336 : Nat) yX11_print ∈ kTB := kTB_of (List.mem_append_right _ (List.mem_of_getElem? (i := 1991) (by decide +kernel))) rfl
theorem kw_1993 : Cond.instanceMethod yX11_print ∈ kTB := kTB_of (List.mem_append_right _ (List.mem_of_getElem? (i := 1993) (by decide +kernel))) rfl
theorem kw_1994 : Cond.code yX11_print prog_13_method_132_code (2 : Nat) (Option.none : Option Jvm.ClassFile.FieldType) ∈ kTB := kTB_of (List.mem_append_right _ (List.mem_of_getElem? (i := 1994) (by decide +kernel))) rfl
theorem kw_1995 : Cond.methodLink "DiceAuditModel" (339 : Nat) yX11_printNumber ∈ kTB := kTB_of (List.mem_append_right _ (List.mem_of_getElem? (i := 1995) (by decide +kernel))) rfl
theorem kw_1997 : Cond.instanceMethod yX11_printNumber ∈ kTB := kTB_of (List.mem_append_right _ (List.mem_of_getElem? (i := 1997) (by decide +kernel))) rfl
theorem kw_1998 : Cond.code yX11_printNumber prog_13_method_133_code (4 : Nat) (Option.none : Option Jvm.ClassFile.FieldType) ∈ kTB := kTB_of (List.mem_append_right _ (List.mem_of_getElem? (i := 1998) (by decide +kernel))) rfl
theorem kw_1999 : Cond.methodLink "DiceAuditLaw" (370 : Nat) yX11_writeFaces ∈ kTB := kTB_of (List.mem_append_right _ (List.mem_of_getElem? (i := 1999) (by decide +kernel))) rfl
theorem kw_2000 : Cond.instanceMethod yX11_writeFaces ∈ kTB := kTB_of (List.mem_append_right _ (List.mem_of_getElem? (i := 2000) (by decide +kernel))) rfl
theorem kw_2001 : Cond.selects "DiceAuditModel" yX11_writeFaces yX11_writeFaces ∈ kTB := kTB_of (List.mem_append_right _ (List.mem_of_getElem? (i := 2001) (by decide +kernel))) rfl
theorem kw_2002 : Cond.code yX11_writeFaces prog_13_method_137_code (3 : Nat) (Option.some Jvm.ClassFile.FieldType.int) ∈ kTB := kTB_of (List.mem_append_right _ (List.mem_of_getElem? (i := 2002) (by decide +kernel))) rfl
theorem kw_2003 : Cond.methodLink "DiceAuditLaw" (373 : Nat) yX11_outputByte ∈ kTB := kTB_of (List.mem_append_right _ (List.mem_of_getElem? (i := 2003) (by decide +kernel))) rfl
theorem kw_2004 : Cond.instanceMethod yX11_outputByte ∈ kTB := kTB_of (List.mem_append_right _ (List.mem_of_getElem? (i := 2004) (by decide +kernel))) rfl
theorem kw_2005 : Cond.selects "DiceAuditModel" yX11_outputByte yX11_outputByte ∈ kTB := kTB_of (List.mem_append_right _ (List.mem_of_getElem? (i := 2005) (by decide +kernel))) rfl
theorem kw_2006 : Cond.code yX11_outputByte prog_13_method_138_code (2 : Nat) (Option.some Jvm.ClassFile.FieldType.int) ∈ kTB := kTB_of (List.mem_append_right _ (List.mem_of_getElem? (i := 2006) (by decide +kernel))) rfl
theorem kw_2007 : Cond.methodLink "DiceAuditLaw" (376 : Nat) yX11_save ∈ kTB := kTB_of (List.mem_append_right _ (List.mem_of_getElem? (i := 2007) (by decide +kernel))) rfl
theorem kw_2008 : Cond.instanceMethod yX11_save ∈ kTB := kTB_of (List.mem_append_right _ (List.mem_of_getElem? (i := 2008) (by decide +kernel))) rfl
theorem kw_2009 : Cond.selects "DiceAuditModel" yX11_save yX11_save ∈ kTB := kTB_of (List.mem_append_right _ (List.mem_of_getElem? (i := 2009) (by decide +kernel))) rfl
theorem kw_2010 : Cond.code yX11_save prog_13_method_139_code (2 : Nat) (Option.some Jvm.ClassFile.FieldType.int) ∈ kTB := kTB_of (List.mem_append_right _ (List.mem_of_getElem? (i := 2010) (by decide +kernel))) rfl
theorem kw_2011 : Cond.methodLink "DiceAuditLaw" (379 : Nat) yX11_restore ∈ kTB := kTB_of (List.mem_append_right _ (List.mem_of_getElem? (i := 2011) (by decide +kernel))) rfl
theorem kw_2012 : Cond.instanceMethod yX11_restore ∈ kTB := kTB_of (List.mem_append_right _ (List.mem_of_getElem? (i := 2012) (by decide +kernel))) rfl
theorem kw_2013 : Cond.selects "DiceAuditModel" yX11_restore yX11_restore ∈ kTB := kTB_of (List.mem_append_right _ (List.mem_of_getElem? (i := 2013) (by decide +kernel))) rfl
theorem kw_2014 : Cond.code yX11_restore prog_13_method_140_code (2 : Nat) (Option.some Jvm.ClassFile.FieldType.int) ∈ kTB := kTB_of (List.mem_append_right _ (List.mem_of_getElem? (i := 2014) (by decide +kernel))) rfl
theorem kw_2015 : Cond.arrayClass Jvm.ClassFile.FieldType.long ∈ kTB := kTB_of (List.mem_append_right _ (List.mem_of_getElem? (i := 2015) (by decide +kernel))) rfl
theorem kw_2016 : Cond.arrayClass Jvm.ClassFile.FieldType.double ∈ kTB := kTB_of (List.mem_append_right _ (List.mem_of_getElem? (i := 2016) (by decide +kernel))) rfl
theorem kw_2017 : Cond.sameMethod "java/lang/Throwable" "java/lang/Throwable" "fillInStackTrace" "(I)Ljava/lang/Throwable;" ∈ kTB := kTB_of (List.mem_append_right _ (List.mem_of_getElem? (i := 2017) (by decide +kernel))) rfl
theorem kw_2018 : Cond.castable "DiceAudit" "java/lang/Object" ∈ kTN := kTN_of (List.mem_append_right _ (List.mem_of_getElem? (i := 2018) (by decide +kernel))) rfl
theorem kw_2019 : Cond.castable "DiceAudit$Text" "java/lang/Object" ∈ kTN := kTN_of (List.mem_append_right _ (List.mem_of_getElem? (i := 2019) (by decide +kernel))) rfl
theorem kw_2020 : Cond.castable "DiceAudit$Hall" "java/lang/Object" ∈ kTN := kTN_of (List.mem_append_right _ (List.mem_of_getElem? (i := 2020) (by decide +kernel))) rfl
theorem kw_2021 : Cond.castable "DiceAudit$Dice" "java/lang/Object" ∈ kTN := kTN_of (List.mem_append_right _ (List.mem_of_getElem? (i := 2021) (by decide +kernel))) rfl
theorem kw_2022 : Cond.castable "DiceAudit$Players" "java/lang/Object" ∈ kTN := kTN_of (List.mem_append_right _ (List.mem_of_getElem? (i := 2022) (by decide +kernel))) rfl
theorem kw_2023 : Cond.castable "DiceAudit$Ledger" "java/lang/Object" ∈ kTN := kTN_of (List.mem_append_right _ (List.mem_of_getElem? (i := 2023) (by decide +kernel))) rfl
theorem kw_2024 : Cond.castable "DiceAudit$Offences" "java/lang/Object" ∈ kTN := kTN_of (List.mem_append_right _ (List.mem_of_getElem? (i := 2024) (by decide +kernel))) rfl
theorem kw_2025 : Cond.castable "DiceAudit$Forecast" "java/lang/Object" ∈ kTN := kTN_of (List.mem_append_right _ (List.mem_of_getElem? (i := 2025) (by decide +kernel))) rfl
theorem kw_2026 : Cond.castable "DiceAudit$History" "java/lang/Object" ∈ kTN := kTN_of (List.mem_append_right _ (List.mem_of_getElem? (i := 2026) (by decide +kernel))) rfl
theorem kw_2027 : Cond.castable "DiceAudit$Loader" "java/lang/Object" ∈ kTN := kTN_of (List.mem_append_right _ (List.mem_of_getElem? (i := 2027) (by decide +kernel))) rfl
theorem kw_2028 : Cond.castable "DiceAudit$Tokens" "java/lang/Object" ∈ kTN := kTN_of (List.mem_append_right _ (List.mem_of_getElem? (i := 2028) (by decide +kernel))) rfl
theorem kw_2029 : Cond.castable "DiceAuditModel" "java/lang/Object" ∈ kTN := kTN_of (List.mem_append_right _ (List.mem_of_getElem? (i := 2029) (by decide +kernel))) rfl
theorem kw_2030 : Cond.castable "java/lang/IllegalStateException" "java/lang/Object" ∈ kTN := kTN_of (List.mem_append_right _ (List.mem_of_getElem? (i := 2030) (by decide +kernel))) rfl
theorem kw_2031 : Cond.castable "java/lang/IllegalArgumentException" "java/lang/Object" ∈ kTN := kTN_of (List.mem_append_right _ (List.mem_of_getElem? (i := 2031) (by decide +kernel))) rfl
theorem kw_2032 : Cond.castable "java/lang/IndexOutOfBoundsException" "java/lang/Object" ∈ kTN := kTN_of (List.mem_append_right _ (List.mem_of_getElem? (i := 2032) (by decide +kernel))) rfl
theorem kw_2033 : Cond.castable "java/util/NoSuchElementException" "java/lang/Object" ∈ kTN := kTN_of (List.mem_append_right _ (List.mem_of_getElem? (i := 2033) (by decide +kernel))) rfl
theorem kw_2034 : Cond.castable "java/lang/Throwable" "java/lang/Object" ∈ kTN := kTN_of (List.mem_append_right _ (List.mem_of_getElem? (i := 2034) (by decide +kernel))) rfl
theorem kw_2035 : Cond.castable "java/lang/String" "java/lang/Object" ∈ kTN := kTN_of (List.mem_append_right _ (List.mem_of_getElem? (i := 2035) (by decide +kernel))) rfl
theorem kw_2036 : Cond.fieldLink "java/lang/String" (9 : Nat) "java/lang/String" "value" "[B" ∈ kTB := kTB_of (List.mem_append_right _ (List.mem_of_getElem? (i := 2036) (by decide +kernel))) rfl
theorem kw_2037 : Cond.fieldLink "java/lang/String" (15 : Nat) "java/lang/String" "coder" "B" ∈ kTB := kTB_of (List.mem_append_right _ (List.mem_of_getElem? (i := 2037) (by decide +kernel))) rfl
theorem kwp_0 : Cond.selects "DiceAudit$Tokens" yX9_passLetters yX9_passLetters ∈ kTB := kTB_of (List.mem_append_left _ (List.mem_of_getElem? (i := 0) (by decide +kernel))) rfl
theorem kwp_1 : Cond.selects "DiceAudit$Tokens" yX9_passDigits yX9_passDigits ∈ kTB := kTB_of (List.mem_append_left _ (List.mem_of_getElem? (i := 1) (by decide +kernel))) rfl
theorem kwp_2 : Cond.selects "DiceAudit$Loader" yX5_readHall yX5_readHall ∈ kTB := kTB_of (List.mem_append_left _ (List.mem_of_getElem? (i := 2) (by decide +kernel))) rfl
theorem kwp_3 : Cond.selects "DiceAudit$Loader" yX5_takeKeyword yX5_takeKeyword ∈ kTB := kTB_of (List.mem_append_left _ (List.mem_of_getElem? (i := 3) (by decide +kernel))) rfl
theorem kwp_4 : Cond.selects "DiceAudit$Loader" yX5_fail yX5_fail ∈ kTB := kTB_of (List.mem_append_left _ (List.mem_of_getElem? (i := 4) (by decide +kernel))) rfl
theorem kwp_5 : Cond.selects "DiceAudit$Loader" yX5_takeNumber yX5_takeNumber ∈ kTB := kTB_of (List.mem_append_left _ (List.mem_of_getElem? (i := 5) (by decide +kernel))) rfl
theorem kwp_6 : Cond.selects "DiceAudit$Loader" yX5_isNumberIn yX5_isNumberIn ∈ kTB := kTB_of (List.mem_append_left _ (List.mem_of_getElem? (i := 6) (by decide +kernel))) rfl
theorem kwp_7 : Cond.selects "DiceAudit$Loader" yX5_takeSemicolon yX5_takeSemicolon ∈ kTB := kTB_of (List.mem_append_left _ (List.mem_of_getElem? (i := 7) (by decide +kernel))) rfl
theorem kwp_8 : Cond.selects "DiceAudit$Loader" yX5_hasMore yX5_hasMore ∈ kTB := kTB_of (List.mem_append_left _ (List.mem_of_getElem? (i := 8) (by decide +kernel))) rfl
theorem kwp_9 : Cond.selects "DiceAudit$Loader" yX5_readStatement yX5_readStatement ∈ kTB := kTB_of (List.mem_append_left _ (List.mem_of_getElem? (i := 9) (by decide +kernel))) rfl
theorem kwp_10 : Cond.selects "DiceAudit$Loader" yX5_readDie yX5_readDie ∈ kTB := kTB_of (List.mem_append_left _ (List.mem_of_getElem? (i := 10) (by decide +kernel))) rfl
theorem kwp_11 : Cond.selects "DiceAudit$Loader" yX5_readPlayer yX5_readPlayer ∈ kTB := kTB_of (List.mem_append_left _ (List.mem_of_getElem? (i := 11) (by decide +kernel))) rfl
theorem kwp_12 : Cond.selects "DiceAudit$Loader" yX5_takeNewName yX5_takeNewName ∈ kTB := kTB_of (List.mem_append_left _ (List.mem_of_getElem? (i := 12) (by decide +kernel))) rfl
theorem kwp_13 : Cond.selects "DiceAudit$Players" yX7_isNamed yX7_isNamed ∈ kTB := kTB_of (List.mem_append_left _ (List.mem_of_getElem? (i := 13) (by decide +kernel))) rfl
theorem kwp_14 : Cond.selects "DiceAudit$Loader" yX5_readThrow yX5_readThrow ∈ kTB := kTB_of (List.mem_append_left _ (List.mem_of_getElem? (i := 14) (by decide +kernel))) rfl
theorem kwp_15 : Cond.selects "DiceAudit$Loader" yX5_takeKnownName yX5_takeKnownName ∈ kTB := kTB_of (List.mem_append_left _ (List.mem_of_getElem? (i := 15) (by decide +kernel))) rfl
theorem kwp_16 : Cond.selects "DiceAudit$Loader" yX5_readAudit yX5_readAudit ∈ kTB := kTB_of (List.mem_append_left _ (List.mem_of_getElem? (i := 16) (by decide +kernel))) rfl
theorem kwp_17 : Cond.selects "DiceAudit$Offences" yX6_goesBefore yX6_goesBefore ∈ kTB := kTB_of (List.mem_append_left _ (List.mem_of_getElem? (i := 17) (by decide +kernel))) rfl
theorem kwp_18 : Cond.selects "DiceAudit$Offences" yX6_set yX6_set ∈ kTB := kTB_of (List.mem_append_left _ (List.mem_of_getElem? (i := 18) (by decide +kernel))) rfl
theorem kwp_19 : Cond.selects "DiceAudit$Loader" yX5_readAbsolve yX5_readAbsolve ∈ kTB := kTB_of (List.mem_append_left _ (List.mem_of_getElem? (i := 19) (by decide +kernel))) rfl
theorem kwp_20 : Cond.selects "DiceAudit$Loader" yX5_readForgive yX5_readForgive ∈ kTB := kTB_of (List.mem_append_left _ (List.mem_of_getElem? (i := 20) (by decide +kernel))) rfl
theorem kwp_21 : Cond.selects "DiceAudit$Players" yX7_placeByName yX7_placeByName ∈ kTB := kTB_of (List.mem_append_left _ (List.mem_of_getElem? (i := 21) (by decide +kernel))) rfl
theorem kwp_22 : Cond.selects "DiceAudit" yX10_writeRecordOf yX10_writeRecordOf ∈ kTB := kTB_of (List.mem_append_left _ (List.mem_of_getElem? (i := 22) (by decide +kernel))) rfl
theorem kwp_24 : Cond.selects "DiceAudit" yX10_requireDie yX10_requireDie ∈ kTB := kTB_of (List.mem_append_left _ (List.mem_of_getElem? (i := 24) (by decide +kernel))) rfl
theorem kwp_25 : Cond.selects "DiceAudit" yX10_requireFace yX10_requireFace ∈ kTB := kTB_of (List.mem_append_left _ (List.mem_of_getElem? (i := 25) (by decide +kernel))) rfl
theorem kwp_26 : Cond.selects "DiceAudit" yX10_requirePlayer yX10_requirePlayer ∈ kTB := kTB_of (List.mem_append_left _ (List.mem_of_getElem? (i := 26) (by decide +kernel))) rfl
theorem kwp_27 : Cond.selects "DiceAudit" yX10_requireThrow yX10_requireThrow ∈ kTB := kTB_of (List.mem_append_left _ (List.mem_of_getElem? (i := 27) (by decide +kernel))) rfl
theorem kwp_28 : Cond.selects "DiceAudit$Hall" yX2_ranksBefore yX2_ranksBefore ∈ kTB := kTB_of (List.mem_append_left _ (List.mem_of_getElem? (i := 28) (by decide +kernel))) rfl
theorem kwp_29 : Cond.selects "DiceAudit" yX10_requirePair yX10_requirePair ∈ kTB := kTB_of (List.mem_append_left _ (List.mem_of_getElem? (i := 29) (by decide +kernel))) rfl
theorem kwp_30 : Cond.selects "DiceAudit" yX10_requireOffence yX10_requireOffence ∈ kTB := kTB_of (List.mem_append_left _ (List.mem_of_getElem? (i := 30) (by decide +kernel))) rfl
theorem kwp_31 : Cond.selects "DiceAuditModel" yX11_layInput yX11_layInput ∈ kTB := kTB_of (List.mem_append_left _ (List.mem_of_getElem? (i := 31) (by decide +kernel))) rfl
theorem kwp_32 : Cond.selects "DiceAuditModel" yX11_read yX11_read ∈ kTB := kTB_of (List.mem_append_left _ (List.mem_of_getElem? (i := 32) (by decide +kernel))) rfl
theorem kwp_33 : Cond.selects "DiceAuditModel" yX11_advance yX11_advance ∈ kTB := kTB_of (List.mem_append_left _ (List.mem_of_getElem? (i := 33) (by decide +kernel))) rfl
theorem kwp_34 : Cond.selects "DiceAuditModel" yX11_byteAt yX11_byteAt ∈ kTB := kTB_of (List.mem_append_left _ (List.mem_of_getElem? (i := 34) (by decide +kernel))) rfl
theorem kwp_35 : Cond.selects "DiceAuditModel" yX11_is yX11_is ∈ kTB := kTB_of (List.mem_append_left _ (List.mem_of_getElem? (i := 35) (by decide +kernel))) rfl
theorem kwp_36 : Cond.selects "DiceAuditModel" yX11_check yX11_check ∈ kTB := kTB_of (List.mem_append_left _ (List.mem_of_getElem? (i := 36) (by decide +kernel))) rfl
theorem kwp_37 : Cond.selects "DiceAuditModel" yX11_next yX11_next ∈ kTB := kTB_of (List.mem_append_left _ (List.mem_of_getElem? (i := 37) (by decide +kernel))) rfl
theorem kwp_38 : Cond.selects "DiceAuditModel" yX11_number yX11_number ∈ kTB := kTB_of (List.mem_append_left _ (List.mem_of_getElem? (i := 38) (by decide +kernel))) rfl
theorem kwp_39 : Cond.selects "DiceAuditModel" yX11_look yX11_look ∈ kTB := kTB_of (List.mem_append_left _ (List.mem_of_getElem? (i := 39) (by decide +kernel))) rfl
theorem kwp_40 : Cond.selects "DiceAuditModel" yX11_finish yX11_finish ∈ kTB := kTB_of (List.mem_append_left _ (List.mem_of_getElem? (i := 40) (by decide +kernel))) rfl
theorem kwp_41 : Cond.selects "DiceAuditModel" yX11_semicolon yX11_semicolon ∈ kTB := kTB_of (List.mem_append_left _ (List.mem_of_getElem? (i := 41) (by decide +kernel))) rfl
theorem kwp_42 : Cond.selects "DiceAuditModel" yX11_readStatement yX11_readStatement ∈ kTB := kTB_of (List.mem_append_left _ (List.mem_of_getElem? (i := 42) (by decide +kernel))) rfl
theorem kwp_43 : Cond.selects "DiceAuditModel" yX11_readDie yX11_readDie ∈ kTB := kTB_of (List.mem_append_left _ (List.mem_of_getElem? (i := 43) (by decide +kernel))) rfl
theorem kwp_44 : Cond.selects "DiceAuditModel" yX11_readPlayer yX11_readPlayer ∈ kTB := kTB_of (List.mem_append_left _ (List.mem_of_getElem? (i := 44) (by decide +kernel))) rfl
theorem kwp_45 : Cond.selects "DiceAuditModel" yX11_nameFrom yX11_nameFrom ∈ kTB := kTB_of (List.mem_append_left _ (List.mem_of_getElem? (i := 45) (by decide +kernel))) rfl
theorem kwp_46 : Cond.selects "DiceAuditModel" yX11_readThrow yX11_readThrow ∈ kTB := kTB_of (List.mem_append_left _ (List.mem_of_getElem? (i := 46) (by decide +kernel))) rfl
theorem kwp_47 : Cond.selects "DiceAuditModel" yX11_player yX11_player ∈ kTB := kTB_of (List.mem_append_left _ (List.mem_of_getElem? (i := 47) (by decide +kernel))) rfl
theorem kwp_48 : Cond.selects "DiceAuditModel" yX11_readAudit yX11_readAudit ∈ kTB := kTB_of (List.mem_append_left _ (List.mem_of_getElem? (i := 48) (by decide +kernel))) rfl
theorem kwp_49 : Cond.selects "DiceAuditModel" yX11_holdAudit yX11_holdAudit ∈ kTB := kTB_of (List.mem_append_left _ (List.mem_of_getElem? (i := 49) (by decide +kernel))) rfl
theorem kwp_50 : Cond.selects "DiceAuditModel" yX11_suspects yX11_suspects ∈ kTB := kTB_of (List.mem_append_left _ (List.mem_of_getElem? (i := 50) (by decide +kernel))) rfl
theorem kwp_51 : Cond.selects "DiceAuditModel" yX11_countPair yX11_countPair ∈ kTB := kTB_of (List.mem_append_left _ (List.mem_of_getElem? (i := 51) (by decide +kernel))) rfl
theorem kwp_52 : Cond.selects "DiceAuditModel" yX11_isBad yX11_isBad ∈ kTB := kTB_of (List.mem_append_left _ (List.mem_of_getElem? (i := 52) (by decide +kernel))) rfl
theorem kwp_53 : Cond.selects "DiceAuditModel" yX11_scoreOfCounts yX11_scoreOfCounts ∈ kTB := kTB_of (List.mem_append_left _ (List.mem_of_getElem? (i := 53) (by decide +kernel))) rfl
theorem kwp_54 : Cond.selects "DiceAuditModel" yX11_scoreOf yX11_scoreOf ∈ kTB := kTB_of (List.mem_append_left _ (List.mem_of_getElem? (i := 54) (by decide +kernel))) rfl
theorem kwp_55 : Cond.selects "DiceAuditModel" yX11_readAbsolve yX11_readAbsolve ∈ kTB := kTB_of (List.mem_append_left _ (List.mem_of_getElem? (i := 55) (by decide +kernel))) rfl
theorem kwp_56 : Cond.selects "DiceAuditModel" yX11_readForgive yX11_readForgive ∈ kTB := kTB_of (List.mem_append_left _ (List.mem_of_getElem? (i := 56) (by decide +kernel))) rfl
theorem kwp_57 : Cond.selects "DiceAuditModel" yX11_refuses yX11_refuses ∈ kTB := kTB_of (List.mem_append_left _ (List.mem_of_getElem? (i := 57) (by decide +kernel))) rfl
theorem kwp_58 : Cond.selects "DiceAuditModel" yX11_appendWord yX11_appendWord ∈ kTB := kTB_of (List.mem_append_left _ (List.mem_of_getElem? (i := 58) (by decide +kernel))) rfl
theorem kwp_59 : Cond.selects "DiceAuditModel" yX11_noNumber yX11_noNumber ∈ kTB := kTB_of (List.mem_append_left _ (List.mem_of_getElem? (i := 59) (by decide +kernel))) rfl
theorem kwp_60 : Cond.selects "DiceAuditModel" yX11_remember yX11_remember ∈ kTB := kTB_of (List.mem_append_left _ (List.mem_of_getElem? (i := 60) (by decide +kernel))) rfl
theorem kwp_61 : Cond.selects "DiceAuditModel" yX11_noDie yX11_noDie ∈ kTB := kTB_of (List.mem_append_left _ (List.mem_of_getElem? (i := 61) (by decide +kernel))) rfl
theorem kwp_62 : Cond.selects "DiceAuditModel" yX11_out yX11_out ∈ kTB := kTB_of (List.mem_append_left _ (List.mem_of_getElem? (i := 62) (by decide +kernel))) rfl
theorem kwp_63 : Cond.selects "DiceAuditModel" yX11_noPlayer yX11_noPlayer ∈ kTB := kTB_of (List.mem_append_left _ (List.mem_of_getElem? (i := 63) (by decide +kernel))) rfl
theorem kwp_64 : Cond.selects "DiceAuditModel" yX11_ofIt yX11_ofIt ∈ kTB := kTB_of (List.mem_append_left _ (List.mem_of_getElem? (i := 64) (by decide +kernel))) rfl
theorem kwp_65 : Cond.selects "DiceAuditModel" yX11_noThrow yX11_noThrow ∈ kTB := kTB_of (List.mem_append_left _ (List.mem_of_getElem? (i := 65) (by decide +kernel))) rfl
theorem kwp_66 : Cond.selects "DiceAuditModel" yX11_noPair yX11_noPair ∈ kTB := kTB_of (List.mem_append_left _ (List.mem_of_getElem? (i := 66) (by decide +kernel))) rfl
theorem kwp_67 : Cond.selects "DiceAuditModel" yX11_suspiciousIn yX11_suspiciousIn ∈ kTB := kTB_of (List.mem_append_left _ (List.mem_of_getElem? (i := 67) (by decide +kernel))) rfl
theorem kwp_68 : Cond.selects "DiceAuditModel" yX11_ofThat yX11_ofThat ∈ kTB := kTB_of (List.mem_append_left _ (List.mem_of_getElem? (i := 68) (by decide +kernel))) rfl
theorem kwp_69 : Cond.selects "DiceAuditModel" yX11_noOffence yX11_noOffence ∈ kTB := kTB_of (List.mem_append_left _ (List.mem_of_getElem? (i := 69) (by decide +kernel))) rfl
theorem kwp_70 : Cond.selects "DiceAuditModel" yX11_countThrow yX11_countThrow ∈ kTB := kTB_of (List.mem_append_left _ (List.mem_of_getElem? (i := 70) (by decide +kernel))) rfl
theorem kwp_71 : Cond.selects "DiceAuditModel" yX11_byName yX11_byName ∈ kTB := kTB_of (List.mem_append_left _ (List.mem_of_getElem? (i := 71) (by decide +kernel))) rfl
theorem kwp_72 : Cond.selects "DiceAuditModel" yX11_printPlayer yX11_printPlayer ∈ kTB := kTB_of (List.mem_append_left _ (List.mem_of_getElem? (i := 72) (by decide +kernel))) rfl
theorem kwp_73 : Cond.selects "DiceAuditModel" yX11_print yX11_print ∈ kTB := kTB_of (List.mem_append_left _ (List.mem_of_getElem? (i := 73) (by decide +kernel))) rfl
theorem kwp_74 : Cond.selects "DiceAuditModel" yX11_printNumber yX11_printNumber ∈ kTB := kTB_of (List.mem_append_left _ (List.mem_of_getElem? (i := 74) (by decide +kernel))) rfl
theorem kcl_X0 : kCls 0 RX0 TX0 3 tyX0 := ⟨rfl, by decide +kernel, tyX0_ok, nmX0⟩
theorem kcl_X1 : kCls 1 RX1 TX1 3 tyX1 := ⟨rfl, by decide +kernel, tyX1_ok, nmX1⟩
theorem kcl_X2 : kCls 2 RX2 TX2 7 tyX2 := ⟨rfl, by decide +kernel, tyX2_ok, nmX2⟩
theorem kcl_X3 : kCls 3 RX3 TX3 3 tyX3 := ⟨rfl, by decide +kernel, tyX3_ok, nmX3⟩
theorem kcl_X4 : kCls 4 RX4 TX4 3 tyX4 := ⟨rfl, by decide +kernel, tyX4_ok, nmX4⟩
theorem kcl_X5 : kCls 5 RX5 TX5 5 tyX5 := ⟨rfl, by decide +kernel, tyX5_ok, nmX5⟩
theorem kcl_X6 : kCls 6 RX6 TX6 3 tyX6 := ⟨rfl, by decide +kernel, tyX6_ok, nmX6⟩
theorem kcl_X7 : kCls 7 RX7 TX7 3 tyX7 := ⟨rfl, by decide +kernel, tyX7_ok, nmX7⟩
theorem kcl_X8 : kCls 8 RX8 TX8 2 tyX8 := ⟨rfl, by decide +kernel, tyX8_ok, nmX8⟩
theorem kcl_X9 : kCls 9 RX9 TX9 5 tyX9 := ⟨rfl, by decide +kernel, tyX9_ok, nmX9⟩
theorem kcl_X10 : kCls 10 RX10 TX10 8 tyX10 := ⟨rfl, by decide +kernel, tyX10_ok, nmX10⟩
theorem kcl_X11 : kCls 11 RX11 TX11 21 tyX11 := ⟨rfl, by decide +kernel, tyX11_ok, nmX11⟩
theorem kY_X0_init : kYI yX0_init (Cond.code yX0_init prog_2_method_1_code (1 : Nat) (Option.none : Option Jvm.ClassFile.FieldType)) 0 := ⟨kw_61, ⟨kw_60, rfl⟩, kw_4, ⟨by decide +kernel, by decide +kernel⟩, by decide +kernel⟩
theorem kY_X0_clear : kYV yX0_clear (Cond.code yX0_clear prog_2_method_2_code (1 : Nat) (Option.none : Option Jvm.ClassFile.FieldType)) 0 := ⟨kw_405, ⟨kw_403, kw_404⟩, kw_4, ⟨by decide +kernel, by decide +kernel⟩, by decide +kernel⟩
theorem kY_X0_copyFrom : kYV yX0_copyFrom (Cond.code yX0_copyFrom prog_2_method_3_code (2 : Nat) (Option.none : Option Jvm.ClassFile.FieldType)) 1 := ⟨kw_629, ⟨kw_627, kw_628⟩, kw_4, ⟨by decide +kernel, by decide +kernel⟩, by decide +kernel⟩
theorem kY_X0_add : kYV yX0_add (Cond.code yX0_add prog_2_method_4_code (2 : Nat) (Option.none : Option Jvm.ClassFile.FieldType)) 1 := ⟨kw_445, ⟨kw_443, kw_444⟩, kw_4, ⟨by decide +kernel, by decide +kernel⟩, by decide +kernel⟩
theorem kY_X0_faceCount : kYV yX0_faceCount (Cond.code yX0_faceCount prog_2_method_5_code (2 : Nat) (Option.some Jvm.ClassFile.FieldType.int)) 1 := ⟨kw_531, ⟨kw_529, kw_530⟩, kw_4, ⟨by decide +kernel, by decide +kernel⟩, by decide +kernel⟩
theorem kY_X0_weight : kYV yX0_weight (Cond.code yX0_weight prog_2_method_6_code (3 : Nat) (Option.some Jvm.ClassFile.FieldType.int)) 2 := ⟨kw_996, ⟨kw_994, kw_995⟩, kw_4, ⟨by decide +kernel, by decide +kernel⟩, by decide +kernel⟩
theorem kY_X0_putWeight : kYV yX0_putWeight (Cond.code yX0_putWeight prog_2_method_7_code (4 : Nat) (Option.none : Option Jvm.ClassFile.FieldType)) 3 := ⟨kw_437, ⟨kw_435, kw_436⟩, kw_4, ⟨by decide +kernel, by decide +kernel⟩, by decide +kernel⟩
theorem kY_X0_weightSum : kYV yX0_weightSum (Cond.code yX0_weightSum prog_2_method_8_code (2 : Nat) (Option.some Jvm.ClassFile.FieldType.int)) 1 := ⟨kw_1339, ⟨kw_1337, kw_1338⟩, kw_4, ⟨by decide +kernel, by decide +kernel⟩, by decide +kernel⟩
theorem kY_X0_hasEqualWeights : kYV yX0_hasEqualWeights (Cond.code yX0_hasEqualWeights prog_2_method_9_code (4 : Nat) (Option.some Jvm.ClassFile.FieldType.boolean)) 1 := ⟨kw_1007, ⟨kw_1005, kw_1006⟩, kw_4, ⟨by decide +kernel, by decide +kernel⟩, by decide +kernel⟩
theorem kY_X0_faceShown : kYV yX0_faceShown (Cond.code yX0_faceShown prog_2_method_10_code (8 : Nat) (Option.some Jvm.ClassFile.FieldType.int)) 2 := ⟨kw_503, ⟨kw_501, kw_502⟩, kw_4, ⟨by decide +kernel, by decide +kernel⟩, by decide +kernel⟩
theorem kY_X0_fairFaceShown : kYV yX0_fairFaceShown (Cond.code yX0_fairFaceShown prog_2_method_11_code (4 : Nat) (Option.some Jvm.ClassFile.FieldType.int)) 2 := ⟨kw_498, ⟨kw_496, kw_497⟩, kw_4, ⟨by decide +kernel, by decide +kernel⟩, by decide +kernel⟩
theorem kY_X1_init : kYI yX1_init (Cond.code yX1_init prog_3_method_1_code (1 : Nat) (Option.none : Option Jvm.ClassFile.FieldType)) 0 := ⟨kw_179, ⟨kw_178, rfl⟩, kw_8, ⟨by decide +kernel, by decide +kernel⟩, by decide +kernel⟩
theorem kY_X1_begin : kYV yX1_begin (Cond.code yX1_begin prog_3_method_2_code (5 : Nat) (Option.none : Option Jvm.ClassFile.FieldType)) 3 := ⟨kw_1273, ⟨kw_1271, kw_1272⟩, kw_8, ⟨by decide +kernel, by decide +kernel⟩, by decide +kernel⟩
theorem kY_X1_throwOnce : kYV yX1_throwOnce (Cond.code yX1_throwOnce prog_3_method_3_code (3 : Nat) (Option.none : Option Jvm.ClassFile.FieldType)) 1 := ⟨kw_1281, ⟨kw_1279, kw_1280⟩, kw_8, ⟨by decide +kernel, by decide +kernel⟩, by decide +kernel⟩
theorem kY_X1_made : kYV yX1_made (Cond.code yX1_made prog_3_method_4_code (1 : Nat) (Option.some Jvm.ClassFile.FieldType.int)) 0 := ⟨kw_1300, ⟨kw_1298, kw_1299⟩, kw_8, ⟨by decide +kernel, by decide +kernel⟩, by decide +kernel⟩
theorem kY_X1_presentScore : kYV yX1_presentScore (Cond.code yX1_presentScore prog_3_method_5_code (2 : Nat) (Option.some Jvm.ClassFile.FieldType.int)) 1 := ⟨kw_1287, ⟨kw_1285, kw_1286⟩, kw_8, ⟨by decide +kernel, by decide +kernel⟩, by decide +kernel⟩
theorem kY_X2_init : kYI yX2_init (Cond.code yX2_init prog_4_method_1_code (1 : Nat) (Option.none : Option Jvm.ClassFile.FieldType)) 0 := ⟨kw_55, ⟨kw_54, rfl⟩, kw_3, ⟨by decide +kernel, by decide +kernel⟩, by decide +kernel⟩
theorem kY_X2_begin : kYV yX2_begin (Cond.code yX2_begin prog_4_method_2_code (4 : Nat) (Option.none : Option Jvm.ClassFile.FieldType)) 3 := ⟨kw_401, ⟨kw_399, kw_400⟩, kw_3, ⟨by decide +kernel, by decide +kernel⟩, by decide +kernel⟩
theorem kY_X2_copyFrom : kYV yX2_copyFrom (Cond.code yX2_copyFrom prog_4_method_3_code (2 : Nat) (Option.none : Option Jvm.ClassFile.FieldType)) 1 := ⟨kw_625, ⟨kw_623, kw_624⟩, kw_3, ⟨by decide +kernel, by decide +kernel⟩, by decide +kernel⟩
theorem kY_X2_makeThrows : kYV yX2_makeThrows (Cond.code yX2_makeThrows prog_4_method_4_code (8 : Nat) (Option.some Jvm.ClassFile.FieldType.int)) 3 := ⟨kw_487, ⟨kw_485, kw_486⟩, kw_3, ⟨by decide +kernel, by decide +kernel⟩, by decide +kernel⟩
theorem kY_X2_pairScore : kYV yX2_pairScore (Cond.code yX2_pairScore prog_4_method_5_code (2 : Nat) (Option.some Jvm.ClassFile.FieldType.int)) 1 := ⟨kw_526, ⟨kw_524, kw_525⟩, kw_3, ⟨by decide +kernel, by decide +kernel⟩, by decide +kernel⟩
theorem kY_X2_exceedsLimits : kYV yX2_exceedsLimits (Cond.code yX2_exceedsLimits prog_4_method_6_code (3 : Nat) (Option.some Jvm.ClassFile.FieldType.boolean)) 2 := ⟨kw_545, ⟨kw_543, kw_544⟩, kw_3, ⟨by decide +kernel, by decide +kernel⟩, by decide +kernel⟩
theorem kY_X2_isPairSuspicious : kYV yX2_isPairSuspicious (Cond.code yX2_isPairSuspicious prog_4_method_7_code (2 : Nat) (Option.some Jvm.ClassFile.FieldType.boolean)) 1 := ⟨kw_725, ⟨kw_723, kw_724⟩, kw_3, ⟨by decide +kernel, by decide +kernel⟩, by decide +kernel⟩
theorem kY_X2_countSuspicious : kYV yX2_countSuspicious (Cond.code yX2_countSuspicious prog_4_method_8_code (3 : Nat) (Option.some Jvm.ClassFile.FieldType.int)) 0 := ⟨kw_721, ⟨kw_719, kw_720⟩, kw_3, ⟨by decide +kernel, by decide +kernel⟩, by decide +kernel⟩
theorem kY_X2_pairWithGreatestScore : kYV yX2_pairWithGreatestScore (Cond.code yX2_pairWithGreatestScore prog_4_method_9_code (5 : Nat) (Option.some Jvm.ClassFile.FieldType.int)) 0 := ⟨kw_733, ⟨kw_731, kw_732⟩, kw_3, ⟨by decide +kernel, by decide +kernel⟩, by decide +kernel⟩
theorem kY_X2_holdAudit : kYV yX2_holdAudit (Cond.code yX2_holdAudit prog_4_method_10_code (4 : Nat) (Option.some Jvm.ClassFile.FieldType.int)) 0 := ⟨kw_522, ⟨kw_520, kw_521⟩, kw_3, ⟨by decide +kernel, by decide +kernel⟩, by decide +kernel⟩
theorem kY_X2_penanceSize : kYV yX2_penanceSize (Cond.code yX2_penanceSize prog_4_method_11_code (1 : Nat) (Option.some Jvm.ClassFile.FieldType.int)) 0 := ⟨kw_576, ⟨kw_574, kw_575⟩, kw_3, ⟨by decide +kernel, by decide +kernel⟩, by decide +kernel⟩
theorem kY_X2_doPenance : kYV yX2_doPenance (Cond.code yX2_doPenance prog_4_method_12_code (3 : Nat) (Option.some Jvm.ClassFile.FieldType.int)) 0 := ⟨kw_572, ⟨kw_570, kw_571⟩, kw_3, ⟨by decide +kernel, by decide +kernel⟩, by decide +kernel⟩
theorem kY_X2_placeByTotal : kYV yX2_placeByTotal (Cond.code yX2_placeByTotal prog_4_method_13_code (4 : Nat) (Option.some Jvm.ClassFile.FieldType.int)) 1 := ⟨kw_1115, ⟨kw_1113, kw_1114⟩, kw_3, ⟨by decide +kernel, by decide +kernel⟩, by decide +kernel⟩
theorem kY_X2_ranksBefore : kYV yX2_ranksBefore (Cond.code yX2_ranksBefore prog_4_method_14_code (4 : Nat) (Option.some Jvm.ClassFile.FieldType.boolean)) 2 := ⟨kw_1119, ⟨kw_1118, kwp_28⟩, kw_3, ⟨by decide +kernel, by decide +kernel⟩, by decide +kernel⟩
theorem kY_X3_init : kYI yX3_init (Cond.code yX3_init prog_5_method_1_code (2 : Nat) (Option.none : Option Jvm.ClassFile.FieldType)) 0 := ⟨kw_195, ⟨kw_194, rfl⟩, kw_9, ⟨by decide +kernel, by decide +kernel⟩, by decide +kernel⟩
theorem kY_X3_remember : kYV yX3_remember (Cond.code yX3_remember prog_5_method_2_code (2 : Nat) (Option.none : Option Jvm.ClassFile.FieldType)) 1 := ⟨kw_781, ⟨kw_779, kw_780⟩, kw_9, ⟨by decide +kernel, by decide +kernel⟩, by decide +kernel⟩
theorem kY_X3_bringBack : kYV yX3_bringBack (Cond.code yX3_bringBack prog_5_method_3_code (2 : Nat) (Option.none : Option Jvm.ClassFile.FieldType)) 1 := ⟨kw_1403, ⟨kw_1401, kw_1402⟩, kw_9, ⟨by decide +kernel, by decide +kernel⟩, by decide +kernel⟩
theorem kY_X4_init : kYI yX4_init (Cond.code yX4_init prog_6_method_1_code (1 : Nat) (Option.none : Option Jvm.ClassFile.FieldType)) 0 := ⟨kw_99, ⟨kw_98, rfl⟩, kw_6, ⟨by decide +kernel, by decide +kernel⟩, by decide +kernel⟩
theorem kY_X4_clear : kYV yX4_clear (Cond.code yX4_clear prog_6_method_2_code (1 : Nat) (Option.none : Option Jvm.ClassFile.FieldType)) 0 := ⟨kw_413, ⟨kw_411, kw_412⟩, kw_6, ⟨by decide +kernel, by decide +kernel⟩, by decide +kernel⟩
theorem kY_X4_copyFrom : kYV yX4_copyFrom (Cond.code yX4_copyFrom prog_6_method_3_code (2 : Nat) (Option.none : Option Jvm.ClassFile.FieldType)) 1 := ⟨kw_644, ⟨kw_642, kw_643⟩, kw_6, ⟨by decide +kernel, by decide +kernel⟩, by decide +kernel⟩
theorem kY_X4_add : kYV yX4_add (Cond.code yX4_add prog_6_method_4_code (5 : Nat) (Option.none : Option Jvm.ClassFile.FieldType)) 3 := ⟨kw_510, ⟨kw_508, kw_509⟩, kw_6, ⟨by decide +kernel, by decide +kernel⟩, by decide +kernel⟩
theorem kY_X4_pairIn : kYV yX4_pairIn (Cond.code yX4_pairIn prog_6_method_5_code (2 : Nat) (Option.some Jvm.ClassFile.FieldType.int)) 1 := ⟨kw_595, ⟨kw_593, kw_594⟩, kw_6, ⟨by decide +kernel, by decide +kernel⟩, by decide +kernel⟩
theorem kY_X4_faceIn : kYV yX4_faceIn (Cond.code yX4_faceIn prog_6_method_6_code (2 : Nat) (Option.some Jvm.ClassFile.FieldType.int)) 1 := ⟨kw_599, ⟨kw_597, kw_598⟩, kw_6, ⟨by decide +kernel, by decide +kernel⟩, by decide +kernel⟩
theorem kY_X4_isMarked : kYV yX4_isMarked (Cond.code yX4_isMarked prog_6_method_7_code (2 : Nat) (Option.some Jvm.ClassFile.FieldType.boolean)) 1 := ⟨kw_603, ⟨kw_601, kw_602⟩, kw_6, ⟨by decide +kernel, by decide +kernel⟩, by decide +kernel⟩
theorem kY_X4_removeLatest : kYV yX4_removeLatest (Cond.code yX4_removeLatest prog_6_method_8_code (7 : Nat) (Option.none : Option Jvm.ClassFile.FieldType)) 2 := ⟨kw_589, ⟨kw_587, kw_588⟩, kw_6, ⟨by decide +kernel, by decide +kernel⟩, by decide +kernel⟩
theorem kY_X4_pairThrows : kYV yX4_pairThrows (Cond.code yX4_pairThrows prog_6_method_9_code (2 : Nat) (Option.some Jvm.ClassFile.FieldType.int)) 1 := ⟨kw_540, ⟨kw_538, kw_539⟩, kw_6, ⟨by decide +kernel, by decide +kernel⟩, by decide +kernel⟩
theorem kY_X4_distinctFaces : kYV yX4_distinctFaces (Cond.code yX4_distinctFaces prog_6_method_10_code (4 : Nat) (Option.some Jvm.ClassFile.FieldType.int)) 1 := ⟨kw_1180, ⟨kw_1178, kw_1179⟩, kw_6, ⟨by decide +kernel, by decide +kernel⟩, by decide +kernel⟩
theorem kY_X4_latestOf : kYV yX4_latestOf (Cond.code yX4_latestOf prog_6_method_11_code (3 : Nat) (Option.some Jvm.ClassFile.FieldType.int)) 1 := ⟨kw_1191, ⟨kw_1189, kw_1190⟩, kw_6, ⟨by decide +kernel, by decide +kernel⟩, by decide +kernel⟩
theorem kY_X4_playerThrows : kYV yX4_playerThrows (Cond.code yX4_playerThrows prog_6_method_12_code (2 : Nat) (Option.some Jvm.ClassFile.FieldType.int)) 1 := ⟨kw_812, ⟨kw_810, kw_811⟩, kw_6, ⟨by decide +kernel, by decide +kernel⟩, by decide +kernel⟩
theorem kY_X4_playerTotal : kYV yX4_playerTotal (Cond.code yX4_playerTotal prog_6_method_13_code (5 : Nat) (Option.some Jvm.ClassFile.FieldType.int)) 1 := ⟨kw_760, ⟨kw_758, kw_759⟩, kw_6, ⟨by decide +kernel, by decide +kernel⟩, by decide +kernel⟩
theorem kY_X4_longestStreak : kYV yX4_longestStreak (Cond.code yX4_longestStreak prog_6_method_14_code (6 : Nat) (Option.some Jvm.ClassFile.FieldType.int)) 1 := ⟨kw_1140, ⟨kw_1138, kw_1139⟩, kw_6, ⟨by decide +kernel, by decide +kernel⟩, by decide +kernel⟩
theorem kY_X4_frequencySum : kYV yX4_frequencySum (Cond.code yX4_frequencySum prog_6_method_15_code (1 : Nat) (Option.some Jvm.ClassFile.FieldType.int)) 0 := ⟨kw_752, ⟨kw_750, kw_751⟩, kw_6, ⟨by decide +kernel, by decide +kernel⟩, by decide +kernel⟩
theorem kY_X4_faceSum : kYV yX4_faceSum (Cond.code yX4_faceSum prog_6_method_16_code (3 : Nat) (Option.some Jvm.ClassFile.FieldType.int)) 0 := ⟨kw_765, ⟨kw_763, kw_764⟩, kw_6, ⟨by decide +kernel, by decide +kernel⟩, by decide +kernel⟩
theorem kY_X4_markedThrows : kYV yX4_markedThrows (Cond.code yX4_markedThrows prog_6_method_17_code (3 : Nat) (Option.some Jvm.ClassFile.FieldType.int)) 0 := ⟨kw_773, ⟨kw_771, kw_772⟩, kw_6, ⟨by decide +kernel, by decide +kernel⟩, by decide +kernel⟩
theorem kY_X5_init : kYI yX5_init (Cond.code yX5_init prog_7_method_1_code (2 : Nat) (Option.none : Option Jvm.ClassFile.FieldType)) 1 := ⟨kw_215, ⟨kw_214, rfl⟩, kw_10, ⟨by decide +kernel, by decide +kernel⟩, by decide +kernel⟩
theorem kY_X5_parse : kYV yX5_parse (Cond.code yX5_parse prog_7_method_2_code (2 : Nat) (Option.some Jvm.ClassFile.FieldType.boolean)) 0 := ⟨kw_327, ⟨kw_325, kw_326⟩, kw_10, ⟨by decide +kernel, by decide +kernel⟩, by decide +kernel⟩
theorem kY_X5_hasMore : kYV yX5_hasMore (Cond.code yX5_hasMore prog_7_method_3_code (1 : Nat) (Option.some Jvm.ClassFile.FieldType.boolean)) 0 := ⟨kw_424, ⟨kw_423, kwp_8⟩, kw_10, ⟨by decide +kernel, by decide +kernel⟩, by decide +kernel⟩
theorem kY_X5_readHall : kYV yX5_readHall (Cond.code yX5_readHall prog_7_method_4_code (4 : Nat) (Option.none : Option Jvm.ClassFile.FieldType)) 0 := ⟨kw_364, ⟨kw_363, kwp_2⟩, kw_10, ⟨by decide +kernel, by decide +kernel⟩, by decide +kernel⟩
theorem kY_X5_readStatement : kYV yX5_readStatement (Cond.code yX5_readStatement prog_7_method_5_code (1 : Nat) (Option.none : Option Jvm.ClassFile.FieldType)) 0 := ⟨kw_428, ⟨kw_427, kwp_9⟩, kw_10, ⟨by decide +kernel, by decide +kernel⟩, by decide +kernel⟩
theorem kY_X5_readDie : kYV yX5_readDie (Cond.code yX5_readDie prog_7_method_6_code (5 : Nat) (Option.none : Option Jvm.ClassFile.FieldType)) 0 := ⟨kw_433, ⟨kw_432, kwp_10⟩, kw_10, ⟨by decide +kernel, by decide +kernel⟩, by decide +kernel⟩
theorem kY_X5_readPlayer : kYV yX5_readPlayer (Cond.code yX5_readPlayer prog_7_method_7_code (3 : Nat) (Option.none : Option Jvm.ClassFile.FieldType)) 0 := ⟨kw_450, ⟨kw_449, kwp_11⟩, kw_10, ⟨by decide +kernel, by decide +kernel⟩, by decide +kernel⟩
theorem kY_X5_takeNewName : kYV yX5_takeNewName (Cond.code yX5_takeNewName prog_7_method_8_code (1 : Nat) (Option.none : Option Jvm.ClassFile.FieldType)) 0 := ⟨kw_454, ⟨kw_453, kwp_12⟩, kw_10, ⟨by decide +kernel, by decide +kernel⟩, by decide +kernel⟩
theorem kY_X5_readThrow : kYV yX5_readThrow (Cond.code yX5_readThrow prog_7_method_9_code (4 : Nat) (Option.none : Option Jvm.ClassFile.FieldType)) 0 := ⟨kw_476, ⟨kw_475, kwp_14⟩, kw_10, ⟨by decide +kernel, by decide +kernel⟩, by decide +kernel⟩
theorem kY_X5_readAudit : kYV yX5_readAudit (Cond.code yX5_readAudit prog_7_method_10_code (1 : Nat) (Option.none : Option Jvm.ClassFile.FieldType)) 0 := ⟨kw_518, ⟨kw_517, kwp_16⟩, kw_10, ⟨by decide +kernel, by decide +kernel⟩, by decide +kernel⟩
theorem kY_X5_readAbsolve : kYV yX5_readAbsolve (Cond.code yX5_readAbsolve prog_7_method_11_code (1 : Nat) (Option.none : Option Jvm.ClassFile.FieldType)) 0 := ⟨kw_568, ⟨kw_567, kwp_19⟩, kw_10, ⟨by decide +kernel, by decide +kernel⟩, by decide +kernel⟩
theorem kY_X5_readForgive : kYV yX5_readForgive (Cond.code yX5_readForgive prog_7_method_12_code (2 : Nat) (Option.none : Option Jvm.ClassFile.FieldType)) 0 := ⟨kw_610, ⟨kw_609, kwp_20⟩, kw_10, ⟨by decide +kernel, by decide +kernel⟩, by decide +kernel⟩
theorem kY_X5_takeKnownName : kYV yX5_takeKnownName (Cond.code yX5_takeKnownName prog_7_method_13_code (2 : Nat) (Option.some Jvm.ClassFile.FieldType.int)) 0 := ⟨kw_480, ⟨kw_479, kwp_15⟩, kw_10, ⟨by decide +kernel, by decide +kernel⟩, by decide +kernel⟩
theorem kY_X5_takeKeyword : kYV yX5_takeKeyword (Cond.code yX5_takeKeyword prog_7_method_14_code (2 : Nat) (Option.none : Option Jvm.ClassFile.FieldType)) 1 := ⟨kw_375, ⟨kw_374, kwp_3⟩, kw_10, ⟨by decide +kernel, by decide +kernel⟩, by decide +kernel⟩
theorem kY_X5_isNumberIn : kYV yX5_isNumberIn (Cond.code yX5_isNumberIn prog_7_method_15_code (3 : Nat) (Option.some Jvm.ClassFile.FieldType.boolean)) 2 := ⟨kw_389, ⟨kw_388, kwp_6⟩, kw_10, ⟨by decide +kernel, by decide +kernel⟩, by decide +kernel⟩
theorem kY_X5_takeNumber : kYV yX5_takeNumber (Cond.code yX5_takeNumber prog_7_method_16_code (4 : Nat) (Option.some Jvm.ClassFile.FieldType.int)) 2 := ⟨kw_385, ⟨kw_384, kwp_5⟩, kw_10, ⟨by decide +kernel, by decide +kernel⟩, by decide +kernel⟩
theorem kY_X5_takeSemicolon : kYV yX5_takeSemicolon (Cond.code yX5_takeSemicolon prog_7_method_17_code (2 : Nat) (Option.none : Option Jvm.ClassFile.FieldType)) 1 := ⟨kw_393, ⟨kw_392, kwp_7⟩, kw_10, ⟨by decide +kernel, by decide +kernel⟩, by decide +kernel⟩
theorem kY_X5_fail : kYV yX5_fail (Cond.code yX5_fail prog_7_method_18_code (2 : Nat) (Option.none : Option Jvm.ClassFile.FieldType)) 1 := ⟨kw_379, ⟨kw_378, kwp_4⟩, kw_10, ⟨by decide +kernel, by decide +kernel⟩, by decide +kernel⟩
theorem kY_X6_init : kYI yX6_init (Cond.code yX6_init prog_8_method_1_code (1 : Nat) (Option.none : Option Jvm.ClassFile.FieldType)) 0 := ⟨kw_120, ⟨kw_119, rfl⟩, kw_7, ⟨by decide +kernel, by decide +kernel⟩, by decide +kernel⟩
theorem kY_X6_clear : kYV yX6_clear (Cond.code yX6_clear prog_8_method_2_code (1 : Nat) (Option.none : Option Jvm.ClassFile.FieldType)) 0 := ⟨kw_420, ⟨kw_418, kw_419⟩, kw_7, ⟨by decide +kernel, by decide +kernel⟩, by decide +kernel⟩
theorem kY_X6_copyFrom : kYV yX6_copyFrom (Cond.code yX6_copyFrom prog_8_method_3_code (2 : Nat) (Option.none : Option Jvm.ClassFile.FieldType)) 1 := ⟨kw_649, ⟨kw_647, kw_648⟩, kw_7, ⟨by decide +kernel, by decide +kernel⟩, by decide +kernel⟩
theorem kY_X6_has : kYV yX6_has (Cond.code yX6_has prog_8_method_4_code (3 : Nat) (Option.some Jvm.ClassFile.FieldType.boolean)) 1 := ⟨kw_549, ⟨kw_547, kw_548⟩, kw_7, ⟨by decide +kernel, by decide +kernel⟩, by decide +kernel⟩
theorem kY_X6_add : kYV yX6_add (Cond.code yX6_add prog_8_method_5_code (4 : Nat) (Option.none : Option Jvm.ClassFile.FieldType)) 2 := ⟨kw_554, ⟨kw_552, kw_553⟩, kw_7, ⟨by decide +kernel, by decide +kernel⟩, by decide +kernel⟩
theorem kY_X6_goesBefore : kYV yX6_goesBefore (Cond.code yX6_goesBefore prog_8_method_6_code (5 : Nat) (Option.some Jvm.ClassFile.FieldType.boolean)) 3 := ⟨kw_558, ⟨kw_557, kwp_17⟩, kw_7, ⟨by decide +kernel, by decide +kernel⟩, by decide +kernel⟩
theorem kY_X6_set : kYV yX6_set (Cond.code yX6_set prog_8_method_7_code (4 : Nat) (Option.none : Option Jvm.ClassFile.FieldType)) 3 := ⟨kw_562, ⟨kw_561, kwp_18⟩, kw_7, ⟨by decide +kernel, by decide +kernel⟩, by decide +kernel⟩
theorem kY_X6_removeFirst : kYV yX6_removeFirst (Cond.code yX6_removeFirst prog_8_method_8_code (2 : Nat) (Option.none : Option Jvm.ClassFile.FieldType)) 0 := ⟨kw_582, ⟨kw_580, kw_581⟩, kw_7, ⟨by decide +kernel, by decide +kernel⟩, by decide +kernel⟩
theorem kY_X6_removeAllOf : kYV yX6_removeAllOf (Cond.code yX6_removeAllOf prog_8_method_9_code (4 : Nat) (Option.some Jvm.ClassFile.FieldType.int)) 1 := ⟨kw_614, ⟨kw_612, kw_613⟩, kw_7, ⟨by decide +kernel, by decide +kernel⟩, by decide +kernel⟩
theorem kY_X6_countOf : kYV yX6_countOf (Cond.code yX6_countOf prog_8_method_10_code (4 : Nat) (Option.some Jvm.ClassFile.FieldType.int)) 1 := ⟨kw_830, ⟨kw_828, kw_829⟩, kw_7, ⟨by decide +kernel, by decide +kernel⟩, by decide +kernel⟩
theorem kY_X7_init : kYI yX7_init (Cond.code yX7_init prog_9_method_1_code (1 : Nat) (Option.none : Option Jvm.ClassFile.FieldType)) 0 := ⟨kw_80, ⟨kw_79, rfl⟩, kw_5, ⟨by decide +kernel, by decide +kernel⟩, by decide +kernel⟩
theorem kY_X7_clear : kYV yX7_clear (Cond.code yX7_clear prog_9_method_2_code (1 : Nat) (Option.none : Option Jvm.ClassFile.FieldType)) 0 := ⟨kw_409, ⟨kw_407, kw_408⟩, kw_5, ⟨by decide +kernel, by decide +kernel⟩, by decide +kernel⟩
theorem kY_X7_copyFrom : kYV yX7_copyFrom (Cond.code yX7_copyFrom prog_9_method_3_code (2 : Nat) (Option.none : Option Jvm.ClassFile.FieldType)) 1 := ⟨kw_639, ⟨kw_637, kw_638⟩, kw_5, ⟨by decide +kernel, by decide +kernel⟩, by decide +kernel⟩
theorem kY_X7_add : kYV yX7_add (Cond.code yX7_add prog_9_method_4_code (5 : Nat) (Option.none : Option Jvm.ClassFile.FieldType)) 3 := ⟨kw_470, ⟨kw_468, kw_469⟩, kw_5, ⟨by decide +kernel, by decide +kernel⟩, by decide +kernel⟩
theorem kY_X7_nameLength : kYV yX7_nameLength (Cond.code yX7_nameLength prog_9_method_5_code (2 : Nat) (Option.some Jvm.ClassFile.FieldType.int)) 1 := ⟨kw_820, ⟨kw_818, kw_819⟩, kw_5, ⟨by decide +kernel, by decide +kernel⟩, by decide +kernel⟩
theorem kY_X7_letter : kYV yX7_letter (Cond.code yX7_letter prog_9_method_6_code (3 : Nat) (Option.some Jvm.ClassFile.FieldType.int)) 2 := ⟨kw_804, ⟨kw_802, kw_803⟩, kw_5, ⟨by decide +kernel, by decide +kernel⟩, by decide +kernel⟩
theorem kY_X7_find : kYV yX7_find (Cond.code yX7_find prog_9_method_7_code (5 : Nat) (Option.some Jvm.ClassFile.FieldType.int)) 3 := ⟨kw_458, ⟨kw_456, kw_457⟩, kw_5, ⟨by decide +kernel, by decide +kernel⟩, by decide +kernel⟩
theorem kY_X7_isNamed : kYV yX7_isNamed (Cond.code yX7_isNamed prog_9_method_8_code (7 : Nat) (Option.some Jvm.ClassFile.FieldType.boolean)) 4 := ⟨kw_462, ⟨kw_461, kwp_13⟩, kw_5, ⟨by decide +kernel, by decide +kernel⟩, by decide +kernel⟩
theorem kY_X7_comesBefore : kYV yX7_comesBefore (Cond.code yX7_comesBefore prog_9_method_9_code (5 : Nat) (Option.some Jvm.ClassFile.FieldType.boolean)) 2 := ⟨kw_800, ⟨kw_798, kw_799⟩, kw_5, ⟨by decide +kernel, by decide +kernel⟩, by decide +kernel⟩
theorem kY_X7_playerInPlace : kYV yX7_playerInPlace (Cond.code yX7_playerInPlace prog_9_method_10_code (3 : Nat) (Option.some Jvm.ClassFile.FieldType.int)) 1 := ⟨kw_792, ⟨kw_790, kw_791⟩, kw_5, ⟨by decide +kernel, by decide +kernel⟩, by decide +kernel⟩
theorem kY_X7_placeByName : kYV yX7_placeByName (Cond.code yX7_placeByName prog_9_method_11_code (4 : Nat) (Option.some Jvm.ClassFile.FieldType.int)) 1 := ⟨kw_796, ⟨kw_795, kwp_21⟩, kw_5, ⟨by decide +kernel, by decide +kernel⟩, by decide +kernel⟩
theorem kY_X8_init : kYI yX8_init (Cond.code yX8_init prog_10_method_1_code (1 : Nat) (Option.none : Option Jvm.ClassFile.FieldType)) 0 := ⟨kw_39, ⟨kw_38, rfl⟩, kw_2, ⟨by decide +kernel, by decide +kernel⟩, by decide +kernel⟩
theorem kY_X8_byteIn : kYV yX8_byteIn (Cond.code yX8_byteIn prog_10_method_2_code (2 : Nat) (Option.some Jvm.ClassFile.FieldType.int)) 1 := ⟨kw_339, ⟨kw_337, kw_338⟩, kw_2, ⟨by decide +kernel, by decide +kernel⟩, by decide +kernel⟩
theorem kY_X8_append : kYV yX8_append (Cond.code yX8_append prog_10_method_3_code (2 : Nat) (Option.none : Option Jvm.ClassFile.FieldType)) 1 := ⟨kw_320, ⟨kw_318, kw_319⟩, kw_2, ⟨by decide +kernel, by decide +kernel⟩, by decide +kernel⟩
theorem kY_X8_appendWord : kYV yX8_appendWord (Cond.code yX8_appendWord prog_10_method_4_code (3 : Nat) (Option.none : Option Jvm.ClassFile.FieldType)) 1 := ⟨kw_914, ⟨kw_912, kw_913⟩, kw_2, ⟨by decide +kernel, by decide +kernel⟩, by decide +kernel⟩
theorem kY_X8_appendString : kYV yX8_appendString (Cond.code yX8_appendString prog_10_method_5_code (3 : Nat) (Option.none : Option Jvm.ClassFile.FieldType)) 1 := ⟨kw_268, ⟨kw_266, kw_267⟩, kw_2, ⟨by decide +kernel, by decide +kernel⟩, by decide +kernel⟩
theorem kY_X8_appendSeparator : kYV yX8_appendSeparator (Cond.code yX8_appendSeparator prog_10_method_6_code (2 : Nat) (Option.none : Option Jvm.ClassFile.FieldType)) 1 := ⟨kw_816, ⟨kw_814, kw_815⟩, kw_2, ⟨by decide +kernel, by decide +kernel⟩, by decide +kernel⟩
theorem kY_X8_appendNumber : kYV yX8_appendNumber (Cond.code yX8_appendNumber prog_10_method_7_code (3 : Nat) (Option.none : Option Jvm.ClassFile.FieldType)) 1 := ⟨kw_826, ⟨kw_824, kw_825⟩, kw_2, ⟨by decide +kernel, by decide +kernel⟩, by decide +kernel⟩
theorem kY_X8_cutTo : kYV yX8_cutTo (Cond.code yX8_cutTo prog_10_method_8_code (2 : Nat) (Option.none : Option Jvm.ClassFile.FieldType)) 1 := ⟨kw_621, ⟨kw_619, kw_620⟩, kw_2, ⟨by decide +kernel, by decide +kernel⟩, by decide +kernel⟩
theorem kY_X9_init : kYI yX9_init (Cond.code yX9_init prog_11_method_1_code (2 : Nat) (Option.none : Option Jvm.ClassFile.FieldType)) 1 := ⟨kw_223, ⟨kw_222, rfl⟩, kw_11, ⟨by decide +kernel, by decide +kernel⟩, by decide +kernel⟩
theorem kY_X9_rewind : kYV yX9_rewind (Cond.code yX9_rewind prog_11_method_2_code (1 : Nat) (Option.none : Option Jvm.ClassFile.FieldType)) 0 := ⟨kw_331, ⟨kw_329, kw_330⟩, kw_11, ⟨by decide +kernel, by decide +kernel⟩, by decide +kernel⟩
theorem kY_X9_advance : kYV yX9_advance (Cond.code yX9_advance prog_11_method_3_code (2 : Nat) (Option.none : Option Jvm.ClassFile.FieldType)) 0 := ⟨kw_335, ⟨kw_333, kw_334⟩, kw_11, ⟨by decide +kernel, by decide +kernel⟩, by decide +kernel⟩
theorem kY_X9_passLetters : kYV yX9_passLetters (Cond.code yX9_passLetters prog_11_method_4_code (1 : Nat) (Option.none : Option Jvm.ClassFile.FieldType)) 0 := ⟨kw_349, ⟨kw_348, kwp_0⟩, kw_11, ⟨by decide +kernel, by decide +kernel⟩, by decide +kernel⟩
theorem kY_X9_passDigits : kYV yX9_passDigits (Cond.code yX9_passDigits prog_11_method_5_code (1 : Nat) (Option.none : Option Jvm.ClassFile.FieldType)) 0 := ⟨kw_356, ⟨kw_355, kwp_1⟩, kw_11, ⟨by decide +kernel, by decide +kernel⟩, by decide +kernel⟩
theorem kY_X9_isWord : kYV yX9_isWord (Cond.code yX9_isWord prog_11_method_6_code (3 : Nat) (Option.some Jvm.ClassFile.FieldType.boolean)) 1 := ⟨kw_369, ⟨kw_367, kw_368⟩, kw_11, ⟨by decide +kernel, by decide +kernel⟩, by decide +kernel⟩
theorem kY_X9_isSemicolon : kYV yX9_isSemicolon (Cond.code yX9_isSemicolon prog_11_method_7_code (1 : Nat) (Option.some Jvm.ClassFile.FieldType.boolean)) 0 := ⟨kw_397, ⟨kw_395, kw_396⟩, kw_11, ⟨by decide +kernel, by decide +kernel⟩, by decide +kernel⟩
theorem kY_X9_isBlank : kYS yX9_isBlank (Cond.code yX9_isBlank prog_11_method_8_code (1 : Nat) (Option.some Jvm.ClassFile.FieldType.boolean)) 1 := ⟨kw_342, kw_341, kw_11, ⟨by decide +kernel, by decide +kernel⟩, by decide +kernel⟩
theorem kY_X9_isLetter : kYS yX9_isLetter (Cond.code yX9_isLetter prog_11_method_9_code (1 : Nat) (Option.some Jvm.ClassFile.FieldType.boolean)) 1 := ⟨kw_345, kw_344, kw_11, ⟨by decide +kernel, by decide +kernel⟩, by decide +kernel⟩
theorem kY_X9_isDigit : kYS yX9_isDigit (Cond.code yX9_isDigit prog_11_method_10_code (1 : Nat) (Option.some Jvm.ClassFile.FieldType.boolean)) 1 := ⟨kw_352, kw_351, kw_11, ⟨by decide +kernel, by decide +kernel⟩, by decide +kernel⟩
theorem kY_X10_init : kYI yX10_init (Cond.code yX10_init prog_1_method_1_code (4 : Nat) (Option.none : Option Jvm.ClassFile.FieldType)) 0 := ⟨kw_31, ⟨kw_30, rfl⟩, kw_1, ⟨by decide +kernel, by decide +kernel⟩, by decide +kernel⟩
theorem kY_X10_appendInput : kYV yX10_appendInput (Cond.code yX10_appendInput prog_1_method_2_code (6 : Nat) (Option.some Jvm.ClassFile.FieldType.int)) 5 := ⟨kw_842, ⟨kw_840, kw_841⟩, kw_1, ⟨by decide +kernel, by decide +kernel⟩, by decide +kernel⟩
theorem kY_X10_truncateInput : kYV yX10_truncateInput (Cond.code yX10_truncateInput prog_1_method_3_code (2 : Nat) (Option.some Jvm.ClassFile.FieldType.int)) 1 := ⟨kw_922, ⟨kw_920, kw_921⟩, kw_1, ⟨by decide +kernel, by decide +kernel⟩, by decide +kernel⟩
theorem kY_X10_load : kYV yX10_load (Cond.code yX10_load prog_1_method_4_code (2 : Nat) (Option.some Jvm.ClassFile.FieldType.int)) 0 := ⟨kw_948, ⟨kw_946, kw_947⟩, kw_1, ⟨by decide +kernel, by decide +kernel⟩, by decide +kernel⟩
theorem kY_X10_errorCode : kYV yX10_errorCode (Cond.code yX10_errorCode prog_1_method_5_code (1 : Nat) (Option.some Jvm.ClassFile.FieldType.int)) 0 := ⟨kw_680, ⟨kw_678, kw_679⟩, kw_1, ⟨by decide +kernel, by decide +kernel⟩, by decide +kernel⟩
theorem kY_X10_errorPosition : kYV yX10_errorPosition (Cond.code yX10_errorPosition prog_1_method_6_code (1 : Nat) (Option.some Jvm.ClassFile.FieldType.int)) 0 := ⟨kw_684, ⟨kw_682, kw_683⟩, kw_1, ⟨by decide +kernel, by decide +kernel⟩, by decide +kernel⟩
theorem kY_X10_seed : kYV yX10_seed (Cond.code yX10_seed prog_1_method_7_code (1 : Nat) (Option.some Jvm.ClassFile.FieldType.int)) 0 := ⟨kw_688, ⟨kw_686, kw_687⟩, kw_1, ⟨by decide +kernel, by decide +kernel⟩, by decide +kernel⟩
theorem kY_X10_minimum : kYV yX10_minimum (Cond.code yX10_minimum prog_1_method_8_code (1 : Nat) (Option.some Jvm.ClassFile.FieldType.int)) 0 := ⟨kw_692, ⟨kw_690, kw_691⟩, kw_1, ⟨by decide +kernel, by decide +kernel⟩, by decide +kernel⟩
theorem kY_X10_threshold : kYV yX10_threshold (Cond.code yX10_threshold prog_1_method_9_code (1 : Nat) (Option.some Jvm.ClassFile.FieldType.int)) 0 := ⟨kw_696, ⟨kw_694, kw_695⟩, kw_1, ⟨by decide +kernel, by decide +kernel⟩, by decide +kernel⟩
theorem kY_X10_dieCount : kYV yX10_dieCount (Cond.code yX10_dieCount prog_1_method_10_code (1 : Nat) (Option.some Jvm.ClassFile.FieldType.int)) 0 := ⟨kw_700, ⟨kw_698, kw_699⟩, kw_1, ⟨by decide +kernel, by decide +kernel⟩, by decide +kernel⟩
theorem kY_X10_playerCount : kYV yX10_playerCount (Cond.code yX10_playerCount prog_1_method_11_code (1 : Nat) (Option.some Jvm.ClassFile.FieldType.int)) 0 := ⟨kw_704, ⟨kw_702, kw_703⟩, kw_1, ⟨by decide +kernel, by decide +kernel⟩, by decide +kernel⟩
theorem kY_X10_throwCount : kYV yX10_throwCount (Cond.code yX10_throwCount prog_1_method_12_code (1 : Nat) (Option.some Jvm.ClassFile.FieldType.int)) 0 := ⟨kw_708, ⟨kw_706, kw_707⟩, kw_1, ⟨by decide +kernel, by decide +kernel⟩, by decide +kernel⟩
theorem kY_X10_faces : kYV yX10_faces (Cond.code yX10_faces prog_1_method_13_code (2 : Nat) (Option.some Jvm.ClassFile.FieldType.int)) 1 := ⟨kw_957, ⟨kw_955, kw_956⟩, kw_1, ⟨by decide +kernel, by decide +kernel⟩, by decide +kernel⟩
theorem kY_X10_weightOf : kYV yX10_weightOf (Cond.code yX10_weightOf prog_1_method_14_code (3 : Nat) (Option.some Jvm.ClassFile.FieldType.int)) 2 := ⟨kw_988, ⟨kw_986, kw_987⟩, kw_1, ⟨by decide +kernel, by decide +kernel⟩, by decide +kernel⟩
theorem kY_X10_isBalanced : kYV yX10_isBalanced (Cond.code yX10_isBalanced prog_1_method_15_code (2 : Nat) (Option.some Jvm.ClassFile.FieldType.boolean)) 1 := ⟨kw_1003, ⟨kw_1001, kw_1002⟩, kw_1, ⟨by decide +kernel, by decide +kernel⟩, by decide +kernel⟩
theorem kY_X10_heaviestFace : kYV yX10_heaviestFace (Cond.code yX10_heaviestFace prog_1_method_16_code (2 : Nat) (Option.some Jvm.ClassFile.FieldType.int)) 1 := ⟨kw_1016, ⟨kw_1014, kw_1015⟩, kw_1, ⟨by decide +kernel, by decide +kernel⟩, by decide +kernel⟩
theorem kY_X10_nameByte : kYV yX10_nameByte (Cond.code yX10_nameByte prog_1_method_17_code (3 : Nat) (Option.some Jvm.ClassFile.FieldType.int)) 2 := ⟨kw_1028, ⟨kw_1026, kw_1027⟩, kw_1, ⟨by decide +kernel, by decide +kernel⟩, by decide +kernel⟩
theorem kY_X10_playerAt : kYV yX10_playerAt (Cond.code yX10_playerAt prog_1_method_18_code (2 : Nat) (Option.some Jvm.ClassFile.FieldType.int)) 1 := ⟨kw_1055, ⟨kw_1053, kw_1054⟩, kw_1, ⟨by decide +kernel, by decide +kernel⟩, by decide +kernel⟩
theorem kY_X10_dieAt : kYV yX10_dieAt (Cond.code yX10_dieAt prog_1_method_19_code (2 : Nat) (Option.some Jvm.ClassFile.FieldType.int)) 1 := ⟨kw_1067, ⟨kw_1065, kw_1066⟩, kw_1, ⟨by decide +kernel, by decide +kernel⟩, by decide +kernel⟩
theorem kY_X10_faceAt : kYV yX10_faceAt (Cond.code yX10_faceAt prog_1_method_20_code (2 : Nat) (Option.some Jvm.ClassFile.FieldType.int)) 1 := ⟨kw_1074, ⟨kw_1072, kw_1073⟩, kw_1, ⟨by decide +kernel, by decide +kernel⟩, by decide +kernel⟩
theorem kY_X10_isFairAt : kYV yX10_isFairAt (Cond.code yX10_isFairAt prog_1_method_21_code (2 : Nat) (Option.some Jvm.ClassFile.FieldType.boolean)) 1 := ⟨kw_1082, ⟨kw_1080, kw_1081⟩, kw_1, ⟨by decide +kernel, by decide +kernel⟩, by decide +kernel⟩
theorem kY_X10_throwsOf : kYV yX10_throwsOf (Cond.code yX10_throwsOf prog_1_method_22_code (2 : Nat) (Option.some Jvm.ClassFile.FieldType.int)) 1 := ⟨kw_1090, ⟨kw_1088, kw_1089⟩, kw_1, ⟨by decide +kernel, by decide +kernel⟩, by decide +kernel⟩
theorem kY_X10_total : kYV yX10_total (Cond.code yX10_total prog_1_method_23_code (2 : Nat) (Option.some Jvm.ClassFile.FieldType.int)) 1 := ⟨kw_1097, ⟨kw_1095, kw_1096⟩, kw_1, ⟨by decide +kernel, by decide +kernel⟩, by decide +kernel⟩
theorem kY_X10_meanFace : kYV yX10_meanFace (Cond.code yX10_meanFace prog_1_method_24_code (3 : Nat) (Option.some Jvm.ClassFile.FieldType.double)) 1 := ⟨kw_1104, ⟨kw_1102, kw_1103⟩, kw_1, ⟨by decide +kernel, by decide +kernel⟩, by decide +kernel⟩
theorem kY_X10_rankOf : kYV yX10_rankOf (Cond.code yX10_rankOf prog_1_method_25_code (2 : Nat) (Option.some Jvm.ClassFile.FieldType.int)) 1 := ⟨kw_1111, ⟨kw_1109, kw_1110⟩, kw_1, ⟨by decide +kernel, by decide +kernel⟩, by decide +kernel⟩
theorem kY_X10_playerWithRank : kYV yX10_playerWithRank (Cond.code yX10_playerWithRank prog_1_method_26_code (3 : Nat) (Option.some Jvm.ClassFile.FieldType.int)) 1 := ⟨kw_1128, ⟨kw_1126, kw_1127⟩, kw_1, ⟨by decide +kernel, by decide +kernel⟩, by decide +kernel⟩
theorem kY_X10_longestRun : kYV yX10_longestRun (Cond.code yX10_longestRun prog_1_method_27_code (2 : Nat) (Option.some Jvm.ClassFile.FieldType.int)) 1 := ⟨kw_1136, ⟨kw_1134, kw_1135⟩, kw_1, ⟨by decide +kernel, by decide +kernel⟩, by decide +kernel⟩
theorem kY_X10_findPlayer : kYV yX10_findPlayer (Cond.code yX10_findPlayer prog_1_method_28_code (1 : Nat) (Option.some Jvm.ClassFile.FieldType.int)) 0 := ⟨kw_712, ⟨kw_710, kw_711⟩, kw_1, ⟨by decide +kernel, by decide +kernel⟩, by decide +kernel⟩
theorem kY_X10_throwsOfPair : kYV yX10_throwsOfPair (Cond.code yX10_throwsOfPair prog_1_method_29_code (3 : Nat) (Option.some Jvm.ClassFile.FieldType.int)) 2 := ⟨kw_1149, ⟨kw_1147, kw_1148⟩, kw_1, ⟨by decide +kernel, by decide +kernel⟩, by decide +kernel⟩
theorem kY_X10_frequency : kYV yX10_frequency (Cond.code yX10_frequency prog_1_method_30_code (4 : Nat) (Option.some Jvm.ClassFile.FieldType.int)) 3 := ⟨kw_1162, ⟨kw_1160, kw_1161⟩, kw_1, ⟨by decide +kernel, by decide +kernel⟩, by decide +kernel⟩
theorem kY_X10_commonFace : kYV yX10_commonFace (Cond.code yX10_commonFace prog_1_method_31_code (4 : Nat) (Option.some Jvm.ClassFile.FieldType.int)) 2 := ⟨kw_1169, ⟨kw_1167, kw_1168⟩, kw_1, ⟨by decide +kernel, by decide +kernel⟩, by decide +kernel⟩
theorem kY_X10_facesSeen : kYV yX10_facesSeen (Cond.code yX10_facesSeen prog_1_method_32_code (3 : Nat) (Option.some Jvm.ClassFile.FieldType.int)) 2 := ⟨kw_1176, ⟨kw_1174, kw_1175⟩, kw_1, ⟨by decide +kernel, by decide +kernel⟩, by decide +kernel⟩
theorem kY_X10_latestThrow : kYV yX10_latestThrow (Cond.code yX10_latestThrow prog_1_method_33_code (3 : Nat) (Option.some Jvm.ClassFile.FieldType.int)) 2 := ⟨kw_1187, ⟨kw_1185, kw_1186⟩, kw_1, ⟨by decide +kernel, by decide +kernel⟩, by decide +kernel⟩
theorem kY_X10_score : kYV yX10_score (Cond.code yX10_score prog_1_method_34_code (3 : Nat) (Option.some Jvm.ClassFile.FieldType.int)) 2 := ⟨kw_1198, ⟨kw_1196, kw_1197⟩, kw_1, ⟨by decide +kernel, by decide +kernel⟩, by decide +kernel⟩
theorem kY_X10_isSuspicious : kYV yX10_isSuspicious (Cond.code yX10_isSuspicious prog_1_method_35_code (3 : Nat) (Option.some Jvm.ClassFile.FieldType.boolean)) 2 := ⟨kw_1206, ⟨kw_1204, kw_1205⟩, kw_1, ⟨by decide +kernel, by decide +kernel⟩, by decide +kernel⟩
theorem kY_X10_suspiciousPairs : kYV yX10_suspiciousPairs (Cond.code yX10_suspiciousPairs prog_1_method_36_code (1 : Nat) (Option.some Jvm.ClassFile.FieldType.int)) 0 := ⟨kw_717, ⟨kw_715, kw_716⟩, kw_1, ⟨by decide +kernel, by decide +kernel⟩, by decide +kernel⟩
theorem kY_X10_worstPair : kYV yX10_worstPair (Cond.code yX10_worstPair prog_1_method_37_code (2 : Nat) (Option.some Jvm.ClassFile.FieldType.int)) 0 := ⟨kw_729, ⟨kw_727, kw_728⟩, kw_1, ⟨by decide +kernel, by decide +kernel⟩, by decide +kernel⟩
theorem kY_X10_offenceCount : kYV yX10_offenceCount (Cond.code yX10_offenceCount prog_1_method_38_code (1 : Nat) (Option.some Jvm.ClassFile.FieldType.int)) 0 := ⟨kw_739, ⟨kw_737, kw_738⟩, kw_1, ⟨by decide +kernel, by decide +kernel⟩, by decide +kernel⟩
theorem kY_X10_offencePlayer : kYV yX10_offencePlayer (Cond.code yX10_offencePlayer prog_1_method_39_code (2 : Nat) (Option.some Jvm.ClassFile.FieldType.int)) 1 := ⟨kw_1214, ⟨kw_1212, kw_1213⟩, kw_1, ⟨by decide +kernel, by decide +kernel⟩, by decide +kernel⟩
theorem kY_X10_offenceDie : kYV yX10_offenceDie (Cond.code yX10_offenceDie prog_1_method_40_code (2 : Nat) (Option.some Jvm.ClassFile.FieldType.int)) 1 := ⟨kw_1225, ⟨kw_1223, kw_1224⟩, kw_1, ⟨by decide +kernel, by decide +kernel⟩, by decide +kernel⟩
theorem kY_X10_offenceScore : kYV yX10_offenceScore (Cond.code yX10_offenceScore prog_1_method_41_code (2 : Nat) (Option.some Jvm.ClassFile.FieldType.int)) 1 := ⟨kw_1232, ⟨kw_1230, kw_1231⟩, kw_1, ⟨by decide +kernel, by decide +kernel⟩, by decide +kernel⟩
theorem kY_X10_offencesOf : kYV yX10_offencesOf (Cond.code yX10_offencesOf prog_1_method_42_code (2 : Nat) (Option.some Jvm.ClassFile.FieldType.int)) 1 := ⟨kw_1239, ⟨kw_1237, kw_1238⟩, kw_1, ⟨by decide +kernel, by decide +kernel⟩, by decide +kernel⟩
theorem kY_X10_nextFace : kYV yX10_nextFace (Cond.code yX10_nextFace prog_1_method_43_code (2 : Nat) (Option.some Jvm.ClassFile.FieldType.int)) 1 := ⟨kw_1246, ⟨kw_1244, kw_1245⟩, kw_1, ⟨by decide +kernel, by decide +kernel⟩, by decide +kernel⟩
theorem kY_X10_faceAfter : kYV yX10_faceAfter (Cond.code yX10_faceAfter prog_1_method_44_code (5 : Nat) (Option.some Jvm.ClassFile.FieldType.int)) 2 := ⟨kw_1255, ⟨kw_1253, kw_1254⟩, kw_1, ⟨by decide +kernel, by decide +kernel⟩, by decide +kernel⟩
theorem kY_X10_throwsUntil : kYV yX10_throwsUntil (Cond.code yX10_throwsUntil prog_1_method_45_code (5 : Nat) (Option.some Jvm.ClassFile.FieldType.int)) 2 := ⟨kw_1262, ⟨kw_1260, kw_1261⟩, kw_1, ⟨by decide +kernel, by decide +kernel⟩, by decide +kernel⟩
theorem kY_X10_scoreAfter : kYV yX10_scoreAfter (Cond.code yX10_scoreAfter prog_1_method_46_code (5 : Nat) (Option.some Jvm.ClassFile.FieldType.int)) 3 := ⟨kw_1269, ⟨kw_1267, kw_1268⟩, kw_1, ⟨by decide +kernel, by decide +kernel⟩, by decide +kernel⟩
theorem kY_X10_throwsUntilSuspicious : kYV yX10_throwsUntilSuspicious (Cond.code yX10_throwsUntilSuspicious prog_1_method_47_code (4 : Nat) (Option.some Jvm.ClassFile.FieldType.int)) 2 := ⟨kw_1296, ⟨kw_1294, kw_1295⟩, kw_1, ⟨by decide +kernel, by decide +kernel⟩, by decide +kernel⟩
theorem kY_X10_penanceNow : kYV yX10_penanceNow (Cond.code yX10_penanceNow prog_1_method_48_code (1 : Nat) (Option.some Jvm.ClassFile.FieldType.int)) 0 := ⟨kw_743, ⟨kw_741, kw_742⟩, kw_1, ⟨by decide +kernel, by decide +kernel⟩, by decide +kernel⟩
theorem kY_X10_frequencyDifference : kYV yX10_frequencyDifference (Cond.code yX10_frequencyDifference prog_1_method_49_code (1 : Nat) (Option.some Jvm.ClassFile.FieldType.int)) 0 := ⟨kw_748, ⟨kw_746, kw_747⟩, kw_1, ⟨by decide +kernel, by decide +kernel⟩, by decide +kernel⟩
theorem kY_X10_totalDifference : kYV yX10_totalDifference (Cond.code yX10_totalDifference prog_1_method_50_code (3 : Nat) (Option.some Jvm.ClassFile.FieldType.int)) 0 := ⟨kw_756, ⟨kw_754, kw_755⟩, kw_1, ⟨by decide +kernel, by decide +kernel⟩, by decide +kernel⟩
theorem kY_X10_fairShare : kYV yX10_fairShare (Cond.code yX10_fairShare prog_1_method_51_code (2 : Nat) (Option.some Jvm.ClassFile.FieldType.float)) 0 := ⟨kw_769, ⟨kw_767, kw_768⟩, kw_1, ⟨by decide +kernel, by decide +kernel⟩, by decide +kernel⟩
theorem kY_X10_throwDie : kYV yX10_throwDie (Cond.code yX10_throwDie prog_1_method_52_code (4 : Nat) (Option.some Jvm.ClassFile.FieldType.int)) 3 := ⟨kw_1309, ⟨kw_1307, kw_1308⟩, kw_1, ⟨by decide +kernel, by decide +kernel⟩, by decide +kernel⟩
theorem kY_X10_audit : kYV yX10_audit (Cond.code yX10_audit prog_1_method_53_code (1 : Nat) (Option.some Jvm.ClassFile.FieldType.int)) 0 := ⟨kw_777, ⟨kw_775, kw_776⟩, kw_1, ⟨by decide +kernel, by decide +kernel⟩, by decide +kernel⟩
theorem kY_X10_absolve : kYV yX10_absolve (Cond.code yX10_absolve prog_1_method_54_code (1 : Nat) (Option.some Jvm.ClassFile.FieldType.int)) 0 := ⟨kw_1318, ⟨kw_1316, kw_1317⟩, kw_1, ⟨by decide +kernel, by decide +kernel⟩, by decide +kernel⟩
theorem kY_X10_forgive : kYV yX10_forgive (Cond.code yX10_forgive prog_1_method_55_code (2 : Nat) (Option.some Jvm.ClassFile.FieldType.int)) 1 := ⟨kw_1327, ⟨kw_1325, kw_1326⟩, kw_1, ⟨by decide +kernel, by decide +kernel⟩, by decide +kernel⟩
theorem kY_X10_setWeight : kYV yX10_setWeight (Cond.code yX10_setWeight prog_1_method_56_code (5 : Nat) (Option.some Jvm.ClassFile.FieldType.int)) 3 := ⟨kw_1335, ⟨kw_1333, kw_1334⟩, kw_1, ⟨by decide +kernel, by decide +kernel⟩, by decide +kernel⟩
theorem kY_X10_setSeed : kYV yX10_setSeed (Cond.code yX10_setSeed prog_1_method_57_code (3 : Nat) (Option.some Jvm.ClassFile.FieldType.int)) 1 := ⟨kw_1348, ⟨kw_1346, kw_1347⟩, kw_1, ⟨by decide +kernel, by decide +kernel⟩, by decide +kernel⟩
theorem kY_X10_setLimits : kYV yX10_setLimits (Cond.code yX10_setLimits prog_1_method_58_code (3 : Nat) (Option.some Jvm.ClassFile.FieldType.int)) 2 := ⟨kw_1356, ⟨kw_1354, kw_1355⟩, kw_1, ⟨by decide +kernel, by decide +kernel⟩, by decide +kernel⟩
theorem kY_X10_writeRecords : kYV yX10_writeRecords (Cond.code yX10_writeRecords prog_1_method_59_code (2 : Nat) (Option.some Jvm.ClassFile.FieldType.int)) 0 := ⟨kw_788, ⟨kw_786, kw_787⟩, kw_1, ⟨by decide +kernel, by decide +kernel⟩, by decide +kernel⟩
theorem kY_X10_writeFaces : kYV yX10_writeFaces (Cond.code yX10_writeFaces prog_1_method_60_code (3 : Nat) (Option.some Jvm.ClassFile.FieldType.int)) 1 := ⟨kw_1363, ⟨kw_1361, kw_1362⟩, kw_1, ⟨by decide +kernel, by decide +kernel⟩, by decide +kernel⟩
theorem kY_X10_outputByte : kYV yX10_outputByte (Cond.code yX10_outputByte prog_1_method_61_code (2 : Nat) (Option.some Jvm.ClassFile.FieldType.int)) 1 := ⟨kw_1370, ⟨kw_1368, kw_1369⟩, kw_1, ⟨by decide +kernel, by decide +kernel⟩, by decide +kernel⟩
theorem kY_X10_save : kYV yX10_save (Cond.code yX10_save prog_1_method_62_code (2 : Nat) (Option.some Jvm.ClassFile.FieldType.int)) 1 := ⟨kw_1379, ⟨kw_1377, kw_1378⟩, kw_1, ⟨by decide +kernel, by decide +kernel⟩, by decide +kernel⟩
theorem kY_X10_restore : kYV yX10_restore (Cond.code yX10_restore prog_1_method_63_code (2 : Nat) (Option.some Jvm.ClassFile.FieldType.int)) 1 := ⟨kw_1390, ⟨kw_1388, kw_1389⟩, kw_1, ⟨by decide +kernel, by decide +kernel⟩, by decide +kernel⟩
theorem kY_X10_undo : kYV yX10_undo (Cond.code yX10_undo prog_1_method_64_code (1 : Nat) (Option.some Jvm.ClassFile.FieldType.int)) 0 := ⟨kw_1398, ⟨kw_1396, kw_1397⟩, kw_1, ⟨by decide +kernel, by decide +kernel⟩, by decide +kernel⟩
theorem kY_X10_undoDepth : kYV yX10_undoDepth (Cond.code yX10_undoDepth prog_1_method_65_code (1 : Nat) (Option.some Jvm.ClassFile.FieldType.int)) 0 := ⟨kw_834, ⟨kw_832, kw_833⟩, kw_1, ⟨by decide +kernel, by decide +kernel⟩, by decide +kernel⟩
theorem kY_X10_writeRecordOf : kYV yX10_writeRecordOf (Cond.code yX10_writeRecordOf prog_1_method_66_code (3 : Nat) (Option.none : Option Jvm.ClassFile.FieldType)) 1 := ⟨kw_808, ⟨kw_807, kwp_22⟩, kw_1, ⟨by decide +kernel, by decide +kernel⟩, by decide +kernel⟩
theorem kY_X10_requireDie : kYV yX10_requireDie (Cond.code yX10_requireDie prog_1_method_67_code (2 : Nat) (Option.none : Option Jvm.ClassFile.FieldType)) 1 := ⟨kw_961, ⟨kw_960, kwp_24⟩, kw_1, ⟨by decide +kernel, by decide +kernel⟩, by decide +kernel⟩
theorem kY_X10_requirePlayer : kYV yX10_requirePlayer (Cond.code yX10_requirePlayer prog_1_method_68_code (2 : Nat) (Option.none : Option Jvm.ClassFile.FieldType)) 1 := ⟨kw_1032, ⟨kw_1031, kwp_26⟩, kw_1, ⟨by decide +kernel, by decide +kernel⟩, by decide +kernel⟩
theorem kY_X10_requirePair : kYV yX10_requirePair (Cond.code yX10_requirePair prog_1_method_69_code (3 : Nat) (Option.none : Option Jvm.ClassFile.FieldType)) 2 := ⟨kw_1153, ⟨kw_1152, kwp_29⟩, kw_1, ⟨by decide +kernel, by decide +kernel⟩, by decide +kernel⟩
theorem kY_X10_requireThrow : kYV yX10_requireThrow (Cond.code yX10_requireThrow prog_1_method_70_code (2 : Nat) (Option.none : Option Jvm.ClassFile.FieldType)) 1 := ⟨kw_1059, ⟨kw_1058, kwp_27⟩, kw_1, ⟨by decide +kernel, by decide +kernel⟩, by decide +kernel⟩
theorem kY_X10_requireOffence : kYV yX10_requireOffence (Cond.code yX10_requireOffence prog_1_method_71_code (2 : Nat) (Option.none : Option Jvm.ClassFile.FieldType)) 1 := ⟨kw_1218, ⟨kw_1217, kwp_30⟩, kw_1, ⟨by decide +kernel, by decide +kernel⟩, by decide +kernel⟩
theorem kY_X10_requireFace : kYV yX10_requireFace (Cond.code yX10_requireFace prog_1_method_72_code (3 : Nat) (Option.none : Option Jvm.ClassFile.FieldType)) 2 := ⟨kw_992, ⟨kw_991, kwp_25⟩, kw_1, ⟨by decide +kernel, by decide +kernel⟩, by decide +kernel⟩
theorem kY_X10_requireSlot : kYS yX10_requireSlot (Cond.code yX10_requireSlot prog_1_method_73_code (1 : Nat) (Option.none : Option Jvm.ClassFile.FieldType)) 1 := ⟨kw_1382, kw_1381, kw_1, ⟨by decide +kernel, by decide +kernel⟩, by decide +kernel⟩
theorem kY_X10_requireIndex : kYS yX10_requireIndex (Cond.code yX10_requireIndex prog_1_method_74_code (2 : Nat) (Option.none : Option Jvm.ClassFile.FieldType)) 2 := ⟨kw_964, kw_963, kw_1, ⟨by decide +kernel, by decide +kernel⟩, by decide +kernel⟩
theorem kY_X10_requireRange : kYS yX10_requireRange (Cond.code yX10_requireRange prog_1_method_75_code (3 : Nat) (Option.none : Option Jvm.ClassFile.FieldType)) 3 := ⟨kw_925, kw_924, kw_1, ⟨by decide +kernel, by decide +kernel⟩, by decide +kernel⟩
theorem kY_X10_at : kYS yX10_at (Cond.code yX10_at prog_1_method_76_code (2 : Nat) (Option.some Jvm.ClassFile.FieldType.int)) 2 := ⟨kw_465, kw_464, kw_1, ⟨by decide +kernel, by decide +kernel⟩, by decide +kernel⟩
theorem kY_X10_put : kYS yX10_put (Cond.code yX10_put prog_1_method_77_code (3 : Nat) (Option.none : Option Jvm.ClassFile.FieldType)) 3 := ⟨kw_323, kw_322, kw_1, ⟨by decide +kernel, by decide +kernel⟩, by decide +kernel⟩
theorem kY_X10_copyRow : kYS yX10_copyRow (Cond.code yX10_copyRow prog_1_method_78_code (2 : Nat) (Option.none : Option Jvm.ClassFile.FieldType)) 2 := ⟨kw_632, kw_631, kw_1, ⟨by decide +kernel, by decide +kernel⟩, by decide +kernel⟩
theorem kY_X10_sumOf : kYS yX10_sumOf (Cond.code yX10_sumOf prog_1_method_79_code (6 : Nat) (Option.some Jvm.ClassFile.FieldType.int)) 3 := ⟨kw_506, kw_505, kw_1, ⟨by decide +kernel, by decide +kernel⟩, by decide +kernel⟩
theorem kY_X10_greatestCell : kYS yX10_greatestCell (Cond.code yX10_greatestCell prog_1_method_80_code (7 : Nat) (Option.some Jvm.ClassFile.FieldType.int)) 3 := ⟨kw_1020, kw_1019, kw_1, ⟨by decide +kernel, by decide +kernel⟩, by decide +kernel⟩
theorem kY_X10_testScore : kYS yX10_testScore (Cond.code yX10_testScore prog_1_method_81_code (8 : Nat) (Option.some Jvm.ClassFile.FieldType.int)) 3 := ⟨kw_534, kw_533, kw_1, ⟨by decide +kernel, by decide +kernel⟩, by decide +kernel⟩
theorem kY_X10_nextSeed : kYS yX10_nextSeed (Cond.code yX10_nextSeed prog_1_method_82_code (1 : Nat) (Option.some Jvm.ClassFile.FieldType.int)) 1 := ⟨kw_493, kw_492, kw_1, ⟨by decide +kernel, by decide +kernel⟩, by decide +kernel⟩
theorem kY_X10_pairOf : kYS yX10_pairOf (Cond.code yX10_pairOf prog_1_method_83_code (2 : Nat) (Option.some Jvm.ClassFile.FieldType.int)) 2 := ⟨kw_483, kw_482, kw_1, ⟨by decide +kernel, by decide +kernel⟩, by decide +kernel⟩
theorem kY_X10_playerOf : kYS yX10_playerOf (Cond.code yX10_playerOf prog_1_method_84_code (1 : Nat) (Option.some Jvm.ClassFile.FieldType.int)) 1 := ⟨kw_617, kw_616, kw_1, ⟨by decide +kernel, by decide +kernel⟩, by decide +kernel⟩
theorem kY_X10_dieOf : kYS yX10_dieOf (Cond.code yX10_dieOf prog_1_method_85_code (1 : Nat) (Option.some Jvm.ClassFile.FieldType.int)) 1 := ⟨kw_490, kw_489, kw_1, ⟨by decide +kernel, by decide +kernel⟩, by decide +kernel⟩
theorem kY_X10_cellOf : kYS yX10_cellOf (Cond.code yX10_cellOf prog_1_method_86_code (2 : Nat) (Option.some Jvm.ClassFile.FieldType.int)) 2 := ⟨kw_440, kw_439, kw_1, ⟨by decide +kernel, by decide +kernel⟩, by decide +kernel⟩
theorem kY_X11_init : kYI yX11_init (Cond.code yX11_init prog_13_method_1_code (1 : Nat) (Option.none : Option Jvm.ClassFile.FieldType)) 0 := ⟨kw_1409, ⟨kw_1408, rfl⟩, kw_19, ⟨by decide +kernel, by decide +kernel⟩, by decide +kernel⟩
theorem kY_X11_layInput : kYV yX11_layInput (Cond.code yX11_layInput prog_13_method_2_code (3 : Nat) (Option.none : Option Jvm.ClassFile.FieldType)) 1 := ⟨kw_1415, ⟨kw_1414, kwp_31⟩, kw_19, ⟨by decide +kernel, by decide +kernel⟩, by decide +kernel⟩
theorem kY_X11_thrown : kYV yX11_thrown (Cond.code yX11_thrown prog_13_method_3_code (1 : Nat) (Option.some Jvm.ClassFile.FieldType.int)) 0 := ⟨kw_1671, ⟨kw_1669, kw_1670⟩, kw_19, ⟨by decide +kernel, by decide +kernel⟩, by decide +kernel⟩
theorem kY_X11_refuses : kYV yX11_refuses (Cond.code yX11_refuses prog_13_method_4_code (3 : Nat) (Option.some Jvm.ClassFile.FieldType.boolean)) 2 := ⟨kw_1679, ⟨kw_1678, kwp_57⟩, kw_19, ⟨by decide +kernel, by decide +kernel⟩, by decide +kernel⟩
theorem kY_X11_isBetween : kYS yX11_isBetween (Cond.code yX11_isBetween prog_13_method_5_code (3 : Nat) (Option.some Jvm.ClassFile.FieldType.boolean)) 3 := ⟨kw_1435, kw_1434, kw_19, ⟨by decide +kernel, by decide +kernel⟩, by decide +kernel⟩
theorem kY_X11_copyRow : kYS yX11_copyRow (Cond.code yX11_copyRow prog_13_method_6_code (5 : Nat) (Option.none : Option Jvm.ClassFile.FieldType)) 4 := ⟨kw_1602, kw_1601, kw_19, ⟨by decide +kernel, by decide +kernel⟩, by decide +kernel⟩
theorem kY_X11_ofDie : kYS yX11_ofDie (Cond.code yX11_ofDie prog_13_method_7_code (1 : Nat) (Option.some Jvm.ClassFile.FieldType.int)) 1 := ⟨kw_1478, kw_1477, kw_19, ⟨by decide +kernel, by decide +kernel⟩, by decide +kernel⟩
theorem kY_X11_ofThrow : kYS yX11_ofThrow (Cond.code yX11_ofThrow prog_13_method_8_code (1 : Nat) (Option.some Jvm.ClassFile.FieldType.int)) 1 := ⟨kw_1524, kw_1523, kw_19, ⟨by decide +kernel, by decide +kernel⟩, by decide +kernel⟩
theorem kY_X11_ofOffence : kYS yX11_ofOffence (Cond.code yX11_ofOffence prog_13_method_9_code (1 : Nat) (Option.some Jvm.ClassFile.FieldType.int)) 1 := ⟨kw_1558, kw_1557, kw_19, ⟨by decide +kernel, by decide +kernel⟩, by decide +kernel⟩
theorem kY_X11_facesOf : kYS yX11_facesOf (Cond.code yX11_facesOf prog_13_method_10_code (2 : Nat) (Option.some Jvm.ClassFile.FieldType.int)) 2 := ⟨kw_1484, kw_1483, kw_19, ⟨by decide +kernel, by decide +kernel⟩, by decide +kernel⟩
theorem kY_X11_weight : kYS yX11_weight (Cond.code yX11_weight prog_13_method_11_code (3 : Nat) (Option.some Jvm.ClassFile.FieldType.int)) 3 := ⟨kw_1487, kw_1486, kw_19, ⟨by decide +kernel, by decide +kernel⟩, by decide +kernel⟩
theorem kY_X11_allWeights : kYS yX11_allWeights (Cond.code yX11_allWeights prog_13_method_12_code (4 : Nat) (Option.some Jvm.ClassFile.FieldType.int)) 2 := ⟨kw_1481, kw_1480, kw_19, ⟨by decide +kernel, by decide +kernel⟩, by decide +kernel⟩
theorem kY_X11_nextSeed : kYS yX11_nextSeed (Cond.code yX11_nextSeed prog_13_method_13_code (1 : Nat) (Option.some Jvm.ClassFile.FieldType.int)) 1 := ⟨kw_1514, kw_1513, kw_19, ⟨by decide +kernel, by decide +kernel⟩, by decide +kernel⟩
theorem kY_X11_faceBy : kYS yX11_faceBy (Cond.code yX11_faceBy prog_13_method_14_code (5 : Nat) (Option.some Jvm.ClassFile.FieldType.int)) 3 := ⟨kw_1518, kw_1517, kw_19, ⟨by decide +kernel, by decide +kernel⟩, by decide +kernel⟩
theorem kY_X11_enter : kYS yX11_enter (Cond.code yX11_enter prog_13_method_15_code (6 : Nat) (Option.none : Option Jvm.ClassFile.FieldType)) 5 := ⟨kw_1521, kw_1520, kw_19, ⟨by decide +kernel, by decide +kernel⟩, by decide +kernel⟩
theorem kY_X11_throwMany : kYS yX11_throwMany (Cond.code yX11_throwMany prog_13_method_16_code (8 : Nat) (Option.some Jvm.ClassFile.FieldType.int)) 5 := ⟨kw_1511, kw_1510, kw_19, ⟨by decide +kernel, by decide +kernel⟩, by decide +kernel⟩
theorem kY_X11_isOf : kYS yX11_isOf (Cond.code yX11_isOf prog_13_method_17_code (4 : Nat) (Option.some Jvm.ClassFile.FieldType.boolean)) 4 := ⟨kw_1544, kw_1543, kw_19, ⟨by decide +kernel, by decide +kernel⟩, by decide +kernel⟩
theorem kY_X11_ofPair : kYS yX11_ofPair (Cond.code yX11_ofPair prog_13_method_18_code (5 : Nat) (Option.some Jvm.ClassFile.FieldType.int)) 3 := ⟨kw_1582, kw_1581, kw_19, ⟨by decide +kernel, by decide +kernel⟩, by decide +kernel⟩
theorem kY_X11_countPair : kYV yX11_countPair (Cond.code yX11_countPair prog_13_method_19_code (5 : Nat) (Option.none : Option Jvm.ClassFile.FieldType)) 3 := ⟨kw_1541, ⟨kw_1540, kwp_51⟩, kw_19, ⟨by decide +kernel, by decide +kernel⟩, by decide +kernel⟩
theorem kY_X11_scoreOfCounts : kYV yX11_scoreOfCounts (Cond.code yX11_scoreOfCounts prog_13_method_20_code (5 : Nat) (Option.some Jvm.ClassFile.FieldType.int)) 1 := ⟨kw_1552, ⟨kw_1551, kwp_53⟩, kw_19, ⟨by decide +kernel, by decide +kernel⟩, by decide +kernel⟩
theorem kY_X11_scoreOf : kYV yX11_scoreOf (Cond.code yX11_scoreOf prog_13_method_21_code (4 : Nat) (Option.some Jvm.ClassFile.FieldType.int)) 3 := ⟨kw_1562, ⟨kw_1561, kwp_54⟩, kw_19, ⟨by decide +kernel, by decide +kernel⟩, by decide +kernel⟩
theorem kY_X11_isBad : kYV yX11_isBad (Cond.code yX11_isBad prog_13_method_22_code (3 : Nat) (Option.some Jvm.ClassFile.FieldType.boolean)) 2 := ⟨kw_1548, ⟨kw_1547, kwp_52⟩, kw_19, ⟨by decide +kernel, by decide +kernel⟩, by decide +kernel⟩
theorem kY_X11_suspects : kYV yX11_suspects (Cond.code yX11_suspects prog_13_method_23_code (4 : Nat) (Option.some Jvm.ClassFile.FieldType.boolean)) 3 := ⟨kw_1537, ⟨kw_1536, kwp_50⟩, kw_19, ⟨by decide +kernel, by decide +kernel⟩, by decide +kernel⟩
theorem kY_X11_hasOffence : kYS yX11_hasOffence (Cond.code yX11_hasOffence prog_13_method_24_code (4 : Nat) (Option.some Jvm.ClassFile.FieldType.boolean)) 3 := ⟨kw_1555, kw_1554, kw_19, ⟨by decide +kernel, by decide +kernel⟩, by decide +kernel⟩
theorem kY_X11_isAhead : kYS yX11_isAhead (Cond.code yX11_isAhead prog_13_method_25_code (5 : Nat) (Option.some Jvm.ClassFile.FieldType.boolean)) 5 := ⟨kw_1568, kw_1567, kw_19, ⟨by decide +kernel, by decide +kernel⟩, by decide +kernel⟩
theorem kY_X11_layOffence : kYS yX11_layOffence (Cond.code yX11_layOffence prog_13_method_26_code (6 : Nat) (Option.none : Option Jvm.ClassFile.FieldType)) 4 := ⟨kw_1565, kw_1564, kw_19, ⟨by decide +kernel, by decide +kernel⟩, by decide +kernel⟩
theorem kY_X11_holdAudit : kYV yX11_holdAudit (Cond.code yX11_holdAudit prog_13_method_27_code (5 : Nat) (Option.some Jvm.ClassFile.FieldType.int)) 1 := ⟨kw_1533, ⟨kw_1532, kwp_49⟩, kw_19, ⟨by decide +kernel, by decide +kernel⟩, by decide +kernel⟩
theorem kY_X11_dropOffence : kYS yX11_dropOffence (Cond.code yX11_dropOffence prog_13_method_28_code (3 : Nat) (Option.none : Option Jvm.ClassFile.FieldType)) 2 := ⟨kw_1585, kw_1584, kw_19, ⟨by decide +kernel, by decide +kernel⟩, by decide +kernel⟩
theorem kY_X11_dropThrow : kYS yX11_dropThrow (Cond.code yX11_dropThrow prog_13_method_29_code (3 : Nat) (Option.none : Option Jvm.ClassFile.FieldType)) 2 := ⟨kw_1588, kw_1587, kw_19, ⟨by decide +kernel, by decide +kernel⟩, by decide +kernel⟩
theorem kY_X11_penance : kYS yX11_penance (Cond.code yX11_penance prog_13_method_30_code (3 : Nat) (Option.some Jvm.ClassFile.FieldType.int)) 1 := ⟨kw_1579, kw_1578, kw_19, ⟨by decide +kernel, by decide +kernel⟩, by decide +kernel⟩
theorem kY_X11_absolveFirst : kYS yX11_absolveFirst (Cond.code yX11_absolveFirst prog_13_method_31_code (6 : Nat) (Option.some Jvm.ClassFile.FieldType.int)) 1 := ⟨kw_1576, kw_1575, kw_19, ⟨by decide +kernel, by decide +kernel⟩, by decide +kernel⟩
theorem kY_X11_offencesBy : kYS yX11_offencesBy (Cond.code yX11_offencesBy prog_13_method_32_code (4 : Nat) (Option.some Jvm.ClassFile.FieldType.int)) 2 := ⟨kw_1599, kw_1598, kw_19, ⟨by decide +kernel, by decide +kernel⟩, by decide +kernel⟩
theorem kY_X11_forgiveAll : kYS yX11_forgiveAll (Cond.code yX11_forgiveAll prog_13_method_33_code (4 : Nat) (Option.some Jvm.ClassFile.FieldType.int)) 2 := ⟨kw_1596, kw_1595, kw_19, ⟨by decide +kernel, by decide +kernel⟩, by decide +kernel⟩
theorem kY_X11_totalOf : kYS yX11_totalOf (Cond.code yX11_totalOf prog_13_method_34_code (4 : Nat) (Option.some Jvm.ClassFile.FieldType.int)) 2 := ⟨kw_1815, kw_1814, kw_19, ⟨by decide +kernel, by decide +kernel⟩, by decide +kernel⟩
theorem kY_X11_throwsBy : kYS yX11_throwsBy (Cond.code yX11_throwsBy prog_13_method_35_code (4 : Nat) (Option.some Jvm.ClassFile.FieldType.int)) 2 := ⟨kw_1808, kw_1807, kw_19, ⟨by decide +kernel, by decide +kernel⟩, by decide +kernel⟩
theorem kY_X11_rank : kYS yX11_rank (Cond.code yX11_rank prog_13_method_36_code (6 : Nat) (Option.some Jvm.ClassFile.FieldType.int)) 2 := ⟨kw_1826, kw_1825, kw_19, ⟨by decide +kernel, by decide +kernel⟩, by decide +kernel⟩
theorem kY_X11_appendWord : kYV yX11_appendWord (Cond.code yX11_appendWord prog_13_method_37_code (3 : Nat) (Option.none : Option Jvm.ClassFile.FieldType)) 1 := ⟨kw_1683, ⟨kw_1682, kwp_58⟩, kw_19, ⟨by decide +kernel, by decide +kernel⟩, by decide +kernel⟩
theorem kY_X11_appendInput : kYV yX11_appendInput (Cond.code yX11_appendInput prog_13_method_38_code (6 : Nat) (Option.some Jvm.ClassFile.FieldType.int)) 5 := ⟨kw_1675, ⟨kw_1673, kw_1674⟩, kw_19, ⟨by decide +kernel, by decide +kernel⟩, by decide +kernel⟩
theorem kY_X11_truncateInput : kYV yX11_truncateInput (Cond.code yX11_truncateInput prog_13_method_39_code (2 : Nat) (Option.some Jvm.ClassFile.FieldType.int)) 1 := ⟨kw_1687, ⟨kw_1685, kw_1686⟩, kw_19, ⟨by decide +kernel, by decide +kernel⟩, by decide +kernel⟩
theorem kY_X11_errorCode : kYV yX11_errorCode (Cond.code yX11_errorCode prog_13_method_40_code (1 : Nat) (Option.some Jvm.ClassFile.FieldType.int)) 0 := ⟨kw_1695, ⟨kw_1693, kw_1694⟩, kw_19, ⟨by decide +kernel, by decide +kernel⟩, by decide +kernel⟩
theorem kY_X11_errorPosition : kYV yX11_errorPosition (Cond.code yX11_errorPosition prog_13_method_41_code (1 : Nat) (Option.some Jvm.ClassFile.FieldType.int)) 0 := ⟨kw_1699, ⟨kw_1697, kw_1698⟩, kw_19, ⟨by decide +kernel, by decide +kernel⟩, by decide +kernel⟩
theorem kY_X11_byteAt : kYV yX11_byteAt (Cond.code yX11_byteAt prog_13_method_42_code (2 : Nat) (Option.some Jvm.ClassFile.FieldType.int)) 1 := ⟨kw_1429, ⟨kw_1428, kwp_34⟩, kw_19, ⟨by decide +kernel, by decide +kernel⟩, by decide +kernel⟩
theorem kY_X11_isLetter : kYS yX11_isLetter (Cond.code yX11_isLetter prog_13_method_43_code (1 : Nat) (Option.some Jvm.ClassFile.FieldType.boolean)) 1 := ⟨kw_1432, kw_1431, kw_19, ⟨by decide +kernel, by decide +kernel⟩, by decide +kernel⟩
theorem kY_X11_advance : kYV yX11_advance (Cond.code yX11_advance prog_13_method_44_code (2 : Nat) (Option.none : Option Jvm.ClassFile.FieldType)) 0 := ⟨kw_1425, ⟨kw_1424, kwp_33⟩, kw_19, ⟨by decide +kernel, by decide +kernel⟩, by decide +kernel⟩
theorem kY_X11_is : kYV yX11_is (Cond.code yX11_is prog_13_method_45_code (3 : Nat) (Option.some Jvm.ClassFile.FieldType.boolean)) 1 := ⟨kw_1441, ⟨kw_1440, kwp_35⟩, kw_19, ⟨by decide +kernel, by decide +kernel⟩, by decide +kernel⟩
theorem kY_X11_check : kYV yX11_check (Cond.code yX11_check prog_13_method_46_code (3 : Nat) (Option.some Jvm.ClassFile.FieldType.boolean)) 2 := ⟨kw_1445, ⟨kw_1444, kwp_36⟩, kw_19, ⟨by decide +kernel, by decide +kernel⟩, by decide +kernel⟩
theorem kY_X11_next : kYV yX11_next (Cond.code yX11_next prog_13_method_47_code (1 : Nat) (Option.none : Option Jvm.ClassFile.FieldType)) 0 := ⟨kw_1449, ⟨kw_1448, kwp_37⟩, kw_19, ⟨by decide +kernel, by decide +kernel⟩, by decide +kernel⟩
theorem kY_X11_look : kYV yX11_look (Cond.code yX11_look prog_13_method_48_code (3 : Nat) (Option.some Jvm.ClassFile.FieldType.int)) 2 := ⟨kw_1458, ⟨kw_1457, kwp_39⟩, kw_19, ⟨by decide +kernel, by decide +kernel⟩, by decide +kernel⟩
theorem kY_X11_number : kYV yX11_number (Cond.code yX11_number prog_13_method_49_code (4 : Nat) (Option.some Jvm.ClassFile.FieldType.int)) 2 := ⟨kw_1454, ⟨kw_1453, kwp_38⟩, kw_19, ⟨by decide +kernel, by decide +kernel⟩, by decide +kernel⟩
theorem kY_X11_semicolon : kYV yX11_semicolon (Cond.code yX11_semicolon prog_13_method_50_code (1 : Nat) (Option.none : Option Jvm.ClassFile.FieldType)) 0 := ⟨kw_1466, ⟨kw_1465, kwp_41⟩, kw_19, ⟨by decide +kernel, by decide +kernel⟩, by decide +kernel⟩
theorem kY_X11_finish : kYV yX11_finish (Cond.code yX11_finish prog_13_method_51_code (1 : Nat) (Option.none : Option Jvm.ClassFile.FieldType)) 0 := ⟨kw_1462, ⟨kw_1461, kwp_40⟩, kw_19, ⟨by decide +kernel, by decide +kernel⟩, by decide +kernel⟩
theorem kY_X11_nameFrom : kYV yX11_nameFrom (Cond.code yX11_nameFrom prog_13_method_52_code (5 : Nat) (Option.some Jvm.ClassFile.FieldType.int)) 2 := ⟨kw_1496, ⟨kw_1495, kwp_45⟩, kw_19, ⟨by decide +kernel, by decide +kernel⟩, by decide +kernel⟩
theorem kY_X11_named : kYS yX11_named (Cond.code yX11_named prog_13_method_53_code (3 : Nat) (Option.some Jvm.ClassFile.FieldType.int)) 2 := ⟨kw_1499, kw_1498, kw_19, ⟨by decide +kernel, by decide +kernel⟩, by decide +kernel⟩
theorem kY_X11_readDie : kYV yX11_readDie (Cond.code yX11_readDie prog_13_method_54_code (4 : Nat) (Option.none : Option Jvm.ClassFile.FieldType)) 0 := ⟨kw_1475, ⟨kw_1474, kwp_43⟩, kw_19, ⟨by decide +kernel, by decide +kernel⟩, by decide +kernel⟩
theorem kY_X11_readPlayer : kYV yX11_readPlayer (Cond.code yX11_readPlayer prog_13_method_55_code (2 : Nat) (Option.none : Option Jvm.ClassFile.FieldType)) 0 := ⟨kw_1492, ⟨kw_1491, kwp_44⟩, kw_19, ⟨by decide +kernel, by decide +kernel⟩, by decide +kernel⟩
theorem kY_X11_player : kYV yX11_player (Cond.code yX11_player prog_13_method_56_code (2 : Nat) (Option.some Jvm.ClassFile.FieldType.int)) 0 := ⟨kw_1508, ⟨kw_1507, kwp_47⟩, kw_19, ⟨by decide +kernel, by decide +kernel⟩, by decide +kernel⟩
theorem kY_X11_readThrow : kYV yX11_readThrow (Cond.code yX11_readThrow prog_13_method_57_code (4 : Nat) (Option.none : Option Jvm.ClassFile.FieldType)) 0 := ⟨kw_1504, ⟨kw_1503, kwp_46⟩, kw_19, ⟨by decide +kernel, by decide +kernel⟩, by decide +kernel⟩
theorem kY_X11_readAudit : kYV yX11_readAudit (Cond.code yX11_readAudit prog_13_method_58_code (1 : Nat) (Option.none : Option Jvm.ClassFile.FieldType)) 0 := ⟨kw_1529, ⟨kw_1528, kwp_48⟩, kw_19, ⟨by decide +kernel, by decide +kernel⟩, by decide +kernel⟩
theorem kY_X11_readAbsolve : kYV yX11_readAbsolve (Cond.code yX11_readAbsolve prog_13_method_59_code (1 : Nat) (Option.none : Option Jvm.ClassFile.FieldType)) 0 := ⟨kw_1573, ⟨kw_1572, kwp_55⟩, kw_19, ⟨by decide +kernel, by decide +kernel⟩, by decide +kernel⟩
theorem kY_X11_readForgive : kYV yX11_readForgive (Cond.code yX11_readForgive prog_13_method_60_code (2 : Nat) (Option.none : Option Jvm.ClassFile.FieldType)) 0 := ⟨kw_1593, ⟨kw_1592, kwp_56⟩, kw_19, ⟨by decide +kernel, by decide +kernel⟩, by decide +kernel⟩
theorem kY_X11_readStatement : kYV yX11_readStatement (Cond.code yX11_readStatement prog_13_method_61_code (1 : Nat) (Option.none : Option Jvm.ClassFile.FieldType)) 0 := ⟨kw_1470, ⟨kw_1469, kwp_42⟩, kw_19, ⟨by decide +kernel, by decide +kernel⟩, by decide +kernel⟩
theorem kY_X11_read : kYV yX11_read (Cond.code yX11_read prog_13_method_62_code (2 : Nat) (Option.none : Option Jvm.ClassFile.FieldType)) 0 := ⟨kw_1421, ⟨kw_1420, kwp_32⟩, kw_19, ⟨by decide +kernel, by decide +kernel⟩, by decide +kernel⟩
theorem kY_X11_load : kYV yX11_load (Cond.code yX11_load prog_13_method_63_code (1 : Nat) (Option.some Jvm.ClassFile.FieldType.int)) 0 := ⟨kw_1703, ⟨kw_1701, kw_1702⟩, kw_19, ⟨by decide +kernel, by decide +kernel⟩, by decide +kernel⟩
theorem kY_X11_remember : kYV yX11_remember (Cond.code yX11_remember prog_13_method_64_code (1 : Nat) (Option.none : Option Jvm.ClassFile.FieldType)) 0 := ⟨kw_1707, ⟨kw_1706, kwp_60⟩, kw_19, ⟨by decide +kernel, by decide +kernel⟩, by decide +kernel⟩
theorem kY_X11_undo : kYV yX11_undo (Cond.code yX11_undo prog_13_method_65_code (1 : Nat) (Option.some Jvm.ClassFile.FieldType.int)) 0 := ⟨kw_1711, ⟨kw_1709, kw_1710⟩, kw_19, ⟨by decide +kernel, by decide +kernel⟩, by decide +kernel⟩
theorem kY_X11_undoDepth : kYV yX11_undoDepth (Cond.code yX11_undoDepth prog_13_method_66_code (1 : Nat) (Option.some Jvm.ClassFile.FieldType.int)) 0 := ⟨kw_1715, ⟨kw_1713, kw_1714⟩, kw_19, ⟨by decide +kernel, by decide +kernel⟩, by decide +kernel⟩
theorem kY_X11_noNumber : kYV yX11_noNumber (Cond.code yX11_noNumber prog_13_method_67_code (4 : Nat) (Option.some Jvm.ClassFile.FieldType.boolean)) 3 := ⟨kw_1691, ⟨kw_1690, kwp_59⟩, kw_19, ⟨by decide +kernel, by decide +kernel⟩, by decide +kernel⟩
theorem kY_X11_noDie : kYV yX11_noDie (Cond.code yX11_noDie prog_13_method_68_code (2 : Nat) (Option.some Jvm.ClassFile.FieldType.boolean)) 1 := ⟨kw_1747, ⟨kw_1746, kwp_61⟩, kw_19, ⟨by decide +kernel, by decide +kernel⟩, by decide +kernel⟩
theorem kY_X11_noPlayer : kYV yX11_noPlayer (Cond.code yX11_noPlayer prog_13_method_69_code (2 : Nat) (Option.some Jvm.ClassFile.FieldType.boolean)) 1 := ⟨kw_1771, ⟨kw_1770, kwp_63⟩, kw_19, ⟨by decide +kernel, by decide +kernel⟩, by decide +kernel⟩
theorem kY_X11_noPair : kYV yX11_noPair (Cond.code yX11_noPair prog_13_method_70_code (3 : Nat) (Option.some Jvm.ClassFile.FieldType.boolean)) 2 := ⟨kw_1846, ⟨kw_1845, kwp_66⟩, kw_19, ⟨by decide +kernel, by decide +kernel⟩, by decide +kernel⟩
theorem kY_X11_noThrow : kYV yX11_noThrow (Cond.code yX11_noThrow prog_13_method_71_code (2 : Nat) (Option.some Jvm.ClassFile.FieldType.boolean)) 1 := ⟨kw_1789, ⟨kw_1788, kwp_65⟩, kw_19, ⟨by decide +kernel, by decide +kernel⟩, by decide +kernel⟩
theorem kY_X11_noOffence : kYV yX11_noOffence (Cond.code yX11_noOffence prog_13_method_72_code (2 : Nat) (Option.some Jvm.ClassFile.FieldType.boolean)) 1 := ⟨kw_1898, ⟨kw_1897, kwp_69⟩, kw_19, ⟨by decide +kernel, by decide +kernel⟩, by decide +kernel⟩
theorem kY_X11_out : kYV yX11_out (Cond.code yX11_out prog_13_method_73_code (4 : Nat) (Option.some Jvm.ClassFile.FieldType.boolean)) 3 := ⟨kw_1755, ⟨kw_1754, kwp_62⟩, kw_19, ⟨by decide +kernel, by decide +kernel⟩, by decide +kernel⟩
theorem kY_X11_seed : kYV yX11_seed (Cond.code yX11_seed prog_13_method_74_code (1 : Nat) (Option.some Jvm.ClassFile.FieldType.int)) 0 := ⟨kw_1719, ⟨kw_1717, kw_1718⟩, kw_19, ⟨by decide +kernel, by decide +kernel⟩, by decide +kernel⟩
theorem kY_X11_minimum : kYV yX11_minimum (Cond.code yX11_minimum prog_13_method_75_code (1 : Nat) (Option.some Jvm.ClassFile.FieldType.int)) 0 := ⟨kw_1723, ⟨kw_1721, kw_1722⟩, kw_19, ⟨by decide +kernel, by decide +kernel⟩, by decide +kernel⟩
theorem kY_X11_threshold : kYV yX11_threshold (Cond.code yX11_threshold prog_13_method_76_code (1 : Nat) (Option.some Jvm.ClassFile.FieldType.int)) 0 := ⟨kw_1727, ⟨kw_1725, kw_1726⟩, kw_19, ⟨by decide +kernel, by decide +kernel⟩, by decide +kernel⟩
theorem kY_X11_dieCount : kYV yX11_dieCount (Cond.code yX11_dieCount prog_13_method_77_code (1 : Nat) (Option.some Jvm.ClassFile.FieldType.int)) 0 := ⟨kw_1731, ⟨kw_1729, kw_1730⟩, kw_19, ⟨by decide +kernel, by decide +kernel⟩, by decide +kernel⟩
theorem kY_X11_playerCount : kYV yX11_playerCount (Cond.code yX11_playerCount prog_13_method_78_code (1 : Nat) (Option.some Jvm.ClassFile.FieldType.int)) 0 := ⟨kw_1735, ⟨kw_1733, kw_1734⟩, kw_19, ⟨by decide +kernel, by decide +kernel⟩, by decide +kernel⟩
theorem kY_X11_throwCount : kYV yX11_throwCount (Cond.code yX11_throwCount prog_13_method_79_code (1 : Nat) (Option.some Jvm.ClassFile.FieldType.int)) 0 := ⟨kw_1739, ⟨kw_1737, kw_1738⟩, kw_19, ⟨by decide +kernel, by decide +kernel⟩, by decide +kernel⟩
theorem kY_X11_faces : kYV yX11_faces (Cond.code yX11_faces prog_13_method_80_code (2 : Nat) (Option.some Jvm.ClassFile.FieldType.int)) 1 := ⟨kw_1743, ⟨kw_1741, kw_1742⟩, kw_19, ⟨by decide +kernel, by decide +kernel⟩, by decide +kernel⟩
theorem kY_X11_weightOf : kYV yX11_weightOf (Cond.code yX11_weightOf prog_13_method_81_code (3 : Nat) (Option.some Jvm.ClassFile.FieldType.int)) 2 := ⟨kw_1751, ⟨kw_1749, kw_1750⟩, kw_19, ⟨by decide +kernel, by decide +kernel⟩, by decide +kernel⟩
theorem kY_X11_isBalanced : kYV yX11_isBalanced (Cond.code yX11_isBalanced prog_13_method_82_code (3 : Nat) (Option.some Jvm.ClassFile.FieldType.boolean)) 1 := ⟨kw_1759, ⟨kw_1757, kw_1758⟩, kw_19, ⟨by decide +kernel, by decide +kernel⟩, by decide +kernel⟩
theorem kY_X11_heaviestFace : kYV yX11_heaviestFace (Cond.code yX11_heaviestFace prog_13_method_83_code (4 : Nat) (Option.some Jvm.ClassFile.FieldType.int)) 1 := ⟨kw_1763, ⟨kw_1761, kw_1762⟩, kw_19, ⟨by decide +kernel, by decide +kernel⟩, by decide +kernel⟩
theorem kY_X11_letterOf : kYS yX11_letterOf (Cond.code yX11_letterOf prog_13_method_84_code (4 : Nat) (Option.some Jvm.ClassFile.FieldType.int)) 2 := ⟨kw_1777, kw_1776, kw_19, ⟨by decide +kernel, by decide +kernel⟩, by decide +kernel⟩
theorem kY_X11_lettersOf : kYS yX11_lettersOf (Cond.code yX11_lettersOf prog_13_method_85_code (2 : Nat) (Option.some Jvm.ClassFile.FieldType.int)) 1 := ⟨kw_1774, kw_1773, kw_19, ⟨by decide +kernel, by decide +kernel⟩, by decide +kernel⟩
theorem kY_X11_nameByte : kYV yX11_nameByte (Cond.code yX11_nameByte prog_13_method_86_code (3 : Nat) (Option.some Jvm.ClassFile.FieldType.int)) 2 := ⟨kw_1767, ⟨kw_1765, kw_1766⟩, kw_19, ⟨by decide +kernel, by decide +kernel⟩, by decide +kernel⟩
theorem kY_X11_ofIt : kYV yX11_ofIt (Cond.code yX11_ofIt prog_13_method_87_code (3 : Nat) (Option.some Jvm.ClassFile.FieldType.int)) 2 := ⟨kw_1785, ⟨kw_1784, kwp_64⟩, kw_19, ⟨by decide +kernel, by decide +kernel⟩, by decide +kernel⟩
theorem kY_X11_playerAt : kYV yX11_playerAt (Cond.code yX11_playerAt prog_13_method_88_code (2 : Nat) (Option.some Jvm.ClassFile.FieldType.int)) 1 := ⟨kw_1781, ⟨kw_1779, kw_1780⟩, kw_19, ⟨by decide +kernel, by decide +kernel⟩, by decide +kernel⟩
theorem kY_X11_dieAt : kYV yX11_dieAt (Cond.code yX11_dieAt prog_13_method_89_code (2 : Nat) (Option.some Jvm.ClassFile.FieldType.int)) 1 := ⟨kw_1793, ⟨kw_1791, kw_1792⟩, kw_19, ⟨by decide +kernel, by decide +kernel⟩, by decide +kernel⟩
theorem kY_X11_faceAt : kYV yX11_faceAt (Cond.code yX11_faceAt prog_13_method_90_code (2 : Nat) (Option.some Jvm.ClassFile.FieldType.int)) 1 := ⟨kw_1797, ⟨kw_1795, kw_1796⟩, kw_19, ⟨by decide +kernel, by decide +kernel⟩, by decide +kernel⟩
theorem kY_X11_isFairAt : kYV yX11_isFairAt (Cond.code yX11_isFairAt prog_13_method_91_code (2 : Nat) (Option.some Jvm.ClassFile.FieldType.boolean)) 1 := ⟨kw_1801, ⟨kw_1799, kw_1800⟩, kw_19, ⟨by decide +kernel, by decide +kernel⟩, by decide +kernel⟩
theorem kY_X11_throwsOf : kYV yX11_throwsOf (Cond.code yX11_throwsOf prog_13_method_92_code (2 : Nat) (Option.some Jvm.ClassFile.FieldType.int)) 1 := ⟨kw_1805, ⟨kw_1803, kw_1804⟩, kw_19, ⟨by decide +kernel, by decide +kernel⟩, by decide +kernel⟩
theorem kY_X11_total : kYV yX11_total (Cond.code yX11_total prog_13_method_93_code (2 : Nat) (Option.some Jvm.ClassFile.FieldType.int)) 1 := ⟨kw_1812, ⟨kw_1810, kw_1811⟩, kw_19, ⟨by decide +kernel, by decide +kernel⟩, by decide +kernel⟩
theorem kY_X11_meanFace : kYV yX11_meanFace (Cond.code yX11_meanFace prog_13_method_94_code (3 : Nat) (Option.some Jvm.ClassFile.FieldType.double)) 1 := ⟨kw_1819, ⟨kw_1817, kw_1818⟩, kw_19, ⟨by decide +kernel, by decide +kernel⟩, by decide +kernel⟩
theorem kY_X11_rankOf : kYV yX11_rankOf (Cond.code yX11_rankOf prog_13_method_95_code (2 : Nat) (Option.some Jvm.ClassFile.FieldType.int)) 1 := ⟨kw_1823, ⟨kw_1821, kw_1822⟩, kw_19, ⟨by decide +kernel, by decide +kernel⟩, by decide +kernel⟩
theorem kY_X11_playerWithRank : kYV yX11_playerWithRank (Cond.code yX11_playerWithRank prog_13_method_96_code (3 : Nat) (Option.some Jvm.ClassFile.FieldType.int)) 1 := ⟨kw_1830, ⟨kw_1828, kw_1829⟩, kw_19, ⟨by decide +kernel, by decide +kernel⟩, by decide +kernel⟩
theorem kY_X11_longestRun : kYV yX11_longestRun (Cond.code yX11_longestRun prog_13_method_97_code (6 : Nat) (Option.some Jvm.ClassFile.FieldType.int)) 1 := ⟨kw_1834, ⟨kw_1832, kw_1833⟩, kw_19, ⟨by decide +kernel, by decide +kernel⟩, by decide +kernel⟩
theorem kY_X11_findPlayer : kYV yX11_findPlayer (Cond.code yX11_findPlayer prog_13_method_98_code (2 : Nat) (Option.some Jvm.ClassFile.FieldType.int)) 0 := ⟨kw_1838, ⟨kw_1836, kw_1837⟩, kw_19, ⟨by decide +kernel, by decide +kernel⟩, by decide +kernel⟩
theorem kY_X11_throwsOfPair : kYV yX11_throwsOfPair (Cond.code yX11_throwsOfPair prog_13_method_99_code (3 : Nat) (Option.some Jvm.ClassFile.FieldType.int)) 2 := ⟨kw_1842, ⟨kw_1840, kw_1841⟩, kw_19, ⟨by decide +kernel, by decide +kernel⟩, by decide +kernel⟩
theorem kY_X11_frequency : kYV yX11_frequency (Cond.code yX11_frequency prog_13_method_100_code (4 : Nat) (Option.some Jvm.ClassFile.FieldType.int)) 3 := ⟨kw_1850, ⟨kw_1848, kw_1849⟩, kw_19, ⟨by decide +kernel, by decide +kernel⟩, by decide +kernel⟩
theorem kY_X11_commonFace : kYV yX11_commonFace (Cond.code yX11_commonFace prog_13_method_101_code (6 : Nat) (Option.some Jvm.ClassFile.FieldType.int)) 2 := ⟨kw_1854, ⟨kw_1852, kw_1853⟩, kw_19, ⟨by decide +kernel, by decide +kernel⟩, by decide +kernel⟩
theorem kY_X11_facesSeen : kYV yX11_facesSeen (Cond.code yX11_facesSeen prog_13_method_102_code (5 : Nat) (Option.some Jvm.ClassFile.FieldType.int)) 2 := ⟨kw_1858, ⟨kw_1856, kw_1857⟩, kw_19, ⟨by decide +kernel, by decide +kernel⟩, by decide +kernel⟩
theorem kY_X11_latestThrow : kYV yX11_latestThrow (Cond.code yX11_latestThrow prog_13_method_103_code (4 : Nat) (Option.some Jvm.ClassFile.FieldType.int)) 2 := ⟨kw_1862, ⟨kw_1860, kw_1861⟩, kw_19, ⟨by decide +kernel, by decide +kernel⟩, by decide +kernel⟩
theorem kY_X11_score : kYV yX11_score (Cond.code yX11_score prog_13_method_104_code (3 : Nat) (Option.some Jvm.ClassFile.FieldType.int)) 2 := ⟨kw_1866, ⟨kw_1864, kw_1865⟩, kw_19, ⟨by decide +kernel, by decide +kernel⟩, by decide +kernel⟩
theorem kY_X11_isSuspicious : kYV yX11_isSuspicious (Cond.code yX11_isSuspicious prog_13_method_105_code (3 : Nat) (Option.some Jvm.ClassFile.FieldType.boolean)) 2 := ⟨kw_1870, ⟨kw_1868, kw_1869⟩, kw_19, ⟨by decide +kernel, by decide +kernel⟩, by decide +kernel⟩
theorem kY_X11_suspiciousIn : kYV yX11_suspiciousIn (Cond.code yX11_suspiciousIn prog_13_method_106_code (4 : Nat) (Option.some Jvm.ClassFile.FieldType.int)) 0 := ⟨kw_1878, ⟨kw_1877, kwp_67⟩, kw_19, ⟨by decide +kernel, by decide +kernel⟩, by decide +kernel⟩
theorem kY_X11_suspiciousPairs : kYV yX11_suspiciousPairs (Cond.code yX11_suspiciousPairs prog_13_method_107_code (1 : Nat) (Option.some Jvm.ClassFile.FieldType.int)) 0 := ⟨kw_1874, ⟨kw_1872, kw_1873⟩, kw_19, ⟨by decide +kernel, by decide +kernel⟩, by decide +kernel⟩
theorem kY_X11_worstPair : kYV yX11_worstPair (Cond.code yX11_worstPair prog_13_method_108_code (6 : Nat) (Option.some Jvm.ClassFile.FieldType.int)) 0 := ⟨kw_1882, ⟨kw_1880, kw_1881⟩, kw_19, ⟨by decide +kernel, by decide +kernel⟩, by decide +kernel⟩
theorem kY_X11_offenceCount : kYV yX11_offenceCount (Cond.code yX11_offenceCount prog_13_method_109_code (1 : Nat) (Option.some Jvm.ClassFile.FieldType.int)) 0 := ⟨kw_1886, ⟨kw_1884, kw_1885⟩, kw_19, ⟨by decide +kernel, by decide +kernel⟩, by decide +kernel⟩
theorem kY_X11_ofThat : kYV yX11_ofThat (Cond.code yX11_ofThat prog_13_method_110_code (3 : Nat) (Option.some Jvm.ClassFile.FieldType.int)) 2 := ⟨kw_1894, ⟨kw_1893, kwp_68⟩, kw_19, ⟨by decide +kernel, by decide +kernel⟩, by decide +kernel⟩
theorem kY_X11_offencePlayer : kYV yX11_offencePlayer (Cond.code yX11_offencePlayer prog_13_method_111_code (2 : Nat) (Option.some Jvm.ClassFile.FieldType.int)) 1 := ⟨kw_1890, ⟨kw_1888, kw_1889⟩, kw_19, ⟨by decide +kernel, by decide +kernel⟩, by decide +kernel⟩
theorem kY_X11_offenceDie : kYV yX11_offenceDie (Cond.code yX11_offenceDie prog_13_method_112_code (2 : Nat) (Option.some Jvm.ClassFile.FieldType.int)) 1 := ⟨kw_1902, ⟨kw_1900, kw_1901⟩, kw_19, ⟨by decide +kernel, by decide +kernel⟩, by decide +kernel⟩
theorem kY_X11_offenceScore : kYV yX11_offenceScore (Cond.code yX11_offenceScore prog_13_method_113_code (2 : Nat) (Option.some Jvm.ClassFile.FieldType.int)) 1 := ⟨kw_1906, ⟨kw_1904, kw_1905⟩, kw_19, ⟨by decide +kernel, by decide +kernel⟩, by decide +kernel⟩
theorem kY_X11_offencesOf : kYV yX11_offencesOf (Cond.code yX11_offencesOf prog_13_method_114_code (2 : Nat) (Option.some Jvm.ClassFile.FieldType.int)) 1 := ⟨kw_1910, ⟨kw_1908, kw_1909⟩, kw_19, ⟨by decide +kernel, by decide +kernel⟩, by decide +kernel⟩
theorem kY_X11_nextFace : kYV yX11_nextFace (Cond.code yX11_nextFace prog_13_method_115_code (2 : Nat) (Option.some Jvm.ClassFile.FieldType.int)) 1 := ⟨kw_1914, ⟨kw_1912, kw_1913⟩, kw_19, ⟨by decide +kernel, by decide +kernel⟩, by decide +kernel⟩
theorem kY_X11_faceAfter : kYV yX11_faceAfter (Cond.code yX11_faceAfter prog_13_method_116_code (5 : Nat) (Option.some Jvm.ClassFile.FieldType.int)) 2 := ⟨kw_1918, ⟨kw_1916, kw_1917⟩, kw_19, ⟨by decide +kernel, by decide +kernel⟩, by decide +kernel⟩
theorem kY_X11_throwsUntil : kYV yX11_throwsUntil (Cond.code yX11_throwsUntil prog_13_method_117_code (5 : Nat) (Option.some Jvm.ClassFile.FieldType.int)) 2 := ⟨kw_1922, ⟨kw_1920, kw_1921⟩, kw_19, ⟨by decide +kernel, by decide +kernel⟩, by decide +kernel⟩
theorem kY_X11_countThrow : kYV yX11_countThrow (Cond.code yX11_countThrow prog_13_method_118_code (4 : Nat) (Option.some Jvm.ClassFile.FieldType.int)) 2 := ⟨kw_1930, ⟨kw_1929, kwp_70⟩, kw_19, ⟨by decide +kernel, by decide +kernel⟩, by decide +kernel⟩
theorem kY_X11_scoreAfter : kYV yX11_scoreAfter (Cond.code yX11_scoreAfter prog_13_method_119_code (6 : Nat) (Option.some Jvm.ClassFile.FieldType.int)) 3 := ⟨kw_1926, ⟨kw_1924, kw_1925⟩, kw_19, ⟨by decide +kernel, by decide +kernel⟩, by decide +kernel⟩
theorem kY_X11_throwsUntilSuspicious : kYV yX11_throwsUntilSuspicious (Cond.code yX11_throwsUntilSuspicious prog_13_method_120_code (5 : Nat) (Option.some Jvm.ClassFile.FieldType.int)) 2 := ⟨kw_1934, ⟨kw_1932, kw_1933⟩, kw_19, ⟨by decide +kernel, by decide +kernel⟩, by decide +kernel⟩
theorem kY_X11_penanceNow : kYV yX11_penanceNow (Cond.code yX11_penanceNow prog_13_method_121_code (1 : Nat) (Option.some Jvm.ClassFile.FieldType.int)) 0 := ⟨kw_1938, ⟨kw_1936, kw_1937⟩, kw_19, ⟨by decide +kernel, by decide +kernel⟩, by decide +kernel⟩
theorem kY_X11_frequencyDifference : kYV yX11_frequencyDifference (Cond.code yX11_frequencyDifference prog_13_method_122_code (5 : Nat) (Option.some Jvm.ClassFile.FieldType.int)) 0 := ⟨kw_1942, ⟨kw_1940, kw_1941⟩, kw_19, ⟨by decide +kernel, by decide +kernel⟩, by decide +kernel⟩
theorem kY_X11_totalDifference : kYV yX11_totalDifference (Cond.code yX11_totalDifference prog_13_method_123_code (3 : Nat) (Option.some Jvm.ClassFile.FieldType.int)) 0 := ⟨kw_1946, ⟨kw_1944, kw_1945⟩, kw_19, ⟨by decide +kernel, by decide +kernel⟩, by decide +kernel⟩
theorem kY_X11_fairShare : kYV yX11_fairShare (Cond.code yX11_fairShare prog_13_method_124_code (3 : Nat) (Option.some Jvm.ClassFile.FieldType.float)) 0 := ⟨kw_1950, ⟨kw_1948, kw_1949⟩, kw_19, ⟨by decide +kernel, by decide +kernel⟩, by decide +kernel⟩
theorem kY_X11_throwDie : kYV yX11_throwDie (Cond.code yX11_throwDie prog_13_method_125_code (4 : Nat) (Option.some Jvm.ClassFile.FieldType.int)) 3 := ⟨kw_1954, ⟨kw_1952, kw_1953⟩, kw_19, ⟨by decide +kernel, by decide +kernel⟩, by decide +kernel⟩
theorem kY_X11_audit : kYV yX11_audit (Cond.code yX11_audit prog_13_method_126_code (1 : Nat) (Option.some Jvm.ClassFile.FieldType.int)) 0 := ⟨kw_1958, ⟨kw_1956, kw_1957⟩, kw_19, ⟨by decide +kernel, by decide +kernel⟩, by decide +kernel⟩
theorem kY_X11_absolve : kYV yX11_absolve (Cond.code yX11_absolve prog_13_method_127_code (1 : Nat) (Option.some Jvm.ClassFile.FieldType.int)) 0 := ⟨kw_1962, ⟨kw_1960, kw_1961⟩, kw_19, ⟨by decide +kernel, by decide +kernel⟩, by decide +kernel⟩
theorem kY_X11_forgive : kYV yX11_forgive (Cond.code yX11_forgive prog_13_method_128_code (2 : Nat) (Option.some Jvm.ClassFile.FieldType.int)) 1 := ⟨kw_1966, ⟨kw_1964, kw_1965⟩, kw_19, ⟨by decide +kernel, by decide +kernel⟩, by decide +kernel⟩
theorem kY_X11_setWeight : kYV yX11_setWeight (Cond.code yX11_setWeight prog_13_method_129_code (5 : Nat) (Option.some Jvm.ClassFile.FieldType.int)) 3 := ⟨kw_1970, ⟨kw_1968, kw_1969⟩, kw_19, ⟨by decide +kernel, by decide +kernel⟩, by decide +kernel⟩
theorem kY_X11_setSeed : kYV yX11_setSeed (Cond.code yX11_setSeed prog_13_method_130_code (3 : Nat) (Option.some Jvm.ClassFile.FieldType.int)) 1 := ⟨kw_1974, ⟨kw_1972, kw_1973⟩, kw_19, ⟨by decide +kernel, by decide +kernel⟩, by decide +kernel⟩
theorem kY_X11_setLimits : kYV yX11_setLimits (Cond.code yX11_setLimits prog_13_method_131_code (3 : Nat) (Option.some Jvm.ClassFile.FieldType.int)) 2 := ⟨kw_1978, ⟨kw_1976, kw_1977⟩, kw_19, ⟨by decide +kernel, by decide +kernel⟩, by decide +kernel⟩
theorem kY_X11_print : kYV yX11_print (Cond.code yX11_print prog_13_method_132_code (2 : Nat) (Option.none : Option Jvm.ClassFile.FieldType)) 1 := ⟨kw_1994, ⟨kw_1993, kwp_73⟩, kw_19, ⟨by decide +kernel, by decide +kernel⟩, by decide +kernel⟩
theorem kY_X11_printNumber : kYV yX11_printNumber (Cond.code yX11_printNumber prog_13_method_133_code (4 : Nat) (Option.none : Option Jvm.ClassFile.FieldType)) 1 := ⟨kw_1998, ⟨kw_1997, kwp_74⟩, kw_19, ⟨by decide +kernel, by decide +kernel⟩, by decide +kernel⟩
theorem kY_X11_printPlayer : kYV yX11_printPlayer (Cond.code yX11_printPlayer prog_13_method_134_code (3 : Nat) (Option.none : Option Jvm.ClassFile.FieldType)) 1 := ⟨kw_1990, ⟨kw_1989, kwp_72⟩, kw_19, ⟨by decide +kernel, by decide +kernel⟩, by decide +kernel⟩
theorem kY_X11_byName : kYV yX11_byName (Cond.code yX11_byName prog_13_method_135_code (5 : Nat) (Option.some Jvm.ClassFile.FieldType.int)) 1 := ⟨kw_1986, ⟨kw_1985, kwp_71⟩, kw_19, ⟨by decide +kernel, by decide +kernel⟩, by decide +kernel⟩
theorem kY_X11_writeRecords : kYV yX11_writeRecords (Cond.code yX11_writeRecords prog_13_method_136_code (2 : Nat) (Option.some Jvm.ClassFile.FieldType.int)) 0 := ⟨kw_1982, ⟨kw_1980, kw_1981⟩, kw_19, ⟨by decide +kernel, by decide +kernel⟩, by decide +kernel⟩
theorem kY_X11_writeFaces : kYV yX11_writeFaces (Cond.code yX11_writeFaces prog_13_method_137_code (3 : Nat) (Option.some Jvm.ClassFile.FieldType.int)) 1 := ⟨kw_2002, ⟨kw_2000, kw_2001⟩, kw_19, ⟨by decide +kernel, by decide +kernel⟩, by decide +kernel⟩
theorem kY_X11_outputByte : kYV yX11_outputByte (Cond.code yX11_outputByte prog_13_method_138_code (2 : Nat) (Option.some Jvm.ClassFile.FieldType.int)) 1 := ⟨kw_2006, ⟨kw_2004, kw_2005⟩, kw_19, ⟨by decide +kernel, by decide +kernel⟩, by decide +kernel⟩
theorem kY_X11_save : kYV yX11_save (Cond.code yX11_save prog_13_method_139_code (2 : Nat) (Option.some Jvm.ClassFile.FieldType.int)) 1 := ⟨kw_2010, ⟨kw_2008, kw_2009⟩, kw_19, ⟨by decide +kernel, by decide +kernel⟩, by decide +kernel⟩
theorem kY_X11_restore : kYV yX11_restore (Cond.code yX11_restore prog_13_method_140_code (2 : Nat) (Option.some Jvm.ClassFile.FieldType.int)) 1 := ⟨kw_2014, ⟨kw_2012, kw_2013⟩, kw_19, ⟨by decide +kernel, by decide +kernel⟩, by decide +kernel⟩
theorem kY_J9_max_7cf53 : kYS yJ9_max_7cf53 (Cond.code yJ9_max_7cf53 prog_21_method_65_code (2 : Nat) (Option.some Jvm.ClassFile.FieldType.int)) 2 := ⟨kw_585, kw_584, kw_16, ⟨by decide +kernel, by decide +kernel⟩, by decide +kernel⟩
theorem kY_J9_min_7cf53 : kYS yJ9_min_7cf53 (Cond.code yJ9_min_7cf53 prog_21_method_69_code (2 : Nat) (Option.some Jvm.ClassFile.FieldType.int)) 2 := ⟨kw_360, kw_359, kw_16, ⟨by decide +kernel, by decide +kernel⟩, by decide +kernel⟩
theorem kY_J0_length_8abf5 : kYV yJ0_length_8abf5 (Cond.code yJ0_length_8abf5 prog_23_method_54_code (1 : Nat) (Option.some Jvm.ClassFile.FieldType.int)) 0 := ⟨kw_272, ⟨kw_270, kw_271⟩, kw_12, ⟨by decide +kernel, by decide +kernel⟩, by decide +kernel⟩
theorem kY_J0_charAt_5068e : kYV yJ0_charAt_5068e (Cond.code yJ0_charAt_5068e prog_23_method_56_code (2 : Nat) (Option.some Jvm.ClassFile.FieldType.char)) 1 := ⟨kw_282, ⟨kw_280, kw_281⟩, kw_12, ⟨by decide +kernel, by decide +kernel⟩, by decide +kernel⟩
theorem kY_J0_coder_7d493 : kYV yJ0_coder_7d493 (Cond.code yJ0_coder_7d493 prog_23_method_152_code (1 : Nat) (Option.some Jvm.ClassFile.FieldType.byte)) 0 := ⟨kw_276, ⟨kw_274, kw_275⟩, kw_12, ⟨by decide +kernel, by decide +kernel⟩, by decide +kernel⟩
theorem kY_J0_isLatin1_aae02 : kYV yJ0_isLatin1_aae02 (Cond.code yJ0_isLatin1_aae02 prog_23_method_154_code (1 : Nat) (Option.some Jvm.ClassFile.FieldType.boolean)) 0 := ⟨kw_286, ⟨kw_284, kw_285⟩, kw_12, ⟨by decide +kernel, by decide +kernel⟩, by decide +kernel⟩
theorem kY_J0_checkIndex_df160 : kYS yJ0_checkIndex_df160 (Cond.code yJ0_checkIndex_df160 prog_23_method_155_code (2 : Nat) (Option.none : Option Jvm.ClassFile.FieldType)) 2 := ⟨kw_292, kw_291, kw_12, ⟨by decide +kernel, by decide +kernel⟩, by decide +kernel⟩
theorem kY_J1_charAt_3b067 : kYS yJ1_charAt_3b067 (Cond.code yJ1_charAt_3b067 prog_24_method_2_code (2 : Nat) (Option.some Jvm.ClassFile.FieldType.char)) 2 := ⟨kw_289, kw_288, kw_13, ⟨by decide +kernel, by decide +kernel⟩, by decide +kernel⟩
theorem kY_J2_getChar_3b067 : kYS yJ2_getChar_3b067 (Cond.code yJ2_getChar_3b067 prog_25_method_5_code (2 : Nat) (Option.some Jvm.ClassFile.FieldType.char)) 2 := ⟨kw_310, kw_309, kw_15, ⟨by decide +kernel, by decide +kernel⟩, by decide +kernel⟩
theorem kY_J2_length_9d52b : kYS yJ2_length_9d52b (Cond.code yJ2_length_9d52b prog_25_method_6_code (1 : Nat) (Option.some Jvm.ClassFile.FieldType.int)) 1 := ⟨kw_306, kw_305, kw_15, ⟨by decide +kernel, by decide +kernel⟩, by decide +kernel⟩
theorem kY_J2_charAt_3b067 : kYS yJ2_charAt_3b067 (Cond.code yJ2_charAt_3b067 prog_25_method_83_code (2 : Nat) (Option.some Jvm.ClassFile.FieldType.char)) 2 := ⟨kw_300, kw_299, kw_15, ⟨by decide +kernel, by decide +kernel⟩, by decide +kernel⟩
theorem kY_J2_checkIndex_2214a : kYS yJ2_checkIndex_2214a (Cond.code yJ2_checkIndex_2214a prog_25_method_91_code (2 : Nat) (Option.none : Option Jvm.ClassFile.FieldType)) 2 := ⟨kw_303, kw_302, kw_15, ⟨by decide +kernel, by decide +kernel⟩, by decide +kernel⟩
theorem kY_J7_fill_53178 : kYS yJ7_fill_53178 (Cond.code yJ7_fill_53178 prog_30_method_103_code (4 : Nat) (Option.none : Option Jvm.ClassFile.FieldType)) 2 := ⟨kw_416, kw_415, kw_17, ⟨by decide +kernel, by decide +kernel⟩, by decide +kernel⟩
theorem kY_J3_checkIndex_8e157 : kYS yJ3_checkIndex_8e157 (Cond.code yJ3_checkIndex_8e157 prog_32_method_11_code (3 : Nat) (Option.some Jvm.ClassFile.FieldType.int)) 3 := ⟨kw_297, kw_296, kw_14, ⟨by decide +kernel, by decide +kernel⟩, by decide +kernel⟩
theorem kY_L_appendInput : kYS yL_appendInput (Cond.codeWith yL_appendInput method_3_code (8 : Nat) (Option.some Jvm.ClassFile.FieldType.int) [((0 : Nat), (16 : Nat), (19 : Nat), (13 : Nat))]) 7 := ⟨kw_837, kw_836, kw_0, ⟨by decide +kernel, by decide +kernel⟩, by decide +kernel⟩
theorem kY_L_truncateInput : kYS yL_truncateInput (Cond.codeWith yL_truncateInput method_4_code (4 : Nat) (Option.some Jvm.ClassFile.FieldType.int) [((0 : Nat), (9 : Nat), (12 : Nat), (19 : Nat))]) 3 := ⟨kw_917, kw_916, kw_0, ⟨by decide +kernel, by decide +kernel⟩, by decide +kernel⟩
theorem kY_L_load : kYS yL_load (Cond.codeWith yL_load method_5_code (3 : Nat) (Option.some Jvm.ClassFile.FieldType.int) [((0 : Nat), (8 : Nat), (11 : Nat), (19 : Nat))]) 2 := ⟨kw_944, kw_943, kw_0, ⟨by decide +kernel, by decide +kernel⟩, by decide +kernel⟩
theorem kY_L_faces : kYS yL_faces (Cond.codeWith yL_faces method_6_code (4 : Nat) (Option.some Jvm.ClassFile.FieldType.int) [((0 : Nat), (9 : Nat), (12 : Nat), (28 : Nat))]) 3 := ⟨kw_952, kw_951, kw_0, ⟨by decide +kernel, by decide +kernel⟩, by decide +kernel⟩
theorem kY_L_weightOf : kYS yL_weightOf (Cond.codeWith yL_weightOf method_7_code (5 : Nat) (Option.some Jvm.ClassFile.FieldType.int) [((0 : Nat), (10 : Nat), (13 : Nat), (28 : Nat)), ((0 : Nat), (10 : Nat), (17 : Nat), (19 : Nat))]) 4 := ⟨kw_984, kw_983, kw_0, ⟨by decide +kernel, by decide +kernel⟩, by decide +kernel⟩
theorem kY_L_isBalanced : kYS yL_isBalanced (Cond.codeWith yL_isBalanced method_8_code (4 : Nat) (Option.some Jvm.ClassFile.FieldType.int) [((0 : Nat), (16 : Nat), (19 : Nat), (28 : Nat))]) 3 := ⟨kw_999, kw_998, kw_0, ⟨by decide +kernel, by decide +kernel⟩, by decide +kernel⟩
theorem kY_L_heaviestFace : kYS yL_heaviestFace (Cond.codeWith yL_heaviestFace method_9_code (4 : Nat) (Option.some Jvm.ClassFile.FieldType.int) [((0 : Nat), (9 : Nat), (12 : Nat), (28 : Nat))]) 3 := ⟨kw_1012, kw_1011, kw_0, ⟨by decide +kernel, by decide +kernel⟩, by decide +kernel⟩
theorem kY_L_nameByte : kYS yL_nameByte (Cond.codeWith yL_nameByte method_10_code (5 : Nat) (Option.some Jvm.ClassFile.FieldType.int) [((0 : Nat), (10 : Nat), (13 : Nat), (28 : Nat)), ((0 : Nat), (10 : Nat), (17 : Nat), (44 : Nat))]) 4 := ⟨kw_1023, kw_1022, kw_0, ⟨by decide +kernel, by decide +kernel⟩, by decide +kernel⟩
theorem kY_L_playerAt : kYS yL_playerAt (Cond.codeWith yL_playerAt method_11_code (4 : Nat) (Option.some Jvm.ClassFile.FieldType.int) [((0 : Nat), (9 : Nat), (12 : Nat), (28 : Nat))]) 3 := ⟨kw_1051, kw_1050, kw_0, ⟨by decide +kernel, by decide +kernel⟩, by decide +kernel⟩
theorem kY_L_dieAt : kYS yL_dieAt (Cond.codeWith yL_dieAt method_12_code (4 : Nat) (Option.some Jvm.ClassFile.FieldType.int) [((0 : Nat), (9 : Nat), (12 : Nat), (28 : Nat))]) 3 := ⟨kw_1063, kw_1062, kw_0, ⟨by decide +kernel, by decide +kernel⟩, by decide +kernel⟩
theorem kY_L_faceAt : kYS yL_faceAt (Cond.codeWith yL_faceAt method_13_code (4 : Nat) (Option.some Jvm.ClassFile.FieldType.int) [((0 : Nat), (9 : Nat), (12 : Nat), (28 : Nat))]) 3 := ⟨kw_1070, kw_1069, kw_0, ⟨by decide +kernel, by decide +kernel⟩, by decide +kernel⟩
theorem kY_L_isFairAt : kYS yL_isFairAt (Cond.codeWith yL_isFairAt method_14_code (4 : Nat) (Option.some Jvm.ClassFile.FieldType.int) [((0 : Nat), (16 : Nat), (19 : Nat), (28 : Nat))]) 3 := ⟨kw_1078, kw_1077, kw_0, ⟨by decide +kernel, by decide +kernel⟩, by decide +kernel⟩
theorem kY_L_throwsOf : kYS yL_throwsOf (Cond.codeWith yL_throwsOf method_15_code (4 : Nat) (Option.some Jvm.ClassFile.FieldType.int) [((0 : Nat), (9 : Nat), (12 : Nat), (28 : Nat))]) 3 := ⟨kw_1086, kw_1085, kw_0, ⟨by decide +kernel, by decide +kernel⟩, by decide +kernel⟩
theorem kY_L_total : kYS yL_total (Cond.codeWith yL_total method_16_code (4 : Nat) (Option.some Jvm.ClassFile.FieldType.int) [((0 : Nat), (9 : Nat), (12 : Nat), (28 : Nat))]) 3 := ⟨kw_1093, kw_1092, kw_0, ⟨by decide +kernel, by decide +kernel⟩, by decide +kernel⟩
theorem kY_L_meanFace : kYS yL_meanFace (Cond.codeWith yL_meanFace method_17_code (4 : Nat) (Option.some Jvm.ClassFile.FieldType.int) [((0 : Nat), (8 : Nat), (11 : Nat), (28 : Nat))]) 3 := ⟨kw_1100, kw_1099, kw_0, ⟨by decide +kernel, by decide +kernel⟩, by decide +kernel⟩
theorem kY_L_rankOf : kYS yL_rankOf (Cond.codeWith yL_rankOf method_18_code (4 : Nat) (Option.some Jvm.ClassFile.FieldType.int) [((0 : Nat), (9 : Nat), (12 : Nat), (28 : Nat))]) 3 := ⟨kw_1107, kw_1106, kw_0, ⟨by decide +kernel, by decide +kernel⟩, by decide +kernel⟩
theorem kY_L_playerWithRank : kYS yL_playerWithRank (Cond.codeWith yL_playerWithRank method_19_code (4 : Nat) (Option.some Jvm.ClassFile.FieldType.int) [((0 : Nat), (9 : Nat), (12 : Nat), (44 : Nat))]) 3 := ⟨kw_1124, kw_1123, kw_0, ⟨by decide +kernel, by decide +kernel⟩, by decide +kernel⟩
theorem kY_L_longestRun : kYS yL_longestRun (Cond.codeWith yL_longestRun method_20_code (4 : Nat) (Option.some Jvm.ClassFile.FieldType.int) [((0 : Nat), (9 : Nat), (12 : Nat), (28 : Nat))]) 3 := ⟨kw_1132, kw_1131, kw_0, ⟨by decide +kernel, by decide +kernel⟩, by decide +kernel⟩
theorem kY_L_throwsOfPair : kYS yL_throwsOfPair (Cond.codeWith yL_throwsOfPair method_21_code (5 : Nat) (Option.some Jvm.ClassFile.FieldType.int) [((0 : Nat), (10 : Nat), (13 : Nat), (28 : Nat))]) 4 := ⟨kw_1145, kw_1144, kw_0, ⟨by decide +kernel, by decide +kernel⟩, by decide +kernel⟩
theorem kY_L_frequency : kYS yL_frequency (Cond.codeWith yL_frequency method_22_code (6 : Nat) (Option.some Jvm.ClassFile.FieldType.int) [((0 : Nat), (12 : Nat), (15 : Nat), (28 : Nat)), ((0 : Nat), (12 : Nat), (19 : Nat), (19 : Nat))]) 5 := ⟨kw_1158, kw_1157, kw_0, ⟨by decide +kernel, by decide +kernel⟩, by decide +kernel⟩
theorem kY_L_commonFace : kYS yL_commonFace (Cond.codeWith yL_commonFace method_23_code (5 : Nat) (Option.some Jvm.ClassFile.FieldType.int) [((0 : Nat), (10 : Nat), (13 : Nat), (28 : Nat))]) 4 := ⟨kw_1165, kw_1164, kw_0, ⟨by decide +kernel, by decide +kernel⟩, by decide +kernel⟩
theorem kY_L_facesSeen : kYS yL_facesSeen (Cond.codeWith yL_facesSeen method_24_code (5 : Nat) (Option.some Jvm.ClassFile.FieldType.int) [((0 : Nat), (10 : Nat), (13 : Nat), (28 : Nat))]) 4 := ⟨kw_1172, kw_1171, kw_0, ⟨by decide +kernel, by decide +kernel⟩, by decide +kernel⟩
theorem kY_L_latestThrow : kYS yL_latestThrow (Cond.codeWith yL_latestThrow method_25_code (5 : Nat) (Option.some Jvm.ClassFile.FieldType.int) [((0 : Nat), (10 : Nat), (13 : Nat), (28 : Nat))]) 4 := ⟨kw_1183, kw_1182, kw_0, ⟨by decide +kernel, by decide +kernel⟩, by decide +kernel⟩
theorem kY_L_score : kYS yL_score (Cond.codeWith yL_score method_26_code (5 : Nat) (Option.some Jvm.ClassFile.FieldType.int) [((0 : Nat), (10 : Nat), (13 : Nat), (28 : Nat))]) 4 := ⟨kw_1194, kw_1193, kw_0, ⟨by decide +kernel, by decide +kernel⟩, by decide +kernel⟩
theorem kY_L_isSuspicious : kYS yL_isSuspicious (Cond.codeWith yL_isSuspicious method_27_code (5 : Nat) (Option.some Jvm.ClassFile.FieldType.int) [((0 : Nat), (17 : Nat), (20 : Nat), (28 : Nat))]) 4 := ⟨kw_1202, kw_1201, kw_0, ⟨by decide +kernel, by decide +kernel⟩, by decide +kernel⟩
theorem kY_L_offencePlayer : kYS yL_offencePlayer (Cond.codeWith yL_offencePlayer method_28_code (4 : Nat) (Option.some Jvm.ClassFile.FieldType.int) [((0 : Nat), (9 : Nat), (12 : Nat), (28 : Nat))]) 3 := ⟨kw_1210, kw_1209, kw_0, ⟨by decide +kernel, by decide +kernel⟩, by decide +kernel⟩
theorem kY_L_offenceDie : kYS yL_offenceDie (Cond.codeWith yL_offenceDie method_29_code (4 : Nat) (Option.some Jvm.ClassFile.FieldType.int) [((0 : Nat), (9 : Nat), (12 : Nat), (28 : Nat))]) 3 := ⟨kw_1221, kw_1220, kw_0, ⟨by decide +kernel, by decide +kernel⟩, by decide +kernel⟩
theorem kY_L_offenceScore : kYS yL_offenceScore (Cond.codeWith yL_offenceScore method_30_code (4 : Nat) (Option.some Jvm.ClassFile.FieldType.int) [((0 : Nat), (9 : Nat), (12 : Nat), (28 : Nat))]) 3 := ⟨kw_1228, kw_1227, kw_0, ⟨by decide +kernel, by decide +kernel⟩, by decide +kernel⟩
theorem kY_L_offencesOf : kYS yL_offencesOf (Cond.codeWith yL_offencesOf method_31_code (4 : Nat) (Option.some Jvm.ClassFile.FieldType.int) [((0 : Nat), (9 : Nat), (12 : Nat), (28 : Nat))]) 3 := ⟨kw_1235, kw_1234, kw_0, ⟨by decide +kernel, by decide +kernel⟩, by decide +kernel⟩
theorem kY_L_nextFace : kYS yL_nextFace (Cond.codeWith yL_nextFace method_32_code (4 : Nat) (Option.some Jvm.ClassFile.FieldType.int) [((0 : Nat), (9 : Nat), (12 : Nat), (28 : Nat))]) 3 := ⟨kw_1242, kw_1241, kw_0, ⟨by decide +kernel, by decide +kernel⟩, by decide +kernel⟩
theorem kY_L_faceAfter : kYS yL_faceAfter (Cond.codeWith yL_faceAfter method_33_code (5 : Nat) (Option.some Jvm.ClassFile.FieldType.int) [((0 : Nat), (10 : Nat), (13 : Nat), (28 : Nat)), ((0 : Nat), (10 : Nat), (17 : Nat), (19 : Nat))]) 4 := ⟨kw_1251, kw_1250, kw_0, ⟨by decide +kernel, by decide +kernel⟩, by decide +kernel⟩
theorem kY_L_throwsUntil : kYS yL_throwsUntil (Cond.codeWith yL_throwsUntil method_34_code (5 : Nat) (Option.some Jvm.ClassFile.FieldType.int) [((0 : Nat), (10 : Nat), (13 : Nat), (28 : Nat)), ((0 : Nat), (10 : Nat), (17 : Nat), (19 : Nat))]) 4 := ⟨kw_1258, kw_1257, kw_0, ⟨by decide +kernel, by decide +kernel⟩, by decide +kernel⟩
theorem kY_L_scoreAfter : kYS yL_scoreAfter (Cond.codeWith yL_scoreAfter method_35_code (6 : Nat) (Option.some Jvm.ClassFile.FieldType.int) [((0 : Nat), (12 : Nat), (15 : Nat), (28 : Nat)), ((0 : Nat), (12 : Nat), (19 : Nat), (19 : Nat))]) 5 := ⟨kw_1265, kw_1264, kw_0, ⟨by decide +kernel, by decide +kernel⟩, by decide +kernel⟩
theorem kY_L_throwsUntilSuspicious : kYS yL_throwsUntilSuspicious (Cond.codeWith yL_throwsUntilSuspicious method_36_code (5 : Nat) (Option.some Jvm.ClassFile.FieldType.int) [((0 : Nat), (10 : Nat), (13 : Nat), (28 : Nat))]) 4 := ⟨kw_1292, kw_1291, kw_0, ⟨by decide +kernel, by decide +kernel⟩, by decide +kernel⟩
theorem kY_L_throwDie : kYS yL_throwDie (Cond.codeWith yL_throwDie method_37_code (6 : Nat) (Option.some Jvm.ClassFile.FieldType.int) [((0 : Nat), (12 : Nat), (15 : Nat), (28 : Nat)), ((0 : Nat), (12 : Nat), (19 : Nat), (19 : Nat)), ((0 : Nat), (12 : Nat), (23 : Nat), (13 : Nat))]) 5 := ⟨kw_1305, kw_1304, kw_0, ⟨by decide +kernel, by decide +kernel⟩, by decide +kernel⟩
theorem kY_L_absolve : kYS yL_absolve (Cond.codeWith yL_absolve method_38_code (3 : Nat) (Option.some Jvm.ClassFile.FieldType.int) [((0 : Nat), (8 : Nat), (11 : Nat), (13 : Nat))]) 2 := ⟨kw_1314, kw_1313, kw_0, ⟨by decide +kernel, by decide +kernel⟩, by decide +kernel⟩
theorem kY_L_forgive : kYS yL_forgive (Cond.codeWith yL_forgive method_39_code (4 : Nat) (Option.some Jvm.ClassFile.FieldType.int) [((0 : Nat), (9 : Nat), (12 : Nat), (28 : Nat))]) 3 := ⟨kw_1323, kw_1322, kw_0, ⟨by decide +kernel, by decide +kernel⟩, by decide +kernel⟩
theorem kY_L_setWeight : kYS yL_setWeight (Cond.codeWith yL_setWeight method_40_code (6 : Nat) (Option.some Jvm.ClassFile.FieldType.int) [((0 : Nat), (12 : Nat), (15 : Nat), (28 : Nat)), ((0 : Nat), (12 : Nat), (19 : Nat), (19 : Nat)), ((0 : Nat), (12 : Nat), (23 : Nat), (13 : Nat))]) 5 := ⟨kw_1331, kw_1330, kw_0, ⟨by decide +kernel, by decide +kernel⟩, by decide +kernel⟩
theorem kY_L_setSeed : kYS yL_setSeed (Cond.codeWith yL_setSeed method_41_code (4 : Nat) (Option.some Jvm.ClassFile.FieldType.int) [((0 : Nat), (9 : Nat), (12 : Nat), (19 : Nat))]) 3 := ⟨kw_1344, kw_1343, kw_0, ⟨by decide +kernel, by decide +kernel⟩, by decide +kernel⟩
theorem kY_L_setLimits : kYS yL_setLimits (Cond.codeWith yL_setLimits method_42_code (5 : Nat) (Option.some Jvm.ClassFile.FieldType.int) [((0 : Nat), (10 : Nat), (13 : Nat), (19 : Nat))]) 4 := ⟨kw_1352, kw_1351, kw_0, ⟨by decide +kernel, by decide +kernel⟩, by decide +kernel⟩
theorem kY_L_writeFaces : kYS yL_writeFaces (Cond.codeWith yL_writeFaces method_43_code (4 : Nat) (Option.some Jvm.ClassFile.FieldType.int) [((0 : Nat), (9 : Nat), (12 : Nat), (28 : Nat))]) 3 := ⟨kw_1359, kw_1358, kw_0, ⟨by decide +kernel, by decide +kernel⟩, by decide +kernel⟩
theorem kY_L_outputByte : kYS yL_outputByte (Cond.codeWith yL_outputByte method_44_code (4 : Nat) (Option.some Jvm.ClassFile.FieldType.int) [((0 : Nat), (9 : Nat), (12 : Nat), (44 : Nat))]) 3 := ⟨kw_1366, kw_1365, kw_0, ⟨by decide +kernel, by decide +kernel⟩, by decide +kernel⟩
theorem kY_L_save : kYS yL_save (Cond.codeWith yL_save method_45_code (4 : Nat) (Option.some Jvm.ClassFile.FieldType.int) [((0 : Nat), (9 : Nat), (12 : Nat), (28 : Nat))]) 3 := ⟨kw_1375, kw_1374, kw_0, ⟨by decide +kernel, by decide +kernel⟩, by decide +kernel⟩
theorem kY_L_restore : kYS yL_restore (Cond.codeWith yL_restore method_46_code (4 : Nat) (Option.some Jvm.ClassFile.FieldType.int) [((0 : Nat), (9 : Nat), (12 : Nat), (28 : Nat)), ((0 : Nat), (9 : Nat), (15 : Nat), (13 : Nat))]) 3 := ⟨kw_1386, kw_1385, kw_0, ⟨by decide +kernel, by decide +kernel⟩, by decide +kernel⟩
theorem kY_L_undo : kYS yL_undo (Cond.codeWith yL_undo method_47_code (3 : Nat) (Option.some Jvm.ClassFile.FieldType.int) [((0 : Nat), (8 : Nat), (11 : Nat), (13 : Nat))]) 2 := ⟨kw_1394, kw_1393, kw_0, ⟨by decide +kernel, by decide +kernel⟩, by decide +kernel⟩
