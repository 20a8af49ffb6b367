theorem kw_0 : Cond.initialized "DiceAuditLaw" ∈ kTB := kTB_of (List.mem_append_right _ (List.mem_of_getElem? (i := 0) (by decide +kernel))) rfl
theorem kw_1 : Cond.initialized "DiceAudit" ∈ kTB := kTB_of (List.mem_append_right _ (List.mem_of_getElem? (i := 1) (by decide +kernel))) rfl
theorem kw_2 : Cond.initialized "DiceAudit$Text" ∈ kTB := kTB_of (List.mem_append_right _ (List.mem_of_getElem? (i := 2) (by decide +kernel))) rfl
theorem kw_3 : Cond.initialized "DiceAudit$Hall" ∈ kTB := kTB_of (List.mem_append_right _ (List.mem_of_getElem? (i := 3) (by decide +kernel))) rfl
theorem kw_4 : Cond.initialized "DiceAudit$Dice" ∈ kTB := kTB_of (List.mem_append_right _ (List.mem_of_getElem? (i := 4) (by decide +kernel))) rfl
theorem kw_5 : Cond.initialized "DiceAudit$Players" ∈ kTB := kTB_of (List.mem_append_right _ (List.mem_of_getElem? (i := 5) (by decide +kernel))) rfl
theorem kw_6 : Cond.initialized "DiceAudit$Ledger" ∈ kTB := kTB_of (List.mem_append_right _ (List.mem_of_getElem? (i := 6) (by decide +kernel))) rfl
theorem kw_7 : Cond.initialized "DiceAudit$Offences" ∈ kTB := kTB_of (List.mem_append_right _ (List.mem_of_getElem? (i := 7) (by decide +kernel))) rfl
theorem kw_8 : Cond.initialized "DiceAudit$Forecast" ∈ kTB := kTB_of (List.mem_append_right _ (List.mem_of_getElem? (i := 8) (by decide +kernel))) rfl
theorem kw_9 : Cond.initialized "DiceAudit$History" ∈ kTB := kTB_of (List.mem_append_right _ (List.mem_of_getElem? (i := 9) (by decide +kernel))) rfl
theorem kw_10 : Cond.initialized "DiceAudit$Loader" ∈ kTB := kTB_of (List.mem_append_right _ (List.mem_of_getElem? (i := 10) (by decide +kernel))) rfl
theorem kw_11 : Cond.initialized "DiceAudit$Tokens" ∈ kTB := kTB_of (List.mem_append_right _ (List.mem_of_getElem? (i := 11) (by decide +kernel))) rfl
theorem kw_12 : Cond.initialized "java/lang/String" ∈ kTB := kTB_of (List.mem_append_right _ (List.mem_of_getElem? (i := 12) (by decide +kernel))) rfl
theorem kw_13 : Cond.initialized "java/lang/StringLatin1" ∈ kTB := kTB_of (List.mem_append_right _ (List.mem_of_getElem? (i := 13) (by decide +kernel))) rfl
theorem kw_14 : Cond.initialized "jdk/internal/util/Preconditions" ∈ kTB := kTB_of (List.mem_append_right _ (List.mem_of_getElem? (i := 14) (by decide +kernel))) rfl
theorem kw_15 : Cond.initialized "java/lang/StringUTF16" ∈ kTB := kTB_of (List.mem_append_right _ (List.mem_of_getElem? (i := 15) (by decide +kernel))) rfl
theorem kw_16 : Cond.initialized "java/lang/Math" ∈ kTB := kTB_of (List.mem_append_right _ (List.mem_of_getElem? (i := 16) (by decide +kernel))) rfl
theorem kw_17 : Cond.initialized "java/util/Arrays" ∈ kTB := kTB_of (List.mem_append_right _ (List.mem_of_getElem? (i := 17) (by decide +kernel))) rfl
theorem kw_18 : Cond.initialized "java/lang/System" ∈ kTB := kTB_of (List.mem_append_right _ (List.mem_of_getElem? (i := 18) (by decide +kernel))) rfl
theorem kw_19 : Cond.initialized "java/lang/AbstractStringBuilder" ∈ kTB := kTB_of (List.mem_append_right _ (List.mem_of_getElem? (i := 19) (by decide +kernel))) rfl
theorem kw_20 : Cond.initialized "java/lang/StringBuilder" ∈ kTB := kTB_of (List.mem_append_right _ (List.mem_of_getElem? (i := 20) (by decide +kernel))) rfl
theorem kw_21 : Cond.initialized "jdk/internal/util/ArraysSupport" ∈ kTB := kTB_of (List.mem_append_right _ (List.mem_of_getElem? (i := 21) (by decide +kernel))) rfl
theorem kw_22 : Cond.initialized "java/lang/Number" ∈ kTB := kTB_of (List.mem_append_right _ (List.mem_of_getElem? (i := 22) (by decide +kernel))) rfl
theorem kw_23 : Cond.initialized "java/lang/Integer" ∈ kTB := kTB_of (List.mem_append_right _ (List.mem_of_getElem? (i := 23) (by decide +kernel))) rfl
theorem kw_24 : Cond.initialized "java/lang/Throwable" ∈ kTB := kTB_of (List.mem_append_right _ (List.mem_of_getElem? (i := 24) (by decide +kernel))) rfl
theorem kw_25 : Cond.initialized "java/lang/Exception" ∈ kTB := kTB_of (List.mem_append_right _ (List.mem_of_getElem? (i := 25) (by decide +kernel))) rfl
theorem kw_26 : Cond.initialized "java/lang/RuntimeException" ∈ kTB := kTB_of (List.mem_append_right _ (List.mem_of_getElem? (i := 26) (by decide +kernel))) rfl
theorem kw_27 : Cond.initialized "java/lang/IllegalArgumentException" ∈ kTB := kTB_of (List.mem_append_right _ (List.mem_of_getElem? (i := 27) (by decide +kernel))) rfl
theorem kw_28 : Cond.initialized "java/lang/IllegalStateException" ∈ kTB := kTB_of (List.mem_append_right _ (List.mem_of_getElem? (i := 28) (by decide +kernel))) rfl
theorem kw_29 : Cond.initialized "DiceAuditLaw$Hand" ∈ kTB := kTB_of (List.mem_append_right _ (List.mem_of_getElem? (i := 29) (by decide +kernel))) rfl
theorem kw_30 : Cond.initialized "java/lang/IndexOutOfBoundsException" ∈ kTB := kTB_of (List.mem_append_right _ (List.mem_of_getElem? (i := 30) (by decide +kernel))) rfl
theorem kw_31 : Cond.classLink "DiceAuditLaw" (19 : Nat) "DiceAudit" ∈ kTB := kTB_of (List.mem_append_right _ (List.mem_of_getElem? (i := 31) (by decide +kernel))) rfl
theorem kw_32 : Cond.instantiable "DiceAudit" (8 : Nat) ∈ kTB := kTB_of (List.mem_append_right _ (List.mem_of_getElem? (i := 32) (by decide +kernel))) rfl
theorem kw_33 : Cond.methodLink "DiceAuditLaw" (95 : Nat) yX10_init ∈ kTB := kTB_of (List.mem_append_right _ (List.mem_of_getElem? (i := 33) (by decide +kernel))) rfl
theorem kw_34 : Cond.instanceMethod yX10_init ∈ kTB := kTB_of (List.mem_append_right _ (List.mem_of_getElem? (i := 34) (by decide +kernel))) rfl
theorem kw_35 : Cond.code yX10_init prog_1_method_1_code (4 : Nat) (Option.none : Option Jvm.ClassFile.FieldType) ∈ kTB := kTB_of (List.mem_append_right _ (List.mem_of_getElem? (i := 35) (by decide +kernel))) rfl
theorem kw_36 : Cond.methodLink "DiceAudit" (3 : Nat) ({ cls := "java/lang/Object", name := "<init>", desc := "()V" } : Jvm.MethodName) ∈ kTB := kTB_of (List.mem_append_right _ (List.mem_of_getElem? (i := 36) (by decide +kernel))) rfl
theorem kw_37 : Cond.instanceMethod ({ cls := "java/lang/Object", name := "<init>", desc := "()V" } : Jvm.MethodName) ∈ kTB := kTB_of (List.mem_append_right _ (List.mem_of_getElem? (i := 37) (by decide +kernel))) rfl
theorem kw_38 : Cond.code ({ cls := "java/lang/Object", name := "<init>", desc := "()V" } : Jvm.MethodName) object_method_1_code (1 : Nat) (Option.none : Option Jvm.ClassFile.FieldType) ∈ kTB := kTB_of (List.mem_append_right _ (List.mem_of_getElem? (i := 38) (by decide +kernel))) rfl
theorem kw_39 : Cond.classLink "DiceAudit" (9 : Nat) "DiceAudit$Text" ∈ kTB := kTB_of (List.mem_append_right _ (List.mem_of_getElem? (i := 39) (by decide +kernel))) rfl
theorem kw_40 : Cond.instantiable "DiceAudit$Text" (2 : Nat) ∈ kTB := kTB_of (List.mem_append_right _ (List.mem_of_getElem? (i := 40) (by decide +kernel))) rfl
theorem kw_41 : Cond.methodLinkNest "DiceAudit" (11 : Nat) yX8_init "DiceAudit" ∈ kTN := kTN_of (List.mem_append_right _ (List.mem_of_getElem? (i := 41) (by decide +kernel))) rfl
theorem kw_42 : Cond.instanceMethod yX8_init ∈ kTB := kTB_of (List.mem_append_right _ (List.mem_of_getElem? (i := 42) (by decide +kernel))) rfl
theorem kw_43 : Cond.code yX8_init prog_10_method_1_code (1 : Nat) (Option.none : Option Jvm.ClassFile.FieldType) ∈ kTB := kTB_of (List.mem_append_right _ (List.mem_of_getElem? (i := 43) (by decide +kernel))) rfl
theorem kw_44 : Cond.methodLink "DiceAudit$Text" (3 : Nat) ({ cls := "java/lang/Object", name := "<init>", desc := "()V" } : Jvm.MethodName) ∈ kTB := kTB_of (List.mem_append_right _ (List.mem_of_getElem? (i := 44) (by decide +kernel))) rfl
theorem kw_45 : Cond.fieldLink "DiceAudit$Text" (9 : Nat) "DiceAudit$Text" "bytes" "[I" ∈ kTB := kTB_of (List.mem_append_right _ (List.mem_of_getElem? (i := 45) (by decide +kernel))) rfl
theorem kw_46 : Cond.fieldLink "DiceAudit$Text" (15 : Nat) "DiceAudit$Text" "length" "I" ∈ kTB := kTB_of (List.mem_append_right _ (List.mem_of_getElem? (i := 46) (by decide +kernel))) rfl
theorem kw_47 : Cond.fieldLink "DiceAudit" (78 : Nat) "DiceAudit$Text" "length" "I" ∈ kTB := kTB_of (List.mem_append_right _ (List.mem_of_getElem? (i := 47) (by decide +kernel))) rfl
theorem kw_48 : Cond.fieldLink "DiceAudit$Tokens" (29 : Nat) "DiceAudit$Text" "length" "I" ∈ kTB := kTB_of (List.mem_append_right _ (List.mem_of_getElem? (i := 48) (by decide +kernel))) rfl
theorem kw_53 : Cond.superclass "DiceAudit$Text" "java/lang/Object" ∈ kTB := kTB_of (List.mem_append_right _ (List.mem_of_getElem? (i := 53) (by decide +kernel))) rfl
theorem kw_54 : Cond.arrayClass Jvm.ClassFile.FieldType.int ∈ kTB := kTB_of (List.mem_append_right _ (List.mem_of_getElem? (i := 54) (by decide +kernel))) rfl
theorem kw_55 : Cond.classLink "DiceAudit" (16 : Nat) "DiceAudit$Hall" ∈ kTB := kTB_of (List.mem_append_right _ (List.mem_of_getElem? (i := 55) (by decide +kernel))) rfl
theorem kw_56 : Cond.instantiable "DiceAudit$Hall" (7 : Nat) ∈ kTB := kTB_of (List.mem_append_right _ (List.mem_of_getElem? (i := 56) (by decide +kernel))) rfl
theorem kw_57 : Cond.methodLinkNest "DiceAudit" (18 : Nat) yX2_init "DiceAudit" ∈ kTN := kTN_of (List.mem_append_right _ (List.mem_of_getElem? (i := 57) (by decide +kernel))) rfl
theorem kw_58 : Cond.instanceMethod yX2_init ∈ kTB := kTB_of (List.mem_append_right _ (List.mem_of_getElem? (i := 58) (by decide +kernel))) rfl
theorem kw_59 : Cond.code yX2_init prog_4_method_1_code (1 : Nat) (Option.none : Option Jvm.ClassFile.FieldType) ∈ kTB := kTB_of (List.mem_append_right _ (List.mem_of_getElem? (i := 59) (by decide +kernel))) rfl
theorem kw_60 : Cond.methodLink "DiceAudit$Hall" (3 : Nat) ({ cls := "java/lang/Object", name := "<init>", desc := "()V" } : Jvm.MethodName) ∈ kTB := kTB_of (List.mem_append_right _ (List.mem_of_getElem? (i := 60) (by decide +kernel))) rfl
theorem kw_61 : Cond.classLink "DiceAudit$Hall" (9 : Nat) "DiceAudit$Dice" ∈ kTB := kTB_of (List.mem_append_right _ (List.mem_of_getElem? (i := 61) (by decide +kernel))) rfl
theorem kw_62 : Cond.instantiable "DiceAudit$Dice" (3 : Nat) ∈ kTB := kTB_of (List.mem_append_right _ (List.mem_of_getElem? (i := 62) (by decide +kernel))) rfl
theorem kw_63 : Cond.methodLinkNest "DiceAudit$Hall" (11 : Nat) yX0_init "DiceAudit" ∈ kTN := kTN_of (List.mem_append_right _ (List.mem_of_getElem? (i := 63) (by decide +kernel))) rfl
theorem kw_64 : Cond.instanceMethod yX0_init ∈ kTB := kTB_of (List.mem_append_right _ (List.mem_of_getElem? (i := 64) (by decide +kernel))) rfl
theorem kw_65 : Cond.code yX0_init prog_2_method_1_code (1 : Nat) (Option.none : Option Jvm.ClassFile.FieldType) ∈ kTB := kTB_of (List.mem_append_right _ (List.mem_of_getElem? (i := 65) (by decide +kernel))) rfl
theorem kw_66 : Cond.methodLink "DiceAudit$Dice" (3 : Nat) ({ cls := "java/lang/Object", name := "<init>", desc := "()V" } : Jvm.MethodName) ∈ kTB := kTB_of (List.mem_append_right _ (List.mem_of_getElem? (i := 66) (by decide +kernel))) rfl
theorem kw_67 : Cond.fieldLink "DiceAudit$Dice" (9 : Nat) "DiceAudit$Dice" "faceCounts" "[I" ∈ kTB := kTB_of (List.mem_append_right _ (List.mem_of_getElem? (i := 67) (by decide +kernel))) rfl
theorem kw_68 : Cond.fieldLink "DiceAudit$Dice" (15 : Nat) "DiceAudit$Dice" "weights" "[I" ∈ kTB := kTB_of (List.mem_append_right _ (List.mem_of_getElem? (i := 68) (by decide +kernel))) rfl
theorem kw_69 : Cond.fieldLink "DiceAudit$Dice" (18 : Nat) "DiceAudit$Dice" "count" "I" ∈ kTB := kTB_of (List.mem_append_right _ (List.mem_of_getElem? (i := 69) (by decide +kernel))) rfl
theorem kw_70 : Cond.fieldLink "DiceAudit$Loader" (113 : Nat) "DiceAudit$Dice" "count" "I" ∈ kTB := kTB_of (List.mem_append_right _ (List.mem_of_getElem? (i := 70) (by decide +kernel))) rfl
theorem kw_71 : Cond.fieldLink "DiceAudit" (131 : Nat) "DiceAudit$Dice" "count" "I" ∈ kTB := kTB_of (List.mem_append_right _ (List.mem_of_getElem? (i := 71) (by decide +kernel))) rfl
theorem kw_78 : Cond.superclass "DiceAudit$Dice" "java/lang/Object" ∈ kTB := kTB_of (List.mem_append_right _ (List.mem_of_getElem? (i := 78) (by decide +kernel))) rfl
theorem kw_79 : Cond.classLink "DiceAudit$Hall" (18 : Nat) "DiceAudit$Players" ∈ kTB := kTB_of (List.mem_append_right _ (List.mem_of_getElem? (i := 79) (by decide +kernel))) rfl
theorem kw_80 : Cond.instantiable "DiceAudit$Players" (3 : Nat) ∈ kTB := kTB_of (List.mem_append_right _ (List.mem_of_getElem? (i := 80) (by decide +kernel))) rfl
theorem kw_81 : Cond.methodLinkNest "DiceAudit$Hall" (20 : Nat) yX7_init "DiceAudit" ∈ kTN := kTN_of (List.mem_append_right _ (List.mem_of_getElem? (i := 81) (by decide +kernel))) rfl
theorem kw_82 : Cond.instanceMethod yX7_init ∈ kTB := kTB_of (List.mem_append_right _ (List.mem_of_getElem? (i := 82) (by decide +kernel))) rfl
theorem kw_83 : Cond.code yX7_init prog_9_method_1_code (1 : Nat) (Option.none : Option Jvm.ClassFile.FieldType) ∈ kTB := kTB_of (List.mem_append_right _ (List.mem_of_getElem? (i := 83) (by decide +kernel))) rfl
theorem kw_84 : Cond.methodLink "DiceAudit$Players" (3 : Nat) ({ cls := "java/lang/Object", name := "<init>", desc := "()V" } : Jvm.MethodName) ∈ kTB := kTB_of (List.mem_append_right _ (List.mem_of_getElem? (i := 84) (by decide +kernel))) rfl
theorem kw_85 : Cond.fieldLink "DiceAudit$Players" (9 : Nat) "DiceAudit$Players" "lengths" "[I" ∈ kTB := kTB_of (List.mem_append_right _ (List.mem_of_getElem? (i := 85) (by decide +kernel))) rfl
theorem kw_86 : Cond.fieldLink "DiceAudit$Players" (15 : Nat) "DiceAudit$Players" "letters" "[I" ∈ kTB := kTB_of (List.mem_append_right _ (List.mem_of_getElem? (i := 86) (by decide +kernel))) rfl
theorem kw_87 : Cond.fieldLink "DiceAudit$Players" (18 : Nat) "DiceAudit$Players" "count" "I" ∈ kTB := kTB_of (List.mem_append_right _ (List.mem_of_getElem? (i := 87) (by decide +kernel))) rfl
theorem kw_88 : Cond.fieldLink "DiceAudit$Loader" (135 : Nat) "DiceAudit$Players" "count" "I" ∈ kTB := kTB_of (List.mem_append_right _ (List.mem_of_getElem? (i := 88) (by decide +kernel))) rfl
theorem kw_89 : Cond.fieldLink "DiceAudit" (138 : Nat) "DiceAudit$Players" "count" "I" ∈ kTB := kTB_of (List.mem_append_right _ (List.mem_of_getElem? (i := 89) (by decide +kernel))) rfl
theorem kw_96 : Cond.superclass "DiceAudit$Players" "java/lang/Object" ∈ kTB := kTB_of (List.mem_append_right _ (List.mem_of_getElem? (i := 96) (by decide +kernel))) rfl
theorem kw_97 : Cond.classLink "DiceAudit$Hall" (25 : Nat) "DiceAudit$Ledger" ∈ kTB := kTB_of (List.mem_append_right _ (List.mem_of_getElem? (i := 97) (by decide +kernel))) rfl
theorem kw_98 : Cond.instantiable "DiceAudit$Ledger" (3 : Nat) ∈ kTB := kTB_of (List.mem_append_right _ (List.mem_of_getElem? (i := 98) (by decide +kernel))) rfl
theorem kw_99 : Cond.methodLinkNest "DiceAudit$Hall" (27 : Nat) yX4_init "DiceAudit" ∈ kTN := kTN_of (List.mem_append_right _ (List.mem_of_getElem? (i := 99) (by decide +kernel))) rfl
theorem kw_100 : Cond.instanceMethod yX4_init ∈ kTB := kTB_of (List.mem_append_right _ (List.mem_of_getElem? (i := 100) (by decide +kernel))) rfl
theorem kw_101 : Cond.code yX4_init prog_6_method_1_code (1 : Nat) (Option.none : Option Jvm.ClassFile.FieldType) ∈ kTB := kTB_of (List.mem_append_right _ (List.mem_of_getElem? (i := 101) (by decide +kernel))) rfl
theorem kw_102 : Cond.methodLink "DiceAudit$Ledger" (3 : Nat) ({ cls := "java/lang/Object", name := "<init>", desc := "()V" } : Jvm.MethodName) ∈ kTB := kTB_of (List.mem_append_right _ (List.mem_of_getElem? (i := 102) (by decide +kernel))) rfl
theorem kw_103 : Cond.fieldLink "DiceAudit$Ledger" (9 : Nat) "DiceAudit$Ledger" "entries" "[I" ∈ kTB := kTB_of (List.mem_append_right _ (List.mem_of_getElem? (i := 103) (by decide +kernel))) rfl
theorem kw_104 : Cond.fieldLink "DiceAudit$Ledger" (15 : Nat) "DiceAudit$Ledger" "frequencies" "[I" ∈ kTB := kTB_of (List.mem_append_right _ (List.mem_of_getElem? (i := 104) (by decide +kernel))) rfl
theorem kw_105 : Cond.fieldLink "DiceAudit$Hall" (86 : Nat) "DiceAudit$Ledger" "frequencies" "[I" ∈ kTB := kTB_of (List.mem_append_right _ (List.mem_of_getElem? (i := 105) (by decide +kernel))) rfl
theorem kw_106 : Cond.fieldLink "DiceAudit$Ledger" (18 : Nat) "DiceAudit$Ledger" "count" "I" ∈ kTB := kTB_of (List.mem_append_right _ (List.mem_of_getElem? (i := 106) (by decide +kernel))) rfl
theorem kw_107 : Cond.fieldLink "DiceAudit" (107 : Nat) "DiceAudit$Ledger" "count" "I" ∈ kTB := kTB_of (List.mem_append_right _ (List.mem_of_getElem? (i := 107) (by decide +kernel))) rfl
theorem kw_108 : Cond.fieldLink "DiceAudit$Loader" (165 : Nat) "DiceAudit$Ledger" "count" "I" ∈ kTB := kTB_of (List.mem_append_right _ (List.mem_of_getElem? (i := 108) (by decide +kernel))) rfl
theorem kw_115 : Cond.superclass "DiceAudit$Ledger" "java/lang/Object" ∈ kTB := kTB_of (List.mem_append_right _ (List.mem_of_getElem? (i := 115) (by decide +kernel))) rfl
theorem kw_116 : Cond.classLink "DiceAudit$Hall" (32 : Nat) "DiceAudit$Offences" ∈ kTB := kTB_of (List.mem_append_right _ (List.mem_of_getElem? (i := 116) (by decide +kernel))) rfl
theorem kw_117 : Cond.instantiable "DiceAudit$Offences" (3 : Nat) ∈ kTB := kTB_of (List.mem_append_right _ (List.mem_of_getElem? (i := 117) (by decide +kernel))) rfl
theorem kw_118 : Cond.methodLinkNest "DiceAudit$Hall" (34 : Nat) yX6_init "DiceAudit" ∈ kTN := kTN_of (List.mem_append_right _ (List.mem_of_getElem? (i := 118) (by decide +kernel))) rfl
theorem kw_119 : Cond.instanceMethod yX6_init ∈ kTB := kTB_of (List.mem_append_right _ (List.mem_of_getElem? (i := 119) (by decide +kernel))) rfl
theorem kw_120 : Cond.code yX6_init prog_8_method_1_code (1 : Nat) (Option.none : Option Jvm.ClassFile.FieldType) ∈ kTB := kTB_of (List.mem_append_right _ (List.mem_of_getElem? (i := 120) (by decide +kernel))) rfl
theorem kw_121 : Cond.methodLink "DiceAudit$Offences" (3 : Nat) ({ cls := "java/lang/Object", name := "<init>", desc := "()V" } : Jvm.MethodName) ∈ kTB := kTB_of (List.mem_append_right _ (List.mem_of_getElem? (i := 121) (by decide +kernel))) rfl
theorem kw_122 : Cond.fieldLink "DiceAudit$Offences" (9 : Nat) "DiceAudit$Offences" "pairs" "[I" ∈ kTB := kTB_of (List.mem_append_right _ (List.mem_of_getElem? (i := 122) (by decide +kernel))) rfl
theorem kw_123 : Cond.fieldLink "DiceAudit$Hall" (130 : Nat) "DiceAudit$Offences" "pairs" "[I" ∈ kTB := kTB_of (List.mem_append_right _ (List.mem_of_getElem? (i := 123) (by decide +kernel))) rfl
theorem kw_124 : Cond.fieldLink "DiceAudit" (265 : Nat) "DiceAudit$Offences" "pairs" "[I" ∈ kTB := kTB_of (List.mem_append_right _ (List.mem_of_getElem? (i := 124) (by decide +kernel))) rfl
theorem kw_125 : Cond.fieldLink "DiceAudit$Offences" (15 : Nat) "DiceAudit$Offences" "scores" "[I" ∈ kTB := kTB_of (List.mem_append_right _ (List.mem_of_getElem? (i := 125) (by decide +kernel))) rfl
theorem kw_126 : Cond.fieldLink "DiceAudit$Hall" (123 : Nat) "DiceAudit$Offences" "scores" "[I" ∈ kTB := kTB_of (List.mem_append_right _ (List.mem_of_getElem? (i := 126) (by decide +kernel))) rfl
theorem kw_127 : Cond.fieldLink "DiceAudit" (268 : Nat) "DiceAudit$Offences" "scores" "[I" ∈ kTB := kTB_of (List.mem_append_right _ (List.mem_of_getElem? (i := 127) (by decide +kernel))) rfl
theorem kw_128 : Cond.fieldLink "DiceAudit$Offences" (18 : Nat) "DiceAudit$Offences" "count" "I" ∈ kTB := kTB_of (List.mem_append_right _ (List.mem_of_getElem? (i := 128) (by decide +kernel))) rfl
theorem kw_129 : Cond.fieldLink "DiceAudit$Hall" (114 : Nat) "DiceAudit$Offences" "count" "I" ∈ kTB := kTB_of (List.mem_append_right _ (List.mem_of_getElem? (i := 129) (by decide +kernel))) rfl
theorem kw_130 : Cond.fieldLink "DiceAudit$Loader" (182 : Nat) "DiceAudit$Offences" "count" "I" ∈ kTB := kTB_of (List.mem_append_right _ (List.mem_of_getElem? (i := 130) (by decide +kernel))) rfl
theorem kw_131 : Cond.fieldLink "DiceAudit" (259 : Nat) "DiceAudit$Offences" "count" "I" ∈ kTB := kTB_of (List.mem_append_right _ (List.mem_of_getElem? (i := 131) (by decide +kernel))) rfl
theorem kw_138 : Cond.superclass "DiceAudit$Offences" "java/lang/Object" ∈ kTB := kTB_of (List.mem_append_right _ (List.mem_of_getElem? (i := 138) (by decide +kernel))) rfl
theorem kw_139 : Cond.fieldLink "DiceAudit$Hall" (12 : Nat) "DiceAudit$Hall" "dice" "LDiceAudit$Dice;" ∈ kTB := kTB_of (List.mem_append_right _ (List.mem_of_getElem? (i := 139) (by decide +kernel))) rfl
theorem kw_140 : Cond.fieldLink "DiceAudit$Loader" (109 : Nat) "DiceAudit$Hall" "dice" "LDiceAudit$Dice;" ∈ kTB := kTB_of (List.mem_append_right _ (List.mem_of_getElem? (i := 140) (by decide +kernel))) rfl
theorem kw_141 : Cond.fieldLink "DiceAudit" (127 : Nat) "DiceAudit$Hall" "dice" "LDiceAudit$Dice;" ∈ kTB := kTB_of (List.mem_append_right _ (List.mem_of_getElem? (i := 141) (by decide +kernel))) rfl
theorem kw_142 : Cond.fieldLink "DiceAudit$Hall" (21 : Nat) "DiceAudit$Hall" "players" "LDiceAudit$Players;" ∈ kTB := kTB_of (List.mem_append_right _ (List.mem_of_getElem? (i := 142) (by decide +kernel))) rfl
theorem kw_143 : Cond.fieldLink "DiceAudit$Loader" (131 : Nat) "DiceAudit$Hall" "players" "LDiceAudit$Players;" ∈ kTB := kTB_of (List.mem_append_right _ (List.mem_of_getElem? (i := 143) (by decide +kernel))) rfl
theorem kw_144 : Cond.fieldLink "DiceAudit" (134 : Nat) "DiceAudit$Hall" "players" "LDiceAudit$Players;" ∈ kTB := kTB_of (List.mem_append_right _ (List.mem_of_getElem? (i := 144) (by decide +kernel))) rfl
theorem kw_145 : Cond.fieldLink "DiceAudit$Hall" (28 : Nat) "DiceAudit$Hall" "ledger" "LDiceAudit$Ledger;" ∈ kTB := kTB_of (List.mem_append_right _ (List.mem_of_getElem? (i := 145) (by decide +kernel))) rfl
theorem kw_146 : Cond.fieldLink "DiceAudit" (103 : Nat) "DiceAudit$Hall" "ledger" "LDiceAudit$Ledger;" ∈ kTB := kTB_of (List.mem_append_right _ (List.mem_of_getElem? (i := 146) (by decide +kernel))) rfl
theorem kw_147 : Cond.fieldLink "DiceAudit$Loader" (161 : Nat) "DiceAudit$Hall" "ledger" "LDiceAudit$Ledger;" ∈ kTB := kTB_of (List.mem_append_right _ (List.mem_of_getElem? (i := 147) (by decide +kernel))) rfl
theorem kw_148 : Cond.fieldLink "DiceAudit$Hall" (35 : Nat) "DiceAudit$Hall" "offences" "LDiceAudit$Offences;" ∈ kTB := kTB_of (List.mem_append_right _ (List.mem_of_getElem? (i := 148) (by decide +kernel))) rfl
theorem kw_149 : Cond.fieldLink "DiceAudit$Loader" (178 : Nat) "DiceAudit$Hall" "offences" "LDiceAudit$Offences;" ∈ kTB := kTB_of (List.mem_append_right _ (List.mem_of_getElem? (i := 149) (by decide +kernel))) rfl
theorem kw_150 : Cond.fieldLink "DiceAudit" (255 : Nat) "DiceAudit$Hall" "offences" "LDiceAudit$Offences;" ∈ kTB := kTB_of (List.mem_append_right _ (List.mem_of_getElem? (i := 150) (by decide +kernel))) rfl
theorem kw_151 : Cond.fieldLink "DiceAudit$Hall" (39 : Nat) "DiceAudit$Hall" "seed" "I" ∈ kTB := kTB_of (List.mem_append_right _ (List.mem_of_getElem? (i := 151) (by decide +kernel))) rfl
theorem kw_152 : Cond.fieldLink "DiceAudit" (118 : Nat) "DiceAudit$Hall" "seed" "I" ∈ kTB := kTB_of (List.mem_append_right _ (List.mem_of_getElem? (i := 152) (by decide +kernel))) rfl
theorem kw_153 : Cond.fieldLink "DiceAudit$Hall" (43 : Nat) "DiceAudit$Hall" "minimum" "I" ∈ kTB := kTB_of (List.mem_append_right _ (List.mem_of_getElem? (i := 153) (by decide +kernel))) rfl
theorem kw_154 : Cond.fieldLink "DiceAudit" (121 : Nat) "DiceAudit$Hall" "minimum" "I" ∈ kTB := kTB_of (List.mem_append_right _ (List.mem_of_getElem? (i := 154) (by decide +kernel))) rfl
theorem kw_155 : Cond.fieldLink "DiceAudit$Hall" (46 : Nat) "DiceAudit$Hall" "threshold" "I" ∈ kTB := kTB_of (List.mem_append_right _ (List.mem_of_getElem? (i := 155) (by decide +kernel))) rfl
theorem kw_156 : Cond.fieldLink "DiceAudit" (124 : Nat) "DiceAudit$Hall" "threshold" "I" ∈ kTB := kTB_of (List.mem_append_right _ (List.mem_of_getElem? (i := 156) (by decide +kernel))) rfl
theorem kw_171 : Cond.superclass "DiceAudit$Hall" "java/lang/Object" ∈ kTB := kTB_of (List.mem_append_right _ (List.mem_of_getElem? (i := 171) (by decide +kernel))) rfl
theorem kw_172 : Cond.classLink "DiceAudit" (23 : Nat) "DiceAudit$Forecast" ∈ kTB := kTB_of (List.mem_append_right _ (List.mem_of_getElem? (i := 172) (by decide +kernel))) rfl
theorem kw_173 : Cond.instantiable "DiceAudit$Forecast" (3 : Nat) ∈ kTB := kTB_of (List.mem_append_right _ (List.mem_of_getElem? (i := 173) (by decide +kernel))) rfl
theorem kw_174 : Cond.methodLinkNest "DiceAudit" (25 : Nat) yX1_init "DiceAudit" ∈ kTN := kTN_of (List.mem_append_right _ (List.mem_of_getElem? (i := 174) (by decide +kernel))) rfl
theorem kw_175 : Cond.instanceMethod yX1_init ∈ kTB := kTB_of (List.mem_append_right _ (List.mem_of_getElem? (i := 175) (by decide +kernel))) rfl
theorem kw_176 : Cond.code yX1_init prog_3_method_1_code (1 : Nat) (Option.none : Option Jvm.ClassFile.FieldType) ∈ kTB := kTB_of (List.mem_append_right _ (List.mem_of_getElem? (i := 176) (by decide +kernel))) rfl
theorem kw_177 : Cond.methodLink "DiceAudit$Forecast" (3 : Nat) ({ cls := "java/lang/Object", name := "<init>", desc := "()V" } : Jvm.MethodName) ∈ kTB := kTB_of (List.mem_append_right _ (List.mem_of_getElem? (i := 177) (by decide +kernel))) rfl
theorem kw_178 : Cond.fieldLink "DiceAudit$Forecast" (9 : Nat) "DiceAudit$Forecast" "frequencies" "[I" ∈ kTB := kTB_of (List.mem_append_right _ (List.mem_of_getElem? (i := 178) (by decide +kernel))) rfl
theorem kw_179 : Cond.fieldLink "DiceAudit$Forecast" (15 : Nat) "DiceAudit$Forecast" "die" "I" ∈ kTB := kTB_of (List.mem_append_right _ (List.mem_of_getElem? (i := 179) (by decide +kernel))) rfl
theorem kw_180 : Cond.fieldLink "DiceAudit$Forecast" (19 : Nat) "DiceAudit$Forecast" "seed" "I" ∈ kTB := kTB_of (List.mem_append_right _ (List.mem_of_getElem? (i := 180) (by decide +kernel))) rfl
theorem kw_187 : Cond.superclass "DiceAudit$Forecast" "java/lang/Object" ∈ kTB := kTB_of (List.mem_append_right _ (List.mem_of_getElem? (i := 187) (by decide +kernel))) rfl
theorem kw_188 : Cond.classLink "DiceAudit" (30 : Nat) "DiceAudit$History" ∈ kTB := kTB_of (List.mem_append_right _ (List.mem_of_getElem? (i := 188) (by decide +kernel))) rfl
theorem kw_189 : Cond.instantiable "DiceAudit$History" (3 : Nat) ∈ kTB := kTB_of (List.mem_append_right _ (List.mem_of_getElem? (i := 189) (by decide +kernel))) rfl
theorem kw_190 : Cond.methodLink "DiceAudit" (32 : Nat) yX3_init ∈ kTB := kTB_of (List.mem_append_right _ (List.mem_of_getElem? (i := 190) (by decide +kernel))) rfl
theorem kw_191 : Cond.instanceMethod yX3_init ∈ kTB := kTB_of (List.mem_append_right _ (List.mem_of_getElem? (i := 191) (by decide +kernel))) rfl
theorem kw_192 : Cond.code yX3_init prog_5_method_1_code (2 : Nat) (Option.none : Option Jvm.ClassFile.FieldType) ∈ kTB := kTB_of (List.mem_append_right _ (List.mem_of_getElem? (i := 192) (by decide +kernel))) rfl
theorem kw_193 : Cond.methodLink "DiceAudit$History" (3 : Nat) ({ cls := "java/lang/Object", name := "<init>", desc := "()V" } : Jvm.MethodName) ∈ kTB := kTB_of (List.mem_append_right _ (List.mem_of_getElem? (i := 193) (by decide +kernel))) rfl
theorem kw_194 : Cond.classLink "DiceAudit$History" (9 : Nat) "DiceAudit$Hall" ∈ kTB := kTB_of (List.mem_append_right _ (List.mem_of_getElem? (i := 194) (by decide +kernel))) rfl
theorem kw_195 : Cond.arrayOver (Jvm.ClassFile.FieldType.object "DiceAudit$Hall") ∈ kTN := kTN_of (List.mem_append_right _ (List.mem_of_getElem? (i := 195) (by decide +kernel))) rfl
theorem kw_196 : Cond.methodLinkNest "DiceAudit$History" (24 : Nat) yX2_init "DiceAudit" ∈ kTN := kTN_of (List.mem_append_right _ (List.mem_of_getElem? (i := 196) (by decide +kernel))) rfl
theorem kw_197 : Cond.fieldLink "DiceAudit$History" (11 : Nat) "DiceAudit$History" "rows" "[LDiceAudit$Hall;" ∈ kTB := kTB_of (List.mem_append_right _ (List.mem_of_getElem? (i := 197) (by decide +kernel))) rfl
theorem kw_198 : Cond.fieldLink "DiceAudit$History" (17 : Nat) "DiceAudit$History" "next" "I" ∈ kTB := kTB_of (List.mem_append_right _ (List.mem_of_getElem? (i := 198) (by decide +kernel))) rfl
theorem kw_199 : Cond.fieldLink "DiceAudit$History" (21 : Nat) "DiceAudit$History" "depth" "I" ∈ kTB := kTB_of (List.mem_append_right _ (List.mem_of_getElem? (i := 199) (by decide +kernel))) rfl
theorem kw_206 : Cond.superclass "DiceAudit$History" "java/lang/Object" ∈ kTB := kTB_of (List.mem_append_right _ (List.mem_of_getElem? (i := 206) (by decide +kernel))) rfl
theorem kw_207 : Cond.classLink "DiceAudit" (45 : Nat) "DiceAudit$Loader" ∈ kTB := kTB_of (List.mem_append_right _ (List.mem_of_getElem? (i := 207) (by decide +kernel))) rfl
theorem kw_208 : Cond.instantiable "DiceAudit$Loader" (5 : Nat) ∈ kTB := kTB_of (List.mem_append_right _ (List.mem_of_getElem? (i := 208) (by decide +kernel))) rfl
theorem kw_209 : Cond.methodLink "DiceAudit" (47 : Nat) yX5_init ∈ kTB := kTB_of (List.mem_append_right _ (List.mem_of_getElem? (i := 209) (by decide +kernel))) rfl
theorem kw_210 : Cond.instanceMethod yX5_init ∈ kTB := kTB_of (List.mem_append_right _ (List.mem_of_getElem? (i := 210) (by decide +kernel))) rfl
theorem kw_211 : Cond.code yX5_init prog_7_method_1_code (2 : Nat) (Option.none : Option Jvm.ClassFile.FieldType) ∈ kTB := kTB_of (List.mem_append_right _ (List.mem_of_getElem? (i := 211) (by decide +kernel))) rfl
theorem kw_212 : Cond.methodLink "DiceAudit$Loader" (3 : Nat) ({ cls := "java/lang/Object", name := "<init>", desc := "()V" } : Jvm.MethodName) ∈ kTB := kTB_of (List.mem_append_right _ (List.mem_of_getElem? (i := 212) (by decide +kernel))) rfl
theorem kw_213 : Cond.classLink "DiceAudit$Loader" (9 : Nat) "DiceAudit$Hall" ∈ kTB := kTB_of (List.mem_append_right _ (List.mem_of_getElem? (i := 213) (by decide +kernel))) rfl
theorem kw_214 : Cond.methodLinkNest "DiceAudit$Loader" (11 : Nat) yX2_init "DiceAudit" ∈ kTN := kTN_of (List.mem_append_right _ (List.mem_of_getElem? (i := 214) (by decide +kernel))) rfl
theorem kw_215 : Cond.classLink "DiceAudit$Loader" (29 : Nat) "DiceAudit$Tokens" ∈ kTB := kTB_of (List.mem_append_right _ (List.mem_of_getElem? (i := 215) (by decide +kernel))) rfl
theorem kw_216 : Cond.instantiable "DiceAudit$Tokens" (5 : Nat) ∈ kTB := kTB_of (List.mem_append_right _ (List.mem_of_getElem? (i := 216) (by decide +kernel))) rfl
theorem kw_217 : Cond.methodLink "DiceAudit$Loader" (31 : Nat) yX9_init ∈ kTB := kTB_of (List.mem_append_right _ (List.mem_of_getElem? (i := 217) (by decide +kernel))) rfl
theorem kw_218 : Cond.instanceMethod yX9_init ∈ kTB := kTB_of (List.mem_append_right _ (List.mem_of_getElem? (i := 218) (by decide +kernel))) rfl
theorem kw_219 : Cond.code yX9_init prog_11_method_1_code (2 : Nat) (Option.none : Option Jvm.ClassFile.FieldType) ∈ kTB := kTB_of (List.mem_append_right _ (List.mem_of_getElem? (i := 219) (by decide +kernel))) rfl
theorem kw_220 : Cond.methodLink "DiceAudit$Tokens" (1 : Nat) ({ cls := "java/lang/Object", name := "<init>", desc := "()V" } : Jvm.MethodName) ∈ kTB := kTB_of (List.mem_append_right _ (List.mem_of_getElem? (i := 220) (by decide +kernel))) rfl
theorem kw_221 : Cond.fieldLink "DiceAudit$Tokens" (22 : Nat) "DiceAudit$Tokens" "text" "LDiceAudit$Text;" ∈ kTB := kTB_of (List.mem_append_right _ (List.mem_of_getElem? (i := 221) (by decide +kernel))) rfl
theorem kw_222 : Cond.fieldLink "DiceAudit$Tokens" (9 : Nat) "DiceAudit$Tokens" "kind" "I" ∈ kTB := kTB_of (List.mem_append_right _ (List.mem_of_getElem? (i := 222) (by decide +kernel))) rfl
theorem kw_223 : Cond.fieldLink "DiceAudit$Loader" (51 : Nat) "DiceAudit$Tokens" "kind" "I" ∈ kTB := kTB_of (List.mem_append_right _ (List.mem_of_getElem? (i := 223) (by decide +kernel))) rfl
theorem kw_224 : Cond.fieldLink "DiceAudit$Tokens" (13 : Nat) "DiceAudit$Tokens" "start" "I" ∈ kTB := kTB_of (List.mem_append_right _ (List.mem_of_getElem? (i := 224) (by decide +kernel))) rfl
theorem kw_225 : Cond.fieldLink "DiceAudit$Loader" (138 : Nat) "DiceAudit$Tokens" "start" "I" ∈ kTB := kTB_of (List.mem_append_right _ (List.mem_of_getElem? (i := 225) (by decide +kernel))) rfl
theorem kw_226 : Cond.fieldLink "DiceAudit$Tokens" (16 : Nat) "DiceAudit$Tokens" "end" "I" ∈ kTB := kTB_of (List.mem_append_right _ (List.mem_of_getElem? (i := 226) (by decide +kernel))) rfl
theorem kw_227 : Cond.fieldLink "DiceAudit$Loader" (141 : Nat) "DiceAudit$Tokens" "end" "I" ∈ kTB := kTB_of (List.mem_append_right _ (List.mem_of_getElem? (i := 227) (by decide +kernel))) rfl
theorem kw_228 : Cond.fieldLink "DiceAudit$Tokens" (19 : Nat) "DiceAudit$Tokens" "value" "I" ∈ kTB := kTB_of (List.mem_append_right _ (List.mem_of_getElem? (i := 228) (by decide +kernel))) rfl
theorem kw_229 : Cond.fieldLink "DiceAudit$Loader" (192 : Nat) "DiceAudit$Tokens" "value" "I" ∈ kTB := kTB_of (List.mem_append_right _ (List.mem_of_getElem? (i := 229) (by decide +kernel))) rfl
theorem kw_240 : Cond.superclass "DiceAudit$Tokens" "java/lang/Object" ∈ kTB := kTB_of (List.mem_append_right _ (List.mem_of_getElem? (i := 240) (by decide +kernel))) rfl
theorem kw_241 : Cond.fieldLink "DiceAudit$Loader" (25 : Nat) "DiceAudit$Loader" "text" "LDiceAudit$Text;" ∈ kTB := kTB_of (List.mem_append_right _ (List.mem_of_getElem? (i := 241) (by decide +kernel))) rfl
theorem kw_242 : Cond.fieldLink "DiceAudit$Loader" (34 : Nat) "DiceAudit$Loader" "tokens" "LDiceAudit$Tokens;" ∈ kTB := kTB_of (List.mem_append_right _ (List.mem_of_getElem? (i := 242) (by decide +kernel))) rfl
theorem kw_243 : Cond.fieldLink "DiceAudit$Loader" (12 : Nat) "DiceAudit$Loader" "draft" "LDiceAudit$Hall;" ∈ kTB := kTB_of (List.mem_append_right _ (List.mem_of_getElem? (i := 243) (by decide +kernel))) rfl
theorem kw_244 : Cond.fieldLink "DiceAudit" (71 : Nat) "DiceAudit$Loader" "draft" "LDiceAudit$Hall;" ∈ kTB := kTB_of (List.mem_append_right _ (List.mem_of_getElem? (i := 244) (by decide +kernel))) rfl
theorem kw_245 : Cond.fieldLink "DiceAudit$Loader" (18 : Nat) "DiceAudit$Loader" "error" "I" ∈ kTB := kTB_of (List.mem_append_right _ (List.mem_of_getElem? (i := 245) (by decide +kernel))) rfl
theorem kw_246 : Cond.fieldLink "DiceAudit" (112 : Nat) "DiceAudit$Loader" "error" "I" ∈ kTB := kTB_of (List.mem_append_right _ (List.mem_of_getElem? (i := 246) (by decide +kernel))) rfl
theorem kw_247 : Cond.fieldLink "DiceAudit$Loader" (22 : Nat) "DiceAudit$Loader" "errorOffset" "I" ∈ kTB := kTB_of (List.mem_append_right _ (List.mem_of_getElem? (i := 247) (by decide +kernel))) rfl
theorem kw_258 : Cond.superclass "DiceAudit$Loader" "java/lang/Object" ∈ kTB := kTB_of (List.mem_append_right _ (List.mem_of_getElem? (i := 258) (by decide +kernel))) rfl
theorem kw_260 : Cond.methodLink "DiceAudit" (52 : Nat) yX8_appendString ∈ kTB := kTB_of (List.mem_append_right _ (List.mem_of_getElem? (i := 260) (by decide +kernel))) rfl
theorem kw_261 : Cond.instanceMethod yX8_appendString ∈ kTB := kTB_of (List.mem_append_right _ (List.mem_of_getElem? (i := 261) (by decide +kernel))) rfl
theorem kw_262 : Cond.selects "DiceAudit$Text" yX8_appendString yX8_appendString ∈ kTB := kTB_of (List.mem_append_right _ (List.mem_of_getElem? (i := 262) (by decide +kernel))) rfl
theorem kw_263 : Cond.code yX8_appendString prog_10_method_5_code (3 : Nat) (Option.none : Option Jvm.ClassFile.FieldType) ∈ kTB := kTB_of (List.mem_append_right _ (List.mem_of_getElem? (i := 263) (by decide +kernel))) rfl
theorem kw_264 : Cond.methodLink "DiceAudit$Text" (27 : Nat) yJ0_length_8abf5 ∈ kTB := kTB_of (List.mem_append_right _ (List.mem_of_getElem? (i := 264) (by decide +kernel))) rfl
theorem kw_265 : Cond.instanceMethod yJ0_length_8abf5 ∈ kTB := kTB_of (List.mem_append_right _ (List.mem_of_getElem? (i := 265) (by decide +kernel))) rfl
theorem kw_266 : Cond.selects "java/lang/String" yJ0_length_8abf5 yJ0_length_8abf5 ∈ kTB := kTB_of (List.mem_append_right _ (List.mem_of_getElem? (i := 266) (by decide +kernel))) rfl
theorem kw_267 : Cond.code yJ0_length_8abf5 prog_25_method_54_code (1 : Nat) (Option.some Jvm.ClassFile.FieldType.int) ∈ kTB := kTB_of (List.mem_append_right _ (List.mem_of_getElem? (i := 267) (by decide +kernel))) rfl
theorem kw_268 : Cond.methodLink "java/lang/String" (335 : Nat) yJ0_coder_7d493 ∈ kTB := kTB_of (List.mem_append_right _ (List.mem_of_getElem? (i := 268) (by decide +kernel))) rfl
theorem kw_269 : Cond.instanceMethod yJ0_coder_7d493 ∈ kTB := kTB_of (List.mem_append_right _ (List.mem_of_getElem? (i := 269) (by decide +kernel))) rfl
theorem kw_270 : Cond.selects "java/lang/String" yJ0_coder_7d493 yJ0_coder_7d493 ∈ kTB := kTB_of (List.mem_append_right _ (List.mem_of_getElem? (i := 270) (by decide +kernel))) rfl
theorem kw_271 : Cond.code yJ0_coder_7d493 prog_25_method_152_code (1 : Nat) (Option.some Jvm.ClassFile.FieldType.byte) ∈ kTB := kTB_of (List.mem_append_right _ (List.mem_of_getElem? (i := 271) (by decide +kernel))) rfl
theorem kw_272 : Cond.fieldLink "java/lang/String" (38 : Nat) "java/lang/String" "COMPACT_STRINGS" "Z" ∈ kTB := kTB_of (List.mem_append_right _ (List.mem_of_getElem? (i := 272) (by decide +kernel))) rfl
theorem kw_274 : Cond.methodLink "DiceAudit$Text" (32 : Nat) yJ0_charAt_5068e ∈ kTB := kTB_of (List.mem_append_right _ (List.mem_of_getElem? (i := 274) (by decide +kernel))) rfl
theorem kw_275 : Cond.instanceMethod yJ0_charAt_5068e ∈ kTB := kTB_of (List.mem_append_right _ (List.mem_of_getElem? (i := 275) (by decide +kernel))) rfl
theorem kw_276 : Cond.selects "java/lang/String" yJ0_charAt_5068e yJ0_charAt_5068e ∈ kTB := kTB_of (List.mem_append_right _ (List.mem_of_getElem? (i := 276) (by decide +kernel))) rfl
theorem kw_277 : Cond.code yJ0_charAt_5068e prog_25_method_56_code (2 : Nat) (Option.some Jvm.ClassFile.FieldType.char) ∈ kTB := kTB_of (List.mem_append_right _ (List.mem_of_getElem? (i := 277) (by decide +kernel))) rfl
theorem kw_278 : Cond.methodLink "java/lang/String" (492 : Nat) yJ0_isLatin1_aae02 ∈ kTB := kTB_of (List.mem_append_right _ (List.mem_of_getElem? (i := 278) (by decide +kernel))) rfl
theorem kw_279 : Cond.instanceMethod yJ0_isLatin1_aae02 ∈ kTB := kTB_of (List.mem_append_right _ (List.mem_of_getElem? (i := 279) (by decide +kernel))) rfl
theorem kw_280 : Cond.selects "java/lang/String" yJ0_isLatin1_aae02 yJ0_isLatin1_aae02 ∈ kTB := kTB_of (List.mem_append_right _ (List.mem_of_getElem? (i := 280) (by decide +kernel))) rfl
theorem kw_281 : Cond.code yJ0_isLatin1_aae02 prog_25_method_154_code (1 : Nat) (Option.some Jvm.ClassFile.FieldType.boolean) ∈ kTB := kTB_of (List.mem_append_right _ (List.mem_of_getElem? (i := 281) (by decide +kernel))) rfl
theorem kw_282 : Cond.methodLink "java/lang/String" (495 : Nat) yJ1_charAt_3b067 ∈ kTB := kTB_of (List.mem_append_right _ (List.mem_of_getElem? (i := 282) (by decide +kernel))) rfl
theorem kw_283 : Cond.static yJ1_charAt_3b067 ∈ kTB := kTB_of (List.mem_append_right _ (List.mem_of_getElem? (i := 283) (by decide +kernel))) rfl
theorem kw_284 : Cond.code yJ1_charAt_3b067 prog_27_method_2_code (2 : Nat) (Option.some Jvm.ClassFile.FieldType.char) ∈ kTB := kTB_of (List.mem_append_right _ (List.mem_of_getElem? (i := 284) (by decide +kernel))) rfl
theorem kw_285 : Cond.methodLink "java/lang/StringLatin1" (9 : Nat) yJ0_checkIndex_df160 ∈ kTB := kTB_of (List.mem_append_right _ (List.mem_of_getElem? (i := 285) (by decide +kernel))) rfl
theorem kw_286 : Cond.static yJ0_checkIndex_df160 ∈ kTB := kTB_of (List.mem_append_right _ (List.mem_of_getElem? (i := 286) (by decide +kernel))) rfl
theorem kw_287 : Cond.code yJ0_checkIndex_df160 prog_25_method_155_code (2 : Nat) (Option.none : Option Jvm.ClassFile.FieldType) ∈ kTB := kTB_of (List.mem_append_right _ (List.mem_of_getElem? (i := 287) (by decide +kernel))) rfl
theorem kw_288 : Cond.fieldLink "java/lang/String" (1053 : Nat) "jdk/internal/util/Preconditions" "SIOOBE_FORMATTER" "Ljava/util/function/BiFunction;" ∈ kTB := kTB_of (List.mem_append_right _ (List.mem_of_getElem? (i := 288) (by decide +kernel))) rfl
theorem kw_290 : Cond.methodLink "java/lang/String" (1059 : Nat) yJ3_checkIndex_8e157 ∈ kTB := kTB_of (List.mem_append_right _ (List.mem_of_getElem? (i := 290) (by decide +kernel))) rfl
theorem kw_291 : Cond.static yJ3_checkIndex_8e157 ∈ kTB := kTB_of (List.mem_append_right _ (List.mem_of_getElem? (i := 291) (by decide +kernel))) rfl
theorem kw_292 : Cond.code yJ3_checkIndex_8e157 prog_33_method_11_code (3 : Nat) (Option.some Jvm.ClassFile.FieldType.int) ∈ kTB := kTB_of (List.mem_append_right _ (List.mem_of_getElem? (i := 292) (by decide +kernel))) rfl
theorem kw_293 : Cond.methodLink "java/lang/String" (498 : Nat) yJ2_charAt_3b067 ∈ kTB := kTB_of (List.mem_append_right _ (List.mem_of_getElem? (i := 293) (by decide +kernel))) rfl
theorem kw_294 : Cond.static yJ2_charAt_3b067 ∈ kTB := kTB_of (List.mem_append_right _ (List.mem_of_getElem? (i := 294) (by decide +kernel))) rfl
theorem kw_295 : Cond.code yJ2_charAt_3b067 prog_28_method_83_code (2 : Nat) (Option.some Jvm.ClassFile.FieldType.char) ∈ kTB := kTB_of (List.mem_append_right _ (List.mem_of_getElem? (i := 295) (by decide +kernel))) rfl
theorem kw_296 : Cond.methodLink "java/lang/StringUTF16" (67 : Nat) yJ2_checkIndex_2214a ∈ kTB := kTB_of (List.mem_append_right _ (List.mem_of_getElem? (i := 296) (by decide +kernel))) rfl
theorem kw_297 : Cond.static yJ2_checkIndex_2214a ∈ kTB := kTB_of (List.mem_append_right _ (List.mem_of_getElem? (i := 297) (by decide +kernel))) rfl
theorem kw_298 : Cond.code yJ2_checkIndex_2214a prog_28_method_91_code (2 : Nat) (Option.none : Option Jvm.ClassFile.FieldType) ∈ kTB := kTB_of (List.mem_append_right _ (List.mem_of_getElem? (i := 298) (by decide +kernel))) rfl
theorem kw_299 : Cond.methodLink "java/lang/StringUTF16" (48 : Nat) yJ2_length_9d52b ∈ kTB := kTB_of (List.mem_append_right _ (List.mem_of_getElem? (i := 299) (by decide +kernel))) rfl
theorem kw_300 : Cond.static yJ2_length_9d52b ∈ kTB := kTB_of (List.mem_append_right _ (List.mem_of_getElem? (i := 300) (by decide +kernel))) rfl
theorem kw_301 : Cond.code yJ2_length_9d52b prog_28_method_6_code (1 : Nat) (Option.some Jvm.ClassFile.FieldType.int) ∈ kTB := kTB_of (List.mem_append_right _ (List.mem_of_getElem? (i := 301) (by decide +kernel))) rfl
theorem kw_302 : Cond.methodLink "java/lang/StringUTF16" (414 : Nat) yJ0_checkIndex_df160 ∈ kTB := kTB_of (List.mem_append_right _ (List.mem_of_getElem? (i := 302) (by decide +kernel))) rfl
theorem kw_303 : Cond.methodLink "java/lang/StringUTF16" (71 : Nat) yJ2_getChar_3b067 ∈ kTB := kTB_of (List.mem_append_right _ (List.mem_of_getElem? (i := 303) (by decide +kernel))) rfl
theorem kw_304 : Cond.static yJ2_getChar_3b067 ∈ kTB := kTB_of (List.mem_append_right _ (List.mem_of_getElem? (i := 304) (by decide +kernel))) rfl
theorem kw_305 : Cond.code yJ2_getChar_3b067 prog_28_method_5_code (2 : Nat) (Option.some Jvm.ClassFile.FieldType.char) ∈ kTB := kTB_of (List.mem_append_right _ (List.mem_of_getElem? (i := 305) (by decide +kernel))) rfl
theorem kw_306 : Cond.fieldLink "java/lang/StringUTF16" (44 : Nat) "java/lang/StringUTF16" "$assertionsDisabled" "Z" ∈ kTB := kTB_of (List.mem_append_right _ (List.mem_of_getElem? (i := 306) (by decide +kernel))) rfl
theorem kw_308 : Cond.fieldLink "java/lang/StringUTF16" (59 : Nat) "java/lang/StringUTF16" "HI_BYTE_SHIFT" "I" ∈ kTB := kTB_of (List.mem_append_right _ (List.mem_of_getElem? (i := 308) (by decide +kernel))) rfl
theorem kw_310 : Cond.fieldLink "java/lang/StringUTF16" (63 : Nat) "java/lang/StringUTF16" "LO_BYTE_SHIFT" "I" ∈ kTB := kTB_of (List.mem_append_right _ (List.mem_of_getElem? (i := 310) (by decide +kernel))) rfl
theorem kw_312 : Cond.methodLink "DiceAudit$Text" (23 : Nat) yX8_append ∈ kTB := kTB_of (List.mem_append_right _ (List.mem_of_getElem? (i := 312) (by decide +kernel))) rfl
theorem kw_313 : Cond.instanceMethod yX8_append ∈ kTB := kTB_of (List.mem_append_right _ (List.mem_of_getElem? (i := 313) (by decide +kernel))) rfl
theorem kw_314 : Cond.selects "DiceAudit$Text" yX8_append yX8_append ∈ kTB := kTB_of (List.mem_append_right _ (List.mem_of_getElem? (i := 314) (by decide +kernel))) rfl
theorem kw_315 : Cond.code yX8_append prog_10_method_3_code (2 : Nat) (Option.none : Option Jvm.ClassFile.FieldType) ∈ kTB := kTB_of (List.mem_append_right _ (List.mem_of_getElem? (i := 315) (by decide +kernel))) rfl
theorem kw_316 : Cond.methodLinkNest "DiceAudit$Text" (19 : Nat) yX10_put "DiceAudit" ∈ kTN := kTN_of (List.mem_append_right _ (List.mem_of_getElem? (i := 316) (by decide +kernel))) rfl
theorem kw_317 : Cond.static yX10_put ∈ kTB := kTB_of (List.mem_append_right _ (List.mem_of_getElem? (i := 317) (by decide +kernel))) rfl
theorem kw_318 : Cond.code yX10_put prog_1_method_77_code (3 : Nat) (Option.none : Option Jvm.ClassFile.FieldType) ∈ kTB := kTB_of (List.mem_append_right _ (List.mem_of_getElem? (i := 318) (by decide +kernel))) rfl
theorem kw_319 : Cond.methodLink "DiceAudit" (56 : Nat) yX5_parse ∈ kTB := kTB_of (List.mem_append_right _ (List.mem_of_getElem? (i := 319) (by decide +kernel))) rfl
theorem kw_320 : Cond.instanceMethod yX5_parse ∈ kTB := kTB_of (List.mem_append_right _ (List.mem_of_getElem? (i := 320) (by decide +kernel))) rfl
theorem kw_321 : Cond.selects "DiceAudit$Loader" yX5_parse yX5_parse ∈ kTB := kTB_of (List.mem_append_right _ (List.mem_of_getElem? (i := 321) (by decide +kernel))) rfl
theorem kw_322 : Cond.code yX5_parse prog_7_method_2_code (2 : Nat) (Option.some Jvm.ClassFile.FieldType.boolean) ∈ kTB := kTB_of (List.mem_append_right _ (List.mem_of_getElem? (i := 322) (by decide +kernel))) rfl
theorem kw_323 : Cond.methodLink "DiceAudit$Loader" (38 : Nat) yX9_rewind ∈ kTB := kTB_of (List.mem_append_right _ (List.mem_of_getElem? (i := 323) (by decide +kernel))) rfl
theorem kw_324 : Cond.instanceMethod yX9_rewind ∈ kTB := kTB_of (List.mem_append_right _ (List.mem_of_getElem? (i := 324) (by decide +kernel))) rfl
theorem kw_325 : Cond.selects "DiceAudit$Tokens" yX9_rewind yX9_rewind ∈ kTB := kTB_of (List.mem_append_right _ (List.mem_of_getElem? (i := 325) (by decide +kernel))) rfl
theorem kw_326 : Cond.code yX9_rewind prog_11_method_2_code (1 : Nat) (Option.none : Option Jvm.ClassFile.FieldType) ∈ kTB := kTB_of (List.mem_append_right _ (List.mem_of_getElem? (i := 326) (by decide +kernel))) rfl
theorem kw_327 : Cond.methodLink "DiceAudit$Tokens" (26 : Nat) yX9_advance ∈ kTB := kTB_of (List.mem_append_right _ (List.mem_of_getElem? (i := 327) (by decide +kernel))) rfl
theorem kw_328 : Cond.instanceMethod yX9_advance ∈ kTB := kTB_of (List.mem_append_right _ (List.mem_of_getElem? (i := 328) (by decide +kernel))) rfl
theorem kw_329 : Cond.selects "DiceAudit$Tokens" yX9_advance yX9_advance ∈ kTB := kTB_of (List.mem_append_right _ (List.mem_of_getElem? (i := 329) (by decide +kernel))) rfl
theorem kw_330 : Cond.code yX9_advance prog_11_method_3_code (2 : Nat) (Option.none : Option Jvm.ClassFile.FieldType) ∈ kTB := kTB_of (List.mem_append_right _ (List.mem_of_getElem? (i := 330) (by decide +kernel))) rfl
theorem kw_331 : Cond.methodLink "DiceAudit$Tokens" (34 : Nat) yX8_byteIn ∈ kTB := kTB_of (List.mem_append_right _ (List.mem_of_getElem? (i := 331) (by decide +kernel))) rfl
theorem kw_332 : Cond.instanceMethod yX8_byteIn ∈ kTB := kTB_of (List.mem_append_right _ (List.mem_of_getElem? (i := 332) (by decide +kernel))) rfl
theorem kw_333 : Cond.selects "DiceAudit$Text" yX8_byteIn yX8_byteIn ∈ kTB := kTB_of (List.mem_append_right _ (List.mem_of_getElem? (i := 333) (by decide +kernel))) rfl
theorem kw_334 : Cond.code yX8_byteIn prog_10_method_2_code (2 : Nat) (Option.some Jvm.ClassFile.FieldType.int) ∈ kTB := kTB_of (List.mem_append_right _ (List.mem_of_getElem? (i := 334) (by decide +kernel))) rfl
theorem kw_335 : Cond.methodLink "DiceAudit$Tokens" (38 : Nat) yX9_isBlank ∈ kTB := kTB_of (List.mem_append_right _ (List.mem_of_getElem? (i := 335) (by decide +kernel))) rfl
theorem kw_336 : Cond.static yX9_isBlank ∈ kTB := kTB_of (List.mem_append_right _ (List.mem_of_getElem? (i := 336) (by decide +kernel))) rfl
theorem kw_337 : Cond.code yX9_isBlank prog_11_method_8_code (1 : Nat) (Option.some Jvm.ClassFile.FieldType.boolean) ∈ kTB := kTB_of (List.mem_append_right _ (List.mem_of_getElem? (i := 337) (by decide +kernel))) rfl
theorem kw_338 : Cond.methodLink "DiceAudit$Tokens" (42 : Nat) yX9_isLetter ∈ kTB := kTB_of (List.mem_append_right _ (List.mem_of_getElem? (i := 338) (by decide +kernel))) rfl
theorem kw_339 : Cond.static yX9_isLetter ∈ kTB := kTB_of (List.mem_append_right _ (List.mem_of_getElem? (i := 339) (by decide +kernel))) rfl
theorem kw_340 : Cond.code yX9_isLetter prog_11_method_9_code (1 : Nat) (Option.some Jvm.ClassFile.FieldType.boolean) ∈ kTB := kTB_of (List.mem_append_right _ (List.mem_of_getElem? (i := 340) (by decide +kernel))) rfl
theorem kw_341 : Cond.methodLink "DiceAudit$Tokens" (45 : Nat) yX9_passLetters ∈ kTB := kTB_of (List.mem_append_right _ (List.mem_of_getElem? (i := 341) (by decide +kernel))) rfl
theorem kw_343 : Cond.instanceMethod yX9_passLetters ∈ kTB := kTB_of (List.mem_append_right _ (List.mem_of_getElem? (i := 343) (by decide +kernel))) rfl
theorem kw_344 : Cond.code yX9_passLetters prog_11_method_4_code (1 : Nat) (Option.none : Option Jvm.ClassFile.FieldType) ∈ kTB := kTB_of (List.mem_append_right _ (List.mem_of_getElem? (i := 344) (by decide +kernel))) rfl
theorem kw_345 : Cond.methodLink "DiceAudit$Tokens" (48 : Nat) yX9_isDigit ∈ kTB := kTB_of (List.mem_append_right _ (List.mem_of_getElem? (i := 345) (by decide +kernel))) rfl
theorem kw_346 : Cond.static yX9_isDigit ∈ kTB := kTB_of (List.mem_append_right _ (List.mem_of_getElem? (i := 346) (by decide +kernel))) rfl
theorem kw_347 : Cond.code yX9_isDigit prog_11_method_10_code (1 : Nat) (Option.some Jvm.ClassFile.FieldType.boolean) ∈ kTB := kTB_of (List.mem_append_right _ (List.mem_of_getElem? (i := 347) (by decide +kernel))) rfl
theorem kw_348 : Cond.methodLink "DiceAudit$Tokens" (51 : Nat) yX9_passDigits ∈ kTB := kTB_of (List.mem_append_right _ (List.mem_of_getElem? (i := 348) (by decide +kernel))) rfl
theorem kw_350 : Cond.instanceMethod yX9_passDigits ∈ kTB := kTB_of (List.mem_append_right _ (List.mem_of_getElem? (i := 350) (by decide +kernel))) rfl
theorem kw_351 : Cond.code yX9_passDigits prog_11_method_5_code (1 : Nat) (Option.none : Option Jvm.ClassFile.FieldType) ∈ kTB := kTB_of (List.mem_append_right _ (List.mem_of_getElem? (i := 351) (by decide +kernel))) rfl
theorem kw_352 : Cond.constant "DiceAudit$Tokens" (54 : Nat) (1000000 : Int32) ∈ kTB := kTB_of (List.mem_append_right _ (List.mem_of_getElem? (i := 352) (by decide +kernel))) rfl
theorem kw_353 : Cond.methodLink "DiceAudit$Tokens" (55 : Nat) yJ9_min_7cf53 ∈ kTB := kTB_of (List.mem_append_right _ (List.mem_of_getElem? (i := 353) (by decide +kernel))) rfl
theorem kw_354 : Cond.static yJ9_min_7cf53 ∈ kTB := kTB_of (List.mem_append_right _ (List.mem_of_getElem? (i := 354) (by decide +kernel))) rfl
theorem kw_355 : Cond.code yJ9_min_7cf53 prog_22_method_69_code (2 : Nat) (Option.some Jvm.ClassFile.FieldType.int) ∈ kTB := kTB_of (List.mem_append_right _ (List.mem_of_getElem? (i := 355) (by decide +kernel))) rfl
theorem kw_356 : Cond.methodLink "DiceAudit$Loader" (41 : Nat) yX5_readHall ∈ kTB := kTB_of (List.mem_append_right _ (List.mem_of_getElem? (i := 356) (by decide +kernel))) rfl
theorem kw_358 : Cond.instanceMethod yX5_readHall ∈ kTB := kTB_of (List.mem_append_right _ (List.mem_of_getElem? (i := 358) (by decide +kernel))) rfl
theorem kw_359 : Cond.code yX5_readHall prog_7_method_4_code (4 : Nat) (Option.none : Option Jvm.ClassFile.FieldType) ∈ kTB := kTB_of (List.mem_append_right _ (List.mem_of_getElem? (i := 359) (by decide +kernel))) rfl
theorem kw_361 : Cond.methodLink "DiceAudit$Loader" (56 : Nat) yX9_isWord ∈ kTB := kTB_of (List.mem_append_right _ (List.mem_of_getElem? (i := 361) (by decide +kernel))) rfl
theorem kw_362 : Cond.instanceMethod yX9_isWord ∈ kTB := kTB_of (List.mem_append_right _ (List.mem_of_getElem? (i := 362) (by decide +kernel))) rfl
theorem kw_363 : Cond.selects "DiceAudit$Tokens" yX9_isWord yX9_isWord ∈ kTB := kTB_of (List.mem_append_right _ (List.mem_of_getElem? (i := 363) (by decide +kernel))) rfl
theorem kw_364 : Cond.code yX9_isWord prog_11_method_6_code (3 : Nat) (Option.some Jvm.ClassFile.FieldType.boolean) ∈ kTB := kTB_of (List.mem_append_right _ (List.mem_of_getElem? (i := 364) (by decide +kernel))) rfl
theorem kw_365 : Cond.methodLink "DiceAudit$Tokens" (61 : Nat) yJ0_length_8abf5 ∈ kTB := kTB_of (List.mem_append_right _ (List.mem_of_getElem? (i := 365) (by decide +kernel))) rfl
theorem kw_366 : Cond.methodLink "DiceAudit$Tokens" (66 : Nat) yJ0_charAt_5068e ∈ kTB := kTB_of (List.mem_append_right _ (List.mem_of_getElem? (i := 366) (by decide +kernel))) rfl
theorem kw_367 : Cond.methodLink "DiceAudit$Loader" (60 : Nat) yX5_takeKeyword ∈ kTB := kTB_of (List.mem_append_right _ (List.mem_of_getElem? (i := 367) (by decide +kernel))) rfl
theorem kw_369 : Cond.instanceMethod yX5_takeKeyword ∈ kTB := kTB_of (List.mem_append_right _ (List.mem_of_getElem? (i := 369) (by decide +kernel))) rfl
theorem kw_370 : Cond.code yX5_takeKeyword prog_7_method_14_code (2 : Nat) (Option.none : Option Jvm.ClassFile.FieldType) ∈ kTB := kTB_of (List.mem_append_right _ (List.mem_of_getElem? (i := 370) (by decide +kernel))) rfl
theorem kw_371 : Cond.methodLink "DiceAudit$Loader" (106 : Nat) yX5_fail ∈ kTB := kTB_of (List.mem_append_right _ (List.mem_of_getElem? (i := 371) (by decide +kernel))) rfl
theorem kw_373 : Cond.instanceMethod yX5_fail ∈ kTB := kTB_of (List.mem_append_right _ (List.mem_of_getElem? (i := 373) (by decide +kernel))) rfl
theorem kw_374 : Cond.code yX5_fail prog_7_method_18_code (2 : Nat) (Option.none : Option Jvm.ClassFile.FieldType) ∈ kTB := kTB_of (List.mem_append_right _ (List.mem_of_getElem? (i := 374) (by decide +kernel))) rfl
theorem kw_375 : Cond.methodLink "DiceAudit$Loader" (154 : Nat) yX9_advance ∈ kTB := kTB_of (List.mem_append_right _ (List.mem_of_getElem? (i := 375) (by decide +kernel))) rfl
theorem kw_376 : Cond.constant "DiceAudit$Loader" (64 : Nat) (65536 : Int32) ∈ kTB := kTB_of (List.mem_append_right _ (List.mem_of_getElem? (i := 376) (by decide +kernel))) rfl
theorem kw_377 : Cond.methodLink "DiceAudit$Loader" (65 : Nat) yX5_takeNumber ∈ kTB := kTB_of (List.mem_append_right _ (List.mem_of_getElem? (i := 377) (by decide +kernel))) rfl
theorem kw_379 : Cond.instanceMethod yX5_takeNumber ∈ kTB := kTB_of (List.mem_append_right _ (List.mem_of_getElem? (i := 379) (by decide +kernel))) rfl
theorem kw_380 : Cond.code yX5_takeNumber prog_7_method_16_code (4 : Nat) (Option.some Jvm.ClassFile.FieldType.int) ∈ kTB := kTB_of (List.mem_append_right _ (List.mem_of_getElem? (i := 380) (by decide +kernel))) rfl
theorem kw_381 : Cond.methodLink "DiceAudit$Loader" (121 : Nat) yX5_isNumberIn ∈ kTB := kTB_of (List.mem_append_right _ (List.mem_of_getElem? (i := 381) (by decide +kernel))) rfl
theorem kw_383 : Cond.instanceMethod yX5_isNumberIn ∈ kTB := kTB_of (List.mem_append_right _ (List.mem_of_getElem? (i := 383) (by decide +kernel))) rfl
theorem kw_384 : Cond.code yX5_isNumberIn prog_7_method_15_code (3 : Nat) (Option.some Jvm.ClassFile.FieldType.boolean) ∈ kTB := kTB_of (List.mem_append_right _ (List.mem_of_getElem? (i := 384) (by decide +kernel))) rfl
theorem kw_385 : Cond.methodLink "DiceAudit$Loader" (69 : Nat) yX5_takeSemicolon ∈ kTB := kTB_of (List.mem_append_right _ (List.mem_of_getElem? (i := 385) (by decide +kernel))) rfl
theorem kw_387 : Cond.instanceMethod yX5_takeSemicolon ∈ kTB := kTB_of (List.mem_append_right _ (List.mem_of_getElem? (i := 387) (by decide +kernel))) rfl
theorem kw_388 : Cond.code yX5_takeSemicolon prog_7_method_17_code (2 : Nat) (Option.none : Option Jvm.ClassFile.FieldType) ∈ kTB := kTB_of (List.mem_append_right _ (List.mem_of_getElem? (i := 388) (by decide +kernel))) rfl
theorem kw_389 : Cond.methodLink "DiceAudit$Loader" (118 : Nat) yX9_isSemicolon ∈ kTB := kTB_of (List.mem_append_right _ (List.mem_of_getElem? (i := 389) (by decide +kernel))) rfl
theorem kw_390 : Cond.instanceMethod yX9_isSemicolon ∈ kTB := kTB_of (List.mem_append_right _ (List.mem_of_getElem? (i := 390) (by decide +kernel))) rfl
theorem kw_391 : Cond.selects "DiceAudit$Tokens" yX9_isSemicolon yX9_isSemicolon ∈ kTB := kTB_of (List.mem_append_right _ (List.mem_of_getElem? (i := 391) (by decide +kernel))) rfl
theorem kw_392 : Cond.code yX9_isSemicolon prog_11_method_7_code (1 : Nat) (Option.some Jvm.ClassFile.FieldType.boolean) ∈ kTB := kTB_of (List.mem_append_right _ (List.mem_of_getElem? (i := 392) (by decide +kernel))) rfl
theorem kw_393 : Cond.methodLink "DiceAudit$Loader" (72 : Nat) yX2_begin ∈ kTB := kTB_of (List.mem_append_right _ (List.mem_of_getElem? (i := 393) (by decide +kernel))) rfl
theorem kw_394 : Cond.instanceMethod yX2_begin ∈ kTB := kTB_of (List.mem_append_right _ (List.mem_of_getElem? (i := 394) (by decide +kernel))) rfl
theorem kw_395 : Cond.selects "DiceAudit$Hall" yX2_begin yX2_begin ∈ kTB := kTB_of (List.mem_append_right _ (List.mem_of_getElem? (i := 395) (by decide +kernel))) rfl
theorem kw_396 : Cond.code yX2_begin prog_4_method_2_code (4 : Nat) (Option.none : Option Jvm.ClassFile.FieldType) ∈ kTB := kTB_of (List.mem_append_right _ (List.mem_of_getElem? (i := 396) (by decide +kernel))) rfl
theorem kw_397 : Cond.methodLink "DiceAudit$Hall" (49 : Nat) yX0_clear ∈ kTB := kTB_of (List.mem_append_right _ (List.mem_of_getElem? (i := 397) (by decide +kernel))) rfl
theorem kw_398 : Cond.instanceMethod yX0_clear ∈ kTB := kTB_of (List.mem_append_right _ (List.mem_of_getElem? (i := 398) (by decide +kernel))) rfl
theorem kw_399 : Cond.selects "DiceAudit$Dice" yX0_clear yX0_clear ∈ kTB := kTB_of (List.mem_append_right _ (List.mem_of_getElem? (i := 399) (by decide +kernel))) rfl
theorem kw_400 : Cond.code yX0_clear prog_2_method_2_code (1 : Nat) (Option.none : Option Jvm.ClassFile.FieldType) ∈ kTB := kTB_of (List.mem_append_right _ (List.mem_of_getElem? (i := 400) (by decide +kernel))) rfl
theorem kw_401 : Cond.methodLink "DiceAudit$Hall" (52 : Nat) yX7_clear ∈ kTB := kTB_of (List.mem_append_right _ (List.mem_of_getElem? (i := 401) (by decide +kernel))) rfl
theorem kw_402 : Cond.instanceMethod yX7_clear ∈ kTB := kTB_of (List.mem_append_right _ (List.mem_of_getElem? (i := 402) (by decide +kernel))) rfl
theorem kw_403 : Cond.selects "DiceAudit$Players" yX7_clear yX7_clear ∈ kTB := kTB_of (List.mem_append_right _ (List.mem_of_getElem? (i := 403) (by decide +kernel))) rfl
theorem kw_404 : Cond.code yX7_clear prog_9_method_2_code (1 : Nat) (Option.none : Option Jvm.ClassFile.FieldType) ∈ kTB := kTB_of (List.mem_append_right _ (List.mem_of_getElem? (i := 404) (by decide +kernel))) rfl
theorem kw_405 : Cond.methodLink "DiceAudit$Hall" (53 : Nat) yX4_clear ∈ kTB := kTB_of (List.mem_append_right _ (List.mem_of_getElem? (i := 405) (by decide +kernel))) rfl
theorem kw_406 : Cond.instanceMethod yX4_clear ∈ kTB := kTB_of (List.mem_append_right _ (List.mem_of_getElem? (i := 406) (by decide +kernel))) rfl
theorem kw_407 : Cond.selects "DiceAudit$Ledger" yX4_clear yX4_clear ∈ kTB := kTB_of (List.mem_append_right _ (List.mem_of_getElem? (i := 407) (by decide +kernel))) rfl
theorem kw_408 : Cond.code yX4_clear prog_6_method_2_code (1 : Nat) (Option.none : Option Jvm.ClassFile.FieldType) ∈ kTB := kTB_of (List.mem_append_right _ (List.mem_of_getElem? (i := 408) (by decide +kernel))) rfl
theorem kw_409 : Cond.methodLink "DiceAudit$Ledger" (22 : Nat) yJ7_fill_53178 ∈ kTB := kTB_of (List.mem_append_right _ (List.mem_of_getElem? (i := 409) (by decide +kernel))) rfl
theorem kw_410 : Cond.static yJ7_fill_53178 ∈ kTB := kTB_of (List.mem_append_right _ (List.mem_of_getElem? (i := 410) (by decide +kernel))) rfl
theorem kw_411 : Cond.code yJ7_fill_53178 prog_31_method_103_code (4 : Nat) (Option.none : Option Jvm.ClassFile.FieldType) ∈ kTB := kTB_of (List.mem_append_right _ (List.mem_of_getElem? (i := 411) (by decide +kernel))) rfl
theorem kw_412 : Cond.methodLink "DiceAudit$Hall" (54 : Nat) yX6_clear ∈ kTB := kTB_of (List.mem_append_right _ (List.mem_of_getElem? (i := 412) (by decide +kernel))) rfl
theorem kw_413 : Cond.instanceMethod yX6_clear ∈ kTB := kTB_of (List.mem_append_right _ (List.mem_of_getElem? (i := 413) (by decide +kernel))) rfl
theorem kw_414 : Cond.selects "DiceAudit$Offences" yX6_clear yX6_clear ∈ kTB := kTB_of (List.mem_append_right _ (List.mem_of_getElem? (i := 414) (by decide +kernel))) rfl
theorem kw_415 : Cond.code yX6_clear prog_8_method_2_code (1 : Nat) (Option.none : Option Jvm.ClassFile.FieldType) ∈ kTB := kTB_of (List.mem_append_right _ (List.mem_of_getElem? (i := 415) (by decide +kernel))) rfl
theorem kw_416 : Cond.methodLink "DiceAudit$Loader" (44 : Nat) yX5_hasMore ∈ kTB := kTB_of (List.mem_append_right _ (List.mem_of_getElem? (i := 416) (by decide +kernel))) rfl
theorem kw_418 : Cond.instanceMethod yX5_hasMore ∈ kTB := kTB_of (List.mem_append_right _ (List.mem_of_getElem? (i := 418) (by decide +kernel))) rfl
theorem kw_419 : Cond.code yX5_hasMore prog_7_method_3_code (1 : Nat) (Option.some Jvm.ClassFile.FieldType.boolean) ∈ kTB := kTB_of (List.mem_append_right _ (List.mem_of_getElem? (i := 419) (by decide +kernel))) rfl
theorem kw_420 : Cond.methodLink "DiceAudit$Loader" (48 : Nat) yX5_readStatement ∈ kTB := kTB_of (List.mem_append_right _ (List.mem_of_getElem? (i := 420) (by decide +kernel))) rfl
theorem kw_422 : Cond.instanceMethod yX5_readStatement ∈ kTB := kTB_of (List.mem_append_right _ (List.mem_of_getElem? (i := 422) (by decide +kernel))) rfl
theorem kw_423 : Cond.code yX5_readStatement prog_7_method_5_code (1 : Nat) (Option.none : Option Jvm.ClassFile.FieldType) ∈ kTB := kTB_of (List.mem_append_right _ (List.mem_of_getElem? (i := 423) (by decide +kernel))) rfl
theorem kw_425 : Cond.methodLink "DiceAudit$Loader" (78 : Nat) yX5_readDie ∈ kTB := kTB_of (List.mem_append_right _ (List.mem_of_getElem? (i := 425) (by decide +kernel))) rfl
theorem kw_427 : Cond.instanceMethod yX5_readDie ∈ kTB := kTB_of (List.mem_append_right _ (List.mem_of_getElem? (i := 427) (by decide +kernel))) rfl
theorem kw_428 : Cond.code yX5_readDie prog_7_method_6_code (5 : Nat) (Option.none : Option Jvm.ClassFile.FieldType) ∈ kTB := kTB_of (List.mem_append_right _ (List.mem_of_getElem? (i := 428) (by decide +kernel))) rfl
theorem kw_429 : Cond.methodLink "DiceAudit$Loader" (125 : Nat) yX0_putWeight ∈ kTB := kTB_of (List.mem_append_right _ (List.mem_of_getElem? (i := 429) (by decide +kernel))) rfl
theorem kw_430 : Cond.instanceMethod yX0_putWeight ∈ kTB := kTB_of (List.mem_append_right _ (List.mem_of_getElem? (i := 430) (by decide +kernel))) rfl
theorem kw_431 : Cond.selects "DiceAudit$Dice" yX0_putWeight yX0_putWeight ∈ kTB := kTB_of (List.mem_append_right _ (List.mem_of_getElem? (i := 431) (by decide +kernel))) rfl
theorem kw_432 : Cond.code yX0_putWeight prog_2_method_7_code (4 : Nat) (Option.none : Option Jvm.ClassFile.FieldType) ∈ kTB := kTB_of (List.mem_append_right _ (List.mem_of_getElem? (i := 432) (by decide +kernel))) rfl
theorem kw_433 : Cond.methodLinkNest "DiceAudit$Dice" (34 : Nat) yX10_cellOf "DiceAudit" ∈ kTN := kTN_of (List.mem_append_right _ (List.mem_of_getElem? (i := 433) (by decide +kernel))) rfl
theorem kw_434 : Cond.static yX10_cellOf ∈ kTB := kTB_of (List.mem_append_right _ (List.mem_of_getElem? (i := 434) (by decide +kernel))) rfl
theorem kw_435 : Cond.code yX10_cellOf prog_1_method_86_code (2 : Nat) (Option.some Jvm.ClassFile.FieldType.int) ∈ kTB := kTB_of (List.mem_append_right _ (List.mem_of_getElem? (i := 435) (by decide +kernel))) rfl
theorem kw_436 : Cond.methodLinkNest "DiceAudit$Dice" (26 : Nat) yX10_put "DiceAudit" ∈ kTN := kTN_of (List.mem_append_right _ (List.mem_of_getElem? (i := 436) (by decide +kernel))) rfl
theorem kw_437 : Cond.methodLink "DiceAudit$Loader" (128 : Nat) yX0_add ∈ kTB := kTB_of (List.mem_append_right _ (List.mem_of_getElem? (i := 437) (by decide +kernel))) rfl
theorem kw_438 : Cond.instanceMethod yX0_add ∈ kTB := kTB_of (List.mem_append_right _ (List.mem_of_getElem? (i := 438) (by decide +kernel))) rfl
theorem kw_439 : Cond.selects "DiceAudit$Dice" yX0_add yX0_add ∈ kTB := kTB_of (List.mem_append_right _ (List.mem_of_getElem? (i := 439) (by decide +kernel))) rfl
theorem kw_440 : Cond.code yX0_add prog_2_method_4_code (2 : Nat) (Option.none : Option Jvm.ClassFile.FieldType) ∈ kTB := kTB_of (List.mem_append_right _ (List.mem_of_getElem? (i := 440) (by decide +kernel))) rfl
theorem kw_442 : Cond.methodLink "DiceAudit$Loader" (83 : Nat) yX5_readPlayer ∈ kTB := kTB_of (List.mem_append_right _ (List.mem_of_getElem? (i := 442) (by decide +kernel))) rfl
theorem kw_444 : Cond.instanceMethod yX5_readPlayer ∈ kTB := kTB_of (List.mem_append_right _ (List.mem_of_getElem? (i := 444) (by decide +kernel))) rfl
theorem kw_445 : Cond.code yX5_readPlayer prog_7_method_7_code (3 : Nat) (Option.none : Option Jvm.ClassFile.FieldType) ∈ kTB := kTB_of (List.mem_append_right _ (List.mem_of_getElem? (i := 445) (by decide +kernel))) rfl
theorem kw_446 : Cond.methodLink "DiceAudit$Loader" (144 : Nat) yX5_takeNewName ∈ kTB := kTB_of (List.mem_append_right _ (List.mem_of_getElem? (i := 446) (by decide +kernel))) rfl
theorem kw_448 : Cond.instanceMethod yX5_takeNewName ∈ kTB := kTB_of (List.mem_append_right _ (List.mem_of_getElem? (i := 448) (by decide +kernel))) rfl
theorem kw_449 : Cond.code yX5_takeNewName prog_7_method_8_code (1 : Nat) (Option.none : Option Jvm.ClassFile.FieldType) ∈ kTB := kTB_of (List.mem_append_right _ (List.mem_of_getElem? (i := 449) (by decide +kernel))) rfl
theorem kw_450 : Cond.methodLink "DiceAudit$Loader" (150 : Nat) yX7_find ∈ kTB := kTB_of (List.mem_append_right _ (List.mem_of_getElem? (i := 450) (by decide +kernel))) rfl
theorem kw_451 : Cond.instanceMethod yX7_find ∈ kTB := kTB_of (List.mem_append_right _ (List.mem_of_getElem? (i := 451) (by decide +kernel))) rfl
theorem kw_452 : Cond.selects "DiceAudit$Players" yX7_find yX7_find ∈ kTB := kTB_of (List.mem_append_right _ (List.mem_of_getElem? (i := 452) (by decide +kernel))) rfl
theorem kw_453 : Cond.code yX7_find prog_9_method_7_code (5 : Nat) (Option.some Jvm.ClassFile.FieldType.int) ∈ kTB := kTB_of (List.mem_append_right _ (List.mem_of_getElem? (i := 453) (by decide +kernel))) rfl
theorem kw_454 : Cond.methodLink "DiceAudit$Players" (40 : Nat) yX7_isNamed ∈ kTB := kTB_of (List.mem_append_right _ (List.mem_of_getElem? (i := 454) (by decide +kernel))) rfl
theorem kw_456 : Cond.instanceMethod yX7_isNamed ∈ kTB := kTB_of (List.mem_append_right _ (List.mem_of_getElem? (i := 456) (by decide +kernel))) rfl
theorem kw_457 : Cond.code yX7_isNamed prog_9_method_8_code (7 : Nat) (Option.some Jvm.ClassFile.FieldType.boolean) ∈ kTB := kTB_of (List.mem_append_right _ (List.mem_of_getElem? (i := 457) (by decide +kernel))) rfl
theorem kw_458 : Cond.methodLinkNest "DiceAudit$Players" (36 : Nat) yX10_at "DiceAudit" ∈ kTN := kTN_of (List.mem_append_right _ (List.mem_of_getElem? (i := 458) (by decide +kernel))) rfl
theorem kw_459 : Cond.static yX10_at ∈ kTB := kTB_of (List.mem_append_right _ (List.mem_of_getElem? (i := 459) (by decide +kernel))) rfl
theorem kw_460 : Cond.code yX10_at prog_1_method_76_code (2 : Nat) (Option.some Jvm.ClassFile.FieldType.int) ∈ kTB := kTB_of (List.mem_append_right _ (List.mem_of_getElem? (i := 460) (by decide +kernel))) rfl
theorem kw_461 : Cond.methodLink "DiceAudit$Players" (26 : Nat) yX8_byteIn ∈ kTB := kTB_of (List.mem_append_right _ (List.mem_of_getElem? (i := 461) (by decide +kernel))) rfl
theorem kw_462 : Cond.methodLink "DiceAudit$Loader" (147 : Nat) yX7_add ∈ kTB := kTB_of (List.mem_append_right _ (List.mem_of_getElem? (i := 462) (by decide +kernel))) rfl
theorem kw_463 : Cond.instanceMethod yX7_add ∈ kTB := kTB_of (List.mem_append_right _ (List.mem_of_getElem? (i := 463) (by decide +kernel))) rfl
theorem kw_464 : Cond.selects "DiceAudit$Players" yX7_add yX7_add ∈ kTB := kTB_of (List.mem_append_right _ (List.mem_of_getElem? (i := 464) (by decide +kernel))) rfl
theorem kw_465 : Cond.code yX7_add prog_9_method_4_code (5 : Nat) (Option.none : Option Jvm.ClassFile.FieldType) ∈ kTB := kTB_of (List.mem_append_right _ (List.mem_of_getElem? (i := 465) (by decide +kernel))) rfl
theorem kw_466 : Cond.methodLinkNest "DiceAudit$Players" (32 : Nat) yX10_put "DiceAudit" ∈ kTN := kTN_of (List.mem_append_right _ (List.mem_of_getElem? (i := 466) (by decide +kernel))) rfl
theorem kw_468 : Cond.methodLink "DiceAudit$Loader" (88 : Nat) yX5_readThrow ∈ kTB := kTB_of (List.mem_append_right _ (List.mem_of_getElem? (i := 468) (by decide +kernel))) rfl
theorem kw_470 : Cond.instanceMethod yX5_readThrow ∈ kTB := kTB_of (List.mem_append_right _ (List.mem_of_getElem? (i := 470) (by decide +kernel))) rfl
theorem kw_471 : Cond.code yX5_readThrow prog_7_method_9_code (4 : Nat) (Option.none : Option Jvm.ClassFile.FieldType) ∈ kTB := kTB_of (List.mem_append_right _ (List.mem_of_getElem? (i := 471) (by decide +kernel))) rfl
theorem kw_472 : Cond.methodLink "DiceAudit$Loader" (157 : Nat) yX5_takeKnownName ∈ kTB := kTB_of (List.mem_append_right _ (List.mem_of_getElem? (i := 472) (by decide +kernel))) rfl
theorem kw_474 : Cond.instanceMethod yX5_takeKnownName ∈ kTB := kTB_of (List.mem_append_right _ (List.mem_of_getElem? (i := 474) (by decide +kernel))) rfl
theorem kw_475 : Cond.code yX5_takeKnownName prog_7_method_13_code (2 : Nat) (Option.some Jvm.ClassFile.FieldType.int) ∈ kTB := kTB_of (List.mem_append_right _ (List.mem_of_getElem? (i := 475) (by decide +kernel))) rfl
theorem kw_476 : Cond.methodLinkNest "DiceAudit$Loader" (168 : Nat) yX10_pairOf "DiceAudit" ∈ kTN := kTN_of (List.mem_append_right _ (List.mem_of_getElem? (i := 476) (by decide +kernel))) rfl
theorem kw_477 : Cond.static yX10_pairOf ∈ kTB := kTB_of (List.mem_append_right _ (List.mem_of_getElem? (i := 477) (by decide +kernel))) rfl
theorem kw_478 : Cond.code yX10_pairOf prog_1_method_83_code (2 : Nat) (Option.some Jvm.ClassFile.FieldType.int) ∈ kTB := kTB_of (List.mem_append_right _ (List.mem_of_getElem? (i := 478) (by decide +kernel))) rfl
theorem kw_479 : Cond.methodLink "DiceAudit$Loader" (171 : Nat) yX2_makeThrows ∈ kTB := kTB_of (List.mem_append_right _ (List.mem_of_getElem? (i := 479) (by decide +kernel))) rfl
theorem kw_480 : Cond.instanceMethod yX2_makeThrows ∈ kTB := kTB_of (List.mem_append_right _ (List.mem_of_getElem? (i := 480) (by decide +kernel))) rfl
theorem kw_481 : Cond.selects "DiceAudit$Hall" yX2_makeThrows yX2_makeThrows ∈ kTB := kTB_of (List.mem_append_right _ (List.mem_of_getElem? (i := 481) (by decide +kernel))) rfl
theorem kw_482 : Cond.code yX2_makeThrows prog_4_method_4_code (8 : Nat) (Option.some Jvm.ClassFile.FieldType.int) ∈ kTB := kTB_of (List.mem_append_right _ (List.mem_of_getElem? (i := 482) (by decide +kernel))) rfl
theorem kw_483 : Cond.methodLinkNest "DiceAudit$Hall" (68 : Nat) yX10_dieOf "DiceAudit" ∈ kTN := kTN_of (List.mem_append_right _ (List.mem_of_getElem? (i := 483) (by decide +kernel))) rfl
theorem kw_484 : Cond.static yX10_dieOf ∈ kTB := kTB_of (List.mem_append_right _ (List.mem_of_getElem? (i := 484) (by decide +kernel))) rfl
theorem kw_485 : Cond.code yX10_dieOf prog_1_method_85_code (1 : Nat) (Option.some Jvm.ClassFile.FieldType.int) ∈ kTB := kTB_of (List.mem_append_right _ (List.mem_of_getElem? (i := 485) (by decide +kernel))) rfl
theorem kw_486 : Cond.methodLinkNest "DiceAudit$Hall" (72 : Nat) yX10_nextSeed "DiceAudit" ∈ kTN := kTN_of (List.mem_append_right _ (List.mem_of_getElem? (i := 486) (by decide +kernel))) rfl
theorem kw_487 : Cond.static yX10_nextSeed ∈ kTB := kTB_of (List.mem_append_right _ (List.mem_of_getElem? (i := 487) (by decide +kernel))) rfl
theorem kw_488 : Cond.code yX10_nextSeed prog_1_method_82_code (1 : Nat) (Option.some Jvm.ClassFile.FieldType.int) ∈ kTB := kTB_of (List.mem_append_right _ (List.mem_of_getElem? (i := 488) (by decide +kernel))) rfl
theorem kw_489 : Cond.constant "DiceAudit" (392 : Nat) (65537 : Int32) ∈ kTB := kTB_of (List.mem_append_right _ (List.mem_of_getElem? (i := 489) (by decide +kernel))) rfl
theorem kw_490 : Cond.methodLink "DiceAudit$Hall" (75 : Nat) yX0_fairFaceShown ∈ kTB := kTB_of (List.mem_append_right _ (List.mem_of_getElem? (i := 490) (by decide +kernel))) rfl
theorem kw_491 : Cond.instanceMethod yX0_fairFaceShown ∈ kTB := kTB_of (List.mem_append_right _ (List.mem_of_getElem? (i := 491) (by decide +kernel))) rfl
theorem kw_492 : Cond.selects "DiceAudit$Dice" yX0_fairFaceShown yX0_fairFaceShown ∈ kTB := kTB_of (List.mem_append_right _ (List.mem_of_getElem? (i := 492) (by decide +kernel))) rfl
theorem kw_493 : Cond.code yX0_fairFaceShown prog_2_method_11_code (4 : Nat) (Option.some Jvm.ClassFile.FieldType.int) ∈ kTB := kTB_of (List.mem_append_right _ (List.mem_of_getElem? (i := 493) (by decide +kernel))) rfl
theorem kw_494 : Cond.methodLinkNest "DiceAudit$Dice" (30 : Nat) yX10_at "DiceAudit" ∈ kTN := kTN_of (List.mem_append_right _ (List.mem_of_getElem? (i := 494) (by decide +kernel))) rfl
theorem kw_495 : Cond.methodLink "DiceAudit$Hall" (79 : Nat) yX0_faceShown ∈ kTB := kTB_of (List.mem_append_right _ (List.mem_of_getElem? (i := 495) (by decide +kernel))) rfl
theorem kw_496 : Cond.instanceMethod yX0_faceShown ∈ kTB := kTB_of (List.mem_append_right _ (List.mem_of_getElem? (i := 496) (by decide +kernel))) rfl
theorem kw_497 : Cond.selects "DiceAudit$Dice" yX0_faceShown yX0_faceShown ∈ kTB := kTB_of (List.mem_append_right _ (List.mem_of_getElem? (i := 497) (by decide +kernel))) rfl
theorem kw_498 : Cond.code yX0_faceShown prog_2_method_10_code (8 : Nat) (Option.some Jvm.ClassFile.FieldType.int) ∈ kTB := kTB_of (List.mem_append_right _ (List.mem_of_getElem? (i := 498) (by decide +kernel))) rfl
theorem kw_499 : Cond.methodLinkNest "DiceAudit$Dice" (42 : Nat) yX10_sumOf "DiceAudit" ∈ kTN := kTN_of (List.mem_append_right _ (List.mem_of_getElem? (i := 499) (by decide +kernel))) rfl
theorem kw_500 : Cond.static yX10_sumOf ∈ kTB := kTB_of (List.mem_append_right _ (List.mem_of_getElem? (i := 500) (by decide +kernel))) rfl
theorem kw_501 : Cond.code yX10_sumOf prog_1_method_79_code (6 : Nat) (Option.some Jvm.ClassFile.FieldType.int) ∈ kTB := kTB_of (List.mem_append_right _ (List.mem_of_getElem? (i := 501) (by decide +kernel))) rfl
theorem kw_502 : Cond.methodLink "DiceAudit$Hall" (82 : Nat) yX4_add ∈ kTB := kTB_of (List.mem_append_right _ (List.mem_of_getElem? (i := 502) (by decide +kernel))) rfl
theorem kw_503 : Cond.instanceMethod yX4_add ∈ kTB := kTB_of (List.mem_append_right _ (List.mem_of_getElem? (i := 503) (by decide +kernel))) rfl
theorem kw_504 : Cond.selects "DiceAudit$Ledger" yX4_add yX4_add ∈ kTB := kTB_of (List.mem_append_right _ (List.mem_of_getElem? (i := 504) (by decide +kernel))) rfl
theorem kw_505 : Cond.code yX4_add prog_6_method_4_code (5 : Nat) (Option.none : Option Jvm.ClassFile.FieldType) ∈ kTB := kTB_of (List.mem_append_right _ (List.mem_of_getElem? (i := 505) (by decide +kernel))) rfl
theorem kw_506 : Cond.methodLinkNest "DiceAudit$Ledger" (32 : Nat) yX10_put "DiceAudit" ∈ kTN := kTN_of (List.mem_append_right _ (List.mem_of_getElem? (i := 506) (by decide +kernel))) rfl
theorem kw_507 : Cond.methodLinkNest "DiceAudit$Ledger" (36 : Nat) yX10_cellOf "DiceAudit" ∈ kTN := kTN_of (List.mem_append_right _ (List.mem_of_getElem? (i := 507) (by decide +kernel))) rfl
theorem kw_508 : Cond.methodLinkNest "DiceAudit$Ledger" (40 : Nat) yX10_at "DiceAudit" ∈ kTN := kTN_of (List.mem_append_right _ (List.mem_of_getElem? (i := 508) (by decide +kernel))) rfl
theorem kw_510 : Cond.methodLink "DiceAudit$Loader" (93 : Nat) yX5_readAudit ∈ kTB := kTB_of (List.mem_append_right _ (List.mem_of_getElem? (i := 510) (by decide +kernel))) rfl
theorem kw_512 : Cond.instanceMethod yX5_readAudit ∈ kTB := kTB_of (List.mem_append_right _ (List.mem_of_getElem? (i := 512) (by decide +kernel))) rfl
theorem kw_513 : Cond.code yX5_readAudit prog_7_method_10_code (1 : Nat) (Option.none : Option Jvm.ClassFile.FieldType) ∈ kTB := kTB_of (List.mem_append_right _ (List.mem_of_getElem? (i := 513) (by decide +kernel))) rfl
theorem kw_514 : Cond.methodLink "DiceAudit$Loader" (175 : Nat) yX2_holdAudit ∈ kTB := kTB_of (List.mem_append_right _ (List.mem_of_getElem? (i := 514) (by decide +kernel))) rfl
theorem kw_515 : Cond.instanceMethod yX2_holdAudit ∈ kTB := kTB_of (List.mem_append_right _ (List.mem_of_getElem? (i := 515) (by decide +kernel))) rfl
theorem kw_516 : Cond.selects "DiceAudit$Hall" yX2_holdAudit yX2_holdAudit ∈ kTB := kTB_of (List.mem_append_right _ (List.mem_of_getElem? (i := 516) (by decide +kernel))) rfl
theorem kw_517 : Cond.code yX2_holdAudit prog_4_method_10_code (4 : Nat) (Option.some Jvm.ClassFile.FieldType.int) ∈ kTB := kTB_of (List.mem_append_right _ (List.mem_of_getElem? (i := 517) (by decide +kernel))) rfl
theorem kw_518 : Cond.methodLink "DiceAudit$Hall" (103 : Nat) yX2_pairScore ∈ kTB := kTB_of (List.mem_append_right _ (List.mem_of_getElem? (i := 518) (by decide +kernel))) rfl
theorem kw_519 : Cond.instanceMethod yX2_pairScore ∈ kTB := kTB_of (List.mem_append_right _ (List.mem_of_getElem? (i := 519) (by decide +kernel))) rfl
theorem kw_520 : Cond.selects "DiceAudit$Hall" yX2_pairScore yX2_pairScore ∈ kTB := kTB_of (List.mem_append_right _ (List.mem_of_getElem? (i := 520) (by decide +kernel))) rfl
theorem kw_521 : Cond.code yX2_pairScore prog_4_method_5_code (2 : Nat) (Option.some Jvm.ClassFile.FieldType.int) ∈ kTB := kTB_of (List.mem_append_right _ (List.mem_of_getElem? (i := 521) (by decide +kernel))) rfl
theorem kw_522 : Cond.methodLinkNest "DiceAudit$Hall" (90 : Nat) yX10_cellOf "DiceAudit" ∈ kTN := kTN_of (List.mem_append_right _ (List.mem_of_getElem? (i := 522) (by decide +kernel))) rfl
theorem kw_523 : Cond.methodLink "DiceAudit$Hall" (93 : Nat) yX0_faceCount ∈ kTB := kTB_of (List.mem_append_right _ (List.mem_of_getElem? (i := 523) (by decide +kernel))) rfl
theorem kw_524 : Cond.instanceMethod yX0_faceCount ∈ kTB := kTB_of (List.mem_append_right _ (List.mem_of_getElem? (i := 524) (by decide +kernel))) rfl
theorem kw_525 : Cond.selects "DiceAudit$Dice" yX0_faceCount yX0_faceCount ∈ kTB := kTB_of (List.mem_append_right _ (List.mem_of_getElem? (i := 525) (by decide +kernel))) rfl
theorem kw_526 : Cond.code yX0_faceCount prog_2_method_5_code (2 : Nat) (Option.some Jvm.ClassFile.FieldType.int) ∈ kTB := kTB_of (List.mem_append_right _ (List.mem_of_getElem? (i := 526) (by decide +kernel))) rfl
theorem kw_527 : Cond.methodLinkNest "DiceAudit$Hall" (96 : Nat) yX10_testScore "DiceAudit" ∈ kTN := kTN_of (List.mem_append_right _ (List.mem_of_getElem? (i := 527) (by decide +kernel))) rfl
theorem kw_528 : Cond.static yX10_testScore ∈ kTB := kTB_of (List.mem_append_right _ (List.mem_of_getElem? (i := 528) (by decide +kernel))) rfl
theorem kw_529 : Cond.code yX10_testScore prog_1_method_81_code (8 : Nat) (Option.some Jvm.ClassFile.FieldType.int) ∈ kTB := kTB_of (List.mem_append_right _ (List.mem_of_getElem? (i := 529) (by decide +kernel))) rfl
theorem kw_530 : Cond.methodLink "DiceAudit" (389 : Nat) yX10_sumOf ∈ kTB := kTB_of (List.mem_append_right _ (List.mem_of_getElem? (i := 530) (by decide +kernel))) rfl
theorem kw_531 : Cond.methodLink "DiceAudit" (232 : Nat) yX10_at ∈ kTB := kTB_of (List.mem_append_right _ (List.mem_of_getElem? (i := 531) (by decide +kernel))) rfl
theorem kw_532 : Cond.methodLink "DiceAudit$Hall" (100 : Nat) yX4_pairThrows ∈ kTB := kTB_of (List.mem_append_right _ (List.mem_of_getElem? (i := 532) (by decide +kernel))) rfl
theorem kw_533 : Cond.instanceMethod yX4_pairThrows ∈ kTB := kTB_of (List.mem_append_right _ (List.mem_of_getElem? (i := 533) (by decide +kernel))) rfl
theorem kw_534 : Cond.selects "DiceAudit$Ledger" yX4_pairThrows yX4_pairThrows ∈ kTB := kTB_of (List.mem_append_right _ (List.mem_of_getElem? (i := 534) (by decide +kernel))) rfl
theorem kw_535 : Cond.code yX4_pairThrows prog_6_method_9_code (2 : Nat) (Option.some Jvm.ClassFile.FieldType.int) ∈ kTB := kTB_of (List.mem_append_right _ (List.mem_of_getElem? (i := 535) (by decide +kernel))) rfl
theorem kw_536 : Cond.methodLinkNest "DiceAudit$Ledger" (65 : Nat) yX10_sumOf "DiceAudit" ∈ kTN := kTN_of (List.mem_append_right _ (List.mem_of_getElem? (i := 536) (by decide +kernel))) rfl
theorem kw_537 : Cond.methodLink "DiceAudit$Hall" (106 : Nat) yX2_exceedsLimits ∈ kTB := kTB_of (List.mem_append_right _ (List.mem_of_getElem? (i := 537) (by decide +kernel))) rfl
theorem kw_538 : Cond.instanceMethod yX2_exceedsLimits ∈ kTB := kTB_of (List.mem_append_right _ (List.mem_of_getElem? (i := 538) (by decide +kernel))) rfl
theorem kw_539 : Cond.selects "DiceAudit$Hall" yX2_exceedsLimits yX2_exceedsLimits ∈ kTB := kTB_of (List.mem_append_right _ (List.mem_of_getElem? (i := 539) (by decide +kernel))) rfl
theorem kw_540 : Cond.code yX2_exceedsLimits prog_4_method_6_code (3 : Nat) (Option.some Jvm.ClassFile.FieldType.boolean) ∈ kTB := kTB_of (List.mem_append_right _ (List.mem_of_getElem? (i := 540) (by decide +kernel))) rfl
theorem kw_541 : Cond.methodLink "DiceAudit$Hall" (117 : Nat) yX6_has ∈ kTB := kTB_of (List.mem_append_right _ (List.mem_of_getElem? (i := 541) (by decide +kernel))) rfl
theorem kw_542 : Cond.instanceMethod yX6_has ∈ kTB := kTB_of (List.mem_append_right _ (List.mem_of_getElem? (i := 542) (by decide +kernel))) rfl
theorem kw_543 : Cond.selects "DiceAudit$Offences" yX6_has yX6_has ∈ kTB := kTB_of (List.mem_append_right _ (List.mem_of_getElem? (i := 543) (by decide +kernel))) rfl
theorem kw_544 : Cond.code yX6_has prog_8_method_4_code (3 : Nat) (Option.some Jvm.ClassFile.FieldType.boolean) ∈ kTB := kTB_of (List.mem_append_right _ (List.mem_of_getElem? (i := 544) (by decide +kernel))) rfl
theorem kw_545 : Cond.methodLinkNest "DiceAudit$Offences" (26 : Nat) yX10_at "DiceAudit" ∈ kTN := kTN_of (List.mem_append_right _ (List.mem_of_getElem? (i := 545) (by decide +kernel))) rfl
theorem kw_546 : Cond.methodLink "DiceAudit$Hall" (120 : Nat) yX6_add ∈ kTB := kTB_of (List.mem_append_right _ (List.mem_of_getElem? (i := 546) (by decide +kernel))) rfl
theorem kw_547 : Cond.instanceMethod yX6_add ∈ kTB := kTB_of (List.mem_append_right _ (List.mem_of_getElem? (i := 547) (by decide +kernel))) rfl
theorem kw_548 : Cond.selects "DiceAudit$Offences" yX6_add yX6_add ∈ kTB := kTB_of (List.mem_append_right _ (List.mem_of_getElem? (i := 548) (by decide +kernel))) rfl
theorem kw_549 : Cond.code yX6_add prog_8_method_5_code (4 : Nat) (Option.none : Option Jvm.ClassFile.FieldType) ∈ kTB := kTB_of (List.mem_append_right _ (List.mem_of_getElem? (i := 549) (by decide +kernel))) rfl
theorem kw_550 : Cond.methodLink "DiceAudit$Offences" (30 : Nat) yX6_goesBefore ∈ kTB := kTB_of (List.mem_append_right _ (List.mem_of_getElem? (i := 550) (by decide +kernel))) rfl
theorem kw_552 : Cond.instanceMethod yX6_goesBefore ∈ kTB := kTB_of (List.mem_append_right _ (List.mem_of_getElem? (i := 552) (by decide +kernel))) rfl
theorem kw_553 : Cond.code yX6_goesBefore prog_8_method_6_code (5 : Nat) (Option.some Jvm.ClassFile.FieldType.boolean) ∈ kTB := kTB_of (List.mem_append_right _ (List.mem_of_getElem? (i := 553) (by decide +kernel))) rfl
theorem kw_554 : Cond.methodLink "DiceAudit$Offences" (34 : Nat) yX6_set ∈ kTB := kTB_of (List.mem_append_right _ (List.mem_of_getElem? (i := 554) (by decide +kernel))) rfl
theorem kw_556 : Cond.instanceMethod yX6_set ∈ kTB := kTB_of (List.mem_append_right _ (List.mem_of_getElem? (i := 556) (by decide +kernel))) rfl
theorem kw_557 : Cond.code yX6_set prog_8_method_7_code (4 : Nat) (Option.none : Option Jvm.ClassFile.FieldType) ∈ kTB := kTB_of (List.mem_append_right _ (List.mem_of_getElem? (i := 557) (by decide +kernel))) rfl
theorem kw_558 : Cond.methodLinkNest "DiceAudit$Offences" (38 : Nat) yX10_put "DiceAudit" ∈ kTN := kTN_of (List.mem_append_right _ (List.mem_of_getElem? (i := 558) (by decide +kernel))) rfl
theorem kw_560 : Cond.methodLink "DiceAudit$Loader" (98 : Nat) yX5_readAbsolve ∈ kTB := kTB_of (List.mem_append_right _ (List.mem_of_getElem? (i := 560) (by decide +kernel))) rfl
theorem kw_562 : Cond.instanceMethod yX5_readAbsolve ∈ kTB := kTB_of (List.mem_append_right _ (List.mem_of_getElem? (i := 562) (by decide +kernel))) rfl
theorem kw_563 : Cond.code yX5_readAbsolve prog_7_method_11_code (1 : Nat) (Option.none : Option Jvm.ClassFile.FieldType) ∈ kTB := kTB_of (List.mem_append_right _ (List.mem_of_getElem? (i := 563) (by decide +kernel))) rfl
theorem kw_564 : Cond.methodLink "DiceAudit$Loader" (185 : Nat) yX2_doPenance ∈ kTB := kTB_of (List.mem_append_right _ (List.mem_of_getElem? (i := 564) (by decide +kernel))) rfl
theorem kw_565 : Cond.instanceMethod yX2_doPenance ∈ kTB := kTB_of (List.mem_append_right _ (List.mem_of_getElem? (i := 565) (by decide +kernel))) rfl
theorem kw_566 : Cond.selects "DiceAudit$Hall" yX2_doPenance yX2_doPenance ∈ kTB := kTB_of (List.mem_append_right _ (List.mem_of_getElem? (i := 566) (by decide +kernel))) rfl
theorem kw_567 : Cond.code yX2_doPenance prog_4_method_12_code (3 : Nat) (Option.some Jvm.ClassFile.FieldType.int) ∈ kTB := kTB_of (List.mem_append_right _ (List.mem_of_getElem? (i := 567) (by decide +kernel))) rfl
theorem kw_568 : Cond.methodLink "DiceAudit$Hall" (138 : Nat) yX2_penanceSize ∈ kTB := kTB_of (List.mem_append_right _ (List.mem_of_getElem? (i := 568) (by decide +kernel))) rfl
theorem kw_569 : Cond.instanceMethod yX2_penanceSize ∈ kTB := kTB_of (List.mem_append_right _ (List.mem_of_getElem? (i := 569) (by decide +kernel))) rfl
theorem kw_570 : Cond.selects "DiceAudit$Hall" yX2_penanceSize yX2_penanceSize ∈ kTB := kTB_of (List.mem_append_right _ (List.mem_of_getElem? (i := 570) (by decide +kernel))) rfl
theorem kw_571 : Cond.code yX2_penanceSize prog_4_method_11_code (1 : Nat) (Option.some Jvm.ClassFile.FieldType.int) ∈ kTB := kTB_of (List.mem_append_right _ (List.mem_of_getElem? (i := 571) (by decide +kernel))) rfl
theorem kw_572 : Cond.methodLinkNest "DiceAudit$Hall" (126 : Nat) yX10_at "DiceAudit" ∈ kTN := kTN_of (List.mem_append_right _ (List.mem_of_getElem? (i := 572) (by decide +kernel))) rfl
theorem kw_573 : Cond.methodLink "DiceAudit$Hall" (133 : Nat) yJ9_min_7cf53 ∈ kTB := kTB_of (List.mem_append_right _ (List.mem_of_getElem? (i := 573) (by decide +kernel))) rfl
theorem kw_574 : Cond.methodLink "DiceAudit$Hall" (142 : Nat) yX6_removeFirst ∈ kTB := kTB_of (List.mem_append_right _ (List.mem_of_getElem? (i := 574) (by decide +kernel))) rfl
theorem kw_575 : Cond.instanceMethod yX6_removeFirst ∈ kTB := kTB_of (List.mem_append_right _ (List.mem_of_getElem? (i := 575) (by decide +kernel))) rfl
theorem kw_576 : Cond.selects "DiceAudit$Offences" yX6_removeFirst yX6_removeFirst ∈ kTB := kTB_of (List.mem_append_right _ (List.mem_of_getElem? (i := 576) (by decide +kernel))) rfl
theorem kw_577 : Cond.code yX6_removeFirst prog_8_method_8_code (2 : Nat) (Option.none : Option Jvm.ClassFile.FieldType) ∈ kTB := kTB_of (List.mem_append_right _ (List.mem_of_getElem? (i := 577) (by decide +kernel))) rfl
theorem kw_578 : Cond.methodLink "DiceAudit$Offences" (42 : Nat) yJ9_max_7cf53 ∈ kTB := kTB_of (List.mem_append_right _ (List.mem_of_getElem? (i := 578) (by decide +kernel))) rfl
theorem kw_579 : Cond.static yJ9_max_7cf53 ∈ kTB := kTB_of (List.mem_append_right _ (List.mem_of_getElem? (i := 579) (by decide +kernel))) rfl
theorem kw_580 : Cond.code yJ9_max_7cf53 prog_22_method_65_code (2 : Nat) (Option.some Jvm.ClassFile.FieldType.int) ∈ kTB := kTB_of (List.mem_append_right _ (List.mem_of_getElem? (i := 580) (by decide +kernel))) rfl
theorem kw_581 : Cond.methodLink "DiceAudit$Hall" (145 : Nat) yX4_removeLatest ∈ kTB := kTB_of (List.mem_append_right _ (List.mem_of_getElem? (i := 581) (by decide +kernel))) rfl
theorem kw_582 : Cond.instanceMethod yX4_removeLatest ∈ kTB := kTB_of (List.mem_append_right _ (List.mem_of_getElem? (i := 582) (by decide +kernel))) rfl
theorem kw_583 : Cond.selects "DiceAudit$Ledger" yX4_removeLatest yX4_removeLatest ∈ kTB := kTB_of (List.mem_append_right _ (List.mem_of_getElem? (i := 583) (by decide +kernel))) rfl
theorem kw_584 : Cond.code yX4_removeLatest prog_6_method_8_code (7 : Nat) (Option.none : Option Jvm.ClassFile.FieldType) ∈ kTB := kTB_of (List.mem_append_right _ (List.mem_of_getElem? (i := 584) (by decide +kernel))) rfl
theorem kw_585 : Cond.methodLink "DiceAudit$Ledger" (44 : Nat) yX4_pairThrows ∈ kTB := kTB_of (List.mem_append_right _ (List.mem_of_getElem? (i := 585) (by decide +kernel))) rfl
theorem kw_586 : Cond.methodLink "DiceAudit$Ledger" (48 : Nat) yX4_clear ∈ kTB := kTB_of (List.mem_append_right _ (List.mem_of_getElem? (i := 586) (by decide +kernel))) rfl
theorem kw_587 : Cond.methodLink "DiceAudit$Ledger" (51 : Nat) yX4_pairIn ∈ kTB := kTB_of (List.mem_append_right _ (List.mem_of_getElem? (i := 587) (by decide +kernel))) rfl
theorem kw_588 : Cond.instanceMethod yX4_pairIn ∈ kTB := kTB_of (List.mem_append_right _ (List.mem_of_getElem? (i := 588) (by decide +kernel))) rfl
theorem kw_589 : Cond.selects "DiceAudit$Ledger" yX4_pairIn yX4_pairIn ∈ kTB := kTB_of (List.mem_append_right _ (List.mem_of_getElem? (i := 589) (by decide +kernel))) rfl
theorem kw_590 : Cond.code yX4_pairIn prog_6_method_5_code (2 : Nat) (Option.some Jvm.ClassFile.FieldType.int) ∈ kTB := kTB_of (List.mem_append_right _ (List.mem_of_getElem? (i := 590) (by decide +kernel))) rfl
theorem kw_591 : Cond.methodLink "DiceAudit$Ledger" (54 : Nat) yX4_faceIn ∈ kTB := kTB_of (List.mem_append_right _ (List.mem_of_getElem? (i := 591) (by decide +kernel))) rfl
theorem kw_592 : Cond.instanceMethod yX4_faceIn ∈ kTB := kTB_of (List.mem_append_right _ (List.mem_of_getElem? (i := 592) (by decide +kernel))) rfl
theorem kw_593 : Cond.selects "DiceAudit$Ledger" yX4_faceIn yX4_faceIn ∈ kTB := kTB_of (List.mem_append_right _ (List.mem_of_getElem? (i := 593) (by decide +kernel))) rfl
theorem kw_594 : Cond.code yX4_faceIn prog_6_method_6_code (2 : Nat) (Option.some Jvm.ClassFile.FieldType.int) ∈ kTB := kTB_of (List.mem_append_right _ (List.mem_of_getElem? (i := 594) (by decide +kernel))) rfl
theorem kw_595 : Cond.methodLink "DiceAudit$Ledger" (57 : Nat) yX4_isMarked ∈ kTB := kTB_of (List.mem_append_right _ (List.mem_of_getElem? (i := 595) (by decide +kernel))) rfl
theorem kw_596 : Cond.instanceMethod yX4_isMarked ∈ kTB := kTB_of (List.mem_append_right _ (List.mem_of_getElem? (i := 596) (by decide +kernel))) rfl
theorem kw_597 : Cond.selects "DiceAudit$Ledger" yX4_isMarked yX4_isMarked ∈ kTB := kTB_of (List.mem_append_right _ (List.mem_of_getElem? (i := 597) (by decide +kernel))) rfl
theorem kw_598 : Cond.code yX4_isMarked prog_6_method_7_code (2 : Nat) (Option.some Jvm.ClassFile.FieldType.boolean) ∈ kTB := kTB_of (List.mem_append_right _ (List.mem_of_getElem? (i := 598) (by decide +kernel))) rfl
theorem kw_599 : Cond.methodLink "DiceAudit$Ledger" (61 : Nat) yX4_add ∈ kTB := kTB_of (List.mem_append_right _ (List.mem_of_getElem? (i := 599) (by decide +kernel))) rfl
theorem kw_600 : Cond.methodLink "DiceAudit$Hall" (148 : Nat) yX2_makeThrows ∈ kTB := kTB_of (List.mem_append_right _ (List.mem_of_getElem? (i := 600) (by decide +kernel))) rfl
theorem kw_602 : Cond.methodLink "DiceAudit$Loader" (103 : Nat) yX5_readForgive ∈ kTB := kTB_of (List.mem_append_right _ (List.mem_of_getElem? (i := 602) (by decide +kernel))) rfl
theorem kw_604 : Cond.instanceMethod yX5_readForgive ∈ kTB := kTB_of (List.mem_append_right _ (List.mem_of_getElem? (i := 604) (by decide +kernel))) rfl
theorem kw_605 : Cond.code yX5_readForgive prog_7_method_12_code (2 : Nat) (Option.none : Option Jvm.ClassFile.FieldType) ∈ kTB := kTB_of (List.mem_append_right _ (List.mem_of_getElem? (i := 605) (by decide +kernel))) rfl
theorem kw_606 : Cond.methodLink "DiceAudit$Loader" (188 : Nat) yX6_removeAllOf ∈ kTB := kTB_of (List.mem_append_right _ (List.mem_of_getElem? (i := 606) (by decide +kernel))) rfl
theorem kw_607 : Cond.instanceMethod yX6_removeAllOf ∈ kTB := kTB_of (List.mem_append_right _ (List.mem_of_getElem? (i := 607) (by decide +kernel))) rfl
theorem kw_608 : Cond.selects "DiceAudit$Offences" yX6_removeAllOf yX6_removeAllOf ∈ kTB := kTB_of (List.mem_append_right _ (List.mem_of_getElem? (i := 608) (by decide +kernel))) rfl
theorem kw_609 : Cond.code yX6_removeAllOf prog_8_method_9_code (4 : Nat) (Option.some Jvm.ClassFile.FieldType.int) ∈ kTB := kTB_of (List.mem_append_right _ (List.mem_of_getElem? (i := 609) (by decide +kernel))) rfl
theorem kw_610 : Cond.methodLinkNest "DiceAudit$Offences" (48 : Nat) yX10_playerOf "DiceAudit" ∈ kTN := kTN_of (List.mem_append_right _ (List.mem_of_getElem? (i := 610) (by decide +kernel))) rfl
theorem kw_611 : Cond.static yX10_playerOf ∈ kTB := kTB_of (List.mem_append_right _ (List.mem_of_getElem? (i := 611) (by decide +kernel))) rfl
theorem kw_612 : Cond.code yX10_playerOf prog_1_method_84_code (1 : Nat) (Option.some Jvm.ClassFile.FieldType.int) ∈ kTB := kTB_of (List.mem_append_right _ (List.mem_of_getElem? (i := 612) (by decide +kernel))) rfl
theorem kw_613 : Cond.methodLink "DiceAudit" (60 : Nat) yX8_cutTo ∈ kTB := kTB_of (List.mem_append_right _ (List.mem_of_getElem? (i := 613) (by decide +kernel))) rfl
theorem kw_614 : Cond.instanceMethod yX8_cutTo ∈ kTB := kTB_of (List.mem_append_right _ (List.mem_of_getElem? (i := 614) (by decide +kernel))) rfl
theorem kw_615 : Cond.selects "DiceAudit$Text" yX8_cutTo yX8_cutTo ∈ kTB := kTB_of (List.mem_append_right _ (List.mem_of_getElem? (i := 615) (by decide +kernel))) rfl
theorem kw_616 : Cond.code yX8_cutTo prog_10_method_8_code (2 : Nat) (Option.none : Option Jvm.ClassFile.FieldType) ∈ kTB := kTB_of (List.mem_append_right _ (List.mem_of_getElem? (i := 616) (by decide +kernel))) rfl
theorem kw_617 : Cond.methodLink "DiceAudit" (74 : Nat) yX2_copyFrom ∈ kTB := kTB_of (List.mem_append_right _ (List.mem_of_getElem? (i := 617) (by decide +kernel))) rfl
theorem kw_618 : Cond.instanceMethod yX2_copyFrom ∈ kTB := kTB_of (List.mem_append_right _ (List.mem_of_getElem? (i := 618) (by decide +kernel))) rfl
theorem kw_619 : Cond.selects "DiceAudit$Hall" yX2_copyFrom yX2_copyFrom ∈ kTB := kTB_of (List.mem_append_right _ (List.mem_of_getElem? (i := 619) (by decide +kernel))) rfl
theorem kw_620 : Cond.code yX2_copyFrom prog_4_method_3_code (2 : Nat) (Option.none : Option Jvm.ClassFile.FieldType) ∈ kTB := kTB_of (List.mem_append_right _ (List.mem_of_getElem? (i := 620) (by decide +kernel))) rfl
theorem kw_621 : Cond.methodLink "DiceAudit$Hall" (55 : Nat) yX0_copyFrom ∈ kTB := kTB_of (List.mem_append_right _ (List.mem_of_getElem? (i := 621) (by decide +kernel))) rfl
theorem kw_622 : Cond.instanceMethod yX0_copyFrom ∈ kTB := kTB_of (List.mem_append_right _ (List.mem_of_getElem? (i := 622) (by decide +kernel))) rfl
theorem kw_623 : Cond.selects "DiceAudit$Dice" yX0_copyFrom yX0_copyFrom ∈ kTB := kTB_of (List.mem_append_right _ (List.mem_of_getElem? (i := 623) (by decide +kernel))) rfl
theorem kw_624 : Cond.code yX0_copyFrom prog_2_method_3_code (2 : Nat) (Option.none : Option Jvm.ClassFile.FieldType) ∈ kTB := kTB_of (List.mem_append_right _ (List.mem_of_getElem? (i := 624) (by decide +kernel))) rfl
theorem kw_625 : Cond.methodLinkNest "DiceAudit$Dice" (22 : Nat) yX10_copyRow "DiceAudit" ∈ kTN := kTN_of (List.mem_append_right _ (List.mem_of_getElem? (i := 625) (by decide +kernel))) rfl
theorem kw_626 : Cond.static yX10_copyRow ∈ kTB := kTB_of (List.mem_append_right _ (List.mem_of_getElem? (i := 626) (by decide +kernel))) rfl
theorem kw_627 : Cond.code yX10_copyRow prog_1_method_78_code (2 : Nat) (Option.none : Option Jvm.ClassFile.FieldType) ∈ kTB := kTB_of (List.mem_append_right _ (List.mem_of_getElem? (i := 627) (by decide +kernel))) rfl
theorem kw_628 : Cond.methodLink "DiceAudit" (383 : Nat) ({ cls := "java/lang/System", name := "arraycopy", desc := "(Ljava/lang/Object;ILjava/lang/Object;II)V" } : Jvm.MethodName) ∈ kTB := kTB_of (List.mem_append_right _ (List.mem_of_getElem? (i := 628) (by decide +kernel))) rfl
theorem kw_629 : Cond.static ({ cls := "java/lang/System", name := "arraycopy", desc := "(Ljava/lang/Object;ILjava/lang/Object;II)V" } : Jvm.MethodName) ∈ kTB := kTB_of (List.mem_append_right _ (List.mem_of_getElem? (i := 629) (by decide +kernel))) rfl
theorem kw_630 : Cond.native ({ cls := "java/lang/System", name := "arraycopy", desc := "(Ljava/lang/Object;ILjava/lang/Object;II)V" } : Jvm.MethodName) ∈ kTB := kTB_of (List.mem_append_right _ (List.mem_of_getElem? (i := 630) (by decide +kernel))) rfl
theorem kw_631 : Cond.methodLink "DiceAudit$Hall" (59 : Nat) yX7_copyFrom ∈ kTB := kTB_of (List.mem_append_right _ (List.mem_of_getElem? (i := 631) (by decide +kernel))) rfl
theorem kw_632 : Cond.instanceMethod yX7_copyFrom ∈ kTB := kTB_of (List.mem_append_right _ (List.mem_of_getElem? (i := 632) (by decide +kernel))) rfl
theorem kw_633 : Cond.selects "DiceAudit$Players" yX7_copyFrom yX7_copyFrom ∈ kTB := kTB_of (List.mem_append_right _ (List.mem_of_getElem? (i := 633) (by decide +kernel))) rfl
theorem kw_634 : Cond.code yX7_copyFrom prog_9_method_3_code (2 : Nat) (Option.none : Option Jvm.ClassFile.FieldType) ∈ kTB := kTB_of (List.mem_append_right _ (List.mem_of_getElem? (i := 634) (by decide +kernel))) rfl
theorem kw_635 : Cond.methodLinkNest "DiceAudit$Players" (22 : Nat) yX10_copyRow "DiceAudit" ∈ kTN := kTN_of (List.mem_append_right _ (List.mem_of_getElem? (i := 635) (by decide +kernel))) rfl
theorem kw_636 : Cond.methodLink "DiceAudit$Hall" (62 : Nat) yX4_copyFrom ∈ kTB := kTB_of (List.mem_append_right _ (List.mem_of_getElem? (i := 636) (by decide +kernel))) rfl
theorem kw_637 : Cond.instanceMethod yX4_copyFrom ∈ kTB := kTB_of (List.mem_append_right _ (List.mem_of_getElem? (i := 637) (by decide +kernel))) rfl
theorem kw_638 : Cond.selects "DiceAudit$Ledger" yX4_copyFrom yX4_copyFrom ∈ kTB := kTB_of (List.mem_append_right _ (List.mem_of_getElem? (i := 638) (by decide +kernel))) rfl
theorem kw_639 : Cond.code yX4_copyFrom prog_6_method_3_code (2 : Nat) (Option.none : Option Jvm.ClassFile.FieldType) ∈ kTB := kTB_of (List.mem_append_right _ (List.mem_of_getElem? (i := 639) (by decide +kernel))) rfl
theorem kw_640 : Cond.methodLinkNest "DiceAudit$Ledger" (28 : Nat) yX10_copyRow "DiceAudit" ∈ kTN := kTN_of (List.mem_append_right _ (List.mem_of_getElem? (i := 640) (by decide +kernel))) rfl
theorem kw_641 : Cond.methodLink "DiceAudit$Hall" (65 : Nat) yX6_copyFrom ∈ kTB := kTB_of (List.mem_append_right _ (List.mem_of_getElem? (i := 641) (by decide +kernel))) rfl
theorem kw_642 : Cond.instanceMethod yX6_copyFrom ∈ kTB := kTB_of (List.mem_append_right _ (List.mem_of_getElem? (i := 642) (by decide +kernel))) rfl
theorem kw_643 : Cond.selects "DiceAudit$Offences" yX6_copyFrom yX6_copyFrom ∈ kTB := kTB_of (List.mem_append_right _ (List.mem_of_getElem? (i := 643) (by decide +kernel))) rfl
theorem kw_644 : Cond.code yX6_copyFrom prog_8_method_3_code (2 : Nat) (Option.none : Option Jvm.ClassFile.FieldType) ∈ kTB := kTB_of (List.mem_append_right _ (List.mem_of_getElem? (i := 644) (by decide +kernel))) rfl
theorem kw_645 : Cond.methodLinkNest "DiceAudit$Offences" (22 : Nat) yX10_copyRow "DiceAudit" ∈ kTN := kTN_of (List.mem_append_right _ (List.mem_of_getElem? (i := 645) (by decide +kernel))) rfl
theorem kw_646 : Cond.fieldLink "DiceAudit" (64 : Nat) "DiceAudit" "input" "LDiceAudit$Text;" ∈ kTB := kTB_of (List.mem_append_right _ (List.mem_of_getElem? (i := 646) (by decide +kernel))) rfl
theorem kw_647 : Cond.fieldLink "DiceAudit" (67 : Nat) "DiceAudit" "loader" "LDiceAudit$Loader;" ∈ kTB := kTB_of (List.mem_append_right _ (List.mem_of_getElem? (i := 647) (by decide +kernel))) rfl
theorem kw_648 : Cond.fieldLink "DiceAudit" (12 : Nat) "DiceAudit" "output" "LDiceAudit$Text;" ∈ kTB := kTB_of (List.mem_append_right _ (List.mem_of_getElem? (i := 648) (by decide +kernel))) rfl
theorem kw_649 : Cond.fieldLink "DiceAudit" (19 : Nat) "DiceAudit" "hall" "LDiceAudit$Hall;" ∈ kTB := kTB_of (List.mem_append_right _ (List.mem_of_getElem? (i := 649) (by decide +kernel))) rfl
theorem kw_650 : Cond.fieldLink "DiceAudit" (26 : Nat) "DiceAudit" "forecast" "LDiceAudit$Forecast;" ∈ kTB := kTB_of (List.mem_append_right _ (List.mem_of_getElem? (i := 650) (by decide +kernel))) rfl
theorem kw_651 : Cond.fieldLink "DiceAudit" (33 : Nat) "DiceAudit" "history" "LDiceAudit$History;" ∈ kTB := kTB_of (List.mem_append_right _ (List.mem_of_getElem? (i := 651) (by decide +kernel))) rfl
theorem kw_652 : Cond.fieldLink "DiceAudit" (37 : Nat) "DiceAudit" "slots" "[LDiceAudit$Hall;" ∈ kTB := kTB_of (List.mem_append_right _ (List.mem_of_getElem? (i := 652) (by decide +kernel))) rfl
theorem kw_653 : Cond.fieldLink "DiceAudit" (41 : Nat) "DiceAudit" "slotsInUse" "[I" ∈ kTB := kTB_of (List.mem_append_right _ (List.mem_of_getElem? (i := 653) (by decide +kernel))) rfl
theorem kw_670 : Cond.superclass "DiceAudit" "java/lang/Object" ∈ kTB := kTB_of (List.mem_append_right _ (List.mem_of_getElem? (i := 670) (by decide +kernel))) rfl
theorem kw_671 : Cond.arrayClass Jvm.ClassFile.FieldType.byte ∈ kTB := kTB_of (List.mem_append_right _ (List.mem_of_getElem? (i := 671) (by decide +kernel))) rfl
theorem kw_672 : Cond.methodLink "DiceAuditLaw" (108 : Nat) yX10_errorCode ∈ kTB := kTB_of (List.mem_append_right _ (List.mem_of_getElem? (i := 672) (by decide +kernel))) rfl
theorem kw_673 : Cond.instanceMethod yX10_errorCode ∈ kTB := kTB_of (List.mem_append_right _ (List.mem_of_getElem? (i := 673) (by decide +kernel))) rfl
theorem kw_674 : Cond.selects "DiceAudit" yX10_errorCode yX10_errorCode ∈ kTB := kTB_of (List.mem_append_right _ (List.mem_of_getElem? (i := 674) (by decide +kernel))) rfl
theorem kw_675 : Cond.code yX10_errorCode prog_1_method_5_code (1 : Nat) (Option.some Jvm.ClassFile.FieldType.int) ∈ kTB := kTB_of (List.mem_append_right _ (List.mem_of_getElem? (i := 675) (by decide +kernel))) rfl
theorem kw_676 : Cond.methodLink "DiceAuditLaw" (111 : Nat) yX10_dieCount ∈ kTB := kTB_of (List.mem_append_right _ (List.mem_of_getElem? (i := 676) (by decide +kernel))) rfl
theorem kw_677 : Cond.instanceMethod yX10_dieCount ∈ kTB := kTB_of (List.mem_append_right _ (List.mem_of_getElem? (i := 677) (by decide +kernel))) rfl
theorem kw_678 : Cond.selects "DiceAudit" yX10_dieCount yX10_dieCount ∈ kTB := kTB_of (List.mem_append_right _ (List.mem_of_getElem? (i := 678) (by decide +kernel))) rfl
theorem kw_679 : Cond.code yX10_dieCount prog_1_method_10_code (1 : Nat) (Option.some Jvm.ClassFile.FieldType.int) ∈ kTB := kTB_of (List.mem_append_right _ (List.mem_of_getElem? (i := 679) (by decide +kernel))) rfl
theorem kw_680 : Cond.methodLink "DiceAuditLaw" (130 : Nat) yX10_frequencyDifference ∈ kTB := kTB_of (List.mem_append_right _ (List.mem_of_getElem? (i := 680) (by decide +kernel))) rfl
theorem kw_681 : Cond.instanceMethod yX10_frequencyDifference ∈ kTB := kTB_of (List.mem_append_right _ (List.mem_of_getElem? (i := 681) (by decide +kernel))) rfl
theorem kw_682 : Cond.selects "DiceAudit" yX10_frequencyDifference yX10_frequencyDifference ∈ kTB := kTB_of (List.mem_append_right _ (List.mem_of_getElem? (i := 682) (by decide +kernel))) rfl
theorem kw_683 : Cond.code yX10_frequencyDifference prog_1_method_49_code (1 : Nat) (Option.some Jvm.ClassFile.FieldType.int) ∈ kTB := kTB_of (List.mem_append_right _ (List.mem_of_getElem? (i := 683) (by decide +kernel))) rfl
theorem kw_684 : Cond.methodLink "DiceAudit" (301 : Nat) yX4_frequencySum ∈ kTB := kTB_of (List.mem_append_right _ (List.mem_of_getElem? (i := 684) (by decide +kernel))) rfl
theorem kw_685 : Cond.instanceMethod yX4_frequencySum ∈ kTB := kTB_of (List.mem_append_right _ (List.mem_of_getElem? (i := 685) (by decide +kernel))) rfl
theorem kw_686 : Cond.selects "DiceAudit$Ledger" yX4_frequencySum yX4_frequencySum ∈ kTB := kTB_of (List.mem_append_right _ (List.mem_of_getElem? (i := 686) (by decide +kernel))) rfl
theorem kw_687 : Cond.code yX4_frequencySum prog_6_method_15_code (1 : Nat) (Option.some Jvm.ClassFile.FieldType.int) ∈ kTB := kTB_of (List.mem_append_right _ (List.mem_of_getElem? (i := 687) (by decide +kernel))) rfl
theorem kw_688 : Cond.methodLink "DiceAuditLaw" (133 : Nat) yX10_totalDifference ∈ kTB := kTB_of (List.mem_append_right _ (List.mem_of_getElem? (i := 688) (by decide +kernel))) rfl
theorem kw_689 : Cond.instanceMethod yX10_totalDifference ∈ kTB := kTB_of (List.mem_append_right _ (List.mem_of_getElem? (i := 689) (by decide +kernel))) rfl
theorem kw_690 : Cond.selects "DiceAudit" yX10_totalDifference yX10_totalDifference ∈ kTB := kTB_of (List.mem_append_right _ (List.mem_of_getElem? (i := 690) (by decide +kernel))) rfl
theorem kw_691 : Cond.code yX10_totalDifference prog_1_method_50_code (3 : Nat) (Option.some Jvm.ClassFile.FieldType.int) ∈ kTB := kTB_of (List.mem_append_right _ (List.mem_of_getElem? (i := 691) (by decide +kernel))) rfl
theorem kw_692 : Cond.methodLink "DiceAudit" (205 : Nat) yX4_playerTotal ∈ kTB := kTB_of (List.mem_append_right _ (List.mem_of_getElem? (i := 692) (by decide +kernel))) rfl
theorem kw_693 : Cond.instanceMethod yX4_playerTotal ∈ kTB := kTB_of (List.mem_append_right _ (List.mem_of_getElem? (i := 693) (by decide +kernel))) rfl
theorem kw_694 : Cond.selects "DiceAudit$Ledger" yX4_playerTotal yX4_playerTotal ∈ kTB := kTB_of (List.mem_append_right _ (List.mem_of_getElem? (i := 694) (by decide +kernel))) rfl
theorem kw_695 : Cond.code yX4_playerTotal prog_6_method_13_code (5 : Nat) (Option.some Jvm.ClassFile.FieldType.int) ∈ kTB := kTB_of (List.mem_append_right _ (List.mem_of_getElem? (i := 695) (by decide +kernel))) rfl
theorem kw_696 : Cond.methodLinkNest "DiceAudit$Ledger" (69 : Nat) yX10_pairOf "DiceAudit" ∈ kTN := kTN_of (List.mem_append_right _ (List.mem_of_getElem? (i := 696) (by decide +kernel))) rfl
theorem kw_697 : Cond.methodLink "DiceAudit" (304 : Nat) yX4_faceSum ∈ kTB := kTB_of (List.mem_append_right _ (List.mem_of_getElem? (i := 697) (by decide +kernel))) rfl
theorem kw_698 : Cond.instanceMethod yX4_faceSum ∈ kTB := kTB_of (List.mem_append_right _ (List.mem_of_getElem? (i := 698) (by decide +kernel))) rfl
theorem kw_699 : Cond.selects "DiceAudit$Ledger" yX4_faceSum yX4_faceSum ∈ kTB := kTB_of (List.mem_append_right _ (List.mem_of_getElem? (i := 699) (by decide +kernel))) rfl
theorem kw_700 : Cond.code yX4_faceSum prog_6_method_16_code (3 : Nat) (Option.some Jvm.ClassFile.FieldType.int) ∈ kTB := kTB_of (List.mem_append_right _ (List.mem_of_getElem? (i := 700) (by decide +kernel))) rfl
theorem kw_701 : Cond.classLink "DiceAuditLaw" (114 : Nat) "DiceAuditLaw$Hand" ∈ kTB := kTB_of (List.mem_append_right _ (List.mem_of_getElem? (i := 701) (by decide +kernel))) rfl
theorem kw_702 : Cond.instantiable "DiceAuditLaw$Hand" (8 : Nat) ∈ kTB := kTB_of (List.mem_append_right _ (List.mem_of_getElem? (i := 702) (by decide +kernel))) rfl
theorem kw_703 : Cond.methodLink "DiceAuditLaw" (116 : Nat) yX11_init ∈ kTB := kTB_of (List.mem_append_right _ (List.mem_of_getElem? (i := 703) (by decide +kernel))) rfl
theorem kw_704 : Cond.instanceMethod yX11_init ∈ kTB := kTB_of (List.mem_append_right _ (List.mem_of_getElem? (i := 704) (by decide +kernel))) rfl
theorem kw_705 : Cond.code yX11_init prog_13_method_1_code (4 : Nat) (Option.none : Option Jvm.ClassFile.FieldType) ∈ kTB := kTB_of (List.mem_append_right _ (List.mem_of_getElem? (i := 705) (by decide +kernel))) rfl
theorem kw_706 : Cond.methodLink "DiceAuditLaw$Hand" (1 : Nat) ({ cls := "java/lang/Object", name := "<init>", desc := "()V" } : Jvm.MethodName) ∈ kTB := kTB_of (List.mem_append_right _ (List.mem_of_getElem? (i := 706) (by decide +kernel))) rfl
theorem kw_707 : Cond.classLink "DiceAuditLaw$Hand" (7 : Nat) "[I" ∈ kTB := kTB_of (List.mem_append_right _ (List.mem_of_getElem? (i := 707) (by decide +kernel))) rfl
theorem kw_708 : Cond.arrayOver (Jvm.ClassFile.FieldType.array Jvm.ClassFile.FieldType.int) ∈ kTN := kTN_of (List.mem_append_right _ (List.mem_of_getElem? (i := 708) (by decide +kernel))) rfl
theorem kw_709 : Cond.methodLink "DiceAuditLaw$Hand" (21 : Nat) yX10_faces ∈ kTB := kTB_of (List.mem_append_right _ (List.mem_of_getElem? (i := 709) (by decide +kernel))) rfl
theorem kw_710 : Cond.instanceMethod yX10_faces ∈ kTB := kTB_of (List.mem_append_right _ (List.mem_of_getElem? (i := 710) (by decide +kernel))) rfl
theorem kw_711 : Cond.selects "DiceAudit" yX10_faces yX10_faces ∈ kTB := kTB_of (List.mem_append_right _ (List.mem_of_getElem? (i := 711) (by decide +kernel))) rfl
theorem kw_712 : Cond.code yX10_faces prog_1_method_13_code (2 : Nat) (Option.some Jvm.ClassFile.FieldType.int) ∈ kTB := kTB_of (List.mem_append_right _ (List.mem_of_getElem? (i := 712) (by decide +kernel))) rfl
theorem kw_713 : Cond.methodLink "DiceAudit" (141 : Nat) yX10_requireDie ∈ kTB := kTB_of (List.mem_append_right _ (List.mem_of_getElem? (i := 713) (by decide +kernel))) rfl
theorem kw_715 : Cond.instanceMethod yX10_requireDie ∈ kTB := kTB_of (List.mem_append_right _ (List.mem_of_getElem? (i := 715) (by decide +kernel))) rfl
theorem kw_716 : Cond.code yX10_requireDie prog_1_method_67_code (2 : Nat) (Option.none : Option Jvm.ClassFile.FieldType) ∈ kTB := kTB_of (List.mem_append_right _ (List.mem_of_getElem? (i := 716) (by decide +kernel))) rfl
theorem kw_717 : Cond.methodLink "DiceAudit" (373 : Nat) yX10_requireIndex ∈ kTB := kTB_of (List.mem_append_right _ (List.mem_of_getElem? (i := 717) (by decide +kernel))) rfl
theorem kw_718 : Cond.static yX10_requireIndex ∈ kTB := kTB_of (List.mem_append_right _ (List.mem_of_getElem? (i := 718) (by decide +kernel))) rfl
theorem kw_719 : Cond.code yX10_requireIndex prog_1_method_74_code (2 : Nat) (Option.none : Option Jvm.ClassFile.FieldType) ∈ kTB := kTB_of (List.mem_append_right _ (List.mem_of_getElem? (i := 719) (by decide +kernel))) rfl
theorem kw_720 : Cond.classLink "DiceAudit" (376 : Nat) "java/lang/IndexOutOfBoundsException" ∈ kTB := kTB_of (List.mem_append_right _ (List.mem_of_getElem? (i := 720) (by decide +kernel))) rfl
theorem kw_721 : Cond.instantiable "java/lang/IndexOutOfBoundsException" (6 : Nat) ∈ kTB := kTB_of (List.mem_append_right _ (List.mem_of_getElem? (i := 721) (by decide +kernel))) rfl
theorem kw_722 : Cond.castable "java/lang/IndexOutOfBoundsException" "java/lang/IndexOutOfBoundsException" ∈ kTN := kTN_of (List.mem_append_right _ (List.mem_of_getElem? (i := 722) (by decide +kernel))) rfl
theorem kw_729 : Cond.selects "java/lang/IndexOutOfBoundsException" ({ cls := "java/lang/Throwable", name := "fillInStackTrace", desc := "(I)Ljava/lang/Throwable;" } : Jvm.MethodName) ({ cls := "java/lang/Throwable", name := "fillInStackTrace", desc := "(I)Ljava/lang/Throwable;" } : Jvm.MethodName) ∈ kTB := kTB_of (List.mem_append_right _ (List.mem_of_getElem? (i := 729) (by decide +kernel))) rfl
theorem kw_730 : Cond.selects "java/lang/IndexOutOfBoundsException" ({ cls := "java/lang/Throwable", name := "fillInStackTrace", desc := "()Ljava/lang/Throwable;" } : Jvm.MethodName) ({ cls := "java/lang/Throwable", name := "fillInStackTrace", desc := "()Ljava/lang/Throwable;" } : Jvm.MethodName) ∈ kTB := kTB_of (List.mem_append_right _ (List.mem_of_getElem? (i := 730) (by decide +kernel))) rfl
theorem kw_741 : Cond.fieldLink "java/lang/Throwable" (198 : Nat) "java/lang/Throwable" "backtrace" "Ljava/lang/Object;" ∈ kTB := kTB_of (List.mem_append_right _ (List.mem_of_getElem? (i := 741) (by decide +kernel))) rfl
theorem kw_742 : Cond.superclass "java/lang/Throwable" "java/lang/Object" ∈ kTB := kTB_of (List.mem_append_right _ (List.mem_of_getElem? (i := 742) (by decide +kernel))) rfl
theorem kw_743 : Cond.instanceMethod ({ cls := "java/lang/Throwable", name := "<init>", desc := "()V" } : Jvm.MethodName) ∈ kTB := kTB_of (List.mem_append_right _ (List.mem_of_getElem? (i := 743) (by decide +kernel))) rfl
theorem kw_744 : Cond.code ({ cls := "java/lang/Throwable", name := "<init>", desc := "()V" } : Jvm.MethodName) prog_30_method_1_code (1 : Nat) (Option.none : Option Jvm.ClassFile.FieldType) ∈ kTB := kTB_of (List.mem_append_right _ (List.mem_of_getElem? (i := 744) (by decide +kernel))) rfl
theorem kw_745 : Cond.methodLink "java/lang/Throwable" (1 : Nat) ({ cls := "java/lang/Object", name := "<init>", desc := "()V" } : Jvm.MethodName) ∈ kTB := kTB_of (List.mem_append_right _ (List.mem_of_getElem? (i := 745) (by decide +kernel))) rfl
theorem kw_746 : Cond.fieldLink "java/lang/Throwable" (13 : Nat) "java/lang/Throwable" "UNASSIGNED_STACK" "[Ljava/lang/StackTraceElement;" ∈ kTB := kTB_of (List.mem_append_right _ (List.mem_of_getElem? (i := 746) (by decide +kernel))) rfl
theorem kw_748 : Cond.fieldLink "java/lang/Throwable" (20 : Nat) "java/lang/Throwable" "SUPPRESSED_SENTINEL" "Ljava/util/List;" ∈ kTB := kTB_of (List.mem_append_right _ (List.mem_of_getElem? (i := 748) (by decide +kernel))) rfl
theorem kw_750 : Cond.methodLink "java/lang/Throwable" (27 : Nat) ({ cls := "java/lang/Throwable", name := "fillInStackTrace", desc := "()Ljava/lang/Throwable;" } : Jvm.MethodName) ∈ kTB := kTB_of (List.mem_append_right _ (List.mem_of_getElem? (i := 750) (by decide +kernel))) rfl
theorem kw_751 : Cond.instanceMethod ({ cls := "java/lang/Throwable", name := "fillInStackTrace", desc := "()Ljava/lang/Throwable;" } : Jvm.MethodName) ∈ kTB := kTB_of (List.mem_append_right _ (List.mem_of_getElem? (i := 751) (by decide +kernel))) rfl
theorem kw_752 : Cond.sameMethod "java/lang/Throwable" "java/lang/Throwable" "fillInStackTrace" "()Ljava/lang/Throwable;" ∈ kTB := kTB_of (List.mem_append_right _ (List.mem_of_getElem? (i := 752) (by decide +kernel))) rfl
theorem kw_753 : Cond.selects "java/lang/IllegalArgumentException" ({ cls := "java/lang/Throwable", name := "fillInStackTrace", desc := "()Ljava/lang/Throwable;" } : Jvm.MethodName) ({ cls := "java/lang/Throwable", name := "fillInStackTrace", desc := "()Ljava/lang/Throwable;" } : Jvm.MethodName) ∈ kTB := kTB_of (List.mem_append_right _ (List.mem_of_getElem? (i := 753) (by decide +kernel))) rfl
theorem kw_754 : Cond.selects "java/lang/IllegalStateException" ({ cls := "java/lang/Throwable", name := "fillInStackTrace", desc := "()Ljava/lang/Throwable;" } : Jvm.MethodName) ({ cls := "java/lang/Throwable", name := "fillInStackTrace", desc := "()Ljava/lang/Throwable;" } : Jvm.MethodName) ∈ kTB := kTB_of (List.mem_append_right _ (List.mem_of_getElem? (i := 754) (by decide +kernel))) rfl
theorem kw_755 : Cond.codeSync ({ cls := "java/lang/Throwable", name := "fillInStackTrace", desc := "()Ljava/lang/Throwable;" } : Jvm.MethodName) prog_30_method_18_code (1 : Nat) (Option.some (Jvm.ClassFile.FieldType.object "java/lang/Throwable")) ∈ kTB := kTB_of (List.mem_append_right _ (List.mem_of_getElem? (i := 755) (by decide +kernel))) rfl
theorem kw_756 : Cond.methodLink "java/lang/Throwable" (202 : Nat) ({ cls := "java/lang/Throwable", name := "fillInStackTrace", desc := "(I)Ljava/lang/Throwable;" } : Jvm.MethodName) ∈ kTB := kTB_of (List.mem_append_right _ (List.mem_of_getElem? (i := 756) (by decide +kernel))) rfl
theorem kw_758 : Cond.instanceMethod ({ cls := "java/lang/Throwable", name := "fillInStackTrace", desc := "(I)Ljava/lang/Throwable;" } : Jvm.MethodName) ∈ kTB := kTB_of (List.mem_append_right _ (List.mem_of_getElem? (i := 758) (by decide +kernel))) rfl
theorem kw_759 : Cond.instantiable "java/lang/Throwable" (6 : Nat) ∈ kTB := kTB_of (List.mem_append_right _ (List.mem_of_getElem? (i := 759) (by decide +kernel))) rfl
theorem kw_760 : Cond.native ({ cls := "java/lang/Throwable", name := "fillInStackTrace", desc := "(I)Ljava/lang/Throwable;" } : Jvm.MethodName) ∈ kTB := kTB_of (List.mem_append_right _ (List.mem_of_getElem? (i := 760) (by decide +kernel))) rfl
theorem kw_762 : Cond.methodLink "DiceAudit" (380 : Nat) ({ cls := "java/lang/IndexOutOfBoundsException", name := "<init>", desc := "(Ljava/lang/String;)V" } : Jvm.MethodName) ∈ kTB := kTB_of (List.mem_append_right _ (List.mem_of_getElem? (i := 762) (by decide +kernel))) rfl
theorem kw_763 : Cond.instanceMethod ({ cls := "java/lang/IndexOutOfBoundsException", name := "<init>", desc := "(Ljava/lang/String;)V" } : Jvm.MethodName) ∈ kTB := kTB_of (List.mem_append_right _ (List.mem_of_getElem? (i := 763) (by decide +kernel))) rfl
theorem kw_764 : Cond.code ({ cls := "java/lang/IndexOutOfBoundsException", name := "<init>", desc := "(Ljava/lang/String;)V" } : Jvm.MethodName) prog_20_method_2_code (2 : Nat) (Option.none : Option Jvm.ClassFile.FieldType) ∈ kTB := kTB_of (List.mem_append_right _ (List.mem_of_getElem? (i := 764) (by decide +kernel))) rfl
theorem kw_765 : Cond.methodLink "java/lang/IndexOutOfBoundsException" (7 : Nat) ({ cls := "java/lang/RuntimeException", name := "<init>", desc := "(Ljava/lang/String;)V" } : Jvm.MethodName) ∈ kTB := kTB_of (List.mem_append_right _ (List.mem_of_getElem? (i := 765) (by decide +kernel))) rfl
theorem kw_766 : Cond.instanceMethod ({ cls := "java/lang/RuntimeException", name := "<init>", desc := "(Ljava/lang/String;)V" } : Jvm.MethodName) ∈ kTB := kTB_of (List.mem_append_right _ (List.mem_of_getElem? (i := 766) (by decide +kernel))) rfl
theorem kw_767 : Cond.code ({ cls := "java/lang/RuntimeException", name := "<init>", desc := "(Ljava/lang/String;)V" } : Jvm.MethodName) prog_24_method_2_code (2 : Nat) (Option.none : Option Jvm.ClassFile.FieldType) ∈ kTB := kTB_of (List.mem_append_right _ (List.mem_of_getElem? (i := 767) (by decide +kernel))) rfl
theorem kw_768 : Cond.methodLink "java/lang/RuntimeException" (7 : Nat) ({ cls := "java/lang/Exception", name := "<init>", desc := "(Ljava/lang/String;)V" } : Jvm.MethodName) ∈ kTB := kTB_of (List.mem_append_right _ (List.mem_of_getElem? (i := 768) (by decide +kernel))) rfl
theorem kw_769 : Cond.instanceMethod ({ cls := "java/lang/Exception", name := "<init>", desc := "(Ljava/lang/String;)V" } : Jvm.MethodName) ∈ kTB := kTB_of (List.mem_append_right _ (List.mem_of_getElem? (i := 769) (by decide +kernel))) rfl
theorem kw_770 : Cond.code ({ cls := "java/lang/Exception", name := "<init>", desc := "(Ljava/lang/String;)V" } : Jvm.MethodName) prog_17_method_2_code (2 : Nat) (Option.none : Option Jvm.ClassFile.FieldType) ∈ kTB := kTB_of (List.mem_append_right _ (List.mem_of_getElem? (i := 770) (by decide +kernel))) rfl
theorem kw_771 : Cond.methodLink "java/lang/Exception" (7 : Nat) ({ cls := "java/lang/Throwable", name := "<init>", desc := "(Ljava/lang/String;)V" } : Jvm.MethodName) ∈ kTB := kTB_of (List.mem_append_right _ (List.mem_of_getElem? (i := 771) (by decide +kernel))) rfl
theorem kw_772 : Cond.instanceMethod ({ cls := "java/lang/Throwable", name := "<init>", desc := "(Ljava/lang/String;)V" } : Jvm.MethodName) ∈ kTB := kTB_of (List.mem_append_right _ (List.mem_of_getElem? (i := 772) (by decide +kernel))) rfl
theorem kw_773 : Cond.code ({ cls := "java/lang/Throwable", name := "<init>", desc := "(Ljava/lang/String;)V" } : Jvm.MethodName) prog_30_method_2_code (2 : Nat) (Option.none : Option Jvm.ClassFile.FieldType) ∈ kTB := kTB_of (List.mem_append_right _ (List.mem_of_getElem? (i := 773) (by decide +kernel))) rfl
theorem kw_774 : Cond.fieldLink "java/lang/Throwable" (198 : Nat) "java/lang/Throwable" "backtrace" "Ljava/lang/Object;" ∈ kTB := kTB_of (List.mem_append_right _ (List.mem_of_getElem? (i := 774) (by decide +kernel))) rfl
theorem kw_775 : Cond.fieldLink "java/lang/Throwable" (31 : Nat) "java/lang/Throwable" "detailMessage" "Ljava/lang/String;" ∈ kTB := kTB_of (List.mem_append_right _ (List.mem_of_getElem? (i := 775) (by decide +kernel))) rfl
theorem kw_776 : Cond.fieldLink "java/lang/Throwable" (7 : Nat) "java/lang/Throwable" "cause" "Ljava/lang/Throwable;" ∈ kTB := kTB_of (List.mem_append_right _ (List.mem_of_getElem? (i := 776) (by decide +kernel))) rfl
theorem kw_777 : Cond.fieldLink "java/lang/Throwable" (17 : Nat) "java/lang/Throwable" "stackTrace" "[Ljava/lang/StackTraceElement;" ∈ kTB := kTB_of (List.mem_append_right _ (List.mem_of_getElem? (i := 777) (by decide +kernel))) rfl
theorem kw_778 : Cond.fieldLink "java/lang/Throwable" (24 : Nat) "java/lang/Throwable" "suppressedExceptions" "Ljava/util/List;" ∈ kTB := kTB_of (List.mem_append_right _ (List.mem_of_getElem? (i := 778) (by decide +kernel))) rfl
theorem kw_786 : Cond.superclass "java/lang/IndexOutOfBoundsException" "java/lang/RuntimeException" ∈ kTB := kTB_of (List.mem_append_right _ (List.mem_of_getElem? (i := 786) (by decide +kernel))) rfl
theorem kw_787 : Cond.methodLink "DiceAudit" (144 : Nat) yX0_faceCount ∈ kTB := kTB_of (List.mem_append_right _ (List.mem_of_getElem? (i := 787) (by decide +kernel))) rfl
theorem kw_788 : Cond.methodLink "DiceAuditLaw$Hand" (27 : Nat) yX10_weightOf ∈ kTB := kTB_of (List.mem_append_right _ (List.mem_of_getElem? (i := 788) (by decide +kernel))) rfl
theorem kw_789 : Cond.instanceMethod yX10_weightOf ∈ kTB := kTB_of (List.mem_append_right _ (List.mem_of_getElem? (i := 789) (by decide +kernel))) rfl
theorem kw_790 : Cond.selects "DiceAudit" yX10_weightOf yX10_weightOf ∈ kTB := kTB_of (List.mem_append_right _ (List.mem_of_getElem? (i := 790) (by decide +kernel))) rfl
theorem kw_791 : Cond.code yX10_weightOf prog_1_method_14_code (3 : Nat) (Option.some Jvm.ClassFile.FieldType.int) ∈ kTB := kTB_of (List.mem_append_right _ (List.mem_of_getElem? (i := 791) (by decide +kernel))) rfl
theorem kw_792 : Cond.methodLink "DiceAudit" (148 : Nat) yX10_requireFace ∈ kTB := kTB_of (List.mem_append_right _ (List.mem_of_getElem? (i := 792) (by decide +kernel))) rfl
theorem kw_794 : Cond.instanceMethod yX10_requireFace ∈ kTB := kTB_of (List.mem_append_right _ (List.mem_of_getElem? (i := 794) (by decide +kernel))) rfl
theorem kw_795 : Cond.code yX10_requireFace prog_1_method_72_code (3 : Nat) (Option.none : Option Jvm.ClassFile.FieldType) ∈ kTB := kTB_of (List.mem_append_right _ (List.mem_of_getElem? (i := 795) (by decide +kernel))) rfl
theorem kw_796 : Cond.methodLink "DiceAudit" (91 : Nat) yX10_requireRange ∈ kTB := kTB_of (List.mem_append_right _ (List.mem_of_getElem? (i := 796) (by decide +kernel))) rfl
theorem kw_797 : Cond.static yX10_requireRange ∈ kTB := kTB_of (List.mem_append_right _ (List.mem_of_getElem? (i := 797) (by decide +kernel))) rfl
theorem kw_798 : Cond.code yX10_requireRange prog_1_method_75_code (3 : Nat) (Option.none : Option Jvm.ClassFile.FieldType) ∈ kTB := kTB_of (List.mem_append_right _ (List.mem_of_getElem? (i := 798) (by decide +kernel))) rfl
theorem kw_799 : Cond.classLink "DiceAudit" (95 : Nat) "java/lang/IllegalArgumentException" ∈ kTB := kTB_of (List.mem_append_right _ (List.mem_of_getElem? (i := 799) (by decide +kernel))) rfl
theorem kw_800 : Cond.instantiable "java/lang/IllegalArgumentException" (6 : Nat) ∈ kTB := kTB_of (List.mem_append_right _ (List.mem_of_getElem? (i := 800) (by decide +kernel))) rfl
theorem kw_801 : Cond.castable "java/lang/IllegalArgumentException" "java/lang/IllegalArgumentException" ∈ kTN := kTN_of (List.mem_append_right _ (List.mem_of_getElem? (i := 801) (by decide +kernel))) rfl
theorem kw_802 : Cond.selects "java/lang/IllegalArgumentException" ({ cls := "java/lang/Throwable", name := "fillInStackTrace", desc := "(I)Ljava/lang/Throwable;" } : Jvm.MethodName) ({ cls := "java/lang/Throwable", name := "fillInStackTrace", desc := "(I)Ljava/lang/Throwable;" } : Jvm.MethodName) ∈ kTB := kTB_of (List.mem_append_right _ (List.mem_of_getElem? (i := 802) (by decide +kernel))) rfl
theorem kw_809 : Cond.methodLink "DiceAudit" (99 : Nat) ({ cls := "java/lang/IllegalArgumentException", name := "<init>", desc := "(Ljava/lang/String;)V" } : Jvm.MethodName) ∈ kTB := kTB_of (List.mem_append_right _ (List.mem_of_getElem? (i := 809) (by decide +kernel))) rfl
theorem kw_810 : Cond.instanceMethod ({ cls := "java/lang/IllegalArgumentException", name := "<init>", desc := "(Ljava/lang/String;)V" } : Jvm.MethodName) ∈ kTB := kTB_of (List.mem_append_right _ (List.mem_of_getElem? (i := 810) (by decide +kernel))) rfl
theorem kw_811 : Cond.code ({ cls := "java/lang/IllegalArgumentException", name := "<init>", desc := "(Ljava/lang/String;)V" } : Jvm.MethodName) prog_18_method_2_code (2 : Nat) (Option.none : Option Jvm.ClassFile.FieldType) ∈ kTB := kTB_of (List.mem_append_right _ (List.mem_of_getElem? (i := 811) (by decide +kernel))) rfl
theorem kw_812 : Cond.methodLink "java/lang/IllegalArgumentException" (7 : Nat) ({ cls := "java/lang/RuntimeException", name := "<init>", desc := "(Ljava/lang/String;)V" } : Jvm.MethodName) ∈ kTB := kTB_of (List.mem_append_right _ (List.mem_of_getElem? (i := 812) (by decide +kernel))) rfl
theorem kw_814 : Cond.superclass "java/lang/IllegalArgumentException" "java/lang/RuntimeException" ∈ kTB := kTB_of (List.mem_append_right _ (List.mem_of_getElem? (i := 814) (by decide +kernel))) rfl
theorem kw_815 : Cond.methodLink "DiceAudit" (152 : Nat) yX0_weight ∈ kTB := kTB_of (List.mem_append_right _ (List.mem_of_getElem? (i := 815) (by decide +kernel))) rfl
theorem kw_816 : Cond.instanceMethod yX0_weight ∈ kTB := kTB_of (List.mem_append_right _ (List.mem_of_getElem? (i := 816) (by decide +kernel))) rfl
theorem kw_817 : Cond.selects "DiceAudit$Dice" yX0_weight yX0_weight ∈ kTB := kTB_of (List.mem_append_right _ (List.mem_of_getElem? (i := 817) (by decide +kernel))) rfl
theorem kw_818 : Cond.code yX0_weight prog_2_method_6_code (3 : Nat) (Option.some Jvm.ClassFile.FieldType.int) ∈ kTB := kTB_of (List.mem_append_right _ (List.mem_of_getElem? (i := 818) (by decide +kernel))) rfl
theorem kw_819 : Cond.methodLink "DiceAuditLaw$Hand" (31 : Nat) yX10_seed ∈ kTB := kTB_of (List.mem_append_right _ (List.mem_of_getElem? (i := 819) (by decide +kernel))) rfl
theorem kw_820 : Cond.instanceMethod yX10_seed ∈ kTB := kTB_of (List.mem_append_right _ (List.mem_of_getElem? (i := 820) (by decide +kernel))) rfl
theorem kw_821 : Cond.selects "DiceAudit" yX10_seed yX10_seed ∈ kTB := kTB_of (List.mem_append_right _ (List.mem_of_getElem? (i := 821) (by decide +kernel))) rfl
theorem kw_822 : Cond.code yX10_seed prog_1_method_7_code (1 : Nat) (Option.some Jvm.ClassFile.FieldType.int) ∈ kTB := kTB_of (List.mem_append_right _ (List.mem_of_getElem? (i := 822) (by decide +kernel))) rfl
theorem kw_823 : Cond.methodLink "DiceAuditLaw$Hand" (38 : Nat) yX10_minimum ∈ kTB := kTB_of (List.mem_append_right _ (List.mem_of_getElem? (i := 823) (by decide +kernel))) rfl
theorem kw_824 : Cond.instanceMethod yX10_minimum ∈ kTB := kTB_of (List.mem_append_right _ (List.mem_of_getElem? (i := 824) (by decide +kernel))) rfl
theorem kw_825 : Cond.selects "DiceAudit" yX10_minimum yX10_minimum ∈ kTB := kTB_of (List.mem_append_right _ (List.mem_of_getElem? (i := 825) (by decide +kernel))) rfl
theorem kw_826 : Cond.code yX10_minimum prog_1_method_8_code (1 : Nat) (Option.some Jvm.ClassFile.FieldType.int) ∈ kTB := kTB_of (List.mem_append_right _ (List.mem_of_getElem? (i := 826) (by decide +kernel))) rfl
theorem kw_827 : Cond.methodLink "DiceAuditLaw$Hand" (44 : Nat) yX10_threshold ∈ kTB := kTB_of (List.mem_append_right _ (List.mem_of_getElem? (i := 827) (by decide +kernel))) rfl
theorem kw_828 : Cond.instanceMethod yX10_threshold ∈ kTB := kTB_of (List.mem_append_right _ (List.mem_of_getElem? (i := 828) (by decide +kernel))) rfl
theorem kw_829 : Cond.selects "DiceAudit" yX10_threshold yX10_threshold ∈ kTB := kTB_of (List.mem_append_right _ (List.mem_of_getElem? (i := 829) (by decide +kernel))) rfl
theorem kw_830 : Cond.code yX10_threshold prog_1_method_9_code (1 : Nat) (Option.some Jvm.ClassFile.FieldType.int) ∈ kTB := kTB_of (List.mem_append_right _ (List.mem_of_getElem? (i := 830) (by decide +kernel))) rfl
theorem kw_831 : Cond.fieldLink "DiceAuditLaw$Hand" (9 : Nat) "DiceAuditLaw$Hand" "weight" "[[I" ∈ kTB := kTB_of (List.mem_append_right _ (List.mem_of_getElem? (i := 831) (by decide +kernel))) rfl
theorem kw_832 : Cond.fieldLink "DiceAuditLaw$Hand" (15 : Nat) "DiceAuditLaw$Hand" "thrown" "[[I" ∈ kTB := kTB_of (List.mem_append_right _ (List.mem_of_getElem? (i := 832) (by decide +kernel))) rfl
theorem kw_833 : Cond.fieldLink "DiceAuditLaw$Hand" (18 : Nat) "DiceAuditLaw$Hand" "queue" "[[I" ∈ kTB := kTB_of (List.mem_append_right _ (List.mem_of_getElem? (i := 833) (by decide +kernel))) rfl
theorem kw_834 : Cond.fieldLink "DiceAuditLaw$Hand" (55 : Nat) "DiceAuditLaw$Hand" "many" "I" ∈ kTB := kTB_of (List.mem_append_right _ (List.mem_of_getElem? (i := 834) (by decide +kernel))) rfl
theorem kw_835 : Cond.fieldLink "DiceAuditLaw$Hand" (68 : Nat) "DiceAuditLaw$Hand" "offences" "I" ∈ kTB := kTB_of (List.mem_append_right _ (List.mem_of_getElem? (i := 835) (by decide +kernel))) rfl
theorem kw_836 : Cond.fieldLink "DiceAuditLaw$Hand" (35 : Nat) "DiceAuditLaw$Hand" "seed" "J" ∈ kTB := kTB_of (List.mem_append_right _ (List.mem_of_getElem? (i := 836) (by decide +kernel))) rfl
theorem kw_837 : Cond.fieldLink "DiceAuditLaw$Hand" (41 : Nat) "DiceAuditLaw$Hand" "minimum" "I" ∈ kTB := kTB_of (List.mem_append_right _ (List.mem_of_getElem? (i := 837) (by decide +kernel))) rfl
theorem kw_838 : Cond.fieldLink "DiceAuditLaw$Hand" (47 : Nat) "DiceAuditLaw$Hand" "threshold" "I" ∈ kTB := kTB_of (List.mem_append_right _ (List.mem_of_getElem? (i := 838) (by decide +kernel))) rfl
theorem kw_855 : Cond.superclass "DiceAuditLaw$Hand" "java/lang/Object" ∈ kTB := kTB_of (List.mem_append_right _ (List.mem_of_getElem? (i := 855) (by decide +kernel))) rfl
theorem kw_856 : Cond.methodLink "DiceAuditLaw" (119 : Nat) yX11_acts ∈ kTB := kTB_of (List.mem_append_right _ (List.mem_of_getElem? (i := 856) (by decide +kernel))) rfl
theorem kw_857 : Cond.instanceMethod yX11_acts ∈ kTB := kTB_of (List.mem_append_right _ (List.mem_of_getElem? (i := 857) (by decide +kernel))) rfl
theorem kw_858 : Cond.selects "DiceAuditLaw$Hand" yX11_acts yX11_acts ∈ kTB := kTB_of (List.mem_append_right _ (List.mem_of_getElem? (i := 858) (by decide +kernel))) rfl
theorem kw_859 : Cond.code yX11_acts prog_13_method_13_code (9 : Nat) (Option.some Jvm.ClassFile.FieldType.int) ∈ kTB := kTB_of (List.mem_append_right _ (List.mem_of_getElem? (i := 859) (by decide +kernel))) rfl
theorem kw_860 : Cond.methodLink "DiceAuditLaw$Hand" (94 : Nat) yX11_throwsDie ∈ kTB := kTB_of (List.mem_append_right _ (List.mem_of_getElem? (i := 860) (by decide +kernel))) rfl
theorem kw_862 : Cond.instanceMethod yX11_throwsDie ∈ kTB := kTB_of (List.mem_append_right _ (List.mem_of_getElem? (i := 862) (by decide +kernel))) rfl
theorem kw_863 : Cond.code yX11_throwsDie prog_13_method_3_code (7 : Nat) (Option.some Jvm.ClassFile.FieldType.int) ∈ kTB := kTB_of (List.mem_append_right _ (List.mem_of_getElem? (i := 863) (by decide +kernel))) rfl
theorem kw_864 : Cond.methodLink "DiceAuditLaw$Hand" (58 : Nat) yX11_shows ∈ kTB := kTB_of (List.mem_append_right _ (List.mem_of_getElem? (i := 864) (by decide +kernel))) rfl
theorem kw_866 : Cond.instanceMethod yX11_shows ∈ kTB := kTB_of (List.mem_append_right _ (List.mem_of_getElem? (i := 866) (by decide +kernel))) rfl
theorem kw_867 : Cond.code yX11_shows prog_13_method_2_code (7 : Nat) (Option.some Jvm.ClassFile.FieldType.int) ∈ kTB := kTB_of (List.mem_append_right _ (List.mem_of_getElem? (i := 867) (by decide +kernel))) rfl
theorem kw_868 : Cond.constantLong "DiceAuditLaw$Hand" (49 : Nat) (75 : Int64) ∈ kTB := kTB_of (List.mem_append_right _ (List.mem_of_getElem? (i := 868) (by decide +kernel))) rfl
theorem kw_869 : Cond.constantLong "DiceAuditLaw$Hand" (51 : Nat) (74 : Int64) ∈ kTB := kTB_of (List.mem_append_right _ (List.mem_of_getElem? (i := 869) (by decide +kernel))) rfl
theorem kw_870 : Cond.constantLong "DiceAuditLaw$Hand" (53 : Nat) (65537 : Int64) ∈ kTB := kTB_of (List.mem_append_right _ (List.mem_of_getElem? (i := 870) (by decide +kernel))) rfl
theorem kw_871 : Cond.methodLink "DiceAuditLaw$Hand" (98 : Nat) yX11_audits ∈ kTB := kTB_of (List.mem_append_right _ (List.mem_of_getElem? (i := 871) (by decide +kernel))) rfl
theorem kw_873 : Cond.instanceMethod yX11_audits ∈ kTB := kTB_of (List.mem_append_right _ (List.mem_of_getElem? (i := 873) (by decide +kernel))) rfl
theorem kw_874 : Cond.code yX11_audits prog_13_method_8_code (4 : Nat) (Option.some Jvm.ClassFile.FieldType.int) ∈ kTB := kTB_of (List.mem_append_right _ (List.mem_of_getElem? (i := 874) (by decide +kernel))) rfl
theorem kw_875 : Cond.methodLink "DiceAuditLaw$Hand" (71 : Nat) yX11_isBad ∈ kTB := kTB_of (List.mem_append_right _ (List.mem_of_getElem? (i := 875) (by decide +kernel))) rfl
theorem kw_877 : Cond.instanceMethod yX11_isBad ∈ kTB := kTB_of (List.mem_append_right _ (List.mem_of_getElem? (i := 877) (by decide +kernel))) rfl
theorem kw_878 : Cond.code yX11_isBad prog_13_method_6_code (3 : Nat) (Option.some Jvm.ClassFile.FieldType.boolean) ∈ kTB := kTB_of (List.mem_append_right _ (List.mem_of_getElem? (i := 878) (by decide +kernel))) rfl
theorem kw_879 : Cond.methodLink "DiceAuditLaw$Hand" (62 : Nat) yX11_ofPair ∈ kTB := kTB_of (List.mem_append_right _ (List.mem_of_getElem? (i := 879) (by decide +kernel))) rfl
theorem kw_881 : Cond.instanceMethod yX11_ofPair ∈ kTB := kTB_of (List.mem_append_right _ (List.mem_of_getElem? (i := 881) (by decide +kernel))) rfl
theorem kw_882 : Cond.code yX11_ofPair prog_13_method_4_code (5 : Nat) (Option.some Jvm.ClassFile.FieldType.int) ∈ kTB := kTB_of (List.mem_append_right _ (List.mem_of_getElem? (i := 882) (by decide +kernel))) rfl
theorem kw_883 : Cond.methodLink "DiceAuditLaw$Hand" (65 : Nat) yX11_score ∈ kTB := kTB_of (List.mem_append_right _ (List.mem_of_getElem? (i := 883) (by decide +kernel))) rfl
theorem kw_885 : Cond.instanceMethod yX11_score ∈ kTB := kTB_of (List.mem_append_right _ (List.mem_of_getElem? (i := 885) (by decide +kernel))) rfl
theorem kw_886 : Cond.code yX11_score prog_13_method_5_code (11 : Nat) (Option.some Jvm.ClassFile.FieldType.int) ∈ kTB := kTB_of (List.mem_append_right _ (List.mem_of_getElem? (i := 886) (by decide +kernel))) rfl
theorem kw_887 : Cond.methodLink "DiceAuditLaw$Hand" (75 : Nat) yX11_isQueued ∈ kTB := kTB_of (List.mem_append_right _ (List.mem_of_getElem? (i := 887) (by decide +kernel))) rfl
theorem kw_889 : Cond.instanceMethod yX11_isQueued ∈ kTB := kTB_of (List.mem_append_right _ (List.mem_of_getElem? (i := 889) (by decide +kernel))) rfl
theorem kw_890 : Cond.code yX11_isQueued prog_13_method_7_code (4 : Nat) (Option.some Jvm.ClassFile.FieldType.boolean) ∈ kTB := kTB_of (List.mem_append_right _ (List.mem_of_getElem? (i := 890) (by decide +kernel))) rfl
theorem kw_891 : Cond.methodLink "DiceAuditLaw$Hand" (101 : Nat) yX11_absolves ∈ kTB := kTB_of (List.mem_append_right _ (List.mem_of_getElem? (i := 891) (by decide +kernel))) rfl
theorem kw_893 : Cond.instanceMethod yX11_absolves ∈ kTB := kTB_of (List.mem_append_right _ (List.mem_of_getElem? (i := 893) (by decide +kernel))) rfl
theorem kw_894 : Cond.code yX11_absolves prog_13_method_12_code (8 : Nat) (Option.some Jvm.ClassFile.FieldType.int) ∈ kTB := kTB_of (List.mem_append_right _ (List.mem_of_getElem? (i := 894) (by decide +kernel))) rfl
theorem kw_895 : Cond.methodLink "DiceAuditLaw$Hand" (82 : Nat) yX11_rank ∈ kTB := kTB_of (List.mem_append_right _ (List.mem_of_getElem? (i := 895) (by decide +kernel))) rfl
theorem kw_897 : Cond.instanceMethod yX11_rank ∈ kTB := kTB_of (List.mem_append_right _ (List.mem_of_getElem? (i := 897) (by decide +kernel))) rfl
theorem kw_898 : Cond.code yX11_rank prog_13_method_10_code (4 : Nat) (Option.some Jvm.ClassFile.FieldType.int) ∈ kTB := kTB_of (List.mem_append_right _ (List.mem_of_getElem? (i := 898) (by decide +kernel))) rfl
theorem kw_899 : Cond.methodLink "DiceAuditLaw$Hand" (78 : Nat) yX11_isWorse ∈ kTB := kTB_of (List.mem_append_right _ (List.mem_of_getElem? (i := 899) (by decide +kernel))) rfl
theorem kw_901 : Cond.instanceMethod yX11_isWorse ∈ kTB := kTB_of (List.mem_append_right _ (List.mem_of_getElem? (i := 901) (by decide +kernel))) rfl
theorem kw_902 : Cond.code yX11_isWorse prog_13_method_9_code (3 : Nat) (Option.some Jvm.ClassFile.FieldType.boolean) ∈ kTB := kTB_of (List.mem_append_right _ (List.mem_of_getElem? (i := 902) (by decide +kernel))) rfl
theorem kw_903 : Cond.methodLink "DiceAuditLaw$Hand" (85 : Nat) yJ9_min_7cf53 ∈ kTB := kTB_of (List.mem_append_right _ (List.mem_of_getElem? (i := 903) (by decide +kernel))) rfl
theorem kw_904 : Cond.methodLink "DiceAuditLaw$Hand" (90 : Nat) yX11_unqueue ∈ kTB := kTB_of (List.mem_append_right _ (List.mem_of_getElem? (i := 904) (by decide +kernel))) rfl
theorem kw_906 : Cond.instanceMethod yX11_unqueue ∈ kTB := kTB_of (List.mem_append_right _ (List.mem_of_getElem? (i := 906) (by decide +kernel))) rfl
theorem kw_907 : Cond.code yX11_unqueue prog_13_method_11_code (2 : Nat) (Option.none : Option Jvm.ClassFile.FieldType) ∈ kTB := kTB_of (List.mem_append_right _ (List.mem_of_getElem? (i := 907) (by decide +kernel))) rfl
theorem kw_908 : Cond.constant "DiceAuditLaw$Hand" (104 : Nat) (65537 : Int32) ∈ kTB := kTB_of (List.mem_append_right _ (List.mem_of_getElem? (i := 908) (by decide +kernel))) rfl
theorem kw_909 : Cond.methodLink "DiceAuditLaw" (126 : Nat) yX11_agrees ∈ kTB := kTB_of (List.mem_append_right _ (List.mem_of_getElem? (i := 909) (by decide +kernel))) rfl
theorem kw_910 : Cond.instanceMethod yX11_agrees ∈ kTB := kTB_of (List.mem_append_right _ (List.mem_of_getElem? (i := 910) (by decide +kernel))) rfl
theorem kw_911 : Cond.selects "DiceAuditLaw$Hand" yX11_agrees yX11_agrees ∈ kTB := kTB_of (List.mem_append_right _ (List.mem_of_getElem? (i := 911) (by decide +kernel))) rfl
theorem kw_912 : Cond.code yX11_agrees prog_13_method_14_code (4 : Nat) (Option.some Jvm.ClassFile.FieldType.boolean) ∈ kTB := kTB_of (List.mem_append_right _ (List.mem_of_getElem? (i := 912) (by decide +kernel))) rfl
theorem kw_913 : Cond.methodLink "DiceAuditLaw$Hand" (105 : Nat) yX10_throwCount ∈ kTB := kTB_of (List.mem_append_right _ (List.mem_of_getElem? (i := 913) (by decide +kernel))) rfl
theorem kw_914 : Cond.instanceMethod yX10_throwCount ∈ kTB := kTB_of (List.mem_append_right _ (List.mem_of_getElem? (i := 914) (by decide +kernel))) rfl
theorem kw_915 : Cond.selects "DiceAudit" yX10_throwCount yX10_throwCount ∈ kTB := kTB_of (List.mem_append_right _ (List.mem_of_getElem? (i := 915) (by decide +kernel))) rfl
theorem kw_916 : Cond.code yX10_throwCount prog_1_method_12_code (1 : Nat) (Option.some Jvm.ClassFile.FieldType.int) ∈ kTB := kTB_of (List.mem_append_right _ (List.mem_of_getElem? (i := 916) (by decide +kernel))) rfl
theorem kw_917 : Cond.methodLink "DiceAuditLaw$Hand" (108 : Nat) yX10_offenceCount ∈ kTB := kTB_of (List.mem_append_right _ (List.mem_of_getElem? (i := 917) (by decide +kernel))) rfl
theorem kw_918 : Cond.instanceMethod yX10_offenceCount ∈ kTB := kTB_of (List.mem_append_right _ (List.mem_of_getElem? (i := 918) (by decide +kernel))) rfl
theorem kw_919 : Cond.selects "DiceAudit" yX10_offenceCount yX10_offenceCount ∈ kTB := kTB_of (List.mem_append_right _ (List.mem_of_getElem? (i := 919) (by decide +kernel))) rfl
theorem kw_920 : Cond.code yX10_offenceCount prog_1_method_38_code (1 : Nat) (Option.some Jvm.ClassFile.FieldType.int) ∈ kTB := kTB_of (List.mem_append_right _ (List.mem_of_getElem? (i := 920) (by decide +kernel))) rfl
theorem kw_921 : Cond.methodLink "DiceAuditLaw$Hand" (111 : Nat) yX10_playerAt ∈ kTB := kTB_of (List.mem_append_right _ (List.mem_of_getElem? (i := 921) (by decide +kernel))) rfl
theorem kw_922 : Cond.instanceMethod yX10_playerAt ∈ kTB := kTB_of (List.mem_append_right _ (List.mem_of_getElem? (i := 922) (by decide +kernel))) rfl
theorem kw_923 : Cond.selects "DiceAudit" yX10_playerAt yX10_playerAt ∈ kTB := kTB_of (List.mem_append_right _ (List.mem_of_getElem? (i := 923) (by decide +kernel))) rfl
theorem kw_924 : Cond.code yX10_playerAt prog_1_method_18_code (2 : Nat) (Option.some Jvm.ClassFile.FieldType.int) ∈ kTB := kTB_of (List.mem_append_right _ (List.mem_of_getElem? (i := 924) (by decide +kernel))) rfl
theorem kw_925 : Cond.methodLink "DiceAudit" (184 : Nat) yX10_requireThrow ∈ kTB := kTB_of (List.mem_append_right _ (List.mem_of_getElem? (i := 925) (by decide +kernel))) rfl
theorem kw_927 : Cond.instanceMethod yX10_requireThrow ∈ kTB := kTB_of (List.mem_append_right _ (List.mem_of_getElem? (i := 927) (by decide +kernel))) rfl
theorem kw_928 : Cond.code yX10_requireThrow prog_1_method_70_code (2 : Nat) (Option.none : Option Jvm.ClassFile.FieldType) ∈ kTB := kTB_of (List.mem_append_right _ (List.mem_of_getElem? (i := 928) (by decide +kernel))) rfl
theorem kw_929 : Cond.methodLink "DiceAudit" (187 : Nat) yX4_pairIn ∈ kTB := kTB_of (List.mem_append_right _ (List.mem_of_getElem? (i := 929) (by decide +kernel))) rfl
theorem kw_930 : Cond.methodLink "DiceAudit" (190 : Nat) yX10_playerOf ∈ kTB := kTB_of (List.mem_append_right _ (List.mem_of_getElem? (i := 930) (by decide +kernel))) rfl
theorem kw_931 : Cond.methodLink "DiceAuditLaw$Hand" (114 : Nat) yX10_dieAt ∈ kTB := kTB_of (List.mem_append_right _ (List.mem_of_getElem? (i := 931) (by decide +kernel))) rfl
theorem kw_932 : Cond.instanceMethod yX10_dieAt ∈ kTB := kTB_of (List.mem_append_right _ (List.mem_of_getElem? (i := 932) (by decide +kernel))) rfl
theorem kw_933 : Cond.selects "DiceAudit" yX10_dieAt yX10_dieAt ∈ kTB := kTB_of (List.mem_append_right _ (List.mem_of_getElem? (i := 933) (by decide +kernel))) rfl
theorem kw_934 : Cond.code yX10_dieAt prog_1_method_19_code (2 : Nat) (Option.some Jvm.ClassFile.FieldType.int) ∈ kTB := kTB_of (List.mem_append_right _ (List.mem_of_getElem? (i := 934) (by decide +kernel))) rfl
theorem kw_935 : Cond.methodLink "DiceAudit" (193 : Nat) yX10_dieOf ∈ kTB := kTB_of (List.mem_append_right _ (List.mem_of_getElem? (i := 935) (by decide +kernel))) rfl
theorem kw_936 : Cond.methodLink "DiceAuditLaw$Hand" (117 : Nat) yX10_faceAt ∈ kTB := kTB_of (List.mem_append_right _ (List.mem_of_getElem? (i := 936) (by decide +kernel))) rfl
theorem kw_937 : Cond.instanceMethod yX10_faceAt ∈ kTB := kTB_of (List.mem_append_right _ (List.mem_of_getElem? (i := 937) (by decide +kernel))) rfl
theorem kw_938 : Cond.selects "DiceAudit" yX10_faceAt yX10_faceAt ∈ kTB := kTB_of (List.mem_append_right _ (List.mem_of_getElem? (i := 938) (by decide +kernel))) rfl
theorem kw_939 : Cond.code yX10_faceAt prog_1_method_20_code (2 : Nat) (Option.some Jvm.ClassFile.FieldType.int) ∈ kTB := kTB_of (List.mem_append_right _ (List.mem_of_getElem? (i := 939) (by decide +kernel))) rfl
theorem kw_940 : Cond.methodLink "DiceAudit" (196 : Nat) yX4_faceIn ∈ kTB := kTB_of (List.mem_append_right _ (List.mem_of_getElem? (i := 940) (by decide +kernel))) rfl
theorem kw_941 : Cond.methodLink "DiceAuditLaw$Hand" (120 : Nat) yX10_isFairAt ∈ kTB := kTB_of (List.mem_append_right _ (List.mem_of_getElem? (i := 941) (by decide +kernel))) rfl
theorem kw_942 : Cond.instanceMethod yX10_isFairAt ∈ kTB := kTB_of (List.mem_append_right _ (List.mem_of_getElem? (i := 942) (by decide +kernel))) rfl
theorem kw_943 : Cond.selects "DiceAudit" yX10_isFairAt yX10_isFairAt ∈ kTB := kTB_of (List.mem_append_right _ (List.mem_of_getElem? (i := 943) (by decide +kernel))) rfl
theorem kw_944 : Cond.code yX10_isFairAt prog_1_method_21_code (2 : Nat) (Option.some Jvm.ClassFile.FieldType.boolean) ∈ kTB := kTB_of (List.mem_append_right _ (List.mem_of_getElem? (i := 944) (by decide +kernel))) rfl
theorem kw_945 : Cond.methodLink "DiceAudit" (199 : Nat) yX4_isMarked ∈ kTB := kTB_of (List.mem_append_right _ (List.mem_of_getElem? (i := 945) (by decide +kernel))) rfl
theorem kw_946 : Cond.methodLink "DiceAuditLaw$Hand" (124 : Nat) yX10_offencePlayer ∈ kTB := kTB_of (List.mem_append_right _ (List.mem_of_getElem? (i := 946) (by decide +kernel))) rfl
theorem kw_947 : Cond.instanceMethod yX10_offencePlayer ∈ kTB := kTB_of (List.mem_append_right _ (List.mem_of_getElem? (i := 947) (by decide +kernel))) rfl
theorem kw_948 : Cond.selects "DiceAudit" yX10_offencePlayer yX10_offencePlayer ∈ kTB := kTB_of (List.mem_append_right _ (List.mem_of_getElem? (i := 948) (by decide +kernel))) rfl
theorem kw_949 : Cond.code yX10_offencePlayer prog_1_method_39_code (2 : Nat) (Option.some Jvm.ClassFile.FieldType.int) ∈ kTB := kTB_of (List.mem_append_right _ (List.mem_of_getElem? (i := 949) (by decide +kernel))) rfl
theorem kw_950 : Cond.methodLink "DiceAudit" (262 : Nat) yX10_requireOffence ∈ kTB := kTB_of (List.mem_append_right _ (List.mem_of_getElem? (i := 950) (by decide +kernel))) rfl
theorem kw_952 : Cond.instanceMethod yX10_requireOffence ∈ kTB := kTB_of (List.mem_append_right _ (List.mem_of_getElem? (i := 952) (by decide +kernel))) rfl
theorem kw_953 : Cond.code yX10_requireOffence prog_1_method_71_code (2 : Nat) (Option.none : Option Jvm.ClassFile.FieldType) ∈ kTB := kTB_of (List.mem_append_right _ (List.mem_of_getElem? (i := 953) (by decide +kernel))) rfl
theorem kw_954 : Cond.methodLink "DiceAuditLaw$Hand" (127 : Nat) yX10_offenceDie ∈ kTB := kTB_of (List.mem_append_right _ (List.mem_of_getElem? (i := 954) (by decide +kernel))) rfl
theorem kw_955 : Cond.instanceMethod yX10_offenceDie ∈ kTB := kTB_of (List.mem_append_right _ (List.mem_of_getElem? (i := 955) (by decide +kernel))) rfl
theorem kw_956 : Cond.selects "DiceAudit" yX10_offenceDie yX10_offenceDie ∈ kTB := kTB_of (List.mem_append_right _ (List.mem_of_getElem? (i := 956) (by decide +kernel))) rfl
theorem kw_957 : Cond.code yX10_offenceDie prog_1_method_40_code (2 : Nat) (Option.some Jvm.ClassFile.FieldType.int) ∈ kTB := kTB_of (List.mem_append_right _ (List.mem_of_getElem? (i := 957) (by decide +kernel))) rfl
theorem kw_958 : Cond.methodLink "DiceAuditLaw$Hand" (130 : Nat) yX10_offenceScore ∈ kTB := kTB_of (List.mem_append_right _ (List.mem_of_getElem? (i := 958) (by decide +kernel))) rfl
theorem kw_959 : Cond.instanceMethod yX10_offenceScore ∈ kTB := kTB_of (List.mem_append_right _ (List.mem_of_getElem? (i := 959) (by decide +kernel))) rfl
theorem kw_960 : Cond.selects "DiceAudit" yX10_offenceScore yX10_offenceScore ∈ kTB := kTB_of (List.mem_append_right _ (List.mem_of_getElem? (i := 960) (by decide +kernel))) rfl
theorem kw_961 : Cond.code yX10_offenceScore prog_1_method_41_code (2 : Nat) (Option.some Jvm.ClassFile.FieldType.int) ∈ kTB := kTB_of (List.mem_append_right _ (List.mem_of_getElem? (i := 961) (by decide +kernel))) rfl
theorem kw_962 : Cond.methodLink "DiceAuditLaw$Hand" (133 : Nat) yX10_score ∈ kTB := kTB_of (List.mem_append_right _ (List.mem_of_getElem? (i := 962) (by decide +kernel))) rfl
theorem kw_963 : Cond.instanceMethod yX10_score ∈ kTB := kTB_of (List.mem_append_right _ (List.mem_of_getElem? (i := 963) (by decide +kernel))) rfl
theorem kw_964 : Cond.selects "DiceAudit" yX10_score yX10_score ∈ kTB := kTB_of (List.mem_append_right _ (List.mem_of_getElem? (i := 964) (by decide +kernel))) rfl
theorem kw_965 : Cond.code yX10_score prog_1_method_34_code (3 : Nat) (Option.some Jvm.ClassFile.FieldType.int) ∈ kTB := kTB_of (List.mem_append_right _ (List.mem_of_getElem? (i := 965) (by decide +kernel))) rfl
theorem kw_966 : Cond.methodLink "DiceAudit" (220 : Nat) yX10_requirePair ∈ kTB := kTB_of (List.mem_append_right _ (List.mem_of_getElem? (i := 966) (by decide +kernel))) rfl
theorem kw_968 : Cond.instanceMethod yX10_requirePair ∈ kTB := kTB_of (List.mem_append_right _ (List.mem_of_getElem? (i := 968) (by decide +kernel))) rfl
theorem kw_969 : Cond.code yX10_requirePair prog_1_method_69_code (3 : Nat) (Option.none : Option Jvm.ClassFile.FieldType) ∈ kTB := kTB_of (List.mem_append_right _ (List.mem_of_getElem? (i := 969) (by decide +kernel))) rfl
theorem kw_970 : Cond.methodLink "DiceAudit" (170 : Nat) yX10_requirePlayer ∈ kTB := kTB_of (List.mem_append_right _ (List.mem_of_getElem? (i := 970) (by decide +kernel))) rfl
theorem kw_972 : Cond.instanceMethod yX10_requirePlayer ∈ kTB := kTB_of (List.mem_append_right _ (List.mem_of_getElem? (i := 972) (by decide +kernel))) rfl
theorem kw_973 : Cond.code yX10_requirePlayer prog_1_method_68_code (2 : Nat) (Option.none : Option Jvm.ClassFile.FieldType) ∈ kTB := kTB_of (List.mem_append_right _ (List.mem_of_getElem? (i := 973) (by decide +kernel))) rfl
theorem kw_974 : Cond.methodLink "DiceAudit" (223 : Nat) yX10_pairOf ∈ kTB := kTB_of (List.mem_append_right _ (List.mem_of_getElem? (i := 974) (by decide +kernel))) rfl
theorem kw_975 : Cond.methodLink "DiceAudit" (242 : Nat) yX2_pairScore ∈ kTB := kTB_of (List.mem_append_right _ (List.mem_of_getElem? (i := 975) (by decide +kernel))) rfl
theorem kw_976 : Cond.methodLink "DiceAuditLaw$Hand" (134 : Nat) yX10_isSuspicious ∈ kTB := kTB_of (List.mem_append_right _ (List.mem_of_getElem? (i := 976) (by decide +kernel))) rfl
theorem kw_977 : Cond.instanceMethod yX10_isSuspicious ∈ kTB := kTB_of (List.mem_append_right _ (List.mem_of_getElem? (i := 977) (by decide +kernel))) rfl
theorem kw_978 : Cond.selects "DiceAudit" yX10_isSuspicious yX10_isSuspicious ∈ kTB := kTB_of (List.mem_append_right _ (List.mem_of_getElem? (i := 978) (by decide +kernel))) rfl
theorem kw_979 : Cond.code yX10_isSuspicious prog_1_method_35_code (3 : Nat) (Option.some Jvm.ClassFile.FieldType.boolean) ∈ kTB := kTB_of (List.mem_append_right _ (List.mem_of_getElem? (i := 979) (by decide +kernel))) rfl
theorem kw_980 : Cond.methodLink "DiceAudit" (245 : Nat) yX2_isPairSuspicious ∈ kTB := kTB_of (List.mem_append_right _ (List.mem_of_getElem? (i := 980) (by decide +kernel))) rfl
theorem kw_981 : Cond.instanceMethod yX2_isPairSuspicious ∈ kTB := kTB_of (List.mem_append_right _ (List.mem_of_getElem? (i := 981) (by decide +kernel))) rfl
theorem kw_982 : Cond.selects "DiceAudit$Hall" yX2_isPairSuspicious yX2_isPairSuspicious ∈ kTB := kTB_of (List.mem_append_right _ (List.mem_of_getElem? (i := 982) (by decide +kernel))) rfl
theorem kw_983 : Cond.code yX2_isPairSuspicious prog_4_method_7_code (2 : Nat) (Option.some Jvm.ClassFile.FieldType.boolean) ∈ kTB := kTB_of (List.mem_append_right _ (List.mem_of_getElem? (i := 983) (by decide +kernel))) rfl
theorem kw_984 : Cond.methodLink "DiceAuditLaw$Hand" (137 : Nat) yX10_throwsOfPair ∈ kTB := kTB_of (List.mem_append_right _ (List.mem_of_getElem? (i := 984) (by decide +kernel))) rfl
theorem kw_985 : Cond.instanceMethod yX10_throwsOfPair ∈ kTB := kTB_of (List.mem_append_right _ (List.mem_of_getElem? (i := 985) (by decide +kernel))) rfl
theorem kw_986 : Cond.selects "DiceAudit" yX10_throwsOfPair yX10_throwsOfPair ∈ kTB := kTB_of (List.mem_append_right _ (List.mem_of_getElem? (i := 986) (by decide +kernel))) rfl
theorem kw_987 : Cond.code yX10_throwsOfPair prog_1_method_29_code (3 : Nat) (Option.some Jvm.ClassFile.FieldType.int) ∈ kTB := kTB_of (List.mem_append_right _ (List.mem_of_getElem? (i := 987) (by decide +kernel))) rfl
theorem kw_988 : Cond.methodLink "DiceAudit" (226 : Nat) yX4_pairThrows ∈ kTB := kTB_of (List.mem_append_right _ (List.mem_of_getElem? (i := 988) (by decide +kernel))) rfl
theorem kw_989 : Cond.methodLink "DiceAuditLaw" (33 : Nat) yL_cell ∈ kTB := kTB_of (List.mem_append_right _ (List.mem_of_getElem? (i := 989) (by decide +kernel))) rfl
theorem kw_990 : Cond.static yL_cell ∈ kTB := kTB_of (List.mem_append_right _ (List.mem_of_getElem? (i := 990) (by decide +kernel))) rfl
theorem kw_991 : Cond.code yL_cell method_2_code (2 : Nat) (Option.some Jvm.ClassFile.FieldType.int) ∈ kTB := kTB_of (List.mem_append_right _ (List.mem_of_getElem? (i := 991) (by decide +kernel))) rfl
theorem kw_992 : Cond.constant "DiceAuditLaw" (7 : Nat) (2147483647 : Int32) ∈ kTB := kTB_of (List.mem_append_right _ (List.mem_of_getElem? (i := 992) (by decide +kernel))) rfl
theorem kw_993 : Cond.methodLink "DiceAuditLaw" (100 : Nat) yL_says ∈ kTB := kTB_of (List.mem_append_right _ (List.mem_of_getElem? (i := 993) (by decide +kernel))) rfl
theorem kw_994 : Cond.static yL_says ∈ kTB := kTB_of (List.mem_append_right _ (List.mem_of_getElem? (i := 994) (by decide +kernel))) rfl
theorem kw_995 : Cond.code yL_says method_3_code (5 : Nat) (Option.none : Option Jvm.ClassFile.FieldType) ∈ kTB := kTB_of (List.mem_append_right _ (List.mem_of_getElem? (i := 995) (by decide +kernel))) rfl
theorem kw_996 : Cond.methodLink "DiceAuditLaw" (8 : Nat) yJ0_length_8abf5 ∈ kTB := kTB_of (List.mem_append_right _ (List.mem_of_getElem? (i := 996) (by decide +kernel))) rfl
theorem kw_997 : Cond.methodLink "DiceAuditLaw" (14 : Nat) yJ0_charAt_5068e ∈ kTB := kTB_of (List.mem_append_right _ (List.mem_of_getElem? (i := 997) (by decide +kernel))) rfl
theorem kw_998 : Cond.methodLink "DiceAuditLaw" (18 : Nat) yX10_appendInput ∈ kTB := kTB_of (List.mem_append_right _ (List.mem_of_getElem? (i := 998) (by decide +kernel))) rfl
theorem kw_999 : Cond.instanceMethod yX10_appendInput ∈ kTB := kTB_of (List.mem_append_right _ (List.mem_of_getElem? (i := 999) (by decide +kernel))) rfl
theorem kw_1000 : Cond.selects "DiceAudit" yX10_appendInput yX10_appendInput ∈ kTB := kTB_of (List.mem_append_right _ (List.mem_of_getElem? (i := 1000) (by decide +kernel))) rfl
theorem kw_1001 : Cond.code yX10_appendInput prog_1_method_2_code (6 : Nat) (Option.some Jvm.ClassFile.FieldType.int) ∈ kTB := kTB_of (List.mem_append_right _ (List.mem_of_getElem? (i := 1001) (by decide +kernel))) rfl
theorem kw_1002 : Cond.classLink "DiceAudit" (82 : Nat) "java/lang/IllegalStateException" ∈ kTB := kTB_of (List.mem_append_right _ (List.mem_of_getElem? (i := 1002) (by decide +kernel))) rfl
theorem kw_1003 : Cond.instantiable "java/lang/IllegalStateException" (6 : Nat) ∈ kTB := kTB_of (List.mem_append_right _ (List.mem_of_getElem? (i := 1003) (by decide +kernel))) rfl
theorem kw_1004 : Cond.castable "java/lang/IllegalStateException" "java/lang/IllegalStateException" ∈ kTN := kTN_of (List.mem_append_right _ (List.mem_of_getElem? (i := 1004) (by decide +kernel))) rfl
theorem kw_1005 : Cond.selects "java/lang/IllegalStateException" ({ cls := "java/lang/Throwable", name := "fillInStackTrace", desc := "(I)Ljava/lang/Throwable;" } : Jvm.MethodName) ({ cls := "java/lang/Throwable", name := "fillInStackTrace", desc := "(I)Ljava/lang/Throwable;" } : Jvm.MethodName) ∈ kTB := kTB_of (List.mem_append_right _ (List.mem_of_getElem? (i := 1005) (by decide +kernel))) rfl
theorem kw_1012 : Cond.methodLink "DiceAudit" (86 : Nat) ({ cls := "java/lang/IllegalStateException", name := "<init>", desc := "(Ljava/lang/String;)V" } : Jvm.MethodName) ∈ kTB := kTB_of (List.mem_append_right _ (List.mem_of_getElem? (i := 1012) (by decide +kernel))) rfl
theorem kw_1013 : Cond.instanceMethod ({ cls := "java/lang/IllegalStateException", name := "<init>", desc := "(Ljava/lang/String;)V" } : Jvm.MethodName) ∈ kTB := kTB_of (List.mem_append_right _ (List.mem_of_getElem? (i := 1013) (by decide +kernel))) rfl
theorem kw_1014 : Cond.code ({ cls := "java/lang/IllegalStateException", name := "<init>", desc := "(Ljava/lang/String;)V" } : Jvm.MethodName) prog_19_method_2_code (2 : Nat) (Option.none : Option Jvm.ClassFile.FieldType) ∈ kTB := kTB_of (List.mem_append_right _ (List.mem_of_getElem? (i := 1014) (by decide +kernel))) rfl
theorem kw_1015 : Cond.methodLink "java/lang/IllegalStateException" (7 : Nat) ({ cls := "java/lang/RuntimeException", name := "<init>", desc := "(Ljava/lang/String;)V" } : Jvm.MethodName) ∈ kTB := kTB_of (List.mem_append_right _ (List.mem_of_getElem? (i := 1015) (by decide +kernel))) rfl
theorem kw_1017 : Cond.superclass "java/lang/IllegalStateException" "java/lang/RuntimeException" ∈ kTB := kTB_of (List.mem_append_right _ (List.mem_of_getElem? (i := 1017) (by decide +kernel))) rfl
theorem kw_1018 : Cond.methodLink "DiceAudit" (88 : Nat) yX8_appendWord ∈ kTB := kTB_of (List.mem_append_right _ (List.mem_of_getElem? (i := 1018) (by decide +kernel))) rfl
theorem kw_1019 : Cond.instanceMethod yX8_appendWord ∈ kTB := kTB_of (List.mem_append_right _ (List.mem_of_getElem? (i := 1019) (by decide +kernel))) rfl
theorem kw_1020 : Cond.selects "DiceAudit$Text" yX8_appendWord yX8_appendWord ∈ kTB := kTB_of (List.mem_append_right _ (List.mem_of_getElem? (i := 1020) (by decide +kernel))) rfl
theorem kw_1021 : Cond.code yX8_appendWord prog_10_method_4_code (3 : Nat) (Option.none : Option Jvm.ClassFile.FieldType) ∈ kTB := kTB_of (List.mem_append_right _ (List.mem_of_getElem? (i := 1021) (by decide +kernel))) rfl
theorem kw_1022 : Cond.methodLink "DiceAuditLaw" (24 : Nat) yX10_truncateInput ∈ kTB := kTB_of (List.mem_append_right _ (List.mem_of_getElem? (i := 1022) (by decide +kernel))) rfl
theorem kw_1023 : Cond.instanceMethod yX10_truncateInput ∈ kTB := kTB_of (List.mem_append_right _ (List.mem_of_getElem? (i := 1023) (by decide +kernel))) rfl
theorem kw_1024 : Cond.selects "DiceAudit" yX10_truncateInput yX10_truncateInput ∈ kTB := kTB_of (List.mem_append_right _ (List.mem_of_getElem? (i := 1024) (by decide +kernel))) rfl
theorem kw_1025 : Cond.code yX10_truncateInput prog_1_method_3_code (2 : Nat) (Option.some Jvm.ClassFile.FieldType.int) ∈ kTB := kTB_of (List.mem_append_right _ (List.mem_of_getElem? (i := 1025) (by decide +kernel))) rfl
theorem kw_1026 : Cond.methodLink "DiceAuditLaw" (104 : Nat) yL_loaded ∈ kTB := kTB_of (List.mem_append_right _ (List.mem_of_getElem? (i := 1026) (by decide +kernel))) rfl
theorem kw_1027 : Cond.static yL_loaded ∈ kTB := kTB_of (List.mem_append_right _ (List.mem_of_getElem? (i := 1027) (by decide +kernel))) rfl
theorem kw_1028 : Cond.codeWith yL_loaded method_4_code (2 : Nat) (Option.some Jvm.ClassFile.FieldType.int) [((0 : Nat), (4 : Nat), (5 : Nat), (31 : Nat))] ∈ kTB := kTB_of (List.mem_append_right _ (List.mem_of_getElem? (i := 1028) (by decide +kernel))) rfl
theorem kw_1029 : Cond.classLink "DiceAuditLaw" (31 : Nat) "java/lang/IllegalArgumentException" ∈ kTB := kTB_of (List.mem_append_right _ (List.mem_of_getElem? (i := 1029) (by decide +kernel))) rfl
theorem kw_1030 : Cond.methodLink "DiceAuditLaw" (28 : Nat) yX10_load ∈ kTB := kTB_of (List.mem_append_right _ (List.mem_of_getElem? (i := 1030) (by decide +kernel))) rfl
theorem kw_1031 : Cond.instanceMethod yX10_load ∈ kTB := kTB_of (List.mem_append_right _ (List.mem_of_getElem? (i := 1031) (by decide +kernel))) rfl
theorem kw_1032 : Cond.selects "DiceAudit" yX10_load yX10_load ∈ kTB := kTB_of (List.mem_append_right _ (List.mem_of_getElem? (i := 1032) (by decide +kernel))) rfl
theorem kw_1033 : Cond.code yX10_load prog_1_method_4_code (2 : Nat) (Option.some Jvm.ClassFile.FieldType.int) ∈ kTB := kTB_of (List.mem_append_right _ (List.mem_of_getElem? (i := 1033) (by decide +kernel))) rfl
theorem kw_1035 : Cond.methodLink "DiceAudit" (100 : Nat) yX3_remember ∈ kTB := kTB_of (List.mem_append_right _ (List.mem_of_getElem? (i := 1035) (by decide +kernel))) rfl
theorem kw_1036 : Cond.instanceMethod yX3_remember ∈ kTB := kTB_of (List.mem_append_right _ (List.mem_of_getElem? (i := 1036) (by decide +kernel))) rfl
theorem kw_1037 : Cond.selects "DiceAudit$History" yX3_remember yX3_remember ∈ kTB := kTB_of (List.mem_append_right _ (List.mem_of_getElem? (i := 1037) (by decide +kernel))) rfl
theorem kw_1038 : Cond.code yX3_remember prog_5_method_2_code (2 : Nat) (Option.none : Option Jvm.ClassFile.FieldType) ∈ kTB := kTB_of (List.mem_append_right _ (List.mem_of_getElem? (i := 1038) (by decide +kernel))) rfl
theorem kw_1039 : Cond.methodLink "DiceAudit$History" (25 : Nat) yX2_copyFrom ∈ kTB := kTB_of (List.mem_append_right _ (List.mem_of_getElem? (i := 1039) (by decide +kernel))) rfl
theorem kw_1040 : Cond.methodLink "DiceAudit$History" (29 : Nat) yJ9_min_7cf53 ∈ kTB := kTB_of (List.mem_append_right _ (List.mem_of_getElem? (i := 1040) (by decide +kernel))) rfl
theorem kw_1041 : Cond.methodLink "DiceAuditLaw" (96 : Nat) yL_text ∈ kTB := kTB_of (List.mem_append_right _ (List.mem_of_getElem? (i := 1041) (by decide +kernel))) rfl
theorem kw_1042 : Cond.static yL_text ∈ kTB := kTB_of (List.mem_append_right _ (List.mem_of_getElem? (i := 1042) (by decide +kernel))) rfl
theorem kw_1043 : Cond.code yL_text method_5_code (7 : Nat) (Option.some (Jvm.ClassFile.FieldType.object "java/lang/String")) ∈ kTB := kTB_of (List.mem_append_right _ (List.mem_of_getElem? (i := 1043) (by decide +kernel))) rfl
theorem kw_1044 : Cond.classLink "DiceAuditLaw" (39 : Nat) "java/lang/StringBuilder" ∈ kTB := kTB_of (List.mem_append_right _ (List.mem_of_getElem? (i := 1044) (by decide +kernel))) rfl
theorem kw_1045 : Cond.instantiable "java/lang/StringBuilder" (4 : Nat) ∈ kTB := kTB_of (List.mem_append_right _ (List.mem_of_getElem? (i := 1045) (by decide +kernel))) rfl
theorem kw_1047 : Cond.methodLink "DiceAuditLaw" (43 : Nat) yJ4_init_a7421 ∈ kTB := kTB_of (List.mem_append_right _ (List.mem_of_getElem? (i := 1047) (by decide +kernel))) rfl
theorem kw_1048 : Cond.instanceMethod yJ4_init_a7421 ∈ kTB := kTB_of (List.mem_append_right _ (List.mem_of_getElem? (i := 1048) (by decide +kernel))) rfl
theorem kw_1049 : Cond.code yJ4_init_a7421 prog_26_method_3_code (2 : Nat) (Option.none : Option Jvm.ClassFile.FieldType) ∈ kTB := kTB_of (List.mem_append_right _ (List.mem_of_getElem? (i := 1049) (by decide +kernel))) rfl
theorem kw_1050 : Cond.methodLink "java/lang/StringBuilder" (7 : Nat) yJ5_init_a7421 ∈ kTB := kTB_of (List.mem_append_right _ (List.mem_of_getElem? (i := 1050) (by decide +kernel))) rfl
theorem kw_1051 : Cond.instanceMethod yJ5_init_a7421 ∈ kTB := kTB_of (List.mem_append_right _ (List.mem_of_getElem? (i := 1051) (by decide +kernel))) rfl
theorem kw_1052 : Cond.code yJ5_init_a7421 prog_15_method_3_code (5 : Nat) (Option.none : Option Jvm.ClassFile.FieldType) ∈ kTB := kTB_of (List.mem_append_right _ (List.mem_of_getElem? (i := 1052) (by decide +kernel))) rfl
theorem kw_1053 : Cond.methodLink "java/lang/AbstractStringBuilder" (3 : Nat) ({ cls := "java/lang/Object", name := "<init>", desc := "()V" } : Jvm.MethodName) ∈ kTB := kTB_of (List.mem_append_right _ (List.mem_of_getElem? (i := 1053) (by decide +kernel))) rfl
theorem kw_1054 : Cond.methodLink "java/lang/AbstractStringBuilder" (32 : Nat) yJ0_length_8abf5 ∈ kTB := kTB_of (List.mem_append_right _ (List.mem_of_getElem? (i := 1054) (by decide +kernel))) rfl
theorem kw_1055 : Cond.constant "java/lang/AbstractStringBuilder" (38 : Nat) (2147483631 : Int32) ∈ kTB := kTB_of (List.mem_append_right _ (List.mem_of_getElem? (i := 1055) (by decide +kernel))) rfl
theorem kw_1056 : Cond.constant "java/lang/AbstractStringBuilder" (39 : Nat) (2147483647 : Int32) ∈ kTB := kTB_of (List.mem_append_right _ (List.mem_of_getElem? (i := 1056) (by decide +kernel))) rfl
theorem kw_1057 : Cond.methodLink "java/lang/AbstractStringBuilder" (40 : Nat) yJ0_coder_7d493 ∈ kTB := kTB_of (List.mem_append_right _ (List.mem_of_getElem? (i := 1057) (by decide +kernel))) rfl
theorem kw_1058 : Cond.methodLink "java/lang/AbstractStringBuilder" (26 : Nat) yJ2_newBytesFor_77867 ∈ kTB := kTB_of (List.mem_append_right _ (List.mem_of_getElem? (i := 1058) (by decide +kernel))) rfl
theorem kw_1059 : Cond.static yJ2_newBytesFor_77867 ∈ kTB := kTB_of (List.mem_append_right _ (List.mem_of_getElem? (i := 1059) (by decide +kernel))) rfl
theorem kw_1060 : Cond.code yJ2_newBytesFor_77867 prog_28_method_2_code (1 : Nat) (Option.some (Jvm.ClassFile.FieldType.array Jvm.ClassFile.FieldType.byte)) ∈ kTB := kTB_of (List.mem_append_right _ (List.mem_of_getElem? (i := 1060) (by decide +kernel))) rfl
theorem kw_1061 : Cond.methodLink "java/lang/StringUTF16" (11 : Nat) yJ2_newBytesLength_0f7a4 ∈ kTB := kTB_of (List.mem_append_right _ (List.mem_of_getElem? (i := 1061) (by decide +kernel))) rfl
theorem kw_1062 : Cond.static yJ2_newBytesLength_0f7a4 ∈ kTB := kTB_of (List.mem_append_right _ (List.mem_of_getElem? (i := 1062) (by decide +kernel))) rfl
theorem kw_1063 : Cond.code yJ2_newBytesLength_0f7a4 prog_28_method_3_code (1 : Nat) (Option.some Jvm.ClassFile.FieldType.int) ∈ kTB := kTB_of (List.mem_append_right _ (List.mem_of_getElem? (i := 1063) (by decide +kernel))) rfl
theorem kw_1064 : Cond.constant "java/lang/StringUTF16" (20 : Nat) (1073741823 : Int32) ∈ kTB := kTB_of (List.mem_append_right _ (List.mem_of_getElem? (i := 1064) (by decide +kernel))) rfl
theorem kw_1065 : Cond.methodLink "java/lang/AbstractStringBuilder" (43 : Nat) yJ5_append_cf1ce ∈ kTB := kTB_of (List.mem_append_right _ (List.mem_of_getElem? (i := 1065) (by decide +kernel))) rfl
theorem kw_1066 : Cond.instanceMethod yJ5_append_cf1ce ∈ kTB := kTB_of (List.mem_append_right _ (List.mem_of_getElem? (i := 1066) (by decide +kernel))) rfl
theorem kw_1067 : Cond.sameMethod "java/lang/AbstractStringBuilder" "java/lang/AbstractStringBuilder" "append" "(Ljava/lang/String;)Ljava/lang/AbstractStringBuilder;" ∈ kTB := kTB_of (List.mem_append_right _ (List.mem_of_getElem? (i := 1067) (by decide +kernel))) rfl
theorem kw_1068 : Cond.selects "java/lang/StringBuilder" yJ5_append_cf1ce yJ4_append_cf1ce ∈ kTB := kTB_of (List.mem_append_right _ (List.mem_of_getElem? (i := 1068) (by decide +kernel))) rfl
theorem kw_1069 : Cond.instanceMethod yJ4_append_cf1ce ∈ kTB := kTB_of (List.mem_append_right _ (List.mem_of_getElem? (i := 1069) (by decide +kernel))) rfl
theorem kw_1070 : Cond.code yJ4_append_cf1ce prog_26_method_80_code (2 : Nat) (Option.some (Jvm.ClassFile.FieldType.object "java/lang/AbstractStringBuilder")) ∈ kTB := kTB_of (List.mem_append_right _ (List.mem_of_getElem? (i := 1070) (by decide +kernel))) rfl
theorem kw_1071 : Cond.methodLink "java/lang/StringBuilder" (23 : Nat) yJ4_append_15ec4 ∈ kTB := kTB_of (List.mem_append_right _ (List.mem_of_getElem? (i := 1071) (by decide +kernel))) rfl
theorem kw_1072 : Cond.instanceMethod yJ4_append_15ec4 ∈ kTB := kTB_of (List.mem_append_right _ (List.mem_of_getElem? (i := 1072) (by decide +kernel))) rfl
theorem kw_1073 : Cond.selects "java/lang/StringBuilder" yJ4_append_15ec4 yJ4_append_15ec4 ∈ kTB := kTB_of (List.mem_append_right _ (List.mem_of_getElem? (i := 1073) (by decide +kernel))) rfl
theorem kw_1074 : Cond.code yJ4_append_15ec4 prog_26_method_7_code (2 : Nat) (Option.some (Jvm.ClassFile.FieldType.object "java/lang/StringBuilder")) ∈ kTB := kTB_of (List.mem_append_right _ (List.mem_of_getElem? (i := 1074) (by decide +kernel))) rfl
theorem kw_1075 : Cond.methodLink "java/lang/StringBuilder" (29 : Nat) yJ5_append_cf1ce ∈ kTB := kTB_of (List.mem_append_right _ (List.mem_of_getElem? (i := 1075) (by decide +kernel))) rfl
theorem kw_1076 : Cond.superclass "java/lang/StringBuilder" "java/lang/AbstractStringBuilder" ∈ kTB := kTB_of (List.mem_append_right _ (List.mem_of_getElem? (i := 1076) (by decide +kernel))) rfl
theorem kw_1077 : Cond.code yJ5_append_cf1ce prog_15_method_22_code (3 : Nat) (Option.some (Jvm.ClassFile.FieldType.object "java/lang/AbstractStringBuilder")) ∈ kTB := kTB_of (List.mem_append_right _ (List.mem_of_getElem? (i := 1077) (by decide +kernel))) rfl
theorem kw_1078 : Cond.methodLink "java/lang/AbstractStringBuilder" (204 : Nat) yJ5_appendNull_278bc ∈ kTB := kTB_of (List.mem_append_right _ (List.mem_of_getElem? (i := 1078) (by decide +kernel))) rfl
theorem kw_1080 : Cond.instanceMethod yJ5_appendNull_278bc ∈ kTB := kTB_of (List.mem_append_right _ (List.mem_of_getElem? (i := 1080) (by decide +kernel))) rfl
theorem kw_1081 : Cond.code yJ5_appendNull_278bc prog_15_method_26_code (3 : Nat) (Option.some (Jvm.ClassFile.FieldType.object "java/lang/AbstractStringBuilder")) ∈ kTB := kTB_of (List.mem_append_right _ (List.mem_of_getElem? (i := 1081) (by decide +kernel))) rfl
theorem kw_1082 : Cond.methodLink "java/lang/AbstractStringBuilder" (100 : Nat) yJ5_ensureCapacityInternal_d00df ∈ kTB := kTB_of (List.mem_append_right _ (List.mem_of_getElem? (i := 1082) (by decide +kernel))) rfl
theorem kw_1084 : Cond.instanceMethod yJ5_ensureCapacityInternal_d00df ∈ kTB := kTB_of (List.mem_append_right _ (List.mem_of_getElem? (i := 1084) (by decide +kernel))) rfl
theorem kw_1085 : Cond.code yJ5_ensureCapacityInternal_d00df prog_15_method_9_code (3 : Nat) (Option.none : Option Jvm.ClassFile.FieldType) ∈ kTB := kTB_of (List.mem_append_right _ (List.mem_of_getElem? (i := 1085) (by decide +kernel))) rfl
theorem kw_1086 : Cond.methodLink "java/lang/AbstractStringBuilder" (104 : Nat) yJ5_newCapacity_0f7a4 ∈ kTB := kTB_of (List.mem_append_right _ (List.mem_of_getElem? (i := 1086) (by decide +kernel))) rfl
theorem kw_1088 : Cond.instanceMethod yJ5_newCapacity_0f7a4 ∈ kTB := kTB_of (List.mem_append_right _ (List.mem_of_getElem? (i := 1088) (by decide +kernel))) rfl
theorem kw_1089 : Cond.code yJ5_newCapacity_0f7a4 prog_15_method_10_code (6 : Nat) (Option.some Jvm.ClassFile.FieldType.int) ∈ kTB := kTB_of (List.mem_append_right _ (List.mem_of_getElem? (i := 1089) (by decide +kernel))) rfl
theorem kw_1090 : Cond.methodLink "java/lang/AbstractStringBuilder" (114 : Nat) yJ8_newLength_cabcc ∈ kTB := kTB_of (List.mem_append_right _ (List.mem_of_getElem? (i := 1090) (by decide +kernel))) rfl
theorem kw_1091 : Cond.static yJ8_newLength_cabcc ∈ kTB := kTB_of (List.mem_append_right _ (List.mem_of_getElem? (i := 1091) (by decide +kernel))) rfl
theorem kw_1092 : Cond.code yJ8_newLength_cabcc prog_32_method_27_code (4 : Nat) (Option.some Jvm.ClassFile.FieldType.int) ∈ kTB := kTB_of (List.mem_append_right _ (List.mem_of_getElem? (i := 1092) (by decide +kernel))) rfl
theorem kw_1093 : Cond.methodLink "jdk/internal/util/ArraysSupport" (194 : Nat) yJ9_max_7cf53 ∈ kTB := kTB_of (List.mem_append_right _ (List.mem_of_getElem? (i := 1093) (by decide +kernel))) rfl
theorem kw_1094 : Cond.constant "jdk/internal/util/ArraysSupport" (200 : Nat) (2147483639 : Int32) ∈ kTB := kTB_of (List.mem_append_right _ (List.mem_of_getElem? (i := 1094) (by decide +kernel))) rfl
theorem kw_1095 : Cond.methodLink "jdk/internal/util/ArraysSupport" (201 : Nat) yJ8_hugeLength_7cf53 ∈ kTB := kTB_of (List.mem_append_right _ (List.mem_of_getElem? (i := 1095) (by decide +kernel))) rfl
theorem kw_1096 : Cond.static yJ8_hugeLength_7cf53 ∈ kTB := kTB_of (List.mem_append_right _ (List.mem_of_getElem? (i := 1096) (by decide +kernel))) rfl
theorem kw_1097 : Cond.code yJ8_hugeLength_7cf53 prog_32_method_28_code (3 : Nat) (Option.some Jvm.ClassFile.FieldType.int) ∈ kTB := kTB_of (List.mem_append_right _ (List.mem_of_getElem? (i := 1097) (by decide +kernel))) rfl
theorem kw_1098 : Cond.methodLink "java/lang/AbstractStringBuilder" (108 : Nat) yJ7_copyOf_9075b ∈ kTB := kTB_of (List.mem_append_right _ (List.mem_of_getElem? (i := 1098) (by decide +kernel))) rfl
theorem kw_1099 : Cond.static yJ7_copyOf_9075b ∈ kTB := kTB_of (List.mem_append_right _ (List.mem_of_getElem? (i := 1099) (by decide +kernel))) rfl
theorem kw_1100 : Cond.code yJ7_copyOf_9075b prog_31_method_121_code (3 : Nat) (Option.some (Jvm.ClassFile.FieldType.array Jvm.ClassFile.FieldType.byte)) ∈ kTB := kTB_of (List.mem_append_right _ (List.mem_of_getElem? (i := 1100) (by decide +kernel))) rfl
theorem kw_1101 : Cond.methodLink "java/util/Arrays" (310 : Nat) ({ cls := "[B", name := "clone", desc := "()Ljava/lang/Object;" } : Jvm.MethodName) ∈ kTB := kTB_of (List.mem_append_right _ (List.mem_of_getElem? (i := 1101) (by decide +kernel))) rfl
theorem kw_1102 : Cond.sameMethod "[B" "java/lang/Object" "clone" "()Ljava/lang/Object;" ∈ kTB := kTB_of (List.mem_append_right _ (List.mem_of_getElem? (i := 1102) (by decide +kernel))) rfl
theorem kw_1103 : Cond.native ({ cls := "java/lang/Object", name := "clone", desc := "()Ljava/lang/Object;" } : Jvm.MethodName) ∈ kTB := kTB_of (List.mem_append_right _ (List.mem_of_getElem? (i := 1103) (by decide +kernel))) rfl
theorem kw_1104 : Cond.instanceMethod ({ cls := "java/lang/Object", name := "clone", desc := "()Ljava/lang/Object;" } : Jvm.MethodName) ∈ kTB := kTB_of (List.mem_append_right _ (List.mem_of_getElem? (i := 1104) (by decide +kernel))) rfl
theorem kw_1105 : Cond.selects "[B" ({ cls := "[B", name := "clone", desc := "()Ljava/lang/Object;" } : Jvm.MethodName) ({ cls := "java/lang/Object", name := "clone", desc := "()Ljava/lang/Object;" } : Jvm.MethodName) ∈ kTB := kTB_of (List.mem_append_right _ (List.mem_of_getElem? (i := 1105) (by decide +kernel))) rfl
theorem kw_1106 : Cond.castable "[B" "java/lang/Cloneable" ∈ kTN := kTN_of (List.mem_append_right _ (List.mem_of_getElem? (i := 1106) (by decide +kernel))) rfl
theorem kw_1107 : Cond.classLink "java/util/Arrays" (311 : Nat) "[B" ∈ kTB := kTB_of (List.mem_append_right _ (List.mem_of_getElem? (i := 1107) (by decide +kernel))) rfl
theorem kw_1108 : Cond.methodLink "java/util/Arrays" (304 : Nat) yJ9_min_7cf53 ∈ kTB := kTB_of (List.mem_append_right _ (List.mem_of_getElem? (i := 1108) (by decide +kernel))) rfl
theorem kw_1109 : Cond.methodLink "java/util/Arrays" (150 : Nat) ({ cls := "java/lang/System", name := "arraycopy", desc := "(Ljava/lang/Object;ILjava/lang/Object;II)V" } : Jvm.MethodName) ∈ kTB := kTB_of (List.mem_append_right _ (List.mem_of_getElem? (i := 1109) (by decide +kernel))) rfl
theorem kw_1110 : Cond.methodLink "java/lang/AbstractStringBuilder" (83 : Nat) yJ5_isLatin1_aae02 ∈ kTB := kTB_of (List.mem_append_right _ (List.mem_of_getElem? (i := 1110) (by decide +kernel))) rfl
theorem kw_1111 : Cond.instanceMethod yJ5_isLatin1_aae02 ∈ kTB := kTB_of (List.mem_append_right _ (List.mem_of_getElem? (i := 1111) (by decide +kernel))) rfl
theorem kw_1112 : Cond.sameMethod "java/lang/AbstractStringBuilder" "java/lang/AbstractStringBuilder" "isLatin1" "()Z" ∈ kTB := kTB_of (List.mem_append_right _ (List.mem_of_getElem? (i := 1112) (by decide +kernel))) rfl
theorem kw_1113 : Cond.selects "java/lang/StringBuilder" yJ5_isLatin1_aae02 yJ5_isLatin1_aae02 ∈ kTB := kTB_of (List.mem_append_right _ (List.mem_of_getElem? (i := 1113) (by decide +kernel))) rfl
theorem kw_1114 : Cond.code yJ5_isLatin1_aae02 prog_15_method_68_code (1 : Nat) (Option.some Jvm.ClassFile.FieldType.boolean) ∈ kTB := kTB_of (List.mem_append_right _ (List.mem_of_getElem? (i := 1114) (by decide +kernel))) rfl
theorem kw_1115 : Cond.fieldLink "java/lang/AbstractStringBuilder" (18 : Nat) "java/lang/String" "COMPACT_STRINGS" "Z" ∈ kTB := kTB_of (List.mem_append_right _ (List.mem_of_getElem? (i := 1115) (by decide +kernel))) rfl
theorem kw_1116 : Cond.methodLink "java/lang/AbstractStringBuilder" (226 : Nat) yJ2_putCharsAt_cd4e5 ∈ kTB := kTB_of (List.mem_append_right _ (List.mem_of_getElem? (i := 1116) (by decide +kernel))) rfl
theorem kw_1117 : Cond.static yJ2_putCharsAt_cd4e5 ∈ kTB := kTB_of (List.mem_append_right _ (List.mem_of_getElem? (i := 1117) (by decide +kernel))) rfl
theorem kw_1118 : Cond.code yJ2_putCharsAt_cd4e5 prog_28_method_81_code (7 : Nat) (Option.some Jvm.ClassFile.FieldType.int) ∈ kTB := kTB_of (List.mem_append_right _ (List.mem_of_getElem? (i := 1118) (by decide +kernel))) rfl
theorem kw_1119 : Cond.methodLink "java/lang/StringUTF16" (96 : Nat) yJ2_checkBoundsBeginEnd_d044e ∈ kTB := kTB_of (List.mem_append_right _ (List.mem_of_getElem? (i := 1119) (by decide +kernel))) rfl
theorem kw_1120 : Cond.static yJ2_checkBoundsBeginEnd_d044e ∈ kTB := kTB_of (List.mem_append_right _ (List.mem_of_getElem? (i := 1120) (by decide +kernel))) rfl
theorem kw_1121 : Cond.code yJ2_checkBoundsBeginEnd_d044e prog_28_method_93_code (3 : Nat) (Option.none : Option Jvm.ClassFile.FieldType) ∈ kTB := kTB_of (List.mem_append_right _ (List.mem_of_getElem? (i := 1121) (by decide +kernel))) rfl
theorem kw_1122 : Cond.methodLink "java/lang/StringUTF16" (241 : Nat) yJ0_checkBoundsBeginEnd_23922 ∈ kTB := kTB_of (List.mem_append_right _ (List.mem_of_getElem? (i := 1122) (by decide +kernel))) rfl
theorem kw_1123 : Cond.static yJ0_checkBoundsBeginEnd_23922 ∈ kTB := kTB_of (List.mem_append_right _ (List.mem_of_getElem? (i := 1123) (by decide +kernel))) rfl
theorem kw_1124 : Cond.code yJ0_checkBoundsBeginEnd_23922 prog_25_method_158_code (3 : Nat) (Option.none : Option Jvm.ClassFile.FieldType) ∈ kTB := kTB_of (List.mem_append_right _ (List.mem_of_getElem? (i := 1124) (by decide +kernel))) rfl
theorem kw_1125 : Cond.methodLink "java/lang/String" (1062 : Nat) yJ3_checkFromToIndex_8c36e ∈ kTB := kTB_of (List.mem_append_right _ (List.mem_of_getElem? (i := 1125) (by decide +kernel))) rfl
theorem kw_1126 : Cond.static yJ3_checkFromToIndex_8c36e ∈ kTB := kTB_of (List.mem_append_right _ (List.mem_of_getElem? (i := 1126) (by decide +kernel))) rfl
theorem kw_1127 : Cond.code yJ3_checkFromToIndex_8c36e prog_33_method_12_code (4 : Nat) (Option.some Jvm.ClassFile.FieldType.int) ∈ kTB := kTB_of (List.mem_append_right _ (List.mem_of_getElem? (i := 1127) (by decide +kernel))) rfl
theorem kw_1128 : Cond.methodLink "java/lang/StringUTF16" (111 : Nat) yJ2_putChar_b72d1 ∈ kTB := kTB_of (List.mem_append_right _ (List.mem_of_getElem? (i := 1128) (by decide +kernel))) rfl
theorem kw_1129 : Cond.static yJ2_putChar_b72d1 ∈ kTB := kTB_of (List.mem_append_right _ (List.mem_of_getElem? (i := 1129) (by decide +kernel))) rfl
theorem kw_1130 : Cond.code yJ2_putChar_b72d1 prog_28_method_4_code (3 : Nat) (Option.none : Option Jvm.ClassFile.FieldType) ∈ kTB := kTB_of (List.mem_append_right _ (List.mem_of_getElem? (i := 1130) (by decide +kernel))) rfl
theorem kw_1131 : Cond.methodLink "java/lang/AbstractStringBuilder" (208 : Nat) yJ5_putStringAt_47b60 ∈ kTB := kTB_of (List.mem_append_right _ (List.mem_of_getElem? (i := 1131) (by decide +kernel))) rfl
theorem kw_1133 : Cond.instanceMethod yJ5_putStringAt_47b60 ∈ kTB := kTB_of (List.mem_append_right _ (List.mem_of_getElem? (i := 1133) (by decide +kernel))) rfl
theorem kw_1134 : Cond.code yJ5_putStringAt_47b60 prog_15_method_73_code (3 : Nat) (Option.none : Option Jvm.ClassFile.FieldType) ∈ kTB := kTB_of (List.mem_append_right _ (List.mem_of_getElem? (i := 1134) (by decide +kernel))) rfl
theorem kw_1135 : Cond.methodLink "java/lang/AbstractStringBuilder" (397 : Nat) yJ5_inflateIfNeededFor_a7421 ∈ kTB := kTB_of (List.mem_append_right _ (List.mem_of_getElem? (i := 1135) (by decide +kernel))) rfl
theorem kw_1137 : Cond.instanceMethod yJ5_inflateIfNeededFor_a7421 ∈ kTB := kTB_of (List.mem_append_right _ (List.mem_of_getElem? (i := 1137) (by decide +kernel))) rfl
theorem kw_1138 : Cond.code yJ5_inflateIfNeededFor_a7421 prog_15_method_71_code (2 : Nat) (Option.none : Option Jvm.ClassFile.FieldType) ∈ kTB := kTB_of (List.mem_append_right _ (List.mem_of_getElem? (i := 1138) (by decide +kernel))) rfl
theorem kw_1139 : Cond.methodLink "java/lang/AbstractStringBuilder" (195 : Nat) yJ5_inflate_da8c8 ∈ kTB := kTB_of (List.mem_append_right _ (List.mem_of_getElem? (i := 1139) (by decide +kernel))) rfl
theorem kw_1141 : Cond.instanceMethod yJ5_inflate_da8c8 ∈ kTB := kTB_of (List.mem_append_right _ (List.mem_of_getElem? (i := 1141) (by decide +kernel))) rfl
theorem kw_1142 : Cond.code yJ5_inflate_da8c8 prog_15_method_11_code (2 : Nat) (Option.none : Option Jvm.ClassFile.FieldType) ∈ kTB := kTB_of (List.mem_append_right _ (List.mem_of_getElem? (i := 1142) (by decide +kernel))) rfl
theorem kw_1143 : Cond.methodLink "java/lang/AbstractStringBuilder" (125 : Nat) yJ1_inflate_0e8fd ∈ kTB := kTB_of (List.mem_append_right _ (List.mem_of_getElem? (i := 1143) (by decide +kernel))) rfl
theorem kw_1144 : Cond.static yJ1_inflate_0e8fd ∈ kTB := kTB_of (List.mem_append_right _ (List.mem_of_getElem? (i := 1144) (by decide +kernel))) rfl
theorem kw_1145 : Cond.code yJ1_inflate_0e8fd prog_27_method_50_code (5 : Nat) (Option.none : Option Jvm.ClassFile.FieldType) ∈ kTB := kTB_of (List.mem_append_right _ (List.mem_of_getElem? (i := 1145) (by decide +kernel))) rfl
theorem kw_1146 : Cond.methodLink "java/lang/StringLatin1" (240 : Nat) yJ2_inflate_0e8fd ∈ kTB := kTB_of (List.mem_append_right _ (List.mem_of_getElem? (i := 1146) (by decide +kernel))) rfl
theorem kw_1147 : Cond.static yJ2_inflate_0e8fd ∈ kTB := kTB_of (List.mem_append_right _ (List.mem_of_getElem? (i := 1147) (by decide +kernel))) rfl
theorem kw_1148 : Cond.code yJ2_inflate_0e8fd prog_28_method_86_code (6 : Nat) (Option.none : Option Jvm.ClassFile.FieldType) ∈ kTB := kTB_of (List.mem_append_right _ (List.mem_of_getElem? (i := 1148) (by decide +kernel))) rfl
theorem kw_1149 : Cond.methodLink "java/lang/StringUTF16" (173 : Nat) yJ2_checkBoundsOffCount_d044e ∈ kTB := kTB_of (List.mem_append_right _ (List.mem_of_getElem? (i := 1149) (by decide +kernel))) rfl
theorem kw_1150 : Cond.static yJ2_checkBoundsOffCount_d044e ∈ kTB := kTB_of (List.mem_append_right _ (List.mem_of_getElem? (i := 1150) (by decide +kernel))) rfl
theorem kw_1151 : Cond.code yJ2_checkBoundsOffCount_d044e prog_28_method_94_code (3 : Nat) (Option.none : Option Jvm.ClassFile.FieldType) ∈ kTB := kTB_of (List.mem_append_right _ (List.mem_of_getElem? (i := 1151) (by decide +kernel))) rfl
theorem kw_1152 : Cond.methodLink "java/lang/StringUTF16" (419 : Nat) yJ0_checkBoundsOffCount_cabcc ∈ kTB := kTB_of (List.mem_append_right _ (List.mem_of_getElem? (i := 1152) (by decide +kernel))) rfl
theorem kw_1153 : Cond.static yJ0_checkBoundsOffCount_cabcc ∈ kTB := kTB_of (List.mem_append_right _ (List.mem_of_getElem? (i := 1153) (by decide +kernel))) rfl
theorem kw_1154 : Cond.code yJ0_checkBoundsOffCount_cabcc prog_25_method_157_code (3 : Nat) (Option.some Jvm.ClassFile.FieldType.int) ∈ kTB := kTB_of (List.mem_append_right _ (List.mem_of_getElem? (i := 1154) (by decide +kernel))) rfl
theorem kw_1155 : Cond.methodLink "java/lang/String" (1065 : Nat) yJ3_checkFromIndexSize_8c36e ∈ kTB := kTB_of (List.mem_append_right _ (List.mem_of_getElem? (i := 1155) (by decide +kernel))) rfl
theorem kw_1156 : Cond.static yJ3_checkFromIndexSize_8c36e ∈ kTB := kTB_of (List.mem_append_right _ (List.mem_of_getElem? (i := 1156) (by decide +kernel))) rfl
theorem kw_1157 : Cond.code yJ3_checkFromIndexSize_8c36e prog_33_method_13_code (4 : Nat) (Option.some Jvm.ClassFile.FieldType.int) ∈ kTB := kTB_of (List.mem_append_right _ (List.mem_of_getElem? (i := 1157) (by decide +kernel))) rfl
theorem kw_1158 : Cond.methodLink "java/lang/AbstractStringBuilder" (399 : Nat) yJ0_getBytes_840e7 ∈ kTB := kTB_of (List.mem_append_right _ (List.mem_of_getElem? (i := 1158) (by decide +kernel))) rfl
theorem kw_1159 : Cond.instanceMethod yJ0_getBytes_840e7 ∈ kTB := kTB_of (List.mem_append_right _ (List.mem_of_getElem? (i := 1159) (by decide +kernel))) rfl
theorem kw_1160 : Cond.selects "java/lang/String" yJ0_getBytes_840e7 yJ0_getBytes_840e7 ∈ kTB := kTB_of (List.mem_append_right _ (List.mem_of_getElem? (i := 1160) (by decide +kernel))) rfl
theorem kw_1161 : Cond.code yJ0_getBytes_840e7 prog_25_method_147_code (4 : Nat) (Option.none : Option Jvm.ClassFile.FieldType) ∈ kTB := kTB_of (List.mem_append_right _ (List.mem_of_getElem? (i := 1161) (by decide +kernel))) rfl
theorem kw_1162 : Cond.methodLink "java/lang/String" (212 : Nat) ({ cls := "java/lang/System", name := "arraycopy", desc := "(Ljava/lang/Object;ILjava/lang/Object;II)V" } : Jvm.MethodName) ∈ kTB := kTB_of (List.mem_append_right _ (List.mem_of_getElem? (i := 1162) (by decide +kernel))) rfl
theorem kw_1163 : Cond.methodLink "java/lang/String" (106 : Nat) yJ1_inflate_0e8fd ∈ kTB := kTB_of (List.mem_append_right _ (List.mem_of_getElem? (i := 1163) (by decide +kernel))) rfl
theorem kw_1164 : Cond.fieldLink "java/lang/AbstractStringBuilder" (15 : Nat) "java/lang/AbstractStringBuilder" "value" "[B" ∈ kTB := kTB_of (List.mem_append_right _ (List.mem_of_getElem? (i := 1164) (by decide +kernel))) rfl
theorem kw_1165 : Cond.fieldLink "java/lang/AbstractStringBuilder" (22 : Nat) "java/lang/AbstractStringBuilder" "coder" "B" ∈ kTB := kTB_of (List.mem_append_right _ (List.mem_of_getElem? (i := 1165) (by decide +kernel))) rfl
theorem kw_1166 : Cond.fieldLink "java/lang/String" (1048 : Nat) "java/lang/AbstractStringBuilder" "maybeLatin1" "Z" ∈ kTB := kTB_of (List.mem_append_right _ (List.mem_of_getElem? (i := 1166) (by decide +kernel))) rfl
theorem kw_1167 : Cond.fieldLink "java/lang/AbstractStringBuilder" (79 : Nat) "java/lang/AbstractStringBuilder" "count" "I" ∈ kTB := kTB_of (List.mem_append_right _ (List.mem_of_getElem? (i := 1167) (by decide +kernel))) rfl
theorem kw_1176 : Cond.constant "DiceAuditLaw" (46 : Nat) (65537 : Int32) ∈ kTB := kTB_of (List.mem_append_right _ (List.mem_of_getElem? (i := 1176) (by decide +kernel))) rfl
theorem kw_1177 : Cond.methodLink "DiceAuditLaw" (47 : Nat) yJ4_append_bf812 ∈ kTB := kTB_of (List.mem_append_right _ (List.mem_of_getElem? (i := 1177) (by decide +kernel))) rfl
theorem kw_1178 : Cond.instanceMethod yJ4_append_bf812 ∈ kTB := kTB_of (List.mem_append_right _ (List.mem_of_getElem? (i := 1178) (by decide +kernel))) rfl
theorem kw_1179 : Cond.selects "java/lang/StringBuilder" yJ4_append_bf812 yJ4_append_bf812 ∈ kTB := kTB_of (List.mem_append_right _ (List.mem_of_getElem? (i := 1179) (by decide +kernel))) rfl
theorem kw_1180 : Cond.code yJ4_append_bf812 prog_26_method_15_code (2 : Nat) (Option.some (Jvm.ClassFile.FieldType.object "java/lang/StringBuilder")) ∈ kTB := kTB_of (List.mem_append_right _ (List.mem_of_getElem? (i := 1180) (by decide +kernel))) rfl
theorem kw_1181 : Cond.methodLink "java/lang/StringBuilder" (53 : Nat) yJ5_append_c97b9 ∈ kTB := kTB_of (List.mem_append_right _ (List.mem_of_getElem? (i := 1181) (by decide +kernel))) rfl
theorem kw_1182 : Cond.instanceMethod yJ5_append_c97b9 ∈ kTB := kTB_of (List.mem_append_right _ (List.mem_of_getElem? (i := 1182) (by decide +kernel))) rfl
theorem kw_1183 : Cond.code yJ5_append_c97b9 prog_15_method_32_code (4 : Nat) (Option.some (Jvm.ClassFile.FieldType.object "java/lang/AbstractStringBuilder")) ∈ kTB := kTB_of (List.mem_append_right _ (List.mem_of_getElem? (i := 1183) (by decide +kernel))) rfl
theorem kw_1184 : Cond.methodLink "java/lang/AbstractStringBuilder" (245 : Nat) yJ6_stringSize_0f7a4 ∈ kTB := kTB_of (List.mem_append_right _ (List.mem_of_getElem? (i := 1184) (by decide +kernel))) rfl
theorem kw_1185 : Cond.static yJ6_stringSize_0f7a4 ∈ kTB := kTB_of (List.mem_append_right _ (List.mem_of_getElem? (i := 1185) (by decide +kernel))) rfl
theorem kw_1186 : Cond.code yJ6_stringSize_0f7a4 prog_21_method_13_code (4 : Nat) (Option.some Jvm.ClassFile.FieldType.int) ∈ kTB := kTB_of (List.mem_append_right _ (List.mem_of_getElem? (i := 1186) (by decide +kernel))) rfl
theorem kw_1187 : Cond.methodLink "java/lang/AbstractStringBuilder" (248 : Nat) yJ6_getChars_ba4f3 ∈ kTB := kTB_of (List.mem_append_right _ (List.mem_of_getElem? (i := 1187) (by decide +kernel))) rfl
theorem kw_1188 : Cond.static yJ6_getChars_ba4f3 ∈ kTB := kTB_of (List.mem_append_right _ (List.mem_of_getElem? (i := 1188) (by decide +kernel))) rfl
theorem kw_1189 : Cond.code yJ6_getChars_ba4f3 prog_21_method_12_code (7 : Nat) (Option.some Jvm.ClassFile.FieldType.int) ∈ kTB := kTB_of (List.mem_append_right _ (List.mem_of_getElem? (i := 1189) (by decide +kernel))) rfl
theorem kw_1190 : Cond.fieldLink "java/lang/Integer" (83 : Nat) "java/lang/Integer" "DigitOnes" "[B" ∈ kTB := kTB_of (List.mem_append_right _ (List.mem_of_getElem? (i := 1190) (by decide +kernel))) rfl
theorem kw_1192 : Cond.fieldLink "java/lang/Integer" (87 : Nat) "java/lang/Integer" "DigitTens" "[B" ∈ kTB := kTB_of (List.mem_append_right _ (List.mem_of_getElem? (i := 1192) (by decide +kernel))) rfl
theorem kw_1194 : Cond.methodLink "java/lang/AbstractStringBuilder" (251 : Nat) yJ2_getChars_46870 ∈ kTB := kTB_of (List.mem_append_right _ (List.mem_of_getElem? (i := 1194) (by decide +kernel))) rfl
theorem kw_1195 : Cond.static yJ2_getChars_46870 ∈ kTB := kTB_of (List.mem_append_right _ (List.mem_of_getElem? (i := 1195) (by decide +kernel))) rfl
theorem kw_1196 : Cond.code yJ2_getChars_46870 prog_28_method_77_code (5 : Nat) (Option.some Jvm.ClassFile.FieldType.int) ∈ kTB := kTB_of (List.mem_append_right _ (List.mem_of_getElem? (i := 1196) (by decide +kernel))) rfl
theorem kw_1197 : Cond.methodLink "java/lang/StringUTF16" (393 : Nat) yJ2_getChars_ba4f3 ∈ kTB := kTB_of (List.mem_append_right _ (List.mem_of_getElem? (i := 1197) (by decide +kernel))) rfl
theorem kw_1198 : Cond.static yJ2_getChars_ba4f3 ∈ kTB := kTB_of (List.mem_append_right _ (List.mem_of_getElem? (i := 1198) (by decide +kernel))) rfl
theorem kw_1199 : Cond.code yJ2_getChars_ba4f3 prog_28_method_89_code (7 : Nat) (Option.some Jvm.ClassFile.FieldType.int) ∈ kTB := kTB_of (List.mem_append_right _ (List.mem_of_getElem? (i := 1199) (by decide +kernel))) rfl
theorem kw_1200 : Cond.fieldLink "java/lang/StringUTF16" (403 : Nat) "java/lang/Integer" "DigitOnes" "[B" ∈ kTB := kTB_of (List.mem_append_right _ (List.mem_of_getElem? (i := 1200) (by decide +kernel))) rfl
theorem kw_1201 : Cond.fieldLink "java/lang/StringUTF16" (407 : Nat) "java/lang/Integer" "DigitTens" "[B" ∈ kTB := kTB_of (List.mem_append_right _ (List.mem_of_getElem? (i := 1201) (by decide +kernel))) rfl
theorem kw_1202 : Cond.methodLink "DiceAuditLaw" (51 : Nat) yJ4_append_cf468 ∈ kTB := kTB_of (List.mem_append_right _ (List.mem_of_getElem? (i := 1202) (by decide +kernel))) rfl
theorem kw_1203 : Cond.instanceMethod yJ4_append_cf468 ∈ kTB := kTB_of (List.mem_append_right _ (List.mem_of_getElem? (i := 1203) (by decide +kernel))) rfl
theorem kw_1204 : Cond.selects "java/lang/StringBuilder" yJ4_append_cf468 yJ4_append_cf468 ∈ kTB := kTB_of (List.mem_append_right _ (List.mem_of_getElem? (i := 1204) (by decide +kernel))) rfl
theorem kw_1205 : Cond.code yJ4_append_cf468 prog_26_method_14_code (2 : Nat) (Option.some (Jvm.ClassFile.FieldType.object "java/lang/StringBuilder")) ∈ kTB := kTB_of (List.mem_append_right _ (List.mem_of_getElem? (i := 1205) (by decide +kernel))) rfl
theorem kw_1206 : Cond.methodLink "java/lang/StringBuilder" (50 : Nat) yJ5_append_3fe6f ∈ kTB := kTB_of (List.mem_append_right _ (List.mem_of_getElem? (i := 1206) (by decide +kernel))) rfl
theorem kw_1207 : Cond.instanceMethod yJ5_append_3fe6f ∈ kTB := kTB_of (List.mem_append_right _ (List.mem_of_getElem? (i := 1207) (by decide +kernel))) rfl
theorem kw_1208 : Cond.code yJ5_append_3fe6f prog_15_method_31_code (2 : Nat) (Option.some (Jvm.ClassFile.FieldType.object "java/lang/AbstractStringBuilder")) ∈ kTB := kTB_of (List.mem_append_right _ (List.mem_of_getElem? (i := 1208) (by decide +kernel))) rfl
theorem kw_1209 : Cond.methodLink "java/lang/AbstractStringBuilder" (191 : Nat) yJ1_canEncode_fc78d ∈ kTB := kTB_of (List.mem_append_right _ (List.mem_of_getElem? (i := 1209) (by decide +kernel))) rfl
theorem kw_1210 : Cond.static yJ1_canEncode_fc78d ∈ kTB := kTB_of (List.mem_append_right _ (List.mem_of_getElem? (i := 1210) (by decide +kernel))) rfl
theorem kw_1211 : Cond.code yJ1_canEncode_fc78d prog_27_method_3_code (1 : Nat) (Option.some Jvm.ClassFile.FieldType.boolean) ∈ kTB := kTB_of (List.mem_append_right _ (List.mem_of_getElem? (i := 1211) (by decide +kernel))) rfl
theorem kw_1212 : Cond.methodLink "java/lang/AbstractStringBuilder" (197 : Nat) yJ2_putCharSB_b72d1 ∈ kTB := kTB_of (List.mem_append_right _ (List.mem_of_getElem? (i := 1212) (by decide +kernel))) rfl
theorem kw_1213 : Cond.static yJ2_putCharSB_b72d1 ∈ kTB := kTB_of (List.mem_append_right _ (List.mem_of_getElem? (i := 1213) (by decide +kernel))) rfl
theorem kw_1214 : Cond.code yJ2_putCharSB_b72d1 prog_28_method_71_code (3 : Nat) (Option.none : Option Jvm.ClassFile.FieldType) ∈ kTB := kTB_of (List.mem_append_right _ (List.mem_of_getElem? (i := 1214) (by decide +kernel))) rfl
theorem kw_1215 : Cond.constant "DiceAuditLaw" (54 : Nat) (131072 : Int32) ∈ kTB := kTB_of (List.mem_append_right _ (List.mem_of_getElem? (i := 1215) (by decide +kernel))) rfl
theorem kw_1216 : Cond.constant "DiceAuditLaw" (55 : Nat) (1048576 : Int32) ∈ kTB := kTB_of (List.mem_append_right _ (List.mem_of_getElem? (i := 1216) (by decide +kernel))) rfl
theorem kw_1218 : Cond.methodLink "DiceAuditLaw" (58 : Nat) yJ4_append_15ec4 ∈ kTB := kTB_of (List.mem_append_right _ (List.mem_of_getElem? (i := 1218) (by decide +kernel))) rfl
theorem kw_1220 : Cond.methodLink "DiceAuditLaw" (63 : Nat) yJ4_toString_0e30d ∈ kTB := kTB_of (List.mem_append_right _ (List.mem_of_getElem? (i := 1220) (by decide +kernel))) rfl
theorem kw_1221 : Cond.instanceMethod yJ4_toString_0e30d ∈ kTB := kTB_of (List.mem_append_right _ (List.mem_of_getElem? (i := 1221) (by decide +kernel))) rfl
theorem kw_1222 : Cond.selects "java/lang/StringBuilder" yJ4_toString_0e30d yJ4_toString_0e30d ∈ kTB := kTB_of (List.mem_append_right _ (List.mem_of_getElem? (i := 1222) (by decide +kernel))) rfl
theorem kw_1223 : Cond.code yJ4_toString_0e30d prog_26_method_42_code (1 : Nat) (Option.some (Jvm.ClassFile.FieldType.object "java/lang/String")) ∈ kTB := kTB_of (List.mem_append_right _ (List.mem_of_getElem? (i := 1223) (by decide +kernel))) rfl
theorem kw_1224 : Cond.classLink "java/lang/StringBuilder" (18 : Nat) "java/lang/String" ∈ kTB := kTB_of (List.mem_append_right _ (List.mem_of_getElem? (i := 1224) (by decide +kernel))) rfl
theorem kw_1225 : Cond.instantiable "java/lang/String" (4 : Nat) ∈ kTB := kTB_of (List.mem_append_right _ (List.mem_of_getElem? (i := 1225) (by decide +kernel))) rfl
theorem kw_1226 : Cond.methodLink "java/lang/StringBuilder" (137 : Nat) yJ0_init_81219 ∈ kTB := kTB_of (List.mem_append_right _ (List.mem_of_getElem? (i := 1226) (by decide +kernel))) rfl
theorem kw_1227 : Cond.instanceMethod yJ0_init_81219 ∈ kTB := kTB_of (List.mem_append_right _ (List.mem_of_getElem? (i := 1227) (by decide +kernel))) rfl
theorem kw_1228 : Cond.code yJ0_init_81219 prog_25_method_53_code (2 : Nat) (Option.none : Option Jvm.ClassFile.FieldType) ∈ kTB := kTB_of (List.mem_append_right _ (List.mem_of_getElem? (i := 1228) (by decide +kernel))) rfl
theorem kw_1229 : Cond.methodLink "java/lang/String" (489 : Nat) yJ0_init_db425 ∈ kTB := kTB_of (List.mem_append_right _ (List.mem_of_getElem? (i := 1229) (by decide +kernel))) rfl
theorem kw_1230 : Cond.instanceMethod yJ0_init_db425 ∈ kTB := kTB_of (List.mem_append_right _ (List.mem_of_getElem? (i := 1230) (by decide +kernel))) rfl
theorem kw_1231 : Cond.code yJ0_init_db425 prog_25_method_150_code (5 : Nat) (Option.none : Option Jvm.ClassFile.FieldType) ∈ kTB := kTB_of (List.mem_append_right _ (List.mem_of_getElem? (i := 1231) (by decide +kernel))) rfl
theorem kw_1232 : Cond.methodLink "java/lang/String" (1 : Nat) ({ cls := "java/lang/Object", name := "<init>", desc := "()V" } : Jvm.MethodName) ∈ kTB := kTB_of (List.mem_append_right _ (List.mem_of_getElem? (i := 1232) (by decide +kernel))) rfl
theorem kw_1233 : Cond.methodLink "java/lang/String" (552 : Nat) yJ5_getValue_6d5f1 ∈ kTB := kTB_of (List.mem_append_right _ (List.mem_of_getElem? (i := 1233) (by decide +kernel))) rfl
theorem kw_1234 : Cond.instanceMethod yJ5_getValue_6d5f1 ∈ kTB := kTB_of (List.mem_append_right _ (List.mem_of_getElem? (i := 1234) (by decide +kernel))) rfl
theorem kw_1235 : Cond.sameMethod "java/lang/AbstractStringBuilder" "java/lang/AbstractStringBuilder" "getValue" "()[B" ∈ kTB := kTB_of (List.mem_append_right _ (List.mem_of_getElem? (i := 1235) (by decide +kernel))) rfl
theorem kw_1236 : Cond.selects "java/lang/StringBuilder" yJ5_getValue_6d5f1 yJ5_getValue_6d5f1 ∈ kTB := kTB_of (List.mem_append_right _ (List.mem_of_getElem? (i := 1236) (by decide +kernel))) rfl
theorem kw_1237 : Cond.code yJ5_getValue_6d5f1 prog_15_method_64_code (1 : Nat) (Option.some (Jvm.ClassFile.FieldType.array Jvm.ClassFile.FieldType.byte)) ∈ kTB := kTB_of (List.mem_append_right _ (List.mem_of_getElem? (i := 1237) (by decide +kernel))) rfl
theorem kw_1238 : Cond.methodLink "java/lang/String" (549 : Nat) yJ5_length_8abf5 ∈ kTB := kTB_of (List.mem_append_right _ (List.mem_of_getElem? (i := 1238) (by decide +kernel))) rfl
theorem kw_1239 : Cond.instanceMethod yJ5_length_8abf5 ∈ kTB := kTB_of (List.mem_append_right _ (List.mem_of_getElem? (i := 1239) (by decide +kernel))) rfl
theorem kw_1240 : Cond.sameMethod "java/lang/AbstractStringBuilder" "java/lang/AbstractStringBuilder" "length" "()I" ∈ kTB := kTB_of (List.mem_append_right _ (List.mem_of_getElem? (i := 1240) (by decide +kernel))) rfl
theorem kw_1241 : Cond.selects "java/lang/StringBuilder" yJ5_length_8abf5 yJ4_length_8abf5 ∈ kTB := kTB_of (List.mem_append_right _ (List.mem_of_getElem? (i := 1241) (by decide +kernel))) rfl
theorem kw_1242 : Cond.instanceMethod yJ4_length_8abf5 ∈ kTB := kTB_of (List.mem_append_right _ (List.mem_of_getElem? (i := 1242) (by decide +kernel))) rfl
theorem kw_1243 : Cond.code yJ4_length_8abf5 prog_26_method_93_code (1 : Nat) (Option.some Jvm.ClassFile.FieldType.int) ∈ kTB := kTB_of (List.mem_append_right _ (List.mem_of_getElem? (i := 1243) (by decide +kernel))) rfl
theorem kw_1244 : Cond.methodLink "java/lang/StringBuilder" (343 : Nat) yJ5_length_8abf5 ∈ kTB := kTB_of (List.mem_append_right _ (List.mem_of_getElem? (i := 1244) (by decide +kernel))) rfl
theorem kw_1245 : Cond.code yJ5_length_8abf5 prog_15_method_6_code (1 : Nat) (Option.some Jvm.ClassFile.FieldType.int) ∈ kTB := kTB_of (List.mem_append_right _ (List.mem_of_getElem? (i := 1245) (by decide +kernel))) rfl
theorem kw_1246 : Cond.methodLink "java/lang/String" (1047 : Nat) yJ5_isLatin1_aae02 ∈ kTB := kTB_of (List.mem_append_right _ (List.mem_of_getElem? (i := 1246) (by decide +kernel))) rfl
theorem kw_1247 : Cond.methodLink "java/lang/String" (54 : Nat) yJ7_copyOfRange_39247 ∈ kTB := kTB_of (List.mem_append_right _ (List.mem_of_getElem? (i := 1247) (by decide +kernel))) rfl
theorem kw_1248 : Cond.static yJ7_copyOfRange_39247 ∈ kTB := kTB_of (List.mem_append_right _ (List.mem_of_getElem? (i := 1248) (by decide +kernel))) rfl
theorem kw_1249 : Cond.code yJ7_copyOfRange_39247 prog_31_method_132_code (3 : Nat) (Option.some (Jvm.ClassFile.FieldType.array Jvm.ClassFile.FieldType.byte)) ∈ kTB := kTB_of (List.mem_append_right _ (List.mem_of_getElem? (i := 1249) (by decide +kernel))) rfl
theorem kw_1250 : Cond.methodLink "java/util/Arrays" (339 : Nat) yJ7_copyOfRangeByte_39247 ∈ kTB := kTB_of (List.mem_append_right _ (List.mem_of_getElem? (i := 1250) (by decide +kernel))) rfl
theorem kw_1251 : Cond.static yJ7_copyOfRangeByte_39247 ∈ kTB := kTB_of (List.mem_append_right _ (List.mem_of_getElem? (i := 1251) (by decide +kernel))) rfl
theorem kw_1252 : Cond.code yJ7_copyOfRangeByte_39247 prog_31_method_133_code (5 : Nat) (Option.some (Jvm.ClassFile.FieldType.array Jvm.ClassFile.FieldType.byte)) ∈ kTB := kTB_of (List.mem_append_right _ (List.mem_of_getElem? (i := 1252) (by decide +kernel))) rfl
theorem kw_1253 : Cond.methodLink "java/util/Arrays" (343 : Nat) yJ7_checkLength_df160 ∈ kTB := kTB_of (List.mem_append_right _ (List.mem_of_getElem? (i := 1253) (by decide +kernel))) rfl
theorem kw_1254 : Cond.static yJ7_checkLength_df160 ∈ kTB := kTB_of (List.mem_append_right _ (List.mem_of_getElem? (i := 1254) (by decide +kernel))) rfl
theorem kw_1255 : Cond.code yJ7_checkLength_df160 prog_31_method_131_code (2 : Nat) (Option.none : Option Jvm.ClassFile.FieldType) ∈ kTB := kTB_of (List.mem_append_right _ (List.mem_of_getElem? (i := 1255) (by decide +kernel))) rfl
theorem kw_1256 : Cond.classLink "java/util/Arrays" (43 : Nat) "java/lang/IllegalArgumentException" ∈ kTB := kTB_of (List.mem_append_right _ (List.mem_of_getElem? (i := 1256) (by decide +kernel))) rfl
theorem kw_1257 : Cond.classLink "java/util/Arrays" (45 : Nat) "java/lang/StringBuilder" ∈ kTB := kTB_of (List.mem_append_right _ (List.mem_of_getElem? (i := 1257) (by decide +kernel))) rfl
theorem kw_1258 : Cond.methodLink "java/util/Arrays" (47 : Nat) yJ4_init_da8c8 ∈ kTB := kTB_of (List.mem_append_right _ (List.mem_of_getElem? (i := 1258) (by decide +kernel))) rfl
theorem kw_1259 : Cond.instanceMethod yJ4_init_da8c8 ∈ kTB := kTB_of (List.mem_append_right _ (List.mem_of_getElem? (i := 1259) (by decide +kernel))) rfl
theorem kw_1260 : Cond.code yJ4_init_da8c8 prog_26_method_1_code (1 : Nat) (Option.none : Option Jvm.ClassFile.FieldType) ∈ kTB := kTB_of (List.mem_append_right _ (List.mem_of_getElem? (i := 1260) (by decide +kernel))) rfl
theorem kw_1261 : Cond.methodLink "java/lang/StringBuilder" (1 : Nat) yJ5_init_d00df ∈ kTB := kTB_of (List.mem_append_right _ (List.mem_of_getElem? (i := 1261) (by decide +kernel))) rfl
theorem kw_1262 : Cond.instanceMethod yJ5_init_d00df ∈ kTB := kTB_of (List.mem_append_right _ (List.mem_of_getElem? (i := 1262) (by decide +kernel))) rfl
theorem kw_1263 : Cond.code yJ5_init_d00df prog_15_method_2_code (2 : Nat) (Option.none : Option Jvm.ClassFile.FieldType) ∈ kTB := kTB_of (List.mem_append_right _ (List.mem_of_getElem? (i := 1263) (by decide +kernel))) rfl
theorem kw_1264 : Cond.methodLink "java/util/Arrays" (54 : Nat) yJ4_append_bf812 ∈ kTB := kTB_of (List.mem_append_right _ (List.mem_of_getElem? (i := 1264) (by decide +kernel))) rfl
theorem kw_1266 : Cond.methodLink "java/util/Arrays" (50 : Nat) yJ4_append_15ec4 ∈ kTB := kTB_of (List.mem_append_right _ (List.mem_of_getElem? (i := 1266) (by decide +kernel))) rfl
theorem kw_1267 : Cond.methodLink "java/util/Arrays" (61 : Nat) yJ4_toString_0e30d ∈ kTB := kTB_of (List.mem_append_right _ (List.mem_of_getElem? (i := 1267) (by decide +kernel))) rfl
theorem kw_1268 : Cond.methodLink "java/util/Arrays" (65 : Nat) ({ cls := "java/lang/IllegalArgumentException", name := "<init>", desc := "(Ljava/lang/String;)V" } : Jvm.MethodName) ∈ kTB := kTB_of (List.mem_append_right _ (List.mem_of_getElem? (i := 1268) (by decide +kernel))) rfl
theorem kw_1269 : Cond.methodLink "java/lang/String" (1051 : Nat) yJ2_compress_39247 ∈ kTB := kTB_of (List.mem_append_right _ (List.mem_of_getElem? (i := 1269) (by decide +kernel))) rfl
theorem kw_1270 : Cond.static yJ2_compress_39247 ∈ kTB := kTB_of (List.mem_append_right _ (List.mem_of_getElem? (i := 1270) (by decide +kernel))) rfl
theorem kw_1271 : Cond.code yJ2_compress_39247 prog_28_method_17_code (6 : Nat) (Option.some (Jvm.ClassFile.FieldType.array Jvm.ClassFile.FieldType.byte)) ∈ kTB := kTB_of (List.mem_append_right _ (List.mem_of_getElem? (i := 1271) (by decide +kernel))) rfl
theorem kw_1272 : Cond.methodLink "java/lang/StringUTF16" (123 : Nat) yJ2_compress_5af95 ∈ kTB := kTB_of (List.mem_append_right _ (List.mem_of_getElem? (i := 1272) (by decide +kernel))) rfl
theorem kw_1273 : Cond.static yJ2_compress_5af95 ∈ kTB := kTB_of (List.mem_append_right _ (List.mem_of_getElem? (i := 1273) (by decide +kernel))) rfl
theorem kw_1274 : Cond.code yJ2_compress_5af95 prog_28_method_22_code (7 : Nat) (Option.some Jvm.ClassFile.FieldType.int) ∈ kTB := kTB_of (List.mem_append_right _ (List.mem_of_getElem? (i := 1274) (by decide +kernel))) rfl
theorem kw_1275 : Cond.methodLink "java/lang/StringUTF16" (126 : Nat) yJ7_copyOfRange_39247 ∈ kTB := kTB_of (List.mem_append_right _ (List.mem_of_getElem? (i := 1275) (by decide +kernel))) rfl
theorem kw_1276 : Cond.methodLink "java/lang/String" (47 : Nat) yJ2_coderFromArrayLen_85cad ∈ kTB := kTB_of (List.mem_append_right _ (List.mem_of_getElem? (i := 1276) (by decide +kernel))) rfl
theorem kw_1277 : Cond.static yJ2_coderFromArrayLen_85cad ∈ kTB := kTB_of (List.mem_append_right _ (List.mem_of_getElem? (i := 1277) (by decide +kernel))) rfl
theorem kw_1278 : Cond.code yJ2_coderFromArrayLen_85cad prog_28_method_15_code (2 : Nat) (Option.some Jvm.ClassFile.FieldType.byte) ∈ kTB := kTB_of (List.mem_append_right _ (List.mem_of_getElem? (i := 1278) (by decide +kernel))) rfl
theorem kw_1279 : Cond.fieldLink "java/lang/String" (9 : Nat) "java/lang/String" "value" "[B" ∈ kTB := kTB_of (List.mem_append_right _ (List.mem_of_getElem? (i := 1279) (by decide +kernel))) rfl
theorem kw_1280 : Cond.fieldLink "java/lang/String" (15 : Nat) "java/lang/String" "coder" "B" ∈ kTB := kTB_of (List.mem_append_right _ (List.mem_of_getElem? (i := 1280) (by decide +kernel))) rfl
theorem kw_1289 : Cond.superclass "java/lang/String" "java/lang/Object" ∈ kTB := kTB_of (List.mem_append_right _ (List.mem_of_getElem? (i := 1289) (by decide +kernel))) rfl
theorem kw_1290 : Cond.methodLink "DiceAuditLaw" (123 : Nat) yL_acts ∈ kTB := kTB_of (List.mem_append_right _ (List.mem_of_getElem? (i := 1290) (by decide +kernel))) rfl
theorem kw_1291 : Cond.static yL_acts ∈ kTB := kTB_of (List.mem_append_right _ (List.mem_of_getElem? (i := 1291) (by decide +kernel))) rfl
theorem kw_1292 : Cond.codeWith yL_acts method_6_code (4 : Nat) (Option.some Jvm.ClassFile.FieldType.int) [((5 : Nat), (105 : Nat), (179 : Nat), (93 : Nat)), ((106 : Nat), (110 : Nat), (179 : Nat), (93 : Nat)), ((111 : Nat), (115 : Nat), (179 : Nat), (93 : Nat)), ((116 : Nat), (123 : Nat), (179 : Nat), (93 : Nat)), ((124 : Nat), (151 : Nat), (179 : Nat), (93 : Nat)), ((152 : Nat), (160 : Nat), (179 : Nat), (93 : Nat)), ((161 : Nat), (178 : Nat), (179 : Nat), (93 : Nat))] ∈ kTB := kTB_of (List.mem_append_right _ (List.mem_of_getElem? (i := 1292) (by decide +kernel))) rfl
theorem kw_1293 : Cond.classLink "DiceAuditLaw" (93 : Nat) "java/lang/IllegalStateException" ∈ kTB := kTB_of (List.mem_append_right _ (List.mem_of_getElem? (i := 1293) (by decide +kernel))) rfl
theorem kw_1294 : Cond.methodLink "DiceAuditLaw" (67 : Nat) yX10_throwDie ∈ kTB := kTB_of (List.mem_append_right _ (List.mem_of_getElem? (i := 1294) (by decide +kernel))) rfl
theorem kw_1295 : Cond.instanceMethod yX10_throwDie ∈ kTB := kTB_of (List.mem_append_right _ (List.mem_of_getElem? (i := 1295) (by decide +kernel))) rfl
theorem kw_1296 : Cond.selects "DiceAudit" yX10_throwDie yX10_throwDie ∈ kTB := kTB_of (List.mem_append_right _ (List.mem_of_getElem? (i := 1296) (by decide +kernel))) rfl
theorem kw_1297 : Cond.code yX10_throwDie prog_1_method_52_code (4 : Nat) (Option.some Jvm.ClassFile.FieldType.int) ∈ kTB := kTB_of (List.mem_append_right _ (List.mem_of_getElem? (i := 1297) (by decide +kernel))) rfl
theorem kw_1299 : Cond.methodLink "DiceAudit" (312 : Nat) yX2_makeThrows ∈ kTB := kTB_of (List.mem_append_right _ (List.mem_of_getElem? (i := 1299) (by decide +kernel))) rfl
theorem kw_1300 : Cond.methodLink "DiceAuditLaw" (71 : Nat) yX10_audit ∈ kTB := kTB_of (List.mem_append_right _ (List.mem_of_getElem? (i := 1300) (by decide +kernel))) rfl
theorem kw_1301 : Cond.instanceMethod yX10_audit ∈ kTB := kTB_of (List.mem_append_right _ (List.mem_of_getElem? (i := 1301) (by decide +kernel))) rfl
theorem kw_1302 : Cond.selects "DiceAudit" yX10_audit yX10_audit ∈ kTB := kTB_of (List.mem_append_right _ (List.mem_of_getElem? (i := 1302) (by decide +kernel))) rfl
theorem kw_1303 : Cond.code yX10_audit prog_1_method_53_code (1 : Nat) (Option.some Jvm.ClassFile.FieldType.int) ∈ kTB := kTB_of (List.mem_append_right _ (List.mem_of_getElem? (i := 1303) (by decide +kernel))) rfl
theorem kw_1304 : Cond.methodLink "DiceAudit" (316 : Nat) yX2_holdAudit ∈ kTB := kTB_of (List.mem_append_right _ (List.mem_of_getElem? (i := 1304) (by decide +kernel))) rfl
theorem kw_1305 : Cond.methodLink "DiceAuditLaw" (74 : Nat) yX10_absolve ∈ kTB := kTB_of (List.mem_append_right _ (List.mem_of_getElem? (i := 1305) (by decide +kernel))) rfl
theorem kw_1306 : Cond.instanceMethod yX10_absolve ∈ kTB := kTB_of (List.mem_append_right _ (List.mem_of_getElem? (i := 1306) (by decide +kernel))) rfl
theorem kw_1307 : Cond.selects "DiceAudit" yX10_absolve yX10_absolve ∈ kTB := kTB_of (List.mem_append_right _ (List.mem_of_getElem? (i := 1307) (by decide +kernel))) rfl
theorem kw_1308 : Cond.code yX10_absolve prog_1_method_54_code (1 : Nat) (Option.some Jvm.ClassFile.FieldType.int) ∈ kTB := kTB_of (List.mem_append_right _ (List.mem_of_getElem? (i := 1308) (by decide +kernel))) rfl
theorem kw_1310 : Cond.methodLink "DiceAudit" (321 : Nat) yX2_doPenance ∈ kTB := kTB_of (List.mem_append_right _ (List.mem_of_getElem? (i := 1310) (by decide +kernel))) rfl
theorem kw_1311 : Cond.methodLink "DiceAuditLaw" (77 : Nat) yX10_forgive ∈ kTB := kTB_of (List.mem_append_right _ (List.mem_of_getElem? (i := 1311) (by decide +kernel))) rfl
theorem kw_1312 : Cond.instanceMethod yX10_forgive ∈ kTB := kTB_of (List.mem_append_right _ (List.mem_of_getElem? (i := 1312) (by decide +kernel))) rfl
theorem kw_1313 : Cond.selects "DiceAudit" yX10_forgive yX10_forgive ∈ kTB := kTB_of (List.mem_append_right _ (List.mem_of_getElem? (i := 1313) (by decide +kernel))) rfl
theorem kw_1314 : Cond.code yX10_forgive prog_1_method_55_code (2 : Nat) (Option.some Jvm.ClassFile.FieldType.int) ∈ kTB := kTB_of (List.mem_append_right _ (List.mem_of_getElem? (i := 1314) (by decide +kernel))) rfl
theorem kw_1315 : Cond.methodLink "DiceAudit" (324 : Nat) yX6_removeAllOf ∈ kTB := kTB_of (List.mem_append_right _ (List.mem_of_getElem? (i := 1315) (by decide +kernel))) rfl
theorem kw_1316 : Cond.methodLink "DiceAuditLaw" (80 : Nat) yX10_faces ∈ kTB := kTB_of (List.mem_append_right _ (List.mem_of_getElem? (i := 1316) (by decide +kernel))) rfl
theorem kw_1317 : Cond.methodLink "DiceAuditLaw" (83 : Nat) yX10_setWeight ∈ kTB := kTB_of (List.mem_append_right _ (List.mem_of_getElem? (i := 1317) (by decide +kernel))) rfl
theorem kw_1318 : Cond.instanceMethod yX10_setWeight ∈ kTB := kTB_of (List.mem_append_right _ (List.mem_of_getElem? (i := 1318) (by decide +kernel))) rfl
theorem kw_1319 : Cond.selects "DiceAudit" yX10_setWeight yX10_setWeight ∈ kTB := kTB_of (List.mem_append_right _ (List.mem_of_getElem? (i := 1319) (by decide +kernel))) rfl
theorem kw_1320 : Cond.code yX10_setWeight prog_1_method_56_code (5 : Nat) (Option.some Jvm.ClassFile.FieldType.int) ∈ kTB := kTB_of (List.mem_append_right _ (List.mem_of_getElem? (i := 1320) (by decide +kernel))) rfl
theorem kw_1321 : Cond.methodLink "DiceAudit" (327 : Nat) yX0_weightSum ∈ kTB := kTB_of (List.mem_append_right _ (List.mem_of_getElem? (i := 1321) (by decide +kernel))) rfl
theorem kw_1322 : Cond.instanceMethod yX0_weightSum ∈ kTB := kTB_of (List.mem_append_right _ (List.mem_of_getElem? (i := 1322) (by decide +kernel))) rfl
theorem kw_1323 : Cond.selects "DiceAudit$Dice" yX0_weightSum yX0_weightSum ∈ kTB := kTB_of (List.mem_append_right _ (List.mem_of_getElem? (i := 1323) (by decide +kernel))) rfl
theorem kw_1324 : Cond.code yX0_weightSum prog_2_method_8_code (2 : Nat) (Option.some Jvm.ClassFile.FieldType.int) ∈ kTB := kTB_of (List.mem_append_right _ (List.mem_of_getElem? (i := 1324) (by decide +kernel))) rfl
theorem kw_1325 : Cond.methodLink "DiceAudit$Dice" (38 : Nat) yX0_faceCount ∈ kTB := kTB_of (List.mem_append_right _ (List.mem_of_getElem? (i := 1325) (by decide +kernel))) rfl
theorem kw_1327 : Cond.methodLink "DiceAudit" (332 : Nat) yX0_putWeight ∈ kTB := kTB_of (List.mem_append_right _ (List.mem_of_getElem? (i := 1327) (by decide +kernel))) rfl
theorem kw_1328 : Cond.methodLink "DiceAuditLaw" (86 : Nat) yX10_setSeed ∈ kTB := kTB_of (List.mem_append_right _ (List.mem_of_getElem? (i := 1328) (by decide +kernel))) rfl
theorem kw_1329 : Cond.instanceMethod yX10_setSeed ∈ kTB := kTB_of (List.mem_append_right _ (List.mem_of_getElem? (i := 1329) (by decide +kernel))) rfl
theorem kw_1330 : Cond.selects "DiceAudit" yX10_setSeed yX10_setSeed ∈ kTB := kTB_of (List.mem_append_right _ (List.mem_of_getElem? (i := 1330) (by decide +kernel))) rfl
theorem kw_1331 : Cond.code yX10_setSeed prog_1_method_57_code (3 : Nat) (Option.some Jvm.ClassFile.FieldType.int) ∈ kTB := kTB_of (List.mem_append_right _ (List.mem_of_getElem? (i := 1331) (by decide +kernel))) rfl
theorem kw_1332 : Cond.constant "DiceAudit" (335 : Nat) (65536 : Int32) ∈ kTB := kTB_of (List.mem_append_right _ (List.mem_of_getElem? (i := 1332) (by decide +kernel))) rfl
theorem kw_1333 : Cond.methodLink "DiceAuditLaw" (89 : Nat) yX10_setLimits ∈ kTB := kTB_of (List.mem_append_right _ (List.mem_of_getElem? (i := 1333) (by decide +kernel))) rfl
theorem kw_1334 : Cond.instanceMethod yX10_setLimits ∈ kTB := kTB_of (List.mem_append_right _ (List.mem_of_getElem? (i := 1334) (by decide +kernel))) rfl
theorem kw_1335 : Cond.selects "DiceAudit" yX10_setLimits yX10_setLimits ∈ kTB := kTB_of (List.mem_append_right _ (List.mem_of_getElem? (i := 1335) (by decide +kernel))) rfl
theorem kw_1336 : Cond.code yX10_setLimits prog_1_method_58_code (3 : Nat) (Option.some Jvm.ClassFile.FieldType.int) ∈ kTB := kTB_of (List.mem_append_right _ (List.mem_of_getElem? (i := 1336) (by decide +kernel))) rfl
theorem kw_1337 : Cond.methodLink "DiceAudit" (248 : Nat) yX2_countSuspicious ∈ kTB := kTB_of (List.mem_append_right _ (List.mem_of_getElem? (i := 1337) (by decide +kernel))) rfl
theorem kw_1338 : Cond.instanceMethod yX2_countSuspicious ∈ kTB := kTB_of (List.mem_append_right _ (List.mem_of_getElem? (i := 1338) (by decide +kernel))) rfl
theorem kw_1339 : Cond.selects "DiceAudit$Hall" yX2_countSuspicious yX2_countSuspicious ∈ kTB := kTB_of (List.mem_append_right _ (List.mem_of_getElem? (i := 1339) (by decide +kernel))) rfl
theorem kw_1340 : Cond.code yX2_countSuspicious prog_4_method_8_code (3 : Nat) (Option.some Jvm.ClassFile.FieldType.int) ∈ kTB := kTB_of (List.mem_append_right _ (List.mem_of_getElem? (i := 1340) (by decide +kernel))) rfl
theorem kw_1341 : Cond.methodLink "DiceAudit$Hall" (110 : Nat) yX2_isPairSuspicious ∈ kTB := kTB_of (List.mem_append_right _ (List.mem_of_getElem? (i := 1341) (by decide +kernel))) rfl
theorem kw_1342 : Cond.sameMethod "java/lang/Throwable" "java/lang/Throwable" "fillInStackTrace" "(I)Ljava/lang/Throwable;" ∈ kTB := kTB_of (List.mem_append_right _ (List.mem_of_getElem? (i := 1342) (by decide +kernel))) rfl
theorem kw_1343 : Cond.sameMethod "java/lang/AbstractStringBuilder" "java/lang/AbstractStringBuilder" "appendNull" "()Ljava/lang/AbstractStringBuilder;" ∈ kTB := kTB_of (List.mem_append_right _ (List.mem_of_getElem? (i := 1343) (by decide +kernel))) rfl
theorem kw_1344 : Cond.sameMethod "java/lang/AbstractStringBuilder" "java/lang/AbstractStringBuilder" "ensureCapacityInternal" "(I)V" ∈ kTB := kTB_of (List.mem_append_right _ (List.mem_of_getElem? (i := 1344) (by decide +kernel))) rfl
theorem kw_1345 : Cond.sameMethod "java/lang/AbstractStringBuilder" "java/lang/AbstractStringBuilder" "newCapacity" "(I)I" ∈ kTB := kTB_of (List.mem_append_right _ (List.mem_of_getElem? (i := 1345) (by decide +kernel))) rfl
theorem kw_1346 : Cond.sameMethod "java/lang/AbstractStringBuilder" "java/lang/AbstractStringBuilder" "putStringAt" "(ILjava/lang/String;)V" ∈ kTB := kTB_of (List.mem_append_right _ (List.mem_of_getElem? (i := 1346) (by decide +kernel))) rfl
theorem kw_1347 : Cond.sameMethod "java/lang/AbstractStringBuilder" "java/lang/AbstractStringBuilder" "inflateIfNeededFor" "(Ljava/lang/String;)V" ∈ kTB := kTB_of (List.mem_append_right _ (List.mem_of_getElem? (i := 1347) (by decide +kernel))) rfl
theorem kw_1348 : Cond.sameMethod "java/lang/AbstractStringBuilder" "java/lang/AbstractStringBuilder" "inflate" "()V" ∈ kTB := kTB_of (List.mem_append_right _ (List.mem_of_getElem? (i := 1348) (by decide +kernel))) rfl
theorem kw_1349 : Cond.sameMethod "java/lang/AbstractStringBuilder" "java/lang/AbstractStringBuilder" "append" "(I)Ljava/lang/AbstractStringBuilder;" ∈ kTB := kTB_of (List.mem_append_right _ (List.mem_of_getElem? (i := 1349) (by decide +kernel))) rfl
theorem kw_1350 : Cond.sameMethod "java/lang/AbstractStringBuilder" "java/lang/AbstractStringBuilder" "append" "(C)Ljava/lang/AbstractStringBuilder;" ∈ kTB := kTB_of (List.mem_append_right _ (List.mem_of_getElem? (i := 1350) (by decide +kernel))) rfl
theorem kwp_0 : Cond.selects "DiceAudit$Tokens" yX9_passLetters yX9_passLetters ∈ kTB := kTB_of (List.mem_append_left _ (List.mem_of_getElem? (i := 0) (by decide +kernel))) rfl
theorem kwp_1 : Cond.selects "DiceAudit$Tokens" yX9_passDigits yX9_passDigits ∈ kTB := kTB_of (List.mem_append_left _ (List.mem_of_getElem? (i := 1) (by decide +kernel))) rfl
theorem kwp_2 : Cond.selects "DiceAudit$Loader" yX5_readHall yX5_readHall ∈ kTB := kTB_of (List.mem_append_left _ (List.mem_of_getElem? (i := 2) (by decide +kernel))) rfl
theorem kwp_3 : Cond.selects "DiceAudit$Loader" yX5_takeKeyword yX5_takeKeyword ∈ kTB := kTB_of (List.mem_append_left _ (List.mem_of_getElem? (i := 3) (by decide +kernel))) rfl
theorem kwp_4 : Cond.selects "DiceAudit$Loader" yX5_fail yX5_fail ∈ kTB := kTB_of (List.mem_append_left _ (List.mem_of_getElem? (i := 4) (by decide +kernel))) rfl
theorem kwp_5 : Cond.selects "DiceAudit$Loader" yX5_takeNumber yX5_takeNumber ∈ kTB := kTB_of (List.mem_append_left _ (List.mem_of_getElem? (i := 5) (by decide +kernel))) rfl
theorem kwp_6 : Cond.selects "DiceAudit$Loader" yX5_isNumberIn yX5_isNumberIn ∈ kTB := kTB_of (List.mem_append_left _ (List.mem_of_getElem? (i := 6) (by decide +kernel))) rfl
theorem kwp_7 : Cond.selects "DiceAudit$Loader" yX5_takeSemicolon yX5_takeSemicolon ∈ kTB := kTB_of (List.mem_append_left _ (List.mem_of_getElem? (i := 7) (by decide +kernel))) rfl
theorem kwp_8 : Cond.selects "DiceAudit$Loader" yX5_hasMore yX5_hasMore ∈ kTB := kTB_of (List.mem_append_left _ (List.mem_of_getElem? (i := 8) (by decide +kernel))) rfl
theorem kwp_9 : Cond.selects "DiceAudit$Loader" yX5_readStatement yX5_readStatement ∈ kTB := kTB_of (List.mem_append_left _ (List.mem_of_getElem? (i := 9) (by decide +kernel))) rfl
theorem kwp_10 : Cond.selects "DiceAudit$Loader" yX5_readDie yX5_readDie ∈ kTB := kTB_of (List.mem_append_left _ (List.mem_of_getElem? (i := 10) (by decide +kernel))) rfl
theorem kwp_11 : Cond.selects "DiceAudit$Loader" yX5_readPlayer yX5_readPlayer ∈ kTB := kTB_of (List.mem_append_left _ (List.mem_of_getElem? (i := 11) (by decide +kernel))) rfl
theorem kwp_12 : Cond.selects "DiceAudit$Loader" yX5_takeNewName yX5_takeNewName ∈ kTB := kTB_of (List.mem_append_left _ (List.mem_of_getElem? (i := 12) (by decide +kernel))) rfl
theorem kwp_13 : Cond.selects "DiceAudit$Players" yX7_isNamed yX7_isNamed ∈ kTB := kTB_of (List.mem_append_left _ (List.mem_of_getElem? (i := 13) (by decide +kernel))) rfl
theorem kwp_14 : Cond.selects "DiceAudit$Loader" yX5_readThrow yX5_readThrow ∈ kTB := kTB_of (List.mem_append_left _ (List.mem_of_getElem? (i := 14) (by decide +kernel))) rfl
theorem kwp_15 : Cond.selects "DiceAudit$Loader" yX5_takeKnownName yX5_takeKnownName ∈ kTB := kTB_of (List.mem_append_left _ (List.mem_of_getElem? (i := 15) (by decide +kernel))) rfl
theorem kwp_16 : Cond.selects "DiceAudit$Loader" yX5_readAudit yX5_readAudit ∈ kTB := kTB_of (List.mem_append_left _ (List.mem_of_getElem? (i := 16) (by decide +kernel))) rfl
theorem kwp_17 : Cond.selects "DiceAudit$Offences" yX6_goesBefore yX6_goesBefore ∈ kTB := kTB_of (List.mem_append_left _ (List.mem_of_getElem? (i := 17) (by decide +kernel))) rfl
theorem kwp_18 : Cond.selects "DiceAudit$Offences" yX6_set yX6_set ∈ kTB := kTB_of (List.mem_append_left _ (List.mem_of_getElem? (i := 18) (by decide +kernel))) rfl
theorem kwp_19 : Cond.selects "DiceAudit$Loader" yX5_readAbsolve yX5_readAbsolve ∈ kTB := kTB_of (List.mem_append_left _ (List.mem_of_getElem? (i := 19) (by decide +kernel))) rfl
theorem kwp_20 : Cond.selects "DiceAudit$Loader" yX5_readForgive yX5_readForgive ∈ kTB := kTB_of (List.mem_append_left _ (List.mem_of_getElem? (i := 20) (by decide +kernel))) rfl
theorem kwp_21 : Cond.selects "DiceAudit" yX10_requireDie yX10_requireDie ∈ kTB := kTB_of (List.mem_append_left _ (List.mem_of_getElem? (i := 21) (by decide +kernel))) rfl
theorem kwp_23 : Cond.selects "DiceAudit" yX10_requireFace yX10_requireFace ∈ kTB := kTB_of (List.mem_append_left _ (List.mem_of_getElem? (i := 23) (by decide +kernel))) rfl
theorem kwp_24 : Cond.selects "DiceAuditLaw$Hand" yX11_throwsDie yX11_throwsDie ∈ kTB := kTB_of (List.mem_append_left _ (List.mem_of_getElem? (i := 24) (by decide +kernel))) rfl
theorem kwp_25 : Cond.selects "DiceAuditLaw$Hand" yX11_shows yX11_shows ∈ kTB := kTB_of (List.mem_append_left _ (List.mem_of_getElem? (i := 25) (by decide +kernel))) rfl
theorem kwp_26 : Cond.selects "DiceAuditLaw$Hand" yX11_audits yX11_audits ∈ kTB := kTB_of (List.mem_append_left _ (List.mem_of_getElem? (i := 26) (by decide +kernel))) rfl
theorem kwp_27 : Cond.selects "DiceAuditLaw$Hand" yX11_isBad yX11_isBad ∈ kTB := kTB_of (List.mem_append_left _ (List.mem_of_getElem? (i := 27) (by decide +kernel))) rfl
theorem kwp_28 : Cond.selects "DiceAuditLaw$Hand" yX11_ofPair yX11_ofPair ∈ kTB := kTB_of (List.mem_append_left _ (List.mem_of_getElem? (i := 28) (by decide +kernel))) rfl
theorem kwp_29 : Cond.selects "DiceAuditLaw$Hand" yX11_score yX11_score ∈ kTB := kTB_of (List.mem_append_left _ (List.mem_of_getElem? (i := 29) (by decide +kernel))) rfl
theorem kwp_30 : Cond.selects "DiceAuditLaw$Hand" yX11_isQueued yX11_isQueued ∈ kTB := kTB_of (List.mem_append_left _ (List.mem_of_getElem? (i := 30) (by decide +kernel))) rfl
theorem kwp_31 : Cond.selects "DiceAuditLaw$Hand" yX11_absolves yX11_absolves ∈ kTB := kTB_of (List.mem_append_left _ (List.mem_of_getElem? (i := 31) (by decide +kernel))) rfl
theorem kwp_32 : Cond.selects "DiceAuditLaw$Hand" yX11_rank yX11_rank ∈ kTB := kTB_of (List.mem_append_left _ (List.mem_of_getElem? (i := 32) (by decide +kernel))) rfl
theorem kwp_33 : Cond.selects "DiceAuditLaw$Hand" yX11_isWorse yX11_isWorse ∈ kTB := kTB_of (List.mem_append_left _ (List.mem_of_getElem? (i := 33) (by decide +kernel))) rfl
theorem kwp_34 : Cond.selects "DiceAuditLaw$Hand" yX11_unqueue yX11_unqueue ∈ kTB := kTB_of (List.mem_append_left _ (List.mem_of_getElem? (i := 34) (by decide +kernel))) rfl
theorem kwp_35 : Cond.selects "DiceAudit" yX10_requireThrow yX10_requireThrow ∈ kTB := kTB_of (List.mem_append_left _ (List.mem_of_getElem? (i := 35) (by decide +kernel))) rfl
theorem kwp_36 : Cond.selects "DiceAudit" yX10_requireOffence yX10_requireOffence ∈ kTB := kTB_of (List.mem_append_left _ (List.mem_of_getElem? (i := 36) (by decide +kernel))) rfl
theorem kwp_37 : Cond.selects "DiceAudit" yX10_requirePair yX10_requirePair ∈ kTB := kTB_of (List.mem_append_left _ (List.mem_of_getElem? (i := 37) (by decide +kernel))) rfl
theorem kwp_38 : Cond.selects "DiceAudit" yX10_requirePlayer yX10_requirePlayer ∈ kTB := kTB_of (List.mem_append_left _ (List.mem_of_getElem? (i := 38) (by decide +kernel))) rfl
theorem kcl_X0 : kCls 2 RX0 TX0 3 tyX0 := ⟨rfl, by decide +kernel, tyX0_ok, nmX0⟩
theorem kcl_X1 : kCls 3 RX1 TX1 3 tyX1 := ⟨rfl, by decide +kernel, tyX1_ok, nmX1⟩
theorem kcl_X2 : kCls 4 RX2 TX2 7 tyX2 := ⟨rfl, by decide +kernel, tyX2_ok, nmX2⟩
theorem kcl_X3 : kCls 5 RX3 TX3 3 tyX3 := ⟨rfl, by decide +kernel, tyX3_ok, nmX3⟩
theorem kcl_X4 : kCls 6 RX4 TX4 3 tyX4 := ⟨rfl, by decide +kernel, tyX4_ok, nmX4⟩
theorem kcl_X5 : kCls 7 RX5 TX5 5 tyX5 := ⟨rfl, by decide +kernel, tyX5_ok, nmX5⟩
theorem kcl_X6 : kCls 8 RX6 TX6 3 tyX6 := ⟨rfl, by decide +kernel, tyX6_ok, nmX6⟩
theorem kcl_X7 : kCls 9 RX7 TX7 3 tyX7 := ⟨rfl, by decide +kernel, tyX7_ok, nmX7⟩
theorem kcl_X8 : kCls 10 RX8 TX8 2 tyX8 := ⟨rfl, by decide +kernel, tyX8_ok, nmX8⟩
theorem kcl_X9 : kCls 11 RX9 TX9 5 tyX9 := ⟨rfl, by decide +kernel, tyX9_ok, nmX9⟩
theorem kcl_X10 : kCls 12 RX10 TX10 8 tyX10 := ⟨rfl, by decide +kernel, tyX10_ok, nmX10⟩
theorem kcl_X11 : kCls 13 RX11 TX11 8 tyX11 := ⟨rfl, by decide +kernel, tyX11_ok, nmX11⟩
theorem kcl_J0 : kCls 0 RJ0 TJ0 4 tyJ0 := ⟨rfl, by decide +kernel, tyJ0_ok, nmJ0⟩
theorem kcl_J4 : kCls 1 RJ4 TJ4 4 tyJ4 := ⟨rfl, by decide +kernel, tyJ4_ok, nmJ4⟩
theorem kY_X0_init : kYI yX0_init (Cond.code yX0_init prog_2_method_1_code (1 : Nat) (Option.none : Option Jvm.ClassFile.FieldType)) 0 := ⟨kw_65, ⟨kw_64, rfl⟩, kw_4, ⟨by decide +kernel, by decide +kernel⟩, by decide +kernel⟩
theorem kY_X0_clear : kYV yX0_clear (Cond.code yX0_clear prog_2_method_2_code (1 : Nat) (Option.none : Option Jvm.ClassFile.FieldType)) 0 := ⟨kw_400, ⟨kw_398, kw_399⟩, kw_4, ⟨by decide +kernel, by decide +kernel⟩, by decide +kernel⟩
theorem kY_X0_copyFrom : kYV yX0_copyFrom (Cond.code yX0_copyFrom prog_2_method_3_code (2 : Nat) (Option.none : Option Jvm.ClassFile.FieldType)) 1 := ⟨kw_624, ⟨kw_622, kw_623⟩, kw_4, ⟨by decide +kernel, by decide +kernel⟩, by decide +kernel⟩
theorem kY_X0_add : kYV yX0_add (Cond.code yX0_add prog_2_method_4_code (2 : Nat) (Option.none : Option Jvm.ClassFile.FieldType)) 1 := ⟨kw_440, ⟨kw_438, kw_439⟩, kw_4, ⟨by decide +kernel, by decide +kernel⟩, by decide +kernel⟩
theorem kY_X0_faceCount : kYV yX0_faceCount (Cond.code yX0_faceCount prog_2_method_5_code (2 : Nat) (Option.some Jvm.ClassFile.FieldType.int)) 1 := ⟨kw_526, ⟨kw_524, kw_525⟩, kw_4, ⟨by decide +kernel, by decide +kernel⟩, by decide +kernel⟩
theorem kY_X0_weight : kYV yX0_weight (Cond.code yX0_weight prog_2_method_6_code (3 : Nat) (Option.some Jvm.ClassFile.FieldType.int)) 2 := ⟨kw_818, ⟨kw_816, kw_817⟩, kw_4, ⟨by decide +kernel, by decide +kernel⟩, by decide +kernel⟩
theorem kY_X0_putWeight : kYV yX0_putWeight (Cond.code yX0_putWeight prog_2_method_7_code (4 : Nat) (Option.none : Option Jvm.ClassFile.FieldType)) 3 := ⟨kw_432, ⟨kw_430, kw_431⟩, kw_4, ⟨by decide +kernel, by decide +kernel⟩, by decide +kernel⟩
theorem kY_X0_weightSum : kYV yX0_weightSum (Cond.code yX0_weightSum prog_2_method_8_code (2 : Nat) (Option.some Jvm.ClassFile.FieldType.int)) 1 := ⟨kw_1324, ⟨kw_1322, kw_1323⟩, kw_4, ⟨by decide +kernel, by decide +kernel⟩, by decide +kernel⟩
theorem kY_X0_faceShown : kYV yX0_faceShown (Cond.code yX0_faceShown prog_2_method_10_code (8 : Nat) (Option.some Jvm.ClassFile.FieldType.int)) 2 := ⟨kw_498, ⟨kw_496, kw_497⟩, kw_4, ⟨by decide +kernel, by decide +kernel⟩, by decide +kernel⟩
theorem kY_X0_fairFaceShown : kYV yX0_fairFaceShown (Cond.code yX0_fairFaceShown prog_2_method_11_code (4 : Nat) (Option.some Jvm.ClassFile.FieldType.int)) 2 := ⟨kw_493, ⟨kw_491, kw_492⟩, kw_4, ⟨by decide +kernel, by decide +kernel⟩, by decide +kernel⟩
theorem kY_X1_init : kYI yX1_init (Cond.code yX1_init prog_3_method_1_code (1 : Nat) (Option.none : Option Jvm.ClassFile.FieldType)) 0 := ⟨kw_176, ⟨kw_175, rfl⟩, kw_8, ⟨by decide +kernel, by decide +kernel⟩, by decide +kernel⟩
theorem kY_X2_init : kYI yX2_init (Cond.code yX2_init prog_4_method_1_code (1 : Nat) (Option.none : Option Jvm.ClassFile.FieldType)) 0 := ⟨kw_59, ⟨kw_58, rfl⟩, kw_3, ⟨by decide +kernel, by decide +kernel⟩, by decide +kernel⟩
theorem kY_X2_begin : kYV yX2_begin (Cond.code yX2_begin prog_4_method_2_code (4 : Nat) (Option.none : Option Jvm.ClassFile.FieldType)) 3 := ⟨kw_396, ⟨kw_394, kw_395⟩, kw_3, ⟨by decide +kernel, by decide +kernel⟩, by decide +kernel⟩
theorem kY_X2_copyFrom : kYV yX2_copyFrom (Cond.code yX2_copyFrom prog_4_method_3_code (2 : Nat) (Option.none : Option Jvm.ClassFile.FieldType)) 1 := ⟨kw_620, ⟨kw_618, kw_619⟩, kw_3, ⟨by decide +kernel, by decide +kernel⟩, by decide +kernel⟩
theorem kY_X2_makeThrows : kYV yX2_makeThrows (Cond.code yX2_makeThrows prog_4_method_4_code (8 : Nat) (Option.some Jvm.ClassFile.FieldType.int)) 3 := ⟨kw_482, ⟨kw_480, kw_481⟩, kw_3, ⟨by decide +kernel, by decide +kernel⟩, by decide +kernel⟩
theorem kY_X2_pairScore : kYV yX2_pairScore (Cond.code yX2_pairScore prog_4_method_5_code (2 : Nat) (Option.some Jvm.ClassFile.FieldType.int)) 1 := ⟨kw_521, ⟨kw_519, kw_520⟩, kw_3, ⟨by decide +kernel, by decide +kernel⟩, by decide +kernel⟩
theorem kY_X2_exceedsLimits : kYV yX2_exceedsLimits (Cond.code yX2_exceedsLimits prog_4_method_6_code (3 : Nat) (Option.some Jvm.ClassFile.FieldType.boolean)) 2 := ⟨kw_540, ⟨kw_538, kw_539⟩, kw_3, ⟨by decide +kernel, by decide +kernel⟩, by decide +kernel⟩
theorem kY_X2_isPairSuspicious : kYV yX2_isPairSuspicious (Cond.code yX2_isPairSuspicious prog_4_method_7_code (2 : Nat) (Option.some Jvm.ClassFile.FieldType.boolean)) 1 := ⟨kw_983, ⟨kw_981, kw_982⟩, kw_3, ⟨by decide +kernel, by decide +kernel⟩, by decide +kernel⟩
theorem kY_X2_countSuspicious : kYV yX2_countSuspicious (Cond.code yX2_countSuspicious prog_4_method_8_code (3 : Nat) (Option.some Jvm.ClassFile.FieldType.int)) 0 := ⟨kw_1340, ⟨kw_1338, kw_1339⟩, kw_3, ⟨by decide +kernel, by decide +kernel⟩, by decide +kernel⟩
theorem kY_X2_holdAudit : kYV yX2_holdAudit (Cond.code yX2_holdAudit prog_4_method_10_code (4 : Nat) (Option.some Jvm.ClassFile.FieldType.int)) 0 := ⟨kw_517, ⟨kw_515, kw_516⟩, kw_3, ⟨by decide +kernel, by decide +kernel⟩, by decide +kernel⟩
theorem kY_X2_penanceSize : kYV yX2_penanceSize (Cond.code yX2_penanceSize prog_4_method_11_code (1 : Nat) (Option.some Jvm.ClassFile.FieldType.int)) 0 := ⟨kw_571, ⟨kw_569, kw_570⟩, kw_3, ⟨by decide +kernel, by decide +kernel⟩, by decide +kernel⟩
theorem kY_X2_doPenance : kYV yX2_doPenance (Cond.code yX2_doPenance prog_4_method_12_code (3 : Nat) (Option.some Jvm.ClassFile.FieldType.int)) 0 := ⟨kw_567, ⟨kw_565, kw_566⟩, kw_3, ⟨by decide +kernel, by decide +kernel⟩, by decide +kernel⟩
theorem kY_X3_init : kYI yX3_init (Cond.code yX3_init prog_5_method_1_code (2 : Nat) (Option.none : Option Jvm.ClassFile.FieldType)) 0 := ⟨kw_192, ⟨kw_191, rfl⟩, kw_9, ⟨by decide +kernel, by decide +kernel⟩, by decide +kernel⟩
theorem kY_X3_remember : kYV yX3_remember (Cond.code yX3_remember prog_5_method_2_code (2 : Nat) (Option.none : Option Jvm.ClassFile.FieldType)) 1 := ⟨kw_1038, ⟨kw_1036, kw_1037⟩, kw_9, ⟨by decide +kernel, by decide +kernel⟩, by decide +kernel⟩
theorem kY_X4_init : kYI yX4_init (Cond.code yX4_init prog_6_method_1_code (1 : Nat) (Option.none : Option Jvm.ClassFile.FieldType)) 0 := ⟨kw_101, ⟨kw_100, rfl⟩, kw_6, ⟨by decide +kernel, by decide +kernel⟩, by decide +kernel⟩
theorem kY_X4_clear : kYV yX4_clear (Cond.code yX4_clear prog_6_method_2_code (1 : Nat) (Option.none : Option Jvm.ClassFile.FieldType)) 0 := ⟨kw_408, ⟨kw_406, kw_407⟩, kw_6, ⟨by decide +kernel, by decide +kernel⟩, by decide +kernel⟩
theorem kY_X4_copyFrom : kYV yX4_copyFrom (Cond.code yX4_copyFrom prog_6_method_3_code (2 : Nat) (Option.none : Option Jvm.ClassFile.FieldType)) 1 := ⟨kw_639, ⟨kw_637, kw_638⟩, kw_6, ⟨by decide +kernel, by decide +kernel⟩, by decide +kernel⟩
theorem kY_X4_add : kYV yX4_add (Cond.code yX4_add prog_6_method_4_code (5 : Nat) (Option.none : Option Jvm.ClassFile.FieldType)) 3 := ⟨kw_505, ⟨kw_503, kw_504⟩, kw_6, ⟨by decide +kernel, by decide +kernel⟩, by decide +kernel⟩
theorem kY_X4_pairIn : kYV yX4_pairIn (Cond.code yX4_pairIn prog_6_method_5_code (2 : Nat) (Option.some Jvm.ClassFile.FieldType.int)) 1 := ⟨kw_590, ⟨kw_588, kw_589⟩, kw_6, ⟨by decide +kernel, by decide +kernel⟩, by decide +kernel⟩
theorem kY_X4_faceIn : kYV yX4_faceIn (Cond.code yX4_faceIn prog_6_method_6_code (2 : Nat) (Option.some Jvm.ClassFile.FieldType.int)) 1 := ⟨kw_594, ⟨kw_592, kw_593⟩, kw_6, ⟨by decide +kernel, by decide +kernel⟩, by decide +kernel⟩
theorem kY_X4_isMarked : kYV yX4_isMarked (Cond.code yX4_isMarked prog_6_method_7_code (2 : Nat) (Option.some Jvm.ClassFile.FieldType.boolean)) 1 := ⟨kw_598, ⟨kw_596, kw_597⟩, kw_6, ⟨by decide +kernel, by decide +kernel⟩, by decide +kernel⟩
theorem kY_X4_removeLatest : kYV yX4_removeLatest (Cond.code yX4_removeLatest prog_6_method_8_code (7 : Nat) (Option.none : Option Jvm.ClassFile.FieldType)) 2 := ⟨kw_584, ⟨kw_582, kw_583⟩, kw_6, ⟨by decide +kernel, by decide +kernel⟩, by decide +kernel⟩
theorem kY_X4_pairThrows : kYV yX4_pairThrows (Cond.code yX4_pairThrows prog_6_method_9_code (2 : Nat) (Option.some Jvm.ClassFile.FieldType.int)) 1 := ⟨kw_535, ⟨kw_533, kw_534⟩, kw_6, ⟨by decide +kernel, by decide +kernel⟩, by decide +kernel⟩
theorem kY_X4_playerTotal : kYV yX4_playerTotal (Cond.code yX4_playerTotal prog_6_method_13_code (5 : Nat) (Option.some Jvm.ClassFile.FieldType.int)) 1 := ⟨kw_695, ⟨kw_693, kw_694⟩, kw_6, ⟨by decide +kernel, by decide +kernel⟩, by decide +kernel⟩
theorem kY_X4_frequencySum : kYV yX4_frequencySum (Cond.code yX4_frequencySum prog_6_method_15_code (1 : Nat) (Option.some Jvm.ClassFile.FieldType.int)) 0 := ⟨kw_687, ⟨kw_685, kw_686⟩, kw_6, ⟨by decide +kernel, by decide +kernel⟩, by decide +kernel⟩
theorem kY_X4_faceSum : kYV yX4_faceSum (Cond.code yX4_faceSum prog_6_method_16_code (3 : Nat) (Option.some Jvm.ClassFile.FieldType.int)) 0 := ⟨kw_700, ⟨kw_698, kw_699⟩, kw_6, ⟨by decide +kernel, by decide +kernel⟩, by decide +kernel⟩
theorem kY_X5_init : kYI yX5_init (Cond.code yX5_init prog_7_method_1_code (2 : Nat) (Option.none : Option Jvm.ClassFile.FieldType)) 1 := ⟨kw_211, ⟨kw_210, rfl⟩, kw_10, ⟨by decide +kernel, by decide +kernel⟩, by decide +kernel⟩
theorem kY_X5_parse : kYV yX5_parse (Cond.code yX5_parse prog_7_method_2_code (2 : Nat) (Option.some Jvm.ClassFile.FieldType.boolean)) 0 := ⟨kw_322, ⟨kw_320, kw_321⟩, kw_10, ⟨by decide +kernel, by decide +kernel⟩, by decide +kernel⟩
theorem kY_X5_hasMore : kYV yX5_hasMore (Cond.code yX5_hasMore prog_7_method_3_code (1 : Nat) (Option.some Jvm.ClassFile.FieldType.boolean)) 0 := ⟨kw_419, ⟨kw_418, kwp_8⟩, kw_10, ⟨by decide +kernel, by decide +kernel⟩, by decide +kernel⟩
theorem kY_X5_readHall : kYV yX5_readHall (Cond.code yX5_readHall prog_7_method_4_code (4 : Nat) (Option.none : Option Jvm.ClassFile.FieldType)) 0 := ⟨kw_359, ⟨kw_358, kwp_2⟩, kw_10, ⟨by decide +kernel, by decide +kernel⟩, by decide +kernel⟩
theorem kY_X5_readStatement : kYV yX5_readStatement (Cond.code yX5_readStatement prog_7_method_5_code (1 : Nat) (Option.none : Option Jvm.ClassFile.FieldType)) 0 := ⟨kw_423, ⟨kw_422, kwp_9⟩, kw_10, ⟨by decide +kernel, by decide +kernel⟩, by decide +kernel⟩
theorem kY_X5_readDie : kYV yX5_readDie (Cond.code yX5_readDie prog_7_method_6_code (5 : Nat) (Option.none : Option Jvm.ClassFile.FieldType)) 0 := ⟨kw_428, ⟨kw_427, kwp_10⟩, kw_10, ⟨by decide +kernel, by decide +kernel⟩, by decide +kernel⟩
theorem kY_X5_readPlayer : kYV yX5_readPlayer (Cond.code yX5_readPlayer prog_7_method_7_code (3 : Nat) (Option.none : Option Jvm.ClassFile.FieldType)) 0 := ⟨kw_445, ⟨kw_444, kwp_11⟩, kw_10, ⟨by decide +kernel, by decide +kernel⟩, by decide +kernel⟩
theorem kY_X5_takeNewName : kYV yX5_takeNewName (Cond.code yX5_takeNewName prog_7_method_8_code (1 : Nat) (Option.none : Option Jvm.ClassFile.FieldType)) 0 := ⟨kw_449, ⟨kw_448, kwp_12⟩, kw_10, ⟨by decide +kernel, by decide +kernel⟩, by decide +kernel⟩
theorem kY_X5_readThrow : kYV yX5_readThrow (Cond.code yX5_readThrow prog_7_method_9_code (4 : Nat) (Option.none : Option Jvm.ClassFile.FieldType)) 0 := ⟨kw_471, ⟨kw_470, kwp_14⟩, kw_10, ⟨by decide +kernel, by decide +kernel⟩, by decide +kernel⟩
theorem kY_X5_readAudit : kYV yX5_readAudit (Cond.code yX5_readAudit prog_7_method_10_code (1 : Nat) (Option.none : Option Jvm.ClassFile.FieldType)) 0 := ⟨kw_513, ⟨kw_512, kwp_16⟩, kw_10, ⟨by decide +kernel, by decide +kernel⟩, by decide +kernel⟩
theorem kY_X5_readAbsolve : kYV yX5_readAbsolve (Cond.code yX5_readAbsolve prog_7_method_11_code (1 : Nat) (Option.none : Option Jvm.ClassFile.FieldType)) 0 := ⟨kw_563, ⟨kw_562, kwp_19⟩, kw_10, ⟨by decide +kernel, by decide +kernel⟩, by decide +kernel⟩
theorem kY_X5_readForgive : kYV yX5_readForgive (Cond.code yX5_readForgive prog_7_method_12_code (2 : Nat) (Option.none : Option Jvm.ClassFile.FieldType)) 0 := ⟨kw_605, ⟨kw_604, kwp_20⟩, kw_10, ⟨by decide +kernel, by decide +kernel⟩, by decide +kernel⟩
theorem kY_X5_takeKnownName : kYV yX5_takeKnownName (Cond.code yX5_takeKnownName prog_7_method_13_code (2 : Nat) (Option.some Jvm.ClassFile.FieldType.int)) 0 := ⟨kw_475, ⟨kw_474, kwp_15⟩, kw_10, ⟨by decide +kernel, by decide +kernel⟩, by decide +kernel⟩
theorem kY_X5_takeKeyword : kYV yX5_takeKeyword (Cond.code yX5_takeKeyword prog_7_method_14_code (2 : Nat) (Option.none : Option Jvm.ClassFile.FieldType)) 1 := ⟨kw_370, ⟨kw_369, kwp_3⟩, kw_10, ⟨by decide +kernel, by decide +kernel⟩, by decide +kernel⟩
theorem kY_X5_isNumberIn : kYV yX5_isNumberIn (Cond.code yX5_isNumberIn prog_7_method_15_code (3 : Nat) (Option.some Jvm.ClassFile.FieldType.boolean)) 2 := ⟨kw_384, ⟨kw_383, kwp_6⟩, kw_10, ⟨by decide +kernel, by decide +kernel⟩, by decide +kernel⟩
theorem kY_X5_takeNumber : kYV yX5_takeNumber (Cond.code yX5_takeNumber prog_7_method_16_code (4 : Nat) (Option.some Jvm.ClassFile.FieldType.int)) 2 := ⟨kw_380, ⟨kw_379, kwp_5⟩, kw_10, ⟨by decide +kernel, by decide +kernel⟩, by decide +kernel⟩
theorem kY_X5_takeSemicolon : kYV yX5_takeSemicolon (Cond.code yX5_takeSemicolon prog_7_method_17_code (2 : Nat) (Option.none : Option Jvm.ClassFile.FieldType)) 1 := ⟨kw_388, ⟨kw_387, kwp_7⟩, kw_10, ⟨by decide +kernel, by decide +kernel⟩, by decide +kernel⟩
theorem kY_X5_fail : kYV yX5_fail (Cond.code yX5_fail prog_7_method_18_code (2 : Nat) (Option.none : Option Jvm.ClassFile.FieldType)) 1 := ⟨kw_374, ⟨kw_373, kwp_4⟩, kw_10, ⟨by decide +kernel, by decide +kernel⟩, by decide +kernel⟩
theorem kY_X6_init : kYI yX6_init (Cond.code yX6_init prog_8_method_1_code (1 : Nat) (Option.none : Option Jvm.ClassFile.FieldType)) 0 := ⟨kw_120, ⟨kw_119, rfl⟩, kw_7, ⟨by decide +kernel, by decide +kernel⟩, by decide +kernel⟩
theorem kY_X6_clear : kYV yX6_clear (Cond.code yX6_clear prog_8_method_2_code (1 : Nat) (Option.none : Option Jvm.ClassFile.FieldType)) 0 := ⟨kw_415, ⟨kw_413, kw_414⟩, kw_7, ⟨by decide +kernel, by decide +kernel⟩, by decide +kernel⟩
theorem kY_X6_copyFrom : kYV yX6_copyFrom (Cond.code yX6_copyFrom prog_8_method_3_code (2 : Nat) (Option.none : Option Jvm.ClassFile.FieldType)) 1 := ⟨kw_644, ⟨kw_642, kw_643⟩, kw_7, ⟨by decide +kernel, by decide +kernel⟩, by decide +kernel⟩
theorem kY_X6_has : kYV yX6_has (Cond.code yX6_has prog_8_method_4_code (3 : Nat) (Option.some Jvm.ClassFile.FieldType.boolean)) 1 := ⟨kw_544, ⟨kw_542, kw_543⟩, kw_7, ⟨by decide +kernel, by decide +kernel⟩, by decide +kernel⟩
theorem kY_X6_add : kYV yX6_add (Cond.code yX6_add prog_8_method_5_code (4 : Nat) (Option.none : Option Jvm.ClassFile.FieldType)) 2 := ⟨kw_549, ⟨kw_547, kw_548⟩, kw_7, ⟨by decide +kernel, by decide +kernel⟩, by decide +kernel⟩
theorem kY_X6_goesBefore : kYV yX6_goesBefore (Cond.code yX6_goesBefore prog_8_method_6_code (5 : Nat) (Option.some Jvm.ClassFile.FieldType.boolean)) 3 := ⟨kw_553, ⟨kw_552, kwp_17⟩, kw_7, ⟨by decide +kernel, by decide +kernel⟩, by decide +kernel⟩
theorem kY_X6_set : kYV yX6_set (Cond.code yX6_set prog_8_method_7_code (4 : Nat) (Option.none : Option Jvm.ClassFile.FieldType)) 3 := ⟨kw_557, ⟨kw_556, kwp_18⟩, kw_7, ⟨by decide +kernel, by decide +kernel⟩, by decide +kernel⟩
theorem kY_X6_removeFirst : kYV yX6_removeFirst (Cond.code yX6_removeFirst prog_8_method_8_code (2 : Nat) (Option.none : Option Jvm.ClassFile.FieldType)) 0 := ⟨kw_577, ⟨kw_575, kw_576⟩, kw_7, ⟨by decide +kernel, by decide +kernel⟩, by decide +kernel⟩
theorem kY_X6_removeAllOf : kYV yX6_removeAllOf (Cond.code yX6_removeAllOf prog_8_method_9_code (4 : Nat) (Option.some Jvm.ClassFile.FieldType.int)) 1 := ⟨kw_609, ⟨kw_607, kw_608⟩, kw_7, ⟨by decide +kernel, by decide +kernel⟩, by decide +kernel⟩
theorem kY_X7_init : kYI yX7_init (Cond.code yX7_init prog_9_method_1_code (1 : Nat) (Option.none : Option Jvm.ClassFile.FieldType)) 0 := ⟨kw_83, ⟨kw_82, rfl⟩, kw_5, ⟨by decide +kernel, by decide +kernel⟩, by decide +kernel⟩
theorem kY_X7_clear : kYV yX7_clear (Cond.code yX7_clear prog_9_method_2_code (1 : Nat) (Option.none : Option Jvm.ClassFile.FieldType)) 0 := ⟨kw_404, ⟨kw_402, kw_403⟩, kw_5, ⟨by decide +kernel, by decide +kernel⟩, by decide +kernel⟩
theorem kY_X7_copyFrom : kYV yX7_copyFrom (Cond.code yX7_copyFrom prog_9_method_3_code (2 : Nat) (Option.none : Option Jvm.ClassFile.FieldType)) 1 := ⟨kw_634, ⟨kw_632, kw_633⟩, kw_5, ⟨by decide +kernel, by decide +kernel⟩, by decide +kernel⟩
theorem kY_X7_add : kYV yX7_add (Cond.code yX7_add prog_9_method_4_code (5 : Nat) (Option.none : Option Jvm.ClassFile.FieldType)) 3 := ⟨kw_465, ⟨kw_463, kw_464⟩, kw_5, ⟨by decide +kernel, by decide +kernel⟩, by decide +kernel⟩
theorem kY_X7_find : kYV yX7_find (Cond.code yX7_find prog_9_method_7_code (5 : Nat) (Option.some Jvm.ClassFile.FieldType.int)) 3 := ⟨kw_453, ⟨kw_451, kw_452⟩, kw_5, ⟨by decide +kernel, by decide +kernel⟩, by decide +kernel⟩
theorem kY_X7_isNamed : kYV yX7_isNamed (Cond.code yX7_isNamed prog_9_method_8_code (7 : Nat) (Option.some Jvm.ClassFile.FieldType.boolean)) 4 := ⟨kw_457, ⟨kw_456, kwp_13⟩, kw_5, ⟨by decide +kernel, by decide +kernel⟩, by decide +kernel⟩
theorem kY_X8_init : kYI yX8_init (Cond.code yX8_init prog_10_method_1_code (1 : Nat) (Option.none : Option Jvm.ClassFile.FieldType)) 0 := ⟨kw_43, ⟨kw_42, rfl⟩, kw_2, ⟨by decide +kernel, by decide +kernel⟩, by decide +kernel⟩
theorem kY_X8_byteIn : kYV yX8_byteIn (Cond.code yX8_byteIn prog_10_method_2_code (2 : Nat) (Option.some Jvm.ClassFile.FieldType.int)) 1 := ⟨kw_334, ⟨kw_332, kw_333⟩, kw_2, ⟨by decide +kernel, by decide +kernel⟩, by decide +kernel⟩
theorem kY_X8_append : kYV yX8_append (Cond.code yX8_append prog_10_method_3_code (2 : Nat) (Option.none : Option Jvm.ClassFile.FieldType)) 1 := ⟨kw_315, ⟨kw_313, kw_314⟩, kw_2, ⟨by decide +kernel, by decide +kernel⟩, by decide +kernel⟩
theorem kY_X8_appendWord : kYV yX8_appendWord (Cond.code yX8_appendWord prog_10_method_4_code (3 : Nat) (Option.none : Option Jvm.ClassFile.FieldType)) 1 := ⟨kw_1021, ⟨kw_1019, kw_1020⟩, kw_2, ⟨by decide +kernel, by decide +kernel⟩, by decide +kernel⟩
theorem kY_X8_appendString : kYV yX8_appendString (Cond.code yX8_appendString prog_10_method_5_code (3 : Nat) (Option.none : Option Jvm.ClassFile.FieldType)) 1 := ⟨kw_263, ⟨kw_261, kw_262⟩, kw_2, ⟨by decide +kernel, by decide +kernel⟩, by decide +kernel⟩
theorem kY_X8_cutTo : kYV yX8_cutTo (Cond.code yX8_cutTo prog_10_method_8_code (2 : Nat) (Option.none : Option Jvm.ClassFile.FieldType)) 1 := ⟨kw_616, ⟨kw_614, kw_615⟩, kw_2, ⟨by decide +kernel, by decide +kernel⟩, by decide +kernel⟩
theorem kY_X9_init : kYI yX9_init (Cond.code yX9_init prog_11_method_1_code (2 : Nat) (Option.none : Option Jvm.ClassFile.FieldType)) 1 := ⟨kw_219, ⟨kw_218, rfl⟩, kw_11, ⟨by decide +kernel, by decide +kernel⟩, by decide +kernel⟩
theorem kY_X9_rewind : kYV yX9_rewind (Cond.code yX9_rewind prog_11_method_2_code (1 : Nat) (Option.none : Option Jvm.ClassFile.FieldType)) 0 := ⟨kw_326, ⟨kw_324, kw_325⟩, kw_11, ⟨by decide +kernel, by decide +kernel⟩, by decide +kernel⟩
theorem kY_X9_advance : kYV yX9_advance (Cond.code yX9_advance prog_11_method_3_code (2 : Nat) (Option.none : Option Jvm.ClassFile.FieldType)) 0 := ⟨kw_330, ⟨kw_328, kw_329⟩, kw_11, ⟨by decide +kernel, by decide +kernel⟩, by decide +kernel⟩
theorem kY_X9_passLetters : kYV yX9_passLetters (Cond.code yX9_passLetters prog_11_method_4_code (1 : Nat) (Option.none : Option Jvm.ClassFile.FieldType)) 0 := ⟨kw_344, ⟨kw_343, kwp_0⟩, kw_11, ⟨by decide +kernel, by decide +kernel⟩, by decide +kernel⟩
theorem kY_X9_passDigits : kYV yX9_passDigits (Cond.code yX9_passDigits prog_11_method_5_code (1 : Nat) (Option.none : Option Jvm.ClassFile.FieldType)) 0 := ⟨kw_351, ⟨kw_350, kwp_1⟩, kw_11, ⟨by decide +kernel, by decide +kernel⟩, by decide +kernel⟩
theorem kY_X9_isWord : kYV yX9_isWord (Cond.code yX9_isWord prog_11_method_6_code (3 : Nat) (Option.some Jvm.ClassFile.FieldType.boolean)) 1 := ⟨kw_364, ⟨kw_362, kw_363⟩, kw_11, ⟨by decide +kernel, by decide +kernel⟩, by decide +kernel⟩
theorem kY_X9_isSemicolon : kYV yX9_isSemicolon (Cond.code yX9_isSemicolon prog_11_method_7_code (1 : Nat) (Option.some Jvm.ClassFile.FieldType.boolean)) 0 := ⟨kw_392, ⟨kw_390, kw_391⟩, kw_11, ⟨by decide +kernel, by decide +kernel⟩, by decide +kernel⟩
theorem kY_X9_isBlank : kYS yX9_isBlank (Cond.code yX9_isBlank prog_11_method_8_code (1 : Nat) (Option.some Jvm.ClassFile.FieldType.boolean)) 1 := ⟨kw_337, kw_336, kw_11, ⟨by decide +kernel, by decide +kernel⟩, by decide +kernel⟩
theorem kY_X9_isLetter : kYS yX9_isLetter (Cond.code yX9_isLetter prog_11_method_9_code (1 : Nat) (Option.some Jvm.ClassFile.FieldType.boolean)) 1 := ⟨kw_340, kw_339, kw_11, ⟨by decide +kernel, by decide +kernel⟩, by decide +kernel⟩
theorem kY_X9_isDigit : kYS yX9_isDigit (Cond.code yX9_isDigit prog_11_method_10_code (1 : Nat) (Option.some Jvm.ClassFile.FieldType.boolean)) 1 := ⟨kw_347, kw_346, kw_11, ⟨by decide +kernel, by decide +kernel⟩, by decide +kernel⟩
theorem kY_X10_init : kYI yX10_init (Cond.code yX10_init prog_1_method_1_code (4 : Nat) (Option.none : Option Jvm.ClassFile.FieldType)) 0 := ⟨kw_35, ⟨kw_34, rfl⟩, kw_1, ⟨by decide +kernel, by decide +kernel⟩, by decide +kernel⟩
theorem kY_X10_appendInput : kYV yX10_appendInput (Cond.code yX10_appendInput prog_1_method_2_code (6 : Nat) (Option.some Jvm.ClassFile.FieldType.int)) 5 := ⟨kw_1001, ⟨kw_999, kw_1000⟩, kw_1, ⟨by decide +kernel, by decide +kernel⟩, by decide +kernel⟩
theorem kY_X10_truncateInput : kYV yX10_truncateInput (Cond.code yX10_truncateInput prog_1_method_3_code (2 : Nat) (Option.some Jvm.ClassFile.FieldType.int)) 1 := ⟨kw_1025, ⟨kw_1023, kw_1024⟩, kw_1, ⟨by decide +kernel, by decide +kernel⟩, by decide +kernel⟩
theorem kY_X10_load : kYV yX10_load (Cond.code yX10_load prog_1_method_4_code (2 : Nat) (Option.some Jvm.ClassFile.FieldType.int)) 0 := ⟨kw_1033, ⟨kw_1031, kw_1032⟩, kw_1, ⟨by decide +kernel, by decide +kernel⟩, by decide +kernel⟩
theorem kY_X10_errorCode : kYV yX10_errorCode (Cond.code yX10_errorCode prog_1_method_5_code (1 : Nat) (Option.some Jvm.ClassFile.FieldType.int)) 0 := ⟨kw_675, ⟨kw_673, kw_674⟩, kw_1, ⟨by decide +kernel, by decide +kernel⟩, by decide +kernel⟩
theorem kY_X10_seed : kYV yX10_seed (Cond.code yX10_seed prog_1_method_7_code (1 : Nat) (Option.some Jvm.ClassFile.FieldType.int)) 0 := ⟨kw_822, ⟨kw_820, kw_821⟩, kw_1, ⟨by decide +kernel, by decide +kernel⟩, by decide +kernel⟩
theorem kY_X10_minimum : kYV yX10_minimum (Cond.code yX10_minimum prog_1_method_8_code (1 : Nat) (Option.some Jvm.ClassFile.FieldType.int)) 0 := ⟨kw_826, ⟨kw_824, kw_825⟩, kw_1, ⟨by decide +kernel, by decide +kernel⟩, by decide +kernel⟩
theorem kY_X10_threshold : kYV yX10_threshold (Cond.code yX10_threshold prog_1_method_9_code (1 : Nat) (Option.some Jvm.ClassFile.FieldType.int)) 0 := ⟨kw_830, ⟨kw_828, kw_829⟩, kw_1, ⟨by decide +kernel, by decide +kernel⟩, by decide +kernel⟩
theorem kY_X10_dieCount : kYV yX10_dieCount (Cond.code yX10_dieCount prog_1_method_10_code (1 : Nat) (Option.some Jvm.ClassFile.FieldType.int)) 0 := ⟨kw_679, ⟨kw_677, kw_678⟩, kw_1, ⟨by decide +kernel, by decide +kernel⟩, by decide +kernel⟩
theorem kY_X10_throwCount : kYV yX10_throwCount (Cond.code yX10_throwCount prog_1_method_12_code (1 : Nat) (Option.some Jvm.ClassFile.FieldType.int)) 0 := ⟨kw_916, ⟨kw_914, kw_915⟩, kw_1, ⟨by decide +kernel, by decide +kernel⟩, by decide +kernel⟩
theorem kY_X10_faces : kYV yX10_faces (Cond.code yX10_faces prog_1_method_13_code (2 : Nat) (Option.some Jvm.ClassFile.FieldType.int)) 1 := ⟨kw_712, ⟨kw_710, kw_711⟩, kw_1, ⟨by decide +kernel, by decide +kernel⟩, by decide +kernel⟩
theorem kY_X10_weightOf : kYV yX10_weightOf (Cond.code yX10_weightOf prog_1_method_14_code (3 : Nat) (Option.some Jvm.ClassFile.FieldType.int)) 2 := ⟨kw_791, ⟨kw_789, kw_790⟩, kw_1, ⟨by decide +kernel, by decide +kernel⟩, by decide +kernel⟩
theorem kY_X10_playerAt : kYV yX10_playerAt (Cond.code yX10_playerAt prog_1_method_18_code (2 : Nat) (Option.some Jvm.ClassFile.FieldType.int)) 1 := ⟨kw_924, ⟨kw_922, kw_923⟩, kw_1, ⟨by decide +kernel, by decide +kernel⟩, by decide +kernel⟩
theorem kY_X10_dieAt : kYV yX10_dieAt (Cond.code yX10_dieAt prog_1_method_19_code (2 : Nat) (Option.some Jvm.ClassFile.FieldType.int)) 1 := ⟨kw_934, ⟨kw_932, kw_933⟩, kw_1, ⟨by decide +kernel, by decide +kernel⟩, by decide +kernel⟩
theorem kY_X10_faceAt : kYV yX10_faceAt (Cond.code yX10_faceAt prog_1_method_20_code (2 : Nat) (Option.some Jvm.ClassFile.FieldType.int)) 1 := ⟨kw_939, ⟨kw_937, kw_938⟩, kw_1, ⟨by decide +kernel, by decide +kernel⟩, by decide +kernel⟩
theorem kY_X10_isFairAt : kYV yX10_isFairAt (Cond.code yX10_isFairAt prog_1_method_21_code (2 : Nat) (Option.some Jvm.ClassFile.FieldType.boolean)) 1 := ⟨kw_944, ⟨kw_942, kw_943⟩, kw_1, ⟨by decide +kernel, by decide +kernel⟩, by decide +kernel⟩
theorem kY_X10_throwsOfPair : kYV yX10_throwsOfPair (Cond.code yX10_throwsOfPair prog_1_method_29_code (3 : Nat) (Option.some Jvm.ClassFile.FieldType.int)) 2 := ⟨kw_987, ⟨kw_985, kw_986⟩, kw_1, ⟨by decide +kernel, by decide +kernel⟩, by decide +kernel⟩
theorem kY_X10_score : kYV yX10_score (Cond.code yX10_score prog_1_method_34_code (3 : Nat) (Option.some Jvm.ClassFile.FieldType.int)) 2 := ⟨kw_965, ⟨kw_963, kw_964⟩, kw_1, ⟨by decide +kernel, by decide +kernel⟩, by decide +kernel⟩
theorem kY_X10_isSuspicious : kYV yX10_isSuspicious (Cond.code yX10_isSuspicious prog_1_method_35_code (3 : Nat) (Option.some Jvm.ClassFile.FieldType.boolean)) 2 := ⟨kw_979, ⟨kw_977, kw_978⟩, kw_1, ⟨by decide +kernel, by decide +kernel⟩, by decide +kernel⟩
theorem kY_X10_offenceCount : kYV yX10_offenceCount (Cond.code yX10_offenceCount prog_1_method_38_code (1 : Nat) (Option.some Jvm.ClassFile.FieldType.int)) 0 := ⟨kw_920, ⟨kw_918, kw_919⟩, kw_1, ⟨by decide +kernel, by decide +kernel⟩, by decide +kernel⟩
theorem kY_X10_offencePlayer : kYV yX10_offencePlayer (Cond.code yX10_offencePlayer prog_1_method_39_code (2 : Nat) (Option.some Jvm.ClassFile.FieldType.int)) 1 := ⟨kw_949, ⟨kw_947, kw_948⟩, kw_1, ⟨by decide +kernel, by decide +kernel⟩, by decide +kernel⟩
theorem kY_X10_offenceDie : kYV yX10_offenceDie (Cond.code yX10_offenceDie prog_1_method_40_code (2 : Nat) (Option.some Jvm.ClassFile.FieldType.int)) 1 := ⟨kw_957, ⟨kw_955, kw_956⟩, kw_1, ⟨by decide +kernel, by decide +kernel⟩, by decide +kernel⟩
theorem kY_X10_offenceScore : kYV yX10_offenceScore (Cond.code yX10_offenceScore prog_1_method_41_code (2 : Nat) (Option.some Jvm.ClassFile.FieldType.int)) 1 := ⟨kw_961, ⟨kw_959, kw_960⟩, kw_1, ⟨by decide +kernel, by decide +kernel⟩, by decide +kernel⟩
theorem kY_X10_frequencyDifference : kYV yX10_frequencyDifference (Cond.code yX10_frequencyDifference prog_1_method_49_code (1 : Nat) (Option.some Jvm.ClassFile.FieldType.int)) 0 := ⟨kw_683, ⟨kw_681, kw_682⟩, kw_1, ⟨by decide +kernel, by decide +kernel⟩, by decide +kernel⟩
theorem kY_X10_totalDifference : kYV yX10_totalDifference (Cond.code yX10_totalDifference prog_1_method_50_code (3 : Nat) (Option.some Jvm.ClassFile.FieldType.int)) 0 := ⟨kw_691, ⟨kw_689, kw_690⟩, kw_1, ⟨by decide +kernel, by decide +kernel⟩, by decide +kernel⟩
theorem kY_X10_throwDie : kYV yX10_throwDie (Cond.code yX10_throwDie prog_1_method_52_code (4 : Nat) (Option.some Jvm.ClassFile.FieldType.int)) 3 := ⟨kw_1297, ⟨kw_1295, kw_1296⟩, kw_1, ⟨by decide +kernel, by decide +kernel⟩, by decide +kernel⟩
theorem kY_X10_audit : kYV yX10_audit (Cond.code yX10_audit prog_1_method_53_code (1 : Nat) (Option.some Jvm.ClassFile.FieldType.int)) 0 := ⟨kw_1303, ⟨kw_1301, kw_1302⟩, kw_1, ⟨by decide +kernel, by decide +kernel⟩, by decide +kernel⟩
theorem kY_X10_absolve : kYV yX10_absolve (Cond.code yX10_absolve prog_1_method_54_code (1 : Nat) (Option.some Jvm.ClassFile.FieldType.int)) 0 := ⟨kw_1308, ⟨kw_1306, kw_1307⟩, kw_1, ⟨by decide +kernel, by decide +kernel⟩, by decide +kernel⟩
theorem kY_X10_forgive : kYV yX10_forgive (Cond.code yX10_forgive prog_1_method_55_code (2 : Nat) (Option.some Jvm.ClassFile.FieldType.int)) 1 := ⟨kw_1314, ⟨kw_1312, kw_1313⟩, kw_1, ⟨by decide +kernel, by decide +kernel⟩, by decide +kernel⟩
theorem kY_X10_setWeight : kYV yX10_setWeight (Cond.code yX10_setWeight prog_1_method_56_code (5 : Nat) (Option.some Jvm.ClassFile.FieldType.int)) 3 := ⟨kw_1320, ⟨kw_1318, kw_1319⟩, kw_1, ⟨by decide +kernel, by decide +kernel⟩, by decide +kernel⟩
theorem kY_X10_setSeed : kYV yX10_setSeed (Cond.code yX10_setSeed prog_1_method_57_code (3 : Nat) (Option.some Jvm.ClassFile.FieldType.int)) 1 := ⟨kw_1331, ⟨kw_1329, kw_1330⟩, kw_1, ⟨by decide +kernel, by decide +kernel⟩, by decide +kernel⟩
theorem kY_X10_setLimits : kYV yX10_setLimits (Cond.code yX10_setLimits prog_1_method_58_code (3 : Nat) (Option.some Jvm.ClassFile.FieldType.int)) 2 := ⟨kw_1336, ⟨kw_1334, kw_1335⟩, kw_1, ⟨by decide +kernel, by decide +kernel⟩, by decide +kernel⟩
theorem kY_X10_requireDie : kYV yX10_requireDie (Cond.code yX10_requireDie prog_1_method_67_code (2 : Nat) (Option.none : Option Jvm.ClassFile.FieldType)) 1 := ⟨kw_716, ⟨kw_715, kwp_21⟩, kw_1, ⟨by decide +kernel, by decide +kernel⟩, by decide +kernel⟩
theorem kY_X10_requirePlayer : kYV yX10_requirePlayer (Cond.code yX10_requirePlayer prog_1_method_68_code (2 : Nat) (Option.none : Option Jvm.ClassFile.FieldType)) 1 := ⟨kw_973, ⟨kw_972, kwp_38⟩, kw_1, ⟨by decide +kernel, by decide +kernel⟩, by decide +kernel⟩
theorem kY_X10_requirePair : kYV yX10_requirePair (Cond.code yX10_requirePair prog_1_method_69_code (3 : Nat) (Option.none : Option Jvm.ClassFile.FieldType)) 2 := ⟨kw_969, ⟨kw_968, kwp_37⟩, kw_1, ⟨by decide +kernel, by decide +kernel⟩, by decide +kernel⟩
theorem kY_X10_requireThrow : kYV yX10_requireThrow (Cond.code yX10_requireThrow prog_1_method_70_code (2 : Nat) (Option.none : Option Jvm.ClassFile.FieldType)) 1 := ⟨kw_928, ⟨kw_927, kwp_35⟩, kw_1, ⟨by decide +kernel, by decide +kernel⟩, by decide +kernel⟩
theorem kY_X10_requireOffence : kYV yX10_requireOffence (Cond.code yX10_requireOffence prog_1_method_71_code (2 : Nat) (Option.none : Option Jvm.ClassFile.FieldType)) 1 := ⟨kw_953, ⟨kw_952, kwp_36⟩, kw_1, ⟨by decide +kernel, by decide +kernel⟩, by decide +kernel⟩
theorem kY_X10_requireFace : kYV yX10_requireFace (Cond.code yX10_requireFace prog_1_method_72_code (3 : Nat) (Option.none : Option Jvm.ClassFile.FieldType)) 2 := ⟨kw_795, ⟨kw_794, kwp_23⟩, kw_1, ⟨by decide +kernel, by decide +kernel⟩, by decide +kernel⟩
theorem kY_X10_requireIndex : kYS yX10_requireIndex (Cond.code yX10_requireIndex prog_1_method_74_code (2 : Nat) (Option.none : Option Jvm.ClassFile.FieldType)) 2 := ⟨kw_719, kw_718, kw_1, ⟨by decide +kernel, by decide +kernel⟩, by decide +kernel⟩
theorem kY_X10_requireRange : kYS yX10_requireRange (Cond.code yX10_requireRange prog_1_method_75_code (3 : Nat) (Option.none : Option Jvm.ClassFile.FieldType)) 3 := ⟨kw_798, kw_797, kw_1, ⟨by decide +kernel, by decide +kernel⟩, by decide +kernel⟩
theorem kY_X10_at : kYS yX10_at (Cond.code yX10_at prog_1_method_76_code (2 : Nat) (Option.some Jvm.ClassFile.FieldType.int)) 2 := ⟨kw_460, kw_459, kw_1, ⟨by decide +kernel, by decide +kernel⟩, by decide +kernel⟩
theorem kY_X10_put : kYS yX10_put (Cond.code yX10_put prog_1_method_77_code (3 : Nat) (Option.none : Option Jvm.ClassFile.FieldType)) 3 := ⟨kw_318, kw_317, kw_1, ⟨by decide +kernel, by decide +kernel⟩, by decide +kernel⟩
theorem kY_X10_copyRow : kYS yX10_copyRow (Cond.code yX10_copyRow prog_1_method_78_code (2 : Nat) (Option.none : Option Jvm.ClassFile.FieldType)) 2 := ⟨kw_627, kw_626, kw_1, ⟨by decide +kernel, by decide +kernel⟩, by decide +kernel⟩
theorem kY_X10_sumOf : kYS yX10_sumOf (Cond.code yX10_sumOf prog_1_method_79_code (6 : Nat) (Option.some Jvm.ClassFile.FieldType.int)) 3 := ⟨kw_501, kw_500, kw_1, ⟨by decide +kernel, by decide +kernel⟩, by decide +kernel⟩
theorem kY_X10_testScore : kYS yX10_testScore (Cond.code yX10_testScore prog_1_method_81_code (8 : Nat) (Option.some Jvm.ClassFile.FieldType.int)) 3 := ⟨kw_529, kw_528, kw_1, ⟨by decide +kernel, by decide +kernel⟩, by decide +kernel⟩
theorem kY_X10_nextSeed : kYS yX10_nextSeed (Cond.code yX10_nextSeed prog_1_method_82_code (1 : Nat) (Option.some Jvm.ClassFile.FieldType.int)) 1 := ⟨kw_488, kw_487, kw_1, ⟨by decide +kernel, by decide +kernel⟩, by decide +kernel⟩
theorem kY_X10_pairOf : kYS yX10_pairOf (Cond.code yX10_pairOf prog_1_method_83_code (2 : Nat) (Option.some Jvm.ClassFile.FieldType.int)) 2 := ⟨kw_478, kw_477, kw_1, ⟨by decide +kernel, by decide +kernel⟩, by decide +kernel⟩
theorem kY_X10_playerOf : kYS yX10_playerOf (Cond.code yX10_playerOf prog_1_method_84_code (1 : Nat) (Option.some Jvm.ClassFile.FieldType.int)) 1 := ⟨kw_612, kw_611, kw_1, ⟨by decide +kernel, by decide +kernel⟩, by decide +kernel⟩
theorem kY_X10_dieOf : kYS yX10_dieOf (Cond.code yX10_dieOf prog_1_method_85_code (1 : Nat) (Option.some Jvm.ClassFile.FieldType.int)) 1 := ⟨kw_485, kw_484, kw_1, ⟨by decide +kernel, by decide +kernel⟩, by decide +kernel⟩
theorem kY_X10_cellOf : kYS yX10_cellOf (Cond.code yX10_cellOf prog_1_method_86_code (2 : Nat) (Option.some Jvm.ClassFile.FieldType.int)) 2 := ⟨kw_435, kw_434, kw_1, ⟨by decide +kernel, by decide +kernel⟩, by decide +kernel⟩
theorem kY_X11_init : kYI yX11_init (Cond.code yX11_init prog_13_method_1_code (4 : Nat) (Option.none : Option Jvm.ClassFile.FieldType)) 1 := ⟨kw_705, ⟨kw_704, rfl⟩, kw_29, ⟨by decide +kernel, by decide +kernel⟩, by decide +kernel⟩
theorem kY_X11_shows : kYV yX11_shows (Cond.code yX11_shows prog_13_method_2_code (7 : Nat) (Option.some Jvm.ClassFile.FieldType.int)) 2 := ⟨kw_867, ⟨kw_866, kwp_25⟩, kw_29, ⟨by decide +kernel, by decide +kernel⟩, by decide +kernel⟩
theorem kY_X11_throwsDie : kYV yX11_throwsDie (Cond.code yX11_throwsDie prog_13_method_3_code (7 : Nat) (Option.some Jvm.ClassFile.FieldType.int)) 4 := ⟨kw_863, ⟨kw_862, kwp_24⟩, kw_29, ⟨by decide +kernel, by decide +kernel⟩, by decide +kernel⟩
theorem kY_X11_ofPair : kYV yX11_ofPair (Cond.code yX11_ofPair prog_13_method_4_code (5 : Nat) (Option.some Jvm.ClassFile.FieldType.int)) 2 := ⟨kw_882, ⟨kw_881, kwp_28⟩, kw_29, ⟨by decide +kernel, by decide +kernel⟩, by decide +kernel⟩
theorem kY_X11_score : kYV yX11_score (Cond.code yX11_score prog_13_method_5_code (11 : Nat) (Option.some Jvm.ClassFile.FieldType.int)) 2 := ⟨kw_886, ⟨kw_885, kwp_29⟩, kw_29, ⟨by decide +kernel, by decide +kernel⟩, by decide +kernel⟩
theorem kY_X11_isBad : kYV yX11_isBad (Cond.code yX11_isBad prog_13_method_6_code (3 : Nat) (Option.some Jvm.ClassFile.FieldType.boolean)) 2 := ⟨kw_878, ⟨kw_877, kwp_27⟩, kw_29, ⟨by decide +kernel, by decide +kernel⟩, by decide +kernel⟩
theorem kY_X11_isQueued : kYV yX11_isQueued (Cond.code yX11_isQueued prog_13_method_7_code (4 : Nat) (Option.some Jvm.ClassFile.FieldType.boolean)) 2 := ⟨kw_890, ⟨kw_889, kwp_30⟩, kw_29, ⟨by decide +kernel, by decide +kernel⟩, by decide +kernel⟩
theorem kY_X11_audits : kYV yX11_audits (Cond.code yX11_audits prog_13_method_8_code (4 : Nat) (Option.some Jvm.ClassFile.FieldType.int)) 0 := ⟨kw_874, ⟨kw_873, kwp_26⟩, kw_29, ⟨by decide +kernel, by decide +kernel⟩, by decide +kernel⟩
theorem kY_X11_isWorse : kYV yX11_isWorse (Cond.code yX11_isWorse prog_13_method_9_code (3 : Nat) (Option.some Jvm.ClassFile.FieldType.boolean)) 2 := ⟨kw_902, ⟨kw_901, kwp_33⟩, kw_29, ⟨by decide +kernel, by decide +kernel⟩, by decide +kernel⟩
theorem kY_X11_rank : kYV yX11_rank (Cond.code yX11_rank prog_13_method_10_code (4 : Nat) (Option.some Jvm.ClassFile.FieldType.int)) 1 := ⟨kw_898, ⟨kw_897, kwp_32⟩, kw_29, ⟨by decide +kernel, by decide +kernel⟩, by decide +kernel⟩
theorem kY_X11_unqueue : kYV yX11_unqueue (Cond.code yX11_unqueue prog_13_method_11_code (2 : Nat) (Option.none : Option Jvm.ClassFile.FieldType)) 1 := ⟨kw_907, ⟨kw_906, kwp_34⟩, kw_29, ⟨by decide +kernel, by decide +kernel⟩, by decide +kernel⟩
theorem kY_X11_absolves : kYV yX11_absolves (Cond.code yX11_absolves prog_13_method_12_code (8 : Nat) (Option.some Jvm.ClassFile.FieldType.int)) 0 := ⟨kw_894, ⟨kw_893, kwp_31⟩, kw_29, ⟨by decide +kernel, by decide +kernel⟩, by decide +kernel⟩
theorem kY_X11_acts : kYV yX11_acts (Cond.code yX11_acts prog_13_method_13_code (9 : Nat) (Option.some Jvm.ClassFile.FieldType.int)) 2 := ⟨kw_859, ⟨kw_857, kw_858⟩, kw_29, ⟨by decide +kernel, by decide +kernel⟩, by decide +kernel⟩
theorem kY_X11_agrees : kYV yX11_agrees (Cond.code yX11_agrees prog_13_method_14_code (4 : Nat) (Option.some Jvm.ClassFile.FieldType.boolean)) 1 := ⟨kw_912, ⟨kw_910, kw_911⟩, kw_29, ⟨by decide +kernel, by decide +kernel⟩, by decide +kernel⟩
theorem kY_J5_init_d00df : kYI yJ5_init_d00df (Cond.code yJ5_init_d00df prog_15_method_2_code (2 : Nat) (Option.none : Option Jvm.ClassFile.FieldType)) 1 := ⟨kw_1263, ⟨kw_1262, rfl⟩, kw_19, ⟨by decide +kernel, by decide +kernel⟩, by decide +kernel⟩
theorem kY_J5_init_a7421 : kYI yJ5_init_a7421 (Cond.code yJ5_init_a7421 prog_15_method_3_code (5 : Nat) (Option.none : Option Jvm.ClassFile.FieldType)) 1 := ⟨kw_1052, ⟨kw_1051, rfl⟩, kw_19, ⟨by decide +kernel, by decide +kernel⟩, by decide +kernel⟩
theorem kY_J6_getChars_ba4f3 : kYS yJ6_getChars_ba4f3 (Cond.code yJ6_getChars_ba4f3 prog_21_method_12_code (7 : Nat) (Option.some Jvm.ClassFile.FieldType.int)) 3 := ⟨kw_1189, kw_1188, kw_23, ⟨by decide +kernel, by decide +kernel⟩, by decide +kernel⟩
theorem kY_J6_stringSize_0f7a4 : kYS yJ6_stringSize_0f7a4 (Cond.code yJ6_stringSize_0f7a4 prog_21_method_13_code (4 : Nat) (Option.some Jvm.ClassFile.FieldType.int)) 1 := ⟨kw_1186, kw_1185, kw_23, ⟨by decide +kernel, by decide +kernel⟩, by decide +kernel⟩
theorem kY_J9_max_7cf53 : kYS yJ9_max_7cf53 (Cond.code yJ9_max_7cf53 prog_22_method_65_code (2 : Nat) (Option.some Jvm.ClassFile.FieldType.int)) 2 := ⟨kw_580, kw_579, kw_16, ⟨by decide +kernel, by decide +kernel⟩, by decide +kernel⟩
theorem kY_J9_min_7cf53 : kYS yJ9_min_7cf53 (Cond.code yJ9_min_7cf53 prog_22_method_69_code (2 : Nat) (Option.some Jvm.ClassFile.FieldType.int)) 2 := ⟨kw_355, kw_354, kw_16, ⟨by decide +kernel, by decide +kernel⟩, by decide +kernel⟩
theorem kY_J0_init_81219 : kYI yJ0_init_81219 (Cond.code yJ0_init_81219 prog_25_method_53_code (2 : Nat) (Option.none : Option Jvm.ClassFile.FieldType)) 1 := ⟨kw_1228, ⟨kw_1227, rfl⟩, kw_12, ⟨by decide +kernel, by decide +kernel⟩, by decide +kernel⟩
theorem kY_J0_length_8abf5 : kYV yJ0_length_8abf5 (Cond.code yJ0_length_8abf5 prog_25_method_54_code (1 : Nat) (Option.some Jvm.ClassFile.FieldType.int)) 0 := ⟨kw_267, ⟨kw_265, kw_266⟩, kw_12, ⟨by decide +kernel, by decide +kernel⟩, by decide +kernel⟩
theorem kY_J0_charAt_5068e : kYV yJ0_charAt_5068e (Cond.code yJ0_charAt_5068e prog_25_method_56_code (2 : Nat) (Option.some Jvm.ClassFile.FieldType.char)) 1 := ⟨kw_277, ⟨kw_275, kw_276⟩, kw_12, ⟨by decide +kernel, by decide +kernel⟩, by decide +kernel⟩
theorem kY_J0_getBytes_840e7 : kYV yJ0_getBytes_840e7 (Cond.code yJ0_getBytes_840e7 prog_25_method_147_code (4 : Nat) (Option.none : Option Jvm.ClassFile.FieldType)) 3 := ⟨kw_1161, ⟨kw_1159, kw_1160⟩, kw_12, ⟨by decide +kernel, by decide +kernel⟩, by decide +kernel⟩
theorem kY_J0_init_db425 : kYI yJ0_init_db425 (Cond.code yJ0_init_db425 prog_25_method_150_code (5 : Nat) (Option.none : Option Jvm.ClassFile.FieldType)) 2 := ⟨kw_1231, ⟨kw_1230, rfl⟩, kw_12, ⟨by decide +kernel, by decide +kernel⟩, by decide +kernel⟩
theorem kY_J0_coder_7d493 : kYV yJ0_coder_7d493 (Cond.code yJ0_coder_7d493 prog_25_method_152_code (1 : Nat) (Option.some Jvm.ClassFile.FieldType.byte)) 0 := ⟨kw_271, ⟨kw_269, kw_270⟩, kw_12, ⟨by decide +kernel, by decide +kernel⟩, by decide +kernel⟩
theorem kY_J0_isLatin1_aae02 : kYV yJ0_isLatin1_aae02 (Cond.code yJ0_isLatin1_aae02 prog_25_method_154_code (1 : Nat) (Option.some Jvm.ClassFile.FieldType.boolean)) 0 := ⟨kw_281, ⟨kw_279, kw_280⟩, kw_12, ⟨by decide +kernel, by decide +kernel⟩, by decide +kernel⟩
theorem kY_J0_checkIndex_df160 : kYS yJ0_checkIndex_df160 (Cond.code yJ0_checkIndex_df160 prog_25_method_155_code (2 : Nat) (Option.none : Option Jvm.ClassFile.FieldType)) 2 := ⟨kw_287, kw_286, kw_12, ⟨by decide +kernel, by decide +kernel⟩, by decide +kernel⟩
theorem kY_J0_checkBoundsOffCount_cabcc : kYS yJ0_checkBoundsOffCount_cabcc (Cond.code yJ0_checkBoundsOffCount_cabcc prog_25_method_157_code (3 : Nat) (Option.some Jvm.ClassFile.FieldType.int)) 3 := ⟨kw_1154, kw_1153, kw_12, ⟨by decide +kernel, by decide +kernel⟩, by decide +kernel⟩
theorem kY_J0_checkBoundsBeginEnd_23922 : kYS yJ0_checkBoundsBeginEnd_23922 (Cond.code yJ0_checkBoundsBeginEnd_23922 prog_25_method_158_code (3 : Nat) (Option.none : Option Jvm.ClassFile.FieldType)) 3 := ⟨kw_1124, kw_1123, kw_12, ⟨by decide +kernel, by decide +kernel⟩, by decide +kernel⟩
theorem kY_J4_init_da8c8 : kYI yJ4_init_da8c8 (Cond.code yJ4_init_da8c8 prog_26_method_1_code (1 : Nat) (Option.none : Option Jvm.ClassFile.FieldType)) 0 := ⟨kw_1260, ⟨kw_1259, rfl⟩, kw_20, ⟨by decide +kernel, by decide +kernel⟩, by decide +kernel⟩
theorem kY_J4_init_a7421 : kYI yJ4_init_a7421 (Cond.code yJ4_init_a7421 prog_26_method_3_code (2 : Nat) (Option.none : Option Jvm.ClassFile.FieldType)) 1 := ⟨kw_1049, ⟨kw_1048, rfl⟩, kw_20, ⟨by decide +kernel, by decide +kernel⟩, by decide +kernel⟩
theorem kY_J4_append_15ec4 : kYV yJ4_append_15ec4 (Cond.code yJ4_append_15ec4 prog_26_method_7_code (2 : Nat) (Option.some (Jvm.ClassFile.FieldType.object "java/lang/StringBuilder"))) 1 := ⟨kw_1074, ⟨kw_1072, kw_1073⟩, kw_20, ⟨by decide +kernel, by decide +kernel⟩, by decide +kernel⟩
theorem kY_J4_append_cf468 : kYV yJ4_append_cf468 (Cond.code yJ4_append_cf468 prog_26_method_14_code (2 : Nat) (Option.some (Jvm.ClassFile.FieldType.object "java/lang/StringBuilder"))) 1 := ⟨kw_1205, ⟨kw_1203, kw_1204⟩, kw_20, ⟨by decide +kernel, by decide +kernel⟩, by decide +kernel⟩
theorem kY_J4_append_bf812 : kYV yJ4_append_bf812 (Cond.code yJ4_append_bf812 prog_26_method_15_code (2 : Nat) (Option.some (Jvm.ClassFile.FieldType.object "java/lang/StringBuilder"))) 1 := ⟨kw_1180, ⟨kw_1178, kw_1179⟩, kw_20, ⟨by decide +kernel, by decide +kernel⟩, by decide +kernel⟩
theorem kY_J4_toString_0e30d : kYV yJ4_toString_0e30d (Cond.code yJ4_toString_0e30d prog_26_method_42_code (1 : Nat) (Option.some (Jvm.ClassFile.FieldType.object "java/lang/String"))) 0 := ⟨kw_1223, ⟨kw_1221, kw_1222⟩, kw_20, ⟨by decide +kernel, by decide +kernel⟩, by decide +kernel⟩
theorem kY_J1_charAt_3b067 : kYS yJ1_charAt_3b067 (Cond.code yJ1_charAt_3b067 prog_27_method_2_code (2 : Nat) (Option.some Jvm.ClassFile.FieldType.char)) 2 := ⟨kw_284, kw_283, kw_13, ⟨by decide +kernel, by decide +kernel⟩, by decide +kernel⟩
theorem kY_J1_canEncode_fc78d : kYS yJ1_canEncode_fc78d (Cond.code yJ1_canEncode_fc78d prog_27_method_3_code (1 : Nat) (Option.some Jvm.ClassFile.FieldType.boolean)) 1 := ⟨kw_1211, kw_1210, kw_13, ⟨by decide +kernel, by decide +kernel⟩, by decide +kernel⟩
theorem kY_J1_inflate_0e8fd : kYS yJ1_inflate_0e8fd (Cond.code yJ1_inflate_0e8fd prog_27_method_50_code (5 : Nat) (Option.none : Option Jvm.ClassFile.FieldType)) 5 := ⟨kw_1145, kw_1144, kw_13, ⟨by decide +kernel, by decide +kernel⟩, by decide +kernel⟩
theorem kY_J2_newBytesFor_77867 : kYS yJ2_newBytesFor_77867 (Cond.code yJ2_newBytesFor_77867 prog_28_method_2_code (1 : Nat) (Option.some (Jvm.ClassFile.FieldType.array Jvm.ClassFile.FieldType.byte))) 1 := ⟨kw_1060, kw_1059, kw_15, ⟨by decide +kernel, by decide +kernel⟩, by decide +kernel⟩
theorem kY_J2_newBytesLength_0f7a4 : kYS yJ2_newBytesLength_0f7a4 (Cond.code yJ2_newBytesLength_0f7a4 prog_28_method_3_code (1 : Nat) (Option.some Jvm.ClassFile.FieldType.int)) 1 := ⟨kw_1063, kw_1062, kw_15, ⟨by decide +kernel, by decide +kernel⟩, by decide +kernel⟩
theorem kY_J2_putChar_b72d1 : kYS yJ2_putChar_b72d1 (Cond.code yJ2_putChar_b72d1 prog_28_method_4_code (3 : Nat) (Option.none : Option Jvm.ClassFile.FieldType)) 3 := ⟨kw_1130, kw_1129, kw_15, ⟨by decide +kernel, by decide +kernel⟩, by decide +kernel⟩
theorem kY_J2_getChar_3b067 : kYS yJ2_getChar_3b067 (Cond.code yJ2_getChar_3b067 prog_28_method_5_code (2 : Nat) (Option.some Jvm.ClassFile.FieldType.char)) 2 := ⟨kw_305, kw_304, kw_15, ⟨by decide +kernel, by decide +kernel⟩, by decide +kernel⟩
theorem kY_J2_length_9d52b : kYS yJ2_length_9d52b (Cond.code yJ2_length_9d52b prog_28_method_6_code (1 : Nat) (Option.some Jvm.ClassFile.FieldType.int)) 1 := ⟨kw_301, kw_300, kw_15, ⟨by decide +kernel, by decide +kernel⟩, by decide +kernel⟩
theorem kY_J2_coderFromArrayLen_85cad : kYS yJ2_coderFromArrayLen_85cad (Cond.code yJ2_coderFromArrayLen_85cad prog_28_method_15_code (2 : Nat) (Option.some Jvm.ClassFile.FieldType.byte)) 2 := ⟨kw_1278, kw_1277, kw_15, ⟨by decide +kernel, by decide +kernel⟩, by decide +kernel⟩
theorem kY_J2_compress_39247 : kYS yJ2_compress_39247 (Cond.code yJ2_compress_39247 prog_28_method_17_code (6 : Nat) (Option.some (Jvm.ClassFile.FieldType.array Jvm.ClassFile.FieldType.byte))) 3 := ⟨kw_1271, kw_1270, kw_15, ⟨by decide +kernel, by decide +kernel⟩, by decide +kernel⟩
theorem kY_J2_compress_5af95 : kYS yJ2_compress_5af95 (Cond.code yJ2_compress_5af95 prog_28_method_22_code (7 : Nat) (Option.some Jvm.ClassFile.FieldType.int)) 5 := ⟨kw_1274, kw_1273, kw_15, ⟨by decide +kernel, by decide +kernel⟩, by decide +kernel⟩
theorem kY_J2_putCharSB_b72d1 : kYS yJ2_putCharSB_b72d1 (Cond.code yJ2_putCharSB_b72d1 prog_28_method_71_code (3 : Nat) (Option.none : Option Jvm.ClassFile.FieldType)) 3 := ⟨kw_1214, kw_1213, kw_15, ⟨by decide +kernel, by decide +kernel⟩, by decide +kernel⟩
theorem kY_J2_getChars_46870 : kYS yJ2_getChars_46870 (Cond.code yJ2_getChars_46870 prog_28_method_77_code (5 : Nat) (Option.some Jvm.ClassFile.FieldType.int)) 4 := ⟨kw_1196, kw_1195, kw_15, ⟨by decide +kernel, by decide +kernel⟩, by decide +kernel⟩
theorem kY_J2_putCharsAt_cd4e5 : kYS yJ2_putCharsAt_cd4e5 (Cond.code yJ2_putCharsAt_cd4e5 prog_28_method_81_code (7 : Nat) (Option.some Jvm.ClassFile.FieldType.int)) 6 := ⟨kw_1118, kw_1117, kw_15, ⟨by decide +kernel, by decide +kernel⟩, by decide +kernel⟩
theorem kY_J2_charAt_3b067 : kYS yJ2_charAt_3b067 (Cond.code yJ2_charAt_3b067 prog_28_method_83_code (2 : Nat) (Option.some Jvm.ClassFile.FieldType.char)) 2 := ⟨kw_295, kw_294, kw_15, ⟨by decide +kernel, by decide +kernel⟩, by decide +kernel⟩
theorem kY_J2_inflate_0e8fd : kYS yJ2_inflate_0e8fd (Cond.code yJ2_inflate_0e8fd prog_28_method_86_code (6 : Nat) (Option.none : Option Jvm.ClassFile.FieldType)) 5 := ⟨kw_1148, kw_1147, kw_15, ⟨by decide +kernel, by decide +kernel⟩, by decide +kernel⟩
theorem kY_J2_getChars_ba4f3 : kYS yJ2_getChars_ba4f3 (Cond.code yJ2_getChars_ba4f3 prog_28_method_89_code (7 : Nat) (Option.some Jvm.ClassFile.FieldType.int)) 3 := ⟨kw_1199, kw_1198, kw_15, ⟨by decide +kernel, by decide +kernel⟩, by decide +kernel⟩
theorem kY_J2_checkIndex_2214a : kYS yJ2_checkIndex_2214a (Cond.code yJ2_checkIndex_2214a prog_28_method_91_code (2 : Nat) (Option.none : Option Jvm.ClassFile.FieldType)) 2 := ⟨kw_298, kw_297, kw_15, ⟨by decide +kernel, by decide +kernel⟩, by decide +kernel⟩
theorem kY_J2_checkBoundsBeginEnd_d044e : kYS yJ2_checkBoundsBeginEnd_d044e (Cond.code yJ2_checkBoundsBeginEnd_d044e prog_28_method_93_code (3 : Nat) (Option.none : Option Jvm.ClassFile.FieldType)) 3 := ⟨kw_1121, kw_1120, kw_15, ⟨by decide +kernel, by decide +kernel⟩, by decide +kernel⟩
theorem kY_J2_checkBoundsOffCount_d044e : kYS yJ2_checkBoundsOffCount_d044e (Cond.code yJ2_checkBoundsOffCount_d044e prog_28_method_94_code (3 : Nat) (Option.none : Option Jvm.ClassFile.FieldType)) 3 := ⟨kw_1151, kw_1150, kw_15, ⟨by decide +kernel, by decide +kernel⟩, by decide +kernel⟩
theorem kY_J7_fill_53178 : kYS yJ7_fill_53178 (Cond.code yJ7_fill_53178 prog_31_method_103_code (4 : Nat) (Option.none : Option Jvm.ClassFile.FieldType)) 2 := ⟨kw_411, kw_410, kw_17, ⟨by decide +kernel, by decide +kernel⟩, by decide +kernel⟩
theorem kY_J7_copyOf_9075b : kYS yJ7_copyOf_9075b (Cond.code yJ7_copyOf_9075b prog_31_method_121_code (3 : Nat) (Option.some (Jvm.ClassFile.FieldType.array Jvm.ClassFile.FieldType.byte))) 2 := ⟨kw_1100, kw_1099, kw_17, ⟨by decide +kernel, by decide +kernel⟩, by decide +kernel⟩
theorem kY_J7_checkLength_df160 : kYS yJ7_checkLength_df160 (Cond.code yJ7_checkLength_df160 prog_31_method_131_code (2 : Nat) (Option.none : Option Jvm.ClassFile.FieldType)) 2 := ⟨kw_1255, kw_1254, kw_17, ⟨by decide +kernel, by decide +kernel⟩, by decide +kernel⟩
theorem kY_J7_copyOfRange_39247 : kYS yJ7_copyOfRange_39247 (Cond.code yJ7_copyOfRange_39247 prog_31_method_132_code (3 : Nat) (Option.some (Jvm.ClassFile.FieldType.array Jvm.ClassFile.FieldType.byte))) 3 := ⟨kw_1249, kw_1248, kw_17, ⟨by decide +kernel, by decide +kernel⟩, by decide +kernel⟩
theorem kY_J7_copyOfRangeByte_39247 : kYS yJ7_copyOfRangeByte_39247 (Cond.code yJ7_copyOfRangeByte_39247 prog_31_method_133_code (5 : Nat) (Option.some (Jvm.ClassFile.FieldType.array Jvm.ClassFile.FieldType.byte))) 3 := ⟨kw_1252, kw_1251, kw_17, ⟨by decide +kernel, by decide +kernel⟩, by decide +kernel⟩
theorem kY_J8_newLength_cabcc : kYS yJ8_newLength_cabcc (Cond.code yJ8_newLength_cabcc prog_32_method_27_code (4 : Nat) (Option.some Jvm.ClassFile.FieldType.int)) 3 := ⟨kw_1092, kw_1091, kw_21, ⟨by decide +kernel, by decide +kernel⟩, by decide +kernel⟩
theorem kY_J8_hugeLength_7cf53 : kYS yJ8_hugeLength_7cf53 (Cond.code yJ8_hugeLength_7cf53 prog_32_method_28_code (3 : Nat) (Option.some Jvm.ClassFile.FieldType.int)) 2 := ⟨kw_1097, kw_1096, kw_21, ⟨by decide +kernel, by decide +kernel⟩, by decide +kernel⟩
theorem kY_J3_checkIndex_8e157 : kYS yJ3_checkIndex_8e157 (Cond.code yJ3_checkIndex_8e157 prog_33_method_11_code (3 : Nat) (Option.some Jvm.ClassFile.FieldType.int)) 3 := ⟨kw_292, kw_291, kw_14, ⟨by decide +kernel, by decide +kernel⟩, by decide +kernel⟩
theorem kY_J3_checkFromToIndex_8c36e : kYS yJ3_checkFromToIndex_8c36e (Cond.code yJ3_checkFromToIndex_8c36e prog_33_method_12_code (4 : Nat) (Option.some Jvm.ClassFile.FieldType.int)) 4 := ⟨kw_1127, kw_1126, kw_14, ⟨by decide +kernel, by decide +kernel⟩, by decide +kernel⟩
theorem kY_J3_checkFromIndexSize_8c36e : kYS yJ3_checkFromIndexSize_8c36e (Cond.code yJ3_checkFromIndexSize_8c36e prog_33_method_13_code (4 : Nat) (Option.some Jvm.ClassFile.FieldType.int)) 4 := ⟨kw_1157, kw_1156, kw_14, ⟨by decide +kernel, by decide +kernel⟩, by decide +kernel⟩
theorem kY_L_cell : kYS yL_cell (Cond.code yL_cell method_2_code (2 : Nat) (Option.some Jvm.ClassFile.FieldType.int)) 2 := ⟨kw_991, kw_990, kw_0, ⟨by decide +kernel, by decide +kernel⟩, by decide +kernel⟩
theorem kY_L_says : kYS yL_says (Cond.code yL_says method_3_code (5 : Nat) (Option.none : Option Jvm.ClassFile.FieldType)) 2 := ⟨kw_995, kw_994, kw_0, ⟨by decide +kernel, by decide +kernel⟩, by decide +kernel⟩
theorem kY_L_loaded : kYS yL_loaded (Cond.codeWith yL_loaded method_4_code (2 : Nat) (Option.some Jvm.ClassFile.FieldType.int) [((0 : Nat), (4 : Nat), (5 : Nat), (31 : Nat))]) 1 := ⟨kw_1028, kw_1027, kw_0, ⟨by decide +kernel, by decide +kernel⟩, by decide +kernel⟩
theorem kY_L_text : kYS yL_text (Cond.code yL_text method_5_code (7 : Nat) (Option.some (Jvm.ClassFile.FieldType.object "java/lang/String"))) 1 := ⟨kw_1043, kw_1042, kw_0, ⟨by decide +kernel, by decide +kernel⟩, by decide +kernel⟩
theorem kY_L_acts : kYS yL_acts (Cond.codeWith yL_acts method_6_code (4 : Nat) (Option.some Jvm.ClassFile.FieldType.int) [((5 : Nat), (105 : Nat), (179 : Nat), (93 : Nat)), ((106 : Nat), (110 : Nat), (179 : Nat), (93 : Nat)), ((111 : Nat), (115 : Nat), (179 : Nat), (93 : Nat)), ((116 : Nat), (123 : Nat), (179 : Nat), (93 : Nat)), ((124 : Nat), (151 : Nat), (179 : Nat), (93 : Nat)), ((152 : Nat), (160 : Nat), (179 : Nat), (93 : Nat)), ((161 : Nat), (178 : Nat), (179 : Nat), (93 : Nat))]) 2 := ⟨kw_1292, kw_1291, kw_0, ⟨by decide +kernel, by decide +kernel⟩, by decide +kernel⟩
