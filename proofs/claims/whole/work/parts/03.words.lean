theorem aWd_p {q : MethodName × Nat} (h : q ∈ lw_privs) : Cond.selects q.1.cls q.1 q.1 ∈ aWd := List.mem_filter.mpr ⟨List.mem_append_left _ (List.mem_map_of_mem h), rfl⟩
theorem wd_1_1 : Jvm.Cond.initialized "ReadAloud" ∈ aWd := aWd_1 (List.mem_of_getElem? (i := 1) rfl) rfl
theorem wd_1_2 : Jvm.Cond.initialized "ReadAloud$Page" ∈ aWd := aWd_1 (List.mem_of_getElem? (i := 2) rfl) rfl
theorem wd_1_3 : Jvm.Cond.initialized "ReadAloud$Walk" ∈ aWd := aWd_1 (List.mem_of_getElem? (i := 3) rfl) rfl
theorem wd_1_4 : Jvm.Cond.initialized "ReadAloud$State" ∈ aWd := aWd_1 (List.mem_of_getElem? (i := 4) rfl) rfl
theorem wd_1_5 : Jvm.Cond.initialized "ReadAloud$Sheet" ∈ aWd := aWd_1 (List.mem_of_getElem? (i := 5) rfl) rfl
theorem wd_1_6 : Jvm.Cond.initialized "ReadAloud$Heard" ∈ aWd := aWd_1 (List.mem_of_getElem? (i := 6) rfl) rfl
theorem wd_1_7 : Jvm.Cond.initialized "ReadAloud$Brief" ∈ aWd := aWd_1 (List.mem_of_getElem? (i := 7) rfl) rfl
theorem wd_1_8 : Jvm.Cond.initialized "ReadAloudModel" ∈ aWd := aWd_1 (List.mem_of_getElem? (i := 8) rfl) rfl
theorem wd_1_9 : Jvm.Cond.initialized "ReadAloud$Man" ∈ aWd := aWd_1 (List.mem_of_getElem? (i := 9) rfl) rfl
theorem wd_1_10 : Jvm.Cond.initialized "ReadAloud$Stammerer" ∈ aWd := aWd_1 (List.mem_of_getElem? (i := 10) rfl) rfl
theorem wd_1_11 : Jvm.Cond.initialized "ReadAloud$Actor" ∈ aWd := aWd_1 (List.mem_of_getElem? (i := 11) rfl) rfl
theorem wd_1_12 : Jvm.Cond.initialized "ReadAloud$Boy" ∈ aWd := aWd_1 (List.mem_of_getElem? (i := 12) rfl) rfl
theorem wd_1_13 : Jvm.Cond.initialized "ReadAloud$Weeper" ∈ aWd := aWd_1 (List.mem_of_getElem? (i := 13) rfl) rfl
theorem wd_1_14 : Jvm.Cond.initialized "java/lang/Integer" ∈ aWd := aWd_1 (List.mem_of_getElem? (i := 14) rfl) rfl
theorem wd_1_17 : Jvm.Cond.classLink "ReadAloudLaw" (7 : Nat) "ReadAloud" ∈ aWd := aWd_1 (List.mem_of_getElem? (i := 17) rfl) rfl
theorem wd_1_18 : Jvm.Cond.instantiable "ReadAloud" (10 : Nat) ∈ aWd := aWd_1 (List.mem_of_getElem? (i := 18) rfl) rfl
theorem wd_1_19 : Jvm.Cond.methodLink "ReadAloudLaw" (9 : Nat) ({ cls := "ReadAloud", name := "<init>", desc := "()V" } : Jvm.MethodName) ∈ aWd := aWd_1 (List.mem_of_getElem? (i := 19) rfl) rfl
theorem wd_1_20 : Jvm.Cond.instanceMethod ({ cls := "ReadAloud", name := "<init>", desc := "()V" } : Jvm.MethodName) ∈ aWd := aWd_1 (List.mem_of_getElem? (i := 20) rfl) rfl
theorem wd_1_21 : Jvm.Cond.code ({ cls := "ReadAloud", name := "<init>", desc := "()V" } : Jvm.MethodName) prog_1_method_1_code (1 : Nat) (Option.none : Option Jvm.ClassFile.FieldType) ∈ aWd := aWd_1 (List.mem_of_getElem? (i := 21) rfl) rfl
theorem wd_1_22 : Jvm.Cond.methodLink "ReadAloud" (1 : Nat) ({ cls := "java/lang/Object", name := "<init>", desc := "()V" } : Jvm.MethodName) ∈ aWd := aWd_1 (List.mem_of_getElem? (i := 22) rfl) rfl
theorem wd_1_25 : Jvm.Cond.classLink "ReadAloud" (7 : Nat) "ReadAloud$Page" ∈ aWd := aWd_1 (List.mem_of_getElem? (i := 25) rfl) rfl
theorem wd_1_26 : Jvm.Cond.instantiable "ReadAloud$Page" (3 : Nat) ∈ aWd := aWd_1 (List.mem_of_getElem? (i := 26) rfl) rfl
theorem wd_1_28 : Jvm.Cond.instanceMethod ({ cls := "ReadAloud$Page", name := "<init>", desc := "()V" } : Jvm.MethodName) ∈ aWd := aWd_1 (List.mem_of_getElem? (i := 28) rfl) rfl
theorem wd_1_29 : Jvm.Cond.code ({ cls := "ReadAloud$Page", name := "<init>", desc := "()V" } : Jvm.MethodName) prog_7_method_1_code (1 : Nat) (Option.none : Option Jvm.ClassFile.FieldType) ∈ aWd := aWd_1 (List.mem_of_getElem? (i := 29) rfl) rfl
theorem wd_1_30 : Jvm.Cond.methodLink "ReadAloud$Page" (3 : Nat) ({ cls := "java/lang/Object", name := "<init>", desc := "()V" } : Jvm.MethodName) ∈ aWd := aWd_1 (List.mem_of_getElem? (i := 30) rfl) rfl
theorem wd_1_31 : Jvm.Cond.classLink "ReadAloud$Page" (15 : Nat) "ReadAloud$Walk" ∈ aWd := aWd_1 (List.mem_of_getElem? (i := 31) rfl) rfl
theorem wd_1_32 : Jvm.Cond.instantiable "ReadAloud$Walk" (3 : Nat) ∈ aWd := aWd_1 (List.mem_of_getElem? (i := 32) rfl) rfl
theorem wd_1_34 : Jvm.Cond.instanceMethod ({ cls := "ReadAloud$Walk", name := "<init>", desc := "()V" } : Jvm.MethodName) ∈ aWd := aWd_1 (List.mem_of_getElem? (i := 34) rfl) rfl
theorem wd_1_35 : Jvm.Cond.code ({ cls := "ReadAloud$Walk", name := "<init>", desc := "()V" } : Jvm.MethodName) prog_11_method_1_code (1 : Nat) (Option.none : Option Jvm.ClassFile.FieldType) ∈ aWd := aWd_1 (List.mem_of_getElem? (i := 35) rfl) rfl
theorem wd_1_36 : Jvm.Cond.methodLink "ReadAloud$Walk" (3 : Nat) ({ cls := "java/lang/Object", name := "<init>", desc := "()V" } : Jvm.MethodName) ∈ aWd := aWd_1 (List.mem_of_getElem? (i := 36) rfl) rfl
theorem wd_1_37 : Jvm.Cond.fieldLink "ReadAloud$Walk" (22 : Nat) "ReadAloud$Walk" "part" "I" ∈ aWd := aWd_1 (List.mem_of_getElem? (i := 37) rfl) rfl
theorem wd_1_38 : Jvm.Cond.fieldLink "ReadAloud$Walk" (26 : Nat) "ReadAloud$Walk" "wordsOfPart" "I" ∈ aWd := aWd_1 (List.mem_of_getElem? (i := 38) rfl) rfl
theorem wd_1_39 : Jvm.Cond.fieldLink "ReadAloud$Walk" (29 : Nat) "ReadAloud$Walk" "lastWord" "I" ∈ aWd := aWd_1 (List.mem_of_getElem? (i := 39) rfl) rfl
theorem wd_1_40 : Jvm.Cond.lays "ReadAloud$Walk" "ReadAloud$Walk" "part" "I" ∈ aWd := aWd_1 (List.mem_of_getElem? (i := 40) rfl) rfl
theorem wd_1_42 : Jvm.Cond.lays "ReadAloud$Walk" "ReadAloud$Walk" "wordsOfPart" "I" ∈ aWd := aWd_1 (List.mem_of_getElem? (i := 42) rfl) rfl
theorem wd_1_44 : Jvm.Cond.lays "ReadAloud$Walk" "ReadAloud$Walk" "lastWord" "I" ∈ aWd := aWd_1 (List.mem_of_getElem? (i := 44) rfl) rfl
theorem wd_1_48 : Jvm.Cond.fieldLink "ReadAloud$Page" (9 : Nat) "ReadAloud$Page" "codes" "[I" ∈ aWd := aWd_1 (List.mem_of_getElem? (i := 48) rfl) rfl
theorem wd_1_49 : Jvm.Cond.fieldLink "ReadAloud$Page" (18 : Nat) "ReadAloud$Page" "walk" "LReadAloud$Walk;" ∈ aWd := aWd_1 (List.mem_of_getElem? (i := 49) rfl) rfl
theorem wd_1_50 : Jvm.Cond.fieldLink "ReadAloud$Page" (22 : Nat) "ReadAloud$Page" "size" "I" ∈ aWd := aWd_1 (List.mem_of_getElem? (i := 50) rfl) rfl
theorem wd_1_51 : Jvm.Cond.laysFinal "ReadAloud$Page" "ReadAloud$Page" "codes" "[I" ∈ aWd := aWd_1 (List.mem_of_getElem? (i := 51) rfl) rfl
theorem wd_1_53 : Jvm.Cond.laysFinal "ReadAloud$Page" "ReadAloud$Page" "walk" "LReadAloud$Walk;" ∈ aWd := aWd_1 (List.mem_of_getElem? (i := 53) rfl) rfl
theorem wd_1_55 : Jvm.Cond.lays "ReadAloud$Page" "ReadAloud$Page" "size" "I" ∈ aWd := aWd_1 (List.mem_of_getElem? (i := 55) rfl) rfl
theorem wd_1_58 : Jvm.Cond.classLink "ReadAloud" (20 : Nat) "ReadAloud$Man" ∈ aWd := aWd_1 (List.mem_of_getElem? (i := 58) rfl) rfl
theorem wd_1_60 : Jvm.Cond.classLink "ReadAloud" (26 : Nat) "ReadAloud$State" ∈ aWd := aWd_1 (List.mem_of_getElem? (i := 60) rfl) rfl
theorem wd_1_61 : Jvm.Cond.instantiable "ReadAloud$State" (6 : Nat) ∈ aWd := aWd_1 (List.mem_of_getElem? (i := 61) rfl) rfl
theorem wd_1_63 : Jvm.Cond.instanceMethod ({ cls := "ReadAloud$State", name := "<init>", desc := "()V" } : Jvm.MethodName) ∈ aWd := aWd_1 (List.mem_of_getElem? (i := 63) rfl) rfl
theorem wd_1_64 : Jvm.Cond.code ({ cls := "ReadAloud$State", name := "<init>", desc := "()V" } : Jvm.MethodName) prog_10_method_1_code (1 : Nat) (Option.none : Option Jvm.ClassFile.FieldType) ∈ aWd := aWd_1 (List.mem_of_getElem? (i := 64) rfl) rfl
theorem wd_1_65 : Jvm.Cond.methodLink "ReadAloud$State" (3 : Nat) ({ cls := "java/lang/Object", name := "<init>", desc := "()V" } : Jvm.MethodName) ∈ aWd := aWd_1 (List.mem_of_getElem? (i := 65) rfl) rfl
theorem wd_1_66 : Jvm.Cond.classLink "ReadAloud$State" (9 : Nat) "ReadAloud$Sheet" ∈ aWd := aWd_1 (List.mem_of_getElem? (i := 66) rfl) rfl
theorem wd_1_67 : Jvm.Cond.instantiable "ReadAloud$Sheet" (2 : Nat) ∈ aWd := aWd_1 (List.mem_of_getElem? (i := 67) rfl) rfl
theorem wd_1_69 : Jvm.Cond.instanceMethod ({ cls := "ReadAloud$Sheet", name := "<init>", desc := "()V" } : Jvm.MethodName) ∈ aWd := aWd_1 (List.mem_of_getElem? (i := 69) rfl) rfl
theorem wd_1_70 : Jvm.Cond.code ({ cls := "ReadAloud$Sheet", name := "<init>", desc := "()V" } : Jvm.MethodName) prog_8_method_1_code (1 : Nat) (Option.none : Option Jvm.ClassFile.FieldType) ∈ aWd := aWd_1 (List.mem_of_getElem? (i := 70) rfl) rfl
theorem wd_1_71 : Jvm.Cond.methodLink "ReadAloud$Sheet" (3 : Nat) ({ cls := "java/lang/Object", name := "<init>", desc := "()V" } : Jvm.MethodName) ∈ aWd := aWd_1 (List.mem_of_getElem? (i := 71) rfl) rfl
theorem wd_1_72 : Jvm.Cond.fieldLink "ReadAloud$Sheet" (9 : Nat) "ReadAloud$Sheet" "words" "[I" ∈ aWd := aWd_1 (List.mem_of_getElem? (i := 72) rfl) rfl
theorem wd_1_73 : Jvm.Cond.fieldLink "ReadAloud$Sheet" (15 : Nat) "ReadAloud$Sheet" "size" "I" ∈ aWd := aWd_1 (List.mem_of_getElem? (i := 73) rfl) rfl
theorem wd_1_74 : Jvm.Cond.laysFinal "ReadAloud$Sheet" "ReadAloud$Sheet" "words" "[I" ∈ aWd := aWd_1 (List.mem_of_getElem? (i := 74) rfl) rfl
theorem wd_1_76 : Jvm.Cond.lays "ReadAloud$Sheet" "ReadAloud$Sheet" "size" "I" ∈ aWd := aWd_1 (List.mem_of_getElem? (i := 76) rfl) rfl
theorem wd_1_79 : Jvm.Cond.classLink "ReadAloud$State" (18 : Nat) "ReadAloud$Heard" ∈ aWd := aWd_1 (List.mem_of_getElem? (i := 79) rfl) rfl
theorem wd_1_80 : Jvm.Cond.instantiable "ReadAloud$Heard" (3 : Nat) ∈ aWd := aWd_1 (List.mem_of_getElem? (i := 80) rfl) rfl
theorem wd_1_82 : Jvm.Cond.instanceMethod ({ cls := "ReadAloud$Heard", name := "<init>", desc := "()V" } : Jvm.MethodName) ∈ aWd := aWd_1 (List.mem_of_getElem? (i := 82) rfl) rfl
theorem wd_1_83 : Jvm.Cond.code ({ cls := "ReadAloud$Heard", name := "<init>", desc := "()V" } : Jvm.MethodName) prog_5_method_1_code (1 : Nat) (Option.none : Option Jvm.ClassFile.FieldType) ∈ aWd := aWd_1 (List.mem_of_getElem? (i := 83) rfl) rfl
theorem wd_1_84 : Jvm.Cond.methodLink "ReadAloud$Heard" (3 : Nat) ({ cls := "java/lang/Object", name := "<init>", desc := "()V" } : Jvm.MethodName) ∈ aWd := aWd_1 (List.mem_of_getElem? (i := 84) rfl) rfl
theorem wd_1_85 : Jvm.Cond.fieldLink "ReadAloud$Heard" (9 : Nat) "ReadAloud$Heard" "whom" "[I" ∈ aWd := aWd_1 (List.mem_of_getElem? (i := 85) rfl) rfl
theorem wd_1_86 : Jvm.Cond.fieldLink "ReadAloud$Heard" (15 : Nat) "ReadAloud$Heard" "deeds" "[I" ∈ aWd := aWd_1 (List.mem_of_getElem? (i := 86) rfl) rfl
theorem wd_1_87 : Jvm.Cond.fieldLink "ReadAloud$Heard" (18 : Nat) "ReadAloud$Heard" "size" "I" ∈ aWd := aWd_1 (List.mem_of_getElem? (i := 87) rfl) rfl
theorem wd_1_88 : Jvm.Cond.laysFinal "ReadAloud$Heard" "ReadAloud$Heard" "whom" "[I" ∈ aWd := aWd_1 (List.mem_of_getElem? (i := 88) rfl) rfl
theorem wd_1_90 : Jvm.Cond.laysFinal "ReadAloud$Heard" "ReadAloud$Heard" "deeds" "[I" ∈ aWd := aWd_1 (List.mem_of_getElem? (i := 90) rfl) rfl
theorem wd_1_92 : Jvm.Cond.lays "ReadAloud$Heard" "ReadAloud$Heard" "size" "I" ∈ aWd := aWd_1 (List.mem_of_getElem? (i := 92) rfl) rfl
theorem wd_1_95 : Jvm.Cond.fieldLink "ReadAloud$State" (12 : Nat) "ReadAloud$State" "sheet" "LReadAloud$Sheet;" ∈ aWd := aWd_1 (List.mem_of_getElem? (i := 95) rfl) rfl
theorem wd_1_96 : Jvm.Cond.fieldLink "ReadAloud" (79 : Nat) "ReadAloud$State" "sheet" "LReadAloud$Sheet;" ∈ aWd := aWd_1 (List.mem_of_getElem? (i := 96) rfl) rfl
theorem wd_1_97 : Jvm.Cond.fieldLink "ReadAloud$State" (21 : Nat) "ReadAloud$State" "heard" "LReadAloud$Heard;" ∈ aWd := aWd_1 (List.mem_of_getElem? (i := 97) rfl) rfl
theorem wd_1_98 : Jvm.Cond.fieldLink "ReadAloud" (140 : Nat) "ReadAloud$State" "heard" "LReadAloud$Heard;" ∈ aWd := aWd_1 (List.mem_of_getElem? (i := 98) rfl) rfl
theorem wd_1_99 : Jvm.Cond.fieldLink "ReadAloud$State" (25 : Nat) "ReadAloud$State" "hidden" "[I" ∈ aWd := aWd_1 (List.mem_of_getElem? (i := 99) rfl) rfl
theorem wd_1_100 : Jvm.Cond.fieldLink "ReadAloud" (115 : Nat) "ReadAloud$State" "hidden" "[I" ∈ aWd := aWd_1 (List.mem_of_getElem? (i := 100) rfl) rfl
theorem wd_1_101 : Jvm.Cond.fieldLink "ReadAloud$State" (33 : Nat) "ReadAloud$State" "limit" "I" ∈ aWd := aWd_1 (List.mem_of_getElem? (i := 101) rfl) rfl
theorem wd_1_102 : Jvm.Cond.fieldLink "ReadAloud" (103 : Nat) "ReadAloud$State" "limit" "I" ∈ aWd := aWd_1 (List.mem_of_getElem? (i := 102) rfl) rfl
theorem wd_1_103 : Jvm.Cond.fieldLink "ReadAloud$State" (37 : Nat) "ReadAloud$State" "men" "I" ∈ aWd := aWd_1 (List.mem_of_getElem? (i := 103) rfl) rfl
theorem wd_1_104 : Jvm.Cond.fieldLink "ReadAloud" (109 : Nat) "ReadAloud$State" "men" "I" ∈ aWd := aWd_1 (List.mem_of_getElem? (i := 104) rfl) rfl
theorem wd_1_105 : Jvm.Cond.fieldLink "ReadAloud$State" (40 : Nat) "ReadAloud$State" "changes" "I" ∈ aWd := aWd_1 (List.mem_of_getElem? (i := 105) rfl) rfl
theorem wd_1_106 : Jvm.Cond.fieldLink "ReadAloud" (100 : Nat) "ReadAloud$State" "changes" "I" ∈ aWd := aWd_1 (List.mem_of_getElem? (i := 106) rfl) rfl
theorem wd_1_107 : Jvm.Cond.laysFinal "ReadAloud$State" "ReadAloud$State" "sheet" "LReadAloud$Sheet;" ∈ aWd := aWd_1 (List.mem_of_getElem? (i := 107) rfl) rfl
theorem wd_1_109 : Jvm.Cond.laysFinal "ReadAloud$State" "ReadAloud$State" "heard" "LReadAloud$Heard;" ∈ aWd := aWd_1 (List.mem_of_getElem? (i := 109) rfl) rfl
theorem wd_1_111 : Jvm.Cond.laysFinal "ReadAloud$State" "ReadAloud$State" "hidden" "[I" ∈ aWd := aWd_1 (List.mem_of_getElem? (i := 111) rfl) rfl
theorem wd_1_113 : Jvm.Cond.lays "ReadAloud$State" "ReadAloud$State" "limit" "I" ∈ aWd := aWd_1 (List.mem_of_getElem? (i := 113) rfl) rfl
theorem wd_1_115 : Jvm.Cond.lays "ReadAloud$State" "ReadAloud$State" "men" "I" ∈ aWd := aWd_1 (List.mem_of_getElem? (i := 115) rfl) rfl
theorem wd_1_117 : Jvm.Cond.lays "ReadAloud$State" "ReadAloud$State" "changes" "I" ∈ aWd := aWd_1 (List.mem_of_getElem? (i := 117) rfl) rfl
theorem wd_1_120 : Jvm.Cond.classLink "ReadAloud" (36 : Nat) "ReadAloud$Sheet" ∈ aWd := aWd_1 (List.mem_of_getElem? (i := 120) rfl) rfl
theorem wd_1_122 : Jvm.Cond.classLink "ReadAloud" (43 : Nat) "ReadAloud$Brief" ∈ aWd := aWd_1 (List.mem_of_getElem? (i := 122) rfl) rfl
theorem wd_1_123 : Jvm.Cond.instantiable "ReadAloud$Brief" (3 : Nat) ∈ aWd := aWd_1 (List.mem_of_getElem? (i := 123) rfl) rfl
theorem wd_1_125 : Jvm.Cond.instanceMethod ({ cls := "ReadAloud$Brief", name := "<init>", desc := "()V" } : Jvm.MethodName) ∈ aWd := aWd_1 (List.mem_of_getElem? (i := 125) rfl) rfl
theorem wd_1_126 : Jvm.Cond.code ({ cls := "ReadAloud$Brief", name := "<init>", desc := "()V" } : Jvm.MethodName) prog_4_method_1_code (1 : Nat) (Option.none : Option Jvm.ClassFile.FieldType) ∈ aWd := aWd_1 (List.mem_of_getElem? (i := 126) rfl) rfl
theorem wd_1_127 : Jvm.Cond.methodLink "ReadAloud$Brief" (3 : Nat) ({ cls := "java/lang/Object", name := "<init>", desc := "()V" } : Jvm.MethodName) ∈ aWd := aWd_1 (List.mem_of_getElem? (i := 127) rfl) rfl
theorem wd_1_128 : Jvm.Cond.fieldLink "ReadAloud$Brief" (9 : Nat) "ReadAloud$Brief" "pairsTold" "[I" ∈ aWd := aWd_1 (List.mem_of_getElem? (i := 128) rfl) rfl
theorem wd_1_129 : Jvm.Cond.fieldLink "ReadAloud$Brief" (15 : Nat) "ReadAloud$Brief" "words" "[I" ∈ aWd := aWd_1 (List.mem_of_getElem? (i := 129) rfl) rfl
theorem wd_1_130 : Jvm.Cond.fieldLink "ReadAloud$Brief" (18 : Nat) "ReadAloud$Brief" "size" "I" ∈ aWd := aWd_1 (List.mem_of_getElem? (i := 130) rfl) rfl
theorem wd_1_131 : Jvm.Cond.laysFinal "ReadAloud$Brief" "ReadAloud$Brief" "pairsTold" "[I" ∈ aWd := aWd_1 (List.mem_of_getElem? (i := 131) rfl) rfl
theorem wd_1_133 : Jvm.Cond.laysFinal "ReadAloud$Brief" "ReadAloud$Brief" "words" "[I" ∈ aWd := aWd_1 (List.mem_of_getElem? (i := 133) rfl) rfl
theorem wd_1_135 : Jvm.Cond.lays "ReadAloud$Brief" "ReadAloud$Brief" "size" "I" ∈ aWd := aWd_1 (List.mem_of_getElem? (i := 135) rfl) rfl
theorem wd_1_138 : Jvm.Cond.fieldLink "ReadAloud" (10 : Nat) "ReadAloud" "page" "LReadAloud$Page;" ∈ aWd := aWd_1 (List.mem_of_getElem? (i := 138) rfl) rfl
theorem wd_1_139 : Jvm.Cond.fieldLink "ReadAloud" (16 : Nat) "ReadAloud" "near" "[I" ∈ aWd := aWd_1 (List.mem_of_getElem? (i := 139) rfl) rfl
theorem wd_1_140 : Jvm.Cond.fieldLink "ReadAloud" (22 : Nat) "ReadAloud" "men" "[LReadAloud$Man;" ∈ aWd := aWd_1 (List.mem_of_getElem? (i := 140) rfl) rfl
theorem wd_1_141 : Jvm.Cond.fieldLink "ReadAloud" (29 : Nat) "ReadAloud" "now" "LReadAloud$State;" ∈ aWd := aWd_1 (List.mem_of_getElem? (i := 141) rfl) rfl
theorem wd_1_142 : Jvm.Cond.fieldLink "ReadAloud" (33 : Nat) "ReadAloud" "kept" "LReadAloud$State;" ∈ aWd := aWd_1 (List.mem_of_getElem? (i := 142) rfl) rfl
theorem wd_1_143 : Jvm.Cond.fieldLink "ReadAloud" (39 : Nat) "ReadAloud" "drawn" "LReadAloud$Sheet;" ∈ aWd := aWd_1 (List.mem_of_getElem? (i := 143) rfl) rfl
theorem wd_1_144 : Jvm.Cond.fieldLink "ReadAloud" (46 : Nat) "ReadAloud" "shortest" "LReadAloud$Brief;" ∈ aWd := aWd_1 (List.mem_of_getElem? (i := 144) rfl) rfl
theorem wd_1_145 : Jvm.Cond.fieldLink "ReadAloud" (71 : Nat) "ReadAloud" "imageKept" "Z" ∈ aWd := aWd_1 (List.mem_of_getElem? (i := 145) rfl) rfl
theorem wd_1_146 : Jvm.Cond.fieldLink "ReadAloud" (75 : Nat) "ReadAloud" "courtsRead" "I" ∈ aWd := aWd_1 (List.mem_of_getElem? (i := 146) rfl) rfl
theorem wd_1_147 : Jvm.Cond.fieldLink "ReadAloud" (159 : Nat) "ReadAloud" "briefsDone" "I" ∈ aWd := aWd_1 (List.mem_of_getElem? (i := 147) rfl) rfl
theorem wd_1_148 : Jvm.Cond.laysFinal "ReadAloud" "ReadAloud" "page" "LReadAloud$Page;" ∈ aWd := aWd_1 (List.mem_of_getElem? (i := 148) rfl) rfl
theorem wd_1_150 : Jvm.Cond.laysFinal "ReadAloud" "ReadAloud" "near" "[I" ∈ aWd := aWd_1 (List.mem_of_getElem? (i := 150) rfl) rfl
theorem wd_1_152 : Jvm.Cond.laysFinal "ReadAloud" "ReadAloud" "men" "[LReadAloud$Man;" ∈ aWd := aWd_1 (List.mem_of_getElem? (i := 152) rfl) rfl
theorem wd_1_154 : Jvm.Cond.laysFinal "ReadAloud" "ReadAloud" "now" "LReadAloud$State;" ∈ aWd := aWd_1 (List.mem_of_getElem? (i := 154) rfl) rfl
theorem wd_1_156 : Jvm.Cond.laysFinal "ReadAloud" "ReadAloud" "kept" "LReadAloud$State;" ∈ aWd := aWd_1 (List.mem_of_getElem? (i := 156) rfl) rfl
theorem wd_1_158 : Jvm.Cond.laysFinal "ReadAloud" "ReadAloud" "drawn" "LReadAloud$Sheet;" ∈ aWd := aWd_1 (List.mem_of_getElem? (i := 158) rfl) rfl
theorem wd_1_160 : Jvm.Cond.laysFinal "ReadAloud" "ReadAloud" "shortest" "LReadAloud$Brief;" ∈ aWd := aWd_1 (List.mem_of_getElem? (i := 160) rfl) rfl
theorem wd_1_162 : Jvm.Cond.lays "ReadAloud" "ReadAloud" "imageKept" "Z" ∈ aWd := aWd_1 (List.mem_of_getElem? (i := 162) rfl) rfl
theorem wd_1_164 : Jvm.Cond.lays "ReadAloud" "ReadAloud" "courtsRead" "I" ∈ aWd := aWd_1 (List.mem_of_getElem? (i := 164) rfl) rfl
theorem wd_1_166 : Jvm.Cond.lays "ReadAloud" "ReadAloud" "briefsDone" "I" ∈ aWd := aWd_1 (List.mem_of_getElem? (i := 166) rfl) rfl
theorem wd_1_169 : Jvm.Cond.methodLink "ReadAloudLaw" (13 : Nat) ({ cls := "ReadAloud", name := "letter", desc := "(I)I" } : Jvm.MethodName) ∈ aWd := aWd_1 (List.mem_of_getElem? (i := 169) rfl) rfl
theorem wd_1_170 : Jvm.Cond.instanceMethod ({ cls := "ReadAloud", name := "letter", desc := "(I)I" } : Jvm.MethodName) ∈ aWd := aWd_1 (List.mem_of_getElem? (i := 170) rfl) rfl
theorem wd_1_171 : Jvm.Cond.selects "ReadAloud" ({ cls := "ReadAloud", name := "letter", desc := "(I)I" } : Jvm.MethodName) ({ cls := "ReadAloud", name := "letter", desc := "(I)I" } : Jvm.MethodName) ∈ aWd := aWd_1 (List.mem_of_getElem? (i := 171) rfl) rfl
theorem wd_1_172 : Jvm.Cond.code ({ cls := "ReadAloud", name := "letter", desc := "(I)I" } : Jvm.MethodName) prog_1_method_2_code (2 : Nat) (Option.some Jvm.ClassFile.FieldType.int) ∈ aWd := aWd_1 (List.mem_of_getElem? (i := 172) rfl) rfl
theorem wd_1_173 : Jvm.Cond.methodLink "ReadAloud" (50 : Nat) ({ cls := "ReadAloud$Page", name := "add", desc := "(I)Z" } : Jvm.MethodName) ∈ aWd := aWd_1 (List.mem_of_getElem? (i := 173) rfl) rfl
theorem wd_1_174 : Jvm.Cond.instanceMethod ({ cls := "ReadAloud$Page", name := "add", desc := "(I)Z" } : Jvm.MethodName) ∈ aWd := aWd_1 (List.mem_of_getElem? (i := 174) rfl) rfl
theorem wd_1_175 : Jvm.Cond.selects "ReadAloud$Page" ({ cls := "ReadAloud$Page", name := "add", desc := "(I)Z" } : Jvm.MethodName) ({ cls := "ReadAloud$Page", name := "add", desc := "(I)Z" } : Jvm.MethodName) ∈ aWd := aWd_1 (List.mem_of_getElem? (i := 175) rfl) rfl
theorem wd_1_176 : Jvm.Cond.code ({ cls := "ReadAloud$Page", name := "add", desc := "(I)Z" } : Jvm.MethodName) prog_7_method_4_code (2 : Nat) (Option.some Jvm.ClassFile.FieldType.boolean) ∈ aWd := aWd_1 (List.mem_of_getElem? (i := 176) rfl) rfl
theorem wd_1_177 : Jvm.Cond.methodLink "ReadAloud" (54 : Nat) ({ cls := "ReadAloud$Page", name := "size", desc := "()I" } : Jvm.MethodName) ∈ aWd := aWd_1 (List.mem_of_getElem? (i := 177) rfl) rfl
theorem wd_1_178 : Jvm.Cond.instanceMethod ({ cls := "ReadAloud$Page", name := "size", desc := "()I" } : Jvm.MethodName) ∈ aWd := aWd_1 (List.mem_of_getElem? (i := 178) rfl) rfl
theorem wd_1_179 : Jvm.Cond.selects "ReadAloud$Page" ({ cls := "ReadAloud$Page", name := "size", desc := "()I" } : Jvm.MethodName) ({ cls := "ReadAloud$Page", name := "size", desc := "()I" } : Jvm.MethodName) ∈ aWd := aWd_1 (List.mem_of_getElem? (i := 179) rfl) rfl
theorem wd_1_180 : Jvm.Cond.code ({ cls := "ReadAloud$Page", name := "size", desc := "()I" } : Jvm.MethodName) prog_7_method_2_code (1 : Nat) (Option.some Jvm.ClassFile.FieldType.int) ∈ aWd := aWd_1 (List.mem_of_getElem? (i := 180) rfl) rfl
theorem wd_1_181 : Jvm.Cond.methodLink "ReadAloudLaw" (18 : Nat) ({ cls := "ReadAloud", name := "blank", desc := "()I" } : Jvm.MethodName) ∈ aWd := aWd_1 (List.mem_of_getElem? (i := 181) rfl) rfl
theorem wd_1_182 : Jvm.Cond.instanceMethod ({ cls := "ReadAloud", name := "blank", desc := "()I" } : Jvm.MethodName) ∈ aWd := aWd_1 (List.mem_of_getElem? (i := 182) rfl) rfl
theorem wd_1_183 : Jvm.Cond.selects "ReadAloud" ({ cls := "ReadAloud", name := "blank", desc := "()I" } : Jvm.MethodName) ({ cls := "ReadAloud", name := "blank", desc := "()I" } : Jvm.MethodName) ∈ aWd := aWd_1 (List.mem_of_getElem? (i := 183) rfl) rfl
theorem wd_1_184 : Jvm.Cond.code ({ cls := "ReadAloud", name := "blank", desc := "()I" } : Jvm.MethodName) prog_1_method_3_code (2 : Nat) (Option.some Jvm.ClassFile.FieldType.int) ∈ aWd := aWd_1 (List.mem_of_getElem? (i := 184) rfl) rfl
theorem wd_1_185 : Jvm.Cond.methodLink "ReadAloud" (58 : Nat) ({ cls := "ReadAloud$Page", name := "clear", desc := "()V" } : Jvm.MethodName) ∈ aWd := aWd_1 (List.mem_of_getElem? (i := 185) rfl) rfl
theorem wd_1_186 : Jvm.Cond.instanceMethod ({ cls := "ReadAloud$Page", name := "clear", desc := "()V" } : Jvm.MethodName) ∈ aWd := aWd_1 (List.mem_of_getElem? (i := 186) rfl) rfl
theorem wd_1_187 : Jvm.Cond.selects "ReadAloud$Page" ({ cls := "ReadAloud$Page", name := "clear", desc := "()V" } : Jvm.MethodName) ({ cls := "ReadAloud$Page", name := "clear", desc := "()V" } : Jvm.MethodName) ∈ aWd := aWd_1 (List.mem_of_getElem? (i := 187) rfl) rfl
theorem wd_1_188 : Jvm.Cond.code ({ cls := "ReadAloud$Page", name := "clear", desc := "()V" } : Jvm.MethodName) prog_7_method_5_code (1 : Nat) (Option.none : Option Jvm.ClassFile.FieldType) ∈ aWd := aWd_1 (List.mem_of_getElem? (i := 188) rfl) rfl
theorem wd_1_189 : Jvm.Cond.methodLink "ReadAloudLaw" (23 : Nat) ({ cls := "ReadAloud", name := "fault", desc := "()I" } : Jvm.MethodName) ∈ aWd := aWd_1 (List.mem_of_getElem? (i := 189) rfl) rfl
theorem wd_1_190 : Jvm.Cond.instanceMethod ({ cls := "ReadAloud", name := "fault", desc := "()I" } : Jvm.MethodName) ∈ aWd := aWd_1 (List.mem_of_getElem? (i := 190) rfl) rfl
theorem wd_1_191 : Jvm.Cond.selects "ReadAloud" ({ cls := "ReadAloud", name := "fault", desc := "()I" } : Jvm.MethodName) ({ cls := "ReadAloud", name := "fault", desc := "()I" } : Jvm.MethodName) ∈ aWd := aWd_1 (List.mem_of_getElem? (i := 191) rfl) rfl
theorem wd_1_192 : Jvm.Cond.code ({ cls := "ReadAloud", name := "fault", desc := "()I" } : Jvm.MethodName) prog_1_method_4_code (1 : Nat) (Option.some Jvm.ClassFile.FieldType.int) ∈ aWd := aWd_1 (List.mem_of_getElem? (i := 192) rfl) rfl
theorem wd_1_193 : Jvm.Cond.methodLink "ReadAloud" (61 : Nat) ({ cls := "ReadAloud$Page", name := "faultPlace", desc := "()I" } : Jvm.MethodName) ∈ aWd := aWd_1 (List.mem_of_getElem? (i := 193) rfl) rfl
theorem wd_1_194 : Jvm.Cond.instanceMethod ({ cls := "ReadAloud$Page", name := "faultPlace", desc := "()I" } : Jvm.MethodName) ∈ aWd := aWd_1 (List.mem_of_getElem? (i := 194) rfl) rfl
theorem wd_1_195 : Jvm.Cond.selects "ReadAloud$Page" ({ cls := "ReadAloud$Page", name := "faultPlace", desc := "()I" } : Jvm.MethodName) ({ cls := "ReadAloud$Page", name := "faultPlace", desc := "()I" } : Jvm.MethodName) ∈ aWd := aWd_1 (List.mem_of_getElem? (i := 195) rfl) rfl
theorem wd_1_196 : Jvm.Cond.code ({ cls := "ReadAloud$Page", name := "faultPlace", desc := "()I" } : Jvm.MethodName) prog_7_method_6_code (2 : Nat) (Option.some Jvm.ClassFile.FieldType.int) ∈ aWd := aWd_1 (List.mem_of_getElem? (i := 196) rfl) rfl
theorem wd_1_197 : Jvm.Cond.methodLink "ReadAloud$Page" (26 : Nat) ({ cls := "ReadAloud$Walk", name := "begin", desc := "()V" } : Jvm.MethodName) ∈ aWd := aWd_1 (List.mem_of_getElem? (i := 197) rfl) rfl
theorem wd_1_198 : Jvm.Cond.instanceMethod ({ cls := "ReadAloud$Walk", name := "begin", desc := "()V" } : Jvm.MethodName) ∈ aWd := aWd_1 (List.mem_of_getElem? (i := 198) rfl) rfl
theorem wd_1_199 : Jvm.Cond.selects "ReadAloud$Walk" ({ cls := "ReadAloud$Walk", name := "begin", desc := "()V" } : Jvm.MethodName) ({ cls := "ReadAloud$Walk", name := "begin", desc := "()V" } : Jvm.MethodName) ∈ aWd := aWd_1 (List.mem_of_getElem? (i := 199) rfl) rfl
theorem wd_1_200 : Jvm.Cond.code ({ cls := "ReadAloud$Walk", name := "begin", desc := "()V" } : Jvm.MethodName) prog_11_method_2_code (1 : Nat) (Option.none : Option Jvm.ClassFile.FieldType) ∈ aWd := aWd_1 (List.mem_of_getElem? (i := 200) rfl) rfl
theorem wd_1_201 : Jvm.Cond.methodLink "ReadAloud$Walk" (9 : Nat) ({ cls := "ReadAloud$Walk", name := "enter", desc := "(I)V" } : Jvm.MethodName) ∈ aWd := aWd_1 (List.mem_of_getElem? (i := 201) rfl) rfl
theorem wd_1_203 : Jvm.Cond.instanceMethod ({ cls := "ReadAloud$Walk", name := "enter", desc := "(I)V" } : Jvm.MethodName) ∈ aWd := aWd_1 (List.mem_of_getElem? (i := 203) rfl) rfl
theorem wd_1_204 : Jvm.Cond.code ({ cls := "ReadAloud$Walk", name := "enter", desc := "(I)V" } : Jvm.MethodName) prog_11_method_5_code (2 : Nat) (Option.none : Option Jvm.ClassFile.FieldType) ∈ aWd := aWd_1 (List.mem_of_getElem? (i := 204) rfl) rfl
theorem wd_1_205 : Jvm.Cond.methodLink "ReadAloud$Page" (29 : Nat) ({ cls := "ReadAloud$Walk", name := "passes", desc := "(I)Z" } : Jvm.MethodName) ∈ aWd := aWd_1 (List.mem_of_getElem? (i := 205) rfl) rfl
theorem wd_1_206 : Jvm.Cond.instanceMethod ({ cls := "ReadAloud$Walk", name := "passes", desc := "(I)Z" } : Jvm.MethodName) ∈ aWd := aWd_1 (List.mem_of_getElem? (i := 206) rfl) rfl
theorem wd_1_207 : Jvm.Cond.selects "ReadAloud$Walk" ({ cls := "ReadAloud$Walk", name := "passes", desc := "(I)Z" } : Jvm.MethodName) ({ cls := "ReadAloud$Walk", name := "passes", desc := "(I)Z" } : Jvm.MethodName) ∈ aWd := aWd_1 (List.mem_of_getElem? (i := 207) rfl) rfl
theorem wd_1_208 : Jvm.Cond.code ({ cls := "ReadAloud$Walk", name := "passes", desc := "(I)Z" } : Jvm.MethodName) prog_11_method_3_code (3 : Nat) (Option.some Jvm.ClassFile.FieldType.boolean) ∈ aWd := aWd_1 (List.mem_of_getElem? (i := 208) rfl) rfl
theorem wd_1_210 : Jvm.Cond.static ({ cls := "ReadAloud", name := "isWord", desc := "(I)Z" } : Jvm.MethodName) ∈ aWd := aWd_1 (List.mem_of_getElem? (i := 210) rfl) rfl
theorem wd_1_211 : Jvm.Cond.code ({ cls := "ReadAloud", name := "isWord", desc := "(I)Z" } : Jvm.MethodName) prog_1_method_26_code (1 : Nat) (Option.some Jvm.ClassFile.FieldType.boolean) ∈ aWd := aWd_1 (List.mem_of_getElem? (i := 211) rfl) rfl
theorem wd_1_212 : Jvm.Cond.methodLink "ReadAloud$Walk" (19 : Nat) ({ cls := "ReadAloud$Walk", name := "passesWord", desc := "(I)Z" } : Jvm.MethodName) ∈ aWd := aWd_1 (List.mem_of_getElem? (i := 212) rfl) rfl
theorem wd_1_214 : Jvm.Cond.instanceMethod ({ cls := "ReadAloud$Walk", name := "passesWord", desc := "(I)Z" } : Jvm.MethodName) ∈ aWd := aWd_1 (List.mem_of_getElem? (i := 214) rfl) rfl
theorem wd_1_215 : Jvm.Cond.code ({ cls := "ReadAloud$Walk", name := "passesWord", desc := "(I)Z" } : Jvm.MethodName) prog_11_method_6_code (3 : Nat) (Option.some Jvm.ClassFile.FieldType.boolean) ∈ aWd := aWd_1 (List.mem_of_getElem? (i := 215) rfl) rfl
theorem wd_1_216 : Jvm.Cond.methodLink "ReadAloudLaw" (27 : Nat) ({ cls := "ReadAloud", name := "court", desc := "()I" } : Jvm.MethodName) ∈ aWd := aWd_1 (List.mem_of_getElem? (i := 216) rfl) rfl
theorem wd_1_217 : Jvm.Cond.instanceMethod ({ cls := "ReadAloud", name := "court", desc := "()I" } : Jvm.MethodName) ∈ aWd := aWd_1 (List.mem_of_getElem? (i := 217) rfl) rfl
theorem wd_1_218 : Jvm.Cond.selects "ReadAloud" ({ cls := "ReadAloud", name := "court", desc := "()I" } : Jvm.MethodName) ({ cls := "ReadAloud", name := "court", desc := "()I" } : Jvm.MethodName) ∈ aWd := aWd_1 (List.mem_of_getElem? (i := 218) rfl) rfl
theorem wd_1_219 : Jvm.Cond.code ({ cls := "ReadAloud", name := "court", desc := "()I" } : Jvm.MethodName) prog_1_method_5_code (1 : Nat) (Option.some Jvm.ClassFile.FieldType.int) ∈ aWd := aWd_1 (List.mem_of_getElem? (i := 219) rfl) rfl
theorem wd_1_220 : Jvm.Cond.methodLink "ReadAloud" (64 : Nat) ({ cls := "ReadAloud$Page", name := "isCourt", desc := "()Z" } : Jvm.MethodName) ∈ aWd := aWd_1 (List.mem_of_getElem? (i := 220) rfl) rfl
theorem wd_1_221 : Jvm.Cond.instanceMethod ({ cls := "ReadAloud$Page", name := "isCourt", desc := "()Z" } : Jvm.MethodName) ∈ aWd := aWd_1 (List.mem_of_getElem? (i := 221) rfl) rfl
theorem wd_1_222 : Jvm.Cond.selects "ReadAloud$Page" ({ cls := "ReadAloud$Page", name := "isCourt", desc := "()Z" } : Jvm.MethodName) ({ cls := "ReadAloud$Page", name := "isCourt", desc := "()Z" } : Jvm.MethodName) ∈ aWd := aWd_1 (List.mem_of_getElem? (i := 222) rfl) rfl
theorem wd_1_223 : Jvm.Cond.code ({ cls := "ReadAloud$Page", name := "isCourt", desc := "()Z" } : Jvm.MethodName) prog_7_method_7_code (1 : Nat) (Option.some Jvm.ClassFile.FieldType.boolean) ∈ aWd := aWd_1 (List.mem_of_getElem? (i := 223) rfl) rfl
theorem wd_1_224 : Jvm.Cond.methodLink "ReadAloud$Page" (33 : Nat) ({ cls := "ReadAloud$Page", name := "faultPlace", desc := "()I" } : Jvm.MethodName) ∈ aWd := aWd_1 (List.mem_of_getElem? (i := 224) rfl) rfl
theorem wd_1_225 : Jvm.Cond.methodLink "ReadAloud$Page" (37 : Nat) ({ cls := "ReadAloud$Walk", name := "isWhole", desc := "()Z" } : Jvm.MethodName) ∈ aWd := aWd_1 (List.mem_of_getElem? (i := 225) rfl) rfl
theorem wd_1_226 : Jvm.Cond.instanceMethod ({ cls := "ReadAloud$Walk", name := "isWhole", desc := "()Z" } : Jvm.MethodName) ∈ aWd := aWd_1 (List.mem_of_getElem? (i := 226) rfl) rfl
theorem wd_1_227 : Jvm.Cond.selects "ReadAloud$Walk" ({ cls := "ReadAloud$Walk", name := "isWhole", desc := "()Z" } : Jvm.MethodName) ({ cls := "ReadAloud$Walk", name := "isWhole", desc := "()Z" } : Jvm.MethodName) ∈ aWd := aWd_1 (List.mem_of_getElem? (i := 227) rfl) rfl
theorem wd_1_228 : Jvm.Cond.code ({ cls := "ReadAloud$Walk", name := "isWhole", desc := "()Z" } : Jvm.MethodName) prog_11_method_4_code (1 : Nat) (Option.some Jvm.ClassFile.FieldType.boolean) ∈ aWd := aWd_1 (List.mem_of_getElem? (i := 228) rfl) rfl
theorem wd_1_229 : Jvm.Cond.methodLink "ReadAloud" (68 : Nat) ({ cls := "ReadAloud", name := "readCourt", desc := "()V" } : Jvm.MethodName) ∈ aWd := aWd_1 (List.mem_of_getElem? (i := 229) rfl) rfl
theorem wd_1_231 : Jvm.Cond.instanceMethod ({ cls := "ReadAloud", name := "readCourt", desc := "()V" } : Jvm.MethodName) ∈ aWd := aWd_1 (List.mem_of_getElem? (i := 231) rfl) rfl
theorem wd_1_232 : Jvm.Cond.code ({ cls := "ReadAloud", name := "readCourt", desc := "()V" } : Jvm.MethodName) prog_1_method_33_code (4 : Nat) (Option.none : Option Jvm.ClassFile.FieldType) ∈ aWd := aWd_1 (List.mem_of_getElem? (i := 232) rfl) rfl
theorem wd_1_233 : Jvm.Cond.methodLink "ReadAloud" (241 : Nat) ({ cls := "ReadAloud$State", name := "begin", desc := "()V" } : Jvm.MethodName) ∈ aWd := aWd_1 (List.mem_of_getElem? (i := 233) rfl) rfl
theorem wd_1_234 : Jvm.Cond.instanceMethod ({ cls := "ReadAloud$State", name := "begin", desc := "()V" } : Jvm.MethodName) ∈ aWd := aWd_1 (List.mem_of_getElem? (i := 234) rfl) rfl
theorem wd_1_235 : Jvm.Cond.selects "ReadAloud$State" ({ cls := "ReadAloud$State", name := "begin", desc := "()V" } : Jvm.MethodName) ({ cls := "ReadAloud$State", name := "begin", desc := "()V" } : Jvm.MethodName) ∈ aWd := aWd_1 (List.mem_of_getElem? (i := 235) rfl) rfl
theorem wd_1_236 : Jvm.Cond.code ({ cls := "ReadAloud$State", name := "begin", desc := "()V" } : Jvm.MethodName) prog_10_method_2_code (1 : Nat) (Option.none : Option Jvm.ClassFile.FieldType) ∈ aWd := aWd_1 (List.mem_of_getElem? (i := 236) rfl) rfl
theorem wd_1_237 : Jvm.Cond.methodLink "ReadAloud$State" (29 : Nat) ({ cls := "ReadAloud$Sheet", name := "clear", desc := "()V" } : Jvm.MethodName) ∈ aWd := aWd_1 (List.mem_of_getElem? (i := 237) rfl) rfl
theorem wd_1_238 : Jvm.Cond.instanceMethod ({ cls := "ReadAloud$Sheet", name := "clear", desc := "()V" } : Jvm.MethodName) ∈ aWd := aWd_1 (List.mem_of_getElem? (i := 238) rfl) rfl
theorem wd_1_239 : Jvm.Cond.selects "ReadAloud$Sheet" ({ cls := "ReadAloud$Sheet", name := "clear", desc := "()V" } : Jvm.MethodName) ({ cls := "ReadAloud$Sheet", name := "clear", desc := "()V" } : Jvm.MethodName) ∈ aWd := aWd_1 (List.mem_of_getElem? (i := 239) rfl) rfl
theorem wd_2_0 : Jvm.Cond.code ({ cls := "ReadAloud$Sheet", name := "clear", desc := "()V" } : Jvm.MethodName) prog_8_method_7_code (1 : Nat) (Option.none : Option Jvm.ClassFile.FieldType) ∈ aWd := aWd_2 (List.mem_of_getElem? (i := 0) rfl) rfl
theorem wd_2_1 : Jvm.Cond.methodLink "ReadAloud$State" (32 : Nat) ({ cls := "ReadAloud$Heard", name := "clear", desc := "()V" } : Jvm.MethodName) ∈ aWd := aWd_2 (List.mem_of_getElem? (i := 1) rfl) rfl
theorem wd_2_2 : Jvm.Cond.instanceMethod ({ cls := "ReadAloud$Heard", name := "clear", desc := "()V" } : Jvm.MethodName) ∈ aWd := aWd_2 (List.mem_of_getElem? (i := 2) rfl) rfl
theorem wd_2_3 : Jvm.Cond.selects "ReadAloud$Heard" ({ cls := "ReadAloud$Heard", name := "clear", desc := "()V" } : Jvm.MethodName) ({ cls := "ReadAloud$Heard", name := "clear", desc := "()V" } : Jvm.MethodName) ∈ aWd := aWd_2 (List.mem_of_getElem? (i := 3) rfl) rfl
theorem wd_2_4 : Jvm.Cond.code ({ cls := "ReadAloud$Heard", name := "clear", desc := "()V" } : Jvm.MethodName) prog_5_method_4_code (1 : Nat) (Option.none : Option Jvm.ClassFile.FieldType) ∈ aWd := aWd_2 (List.mem_of_getElem? (i := 4) rfl) rfl
theorem wd_2_5 : Jvm.Cond.methodLink "ReadAloud" (220 : Nat) ({ cls := "ReadAloud$Page", name := "codeAt", desc := "(I)I" } : Jvm.MethodName) ∈ aWd := aWd_2 (List.mem_of_getElem? (i := 5) rfl) rfl
theorem wd_2_6 : Jvm.Cond.instanceMethod ({ cls := "ReadAloud$Page", name := "codeAt", desc := "(I)I" } : Jvm.MethodName) ∈ aWd := aWd_2 (List.mem_of_getElem? (i := 6) rfl) rfl
theorem wd_2_7 : Jvm.Cond.selects "ReadAloud$Page" ({ cls := "ReadAloud$Page", name := "codeAt", desc := "(I)I" } : Jvm.MethodName) ({ cls := "ReadAloud$Page", name := "codeAt", desc := "(I)I" } : Jvm.MethodName) ∈ aWd := aWd_2 (List.mem_of_getElem? (i := 7) rfl) rfl
theorem wd_2_8 : Jvm.Cond.code ({ cls := "ReadAloud$Page", name := "codeAt", desc := "(I)I" } : Jvm.MethodName) prog_7_method_3_code (2 : Nat) (Option.some Jvm.ClassFile.FieldType.int) ∈ aWd := aWd_2 (List.mem_of_getElem? (i := 8) rfl) rfl
theorem wd_2_9 : Jvm.Cond.methodLink "ReadAloud" (93 : Nat) ({ cls := "ReadAloud", name := "isWord", desc := "(I)Z" } : Jvm.MethodName) ∈ aWd := aWd_2 (List.mem_of_getElem? (i := 9) rfl) rfl
theorem wd_2_10 : Jvm.Cond.methodLink "ReadAloud" (244 : Nat) ({ cls := "ReadAloud$Sheet", name := "add", desc := "(I)V" } : Jvm.MethodName) ∈ aWd := aWd_2 (List.mem_of_getElem? (i := 10) rfl) rfl
theorem wd_2_11 : Jvm.Cond.instanceMethod ({ cls := "ReadAloud$Sheet", name := "add", desc := "(I)V" } : Jvm.MethodName) ∈ aWd := aWd_2 (List.mem_of_getElem? (i := 11) rfl) rfl
theorem wd_2_12 : Jvm.Cond.selects "ReadAloud$Sheet" ({ cls := "ReadAloud$Sheet", name := "add", desc := "(I)V" } : Jvm.MethodName) ({ cls := "ReadAloud$Sheet", name := "add", desc := "(I)V" } : Jvm.MethodName) ∈ aWd := aWd_2 (List.mem_of_getElem? (i := 12) rfl) rfl
theorem wd_2_13 : Jvm.Cond.code ({ cls := "ReadAloud$Sheet", name := "add", desc := "(I)V" } : Jvm.MethodName) prog_8_method_6_code (2 : Nat) (Option.none : Option Jvm.ClassFile.FieldType) ∈ aWd := aWd_2 (List.mem_of_getElem? (i := 13) rfl) rfl
theorem wd_2_14 : Jvm.Cond.methodLink "ReadAloud" (82 : Nat) ({ cls := "ReadAloud$Sheet", name := "size", desc := "()I" } : Jvm.MethodName) ∈ aWd := aWd_2 (List.mem_of_getElem? (i := 14) rfl) rfl
theorem wd_2_15 : Jvm.Cond.instanceMethod ({ cls := "ReadAloud$Sheet", name := "size", desc := "()I" } : Jvm.MethodName) ∈ aWd := aWd_2 (List.mem_of_getElem? (i := 15) rfl) rfl
theorem wd_2_16 : Jvm.Cond.selects "ReadAloud$Sheet" ({ cls := "ReadAloud$Sheet", name := "size", desc := "()I" } : Jvm.MethodName) ({ cls := "ReadAloud$Sheet", name := "size", desc := "()I" } : Jvm.MethodName) ∈ aWd := aWd_2 (List.mem_of_getElem? (i := 16) rfl) rfl
theorem wd_2_17 : Jvm.Cond.code ({ cls := "ReadAloud$Sheet", name := "size", desc := "()I" } : Jvm.MethodName) prog_8_method_2_code (1 : Nat) (Option.some Jvm.ClassFile.FieldType.int) ∈ aWd := aWd_2 (List.mem_of_getElem? (i := 17) rfl) rfl
theorem wd_2_18 : Jvm.Cond.methodLink "ReadAloudLaw" (31 : Nat) ({ cls := "ReadAloud", name := "near", desc := "(I)I" } : Jvm.MethodName) ∈ aWd := aWd_2 (List.mem_of_getElem? (i := 18) rfl) rfl
theorem wd_2_19 : Jvm.Cond.instanceMethod ({ cls := "ReadAloud", name := "near", desc := "(I)I" } : Jvm.MethodName) ∈ aWd := aWd_2 (List.mem_of_getElem? (i := 19) rfl) rfl
theorem wd_2_20 : Jvm.Cond.selects "ReadAloud" ({ cls := "ReadAloud", name := "near", desc := "(I)I" } : Jvm.MethodName) ({ cls := "ReadAloud", name := "near", desc := "(I)I" } : Jvm.MethodName) ∈ aWd := aWd_2 (List.mem_of_getElem? (i := 20) rfl) rfl
theorem wd_2_21 : Jvm.Cond.code ({ cls := "ReadAloud", name := "near", desc := "(I)I" } : Jvm.MethodName) prog_1_method_6_code (2 : Nat) (Option.some Jvm.ClassFile.FieldType.int) ∈ aWd := aWd_2 (List.mem_of_getElem? (i := 21) rfl) rfl
theorem wd_2_22 : Jvm.Cond.methodLink "ReadAloud" (83 : Nat) ({ cls := "ReadAloud", name := "hasCourt", desc := "()Z" } : Jvm.MethodName) ∈ aWd := aWd_2 (List.mem_of_getElem? (i := 22) rfl) rfl
theorem wd_2_24 : Jvm.Cond.instanceMethod ({ cls := "ReadAloud", name := "hasCourt", desc := "()Z" } : Jvm.MethodName) ∈ aWd := aWd_2 (List.mem_of_getElem? (i := 24) rfl) rfl
theorem wd_2_25 : Jvm.Cond.code ({ cls := "ReadAloud", name := "hasCourt", desc := "()Z" } : Jvm.MethodName) prog_1_method_24_code (1 : Nat) (Option.some Jvm.ClassFile.FieldType.boolean) ∈ aWd := aWd_2 (List.mem_of_getElem? (i := 25) rfl) rfl
theorem wd_2_26 : Jvm.Cond.methodLink "ReadAloudLaw" (35 : Nat) ({ cls := "ReadAloud", name := "word", desc := "(I)I" } : Jvm.MethodName) ∈ aWd := aWd_2 (List.mem_of_getElem? (i := 26) rfl) rfl
theorem wd_2_27 : Jvm.Cond.instanceMethod ({ cls := "ReadAloud", name := "word", desc := "(I)I" } : Jvm.MethodName) ∈ aWd := aWd_2 (List.mem_of_getElem? (i := 27) rfl) rfl
theorem wd_2_28 : Jvm.Cond.selects "ReadAloud" ({ cls := "ReadAloud", name := "word", desc := "(I)I" } : Jvm.MethodName) ({ cls := "ReadAloud", name := "word", desc := "(I)I" } : Jvm.MethodName) ∈ aWd := aWd_2 (List.mem_of_getElem? (i := 28) rfl) rfl
theorem wd_2_29 : Jvm.Cond.code ({ cls := "ReadAloud", name := "word", desc := "(I)I" } : Jvm.MethodName) prog_1_method_7_code (2 : Nat) (Option.some Jvm.ClassFile.FieldType.int) ∈ aWd := aWd_2 (List.mem_of_getElem? (i := 29) rfl) rfl
theorem wd_2_30 : Jvm.Cond.methodLink "ReadAloud" (86 : Nat) ({ cls := "ReadAloud$Sheet", name := "has", desc := "(I)Z" } : Jvm.MethodName) ∈ aWd := aWd_2 (List.mem_of_getElem? (i := 30) rfl) rfl
theorem wd_2_31 : Jvm.Cond.instanceMethod ({ cls := "ReadAloud$Sheet", name := "has", desc := "(I)Z" } : Jvm.MethodName) ∈ aWd := aWd_2 (List.mem_of_getElem? (i := 31) rfl) rfl
theorem wd_2_32 : Jvm.Cond.selects "ReadAloud$Sheet" ({ cls := "ReadAloud$Sheet", name := "has", desc := "(I)Z" } : Jvm.MethodName) ({ cls := "ReadAloud$Sheet", name := "has", desc := "(I)Z" } : Jvm.MethodName) ∈ aWd := aWd_2 (List.mem_of_getElem? (i := 32) rfl) rfl
theorem wd_2_33 : Jvm.Cond.code ({ cls := "ReadAloud$Sheet", name := "has", desc := "(I)Z" } : Jvm.MethodName) prog_8_method_3_code (2 : Nat) (Option.some Jvm.ClassFile.FieldType.boolean) ∈ aWd := aWd_2 (List.mem_of_getElem? (i := 33) rfl) rfl
theorem wd_2_34 : Jvm.Cond.methodLink "ReadAloud" (89 : Nat) ({ cls := "ReadAloud$Sheet", name := "at", desc := "(I)I" } : Jvm.MethodName) ∈ aWd := aWd_2 (List.mem_of_getElem? (i := 34) rfl) rfl
theorem wd_2_35 : Jvm.Cond.instanceMethod ({ cls := "ReadAloud$Sheet", name := "at", desc := "(I)I" } : Jvm.MethodName) ∈ aWd := aWd_2 (List.mem_of_getElem? (i := 35) rfl) rfl
theorem wd_2_36 : Jvm.Cond.selects "ReadAloud$Sheet" ({ cls := "ReadAloud$Sheet", name := "at", desc := "(I)I" } : Jvm.MethodName) ({ cls := "ReadAloud$Sheet", name := "at", desc := "(I)I" } : Jvm.MethodName) ∈ aWd := aWd_2 (List.mem_of_getElem? (i := 36) rfl) rfl
theorem wd_2_37 : Jvm.Cond.code ({ cls := "ReadAloud$Sheet", name := "at", desc := "(I)I" } : Jvm.MethodName) prog_8_method_4_code (2 : Nat) (Option.some Jvm.ClassFile.FieldType.int) ∈ aWd := aWd_2 (List.mem_of_getElem? (i := 37) rfl) rfl
theorem wd_2_38 : Jvm.Cond.methodLink "ReadAloud$Sheet" (19 : Nat) ({ cls := "ReadAloud$Sheet", name := "has", desc := "(I)Z" } : Jvm.MethodName) ∈ aWd := aWd_2 (List.mem_of_getElem? (i := 38) rfl) rfl
theorem wd_2_39 : Jvm.Cond.methodLink "ReadAloudLaw" (39 : Nat) ({ cls := "ReadAloud", name := "put", desc := "(II)I" } : Jvm.MethodName) ∈ aWd := aWd_2 (List.mem_of_getElem? (i := 39) rfl) rfl
theorem wd_2_40 : Jvm.Cond.instanceMethod ({ cls := "ReadAloud", name := "put", desc := "(II)I" } : Jvm.MethodName) ∈ aWd := aWd_2 (List.mem_of_getElem? (i := 40) rfl) rfl
theorem wd_2_41 : Jvm.Cond.selects "ReadAloud" ({ cls := "ReadAloud", name := "put", desc := "(II)I" } : Jvm.MethodName) ({ cls := "ReadAloud", name := "put", desc := "(II)I" } : Jvm.MethodName) ∈ aWd := aWd_2 (List.mem_of_getElem? (i := 41) rfl) rfl
theorem wd_2_42 : Jvm.Cond.code ({ cls := "ReadAloud", name := "put", desc := "(II)I" } : Jvm.MethodName) prog_1_method_8_code (4 : Nat) (Option.some Jvm.ClassFile.FieldType.int) ∈ aWd := aWd_2 (List.mem_of_getElem? (i := 42) rfl) rfl
theorem wd_2_43 : Jvm.Cond.methodLink "ReadAloud" (96 : Nat) ({ cls := "ReadAloud$Sheet", name := "set", desc := "(II)V" } : Jvm.MethodName) ∈ aWd := aWd_2 (List.mem_of_getElem? (i := 43) rfl) rfl
theorem wd_2_44 : Jvm.Cond.instanceMethod ({ cls := "ReadAloud$Sheet", name := "set", desc := "(II)V" } : Jvm.MethodName) ∈ aWd := aWd_2 (List.mem_of_getElem? (i := 44) rfl) rfl
theorem wd_2_45 : Jvm.Cond.selects "ReadAloud$Sheet" ({ cls := "ReadAloud$Sheet", name := "set", desc := "(II)V" } : Jvm.MethodName) ({ cls := "ReadAloud$Sheet", name := "set", desc := "(II)V" } : Jvm.MethodName) ∈ aWd := aWd_2 (List.mem_of_getElem? (i := 45) rfl) rfl
theorem wd_2_46 : Jvm.Cond.code ({ cls := "ReadAloud$Sheet", name := "set", desc := "(II)V" } : Jvm.MethodName) prog_8_method_5_code (3 : Nat) (Option.none : Option Jvm.ClassFile.FieldType) ∈ aWd := aWd_2 (List.mem_of_getElem? (i := 46) rfl) rfl
theorem wd_2_47 : Jvm.Cond.methodLink "ReadAloudLaw" (44 : Nat) ({ cls := "ReadAloud", name := "limit", desc := "(I)I" } : Jvm.MethodName) ∈ aWd := aWd_2 (List.mem_of_getElem? (i := 47) rfl) rfl
theorem wd_2_48 : Jvm.Cond.instanceMethod ({ cls := "ReadAloud", name := "limit", desc := "(I)I" } : Jvm.MethodName) ∈ aWd := aWd_2 (List.mem_of_getElem? (i := 48) rfl) rfl
theorem wd_2_49 : Jvm.Cond.selects "ReadAloud" ({ cls := "ReadAloud", name := "limit", desc := "(I)I" } : Jvm.MethodName) ({ cls := "ReadAloud", name := "limit", desc := "(I)I" } : Jvm.MethodName) ∈ aWd := aWd_2 (List.mem_of_getElem? (i := 49) rfl) rfl
theorem wd_2_50 : Jvm.Cond.code ({ cls := "ReadAloud", name := "limit", desc := "(I)I" } : Jvm.MethodName) prog_1_method_9_code (3 : Nat) (Option.some Jvm.ClassFile.FieldType.int) ∈ aWd := aWd_2 (List.mem_of_getElem? (i := 50) rfl) rfl
theorem wd_2_51 : Jvm.Cond.methodLink "ReadAloudLaw" (48 : Nat) ({ cls := "ReadAloud", name := "accuse", desc := "(II)I" } : Jvm.MethodName) ∈ aWd := aWd_2 (List.mem_of_getElem? (i := 51) rfl) rfl
theorem wd_2_52 : Jvm.Cond.instanceMethod ({ cls := "ReadAloud", name := "accuse", desc := "(II)I" } : Jvm.MethodName) ∈ aWd := aWd_2 (List.mem_of_getElem? (i := 52) rfl) rfl
theorem wd_2_53 : Jvm.Cond.selects "ReadAloud" ({ cls := "ReadAloud", name := "accuse", desc := "(II)I" } : Jvm.MethodName) ({ cls := "ReadAloud", name := "accuse", desc := "(II)I" } : Jvm.MethodName) ∈ aWd := aWd_2 (List.mem_of_getElem? (i := 53) rfl) rfl
theorem wd_2_54 : Jvm.Cond.code ({ cls := "ReadAloud", name := "accuse", desc := "(II)I" } : Jvm.MethodName) prog_1_method_10_code (4 : Nat) (Option.some Jvm.ClassFile.FieldType.int) ∈ aWd := aWd_2 (List.mem_of_getElem? (i := 54) rfl) rfl
theorem wd_2_55 : Jvm.Cond.methodLink "ReadAloud" (106 : Nat) ({ cls := "ReadAloud", name := "isKind", desc := "(I)Z" } : Jvm.MethodName) ∈ aWd := aWd_2 (List.mem_of_getElem? (i := 55) rfl) rfl
theorem wd_2_56 : Jvm.Cond.static ({ cls := "ReadAloud", name := "isKind", desc := "(I)Z" } : Jvm.MethodName) ∈ aWd := aWd_2 (List.mem_of_getElem? (i := 56) rfl) rfl
theorem wd_2_57 : Jvm.Cond.code ({ cls := "ReadAloud", name := "isKind", desc := "(I)Z" } : Jvm.MethodName) prog_1_method_27_code (1 : Nat) (Option.some Jvm.ClassFile.FieldType.boolean) ∈ aWd := aWd_2 (List.mem_of_getElem? (i := 57) rfl) rfl
theorem wd_2_58 : Jvm.Cond.methodLink "ReadAloud" (111 : Nat) ({ cls := "ReadAloud", name := "manOfKind", desc := "(II)LReadAloud$Man;" } : Jvm.MethodName) ∈ aWd := aWd_2 (List.mem_of_getElem? (i := 58) rfl) rfl
theorem wd_2_59 : Jvm.Cond.static ({ cls := "ReadAloud", name := "manOfKind", desc := "(II)LReadAloud$Man;" } : Jvm.MethodName) ∈ aWd := aWd_2 (List.mem_of_getElem? (i := 59) rfl) rfl
theorem wd_2_60 : Jvm.Cond.code ({ cls := "ReadAloud", name := "manOfKind", desc := "(II)LReadAloud$Man;" } : Jvm.MethodName) prog_1_method_31_code (2 : Nat) (Option.some (Jvm.ClassFile.FieldType.object "ReadAloud$Man")) ∈ aWd := aWd_2 (List.mem_of_getElem? (i := 60) rfl) rfl
theorem wd_2_61 : Jvm.Cond.classLink "ReadAloud" (226 : Nat) "ReadAloud$Stammerer" ∈ aWd := aWd_2 (List.mem_of_getElem? (i := 61) rfl) rfl
theorem wd_2_62 : Jvm.Cond.instantiable "ReadAloud$Stammerer" (1 : Nat) ∈ aWd := aWd_2 (List.mem_of_getElem? (i := 62) rfl) rfl
theorem wd_2_63 : Jvm.Cond.methodLink "ReadAloud" (228 : Nat) ({ cls := "ReadAloud$Stammerer", name := "<init>", desc := "(I)V" } : Jvm.MethodName) ∈ aWd := aWd_2 (List.mem_of_getElem? (i := 63) rfl) rfl
theorem wd_2_64 : Jvm.Cond.instanceMethod ({ cls := "ReadAloud$Stammerer", name := "<init>", desc := "(I)V" } : Jvm.MethodName) ∈ aWd := aWd_2 (List.mem_of_getElem? (i := 64) rfl) rfl
theorem wd_2_65 : Jvm.Cond.code ({ cls := "ReadAloud$Stammerer", name := "<init>", desc := "(I)V" } : Jvm.MethodName) prog_9_method_1_code (2 : Nat) (Option.none : Option Jvm.ClassFile.FieldType) ∈ aWd := aWd_2 (List.mem_of_getElem? (i := 65) rfl) rfl
theorem wd_2_66 : Jvm.Cond.methodLink "ReadAloud$Stammerer" (1 : Nat) ({ cls := "ReadAloud$Man", name := "<init>", desc := "(I)V" } : Jvm.MethodName) ∈ aWd := aWd_2 (List.mem_of_getElem? (i := 66) rfl) rfl
theorem wd_2_67 : Jvm.Cond.instanceMethod ({ cls := "ReadAloud$Man", name := "<init>", desc := "(I)V" } : Jvm.MethodName) ∈ aWd := aWd_2 (List.mem_of_getElem? (i := 67) rfl) rfl
theorem wd_2_68 : Jvm.Cond.code ({ cls := "ReadAloud$Man", name := "<init>", desc := "(I)V" } : Jvm.MethodName) prog_6_method_1_code (2 : Nat) (Option.none : Option Jvm.ClassFile.FieldType) ∈ aWd := aWd_2 (List.mem_of_getElem? (i := 68) rfl) rfl
theorem wd_2_69 : Jvm.Cond.methodLink "ReadAloud$Man" (1 : Nat) ({ cls := "java/lang/Object", name := "<init>", desc := "()V" } : Jvm.MethodName) ∈ aWd := aWd_2 (List.mem_of_getElem? (i := 69) rfl) rfl
theorem wd_2_70 : Jvm.Cond.fieldLink "ReadAloud$Man" (7 : Nat) "ReadAloud$Man" "deed" "I" ∈ aWd := aWd_2 (List.mem_of_getElem? (i := 70) rfl) rfl
theorem wd_2_71 : Jvm.Cond.laysFinal "ReadAloud$Stammerer" "ReadAloud$Man" "deed" "I" ∈ aWd := aWd_2 (List.mem_of_getElem? (i := 71) rfl) rfl
theorem wd_2_74 : Jvm.Cond.classLink "ReadAloud" (231 : Nat) "ReadAloud$Actor" ∈ aWd := aWd_2 (List.mem_of_getElem? (i := 74) rfl) rfl
theorem wd_2_75 : Jvm.Cond.instantiable "ReadAloud$Actor" (1 : Nat) ∈ aWd := aWd_2 (List.mem_of_getElem? (i := 75) rfl) rfl
theorem wd_2_76 : Jvm.Cond.methodLink "ReadAloud" (233 : Nat) ({ cls := "ReadAloud$Actor", name := "<init>", desc := "(I)V" } : Jvm.MethodName) ∈ aWd := aWd_2 (List.mem_of_getElem? (i := 76) rfl) rfl
theorem wd_2_77 : Jvm.Cond.instanceMethod ({ cls := "ReadAloud$Actor", name := "<init>", desc := "(I)V" } : Jvm.MethodName) ∈ aWd := aWd_2 (List.mem_of_getElem? (i := 77) rfl) rfl
theorem wd_2_78 : Jvm.Cond.code ({ cls := "ReadAloud$Actor", name := "<init>", desc := "(I)V" } : Jvm.MethodName) prog_2_method_1_code (2 : Nat) (Option.none : Option Jvm.ClassFile.FieldType) ∈ aWd := aWd_2 (List.mem_of_getElem? (i := 78) rfl) rfl
theorem wd_2_79 : Jvm.Cond.methodLink "ReadAloud$Actor" (1 : Nat) ({ cls := "ReadAloud$Man", name := "<init>", desc := "(I)V" } : Jvm.MethodName) ∈ aWd := aWd_2 (List.mem_of_getElem? (i := 79) rfl) rfl
theorem wd_2_80 : Jvm.Cond.laysFinal "ReadAloud$Actor" "ReadAloud$Man" "deed" "I" ∈ aWd := aWd_2 (List.mem_of_getElem? (i := 80) rfl) rfl
theorem wd_2_82 : Jvm.Cond.classLink "ReadAloud" (234 : Nat) "ReadAloud$Boy" ∈ aWd := aWd_2 (List.mem_of_getElem? (i := 82) rfl) rfl
theorem wd_2_83 : Jvm.Cond.instantiable "ReadAloud$Boy" (1 : Nat) ∈ aWd := aWd_2 (List.mem_of_getElem? (i := 83) rfl) rfl
theorem wd_2_84 : Jvm.Cond.methodLink "ReadAloud" (236 : Nat) ({ cls := "ReadAloud$Boy", name := "<init>", desc := "(I)V" } : Jvm.MethodName) ∈ aWd := aWd_2 (List.mem_of_getElem? (i := 84) rfl) rfl
theorem wd_2_85 : Jvm.Cond.instanceMethod ({ cls := "ReadAloud$Boy", name := "<init>", desc := "(I)V" } : Jvm.MethodName) ∈ aWd := aWd_2 (List.mem_of_getElem? (i := 85) rfl) rfl
theorem wd_2_86 : Jvm.Cond.code ({ cls := "ReadAloud$Boy", name := "<init>", desc := "(I)V" } : Jvm.MethodName) prog_3_method_1_code (2 : Nat) (Option.none : Option Jvm.ClassFile.FieldType) ∈ aWd := aWd_2 (List.mem_of_getElem? (i := 86) rfl) rfl
theorem wd_2_87 : Jvm.Cond.methodLink "ReadAloud$Boy" (1 : Nat) ({ cls := "ReadAloud$Man", name := "<init>", desc := "(I)V" } : Jvm.MethodName) ∈ aWd := aWd_2 (List.mem_of_getElem? (i := 87) rfl) rfl
theorem wd_2_88 : Jvm.Cond.laysFinal "ReadAloud$Boy" "ReadAloud$Man" "deed" "I" ∈ aWd := aWd_2 (List.mem_of_getElem? (i := 88) rfl) rfl
theorem wd_2_90 : Jvm.Cond.classLink "ReadAloud" (237 : Nat) "ReadAloud$Weeper" ∈ aWd := aWd_2 (List.mem_of_getElem? (i := 90) rfl) rfl
theorem wd_2_91 : Jvm.Cond.instantiable "ReadAloud$Weeper" (1 : Nat) ∈ aWd := aWd_2 (List.mem_of_getElem? (i := 91) rfl) rfl
theorem wd_2_92 : Jvm.Cond.methodLink "ReadAloud" (239 : Nat) ({ cls := "ReadAloud$Weeper", name := "<init>", desc := "(I)V" } : Jvm.MethodName) ∈ aWd := aWd_2 (List.mem_of_getElem? (i := 92) rfl) rfl
theorem wd_2_93 : Jvm.Cond.instanceMethod ({ cls := "ReadAloud$Weeper", name := "<init>", desc := "(I)V" } : Jvm.MethodName) ∈ aWd := aWd_2 (List.mem_of_getElem? (i := 93) rfl) rfl
theorem wd_2_94 : Jvm.Cond.code ({ cls := "ReadAloud$Weeper", name := "<init>", desc := "(I)V" } : Jvm.MethodName) prog_12_method_1_code (2 : Nat) (Option.none : Option Jvm.ClassFile.FieldType) ∈ aWd := aWd_2 (List.mem_of_getElem? (i := 94) rfl) rfl
theorem wd_2_95 : Jvm.Cond.methodLink "ReadAloud$Weeper" (1 : Nat) ({ cls := "ReadAloud$Stammerer", name := "<init>", desc := "(I)V" } : Jvm.MethodName) ∈ aWd := aWd_2 (List.mem_of_getElem? (i := 95) rfl) rfl
theorem wd_2_96 : Jvm.Cond.laysFinal "ReadAloud$Weeper" "ReadAloud$Man" "deed" "I" ∈ aWd := aWd_2 (List.mem_of_getElem? (i := 96) rfl) rfl
theorem wd_2_97 : Jvm.Cond.superclass "ReadAloud$Weeper" "ReadAloud$Stammerer" ∈ aWd := aWd_2 (List.mem_of_getElem? (i := 97) rfl) rfl
theorem wd_2_98 : Jvm.Cond.instantiable "ReadAloud$Man" (1 : Nat) ∈ aWd := aWd_2 (List.mem_of_getElem? (i := 98) rfl) rfl
theorem wd_2_99 : Jvm.Cond.methodLink "ReadAloud" (240 : Nat) ({ cls := "ReadAloud$Man", name := "<init>", desc := "(I)V" } : Jvm.MethodName) ∈ aWd := aWd_2 (List.mem_of_getElem? (i := 99) rfl) rfl
theorem wd_2_100 : Jvm.Cond.laysFinal "ReadAloud$Man" "ReadAloud$Man" "deed" "I" ∈ aWd := aWd_2 (List.mem_of_getElem? (i := 100) rfl) rfl
theorem wd_2_102 : Jvm.Cond.methodLink "ReadAloudLaw" (52 : Nat) ({ cls := "ReadAloud", name := "about", desc := "(II)I" } : Jvm.MethodName) ∈ aWd := aWd_2 (List.mem_of_getElem? (i := 102) rfl) rfl
theorem wd_2_103 : Jvm.Cond.instanceMethod ({ cls := "ReadAloud", name := "about", desc := "(II)I" } : Jvm.MethodName) ∈ aWd := aWd_2 (List.mem_of_getElem? (i := 103) rfl) rfl
theorem wd_2_104 : Jvm.Cond.selects "ReadAloud" ({ cls := "ReadAloud", name := "about", desc := "(II)I" } : Jvm.MethodName) ({ cls := "ReadAloud", name := "about", desc := "(II)I" } : Jvm.MethodName) ∈ aWd := aWd_2 (List.mem_of_getElem? (i := 104) rfl) rfl
theorem wd_2_105 : Jvm.Cond.code ({ cls := "ReadAloud", name := "about", desc := "(II)I" } : Jvm.MethodName) prog_1_method_11_code (4 : Nat) (Option.some Jvm.ClassFile.FieldType.int) ∈ aWd := aWd_2 (List.mem_of_getElem? (i := 105) rfl) rfl
theorem wd_2_106 : Jvm.Cond.methodLink "ReadAloud" (118 : Nat) ({ cls := "ReadAloud", name := "manOf", desc := "(I)LReadAloud$Man;" } : Jvm.MethodName) ∈ aWd := aWd_2 (List.mem_of_getElem? (i := 106) rfl) rfl
theorem wd_2_108 : Jvm.Cond.instanceMethod ({ cls := "ReadAloud", name := "manOf", desc := "(I)LReadAloud$Man;" } : Jvm.MethodName) ∈ aWd := aWd_2 (List.mem_of_getElem? (i := 108) rfl) rfl
theorem wd_2_109 : Jvm.Cond.code ({ cls := "ReadAloud", name := "manOf", desc := "(I)LReadAloud$Man;" } : Jvm.MethodName) prog_1_method_28_code (2 : Nat) (Option.some (Jvm.ClassFile.FieldType.object "ReadAloud$Man")) ∈ aWd := aWd_2 (List.mem_of_getElem? (i := 109) rfl) rfl
theorem wd_2_110 : Jvm.Cond.methodLink "ReadAloud" (156 : Nat) ({ cls := "ReadAloud", name := "isAccused", desc := "(I)Z" } : Jvm.MethodName) ∈ aWd := aWd_2 (List.mem_of_getElem? (i := 110) rfl) rfl
theorem wd_2_112 : Jvm.Cond.instanceMethod ({ cls := "ReadAloud", name := "isAccused", desc := "(I)Z" } : Jvm.MethodName) ∈ aWd := aWd_2 (List.mem_of_getElem? (i := 112) rfl) rfl
theorem wd_2_113 : Jvm.Cond.code ({ cls := "ReadAloud", name := "isAccused", desc := "(I)Z" } : Jvm.MethodName) prog_1_method_25_code (2 : Nat) (Option.some Jvm.ClassFile.FieldType.boolean) ∈ aWd := aWd_2 (List.mem_of_getElem? (i := 113) rfl) rfl
theorem wd_2_114 : Jvm.Cond.methodLink "ReadAloud" (122 : Nat) ({ cls := "ReadAloud$Man", name := "kind", desc := "()I" } : Jvm.MethodName) ∈ aWd := aWd_2 (List.mem_of_getElem? (i := 114) rfl) rfl
theorem wd_2_115 : Jvm.Cond.instanceMethod ({ cls := "ReadAloud$Man", name := "kind", desc := "()I" } : Jvm.MethodName) ∈ aWd := aWd_2 (List.mem_of_getElem? (i := 115) rfl) rfl
theorem wd_2_116 : Jvm.Cond.selects "ReadAloud$Man" ({ cls := "ReadAloud$Man", name := "kind", desc := "()I" } : Jvm.MethodName) ({ cls := "ReadAloud$Man", name := "kind", desc := "()I" } : Jvm.MethodName) ∈ aWd := aWd_2 (List.mem_of_getElem? (i := 116) rfl) rfl
theorem wd_2_117 : Jvm.Cond.sameMethod "ReadAloud$Man" "ReadAloud$Man" "kind" "()I" ∈ aWd := aWd_2 (List.mem_of_getElem? (i := 117) rfl) rfl
theorem wd_2_118 : Jvm.Cond.selects "ReadAloud$Actor" ({ cls := "ReadAloud$Man", name := "kind", desc := "()I" } : Jvm.MethodName) ({ cls := "ReadAloud$Actor", name := "kind", desc := "()I" } : Jvm.MethodName) ∈ aWd := aWd_2 (List.mem_of_getElem? (i := 118) rfl) rfl
theorem wd_2_119 : Jvm.Cond.instanceMethod ({ cls := "ReadAloud$Actor", name := "kind", desc := "()I" } : Jvm.MethodName) ∈ aWd := aWd_2 (List.mem_of_getElem? (i := 119) rfl) rfl
theorem wd_2_120 : Jvm.Cond.code ({ cls := "ReadAloud$Actor", name := "kind", desc := "()I" } : Jvm.MethodName) prog_2_method_2_code (1 : Nat) (Option.some Jvm.ClassFile.FieldType.int) ∈ aWd := aWd_2 (List.mem_of_getElem? (i := 120) rfl) rfl
theorem wd_2_121 : Jvm.Cond.selects "ReadAloud$Boy" ({ cls := "ReadAloud$Man", name := "kind", desc := "()I" } : Jvm.MethodName) ({ cls := "ReadAloud$Boy", name := "kind", desc := "()I" } : Jvm.MethodName) ∈ aWd := aWd_2 (List.mem_of_getElem? (i := 121) rfl) rfl
theorem wd_2_122 : Jvm.Cond.instanceMethod ({ cls := "ReadAloud$Boy", name := "kind", desc := "()I" } : Jvm.MethodName) ∈ aWd := aWd_2 (List.mem_of_getElem? (i := 122) rfl) rfl
theorem wd_2_123 : Jvm.Cond.code ({ cls := "ReadAloud$Boy", name := "kind", desc := "()I" } : Jvm.MethodName) prog_3_method_2_code (1 : Nat) (Option.some Jvm.ClassFile.FieldType.int) ∈ aWd := aWd_2 (List.mem_of_getElem? (i := 123) rfl) rfl
theorem wd_2_124 : Jvm.Cond.selects "ReadAloud$Stammerer" ({ cls := "ReadAloud$Man", name := "kind", desc := "()I" } : Jvm.MethodName) ({ cls := "ReadAloud$Stammerer", name := "kind", desc := "()I" } : Jvm.MethodName) ∈ aWd := aWd_2 (List.mem_of_getElem? (i := 124) rfl) rfl
theorem wd_2_125 : Jvm.Cond.instanceMethod ({ cls := "ReadAloud$Stammerer", name := "kind", desc := "()I" } : Jvm.MethodName) ∈ aWd := aWd_2 (List.mem_of_getElem? (i := 125) rfl) rfl
theorem wd_2_126 : Jvm.Cond.code ({ cls := "ReadAloud$Stammerer", name := "kind", desc := "()I" } : Jvm.MethodName) prog_9_method_2_code (1 : Nat) (Option.some Jvm.ClassFile.FieldType.int) ∈ aWd := aWd_2 (List.mem_of_getElem? (i := 126) rfl) rfl
theorem wd_2_127 : Jvm.Cond.selects "ReadAloud$Weeper" ({ cls := "ReadAloud$Man", name := "kind", desc := "()I" } : Jvm.MethodName) ({ cls := "ReadAloud$Weeper", name := "kind", desc := "()I" } : Jvm.MethodName) ∈ aWd := aWd_2 (List.mem_of_getElem? (i := 127) rfl) rfl
theorem wd_2_128 : Jvm.Cond.instanceMethod ({ cls := "ReadAloud$Weeper", name := "kind", desc := "()I" } : Jvm.MethodName) ∈ aWd := aWd_2 (List.mem_of_getElem? (i := 128) rfl) rfl
theorem wd_2_129 : Jvm.Cond.code ({ cls := "ReadAloud$Weeper", name := "kind", desc := "()I" } : Jvm.MethodName) prog_12_method_2_code (1 : Nat) (Option.some Jvm.ClassFile.FieldType.int) ∈ aWd := aWd_2 (List.mem_of_getElem? (i := 129) rfl) rfl
theorem wd_2_130 : Jvm.Cond.code ({ cls := "ReadAloud$Man", name := "kind", desc := "()I" } : Jvm.MethodName) prog_6_method_3_code (1 : Nat) (Option.some Jvm.ClassFile.FieldType.int) ∈ aWd := aWd_2 (List.mem_of_getElem? (i := 130) rfl) rfl
theorem wd_2_131 : Jvm.Cond.methodLink "ReadAloud" (125 : Nat) ({ cls := "ReadAloud$Man", name := "deed", desc := "()I" } : Jvm.MethodName) ∈ aWd := aWd_2 (List.mem_of_getElem? (i := 131) rfl) rfl
theorem wd_2_132 : Jvm.Cond.instanceMethod ({ cls := "ReadAloud$Man", name := "deed", desc := "()I" } : Jvm.MethodName) ∈ aWd := aWd_2 (List.mem_of_getElem? (i := 132) rfl) rfl
theorem wd_2_133 : Jvm.Cond.selects "ReadAloud$Man" ({ cls := "ReadAloud$Man", name := "deed", desc := "()I" } : Jvm.MethodName) ({ cls := "ReadAloud$Man", name := "deed", desc := "()I" } : Jvm.MethodName) ∈ aWd := aWd_2 (List.mem_of_getElem? (i := 133) rfl) rfl
theorem wd_2_134 : Jvm.Cond.sameMethod "ReadAloud$Man" "ReadAloud$Man" "deed" "()I" ∈ aWd := aWd_2 (List.mem_of_getElem? (i := 134) rfl) rfl
theorem wd_2_135 : Jvm.Cond.selects "ReadAloud$Actor" ({ cls := "ReadAloud$Man", name := "deed", desc := "()I" } : Jvm.MethodName) ({ cls := "ReadAloud$Man", name := "deed", desc := "()I" } : Jvm.MethodName) ∈ aWd := aWd_2 (List.mem_of_getElem? (i := 135) rfl) rfl
theorem wd_2_136 : Jvm.Cond.selects "ReadAloud$Boy" ({ cls := "ReadAloud$Man", name := "deed", desc := "()I" } : Jvm.MethodName) ({ cls := "ReadAloud$Man", name := "deed", desc := "()I" } : Jvm.MethodName) ∈ aWd := aWd_2 (List.mem_of_getElem? (i := 136) rfl) rfl
theorem wd_2_137 : Jvm.Cond.selects "ReadAloud$Stammerer" ({ cls := "ReadAloud$Man", name := "deed", desc := "()I" } : Jvm.MethodName) ({ cls := "ReadAloud$Man", name := "deed", desc := "()I" } : Jvm.MethodName) ∈ aWd := aWd_2 (List.mem_of_getElem? (i := 137) rfl) rfl
theorem wd_2_138 : Jvm.Cond.selects "ReadAloud$Weeper" ({ cls := "ReadAloud$Man", name := "deed", desc := "()I" } : Jvm.MethodName) ({ cls := "ReadAloud$Man", name := "deed", desc := "()I" } : Jvm.MethodName) ∈ aWd := aWd_2 (List.mem_of_getElem? (i := 138) rfl) rfl
theorem wd_2_139 : Jvm.Cond.code ({ cls := "ReadAloud$Man", name := "deed", desc := "()I" } : Jvm.MethodName) prog_6_method_2_code (1 : Nat) (Option.some Jvm.ClassFile.FieldType.int) ∈ aWd := aWd_2 (List.mem_of_getElem? (i := 139) rfl) rfl
theorem wd_2_140 : Jvm.Cond.methodLink "ReadAloud" (128 : Nat) ({ cls := "ReadAloud", name := "alteredBy", desc := "(ILReadAloud$Sheet;)I" } : Jvm.MethodName) ∈ aWd := aWd_2 (List.mem_of_getElem? (i := 140) rfl) rfl
theorem wd_2_142 : Jvm.Cond.instanceMethod ({ cls := "ReadAloud", name := "alteredBy", desc := "(ILReadAloud$Sheet;)I" } : Jvm.MethodName) ∈ aWd := aWd_2 (List.mem_of_getElem? (i := 142) rfl) rfl
theorem wd_2_143 : Jvm.Cond.code ({ cls := "ReadAloud", name := "alteredBy", desc := "(ILReadAloud$Sheet;)I" } : Jvm.MethodName) prog_1_method_35_code (3 : Nat) (Option.some Jvm.ClassFile.FieldType.int) ∈ aWd := aWd_2 (List.mem_of_getElem? (i := 143) rfl) rfl
theorem wd_2_144 : Jvm.Cond.methodLink "ReadAloud" (168 : Nat) ({ cls := "ReadAloud", name := "deedOf", desc := "(I)I" } : Jvm.MethodName) ∈ aWd := aWd_2 (List.mem_of_getElem? (i := 144) rfl) rfl
theorem wd_2_146 : Jvm.Cond.instanceMethod ({ cls := "ReadAloud", name := "deedOf", desc := "(I)I" } : Jvm.MethodName) ∈ aWd := aWd_2 (List.mem_of_getElem? (i := 146) rfl) rfl
theorem wd_2_147 : Jvm.Cond.code ({ cls := "ReadAloud", name := "deedOf", desc := "(I)I" } : Jvm.MethodName) prog_1_method_29_code (3 : Nat) (Option.some Jvm.ClassFile.FieldType.int) ∈ aWd := aWd_2 (List.mem_of_getElem? (i := 147) rfl) rfl
theorem wd_2_148 : Jvm.Cond.methodLink "ReadAloud" (137 : Nat) ({ cls := "ReadAloud", name := "hiddenBy", desc := "(I)I" } : Jvm.MethodName) ∈ aWd := aWd_2 (List.mem_of_getElem? (i := 148) rfl) rfl
theorem wd_2_150 : Jvm.Cond.instanceMethod ({ cls := "ReadAloud", name := "hiddenBy", desc := "(I)I" } : Jvm.MethodName) ∈ aWd := aWd_2 (List.mem_of_getElem? (i := 150) rfl) rfl
theorem wd_2_151 : Jvm.Cond.code ({ cls := "ReadAloud", name := "hiddenBy", desc := "(I)I" } : Jvm.MethodName) prog_1_method_30_code (2 : Nat) (Option.some Jvm.ClassFile.FieldType.int) ∈ aWd := aWd_2 (List.mem_of_getElem? (i := 151) rfl) rfl
theorem wd_2_152 : Jvm.Cond.methodLink "ReadAloud" (171 : Nat) ({ cls := "ReadAloud", name := "wouldAlter", desc := "(ILReadAloud$Sheet;II)I" } : Jvm.MethodName) ∈ aWd := aWd_2 (List.mem_of_getElem? (i := 152) rfl) rfl
theorem wd_2_154 : Jvm.Cond.instanceMethod ({ cls := "ReadAloud", name := "wouldAlter", desc := "(ILReadAloud$Sheet;II)I" } : Jvm.MethodName) ∈ aWd := aWd_2 (List.mem_of_getElem? (i := 154) rfl) rfl
theorem wd_2_155 : Jvm.Cond.code ({ cls := "ReadAloud", name := "wouldAlter", desc := "(ILReadAloud$Sheet;II)I" } : Jvm.MethodName) prog_1_method_34_code (7 : Nat) (Option.some Jvm.ClassFile.FieldType.int) ∈ aWd := aWd_2 (List.mem_of_getElem? (i := 155) rfl) rfl
theorem wd_2_156 : Jvm.Cond.methodLink "ReadAloud" (246 : Nat) ({ cls := "ReadAloud$Man", name := "placesByDeed", desc := "(LReadAloud$Sheet;I)I" } : Jvm.MethodName) ∈ aWd := aWd_2 (List.mem_of_getElem? (i := 156) rfl) rfl
theorem wd_2_157 : Jvm.Cond.instanceMethod ({ cls := "ReadAloud$Man", name := "placesByDeed", desc := "(LReadAloud$Sheet;I)I" } : Jvm.MethodName) ∈ aWd := aWd_2 (List.mem_of_getElem? (i := 157) rfl) rfl
theorem wd_2_158 : Jvm.Cond.selects "ReadAloud$Man" ({ cls := "ReadAloud$Man", name := "placesByDeed", desc := "(LReadAloud$Sheet;I)I" } : Jvm.MethodName) ({ cls := "ReadAloud$Man", name := "placesByDeed", desc := "(LReadAloud$Sheet;I)I" } : Jvm.MethodName) ∈ aWd := aWd_2 (List.mem_of_getElem? (i := 158) rfl) rfl
theorem wd_2_159 : Jvm.Cond.sameMethod "ReadAloud$Man" "ReadAloud$Man" "placesByDeed" "(LReadAloud$Sheet;I)I" ∈ aWd := aWd_2 (List.mem_of_getElem? (i := 159) rfl) rfl
theorem wd_2_160 : Jvm.Cond.selects "ReadAloud$Actor" ({ cls := "ReadAloud$Man", name := "placesByDeed", desc := "(LReadAloud$Sheet;I)I" } : Jvm.MethodName) ({ cls := "ReadAloud$Actor", name := "placesByDeed", desc := "(LReadAloud$Sheet;I)I" } : Jvm.MethodName) ∈ aWd := aWd_2 (List.mem_of_getElem? (i := 160) rfl) rfl
theorem wd_2_161 : Jvm.Cond.instanceMethod ({ cls := "ReadAloud$Actor", name := "placesByDeed", desc := "(LReadAloud$Sheet;I)I" } : Jvm.MethodName) ∈ aWd := aWd_2 (List.mem_of_getElem? (i := 161) rfl) rfl
theorem wd_2_162 : Jvm.Cond.code ({ cls := "ReadAloud$Actor", name := "placesByDeed", desc := "(LReadAloud$Sheet;I)I" } : Jvm.MethodName) prog_2_method_3_code (3 : Nat) (Option.some Jvm.ClassFile.FieldType.int) ∈ aWd := aWd_2 (List.mem_of_getElem? (i := 162) rfl) rfl
theorem wd_2_163 : Jvm.Cond.methodLink "ReadAloud$Actor" (7 : Nat) ({ cls := "ReadAloud$Sheet", name := "firstPlacesOf", desc := "(I)I" } : Jvm.MethodName) ∈ aWd := aWd_2 (List.mem_of_getElem? (i := 163) rfl) rfl
theorem wd_2_164 : Jvm.Cond.instanceMethod ({ cls := "ReadAloud$Sheet", name := "firstPlacesOf", desc := "(I)I" } : Jvm.MethodName) ∈ aWd := aWd_2 (List.mem_of_getElem? (i := 164) rfl) rfl
theorem wd_2_165 : Jvm.Cond.selects "ReadAloud$Sheet" ({ cls := "ReadAloud$Sheet", name := "firstPlacesOf", desc := "(I)I" } : Jvm.MethodName) ({ cls := "ReadAloud$Sheet", name := "firstPlacesOf", desc := "(I)I" } : Jvm.MethodName) ∈ aWd := aWd_2 (List.mem_of_getElem? (i := 165) rfl) rfl
theorem wd_2_166 : Jvm.Cond.code ({ cls := "ReadAloud$Sheet", name := "firstPlacesOf", desc := "(I)I" } : Jvm.MethodName) prog_8_method_10_code (5 : Nat) (Option.some Jvm.ClassFile.FieldType.int) ∈ aWd := aWd_2 (List.mem_of_getElem? (i := 166) rfl) rfl
theorem wd_2_167 : Jvm.Cond.selects "ReadAloud$Boy" ({ cls := "ReadAloud$Man", name := "placesByDeed", desc := "(LReadAloud$Sheet;I)I" } : Jvm.MethodName) ({ cls := "ReadAloud$Boy", name := "placesByDeed", desc := "(LReadAloud$Sheet;I)I" } : Jvm.MethodName) ∈ aWd := aWd_2 (List.mem_of_getElem? (i := 167) rfl) rfl
theorem wd_2_168 : Jvm.Cond.instanceMethod ({ cls := "ReadAloud$Boy", name := "placesByDeed", desc := "(LReadAloud$Sheet;I)I" } : Jvm.MethodName) ∈ aWd := aWd_2 (List.mem_of_getElem? (i := 168) rfl) rfl
theorem wd_2_169 : Jvm.Cond.code ({ cls := "ReadAloud$Boy", name := "placesByDeed", desc := "(LReadAloud$Sheet;I)I" } : Jvm.MethodName) prog_3_method_3_code (3 : Nat) (Option.some Jvm.ClassFile.FieldType.int) ∈ aWd := aWd_2 (List.mem_of_getElem? (i := 169) rfl) rfl
theorem wd_2_170 : Jvm.Cond.methodLink "ReadAloud$Boy" (7 : Nat) ({ cls := "ReadAloud$Sheet", name := "placesOf", desc := "(I)I" } : Jvm.MethodName) ∈ aWd := aWd_2 (List.mem_of_getElem? (i := 170) rfl) rfl
theorem wd_2_171 : Jvm.Cond.instanceMethod ({ cls := "ReadAloud$Sheet", name := "placesOf", desc := "(I)I" } : Jvm.MethodName) ∈ aWd := aWd_2 (List.mem_of_getElem? (i := 171) rfl) rfl
theorem wd_2_172 : Jvm.Cond.selects "ReadAloud$Sheet" ({ cls := "ReadAloud$Sheet", name := "placesOf", desc := "(I)I" } : Jvm.MethodName) ({ cls := "ReadAloud$Sheet", name := "placesOf", desc := "(I)I" } : Jvm.MethodName) ∈ aWd := aWd_2 (List.mem_of_getElem? (i := 172) rfl) rfl
theorem wd_2_173 : Jvm.Cond.code ({ cls := "ReadAloud$Sheet", name := "placesOf", desc := "(I)I" } : Jvm.MethodName) prog_8_method_9_code (4 : Nat) (Option.some Jvm.ClassFile.FieldType.int) ∈ aWd := aWd_2 (List.mem_of_getElem? (i := 173) rfl) rfl
theorem wd_2_174 : Jvm.Cond.methodLink "ReadAloud$Boy" (13 : Nat) ({ cls := "ReadAloud$Sheet", name := "placesBehind", desc := "(I)I" } : Jvm.MethodName) ∈ aWd := aWd_2 (List.mem_of_getElem? (i := 174) rfl) rfl
theorem wd_2_175 : Jvm.Cond.instanceMethod ({ cls := "ReadAloud$Sheet", name := "placesBehind", desc := "(I)I" } : Jvm.MethodName) ∈ aWd := aWd_2 (List.mem_of_getElem? (i := 175) rfl) rfl
theorem wd_2_176 : Jvm.Cond.selects "ReadAloud$Sheet" ({ cls := "ReadAloud$Sheet", name := "placesBehind", desc := "(I)I" } : Jvm.MethodName) ({ cls := "ReadAloud$Sheet", name := "placesBehind", desc := "(I)I" } : Jvm.MethodName) ∈ aWd := aWd_2 (List.mem_of_getElem? (i := 176) rfl) rfl
theorem wd_2_177 : Jvm.Cond.code ({ cls := "ReadAloud$Sheet", name := "placesBehind", desc := "(I)I" } : Jvm.MethodName) prog_8_method_11_code (2 : Nat) (Option.some Jvm.ClassFile.FieldType.int) ∈ aWd := aWd_2 (List.mem_of_getElem? (i := 177) rfl) rfl
theorem wd_2_178 : Jvm.Cond.selects "ReadAloud$Stammerer" ({ cls := "ReadAloud$Man", name := "placesByDeed", desc := "(LReadAloud$Sheet;I)I" } : Jvm.MethodName) ({ cls := "ReadAloud$Man", name := "placesByDeed", desc := "(LReadAloud$Sheet;I)I" } : Jvm.MethodName) ∈ aWd := aWd_2 (List.mem_of_getElem? (i := 178) rfl) rfl
theorem wd_2_179 : Jvm.Cond.selects "ReadAloud$Weeper" ({ cls := "ReadAloud$Man", name := "placesByDeed", desc := "(LReadAloud$Sheet;I)I" } : Jvm.MethodName) ({ cls := "ReadAloud$Man", name := "placesByDeed", desc := "(LReadAloud$Sheet;I)I" } : Jvm.MethodName) ∈ aWd := aWd_2 (List.mem_of_getElem? (i := 179) rfl) rfl
theorem wd_2_180 : Jvm.Cond.code ({ cls := "ReadAloud$Man", name := "placesByDeed", desc := "(LReadAloud$Sheet;I)I" } : Jvm.MethodName) prog_6_method_4_code (3 : Nat) (Option.some Jvm.ClassFile.FieldType.int) ∈ aWd := aWd_2 (List.mem_of_getElem? (i := 180) rfl) rfl
theorem wd_2_181 : Jvm.Cond.methodLink "ReadAloud$Man" (13 : Nat) ({ cls := "ReadAloud$Sheet", name := "placesOf", desc := "(I)I" } : Jvm.MethodName) ∈ aWd := aWd_2 (List.mem_of_getElem? (i := 181) rfl) rfl
theorem wd_2_182 : Jvm.Cond.methodLink "ReadAloud" (250 : Nat) ({ cls := "ReadAloud$Man", name := "placesAnyhow", desc := "(LReadAloud$Sheet;)I" } : Jvm.MethodName) ∈ aWd := aWd_2 (List.mem_of_getElem? (i := 182) rfl) rfl
theorem wd_2_183 : Jvm.Cond.instanceMethod ({ cls := "ReadAloud$Man", name := "placesAnyhow", desc := "(LReadAloud$Sheet;)I" } : Jvm.MethodName) ∈ aWd := aWd_2 (List.mem_of_getElem? (i := 183) rfl) rfl
theorem wd_2_184 : Jvm.Cond.selects "ReadAloud$Man" ({ cls := "ReadAloud$Man", name := "placesAnyhow", desc := "(LReadAloud$Sheet;)I" } : Jvm.MethodName) ({ cls := "ReadAloud$Man", name := "placesAnyhow", desc := "(LReadAloud$Sheet;)I" } : Jvm.MethodName) ∈ aWd := aWd_2 (List.mem_of_getElem? (i := 184) rfl) rfl
theorem wd_2_185 : Jvm.Cond.sameMethod "ReadAloud$Man" "ReadAloud$Man" "placesAnyhow" "(LReadAloud$Sheet;)I" ∈ aWd := aWd_2 (List.mem_of_getElem? (i := 185) rfl) rfl
theorem wd_2_186 : Jvm.Cond.selects "ReadAloud$Actor" ({ cls := "ReadAloud$Man", name := "placesAnyhow", desc := "(LReadAloud$Sheet;)I" } : Jvm.MethodName) ({ cls := "ReadAloud$Man", name := "placesAnyhow", desc := "(LReadAloud$Sheet;)I" } : Jvm.MethodName) ∈ aWd := aWd_2 (List.mem_of_getElem? (i := 186) rfl) rfl
theorem wd_2_187 : Jvm.Cond.selects "ReadAloud$Boy" ({ cls := "ReadAloud$Man", name := "placesAnyhow", desc := "(LReadAloud$Sheet;)I" } : Jvm.MethodName) ({ cls := "ReadAloud$Man", name := "placesAnyhow", desc := "(LReadAloud$Sheet;)I" } : Jvm.MethodName) ∈ aWd := aWd_2 (List.mem_of_getElem? (i := 187) rfl) rfl
theorem wd_2_188 : Jvm.Cond.selects "ReadAloud$Stammerer" ({ cls := "ReadAloud$Man", name := "placesAnyhow", desc := "(LReadAloud$Sheet;)I" } : Jvm.MethodName) ({ cls := "ReadAloud$Stammerer", name := "placesAnyhow", desc := "(LReadAloud$Sheet;)I" } : Jvm.MethodName) ∈ aWd := aWd_2 (List.mem_of_getElem? (i := 188) rfl) rfl
theorem wd_2_189 : Jvm.Cond.instanceMethod ({ cls := "ReadAloud$Stammerer", name := "placesAnyhow", desc := "(LReadAloud$Sheet;)I" } : Jvm.MethodName) ∈ aWd := aWd_2 (List.mem_of_getElem? (i := 189) rfl) rfl
theorem wd_2_190 : Jvm.Cond.code ({ cls := "ReadAloud$Stammerer", name := "placesAnyhow", desc := "(LReadAloud$Sheet;)I" } : Jvm.MethodName) prog_9_method_3_code (2 : Nat) (Option.some Jvm.ClassFile.FieldType.int) ∈ aWd := aWd_2 (List.mem_of_getElem? (i := 190) rfl) rfl
theorem wd_2_191 : Jvm.Cond.selects "ReadAloud$Weeper" ({ cls := "ReadAloud$Man", name := "placesAnyhow", desc := "(LReadAloud$Sheet;)I" } : Jvm.MethodName) ({ cls := "ReadAloud$Weeper", name := "placesAnyhow", desc := "(LReadAloud$Sheet;)I" } : Jvm.MethodName) ∈ aWd := aWd_2 (List.mem_of_getElem? (i := 191) rfl) rfl
theorem wd_2_192 : Jvm.Cond.instanceMethod ({ cls := "ReadAloud$Weeper", name := "placesAnyhow", desc := "(LReadAloud$Sheet;)I" } : Jvm.MethodName) ∈ aWd := aWd_2 (List.mem_of_getElem? (i := 192) rfl) rfl
theorem wd_2_193 : Jvm.Cond.code ({ cls := "ReadAloud$Weeper", name := "placesAnyhow", desc := "(LReadAloud$Sheet;)I" } : Jvm.MethodName) prog_12_method_3_code (2 : Nat) (Option.some Jvm.ClassFile.FieldType.int) ∈ aWd := aWd_2 (List.mem_of_getElem? (i := 193) rfl) rfl
theorem wd_2_194 : Jvm.Cond.methodLink "ReadAloud$Weeper" (7 : Nat) ({ cls := "ReadAloud$Stammerer", name := "placesAnyhow", desc := "(LReadAloud$Sheet;)I" } : Jvm.MethodName) ∈ aWd := aWd_2 (List.mem_of_getElem? (i := 194) rfl) rfl
theorem wd_2_195 : Jvm.Cond.methodLink "ReadAloud$Weeper" (13 : Nat) ({ cls := "ReadAloud$Sheet", name := "placesOf", desc := "(I)I" } : Jvm.MethodName) ∈ aWd := aWd_2 (List.mem_of_getElem? (i := 195) rfl) rfl
theorem wd_2_196 : Jvm.Cond.code ({ cls := "ReadAloud$Man", name := "placesAnyhow", desc := "(LReadAloud$Sheet;)I" } : Jvm.MethodName) prog_6_method_5_code (2 : Nat) (Option.some Jvm.ClassFile.FieldType.int) ∈ aWd := aWd_2 (List.mem_of_getElem? (i := 196) rfl) rfl
theorem wd_2_197 : Jvm.Cond.methodLink "ReadAloud" (179 : Nat) ({ cls := "ReadAloud$Sheet", name := "placesOf", desc := "(I)I" } : Jvm.MethodName) ∈ aWd := aWd_2 (List.mem_of_getElem? (i := 197) rfl) rfl
theorem wd_2_198 : Jvm.Cond.methodLink "ReadAloud" (132 : Nat) ({ cls := "java/lang/Integer", name := "bitCount", desc := "(I)I" } : Jvm.MethodName) ∈ aWd := aWd_2 (List.mem_of_getElem? (i := 198) rfl) rfl
theorem wd_2_199 : Jvm.Cond.static ({ cls := "java/lang/Integer", name := "bitCount", desc := "(I)I" } : Jvm.MethodName) ∈ aWd := aWd_2 (List.mem_of_getElem? (i := 199) rfl) rfl
theorem wd_2_200 : Jvm.Cond.code ({ cls := "java/lang/Integer", name := "bitCount", desc := "(I)I" } : Jvm.MethodName) prog_15_method_49_code (1 : Nat) (Option.some Jvm.ClassFile.FieldType.int) ∈ aWd := aWd_2 (List.mem_of_getElem? (i := 200) rfl) rfl
theorem wd_2_201 : Jvm.Cond.constant "java/lang/Integer" (265 : Nat) (1431655765 : Int32) ∈ aWd := aWd_2 (List.mem_of_getElem? (i := 201) rfl) rfl
theorem wd_2_202 : Jvm.Cond.constant "java/lang/Integer" (266 : Nat) (858993459 : Int32) ∈ aWd := aWd_2 (List.mem_of_getElem? (i := 202) rfl) rfl
theorem wd_2_203 : Jvm.Cond.constant "java/lang/Integer" (267 : Nat) (252645135 : Int32) ∈ aWd := aWd_2 (List.mem_of_getElem? (i := 203) rfl) rfl
theorem wd_2_204 : Jvm.Cond.methodLink "ReadAloud" (144 : Nat) ({ cls := "ReadAloud$Heard", name := "deedsLeft", desc := "(I)I" } : Jvm.MethodName) ∈ aWd := aWd_2 (List.mem_of_getElem? (i := 204) rfl) rfl
theorem wd_2_205 : Jvm.Cond.instanceMethod ({ cls := "ReadAloud$Heard", name := "deedsLeft", desc := "(I)I" } : Jvm.MethodName) ∈ aWd := aWd_2 (List.mem_of_getElem? (i := 205) rfl) rfl
theorem wd_2_206 : Jvm.Cond.selects "ReadAloud$Heard" ({ cls := "ReadAloud$Heard", name := "deedsLeft", desc := "(I)I" } : Jvm.MethodName) ({ cls := "ReadAloud$Heard", name := "deedsLeft", desc := "(I)I" } : Jvm.MethodName) ∈ aWd := aWd_2 (List.mem_of_getElem? (i := 206) rfl) rfl
theorem wd_2_207 : Jvm.Cond.code ({ cls := "ReadAloud$Heard", name := "deedsLeft", desc := "(I)I" } : Jvm.MethodName) prog_5_method_6_code (4 : Nat) (Option.some Jvm.ClassFile.FieldType.int) ∈ aWd := aWd_2 (List.mem_of_getElem? (i := 207) rfl) rfl
theorem wd_2_208 : Jvm.Cond.methodLink "ReadAloud" (149 : Nat) ({ cls := "ReadAloud", name := "placeToListen", desc := "(I)I" } : Jvm.MethodName) ∈ aWd := aWd_2 (List.mem_of_getElem? (i := 208) rfl) rfl
theorem wd_2_210 : Jvm.Cond.instanceMethod ({ cls := "ReadAloud", name := "placeToListen", desc := "(I)I" } : Jvm.MethodName) ∈ aWd := aWd_2 (List.mem_of_getElem? (i := 210) rfl) rfl
theorem wd_2_211 : Jvm.Cond.code ({ cls := "ReadAloud", name := "placeToListen", desc := "(I)I" } : Jvm.MethodName) prog_1_method_39_code (8 : Nat) (Option.some Jvm.ClassFile.FieldType.int) ∈ aWd := aWd_2 (List.mem_of_getElem? (i := 211) rfl) rfl
theorem wd_2_212 : Jvm.Cond.methodLink "ReadAloud" (182 : Nat) ({ cls := "ReadAloud", name := "deedsAltering", desc := "(II)I" } : Jvm.MethodName) ∈ aWd := aWd_2 (List.mem_of_getElem? (i := 212) rfl) rfl
theorem wd_2_214 : Jvm.Cond.instanceMethod ({ cls := "ReadAloud", name := "deedsAltering", desc := "(II)I" } : Jvm.MethodName) ∈ aWd := aWd_2 (List.mem_of_getElem? (i := 214) rfl) rfl
theorem wd_2_215 : Jvm.Cond.code ({ cls := "ReadAloud", name := "deedsAltering", desc := "(II)I" } : Jvm.MethodName) prog_1_method_38_code (6 : Nat) (Option.some Jvm.ClassFile.FieldType.int) ∈ aWd := aWd_2 (List.mem_of_getElem? (i := 215) rfl) rfl
theorem wd_2_216 : Jvm.Cond.methodLink "ReadAloud" (253 : Nat) ({ cls := "java/lang/Math", name := "max", desc := "(II)I" } : Jvm.MethodName) ∈ aWd := aWd_2 (List.mem_of_getElem? (i := 216) rfl) rfl
theorem wd_2_219 : Jvm.Cond.methodLink "ReadAloudLaw" (56 : Nat) ({ cls := "ReadAloud", name := "as", desc := "(II)I" } : Jvm.MethodName) ∈ aWd := aWd_2 (List.mem_of_getElem? (i := 219) rfl) rfl
theorem wd_2_220 : Jvm.Cond.instanceMethod ({ cls := "ReadAloud", name := "as", desc := "(II)I" } : Jvm.MethodName) ∈ aWd := aWd_2 (List.mem_of_getElem? (i := 220) rfl) rfl
theorem wd_2_221 : Jvm.Cond.selects "ReadAloud" ({ cls := "ReadAloud", name := "as", desc := "(II)I" } : Jvm.MethodName) ({ cls := "ReadAloud", name := "as", desc := "(II)I" } : Jvm.MethodName) ∈ aWd := aWd_2 (List.mem_of_getElem? (i := 221) rfl) rfl
theorem wd_2_222 : Jvm.Cond.code ({ cls := "ReadAloud", name := "as", desc := "(II)I" } : Jvm.MethodName) prog_1_method_12_code (4 : Nat) (Option.some Jvm.ClassFile.FieldType.int) ∈ aWd := aWd_2 (List.mem_of_getElem? (i := 222) rfl) rfl
theorem wd_2_223 : Jvm.Cond.methodLink "ReadAloud" (152 : Nat) ({ cls := "ReadAloud", name := "isOfKind", desc := "(LReadAloud$Man;I)Z" } : Jvm.MethodName) ∈ aWd := aWd_2 (List.mem_of_getElem? (i := 223) rfl) rfl
theorem wd_2_224 : Jvm.Cond.static ({ cls := "ReadAloud", name := "isOfKind", desc := "(LReadAloud$Man;I)Z" } : Jvm.MethodName) ∈ aWd := aWd_2 (List.mem_of_getElem? (i := 224) rfl) rfl
theorem wd_2_225 : Jvm.Cond.code ({ cls := "ReadAloud", name := "isOfKind", desc := "(LReadAloud$Man;I)Z" } : Jvm.MethodName) prog_1_method_32_code (2 : Nat) (Option.some Jvm.ClassFile.FieldType.boolean) ∈ aWd := aWd_2 (List.mem_of_getElem? (i := 225) rfl) rfl
theorem wd_2_226 : Jvm.Cond.methodLink "ReadAloudLaw" (60 : Nat) ({ cls := "ReadAloud", name := "lesson", desc := "(II)I" } : Jvm.MethodName) ∈ aWd := aWd_2 (List.mem_of_getElem? (i := 226) rfl) rfl
theorem wd_2_227 : Jvm.Cond.instanceMethod ({ cls := "ReadAloud", name := "lesson", desc := "(II)I" } : Jvm.MethodName) ∈ aWd := aWd_2 (List.mem_of_getElem? (i := 227) rfl) rfl
theorem wd_2_228 : Jvm.Cond.selects "ReadAloud" ({ cls := "ReadAloud", name := "lesson", desc := "(II)I" } : Jvm.MethodName) ({ cls := "ReadAloud", name := "lesson", desc := "(II)I" } : Jvm.MethodName) ∈ aWd := aWd_2 (List.mem_of_getElem? (i := 228) rfl) rfl
theorem wd_2_229 : Jvm.Cond.code ({ cls := "ReadAloud", name := "lesson", desc := "(II)I" } : Jvm.MethodName) prog_1_method_13_code (4 : Nat) (Option.some Jvm.ClassFile.FieldType.int) ∈ aWd := aWd_2 (List.mem_of_getElem? (i := 229) rfl) rfl
theorem wd_2_230 : Jvm.Cond.methodLink "ReadAloudLaw" (64 : Nat) ({ cls := "ReadAloud", name := "unlearn", desc := "(I)I" } : Jvm.MethodName) ∈ aWd := aWd_2 (List.mem_of_getElem? (i := 230) rfl) rfl
theorem wd_2_231 : Jvm.Cond.instanceMethod ({ cls := "ReadAloud", name := "unlearn", desc := "(I)I" } : Jvm.MethodName) ∈ aWd := aWd_2 (List.mem_of_getElem? (i := 231) rfl) rfl
theorem wd_2_232 : Jvm.Cond.selects "ReadAloud" ({ cls := "ReadAloud", name := "unlearn", desc := "(I)I" } : Jvm.MethodName) ({ cls := "ReadAloud", name := "unlearn", desc := "(I)I" } : Jvm.MethodName) ∈ aWd := aWd_2 (List.mem_of_getElem? (i := 232) rfl) rfl
theorem wd_2_233 : Jvm.Cond.code ({ cls := "ReadAloud", name := "unlearn", desc := "(I)I" } : Jvm.MethodName) prog_1_method_14_code (3 : Nat) (Option.some Jvm.ClassFile.FieldType.int) ∈ aWd := aWd_2 (List.mem_of_getElem? (i := 233) rfl) rfl
theorem wd_2_234 : Jvm.Cond.methodLink "ReadAloudLaw" (68 : Nat) ({ cls := "ReadAloud", name := "brief", desc := "(I)I" } : Jvm.MethodName) ∈ aWd := aWd_2 (List.mem_of_getElem? (i := 234) rfl) rfl
theorem wd_2_235 : Jvm.Cond.instanceMethod ({ cls := "ReadAloud", name := "brief", desc := "(I)I" } : Jvm.MethodName) ∈ aWd := aWd_2 (List.mem_of_getElem? (i := 235) rfl) rfl
theorem wd_2_236 : Jvm.Cond.selects "ReadAloud" ({ cls := "ReadAloud", name := "brief", desc := "(I)I" } : Jvm.MethodName) ({ cls := "ReadAloud", name := "brief", desc := "(I)I" } : Jvm.MethodName) ∈ aWd := aWd_2 (List.mem_of_getElem? (i := 236) rfl) rfl
theorem wd_2_237 : Jvm.Cond.code ({ cls := "ReadAloud", name := "brief", desc := "(I)I" } : Jvm.MethodName) prog_1_method_15_code (2 : Nat) (Option.some Jvm.ClassFile.FieldType.int) ∈ aWd := aWd_2 (List.mem_of_getElem? (i := 237) rfl) rfl
theorem wd_2_238 : Jvm.Cond.methodLink "ReadAloud" (162 : Nat) ({ cls := "ReadAloud$Brief", name := "seek", desc := "([I)V" } : Jvm.MethodName) ∈ aWd := aWd_2 (List.mem_of_getElem? (i := 238) rfl) rfl
theorem wd_2_239 : Jvm.Cond.instanceMethod ({ cls := "ReadAloud$Brief", name := "seek", desc := "([I)V" } : Jvm.MethodName) ∈ aWd := aWd_2 (List.mem_of_getElem? (i := 239) rfl) rfl
theorem wd_3_0 : Jvm.Cond.selects "ReadAloud$Brief" ({ cls := "ReadAloud$Brief", name := "seek", desc := "([I)V" } : Jvm.MethodName) ({ cls := "ReadAloud$Brief", name := "seek", desc := "([I)V" } : Jvm.MethodName) ∈ aWd := aWd_3 (List.mem_of_getElem? (i := 0) rfl) rfl
theorem wd_3_1 : Jvm.Cond.code ({ cls := "ReadAloud$Brief", name := "seek", desc := "([I)V" } : Jvm.MethodName) prog_4_method_4_code (4 : Nat) (Option.none : Option Jvm.ClassFile.FieldType) ∈ aWd := aWd_3 (List.mem_of_getElem? (i := 1) rfl) rfl
theorem wd_3_2 : Jvm.Cond.methodLink "ReadAloud$Brief" (22 : Nat) ({ cls := "ReadAloud$Brief", name := "pairsToldBy", desc := "(I[I)I" } : Jvm.MethodName) ∈ aWd := aWd_3 (List.mem_of_getElem? (i := 2) rfl) rfl
theorem wd_3_3 : Jvm.Cond.static ({ cls := "ReadAloud$Brief", name := "pairsToldBy", desc := "(I[I)I" } : Jvm.MethodName) ∈ aWd := aWd_3 (List.mem_of_getElem? (i := 3) rfl) rfl
theorem wd_3_4 : Jvm.Cond.code ({ cls := "ReadAloud$Brief", name := "pairsToldBy", desc := "(I[I)I" } : Jvm.MethodName) prog_4_method_5_code (6 : Nat) (Option.some Jvm.ClassFile.FieldType.int) ∈ aWd := aWd_3 (List.mem_of_getElem? (i := 4) rfl) rfl
theorem wd_3_5 : Jvm.Cond.methodLink "ReadAloud$Brief" (26 : Nat) ({ cls := "ReadAloud$Brief", name := "firstSheet", desc := "([IIIII)I" } : Jvm.MethodName) ∈ aWd := aWd_3 (List.mem_of_getElem? (i := 5) rfl) rfl
theorem wd_3_6 : Jvm.Cond.static ({ cls := "ReadAloud$Brief", name := "firstSheet", desc := "([IIIII)I" } : Jvm.MethodName) ∈ aWd := aWd_3 (List.mem_of_getElem? (i := 6) rfl) rfl
theorem wd_3_7 : Jvm.Cond.code ({ cls := "ReadAloud$Brief", name := "firstSheet", desc := "([IIIII)I" } : Jvm.MethodName) prog_4_method_6_code (7 : Nat) (Option.some Jvm.ClassFile.FieldType.int) ∈ aWd := aWd_3 (List.mem_of_getElem? (i := 7) rfl) rfl
theorem wd_3_8 : Jvm.Cond.methodLink "ReadAloud" (166 : Nat) ({ cls := "ReadAloud$Brief", name := "size", desc := "()I" } : Jvm.MethodName) ∈ aWd := aWd_3 (List.mem_of_getElem? (i := 8) rfl) rfl
theorem wd_3_9 : Jvm.Cond.instanceMethod ({ cls := "ReadAloud$Brief", name := "size", desc := "()I" } : Jvm.MethodName) ∈ aWd := aWd_3 (List.mem_of_getElem? (i := 9) rfl) rfl
theorem wd_3_10 : Jvm.Cond.selects "ReadAloud$Brief" ({ cls := "ReadAloud$Brief", name := "size", desc := "()I" } : Jvm.MethodName) ({ cls := "ReadAloud$Brief", name := "size", desc := "()I" } : Jvm.MethodName) ∈ aWd := aWd_3 (List.mem_of_getElem? (i := 10) rfl) rfl
theorem wd_3_11 : Jvm.Cond.code ({ cls := "ReadAloud$Brief", name := "size", desc := "()I" } : Jvm.MethodName) prog_4_method_2_code (1 : Nat) (Option.some Jvm.ClassFile.FieldType.int) ∈ aWd := aWd_3 (List.mem_of_getElem? (i := 11) rfl) rfl
theorem wd_3_12 : Jvm.Cond.methodLink "ReadAloud" (167 : Nat) ({ cls := "ReadAloud$Brief", name := "at", desc := "(I)I" } : Jvm.MethodName) ∈ aWd := aWd_3 (List.mem_of_getElem? (i := 12) rfl) rfl
theorem wd_3_13 : Jvm.Cond.instanceMethod ({ cls := "ReadAloud$Brief", name := "at", desc := "(I)I" } : Jvm.MethodName) ∈ aWd := aWd_3 (List.mem_of_getElem? (i := 13) rfl) rfl
theorem wd_3_14 : Jvm.Cond.selects "ReadAloud$Brief" ({ cls := "ReadAloud$Brief", name := "at", desc := "(I)I" } : Jvm.MethodName) ({ cls := "ReadAloud$Brief", name := "at", desc := "(I)I" } : Jvm.MethodName) ∈ aWd := aWd_3 (List.mem_of_getElem? (i := 14) rfl) rfl
theorem wd_3_15 : Jvm.Cond.code ({ cls := "ReadAloud$Brief", name := "at", desc := "(I)I" } : Jvm.MethodName) prog_4_method_3_code (2 : Nat) (Option.some Jvm.ClassFile.FieldType.int) ∈ aWd := aWd_3 (List.mem_of_getElem? (i := 15) rfl) rfl
theorem wd_3_16 : Jvm.Cond.methodLink "ReadAloudLaw" (72 : Nat) ({ cls := "ReadAloud", name := "hide", desc := "(III)I" } : Jvm.MethodName) ∈ aWd := aWd_3 (List.mem_of_getElem? (i := 16) rfl) rfl
theorem wd_3_17 : Jvm.Cond.instanceMethod ({ cls := "ReadAloud", name := "hide", desc := "(III)I" } : Jvm.MethodName) ∈ aWd := aWd_3 (List.mem_of_getElem? (i := 17) rfl) rfl
theorem wd_3_18 : Jvm.Cond.selects "ReadAloud" ({ cls := "ReadAloud", name := "hide", desc := "(III)I" } : Jvm.MethodName) ({ cls := "ReadAloud", name := "hide", desc := "(III)I" } : Jvm.MethodName) ∈ aWd := aWd_3 (List.mem_of_getElem? (i := 18) rfl) rfl
theorem wd_3_19 : Jvm.Cond.code ({ cls := "ReadAloud", name := "hide", desc := "(III)I" } : Jvm.MethodName) prog_1_method_16_code (6 : Nat) (Option.some Jvm.ClassFile.FieldType.int) ∈ aWd := aWd_3 (List.mem_of_getElem? (i := 19) rfl) rfl
theorem wd_3_20 : Jvm.Cond.methodLink "ReadAloud" (175 : Nat) ({ cls := "ReadAloud", name := "wordsToHide", desc := "(II)I" } : Jvm.MethodName) ∈ aWd := aWd_3 (List.mem_of_getElem? (i := 20) rfl) rfl
theorem wd_3_22 : Jvm.Cond.instanceMethod ({ cls := "ReadAloud", name := "wordsToHide", desc := "(II)I" } : Jvm.MethodName) ∈ aWd := aWd_3 (List.mem_of_getElem? (i := 22) rfl) rfl
theorem wd_3_23 : Jvm.Cond.code ({ cls := "ReadAloud", name := "wordsToHide", desc := "(II)I" } : Jvm.MethodName) prog_1_method_40_code (6 : Nat) (Option.some Jvm.ClassFile.FieldType.int) ∈ aWd := aWd_3 (List.mem_of_getElem? (i := 23) rfl) rfl
theorem wd_3_24 : Jvm.Cond.methodLink "ReadAloud" (258 : Nat) ({ cls := "ReadAloud", name := "heaviestWord", desc := "(I)I" } : Jvm.MethodName) ∈ aWd := aWd_3 (List.mem_of_getElem? (i := 24) rfl) rfl
theorem wd_3_26 : Jvm.Cond.instanceMethod ({ cls := "ReadAloud", name := "heaviestWord", desc := "(I)I" } : Jvm.MethodName) ∈ aWd := aWd_3 (List.mem_of_getElem? (i := 26) rfl) rfl
theorem wd_3_27 : Jvm.Cond.code ({ cls := "ReadAloud", name := "heaviestWord", desc := "(I)I" } : Jvm.MethodName) prog_1_method_41_code (6 : Nat) (Option.some Jvm.ClassFile.FieldType.int) ∈ aWd := aWd_3 (List.mem_of_getElem? (i := 27) rfl) rfl
theorem wd_3_28 : Jvm.Cond.methodLink "ReadAloudLaw" (77 : Nat) ({ cls := "ReadAloud", name := "hear", desc := "(IIZ)I" } : Jvm.MethodName) ∈ aWd := aWd_3 (List.mem_of_getElem? (i := 28) rfl) rfl
theorem wd_3_29 : Jvm.Cond.instanceMethod ({ cls := "ReadAloud", name := "hear", desc := "(IIZ)I" } : Jvm.MethodName) ∈ aWd := aWd_3 (List.mem_of_getElem? (i := 29) rfl) rfl
theorem wd_3_30 : Jvm.Cond.selects "ReadAloud" ({ cls := "ReadAloud", name := "hear", desc := "(IIZ)I" } : Jvm.MethodName) ({ cls := "ReadAloud", name := "hear", desc := "(IIZ)I" } : Jvm.MethodName) ∈ aWd := aWd_3 (List.mem_of_getElem? (i := 30) rfl) rfl
theorem wd_3_31 : Jvm.Cond.code ({ cls := "ReadAloud", name := "hear", desc := "(IIZ)I" } : Jvm.MethodName) prog_1_method_17_code (6 : Nat) (Option.some Jvm.ClassFile.FieldType.int) ∈ aWd := aWd_3 (List.mem_of_getElem? (i := 31) rfl) rfl
theorem wd_3_32 : Jvm.Cond.methodLink "ReadAloud" (185 : Nat) ({ cls := "ReadAloud$Heard", name := "add", desc := "(II)Z" } : Jvm.MethodName) ∈ aWd := aWd_3 (List.mem_of_getElem? (i := 32) rfl) rfl
theorem wd_3_33 : Jvm.Cond.instanceMethod ({ cls := "ReadAloud$Heard", name := "add", desc := "(II)Z" } : Jvm.MethodName) ∈ aWd := aWd_3 (List.mem_of_getElem? (i := 33) rfl) rfl
theorem wd_3_34 : Jvm.Cond.selects "ReadAloud$Heard" ({ cls := "ReadAloud$Heard", name := "add", desc := "(II)Z" } : Jvm.MethodName) ({ cls := "ReadAloud$Heard", name := "add", desc := "(II)Z" } : Jvm.MethodName) ∈ aWd := aWd_3 (List.mem_of_getElem? (i := 34) rfl) rfl
theorem wd_3_35 : Jvm.Cond.code ({ cls := "ReadAloud$Heard", name := "add", desc := "(II)Z" } : Jvm.MethodName) prog_5_method_3_code (3 : Nat) (Option.some Jvm.ClassFile.FieldType.boolean) ∈ aWd := aWd_3 (List.mem_of_getElem? (i := 35) rfl) rfl
theorem wd_3_36 : Jvm.Cond.methodLink "ReadAloud" (188 : Nat) ({ cls := "ReadAloud$Heard", name := "size", desc := "()I" } : Jvm.MethodName) ∈ aWd := aWd_3 (List.mem_of_getElem? (i := 36) rfl) rfl
theorem wd_3_37 : Jvm.Cond.instanceMethod ({ cls := "ReadAloud$Heard", name := "size", desc := "()I" } : Jvm.MethodName) ∈ aWd := aWd_3 (List.mem_of_getElem? (i := 37) rfl) rfl
theorem wd_3_38 : Jvm.Cond.selects "ReadAloud$Heard" ({ cls := "ReadAloud$Heard", name := "size", desc := "()I" } : Jvm.MethodName) ({ cls := "ReadAloud$Heard", name := "size", desc := "()I" } : Jvm.MethodName) ∈ aWd := aWd_3 (List.mem_of_getElem? (i := 38) rfl) rfl
theorem wd_3_39 : Jvm.Cond.code ({ cls := "ReadAloud$Heard", name := "size", desc := "()I" } : Jvm.MethodName) prog_5_method_2_code (1 : Nat) (Option.some Jvm.ClassFile.FieldType.int) ∈ aWd := aWd_3 (List.mem_of_getElem? (i := 39) rfl) rfl
theorem wd_3_40 : Jvm.Cond.methodLink "ReadAloudLaw" (82 : Nat) ({ cls := "ReadAloud", name := "forget", desc := "()I" } : Jvm.MethodName) ∈ aWd := aWd_3 (List.mem_of_getElem? (i := 40) rfl) rfl
theorem wd_3_41 : Jvm.Cond.instanceMethod ({ cls := "ReadAloud", name := "forget", desc := "()I" } : Jvm.MethodName) ∈ aWd := aWd_3 (List.mem_of_getElem? (i := 41) rfl) rfl
theorem wd_3_42 : Jvm.Cond.selects "ReadAloud" ({ cls := "ReadAloud", name := "forget", desc := "()I" } : Jvm.MethodName) ({ cls := "ReadAloud", name := "forget", desc := "()I" } : Jvm.MethodName) ∈ aWd := aWd_3 (List.mem_of_getElem? (i := 42) rfl) rfl
theorem wd_3_43 : Jvm.Cond.code ({ cls := "ReadAloud", name := "forget", desc := "()I" } : Jvm.MethodName) prog_1_method_18_code (2 : Nat) (Option.some Jvm.ClassFile.FieldType.int) ∈ aWd := aWd_3 (List.mem_of_getElem? (i := 43) rfl) rfl
theorem wd_3_44 : Jvm.Cond.methodLink "ReadAloud" (189 : Nat) ({ cls := "ReadAloud$Heard", name := "clear", desc := "()V" } : Jvm.MethodName) ∈ aWd := aWd_3 (List.mem_of_getElem? (i := 44) rfl) rfl
theorem wd_3_45 : Jvm.Cond.methodLink "ReadAloudLaw" (86 : Nat) ({ cls := "ReadAloud", name := "trials", desc := "(III)I" } : Jvm.MethodName) ∈ aWd := aWd_3 (List.mem_of_getElem? (i := 45) rfl) rfl
theorem wd_3_46 : Jvm.Cond.instanceMethod ({ cls := "ReadAloud", name := "trials", desc := "(III)I" } : Jvm.MethodName) ∈ aWd := aWd_3 (List.mem_of_getElem? (i := 46) rfl) rfl
theorem wd_3_47 : Jvm.Cond.selects "ReadAloud" ({ cls := "ReadAloud", name := "trials", desc := "(III)I" } : Jvm.MethodName) ({ cls := "ReadAloud", name := "trials", desc := "(III)I" } : Jvm.MethodName) ∈ aWd := aWd_3 (List.mem_of_getElem? (i := 47) rfl) rfl
theorem wd_3_48 : Jvm.Cond.code ({ cls := "ReadAloud", name := "trials", desc := "(III)I" } : Jvm.MethodName) prog_1_method_19_code (8 : Nat) (Option.some Jvm.ClassFile.FieldType.int) ∈ aWd := aWd_3 (List.mem_of_getElem? (i := 48) rfl) rfl
theorem wd_3_49 : Jvm.Cond.methodLink "ReadAloud" (190 : Nat) ({ cls := "ReadAloud", name := "drawSheet", desc := "(I)I" } : Jvm.MethodName) ∈ aWd := aWd_3 (List.mem_of_getElem? (i := 49) rfl) rfl
theorem wd_3_51 : Jvm.Cond.instanceMethod ({ cls := "ReadAloud", name := "drawSheet", desc := "(I)I" } : Jvm.MethodName) ∈ aWd := aWd_3 (List.mem_of_getElem? (i := 51) rfl) rfl
theorem wd_3_52 : Jvm.Cond.code ({ cls := "ReadAloud", name := "drawSheet", desc := "(I)I" } : Jvm.MethodName) prog_1_method_42_code (4 : Nat) (Option.some Jvm.ClassFile.FieldType.int) ∈ aWd := aWd_3 (List.mem_of_getElem? (i := 52) rfl) rfl
theorem wd_3_53 : Jvm.Cond.methodLink "ReadAloud" (261 : Nat) ({ cls := "ReadAloud$Sheet", name := "clear", desc := "()V" } : Jvm.MethodName) ∈ aWd := aWd_3 (List.mem_of_getElem? (i := 53) rfl) rfl
theorem wd_3_54 : Jvm.Cond.constant "ReadAloud" (262 : Nat) (1103515245 : Int32) ∈ aWd := aWd_3 (List.mem_of_getElem? (i := 54) rfl) rfl
theorem wd_3_55 : Jvm.Cond.constant "ReadAloud" (263 : Nat) (2147483647 : Int32) ∈ aWd := aWd_3 (List.mem_of_getElem? (i := 55) rfl) rfl
theorem wd_3_56 : Jvm.Cond.constant "ReadAloud" (264 : Nat) (65536 : Int32) ∈ aWd := aWd_3 (List.mem_of_getElem? (i := 56) rfl) rfl
theorem wd_3_57 : Jvm.Cond.methodLink "ReadAloud" (193 : Nat) ({ cls := "ReadAloud", name := "hangingAt", desc := "(LReadAloud$Sheet;)I" } : Jvm.MethodName) ∈ aWd := aWd_3 (List.mem_of_getElem? (i := 57) rfl) rfl
theorem wd_3_59 : Jvm.Cond.instanceMethod ({ cls := "ReadAloud", name := "hangingAt", desc := "(LReadAloud$Sheet;)I" } : Jvm.MethodName) ∈ aWd := aWd_3 (List.mem_of_getElem? (i := 59) rfl) rfl
theorem wd_3_60 : Jvm.Cond.code ({ cls := "ReadAloud", name := "hangingAt", desc := "(LReadAloud$Sheet;)I" } : Jvm.MethodName) prog_1_method_36_code (4 : Nat) (Option.some Jvm.ClassFile.FieldType.int) ∈ aWd := aWd_3 (List.mem_of_getElem? (i := 60) rfl) rfl
theorem wd_3_61 : Jvm.Cond.methodLink "ReadAloud" (197 : Nat) ({ cls := "ReadAloud", name := "allAltering", desc := "(LReadAloud$Sheet;)I" } : Jvm.MethodName) ∈ aWd := aWd_3 (List.mem_of_getElem? (i := 61) rfl) rfl
theorem wd_3_63 : Jvm.Cond.instanceMethod ({ cls := "ReadAloud", name := "allAltering", desc := "(LReadAloud$Sheet;)I" } : Jvm.MethodName) ∈ aWd := aWd_3 (List.mem_of_getElem? (i := 63) rfl) rfl
theorem wd_3_64 : Jvm.Cond.code ({ cls := "ReadAloud", name := "allAltering", desc := "(LReadAloud$Sheet;)I" } : Jvm.MethodName) prog_1_method_37_code (4 : Nat) (Option.some Jvm.ClassFile.FieldType.int) ∈ aWd := aWd_3 (List.mem_of_getElem? (i := 64) rfl) rfl
theorem wd_3_65 : Jvm.Cond.methodLink "ReadAloudLaw" (90 : Nat) ({ cls := "ReadAloud", name := "image", desc := "()I" } : Jvm.MethodName) ∈ aWd := aWd_3 (List.mem_of_getElem? (i := 65) rfl) rfl
theorem wd_3_66 : Jvm.Cond.instanceMethod ({ cls := "ReadAloud", name := "image", desc := "()I" } : Jvm.MethodName) ∈ aWd := aWd_3 (List.mem_of_getElem? (i := 66) rfl) rfl
theorem wd_3_67 : Jvm.Cond.selects "ReadAloud" ({ cls := "ReadAloud", name := "image", desc := "()I" } : Jvm.MethodName) ({ cls := "ReadAloud", name := "image", desc := "()I" } : Jvm.MethodName) ∈ aWd := aWd_3 (List.mem_of_getElem? (i := 67) rfl) rfl
theorem wd_3_68 : Jvm.Cond.code ({ cls := "ReadAloud", name := "image", desc := "()I" } : Jvm.MethodName) prog_1_method_20_code (1 : Nat) (Option.some Jvm.ClassFile.FieldType.int) ∈ aWd := aWd_3 (List.mem_of_getElem? (i := 68) rfl) rfl
theorem wd_3_69 : Jvm.Cond.methodLink "ReadAloud" (200 : Nat) ({ cls := "ReadAloud$State", name := "copyFrom", desc := "(LReadAloud$State;)V" } : Jvm.MethodName) ∈ aWd := aWd_3 (List.mem_of_getElem? (i := 69) rfl) rfl
theorem wd_3_70 : Jvm.Cond.instanceMethod ({ cls := "ReadAloud$State", name := "copyFrom", desc := "(LReadAloud$State;)V" } : Jvm.MethodName) ∈ aWd := aWd_3 (List.mem_of_getElem? (i := 70) rfl) rfl
theorem wd_3_71 : Jvm.Cond.selects "ReadAloud$State" ({ cls := "ReadAloud$State", name := "copyFrom", desc := "(LReadAloud$State;)V" } : Jvm.MethodName) ({ cls := "ReadAloud$State", name := "copyFrom", desc := "(LReadAloud$State;)V" } : Jvm.MethodName) ∈ aWd := aWd_3 (List.mem_of_getElem? (i := 71) rfl) rfl
theorem wd_3_72 : Jvm.Cond.code ({ cls := "ReadAloud$State", name := "copyFrom", desc := "(LReadAloud$State;)V" } : Jvm.MethodName) prog_10_method_3_code (2 : Nat) (Option.none : Option Jvm.ClassFile.FieldType) ∈ aWd := aWd_3 (List.mem_of_getElem? (i := 72) rfl) rfl
theorem wd_3_73 : Jvm.Cond.methodLink "ReadAloud$State" (43 : Nat) ({ cls := "ReadAloud$Sheet", name := "copyFrom", desc := "(LReadAloud$Sheet;)V" } : Jvm.MethodName) ∈ aWd := aWd_3 (List.mem_of_getElem? (i := 73) rfl) rfl
theorem wd_3_74 : Jvm.Cond.instanceMethod ({ cls := "ReadAloud$Sheet", name := "copyFrom", desc := "(LReadAloud$Sheet;)V" } : Jvm.MethodName) ∈ aWd := aWd_3 (List.mem_of_getElem? (i := 74) rfl) rfl
theorem wd_3_75 : Jvm.Cond.selects "ReadAloud$Sheet" ({ cls := "ReadAloud$Sheet", name := "copyFrom", desc := "(LReadAloud$Sheet;)V" } : Jvm.MethodName) ({ cls := "ReadAloud$Sheet", name := "copyFrom", desc := "(LReadAloud$Sheet;)V" } : Jvm.MethodName) ∈ aWd := aWd_3 (List.mem_of_getElem? (i := 75) rfl) rfl
theorem wd_3_76 : Jvm.Cond.code ({ cls := "ReadAloud$Sheet", name := "copyFrom", desc := "(LReadAloud$Sheet;)V" } : Jvm.MethodName) prog_8_method_8_code (2 : Nat) (Option.none : Option Jvm.ClassFile.FieldType) ∈ aWd := aWd_3 (List.mem_of_getElem? (i := 76) rfl) rfl
theorem wd_3_77 : Jvm.Cond.methodLink "ReadAloud$Sheet" (23 : Nat) ({ cls := "java/lang/System", name := "arraycopy", desc := "(Ljava/lang/Object;ILjava/lang/Object;II)V" } : Jvm.MethodName) ∈ aWd := aWd_3 (List.mem_of_getElem? (i := 77) rfl) rfl
theorem wd_3_80 : Jvm.Cond.methodLink "ReadAloud$State" (47 : Nat) ({ cls := "ReadAloud$Heard", name := "copyFrom", desc := "(LReadAloud$Heard;)V" } : Jvm.MethodName) ∈ aWd := aWd_3 (List.mem_of_getElem? (i := 80) rfl) rfl
theorem wd_3_81 : Jvm.Cond.instanceMethod ({ cls := "ReadAloud$Heard", name := "copyFrom", desc := "(LReadAloud$Heard;)V" } : Jvm.MethodName) ∈ aWd := aWd_3 (List.mem_of_getElem? (i := 81) rfl) rfl
theorem wd_3_82 : Jvm.Cond.selects "ReadAloud$Heard" ({ cls := "ReadAloud$Heard", name := "copyFrom", desc := "(LReadAloud$Heard;)V" } : Jvm.MethodName) ({ cls := "ReadAloud$Heard", name := "copyFrom", desc := "(LReadAloud$Heard;)V" } : Jvm.MethodName) ∈ aWd := aWd_3 (List.mem_of_getElem? (i := 82) rfl) rfl
theorem wd_3_83 : Jvm.Cond.code ({ cls := "ReadAloud$Heard", name := "copyFrom", desc := "(LReadAloud$Heard;)V" } : Jvm.MethodName) prog_5_method_5_code (2 : Nat) (Option.none : Option Jvm.ClassFile.FieldType) ∈ aWd := aWd_3 (List.mem_of_getElem? (i := 83) rfl) rfl
theorem wd_3_84 : Jvm.Cond.methodLink "ReadAloud$Heard" (22 : Nat) ({ cls := "java/lang/System", name := "arraycopy", desc := "(Ljava/lang/Object;ILjava/lang/Object;II)V" } : Jvm.MethodName) ∈ aWd := aWd_3 (List.mem_of_getElem? (i := 84) rfl) rfl
theorem wd_3_85 : Jvm.Cond.methodLink "ReadAloud$State" (50 : Nat) ({ cls := "java/lang/System", name := "arraycopy", desc := "(Ljava/lang/Object;ILjava/lang/Object;II)V" } : Jvm.MethodName) ∈ aWd := aWd_3 (List.mem_of_getElem? (i := 85) rfl) rfl
theorem wd_3_86 : Jvm.Cond.methodLink "ReadAloudLaw" (94 : Nat) ({ cls := "ReadAloud", name := "restore", desc := "()I" } : Jvm.MethodName) ∈ aWd := aWd_3 (List.mem_of_getElem? (i := 86) rfl) rfl
theorem wd_3_87 : Jvm.Cond.instanceMethod ({ cls := "ReadAloud", name := "restore", desc := "()I" } : Jvm.MethodName) ∈ aWd := aWd_3 (List.mem_of_getElem? (i := 87) rfl) rfl
theorem wd_3_88 : Jvm.Cond.selects "ReadAloud" ({ cls := "ReadAloud", name := "restore", desc := "()I" } : Jvm.MethodName) ({ cls := "ReadAloud", name := "restore", desc := "()I" } : Jvm.MethodName) ∈ aWd := aWd_3 (List.mem_of_getElem? (i := 88) rfl) rfl
theorem wd_3_89 : Jvm.Cond.code ({ cls := "ReadAloud", name := "restore", desc := "()I" } : Jvm.MethodName) prog_1_method_21_code (1 : Nat) (Option.some Jvm.ClassFile.FieldType.int) ∈ aWd := aWd_3 (List.mem_of_getElem? (i := 89) rfl) rfl
theorem wd_3_90 : Jvm.Cond.methodLink "ReadAloudLaw" (98 : Nat) ({ cls := "ReadAloud", name := "count", desc := "(I)I" } : Jvm.MethodName) ∈ aWd := aWd_3 (List.mem_of_getElem? (i := 90) rfl) rfl
theorem wd_3_91 : Jvm.Cond.instanceMethod ({ cls := "ReadAloud", name := "count", desc := "(I)I" } : Jvm.MethodName) ∈ aWd := aWd_3 (List.mem_of_getElem? (i := 91) rfl) rfl
theorem wd_3_92 : Jvm.Cond.selects "ReadAloud" ({ cls := "ReadAloud", name := "count", desc := "(I)I" } : Jvm.MethodName) ({ cls := "ReadAloud", name := "count", desc := "(I)I" } : Jvm.MethodName) ∈ aWd := aWd_3 (List.mem_of_getElem? (i := 92) rfl) rfl
theorem wd_3_93 : Jvm.Cond.code ({ cls := "ReadAloud", name := "count", desc := "(I)I" } : Jvm.MethodName) prog_1_method_22_code (2 : Nat) (Option.some Jvm.ClassFile.FieldType.int) ∈ aWd := aWd_3 (List.mem_of_getElem? (i := 93) rfl) rfl
theorem wd_3_94 : Jvm.Cond.methodLink "ReadAloud" (204 : Nat) ({ cls := "ReadAloud$Sheet", name := "unlikeWords", desc := "()I" } : Jvm.MethodName) ∈ aWd := aWd_3 (List.mem_of_getElem? (i := 94) rfl) rfl
theorem wd_3_95 : Jvm.Cond.instanceMethod ({ cls := "ReadAloud$Sheet", name := "unlikeWords", desc := "()I" } : Jvm.MethodName) ∈ aWd := aWd_3 (List.mem_of_getElem? (i := 95) rfl) rfl
theorem wd_3_96 : Jvm.Cond.selects "ReadAloud$Sheet" ({ cls := "ReadAloud$Sheet", name := "unlikeWords", desc := "()I" } : Jvm.MethodName) ({ cls := "ReadAloud$Sheet", name := "unlikeWords", desc := "()I" } : Jvm.MethodName) ∈ aWd := aWd_3 (List.mem_of_getElem? (i := 96) rfl) rfl
theorem wd_3_97 : Jvm.Cond.code ({ cls := "ReadAloud$Sheet", name := "unlikeWords", desc := "()I" } : Jvm.MethodName) prog_8_method_12_code (3 : Nat) (Option.some Jvm.ClassFile.FieldType.int) ∈ aWd := aWd_3 (List.mem_of_getElem? (i := 97) rfl) rfl
theorem wd_3_98 : Jvm.Cond.methodLink "ReadAloud$Sheet" (29 : Nat) ({ cls := "java/lang/Integer", name := "bitCount", desc := "(I)I" } : Jvm.MethodName) ∈ aWd := aWd_3 (List.mem_of_getElem? (i := 98) rfl) rfl
theorem wd_3_99 : Jvm.Cond.methodLink "ReadAloudLaw" (102 : Nat) ({ cls := "ReadAloud", name := "digest", desc := "()J" } : Jvm.MethodName) ∈ aWd := aWd_3 (List.mem_of_getElem? (i := 99) rfl) rfl
theorem wd_3_100 : Jvm.Cond.instanceMethod ({ cls := "ReadAloud", name := "digest", desc := "()J" } : Jvm.MethodName) ∈ aWd := aWd_3 (List.mem_of_getElem? (i := 100) rfl) rfl
theorem wd_3_101 : Jvm.Cond.selects "ReadAloud" ({ cls := "ReadAloud", name := "digest", desc := "()J" } : Jvm.MethodName) ({ cls := "ReadAloud", name := "digest", desc := "()J" } : Jvm.MethodName) ∈ aWd := aWd_3 (List.mem_of_getElem? (i := 101) rfl) rfl
theorem wd_3_102 : Jvm.Cond.code ({ cls := "ReadAloud", name := "digest", desc := "()J" } : Jvm.MethodName) prog_1_method_23_code (5 : Nat) (Option.some Jvm.ClassFile.FieldType.long) ∈ aWd := aWd_3 (List.mem_of_getElem? (i := 102) rfl) rfl
theorem wd_3_103 : Jvm.Cond.constantLong "ReadAloud" (207 : Nat) (1019 : Int64) ∈ aWd := aWd_3 (List.mem_of_getElem? (i := 103) rfl) rfl
theorem wd_3_104 : Jvm.Cond.constantLong "ReadAloud" (209 : Nat) (31 : Int64) ∈ aWd := aWd_3 (List.mem_of_getElem? (i := 104) rfl) rfl
theorem wd_3_105 : Jvm.Cond.methodLink "ReadAloud" (211 : Nat) ({ cls := "ReadAloud", name := "near", desc := "(I)I" } : Jvm.MethodName) ∈ aWd := aWd_3 (List.mem_of_getElem? (i := 105) rfl) rfl
theorem wd_3_106 : Jvm.Cond.methodLink "ReadAloud" (213 : Nat) ({ cls := "ReadAloud", name := "about", desc := "(II)I" } : Jvm.MethodName) ∈ aWd := aWd_3 (List.mem_of_getElem? (i := 106) rfl) rfl
theorem wd_3_107 : Jvm.Cond.methodLink "ReadAloud" (216 : Nat) ({ cls := "ReadAloud", name := "hide", desc := "(III)I" } : Jvm.MethodName) ∈ aWd := aWd_3 (List.mem_of_getElem? (i := 107) rfl) rfl
theorem wd_3_108 : Jvm.Cond.methodLink "ReadAloud" (223 : Nat) ({ cls := "ReadAloud", name := "count", desc := "(I)I" } : Jvm.MethodName) ∈ aWd := aWd_3 (List.mem_of_getElem? (i := 108) rfl) rfl
theorem wd_3_109 : Jvm.Cond.classLink "ReadAloudLaw" (10 : Nat) "ReadAloudModel" ∈ aWd := aWd_3 (List.mem_of_getElem? (i := 109) rfl) rfl
theorem wd_3_110 : Jvm.Cond.instantiable "ReadAloudModel" (32 : Nat) ∈ aWd := aWd_3 (List.mem_of_getElem? (i := 110) rfl) rfl
theorem wd_3_111 : Jvm.Cond.methodLink "ReadAloudLaw" (12 : Nat) ({ cls := "ReadAloudModel", name := "<init>", desc := "()V" } : Jvm.MethodName) ∈ aWd := aWd_3 (List.mem_of_getElem? (i := 111) rfl) rfl
theorem wd_3_112 : Jvm.Cond.instanceMethod ({ cls := "ReadAloudModel", name := "<init>", desc := "()V" } : Jvm.MethodName) ∈ aWd := aWd_3 (List.mem_of_getElem? (i := 112) rfl) rfl
theorem wd_3_113 : Jvm.Cond.code ({ cls := "ReadAloudModel", name := "<init>", desc := "()V" } : Jvm.MethodName) prog_14_method_1_code (1 : Nat) (Option.none : Option Jvm.ClassFile.FieldType) ∈ aWd := aWd_3 (List.mem_of_getElem? (i := 113) rfl) rfl
theorem wd_3_114 : Jvm.Cond.methodLink "ReadAloudModel" (1 : Nat) ({ cls := "java/lang/Object", name := "<init>", desc := "()V" } : Jvm.MethodName) ∈ aWd := aWd_3 (List.mem_of_getElem? (i := 114) rfl) rfl
theorem wd_3_115 : Jvm.Cond.fieldLink "ReadAloudModel" (7 : Nat) "ReadAloudModel" "page" "[I" ∈ aWd := aWd_3 (List.mem_of_getElem? (i := 115) rfl) rfl
theorem wd_3_116 : Jvm.Cond.fieldLink "ReadAloudModel" (62 : Nat) "ReadAloudModel" "pageMany" "I" ∈ aWd := aWd_3 (List.mem_of_getElem? (i := 116) rfl) rfl
theorem wd_3_117 : Jvm.Cond.fieldLink "ReadAloudModel" (65 : Nat) "ReadAloudModel" "part" "I" ∈ aWd := aWd_3 (List.mem_of_getElem? (i := 117) rfl) rfl
theorem wd_3_118 : Jvm.Cond.fieldLink "ReadAloudModel" (68 : Nat) "ReadAloudModel" "partMany" "I" ∈ aWd := aWd_3 (List.mem_of_getElem? (i := 118) rfl) rfl
theorem wd_3_119 : Jvm.Cond.fieldLink "ReadAloudModel" (71 : Nat) "ReadAloudModel" "lastWord" "I" ∈ aWd := aWd_3 (List.mem_of_getElem? (i := 119) rfl) rfl
theorem wd_3_120 : Jvm.Cond.fieldLink "ReadAloudModel" (13 : Nat) "ReadAloudModel" "readNear" "[I" ∈ aWd := aWd_3 (List.mem_of_getElem? (i := 120) rfl) rfl
theorem wd_3_121 : Jvm.Cond.fieldLink "ReadAloudModel" (16 : Nat) "ReadAloudModel" "readSheet" "[I" ∈ aWd := aWd_3 (List.mem_of_getElem? (i := 121) rfl) rfl
theorem wd_3_122 : Jvm.Cond.fieldLink "ReadAloudModel" (91 : Nat) "ReadAloudModel" "limitNow" "I" ∈ aWd := aWd_3 (List.mem_of_getElem? (i := 122) rfl) rfl
theorem wd_3_123 : Jvm.Cond.fieldLink "ReadAloudModel" (84 : Nat) "ReadAloudModel" "words" "I" ∈ aWd := aWd_3 (List.mem_of_getElem? (i := 123) rfl) rfl
theorem wd_3_124 : Jvm.Cond.fieldLink "ReadAloudModel" (94 : Nat) "ReadAloudModel" "changes" "I" ∈ aWd := aWd_3 (List.mem_of_getElem? (i := 124) rfl) rfl
theorem wd_3_125 : Jvm.Cond.fieldLink "ReadAloudModel" (103 : Nat) "ReadAloudModel" "courtsRead" "I" ∈ aWd := aWd_3 (List.mem_of_getElem? (i := 125) rfl) rfl
theorem wd_3_126 : Jvm.Cond.fieldLink "ReadAloudModel" (19 : Nat) "ReadAloudModel" "nears" "[I" ∈ aWd := aWd_3 (List.mem_of_getElem? (i := 126) rfl) rfl
theorem wd_3_127 : Jvm.Cond.fieldLink "ReadAloudModel" (22 : Nat) "ReadAloudModel" "sheet" "[I" ∈ aWd := aWd_3 (List.mem_of_getElem? (i := 127) rfl) rfl
theorem wd_3_128 : Jvm.Cond.fieldLink "ReadAloudModel" (97 : Nat) "ReadAloudModel" "accused" "I" ∈ aWd := aWd_3 (List.mem_of_getElem? (i := 128) rfl) rfl
theorem wd_3_129 : Jvm.Cond.fieldLink "ReadAloudModel" (25 : Nat) "ReadAloudModel" "rows" "[I" ∈ aWd := aWd_3 (List.mem_of_getElem? (i := 129) rfl) rfl
theorem wd_3_130 : Jvm.Cond.fieldLink "ReadAloudModel" (161 : Nat) "ReadAloudModel" "briefDone" "I" ∈ aWd := aWd_3 (List.mem_of_getElem? (i := 130) rfl) rfl
theorem wd_3_131 : Jvm.Cond.fieldLink "ReadAloudModel" (28 : Nat) "ReadAloudModel" "row" "[I" ∈ aWd := aWd_3 (List.mem_of_getElem? (i := 131) rfl) rfl
theorem wd_3_132 : Jvm.Cond.fieldLink "ReadAloudModel" (31 : Nat) "ReadAloudModel" "heard" "[I" ∈ aWd := aWd_3 (List.mem_of_getElem? (i := 132) rfl) rfl
theorem wd_3_133 : Jvm.Cond.fieldLink "ReadAloudModel" (100 : Nat) "ReadAloudModel" "heardMany" "I" ∈ aWd := aWd_3 (List.mem_of_getElem? (i := 133) rfl) rfl
theorem wd_3_134 : Jvm.Cond.fieldLink "ReadAloudModel" (34 : Nat) "ReadAloudModel" "heards" "[I" ∈ aWd := aWd_3 (List.mem_of_getElem? (i := 134) rfl) rfl
theorem wd_3_135 : Jvm.Cond.fieldLink "ReadAloudModel" (37 : Nat) "ReadAloudModel" "then" "[I" ∈ aWd := aWd_3 (List.mem_of_getElem? (i := 135) rfl) rfl
theorem wd_3_136 : Jvm.Cond.fieldLink "ReadAloudModel" (179 : Nat) "ReadAloudModel" "seedNow" "I" ∈ aWd := aWd_3 (List.mem_of_getElem? (i := 136) rfl) rfl
theorem wd_3_137 : Jvm.Cond.fieldLink "ReadAloudModel" (40 : Nat) "ReadAloudModel" "drawn" "[I" ∈ aWd := aWd_3 (List.mem_of_getElem? (i := 137) rfl) rfl
theorem wd_3_138 : Jvm.Cond.fieldLink "ReadAloudModel" (52 : Nat) "ReadAloudModel" "keptCourt" "I" ∈ aWd := aWd_3 (List.mem_of_getElem? (i := 138) rfl) rfl
theorem wd_3_139 : Jvm.Cond.fieldLink "ReadAloudModel" (194 : Nat) "ReadAloudModel" "keptLimit" "I" ∈ aWd := aWd_3 (List.mem_of_getElem? (i := 139) rfl) rfl
theorem wd_3_140 : Jvm.Cond.fieldLink "ReadAloudModel" (197 : Nat) "ReadAloudModel" "keptAccused" "I" ∈ aWd := aWd_3 (List.mem_of_getElem? (i := 140) rfl) rfl
theorem wd_3_141 : Jvm.Cond.fieldLink "ReadAloudModel" (200 : Nat) "ReadAloudModel" "keptChanges" "I" ∈ aWd := aWd_3 (List.mem_of_getElem? (i := 141) rfl) rfl
theorem wd_3_142 : Jvm.Cond.fieldLink "ReadAloudModel" (203 : Nat) "ReadAloudModel" "keptHeard" "I" ∈ aWd := aWd_3 (List.mem_of_getElem? (i := 142) rfl) rfl
theorem wd_3_143 : Jvm.Cond.fieldLink "ReadAloudModel" (43 : Nat) "ReadAloudModel" "keptSheet" "[I" ∈ aWd := aWd_3 (List.mem_of_getElem? (i := 143) rfl) rfl
theorem wd_3_144 : Jvm.Cond.fieldLink "ReadAloudModel" (46 : Nat) "ReadAloudModel" "keptRows" "[I" ∈ aWd := aWd_3 (List.mem_of_getElem? (i := 144) rfl) rfl
theorem wd_3_145 : Jvm.Cond.fieldLink "ReadAloudModel" (49 : Nat) "ReadAloudModel" "keptHeards" "[I" ∈ aWd := aWd_3 (List.mem_of_getElem? (i := 145) rfl) rfl
theorem wd_3_146 : Jvm.Cond.fieldLink "ReadAloudModel" (217 : Nat) "ReadAloudModel" "hash" "J" ∈ aWd := aWd_3 (List.mem_of_getElem? (i := 146) rfl) rfl
theorem wd_3_147 : Jvm.Cond.laysFinal "ReadAloudModel" "ReadAloudModel" "page" "[I" ∈ aWd := aWd_3 (List.mem_of_getElem? (i := 147) rfl) rfl
theorem wd_3_149 : Jvm.Cond.lays "ReadAloudModel" "ReadAloudModel" "pageMany" "I" ∈ aWd := aWd_3 (List.mem_of_getElem? (i := 149) rfl) rfl
theorem wd_3_151 : Jvm.Cond.lays "ReadAloudModel" "ReadAloudModel" "part" "I" ∈ aWd := aWd_3 (List.mem_of_getElem? (i := 151) rfl) rfl
theorem wd_3_153 : Jvm.Cond.lays "ReadAloudModel" "ReadAloudModel" "partMany" "I" ∈ aWd := aWd_3 (List.mem_of_getElem? (i := 153) rfl) rfl
theorem wd_3_155 : Jvm.Cond.lays "ReadAloudModel" "ReadAloudModel" "lastWord" "I" ∈ aWd := aWd_3 (List.mem_of_getElem? (i := 155) rfl) rfl
theorem wd_3_157 : Jvm.Cond.laysFinal "ReadAloudModel" "ReadAloudModel" "readNear" "[I" ∈ aWd := aWd_3 (List.mem_of_getElem? (i := 157) rfl) rfl
theorem wd_3_159 : Jvm.Cond.laysFinal "ReadAloudModel" "ReadAloudModel" "readSheet" "[I" ∈ aWd := aWd_3 (List.mem_of_getElem? (i := 159) rfl) rfl
theorem wd_3_161 : Jvm.Cond.lays "ReadAloudModel" "ReadAloudModel" "limitNow" "I" ∈ aWd := aWd_3 (List.mem_of_getElem? (i := 161) rfl) rfl
theorem wd_3_163 : Jvm.Cond.lays "ReadAloudModel" "ReadAloudModel" "words" "I" ∈ aWd := aWd_3 (List.mem_of_getElem? (i := 163) rfl) rfl
theorem wd_3_165 : Jvm.Cond.lays "ReadAloudModel" "ReadAloudModel" "changes" "I" ∈ aWd := aWd_3 (List.mem_of_getElem? (i := 165) rfl) rfl
theorem wd_3_167 : Jvm.Cond.lays "ReadAloudModel" "ReadAloudModel" "courtsRead" "I" ∈ aWd := aWd_3 (List.mem_of_getElem? (i := 167) rfl) rfl
theorem wd_3_169 : Jvm.Cond.laysFinal "ReadAloudModel" "ReadAloudModel" "nears" "[I" ∈ aWd := aWd_3 (List.mem_of_getElem? (i := 169) rfl) rfl
theorem wd_3_171 : Jvm.Cond.laysFinal "ReadAloudModel" "ReadAloudModel" "sheet" "[I" ∈ aWd := aWd_3 (List.mem_of_getElem? (i := 171) rfl) rfl
theorem wd_3_173 : Jvm.Cond.lays "ReadAloudModel" "ReadAloudModel" "accused" "I" ∈ aWd := aWd_3 (List.mem_of_getElem? (i := 173) rfl) rfl
theorem wd_3_175 : Jvm.Cond.laysFinal "ReadAloudModel" "ReadAloudModel" "rows" "[I" ∈ aWd := aWd_3 (List.mem_of_getElem? (i := 175) rfl) rfl
theorem wd_3_177 : Jvm.Cond.lays "ReadAloudModel" "ReadAloudModel" "briefDone" "I" ∈ aWd := aWd_3 (List.mem_of_getElem? (i := 177) rfl) rfl
theorem wd_3_179 : Jvm.Cond.laysFinal "ReadAloudModel" "ReadAloudModel" "row" "[I" ∈ aWd := aWd_3 (List.mem_of_getElem? (i := 179) rfl) rfl
theorem wd_3_181 : Jvm.Cond.laysFinal "ReadAloudModel" "ReadAloudModel" "heard" "[I" ∈ aWd := aWd_3 (List.mem_of_getElem? (i := 181) rfl) rfl
theorem wd_3_183 : Jvm.Cond.lays "ReadAloudModel" "ReadAloudModel" "heardMany" "I" ∈ aWd := aWd_3 (List.mem_of_getElem? (i := 183) rfl) rfl
theorem wd_3_185 : Jvm.Cond.laysFinal "ReadAloudModel" "ReadAloudModel" "heards" "[I" ∈ aWd := aWd_3 (List.mem_of_getElem? (i := 185) rfl) rfl
theorem wd_3_187 : Jvm.Cond.laysFinal "ReadAloudModel" "ReadAloudModel" "then" "[I" ∈ aWd := aWd_3 (List.mem_of_getElem? (i := 187) rfl) rfl
theorem wd_3_189 : Jvm.Cond.lays "ReadAloudModel" "ReadAloudModel" "seedNow" "I" ∈ aWd := aWd_3 (List.mem_of_getElem? (i := 189) rfl) rfl
theorem wd_3_191 : Jvm.Cond.laysFinal "ReadAloudModel" "ReadAloudModel" "drawn" "[I" ∈ aWd := aWd_3 (List.mem_of_getElem? (i := 191) rfl) rfl
theorem wd_3_193 : Jvm.Cond.lays "ReadAloudModel" "ReadAloudModel" "keptCourt" "I" ∈ aWd := aWd_3 (List.mem_of_getElem? (i := 193) rfl) rfl
theorem wd_3_195 : Jvm.Cond.lays "ReadAloudModel" "ReadAloudModel" "keptLimit" "I" ∈ aWd := aWd_3 (List.mem_of_getElem? (i := 195) rfl) rfl
theorem wd_3_197 : Jvm.Cond.lays "ReadAloudModel" "ReadAloudModel" "keptAccused" "I" ∈ aWd := aWd_3 (List.mem_of_getElem? (i := 197) rfl) rfl
theorem wd_3_199 : Jvm.Cond.lays "ReadAloudModel" "ReadAloudModel" "keptChanges" "I" ∈ aWd := aWd_3 (List.mem_of_getElem? (i := 199) rfl) rfl
theorem wd_3_201 : Jvm.Cond.lays "ReadAloudModel" "ReadAloudModel" "keptHeard" "I" ∈ aWd := aWd_3 (List.mem_of_getElem? (i := 201) rfl) rfl
theorem wd_3_203 : Jvm.Cond.laysFinal "ReadAloudModel" "ReadAloudModel" "keptSheet" "[I" ∈ aWd := aWd_3 (List.mem_of_getElem? (i := 203) rfl) rfl
theorem wd_3_205 : Jvm.Cond.laysFinal "ReadAloudModel" "ReadAloudModel" "keptRows" "[I" ∈ aWd := aWd_3 (List.mem_of_getElem? (i := 205) rfl) rfl
theorem wd_3_207 : Jvm.Cond.laysFinal "ReadAloudModel" "ReadAloudModel" "keptHeards" "[I" ∈ aWd := aWd_3 (List.mem_of_getElem? (i := 207) rfl) rfl
theorem wd_3_209 : Jvm.Cond.lays "ReadAloudModel" "ReadAloudModel" "hash" "J" ∈ aWd := aWd_3 (List.mem_of_getElem? (i := 209) rfl) rfl
theorem wd_3_212 : Jvm.Cond.methodLink "ReadAloudLaw" (17 : Nat) ({ cls := "ReadAloudModel", name := "letter", desc := "(I)I" } : Jvm.MethodName) ∈ aWd := aWd_3 (List.mem_of_getElem? (i := 212) rfl) rfl
theorem wd_3_213 : Jvm.Cond.instanceMethod ({ cls := "ReadAloudModel", name := "letter", desc := "(I)I" } : Jvm.MethodName) ∈ aWd := aWd_3 (List.mem_of_getElem? (i := 213) rfl) rfl
theorem wd_3_214 : Jvm.Cond.selects "ReadAloudModel" ({ cls := "ReadAloudModel", name := "letter", desc := "(I)I" } : Jvm.MethodName) ({ cls := "ReadAloudModel", name := "letter", desc := "(I)I" } : Jvm.MethodName) ∈ aWd := aWd_3 (List.mem_of_getElem? (i := 214) rfl) rfl
theorem wd_3_215 : Jvm.Cond.code ({ cls := "ReadAloudModel", name := "letter", desc := "(I)I" } : Jvm.MethodName) prog_14_method_5_code (2 : Nat) (Option.some Jvm.ClassFile.FieldType.int) ∈ aWd := aWd_3 (List.mem_of_getElem? (i := 215) rfl) rfl
theorem wd_3_216 : Jvm.Cond.constantLong "ReadAloudModel" (56 : Nat) (126 : Int64) ∈ aWd := aWd_3 (List.mem_of_getElem? (i := 216) rfl) rfl
theorem wd_3_217 : Jvm.Cond.methodLink "ReadAloudModel" (58 : Nat) ({ cls := "ReadAloudModel", name := "in", desc := "(JJJ)Z" } : Jvm.MethodName) ∈ aWd := aWd_3 (List.mem_of_getElem? (i := 217) rfl) rfl
theorem wd_3_218 : Jvm.Cond.static ({ cls := "ReadAloudModel", name := "in", desc := "(JJJ)Z" } : Jvm.MethodName) ∈ aWd := aWd_3 (List.mem_of_getElem? (i := 218) rfl) rfl
theorem wd_3_219 : Jvm.Cond.code ({ cls := "ReadAloudModel", name := "in", desc := "(JJJ)Z" } : Jvm.MethodName) prog_14_method_2_code (6 : Nat) (Option.some Jvm.ClassFile.FieldType.boolean) ∈ aWd := aWd_3 (List.mem_of_getElem? (i := 219) rfl) rfl
theorem wd_3_220 : Jvm.Cond.methodLink "ReadAloudLaw" (22 : Nat) ({ cls := "ReadAloudModel", name := "blank", desc := "()I" } : Jvm.MethodName) ∈ aWd := aWd_3 (List.mem_of_getElem? (i := 220) rfl) rfl
theorem wd_3_221 : Jvm.Cond.instanceMethod ({ cls := "ReadAloudModel", name := "blank", desc := "()I" } : Jvm.MethodName) ∈ aWd := aWd_3 (List.mem_of_getElem? (i := 221) rfl) rfl
theorem wd_3_222 : Jvm.Cond.selects "ReadAloudModel" ({ cls := "ReadAloudModel", name := "blank", desc := "()I" } : Jvm.MethodName) ({ cls := "ReadAloudModel", name := "blank", desc := "()I" } : Jvm.MethodName) ∈ aWd := aWd_3 (List.mem_of_getElem? (i := 222) rfl) rfl
theorem wd_3_223 : Jvm.Cond.code ({ cls := "ReadAloudModel", name := "blank", desc := "()I" } : Jvm.MethodName) prog_14_method_6_code (2 : Nat) (Option.some Jvm.ClassFile.FieldType.int) ∈ aWd := aWd_3 (List.mem_of_getElem? (i := 223) rfl) rfl
theorem wd_3_224 : Jvm.Cond.methodLink "ReadAloudLaw" (26 : Nat) ({ cls := "ReadAloudModel", name := "fault", desc := "()I" } : Jvm.MethodName) ∈ aWd := aWd_3 (List.mem_of_getElem? (i := 224) rfl) rfl
theorem wd_3_225 : Jvm.Cond.instanceMethod ({ cls := "ReadAloudModel", name := "fault", desc := "()I" } : Jvm.MethodName) ∈ aWd := aWd_3 (List.mem_of_getElem? (i := 225) rfl) rfl
theorem wd_3_226 : Jvm.Cond.selects "ReadAloudModel" ({ cls := "ReadAloudModel", name := "fault", desc := "()I" } : Jvm.MethodName) ({ cls := "ReadAloudModel", name := "fault", desc := "()I" } : Jvm.MethodName) ∈ aWd := aWd_3 (List.mem_of_getElem? (i := 226) rfl) rfl
theorem wd_3_227 : Jvm.Cond.code ({ cls := "ReadAloudModel", name := "fault", desc := "()I" } : Jvm.MethodName) prog_14_method_9_code (1 : Nat) (Option.some Jvm.ClassFile.FieldType.int) ∈ aWd := aWd_3 (List.mem_of_getElem? (i := 227) rfl) rfl
theorem wd_3_228 : Jvm.Cond.methodLink "ReadAloudModel" (80 : Nat) ({ cls := "ReadAloudModel", name := "faultOf", desc := "()I" } : Jvm.MethodName) ∈ aWd := aWd_3 (List.mem_of_getElem? (i := 228) rfl) rfl
theorem wd_3_230 : Jvm.Cond.instanceMethod ({ cls := "ReadAloudModel", name := "faultOf", desc := "()I" } : Jvm.MethodName) ∈ aWd := aWd_3 (List.mem_of_getElem? (i := 230) rfl) rfl
theorem wd_3_231 : Jvm.Cond.code ({ cls := "ReadAloudModel", name := "faultOf", desc := "()I" } : Jvm.MethodName) prog_14_method_8_code (2 : Nat) (Option.some Jvm.ClassFile.FieldType.int) ∈ aWd := aWd_3 (List.mem_of_getElem? (i := 231) rfl) rfl
theorem wd_3_232 : Jvm.Cond.methodLink "ReadAloudModel" (76 : Nat) ({ cls := "ReadAloudModel", name := "go", desc := "(I)Z" } : Jvm.MethodName) ∈ aWd := aWd_3 (List.mem_of_getElem? (i := 232) rfl) rfl
theorem wd_3_234 : Jvm.Cond.instanceMethod ({ cls := "ReadAloudModel", name := "go", desc := "(I)Z" } : Jvm.MethodName) ∈ aWd := aWd_3 (List.mem_of_getElem? (i := 234) rfl) rfl
theorem wd_3_235 : Jvm.Cond.code ({ cls := "ReadAloudModel", name := "go", desc := "(I)Z" } : Jvm.MethodName) prog_14_method_7_code (4 : Nat) (Option.some Jvm.ClassFile.FieldType.boolean) ∈ aWd := aWd_3 (List.mem_of_getElem? (i := 235) rfl) rfl
theorem wd_3_236 : Jvm.Cond.constantLong "ReadAloudModel" (74 : Nat) (7 : Int64) ∈ aWd := aWd_3 (List.mem_of_getElem? (i := 236) rfl) rfl
theorem wd_3_237 : Jvm.Cond.methodLink "ReadAloudLaw" (30 : Nat) ({ cls := "ReadAloudModel", name := "court", desc := "()I" } : Jvm.MethodName) ∈ aWd := aWd_3 (List.mem_of_getElem? (i := 237) rfl) rfl
theorem wd_3_238 : Jvm.Cond.instanceMethod ({ cls := "ReadAloudModel", name := "court", desc := "()I" } : Jvm.MethodName) ∈ aWd := aWd_3 (List.mem_of_getElem? (i := 238) rfl) rfl
theorem wd_3_239 : Jvm.Cond.selects "ReadAloudModel" ({ cls := "ReadAloudModel", name := "court", desc := "()I" } : Jvm.MethodName) ({ cls := "ReadAloudModel", name := "court", desc := "()I" } : Jvm.MethodName) ∈ aWd := aWd_3 (List.mem_of_getElem? (i := 239) rfl) rfl
theorem wd_4_0 : Jvm.Cond.code ({ cls := "ReadAloudModel", name := "court", desc := "()I" } : Jvm.MethodName) prog_14_method_10_code (1 : Nat) (Option.some Jvm.ClassFile.FieldType.int) ∈ aWd := aWd_4 (List.mem_of_getElem? (i := 0) rfl) rfl
theorem wd_4_1 : Jvm.Cond.methodLink "ReadAloudModel" (87 : Nat) ({ cls := "ReadAloudModel", name := "copy", desc := "([I[I)V" } : Jvm.MethodName) ∈ aWd := aWd_4 (List.mem_of_getElem? (i := 1) rfl) rfl
theorem wd_4_2 : Jvm.Cond.static ({ cls := "ReadAloudModel", name := "copy", desc := "([I[I)V" } : Jvm.MethodName) ∈ aWd := aWd_4 (List.mem_of_getElem? (i := 2) rfl) rfl
theorem wd_4_3 : Jvm.Cond.code ({ cls := "ReadAloudModel", name := "copy", desc := "([I[I)V" } : Jvm.MethodName) prog_14_method_3_code (3 : Nat) (Option.none : Option Jvm.ClassFile.FieldType) ∈ aWd := aWd_4 (List.mem_of_getElem? (i := 3) rfl) rfl
theorem wd_4_4 : Jvm.Cond.methodLink "ReadAloudLaw" (34 : Nat) ({ cls := "ReadAloudModel", name := "near", desc := "(I)I" } : Jvm.MethodName) ∈ aWd := aWd_4 (List.mem_of_getElem? (i := 4) rfl) rfl
theorem wd_4_5 : Jvm.Cond.instanceMethod ({ cls := "ReadAloudModel", name := "near", desc := "(I)I" } : Jvm.MethodName) ∈ aWd := aWd_4 (List.mem_of_getElem? (i := 5) rfl) rfl
theorem wd_4_6 : Jvm.Cond.selects "ReadAloudModel" ({ cls := "ReadAloudModel", name := "near", desc := "(I)I" } : Jvm.MethodName) ({ cls := "ReadAloudModel", name := "near", desc := "(I)I" } : Jvm.MethodName) ∈ aWd := aWd_4 (List.mem_of_getElem? (i := 6) rfl) rfl
theorem wd_4_7 : Jvm.Cond.code ({ cls := "ReadAloudModel", name := "near", desc := "(I)I" } : Jvm.MethodName) prog_14_method_13_code (2 : Nat) (Option.some Jvm.ClassFile.FieldType.int) ∈ aWd := aWd_4 (List.mem_of_getElem? (i := 7) rfl) rfl
theorem wd_4_8 : Jvm.Cond.methodLink "ReadAloudModel" (106 : Nat) ({ cls := "ReadAloudModel", name := "lacks", desc := "()Z" } : Jvm.MethodName) ∈ aWd := aWd_4 (List.mem_of_getElem? (i := 8) rfl) rfl
theorem wd_4_10 : Jvm.Cond.instanceMethod ({ cls := "ReadAloudModel", name := "lacks", desc := "()Z" } : Jvm.MethodName) ∈ aWd := aWd_4 (List.mem_of_getElem? (i := 10) rfl) rfl
theorem wd_4_11 : Jvm.Cond.code ({ cls := "ReadAloudModel", name := "lacks", desc := "()Z" } : Jvm.MethodName) prog_14_method_11_code (1 : Nat) (Option.some Jvm.ClassFile.FieldType.boolean) ∈ aWd := aWd_4 (List.mem_of_getElem? (i := 11) rfl) rfl
theorem wd_4_12 : Jvm.Cond.constantLong "ReadAloudModel" (110 : Nat) (4 : Int64) ∈ aWd := aWd_4 (List.mem_of_getElem? (i := 12) rfl) rfl
theorem wd_4_13 : Jvm.Cond.methodLink "ReadAloudLaw" (38 : Nat) ({ cls := "ReadAloudModel", name := "word", desc := "(I)I" } : Jvm.MethodName) ∈ aWd := aWd_4 (List.mem_of_getElem? (i := 13) rfl) rfl
theorem wd_4_14 : Jvm.Cond.instanceMethod ({ cls := "ReadAloudModel", name := "word", desc := "(I)I" } : Jvm.MethodName) ∈ aWd := aWd_4 (List.mem_of_getElem? (i := 14) rfl) rfl
theorem wd_4_15 : Jvm.Cond.selects "ReadAloudModel" ({ cls := "ReadAloudModel", name := "word", desc := "(I)I" } : Jvm.MethodName) ({ cls := "ReadAloudModel", name := "word", desc := "(I)I" } : Jvm.MethodName) ∈ aWd := aWd_4 (List.mem_of_getElem? (i := 15) rfl) rfl
theorem wd_4_16 : Jvm.Cond.code ({ cls := "ReadAloudModel", name := "word", desc := "(I)I" } : Jvm.MethodName) prog_14_method_14_code (2 : Nat) (Option.some Jvm.ClassFile.FieldType.int) ∈ aWd := aWd_4 (List.mem_of_getElem? (i := 16) rfl) rfl
theorem wd_4_17 : Jvm.Cond.methodLink "ReadAloudModel" (112 : Nat) ({ cls := "ReadAloudModel", name := "isPlace", desc := "(I)Z" } : Jvm.MethodName) ∈ aWd := aWd_4 (List.mem_of_getElem? (i := 17) rfl) rfl
theorem wd_4_19 : Jvm.Cond.instanceMethod ({ cls := "ReadAloudModel", name := "isPlace", desc := "(I)Z" } : Jvm.MethodName) ∈ aWd := aWd_4 (List.mem_of_getElem? (i := 19) rfl) rfl
theorem wd_4_20 : Jvm.Cond.code ({ cls := "ReadAloudModel", name := "isPlace", desc := "(I)Z" } : Jvm.MethodName) prog_14_method_12_code (2 : Nat) (Option.some Jvm.ClassFile.FieldType.boolean) ∈ aWd := aWd_4 (List.mem_of_getElem? (i := 20) rfl) rfl
theorem wd_4_21 : Jvm.Cond.methodLink "ReadAloudLaw" (43 : Nat) ({ cls := "ReadAloudModel", name := "put", desc := "(II)I" } : Jvm.MethodName) ∈ aWd := aWd_4 (List.mem_of_getElem? (i := 21) rfl) rfl
theorem wd_4_22 : Jvm.Cond.instanceMethod ({ cls := "ReadAloudModel", name := "put", desc := "(II)I" } : Jvm.MethodName) ∈ aWd := aWd_4 (List.mem_of_getElem? (i := 22) rfl) rfl
theorem wd_4_23 : Jvm.Cond.selects "ReadAloudModel" ({ cls := "ReadAloudModel", name := "put", desc := "(II)I" } : Jvm.MethodName) ({ cls := "ReadAloudModel", name := "put", desc := "(II)I" } : Jvm.MethodName) ∈ aWd := aWd_4 (List.mem_of_getElem? (i := 23) rfl) rfl
theorem wd_4_24 : Jvm.Cond.code ({ cls := "ReadAloudModel", name := "put", desc := "(II)I" } : Jvm.MethodName) prog_14_method_15_code (4 : Nat) (Option.some Jvm.ClassFile.FieldType.int) ∈ aWd := aWd_4 (List.mem_of_getElem? (i := 24) rfl) rfl
theorem wd_4_25 : Jvm.Cond.methodLink "ReadAloudLaw" (47 : Nat) ({ cls := "ReadAloudModel", name := "limit", desc := "(I)I" } : Jvm.MethodName) ∈ aWd := aWd_4 (List.mem_of_getElem? (i := 25) rfl) rfl
theorem wd_4_26 : Jvm.Cond.instanceMethod ({ cls := "ReadAloudModel", name := "limit", desc := "(I)I" } : Jvm.MethodName) ∈ aWd := aWd_4 (List.mem_of_getElem? (i := 26) rfl) rfl
theorem wd_4_27 : Jvm.Cond.selects "ReadAloudModel" ({ cls := "ReadAloudModel", name := "limit", desc := "(I)I" } : Jvm.MethodName) ({ cls := "ReadAloudModel", name := "limit", desc := "(I)I" } : Jvm.MethodName) ∈ aWd := aWd_4 (List.mem_of_getElem? (i := 27) rfl) rfl
theorem wd_4_28 : Jvm.Cond.code ({ cls := "ReadAloudModel", name := "limit", desc := "(I)I" } : Jvm.MethodName) prog_14_method_16_code (3 : Nat) (Option.some Jvm.ClassFile.FieldType.int) ∈ aWd := aWd_4 (List.mem_of_getElem? (i := 28) rfl) rfl
theorem wd_4_29 : Jvm.Cond.constantLong "ReadAloudModel" (115 : Nat) (10 : Int64) ∈ aWd := aWd_4 (List.mem_of_getElem? (i := 29) rfl) rfl
theorem wd_4_30 : Jvm.Cond.methodLink "ReadAloudLaw" (51 : Nat) ({ cls := "ReadAloudModel", name := "accuse", desc := "(II)I" } : Jvm.MethodName) ∈ aWd := aWd_4 (List.mem_of_getElem? (i := 30) rfl) rfl
theorem wd_4_31 : Jvm.Cond.instanceMethod ({ cls := "ReadAloudModel", name := "accuse", desc := "(II)I" } : Jvm.MethodName) ∈ aWd := aWd_4 (List.mem_of_getElem? (i := 31) rfl) rfl
theorem wd_4_32 : Jvm.Cond.selects "ReadAloudModel" ({ cls := "ReadAloudModel", name := "accuse", desc := "(II)I" } : Jvm.MethodName) ({ cls := "ReadAloudModel", name := "accuse", desc := "(II)I" } : Jvm.MethodName) ∈ aWd := aWd_4 (List.mem_of_getElem? (i := 32) rfl) rfl
theorem wd_4_33 : Jvm.Cond.code ({ cls := "ReadAloudModel", name := "accuse", desc := "(II)I" } : Jvm.MethodName) prog_14_method_22_code (3 : Nat) (Option.some Jvm.ClassFile.FieldType.int) ∈ aWd := aWd_4 (List.mem_of_getElem? (i := 33) rfl) rfl
theorem wd_4_34 : Jvm.Cond.methodLink "ReadAloudLaw" (55 : Nat) ({ cls := "ReadAloudModel", name := "about", desc := "(II)I" } : Jvm.MethodName) ∈ aWd := aWd_4 (List.mem_of_getElem? (i := 34) rfl) rfl
theorem wd_4_35 : Jvm.Cond.instanceMethod ({ cls := "ReadAloudModel", name := "about", desc := "(II)I" } : Jvm.MethodName) ∈ aWd := aWd_4 (List.mem_of_getElem? (i := 35) rfl) rfl
theorem wd_4_36 : Jvm.Cond.selects "ReadAloudModel" ({ cls := "ReadAloudModel", name := "about", desc := "(II)I" } : Jvm.MethodName) ({ cls := "ReadAloudModel", name := "about", desc := "(II)I" } : Jvm.MethodName) ∈ aWd := aWd_4 (List.mem_of_getElem? (i := 36) rfl) rfl
theorem wd_4_37 : Jvm.Cond.code ({ cls := "ReadAloudModel", name := "about", desc := "(II)I" } : Jvm.MethodName) prog_14_method_26_code (3 : Nat) (Option.some Jvm.ClassFile.FieldType.int) ∈ aWd := aWd_4 (List.mem_of_getElem? (i := 37) rfl) rfl
theorem wd_4_38 : Jvm.Cond.methodLink "ReadAloudModel" (149 : Nat) ({ cls := "ReadAloudModel", name := "isAccused", desc := "(I)Z" } : Jvm.MethodName) ∈ aWd := aWd_4 (List.mem_of_getElem? (i := 38) rfl) rfl
theorem wd_4_40 : Jvm.Cond.instanceMethod ({ cls := "ReadAloudModel", name := "isAccused", desc := "(I)Z" } : Jvm.MethodName) ∈ aWd := aWd_4 (List.mem_of_getElem? (i := 40) rfl) rfl
theorem wd_4_41 : Jvm.Cond.code ({ cls := "ReadAloudModel", name := "isAccused", desc := "(I)Z" } : Jvm.MethodName) prog_14_method_21_code (2 : Nat) (Option.some Jvm.ClassFile.FieldType.boolean) ∈ aWd := aWd_4 (List.mem_of_getElem? (i := 41) rfl) rfl
theorem wd_4_42 : Jvm.Cond.methodLink "ReadAloudModel" (152 : Nat) ({ cls := "ReadAloudModel", name := "tell", desc := "(II)I" } : Jvm.MethodName) ∈ aWd := aWd_4 (List.mem_of_getElem? (i := 42) rfl) rfl
theorem wd_4_44 : Jvm.Cond.instanceMethod ({ cls := "ReadAloudModel", name := "tell", desc := "(II)I" } : Jvm.MethodName) ∈ aWd := aWd_4 (List.mem_of_getElem? (i := 44) rfl) rfl
theorem wd_4_45 : Jvm.Cond.code ({ cls := "ReadAloudModel", name := "tell", desc := "(II)I" } : Jvm.MethodName) prog_14_method_25_code (3 : Nat) (Option.some Jvm.ClassFile.FieldType.int) ∈ aWd := aWd_4 (List.mem_of_getElem? (i := 45) rfl) rfl
theorem wd_4_46 : Jvm.Cond.methodLink "ReadAloudModel" (133 : Nat) ({ cls := "ReadAloudModel", name := "altersOf", desc := "(I)I" } : Jvm.MethodName) ∈ aWd := aWd_4 (List.mem_of_getElem? (i := 46) rfl) rfl
theorem wd_4_48 : Jvm.Cond.instanceMethod ({ cls := "ReadAloudModel", name := "altersOf", desc := "(I)I" } : Jvm.MethodName) ∈ aWd := aWd_4 (List.mem_of_getElem? (i := 48) rfl) rfl
theorem wd_4_49 : Jvm.Cond.code ({ cls := "ReadAloudModel", name := "altersOf", desc := "(I)I" } : Jvm.MethodName) prog_14_method_23_code (2 : Nat) (Option.some Jvm.ClassFile.FieldType.int) ∈ aWd := aWd_4 (List.mem_of_getElem? (i := 49) rfl) rfl
theorem wd_4_50 : Jvm.Cond.methodLink "ReadAloudModel" (129 : Nat) ({ cls := "ReadAloudModel", name := "altersOn", desc := "(III[II)I" } : Jvm.MethodName) ∈ aWd := aWd_4 (List.mem_of_getElem? (i := 50) rfl) rfl
theorem wd_4_52 : Jvm.Cond.instanceMethod ({ cls := "ReadAloudModel", name := "altersOn", desc := "(III[II)I" } : Jvm.MethodName) ∈ aWd := aWd_4 (List.mem_of_getElem? (i := 52) rfl) rfl
theorem wd_4_53 : Jvm.Cond.code ({ cls := "ReadAloudModel", name := "altersOn", desc := "(III[II)I" } : Jvm.MethodName) prog_14_method_20_code (8 : Nat) (Option.some Jvm.ClassFile.FieldType.int) ∈ aWd := aWd_4 (List.mem_of_getElem? (i := 53) rfl) rfl
theorem wd_4_54 : Jvm.Cond.methodLink "ReadAloudModel" (125 : Nat) ({ cls := "ReadAloudModel", name := "alters", desc := "(III[II)Z" } : Jvm.MethodName) ∈ aWd := aWd_4 (List.mem_of_getElem? (i := 54) rfl) rfl
theorem wd_4_56 : Jvm.Cond.instanceMethod ({ cls := "ReadAloudModel", name := "alters", desc := "(III[II)Z" } : Jvm.MethodName) ∈ aWd := aWd_4 (List.mem_of_getElem? (i := 56) rfl) rfl
theorem wd_4_57 : Jvm.Cond.code ({ cls := "ReadAloudModel", name := "alters", desc := "(III[II)Z" } : Jvm.MethodName) prog_14_method_19_code (7 : Nat) (Option.some Jvm.ClassFile.FieldType.boolean) ∈ aWd := aWd_4 (List.mem_of_getElem? (i := 57) rfl) rfl
theorem wd_4_58 : Jvm.Cond.methodLink "ReadAloudModel" (117 : Nat) ({ cls := "ReadAloudModel", name := "isNear", desc := "(II)Z" } : Jvm.MethodName) ∈ aWd := aWd_4 (List.mem_of_getElem? (i := 58) rfl) rfl
theorem wd_4_60 : Jvm.Cond.instanceMethod ({ cls := "ReadAloudModel", name := "isNear", desc := "(II)Z" } : Jvm.MethodName) ∈ aWd := aWd_4 (List.mem_of_getElem? (i := 60) rfl) rfl
theorem wd_4_61 : Jvm.Cond.code ({ cls := "ReadAloudModel", name := "isNear", desc := "(II)Z" } : Jvm.MethodName) prog_14_method_17_code (3 : Nat) (Option.some Jvm.ClassFile.FieldType.boolean) ∈ aWd := aWd_4 (List.mem_of_getElem? (i := 61) rfl) rfl
theorem wd_4_62 : Jvm.Cond.methodLink "ReadAloudModel" (121 : Nat) ({ cls := "ReadAloudModel", name := "stands", desc := "([II)Z" } : Jvm.MethodName) ∈ aWd := aWd_4 (List.mem_of_getElem? (i := 62) rfl) rfl
theorem wd_4_63 : Jvm.Cond.static ({ cls := "ReadAloudModel", name := "stands", desc := "([II)Z" } : Jvm.MethodName) ∈ aWd := aWd_4 (List.mem_of_getElem? (i := 63) rfl) rfl
theorem wd_4_64 : Jvm.Cond.code ({ cls := "ReadAloudModel", name := "stands", desc := "([II)Z" } : Jvm.MethodName) prog_14_method_18_code (4 : Nat) (Option.some Jvm.ClassFile.FieldType.boolean) ∈ aWd := aWd_4 (List.mem_of_getElem? (i := 64) rfl) rfl
theorem wd_4_65 : Jvm.Cond.methodLink "ReadAloudModel" (137 : Nat) ({ cls := "ReadAloudModel", name := "ones", desc := "(I)I" } : Jvm.MethodName) ∈ aWd := aWd_4 (List.mem_of_getElem? (i := 65) rfl) rfl
theorem wd_4_66 : Jvm.Cond.static ({ cls := "ReadAloudModel", name := "ones", desc := "(I)I" } : Jvm.MethodName) ∈ aWd := aWd_4 (List.mem_of_getElem? (i := 66) rfl) rfl
theorem wd_4_67 : Jvm.Cond.code ({ cls := "ReadAloudModel", name := "ones", desc := "(I)I" } : Jvm.MethodName) prog_14_method_4_code (3 : Nat) (Option.some Jvm.ClassFile.FieldType.int) ∈ aWd := aWd_4 (List.mem_of_getElem? (i := 67) rfl) rfl
theorem wd_4_68 : Jvm.Cond.methodLink "ReadAloudModel" (140 : Nat) ({ cls := "ReadAloudModel", name := "hangs", desc := "(I)Z" } : Jvm.MethodName) ∈ aWd := aWd_4 (List.mem_of_getElem? (i := 68) rfl) rfl
theorem wd_4_70 : Jvm.Cond.instanceMethod ({ cls := "ReadAloudModel", name := "hangs", desc := "(I)Z" } : Jvm.MethodName) ∈ aWd := aWd_4 (List.mem_of_getElem? (i := 70) rfl) rfl
theorem wd_4_71 : Jvm.Cond.code ({ cls := "ReadAloudModel", name := "hangs", desc := "(I)Z" } : Jvm.MethodName) prog_14_method_24_code (2 : Nat) (Option.some Jvm.ClassFile.FieldType.boolean) ∈ aWd := aWd_4 (List.mem_of_getElem? (i := 71) rfl) rfl
theorem wd_4_72 : Jvm.Cond.methodLink "ReadAloudModel" (143 : Nat) ({ cls := "ReadAloudModel", name := "whichOf", desc := "(I)I" } : Jvm.MethodName) ∈ aWd := aWd_4 (List.mem_of_getElem? (i := 72) rfl) rfl
theorem wd_4_74 : Jvm.Cond.instanceMethod ({ cls := "ReadAloudModel", name := "whichOf", desc := "(I)I" } : Jvm.MethodName) ∈ aWd := aWd_4 (List.mem_of_getElem? (i := 74) rfl) rfl
theorem wd_4_75 : Jvm.Cond.code ({ cls := "ReadAloudModel", name := "whichOf", desc := "(I)I" } : Jvm.MethodName) prog_14_method_38_code (6 : Nat) (Option.some Jvm.ClassFile.FieldType.int) ∈ aWd := aWd_4 (List.mem_of_getElem? (i := 75) rfl) rfl
theorem wd_4_76 : Jvm.Cond.methodLink "ReadAloudModel" (173 : Nat) ({ cls := "ReadAloudModel", name := "isHeard", desc := "(III)Z" } : Jvm.MethodName) ∈ aWd := aWd_4 (List.mem_of_getElem? (i := 76) rfl) rfl
theorem wd_4_78 : Jvm.Cond.instanceMethod ({ cls := "ReadAloudModel", name := "isHeard", desc := "(III)Z" } : Jvm.MethodName) ∈ aWd := aWd_4 (List.mem_of_getElem? (i := 78) rfl) rfl
theorem wd_4_79 : Jvm.Cond.code ({ cls := "ReadAloudModel", name := "isHeard", desc := "(III)Z" } : Jvm.MethodName) prog_14_method_37_code (6 : Nat) (Option.some Jvm.ClassFile.FieldType.boolean) ∈ aWd := aWd_4 (List.mem_of_getElem? (i := 79) rfl) rfl
theorem wd_4_80 : Jvm.Cond.methodLink "ReadAloudModel" (146 : Nat) ({ cls := "ReadAloudModel", name := "listenOf", desc := "(I)I" } : Jvm.MethodName) ∈ aWd := aWd_4 (List.mem_of_getElem? (i := 80) rfl) rfl
theorem wd_4_82 : Jvm.Cond.instanceMethod ({ cls := "ReadAloudModel", name := "listenOf", desc := "(I)I" } : Jvm.MethodName) ∈ aWd := aWd_4 (List.mem_of_getElem? (i := 82) rfl) rfl
theorem wd_4_83 : Jvm.Cond.code ({ cls := "ReadAloudModel", name := "listenOf", desc := "(I)I" } : Jvm.MethodName) prog_14_method_39_code (8 : Nat) (Option.some Jvm.ClassFile.FieldType.int) ∈ aWd := aWd_4 (List.mem_of_getElem? (i := 83) rfl) rfl
theorem wd_4_84 : Jvm.Cond.methodLink "ReadAloudLaw" (59 : Nat) ({ cls := "ReadAloudModel", name := "as", desc := "(II)I" } : Jvm.MethodName) ∈ aWd := aWd_4 (List.mem_of_getElem? (i := 84) rfl) rfl
theorem wd_4_85 : Jvm.Cond.instanceMethod ({ cls := "ReadAloudModel", name := "as", desc := "(II)I" } : Jvm.MethodName) ∈ aWd := aWd_4 (List.mem_of_getElem? (i := 85) rfl) rfl
theorem wd_4_86 : Jvm.Cond.selects "ReadAloudModel" ({ cls := "ReadAloudModel", name := "as", desc := "(II)I" } : Jvm.MethodName) ({ cls := "ReadAloudModel", name := "as", desc := "(II)I" } : Jvm.MethodName) ∈ aWd := aWd_4 (List.mem_of_getElem? (i := 86) rfl) rfl
theorem wd_4_87 : Jvm.Cond.code ({ cls := "ReadAloudModel", name := "as", desc := "(II)I" } : Jvm.MethodName) prog_14_method_27_code (5 : Nat) (Option.some Jvm.ClassFile.FieldType.int) ∈ aWd := aWd_4 (List.mem_of_getElem? (i := 87) rfl) rfl
theorem wd_4_88 : Jvm.Cond.methodLink "ReadAloudLaw" (63 : Nat) ({ cls := "ReadAloudModel", name := "lesson", desc := "(II)I" } : Jvm.MethodName) ∈ aWd := aWd_4 (List.mem_of_getElem? (i := 88) rfl) rfl
theorem wd_4_89 : Jvm.Cond.instanceMethod ({ cls := "ReadAloudModel", name := "lesson", desc := "(II)I" } : Jvm.MethodName) ∈ aWd := aWd_4 (List.mem_of_getElem? (i := 89) rfl) rfl
theorem wd_4_90 : Jvm.Cond.selects "ReadAloudModel" ({ cls := "ReadAloudModel", name := "lesson", desc := "(II)I" } : Jvm.MethodName) ({ cls := "ReadAloudModel", name := "lesson", desc := "(II)I" } : Jvm.MethodName) ∈ aWd := aWd_4 (List.mem_of_getElem? (i := 90) rfl) rfl
theorem wd_4_91 : Jvm.Cond.code ({ cls := "ReadAloudModel", name := "lesson", desc := "(II)I" } : Jvm.MethodName) prog_14_method_28_code (3 : Nat) (Option.some Jvm.ClassFile.FieldType.int) ∈ aWd := aWd_4 (List.mem_of_getElem? (i := 91) rfl) rfl
theorem wd_4_92 : Jvm.Cond.methodLink "ReadAloudLaw" (67 : Nat) ({ cls := "ReadAloudModel", name := "unlearn", desc := "(I)I" } : Jvm.MethodName) ∈ aWd := aWd_4 (List.mem_of_getElem? (i := 92) rfl) rfl
theorem wd_4_93 : Jvm.Cond.instanceMethod ({ cls := "ReadAloudModel", name := "unlearn", desc := "(I)I" } : Jvm.MethodName) ∈ aWd := aWd_4 (List.mem_of_getElem? (i := 93) rfl) rfl
theorem wd_4_94 : Jvm.Cond.selects "ReadAloudModel" ({ cls := "ReadAloudModel", name := "unlearn", desc := "(I)I" } : Jvm.MethodName) ({ cls := "ReadAloudModel", name := "unlearn", desc := "(I)I" } : Jvm.MethodName) ∈ aWd := aWd_4 (List.mem_of_getElem? (i := 94) rfl) rfl
theorem wd_4_95 : Jvm.Cond.code ({ cls := "ReadAloudModel", name := "unlearn", desc := "(I)I" } : Jvm.MethodName) prog_14_method_29_code (3 : Nat) (Option.some Jvm.ClassFile.FieldType.int) ∈ aWd := aWd_4 (List.mem_of_getElem? (i := 95) rfl) rfl
theorem wd_4_96 : Jvm.Cond.methodLink "ReadAloudLaw" (71 : Nat) ({ cls := "ReadAloudModel", name := "brief", desc := "(I)I" } : Jvm.MethodName) ∈ aWd := aWd_4 (List.mem_of_getElem? (i := 96) rfl) rfl
theorem wd_4_97 : Jvm.Cond.instanceMethod ({ cls := "ReadAloudModel", name := "brief", desc := "(I)I" } : Jvm.MethodName) ∈ aWd := aWd_4 (List.mem_of_getElem? (i := 97) rfl) rfl
theorem wd_4_98 : Jvm.Cond.selects "ReadAloudModel" ({ cls := "ReadAloudModel", name := "brief", desc := "(I)I" } : Jvm.MethodName) ({ cls := "ReadAloudModel", name := "brief", desc := "(I)I" } : Jvm.MethodName) ∈ aWd := aWd_4 (List.mem_of_getElem? (i := 98) rfl) rfl
theorem wd_4_99 : Jvm.Cond.code ({ cls := "ReadAloudModel", name := "brief", desc := "(I)I" } : Jvm.MethodName) prog_14_method_32_code (2 : Nat) (Option.some Jvm.ClassFile.FieldType.int) ∈ aWd := aWd_4 (List.mem_of_getElem? (i := 99) rfl) rfl
theorem wd_4_100 : Jvm.Cond.constantLong "ReadAloudModel" (159 : Nat) (13 : Int64) ∈ aWd := aWd_4 (List.mem_of_getElem? (i := 100) rfl) rfl
theorem wd_4_101 : Jvm.Cond.methodLink "ReadAloudModel" (164 : Nat) ({ cls := "ReadAloudModel", name := "briefOf", desc := "(I)I" } : Jvm.MethodName) ∈ aWd := aWd_4 (List.mem_of_getElem? (i := 101) rfl) rfl
theorem wd_4_103 : Jvm.Cond.instanceMethod ({ cls := "ReadAloudModel", name := "briefOf", desc := "(I)I" } : Jvm.MethodName) ∈ aWd := aWd_4 (List.mem_of_getElem? (i := 103) rfl) rfl
theorem wd_4_104 : Jvm.Cond.code ({ cls := "ReadAloudModel", name := "briefOf", desc := "(I)I" } : Jvm.MethodName) prog_14_method_31_code (6 : Nat) (Option.some Jvm.ClassFile.FieldType.int) ∈ aWd := aWd_4 (List.mem_of_getElem? (i := 104) rfl) rfl
theorem wd_4_105 : Jvm.Cond.methodLink "ReadAloudModel" (156 : Nat) ({ cls := "ReadAloudModel", name := "isApart", desc := "(I)Z" } : Jvm.MethodName) ∈ aWd := aWd_4 (List.mem_of_getElem? (i := 105) rfl) rfl
theorem wd_4_107 : Jvm.Cond.instanceMethod ({ cls := "ReadAloudModel", name := "isApart", desc := "(I)Z" } : Jvm.MethodName) ∈ aWd := aWd_4 (List.mem_of_getElem? (i := 107) rfl) rfl
theorem wd_4_108 : Jvm.Cond.code ({ cls := "ReadAloudModel", name := "isApart", desc := "(I)Z" } : Jvm.MethodName) prog_14_method_30_code (5 : Nat) (Option.some Jvm.ClassFile.FieldType.boolean) ∈ aWd := aWd_4 (List.mem_of_getElem? (i := 108) rfl) rfl
theorem wd_4_109 : Jvm.Cond.methodLink "ReadAloudLaw" (76 : Nat) ({ cls := "ReadAloudModel", name := "hide", desc := "(III)I" } : Jvm.MethodName) ∈ aWd := aWd_4 (List.mem_of_getElem? (i := 109) rfl) rfl
theorem wd_4_110 : Jvm.Cond.instanceMethod ({ cls := "ReadAloudModel", name := "hide", desc := "(III)I" } : Jvm.MethodName) ∈ aWd := aWd_4 (List.mem_of_getElem? (i := 110) rfl) rfl
theorem wd_4_111 : Jvm.Cond.selects "ReadAloudModel" ({ cls := "ReadAloudModel", name := "hide", desc := "(III)I" } : Jvm.MethodName) ({ cls := "ReadAloudModel", name := "hide", desc := "(III)I" } : Jvm.MethodName) ∈ aWd := aWd_4 (List.mem_of_getElem? (i := 111) rfl) rfl
theorem wd_4_112 : Jvm.Cond.code ({ cls := "ReadAloudModel", name := "hide", desc := "(III)I" } : Jvm.MethodName) prog_14_method_34_code (4 : Nat) (Option.some Jvm.ClassFile.FieldType.int) ∈ aWd := aWd_4 (List.mem_of_getElem? (i := 112) rfl) rfl
theorem wd_4_113 : Jvm.Cond.constantLong "ReadAloudModel" (167 : Nat) (8 : Int64) ∈ aWd := aWd_4 (List.mem_of_getElem? (i := 113) rfl) rfl
theorem wd_4_114 : Jvm.Cond.methodLink "ReadAloudModel" (169 : Nat) ({ cls := "ReadAloudModel", name := "hideOf", desc := "(III)I" } : Jvm.MethodName) ∈ aWd := aWd_4 (List.mem_of_getElem? (i := 114) rfl) rfl
theorem wd_4_116 : Jvm.Cond.instanceMethod ({ cls := "ReadAloudModel", name := "hideOf", desc := "(III)I" } : Jvm.MethodName) ∈ aWd := aWd_4 (List.mem_of_getElem? (i := 116) rfl) rfl
theorem wd_4_117 : Jvm.Cond.code ({ cls := "ReadAloudModel", name := "hideOf", desc := "(III)I" } : Jvm.MethodName) prog_14_method_33_code (9 : Nat) (Option.some Jvm.ClassFile.FieldType.int) ∈ aWd := aWd_4 (List.mem_of_getElem? (i := 117) rfl) rfl
theorem wd_4_118 : Jvm.Cond.methodLink "ReadAloudLaw" (81 : Nat) ({ cls := "ReadAloudModel", name := "hear", desc := "(IIZ)I" } : Jvm.MethodName) ∈ aWd := aWd_4 (List.mem_of_getElem? (i := 118) rfl) rfl
theorem wd_4_119 : Jvm.Cond.instanceMethod ({ cls := "ReadAloudModel", name := "hear", desc := "(IIZ)I" } : Jvm.MethodName) ∈ aWd := aWd_4 (List.mem_of_getElem? (i := 119) rfl) rfl
theorem wd_4_120 : Jvm.Cond.selects "ReadAloudModel" ({ cls := "ReadAloudModel", name := "hear", desc := "(IIZ)I" } : Jvm.MethodName) ({ cls := "ReadAloudModel", name := "hear", desc := "(IIZ)I" } : Jvm.MethodName) ∈ aWd := aWd_4 (List.mem_of_getElem? (i := 120) rfl) rfl
theorem wd_4_121 : Jvm.Cond.code ({ cls := "ReadAloudModel", name := "hear", desc := "(IIZ)I" } : Jvm.MethodName) prog_14_method_35_code (6 : Nat) (Option.some Jvm.ClassFile.FieldType.int) ∈ aWd := aWd_4 (List.mem_of_getElem? (i := 121) rfl) rfl
theorem wd_4_122 : Jvm.Cond.methodLink "ReadAloudLaw" (85 : Nat) ({ cls := "ReadAloudModel", name := "forget", desc := "()I" } : Jvm.MethodName) ∈ aWd := aWd_4 (List.mem_of_getElem? (i := 122) rfl) rfl
theorem wd_4_123 : Jvm.Cond.instanceMethod ({ cls := "ReadAloudModel", name := "forget", desc := "()I" } : Jvm.MethodName) ∈ aWd := aWd_4 (List.mem_of_getElem? (i := 123) rfl) rfl
theorem wd_4_124 : Jvm.Cond.selects "ReadAloudModel" ({ cls := "ReadAloudModel", name := "forget", desc := "()I" } : Jvm.MethodName) ({ cls := "ReadAloudModel", name := "forget", desc := "()I" } : Jvm.MethodName) ∈ aWd := aWd_4 (List.mem_of_getElem? (i := 124) rfl) rfl
theorem wd_4_125 : Jvm.Cond.code ({ cls := "ReadAloudModel", name := "forget", desc := "()I" } : Jvm.MethodName) prog_14_method_36_code (2 : Nat) (Option.some Jvm.ClassFile.FieldType.int) ∈ aWd := aWd_4 (List.mem_of_getElem? (i := 125) rfl) rfl
theorem wd_4_126 : Jvm.Cond.methodLink "ReadAloudLaw" (89 : Nat) ({ cls := "ReadAloudModel", name := "trials", desc := "(III)I" } : Jvm.MethodName) ∈ aWd := aWd_4 (List.mem_of_getElem? (i := 126) rfl) rfl
theorem wd_4_127 : Jvm.Cond.instanceMethod ({ cls := "ReadAloudModel", name := "trials", desc := "(III)I" } : Jvm.MethodName) ∈ aWd := aWd_4 (List.mem_of_getElem? (i := 127) rfl) rfl
theorem wd_4_128 : Jvm.Cond.selects "ReadAloudModel" ({ cls := "ReadAloudModel", name := "trials", desc := "(III)I" } : Jvm.MethodName) ({ cls := "ReadAloudModel", name := "trials", desc := "(III)I" } : Jvm.MethodName) ∈ aWd := aWd_4 (List.mem_of_getElem? (i := 128) rfl) rfl
theorem wd_4_129 : Jvm.Cond.code ({ cls := "ReadAloudModel", name := "trials", desc := "(III)I" } : Jvm.MethodName) prog_14_method_41_code (9 : Nat) (Option.some Jvm.ClassFile.FieldType.int) ∈ aWd := aWd_4 (List.mem_of_getElem? (i := 129) rfl) rfl
theorem wd_4_130 : Jvm.Cond.constantLong "ReadAloudModel" (187 : Nat) (40 : Int64) ∈ aWd := aWd_4 (List.mem_of_getElem? (i := 130) rfl) rfl
theorem wd_4_131 : Jvm.Cond.constantLong "ReadAloudModel" (189 : Nat) (2 : Int64) ∈ aWd := aWd_4 (List.mem_of_getElem? (i := 131) rfl) rfl
theorem wd_4_132 : Jvm.Cond.methodLink "ReadAloudModel" (191 : Nat) ({ cls := "ReadAloudModel", name := "draw", desc := "(I)I" } : Jvm.MethodName) ∈ aWd := aWd_4 (List.mem_of_getElem? (i := 132) rfl) rfl
theorem wd_4_134 : Jvm.Cond.instanceMethod ({ cls := "ReadAloudModel", name := "draw", desc := "(I)I" } : Jvm.MethodName) ∈ aWd := aWd_4 (List.mem_of_getElem? (i := 134) rfl) rfl
theorem wd_4_135 : Jvm.Cond.code ({ cls := "ReadAloudModel", name := "draw", desc := "(I)I" } : Jvm.MethodName) prog_14_method_40_code (2 : Nat) (Option.some Jvm.ClassFile.FieldType.int) ∈ aWd := aWd_4 (List.mem_of_getElem? (i := 135) rfl) rfl
theorem wd_4_136 : Jvm.Cond.constantLong "ReadAloudModel" (177 : Nat) (1103515245 : Int64) ∈ aWd := aWd_4 (List.mem_of_getElem? (i := 136) rfl) rfl
theorem wd_4_137 : Jvm.Cond.constantLong "ReadAloudModel" (182 : Nat) (12345 : Int64) ∈ aWd := aWd_4 (List.mem_of_getElem? (i := 137) rfl) rfl
theorem wd_4_138 : Jvm.Cond.constantLong "ReadAloudModel" (184 : Nat) (2147483647 : Int64) ∈ aWd := aWd_4 (List.mem_of_getElem? (i := 138) rfl) rfl
theorem wd_4_139 : Jvm.Cond.constant "ReadAloudModel" (186 : Nat) (65536 : Int32) ∈ aWd := aWd_4 (List.mem_of_getElem? (i := 139) rfl) rfl
theorem wd_4_140 : Jvm.Cond.methodLink "ReadAloudLaw" (93 : Nat) ({ cls := "ReadAloudModel", name := "image", desc := "()I" } : Jvm.MethodName) ∈ aWd := aWd_4 (List.mem_of_getElem? (i := 140) rfl) rfl
theorem wd_4_141 : Jvm.Cond.instanceMethod ({ cls := "ReadAloudModel", name := "image", desc := "()I" } : Jvm.MethodName) ∈ aWd := aWd_4 (List.mem_of_getElem? (i := 141) rfl) rfl
theorem wd_4_142 : Jvm.Cond.selects "ReadAloudModel" ({ cls := "ReadAloudModel", name := "image", desc := "()I" } : Jvm.MethodName) ({ cls := "ReadAloudModel", name := "image", desc := "()I" } : Jvm.MethodName) ∈ aWd := aWd_4 (List.mem_of_getElem? (i := 142) rfl) rfl
theorem wd_4_143 : Jvm.Cond.code ({ cls := "ReadAloudModel", name := "image", desc := "()I" } : Jvm.MethodName) prog_14_method_42_code (1 : Nat) (Option.some Jvm.ClassFile.FieldType.int) ∈ aWd := aWd_4 (List.mem_of_getElem? (i := 143) rfl) rfl
theorem wd_4_144 : Jvm.Cond.methodLink "ReadAloudLaw" (97 : Nat) ({ cls := "ReadAloudModel", name := "restore", desc := "()I" } : Jvm.MethodName) ∈ aWd := aWd_4 (List.mem_of_getElem? (i := 144) rfl) rfl
theorem wd_4_145 : Jvm.Cond.instanceMethod ({ cls := "ReadAloudModel", name := "restore", desc := "()I" } : Jvm.MethodName) ∈ aWd := aWd_4 (List.mem_of_getElem? (i := 145) rfl) rfl
theorem wd_4_146 : Jvm.Cond.selects "ReadAloudModel" ({ cls := "ReadAloudModel", name := "restore", desc := "()I" } : Jvm.MethodName) ({ cls := "ReadAloudModel", name := "restore", desc := "()I" } : Jvm.MethodName) ∈ aWd := aWd_4 (List.mem_of_getElem? (i := 146) rfl) rfl
theorem wd_4_147 : Jvm.Cond.code ({ cls := "ReadAloudModel", name := "restore", desc := "()I" } : Jvm.MethodName) prog_14_method_43_code (1 : Nat) (Option.some Jvm.ClassFile.FieldType.int) ∈ aWd := aWd_4 (List.mem_of_getElem? (i := 147) rfl) rfl
theorem wd_4_148 : Jvm.Cond.methodLink "ReadAloudLaw" (101 : Nat) ({ cls := "ReadAloudModel", name := "count", desc := "(I)I" } : Jvm.MethodName) ∈ aWd := aWd_4 (List.mem_of_getElem? (i := 148) rfl) rfl
theorem wd_4_149 : Jvm.Cond.instanceMethod ({ cls := "ReadAloudModel", name := "count", desc := "(I)I" } : Jvm.MethodName) ∈ aWd := aWd_4 (List.mem_of_getElem? (i := 149) rfl) rfl
theorem wd_4_150 : Jvm.Cond.selects "ReadAloudModel" ({ cls := "ReadAloudModel", name := "count", desc := "(I)I" } : Jvm.MethodName) ({ cls := "ReadAloudModel", name := "count", desc := "(I)I" } : Jvm.MethodName) ∈ aWd := aWd_4 (List.mem_of_getElem? (i := 150) rfl) rfl
theorem wd_4_151 : Jvm.Cond.code ({ cls := "ReadAloudModel", name := "count", desc := "(I)I" } : Jvm.MethodName) prog_14_method_47_code (2 : Nat) (Option.some Jvm.ClassFile.FieldType.int) ∈ aWd := aWd_4 (List.mem_of_getElem? (i := 151) rfl) rfl
theorem wd_4_152 : Jvm.Cond.methodLink "ReadAloudModel" (212 : Nat) ({ cls := "ReadAloudModel", name := "countOf", desc := "(I)I" } : Jvm.MethodName) ∈ aWd := aWd_4 (List.mem_of_getElem? (i := 152) rfl) rfl
theorem wd_4_154 : Jvm.Cond.instanceMethod ({ cls := "ReadAloudModel", name := "countOf", desc := "(I)I" } : Jvm.MethodName) ∈ aWd := aWd_4 (List.mem_of_getElem? (i := 154) rfl) rfl
theorem wd_4_155 : Jvm.Cond.code ({ cls := "ReadAloudModel", name := "countOf", desc := "(I)I" } : Jvm.MethodName) prog_14_method_46_code (2 : Nat) (Option.some Jvm.ClassFile.FieldType.int) ∈ aWd := aWd_4 (List.mem_of_getElem? (i := 155) rfl) rfl
theorem wd_4_156 : Jvm.Cond.methodLink "ReadAloudModel" (206 : Nat) ({ cls := "ReadAloudModel", name := "hangMany", desc := "()I" } : Jvm.MethodName) ∈ aWd := aWd_4 (List.mem_of_getElem? (i := 156) rfl) rfl
theorem wd_4_158 : Jvm.Cond.instanceMethod ({ cls := "ReadAloudModel", name := "hangMany", desc := "()I" } : Jvm.MethodName) ∈ aWd := aWd_4 (List.mem_of_getElem? (i := 158) rfl) rfl
theorem wd_4_159 : Jvm.Cond.code ({ cls := "ReadAloudModel", name := "hangMany", desc := "()I" } : Jvm.MethodName) prog_14_method_44_code (3 : Nat) (Option.some Jvm.ClassFile.FieldType.int) ∈ aWd := aWd_4 (List.mem_of_getElem? (i := 159) rfl) rfl
theorem wd_4_160 : Jvm.Cond.methodLink "ReadAloudModel" (209 : Nat) ({ cls := "ReadAloudModel", name := "unlike", desc := "()I" } : Jvm.MethodName) ∈ aWd := aWd_4 (List.mem_of_getElem? (i := 160) rfl) rfl
theorem wd_4_162 : Jvm.Cond.instanceMethod ({ cls := "ReadAloudModel", name := "unlike", desc := "()I" } : Jvm.MethodName) ∈ aWd := aWd_4 (List.mem_of_getElem? (i := 162) rfl) rfl
theorem wd_4_163 : Jvm.Cond.code ({ cls := "ReadAloudModel", name := "unlike", desc := "()I" } : Jvm.MethodName) prog_14_method_45_code (3 : Nat) (Option.some Jvm.ClassFile.FieldType.int) ∈ aWd := aWd_4 (List.mem_of_getElem? (i := 163) rfl) rfl
theorem wd_4_164 : Jvm.Cond.methodLink "ReadAloudLaw" (106 : Nat) ({ cls := "ReadAloudModel", name := "digest", desc := "()J" } : Jvm.MethodName) ∈ aWd := aWd_4 (List.mem_of_getElem? (i := 164) rfl) rfl
theorem wd_4_165 : Jvm.Cond.instanceMethod ({ cls := "ReadAloudModel", name := "digest", desc := "()J" } : Jvm.MethodName) ∈ aWd := aWd_4 (List.mem_of_getElem? (i := 165) rfl) rfl
theorem wd_4_166 : Jvm.Cond.selects "ReadAloudModel" ({ cls := "ReadAloudModel", name := "digest", desc := "()J" } : Jvm.MethodName) ({ cls := "ReadAloudModel", name := "digest", desc := "()J" } : Jvm.MethodName) ∈ aWd := aWd_4 (List.mem_of_getElem? (i := 166) rfl) rfl
theorem wd_4_167 : Jvm.Cond.code ({ cls := "ReadAloudModel", name := "digest", desc := "()J" } : Jvm.MethodName) prog_14_method_49_code (3 : Nat) (Option.some Jvm.ClassFile.FieldType.long) ∈ aWd := aWd_4 (List.mem_of_getElem? (i := 167) rfl) rfl
theorem wd_4_168 : Jvm.Cond.constantLong "ReadAloudModel" (221 : Nat) (1019 : Int64) ∈ aWd := aWd_4 (List.mem_of_getElem? (i := 168) rfl) rfl
theorem wd_4_169 : Jvm.Cond.methodLink "ReadAloudModel" (223 : Nat) ({ cls := "ReadAloudModel", name := "say", desc := "(J)V" } : Jvm.MethodName) ∈ aWd := aWd_4 (List.mem_of_getElem? (i := 169) rfl) rfl
theorem wd_4_171 : Jvm.Cond.instanceMethod ({ cls := "ReadAloudModel", name := "say", desc := "(J)V" } : Jvm.MethodName) ∈ aWd := aWd_4 (List.mem_of_getElem? (i := 171) rfl) rfl
theorem wd_4_172 : Jvm.Cond.code ({ cls := "ReadAloudModel", name := "say", desc := "(J)V" } : Jvm.MethodName) prog_14_method_48_code (3 : Nat) (Option.none : Option Jvm.ClassFile.FieldType) ∈ aWd := aWd_4 (List.mem_of_getElem? (i := 172) rfl) rfl
theorem wd_4_173 : Jvm.Cond.constantLong "ReadAloudModel" (215 : Nat) (31 : Int64) ∈ aWd := aWd_4 (List.mem_of_getElem? (i := 173) rfl) rfl
theorem wd_4_174 : Jvm.Cond.sameMethod "ReadAloud$Stammerer" "ReadAloud$Stammerer" "placesAnyhow" "(LReadAloud$Sheet;)I" ∈ aWd := aWd_4 (List.mem_of_getElem? (i := 174) rfl) rfl
theorem uX0 : ∀ w ∈ u_ws RX0 TX0 1, w ∈ aWd := List.forall_mem_cons.mpr ⟨wd_2_80, fun _ h => absurd h List.not_mem_nil⟩
theorem uX1 : ∀ w ∈ u_ws RX1 TX1 1, w ∈ aWd := List.forall_mem_cons.mpr ⟨wd_2_88, fun _ h => absurd h List.not_mem_nil⟩
theorem uX2 : ∀ w ∈ u_ws RX2 TX2 3, w ∈ aWd := List.forall_mem_cons.mpr ⟨wd_1_131, List.forall_mem_cons.mpr ⟨wd_1_133, List.forall_mem_cons.mpr ⟨wd_1_135, fun _ h => absurd h List.not_mem_nil⟩⟩⟩
theorem uX3 : ∀ w ∈ u_ws RX3 TX3 3, w ∈ aWd := List.forall_mem_cons.mpr ⟨wd_1_88, List.forall_mem_cons.mpr ⟨wd_1_90, List.forall_mem_cons.mpr ⟨wd_1_92, fun _ h => absurd h List.not_mem_nil⟩⟩⟩
theorem uX4 : ∀ w ∈ u_ws RX4 TX4 1, w ∈ aWd := List.forall_mem_cons.mpr ⟨wd_2_100, fun _ h => absurd h List.not_mem_nil⟩
theorem uX5 : ∀ w ∈ u_ws RX5 TX5 3, w ∈ aWd := List.forall_mem_cons.mpr ⟨wd_1_51, List.forall_mem_cons.mpr ⟨wd_1_53, List.forall_mem_cons.mpr ⟨wd_1_55, fun _ h => absurd h List.not_mem_nil⟩⟩⟩
theorem uX6 : ∀ w ∈ u_ws RX6 TX6 2, w ∈ aWd := List.forall_mem_cons.mpr ⟨wd_1_74, List.forall_mem_cons.mpr ⟨wd_1_76, fun _ h => absurd h List.not_mem_nil⟩⟩
theorem uX7 : ∀ w ∈ u_ws RX7 TX7 1, w ∈ aWd := List.forall_mem_cons.mpr ⟨wd_2_71, fun _ h => absurd h List.not_mem_nil⟩
theorem uX8 : ∀ w ∈ u_ws RX8 TX8 6, w ∈ aWd := List.forall_mem_cons.mpr ⟨wd_1_107, List.forall_mem_cons.mpr ⟨wd_1_109, List.forall_mem_cons.mpr ⟨wd_1_111, List.forall_mem_cons.mpr ⟨wd_1_113, List.forall_mem_cons.mpr ⟨wd_1_115, List.forall_mem_cons.mpr ⟨wd_1_117, fun _ h => absurd h List.not_mem_nil⟩⟩⟩⟩⟩⟩
theorem uX9 : ∀ w ∈ u_ws RX9 TX9 3, w ∈ aWd := List.forall_mem_cons.mpr ⟨wd_1_40, List.forall_mem_cons.mpr ⟨wd_1_42, List.forall_mem_cons.mpr ⟨wd_1_44, fun _ h => absurd h List.not_mem_nil⟩⟩⟩
theorem uX10 : ∀ w ∈ u_ws RX10 TX10 1, w ∈ aWd := List.forall_mem_cons.mpr ⟨wd_2_96, fun _ h => absurd h List.not_mem_nil⟩
theorem uX11 : ∀ w ∈ u_ws RX11 TX11 10, w ∈ aWd := List.forall_mem_cons.mpr ⟨wd_1_148, List.forall_mem_cons.mpr ⟨wd_1_150, List.forall_mem_cons.mpr ⟨wd_1_152, List.forall_mem_cons.mpr ⟨wd_1_154, List.forall_mem_cons.mpr ⟨wd_1_156, List.forall_mem_cons.mpr ⟨wd_1_158, List.forall_mem_cons.mpr ⟨wd_1_160, List.forall_mem_cons.mpr ⟨wd_1_162, List.forall_mem_cons.mpr ⟨wd_1_164, List.forall_mem_cons.mpr ⟨wd_1_166, fun _ h => absurd h List.not_mem_nil⟩⟩⟩⟩⟩⟩⟩⟩⟩⟩
theorem uX12 : ∀ w ∈ u_ws RX12 TX12 32, w ∈ aWd := List.forall_mem_cons.mpr ⟨wd_3_147, List.forall_mem_cons.mpr ⟨wd_3_149, List.forall_mem_cons.mpr ⟨wd_3_151, List.forall_mem_cons.mpr ⟨wd_3_153, List.forall_mem_cons.mpr ⟨wd_3_155, List.forall_mem_cons.mpr ⟨wd_3_157, List.forall_mem_cons.mpr ⟨wd_3_159, List.forall_mem_cons.mpr ⟨wd_3_161, List.forall_mem_cons.mpr ⟨wd_3_163, List.forall_mem_cons.mpr ⟨wd_3_165, List.forall_mem_cons.mpr ⟨wd_3_167, List.forall_mem_cons.mpr ⟨wd_3_169, List.forall_mem_cons.mpr ⟨wd_3_171, List.forall_mem_cons.mpr ⟨wd_3_173, List.forall_mem_cons.mpr ⟨wd_3_175, List.forall_mem_cons.mpr ⟨wd_3_177, List.forall_mem_cons.mpr ⟨wd_3_179, List.forall_mem_cons.mpr ⟨wd_3_181, List.forall_mem_cons.mpr ⟨wd_3_183, List.forall_mem_cons.mpr ⟨wd_3_185, List.forall_mem_cons.mpr ⟨wd_3_187, List.forall_mem_cons.mpr ⟨wd_3_189, List.forall_mem_cons.mpr ⟨wd_3_191, List.forall_mem_cons.mpr ⟨wd_3_193, List.forall_mem_cons.mpr ⟨wd_3_195, List.forall_mem_cons.mpr ⟨wd_3_197, List.forall_mem_cons.mpr ⟨wd_3_199, List.forall_mem_cons.mpr ⟨wd_3_201, List.forall_mem_cons.mpr ⟨wd_3_203, List.forall_mem_cons.mpr ⟨wd_3_205, List.forall_mem_cons.mpr ⟨wd_3_207, List.forall_mem_cons.mpr ⟨wd_3_209, fun _ h => absurd h List.not_mem_nil⟩⟩⟩⟩⟩⟩⟩⟩⟩⟩⟩⟩⟩⟩⟩⟩⟩⟩⟩⟩⟩⟩⟩⟩⟩⟩⟩⟩⟩⟩⟩⟩
theorem fX11_10_X11 : aFl RX11 10 11 0 := ⟨RX11, TX11, 10, "ReadAloud", rfl, by decide, uX11, wd_1_138, rfl⟩
theorem fX11_16_X11 : aFl RX11 16 11 1 := ⟨RX11, TX11, 10, "ReadAloud", rfl, by decide, uX11, wd_1_139, rfl⟩
theorem fX11_22_X11 : aFl RX11 22 11 2 := ⟨RX11, TX11, 10, "ReadAloud", rfl, by decide, uX11, wd_1_140, rfl⟩
theorem fX11_29_X11 : aFl RX11 29 11 3 := ⟨RX11, TX11, 10, "ReadAloud", rfl, by decide, uX11, wd_1_141, rfl⟩
theorem fX11_33_X11 : aFl RX11 33 11 4 := ⟨RX11, TX11, 10, "ReadAloud", rfl, by decide, uX11, wd_1_142, rfl⟩
theorem fX11_39_X11 : aFl RX11 39 11 5 := ⟨RX11, TX11, 10, "ReadAloud", rfl, by decide, uX11, wd_1_143, rfl⟩
theorem fX11_46_X11 : aFl RX11 46 11 6 := ⟨RX11, TX11, 10, "ReadAloud", rfl, by decide, uX11, wd_1_144, rfl⟩
theorem fX11_71_X11 : aFl RX11 71 11 7 := ⟨RX11, TX11, 10, "ReadAloud", rfl, by decide, uX11, wd_1_145, rfl⟩
theorem fX11_75_X11 : aFl RX11 75 11 8 := ⟨RX11, TX11, 10, "ReadAloud", rfl, by decide, uX11, wd_1_146, rfl⟩
theorem fX11_79_X8 : aFl RX11 79 8 0 := ⟨RX8, TX8, 6, "ReadAloud$State", rfl, by decide, uX8, wd_1_96, rfl⟩
theorem fX11_100_X8 : aFl RX11 100 8 5 := ⟨RX8, TX8, 6, "ReadAloud$State", rfl, by decide, uX8, wd_1_106, rfl⟩
theorem fX11_103_X8 : aFl RX11 103 8 3 := ⟨RX8, TX8, 6, "ReadAloud$State", rfl, by decide, uX8, wd_1_102, rfl⟩
theorem fX11_109_X8 : aFl RX11 109 8 4 := ⟨RX8, TX8, 6, "ReadAloud$State", rfl, by decide, uX8, wd_1_104, rfl⟩
theorem fX11_115_X8 : aFl RX11 115 8 2 := ⟨RX8, TX8, 6, "ReadAloud$State", rfl, by decide, uX8, wd_1_100, rfl⟩
theorem fX11_140_X8 : aFl RX11 140 8 1 := ⟨RX8, TX8, 6, "ReadAloud$State", rfl, by decide, uX8, wd_1_98, rfl⟩
theorem fX11_159_X11 : aFl RX11 159 11 9 := ⟨RX11, TX11, 10, "ReadAloud", rfl, by decide, uX11, wd_1_147, rfl⟩
theorem fX12_7_X12 : aFl RX12 7 12 0 := ⟨RX12, TX12, 32, "ReadAloudModel", rfl, by decide, uX12, wd_3_115, rfl⟩
theorem fX12_13_X12 : aFl RX12 13 12 5 := ⟨RX12, TX12, 32, "ReadAloudModel", rfl, by decide, uX12, wd_3_120, rfl⟩
theorem fX12_16_X12 : aFl RX12 16 12 6 := ⟨RX12, TX12, 32, "ReadAloudModel", rfl, by decide, uX12, wd_3_121, rfl⟩
theorem fX12_19_X12 : aFl RX12 19 12 11 := ⟨RX12, TX12, 32, "ReadAloudModel", rfl, by decide, uX12, wd_3_126, rfl⟩
theorem fX12_22_X12 : aFl RX12 22 12 12 := ⟨RX12, TX12, 32, "ReadAloudModel", rfl, by decide, uX12, wd_3_127, rfl⟩
theorem fX12_25_X12 : aFl RX12 25 12 14 := ⟨RX12, TX12, 32, "ReadAloudModel", rfl, by decide, uX12, wd_3_129, rfl⟩
theorem fX12_28_X12 : aFl RX12 28 12 16 := ⟨RX12, TX12, 32, "ReadAloudModel", rfl, by decide, uX12, wd_3_131, rfl⟩
theorem fX12_31_X12 : aFl RX12 31 12 17 := ⟨RX12, TX12, 32, "ReadAloudModel", rfl, by decide, uX12, wd_3_132, rfl⟩
theorem fX12_34_X12 : aFl RX12 34 12 19 := ⟨RX12, TX12, 32, "ReadAloudModel", rfl, by decide, uX12, wd_3_134, rfl⟩
theorem fX12_37_X12 : aFl RX12 37 12 20 := ⟨RX12, TX12, 32, "ReadAloudModel", rfl, by decide, uX12, wd_3_135, rfl⟩
theorem fX12_40_X12 : aFl RX12 40 12 22 := ⟨RX12, TX12, 32, "ReadAloudModel", rfl, by decide, uX12, wd_3_137, rfl⟩
theorem fX12_43_X12 : aFl RX12 43 12 28 := ⟨RX12, TX12, 32, "ReadAloudModel", rfl, by decide, uX12, wd_3_143, rfl⟩
theorem fX12_46_X12 : aFl RX12 46 12 29 := ⟨RX12, TX12, 32, "ReadAloudModel", rfl, by decide, uX12, wd_3_144, rfl⟩
theorem fX12_49_X12 : aFl RX12 49 12 30 := ⟨RX12, TX12, 32, "ReadAloudModel", rfl, by decide, uX12, wd_3_145, rfl⟩
theorem fX12_52_X12 : aFl RX12 52 12 23 := ⟨RX12, TX12, 32, "ReadAloudModel", rfl, by decide, uX12, wd_3_138, rfl⟩
theorem fX12_62_X12 : aFl RX12 62 12 1 := ⟨RX12, TX12, 32, "ReadAloudModel", rfl, by decide, uX12, wd_3_116, rfl⟩
theorem fX12_65_X12 : aFl RX12 65 12 2 := ⟨RX12, TX12, 32, "ReadAloudModel", rfl, by decide, uX12, wd_3_117, rfl⟩
theorem fX12_68_X12 : aFl RX12 68 12 3 := ⟨RX12, TX12, 32, "ReadAloudModel", rfl, by decide, uX12, wd_3_118, rfl⟩
theorem fX12_71_X12 : aFl RX12 71 12 4 := ⟨RX12, TX12, 32, "ReadAloudModel", rfl, by decide, uX12, wd_3_119, rfl⟩
theorem fX12_84_X12 : aFl RX12 84 12 8 := ⟨RX12, TX12, 32, "ReadAloudModel", rfl, by decide, uX12, wd_3_123, rfl⟩
theorem fX12_91_X12 : aFl RX12 91 12 7 := ⟨RX12, TX12, 32, "ReadAloudModel", rfl, by decide, uX12, wd_3_122, rfl⟩
theorem fX12_94_X12 : aFl RX12 94 12 9 := ⟨RX12, TX12, 32, "ReadAloudModel", rfl, by decide, uX12, wd_3_124, rfl⟩
theorem fX12_97_X12 : aFl RX12 97 12 13 := ⟨RX12, TX12, 32, "ReadAloudModel", rfl, by decide, uX12, wd_3_128, rfl⟩
theorem fX12_100_X12 : aFl RX12 100 12 18 := ⟨RX12, TX12, 32, "ReadAloudModel", rfl, by decide, uX12, wd_3_133, rfl⟩
theorem fX12_103_X12 : aFl RX12 103 12 10 := ⟨RX12, TX12, 32, "ReadAloudModel", rfl, by decide, uX12, wd_3_125, rfl⟩
theorem fX12_161_X12 : aFl RX12 161 12 15 := ⟨RX12, TX12, 32, "ReadAloudModel", rfl, by decide, uX12, wd_3_130, rfl⟩
theorem fX12_179_X12 : aFl RX12 179 12 21 := ⟨RX12, TX12, 32, "ReadAloudModel", rfl, by decide, uX12, wd_3_136, rfl⟩
theorem fX12_194_X12 : aFl RX12 194 12 24 := ⟨RX12, TX12, 32, "ReadAloudModel", rfl, by decide, uX12, wd_3_139, rfl⟩
theorem fX12_197_X12 : aFl RX12 197 12 25 := ⟨RX12, TX12, 32, "ReadAloudModel", rfl, by decide, uX12, wd_3_140, rfl⟩
theorem fX12_200_X12 : aFl RX12 200 12 26 := ⟨RX12, TX12, 32, "ReadAloudModel", rfl, by decide, uX12, wd_3_141, rfl⟩
theorem fX12_203_X12 : aFl RX12 203 12 27 := ⟨RX12, TX12, 32, "ReadAloudModel", rfl, by decide, uX12, wd_3_142, rfl⟩
theorem fX12_217_X12 : aFl RX12 217 12 31 := ⟨RX12, TX12, 32, "ReadAloudModel", rfl, by decide, uX12, wd_3_146, rfl⟩
theorem fX2_9_X2 : aFl RX2 9 2 0 := ⟨RX2, TX2, 3, "ReadAloud$Brief", rfl, by decide, uX2, wd_1_128, rfl⟩
theorem fX2_15_X2 : aFl RX2 15 2 1 := ⟨RX2, TX2, 3, "ReadAloud$Brief", rfl, by decide, uX2, wd_1_129, rfl⟩
theorem fX2_18_X2 : aFl RX2 18 2 2 := ⟨RX2, TX2, 3, "ReadAloud$Brief", rfl, by decide, uX2, wd_1_130, rfl⟩
theorem fX3_9_X3 : aFl RX3 9 3 0 := ⟨RX3, TX3, 3, "ReadAloud$Heard", rfl, by decide, uX3, wd_1_85, rfl⟩
theorem fX3_15_X3 : aFl RX3 15 3 1 := ⟨RX3, TX3, 3, "ReadAloud$Heard", rfl, by decide, uX3, wd_1_86, rfl⟩
theorem fX3_18_X3 : aFl RX3 18 3 2 := ⟨RX3, TX3, 3, "ReadAloud$Heard", rfl, by decide, uX3, wd_1_87, rfl⟩
theorem fX4_7_X0 : aFl RX4 7 0 0 := ⟨RX0, TX0, 1, "ReadAloud$Man", rfl, by decide, uX0, wd_2_70, rfl⟩
theorem fX4_7_X1 : aFl RX4 7 1 0 := ⟨RX1, TX1, 1, "ReadAloud$Man", rfl, by decide, uX1, wd_2_70, rfl⟩
theorem fX4_7_X4 : aFl RX4 7 4 0 := ⟨RX4, TX4, 1, "ReadAloud$Man", rfl, by decide, uX4, wd_2_70, rfl⟩
theorem fX4_7_X7 : aFl RX4 7 7 0 := ⟨RX7, TX7, 1, "ReadAloud$Man", rfl, by decide, uX7, wd_2_70, rfl⟩
theorem fX4_7_X10 : aFl RX4 7 10 0 := ⟨RX10, TX10, 1, "ReadAloud$Man", rfl, by decide, uX10, wd_2_70, rfl⟩
theorem fX5_9_X5 : aFl RX5 9 5 0 := ⟨RX5, TX5, 3, "ReadAloud$Page", rfl, by decide, uX5, wd_1_48, rfl⟩
theorem fX5_18_X5 : aFl RX5 18 5 1 := ⟨RX5, TX5, 3, "ReadAloud$Page", rfl, by decide, uX5, wd_1_49, rfl⟩
theorem fX5_22_X5 : aFl RX5 22 5 2 := ⟨RX5, TX5, 3, "ReadAloud$Page", rfl, by decide, uX5, wd_1_50, rfl⟩
theorem fX6_9_X6 : aFl RX6 9 6 0 := ⟨RX6, TX6, 2, "ReadAloud$Sheet", rfl, by decide, uX6, wd_1_72, rfl⟩
theorem fX6_15_X6 : aFl RX6 15 6 1 := ⟨RX6, TX6, 2, "ReadAloud$Sheet", rfl, by decide, uX6, wd_1_73, rfl⟩
theorem fX8_12_X8 : aFl RX8 12 8 0 := ⟨RX8, TX8, 6, "ReadAloud$State", rfl, by decide, uX8, wd_1_95, rfl⟩
theorem fX8_21_X8 : aFl RX8 21 8 1 := ⟨RX8, TX8, 6, "ReadAloud$State", rfl, by decide, uX8, wd_1_97, rfl⟩
theorem fX8_25_X8 : aFl RX8 25 8 2 := ⟨RX8, TX8, 6, "ReadAloud$State", rfl, by decide, uX8, wd_1_99, rfl⟩
theorem fX8_33_X8 : aFl RX8 33 8 3 := ⟨RX8, TX8, 6, "ReadAloud$State", rfl, by decide, uX8, wd_1_101, rfl⟩
theorem fX8_37_X8 : aFl RX8 37 8 4 := ⟨RX8, TX8, 6, "ReadAloud$State", rfl, by decide, uX8, wd_1_103, rfl⟩
theorem fX8_40_X8 : aFl RX8 40 8 5 := ⟨RX8, TX8, 6, "ReadAloud$State", rfl, by decide, uX8, wd_1_105, rfl⟩
theorem fX9_22_X9 : aFl RX9 22 9 0 := ⟨RX9, TX9, 3, "ReadAloud$Walk", rfl, by decide, uX9, wd_1_37, rfl⟩
theorem fX9_26_X9 : aFl RX9 26 9 1 := ⟨RX9, TX9, 3, "ReadAloud$Walk", rfl, by decide, uX9, wd_1_38, rfl⟩
theorem fX9_29_X9 : aFl RX9 29 9 2 := ⟨RX9, TX9, 3, "ReadAloud$Walk", rfl, by decide, uX9, wd_1_39, rfl⟩
theorem pX0_0 : aFp 0 0 .int true := ⟨RX0, TX0, 1, tyX0, rfl, tyX0_ok, nmX0, rfl, by decide +kernel⟩
theorem pX1_0 : aFp 1 0 .int true := ⟨RX1, TX1, 1, tyX1, rfl, tyX1_ok, nmX1, rfl, by decide +kernel⟩
theorem pX2_0 : aFp 2 0 (.array .int) true := ⟨RX2, TX2, 3, tyX2, rfl, tyX2_ok, nmX2, rfl, by decide +kernel⟩
theorem pX2_1 : aFp 2 1 (.array .int) true := ⟨RX2, TX2, 3, tyX2, rfl, tyX2_ok, nmX2, rfl, by decide +kernel⟩
theorem pX2_2 : aFp 2 2 .int false := ⟨RX2, TX2, 3, tyX2, rfl, tyX2_ok, nmX2, rfl, by decide +kernel⟩
theorem pX3_0 : aFp 3 0 (.array .int) true := ⟨RX3, TX3, 3, tyX3, rfl, tyX3_ok, nmX3, rfl, by decide +kernel⟩
theorem pX3_1 : aFp 3 1 (.array .int) true := ⟨RX3, TX3, 3, tyX3, rfl, tyX3_ok, nmX3, rfl, by decide +kernel⟩
theorem pX3_2 : aFp 3 2 .int false := ⟨RX3, TX3, 3, tyX3, rfl, tyX3_ok, nmX3, rfl, by decide +kernel⟩
theorem pX4_0 : aFp 4 0 .int true := ⟨RX4, TX4, 1, tyX4, rfl, tyX4_ok, nmX4, rfl, by decide +kernel⟩
theorem pX5_0 : aFp 5 0 (.array .int) true := ⟨RX5, TX5, 3, tyX5, rfl, tyX5_ok, nmX5, rfl, by decide +kernel⟩
theorem pX5_1 : aFp 5 1 (.object "ReadAloud$Walk") true := ⟨RX5, TX5, 3, tyX5, rfl, tyX5_ok, nmX5, rfl, by decide +kernel⟩
theorem pX5_2 : aFp 5 2 .int false := ⟨RX5, TX5, 3, tyX5, rfl, tyX5_ok, nmX5, rfl, by decide +kernel⟩
theorem pX6_0 : aFp 6 0 (.array .int) true := ⟨RX6, TX6, 2, tyX6, rfl, tyX6_ok, nmX6, rfl, by decide +kernel⟩
theorem pX6_1 : aFp 6 1 .int false := ⟨RX6, TX6, 2, tyX6, rfl, tyX6_ok, nmX6, rfl, by decide +kernel⟩
theorem pX7_0 : aFp 7 0 .int true := ⟨RX7, TX7, 1, tyX7, rfl, tyX7_ok, nmX7, rfl, by decide +kernel⟩
theorem pX8_0 : aFp 8 0 (.object "ReadAloud$Sheet") true := ⟨RX8, TX8, 6, tyX8, rfl, tyX8_ok, nmX8, rfl, by decide +kernel⟩
theorem pX8_1 : aFp 8 1 (.object "ReadAloud$Heard") true := ⟨RX8, TX8, 6, tyX8, rfl, tyX8_ok, nmX8, rfl, by decide +kernel⟩
theorem pX8_2 : aFp 8 2 (.array .int) true := ⟨RX8, TX8, 6, tyX8, rfl, tyX8_ok, nmX8, rfl, by decide +kernel⟩
theorem pX8_3 : aFp 8 3 .int false := ⟨RX8, TX8, 6, tyX8, rfl, tyX8_ok, nmX8, rfl, by decide +kernel⟩
theorem pX8_4 : aFp 8 4 .int false := ⟨RX8, TX8, 6, tyX8, rfl, tyX8_ok, nmX8, rfl, by decide +kernel⟩
theorem pX8_5 : aFp 8 5 .int false := ⟨RX8, TX8, 6, tyX8, rfl, tyX8_ok, nmX8, rfl, by decide +kernel⟩
theorem pX9_0 : aFp 9 0 .int false := ⟨RX9, TX9, 3, tyX9, rfl, tyX9_ok, nmX9, rfl, by decide +kernel⟩
theorem pX9_1 : aFp 9 1 .int false := ⟨RX9, TX9, 3, tyX9, rfl, tyX9_ok, nmX9, rfl, by decide +kernel⟩
theorem pX9_2 : aFp 9 2 .int false := ⟨RX9, TX9, 3, tyX9, rfl, tyX9_ok, nmX9, rfl, by decide +kernel⟩
theorem pX10_0 : aFp 10 0 .int true := ⟨RX10, TX10, 1, tyX10, rfl, tyX10_ok, nmX10, rfl, by decide +kernel⟩
theorem pX11_0 : aFp 11 0 (.object "ReadAloud$Page") true := ⟨RX11, TX11, 10, tyX11, rfl, tyX11_ok, nmX11, rfl, by decide +kernel⟩
theorem pX11_1 : aFp 11 1 (.array .int) true := ⟨RX11, TX11, 10, tyX11, rfl, tyX11_ok, nmX11, rfl, by decide +kernel⟩
theorem pX11_2 : aFp 11 2 (.array (.object "ReadAloud$Man")) true := ⟨RX11, TX11, 10, tyX11, rfl, tyX11_ok, nmX11, rfl, by decide +kernel⟩
theorem pX11_3 : aFp 11 3 (.object "ReadAloud$State") true := ⟨RX11, TX11, 10, tyX11, rfl, tyX11_ok, nmX11, rfl, by decide +kernel⟩
theorem pX11_4 : aFp 11 4 (.object "ReadAloud$State") true := ⟨RX11, TX11, 10, tyX11, rfl, tyX11_ok, nmX11, rfl, by decide +kernel⟩
theorem pX11_5 : aFp 11 5 (.object "ReadAloud$Sheet") true := ⟨RX11, TX11, 10, tyX11, rfl, tyX11_ok, nmX11, rfl, by decide +kernel⟩
theorem pX11_6 : aFp 11 6 (.object "ReadAloud$Brief") true := ⟨RX11, TX11, 10, tyX11, rfl, tyX11_ok, nmX11, rfl, by decide +kernel⟩
theorem pX11_7 : aFp 11 7 .boolean false := ⟨RX11, TX11, 10, tyX11, rfl, tyX11_ok, nmX11, rfl, by decide +kernel⟩
theorem pX11_8 : aFp 11 8 .int false := ⟨RX11, TX11, 10, tyX11, rfl, tyX11_ok, nmX11, rfl, by decide +kernel⟩
theorem pX11_9 : aFp 11 9 .int false := ⟨RX11, TX11, 10, tyX11, rfl, tyX11_ok, nmX11, rfl, by decide +kernel⟩
theorem pX12_0 : aFp 12 0 (.array .int) true := ⟨RX12, TX12, 32, tyX12, rfl, tyX12_ok, nmX12, rfl, by decide +kernel⟩
theorem pX12_1 : aFp 12 1 .int false := ⟨RX12, TX12, 32, tyX12, rfl, tyX12_ok, nmX12, rfl, by decide +kernel⟩
theorem pX12_2 : aFp 12 2 .int false := ⟨RX12, TX12, 32, tyX12, rfl, tyX12_ok, nmX12, rfl, by decide +kernel⟩
theorem pX12_3 : aFp 12 3 .int false := ⟨RX12, TX12, 32, tyX12, rfl, tyX12_ok, nmX12, rfl, by decide +kernel⟩
theorem pX12_4 : aFp 12 4 .int false := ⟨RX12, TX12, 32, tyX12, rfl, tyX12_ok, nmX12, rfl, by decide +kernel⟩
theorem pX12_5 : aFp 12 5 (.array .int) true := ⟨RX12, TX12, 32, tyX12, rfl, tyX12_ok, nmX12, rfl, by decide +kernel⟩
theorem pX12_6 : aFp 12 6 (.array .int) true := ⟨RX12, TX12, 32, tyX12, rfl, tyX12_ok, nmX12, rfl, by decide +kernel⟩
theorem pX12_7 : aFp 12 7 .int false := ⟨RX12, TX12, 32, tyX12, rfl, tyX12_ok, nmX12, rfl, by decide +kernel⟩
theorem pX12_8 : aFp 12 8 .int false := ⟨RX12, TX12, 32, tyX12, rfl, tyX12_ok, nmX12, rfl, by decide +kernel⟩
theorem pX12_9 : aFp 12 9 .int false := ⟨RX12, TX12, 32, tyX12, rfl, tyX12_ok, nmX12, rfl, by decide +kernel⟩
theorem pX12_10 : aFp 12 10 .int false := ⟨RX12, TX12, 32, tyX12, rfl, tyX12_ok, nmX12, rfl, by decide +kernel⟩
theorem pX12_11 : aFp 12 11 (.array .int) true := ⟨RX12, TX12, 32, tyX12, rfl, tyX12_ok, nmX12, rfl, by decide +kernel⟩
theorem pX12_12 : aFp 12 12 (.array .int) true := ⟨RX12, TX12, 32, tyX12, rfl, tyX12_ok, nmX12, rfl, by decide +kernel⟩
theorem pX12_13 : aFp 12 13 .int false := ⟨RX12, TX12, 32, tyX12, rfl, tyX12_ok, nmX12, rfl, by decide +kernel⟩
theorem pX12_14 : aFp 12 14 (.array .int) true := ⟨RX12, TX12, 32, tyX12, rfl, tyX12_ok, nmX12, rfl, by decide +kernel⟩
theorem pX12_15 : aFp 12 15 .int false := ⟨RX12, TX12, 32, tyX12, rfl, tyX12_ok, nmX12, rfl, by decide +kernel⟩
theorem pX12_16 : aFp 12 16 (.array .int) true := ⟨RX12, TX12, 32, tyX12, rfl, tyX12_ok, nmX12, rfl, by decide +kernel⟩
theorem pX12_17 : aFp 12 17 (.array .int) true := ⟨RX12, TX12, 32, tyX12, rfl, tyX12_ok, nmX12, rfl, by decide +kernel⟩
theorem pX12_18 : aFp 12 18 .int false := ⟨RX12, TX12, 32, tyX12, rfl, tyX12_ok, nmX12, rfl, by decide +kernel⟩
theorem pX12_19 : aFp 12 19 (.array .int) true := ⟨RX12, TX12, 32, tyX12, rfl, tyX12_ok, nmX12, rfl, by decide +kernel⟩
theorem pX12_20 : aFp 12 20 (.array .int) true := ⟨RX12, TX12, 32, tyX12, rfl, tyX12_ok, nmX12, rfl, by decide +kernel⟩
theorem pX12_21 : aFp 12 21 .int false := ⟨RX12, TX12, 32, tyX12, rfl, tyX12_ok, nmX12, rfl, by decide +kernel⟩
theorem pX12_22 : aFp 12 22 (.array .int) true := ⟨RX12, TX12, 32, tyX12, rfl, tyX12_ok, nmX12, rfl, by decide +kernel⟩
theorem pX12_23 : aFp 12 23 .int false := ⟨RX12, TX12, 32, tyX12, rfl, tyX12_ok, nmX12, rfl, by decide +kernel⟩
theorem pX12_24 : aFp 12 24 .int false := ⟨RX12, TX12, 32, tyX12, rfl, tyX12_ok, nmX12, rfl, by decide +kernel⟩
theorem pX12_25 : aFp 12 25 .int false := ⟨RX12, TX12, 32, tyX12, rfl, tyX12_ok, nmX12, rfl, by decide +kernel⟩
theorem pX12_26 : aFp 12 26 .int false := ⟨RX12, TX12, 32, tyX12, rfl, tyX12_ok, nmX12, rfl, by decide +kernel⟩
theorem pX12_27 : aFp 12 27 .int false := ⟨RX12, TX12, 32, tyX12, rfl, tyX12_ok, nmX12, rfl, by decide +kernel⟩
theorem pX12_28 : aFp 12 28 (.array .int) true := ⟨RX12, TX12, 32, tyX12, rfl, tyX12_ok, nmX12, rfl, by decide +kernel⟩
theorem pX12_29 : aFp 12 29 (.array .int) true := ⟨RX12, TX12, 32, tyX12, rfl, tyX12_ok, nmX12, rfl, by decide +kernel⟩
theorem pX12_30 : aFp 12 30 (.array .int) true := ⟨RX12, TX12, 32, tyX12, rfl, tyX12_ok, nmX12, rfl, by decide +kernel⟩
theorem pX12_31 : aFp 12 31 .long false := ⟨RX12, TX12, 32, tyX12, rfl, tyX12_ok, nmX12, rfl, by decide +kernel⟩
theorem kL_9 : aLI RL 9 yX11_init cX11_init 1 0 := ⟨wd_1_19, wd_1_20, wd_1_1, wd_1_21, rfl, ⟨by decide +kernel, by decide +kernel, by decide +kernel⟩⟩
theorem kL_12 : aLI RL 12 yX12_init cX12_init 1 0 := ⟨wd_3_111, wd_3_112, wd_1_8, wd_3_113, rfl, ⟨by decide +kernel, by decide +kernel, by decide +kernel⟩⟩
theorem kL_13 : aLV RL 13 RX11 yX11_letter cX11_letter 2 (some .int) 1 := ⟨wd_1_169, wd_1_170, wd_1_171, wd_1_1, wd_1_172, rfl, ⟨by decide +kernel, by decide +kernel, by decide +kernel⟩⟩
theorem kL_17 : aLV RL 17 RX12 yX12_letter cX12_letter 2 (some .int) 1 := ⟨wd_3_212, wd_3_213, wd_3_214, wd_1_8, wd_3_215, rfl, ⟨by decide +kernel, by decide +kernel, by decide +kernel⟩⟩
theorem kL_18 : aLV RL 18 RX11 yX11_blank cX11_blank 2 (some .int) 0 := ⟨wd_1_181, wd_1_182, wd_1_183, wd_1_1, wd_1_184, rfl, ⟨by decide +kernel, by decide +kernel, by decide +kernel⟩⟩
theorem kL_22 : aLV RL 22 RX12 yX12_blank cX12_blank 2 (some .int) 0 := ⟨wd_3_220, wd_3_221, wd_3_222, wd_1_8, wd_3_223, rfl, ⟨by decide +kernel, by decide +kernel, by decide +kernel⟩⟩
theorem kL_23 : aLV RL 23 RX11 yX11_fault cX11_fault 1 (some .int) 0 := ⟨wd_1_189, wd_1_190, wd_1_191, wd_1_1, wd_1_192, rfl, ⟨by decide +kernel, by decide +kernel, by decide +kernel⟩⟩
theorem kL_26 : aLV RL 26 RX12 yX12_fault cX12_fault 1 (some .int) 0 := ⟨wd_3_224, wd_3_225, wd_3_226, wd_1_8, wd_3_227, rfl, ⟨by decide +kernel, by decide +kernel, by decide +kernel⟩⟩
theorem kL_27 : aLV RL 27 RX11 yX11_court cX11_court 1 (some .int) 0 := ⟨wd_1_216, wd_1_217, wd_1_218, wd_1_1, wd_1_219, rfl, ⟨by decide +kernel, by decide +kernel, by decide +kernel⟩⟩
theorem kL_30 : aLV RL 30 RX12 yX12_court cX12_court 1 (some .int) 0 := ⟨wd_3_237, wd_3_238, wd_3_239, wd_1_8, wd_4_0, rfl, ⟨by decide +kernel, by decide +kernel, by decide +kernel⟩⟩
theorem kL_31 : aLV RL 31 RX11 yX11_near cX11_near 2 (some .int) 1 := ⟨wd_2_18, wd_2_19, wd_2_20, wd_1_1, wd_2_21, rfl, ⟨by decide +kernel, by decide +kernel, by decide +kernel⟩⟩
theorem kL_34 : aLV RL 34 RX12 yX12_near cX12_near 2 (some .int) 1 := ⟨wd_4_4, wd_4_5, wd_4_6, wd_1_8, wd_4_7, rfl, ⟨by decide +kernel, by decide +kernel, by decide +kernel⟩⟩
theorem kL_35 : aLV RL 35 RX11 yX11_word cX11_word 2 (some .int) 1 := ⟨wd_2_26, wd_2_27, wd_2_28, wd_1_1, wd_2_29, rfl, ⟨by decide +kernel, by decide +kernel, by decide +kernel⟩⟩
theorem kL_38 : aLV RL 38 RX12 yX12_word cX12_word 2 (some .int) 1 := ⟨wd_4_13, wd_4_14, wd_4_15, wd_1_8, wd_4_16, rfl, ⟨by decide +kernel, by decide +kernel, by decide +kernel⟩⟩
theorem kL_39 : aLV RL 39 RX11 yX11_put cX11_put 4 (some .int) 2 := ⟨wd_2_39, wd_2_40, wd_2_41, wd_1_1, wd_2_42, rfl, ⟨by decide +kernel, by decide +kernel, by decide +kernel⟩⟩
theorem kL_43 : aLV RL 43 RX12 yX12_put cX12_put 4 (some .int) 2 := ⟨wd_4_21, wd_4_22, wd_4_23, wd_1_8, wd_4_24, rfl, ⟨by decide +kernel, by decide +kernel, by decide +kernel⟩⟩
theorem kL_44 : aLV RL 44 RX11 yX11_limit cX11_limit 3 (some .int) 1 := ⟨wd_2_47, wd_2_48, wd_2_49, wd_1_1, wd_2_50, rfl, ⟨by decide +kernel, by decide +kernel, by decide +kernel⟩⟩
theorem kL_47 : aLV RL 47 RX12 yX12_limit cX12_limit 3 (some .int) 1 := ⟨wd_4_25, wd_4_26, wd_4_27, wd_1_8, wd_4_28, rfl, ⟨by decide +kernel, by decide +kernel, by decide +kernel⟩⟩
theorem kL_48 : aLV RL 48 RX11 yX11_accuse cX11_accuse 4 (some .int) 2 := ⟨wd_2_51, wd_2_52, wd_2_53, wd_1_1, wd_2_54, rfl, ⟨by decide +kernel, by decide +kernel, by decide +kernel⟩⟩
theorem kL_51 : aLV RL 51 RX12 yX12_accuse cX12_accuse 3 (some .int) 2 := ⟨wd_4_30, wd_4_31, wd_4_32, wd_1_8, wd_4_33, rfl, ⟨by decide +kernel, by decide +kernel, by decide +kernel⟩⟩
theorem kL_52 : aLV RL 52 RX11 yX11_about cX11_about 4 (some .int) 2 := ⟨wd_2_102, wd_2_103, wd_2_104, wd_1_1, wd_2_105, rfl, ⟨by decide +kernel, by decide +kernel, by decide +kernel⟩⟩
theorem kL_55 : aLV RL 55 RX12 yX12_about cX12_about 3 (some .int) 2 := ⟨wd_4_34, wd_4_35, wd_4_36, wd_1_8, wd_4_37, rfl, ⟨by decide +kernel, by decide +kernel, by decide +kernel⟩⟩
theorem kL_56 : aLV RL 56 RX11 yX11_as cX11_as 4 (some .int) 2 := ⟨wd_2_219, wd_2_220, wd_2_221, wd_1_1, wd_2_222, rfl, ⟨by decide +kernel, by decide +kernel, by decide +kernel⟩⟩
theorem kL_59 : aLV RL 59 RX12 yX12_as cX12_as 5 (some .int) 2 := ⟨wd_4_84, wd_4_85, wd_4_86, wd_1_8, wd_4_87, rfl, ⟨by decide +kernel, by decide +kernel, by decide +kernel⟩⟩
theorem kL_60 : aLV RL 60 RX11 yX11_lesson cX11_lesson 4 (some .int) 2 := ⟨wd_2_226, wd_2_227, wd_2_228, wd_1_1, wd_2_229, rfl, ⟨by decide +kernel, by decide +kernel, by decide +kernel⟩⟩
theorem kL_63 : aLV RL 63 RX12 yX12_lesson cX12_lesson 3 (some .int) 2 := ⟨wd_4_88, wd_4_89, wd_4_90, wd_1_8, wd_4_91, rfl, ⟨by decide +kernel, by decide +kernel, by decide +kernel⟩⟩
theorem kL_64 : aLV RL 64 RX11 yX11_unlearn cX11_unlearn 3 (some .int) 1 := ⟨wd_2_230, wd_2_231, wd_2_232, wd_1_1, wd_2_233, rfl, ⟨by decide +kernel, by decide +kernel, by decide +kernel⟩⟩
theorem kL_67 : aLV RL 67 RX12 yX12_unlearn cX12_unlearn 3 (some .int) 1 := ⟨wd_4_92, wd_4_93, wd_4_94, wd_1_8, wd_4_95, rfl, ⟨by decide +kernel, by decide +kernel, by decide +kernel⟩⟩
theorem kL_68 : aLV RL 68 RX11 yX11_brief cX11_brief 2 (some .int) 1 := ⟨wd_2_234, wd_2_235, wd_2_236, wd_1_1, wd_2_237, rfl, ⟨by decide +kernel, by decide +kernel, by decide +kernel⟩⟩
theorem kL_71 : aLV RL 71 RX12 yX12_brief cX12_brief 2 (some .int) 1 := ⟨wd_4_96, wd_4_97, wd_4_98, wd_1_8, wd_4_99, rfl, ⟨by decide +kernel, by decide +kernel, by decide +kernel⟩⟩
theorem kL_72 : aLV RL 72 RX11 yX11_hide cX11_hide 6 (some .int) 3 := ⟨wd_3_16, wd_3_17, wd_3_18, wd_1_1, wd_3_19, rfl, ⟨by decide +kernel, by decide +kernel, by decide +kernel⟩⟩
theorem kL_76 : aLV RL 76 RX12 yX12_hide cX12_hide 4 (some .int) 3 := ⟨wd_4_109, wd_4_110, wd_4_111, wd_1_8, wd_4_112, rfl, ⟨by decide +kernel, by decide +kernel, by decide +kernel⟩⟩
theorem kL_77 : aLV RL 77 RX11 yX11_hear cX11_hear 6 (some .int) 3 := ⟨wd_3_28, wd_3_29, wd_3_30, wd_1_1, wd_3_31, rfl, ⟨by decide +kernel, by decide +kernel, by decide +kernel⟩⟩
theorem kL_81 : aLV RL 81 RX12 yX12_hear cX12_hear 6 (some .int) 3 := ⟨wd_4_118, wd_4_119, wd_4_120, wd_1_8, wd_4_121, rfl, ⟨by decide +kernel, by decide +kernel, by decide +kernel⟩⟩
theorem kL_82 : aLV RL 82 RX11 yX11_forget cX11_forget 2 (some .int) 0 := ⟨wd_3_40, wd_3_41, wd_3_42, wd_1_1, wd_3_43, rfl, ⟨by decide +kernel, by decide +kernel, by decide +kernel⟩⟩
theorem kL_85 : aLV RL 85 RX12 yX12_forget cX12_forget 2 (some .int) 0 := ⟨wd_4_122, wd_4_123, wd_4_124, wd_1_8, wd_4_125, rfl, ⟨by decide +kernel, by decide +kernel, by decide +kernel⟩⟩
theorem kL_86 : aLV RL 86 RX11 yX11_trials cX11_trials 8 (some .int) 3 := ⟨wd_3_45, wd_3_46, wd_3_47, wd_1_1, wd_3_48, rfl, ⟨by decide +kernel, by decide +kernel, by decide +kernel⟩⟩
theorem kL_89 : aLV RL 89 RX12 yX12_trials cX12_trials 9 (some .int) 3 := ⟨wd_4_126, wd_4_127, wd_4_128, wd_1_8, wd_4_129, rfl, ⟨by decide +kernel, by decide +kernel, by decide +kernel⟩⟩
theorem kL_90 : aLV RL 90 RX11 yX11_image cX11_image 1 (some .int) 0 := ⟨wd_3_65, wd_3_66, wd_3_67, wd_1_1, wd_3_68, rfl, ⟨by decide +kernel, by decide +kernel, by decide +kernel⟩⟩
theorem kL_93 : aLV RL 93 RX12 yX12_image cX12_image 1 (some .int) 0 := ⟨wd_4_140, wd_4_141, wd_4_142, wd_1_8, wd_4_143, rfl, ⟨by decide +kernel, by decide +kernel, by decide +kernel⟩⟩
theorem kL_94 : aLV RL 94 RX11 yX11_restore cX11_restore 1 (some .int) 0 := ⟨wd_3_86, wd_3_87, wd_3_88, wd_1_1, wd_3_89, rfl, ⟨by decide +kernel, by decide +kernel, by decide +kernel⟩⟩
theorem kL_97 : aLV RL 97 RX12 yX12_restore cX12_restore 1 (some .int) 0 := ⟨wd_4_144, wd_4_145, wd_4_146, wd_1_8, wd_4_147, rfl, ⟨by decide +kernel, by decide +kernel, by decide +kernel⟩⟩
theorem kL_98 : aLV RL 98 RX11 yX11_count cX11_count 2 (some .int) 1 := ⟨wd_3_90, wd_3_91, wd_3_92, wd_1_1, wd_3_93, rfl, ⟨by decide +kernel, by decide +kernel, by decide +kernel⟩⟩
theorem kL_101 : aLV RL 101 RX12 yX12_count cX12_count 2 (some .int) 1 := ⟨wd_4_148, wd_4_149, wd_4_150, wd_1_8, wd_4_151, rfl, ⟨by decide +kernel, by decide +kernel, by decide +kernel⟩⟩
theorem kL_102 : aLV RL 102 RX11 yX11_digest cX11_digest 5 (some .long) 0 := ⟨wd_3_99, wd_3_100, wd_3_101, wd_1_1, wd_3_102, rfl, ⟨by decide +kernel, by decide +kernel, by decide +kernel⟩⟩
theorem kL_106 : aLV RL 106 RX12 yX12_digest cX12_digest 3 (some .long) 0 := ⟨wd_4_164, wd_4_165, wd_4_166, wd_1_8, wd_4_167, rfl, ⟨by decide +kernel, by decide +kernel, by decide +kernel⟩⟩
theorem kX0_1 : aLI RX0 1 yX4_init cX4_init 2 1 := ⟨wd_2_79, wd_2_67, wd_1_9, wd_2_68, rfl, ⟨by decide +kernel, by decide +kernel, by decide +kernel⟩⟩
theorem kX0_7 : aLV RX0 7 RX6 yX6_firstPlacesOf cX6_firstPlacesOf 5 (some .int) 1 := ⟨wd_2_163, wd_2_164, wd_2_165, wd_1_5, wd_2_166, rfl, ⟨by decide +kernel, by decide +kernel, by decide +kernel⟩⟩
theorem kX1_1 : aLI RX1 1 yX4_init cX4_init 2 1 := ⟨wd_2_87, wd_2_67, wd_1_9, wd_2_68, rfl, ⟨by decide +kernel, by decide +kernel, by decide +kernel⟩⟩
theorem kX1_7 : aLV RX1 7 RX6 yX6_placesOf cX6_placesOf 4 (some .int) 1 := ⟨wd_2_170, wd_2_171, wd_2_172, wd_1_5, wd_2_173, rfl, ⟨by decide +kernel, by decide +kernel, by decide +kernel⟩⟩
theorem kX1_13 : aLV RX1 13 RX6 yX6_placesBehind cX6_placesBehind 2 (some .int) 1 := ⟨wd_2_174, wd_2_175, wd_2_176, wd_1_5, wd_2_177, rfl, ⟨by decide +kernel, by decide +kernel, by decide +kernel⟩⟩
theorem kX10_1 : aLI RX10 1 yX7_init cX7_init 2 1 := ⟨wd_2_95, wd_2_64, wd_1_10, wd_2_65, rfl, ⟨by decide +kernel, by decide +kernel, by decide +kernel⟩⟩
theorem kX10_7 : aLSu RX10 7 yX7_placesAnyhow cX7_placesAnyhow 2 (some .int) 1 := ⟨wd_2_194, wd_4_174, wd_2_97, wd_2_189, wd_1_10, wd_2_190, by decide +kernel, by decide +kernel⟩
theorem kX10_13 : aLV RX10 13 RX6 yX6_placesOf cX6_placesOf 4 (some .int) 1 := ⟨wd_2_195, wd_2_171, wd_2_172, wd_1_5, wd_2_173, rfl, ⟨by decide +kernel, by decide +kernel, by decide +kernel⟩⟩
theorem kX11_1 : Cond.methodLink RX11 1 Lib.objectInit ∈ aWd := wd_1_22
theorem kX11_9 : aLIn RX11 9 yX5_init "ReadAloud" cX5_init 1 0 := ⟨List.mem_of_getElem? (i := 0) rfl, wd_1_28, wd_1_2, wd_1_29, rfl, ⟨by decide +kernel, by decide +kernel, by decide +kernel⟩⟩
theorem kX11_28 : aLIn RX11 28 yX8_init "ReadAloud" cX8_init 1 0 := ⟨List.mem_of_getElem? (i := 2) rfl, wd_1_63, wd_1_4, wd_1_64, rfl, ⟨by decide +kernel, by decide +kernel, by decide +kernel⟩⟩
theorem kX11_38 : aLIn RX11 38 yX6_init "ReadAloud" cX6_init 1 0 := ⟨List.mem_of_getElem? (i := 5) rfl, wd_1_69, wd_1_5, wd_1_70, rfl, ⟨by decide +kernel, by decide +kernel, by decide +kernel⟩⟩
theorem kX11_45 : aLIn RX11 45 yX2_init "ReadAloud" cX2_init 1 0 := ⟨List.mem_of_getElem? (i := 6) rfl, wd_1_125, wd_1_7, wd_1_126, rfl, ⟨by decide +kernel, by decide +kernel, by decide +kernel⟩⟩
theorem kX11_228 : aLI RX11 228 yX7_init cX7_init 2 1 := ⟨wd_2_63, wd_2_64, wd_1_10, wd_2_65, rfl, ⟨by decide +kernel, by decide +kernel, by decide +kernel⟩⟩
theorem kX11_233 : aLI RX11 233 yX0_init cX0_init 2 1 := ⟨wd_2_76, wd_2_77, wd_1_11, wd_2_78, rfl, ⟨by decide +kernel, by decide +kernel, by decide +kernel⟩⟩
theorem kX11_236 : aLI RX11 236 yX1_init cX1_init 2 1 := ⟨wd_2_84, wd_2_85, wd_1_12, wd_2_86, rfl, ⟨by decide +kernel, by decide +kernel, by decide +kernel⟩⟩
theorem kX11_239 : aLI RX11 239 yX10_init cX10_init 2 1 := ⟨wd_2_92, wd_2_93, wd_1_13, wd_2_94, rfl, ⟨by decide +kernel, by decide +kernel, by decide +kernel⟩⟩
theorem kX11_240 : aLI RX11 240 yX4_init cX4_init 2 1 := ⟨wd_2_99, wd_2_67, wd_1_9, wd_2_68, rfl, ⟨by decide +kernel, by decide +kernel, by decide +kernel⟩⟩
theorem kX11_93 : aLSt RX11 93 yX11_isWord cX11_isWord 1 (some .boolean) 1 := ⟨wd_2_9, wd_1_210, wd_1_1, wd_1_211, ⟨by decide +kernel, by decide +kernel, by decide +kernel⟩⟩
theorem kX11_106 : aLSt RX11 106 yX11_isKind cX11_isKind 1 (some .boolean) 1 := ⟨wd_2_55, wd_2_56, wd_1_1, wd_2_57, ⟨by decide +kernel, by decide +kernel, by decide +kernel⟩⟩
theorem kX11_111 : aLSt RX11 111 yX11_manOfKind cX11_manOfKind 2 (some (.object "ReadAloud$Man")) 2 := ⟨wd_2_58, wd_2_59, wd_1_1, wd_2_60, ⟨by decide +kernel, by decide +kernel, by decide +kernel⟩⟩
theorem kX11_132 : aLSt RX11 132 yJ6_bitCount_0f7a4 cJ6_bitCount_0f7a4 1 (some .int) 1 := ⟨wd_2_198, wd_2_199, wd_1_14, wd_2_200, ⟨by decide +kernel, by decide +kernel, by decide +kernel⟩⟩
theorem kX11_152 : aLSt RX11 152 yX11_isOfKind cX11_isOfKind 2 (some .boolean) 2 := ⟨wd_2_223, wd_2_224, wd_1_1, wd_2_225, ⟨by decide +kernel, by decide +kernel, by decide +kernel⟩⟩
theorem kX11_253 : Cond.methodLink RX11 253 Lib.Math.max.name ∈ aWd := wd_2_216
theorem kX11_50 : aLV RX11 50 RX5 yX5_add cX5_add 2 (some .boolean) 1 := ⟨wd_1_173, wd_1_174, wd_1_175, wd_1_2, wd_1_176, rfl, ⟨by decide +kernel, by decide +kernel, by decide +kernel⟩⟩
theorem kX11_54 : aLV RX11 54 RX5 yX5_size cX5_size 1 (some .int) 0 := ⟨wd_1_177, wd_1_178, wd_1_179, wd_1_2, wd_1_180, rfl, ⟨by decide +kernel, by decide +kernel, by decide +kernel⟩⟩
theorem kX11_58 : aLV RX11 58 RX5 yX5_clear cX5_clear 1 none 0 := ⟨wd_1_185, wd_1_186, wd_1_187, wd_1_2, wd_1_188, rfl, ⟨by decide +kernel, by decide +kernel, by decide +kernel⟩⟩
theorem kX11_61 : aLV RX11 61 RX5 yX5_faultPlace cX5_faultPlace 2 (some .int) 0 := ⟨wd_1_193, wd_1_194, wd_1_195, wd_1_2, wd_1_196, rfl, ⟨by decide +kernel, by decide +kernel, by decide +kernel⟩⟩
theorem kX11_64 : aLV RX11 64 RX5 yX5_isCourt cX5_isCourt 1 (some .boolean) 0 := ⟨wd_1_220, wd_1_221, wd_1_222, wd_1_2, wd_1_223, rfl, ⟨by decide +kernel, by decide +kernel, by decide +kernel⟩⟩
theorem kX11_68 : aLV RX11 68 RX11 yX11_readCourt cX11_readCourt 4 none 0 := ⟨wd_1_229, wd_1_231, (aWd_p (List.mem_append_left _ (List.mem_of_getElem? (i := 2) rfl))), wd_1_1, wd_1_232, rfl, ⟨by decide +kernel, by decide +kernel, by decide +kernel⟩⟩
theorem kX11_82 : aLV RX11 82 RX6 yX6_size cX6_size 1 (some .int) 0 := ⟨wd_2_14, wd_2_15, wd_2_16, wd_1_5, wd_2_17, rfl, ⟨by decide +kernel, by decide +kernel, by decide +kernel⟩⟩
theorem kX11_83 : aLV RX11 83 RX11 yX11_hasCourt cX11_hasCourt 1 (some .boolean) 0 := ⟨wd_2_22, wd_2_24, (aWd_p (List.mem_append_left _ (List.mem_of_getElem? (i := 3) rfl))), wd_1_1, wd_2_25, rfl, ⟨by decide +kernel, by decide +kernel, by decide +kernel⟩⟩
theorem kX11_86 : aLV RX11 86 RX6 yX6_has cX6_has 2 (some .boolean) 1 := ⟨wd_2_30, wd_2_31, wd_2_32, wd_1_5, wd_2_33, rfl, ⟨by decide +kernel, by decide +kernel, by decide +kernel⟩⟩
theorem kX11_89 : aLV RX11 89 RX6 yX6_at cX6_at 2 (some .int) 1 := ⟨wd_2_34, wd_2_35, wd_2_36, wd_1_5, wd_2_37, rfl, ⟨by decide +kernel, by decide +kernel, by decide +kernel⟩⟩
theorem kX11_96 : aLV RX11 96 RX6 yX6_set cX6_set 3 none 2 := ⟨wd_2_43, wd_2_44, wd_2_45, wd_1_5, wd_2_46, rfl, ⟨by decide +kernel, by decide +kernel, by decide +kernel⟩⟩
theorem kX11_118 : aLV RX11 118 RX11 yX11_manOf cX11_manOf 2 (some (.object "ReadAloud$Man")) 1 := ⟨wd_2_106, wd_2_108, (aWd_p (List.mem_append_left _ (List.mem_of_getElem? (i := 4) rfl))), wd_1_1, wd_2_109, rfl, ⟨by decide +kernel, by decide +kernel, by decide +kernel⟩⟩
theorem kX11_122_X0 : aLU RX11 122 RX0 RX4 yX4_kind yX0_kind cX0_kind 1 (some .int) 0 := ⟨wd_2_114, wd_2_117, wd_2_115, wd_2_118, wd_2_119, wd_1_11, wd_2_120, ⟨_, _, _, wd_2_130⟩, ⟨by decide +kernel, by decide +kernel, by decide +kernel⟩⟩
theorem kX11_122_X1 : aLU RX11 122 RX1 RX4 yX4_kind yX1_kind cX1_kind 1 (some .int) 0 := ⟨wd_2_114, wd_2_117, wd_2_115, wd_2_121, wd_2_122, wd_1_12, wd_2_123, ⟨_, _, _, wd_2_130⟩, ⟨by decide +kernel, by decide +kernel, by decide +kernel⟩⟩
theorem kX11_122_X4 : aLV RX11 122 RX4 yX4_kind cX4_kind 1 (some .int) 0 := ⟨wd_2_114, wd_2_115, wd_2_116, wd_1_9, wd_2_130, rfl, ⟨by decide +kernel, by decide +kernel, by decide +kernel⟩⟩
theorem kX11_122_X7 : aLU RX11 122 RX7 RX4 yX4_kind yX7_kind cX7_kind 1 (some .int) 0 := ⟨wd_2_114, wd_2_117, wd_2_115, wd_2_124, wd_2_125, wd_1_10, wd_2_126, ⟨_, _, _, wd_2_130⟩, ⟨by decide +kernel, by decide +kernel, by decide +kernel⟩⟩
theorem kX11_122_X10 : aLU RX11 122 RX10 RX4 yX4_kind yX10_kind cX10_kind 1 (some .int) 0 := ⟨wd_2_114, wd_2_117, wd_2_115, wd_2_127, wd_2_128, wd_1_13, wd_2_129, ⟨_, _, _, wd_2_130⟩, ⟨by decide +kernel, by decide +kernel, by decide +kernel⟩⟩
theorem kX11_125_X0 : aLU RX11 125 RX0 RX4 yX4_deed yX4_deed cX4_deed 1 (some .int) 0 := ⟨wd_2_131, wd_2_134, wd_2_132, wd_2_135, wd_2_132, wd_1_9, wd_2_139, ⟨_, _, _, wd_2_139⟩, ⟨by decide +kernel, by decide +kernel, by decide +kernel⟩⟩
theorem kX11_125_X1 : aLU RX11 125 RX1 RX4 yX4_deed yX4_deed cX4_deed 1 (some .int) 0 := ⟨wd_2_131, wd_2_134, wd_2_132, wd_2_136, wd_2_132, wd_1_9, wd_2_139, ⟨_, _, _, wd_2_139⟩, ⟨by decide +kernel, by decide +kernel, by decide +kernel⟩⟩
theorem kX11_125_X4 : aLV RX11 125 RX4 yX4_deed cX4_deed 1 (some .int) 0 := ⟨wd_2_131, wd_2_132, wd_2_133, wd_1_9, wd_2_139, rfl, ⟨by decide +kernel, by decide +kernel, by decide +kernel⟩⟩
theorem kX11_125_X7 : aLU RX11 125 RX7 RX4 yX4_deed yX4_deed cX4_deed 1 (some .int) 0 := ⟨wd_2_131, wd_2_134, wd_2_132, wd_2_137, wd_2_132, wd_1_9, wd_2_139, ⟨_, _, _, wd_2_139⟩, ⟨by decide +kernel, by decide +kernel, by decide +kernel⟩⟩
theorem kX11_125_X10 : aLU RX11 125 RX10 RX4 yX4_deed yX4_deed cX4_deed 1 (some .int) 0 := ⟨wd_2_131, wd_2_134, wd_2_132, wd_2_138, wd_2_132, wd_1_9, wd_2_139, ⟨_, _, _, wd_2_139⟩, ⟨by decide +kernel, by decide +kernel, by decide +kernel⟩⟩
theorem kX11_128 : aLV RX11 128 RX11 yX11_alteredBy cX11_alteredBy 3 (some .int) 2 := ⟨wd_2_140, wd_2_142, (aWd_p (List.mem_append_left _ (List.mem_of_getElem? (i := 6) rfl))), wd_1_1, wd_2_143, rfl, ⟨by decide +kernel, by decide +kernel, by decide +kernel⟩⟩
theorem kX11_137 : aLV RX11 137 RX11 yX11_hiddenBy cX11_hiddenBy 2 (some .int) 1 := ⟨wd_2_148, wd_2_150, (aWd_p (List.mem_append_left _ (List.mem_of_getElem? (i := 8) rfl))), wd_1_1, wd_2_151, rfl, ⟨by decide +kernel, by decide +kernel, by decide +kernel⟩⟩
theorem kX11_144 : aLV RX11 144 RX3 yX3_deedsLeft cX3_deedsLeft 4 (some .int) 1 := ⟨wd_2_204, wd_2_205, wd_2_206, wd_1_6, wd_2_207, rfl, ⟨by decide +kernel, by decide +kernel, by decide +kernel⟩⟩
theorem kX11_149 : aLV RX11 149 RX11 yX11_placeToListen cX11_placeToListen 8 (some .int) 1 := ⟨wd_2_208, wd_2_210, (aWd_p (List.mem_append_left _ (List.mem_of_getElem? (i := 10) rfl))), wd_1_1, wd_2_211, rfl, ⟨by decide +kernel, by decide +kernel, by decide +kernel⟩⟩
theorem kX11_156 : aLV RX11 156 RX11 yX11_isAccused cX11_isAccused 2 (some .boolean) 1 := ⟨wd_2_110, wd_2_112, (aWd_p (List.mem_append_left _ (List.mem_of_getElem? (i := 5) rfl))), wd_1_1, wd_2_113, rfl, ⟨by decide +kernel, by decide +kernel, by decide +kernel⟩⟩
theorem kX11_162 : aLV RX11 162 RX2 yX2_seek cX2_seek 4 none 1 := ⟨wd_2_238, wd_2_239, wd_3_0, wd_1_7, wd_3_1, rfl, ⟨by decide +kernel, by decide +kernel, by decide +kernel⟩⟩
theorem kX11_166 : aLV RX11 166 RX2 yX2_size cX2_size 1 (some .int) 0 := ⟨wd_3_8, wd_3_9, wd_3_10, wd_1_7, wd_3_11, rfl, ⟨by decide +kernel, by decide +kernel, by decide +kernel⟩⟩
theorem kX11_167 : aLV RX11 167 RX2 yX2_at cX2_at 2 (some .int) 1 := ⟨wd_3_12, wd_3_13, wd_3_14, wd_1_7, wd_3_15, rfl, ⟨by decide +kernel, by decide +kernel, by decide +kernel⟩⟩
theorem kX11_168 : aLV RX11 168 RX11 yX11_deedOf cX11_deedOf 3 (some .int) 1 := ⟨wd_2_144, wd_2_146, (aWd_p (List.mem_append_left _ (List.mem_of_getElem? (i := 7) rfl))), wd_1_1, wd_2_147, rfl, ⟨by decide +kernel, by decide +kernel, by decide +kernel⟩⟩
theorem kX11_171 : aLV RX11 171 RX11 yX11_wouldAlter cX11_wouldAlter 7 (some .int) 4 := ⟨wd_2_152, wd_2_154, (aWd_p (List.mem_append_left _ (List.mem_of_getElem? (i := 9) rfl))), wd_1_1, wd_2_155, rfl, ⟨by decide +kernel, by decide +kernel, by decide +kernel⟩⟩
theorem kX11_175 : aLV RX11 175 RX11 yX11_wordsToHide cX11_wordsToHide 6 (some .int) 2 := ⟨wd_3_20, wd_3_22, (aWd_p (List.mem_append_left _ (List.mem_of_getElem? (i := 12) rfl))), wd_1_1, wd_3_23, rfl, ⟨by decide +kernel, by decide +kernel, by decide +kernel⟩⟩
theorem kX11_179 : aLV RX11 179 RX6 yX6_placesOf cX6_placesOf 4 (some .int) 1 := ⟨wd_2_197, wd_2_171, wd_2_172, wd_1_5, wd_2_173, rfl, ⟨by decide +kernel, by decide +kernel, by decide +kernel⟩⟩
theorem kX11_182 : aLV RX11 182 RX11 yX11_deedsAltering cX11_deedsAltering 6 (some .int) 2 := ⟨wd_2_212, wd_2_214, (aWd_p (List.mem_append_left _ (List.mem_of_getElem? (i := 11) rfl))), wd_1_1, wd_2_215, rfl, ⟨by decide +kernel, by decide +kernel, by decide +kernel⟩⟩
theorem kX11_185 : aLV RX11 185 RX3 yX3_add cX3_add 3 (some .boolean) 2 := ⟨wd_3_32, wd_3_33, wd_3_34, wd_1_6, wd_3_35, rfl, ⟨by decide +kernel, by decide +kernel, by decide +kernel⟩⟩
theorem kX11_188 : aLV RX11 188 RX3 yX3_size cX3_size 1 (some .int) 0 := ⟨wd_3_36, wd_3_37, wd_3_38, wd_1_6, wd_3_39, rfl, ⟨by decide +kernel, by decide +kernel, by decide +kernel⟩⟩
theorem kX11_189 : aLV RX11 189 RX3 yX3_clear cX3_clear 1 none 0 := ⟨wd_3_44, wd_2_2, wd_2_3, wd_1_6, wd_2_4, rfl, ⟨by decide +kernel, by decide +kernel, by decide +kernel⟩⟩
theorem kX11_190 : aLV RX11 190 RX11 yX11_drawSheet cX11_drawSheet 4 (some .int) 1 := ⟨wd_3_49, wd_3_51, (aWd_p (List.mem_append_left _ (List.mem_of_getElem? (i := 14) rfl))), wd_1_1, wd_3_52, rfl, ⟨by decide +kernel, by decide +kernel, by decide +kernel⟩⟩
theorem kX11_193 : aLV RX11 193 RX11 yX11_hangingAt cX11_hangingAt 4 (some .int) 1 := ⟨wd_3_57, wd_3_59, (aWd_p (List.mem_append_left _ (List.mem_of_getElem? (i := 15) rfl))), wd_1_1, wd_3_60, rfl, ⟨by decide +kernel, by decide +kernel, by decide +kernel⟩⟩
theorem kX11_197 : aLV RX11 197 RX11 yX11_allAltering cX11_allAltering 4 (some .int) 1 := ⟨wd_3_61, wd_3_63, (aWd_p (List.mem_append_right _ (List.mem_append_left _ (List.mem_of_getElem? (i := 0) rfl)))), wd_1_1, wd_3_64, rfl, ⟨by decide +kernel, by decide +kernel, by decide +kernel⟩⟩
theorem kX11_200 : aLV RX11 200 RX8 yX8_copyFrom cX8_copyFrom 2 none 1 := ⟨wd_3_69, wd_3_70, wd_3_71, wd_1_4, wd_3_72, rfl, ⟨by decide +kernel, by decide +kernel, by decide +kernel⟩⟩
theorem kX11_204 : aLV RX11 204 RX6 yX6_unlikeWords cX6_unlikeWords 3 (some .int) 0 := ⟨wd_3_94, wd_3_95, wd_3_96, wd_1_5, wd_3_97, rfl, ⟨by decide +kernel, by decide +kernel, by decide +kernel⟩⟩
theorem kX11_211 : aLV RX11 211 RX11 yX11_near cX11_near 2 (some .int) 1 := ⟨wd_3_105, wd_2_19, wd_2_20, wd_1_1, wd_2_21, rfl, ⟨by decide +kernel, by decide +kernel, by decide +kernel⟩⟩
theorem kX11_213 : aLV RX11 213 RX11 yX11_about cX11_about 4 (some .int) 2 := ⟨wd_3_106, wd_2_103, wd_2_104, wd_1_1, wd_2_105, rfl, ⟨by decide +kernel, by decide +kernel, by decide +kernel⟩⟩
theorem kX11_216 : aLV RX11 216 RX11 yX11_hide cX11_hide 6 (some .int) 3 := ⟨wd_3_107, wd_3_17, wd_3_18, wd_1_1, wd_3_19, rfl, ⟨by decide +kernel, by decide +kernel, by decide +kernel⟩⟩
theorem kX11_220 : aLV RX11 220 RX5 yX5_codeAt cX5_codeAt 2 (some .int) 1 := ⟨wd_2_5, wd_2_6, wd_2_7, wd_1_2, wd_2_8, rfl, ⟨by decide +kernel, by decide +kernel, by decide +kernel⟩⟩
theorem kX11_223 : aLV RX11 223 RX11 yX11_count cX11_count 2 (some .int) 1 := ⟨wd_3_108, wd_3_91, wd_3_92, wd_1_1, wd_3_93, rfl, ⟨by decide +kernel, by decide +kernel, by decide +kernel⟩⟩
theorem kX11_241 : aLV RX11 241 RX8 yX8_begin cX8_begin 1 none 0 := ⟨wd_1_233, wd_1_234, wd_1_235, wd_1_4, wd_1_236, rfl, ⟨by decide +kernel, by decide +kernel, by decide +kernel⟩⟩
theorem kX11_244 : aLV RX11 244 RX6 yX6_add cX6_add 2 none 1 := ⟨wd_2_10, wd_2_11, wd_2_12, wd_1_5, wd_2_13, rfl, ⟨by decide +kernel, by decide +kernel, by decide +kernel⟩⟩
theorem kX11_246_X0 : aLU RX11 246 RX0 RX4 yX4_placesByDeed yX0_placesByDeed cX0_placesByDeed 3 (some .int) 2 := ⟨wd_2_156, wd_2_159, wd_2_157, wd_2_160, wd_2_161, wd_1_11, wd_2_162, ⟨_, _, _, wd_2_180⟩, ⟨by decide +kernel, by decide +kernel, by decide +kernel⟩⟩
theorem kX11_246_X1 : aLU RX11 246 RX1 RX4 yX4_placesByDeed yX1_placesByDeed cX1_placesByDeed 3 (some .int) 2 := ⟨wd_2_156, wd_2_159, wd_2_157, wd_2_167, wd_2_168, wd_1_12, wd_2_169, ⟨_, _, _, wd_2_180⟩, ⟨by decide +kernel, by decide +kernel, by decide +kernel⟩⟩
theorem kX11_246_X4 : aLV RX11 246 RX4 yX4_placesByDeed cX4_placesByDeed 3 (some .int) 2 := ⟨wd_2_156, wd_2_157, wd_2_158, wd_1_9, wd_2_180, rfl, ⟨by decide +kernel, by decide +kernel, by decide +kernel⟩⟩
theorem kX11_246_X7 : aLU RX11 246 RX7 RX4 yX4_placesByDeed yX4_placesByDeed cX4_placesByDeed 3 (some .int) 2 := ⟨wd_2_156, wd_2_159, wd_2_157, wd_2_178, wd_2_157, wd_1_9, wd_2_180, ⟨_, _, _, wd_2_180⟩, ⟨by decide +kernel, by decide +kernel, by decide +kernel⟩⟩
theorem kX11_246_X10 : aLU RX11 246 RX10 RX4 yX4_placesByDeed yX4_placesByDeed cX4_placesByDeed 3 (some .int) 2 := ⟨wd_2_156, wd_2_159, wd_2_157, wd_2_179, wd_2_157, wd_1_9, wd_2_180, ⟨_, _, _, wd_2_180⟩, ⟨by decide +kernel, by decide +kernel, by decide +kernel⟩⟩
theorem kX11_250_X0 : aLU RX11 250 RX0 RX4 yX4_placesAnyhow yX4_placesAnyhow cX4_placesAnyhow 2 (some .int) 1 := ⟨wd_2_182, wd_2_185, wd_2_183, wd_2_186, wd_2_183, wd_1_9, wd_2_196, ⟨_, _, _, wd_2_196⟩, ⟨by decide +kernel, by decide +kernel, by decide +kernel⟩⟩
theorem kX11_250_X1 : aLU RX11 250 RX1 RX4 yX4_placesAnyhow yX4_placesAnyhow cX4_placesAnyhow 2 (some .int) 1 := ⟨wd_2_182, wd_2_185, wd_2_183, wd_2_187, wd_2_183, wd_1_9, wd_2_196, ⟨_, _, _, wd_2_196⟩, ⟨by decide +kernel, by decide +kernel, by decide +kernel⟩⟩
theorem kX11_250_X4 : aLV RX11 250 RX4 yX4_placesAnyhow cX4_placesAnyhow 2 (some .int) 1 := ⟨wd_2_182, wd_2_183, wd_2_184, wd_1_9, wd_2_196, rfl, ⟨by decide +kernel, by decide +kernel, by decide +kernel⟩⟩
theorem kX11_250_X7 : aLU RX11 250 RX7 RX4 yX4_placesAnyhow yX7_placesAnyhow cX7_placesAnyhow 2 (some .int) 1 := ⟨wd_2_182, wd_2_185, wd_2_183, wd_2_188, wd_2_189, wd_1_10, wd_2_190, ⟨_, _, _, wd_2_196⟩, ⟨by decide +kernel, by decide +kernel, by decide +kernel⟩⟩
theorem kX11_250_X10 : aLU RX11 250 RX10 RX4 yX4_placesAnyhow yX10_placesAnyhow cX10_placesAnyhow 2 (some .int) 1 := ⟨wd_2_182, wd_2_185, wd_2_183, wd_2_191, wd_2_192, wd_1_13, wd_2_193, ⟨_, _, _, wd_2_196⟩, ⟨by decide +kernel, by decide +kernel, by decide +kernel⟩⟩
theorem kX11_258 : aLV RX11 258 RX11 yX11_heaviestWord cX11_heaviestWord 6 (some .int) 1 := ⟨wd_3_24, wd_3_26, (aWd_p (List.mem_append_left _ (List.mem_of_getElem? (i := 13) rfl))), wd_1_1, wd_3_27, rfl, ⟨by decide +kernel, by decide +kernel, by decide +kernel⟩⟩
theorem kX11_261 : aLV RX11 261 RX6 yX6_clear cX6_clear 1 none 0 := ⟨wd_3_53, wd_1_238, wd_1_239, wd_1_5, wd_2_0, rfl, ⟨by decide +kernel, by decide +kernel, by decide +kernel⟩⟩
theorem kX12_1 : Cond.methodLink RX12 1 Lib.objectInit ∈ aWd := wd_3_114
theorem kX12_58 : aLSt RX12 58 yX12_in cX12_in 6 (some .boolean) 3 := ⟨wd_3_217, wd_3_218, wd_1_8, wd_3_219, ⟨by decide +kernel, by decide +kernel, by decide +kernel⟩⟩
theorem kX12_87 : aLSt RX12 87 yX12_copy cX12_copy 3 none 2 := ⟨wd_4_1, wd_4_2, wd_1_8, wd_4_3, ⟨by decide +kernel, by decide +kernel, by decide +kernel⟩⟩
theorem kX12_121 : aLSt RX12 121 yX12_stands cX12_stands 4 (some .boolean) 2 := ⟨wd_4_62, wd_4_63, wd_1_8, wd_4_64, ⟨by decide +kernel, by decide +kernel, by decide +kernel⟩⟩
theorem kX12_137 : aLSt RX12 137 yX12_ones cX12_ones 3 (some .int) 1 := ⟨wd_4_65, wd_4_66, wd_1_8, wd_4_67, ⟨by decide +kernel, by decide +kernel, by decide +kernel⟩⟩
theorem kX12_76 : aLV RX12 76 RX12 yX12_go cX12_go 4 (some .boolean) 1 := ⟨wd_3_232, wd_3_234, (aWd_p (List.mem_append_right _ (List.mem_append_left _ (List.mem_of_getElem? (i := 2) rfl)))), wd_1_8, wd_3_235, rfl, ⟨by decide +kernel, by decide +kernel, by decide +kernel⟩⟩
theorem kX12_80 : aLV RX12 80 RX12 yX12_faultOf cX12_faultOf 2 (some .int) 0 := ⟨wd_3_228, wd_3_230, (aWd_p (List.mem_append_right _ (List.mem_append_left _ (List.mem_of_getElem? (i := 1) rfl)))), wd_1_8, wd_3_231, rfl, ⟨by decide +kernel, by decide +kernel, by decide +kernel⟩⟩
theorem kX12_106 : aLV RX12 106 RX12 yX12_lacks cX12_lacks 1 (some .boolean) 0 := ⟨wd_4_8, wd_4_10, (aWd_p (List.mem_append_right _ (List.mem_append_left _ (List.mem_of_getElem? (i := 3) rfl)))), wd_1_8, wd_4_11, rfl, ⟨by decide +kernel, by decide +kernel, by decide +kernel⟩⟩
theorem kX12_112 : aLV RX12 112 RX12 yX12_isPlace cX12_isPlace 2 (some .boolean) 1 := ⟨wd_4_17, wd_4_19, (aWd_p (List.mem_append_right _ (List.mem_append_left _ (List.mem_of_getElem? (i := 4) rfl)))), wd_1_8, wd_4_20, rfl, ⟨by decide +kernel, by decide +kernel, by decide +kernel⟩⟩
theorem kX12_117 : aLV RX12 117 RX12 yX12_isNear cX12_isNear 3 (some .boolean) 2 := ⟨wd_4_58, wd_4_60, (aWd_p (List.mem_append_right _ (List.mem_append_left _ (List.mem_of_getElem? (i := 10) rfl)))), wd_1_8, wd_4_61, rfl, ⟨by decide +kernel, by decide +kernel, by decide +kernel⟩⟩
theorem kX12_125 : aLV RX12 125 RX12 yX12_alters cX12_alters 7 (some .boolean) 5 := ⟨wd_4_54, wd_4_56, (aWd_p (List.mem_append_right _ (List.mem_append_left _ (List.mem_of_getElem? (i := 9) rfl)))), wd_1_8, wd_4_57, rfl, ⟨by decide +kernel, by decide +kernel, by decide +kernel⟩⟩
theorem kX12_129 : aLV RX12 129 RX12 yX12_altersOn cX12_altersOn 8 (some .int) 5 := ⟨wd_4_50, wd_4_52, (aWd_p (List.mem_append_right _ (List.mem_append_left _ (List.mem_of_getElem? (i := 8) rfl)))), wd_1_8, wd_4_53, rfl, ⟨by decide +kernel, by decide +kernel, by decide +kernel⟩⟩
theorem kX12_133 : aLV RX12 133 RX12 yX12_altersOf cX12_altersOf 2 (some .int) 1 := ⟨wd_4_46, wd_4_48, (aWd_p (List.mem_append_right _ (List.mem_append_left _ (List.mem_of_getElem? (i := 7) rfl)))), wd_1_8, wd_4_49, rfl, ⟨by decide +kernel, by decide +kernel, by decide +kernel⟩⟩
theorem kX12_140 : aLV RX12 140 RX12 yX12_hangs cX12_hangs 2 (some .boolean) 1 := ⟨wd_4_68, wd_4_70, (aWd_p (List.mem_append_right _ (List.mem_append_left _ (List.mem_of_getElem? (i := 11) rfl)))), wd_1_8, wd_4_71, rfl, ⟨by decide +kernel, by decide +kernel, by decide +kernel⟩⟩
theorem kX12_143 : aLV RX12 143 RX12 yX12_whichOf cX12_whichOf 6 (some .int) 1 := ⟨wd_4_72, wd_4_74, (aWd_p (List.mem_append_right _ (List.mem_append_left _ (List.mem_of_getElem? (i := 12) rfl)))), wd_1_8, wd_4_75, rfl, ⟨by decide +kernel, by decide +kernel, by decide +kernel⟩⟩
theorem kX12_146 : aLV RX12 146 RX12 yX12_listenOf cX12_listenOf 8 (some .int) 1 := ⟨wd_4_80, wd_4_82, (aWd_p (List.mem_append_right _ (List.mem_append_left _ (List.mem_of_getElem? (i := 14) rfl)))), wd_1_8, wd_4_83, rfl, ⟨by decide +kernel, by decide +kernel, by decide +kernel⟩⟩
theorem kX12_149 : aLV RX12 149 RX12 yX12_isAccused cX12_isAccused 2 (some .boolean) 1 := ⟨wd_4_38, wd_4_40, (aWd_p (List.mem_append_right _ (List.mem_append_left _ (List.mem_of_getElem? (i := 5) rfl)))), wd_1_8, wd_4_41, rfl, ⟨by decide +kernel, by decide +kernel, by decide +kernel⟩⟩
theorem kX12_152 : aLV RX12 152 RX12 yX12_tell cX12_tell 3 (some .int) 2 := ⟨wd_4_42, wd_4_44, (aWd_p (List.mem_append_right _ (List.mem_append_left _ (List.mem_of_getElem? (i := 6) rfl)))), wd_1_8, wd_4_45, rfl, ⟨by decide +kernel, by decide +kernel, by decide +kernel⟩⟩
theorem kX12_156 : aLV RX12 156 RX12 yX12_isApart cX12_isApart 5 (some .boolean) 1 := ⟨wd_4_105, wd_4_107, (aWd_p (List.mem_append_right _ (List.mem_append_right _ (List.mem_of_getElem? (i := 0) rfl)))), wd_1_8, wd_4_108, rfl, ⟨by decide +kernel, by decide +kernel, by decide +kernel⟩⟩
theorem kX12_164 : aLV RX12 164 RX12 yX12_briefOf cX12_briefOf 6 (some .int) 1 := ⟨wd_4_101, wd_4_103, (aWd_p (List.mem_append_right _ (List.mem_append_left _ (List.mem_of_getElem? (i := 15) rfl)))), wd_1_8, wd_4_104, rfl, ⟨by decide +kernel, by decide +kernel, by decide +kernel⟩⟩
theorem kX12_169 : aLV RX12 169 RX12 yX12_hideOf cX12_hideOf 9 (some .int) 3 := ⟨wd_4_114, wd_4_116, (aWd_p (List.mem_append_right _ (List.mem_append_right _ (List.mem_of_getElem? (i := 1) rfl)))), wd_1_8, wd_4_117, rfl, ⟨by decide +kernel, by decide +kernel, by decide +kernel⟩⟩
theorem kX12_173 : aLV RX12 173 RX12 yX12_isHeard cX12_isHeard 6 (some .boolean) 3 := ⟨wd_4_76, wd_4_78, (aWd_p (List.mem_append_right _ (List.mem_append_left _ (List.mem_of_getElem? (i := 13) rfl)))), wd_1_8, wd_4_79, rfl, ⟨by decide +kernel, by decide +kernel, by decide +kernel⟩⟩
theorem kX12_191 : aLV RX12 191 RX12 yX12_draw cX12_draw 2 (some .int) 1 := ⟨wd_4_132, wd_4_134, (aWd_p (List.mem_append_right _ (List.mem_append_right _ (List.mem_of_getElem? (i := 2) rfl)))), wd_1_8, wd_4_135, rfl, ⟨by decide +kernel, by decide +kernel, by decide +kernel⟩⟩
theorem kX12_206 : aLV RX12 206 RX12 yX12_hangMany cX12_hangMany 3 (some .int) 0 := ⟨wd_4_156, wd_4_158, (aWd_p (List.mem_append_right _ (List.mem_append_right _ (List.mem_of_getElem? (i := 4) rfl)))), wd_1_8, wd_4_159, rfl, ⟨by decide +kernel, by decide +kernel, by decide +kernel⟩⟩
theorem kX12_209 : aLV RX12 209 RX12 yX12_unlike cX12_unlike 3 (some .int) 0 := ⟨wd_4_160, wd_4_162, (aWd_p (List.mem_append_right _ (List.mem_append_right _ (List.mem_of_getElem? (i := 5) rfl)))), wd_1_8, wd_4_163, rfl, ⟨by decide +kernel, by decide +kernel, by decide +kernel⟩⟩
theorem kX12_212 : aLV RX12 212 RX12 yX12_countOf cX12_countOf 2 (some .int) 1 := ⟨wd_4_152, wd_4_154, (aWd_p (List.mem_append_right _ (List.mem_append_right _ (List.mem_of_getElem? (i := 3) rfl)))), wd_1_8, wd_4_155, rfl, ⟨by decide +kernel, by decide +kernel, by decide +kernel⟩⟩
theorem kX12_223 : aLV RX12 223 RX12 yX12_say cX12_say 3 none 1 := ⟨wd_4_169, wd_4_171, (aWd_p (List.mem_append_right _ (List.mem_append_right _ (List.mem_of_getElem? (i := 6) rfl)))), wd_1_8, wd_4_172, rfl, ⟨by decide +kernel, by decide +kernel, by decide +kernel⟩⟩
theorem kX2_3 : Cond.methodLink RX2 3 Lib.objectInit ∈ aWd := wd_1_127
theorem kX2_22 : aLSt RX2 22 yX2_pairsToldBy cX2_pairsToldBy 6 (some .int) 2 := ⟨wd_3_2, wd_3_3, wd_1_7, wd_3_4, ⟨by decide +kernel, by decide +kernel, by decide +kernel⟩⟩
theorem kX2_26 : aLSt RX2 26 yX2_firstSheet cX2_firstSheet 7 (some .int) 5 := ⟨wd_3_5, wd_3_6, wd_1_7, wd_3_7, ⟨by decide +kernel, by decide +kernel, by decide +kernel⟩⟩
theorem kX3_3 : Cond.methodLink RX3 3 Lib.objectInit ∈ aWd := wd_1_84
theorem kX3_22 : Cond.methodLink RX3 22 arraycopyName ∈ aWd := wd_3_84
theorem kX4_1 : Cond.methodLink RX4 1 Lib.objectInit ∈ aWd := wd_2_69
theorem kX4_13 : aLV RX4 13 RX6 yX6_placesOf cX6_placesOf 4 (some .int) 1 := ⟨wd_2_181, wd_2_171, wd_2_172, wd_1_5, wd_2_173, rfl, ⟨by decide +kernel, by decide +kernel, by decide +kernel⟩⟩
theorem kX5_3 : Cond.methodLink RX5 3 Lib.objectInit ∈ aWd := wd_1_30
theorem kX5_17 : aLIn RX5 17 yX9_init "ReadAloud" cX9_init 1 0 := ⟨List.mem_of_getElem? (i := 1) rfl, wd_1_34, wd_1_3, wd_1_35, rfl, ⟨by decide +kernel, by decide +kernel, by decide +kernel⟩⟩
theorem kX5_26 : aLV RX5 26 RX9 yX9_begin cX9_begin 1 none 0 := ⟨wd_1_197, wd_1_198, wd_1_199, wd_1_3, wd_1_200, rfl, ⟨by decide +kernel, by decide +kernel, by decide +kernel⟩⟩
theorem kX5_29 : aLV RX5 29 RX9 yX9_passes cX9_passes 3 (some .boolean) 1 := ⟨wd_1_205, wd_1_206, wd_1_207, wd_1_3, wd_1_208, rfl, ⟨by decide +kernel, by decide +kernel, by decide +kernel⟩⟩
theorem kX5_33 : aLV RX5 33 RX5 yX5_faultPlace cX5_faultPlace 2 (some .int) 0 := ⟨wd_1_224, wd_1_194, wd_1_195, wd_1_2, wd_1_196, rfl, ⟨by decide +kernel, by decide +kernel, by decide +kernel⟩⟩
theorem kX5_37 : aLV RX5 37 RX9 yX9_isWhole cX9_isWhole 1 (some .boolean) 0 := ⟨wd_1_225, wd_1_226, wd_1_227, wd_1_3, wd_1_228, rfl, ⟨by decide +kernel, by decide +kernel, by decide +kernel⟩⟩
theorem kX6_3 : Cond.methodLink RX6 3 Lib.objectInit ∈ aWd := wd_1_71
theorem kX6_23 : Cond.methodLink RX6 23 arraycopyName ∈ aWd := wd_3_77
theorem kX6_29 : aLSt RX6 29 yJ6_bitCount_0f7a4 cJ6_bitCount_0f7a4 1 (some .int) 1 := ⟨wd_3_98, wd_2_199, wd_1_14, wd_2_200, ⟨by decide +kernel, by decide +kernel, by decide +kernel⟩⟩
theorem kX6_19 : aLV RX6 19 RX6 yX6_has cX6_has 2 (some .boolean) 1 := ⟨wd_2_38, wd_2_31, wd_2_32, wd_1_5, wd_2_33, rfl, ⟨by decide +kernel, by decide +kernel, by decide +kernel⟩⟩
theorem kX7_1 : aLI RX7 1 yX4_init cX4_init 2 1 := ⟨wd_2_66, wd_2_67, wd_1_9, wd_2_68, rfl, ⟨by decide +kernel, by decide +kernel, by decide +kernel⟩⟩
theorem kX8_3 : Cond.methodLink RX8 3 Lib.objectInit ∈ aWd := wd_1_65
theorem kX8_11 : aLIn RX8 11 yX6_init "ReadAloud" cX6_init 1 0 := ⟨List.mem_of_getElem? (i := 3) rfl, wd_1_69, wd_1_5, wd_1_70, rfl, ⟨by decide +kernel, by decide +kernel, by decide +kernel⟩⟩
theorem kX8_20 : aLIn RX8 20 yX3_init "ReadAloud" cX3_init 1 0 := ⟨List.mem_of_getElem? (i := 4) rfl, wd_1_82, wd_1_6, wd_1_83, rfl, ⟨by decide +kernel, by decide +kernel, by decide +kernel⟩⟩
theorem kX8_50 : Cond.methodLink RX8 50 arraycopyName ∈ aWd := wd_3_85
theorem kX8_29 : aLV RX8 29 RX6 yX6_clear cX6_clear 1 none 0 := ⟨wd_1_237, wd_1_238, wd_1_239, wd_1_5, wd_2_0, rfl, ⟨by decide +kernel, by decide +kernel, by decide +kernel⟩⟩
theorem kX8_32 : aLV RX8 32 RX3 yX3_clear cX3_clear 1 none 0 := ⟨wd_2_1, wd_2_2, wd_2_3, wd_1_6, wd_2_4, rfl, ⟨by decide +kernel, by decide +kernel, by decide +kernel⟩⟩
theorem kX8_43 : aLV RX8 43 RX6 yX6_copyFrom cX6_copyFrom 2 none 1 := ⟨wd_3_73, wd_3_74, wd_3_75, wd_1_5, wd_3_76, rfl, ⟨by decide +kernel, by decide +kernel, by decide +kernel⟩⟩
theorem kX8_47 : aLV RX8 47 RX3 yX3_copyFrom cX3_copyFrom 2 none 1 := ⟨wd_3_80, wd_3_81, wd_3_82, wd_1_6, wd_3_83, rfl, ⟨by decide +kernel, by decide +kernel, by decide +kernel⟩⟩
theorem kX9_3 : Cond.methodLink RX9 3 Lib.objectInit ∈ aWd := wd_1_36
theorem kX9_15 : aLSn RX9 15 yX11_isWord "ReadAloud" cX11_isWord 1 (some .boolean) 1 := ⟨List.mem_of_getElem? (i := 7) rfl, wd_1_210, wd_1_1, wd_1_211, ⟨by decide +kernel, by decide +kernel, by decide +kernel⟩⟩
theorem kX9_9 : aLV RX9 9 RX9 yX9_enter cX9_enter 2 none 1 := ⟨wd_1_201, wd_1_203, (aWd_p (List.mem_append_left _ (List.mem_of_getElem? (i := 0) rfl))), wd_1_3, wd_1_204, rfl, ⟨by decide +kernel, by decide +kernel, by decide +kernel⟩⟩
theorem kX9_19 : aLV RX9 19 RX9 yX9_passesWord cX9_passesWord 3 (some .boolean) 1 := ⟨wd_1_212, wd_1_214, (aWd_p (List.mem_append_left _ (List.mem_of_getElem? (i := 1) rfl))), wd_1_3, wd_1_215, rfl, ⟨by decide +kernel, by decide +kernel, by decide +kernel⟩⟩
theorem lJ6_265 : Cond.constant RJ6 265 (1431655765) ∈ aWd := wd_2_201
theorem lJ6_266 : Cond.constant RJ6 266 (858993459) ∈ aWd := wd_2_202
theorem lJ6_267 : Cond.constant RJ6 267 (252645135) ∈ aWd := wd_2_203
theorem lL_7 : Cond.classLink RL 7 RX11 ∈ aWd := wd_1_17
theorem lL_10 : Cond.classLink RL 10 RX12 ∈ aWd := wd_3_109
theorem lX11_7 : Cond.classLink RX11 7 RX5 ∈ aWd := wd_1_25
theorem lX11_20 : Cond.classLink RX11 20 RX4 ∈ aWd := wd_1_58
theorem lX11_26 : Cond.classLink RX11 26 RX8 ∈ aWd := wd_1_60
theorem lX11_36 : Cond.classLink RX11 36 RX6 ∈ aWd := wd_1_120
theorem lX11_43 : Cond.classLink RX11 43 RX2 ∈ aWd := wd_1_122
theorem lX11_207 : Cond.constantLong RX11 207 (1019) ∈ aWd := wd_3_103
theorem lX11_209 : Cond.constantLong RX11 209 (31) ∈ aWd := wd_3_104
theorem lX11_226 : Cond.classLink RX11 226 RX7 ∈ aWd := wd_2_61
theorem lX11_231 : Cond.classLink RX11 231 RX0 ∈ aWd := wd_2_74
theorem lX11_234 : Cond.classLink RX11 234 RX1 ∈ aWd := wd_2_82
theorem lX11_237 : Cond.classLink RX11 237 RX10 ∈ aWd := wd_2_90
theorem lX11_262 : Cond.constant RX11 262 (1103515245) ∈ aWd := wd_3_54
theorem lX11_263 : Cond.constant RX11 263 (2147483647) ∈ aWd := wd_3_55
theorem lX11_264 : Cond.constant RX11 264 (65536) ∈ aWd := wd_3_56
theorem lX12_56 : Cond.constantLong RX12 56 (126) ∈ aWd := wd_3_216
theorem lX12_74 : Cond.constantLong RX12 74 (7) ∈ aWd := wd_3_236
theorem lX12_110 : Cond.constantLong RX12 110 (4) ∈ aWd := wd_4_12
theorem lX12_115 : Cond.constantLong RX12 115 (10) ∈ aWd := wd_4_29
theorem lX12_159 : Cond.constantLong RX12 159 (13) ∈ aWd := wd_4_100
theorem lX12_167 : Cond.constantLong RX12 167 (8) ∈ aWd := wd_4_113
theorem lX12_177 : Cond.constantLong RX12 177 (1103515245) ∈ aWd := wd_4_136
theorem lX12_182 : Cond.constantLong RX12 182 (12345) ∈ aWd := wd_4_137
theorem lX12_184 : Cond.constantLong RX12 184 (2147483647) ∈ aWd := wd_4_138
theorem lX12_186 : Cond.constant RX12 186 (65536) ∈ aWd := wd_4_139
theorem lX12_187 : Cond.constantLong RX12 187 (40) ∈ aWd := wd_4_130
theorem lX12_189 : Cond.constantLong RX12 189 (2) ∈ aWd := wd_4_131
theorem lX12_215 : Cond.constantLong RX12 215 (31) ∈ aWd := wd_4_173
theorem lX12_221 : Cond.constantLong RX12 221 (1019) ∈ aWd := wd_4_168
theorem lX5_15 : Cond.classLink RX5 15 RX9 ∈ aWd := wd_1_31
theorem lX8_9 : Cond.classLink RX8 9 RX6 ∈ aWd := wd_1_66
theorem lX8_18 : Cond.classLink RX8 18 RX3 ∈ aWd := wd_1_79
theorem nX0 : Cond.instantiable RX0 1 ∈ aWd := wd_2_75
theorem iX0 : Cond.initialized RX0 ∈ aWd := wd_1_11
theorem nX1 : Cond.instantiable RX1 1 ∈ aWd := wd_2_83
theorem iX1 : Cond.initialized RX1 ∈ aWd := wd_1_12
theorem nX2 : Cond.instantiable RX2 3 ∈ aWd := wd_1_123
theorem iX2 : Cond.initialized RX2 ∈ aWd := wd_1_7
theorem nX3 : Cond.instantiable RX3 3 ∈ aWd := wd_1_80
theorem iX3 : Cond.initialized RX3 ∈ aWd := wd_1_6
theorem nX4 : Cond.instantiable RX4 1 ∈ aWd := wd_2_98
theorem iX4 : Cond.initialized RX4 ∈ aWd := wd_1_9
theorem nX5 : Cond.instantiable RX5 3 ∈ aWd := wd_1_26
theorem iX5 : Cond.initialized RX5 ∈ aWd := wd_1_2
theorem nX6 : Cond.instantiable RX6 2 ∈ aWd := wd_1_67
theorem iX6 : Cond.initialized RX6 ∈ aWd := wd_1_5
theorem nX7 : Cond.instantiable RX7 1 ∈ aWd := wd_2_62
theorem iX7 : Cond.initialized RX7 ∈ aWd := wd_1_10
theorem nX8 : Cond.instantiable RX8 6 ∈ aWd := wd_1_61
theorem iX8 : Cond.initialized RX8 ∈ aWd := wd_1_4
theorem nX9 : Cond.instantiable RX9 3 ∈ aWd := wd_1_32
theorem iX9 : Cond.initialized RX9 ∈ aWd := wd_1_3
theorem nX10 : Cond.instantiable RX10 1 ∈ aWd := wd_2_91
theorem iX10 : Cond.initialized RX10 ∈ aWd := wd_1_13
theorem nX11 : Cond.instantiable RX11 10 ∈ aWd := wd_1_18
theorem iX11 : Cond.initialized RX11 ∈ aWd := wd_1_1
theorem nX12 : Cond.instantiable RX12 32 ∈ aWd := wd_3_110
theorem iX12 : Cond.initialized RX12 ∈ aWd := wd_1_8
