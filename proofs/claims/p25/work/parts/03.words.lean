theorem aWd_p {q : MethodName × Nat} (h : q ∈ lw_privs) : Cond.selects q.1.cls q.1 q.1 ∈ aWd := List.mem_filter.mpr ⟨List.mem_append_left _ (List.mem_map_of_mem h), rfl⟩
theorem wd_1_0 : Jvm.Cond.initialized "ReadAloudLaw" ∈ aWd := aWd_1 (List.mem_of_getElem? (i := 0) rfl) rfl
theorem wd_1_1 : Jvm.Cond.initialized "ReadAloud" ∈ aWd := aWd_1 (List.mem_of_getElem? (i := 1) rfl) rfl
theorem wd_1_2 : Jvm.Cond.initialized "ReadAloud$Page" ∈ aWd := aWd_1 (List.mem_of_getElem? (i := 2) rfl) rfl
theorem wd_1_3 : Jvm.Cond.initialized "ReadAloud$Walk" ∈ aWd := aWd_1 (List.mem_of_getElem? (i := 3) rfl) rfl
theorem wd_1_4 : Jvm.Cond.initialized "ReadAloud$State" ∈ aWd := aWd_1 (List.mem_of_getElem? (i := 4) rfl) rfl
theorem wd_1_5 : Jvm.Cond.initialized "ReadAloud$Sheet" ∈ aWd := aWd_1 (List.mem_of_getElem? (i := 5) rfl) rfl
theorem wd_1_6 : Jvm.Cond.initialized "ReadAloud$Heard" ∈ aWd := aWd_1 (List.mem_of_getElem? (i := 6) rfl) rfl
theorem wd_1_7 : Jvm.Cond.initialized "ReadAloud$Brief" ∈ aWd := aWd_1 (List.mem_of_getElem? (i := 7) rfl) rfl
theorem wd_1_8 : Jvm.Cond.initialized "java/lang/Integer" ∈ aWd := aWd_1 (List.mem_of_getElem? (i := 8) rfl) rfl
theorem wd_1_10 : Jvm.Cond.initialized "ReadAloud$Man" ∈ aWd := aWd_1 (List.mem_of_getElem? (i := 10) rfl) rfl
theorem wd_1_11 : Jvm.Cond.initialized "ReadAloud$Stammerer" ∈ aWd := aWd_1 (List.mem_of_getElem? (i := 11) rfl) rfl
theorem wd_1_12 : Jvm.Cond.initialized "ReadAloud$Actor" ∈ aWd := aWd_1 (List.mem_of_getElem? (i := 12) rfl) rfl
theorem wd_1_13 : Jvm.Cond.initialized "ReadAloud$Boy" ∈ aWd := aWd_1 (List.mem_of_getElem? (i := 13) rfl) rfl
theorem wd_1_14 : Jvm.Cond.initialized "ReadAloud$Weeper" ∈ aWd := aWd_1 (List.mem_of_getElem? (i := 14) rfl) rfl
theorem wd_1_15 : Jvm.Cond.classLink "ReadAloudLaw" (23 : Nat) "ReadAloud" ∈ aWd := aWd_1 (List.mem_of_getElem? (i := 15) rfl) rfl
theorem wd_1_16 : Jvm.Cond.instantiable "ReadAloud" (10 : Nat) ∈ aWd := aWd_1 (List.mem_of_getElem? (i := 16) rfl) rfl
theorem wd_1_17 : Jvm.Cond.methodLink "ReadAloudLaw" (70 : Nat) ({ cls := "ReadAloud", name := "<init>", desc := "()V" } : Jvm.MethodName) ∈ aWd := aWd_1 (List.mem_of_getElem? (i := 17) rfl) rfl
theorem wd_1_18 : Jvm.Cond.instanceMethod ({ cls := "ReadAloud", name := "<init>", desc := "()V" } : Jvm.MethodName) ∈ aWd := aWd_1 (List.mem_of_getElem? (i := 18) rfl) rfl
theorem wd_1_19 : Jvm.Cond.code ({ cls := "ReadAloud", name := "<init>", desc := "()V" } : Jvm.MethodName) prog_1_method_1_code (1 : Nat) (Option.none : Option Jvm.ClassFile.FieldType) ∈ aWd := aWd_1 (List.mem_of_getElem? (i := 19) rfl) rfl
theorem wd_1_20 : Jvm.Cond.methodLink "ReadAloud" (1 : Nat) ({ cls := "java/lang/Object", name := "<init>", desc := "()V" } : Jvm.MethodName) ∈ aWd := aWd_1 (List.mem_of_getElem? (i := 20) rfl) rfl
theorem wd_1_23 : Jvm.Cond.classLink "ReadAloud" (7 : Nat) "ReadAloud$Page" ∈ aWd := aWd_1 (List.mem_of_getElem? (i := 23) rfl) rfl
theorem wd_1_24 : Jvm.Cond.instantiable "ReadAloud$Page" (3 : Nat) ∈ aWd := aWd_1 (List.mem_of_getElem? (i := 24) rfl) rfl
theorem wd_1_26 : Jvm.Cond.instanceMethod ({ cls := "ReadAloud$Page", name := "<init>", desc := "()V" } : Jvm.MethodName) ∈ aWd := aWd_1 (List.mem_of_getElem? (i := 26) rfl) rfl
theorem wd_1_27 : Jvm.Cond.code ({ cls := "ReadAloud$Page", name := "<init>", desc := "()V" } : Jvm.MethodName) prog_7_method_1_code (1 : Nat) (Option.none : Option Jvm.ClassFile.FieldType) ∈ aWd := aWd_1 (List.mem_of_getElem? (i := 27) rfl) rfl
theorem wd_1_28 : Jvm.Cond.methodLink "ReadAloud$Page" (3 : Nat) ({ cls := "java/lang/Object", name := "<init>", desc := "()V" } : Jvm.MethodName) ∈ aWd := aWd_1 (List.mem_of_getElem? (i := 28) rfl) rfl
theorem wd_1_29 : Jvm.Cond.classLink "ReadAloud$Page" (15 : Nat) "ReadAloud$Walk" ∈ aWd := aWd_1 (List.mem_of_getElem? (i := 29) rfl) rfl
theorem wd_1_30 : Jvm.Cond.instantiable "ReadAloud$Walk" (3 : Nat) ∈ aWd := aWd_1 (List.mem_of_getElem? (i := 30) rfl) rfl
theorem wd_1_32 : Jvm.Cond.instanceMethod ({ cls := "ReadAloud$Walk", name := "<init>", desc := "()V" } : Jvm.MethodName) ∈ aWd := aWd_1 (List.mem_of_getElem? (i := 32) rfl) rfl
theorem wd_1_33 : Jvm.Cond.code ({ cls := "ReadAloud$Walk", name := "<init>", desc := "()V" } : Jvm.MethodName) prog_11_method_1_code (1 : Nat) (Option.none : Option Jvm.ClassFile.FieldType) ∈ aWd := aWd_1 (List.mem_of_getElem? (i := 33) rfl) rfl
theorem wd_1_34 : Jvm.Cond.methodLink "ReadAloud$Walk" (3 : Nat) ({ cls := "java/lang/Object", name := "<init>", desc := "()V" } : Jvm.MethodName) ∈ aWd := aWd_1 (List.mem_of_getElem? (i := 34) rfl) rfl
theorem wd_1_35 : Jvm.Cond.fieldLink "ReadAloud$Walk" (22 : Nat) "ReadAloud$Walk" "part" "I" ∈ aWd := aWd_1 (List.mem_of_getElem? (i := 35) rfl) rfl
theorem wd_1_36 : Jvm.Cond.fieldLink "ReadAloud$Walk" (26 : Nat) "ReadAloud$Walk" "wordsOfPart" "I" ∈ aWd := aWd_1 (List.mem_of_getElem? (i := 36) rfl) rfl
theorem wd_1_37 : Jvm.Cond.fieldLink "ReadAloud$Walk" (29 : Nat) "ReadAloud$Walk" "lastWord" "I" ∈ aWd := aWd_1 (List.mem_of_getElem? (i := 37) rfl) rfl
theorem wd_1_38 : Jvm.Cond.lays "ReadAloud$Walk" "ReadAloud$Walk" "part" "I" ∈ aWd := aWd_1 (List.mem_of_getElem? (i := 38) rfl) rfl
theorem wd_1_40 : Jvm.Cond.lays "ReadAloud$Walk" "ReadAloud$Walk" "wordsOfPart" "I" ∈ aWd := aWd_1 (List.mem_of_getElem? (i := 40) rfl) rfl
theorem wd_1_42 : Jvm.Cond.lays "ReadAloud$Walk" "ReadAloud$Walk" "lastWord" "I" ∈ aWd := aWd_1 (List.mem_of_getElem? (i := 42) rfl) rfl
theorem wd_1_46 : Jvm.Cond.fieldLink "ReadAloud$Page" (9 : Nat) "ReadAloud$Page" "codes" "[I" ∈ aWd := aWd_1 (List.mem_of_getElem? (i := 46) rfl) rfl
theorem wd_1_47 : Jvm.Cond.fieldLink "ReadAloud$Page" (18 : Nat) "ReadAloud$Page" "walk" "LReadAloud$Walk;" ∈ aWd := aWd_1 (List.mem_of_getElem? (i := 47) rfl) rfl
theorem wd_1_48 : Jvm.Cond.fieldLink "ReadAloud$Page" (22 : Nat) "ReadAloud$Page" "size" "I" ∈ aWd := aWd_1 (List.mem_of_getElem? (i := 48) rfl) rfl
theorem wd_1_49 : Jvm.Cond.laysFinal "ReadAloud$Page" "ReadAloud$Page" "codes" "[I" ∈ aWd := aWd_1 (List.mem_of_getElem? (i := 49) rfl) rfl
theorem wd_1_51 : Jvm.Cond.laysFinal "ReadAloud$Page" "ReadAloud$Page" "walk" "LReadAloud$Walk;" ∈ aWd := aWd_1 (List.mem_of_getElem? (i := 51) rfl) rfl
theorem wd_1_53 : Jvm.Cond.lays "ReadAloud$Page" "ReadAloud$Page" "size" "I" ∈ aWd := aWd_1 (List.mem_of_getElem? (i := 53) rfl) rfl
theorem wd_1_56 : Jvm.Cond.classLink "ReadAloud" (20 : Nat) "ReadAloud$Man" ∈ aWd := aWd_1 (List.mem_of_getElem? (i := 56) rfl) rfl
theorem wd_1_58 : Jvm.Cond.classLink "ReadAloud" (26 : Nat) "ReadAloud$State" ∈ aWd := aWd_1 (List.mem_of_getElem? (i := 58) rfl) rfl
theorem wd_1_59 : Jvm.Cond.instantiable "ReadAloud$State" (6 : Nat) ∈ aWd := aWd_1 (List.mem_of_getElem? (i := 59) rfl) rfl
theorem wd_1_61 : Jvm.Cond.instanceMethod ({ cls := "ReadAloud$State", name := "<init>", desc := "()V" } : Jvm.MethodName) ∈ aWd := aWd_1 (List.mem_of_getElem? (i := 61) rfl) rfl
theorem wd_1_62 : Jvm.Cond.code ({ cls := "ReadAloud$State", name := "<init>", desc := "()V" } : Jvm.MethodName) prog_10_method_1_code (1 : Nat) (Option.none : Option Jvm.ClassFile.FieldType) ∈ aWd := aWd_1 (List.mem_of_getElem? (i := 62) rfl) rfl
theorem wd_1_63 : Jvm.Cond.methodLink "ReadAloud$State" (3 : Nat) ({ cls := "java/lang/Object", name := "<init>", desc := "()V" } : Jvm.MethodName) ∈ aWd := aWd_1 (List.mem_of_getElem? (i := 63) rfl) rfl
theorem wd_1_64 : Jvm.Cond.classLink "ReadAloud$State" (9 : Nat) "ReadAloud$Sheet" ∈ aWd := aWd_1 (List.mem_of_getElem? (i := 64) rfl) rfl
theorem wd_1_65 : Jvm.Cond.instantiable "ReadAloud$Sheet" (2 : Nat) ∈ aWd := aWd_1 (List.mem_of_getElem? (i := 65) rfl) rfl
theorem wd_1_67 : Jvm.Cond.instanceMethod ({ cls := "ReadAloud$Sheet", name := "<init>", desc := "()V" } : Jvm.MethodName) ∈ aWd := aWd_1 (List.mem_of_getElem? (i := 67) rfl) rfl
theorem wd_1_68 : Jvm.Cond.code ({ cls := "ReadAloud$Sheet", name := "<init>", desc := "()V" } : Jvm.MethodName) prog_8_method_1_code (1 : Nat) (Option.none : Option Jvm.ClassFile.FieldType) ∈ aWd := aWd_1 (List.mem_of_getElem? (i := 68) rfl) rfl
theorem wd_1_69 : Jvm.Cond.methodLink "ReadAloud$Sheet" (3 : Nat) ({ cls := "java/lang/Object", name := "<init>", desc := "()V" } : Jvm.MethodName) ∈ aWd := aWd_1 (List.mem_of_getElem? (i := 69) rfl) rfl
theorem wd_1_70 : Jvm.Cond.fieldLink "ReadAloud$Sheet" (9 : Nat) "ReadAloud$Sheet" "words" "[I" ∈ aWd := aWd_1 (List.mem_of_getElem? (i := 70) rfl) rfl
theorem wd_1_71 : Jvm.Cond.fieldLink "ReadAloud$Sheet" (15 : Nat) "ReadAloud$Sheet" "size" "I" ∈ aWd := aWd_1 (List.mem_of_getElem? (i := 71) rfl) rfl
theorem wd_1_72 : Jvm.Cond.laysFinal "ReadAloud$Sheet" "ReadAloud$Sheet" "words" "[I" ∈ aWd := aWd_1 (List.mem_of_getElem? (i := 72) rfl) rfl
theorem wd_1_74 : Jvm.Cond.lays "ReadAloud$Sheet" "ReadAloud$Sheet" "size" "I" ∈ aWd := aWd_1 (List.mem_of_getElem? (i := 74) rfl) rfl
theorem wd_1_77 : Jvm.Cond.classLink "ReadAloud$State" (18 : Nat) "ReadAloud$Heard" ∈ aWd := aWd_1 (List.mem_of_getElem? (i := 77) rfl) rfl
theorem wd_1_78 : Jvm.Cond.instantiable "ReadAloud$Heard" (3 : Nat) ∈ aWd := aWd_1 (List.mem_of_getElem? (i := 78) rfl) rfl
theorem wd_1_80 : Jvm.Cond.instanceMethod ({ cls := "ReadAloud$Heard", name := "<init>", desc := "()V" } : Jvm.MethodName) ∈ aWd := aWd_1 (List.mem_of_getElem? (i := 80) rfl) rfl
theorem wd_1_81 : Jvm.Cond.code ({ cls := "ReadAloud$Heard", name := "<init>", desc := "()V" } : Jvm.MethodName) prog_5_method_1_code (1 : Nat) (Option.none : Option Jvm.ClassFile.FieldType) ∈ aWd := aWd_1 (List.mem_of_getElem? (i := 81) rfl) rfl
theorem wd_1_82 : Jvm.Cond.methodLink "ReadAloud$Heard" (3 : Nat) ({ cls := "java/lang/Object", name := "<init>", desc := "()V" } : Jvm.MethodName) ∈ aWd := aWd_1 (List.mem_of_getElem? (i := 82) rfl) rfl
theorem wd_1_83 : Jvm.Cond.fieldLink "ReadAloud$Heard" (9 : Nat) "ReadAloud$Heard" "whom" "[I" ∈ aWd := aWd_1 (List.mem_of_getElem? (i := 83) rfl) rfl
theorem wd_1_84 : Jvm.Cond.fieldLink "ReadAloud$Heard" (15 : Nat) "ReadAloud$Heard" "deeds" "[I" ∈ aWd := aWd_1 (List.mem_of_getElem? (i := 84) rfl) rfl
theorem wd_1_85 : Jvm.Cond.fieldLink "ReadAloud$Heard" (18 : Nat) "ReadAloud$Heard" "size" "I" ∈ aWd := aWd_1 (List.mem_of_getElem? (i := 85) rfl) rfl
theorem wd_1_86 : Jvm.Cond.laysFinal "ReadAloud$Heard" "ReadAloud$Heard" "whom" "[I" ∈ aWd := aWd_1 (List.mem_of_getElem? (i := 86) rfl) rfl
theorem wd_1_88 : Jvm.Cond.laysFinal "ReadAloud$Heard" "ReadAloud$Heard" "deeds" "[I" ∈ aWd := aWd_1 (List.mem_of_getElem? (i := 88) rfl) rfl
theorem wd_1_90 : Jvm.Cond.lays "ReadAloud$Heard" "ReadAloud$Heard" "size" "I" ∈ aWd := aWd_1 (List.mem_of_getElem? (i := 90) rfl) rfl
theorem wd_1_93 : Jvm.Cond.fieldLink "ReadAloud$State" (12 : Nat) "ReadAloud$State" "sheet" "LReadAloud$Sheet;" ∈ aWd := aWd_1 (List.mem_of_getElem? (i := 93) rfl) rfl
theorem wd_1_94 : Jvm.Cond.fieldLink "ReadAloud" (79 : Nat) "ReadAloud$State" "sheet" "LReadAloud$Sheet;" ∈ aWd := aWd_1 (List.mem_of_getElem? (i := 94) rfl) rfl
theorem wd_1_95 : Jvm.Cond.fieldLink "ReadAloud$State" (21 : Nat) "ReadAloud$State" "heard" "LReadAloud$Heard;" ∈ aWd := aWd_1 (List.mem_of_getElem? (i := 95) rfl) rfl
theorem wd_1_96 : Jvm.Cond.fieldLink "ReadAloud" (140 : Nat) "ReadAloud$State" "heard" "LReadAloud$Heard;" ∈ aWd := aWd_1 (List.mem_of_getElem? (i := 96) rfl) rfl
theorem wd_1_97 : Jvm.Cond.fieldLink "ReadAloud$State" (25 : Nat) "ReadAloud$State" "hidden" "[I" ∈ aWd := aWd_1 (List.mem_of_getElem? (i := 97) rfl) rfl
theorem wd_1_98 : Jvm.Cond.fieldLink "ReadAloud" (115 : Nat) "ReadAloud$State" "hidden" "[I" ∈ aWd := aWd_1 (List.mem_of_getElem? (i := 98) rfl) rfl
theorem wd_1_99 : Jvm.Cond.fieldLink "ReadAloud$State" (33 : Nat) "ReadAloud$State" "limit" "I" ∈ aWd := aWd_1 (List.mem_of_getElem? (i := 99) rfl) rfl
theorem wd_1_100 : Jvm.Cond.fieldLink "ReadAloud" (103 : Nat) "ReadAloud$State" "limit" "I" ∈ aWd := aWd_1 (List.mem_of_getElem? (i := 100) rfl) rfl
theorem wd_1_101 : Jvm.Cond.fieldLink "ReadAloud$State" (37 : Nat) "ReadAloud$State" "men" "I" ∈ aWd := aWd_1 (List.mem_of_getElem? (i := 101) rfl) rfl
theorem wd_1_102 : Jvm.Cond.fieldLink "ReadAloud" (109 : Nat) "ReadAloud$State" "men" "I" ∈ aWd := aWd_1 (List.mem_of_getElem? (i := 102) rfl) rfl
theorem wd_1_103 : Jvm.Cond.fieldLink "ReadAloud$State" (40 : Nat) "ReadAloud$State" "changes" "I" ∈ aWd := aWd_1 (List.mem_of_getElem? (i := 103) rfl) rfl
theorem wd_1_104 : Jvm.Cond.fieldLink "ReadAloud" (100 : Nat) "ReadAloud$State" "changes" "I" ∈ aWd := aWd_1 (List.mem_of_getElem? (i := 104) rfl) rfl
theorem wd_1_105 : Jvm.Cond.laysFinal "ReadAloud$State" "ReadAloud$State" "sheet" "LReadAloud$Sheet;" ∈ aWd := aWd_1 (List.mem_of_getElem? (i := 105) rfl) rfl
theorem wd_1_107 : Jvm.Cond.laysFinal "ReadAloud$State" "ReadAloud$State" "heard" "LReadAloud$Heard;" ∈ aWd := aWd_1 (List.mem_of_getElem? (i := 107) rfl) rfl
theorem wd_1_109 : Jvm.Cond.laysFinal "ReadAloud$State" "ReadAloud$State" "hidden" "[I" ∈ aWd := aWd_1 (List.mem_of_getElem? (i := 109) rfl) rfl
theorem wd_1_111 : Jvm.Cond.lays "ReadAloud$State" "ReadAloud$State" "limit" "I" ∈ aWd := aWd_1 (List.mem_of_getElem? (i := 111) rfl) rfl
theorem wd_1_113 : Jvm.Cond.lays "ReadAloud$State" "ReadAloud$State" "men" "I" ∈ aWd := aWd_1 (List.mem_of_getElem? (i := 113) rfl) rfl
theorem wd_1_115 : Jvm.Cond.lays "ReadAloud$State" "ReadAloud$State" "changes" "I" ∈ aWd := aWd_1 (List.mem_of_getElem? (i := 115) rfl) rfl
theorem wd_1_118 : Jvm.Cond.classLink "ReadAloud" (36 : Nat) "ReadAloud$Sheet" ∈ aWd := aWd_1 (List.mem_of_getElem? (i := 118) rfl) rfl
theorem wd_1_120 : Jvm.Cond.classLink "ReadAloud" (43 : Nat) "ReadAloud$Brief" ∈ aWd := aWd_1 (List.mem_of_getElem? (i := 120) rfl) rfl
theorem wd_1_121 : Jvm.Cond.instantiable "ReadAloud$Brief" (3 : Nat) ∈ aWd := aWd_1 (List.mem_of_getElem? (i := 121) rfl) rfl
theorem wd_1_123 : Jvm.Cond.instanceMethod ({ cls := "ReadAloud$Brief", name := "<init>", desc := "()V" } : Jvm.MethodName) ∈ aWd := aWd_1 (List.mem_of_getElem? (i := 123) rfl) rfl
theorem wd_1_124 : Jvm.Cond.code ({ cls := "ReadAloud$Brief", name := "<init>", desc := "()V" } : Jvm.MethodName) prog_4_method_1_code (1 : Nat) (Option.none : Option Jvm.ClassFile.FieldType) ∈ aWd := aWd_1 (List.mem_of_getElem? (i := 124) rfl) rfl
theorem wd_1_125 : Jvm.Cond.methodLink "ReadAloud$Brief" (3 : Nat) ({ cls := "java/lang/Object", name := "<init>", desc := "()V" } : Jvm.MethodName) ∈ aWd := aWd_1 (List.mem_of_getElem? (i := 125) rfl) rfl
theorem wd_1_126 : Jvm.Cond.fieldLink "ReadAloud$Brief" (9 : Nat) "ReadAloud$Brief" "pairsTold" "[I" ∈ aWd := aWd_1 (List.mem_of_getElem? (i := 126) rfl) rfl
theorem wd_1_127 : Jvm.Cond.fieldLink "ReadAloud$Brief" (15 : Nat) "ReadAloud$Brief" "words" "[I" ∈ aWd := aWd_1 (List.mem_of_getElem? (i := 127) rfl) rfl
theorem wd_1_128 : Jvm.Cond.laysFinal "ReadAloud$Brief" "ReadAloud$Brief" "pairsTold" "[I" ∈ aWd := aWd_1 (List.mem_of_getElem? (i := 128) rfl) rfl
theorem wd_1_130 : Jvm.Cond.laysFinal "ReadAloud$Brief" "ReadAloud$Brief" "words" "[I" ∈ aWd := aWd_1 (List.mem_of_getElem? (i := 130) rfl) rfl
theorem wd_1_132 : Jvm.Cond.lays "ReadAloud$Brief" "ReadAloud$Brief" "size" "I" ∈ aWd := aWd_1 (List.mem_of_getElem? (i := 132) rfl) rfl
theorem wd_1_135 : Jvm.Cond.fieldLink "ReadAloud" (10 : Nat) "ReadAloud" "page" "LReadAloud$Page;" ∈ aWd := aWd_1 (List.mem_of_getElem? (i := 135) rfl) rfl
theorem wd_1_136 : Jvm.Cond.fieldLink "ReadAloud" (16 : Nat) "ReadAloud" "near" "[I" ∈ aWd := aWd_1 (List.mem_of_getElem? (i := 136) rfl) rfl
theorem wd_1_137 : Jvm.Cond.fieldLink "ReadAloud" (22 : Nat) "ReadAloud" "men" "[LReadAloud$Man;" ∈ aWd := aWd_1 (List.mem_of_getElem? (i := 137) rfl) rfl
theorem wd_1_138 : Jvm.Cond.fieldLink "ReadAloud" (29 : Nat) "ReadAloud" "now" "LReadAloud$State;" ∈ aWd := aWd_1 (List.mem_of_getElem? (i := 138) rfl) rfl
theorem wd_1_139 : Jvm.Cond.fieldLink "ReadAloud" (33 : Nat) "ReadAloud" "kept" "LReadAloud$State;" ∈ aWd := aWd_1 (List.mem_of_getElem? (i := 139) rfl) rfl
theorem wd_1_140 : Jvm.Cond.fieldLink "ReadAloud" (39 : Nat) "ReadAloud" "drawn" "LReadAloud$Sheet;" ∈ aWd := aWd_1 (List.mem_of_getElem? (i := 140) rfl) rfl
theorem wd_1_141 : Jvm.Cond.fieldLink "ReadAloud" (46 : Nat) "ReadAloud" "shortest" "LReadAloud$Brief;" ∈ aWd := aWd_1 (List.mem_of_getElem? (i := 141) rfl) rfl
theorem wd_1_142 : Jvm.Cond.fieldLink "ReadAloud" (71 : Nat) "ReadAloud" "imageKept" "Z" ∈ aWd := aWd_1 (List.mem_of_getElem? (i := 142) rfl) rfl
theorem wd_1_143 : Jvm.Cond.fieldLink "ReadAloud" (75 : Nat) "ReadAloud" "courtsRead" "I" ∈ aWd := aWd_1 (List.mem_of_getElem? (i := 143) rfl) rfl
theorem wd_1_144 : Jvm.Cond.fieldLink "ReadAloud" (159 : Nat) "ReadAloud" "briefsDone" "I" ∈ aWd := aWd_1 (List.mem_of_getElem? (i := 144) rfl) rfl
theorem wd_1_145 : Jvm.Cond.laysFinal "ReadAloud" "ReadAloud" "page" "LReadAloud$Page;" ∈ aWd := aWd_1 (List.mem_of_getElem? (i := 145) rfl) rfl
theorem wd_1_147 : Jvm.Cond.laysFinal "ReadAloud" "ReadAloud" "near" "[I" ∈ aWd := aWd_1 (List.mem_of_getElem? (i := 147) rfl) rfl
theorem wd_1_149 : Jvm.Cond.laysFinal "ReadAloud" "ReadAloud" "men" "[LReadAloud$Man;" ∈ aWd := aWd_1 (List.mem_of_getElem? (i := 149) rfl) rfl
theorem wd_1_151 : Jvm.Cond.laysFinal "ReadAloud" "ReadAloud" "now" "LReadAloud$State;" ∈ aWd := aWd_1 (List.mem_of_getElem? (i := 151) rfl) rfl
theorem wd_1_153 : Jvm.Cond.laysFinal "ReadAloud" "ReadAloud" "kept" "LReadAloud$State;" ∈ aWd := aWd_1 (List.mem_of_getElem? (i := 153) rfl) rfl
theorem wd_1_155 : Jvm.Cond.laysFinal "ReadAloud" "ReadAloud" "drawn" "LReadAloud$Sheet;" ∈ aWd := aWd_1 (List.mem_of_getElem? (i := 155) rfl) rfl
theorem wd_1_157 : Jvm.Cond.laysFinal "ReadAloud" "ReadAloud" "shortest" "LReadAloud$Brief;" ∈ aWd := aWd_1 (List.mem_of_getElem? (i := 157) rfl) rfl
theorem wd_1_159 : Jvm.Cond.lays "ReadAloud" "ReadAloud" "imageKept" "Z" ∈ aWd := aWd_1 (List.mem_of_getElem? (i := 159) rfl) rfl
theorem wd_1_161 : Jvm.Cond.lays "ReadAloud" "ReadAloud" "courtsRead" "I" ∈ aWd := aWd_1 (List.mem_of_getElem? (i := 161) rfl) rfl
theorem wd_1_163 : Jvm.Cond.lays "ReadAloud" "ReadAloud" "briefsDone" "I" ∈ aWd := aWd_1 (List.mem_of_getElem? (i := 163) rfl) rfl
theorem wd_1_166 : Jvm.Cond.methodLink "ReadAloudLaw" (79 : Nat) ({ cls := "ReadAloud", name := "fault", desc := "()I" } : Jvm.MethodName) ∈ aWd := aWd_1 (List.mem_of_getElem? (i := 166) rfl) rfl
theorem wd_1_167 : Jvm.Cond.instanceMethod ({ cls := "ReadAloud", name := "fault", desc := "()I" } : Jvm.MethodName) ∈ aWd := aWd_1 (List.mem_of_getElem? (i := 167) rfl) rfl
theorem wd_1_168 : Jvm.Cond.selects "ReadAloud" ({ cls := "ReadAloud", name := "fault", desc := "()I" } : Jvm.MethodName) ({ cls := "ReadAloud", name := "fault", desc := "()I" } : Jvm.MethodName) ∈ aWd := aWd_1 (List.mem_of_getElem? (i := 168) rfl) rfl
theorem wd_1_169 : Jvm.Cond.code ({ cls := "ReadAloud", name := "fault", desc := "()I" } : Jvm.MethodName) prog_1_method_4_code (1 : Nat) (Option.some Jvm.ClassFile.FieldType.int) ∈ aWd := aWd_1 (List.mem_of_getElem? (i := 169) rfl) rfl
theorem wd_1_170 : Jvm.Cond.methodLink "ReadAloud" (61 : Nat) ({ cls := "ReadAloud$Page", name := "faultPlace", desc := "()I" } : Jvm.MethodName) ∈ aWd := aWd_1 (List.mem_of_getElem? (i := 170) rfl) rfl
theorem wd_1_171 : Jvm.Cond.instanceMethod ({ cls := "ReadAloud$Page", name := "faultPlace", desc := "()I" } : Jvm.MethodName) ∈ aWd := aWd_1 (List.mem_of_getElem? (i := 171) rfl) rfl
theorem wd_1_172 : Jvm.Cond.selects "ReadAloud$Page" ({ cls := "ReadAloud$Page", name := "faultPlace", desc := "()I" } : Jvm.MethodName) ({ cls := "ReadAloud$Page", name := "faultPlace", desc := "()I" } : Jvm.MethodName) ∈ aWd := aWd_1 (List.mem_of_getElem? (i := 172) rfl) rfl
theorem wd_1_173 : Jvm.Cond.code ({ cls := "ReadAloud$Page", name := "faultPlace", desc := "()I" } : Jvm.MethodName) prog_7_method_6_code (2 : Nat) (Option.some Jvm.ClassFile.FieldType.int) ∈ aWd := aWd_1 (List.mem_of_getElem? (i := 173) rfl) rfl
theorem wd_1_174 : Jvm.Cond.methodLink "ReadAloud$Page" (26 : Nat) ({ cls := "ReadAloud$Walk", name := "begin", desc := "()V" } : Jvm.MethodName) ∈ aWd := aWd_1 (List.mem_of_getElem? (i := 174) rfl) rfl
theorem wd_1_175 : Jvm.Cond.instanceMethod ({ cls := "ReadAloud$Walk", name := "begin", desc := "()V" } : Jvm.MethodName) ∈ aWd := aWd_1 (List.mem_of_getElem? (i := 175) rfl) rfl
theorem wd_1_176 : Jvm.Cond.selects "ReadAloud$Walk" ({ cls := "ReadAloud$Walk", name := "begin", desc := "()V" } : Jvm.MethodName) ({ cls := "ReadAloud$Walk", name := "begin", desc := "()V" } : Jvm.MethodName) ∈ aWd := aWd_1 (List.mem_of_getElem? (i := 176) rfl) rfl
theorem wd_1_177 : Jvm.Cond.code ({ cls := "ReadAloud$Walk", name := "begin", desc := "()V" } : Jvm.MethodName) prog_11_method_2_code (1 : Nat) (Option.none : Option Jvm.ClassFile.FieldType) ∈ aWd := aWd_1 (List.mem_of_getElem? (i := 177) rfl) rfl
theorem wd_1_178 : Jvm.Cond.methodLink "ReadAloud$Walk" (9 : Nat) ({ cls := "ReadAloud$Walk", name := "enter", desc := "(I)V" } : Jvm.MethodName) ∈ aWd := aWd_1 (List.mem_of_getElem? (i := 178) rfl) rfl
theorem wd_1_180 : Jvm.Cond.instanceMethod ({ cls := "ReadAloud$Walk", name := "enter", desc := "(I)V" } : Jvm.MethodName) ∈ aWd := aWd_1 (List.mem_of_getElem? (i := 180) rfl) rfl
theorem wd_1_181 : Jvm.Cond.code ({ cls := "ReadAloud$Walk", name := "enter", desc := "(I)V" } : Jvm.MethodName) prog_11_method_5_code (2 : Nat) (Option.none : Option Jvm.ClassFile.FieldType) ∈ aWd := aWd_1 (List.mem_of_getElem? (i := 181) rfl) rfl
theorem wd_1_182 : Jvm.Cond.methodLink "ReadAloud$Page" (29 : Nat) ({ cls := "ReadAloud$Walk", name := "passes", desc := "(I)Z" } : Jvm.MethodName) ∈ aWd := aWd_1 (List.mem_of_getElem? (i := 182) rfl) rfl
theorem wd_1_183 : Jvm.Cond.instanceMethod ({ cls := "ReadAloud$Walk", name := "passes", desc := "(I)Z" } : Jvm.MethodName) ∈ aWd := aWd_1 (List.mem_of_getElem? (i := 183) rfl) rfl
theorem wd_1_184 : Jvm.Cond.selects "ReadAloud$Walk" ({ cls := "ReadAloud$Walk", name := "passes", desc := "(I)Z" } : Jvm.MethodName) ({ cls := "ReadAloud$Walk", name := "passes", desc := "(I)Z" } : Jvm.MethodName) ∈ aWd := aWd_1 (List.mem_of_getElem? (i := 184) rfl) rfl
theorem wd_1_185 : Jvm.Cond.code ({ cls := "ReadAloud$Walk", name := "passes", desc := "(I)Z" } : Jvm.MethodName) prog_11_method_3_code (3 : Nat) (Option.some Jvm.ClassFile.FieldType.boolean) ∈ aWd := aWd_1 (List.mem_of_getElem? (i := 185) rfl) rfl
theorem wd_1_187 : Jvm.Cond.static ({ cls := "ReadAloud", name := "isWord", desc := "(I)Z" } : Jvm.MethodName) ∈ aWd := aWd_1 (List.mem_of_getElem? (i := 187) rfl) rfl
theorem wd_1_188 : Jvm.Cond.code ({ cls := "ReadAloud", name := "isWord", desc := "(I)Z" } : Jvm.MethodName) prog_1_method_26_code (1 : Nat) (Option.some Jvm.ClassFile.FieldType.boolean) ∈ aWd := aWd_1 (List.mem_of_getElem? (i := 188) rfl) rfl
theorem wd_1_189 : Jvm.Cond.methodLink "ReadAloud$Walk" (19 : Nat) ({ cls := "ReadAloud$Walk", name := "passesWord", desc := "(I)Z" } : Jvm.MethodName) ∈ aWd := aWd_1 (List.mem_of_getElem? (i := 189) rfl) rfl
theorem wd_1_191 : Jvm.Cond.instanceMethod ({ cls := "ReadAloud$Walk", name := "passesWord", desc := "(I)Z" } : Jvm.MethodName) ∈ aWd := aWd_1 (List.mem_of_getElem? (i := 191) rfl) rfl
theorem wd_1_192 : Jvm.Cond.code ({ cls := "ReadAloud$Walk", name := "passesWord", desc := "(I)Z" } : Jvm.MethodName) prog_11_method_6_code (3 : Nat) (Option.some Jvm.ClassFile.FieldType.boolean) ∈ aWd := aWd_1 (List.mem_of_getElem? (i := 192) rfl) rfl
theorem wd_1_193 : Jvm.Cond.methodLink "ReadAloudLaw" (83 : Nat) ({ cls := "ReadAloud", name := "court", desc := "()I" } : Jvm.MethodName) ∈ aWd := aWd_1 (List.mem_of_getElem? (i := 193) rfl) rfl
theorem wd_1_194 : Jvm.Cond.instanceMethod ({ cls := "ReadAloud", name := "court", desc := "()I" } : Jvm.MethodName) ∈ aWd := aWd_1 (List.mem_of_getElem? (i := 194) rfl) rfl
theorem wd_1_195 : Jvm.Cond.selects "ReadAloud" ({ cls := "ReadAloud", name := "court", desc := "()I" } : Jvm.MethodName) ({ cls := "ReadAloud", name := "court", desc := "()I" } : Jvm.MethodName) ∈ aWd := aWd_1 (List.mem_of_getElem? (i := 195) rfl) rfl
theorem wd_1_196 : Jvm.Cond.code ({ cls := "ReadAloud", name := "court", desc := "()I" } : Jvm.MethodName) prog_1_method_5_code (1 : Nat) (Option.some Jvm.ClassFile.FieldType.int) ∈ aWd := aWd_1 (List.mem_of_getElem? (i := 196) rfl) rfl
theorem wd_1_197 : Jvm.Cond.methodLink "ReadAloud" (64 : Nat) ({ cls := "ReadAloud$Page", name := "isCourt", desc := "()Z" } : Jvm.MethodName) ∈ aWd := aWd_1 (List.mem_of_getElem? (i := 197) rfl) rfl
theorem wd_1_198 : Jvm.Cond.instanceMethod ({ cls := "ReadAloud$Page", name := "isCourt", desc := "()Z" } : Jvm.MethodName) ∈ aWd := aWd_1 (List.mem_of_getElem? (i := 198) rfl) rfl
theorem wd_1_199 : Jvm.Cond.selects "ReadAloud$Page" ({ cls := "ReadAloud$Page", name := "isCourt", desc := "()Z" } : Jvm.MethodName) ({ cls := "ReadAloud$Page", name := "isCourt", desc := "()Z" } : Jvm.MethodName) ∈ aWd := aWd_1 (List.mem_of_getElem? (i := 199) rfl) rfl
theorem wd_1_200 : Jvm.Cond.code ({ cls := "ReadAloud$Page", name := "isCourt", desc := "()Z" } : Jvm.MethodName) prog_7_method_7_code (1 : Nat) (Option.some Jvm.ClassFile.FieldType.boolean) ∈ aWd := aWd_1 (List.mem_of_getElem? (i := 200) rfl) rfl
theorem wd_1_201 : Jvm.Cond.methodLink "ReadAloud$Page" (33 : Nat) ({ cls := "ReadAloud$Page", name := "faultPlace", desc := "()I" } : Jvm.MethodName) ∈ aWd := aWd_1 (List.mem_of_getElem? (i := 201) rfl) rfl
theorem wd_1_202 : Jvm.Cond.methodLink "ReadAloud$Page" (37 : Nat) ({ cls := "ReadAloud$Walk", name := "isWhole", desc := "()Z" } : Jvm.MethodName) ∈ aWd := aWd_1 (List.mem_of_getElem? (i := 202) rfl) rfl
theorem wd_1_203 : Jvm.Cond.instanceMethod ({ cls := "ReadAloud$Walk", name := "isWhole", desc := "()Z" } : Jvm.MethodName) ∈ aWd := aWd_1 (List.mem_of_getElem? (i := 203) rfl) rfl
theorem wd_1_204 : Jvm.Cond.selects "ReadAloud$Walk" ({ cls := "ReadAloud$Walk", name := "isWhole", desc := "()Z" } : Jvm.MethodName) ({ cls := "ReadAloud$Walk", name := "isWhole", desc := "()Z" } : Jvm.MethodName) ∈ aWd := aWd_1 (List.mem_of_getElem? (i := 204) rfl) rfl
theorem wd_1_205 : Jvm.Cond.code ({ cls := "ReadAloud$Walk", name := "isWhole", desc := "()Z" } : Jvm.MethodName) prog_11_method_4_code (1 : Nat) (Option.some Jvm.ClassFile.FieldType.boolean) ∈ aWd := aWd_1 (List.mem_of_getElem? (i := 205) rfl) rfl
theorem wd_1_206 : Jvm.Cond.methodLink "ReadAloud" (68 : Nat) ({ cls := "ReadAloud", name := "readCourt", desc := "()V" } : Jvm.MethodName) ∈ aWd := aWd_1 (List.mem_of_getElem? (i := 206) rfl) rfl
theorem wd_1_208 : Jvm.Cond.instanceMethod ({ cls := "ReadAloud", name := "readCourt", desc := "()V" } : Jvm.MethodName) ∈ aWd := aWd_1 (List.mem_of_getElem? (i := 208) rfl) rfl
theorem wd_1_209 : Jvm.Cond.code ({ cls := "ReadAloud", name := "readCourt", desc := "()V" } : Jvm.MethodName) prog_1_method_33_code (4 : Nat) (Option.none : Option Jvm.ClassFile.FieldType) ∈ aWd := aWd_1 (List.mem_of_getElem? (i := 209) rfl) rfl
theorem wd_1_210 : Jvm.Cond.methodLink "ReadAloud" (241 : Nat) ({ cls := "ReadAloud$State", name := "begin", desc := "()V" } : Jvm.MethodName) ∈ aWd := aWd_1 (List.mem_of_getElem? (i := 210) rfl) rfl
theorem wd_1_211 : Jvm.Cond.instanceMethod ({ cls := "ReadAloud$State", name := "begin", desc := "()V" } : Jvm.MethodName) ∈ aWd := aWd_1 (List.mem_of_getElem? (i := 211) rfl) rfl
theorem wd_1_212 : Jvm.Cond.selects "ReadAloud$State" ({ cls := "ReadAloud$State", name := "begin", desc := "()V" } : Jvm.MethodName) ({ cls := "ReadAloud$State", name := "begin", desc := "()V" } : Jvm.MethodName) ∈ aWd := aWd_1 (List.mem_of_getElem? (i := 212) rfl) rfl
theorem wd_1_213 : Jvm.Cond.code ({ cls := "ReadAloud$State", name := "begin", desc := "()V" } : Jvm.MethodName) prog_10_method_2_code (1 : Nat) (Option.none : Option Jvm.ClassFile.FieldType) ∈ aWd := aWd_1 (List.mem_of_getElem? (i := 213) rfl) rfl
theorem wd_1_214 : Jvm.Cond.methodLink "ReadAloud$State" (29 : Nat) ({ cls := "ReadAloud$Sheet", name := "clear", desc := "()V" } : Jvm.MethodName) ∈ aWd := aWd_1 (List.mem_of_getElem? (i := 214) rfl) rfl
theorem wd_1_215 : Jvm.Cond.instanceMethod ({ cls := "ReadAloud$Sheet", name := "clear", desc := "()V" } : Jvm.MethodName) ∈ aWd := aWd_1 (List.mem_of_getElem? (i := 215) rfl) rfl
theorem wd_1_216 : Jvm.Cond.selects "ReadAloud$Sheet" ({ cls := "ReadAloud$Sheet", name := "clear", desc := "()V" } : Jvm.MethodName) ({ cls := "ReadAloud$Sheet", name := "clear", desc := "()V" } : Jvm.MethodName) ∈ aWd := aWd_1 (List.mem_of_getElem? (i := 216) rfl) rfl
theorem wd_1_217 : Jvm.Cond.code ({ cls := "ReadAloud$Sheet", name := "clear", desc := "()V" } : Jvm.MethodName) prog_8_method_7_code (1 : Nat) (Option.none : Option Jvm.ClassFile.FieldType) ∈ aWd := aWd_1 (List.mem_of_getElem? (i := 217) rfl) rfl
theorem wd_1_218 : Jvm.Cond.methodLink "ReadAloud$State" (32 : Nat) ({ cls := "ReadAloud$Heard", name := "clear", desc := "()V" } : Jvm.MethodName) ∈ aWd := aWd_1 (List.mem_of_getElem? (i := 218) rfl) rfl
theorem wd_1_219 : Jvm.Cond.instanceMethod ({ cls := "ReadAloud$Heard", name := "clear", desc := "()V" } : Jvm.MethodName) ∈ aWd := aWd_1 (List.mem_of_getElem? (i := 219) rfl) rfl
theorem wd_1_220 : Jvm.Cond.selects "ReadAloud$Heard" ({ cls := "ReadAloud$Heard", name := "clear", desc := "()V" } : Jvm.MethodName) ({ cls := "ReadAloud$Heard", name := "clear", desc := "()V" } : Jvm.MethodName) ∈ aWd := aWd_1 (List.mem_of_getElem? (i := 220) rfl) rfl
theorem wd_1_221 : Jvm.Cond.code ({ cls := "ReadAloud$Heard", name := "clear", desc := "()V" } : Jvm.MethodName) prog_5_method_4_code (1 : Nat) (Option.none : Option Jvm.ClassFile.FieldType) ∈ aWd := aWd_1 (List.mem_of_getElem? (i := 221) rfl) rfl
theorem wd_1_222 : Jvm.Cond.methodLink "ReadAloud" (54 : Nat) ({ cls := "ReadAloud$Page", name := "size", desc := "()I" } : Jvm.MethodName) ∈ aWd := aWd_1 (List.mem_of_getElem? (i := 222) rfl) rfl
theorem wd_1_223 : Jvm.Cond.instanceMethod ({ cls := "ReadAloud$Page", name := "size", desc := "()I" } : Jvm.MethodName) ∈ aWd := aWd_1 (List.mem_of_getElem? (i := 223) rfl) rfl
theorem wd_1_224 : Jvm.Cond.selects "ReadAloud$Page" ({ cls := "ReadAloud$Page", name := "size", desc := "()I" } : Jvm.MethodName) ({ cls := "ReadAloud$Page", name := "size", desc := "()I" } : Jvm.MethodName) ∈ aWd := aWd_1 (List.mem_of_getElem? (i := 224) rfl) rfl
theorem wd_1_225 : Jvm.Cond.code ({ cls := "ReadAloud$Page", name := "size", desc := "()I" } : Jvm.MethodName) prog_7_method_2_code (1 : Nat) (Option.some Jvm.ClassFile.FieldType.int) ∈ aWd := aWd_1 (List.mem_of_getElem? (i := 225) rfl) rfl
theorem wd_1_226 : Jvm.Cond.methodLink "ReadAloud" (220 : Nat) ({ cls := "ReadAloud$Page", name := "codeAt", desc := "(I)I" } : Jvm.MethodName) ∈ aWd := aWd_1 (List.mem_of_getElem? (i := 226) rfl) rfl
theorem wd_1_227 : Jvm.Cond.instanceMethod ({ cls := "ReadAloud$Page", name := "codeAt", desc := "(I)I" } : Jvm.MethodName) ∈ aWd := aWd_1 (List.mem_of_getElem? (i := 227) rfl) rfl
theorem wd_1_228 : Jvm.Cond.selects "ReadAloud$Page" ({ cls := "ReadAloud$Page", name := "codeAt", desc := "(I)I" } : Jvm.MethodName) ({ cls := "ReadAloud$Page", name := "codeAt", desc := "(I)I" } : Jvm.MethodName) ∈ aWd := aWd_1 (List.mem_of_getElem? (i := 228) rfl) rfl
theorem wd_1_229 : Jvm.Cond.code ({ cls := "ReadAloud$Page", name := "codeAt", desc := "(I)I" } : Jvm.MethodName) prog_7_method_3_code (2 : Nat) (Option.some Jvm.ClassFile.FieldType.int) ∈ aWd := aWd_1 (List.mem_of_getElem? (i := 229) rfl) rfl
theorem wd_1_230 : Jvm.Cond.methodLink "ReadAloud" (93 : Nat) ({ cls := "ReadAloud", name := "isWord", desc := "(I)Z" } : Jvm.MethodName) ∈ aWd := aWd_1 (List.mem_of_getElem? (i := 230) rfl) rfl
theorem wd_1_231 : Jvm.Cond.methodLink "ReadAloud" (244 : Nat) ({ cls := "ReadAloud$Sheet", name := "add", desc := "(I)V" } : Jvm.MethodName) ∈ aWd := aWd_1 (List.mem_of_getElem? (i := 231) rfl) rfl
theorem wd_1_232 : Jvm.Cond.instanceMethod ({ cls := "ReadAloud$Sheet", name := "add", desc := "(I)V" } : Jvm.MethodName) ∈ aWd := aWd_1 (List.mem_of_getElem? (i := 232) rfl) rfl
theorem wd_1_233 : Jvm.Cond.selects "ReadAloud$Sheet" ({ cls := "ReadAloud$Sheet", name := "add", desc := "(I)V" } : Jvm.MethodName) ({ cls := "ReadAloud$Sheet", name := "add", desc := "(I)V" } : Jvm.MethodName) ∈ aWd := aWd_1 (List.mem_of_getElem? (i := 233) rfl) rfl
theorem wd_1_234 : Jvm.Cond.code ({ cls := "ReadAloud$Sheet", name := "add", desc := "(I)V" } : Jvm.MethodName) prog_8_method_6_code (2 : Nat) (Option.none : Option Jvm.ClassFile.FieldType) ∈ aWd := aWd_1 (List.mem_of_getElem? (i := 234) rfl) rfl
theorem wd_1_235 : Jvm.Cond.methodLink "ReadAloud" (58 : Nat) ({ cls := "ReadAloud$Page", name := "clear", desc := "()V" } : Jvm.MethodName) ∈ aWd := aWd_1 (List.mem_of_getElem? (i := 235) rfl) rfl
theorem wd_1_236 : Jvm.Cond.instanceMethod ({ cls := "ReadAloud$Page", name := "clear", desc := "()V" } : Jvm.MethodName) ∈ aWd := aWd_1 (List.mem_of_getElem? (i := 236) rfl) rfl
theorem wd_1_237 : Jvm.Cond.selects "ReadAloud$Page" ({ cls := "ReadAloud$Page", name := "clear", desc := "()V" } : Jvm.MethodName) ({ cls := "ReadAloud$Page", name := "clear", desc := "()V" } : Jvm.MethodName) ∈ aWd := aWd_1 (List.mem_of_getElem? (i := 237) rfl) rfl
theorem wd_1_238 : Jvm.Cond.code ({ cls := "ReadAloud$Page", name := "clear", desc := "()V" } : Jvm.MethodName) prog_7_method_5_code (1 : Nat) (Option.none : Option Jvm.ClassFile.FieldType) ∈ aWd := aWd_1 (List.mem_of_getElem? (i := 238) rfl) rfl
theorem wd_1_239 : Jvm.Cond.methodLink "ReadAloud" (82 : Nat) ({ cls := "ReadAloud$Sheet", name := "size", desc := "()I" } : Jvm.MethodName) ∈ aWd := aWd_1 (List.mem_of_getElem? (i := 239) rfl) rfl
theorem wd_2_0 : Jvm.Cond.instanceMethod ({ cls := "ReadAloud$Sheet", name := "size", desc := "()I" } : Jvm.MethodName) ∈ aWd := aWd_2 (List.mem_of_getElem? (i := 0) rfl) rfl
theorem wd_2_1 : Jvm.Cond.selects "ReadAloud$Sheet" ({ cls := "ReadAloud$Sheet", name := "size", desc := "()I" } : Jvm.MethodName) ({ cls := "ReadAloud$Sheet", name := "size", desc := "()I" } : Jvm.MethodName) ∈ aWd := aWd_2 (List.mem_of_getElem? (i := 1) rfl) rfl
theorem wd_2_2 : Jvm.Cond.code ({ cls := "ReadAloud$Sheet", name := "size", desc := "()I" } : Jvm.MethodName) prog_8_method_2_code (1 : Nat) (Option.some Jvm.ClassFile.FieldType.int) ∈ aWd := aWd_2 (List.mem_of_getElem? (i := 2) rfl) rfl
theorem wd_2_3 : Jvm.Cond.methodLink "ReadAloudLaw" (35 : Nat) ({ cls := "ReadAloud", name := "near", desc := "(I)I" } : Jvm.MethodName) ∈ aWd := aWd_2 (List.mem_of_getElem? (i := 3) rfl) rfl
theorem wd_2_4 : Jvm.Cond.instanceMethod ({ cls := "ReadAloud", name := "near", desc := "(I)I" } : Jvm.MethodName) ∈ aWd := aWd_2 (List.mem_of_getElem? (i := 4) rfl) rfl
theorem wd_2_5 : Jvm.Cond.selects "ReadAloud" ({ cls := "ReadAloud", name := "near", desc := "(I)I" } : Jvm.MethodName) ({ cls := "ReadAloud", name := "near", desc := "(I)I" } : Jvm.MethodName) ∈ aWd := aWd_2 (List.mem_of_getElem? (i := 5) rfl) rfl
theorem wd_2_6 : Jvm.Cond.code ({ cls := "ReadAloud", name := "near", desc := "(I)I" } : Jvm.MethodName) prog_1_method_6_code (2 : Nat) (Option.some Jvm.ClassFile.FieldType.int) ∈ aWd := aWd_2 (List.mem_of_getElem? (i := 6) rfl) rfl
theorem wd_2_7 : Jvm.Cond.methodLink "ReadAloud" (83 : Nat) ({ cls := "ReadAloud", name := "hasCourt", desc := "()Z" } : Jvm.MethodName) ∈ aWd := aWd_2 (List.mem_of_getElem? (i := 7) rfl) rfl
theorem wd_2_9 : Jvm.Cond.instanceMethod ({ cls := "ReadAloud", name := "hasCourt", desc := "()Z" } : Jvm.MethodName) ∈ aWd := aWd_2 (List.mem_of_getElem? (i := 9) rfl) rfl
theorem wd_2_10 : Jvm.Cond.code ({ cls := "ReadAloud", name := "hasCourt", desc := "()Z" } : Jvm.MethodName) prog_1_method_24_code (1 : Nat) (Option.some Jvm.ClassFile.FieldType.boolean) ∈ aWd := aWd_2 (List.mem_of_getElem? (i := 10) rfl) rfl
theorem wd_2_11 : Jvm.Cond.methodLink "ReadAloudLaw" (38 : Nat) ({ cls := "ReadAloud", name := "word", desc := "(I)I" } : Jvm.MethodName) ∈ aWd := aWd_2 (List.mem_of_getElem? (i := 11) rfl) rfl
theorem wd_2_12 : Jvm.Cond.instanceMethod ({ cls := "ReadAloud", name := "word", desc := "(I)I" } : Jvm.MethodName) ∈ aWd := aWd_2 (List.mem_of_getElem? (i := 12) rfl) rfl
theorem wd_2_13 : Jvm.Cond.selects "ReadAloud" ({ cls := "ReadAloud", name := "word", desc := "(I)I" } : Jvm.MethodName) ({ cls := "ReadAloud", name := "word", desc := "(I)I" } : Jvm.MethodName) ∈ aWd := aWd_2 (List.mem_of_getElem? (i := 13) rfl) rfl
theorem wd_2_14 : Jvm.Cond.code ({ cls := "ReadAloud", name := "word", desc := "(I)I" } : Jvm.MethodName) prog_1_method_7_code (2 : Nat) (Option.some Jvm.ClassFile.FieldType.int) ∈ aWd := aWd_2 (List.mem_of_getElem? (i := 14) rfl) rfl
theorem wd_2_15 : Jvm.Cond.methodLink "ReadAloud" (86 : Nat) ({ cls := "ReadAloud$Sheet", name := "has", desc := "(I)Z" } : Jvm.MethodName) ∈ aWd := aWd_2 (List.mem_of_getElem? (i := 15) rfl) rfl
theorem wd_2_16 : Jvm.Cond.instanceMethod ({ cls := "ReadAloud$Sheet", name := "has", desc := "(I)Z" } : Jvm.MethodName) ∈ aWd := aWd_2 (List.mem_of_getElem? (i := 16) rfl) rfl
theorem wd_2_17 : Jvm.Cond.selects "ReadAloud$Sheet" ({ cls := "ReadAloud$Sheet", name := "has", desc := "(I)Z" } : Jvm.MethodName) ({ cls := "ReadAloud$Sheet", name := "has", desc := "(I)Z" } : Jvm.MethodName) ∈ aWd := aWd_2 (List.mem_of_getElem? (i := 17) rfl) rfl
theorem wd_2_18 : Jvm.Cond.code ({ cls := "ReadAloud$Sheet", name := "has", desc := "(I)Z" } : Jvm.MethodName) prog_8_method_3_code (2 : Nat) (Option.some Jvm.ClassFile.FieldType.boolean) ∈ aWd := aWd_2 (List.mem_of_getElem? (i := 18) rfl) rfl
theorem wd_2_19 : Jvm.Cond.methodLink "ReadAloud" (89 : Nat) ({ cls := "ReadAloud$Sheet", name := "at", desc := "(I)I" } : Jvm.MethodName) ∈ aWd := aWd_2 (List.mem_of_getElem? (i := 19) rfl) rfl
theorem wd_2_20 : Jvm.Cond.instanceMethod ({ cls := "ReadAloud$Sheet", name := "at", desc := "(I)I" } : Jvm.MethodName) ∈ aWd := aWd_2 (List.mem_of_getElem? (i := 20) rfl) rfl
theorem wd_2_21 : Jvm.Cond.selects "ReadAloud$Sheet" ({ cls := "ReadAloud$Sheet", name := "at", desc := "(I)I" } : Jvm.MethodName) ({ cls := "ReadAloud$Sheet", name := "at", desc := "(I)I" } : Jvm.MethodName) ∈ aWd := aWd_2 (List.mem_of_getElem? (i := 21) rfl) rfl
theorem wd_2_22 : Jvm.Cond.code ({ cls := "ReadAloud$Sheet", name := "at", desc := "(I)I" } : Jvm.MethodName) prog_8_method_4_code (2 : Nat) (Option.some Jvm.ClassFile.FieldType.int) ∈ aWd := aWd_2 (List.mem_of_getElem? (i := 22) rfl) rfl
theorem wd_2_23 : Jvm.Cond.methodLink "ReadAloud$Sheet" (19 : Nat) ({ cls := "ReadAloud$Sheet", name := "has", desc := "(I)Z" } : Jvm.MethodName) ∈ aWd := aWd_2 (List.mem_of_getElem? (i := 23) rfl) rfl
theorem wd_2_24 : Jvm.Cond.methodLink "ReadAloudLaw" (54 : Nat) ({ cls := "ReadAloud", name := "put", desc := "(II)I" } : Jvm.MethodName) ∈ aWd := aWd_2 (List.mem_of_getElem? (i := 24) rfl) rfl
theorem wd_2_25 : Jvm.Cond.instanceMethod ({ cls := "ReadAloud", name := "put", desc := "(II)I" } : Jvm.MethodName) ∈ aWd := aWd_2 (List.mem_of_getElem? (i := 25) rfl) rfl
theorem wd_2_26 : Jvm.Cond.selects "ReadAloud" ({ cls := "ReadAloud", name := "put", desc := "(II)I" } : Jvm.MethodName) ({ cls := "ReadAloud", name := "put", desc := "(II)I" } : Jvm.MethodName) ∈ aWd := aWd_2 (List.mem_of_getElem? (i := 26) rfl) rfl
theorem wd_2_27 : Jvm.Cond.code ({ cls := "ReadAloud", name := "put", desc := "(II)I" } : Jvm.MethodName) prog_1_method_8_code (4 : Nat) (Option.some Jvm.ClassFile.FieldType.int) ∈ aWd := aWd_2 (List.mem_of_getElem? (i := 27) rfl) rfl
theorem wd_2_28 : Jvm.Cond.methodLink "ReadAloud" (96 : Nat) ({ cls := "ReadAloud$Sheet", name := "set", desc := "(II)V" } : Jvm.MethodName) ∈ aWd := aWd_2 (List.mem_of_getElem? (i := 28) rfl) rfl
theorem wd_2_29 : Jvm.Cond.instanceMethod ({ cls := "ReadAloud$Sheet", name := "set", desc := "(II)V" } : Jvm.MethodName) ∈ aWd := aWd_2 (List.mem_of_getElem? (i := 29) rfl) rfl
theorem wd_2_30 : Jvm.Cond.selects "ReadAloud$Sheet" ({ cls := "ReadAloud$Sheet", name := "set", desc := "(II)V" } : Jvm.MethodName) ({ cls := "ReadAloud$Sheet", name := "set", desc := "(II)V" } : Jvm.MethodName) ∈ aWd := aWd_2 (List.mem_of_getElem? (i := 30) rfl) rfl
theorem wd_2_31 : Jvm.Cond.code ({ cls := "ReadAloud$Sheet", name := "set", desc := "(II)V" } : Jvm.MethodName) prog_8_method_5_code (3 : Nat) (Option.none : Option Jvm.ClassFile.FieldType) ∈ aWd := aWd_2 (List.mem_of_getElem? (i := 31) rfl) rfl
theorem wd_2_32 : Jvm.Cond.methodLink "ReadAloudLaw" (57 : Nat) ({ cls := "ReadAloud", name := "limit", desc := "(I)I" } : Jvm.MethodName) ∈ aWd := aWd_2 (List.mem_of_getElem? (i := 32) rfl) rfl
theorem wd_2_33 : Jvm.Cond.instanceMethod ({ cls := "ReadAloud", name := "limit", desc := "(I)I" } : Jvm.MethodName) ∈ aWd := aWd_2 (List.mem_of_getElem? (i := 33) rfl) rfl
theorem wd_2_34 : Jvm.Cond.selects "ReadAloud" ({ cls := "ReadAloud", name := "limit", desc := "(I)I" } : Jvm.MethodName) ({ cls := "ReadAloud", name := "limit", desc := "(I)I" } : Jvm.MethodName) ∈ aWd := aWd_2 (List.mem_of_getElem? (i := 34) rfl) rfl
theorem wd_2_35 : Jvm.Cond.code ({ cls := "ReadAloud", name := "limit", desc := "(I)I" } : Jvm.MethodName) prog_1_method_9_code (3 : Nat) (Option.some Jvm.ClassFile.FieldType.int) ∈ aWd := aWd_2 (List.mem_of_getElem? (i := 35) rfl) rfl
theorem wd_2_36 : Jvm.Cond.methodLink "ReadAloudLaw" (28 : Nat) ({ cls := "ReadAloud", name := "accuse", desc := "(II)I" } : Jvm.MethodName) ∈ aWd := aWd_2 (List.mem_of_getElem? (i := 36) rfl) rfl
theorem wd_2_37 : Jvm.Cond.instanceMethod ({ cls := "ReadAloud", name := "accuse", desc := "(II)I" } : Jvm.MethodName) ∈ aWd := aWd_2 (List.mem_of_getElem? (i := 37) rfl) rfl
theorem wd_2_38 : Jvm.Cond.selects "ReadAloud" ({ cls := "ReadAloud", name := "accuse", desc := "(II)I" } : Jvm.MethodName) ({ cls := "ReadAloud", name := "accuse", desc := "(II)I" } : Jvm.MethodName) ∈ aWd := aWd_2 (List.mem_of_getElem? (i := 38) rfl) rfl
theorem wd_2_39 : Jvm.Cond.code ({ cls := "ReadAloud", name := "accuse", desc := "(II)I" } : Jvm.MethodName) prog_1_method_10_code (4 : Nat) (Option.some Jvm.ClassFile.FieldType.int) ∈ aWd := aWd_2 (List.mem_of_getElem? (i := 39) rfl) rfl
theorem wd_2_40 : Jvm.Cond.methodLink "ReadAloud" (106 : Nat) ({ cls := "ReadAloud", name := "isKind", desc := "(I)Z" } : Jvm.MethodName) ∈ aWd := aWd_2 (List.mem_of_getElem? (i := 40) rfl) rfl
theorem wd_2_41 : Jvm.Cond.static ({ cls := "ReadAloud", name := "isKind", desc := "(I)Z" } : Jvm.MethodName) ∈ aWd := aWd_2 (List.mem_of_getElem? (i := 41) rfl) rfl
theorem wd_2_42 : Jvm.Cond.code ({ cls := "ReadAloud", name := "isKind", desc := "(I)Z" } : Jvm.MethodName) prog_1_method_27_code (1 : Nat) (Option.some Jvm.ClassFile.FieldType.boolean) ∈ aWd := aWd_2 (List.mem_of_getElem? (i := 42) rfl) rfl
theorem wd_2_43 : Jvm.Cond.methodLink "ReadAloud" (111 : Nat) ({ cls := "ReadAloud", name := "manOfKind", desc := "(II)LReadAloud$Man;" } : Jvm.MethodName) ∈ aWd := aWd_2 (List.mem_of_getElem? (i := 43) rfl) rfl
theorem wd_2_44 : Jvm.Cond.static ({ cls := "ReadAloud", name := "manOfKind", desc := "(II)LReadAloud$Man;" } : Jvm.MethodName) ∈ aWd := aWd_2 (List.mem_of_getElem? (i := 44) rfl) rfl
theorem wd_2_45 : Jvm.Cond.code ({ cls := "ReadAloud", name := "manOfKind", desc := "(II)LReadAloud$Man;" } : Jvm.MethodName) prog_1_method_31_code (2 : Nat) (Option.some (Jvm.ClassFile.FieldType.object "ReadAloud$Man")) ∈ aWd := aWd_2 (List.mem_of_getElem? (i := 45) rfl) rfl
theorem wd_2_46 : Jvm.Cond.classLink "ReadAloud" (226 : Nat) "ReadAloud$Stammerer" ∈ aWd := aWd_2 (List.mem_of_getElem? (i := 46) rfl) rfl
theorem wd_2_47 : Jvm.Cond.instantiable "ReadAloud$Stammerer" (1 : Nat) ∈ aWd := aWd_2 (List.mem_of_getElem? (i := 47) rfl) rfl
theorem wd_2_48 : Jvm.Cond.methodLink "ReadAloud" (228 : Nat) ({ cls := "ReadAloud$Stammerer", name := "<init>", desc := "(I)V" } : Jvm.MethodName) ∈ aWd := aWd_2 (List.mem_of_getElem? (i := 48) rfl) rfl
theorem wd_2_49 : Jvm.Cond.instanceMethod ({ cls := "ReadAloud$Stammerer", name := "<init>", desc := "(I)V" } : Jvm.MethodName) ∈ aWd := aWd_2 (List.mem_of_getElem? (i := 49) rfl) rfl
theorem wd_2_50 : Jvm.Cond.code ({ cls := "ReadAloud$Stammerer", name := "<init>", desc := "(I)V" } : Jvm.MethodName) prog_9_method_1_code (2 : Nat) (Option.none : Option Jvm.ClassFile.FieldType) ∈ aWd := aWd_2 (List.mem_of_getElem? (i := 50) rfl) rfl
theorem wd_2_51 : Jvm.Cond.methodLink "ReadAloud$Stammerer" (1 : Nat) ({ cls := "ReadAloud$Man", name := "<init>", desc := "(I)V" } : Jvm.MethodName) ∈ aWd := aWd_2 (List.mem_of_getElem? (i := 51) rfl) rfl
theorem wd_2_52 : Jvm.Cond.instanceMethod ({ cls := "ReadAloud$Man", name := "<init>", desc := "(I)V" } : Jvm.MethodName) ∈ aWd := aWd_2 (List.mem_of_getElem? (i := 52) rfl) rfl
theorem wd_2_53 : Jvm.Cond.code ({ cls := "ReadAloud$Man", name := "<init>", desc := "(I)V" } : Jvm.MethodName) prog_6_method_1_code (2 : Nat) (Option.none : Option Jvm.ClassFile.FieldType) ∈ aWd := aWd_2 (List.mem_of_getElem? (i := 53) rfl) rfl
theorem wd_2_54 : Jvm.Cond.methodLink "ReadAloud$Man" (1 : Nat) ({ cls := "java/lang/Object", name := "<init>", desc := "()V" } : Jvm.MethodName) ∈ aWd := aWd_2 (List.mem_of_getElem? (i := 54) rfl) rfl
theorem wd_2_55 : Jvm.Cond.fieldLink "ReadAloud$Man" (7 : Nat) "ReadAloud$Man" "deed" "I" ∈ aWd := aWd_2 (List.mem_of_getElem? (i := 55) rfl) rfl
theorem wd_2_56 : Jvm.Cond.laysFinal "ReadAloud$Stammerer" "ReadAloud$Man" "deed" "I" ∈ aWd := aWd_2 (List.mem_of_getElem? (i := 56) rfl) rfl
theorem wd_2_59 : Jvm.Cond.classLink "ReadAloud" (231 : Nat) "ReadAloud$Actor" ∈ aWd := aWd_2 (List.mem_of_getElem? (i := 59) rfl) rfl
theorem wd_2_60 : Jvm.Cond.instantiable "ReadAloud$Actor" (1 : Nat) ∈ aWd := aWd_2 (List.mem_of_getElem? (i := 60) rfl) rfl
theorem wd_2_61 : Jvm.Cond.methodLink "ReadAloud" (233 : Nat) ({ cls := "ReadAloud$Actor", name := "<init>", desc := "(I)V" } : Jvm.MethodName) ∈ aWd := aWd_2 (List.mem_of_getElem? (i := 61) rfl) rfl
theorem wd_2_62 : Jvm.Cond.instanceMethod ({ cls := "ReadAloud$Actor", name := "<init>", desc := "(I)V" } : Jvm.MethodName) ∈ aWd := aWd_2 (List.mem_of_getElem? (i := 62) rfl) rfl
theorem wd_2_63 : Jvm.Cond.code ({ cls := "ReadAloud$Actor", name := "<init>", desc := "(I)V" } : Jvm.MethodName) prog_2_method_1_code (2 : Nat) (Option.none : Option Jvm.ClassFile.FieldType) ∈ aWd := aWd_2 (List.mem_of_getElem? (i := 63) rfl) rfl
theorem wd_2_64 : Jvm.Cond.methodLink "ReadAloud$Actor" (1 : Nat) ({ cls := "ReadAloud$Man", name := "<init>", desc := "(I)V" } : Jvm.MethodName) ∈ aWd := aWd_2 (List.mem_of_getElem? (i := 64) rfl) rfl
theorem wd_2_65 : Jvm.Cond.laysFinal "ReadAloud$Actor" "ReadAloud$Man" "deed" "I" ∈ aWd := aWd_2 (List.mem_of_getElem? (i := 65) rfl) rfl
theorem wd_2_67 : Jvm.Cond.classLink "ReadAloud" (234 : Nat) "ReadAloud$Boy" ∈ aWd := aWd_2 (List.mem_of_getElem? (i := 67) rfl) rfl
theorem wd_2_68 : Jvm.Cond.instantiable "ReadAloud$Boy" (1 : Nat) ∈ aWd := aWd_2 (List.mem_of_getElem? (i := 68) rfl) rfl
theorem wd_2_69 : Jvm.Cond.methodLink "ReadAloud" (236 : Nat) ({ cls := "ReadAloud$Boy", name := "<init>", desc := "(I)V" } : Jvm.MethodName) ∈ aWd := aWd_2 (List.mem_of_getElem? (i := 69) rfl) rfl
theorem wd_2_70 : Jvm.Cond.instanceMethod ({ cls := "ReadAloud$Boy", name := "<init>", desc := "(I)V" } : Jvm.MethodName) ∈ aWd := aWd_2 (List.mem_of_getElem? (i := 70) rfl) rfl
theorem wd_2_71 : Jvm.Cond.code ({ cls := "ReadAloud$Boy", name := "<init>", desc := "(I)V" } : Jvm.MethodName) prog_3_method_1_code (2 : Nat) (Option.none : Option Jvm.ClassFile.FieldType) ∈ aWd := aWd_2 (List.mem_of_getElem? (i := 71) rfl) rfl
theorem wd_2_72 : Jvm.Cond.methodLink "ReadAloud$Boy" (1 : Nat) ({ cls := "ReadAloud$Man", name := "<init>", desc := "(I)V" } : Jvm.MethodName) ∈ aWd := aWd_2 (List.mem_of_getElem? (i := 72) rfl) rfl
theorem wd_2_73 : Jvm.Cond.laysFinal "ReadAloud$Boy" "ReadAloud$Man" "deed" "I" ∈ aWd := aWd_2 (List.mem_of_getElem? (i := 73) rfl) rfl
theorem wd_2_75 : Jvm.Cond.classLink "ReadAloud" (237 : Nat) "ReadAloud$Weeper" ∈ aWd := aWd_2 (List.mem_of_getElem? (i := 75) rfl) rfl
theorem wd_2_76 : Jvm.Cond.instantiable "ReadAloud$Weeper" (1 : Nat) ∈ aWd := aWd_2 (List.mem_of_getElem? (i := 76) rfl) rfl
theorem wd_2_77 : Jvm.Cond.methodLink "ReadAloud" (239 : Nat) ({ cls := "ReadAloud$Weeper", name := "<init>", desc := "(I)V" } : Jvm.MethodName) ∈ aWd := aWd_2 (List.mem_of_getElem? (i := 77) rfl) rfl
theorem wd_2_78 : Jvm.Cond.instanceMethod ({ cls := "ReadAloud$Weeper", name := "<init>", desc := "(I)V" } : Jvm.MethodName) ∈ aWd := aWd_2 (List.mem_of_getElem? (i := 78) rfl) rfl
theorem wd_2_79 : Jvm.Cond.code ({ cls := "ReadAloud$Weeper", name := "<init>", desc := "(I)V" } : Jvm.MethodName) prog_12_method_1_code (2 : Nat) (Option.none : Option Jvm.ClassFile.FieldType) ∈ aWd := aWd_2 (List.mem_of_getElem? (i := 79) rfl) rfl
theorem wd_2_80 : Jvm.Cond.methodLink "ReadAloud$Weeper" (1 : Nat) ({ cls := "ReadAloud$Stammerer", name := "<init>", desc := "(I)V" } : Jvm.MethodName) ∈ aWd := aWd_2 (List.mem_of_getElem? (i := 80) rfl) rfl
theorem wd_2_81 : Jvm.Cond.laysFinal "ReadAloud$Weeper" "ReadAloud$Man" "deed" "I" ∈ aWd := aWd_2 (List.mem_of_getElem? (i := 81) rfl) rfl
theorem wd_2_82 : Jvm.Cond.superclass "ReadAloud$Weeper" "ReadAloud$Stammerer" ∈ aWd := aWd_2 (List.mem_of_getElem? (i := 82) rfl) rfl
theorem wd_2_83 : Jvm.Cond.instantiable "ReadAloud$Man" (1 : Nat) ∈ aWd := aWd_2 (List.mem_of_getElem? (i := 83) rfl) rfl
theorem wd_2_84 : Jvm.Cond.methodLink "ReadAloud" (240 : Nat) ({ cls := "ReadAloud$Man", name := "<init>", desc := "(I)V" } : Jvm.MethodName) ∈ aWd := aWd_2 (List.mem_of_getElem? (i := 84) rfl) rfl
theorem wd_2_85 : Jvm.Cond.laysFinal "ReadAloud$Man" "ReadAloud$Man" "deed" "I" ∈ aWd := aWd_2 (List.mem_of_getElem? (i := 85) rfl) rfl
theorem wd_2_87 : Jvm.Cond.methodLink "ReadAloudLaw" (48 : Nat) ({ cls := "ReadAloud", name := "about", desc := "(II)I" } : Jvm.MethodName) ∈ aWd := aWd_2 (List.mem_of_getElem? (i := 87) rfl) rfl
theorem wd_2_88 : Jvm.Cond.instanceMethod ({ cls := "ReadAloud", name := "about", desc := "(II)I" } : Jvm.MethodName) ∈ aWd := aWd_2 (List.mem_of_getElem? (i := 88) rfl) rfl
theorem wd_2_89 : Jvm.Cond.selects "ReadAloud" ({ cls := "ReadAloud", name := "about", desc := "(II)I" } : Jvm.MethodName) ({ cls := "ReadAloud", name := "about", desc := "(II)I" } : Jvm.MethodName) ∈ aWd := aWd_2 (List.mem_of_getElem? (i := 89) rfl) rfl
theorem wd_2_90 : Jvm.Cond.code ({ cls := "ReadAloud", name := "about", desc := "(II)I" } : Jvm.MethodName) prog_1_method_11_code (4 : Nat) (Option.some Jvm.ClassFile.FieldType.int) ∈ aWd := aWd_2 (List.mem_of_getElem? (i := 90) rfl) rfl
theorem wd_2_91 : Jvm.Cond.methodLink "ReadAloud" (118 : Nat) ({ cls := "ReadAloud", name := "manOf", desc := "(I)LReadAloud$Man;" } : Jvm.MethodName) ∈ aWd := aWd_2 (List.mem_of_getElem? (i := 91) rfl) rfl
theorem wd_2_93 : Jvm.Cond.instanceMethod ({ cls := "ReadAloud", name := "manOf", desc := "(I)LReadAloud$Man;" } : Jvm.MethodName) ∈ aWd := aWd_2 (List.mem_of_getElem? (i := 93) rfl) rfl
theorem wd_2_94 : Jvm.Cond.code ({ cls := "ReadAloud", name := "manOf", desc := "(I)LReadAloud$Man;" } : Jvm.MethodName) prog_1_method_28_code (2 : Nat) (Option.some (Jvm.ClassFile.FieldType.object "ReadAloud$Man")) ∈ aWd := aWd_2 (List.mem_of_getElem? (i := 94) rfl) rfl
theorem wd_2_95 : Jvm.Cond.methodLink "ReadAloud" (156 : Nat) ({ cls := "ReadAloud", name := "isAccused", desc := "(I)Z" } : Jvm.MethodName) ∈ aWd := aWd_2 (List.mem_of_getElem? (i := 95) rfl) rfl
theorem wd_2_97 : Jvm.Cond.instanceMethod ({ cls := "ReadAloud", name := "isAccused", desc := "(I)Z" } : Jvm.MethodName) ∈ aWd := aWd_2 (List.mem_of_getElem? (i := 97) rfl) rfl
theorem wd_2_98 : Jvm.Cond.code ({ cls := "ReadAloud", name := "isAccused", desc := "(I)Z" } : Jvm.MethodName) prog_1_method_25_code (2 : Nat) (Option.some Jvm.ClassFile.FieldType.boolean) ∈ aWd := aWd_2 (List.mem_of_getElem? (i := 98) rfl) rfl
theorem wd_2_99 : Jvm.Cond.methodLink "ReadAloud" (122 : Nat) ({ cls := "ReadAloud$Man", name := "kind", desc := "()I" } : Jvm.MethodName) ∈ aWd := aWd_2 (List.mem_of_getElem? (i := 99) rfl) rfl
theorem wd_2_100 : Jvm.Cond.instanceMethod ({ cls := "ReadAloud$Man", name := "kind", desc := "()I" } : Jvm.MethodName) ∈ aWd := aWd_2 (List.mem_of_getElem? (i := 100) rfl) rfl
theorem wd_2_101 : Jvm.Cond.selects "ReadAloud$Man" ({ cls := "ReadAloud$Man", name := "kind", desc := "()I" } : Jvm.MethodName) ({ cls := "ReadAloud$Man", name := "kind", desc := "()I" } : Jvm.MethodName) ∈ aWd := aWd_2 (List.mem_of_getElem? (i := 101) rfl) rfl
theorem wd_2_102 : Jvm.Cond.sameMethod "ReadAloud$Man" "ReadAloud$Man" "kind" "()I" ∈ aWd := aWd_2 (List.mem_of_getElem? (i := 102) rfl) rfl
theorem wd_2_103 : Jvm.Cond.selects "ReadAloud$Actor" ({ cls := "ReadAloud$Man", name := "kind", desc := "()I" } : Jvm.MethodName) ({ cls := "ReadAloud$Actor", name := "kind", desc := "()I" } : Jvm.MethodName) ∈ aWd := aWd_2 (List.mem_of_getElem? (i := 103) rfl) rfl
theorem wd_2_104 : Jvm.Cond.instanceMethod ({ cls := "ReadAloud$Actor", name := "kind", desc := "()I" } : Jvm.MethodName) ∈ aWd := aWd_2 (List.mem_of_getElem? (i := 104) rfl) rfl
theorem wd_2_105 : Jvm.Cond.code ({ cls := "ReadAloud$Actor", name := "kind", desc := "()I" } : Jvm.MethodName) prog_2_method_2_code (1 : Nat) (Option.some Jvm.ClassFile.FieldType.int) ∈ aWd := aWd_2 (List.mem_of_getElem? (i := 105) rfl) rfl
theorem wd_2_106 : Jvm.Cond.selects "ReadAloud$Boy" ({ cls := "ReadAloud$Man", name := "kind", desc := "()I" } : Jvm.MethodName) ({ cls := "ReadAloud$Boy", name := "kind", desc := "()I" } : Jvm.MethodName) ∈ aWd := aWd_2 (List.mem_of_getElem? (i := 106) rfl) rfl
theorem wd_2_107 : Jvm.Cond.instanceMethod ({ cls := "ReadAloud$Boy", name := "kind", desc := "()I" } : Jvm.MethodName) ∈ aWd := aWd_2 (List.mem_of_getElem? (i := 107) rfl) rfl
theorem wd_2_108 : Jvm.Cond.code ({ cls := "ReadAloud$Boy", name := "kind", desc := "()I" } : Jvm.MethodName) prog_3_method_2_code (1 : Nat) (Option.some Jvm.ClassFile.FieldType.int) ∈ aWd := aWd_2 (List.mem_of_getElem? (i := 108) rfl) rfl
theorem wd_2_109 : Jvm.Cond.selects "ReadAloud$Stammerer" ({ cls := "ReadAloud$Man", name := "kind", desc := "()I" } : Jvm.MethodName) ({ cls := "ReadAloud$Stammerer", name := "kind", desc := "()I" } : Jvm.MethodName) ∈ aWd := aWd_2 (List.mem_of_getElem? (i := 109) rfl) rfl
theorem wd_2_110 : Jvm.Cond.instanceMethod ({ cls := "ReadAloud$Stammerer", name := "kind", desc := "()I" } : Jvm.MethodName) ∈ aWd := aWd_2 (List.mem_of_getElem? (i := 110) rfl) rfl
theorem wd_2_111 : Jvm.Cond.code ({ cls := "ReadAloud$Stammerer", name := "kind", desc := "()I" } : Jvm.MethodName) prog_9_method_2_code (1 : Nat) (Option.some Jvm.ClassFile.FieldType.int) ∈ aWd := aWd_2 (List.mem_of_getElem? (i := 111) rfl) rfl
theorem wd_2_112 : Jvm.Cond.selects "ReadAloud$Weeper" ({ cls := "ReadAloud$Man", name := "kind", desc := "()I" } : Jvm.MethodName) ({ cls := "ReadAloud$Weeper", name := "kind", desc := "()I" } : Jvm.MethodName) ∈ aWd := aWd_2 (List.mem_of_getElem? (i := 112) rfl) rfl
theorem wd_2_113 : Jvm.Cond.instanceMethod ({ cls := "ReadAloud$Weeper", name := "kind", desc := "()I" } : Jvm.MethodName) ∈ aWd := aWd_2 (List.mem_of_getElem? (i := 113) rfl) rfl
theorem wd_2_114 : Jvm.Cond.code ({ cls := "ReadAloud$Weeper", name := "kind", desc := "()I" } : Jvm.MethodName) prog_12_method_2_code (1 : Nat) (Option.some Jvm.ClassFile.FieldType.int) ∈ aWd := aWd_2 (List.mem_of_getElem? (i := 114) rfl) rfl
theorem wd_2_115 : Jvm.Cond.code ({ cls := "ReadAloud$Man", name := "kind", desc := "()I" } : Jvm.MethodName) prog_6_method_3_code (1 : Nat) (Option.some Jvm.ClassFile.FieldType.int) ∈ aWd := aWd_2 (List.mem_of_getElem? (i := 115) rfl) rfl
theorem wd_2_116 : Jvm.Cond.methodLink "ReadAloud" (125 : Nat) ({ cls := "ReadAloud$Man", name := "deed", desc := "()I" } : Jvm.MethodName) ∈ aWd := aWd_2 (List.mem_of_getElem? (i := 116) rfl) rfl
theorem wd_2_117 : Jvm.Cond.instanceMethod ({ cls := "ReadAloud$Man", name := "deed", desc := "()I" } : Jvm.MethodName) ∈ aWd := aWd_2 (List.mem_of_getElem? (i := 117) rfl) rfl
theorem wd_2_118 : Jvm.Cond.selects "ReadAloud$Man" ({ cls := "ReadAloud$Man", name := "deed", desc := "()I" } : Jvm.MethodName) ({ cls := "ReadAloud$Man", name := "deed", desc := "()I" } : Jvm.MethodName) ∈ aWd := aWd_2 (List.mem_of_getElem? (i := 118) rfl) rfl
theorem wd_2_119 : Jvm.Cond.sameMethod "ReadAloud$Man" "ReadAloud$Man" "deed" "()I" ∈ aWd := aWd_2 (List.mem_of_getElem? (i := 119) rfl) rfl
theorem wd_2_120 : Jvm.Cond.selects "ReadAloud$Actor" ({ cls := "ReadAloud$Man", name := "deed", desc := "()I" } : Jvm.MethodName) ({ cls := "ReadAloud$Man", name := "deed", desc := "()I" } : Jvm.MethodName) ∈ aWd := aWd_2 (List.mem_of_getElem? (i := 120) rfl) rfl
theorem wd_2_121 : Jvm.Cond.selects "ReadAloud$Boy" ({ cls := "ReadAloud$Man", name := "deed", desc := "()I" } : Jvm.MethodName) ({ cls := "ReadAloud$Man", name := "deed", desc := "()I" } : Jvm.MethodName) ∈ aWd := aWd_2 (List.mem_of_getElem? (i := 121) rfl) rfl
theorem wd_2_122 : Jvm.Cond.selects "ReadAloud$Stammerer" ({ cls := "ReadAloud$Man", name := "deed", desc := "()I" } : Jvm.MethodName) ({ cls := "ReadAloud$Man", name := "deed", desc := "()I" } : Jvm.MethodName) ∈ aWd := aWd_2 (List.mem_of_getElem? (i := 122) rfl) rfl
theorem wd_2_123 : Jvm.Cond.selects "ReadAloud$Weeper" ({ cls := "ReadAloud$Man", name := "deed", desc := "()I" } : Jvm.MethodName) ({ cls := "ReadAloud$Man", name := "deed", desc := "()I" } : Jvm.MethodName) ∈ aWd := aWd_2 (List.mem_of_getElem? (i := 123) rfl) rfl
theorem wd_2_124 : Jvm.Cond.code ({ cls := "ReadAloud$Man", name := "deed", desc := "()I" } : Jvm.MethodName) prog_6_method_2_code (1 : Nat) (Option.some Jvm.ClassFile.FieldType.int) ∈ aWd := aWd_2 (List.mem_of_getElem? (i := 124) rfl) rfl
theorem wd_2_125 : Jvm.Cond.methodLink "ReadAloud" (128 : Nat) ({ cls := "ReadAloud", name := "alteredBy", desc := "(ILReadAloud$Sheet;)I" } : Jvm.MethodName) ∈ aWd := aWd_2 (List.mem_of_getElem? (i := 125) rfl) rfl
theorem wd_2_127 : Jvm.Cond.instanceMethod ({ cls := "ReadAloud", name := "alteredBy", desc := "(ILReadAloud$Sheet;)I" } : Jvm.MethodName) ∈ aWd := aWd_2 (List.mem_of_getElem? (i := 127) rfl) rfl
theorem wd_2_128 : Jvm.Cond.code ({ cls := "ReadAloud", name := "alteredBy", desc := "(ILReadAloud$Sheet;)I" } : Jvm.MethodName) prog_1_method_35_code (3 : Nat) (Option.some Jvm.ClassFile.FieldType.int) ∈ aWd := aWd_2 (List.mem_of_getElem? (i := 128) rfl) rfl
theorem wd_2_129 : Jvm.Cond.methodLink "ReadAloud" (168 : Nat) ({ cls := "ReadAloud", name := "deedOf", desc := "(I)I" } : Jvm.MethodName) ∈ aWd := aWd_2 (List.mem_of_getElem? (i := 129) rfl) rfl
theorem wd_2_131 : Jvm.Cond.instanceMethod ({ cls := "ReadAloud", name := "deedOf", desc := "(I)I" } : Jvm.MethodName) ∈ aWd := aWd_2 (List.mem_of_getElem? (i := 131) rfl) rfl
theorem wd_2_132 : Jvm.Cond.code ({ cls := "ReadAloud", name := "deedOf", desc := "(I)I" } : Jvm.MethodName) prog_1_method_29_code (3 : Nat) (Option.some Jvm.ClassFile.FieldType.int) ∈ aWd := aWd_2 (List.mem_of_getElem? (i := 132) rfl) rfl
theorem wd_2_133 : Jvm.Cond.methodLink "ReadAloud" (137 : Nat) ({ cls := "ReadAloud", name := "hiddenBy", desc := "(I)I" } : Jvm.MethodName) ∈ aWd := aWd_2 (List.mem_of_getElem? (i := 133) rfl) rfl
theorem wd_2_135 : Jvm.Cond.instanceMethod ({ cls := "ReadAloud", name := "hiddenBy", desc := "(I)I" } : Jvm.MethodName) ∈ aWd := aWd_2 (List.mem_of_getElem? (i := 135) rfl) rfl
theorem wd_2_136 : Jvm.Cond.code ({ cls := "ReadAloud", name := "hiddenBy", desc := "(I)I" } : Jvm.MethodName) prog_1_method_30_code (2 : Nat) (Option.some Jvm.ClassFile.FieldType.int) ∈ aWd := aWd_2 (List.mem_of_getElem? (i := 136) rfl) rfl
theorem wd_2_137 : Jvm.Cond.methodLink "ReadAloud" (171 : Nat) ({ cls := "ReadAloud", name := "wouldAlter", desc := "(ILReadAloud$Sheet;II)I" } : Jvm.MethodName) ∈ aWd := aWd_2 (List.mem_of_getElem? (i := 137) rfl) rfl
theorem wd_2_139 : Jvm.Cond.instanceMethod ({ cls := "ReadAloud", name := "wouldAlter", desc := "(ILReadAloud$Sheet;II)I" } : Jvm.MethodName) ∈ aWd := aWd_2 (List.mem_of_getElem? (i := 139) rfl) rfl
theorem wd_2_140 : Jvm.Cond.code ({ cls := "ReadAloud", name := "wouldAlter", desc := "(ILReadAloud$Sheet;II)I" } : Jvm.MethodName) prog_1_method_34_code (7 : Nat) (Option.some Jvm.ClassFile.FieldType.int) ∈ aWd := aWd_2 (List.mem_of_getElem? (i := 140) rfl) rfl
theorem wd_2_141 : Jvm.Cond.methodLink "ReadAloud" (246 : Nat) ({ cls := "ReadAloud$Man", name := "placesByDeed", desc := "(LReadAloud$Sheet;I)I" } : Jvm.MethodName) ∈ aWd := aWd_2 (List.mem_of_getElem? (i := 141) rfl) rfl
theorem wd_2_142 : Jvm.Cond.instanceMethod ({ cls := "ReadAloud$Man", name := "placesByDeed", desc := "(LReadAloud$Sheet;I)I" } : Jvm.MethodName) ∈ aWd := aWd_2 (List.mem_of_getElem? (i := 142) rfl) rfl
theorem wd_2_143 : Jvm.Cond.selects "ReadAloud$Man" ({ cls := "ReadAloud$Man", name := "placesByDeed", desc := "(LReadAloud$Sheet;I)I" } : Jvm.MethodName) ({ cls := "ReadAloud$Man", name := "placesByDeed", desc := "(LReadAloud$Sheet;I)I" } : Jvm.MethodName) ∈ aWd := aWd_2 (List.mem_of_getElem? (i := 143) rfl) rfl
theorem wd_2_144 : Jvm.Cond.sameMethod "ReadAloud$Man" "ReadAloud$Man" "placesByDeed" "(LReadAloud$Sheet;I)I" ∈ aWd := aWd_2 (List.mem_of_getElem? (i := 144) rfl) rfl
theorem wd_2_145 : Jvm.Cond.selects "ReadAloud$Actor" ({ cls := "ReadAloud$Man", name := "placesByDeed", desc := "(LReadAloud$Sheet;I)I" } : Jvm.MethodName) ({ cls := "ReadAloud$Actor", name := "placesByDeed", desc := "(LReadAloud$Sheet;I)I" } : Jvm.MethodName) ∈ aWd := aWd_2 (List.mem_of_getElem? (i := 145) rfl) rfl
theorem wd_2_146 : Jvm.Cond.instanceMethod ({ cls := "ReadAloud$Actor", name := "placesByDeed", desc := "(LReadAloud$Sheet;I)I" } : Jvm.MethodName) ∈ aWd := aWd_2 (List.mem_of_getElem? (i := 146) rfl) rfl
theorem wd_2_147 : Jvm.Cond.code ({ cls := "ReadAloud$Actor", name := "placesByDeed", desc := "(LReadAloud$Sheet;I)I" } : Jvm.MethodName) prog_2_method_3_code (3 : Nat) (Option.some Jvm.ClassFile.FieldType.int) ∈ aWd := aWd_2 (List.mem_of_getElem? (i := 147) rfl) rfl
theorem wd_2_148 : Jvm.Cond.methodLink "ReadAloud$Actor" (7 : Nat) ({ cls := "ReadAloud$Sheet", name := "firstPlacesOf", desc := "(I)I" } : Jvm.MethodName) ∈ aWd := aWd_2 (List.mem_of_getElem? (i := 148) rfl) rfl
theorem wd_2_149 : Jvm.Cond.instanceMethod ({ cls := "ReadAloud$Sheet", name := "firstPlacesOf", desc := "(I)I" } : Jvm.MethodName) ∈ aWd := aWd_2 (List.mem_of_getElem? (i := 149) rfl) rfl
theorem wd_2_150 : Jvm.Cond.selects "ReadAloud$Sheet" ({ cls := "ReadAloud$Sheet", name := "firstPlacesOf", desc := "(I)I" } : Jvm.MethodName) ({ cls := "ReadAloud$Sheet", name := "firstPlacesOf", desc := "(I)I" } : Jvm.MethodName) ∈ aWd := aWd_2 (List.mem_of_getElem? (i := 150) rfl) rfl
theorem wd_2_151 : Jvm.Cond.code ({ cls := "ReadAloud$Sheet", name := "firstPlacesOf", desc := "(I)I" } : Jvm.MethodName) prog_8_method_10_code (5 : Nat) (Option.some Jvm.ClassFile.FieldType.int) ∈ aWd := aWd_2 (List.mem_of_getElem? (i := 151) rfl) rfl
theorem wd_2_152 : Jvm.Cond.selects "ReadAloud$Boy" ({ cls := "ReadAloud$Man", name := "placesByDeed", desc := "(LReadAloud$Sheet;I)I" } : Jvm.MethodName) ({ cls := "ReadAloud$Boy", name := "placesByDeed", desc := "(LReadAloud$Sheet;I)I" } : Jvm.MethodName) ∈ aWd := aWd_2 (List.mem_of_getElem? (i := 152) rfl) rfl
theorem wd_2_153 : Jvm.Cond.instanceMethod ({ cls := "ReadAloud$Boy", name := "placesByDeed", desc := "(LReadAloud$Sheet;I)I" } : Jvm.MethodName) ∈ aWd := aWd_2 (List.mem_of_getElem? (i := 153) rfl) rfl
theorem wd_2_154 : Jvm.Cond.code ({ cls := "ReadAloud$Boy", name := "placesByDeed", desc := "(LReadAloud$Sheet;I)I" } : Jvm.MethodName) prog_3_method_3_code (3 : Nat) (Option.some Jvm.ClassFile.FieldType.int) ∈ aWd := aWd_2 (List.mem_of_getElem? (i := 154) rfl) rfl
theorem wd_2_155 : Jvm.Cond.methodLink "ReadAloud$Boy" (7 : Nat) ({ cls := "ReadAloud$Sheet", name := "placesOf", desc := "(I)I" } : Jvm.MethodName) ∈ aWd := aWd_2 (List.mem_of_getElem? (i := 155) rfl) rfl
theorem wd_2_156 : Jvm.Cond.instanceMethod ({ cls := "ReadAloud$Sheet", name := "placesOf", desc := "(I)I" } : Jvm.MethodName) ∈ aWd := aWd_2 (List.mem_of_getElem? (i := 156) rfl) rfl
theorem wd_2_157 : Jvm.Cond.selects "ReadAloud$Sheet" ({ cls := "ReadAloud$Sheet", name := "placesOf", desc := "(I)I" } : Jvm.MethodName) ({ cls := "ReadAloud$Sheet", name := "placesOf", desc := "(I)I" } : Jvm.MethodName) ∈ aWd := aWd_2 (List.mem_of_getElem? (i := 157) rfl) rfl
theorem wd_2_158 : Jvm.Cond.code ({ cls := "ReadAloud$Sheet", name := "placesOf", desc := "(I)I" } : Jvm.MethodName) prog_8_method_9_code (4 : Nat) (Option.some Jvm.ClassFile.FieldType.int) ∈ aWd := aWd_2 (List.mem_of_getElem? (i := 158) rfl) rfl
theorem wd_2_159 : Jvm.Cond.methodLink "ReadAloud$Boy" (13 : Nat) ({ cls := "ReadAloud$Sheet", name := "placesBehind", desc := "(I)I" } : Jvm.MethodName) ∈ aWd := aWd_2 (List.mem_of_getElem? (i := 159) rfl) rfl
theorem wd_2_160 : Jvm.Cond.instanceMethod ({ cls := "ReadAloud$Sheet", name := "placesBehind", desc := "(I)I" } : Jvm.MethodName) ∈ aWd := aWd_2 (List.mem_of_getElem? (i := 160) rfl) rfl
theorem wd_2_161 : Jvm.Cond.selects "ReadAloud$Sheet" ({ cls := "ReadAloud$Sheet", name := "placesBehind", desc := "(I)I" } : Jvm.MethodName) ({ cls := "ReadAloud$Sheet", name := "placesBehind", desc := "(I)I" } : Jvm.MethodName) ∈ aWd := aWd_2 (List.mem_of_getElem? (i := 161) rfl) rfl
theorem wd_2_162 : Jvm.Cond.code ({ cls := "ReadAloud$Sheet", name := "placesBehind", desc := "(I)I" } : Jvm.MethodName) prog_8_method_11_code (2 : Nat) (Option.some Jvm.ClassFile.FieldType.int) ∈ aWd := aWd_2 (List.mem_of_getElem? (i := 162) rfl) rfl
theorem wd_2_163 : Jvm.Cond.selects "ReadAloud$Stammerer" ({ cls := "ReadAloud$Man", name := "placesByDeed", desc := "(LReadAloud$Sheet;I)I" } : Jvm.MethodName) ({ cls := "ReadAloud$Man", name := "placesByDeed", desc := "(LReadAloud$Sheet;I)I" } : Jvm.MethodName) ∈ aWd := aWd_2 (List.mem_of_getElem? (i := 163) rfl) rfl
theorem wd_2_164 : Jvm.Cond.selects "ReadAloud$Weeper" ({ cls := "ReadAloud$Man", name := "placesByDeed", desc := "(LReadAloud$Sheet;I)I" } : Jvm.MethodName) ({ cls := "ReadAloud$Man", name := "placesByDeed", desc := "(LReadAloud$Sheet;I)I" } : Jvm.MethodName) ∈ aWd := aWd_2 (List.mem_of_getElem? (i := 164) rfl) rfl
theorem wd_2_165 : Jvm.Cond.code ({ cls := "ReadAloud$Man", name := "placesByDeed", desc := "(LReadAloud$Sheet;I)I" } : Jvm.MethodName) prog_6_method_4_code (3 : Nat) (Option.some Jvm.ClassFile.FieldType.int) ∈ aWd := aWd_2 (List.mem_of_getElem? (i := 165) rfl) rfl
theorem wd_2_166 : Jvm.Cond.methodLink "ReadAloud$Man" (13 : Nat) ({ cls := "ReadAloud$Sheet", name := "placesOf", desc := "(I)I" } : Jvm.MethodName) ∈ aWd := aWd_2 (List.mem_of_getElem? (i := 166) rfl) rfl
theorem wd_2_167 : Jvm.Cond.methodLink "ReadAloud" (250 : Nat) ({ cls := "ReadAloud$Man", name := "placesAnyhow", desc := "(LReadAloud$Sheet;)I" } : Jvm.MethodName) ∈ aWd := aWd_2 (List.mem_of_getElem? (i := 167) rfl) rfl
theorem wd_2_168 : Jvm.Cond.instanceMethod ({ cls := "ReadAloud$Man", name := "placesAnyhow", desc := "(LReadAloud$Sheet;)I" } : Jvm.MethodName) ∈ aWd := aWd_2 (List.mem_of_getElem? (i := 168) rfl) rfl
theorem wd_2_169 : Jvm.Cond.selects "ReadAloud$Man" ({ cls := "ReadAloud$Man", name := "placesAnyhow", desc := "(LReadAloud$Sheet;)I" } : Jvm.MethodName) ({ cls := "ReadAloud$Man", name := "placesAnyhow", desc := "(LReadAloud$Sheet;)I" } : Jvm.MethodName) ∈ aWd := aWd_2 (List.mem_of_getElem? (i := 169) rfl) rfl
theorem wd_2_170 : Jvm.Cond.sameMethod "ReadAloud$Man" "ReadAloud$Man" "placesAnyhow" "(LReadAloud$Sheet;)I" ∈ aWd := aWd_2 (List.mem_of_getElem? (i := 170) rfl) rfl
theorem wd_2_171 : Jvm.Cond.selects "ReadAloud$Actor" ({ cls := "ReadAloud$Man", name := "placesAnyhow", desc := "(LReadAloud$Sheet;)I" } : Jvm.MethodName) ({ cls := "ReadAloud$Man", name := "placesAnyhow", desc := "(LReadAloud$Sheet;)I" } : Jvm.MethodName) ∈ aWd := aWd_2 (List.mem_of_getElem? (i := 171) rfl) rfl
theorem wd_2_172 : Jvm.Cond.selects "ReadAloud$Boy" ({ cls := "ReadAloud$Man", name := "placesAnyhow", desc := "(LReadAloud$Sheet;)I" } : Jvm.MethodName) ({ cls := "ReadAloud$Man", name := "placesAnyhow", desc := "(LReadAloud$Sheet;)I" } : Jvm.MethodName) ∈ aWd := aWd_2 (List.mem_of_getElem? (i := 172) rfl) rfl
theorem wd_2_173 : Jvm.Cond.selects "ReadAloud$Stammerer" ({ cls := "ReadAloud$Man", name := "placesAnyhow", desc := "(LReadAloud$Sheet;)I" } : Jvm.MethodName) ({ cls := "ReadAloud$Stammerer", name := "placesAnyhow", desc := "(LReadAloud$Sheet;)I" } : Jvm.MethodName) ∈ aWd := aWd_2 (List.mem_of_getElem? (i := 173) rfl) rfl
theorem wd_2_174 : Jvm.Cond.instanceMethod ({ cls := "ReadAloud$Stammerer", name := "placesAnyhow", desc := "(LReadAloud$Sheet;)I" } : Jvm.MethodName) ∈ aWd := aWd_2 (List.mem_of_getElem? (i := 174) rfl) rfl
theorem wd_2_175 : Jvm.Cond.code ({ cls := "ReadAloud$Stammerer", name := "placesAnyhow", desc := "(LReadAloud$Sheet;)I" } : Jvm.MethodName) prog_9_method_3_code (2 : Nat) (Option.some Jvm.ClassFile.FieldType.int) ∈ aWd := aWd_2 (List.mem_of_getElem? (i := 175) rfl) rfl
theorem wd_2_176 : Jvm.Cond.selects "ReadAloud$Weeper" ({ cls := "ReadAloud$Man", name := "placesAnyhow", desc := "(LReadAloud$Sheet;)I" } : Jvm.MethodName) ({ cls := "ReadAloud$Weeper", name := "placesAnyhow", desc := "(LReadAloud$Sheet;)I" } : Jvm.MethodName) ∈ aWd := aWd_2 (List.mem_of_getElem? (i := 176) rfl) rfl
theorem wd_2_177 : Jvm.Cond.instanceMethod ({ cls := "ReadAloud$Weeper", name := "placesAnyhow", desc := "(LReadAloud$Sheet;)I" } : Jvm.MethodName) ∈ aWd := aWd_2 (List.mem_of_getElem? (i := 177) rfl) rfl
theorem wd_2_178 : Jvm.Cond.code ({ cls := "ReadAloud$Weeper", name := "placesAnyhow", desc := "(LReadAloud$Sheet;)I" } : Jvm.MethodName) prog_12_method_3_code (2 : Nat) (Option.some Jvm.ClassFile.FieldType.int) ∈ aWd := aWd_2 (List.mem_of_getElem? (i := 178) rfl) rfl
theorem wd_2_179 : Jvm.Cond.methodLink "ReadAloud$Weeper" (7 : Nat) ({ cls := "ReadAloud$Stammerer", name := "placesAnyhow", desc := "(LReadAloud$Sheet;)I" } : Jvm.MethodName) ∈ aWd := aWd_2 (List.mem_of_getElem? (i := 179) rfl) rfl
theorem wd_2_180 : Jvm.Cond.methodLink "ReadAloud$Weeper" (13 : Nat) ({ cls := "ReadAloud$Sheet", name := "placesOf", desc := "(I)I" } : Jvm.MethodName) ∈ aWd := aWd_2 (List.mem_of_getElem? (i := 180) rfl) rfl
theorem wd_2_181 : Jvm.Cond.code ({ cls := "ReadAloud$Man", name := "placesAnyhow", desc := "(LReadAloud$Sheet;)I" } : Jvm.MethodName) prog_6_method_5_code (2 : Nat) (Option.some Jvm.ClassFile.FieldType.int) ∈ aWd := aWd_2 (List.mem_of_getElem? (i := 181) rfl) rfl
theorem wd_2_182 : Jvm.Cond.methodLink "ReadAloud" (179 : Nat) ({ cls := "ReadAloud$Sheet", name := "placesOf", desc := "(I)I" } : Jvm.MethodName) ∈ aWd := aWd_2 (List.mem_of_getElem? (i := 182) rfl) rfl
theorem wd_2_183 : Jvm.Cond.methodLink "ReadAloud" (132 : Nat) ({ cls := "java/lang/Integer", name := "bitCount", desc := "(I)I" } : Jvm.MethodName) ∈ aWd := aWd_2 (List.mem_of_getElem? (i := 183) rfl) rfl
theorem wd_2_184 : Jvm.Cond.static ({ cls := "java/lang/Integer", name := "bitCount", desc := "(I)I" } : Jvm.MethodName) ∈ aWd := aWd_2 (List.mem_of_getElem? (i := 184) rfl) rfl
theorem wd_2_185 : Jvm.Cond.code ({ cls := "java/lang/Integer", name := "bitCount", desc := "(I)I" } : Jvm.MethodName) prog_15_method_49_code (1 : Nat) (Option.some Jvm.ClassFile.FieldType.int) ∈ aWd := aWd_2 (List.mem_of_getElem? (i := 185) rfl) rfl
theorem wd_2_186 : Jvm.Cond.constant "java/lang/Integer" (265 : Nat) (1431655765 : Int32) ∈ aWd := aWd_2 (List.mem_of_getElem? (i := 186) rfl) rfl
theorem wd_2_187 : Jvm.Cond.constant "java/lang/Integer" (266 : Nat) (858993459 : Int32) ∈ aWd := aWd_2 (List.mem_of_getElem? (i := 187) rfl) rfl
theorem wd_2_188 : Jvm.Cond.constant "java/lang/Integer" (267 : Nat) (252645135 : Int32) ∈ aWd := aWd_2 (List.mem_of_getElem? (i := 188) rfl) rfl
theorem wd_2_189 : Jvm.Cond.methodLink "ReadAloud" (144 : Nat) ({ cls := "ReadAloud$Heard", name := "deedsLeft", desc := "(I)I" } : Jvm.MethodName) ∈ aWd := aWd_2 (List.mem_of_getElem? (i := 189) rfl) rfl
theorem wd_2_190 : Jvm.Cond.instanceMethod ({ cls := "ReadAloud$Heard", name := "deedsLeft", desc := "(I)I" } : Jvm.MethodName) ∈ aWd := aWd_2 (List.mem_of_getElem? (i := 190) rfl) rfl
theorem wd_2_191 : Jvm.Cond.selects "ReadAloud$Heard" ({ cls := "ReadAloud$Heard", name := "deedsLeft", desc := "(I)I" } : Jvm.MethodName) ({ cls := "ReadAloud$Heard", name := "deedsLeft", desc := "(I)I" } : Jvm.MethodName) ∈ aWd := aWd_2 (List.mem_of_getElem? (i := 191) rfl) rfl
theorem wd_2_192 : Jvm.Cond.code ({ cls := "ReadAloud$Heard", name := "deedsLeft", desc := "(I)I" } : Jvm.MethodName) prog_5_method_6_code (4 : Nat) (Option.some Jvm.ClassFile.FieldType.int) ∈ aWd := aWd_2 (List.mem_of_getElem? (i := 192) rfl) rfl
theorem wd_2_193 : Jvm.Cond.methodLink "ReadAloud" (149 : Nat) ({ cls := "ReadAloud", name := "placeToListen", desc := "(I)I" } : Jvm.MethodName) ∈ aWd := aWd_2 (List.mem_of_getElem? (i := 193) rfl) rfl
theorem wd_2_195 : Jvm.Cond.instanceMethod ({ cls := "ReadAloud", name := "placeToListen", desc := "(I)I" } : Jvm.MethodName) ∈ aWd := aWd_2 (List.mem_of_getElem? (i := 195) rfl) rfl
theorem wd_2_196 : Jvm.Cond.code ({ cls := "ReadAloud", name := "placeToListen", desc := "(I)I" } : Jvm.MethodName) prog_1_method_39_code (8 : Nat) (Option.some Jvm.ClassFile.FieldType.int) ∈ aWd := aWd_2 (List.mem_of_getElem? (i := 196) rfl) rfl
theorem wd_2_197 : Jvm.Cond.methodLink "ReadAloud" (182 : Nat) ({ cls := "ReadAloud", name := "deedsAltering", desc := "(II)I" } : Jvm.MethodName) ∈ aWd := aWd_2 (List.mem_of_getElem? (i := 197) rfl) rfl
theorem wd_2_199 : Jvm.Cond.instanceMethod ({ cls := "ReadAloud", name := "deedsAltering", desc := "(II)I" } : Jvm.MethodName) ∈ aWd := aWd_2 (List.mem_of_getElem? (i := 199) rfl) rfl
theorem wd_2_200 : Jvm.Cond.code ({ cls := "ReadAloud", name := "deedsAltering", desc := "(II)I" } : Jvm.MethodName) prog_1_method_38_code (6 : Nat) (Option.some Jvm.ClassFile.FieldType.int) ∈ aWd := aWd_2 (List.mem_of_getElem? (i := 200) rfl) rfl
theorem wd_2_201 : Jvm.Cond.methodLink "ReadAloud" (253 : Nat) ({ cls := "java/lang/Math", name := "max", desc := "(II)I" } : Jvm.MethodName) ∈ aWd := aWd_2 (List.mem_of_getElem? (i := 201) rfl) rfl
theorem wd_2_204 : Jvm.Cond.methodLink "ReadAloudLaw" (98 : Nat) ({ cls := "ReadAloud", name := "as", desc := "(II)I" } : Jvm.MethodName) ∈ aWd := aWd_2 (List.mem_of_getElem? (i := 204) rfl) rfl
theorem wd_2_205 : Jvm.Cond.instanceMethod ({ cls := "ReadAloud", name := "as", desc := "(II)I" } : Jvm.MethodName) ∈ aWd := aWd_2 (List.mem_of_getElem? (i := 205) rfl) rfl
theorem wd_2_206 : Jvm.Cond.selects "ReadAloud" ({ cls := "ReadAloud", name := "as", desc := "(II)I" } : Jvm.MethodName) ({ cls := "ReadAloud", name := "as", desc := "(II)I" } : Jvm.MethodName) ∈ aWd := aWd_2 (List.mem_of_getElem? (i := 206) rfl) rfl
theorem wd_2_207 : Jvm.Cond.code ({ cls := "ReadAloud", name := "as", desc := "(II)I" } : Jvm.MethodName) prog_1_method_12_code (4 : Nat) (Option.some Jvm.ClassFile.FieldType.int) ∈ aWd := aWd_2 (List.mem_of_getElem? (i := 207) rfl) rfl
theorem wd_2_208 : Jvm.Cond.methodLink "ReadAloud" (152 : Nat) ({ cls := "ReadAloud", name := "isOfKind", desc := "(LReadAloud$Man;I)Z" } : Jvm.MethodName) ∈ aWd := aWd_2 (List.mem_of_getElem? (i := 208) rfl) rfl
theorem wd_2_209 : Jvm.Cond.static ({ cls := "ReadAloud", name := "isOfKind", desc := "(LReadAloud$Man;I)Z" } : Jvm.MethodName) ∈ aWd := aWd_2 (List.mem_of_getElem? (i := 209) rfl) rfl
theorem wd_2_210 : Jvm.Cond.code ({ cls := "ReadAloud", name := "isOfKind", desc := "(LReadAloud$Man;I)Z" } : Jvm.MethodName) prog_1_method_32_code (2 : Nat) (Option.some Jvm.ClassFile.FieldType.boolean) ∈ aWd := aWd_2 (List.mem_of_getElem? (i := 210) rfl) rfl
theorem wd_2_211 : Jvm.Cond.methodLink "ReadAloudLaw" (64 : Nat) ({ cls := "ReadAloud", name := "lesson", desc := "(II)I" } : Jvm.MethodName) ∈ aWd := aWd_2 (List.mem_of_getElem? (i := 211) rfl) rfl
theorem wd_2_212 : Jvm.Cond.instanceMethod ({ cls := "ReadAloud", name := "lesson", desc := "(II)I" } : Jvm.MethodName) ∈ aWd := aWd_2 (List.mem_of_getElem? (i := 212) rfl) rfl
theorem wd_2_213 : Jvm.Cond.selects "ReadAloud" ({ cls := "ReadAloud", name := "lesson", desc := "(II)I" } : Jvm.MethodName) ({ cls := "ReadAloud", name := "lesson", desc := "(II)I" } : Jvm.MethodName) ∈ aWd := aWd_2 (List.mem_of_getElem? (i := 213) rfl) rfl
theorem wd_2_214 : Jvm.Cond.code ({ cls := "ReadAloud", name := "lesson", desc := "(II)I" } : Jvm.MethodName) prog_1_method_13_code (4 : Nat) (Option.some Jvm.ClassFile.FieldType.int) ∈ aWd := aWd_2 (List.mem_of_getElem? (i := 214) rfl) rfl
theorem wd_2_215 : Jvm.Cond.methodLink "ReadAloudLaw" (67 : Nat) ({ cls := "ReadAloud", name := "unlearn", desc := "(I)I" } : Jvm.MethodName) ∈ aWd := aWd_2 (List.mem_of_getElem? (i := 215) rfl) rfl
theorem wd_2_216 : Jvm.Cond.instanceMethod ({ cls := "ReadAloud", name := "unlearn", desc := "(I)I" } : Jvm.MethodName) ∈ aWd := aWd_2 (List.mem_of_getElem? (i := 216) rfl) rfl
theorem wd_2_217 : Jvm.Cond.selects "ReadAloud" ({ cls := "ReadAloud", name := "unlearn", desc := "(I)I" } : Jvm.MethodName) ({ cls := "ReadAloud", name := "unlearn", desc := "(I)I" } : Jvm.MethodName) ∈ aWd := aWd_2 (List.mem_of_getElem? (i := 217) rfl) rfl
theorem wd_2_218 : Jvm.Cond.code ({ cls := "ReadAloud", name := "unlearn", desc := "(I)I" } : Jvm.MethodName) prog_1_method_14_code (3 : Nat) (Option.some Jvm.ClassFile.FieldType.int) ∈ aWd := aWd_2 (List.mem_of_getElem? (i := 218) rfl) rfl
theorem wd_2_219 : Jvm.Cond.methodLink "ReadAloudLaw" (101 : Nat) ({ cls := "ReadAloud", name := "trials", desc := "(III)I" } : Jvm.MethodName) ∈ aWd := aWd_2 (List.mem_of_getElem? (i := 219) rfl) rfl
theorem wd_2_220 : Jvm.Cond.instanceMethod ({ cls := "ReadAloud", name := "trials", desc := "(III)I" } : Jvm.MethodName) ∈ aWd := aWd_2 (List.mem_of_getElem? (i := 220) rfl) rfl
theorem wd_2_221 : Jvm.Cond.selects "ReadAloud" ({ cls := "ReadAloud", name := "trials", desc := "(III)I" } : Jvm.MethodName) ({ cls := "ReadAloud", name := "trials", desc := "(III)I" } : Jvm.MethodName) ∈ aWd := aWd_2 (List.mem_of_getElem? (i := 221) rfl) rfl
theorem wd_2_222 : Jvm.Cond.code ({ cls := "ReadAloud", name := "trials", desc := "(III)I" } : Jvm.MethodName) prog_1_method_19_code (8 : Nat) (Option.some Jvm.ClassFile.FieldType.int) ∈ aWd := aWd_2 (List.mem_of_getElem? (i := 222) rfl) rfl
theorem wd_2_223 : Jvm.Cond.methodLink "ReadAloud" (190 : Nat) ({ cls := "ReadAloud", name := "drawSheet", desc := "(I)I" } : Jvm.MethodName) ∈ aWd := aWd_2 (List.mem_of_getElem? (i := 223) rfl) rfl
theorem wd_2_225 : Jvm.Cond.instanceMethod ({ cls := "ReadAloud", name := "drawSheet", desc := "(I)I" } : Jvm.MethodName) ∈ aWd := aWd_2 (List.mem_of_getElem? (i := 225) rfl) rfl
theorem wd_2_226 : Jvm.Cond.code ({ cls := "ReadAloud", name := "drawSheet", desc := "(I)I" } : Jvm.MethodName) prog_1_method_42_code (4 : Nat) (Option.some Jvm.ClassFile.FieldType.int) ∈ aWd := aWd_2 (List.mem_of_getElem? (i := 226) rfl) rfl
theorem wd_2_227 : Jvm.Cond.methodLink "ReadAloud" (261 : Nat) ({ cls := "ReadAloud$Sheet", name := "clear", desc := "()V" } : Jvm.MethodName) ∈ aWd := aWd_2 (List.mem_of_getElem? (i := 227) rfl) rfl
theorem wd_2_228 : Jvm.Cond.constant "ReadAloud" (262 : Nat) (1103515245 : Int32) ∈ aWd := aWd_2 (List.mem_of_getElem? (i := 228) rfl) rfl
theorem wd_2_229 : Jvm.Cond.constant "ReadAloud" (263 : Nat) (2147483647 : Int32) ∈ aWd := aWd_2 (List.mem_of_getElem? (i := 229) rfl) rfl
theorem wd_2_230 : Jvm.Cond.constant "ReadAloud" (264 : Nat) (65536 : Int32) ∈ aWd := aWd_2 (List.mem_of_getElem? (i := 230) rfl) rfl
theorem wd_2_231 : Jvm.Cond.methodLink "ReadAloud" (193 : Nat) ({ cls := "ReadAloud", name := "hangingAt", desc := "(LReadAloud$Sheet;)I" } : Jvm.MethodName) ∈ aWd := aWd_2 (List.mem_of_getElem? (i := 231) rfl) rfl
theorem wd_2_233 : Jvm.Cond.instanceMethod ({ cls := "ReadAloud", name := "hangingAt", desc := "(LReadAloud$Sheet;)I" } : Jvm.MethodName) ∈ aWd := aWd_2 (List.mem_of_getElem? (i := 233) rfl) rfl
theorem wd_2_234 : Jvm.Cond.code ({ cls := "ReadAloud", name := "hangingAt", desc := "(LReadAloud$Sheet;)I" } : Jvm.MethodName) prog_1_method_36_code (4 : Nat) (Option.some Jvm.ClassFile.FieldType.int) ∈ aWd := aWd_2 (List.mem_of_getElem? (i := 234) rfl) rfl
theorem wd_2_235 : Jvm.Cond.methodLink "ReadAloud" (197 : Nat) ({ cls := "ReadAloud", name := "allAltering", desc := "(LReadAloud$Sheet;)I" } : Jvm.MethodName) ∈ aWd := aWd_2 (List.mem_of_getElem? (i := 235) rfl) rfl
theorem wd_2_237 : Jvm.Cond.instanceMethod ({ cls := "ReadAloud", name := "allAltering", desc := "(LReadAloud$Sheet;)I" } : Jvm.MethodName) ∈ aWd := aWd_2 (List.mem_of_getElem? (i := 237) rfl) rfl
theorem wd_2_238 : Jvm.Cond.code ({ cls := "ReadAloud", name := "allAltering", desc := "(LReadAloud$Sheet;)I" } : Jvm.MethodName) prog_1_method_37_code (4 : Nat) (Option.some Jvm.ClassFile.FieldType.int) ∈ aWd := aWd_2 (List.mem_of_getElem? (i := 238) rfl) rfl
theorem wd_2_239 : Jvm.Cond.methodLink "ReadAloudLaw" (8 : Nat) ({ cls := "ReadAloudLaw", name := "cell", desc := "([II)I" } : Jvm.MethodName) ∈ aWd := aWd_2 (List.mem_of_getElem? (i := 239) rfl) rfl
theorem wd_3_0 : Jvm.Cond.static ({ cls := "ReadAloudLaw", name := "cell", desc := "([II)I" } : Jvm.MethodName) ∈ aWd := aWd_3 (List.mem_of_getElem? (i := 0) rfl) rfl
theorem wd_3_1 : Jvm.Cond.code ({ cls := "ReadAloudLaw", name := "cell", desc := "([II)I" } : Jvm.MethodName) method_2_code (2 : Nat) (Option.some Jvm.ClassFile.FieldType.int) ∈ aWd := aWd_3 (List.mem_of_getElem? (i := 1) rfl) rfl
theorem wd_3_2 : Jvm.Cond.constant "ReadAloudLaw" (7 : Nat) (747796405 : Int32) ∈ aWd := aWd_3 (List.mem_of_getElem? (i := 2) rfl) rfl
theorem wd_3_3 : Jvm.Cond.methodLink "ReadAloudLaw" (14 : Nat) ({ cls := "ReadAloudLaw", name := "at", desc := "(II)I" } : Jvm.MethodName) ∈ aWd := aWd_3 (List.mem_of_getElem? (i := 3) rfl) rfl
theorem wd_3_4 : Jvm.Cond.static ({ cls := "ReadAloudLaw", name := "at", desc := "(II)I" } : Jvm.MethodName) ∈ aWd := aWd_3 (List.mem_of_getElem? (i := 4) rfl) rfl
theorem wd_3_5 : Jvm.Cond.code ({ cls := "ReadAloudLaw", name := "at", desc := "(II)I" } : Jvm.MethodName) method_3_code (2 : Nat) (Option.some Jvm.ClassFile.FieldType.int) ∈ aWd := aWd_3 (List.mem_of_getElem? (i := 5) rfl) rfl
theorem wd_3_6 : Jvm.Cond.methodLink "ReadAloudLaw" (71 : Nat) ({ cls := "ReadAloudLaw", name := "courtText", desc := "([II[I[I[I)I" } : Jvm.MethodName) ∈ aWd := aWd_3 (List.mem_of_getElem? (i := 6) rfl) rfl
theorem wd_3_7 : Jvm.Cond.static ({ cls := "ReadAloudLaw", name := "courtText", desc := "([II[I[I[I)I" } : Jvm.MethodName) ∈ aWd := aWd_3 (List.mem_of_getElem? (i := 7) rfl) rfl
theorem wd_3_8 : Jvm.Cond.code ({ cls := "ReadAloudLaw", name := "courtText", desc := "([II[I[I[I)I" } : Jvm.MethodName) method_4_code (11 : Nat) (Option.some Jvm.ClassFile.FieldType.int) ∈ aWd := aWd_3 (List.mem_of_getElem? (i := 8) rfl) rfl
theorem wd_3_9 : Jvm.Cond.methodLink "ReadAloudLaw" (18 : Nat) ({ cls := "ReadAloudLaw", name := "in", desc := "(II)Z" } : Jvm.MethodName) ∈ aWd := aWd_3 (List.mem_of_getElem? (i := 9) rfl) rfl
theorem wd_3_10 : Jvm.Cond.static ({ cls := "ReadAloudLaw", name := "in", desc := "(II)Z" } : Jvm.MethodName) ∈ aWd := aWd_3 (List.mem_of_getElem? (i := 10) rfl) rfl
theorem wd_3_11 : Jvm.Cond.code ({ cls := "ReadAloudLaw", name := "in", desc := "(II)Z" } : Jvm.MethodName) method_6_code (2 : Nat) (Option.some Jvm.ClassFile.FieldType.boolean) ∈ aWd := aWd_3 (List.mem_of_getElem? (i := 11) rfl) rfl
theorem wd_3_12 : Jvm.Cond.methodLink "ReadAloudLaw" (75 : Nat) ({ cls := "ReadAloudLaw", name := "write", desc := "(LReadAloud;[II)Z" } : Jvm.MethodName) ∈ aWd := aWd_3 (List.mem_of_getElem? (i := 12) rfl) rfl
theorem wd_3_13 : Jvm.Cond.static ({ cls := "ReadAloudLaw", name := "write", desc := "(LReadAloud;[II)Z" } : Jvm.MethodName) ∈ aWd := aWd_3 (List.mem_of_getElem? (i := 13) rfl) rfl
theorem wd_3_14 : Jvm.Cond.code ({ cls := "ReadAloudLaw", name := "write", desc := "(LReadAloud;[II)Z" } : Jvm.MethodName) method_5_code (4 : Nat) (Option.some Jvm.ClassFile.FieldType.boolean) ∈ aWd := aWd_3 (List.mem_of_getElem? (i := 14) rfl) rfl
theorem wd_3_15 : Jvm.Cond.methodLink "ReadAloudLaw" (22 : Nat) ({ cls := "ReadAloud", name := "letter", desc := "(I)I" } : Jvm.MethodName) ∈ aWd := aWd_3 (List.mem_of_getElem? (i := 15) rfl) rfl
theorem wd_3_16 : Jvm.Cond.instanceMethod ({ cls := "ReadAloud", name := "letter", desc := "(I)I" } : Jvm.MethodName) ∈ aWd := aWd_3 (List.mem_of_getElem? (i := 16) rfl) rfl
theorem wd_3_17 : Jvm.Cond.selects "ReadAloud" ({ cls := "ReadAloud", name := "letter", desc := "(I)I" } : Jvm.MethodName) ({ cls := "ReadAloud", name := "letter", desc := "(I)I" } : Jvm.MethodName) ∈ aWd := aWd_3 (List.mem_of_getElem? (i := 17) rfl) rfl
theorem wd_3_18 : Jvm.Cond.code ({ cls := "ReadAloud", name := "letter", desc := "(I)I" } : Jvm.MethodName) prog_1_method_2_code (2 : Nat) (Option.some Jvm.ClassFile.FieldType.int) ∈ aWd := aWd_3 (List.mem_of_getElem? (i := 18) rfl) rfl
theorem wd_3_19 : Jvm.Cond.methodLink "ReadAloud" (50 : Nat) ({ cls := "ReadAloud$Page", name := "add", desc := "(I)Z" } : Jvm.MethodName) ∈ aWd := aWd_3 (List.mem_of_getElem? (i := 19) rfl) rfl
theorem wd_3_20 : Jvm.Cond.instanceMethod ({ cls := "ReadAloud$Page", name := "add", desc := "(I)Z" } : Jvm.MethodName) ∈ aWd := aWd_3 (List.mem_of_getElem? (i := 20) rfl) rfl
theorem wd_3_21 : Jvm.Cond.selects "ReadAloud$Page" ({ cls := "ReadAloud$Page", name := "add", desc := "(I)Z" } : Jvm.MethodName) ({ cls := "ReadAloud$Page", name := "add", desc := "(I)Z" } : Jvm.MethodName) ∈ aWd := aWd_3 (List.mem_of_getElem? (i := 21) rfl) rfl
theorem wd_3_22 : Jvm.Cond.code ({ cls := "ReadAloud$Page", name := "add", desc := "(I)Z" } : Jvm.MethodName) prog_7_method_4_code (2 : Nat) (Option.some Jvm.ClassFile.FieldType.boolean) ∈ aWd := aWd_3 (List.mem_of_getElem? (i := 22) rfl) rfl
theorem wd_3_23 : Jvm.Cond.methodLink "ReadAloudLaw" (60 : Nat) ({ cls := "ReadAloudLaw", name := "come", desc := "(LReadAloud;[III)Z" } : Jvm.MethodName) ∈ aWd := aWd_3 (List.mem_of_getElem? (i := 23) rfl) rfl
theorem wd_3_24 : Jvm.Cond.static ({ cls := "ReadAloudLaw", name := "come", desc := "(LReadAloud;[III)Z" } : Jvm.MethodName) ∈ aWd := aWd_3 (List.mem_of_getElem? (i := 24) rfl) rfl
theorem wd_3_25 : Jvm.Cond.code ({ cls := "ReadAloudLaw", name := "come", desc := "(LReadAloud;[III)Z" } : Jvm.MethodName) method_8_code (5 : Nat) (Option.some Jvm.ClassFile.FieldType.boolean) ∈ aWd := aWd_3 (List.mem_of_getElem? (i := 25) rfl) rfl
theorem wd_3_26 : Jvm.Cond.methodLink "ReadAloudLaw" (86 : Nat) ({ cls := "ReadAloudLaw", name := "stands", desc := "(LReadAloud;[I[I)Z" } : Jvm.MethodName) ∈ aWd := aWd_3 (List.mem_of_getElem? (i := 26) rfl) rfl
theorem wd_3_27 : Jvm.Cond.static ({ cls := "ReadAloudLaw", name := "stands", desc := "(LReadAloud;[I[I)Z" } : Jvm.MethodName) ∈ aWd := aWd_3 (List.mem_of_getElem? (i := 27) rfl) rfl
theorem wd_3_28 : Jvm.Cond.code ({ cls := "ReadAloudLaw", name := "stands", desc := "(LReadAloud;[I[I)Z" } : Jvm.MethodName) method_12_code (8 : Nat) (Option.some Jvm.ClassFile.FieldType.boolean) ∈ aWd := aWd_3 (List.mem_of_getElem? (i := 28) rfl) rfl
theorem wd_3_29 : Jvm.Cond.methodLink "ReadAloudLaw" (41 : Nat) ({ cls := "ReadAloudLaw", name := "now", desc := "([I[II)I" } : Jvm.MethodName) ∈ aWd := aWd_3 (List.mem_of_getElem? (i := 29) rfl) rfl
theorem wd_3_30 : Jvm.Cond.static ({ cls := "ReadAloudLaw", name := "now", desc := "([I[II)I" } : Jvm.MethodName) ∈ aWd := aWd_3 (List.mem_of_getElem? (i := 30) rfl) rfl
theorem wd_3_31 : Jvm.Cond.code ({ cls := "ReadAloudLaw", name := "now", desc := "([I[II)I" } : Jvm.MethodName) method_10_code (3 : Nat) (Option.some Jvm.ClassFile.FieldType.int) ∈ aWd := aWd_3 (List.mem_of_getElem? (i := 31) rfl) rfl
theorem wd_3_32 : Jvm.Cond.methodLink "ReadAloudLaw" (31 : Nat) ({ cls := "ReadAloudLaw", name := "alters", desc := "([IIII)I" } : Jvm.MethodName) ∈ aWd := aWd_3 (List.mem_of_getElem? (i := 32) rfl) rfl
theorem wd_3_33 : Jvm.Cond.static ({ cls := "ReadAloudLaw", name := "alters", desc := "([IIII)I" } : Jvm.MethodName) ∈ aWd := aWd_3 (List.mem_of_getElem? (i := 33) rfl) rfl
theorem wd_3_34 : Jvm.Cond.code ({ cls := "ReadAloudLaw", name := "alters", desc := "([IIII)I" } : Jvm.MethodName) method_9_code (9 : Nat) (Option.some Jvm.ClassFile.FieldType.int) ∈ aWd := aWd_3 (List.mem_of_getElem? (i := 34) rfl) rfl
theorem wd_3_35 : Jvm.Cond.methodLink "ReadAloudLaw" (45 : Nat) ({ cls := "ReadAloudLaw", name := "size", desc := "(I)I" } : Jvm.MethodName) ∈ aWd := aWd_3 (List.mem_of_getElem? (i := 35) rfl) rfl
theorem wd_3_36 : Jvm.Cond.static ({ cls := "ReadAloudLaw", name := "size", desc := "(I)I" } : Jvm.MethodName) ∈ aWd := aWd_3 (List.mem_of_getElem? (i := 36) rfl) rfl
theorem wd_3_37 : Jvm.Cond.code ({ cls := "ReadAloudLaw", name := "size", desc := "(I)I" } : Jvm.MethodName) method_7_code (3 : Nat) (Option.some Jvm.ClassFile.FieldType.int) ∈ aWd := aWd_3 (List.mem_of_getElem? (i := 37) rfl) rfl
theorem wd_3_38 : Jvm.Cond.methodLink "ReadAloudLaw" (51 : Nat) ({ cls := "ReadAloud", name := "count", desc := "(I)I" } : Jvm.MethodName) ∈ aWd := aWd_3 (List.mem_of_getElem? (i := 38) rfl) rfl
theorem wd_3_39 : Jvm.Cond.instanceMethod ({ cls := "ReadAloud", name := "count", desc := "(I)I" } : Jvm.MethodName) ∈ aWd := aWd_3 (List.mem_of_getElem? (i := 39) rfl) rfl
theorem wd_3_40 : Jvm.Cond.selects "ReadAloud" ({ cls := "ReadAloud", name := "count", desc := "(I)I" } : Jvm.MethodName) ({ cls := "ReadAloud", name := "count", desc := "(I)I" } : Jvm.MethodName) ∈ aWd := aWd_3 (List.mem_of_getElem? (i := 40) rfl) rfl
theorem wd_3_41 : Jvm.Cond.code ({ cls := "ReadAloud", name := "count", desc := "(I)I" } : Jvm.MethodName) prog_1_method_22_code (2 : Nat) (Option.some Jvm.ClassFile.FieldType.int) ∈ aWd := aWd_3 (List.mem_of_getElem? (i := 41) rfl) rfl
theorem wd_3_42 : Jvm.Cond.methodLink "ReadAloud" (204 : Nat) ({ cls := "ReadAloud$Sheet", name := "unlikeWords", desc := "()I" } : Jvm.MethodName) ∈ aWd := aWd_3 (List.mem_of_getElem? (i := 42) rfl) rfl
theorem wd_3_43 : Jvm.Cond.instanceMethod ({ cls := "ReadAloud$Sheet", name := "unlikeWords", desc := "()I" } : Jvm.MethodName) ∈ aWd := aWd_3 (List.mem_of_getElem? (i := 43) rfl) rfl
theorem wd_3_44 : Jvm.Cond.selects "ReadAloud$Sheet" ({ cls := "ReadAloud$Sheet", name := "unlikeWords", desc := "()I" } : Jvm.MethodName) ({ cls := "ReadAloud$Sheet", name := "unlikeWords", desc := "()I" } : Jvm.MethodName) ∈ aWd := aWd_3 (List.mem_of_getElem? (i := 44) rfl) rfl
theorem wd_3_45 : Jvm.Cond.code ({ cls := "ReadAloud$Sheet", name := "unlikeWords", desc := "()I" } : Jvm.MethodName) prog_8_method_12_code (3 : Nat) (Option.some Jvm.ClassFile.FieldType.int) ∈ aWd := aWd_3 (List.mem_of_getElem? (i := 45) rfl) rfl
theorem wd_3_46 : Jvm.Cond.methodLink "ReadAloud$Sheet" (29 : Nat) ({ cls := "java/lang/Integer", name := "bitCount", desc := "(I)I" } : Jvm.MethodName) ∈ aWd := aWd_3 (List.mem_of_getElem? (i := 46) rfl) rfl
theorem wd_3_47 : Jvm.Cond.methodLink "ReadAloud" (188 : Nat) ({ cls := "ReadAloud$Heard", name := "size", desc := "()I" } : Jvm.MethodName) ∈ aWd := aWd_3 (List.mem_of_getElem? (i := 47) rfl) rfl
theorem wd_3_48 : Jvm.Cond.instanceMethod ({ cls := "ReadAloud$Heard", name := "size", desc := "()I" } : Jvm.MethodName) ∈ aWd := aWd_3 (List.mem_of_getElem? (i := 48) rfl) rfl
theorem wd_3_49 : Jvm.Cond.selects "ReadAloud$Heard" ({ cls := "ReadAloud$Heard", name := "size", desc := "()I" } : Jvm.MethodName) ({ cls := "ReadAloud$Heard", name := "size", desc := "()I" } : Jvm.MethodName) ∈ aWd := aWd_3 (List.mem_of_getElem? (i := 49) rfl) rfl
theorem wd_3_50 : Jvm.Cond.code ({ cls := "ReadAloud$Heard", name := "size", desc := "()I" } : Jvm.MethodName) prog_5_method_2_code (1 : Nat) (Option.some Jvm.ClassFile.FieldType.int) ∈ aWd := aWd_3 (List.mem_of_getElem? (i := 50) rfl) rfl
theorem wd_3_51 : Jvm.Cond.methodLink "ReadAloudLaw" (90 : Nat) ({ cls := "ReadAloudLaw", name := "does", desc := "(LReadAloud;[II)Z" } : Jvm.MethodName) ∈ aWd := aWd_3 (List.mem_of_getElem? (i := 51) rfl) rfl
theorem wd_3_52 : Jvm.Cond.static ({ cls := "ReadAloudLaw", name := "does", desc := "(LReadAloud;[II)Z" } : Jvm.MethodName) ∈ aWd := aWd_3 (List.mem_of_getElem? (i := 52) rfl) rfl
theorem wd_3_53 : Jvm.Cond.code ({ cls := "ReadAloudLaw", name := "does", desc := "(LReadAloud;[II)Z" } : Jvm.MethodName) method_13_code (6 : Nat) (Option.some Jvm.ClassFile.FieldType.boolean) ∈ aWd := aWd_3 (List.mem_of_getElem? (i := 53) rfl) rfl
theorem wd_3_54 : Jvm.Cond.methodLink "ReadAloudLaw" (94 : Nat) ({ cls := "ReadAloudLaw", name := "trials", desc := "(LReadAloud;[I[III)Z" } : Jvm.MethodName) ∈ aWd := aWd_3 (List.mem_of_getElem? (i := 54) rfl) rfl
theorem wd_3_55 : Jvm.Cond.static ({ cls := "ReadAloudLaw", name := "trials", desc := "(LReadAloud;[I[III)Z" } : Jvm.MethodName) ∈ aWd := aWd_3 (List.mem_of_getElem? (i := 55) rfl) rfl
theorem wd_3_56 : Jvm.Cond.code ({ cls := "ReadAloudLaw", name := "trials", desc := "(LReadAloud;[I[III)Z" } : Jvm.MethodName) method_15_code (13 : Nat) (Option.some Jvm.ClassFile.FieldType.boolean) ∈ aWd := aWd_3 (List.mem_of_getElem? (i := 56) rfl) rfl
theorem wd_3_57 : Jvm.Cond.methodLink "ReadAloudLaw" (104 : Nat) ({ cls := "ReadAloudLaw", name := "over", desc := "([I[I)V" } : Jvm.MethodName) ∈ aWd := aWd_3 (List.mem_of_getElem? (i := 57) rfl) rfl
theorem wd_3_58 : Jvm.Cond.static ({ cls := "ReadAloudLaw", name := "over", desc := "([I[I)V" } : Jvm.MethodName) ∈ aWd := aWd_3 (List.mem_of_getElem? (i := 58) rfl) rfl
theorem wd_3_59 : Jvm.Cond.code ({ cls := "ReadAloudLaw", name := "over", desc := "([I[I)V" } : Jvm.MethodName) method_11_code (3 : Nat) (Option.none : Option Jvm.ClassFile.FieldType) ∈ aWd := aWd_3 (List.mem_of_getElem? (i := 59) rfl) rfl
theorem wd_3_60 : Jvm.Cond.constantLong "ReadAloudLaw" (108 : Nat) (1103515245 : Int64) ∈ aWd := aWd_3 (List.mem_of_getElem? (i := 60) rfl) rfl
theorem wd_3_61 : Jvm.Cond.constantLong "ReadAloudLaw" (110 : Nat) (12345 : Int64) ∈ aWd := aWd_3 (List.mem_of_getElem? (i := 61) rfl) rfl
theorem wd_3_62 : Jvm.Cond.constantLong "ReadAloudLaw" (112 : Nat) (2147483648 : Int64) ∈ aWd := aWd_3 (List.mem_of_getElem? (i := 62) rfl) rfl
theorem wd_3_63 : Jvm.Cond.constantLong "ReadAloudLaw" (114 : Nat) (65536 : Int64) ∈ aWd := aWd_3 (List.mem_of_getElem? (i := 63) rfl) rfl
theorem wd_3_64 : Jvm.Cond.constantLong "ReadAloudLaw" (116 : Nat) (8 : Int64) ∈ aWd := aWd_3 (List.mem_of_getElem? (i := 64) rfl) rfl
theorem wd_3_65 : Jvm.Cond.constant "ReadAloudLaw" (93 : Nat) (2147483647 : Int32) ∈ aWd := aWd_3 (List.mem_of_getElem? (i := 65) rfl) rfl
theorem wd_3_66 : Jvm.Cond.sameMethod "ReadAloud$Stammerer" "ReadAloud$Stammerer" "placesAnyhow" "(LReadAloud$Sheet;)I" ∈ aWd := aWd_3 (List.mem_of_getElem? (i := 66) rfl) rfl
theorem uX0 : ∀ w ∈ u_ws RX0 TX0 1, w ∈ aWd := List.forall_mem_cons.mpr ⟨wd_2_65, fun _ h => absurd h List.not_mem_nil⟩
theorem uX1 : ∀ w ∈ u_ws RX1 TX1 1, w ∈ aWd := List.forall_mem_cons.mpr ⟨wd_2_73, fun _ h => absurd h List.not_mem_nil⟩
theorem uX2 : ∀ w ∈ u_ws RX2 TX2 3, w ∈ aWd := List.forall_mem_cons.mpr ⟨wd_1_128, List.forall_mem_cons.mpr ⟨wd_1_130, List.forall_mem_cons.mpr ⟨wd_1_132, fun _ h => absurd h List.not_mem_nil⟩⟩⟩
theorem uX3 : ∀ w ∈ u_ws RX3 TX3 3, w ∈ aWd := List.forall_mem_cons.mpr ⟨wd_1_86, List.forall_mem_cons.mpr ⟨wd_1_88, List.forall_mem_cons.mpr ⟨wd_1_90, fun _ h => absurd h List.not_mem_nil⟩⟩⟩
theorem uX4 : ∀ w ∈ u_ws RX4 TX4 1, w ∈ aWd := List.forall_mem_cons.mpr ⟨wd_2_85, fun _ h => absurd h List.not_mem_nil⟩
theorem uX5 : ∀ w ∈ u_ws RX5 TX5 3, w ∈ aWd := List.forall_mem_cons.mpr ⟨wd_1_49, List.forall_mem_cons.mpr ⟨wd_1_51, List.forall_mem_cons.mpr ⟨wd_1_53, fun _ h => absurd h List.not_mem_nil⟩⟩⟩
theorem uX6 : ∀ w ∈ u_ws RX6 TX6 2, w ∈ aWd := List.forall_mem_cons.mpr ⟨wd_1_72, List.forall_mem_cons.mpr ⟨wd_1_74, fun _ h => absurd h List.not_mem_nil⟩⟩
theorem uX7 : ∀ w ∈ u_ws RX7 TX7 1, w ∈ aWd := List.forall_mem_cons.mpr ⟨wd_2_56, fun _ h => absurd h List.not_mem_nil⟩
theorem uX8 : ∀ w ∈ u_ws RX8 TX8 6, w ∈ aWd := List.forall_mem_cons.mpr ⟨wd_1_105, List.forall_mem_cons.mpr ⟨wd_1_107, List.forall_mem_cons.mpr ⟨wd_1_109, List.forall_mem_cons.mpr ⟨wd_1_111, List.forall_mem_cons.mpr ⟨wd_1_113, List.forall_mem_cons.mpr ⟨wd_1_115, fun _ h => absurd h List.not_mem_nil⟩⟩⟩⟩⟩⟩
theorem uX9 : ∀ w ∈ u_ws RX9 TX9 3, w ∈ aWd := List.forall_mem_cons.mpr ⟨wd_1_38, List.forall_mem_cons.mpr ⟨wd_1_40, List.forall_mem_cons.mpr ⟨wd_1_42, fun _ h => absurd h List.not_mem_nil⟩⟩⟩
theorem uX10 : ∀ w ∈ u_ws RX10 TX10 1, w ∈ aWd := List.forall_mem_cons.mpr ⟨wd_2_81, fun _ h => absurd h List.not_mem_nil⟩
theorem uX11 : ∀ w ∈ u_ws RX11 TX11 10, w ∈ aWd := List.forall_mem_cons.mpr ⟨wd_1_145, List.forall_mem_cons.mpr ⟨wd_1_147, List.forall_mem_cons.mpr ⟨wd_1_149, List.forall_mem_cons.mpr ⟨wd_1_151, List.forall_mem_cons.mpr ⟨wd_1_153, List.forall_mem_cons.mpr ⟨wd_1_155, List.forall_mem_cons.mpr ⟨wd_1_157, List.forall_mem_cons.mpr ⟨wd_1_159, List.forall_mem_cons.mpr ⟨wd_1_161, List.forall_mem_cons.mpr ⟨wd_1_163, fun _ h => absurd h List.not_mem_nil⟩⟩⟩⟩⟩⟩⟩⟩⟩⟩
theorem fX11_10_X11 : aFl RX11 10 11 0 := ⟨RX11, TX11, 10, "ReadAloud", rfl, by decide, uX11, wd_1_135, rfl⟩
theorem fX11_16_X11 : aFl RX11 16 11 1 := ⟨RX11, TX11, 10, "ReadAloud", rfl, by decide, uX11, wd_1_136, rfl⟩
theorem fX11_22_X11 : aFl RX11 22 11 2 := ⟨RX11, TX11, 10, "ReadAloud", rfl, by decide, uX11, wd_1_137, rfl⟩
theorem fX11_29_X11 : aFl RX11 29 11 3 := ⟨RX11, TX11, 10, "ReadAloud", rfl, by decide, uX11, wd_1_138, rfl⟩
theorem fX11_33_X11 : aFl RX11 33 11 4 := ⟨RX11, TX11, 10, "ReadAloud", rfl, by decide, uX11, wd_1_139, rfl⟩
theorem fX11_39_X11 : aFl RX11 39 11 5 := ⟨RX11, TX11, 10, "ReadAloud", rfl, by decide, uX11, wd_1_140, rfl⟩
theorem fX11_46_X11 : aFl RX11 46 11 6 := ⟨RX11, TX11, 10, "ReadAloud", rfl, by decide, uX11, wd_1_141, rfl⟩
theorem fX11_71_X11 : aFl RX11 71 11 7 := ⟨RX11, TX11, 10, "ReadAloud", rfl, by decide, uX11, wd_1_142, rfl⟩
theorem fX11_75_X11 : aFl RX11 75 11 8 := ⟨RX11, TX11, 10, "ReadAloud", rfl, by decide, uX11, wd_1_143, rfl⟩
theorem fX11_79_X8 : aFl RX11 79 8 0 := ⟨RX8, TX8, 6, "ReadAloud$State", rfl, by decide, uX8, wd_1_94, rfl⟩
theorem fX11_100_X8 : aFl RX11 100 8 5 := ⟨RX8, TX8, 6, "ReadAloud$State", rfl, by decide, uX8, wd_1_104, rfl⟩
theorem fX11_103_X8 : aFl RX11 103 8 3 := ⟨RX8, TX8, 6, "ReadAloud$State", rfl, by decide, uX8, wd_1_100, rfl⟩
theorem fX11_109_X8 : aFl RX11 109 8 4 := ⟨RX8, TX8, 6, "ReadAloud$State", rfl, by decide, uX8, wd_1_102, rfl⟩
theorem fX11_115_X8 : aFl RX11 115 8 2 := ⟨RX8, TX8, 6, "ReadAloud$State", rfl, by decide, uX8, wd_1_98, rfl⟩
theorem fX11_140_X8 : aFl RX11 140 8 1 := ⟨RX8, TX8, 6, "ReadAloud$State", rfl, by decide, uX8, wd_1_96, rfl⟩
theorem fX11_159_X11 : aFl RX11 159 11 9 := ⟨RX11, TX11, 10, "ReadAloud", rfl, by decide, uX11, wd_1_144, rfl⟩
theorem fX2_9_X2 : aFl RX2 9 2 0 := ⟨RX2, TX2, 3, "ReadAloud$Brief", rfl, by decide, uX2, wd_1_126, rfl⟩
theorem fX2_15_X2 : aFl RX2 15 2 1 := ⟨RX2, TX2, 3, "ReadAloud$Brief", rfl, by decide, uX2, wd_1_127, rfl⟩
theorem fX3_9_X3 : aFl RX3 9 3 0 := ⟨RX3, TX3, 3, "ReadAloud$Heard", rfl, by decide, uX3, wd_1_83, rfl⟩
theorem fX3_15_X3 : aFl RX3 15 3 1 := ⟨RX3, TX3, 3, "ReadAloud$Heard", rfl, by decide, uX3, wd_1_84, rfl⟩
theorem fX3_18_X3 : aFl RX3 18 3 2 := ⟨RX3, TX3, 3, "ReadAloud$Heard", rfl, by decide, uX3, wd_1_85, rfl⟩
theorem fX4_7_X0 : aFl RX4 7 0 0 := ⟨RX0, TX0, 1, "ReadAloud$Man", rfl, by decide, uX0, wd_2_55, rfl⟩
theorem fX4_7_X1 : aFl RX4 7 1 0 := ⟨RX1, TX1, 1, "ReadAloud$Man", rfl, by decide, uX1, wd_2_55, rfl⟩
theorem fX4_7_X4 : aFl RX4 7 4 0 := ⟨RX4, TX4, 1, "ReadAloud$Man", rfl, by decide, uX4, wd_2_55, rfl⟩
theorem fX4_7_X7 : aFl RX4 7 7 0 := ⟨RX7, TX7, 1, "ReadAloud$Man", rfl, by decide, uX7, wd_2_55, rfl⟩
theorem fX4_7_X10 : aFl RX4 7 10 0 := ⟨RX10, TX10, 1, "ReadAloud$Man", rfl, by decide, uX10, wd_2_55, rfl⟩
theorem fX5_9_X5 : aFl RX5 9 5 0 := ⟨RX5, TX5, 3, "ReadAloud$Page", rfl, by decide, uX5, wd_1_46, rfl⟩
theorem fX5_18_X5 : aFl RX5 18 5 1 := ⟨RX5, TX5, 3, "ReadAloud$Page", rfl, by decide, uX5, wd_1_47, rfl⟩
theorem fX5_22_X5 : aFl RX5 22 5 2 := ⟨RX5, TX5, 3, "ReadAloud$Page", rfl, by decide, uX5, wd_1_48, rfl⟩
theorem fX6_9_X6 : aFl RX6 9 6 0 := ⟨RX6, TX6, 2, "ReadAloud$Sheet", rfl, by decide, uX6, wd_1_70, rfl⟩
theorem fX6_15_X6 : aFl RX6 15 6 1 := ⟨RX6, TX6, 2, "ReadAloud$Sheet", rfl, by decide, uX6, wd_1_71, rfl⟩
theorem fX8_12_X8 : aFl RX8 12 8 0 := ⟨RX8, TX8, 6, "ReadAloud$State", rfl, by decide, uX8, wd_1_93, rfl⟩
theorem fX8_21_X8 : aFl RX8 21 8 1 := ⟨RX8, TX8, 6, "ReadAloud$State", rfl, by decide, uX8, wd_1_95, rfl⟩
theorem fX8_25_X8 : aFl RX8 25 8 2 := ⟨RX8, TX8, 6, "ReadAloud$State", rfl, by decide, uX8, wd_1_97, rfl⟩
theorem fX8_33_X8 : aFl RX8 33 8 3 := ⟨RX8, TX8, 6, "ReadAloud$State", rfl, by decide, uX8, wd_1_99, rfl⟩
theorem fX8_37_X8 : aFl RX8 37 8 4 := ⟨RX8, TX8, 6, "ReadAloud$State", rfl, by decide, uX8, wd_1_101, rfl⟩
theorem fX8_40_X8 : aFl RX8 40 8 5 := ⟨RX8, TX8, 6, "ReadAloud$State", rfl, by decide, uX8, wd_1_103, rfl⟩
theorem fX9_22_X9 : aFl RX9 22 9 0 := ⟨RX9, TX9, 3, "ReadAloud$Walk", rfl, by decide, uX9, wd_1_35, rfl⟩
theorem fX9_26_X9 : aFl RX9 26 9 1 := ⟨RX9, TX9, 3, "ReadAloud$Walk", rfl, by decide, uX9, wd_1_36, rfl⟩
theorem fX9_29_X9 : aFl RX9 29 9 2 := ⟨RX9, TX9, 3, "ReadAloud$Walk", rfl, by decide, uX9, wd_1_37, rfl⟩
theorem pX0_0 : aFp 0 0 .int true := ⟨RX0, TX0, 1, tyX0, rfl, tyX0_ok, nmX0, rfl, by decide +kernel⟩
theorem pX1_0 : aFp 1 0 .int true := ⟨RX1, TX1, 1, tyX1, rfl, tyX1_ok, nmX1, rfl, by decide +kernel⟩
theorem pX2_0 : aFp 2 0 (.array .int) true := ⟨RX2, TX2, 3, tyX2, rfl, tyX2_ok, nmX2, rfl, by decide +kernel⟩
theorem pX2_1 : aFp 2 1 (.array .int) true := ⟨RX2, TX2, 3, tyX2, rfl, tyX2_ok, nmX2, rfl, by decide +kernel⟩
theorem pX2_2 : aFp 2 2 .int false := ⟨RX2, TX2, 3, tyX2, rfl, tyX2_ok, nmX2, rfl, by decide +kernel⟩
theorem pX3_0 : aFp 3 0 (.array .int) true := ⟨RX3, TX3, 3, tyX3, rfl, tyX3_ok, nmX3, rfl, by decide +kernel⟩
theorem pX3_1 : aFp 3 1 (.array .int) true := ⟨RX3, TX3, 3, tyX3, rfl, tyX3_ok, nmX3, rfl, by decide +kernel⟩
theorem pX3_2 : aFp 3 2 .int false := ⟨RX3, TX3, 3, tyX3, rfl, tyX3_ok, nmX3, rfl, by decide +kernel⟩
theorem pX4_0 : aFp 4 0 .int true := ⟨RX4, TX4, 1, tyX4, rfl, tyX4_ok, nmX4, rfl, by decide +kernel⟩
theorem pX5_0 : aFp 5 0 (.array .int) true := ⟨RX5, TX5, 3, tyX5, rfl, tyX5_ok, nmX5, rfl, by decide +kernel⟩
theorem pX5_1 : aFp 5 1 (.object "ReadAloud$Walk") true := ⟨RX5, TX5, 3, tyX5, rfl, tyX5_ok, nmX5, rfl, by decide +kernel⟩
theorem pX5_2 : aFp 5 2 .int false := ⟨RX5, TX5, 3, tyX5, rfl, tyX5_ok, nmX5, rfl, by decide +kernel⟩
theorem pX6_0 : aFp 6 0 (.array .int) true := ⟨RX6, TX6, 2, tyX6, rfl, tyX6_ok, nmX6, rfl, by decide +kernel⟩
theorem pX6_1 : aFp 6 1 .int false := ⟨RX6, TX6, 2, tyX6, rfl, tyX6_ok, nmX6, rfl, by decide +kernel⟩
theorem pX7_0 : aFp 7 0 .int true := ⟨RX7, TX7, 1, tyX7, rfl, tyX7_ok, nmX7, rfl, by decide +kernel⟩
theorem pX8_0 : aFp 8 0 (.object "ReadAloud$Sheet") true := ⟨RX8, TX8, 6, tyX8, rfl, tyX8_ok, nmX8, rfl, by decide +kernel⟩
theorem pX8_1 : aFp 8 1 (.object "ReadAloud$Heard") true := ⟨RX8, TX8, 6, tyX8, rfl, tyX8_ok, nmX8, rfl, by decide +kernel⟩
theorem pX8_2 : aFp 8 2 (.array .int) true := ⟨RX8, TX8, 6, tyX8, rfl, tyX8_ok, nmX8, rfl, by decide +kernel⟩
theorem pX8_3 : aFp 8 3 .int false := ⟨RX8, TX8, 6, tyX8, rfl, tyX8_ok, nmX8, rfl, by decide +kernel⟩
theorem pX8_4 : aFp 8 4 .int false := ⟨RX8, TX8, 6, tyX8, rfl, tyX8_ok, nmX8, rfl, by decide +kernel⟩
theorem pX8_5 : aFp 8 5 .int false := ⟨RX8, TX8, 6, tyX8, rfl, tyX8_ok, nmX8, rfl, by decide +kernel⟩
theorem pX9_0 : aFp 9 0 .int false := ⟨RX9, TX9, 3, tyX9, rfl, tyX9_ok, nmX9, rfl, by decide +kernel⟩
theorem pX9_1 : aFp 9 1 .int false := ⟨RX9, TX9, 3, tyX9, rfl, tyX9_ok, nmX9, rfl, by decide +kernel⟩
theorem pX9_2 : aFp 9 2 .int false := ⟨RX9, TX9, 3, tyX9, rfl, tyX9_ok, nmX9, rfl, by decide +kernel⟩
theorem pX10_0 : aFp 10 0 .int true := ⟨RX10, TX10, 1, tyX10, rfl, tyX10_ok, nmX10, rfl, by decide +kernel⟩
theorem pX11_0 : aFp 11 0 (.object "ReadAloud$Page") true := ⟨RX11, TX11, 10, tyX11, rfl, tyX11_ok, nmX11, rfl, by decide +kernel⟩
theorem pX11_1 : aFp 11 1 (.array .int) true := ⟨RX11, TX11, 10, tyX11, rfl, tyX11_ok, nmX11, rfl, by decide +kernel⟩
theorem pX11_2 : aFp 11 2 (.array (.object "ReadAloud$Man")) true := ⟨RX11, TX11, 10, tyX11, rfl, tyX11_ok, nmX11, rfl, by decide +kernel⟩
theorem pX11_3 : aFp 11 3 (.object "ReadAloud$State") true := ⟨RX11, TX11, 10, tyX11, rfl, tyX11_ok, nmX11, rfl, by decide +kernel⟩
theorem pX11_4 : aFp 11 4 (.object "ReadAloud$State") true := ⟨RX11, TX11, 10, tyX11, rfl, tyX11_ok, nmX11, rfl, by decide +kernel⟩
theorem pX11_5 : aFp 11 5 (.object "ReadAloud$Sheet") true := ⟨RX11, TX11, 10, tyX11, rfl, tyX11_ok, nmX11, rfl, by decide +kernel⟩
theorem pX11_6 : aFp 11 6 (.object "ReadAloud$Brief") true := ⟨RX11, TX11, 10, tyX11, rfl, tyX11_ok, nmX11, rfl, by decide +kernel⟩
theorem pX11_7 : aFp 11 7 .boolean false := ⟨RX11, TX11, 10, tyX11, rfl, tyX11_ok, nmX11, rfl, by decide +kernel⟩
theorem pX11_8 : aFp 11 8 .int false := ⟨RX11, TX11, 10, tyX11, rfl, tyX11_ok, nmX11, rfl, by decide +kernel⟩
theorem pX11_9 : aFp 11 9 .int false := ⟨RX11, TX11, 10, tyX11, rfl, tyX11_ok, nmX11, rfl, by decide +kernel⟩
theorem kL_70 : aLI RL 70 yX11_init cX11_init 1 0 := ⟨wd_1_17, wd_1_18, wd_1_1, wd_1_19, rfl, ⟨by decide +kernel, by decide +kernel, by decide +kernel⟩⟩
theorem kL_8 : aLSt RL 8 yL_cell cL_cell 2 (some .int) 2 := ⟨wd_2_239, wd_3_0, wd_1_0, wd_3_1, ⟨by decide +kernel, by decide +kernel, by decide +kernel⟩⟩
theorem kL_14 : aLSt RL 14 yL_at cL_at 2 (some .int) 2 := ⟨wd_3_3, wd_3_4, wd_1_0, wd_3_5, ⟨by decide +kernel, by decide +kernel, by decide +kernel⟩⟩
theorem kL_18 : aLSt RL 18 yL_in cL_in 2 (some .boolean) 2 := ⟨wd_3_9, wd_3_10, wd_1_0, wd_3_11, ⟨by decide +kernel, by decide +kernel, by decide +kernel⟩⟩
theorem kL_31 : aLSt RL 31 yL_alters cL_alters 9 (some .int) 4 := ⟨wd_3_32, wd_3_33, wd_1_0, wd_3_34, ⟨by decide +kernel, by decide +kernel, by decide +kernel⟩⟩
theorem kL_41 : aLSt RL 41 yL_now cL_now 3 (some .int) 3 := ⟨wd_3_29, wd_3_30, wd_1_0, wd_3_31, ⟨by decide +kernel, by decide +kernel, by decide +kernel⟩⟩
theorem kL_45 : aLSt RL 45 yL_size cL_size 3 (some .int) 1 := ⟨wd_3_35, wd_3_36, wd_1_0, wd_3_37, ⟨by decide +kernel, by decide +kernel, by decide +kernel⟩⟩
theorem kL_60 : aLSt RL 60 yL_come cL_come 5 (some .boolean) 4 := ⟨wd_3_23, wd_3_24, wd_1_0, wd_3_25, ⟨by decide +kernel, by decide +kernel, by decide +kernel⟩⟩
theorem kL_71 : aLSt RL 71 yL_courtText cL_courtText 11 (some .int) 5 := ⟨wd_3_6, wd_3_7, wd_1_0, wd_3_8, ⟨by decide +kernel, by decide +kernel, by decide +kernel⟩⟩
theorem kL_75 : aLSt RL 75 yL_write cL_write 4 (some .boolean) 3 := ⟨wd_3_12, wd_3_13, wd_1_0, wd_3_14, ⟨by decide +kernel, by decide +kernel, by decide +kernel⟩⟩
theorem kL_86 : aLSt RL 86 yL_stands cL_stands 8 (some .boolean) 3 := ⟨wd_3_26, wd_3_27, wd_1_0, wd_3_28, ⟨by decide +kernel, by decide +kernel, by decide +kernel⟩⟩
theorem kL_90 : aLSt RL 90 yL_does cL_does 6 (some .boolean) 3 := ⟨wd_3_51, wd_3_52, wd_1_0, wd_3_53, ⟨by decide +kernel, by decide +kernel, by decide +kernel⟩⟩
theorem kL_94 : aLSt RL 94 yL_trials cL_trials 13 (some .boolean) 5 := ⟨wd_3_54, wd_3_55, wd_1_0, wd_3_56, ⟨by decide +kernel, by decide +kernel, by decide +kernel⟩⟩
theorem kL_104 : aLSt RL 104 yL_over cL_over 3 none 2 := ⟨wd_3_57, wd_3_58, wd_1_0, wd_3_59, ⟨by decide +kernel, by decide +kernel, by decide +kernel⟩⟩
theorem kL_22 : aLV RL 22 RX11 yX11_letter cX11_letter 2 (some .int) 1 := ⟨wd_3_15, wd_3_16, wd_3_17, wd_1_1, wd_3_18, rfl, ⟨by decide +kernel, by decide +kernel, by decide +kernel⟩⟩
theorem kL_28 : aLV RL 28 RX11 yX11_accuse cX11_accuse 4 (some .int) 2 := ⟨wd_2_36, wd_2_37, wd_2_38, wd_1_1, wd_2_39, rfl, ⟨by decide +kernel, by decide +kernel, by decide +kernel⟩⟩
theorem kL_35 : aLV RL 35 RX11 yX11_near cX11_near 2 (some .int) 1 := ⟨wd_2_3, wd_2_4, wd_2_5, wd_1_1, wd_2_6, rfl, ⟨by decide +kernel, by decide +kernel, by decide +kernel⟩⟩
theorem kL_38 : aLV RL 38 RX11 yX11_word cX11_word 2 (some .int) 1 := ⟨wd_2_11, wd_2_12, wd_2_13, wd_1_1, wd_2_14, rfl, ⟨by decide +kernel, by decide +kernel, by decide +kernel⟩⟩
theorem kL_48 : aLV RL 48 RX11 yX11_about cX11_about 4 (some .int) 2 := ⟨wd_2_87, wd_2_88, wd_2_89, wd_1_1, wd_2_90, rfl, ⟨by decide +kernel, by decide +kernel, by decide +kernel⟩⟩
theorem kL_51 : aLV RL 51 RX11 yX11_count cX11_count 2 (some .int) 1 := ⟨wd_3_38, wd_3_39, wd_3_40, wd_1_1, wd_3_41, rfl, ⟨by decide +kernel, by decide +kernel, by decide +kernel⟩⟩
theorem kL_54 : aLV RL 54 RX11 yX11_put cX11_put 4 (some .int) 2 := ⟨wd_2_24, wd_2_25, wd_2_26, wd_1_1, wd_2_27, rfl, ⟨by decide +kernel, by decide +kernel, by decide +kernel⟩⟩
theorem kL_57 : aLV RL 57 RX11 yX11_limit cX11_limit 3 (some .int) 1 := ⟨wd_2_32, wd_2_33, wd_2_34, wd_1_1, wd_2_35, rfl, ⟨by decide +kernel, by decide +kernel, by decide +kernel⟩⟩
theorem kL_64 : aLV RL 64 RX11 yX11_lesson cX11_lesson 4 (some .int) 2 := ⟨wd_2_211, wd_2_212, wd_2_213, wd_1_1, wd_2_214, rfl, ⟨by decide +kernel, by decide +kernel, by decide +kernel⟩⟩
theorem kL_67 : aLV RL 67 RX11 yX11_unlearn cX11_unlearn 3 (some .int) 1 := ⟨wd_2_215, wd_2_216, wd_2_217, wd_1_1, wd_2_218, rfl, ⟨by decide +kernel, by decide +kernel, by decide +kernel⟩⟩
theorem kL_79 : aLV RL 79 RX11 yX11_fault cX11_fault 1 (some .int) 0 := ⟨wd_1_166, wd_1_167, wd_1_168, wd_1_1, wd_1_169, rfl, ⟨by decide +kernel, by decide +kernel, by decide +kernel⟩⟩
theorem kL_83 : aLV RL 83 RX11 yX11_court cX11_court 1 (some .int) 0 := ⟨wd_1_193, wd_1_194, wd_1_195, wd_1_1, wd_1_196, rfl, ⟨by decide +kernel, by decide +kernel, by decide +kernel⟩⟩
theorem kL_98 : aLV RL 98 RX11 yX11_as cX11_as 4 (some .int) 2 := ⟨wd_2_204, wd_2_205, wd_2_206, wd_1_1, wd_2_207, rfl, ⟨by decide +kernel, by decide +kernel, by decide +kernel⟩⟩
theorem kL_101 : aLV RL 101 RX11 yX11_trials cX11_trials 8 (some .int) 3 := ⟨wd_2_219, wd_2_220, wd_2_221, wd_1_1, wd_2_222, rfl, ⟨by decide +kernel, by decide +kernel, by decide +kernel⟩⟩
theorem kX0_1 : aLI RX0 1 yX4_init cX4_init 2 1 := ⟨wd_2_64, wd_2_52, wd_1_10, wd_2_53, rfl, ⟨by decide +kernel, by decide +kernel, by decide +kernel⟩⟩
theorem kX0_7 : aLV RX0 7 RX6 yX6_firstPlacesOf cX6_firstPlacesOf 5 (some .int) 1 := ⟨wd_2_148, wd_2_149, wd_2_150, wd_1_5, wd_2_151, rfl, ⟨by decide +kernel, by decide +kernel, by decide +kernel⟩⟩
theorem kX1_1 : aLI RX1 1 yX4_init cX4_init 2 1 := ⟨wd_2_72, wd_2_52, wd_1_10, wd_2_53, rfl, ⟨by decide +kernel, by decide +kernel, by decide +kernel⟩⟩
theorem kX1_7 : aLV RX1 7 RX6 yX6_placesOf cX6_placesOf 4 (some .int) 1 := ⟨wd_2_155, wd_2_156, wd_2_157, wd_1_5, wd_2_158, rfl, ⟨by decide +kernel, by decide +kernel, by decide +kernel⟩⟩
theorem kX1_13 : aLV RX1 13 RX6 yX6_placesBehind cX6_placesBehind 2 (some .int) 1 := ⟨wd_2_159, wd_2_160, wd_2_161, wd_1_5, wd_2_162, rfl, ⟨by decide +kernel, by decide +kernel, by decide +kernel⟩⟩
theorem kX10_1 : aLI RX10 1 yX7_init cX7_init 2 1 := ⟨wd_2_80, wd_2_49, wd_1_11, wd_2_50, rfl, ⟨by decide +kernel, by decide +kernel, by decide +kernel⟩⟩
theorem kX10_7 : aLSu RX10 7 yX7_placesAnyhow cX7_placesAnyhow 2 (some .int) 1 := ⟨wd_2_179, wd_3_66, wd_2_82, wd_2_174, wd_1_11, wd_2_175, by decide +kernel, by decide +kernel⟩
theorem kX10_13 : aLV RX10 13 RX6 yX6_placesOf cX6_placesOf 4 (some .int) 1 := ⟨wd_2_180, wd_2_156, wd_2_157, wd_1_5, wd_2_158, rfl, ⟨by decide +kernel, by decide +kernel, by decide +kernel⟩⟩
theorem kX11_1 : Cond.methodLink RX11 1 Lib.objectInit ∈ aWd := wd_1_20
theorem kX11_9 : aLIn RX11 9 yX5_init "ReadAloud" cX5_init 1 0 := ⟨List.mem_of_getElem? (i := 0) rfl, wd_1_26, wd_1_2, wd_1_27, rfl, ⟨by decide +kernel, by decide +kernel, by decide +kernel⟩⟩
theorem kX11_28 : aLIn RX11 28 yX8_init "ReadAloud" cX8_init 1 0 := ⟨List.mem_of_getElem? (i := 2) rfl, wd_1_61, wd_1_4, wd_1_62, rfl, ⟨by decide +kernel, by decide +kernel, by decide +kernel⟩⟩
theorem kX11_38 : aLIn RX11 38 yX6_init "ReadAloud" cX6_init 1 0 := ⟨List.mem_of_getElem? (i := 5) rfl, wd_1_67, wd_1_5, wd_1_68, rfl, ⟨by decide +kernel, by decide +kernel, by decide +kernel⟩⟩
theorem kX11_45 : aLIn RX11 45 yX2_init "ReadAloud" cX2_init 1 0 := ⟨List.mem_of_getElem? (i := 6) rfl, wd_1_123, wd_1_7, wd_1_124, rfl, ⟨by decide +kernel, by decide +kernel, by decide +kernel⟩⟩
theorem kX11_228 : aLI RX11 228 yX7_init cX7_init 2 1 := ⟨wd_2_48, wd_2_49, wd_1_11, wd_2_50, rfl, ⟨by decide +kernel, by decide +kernel, by decide +kernel⟩⟩
theorem kX11_233 : aLI RX11 233 yX0_init cX0_init 2 1 := ⟨wd_2_61, wd_2_62, wd_1_12, wd_2_63, rfl, ⟨by decide +kernel, by decide +kernel, by decide +kernel⟩⟩
theorem kX11_236 : aLI RX11 236 yX1_init cX1_init 2 1 := ⟨wd_2_69, wd_2_70, wd_1_13, wd_2_71, rfl, ⟨by decide +kernel, by decide +kernel, by decide +kernel⟩⟩
theorem kX11_239 : aLI RX11 239 yX10_init cX10_init 2 1 := ⟨wd_2_77, wd_2_78, wd_1_14, wd_2_79, rfl, ⟨by decide +kernel, by decide +kernel, by decide +kernel⟩⟩
theorem kX11_240 : aLI RX11 240 yX4_init cX4_init 2 1 := ⟨wd_2_84, wd_2_52, wd_1_10, wd_2_53, rfl, ⟨by decide +kernel, by decide +kernel, by decide +kernel⟩⟩
theorem kX11_93 : aLSt RX11 93 yX11_isWord cX11_isWord 1 (some .boolean) 1 := ⟨wd_1_230, wd_1_187, wd_1_1, wd_1_188, ⟨by decide +kernel, by decide +kernel, by decide +kernel⟩⟩
theorem kX11_106 : aLSt RX11 106 yX11_isKind cX11_isKind 1 (some .boolean) 1 := ⟨wd_2_40, wd_2_41, wd_1_1, wd_2_42, ⟨by decide +kernel, by decide +kernel, by decide +kernel⟩⟩
theorem kX11_111 : aLSt RX11 111 yX11_manOfKind cX11_manOfKind 2 (some (.object "ReadAloud$Man")) 2 := ⟨wd_2_43, wd_2_44, wd_1_1, wd_2_45, ⟨by decide +kernel, by decide +kernel, by decide +kernel⟩⟩
theorem kX11_132 : aLSt RX11 132 yJ6_bitCount_0f7a4 cJ6_bitCount_0f7a4 1 (some .int) 1 := ⟨wd_2_183, wd_2_184, wd_1_8, wd_2_185, ⟨by decide +kernel, by decide +kernel, by decide +kernel⟩⟩
theorem kX11_152 : aLSt RX11 152 yX11_isOfKind cX11_isOfKind 2 (some .boolean) 2 := ⟨wd_2_208, wd_2_209, wd_1_1, wd_2_210, ⟨by decide +kernel, by decide +kernel, by decide +kernel⟩⟩
theorem kX11_253 : Cond.methodLink RX11 253 Lib.Math.max.name ∈ aWd := wd_2_201
theorem kX11_50 : aLV RX11 50 RX5 yX5_add cX5_add 2 (some .boolean) 1 := ⟨wd_3_19, wd_3_20, wd_3_21, wd_1_2, wd_3_22, rfl, ⟨by decide +kernel, by decide +kernel, by decide +kernel⟩⟩
theorem kX11_54 : aLV RX11 54 RX5 yX5_size cX5_size 1 (some .int) 0 := ⟨wd_1_222, wd_1_223, wd_1_224, wd_1_2, wd_1_225, rfl, ⟨by decide +kernel, by decide +kernel, by decide +kernel⟩⟩
theorem kX11_58 : aLV RX11 58 RX5 yX5_clear cX5_clear 1 none 0 := ⟨wd_1_235, wd_1_236, wd_1_237, wd_1_2, wd_1_238, rfl, ⟨by decide +kernel, by decide +kernel, by decide +kernel⟩⟩
theorem kX11_61 : aLV RX11 61 RX5 yX5_faultPlace cX5_faultPlace 2 (some .int) 0 := ⟨wd_1_170, wd_1_171, wd_1_172, wd_1_2, wd_1_173, rfl, ⟨by decide +kernel, by decide +kernel, by decide +kernel⟩⟩
theorem kX11_64 : aLV RX11 64 RX5 yX5_isCourt cX5_isCourt 1 (some .boolean) 0 := ⟨wd_1_197, wd_1_198, wd_1_199, wd_1_2, wd_1_200, rfl, ⟨by decide +kernel, by decide +kernel, by decide +kernel⟩⟩
theorem kX11_68 : aLV RX11 68 RX11 yX11_readCourt cX11_readCourt 4 none 0 := ⟨wd_1_206, wd_1_208, (aWd_p (List.mem_of_getElem? (i := 2) rfl)), wd_1_1, wd_1_209, rfl, ⟨by decide +kernel, by decide +kernel, by decide +kernel⟩⟩
theorem kX11_82 : aLV RX11 82 RX6 yX6_size cX6_size 1 (some .int) 0 := ⟨wd_1_239, wd_2_0, wd_2_1, wd_1_5, wd_2_2, rfl, ⟨by decide +kernel, by decide +kernel, by decide +kernel⟩⟩
theorem kX11_83 : aLV RX11 83 RX11 yX11_hasCourt cX11_hasCourt 1 (some .boolean) 0 := ⟨wd_2_7, wd_2_9, (aWd_p (List.mem_of_getElem? (i := 3) rfl)), wd_1_1, wd_2_10, rfl, ⟨by decide +kernel, by decide +kernel, by decide +kernel⟩⟩
theorem kX11_86 : aLV RX11 86 RX6 yX6_has cX6_has 2 (some .boolean) 1 := ⟨wd_2_15, wd_2_16, wd_2_17, wd_1_5, wd_2_18, rfl, ⟨by decide +kernel, by decide +kernel, by decide +kernel⟩⟩
theorem kX11_89 : aLV RX11 89 RX6 yX6_at cX6_at 2 (some .int) 1 := ⟨wd_2_19, wd_2_20, wd_2_21, wd_1_5, wd_2_22, rfl, ⟨by decide +kernel, by decide +kernel, by decide +kernel⟩⟩
theorem kX11_96 : aLV RX11 96 RX6 yX6_set cX6_set 3 none 2 := ⟨wd_2_28, wd_2_29, wd_2_30, wd_1_5, wd_2_31, rfl, ⟨by decide +kernel, by decide +kernel, by decide +kernel⟩⟩
theorem kX11_118 : aLV RX11 118 RX11 yX11_manOf cX11_manOf 2 (some (.object "ReadAloud$Man")) 1 := ⟨wd_2_91, wd_2_93, (aWd_p (List.mem_of_getElem? (i := 4) rfl)), wd_1_1, wd_2_94, rfl, ⟨by decide +kernel, by decide +kernel, by decide +kernel⟩⟩
theorem kX11_122_X0 : aLU RX11 122 RX0 RX4 yX4_kind yX0_kind cX0_kind 1 (some .int) 0 := ⟨wd_2_99, wd_2_102, wd_2_100, wd_2_103, wd_2_104, wd_1_12, wd_2_105, ⟨_, _, _, wd_2_115⟩, ⟨by decide +kernel, by decide +kernel, by decide +kernel⟩⟩
theorem kX11_122_X1 : aLU RX11 122 RX1 RX4 yX4_kind yX1_kind cX1_kind 1 (some .int) 0 := ⟨wd_2_99, wd_2_102, wd_2_100, wd_2_106, wd_2_107, wd_1_13, wd_2_108, ⟨_, _, _, wd_2_115⟩, ⟨by decide +kernel, by decide +kernel, by decide +kernel⟩⟩
theorem kX11_122_X4 : aLV RX11 122 RX4 yX4_kind cX4_kind 1 (some .int) 0 := ⟨wd_2_99, wd_2_100, wd_2_101, wd_1_10, wd_2_115, rfl, ⟨by decide +kernel, by decide +kernel, by decide +kernel⟩⟩
theorem kX11_122_X7 : aLU RX11 122 RX7 RX4 yX4_kind yX7_kind cX7_kind 1 (some .int) 0 := ⟨wd_2_99, wd_2_102, wd_2_100, wd_2_109, wd_2_110, wd_1_11, wd_2_111, ⟨_, _, _, wd_2_115⟩, ⟨by decide +kernel, by decide +kernel, by decide +kernel⟩⟩
theorem kX11_122_X10 : aLU RX11 122 RX10 RX4 yX4_kind yX10_kind cX10_kind 1 (some .int) 0 := ⟨wd_2_99, wd_2_102, wd_2_100, wd_2_112, wd_2_113, wd_1_14, wd_2_114, ⟨_, _, _, wd_2_115⟩, ⟨by decide +kernel, by decide +kernel, by decide +kernel⟩⟩
theorem kX11_125_X0 : aLU RX11 125 RX0 RX4 yX4_deed yX4_deed cX4_deed 1 (some .int) 0 := ⟨wd_2_116, wd_2_119, wd_2_117, wd_2_120, wd_2_117, wd_1_10, wd_2_124, ⟨_, _, _, wd_2_124⟩, ⟨by decide +kernel, by decide +kernel, by decide +kernel⟩⟩
theorem kX11_125_X1 : aLU RX11 125 RX1 RX4 yX4_deed yX4_deed cX4_deed 1 (some .int) 0 := ⟨wd_2_116, wd_2_119, wd_2_117, wd_2_121, wd_2_117, wd_1_10, wd_2_124, ⟨_, _, _, wd_2_124⟩, ⟨by decide +kernel, by decide +kernel, by decide +kernel⟩⟩
theorem kX11_125_X4 : aLV RX11 125 RX4 yX4_deed cX4_deed 1 (some .int) 0 := ⟨wd_2_116, wd_2_117, wd_2_118, wd_1_10, wd_2_124, rfl, ⟨by decide +kernel, by decide +kernel, by decide +kernel⟩⟩
theorem kX11_125_X7 : aLU RX11 125 RX7 RX4 yX4_deed yX4_deed cX4_deed 1 (some .int) 0 := ⟨wd_2_116, wd_2_119, wd_2_117, wd_2_122, wd_2_117, wd_1_10, wd_2_124, ⟨_, _, _, wd_2_124⟩, ⟨by decide +kernel, by decide +kernel, by decide +kernel⟩⟩
theorem kX11_125_X10 : aLU RX11 125 RX10 RX4 yX4_deed yX4_deed cX4_deed 1 (some .int) 0 := ⟨wd_2_116, wd_2_119, wd_2_117, wd_2_123, wd_2_117, wd_1_10, wd_2_124, ⟨_, _, _, wd_2_124⟩, ⟨by decide +kernel, by decide +kernel, by decide +kernel⟩⟩
theorem kX11_128 : aLV RX11 128 RX11 yX11_alteredBy cX11_alteredBy 3 (some .int) 2 := ⟨wd_2_125, wd_2_127, (aWd_p (List.mem_of_getElem? (i := 6) rfl)), wd_1_1, wd_2_128, rfl, ⟨by decide +kernel, by decide +kernel, by decide +kernel⟩⟩
theorem kX11_137 : aLV RX11 137 RX11 yX11_hiddenBy cX11_hiddenBy 2 (some .int) 1 := ⟨wd_2_133, wd_2_135, (aWd_p (List.mem_of_getElem? (i := 8) rfl)), wd_1_1, wd_2_136, rfl, ⟨by decide +kernel, by decide +kernel, by decide +kernel⟩⟩
theorem kX11_144 : aLV RX11 144 RX3 yX3_deedsLeft cX3_deedsLeft 4 (some .int) 1 := ⟨wd_2_189, wd_2_190, wd_2_191, wd_1_6, wd_2_192, rfl, ⟨by decide +kernel, by decide +kernel, by decide +kernel⟩⟩
theorem kX11_149 : aLV RX11 149 RX11 yX11_placeToListen cX11_placeToListen 8 (some .int) 1 := ⟨wd_2_193, wd_2_195, (aWd_p (List.mem_of_getElem? (i := 10) rfl)), wd_1_1, wd_2_196, rfl, ⟨by decide +kernel, by decide +kernel, by decide +kernel⟩⟩
theorem kX11_156 : aLV RX11 156 RX11 yX11_isAccused cX11_isAccused 2 (some .boolean) 1 := ⟨wd_2_95, wd_2_97, (aWd_p (List.mem_of_getElem? (i := 5) rfl)), wd_1_1, wd_2_98, rfl, ⟨by decide +kernel, by decide +kernel, by decide +kernel⟩⟩
theorem kX11_168 : aLV RX11 168 RX11 yX11_deedOf cX11_deedOf 3 (some .int) 1 := ⟨wd_2_129, wd_2_131, (aWd_p (List.mem_of_getElem? (i := 7) rfl)), wd_1_1, wd_2_132, rfl, ⟨by decide +kernel, by decide +kernel, by decide +kernel⟩⟩
theorem kX11_171 : aLV RX11 171 RX11 yX11_wouldAlter cX11_wouldAlter 7 (some .int) 4 := ⟨wd_2_137, wd_2_139, (aWd_p (List.mem_of_getElem? (i := 9) rfl)), wd_1_1, wd_2_140, rfl, ⟨by decide +kernel, by decide +kernel, by decide +kernel⟩⟩
theorem kX11_179 : aLV RX11 179 RX6 yX6_placesOf cX6_placesOf 4 (some .int) 1 := ⟨wd_2_182, wd_2_156, wd_2_157, wd_1_5, wd_2_158, rfl, ⟨by decide +kernel, by decide +kernel, by decide +kernel⟩⟩
theorem kX11_182 : aLV RX11 182 RX11 yX11_deedsAltering cX11_deedsAltering 6 (some .int) 2 := ⟨wd_2_197, wd_2_199, (aWd_p (List.mem_of_getElem? (i := 11) rfl)), wd_1_1, wd_2_200, rfl, ⟨by decide +kernel, by decide +kernel, by decide +kernel⟩⟩
theorem kX11_188 : aLV RX11 188 RX3 yX3_size cX3_size 1 (some .int) 0 := ⟨wd_3_47, wd_3_48, wd_3_49, wd_1_6, wd_3_50, rfl, ⟨by decide +kernel, by decide +kernel, by decide +kernel⟩⟩
theorem kX11_190 : aLV RX11 190 RX11 yX11_drawSheet cX11_drawSheet 4 (some .int) 1 := ⟨wd_2_223, wd_2_225, (aWd_p (List.mem_of_getElem? (i := 12) rfl)), wd_1_1, wd_2_226, rfl, ⟨by decide +kernel, by decide +kernel, by decide +kernel⟩⟩
theorem kX11_193 : aLV RX11 193 RX11 yX11_hangingAt cX11_hangingAt 4 (some .int) 1 := ⟨wd_2_231, wd_2_233, (aWd_p (List.mem_of_getElem? (i := 13) rfl)), wd_1_1, wd_2_234, rfl, ⟨by decide +kernel, by decide +kernel, by decide +kernel⟩⟩
theorem kX11_197 : aLV RX11 197 RX11 yX11_allAltering cX11_allAltering 4 (some .int) 1 := ⟨wd_2_235, wd_2_237, (aWd_p (List.mem_of_getElem? (i := 14) rfl)), wd_1_1, wd_2_238, rfl, ⟨by decide +kernel, by decide +kernel, by decide +kernel⟩⟩
theorem kX11_204 : aLV RX11 204 RX6 yX6_unlikeWords cX6_unlikeWords 3 (some .int) 0 := ⟨wd_3_42, wd_3_43, wd_3_44, wd_1_5, wd_3_45, rfl, ⟨by decide +kernel, by decide +kernel, by decide +kernel⟩⟩
theorem kX11_220 : aLV RX11 220 RX5 yX5_codeAt cX5_codeAt 2 (some .int) 1 := ⟨wd_1_226, wd_1_227, wd_1_228, wd_1_2, wd_1_229, rfl, ⟨by decide +kernel, by decide +kernel, by decide +kernel⟩⟩
theorem kX11_241 : aLV RX11 241 RX8 yX8_begin cX8_begin 1 none 0 := ⟨wd_1_210, wd_1_211, wd_1_212, wd_1_4, wd_1_213, rfl, ⟨by decide +kernel, by decide +kernel, by decide +kernel⟩⟩
theorem kX11_244 : aLV RX11 244 RX6 yX6_add cX6_add 2 none 1 := ⟨wd_1_231, wd_1_232, wd_1_233, wd_1_5, wd_1_234, rfl, ⟨by decide +kernel, by decide +kernel, by decide +kernel⟩⟩
theorem kX11_246_X0 : aLU RX11 246 RX0 RX4 yX4_placesByDeed yX0_placesByDeed cX0_placesByDeed 3 (some .int) 2 := ⟨wd_2_141, wd_2_144, wd_2_142, wd_2_145, wd_2_146, wd_1_12, wd_2_147, ⟨_, _, _, wd_2_165⟩, ⟨by decide +kernel, by decide +kernel, by decide +kernel⟩⟩
theorem kX11_246_X1 : aLU RX11 246 RX1 RX4 yX4_placesByDeed yX1_placesByDeed cX1_placesByDeed 3 (some .int) 2 := ⟨wd_2_141, wd_2_144, wd_2_142, wd_2_152, wd_2_153, wd_1_13, wd_2_154, ⟨_, _, _, wd_2_165⟩, ⟨by decide +kernel, by decide +kernel, by decide +kernel⟩⟩
theorem kX11_246_X4 : aLV RX11 246 RX4 yX4_placesByDeed cX4_placesByDeed 3 (some .int) 2 := ⟨wd_2_141, wd_2_142, wd_2_143, wd_1_10, wd_2_165, rfl, ⟨by decide +kernel, by decide +kernel, by decide +kernel⟩⟩
theorem kX11_246_X7 : aLU RX11 246 RX7 RX4 yX4_placesByDeed yX4_placesByDeed cX4_placesByDeed 3 (some .int) 2 := ⟨wd_2_141, wd_2_144, wd_2_142, wd_2_163, wd_2_142, wd_1_10, wd_2_165, ⟨_, _, _, wd_2_165⟩, ⟨by decide +kernel, by decide +kernel, by decide +kernel⟩⟩
theorem kX11_246_X10 : aLU RX11 246 RX10 RX4 yX4_placesByDeed yX4_placesByDeed cX4_placesByDeed 3 (some .int) 2 := ⟨wd_2_141, wd_2_144, wd_2_142, wd_2_164, wd_2_142, wd_1_10, wd_2_165, ⟨_, _, _, wd_2_165⟩, ⟨by decide +kernel, by decide +kernel, by decide +kernel⟩⟩
theorem kX11_250_X0 : aLU RX11 250 RX0 RX4 yX4_placesAnyhow yX4_placesAnyhow cX4_placesAnyhow 2 (some .int) 1 := ⟨wd_2_167, wd_2_170, wd_2_168, wd_2_171, wd_2_168, wd_1_10, wd_2_181, ⟨_, _, _, wd_2_181⟩, ⟨by decide +kernel, by decide +kernel, by decide +kernel⟩⟩
theorem kX11_250_X1 : aLU RX11 250 RX1 RX4 yX4_placesAnyhow yX4_placesAnyhow cX4_placesAnyhow 2 (some .int) 1 := ⟨wd_2_167, wd_2_170, wd_2_168, wd_2_172, wd_2_168, wd_1_10, wd_2_181, ⟨_, _, _, wd_2_181⟩, ⟨by decide +kernel, by decide +kernel, by decide +kernel⟩⟩
theorem kX11_250_X4 : aLV RX11 250 RX4 yX4_placesAnyhow cX4_placesAnyhow 2 (some .int) 1 := ⟨wd_2_167, wd_2_168, wd_2_169, wd_1_10, wd_2_181, rfl, ⟨by decide +kernel, by decide +kernel, by decide +kernel⟩⟩
theorem kX11_250_X7 : aLU RX11 250 RX7 RX4 yX4_placesAnyhow yX7_placesAnyhow cX7_placesAnyhow 2 (some .int) 1 := ⟨wd_2_167, wd_2_170, wd_2_168, wd_2_173, wd_2_174, wd_1_11, wd_2_175, ⟨_, _, _, wd_2_181⟩, ⟨by decide +kernel, by decide +kernel, by decide +kernel⟩⟩
theorem kX11_250_X10 : aLU RX11 250 RX10 RX4 yX4_placesAnyhow yX10_placesAnyhow cX10_placesAnyhow 2 (some .int) 1 := ⟨wd_2_167, wd_2_170, wd_2_168, wd_2_176, wd_2_177, wd_1_14, wd_2_178, ⟨_, _, _, wd_2_181⟩, ⟨by decide +kernel, by decide +kernel, by decide +kernel⟩⟩
theorem kX11_261 : aLV RX11 261 RX6 yX6_clear cX6_clear 1 none 0 := ⟨wd_2_227, wd_1_215, wd_1_216, wd_1_5, wd_1_217, rfl, ⟨by decide +kernel, by decide +kernel, by decide +kernel⟩⟩
theorem kX2_3 : Cond.methodLink RX2 3 Lib.objectInit ∈ aWd := wd_1_125
theorem kX3_3 : Cond.methodLink RX3 3 Lib.objectInit ∈ aWd := wd_1_82
theorem kX4_1 : Cond.methodLink RX4 1 Lib.objectInit ∈ aWd := wd_2_54
theorem kX4_13 : aLV RX4 13 RX6 yX6_placesOf cX6_placesOf 4 (some .int) 1 := ⟨wd_2_166, wd_2_156, wd_2_157, wd_1_5, wd_2_158, rfl, ⟨by decide +kernel, by decide +kernel, by decide +kernel⟩⟩
theorem kX5_3 : Cond.methodLink RX5 3 Lib.objectInit ∈ aWd := wd_1_28
theorem kX5_17 : aLIn RX5 17 yX9_init "ReadAloud" cX9_init 1 0 := ⟨List.mem_of_getElem? (i := 1) rfl, wd_1_32, wd_1_3, wd_1_33, rfl, ⟨by decide +kernel, by decide +kernel, by decide +kernel⟩⟩
theorem kX5_26 : aLV RX5 26 RX9 yX9_begin cX9_begin 1 none 0 := ⟨wd_1_174, wd_1_175, wd_1_176, wd_1_3, wd_1_177, rfl, ⟨by decide +kernel, by decide +kernel, by decide +kernel⟩⟩
theorem kX5_29 : aLV RX5 29 RX9 yX9_passes cX9_passes 3 (some .boolean) 1 := ⟨wd_1_182, wd_1_183, wd_1_184, wd_1_3, wd_1_185, rfl, ⟨by decide +kernel, by decide +kernel, by decide +kernel⟩⟩
theorem kX5_33 : aLV RX5 33 RX5 yX5_faultPlace cX5_faultPlace 2 (some .int) 0 := ⟨wd_1_201, wd_1_171, wd_1_172, wd_1_2, wd_1_173, rfl, ⟨by decide +kernel, by decide +kernel, by decide +kernel⟩⟩
theorem kX5_37 : aLV RX5 37 RX9 yX9_isWhole cX9_isWhole 1 (some .boolean) 0 := ⟨wd_1_202, wd_1_203, wd_1_204, wd_1_3, wd_1_205, rfl, ⟨by decide +kernel, by decide +kernel, by decide +kernel⟩⟩
theorem kX6_3 : Cond.methodLink RX6 3 Lib.objectInit ∈ aWd := wd_1_69
theorem kX6_29 : aLSt RX6 29 yJ6_bitCount_0f7a4 cJ6_bitCount_0f7a4 1 (some .int) 1 := ⟨wd_3_46, wd_2_184, wd_1_8, wd_2_185, ⟨by decide +kernel, by decide +kernel, by decide +kernel⟩⟩
theorem kX6_19 : aLV RX6 19 RX6 yX6_has cX6_has 2 (some .boolean) 1 := ⟨wd_2_23, wd_2_16, wd_2_17, wd_1_5, wd_2_18, rfl, ⟨by decide +kernel, by decide +kernel, by decide +kernel⟩⟩
theorem kX7_1 : aLI RX7 1 yX4_init cX4_init 2 1 := ⟨wd_2_51, wd_2_52, wd_1_10, wd_2_53, rfl, ⟨by decide +kernel, by decide +kernel, by decide +kernel⟩⟩
theorem kX8_3 : Cond.methodLink RX8 3 Lib.objectInit ∈ aWd := wd_1_63
theorem kX8_11 : aLIn RX8 11 yX6_init "ReadAloud" cX6_init 1 0 := ⟨List.mem_of_getElem? (i := 3) rfl, wd_1_67, wd_1_5, wd_1_68, rfl, ⟨by decide +kernel, by decide +kernel, by decide +kernel⟩⟩
theorem kX8_20 : aLIn RX8 20 yX3_init "ReadAloud" cX3_init 1 0 := ⟨List.mem_of_getElem? (i := 4) rfl, wd_1_80, wd_1_6, wd_1_81, rfl, ⟨by decide +kernel, by decide +kernel, by decide +kernel⟩⟩
theorem kX8_29 : aLV RX8 29 RX6 yX6_clear cX6_clear 1 none 0 := ⟨wd_1_214, wd_1_215, wd_1_216, wd_1_5, wd_1_217, rfl, ⟨by decide +kernel, by decide +kernel, by decide +kernel⟩⟩
theorem kX8_32 : aLV RX8 32 RX3 yX3_clear cX3_clear 1 none 0 := ⟨wd_1_218, wd_1_219, wd_1_220, wd_1_6, wd_1_221, rfl, ⟨by decide +kernel, by decide +kernel, by decide +kernel⟩⟩
theorem kX9_3 : Cond.methodLink RX9 3 Lib.objectInit ∈ aWd := wd_1_34
theorem kX9_15 : aLSn RX9 15 yX11_isWord "ReadAloud" cX11_isWord 1 (some .boolean) 1 := ⟨List.mem_of_getElem? (i := 7) rfl, wd_1_187, wd_1_1, wd_1_188, ⟨by decide +kernel, by decide +kernel, by decide +kernel⟩⟩
theorem kX9_9 : aLV RX9 9 RX9 yX9_enter cX9_enter 2 none 1 := ⟨wd_1_178, wd_1_180, (aWd_p (List.mem_of_getElem? (i := 0) rfl)), wd_1_3, wd_1_181, rfl, ⟨by decide +kernel, by decide +kernel, by decide +kernel⟩⟩
theorem kX9_19 : aLV RX9 19 RX9 yX9_passesWord cX9_passesWord 3 (some .boolean) 1 := ⟨wd_1_189, wd_1_191, (aWd_p (List.mem_of_getElem? (i := 1) rfl)), wd_1_3, wd_1_192, rfl, ⟨by decide +kernel, by decide +kernel, by decide +kernel⟩⟩
theorem lJ6_265 : Cond.constant RJ6 265 (1431655765) ∈ aWd := wd_2_186
theorem lJ6_266 : Cond.constant RJ6 266 (858993459) ∈ aWd := wd_2_187
theorem lJ6_267 : Cond.constant RJ6 267 (252645135) ∈ aWd := wd_2_188
theorem lL_7 : Cond.constant RL 7 (747796405) ∈ aWd := wd_3_2
theorem lL_23 : Cond.classLink RL 23 RX11 ∈ aWd := wd_1_15
theorem lL_93 : Cond.constant RL 93 (2147483647) ∈ aWd := wd_3_65
theorem lL_108 : Cond.constantLong RL 108 (1103515245) ∈ aWd := wd_3_60
theorem lL_110 : Cond.constantLong RL 110 (12345) ∈ aWd := wd_3_61
theorem lL_112 : Cond.constantLong RL 112 (2147483648) ∈ aWd := wd_3_62
theorem lL_114 : Cond.constantLong RL 114 (65536) ∈ aWd := wd_3_63
theorem lL_116 : Cond.constantLong RL 116 (8) ∈ aWd := wd_3_64
theorem lX11_7 : Cond.classLink RX11 7 RX5 ∈ aWd := wd_1_23
theorem lX11_20 : Cond.classLink RX11 20 RX4 ∈ aWd := wd_1_56
theorem lX11_26 : Cond.classLink RX11 26 RX8 ∈ aWd := wd_1_58
theorem lX11_36 : Cond.classLink RX11 36 RX6 ∈ aWd := wd_1_118
theorem lX11_43 : Cond.classLink RX11 43 RX2 ∈ aWd := wd_1_120
theorem lX11_226 : Cond.classLink RX11 226 RX7 ∈ aWd := wd_2_46
theorem lX11_231 : Cond.classLink RX11 231 RX0 ∈ aWd := wd_2_59
theorem lX11_234 : Cond.classLink RX11 234 RX1 ∈ aWd := wd_2_67
theorem lX11_237 : Cond.classLink RX11 237 RX10 ∈ aWd := wd_2_75
theorem lX11_262 : Cond.constant RX11 262 (1103515245) ∈ aWd := wd_2_228
theorem lX11_263 : Cond.constant RX11 263 (2147483647) ∈ aWd := wd_2_229
theorem lX11_264 : Cond.constant RX11 264 (65536) ∈ aWd := wd_2_230
theorem lX5_15 : Cond.classLink RX5 15 RX9 ∈ aWd := wd_1_29
theorem lX8_9 : Cond.classLink RX8 9 RX6 ∈ aWd := wd_1_64
theorem lX8_18 : Cond.classLink RX8 18 RX3 ∈ aWd := wd_1_77
theorem nX0 : Cond.instantiable RX0 1 ∈ aWd := wd_2_60
theorem iX0 : Cond.initialized RX0 ∈ aWd := wd_1_12
theorem nX1 : Cond.instantiable RX1 1 ∈ aWd := wd_2_68
theorem iX1 : Cond.initialized RX1 ∈ aWd := wd_1_13
theorem nX2 : Cond.instantiable RX2 3 ∈ aWd := wd_1_121
theorem iX2 : Cond.initialized RX2 ∈ aWd := wd_1_7
theorem nX3 : Cond.instantiable RX3 3 ∈ aWd := wd_1_78
theorem iX3 : Cond.initialized RX3 ∈ aWd := wd_1_6
theorem nX4 : Cond.instantiable RX4 1 ∈ aWd := wd_2_83
theorem iX4 : Cond.initialized RX4 ∈ aWd := wd_1_10
theorem nX5 : Cond.instantiable RX5 3 ∈ aWd := wd_1_24
theorem iX5 : Cond.initialized RX5 ∈ aWd := wd_1_2
theorem nX6 : Cond.instantiable RX6 2 ∈ aWd := wd_1_65
theorem iX6 : Cond.initialized RX6 ∈ aWd := wd_1_5
theorem nX7 : Cond.instantiable RX7 1 ∈ aWd := wd_2_47
theorem iX7 : Cond.initialized RX7 ∈ aWd := wd_1_11
theorem nX8 : Cond.instantiable RX8 6 ∈ aWd := wd_1_59
theorem iX8 : Cond.initialized RX8 ∈ aWd := wd_1_4
theorem nX9 : Cond.instantiable RX9 3 ∈ aWd := wd_1_30
theorem iX9 : Cond.initialized RX9 ∈ aWd := wd_1_3
theorem nX10 : Cond.instantiable RX10 1 ∈ aWd := wd_2_76
theorem iX10 : Cond.initialized RX10 ∈ aWd := wd_1_14
theorem nX11 : Cond.instantiable RX11 10 ∈ aWd := wd_1_16
theorem iX11 : Cond.initialized RX11 ∈ aWd := wd_1_1
