theorem q1_0 : (Jvm.Cond.initialized "TuneSchoolLaw") ∈ gtb := gtb_of (mt1 (i := 0) rfl) rfl
theorem q1_1 : (Jvm.Cond.initialized "TuneSchool") ∈ gtb := gtb_of (mt1 (i := 1) rfl) rfl
theorem q1_2 : (Jvm.Cond.initialized "TuneSchool$Voice") ∈ gtb := gtb_of (mt1 (i := 2) rfl) rfl
theorem q1_3 : (Jvm.Cond.initialized "TuneSchool$Moment") ∈ gtb := gtb_of (mt1 (i := 3) rfl) rfl
theorem q1_4 : (Jvm.Cond.initialized "TuneSchool$Desk") ∈ gtb := gtb_of (mt1 (i := 4) rfl) rfl
theorem q1_5 : (Jvm.Cond.initialized "TuneSchool$Line") ∈ gtb := gtb_of (mt1 (i := 5) rfl) rfl
theorem q1_6 : (Jvm.Cond.initialized "TuneSchoolModel") ∈ gtb := gtb_of (mt1 (i := 6) rfl) rfl
theorem q1_7 : (Jvm.Cond.initialized "java/lang/System") ∈ gtb := gtb_of (mt1 (i := 7) rfl) rfl
theorem q1_8 : (Jvm.Cond.initialized "java/util/Arrays") ∈ gtb := gtb_of (mt1 (i := 8) rfl) rfl
theorem q1_9 : (Jvm.Cond.initialized "TuneSchool$Standing") ∈ gtb := gtb_of (mt1 (i := 9) rfl) rfl
theorem q1_10 : (Jvm.Cond.initialized "TuneSchool$Rule") ∈ gtb := gtb_of (mt1 (i := 10) rfl) rfl
theorem q1_11 : (Jvm.Cond.initialized "TuneSchool$Interval") ∈ gtb := gtb_of (mt1 (i := 11) rfl) rfl
theorem q1_12 : (Jvm.Cond.initialized "TuneSchool$Motion") ∈ gtb := gtb_of (mt1 (i := 12) rfl) rfl
theorem q1_13 : (Jvm.Cond.initialized "TuneSchool$Leap") ∈ gtb := gtb_of (mt1 (i := 13) rfl) rfl
theorem q1_14 : (Jvm.Cond.initialized "TuneSchool$Cadence") ∈ gtb := gtb_of (mt1 (i := 14) rfl) rfl
theorem q1_15 : (Jvm.Cond.initialized "TuneSchool$School") ∈ gtb := gtb_of (mt1 (i := 15) rfl) rfl
theorem q1_16 : (Jvm.Cond.initialized "java/lang/Math") ∈ gtb := gtb_of (mt1 (i := 16) rfl) rfl
theorem q1_17 : (Jvm.Cond.classLink "TuneSchoolLaw" (7 : Nat) "TuneSchool") ∈ gtb := gtb_of (mt1 (i := 17) rfl) rfl
theorem q1_18 : (Jvm.Cond.instantiable "TuneSchool" (17 : Nat)) ∈ gtb := gtb_of (mt1 (i := 18) rfl) rfl
theorem q1_19 : (Jvm.Cond.methodLink "TuneSchoolLaw" (9 : Nat) ({ cls := "TuneSchool", name := "<init>", desc := "()V" } : Jvm.MethodName)) ∈ gtb := gtb_of (mt1 (i := 19) rfl) rfl
theorem q1_20 : (Jvm.Cond.instanceMethod ({ cls := "TuneSchool", name := "<init>", desc := "()V" } : Jvm.MethodName)) ∈ gtb := gtb_of (mt1 (i := 20) rfl) rfl
theorem q1_21 : (Jvm.Cond.code ({ cls := "TuneSchool", name := "<init>", desc := "()V" } : Jvm.MethodName) prog_1_method_1_code (2 : Nat) (Option.none : Option Jvm.ClassFile.FieldType)) ∈ gtb := gtb_of (mt1 (i := 21) rfl) rfl
theorem q1_22 : (Jvm.Cond.methodLink "TuneSchool" (1 : Nat) ({ cls := "java/lang/Object", name := "<init>", desc := "()V" } : Jvm.MethodName)) ∈ gtb := gtb_of (mt1 (i := 22) rfl) rfl
theorem q1_23 : (Jvm.Cond.instanceMethod ({ cls := "java/lang/Object", name := "<init>", desc := "()V" } : Jvm.MethodName)) ∈ gtb := gtb_of (mt1 (i := 23) rfl) rfl
theorem q1_24 : (Jvm.Cond.code ({ cls := "java/lang/Object", name := "<init>", desc := "()V" } : Jvm.MethodName) object_method_1_code (1 : Nat) (Option.none : Option Jvm.ClassFile.FieldType)) ∈ gtb := gtb_of (mt1 (i := 24) rfl) rfl
theorem q1_25 : (Jvm.Cond.classLink "TuneSchool" (9 : Nat) "TuneSchool$Voice") ∈ gtb := gtb_of (mt1 (i := 25) rfl) rfl
theorem q1_27 : (Jvm.Cond.instantiable "TuneSchool$Voice" (5 : Nat)) ∈ gtb := gtb_of (mt1 (i := 27) rfl) rfl
theorem q1_29 : (Jvm.Cond.instanceMethod ({ cls := "TuneSchool$Voice", name := "<init>", desc := "()V" } : Jvm.MethodName)) ∈ gtb := gtb_of (mt1 (i := 29) rfl) rfl
theorem q1_30 : (Jvm.Cond.code ({ cls := "TuneSchool$Voice", name := "<init>", desc := "()V" } : Jvm.MethodName) prog_12_method_1_code (1 : Nat) (Option.none : Option Jvm.ClassFile.FieldType)) ∈ gtb := gtb_of (mt1 (i := 30) rfl) rfl
theorem q1_31 : (Jvm.Cond.methodLink "TuneSchool$Voice" (3 : Nat) ({ cls := "java/lang/Object", name := "<init>", desc := "()V" } : Jvm.MethodName)) ∈ gtb := gtb_of (mt1 (i := 31) rfl) rfl
theorem q1_32 : (Jvm.Cond.classLink "TuneSchool$Voice" (9 : Nat) "[[I") ∈ gtb := gtb_of (mt1 (i := 32) rfl) rfl
theorem q1_34 : (Jvm.Cond.fieldLink "TuneSchool$Voice" (11 : Nat) "TuneSchool$Voice" "rows" "[[I") ∈ gtb := gtb_of (mt1 (i := 34) rfl) rfl
theorem q1_35 : (Jvm.Cond.fieldLink "TuneSchool$Line" (28 : Nat) "TuneSchool$Voice" "rows" "[[I") ∈ gtb := gtb_of (mt1 (i := 35) rfl) rfl
theorem q1_36 : (Jvm.Cond.fieldLink "TuneSchool$Desk" (69 : Nat) "TuneSchool$Voice" "rows" "[[I") ∈ gtb := gtb_of (mt1 (i := 36) rfl) rfl
theorem q1_37 : (Jvm.Cond.fieldLink "TuneSchool" (102 : Nat) "TuneSchool$Voice" "rows" "[[I") ∈ gtb := gtb_of (mt1 (i := 37) rfl) rfl
theorem q1_38 : (Jvm.Cond.fieldLink "TuneSchool$Voice" (16 : Nat) "TuneSchool$Voice" "sizes" "[I") ∈ gtb := gtb_of (mt1 (i := 38) rfl) rfl
theorem q1_39 : (Jvm.Cond.fieldLink "TuneSchool$Line" (19 : Nat) "TuneSchool$Voice" "sizes" "[I") ∈ gtb := gtb_of (mt1 (i := 39) rfl) rfl
theorem q1_40 : (Jvm.Cond.fieldLink "TuneSchool$Desk" (88 : Nat) "TuneSchool$Voice" "sizes" "[I") ∈ gtb := gtb_of (mt1 (i := 40) rfl) rfl
theorem q1_41 : (Jvm.Cond.fieldLink "TuneSchool" (109 : Nat) "TuneSchool$Voice" "sizes" "[I") ∈ gtb := gtb_of (mt1 (i := 41) rfl) rfl
theorem q1_42 : (Jvm.Cond.fieldLink "TuneSchool$Voice" (20 : Nat) "TuneSchool$Voice" "ticks" "[I") ∈ gtb := gtb_of (mt1 (i := 42) rfl) rfl
theorem q1_43 : (Jvm.Cond.fieldLink "TuneSchool$Voice" (39 : Nat) "TuneSchool$Voice" "behindAll" "I") ∈ gtb := gtb_of (mt1 (i := 43) rfl) rfl
theorem q1_44 : (Jvm.Cond.fieldLink "TuneSchool" (116 : Nat) "TuneSchool$Voice" "behindAll" "I") ∈ gtb := gtb_of (mt1 (i := 44) rfl) rfl
theorem q1_45 : (Jvm.Cond.fieldLink "TuneSchool$Voice" (23 : Nat) "TuneSchool$Voice" "there" "Z") ∈ gtb := gtb_of (mt1 (i := 45) rfl) rfl
theorem q1_46 : (Jvm.Cond.fieldLink "TuneSchool" (90 : Nat) "TuneSchool$Voice" "there" "Z") ∈ gtb := gtb_of (mt1 (i := 46) rfl) rfl
theorem q1_47 : (Jvm.Cond.laysFinal "TuneSchool$Voice" "TuneSchool$Voice" "rows" "[[I") ∈ gtb := gtb_of (mt1 (i := 47) rfl) rfl
theorem q1_49 : (Jvm.Cond.laysFinal "TuneSchool$Voice" "TuneSchool$Voice" "sizes" "[I") ∈ gtb := gtb_of (mt1 (i := 49) rfl) rfl
theorem q1_51 : (Jvm.Cond.laysFinal "TuneSchool$Voice" "TuneSchool$Voice" "ticks" "[I") ∈ gtb := gtb_of (mt1 (i := 51) rfl) rfl
theorem q1_53 : (Jvm.Cond.lays "TuneSchool$Voice" "TuneSchool$Voice" "behindAll" "I") ∈ gtb := gtb_of (mt1 (i := 53) rfl) rfl
theorem q1_55 : (Jvm.Cond.lays "TuneSchool$Voice" "TuneSchool$Voice" "there" "Z") ∈ gtb := gtb_of (mt1 (i := 55) rfl) rfl
theorem q1_57 : (Jvm.Cond.superclass "TuneSchool$Voice" "java/lang/Object") ∈ gtb := gtb_of (mt1 (i := 57) rfl) rfl
theorem q1_58 : (Jvm.Cond.arrayClass Jvm.ClassFile.FieldType.int) ∈ gtb := gtb_of (mt1 (i := 58) rfl) rfl
theorem q1_59 : (Jvm.Cond.classLink "TuneSchool" (26 : Nat) "TuneSchool$Standing") ∈ gtb := gtb_of (mt1 (i := 59) rfl) rfl
theorem q1_61 : (Jvm.Cond.classLink "TuneSchool" (32 : Nat) "TuneSchool$Moment") ∈ gtb := gtb_of (mt1 (i := 61) rfl) rfl
theorem q1_62 : (Jvm.Cond.instantiable "TuneSchool$Moment" (11 : Nat)) ∈ gtb := gtb_of (mt1 (i := 62) rfl) rfl
theorem q1_64 : (Jvm.Cond.instanceMethod ({ cls := "TuneSchool$Moment", name := "<init>", desc := "()V" } : Jvm.MethodName)) ∈ gtb := gtb_of (mt1 (i := 64) rfl) rfl
theorem q1_65 : (Jvm.Cond.code ({ cls := "TuneSchool$Moment", name := "<init>", desc := "()V" } : Jvm.MethodName) prog_7_method_1_code (1 : Nat) (Option.none : Option Jvm.ClassFile.FieldType)) ∈ gtb := gtb_of (mt1 (i := 65) rfl) rfl
theorem q1_66 : (Jvm.Cond.methodLink "TuneSchool$Moment" (3 : Nat) ({ cls := "java/lang/Object", name := "<init>", desc := "()V" } : Jvm.MethodName)) ∈ gtb := gtb_of (mt1 (i := 66) rfl) rfl
theorem q1_67 : (Jvm.Cond.fieldLink "TuneSchool$Moment" (9 : Nat) "TuneSchool$Moment" "numbers" "[I") ∈ gtb := gtb_of (mt1 (i := 67) rfl) rfl
theorem q1_68 : (Jvm.Cond.fieldLink "TuneSchool" (311 : Nat) "TuneSchool$Moment" "numbers" "[I") ∈ gtb := gtb_of (mt1 (i := 68) rfl) rfl
theorem q1_69 : (Jvm.Cond.fieldLink "TuneSchool$Moment" (19 : Nat) "TuneSchool$Moment" "traced" "I") ∈ gtb := gtb_of (mt1 (i := 69) rfl) rfl
theorem q1_70 : (Jvm.Cond.fieldLink "TuneSchool" (305 : Nat) "TuneSchool$Moment" "traced" "I") ∈ gtb := gtb_of (mt1 (i := 70) rfl) rfl
theorem q1_71 : (Jvm.Cond.fieldLink "TuneSchool$Moment" (22 : Nat) "TuneSchool$Moment" "open" "Z") ∈ gtb := gtb_of (mt1 (i := 71) rfl) rfl
theorem q1_72 : (Jvm.Cond.fieldLink "TuneSchool$Desk" (144 : Nat) "TuneSchool$Moment" "open" "Z") ∈ gtb := gtb_of (mt1 (i := 72) rfl) rfl
theorem q1_73 : (Jvm.Cond.fieldLink "TuneSchool$Moment" (15 : Nat) "TuneSchool$Moment" "strongEach" "I") ∈ gtb := gtb_of (mt1 (i := 73) rfl) rfl
theorem q1_74 : (Jvm.Cond.fieldLink "TuneSchool" (181 : Nat) "TuneSchool$Moment" "strongEach" "I") ∈ gtb := gtb_of (mt1 (i := 74) rfl) rfl
theorem q1_75 : (Jvm.Cond.fieldLink "TuneSchool$Moment" (26 : Nat) "TuneSchool$Moment" "tick" "I") ∈ gtb := gtb_of (mt1 (i := 75) rfl) rfl
theorem q1_76 : (Jvm.Cond.fieldLink "TuneSchool$Leap" (32 : Nat) "TuneSchool$Moment" "tick" "I") ∈ gtb := gtb_of (mt1 (i := 76) rfl) rfl
theorem q1_77 : (Jvm.Cond.fieldLink "TuneSchool$Desk" (156 : Nat) "TuneSchool$Moment" "tick" "I") ∈ gtb := gtb_of (mt1 (i := 77) rfl) rfl
theorem q1_78 : (Jvm.Cond.fieldLink "TuneSchool" (361 : Nat) "TuneSchool$Moment" "tick" "I") ∈ gtb := gtb_of (mt1 (i := 78) rfl) rfl
theorem q1_79 : (Jvm.Cond.fieldLink "TuneSchool$Cadence" (27 : Nat) "TuneSchool$Moment" "p" "I") ∈ gtb := gtb_of (mt1 (i := 79) rfl) rfl
theorem q1_80 : (Jvm.Cond.fieldLink "TuneSchool$Interval" (29 : Nat) "TuneSchool$Moment" "p" "I") ∈ gtb := gtb_of (mt1 (i := 80) rfl) rfl
theorem q1_81 : (Jvm.Cond.fieldLink "TuneSchool$Moment" (35 : Nat) "TuneSchool$Moment" "p" "I") ∈ gtb := gtb_of (mt1 (i := 81) rfl) rfl
theorem q1_82 : (Jvm.Cond.fieldLink "TuneSchool$Leap" (23 : Nat) "TuneSchool$Moment" "p" "I") ∈ gtb := gtb_of (mt1 (i := 82) rfl) rfl
theorem q1_83 : (Jvm.Cond.fieldLink "TuneSchool$Desk" (150 : Nat) "TuneSchool$Moment" "p" "I") ∈ gtb := gtb_of (mt1 (i := 83) rfl) rfl
theorem q1_84 : (Jvm.Cond.fieldLink "TuneSchool$Cadence" (31 : Nat) "TuneSchool$Moment" "q" "I") ∈ gtb := gtb_of (mt1 (i := 84) rfl) rfl
theorem q1_85 : (Jvm.Cond.fieldLink "TuneSchool$Moment" (38 : Nat) "TuneSchool$Moment" "q" "I") ∈ gtb := gtb_of (mt1 (i := 85) rfl) rfl
theorem q1_86 : (Jvm.Cond.fieldLink "TuneSchool$Desk" (153 : Nat) "TuneSchool$Moment" "q" "I") ∈ gtb := gtb_of (mt1 (i := 86) rfl) rfl
theorem q1_87 : (Jvm.Cond.fieldLink "TuneSchool$Leap" (19 : Nat) "TuneSchool$Moment" "pBefore" "I") ∈ gtb := gtb_of (mt1 (i := 87) rfl) rfl
theorem q1_88 : (Jvm.Cond.fieldLink "TuneSchool$Moment" (41 : Nat) "TuneSchool$Moment" "pBefore" "I") ∈ gtb := gtb_of (mt1 (i := 88) rfl) rfl
theorem q1_89 : (Jvm.Cond.fieldLink "TuneSchool$Moment" (44 : Nat) "TuneSchool$Moment" "qBefore" "I") ∈ gtb := gtb_of (mt1 (i := 89) rfl) rfl
theorem q1_90 : (Jvm.Cond.fieldLink "TuneSchool$Cadence" (19 : Nat) "TuneSchool$Moment" "last" "Z") ∈ gtb := gtb_of (mt1 (i := 90) rfl) rfl
theorem q1_91 : (Jvm.Cond.fieldLink "TuneSchool$Moment" (47 : Nat) "TuneSchool$Moment" "last" "Z") ∈ gtb := gtb_of (mt1 (i := 91) rfl) rfl
theorem q1_92 : (Jvm.Cond.fieldLink "TuneSchool$Desk" (159 : Nat) "TuneSchool$Moment" "last" "Z") ∈ gtb := gtb_of (mt1 (i := 92) rfl) rfl
theorem q1_93 : (Jvm.Cond.fieldLink "TuneSchool$Leap" (15 : Nat) "TuneSchool$Moment" "alone" "LTuneSchool$Voice;") ∈ gtb := gtb_of (mt1 (i := 93) rfl) rfl
theorem q1_94 : (Jvm.Cond.fieldLink "TuneSchool$Moment" (50 : Nat) "TuneSchool$Moment" "alone" "LTuneSchool$Voice;") ∈ gtb := gtb_of (mt1 (i := 94) rfl) rfl
theorem q1_95 : (Jvm.Cond.fieldLink "TuneSchool$Rule" (23 : Nat) "TuneSchool$Moment" "alone" "LTuneSchool$Voice;") ∈ gtb := gtb_of (mt1 (i := 95) rfl) rfl
theorem q1_96 : (Jvm.Cond.fieldLink "TuneSchool$Desk" (147 : Nat) "TuneSchool$Moment" "alone" "LTuneSchool$Voice;") ∈ gtb := gtb_of (mt1 (i := 96) rfl) rfl
theorem q1_97 : (Jvm.Cond.fieldLink "TuneSchool" (341 : Nat) "TuneSchool$Moment" "alone" "LTuneSchool$Voice;") ∈ gtb := gtb_of (mt1 (i := 97) rfl) rfl
theorem q1_98 : (Jvm.Cond.laysFinal "TuneSchool$Moment" "TuneSchool$Moment" "numbers" "[I") ∈ gtb := gtb_of (mt1 (i := 98) rfl) rfl
theorem q1_100 : (Jvm.Cond.lays "TuneSchool$Moment" "TuneSchool$Moment" "traced" "I") ∈ gtb := gtb_of (mt1 (i := 100) rfl) rfl
theorem q1_102 : (Jvm.Cond.lays "TuneSchool$Moment" "TuneSchool$Moment" "open" "Z") ∈ gtb := gtb_of (mt1 (i := 102) rfl) rfl
theorem q1_104 : (Jvm.Cond.lays "TuneSchool$Moment" "TuneSchool$Moment" "strongEach" "I") ∈ gtb := gtb_of (mt1 (i := 104) rfl) rfl
theorem q1_106 : (Jvm.Cond.lays "TuneSchool$Moment" "TuneSchool$Moment" "tick" "I") ∈ gtb := gtb_of (mt1 (i := 106) rfl) rfl
theorem q1_108 : (Jvm.Cond.lays "TuneSchool$Moment" "TuneSchool$Moment" "p" "I") ∈ gtb := gtb_of (mt1 (i := 108) rfl) rfl
theorem q1_110 : (Jvm.Cond.lays "TuneSchool$Moment" "TuneSchool$Moment" "q" "I") ∈ gtb := gtb_of (mt1 (i := 110) rfl) rfl
theorem q1_112 : (Jvm.Cond.lays "TuneSchool$Moment" "TuneSchool$Moment" "pBefore" "I") ∈ gtb := gtb_of (mt1 (i := 112) rfl) rfl
theorem q1_114 : (Jvm.Cond.lays "TuneSchool$Moment" "TuneSchool$Moment" "qBefore" "I") ∈ gtb := gtb_of (mt1 (i := 114) rfl) rfl
theorem q1_116 : (Jvm.Cond.lays "TuneSchool$Moment" "TuneSchool$Moment" "last" "Z") ∈ gtb := gtb_of (mt1 (i := 116) rfl) rfl
theorem q1_118 : (Jvm.Cond.lays "TuneSchool$Moment" "TuneSchool$Moment" "alone" "LTuneSchool$Voice;") ∈ gtb := gtb_of (mt1 (i := 118) rfl) rfl
theorem q1_120 : (Jvm.Cond.superclass "TuneSchool$Moment" "java/lang/Object") ∈ gtb := gtb_of (mt1 (i := 120) rfl) rfl
theorem q1_121 : (Jvm.Cond.classLink "TuneSchool" (39 : Nat) "TuneSchool$Desk") ∈ gtb := gtb_of (mt1 (i := 121) rfl) rfl
theorem q1_122 : (Jvm.Cond.instantiable "TuneSchool$Desk" (17 : Nat)) ∈ gtb := gtb_of (mt1 (i := 122) rfl) rfl
theorem q1_123 : (Jvm.Cond.methodLink "TuneSchool" (41 : Nat) ({ cls := "TuneSchool$Desk", name := "<init>", desc := "(LTuneSchool$Moment;)V" } : Jvm.MethodName)) ∈ gtb := gtb_of (mt1 (i := 123) rfl) rfl
theorem q1_124 : (Jvm.Cond.instanceMethod ({ cls := "TuneSchool$Desk", name := "<init>", desc := "(LTuneSchool$Moment;)V" } : Jvm.MethodName)) ∈ gtb := gtb_of (mt1 (i := 124) rfl) rfl
theorem q1_125 : (Jvm.Cond.code ({ cls := "TuneSchool$Desk", name := "<init>", desc := "(LTuneSchool$Moment;)V" } : Jvm.MethodName) prog_3_method_1_code (2 : Nat) (Option.none : Option Jvm.ClassFile.FieldType)) ∈ gtb := gtb_of (mt1 (i := 125) rfl) rfl
theorem q1_126 : (Jvm.Cond.methodLink "TuneSchool$Desk" (3 : Nat) ({ cls := "java/lang/Object", name := "<init>", desc := "()V" } : Jvm.MethodName)) ∈ gtb := gtb_of (mt1 (i := 126) rfl) rfl
theorem q1_127 : (Jvm.Cond.classLink "TuneSchool$Desk" (25 : Nat) "TuneSchool$Voice") ∈ gtb := gtb_of (mt1 (i := 127) rfl) rfl
theorem q1_129 : (Jvm.Cond.fieldLink "TuneSchool$Desk" (44 : Nat) "TuneSchool$Desk" "m" "LTuneSchool$Moment;") ∈ gtb := gtb_of (mt1 (i := 129) rfl) rfl
theorem q1_130 : (Jvm.Cond.fieldLink "TuneSchool$Desk" (9 : Nat) "TuneSchool$Desk" "weights" "[I") ∈ gtb := gtb_of (mt1 (i := 130) rfl) rfl
theorem q1_131 : (Jvm.Cond.fieldLink "TuneSchool" (187 : Nat) "TuneSchool$Desk" "weights" "[I") ∈ gtb := gtb_of (mt1 (i := 131) rfl) rfl
theorem q1_132 : (Jvm.Cond.fieldLink "TuneSchool$Desk" (15 : Nat) "TuneSchool$Desk" "keys" "I") ∈ gtb := gtb_of (mt1 (i := 132) rfl) rfl
theorem q1_133 : (Jvm.Cond.fieldLink "TuneSchool" (184 : Nat) "TuneSchool$Desk" "keys" "I") ∈ gtb := gtb_of (mt1 (i := 133) rfl) rfl
theorem q1_134 : (Jvm.Cond.fieldLink "TuneSchool$Desk" (56 : Nat) "TuneSchool$Desk" "begun" "Z") ∈ gtb := gtb_of (mt1 (i := 134) rfl) rfl
theorem q1_135 : (Jvm.Cond.fieldLink "TuneSchool" (255 : Nat) "TuneSchool$Desk" "begun" "Z") ∈ gtb := gtb_of (mt1 (i := 135) rfl) rfl
theorem q1_136 : (Jvm.Cond.fieldLink "TuneSchool$Desk" (59 : Nat) "TuneSchool$Desk" "ended" "Z") ∈ gtb := gtb_of (mt1 (i := 136) rfl) rfl
theorem q1_137 : (Jvm.Cond.fieldLink "TuneSchool" (258 : Nat) "TuneSchool$Desk" "ended" "Z") ∈ gtb := gtb_of (mt1 (i := 137) rfl) rfl
theorem q1_138 : (Jvm.Cond.fieldLink "TuneSchool" (246 : Nat) "TuneSchool$Desk" "target" "I") ∈ gtb := gtb_of (mt1 (i := 138) rfl) rfl
theorem q1_139 : (Jvm.Cond.fieldLink "TuneSchool" (249 : Nat) "TuneSchool$Desk" "place" "I") ∈ gtb := gtb_of (mt1 (i := 139) rfl) rfl
theorem q1_140 : (Jvm.Cond.fieldLink "TuneSchool$Desk" (52 : Nat) "TuneSchool$Desk" "above" "Z") ∈ gtb := gtb_of (mt1 (i := 140) rfl) rfl
theorem q1_141 : (Jvm.Cond.fieldLink "TuneSchool$Desk" (19 : Nat) "TuneSchool$Desk" "low" "I") ∈ gtb := gtb_of (mt1 (i := 141) rfl) rfl
theorem q1_142 : (Jvm.Cond.fieldLink "TuneSchool$Desk" (22 : Nat) "TuneSchool$Desk" "high" "I") ∈ gtb := gtb_of (mt1 (i := 142) rfl) rfl
theorem q1_143 : (Jvm.Cond.fieldLink "TuneSchool$Desk" (62 : Nat) "TuneSchool$Desk" "done" "I") ∈ gtb := gtb_of (mt1 (i := 143) rfl) rfl
theorem q1_144 : (Jvm.Cond.fieldLink "TuneSchool" (323 : Nat) "TuneSchool$Desk" "done" "I") ∈ gtb := gtb_of (mt1 (i := 144) rfl) rfl
theorem q1_145 : (Jvm.Cond.fieldLink "TuneSchool$Desk" (77 : Nat) "TuneSchool$Desk" "lastHeardTick" "I") ∈ gtb := gtb_of (mt1 (i := 145) rfl) rfl
theorem q1_146 : (Jvm.Cond.fieldLink "TuneSchool$Desk" (28 : Nat) "TuneSchool$Desk" "given" "LTuneSchool$Voice;") ∈ gtb := gtb_of (mt1 (i := 146) rfl) rfl
theorem q1_147 : (Jvm.Cond.fieldLink "TuneSchool$Desk" (32 : Nat) "TuneSchool$Desk" "begins" "[I") ∈ gtb := gtb_of (mt1 (i := 147) rfl) rfl
theorem q1_148 : (Jvm.Cond.fieldLink "TuneSchool$Desk" (35 : Nat) "TuneSchool$Desk" "leasts" "[I") ∈ gtb := gtb_of (mt1 (i := 148) rfl) rfl
theorem q1_149 : (Jvm.Cond.fieldLink "TuneSchool" (279 : Nat) "TuneSchool$Desk" "leasts" "[I") ∈ gtb := gtb_of (mt1 (i := 149) rfl) rfl
theorem q1_150 : (Jvm.Cond.fieldLink "TuneSchool$Desk" (38 : Nat) "TuneSchool$Desk" "choices" "[I") ∈ gtb := gtb_of (mt1 (i := 150) rfl) rfl
theorem q1_151 : (Jvm.Cond.fieldLink "TuneSchool$Desk" (41 : Nat) "TuneSchool$Desk" "tunesFrom" "[I") ∈ gtb := gtb_of (mt1 (i := 151) rfl) rfl
theorem q1_152 : (Jvm.Cond.laysFinal "TuneSchool$Desk" "TuneSchool$Desk" "m" "LTuneSchool$Moment;") ∈ gtb := gtb_of (mt1 (i := 152) rfl) rfl
theorem q1_154 : (Jvm.Cond.laysFinal "TuneSchool$Desk" "TuneSchool$Desk" "weights" "[I") ∈ gtb := gtb_of (mt1 (i := 154) rfl) rfl
theorem q1_156 : (Jvm.Cond.lays "TuneSchool$Desk" "TuneSchool$Desk" "keys" "I") ∈ gtb := gtb_of (mt1 (i := 156) rfl) rfl
theorem q1_158 : (Jvm.Cond.lays "TuneSchool$Desk" "TuneSchool$Desk" "begun" "Z") ∈ gtb := gtb_of (mt1 (i := 158) rfl) rfl
theorem q1_160 : (Jvm.Cond.lays "TuneSchool$Desk" "TuneSchool$Desk" "ended" "Z") ∈ gtb := gtb_of (mt1 (i := 160) rfl) rfl
theorem q1_162 : (Jvm.Cond.lays "TuneSchool$Desk" "TuneSchool$Desk" "target" "I") ∈ gtb := gtb_of (mt1 (i := 162) rfl) rfl
theorem q1_164 : (Jvm.Cond.lays "TuneSchool$Desk" "TuneSchool$Desk" "place" "I") ∈ gtb := gtb_of (mt1 (i := 164) rfl) rfl
theorem q1_166 : (Jvm.Cond.lays "TuneSchool$Desk" "TuneSchool$Desk" "above" "Z") ∈ gtb := gtb_of (mt1 (i := 166) rfl) rfl
theorem q1_168 : (Jvm.Cond.lays "TuneSchool$Desk" "TuneSchool$Desk" "low" "I") ∈ gtb := gtb_of (mt1 (i := 168) rfl) rfl
theorem q1_170 : (Jvm.Cond.lays "TuneSchool$Desk" "TuneSchool$Desk" "high" "I") ∈ gtb := gtb_of (mt1 (i := 170) rfl) rfl
theorem q1_172 : (Jvm.Cond.lays "TuneSchool$Desk" "TuneSchool$Desk" "done" "I") ∈ gtb := gtb_of (mt1 (i := 172) rfl) rfl
theorem q1_174 : (Jvm.Cond.lays "TuneSchool$Desk" "TuneSchool$Desk" "lastHeardTick" "I") ∈ gtb := gtb_of (mt1 (i := 174) rfl) rfl
theorem q1_176 : (Jvm.Cond.laysFinal "TuneSchool$Desk" "TuneSchool$Desk" "given" "LTuneSchool$Voice;") ∈ gtb := gtb_of (mt1 (i := 176) rfl) rfl
theorem q1_178 : (Jvm.Cond.laysFinal "TuneSchool$Desk" "TuneSchool$Desk" "begins" "[I") ∈ gtb := gtb_of (mt1 (i := 178) rfl) rfl
theorem q1_180 : (Jvm.Cond.laysFinal "TuneSchool$Desk" "TuneSchool$Desk" "leasts" "[I") ∈ gtb := gtb_of (mt1 (i := 180) rfl) rfl
theorem q1_182 : (Jvm.Cond.laysFinal "TuneSchool$Desk" "TuneSchool$Desk" "choices" "[I") ∈ gtb := gtb_of (mt1 (i := 182) rfl) rfl
theorem q1_184 : (Jvm.Cond.laysFinal "TuneSchool$Desk" "TuneSchool$Desk" "tunesFrom" "[I") ∈ gtb := gtb_of (mt1 (i := 184) rfl) rfl
theorem q1_186 : (Jvm.Cond.superclass "TuneSchool$Desk" "java/lang/Object") ∈ gtb := gtb_of (mt1 (i := 186) rfl) rfl
theorem q1_187 : (Jvm.Cond.classLink "TuneSchool" (48 : Nat) "TuneSchool$Line") ∈ gtb := gtb_of (mt1 (i := 187) rfl) rfl
theorem q1_188 : (Jvm.Cond.instantiable "TuneSchool$Line" (3 : Nat)) ∈ gtb := gtb_of (mt1 (i := 188) rfl) rfl
theorem q1_190 : (Jvm.Cond.instanceMethod ({ cls := "TuneSchool$Line", name := "<init>", desc := "()V" } : Jvm.MethodName)) ∈ gtb := gtb_of (mt1 (i := 190) rfl) rfl
theorem q1_191 : (Jvm.Cond.code ({ cls := "TuneSchool$Line", name := "<init>", desc := "()V" } : Jvm.MethodName) prog_6_method_1_code (1 : Nat) (Option.none : Option Jvm.ClassFile.FieldType)) ∈ gtb := gtb_of (mt1 (i := 191) rfl) rfl
theorem q1_192 : (Jvm.Cond.methodLink "TuneSchool$Line" (3 : Nat) ({ cls := "java/lang/Object", name := "<init>", desc := "()V" } : Jvm.MethodName)) ∈ gtb := gtb_of (mt1 (i := 192) rfl) rfl
theorem q1_193 : (Jvm.Cond.fieldLink "TuneSchool$Line" (9 : Nat) "TuneSchool$Line" "characters" "[I") ∈ gtb := gtb_of (mt1 (i := 193) rfl) rfl
theorem q1_194 : (Jvm.Cond.fieldLink "TuneSchool" (299 : Nat) "TuneSchool$Line" "characters" "[I") ∈ gtb := gtb_of (mt1 (i := 194) rfl) rfl
theorem q1_195 : (Jvm.Cond.fieldLink "TuneSchool$Line" (15 : Nat) "TuneSchool$Line" "length" "I") ∈ gtb := gtb_of (mt1 (i := 195) rfl) rfl
theorem q1_196 : (Jvm.Cond.fieldLink "TuneSchool" (293 : Nat) "TuneSchool$Line" "length" "I") ∈ gtb := gtb_of (mt1 (i := 196) rfl) rfl
theorem q1_197 : (Jvm.Cond.fieldLink "TuneSchool$Line" (38 : Nat) "TuneSchool$Line" "at" "I") ∈ gtb := gtb_of (mt1 (i := 197) rfl) rfl
theorem q1_198 : (Jvm.Cond.laysFinal "TuneSchool$Line" "TuneSchool$Line" "characters" "[I") ∈ gtb := gtb_of (mt1 (i := 198) rfl) rfl
theorem q1_200 : (Jvm.Cond.lays "TuneSchool$Line" "TuneSchool$Line" "length" "I") ∈ gtb := gtb_of (mt1 (i := 200) rfl) rfl
theorem q1_202 : (Jvm.Cond.lays "TuneSchool$Line" "TuneSchool$Line" "at" "I") ∈ gtb := gtb_of (mt1 (i := 202) rfl) rfl
theorem q1_204 : (Jvm.Cond.superclass "TuneSchool$Line" "java/lang/Object") ∈ gtb := gtb_of (mt1 (i := 204) rfl) rfl
theorem q1_205 : (Jvm.Cond.classLink "TuneSchool" (59 : Nat) "TuneSchool$Rule") ∈ gtb := gtb_of (mt1 (i := 205) rfl) rfl
theorem q1_207 : (Jvm.Cond.fieldLink "TuneSchool" (11 : Nat) "TuneSchool" "voices" "[LTuneSchool$Voice;") ∈ gtb := gtb_of (mt1 (i := 207) rfl) rfl
theorem q1_208 : (Jvm.Cond.fieldLink "TuneSchool" (16 : Nat) "TuneSchool" "kept" "LTuneSchool$Voice;") ∈ gtb := gtb_of (mt1 (i := 208) rfl) rfl
theorem q1_209 : (Jvm.Cond.fieldLink "TuneSchool" (20 : Nat) "TuneSchool" "draft" "LTuneSchool$Voice;") ∈ gtb := gtb_of (mt1 (i := 209) rfl) rfl
theorem q1_210 : (Jvm.Cond.fieldLink "TuneSchool" (23 : Nat) "TuneSchool" "follower" "LTuneSchool$Voice;") ∈ gtb := gtb_of (mt1 (i := 210) rfl) rfl
theorem q1_211 : (Jvm.Cond.fieldLink "TuneSchool" (28 : Nat) "TuneSchool" "places" "[LTuneSchool$Standing;") ∈ gtb := gtb_of (mt1 (i := 211) rfl) rfl
theorem q1_212 : (Jvm.Cond.fieldLink "TuneSchool" (35 : Nat) "TuneSchool" "moment" "LTuneSchool$Moment;") ∈ gtb := gtb_of (mt1 (i := 212) rfl) rfl
theorem q1_213 : (Jvm.Cond.fieldLink "TuneSchool" (44 : Nat) "TuneSchool" "desk" "LTuneSchool$Desk;") ∈ gtb := gtb_of (mt1 (i := 213) rfl) rfl
theorem q1_214 : (Jvm.Cond.fieldLink "TuneSchool" (51 : Nat) "TuneSchool" "line" "LTuneSchool$Line;") ∈ gtb := gtb_of (mt1 (i := 214) rfl) rfl
theorem q1_215 : (Jvm.Cond.fieldLink "TuneSchool" (55 : Nat) "TuneSchool" "lasts" "[I") ∈ gtb := gtb_of (mt1 (i := 215) rfl) rfl
theorem q1_216 : (Jvm.Cond.fieldLink "TuneSchool" (61 : Nat) "TuneSchool" "faultRules" "[LTuneSchool$Rule;") ∈ gtb := gtb_of (mt1 (i := 216) rfl) rfl
theorem q1_217 : (Jvm.Cond.fieldLink "TuneSchool" (65 : Nat) "TuneSchool" "faultNumbers" "[I") ∈ gtb := gtb_of (mt1 (i := 217) rfl) rfl
theorem q1_218 : (Jvm.Cond.fieldLink "TuneSchool" (199 : Nat) "TuneSchool" "noted" "I") ∈ gtb := gtb_of (mt1 (i := 218) rfl) rfl
theorem q1_219 : (Jvm.Cond.fieldLink "TuneSchool" (202 : Nat) "TuneSchool" "faultsFound" "I") ∈ gtb := gtb_of (mt1 (i := 219) rfl) rfl
theorem q1_220 : (Jvm.Cond.fieldLink "TuneSchool" (68 : Nat) "TuneSchool" "keptNumber" "I") ∈ gtb := gtb_of (mt1 (i := 220) rfl) rfl
theorem q1_221 : (Jvm.Cond.fieldLink "TuneSchool" (302 : Nat) "TuneSchool" "latestFinding" "I") ∈ gtb := gtb_of (mt1 (i := 221) rfl) rfl
theorem q1_222 : (Jvm.Cond.fieldLink "TuneSchool" (314 : Nat) "TuneSchool" "findings" "I") ∈ gtb := gtb_of (mt1 (i := 222) rfl) rfl
theorem q1_223 : (Jvm.Cond.fieldLink "TuneSchool" (128 : Nat) "TuneSchool" "rowsCopied" "I") ∈ gtb := gtb_of (mt1 (i := 223) rfl) rfl
theorem q1_224 : (Jvm.Cond.laysFinal "TuneSchool" "TuneSchool" "voices" "[LTuneSchool$Voice;") ∈ gtb := gtb_of (mt1 (i := 224) rfl) rfl
theorem q1_226 : (Jvm.Cond.laysFinal "TuneSchool" "TuneSchool" "kept" "LTuneSchool$Voice;") ∈ gtb := gtb_of (mt1 (i := 226) rfl) rfl
theorem q1_228 : (Jvm.Cond.laysFinal "TuneSchool" "TuneSchool" "draft" "LTuneSchool$Voice;") ∈ gtb := gtb_of (mt1 (i := 228) rfl) rfl
theorem q1_230 : (Jvm.Cond.laysFinal "TuneSchool" "TuneSchool" "follower" "LTuneSchool$Voice;") ∈ gtb := gtb_of (mt1 (i := 230) rfl) rfl
theorem q1_232 : (Jvm.Cond.laysFinal "TuneSchool" "TuneSchool" "places" "[LTuneSchool$Standing;") ∈ gtb := gtb_of (mt1 (i := 232) rfl) rfl
theorem q1_234 : (Jvm.Cond.laysFinal "TuneSchool" "TuneSchool" "moment" "LTuneSchool$Moment;") ∈ gtb := gtb_of (mt1 (i := 234) rfl) rfl
theorem q1_236 : (Jvm.Cond.laysFinal "TuneSchool" "TuneSchool" "desk" "LTuneSchool$Desk;") ∈ gtb := gtb_of (mt1 (i := 236) rfl) rfl
theorem q1_238 : (Jvm.Cond.laysFinal "TuneSchool" "TuneSchool" "line" "LTuneSchool$Line;") ∈ gtb := gtb_of (mt1 (i := 238) rfl) rfl
theorem q2_0 : (Jvm.Cond.laysFinal "TuneSchool" "TuneSchool" "lasts" "[I") ∈ gtb := gtb_of (mt2 (i := 0) rfl) rfl
theorem q2_2 : (Jvm.Cond.laysFinal "TuneSchool" "TuneSchool" "faultRules" "[LTuneSchool$Rule;") ∈ gtb := gtb_of (mt2 (i := 2) rfl) rfl
theorem q2_4 : (Jvm.Cond.laysFinal "TuneSchool" "TuneSchool" "faultNumbers" "[I") ∈ gtb := gtb_of (mt2 (i := 4) rfl) rfl
theorem q2_6 : (Jvm.Cond.lays "TuneSchool" "TuneSchool" "noted" "I") ∈ gtb := gtb_of (mt2 (i := 6) rfl) rfl
theorem q2_8 : (Jvm.Cond.lays "TuneSchool" "TuneSchool" "faultsFound" "I") ∈ gtb := gtb_of (mt2 (i := 8) rfl) rfl
theorem q2_10 : (Jvm.Cond.lays "TuneSchool" "TuneSchool" "keptNumber" "I") ∈ gtb := gtb_of (mt2 (i := 10) rfl) rfl
theorem q2_12 : (Jvm.Cond.lays "TuneSchool" "TuneSchool" "latestFinding" "I") ∈ gtb := gtb_of (mt2 (i := 12) rfl) rfl
theorem q2_14 : (Jvm.Cond.lays "TuneSchool" "TuneSchool" "findings" "I") ∈ gtb := gtb_of (mt2 (i := 14) rfl) rfl
theorem q2_16 : (Jvm.Cond.lays "TuneSchool" "TuneSchool" "rowsCopied" "I") ∈ gtb := gtb_of (mt2 (i := 16) rfl) rfl
theorem q2_18 : (Jvm.Cond.superclass "TuneSchool" "java/lang/Object") ∈ gtb := gtb_of (mt2 (i := 18) rfl) rfl
theorem q2_19 : (Jvm.Cond.methodLink "TuneSchoolLaw" (13 : Nat) ({ cls := "TuneSchool", name := "voice", desc := "(II)I" } : Jvm.MethodName)) ∈ gtb := gtb_of (mt2 (i := 19) rfl) rfl
theorem q2_20 : (Jvm.Cond.instanceMethod ({ cls := "TuneSchool", name := "voice", desc := "(II)I" } : Jvm.MethodName)) ∈ gtb := gtb_of (mt2 (i := 20) rfl) rfl
theorem q2_21 : (Jvm.Cond.selects "TuneSchool" ({ cls := "TuneSchool", name := "voice", desc := "(II)I" } : Jvm.MethodName) ({ cls := "TuneSchool", name := "voice", desc := "(II)I" } : Jvm.MethodName)) ∈ gtb := gtb_of (mt2 (i := 21) rfl) rfl
theorem q2_22 : (Jvm.Cond.code ({ cls := "TuneSchool", name := "voice", desc := "(II)I" } : Jvm.MethodName) prog_1_method_2_code (3 : Nat) (Option.some Jvm.ClassFile.FieldType.int)) ∈ gtb := gtb_of (mt2 (i := 22) rfl) rfl
theorem q2_23 : (Jvm.Cond.methodLink "TuneSchool" (72 : Nat) ({ cls := "TuneSchool", name := "isVoice", desc := "(I)Z" } : Jvm.MethodName)) ∈ gtb := gtb_of (mt2 (i := 23) rfl) rfl
theorem q2_24 : (Jvm.Cond.static ({ cls := "TuneSchool", name := "isVoice", desc := "(I)Z" } : Jvm.MethodName)) ∈ gtb := gtb_of (mt2 (i := 24) rfl) rfl
theorem q2_25 : (Jvm.Cond.code ({ cls := "TuneSchool", name := "isVoice", desc := "(I)Z" } : Jvm.MethodName) prog_1_method_45_code (1 : Nat) (Option.some Jvm.ClassFile.FieldType.boolean)) ∈ gtb := gtb_of (mt2 (i := 25) rfl) rfl
theorem q2_26 : (Jvm.Cond.methodLink "TuneSchool" (76 : Nat) ({ cls := "TuneSchool", name := "finding", desc := "(I)I" } : Jvm.MethodName)) ∈ gtb := gtb_of (mt2 (i := 26) rfl) rfl
theorem q2_28 : (Jvm.Cond.instanceMethod ({ cls := "TuneSchool", name := "finding", desc := "(I)I" } : Jvm.MethodName)) ∈ gtb := gtb_of (mt2 (i := 28) rfl) rfl
theorem q2_29 : (Jvm.Cond.code ({ cls := "TuneSchool", name := "finding", desc := "(I)I" } : Jvm.MethodName) prog_1_method_49_code (2 : Nat) (Option.some Jvm.ClassFile.FieldType.int)) ∈ gtb := gtb_of (mt2 (i := 29) rfl) rfl
theorem q2_30 : (Jvm.Cond.methodLink "TuneSchool" (80 : Nat) ({ cls := "TuneSchool", name := "keep", desc := "(I)V" } : Jvm.MethodName)) ∈ gtb := gtb_of (mt2 (i := 30) rfl) rfl
theorem q2_32 : (Jvm.Cond.instanceMethod ({ cls := "TuneSchool", name := "keep", desc := "(I)V" } : Jvm.MethodName)) ∈ gtb := gtb_of (mt2 (i := 32) rfl) rfl
theorem q2_33 : (Jvm.Cond.code ({ cls := "TuneSchool", name := "keep", desc := "(I)V" } : Jvm.MethodName) prog_1_method_51_code (2 : Nat) (Option.none : Option Jvm.ClassFile.FieldType)) ∈ gtb := gtb_of (mt2 (i := 33) rfl) rfl
theorem q2_34 : (Jvm.Cond.methodLink "TuneSchool" (140 : Nat) ({ cls := "TuneSchool$Voice", name := "becomeAs", desc := "(LTuneSchool$Voice;)V" } : Jvm.MethodName)) ∈ gtb := gtb_of (mt2 (i := 34) rfl) rfl
theorem q2_35 : (Jvm.Cond.instanceMethod ({ cls := "TuneSchool$Voice", name := "becomeAs", desc := "(LTuneSchool$Voice;)V" } : Jvm.MethodName)) ∈ gtb := gtb_of (mt2 (i := 35) rfl) rfl
theorem q2_36 : (Jvm.Cond.selects "TuneSchool$Voice" ({ cls := "TuneSchool$Voice", name := "becomeAs", desc := "(LTuneSchool$Voice;)V" } : Jvm.MethodName) ({ cls := "TuneSchool$Voice", name := "becomeAs", desc := "(LTuneSchool$Voice;)V" } : Jvm.MethodName)) ∈ gtb := gtb_of (mt2 (i := 36) rfl) rfl
theorem q2_37 : (Jvm.Cond.code ({ cls := "TuneSchool$Voice", name := "becomeAs", desc := "(LTuneSchool$Voice;)V" } : Jvm.MethodName) prog_12_method_3_code (3 : Nat) (Option.none : Option Jvm.ClassFile.FieldType)) ∈ gtb := gtb_of (mt2 (i := 37) rfl) rfl
theorem q2_38 : (Jvm.Cond.methodLink "TuneSchool$Voice" (33 : Nat) ({ cls := "java/lang/System", name := "arraycopy", desc := "(Ljava/lang/Object;ILjava/lang/Object;II)V" } : Jvm.MethodName)) ∈ gtb := gtb_of (mt2 (i := 38) rfl) rfl
theorem q2_39 : (Jvm.Cond.static ({ cls := "java/lang/System", name := "arraycopy", desc := "(Ljava/lang/Object;ILjava/lang/Object;II)V" } : Jvm.MethodName)) ∈ gtb := gtb_of (mt2 (i := 39) rfl) rfl
theorem q2_40 : (Jvm.Cond.native ({ cls := "java/lang/System", name := "arraycopy", desc := "(Ljava/lang/Object;ILjava/lang/Object;II)V" } : Jvm.MethodName)) ∈ gtb := gtb_of (mt2 (i := 40) rfl) rfl
theorem q2_41 : (Jvm.Cond.methodLink "TuneSchool" (84 : Nat) ({ cls := "TuneSchool$Voice", name := "renew", desc := "(I)V" } : Jvm.MethodName)) ∈ gtb := gtb_of (mt2 (i := 41) rfl) rfl
theorem q2_42 : (Jvm.Cond.instanceMethod ({ cls := "TuneSchool$Voice", name := "renew", desc := "(I)V" } : Jvm.MethodName)) ∈ gtb := gtb_of (mt2 (i := 42) rfl) rfl
theorem q2_43 : (Jvm.Cond.selects "TuneSchool$Voice" ({ cls := "TuneSchool$Voice", name := "renew", desc := "(I)V" } : Jvm.MethodName) ({ cls := "TuneSchool$Voice", name := "renew", desc := "(I)V" } : Jvm.MethodName)) ∈ gtb := gtb_of (mt2 (i := 43) rfl) rfl
theorem q2_44 : (Jvm.Cond.code ({ cls := "TuneSchool$Voice", name := "renew", desc := "(I)V" } : Jvm.MethodName) prog_12_method_2_code (2 : Nat) (Option.none : Option Jvm.ClassFile.FieldType)) ∈ gtb := gtb_of (mt2 (i := 44) rfl) rfl
theorem q2_45 : (Jvm.Cond.methodLink "TuneSchool$Voice" (27 : Nat) ({ cls := "java/util/Arrays", name := "fill", desc := "([II)V" } : Jvm.MethodName)) ∈ gtb := gtb_of (mt2 (i := 45) rfl) rfl
theorem q2_46 : (Jvm.Cond.static ({ cls := "java/util/Arrays", name := "fill", desc := "([II)V" } : Jvm.MethodName)) ∈ gtb := gtb_of (mt2 (i := 46) rfl) rfl
theorem q2_47 : (Jvm.Cond.code ({ cls := "java/util/Arrays", name := "fill", desc := "([II)V" } : Jvm.MethodName) prog_17_method_103_code (4 : Nat) (Option.none : Option Jvm.ClassFile.FieldType)) ∈ gtb := gtb_of (mt2 (i := 47) rfl) rfl
theorem q2_48 : (Jvm.Cond.methodLink "TuneSchool" (87 : Nat) ({ cls := "TuneSchool", name := "fine", desc := "(I)I" } : Jvm.MethodName)) ∈ gtb := gtb_of (mt2 (i := 48) rfl) rfl
theorem q2_50 : (Jvm.Cond.instanceMethod ({ cls := "TuneSchool", name := "fine", desc := "(I)I" } : Jvm.MethodName)) ∈ gtb := gtb_of (mt2 (i := 50) rfl) rfl
theorem q2_51 : (Jvm.Cond.code ({ cls := "TuneSchool", name := "fine", desc := "(I)I" } : Jvm.MethodName) prog_1_method_50_code (2 : Nat) (Option.some Jvm.ClassFile.FieldType.int)) ∈ gtb := gtb_of (mt2 (i := 51) rfl) rfl
theorem q2_52 : (Jvm.Cond.methodLink "TuneSchoolLaw" (18 : Nat) ({ cls := "TuneSchool", name := "drop", desc := "(I)I" } : Jvm.MethodName)) ∈ gtb := gtb_of (mt2 (i := 52) rfl) rfl
theorem q2_53 : (Jvm.Cond.instanceMethod ({ cls := "TuneSchool", name := "drop", desc := "(I)I" } : Jvm.MethodName)) ∈ gtb := gtb_of (mt2 (i := 53) rfl) rfl
theorem q2_54 : (Jvm.Cond.selects "TuneSchool" ({ cls := "TuneSchool", name := "drop", desc := "(I)I" } : Jvm.MethodName) ({ cls := "TuneSchool", name := "drop", desc := "(I)I" } : Jvm.MethodName)) ∈ gtb := gtb_of (mt2 (i := 54) rfl) rfl
theorem q2_55 : (Jvm.Cond.code ({ cls := "TuneSchool", name := "drop", desc := "(I)I" } : Jvm.MethodName) prog_1_method_3_code (3 : Nat) (Option.some Jvm.ClassFile.FieldType.int)) ∈ gtb := gtb_of (mt2 (i := 55) rfl) rfl
theorem q2_56 : (Jvm.Cond.methodLink "TuneSchoolLaw" (23 : Nat) ({ cls := "TuneSchool", name := "note", desc := "(IIII)I" } : Jvm.MethodName)) ∈ gtb := gtb_of (mt2 (i := 56) rfl) rfl
theorem q2_57 : (Jvm.Cond.instanceMethod ({ cls := "TuneSchool", name := "note", desc := "(IIII)I" } : Jvm.MethodName)) ∈ gtb := gtb_of (mt2 (i := 57) rfl) rfl
theorem q2_58 : (Jvm.Cond.selects "TuneSchool" ({ cls := "TuneSchool", name := "note", desc := "(IIII)I" } : Jvm.MethodName) ({ cls := "TuneSchool", name := "note", desc := "(IIII)I" } : Jvm.MethodName)) ∈ gtb := gtb_of (mt2 (i := 58) rfl) rfl
theorem q2_59 : (Jvm.Cond.code ({ cls := "TuneSchool", name := "note", desc := "(IIII)I" } : Jvm.MethodName) prog_1_method_4_code (6 : Nat) (Option.some Jvm.ClassFile.FieldType.int)) ∈ gtb := gtb_of (mt2 (i := 59) rfl) rfl
theorem q2_60 : (Jvm.Cond.methodLink "TuneSchool" (94 : Nat) ({ cls := "TuneSchool", name := "isWithin", desc := "(III)Z" } : Jvm.MethodName)) ∈ gtb := gtb_of (mt2 (i := 60) rfl) rfl
theorem q2_61 : (Jvm.Cond.static ({ cls := "TuneSchool", name := "isWithin", desc := "(III)Z" } : Jvm.MethodName)) ∈ gtb := gtb_of (mt2 (i := 61) rfl) rfl
theorem q2_62 : (Jvm.Cond.code ({ cls := "TuneSchool", name := "isWithin", desc := "(III)Z" } : Jvm.MethodName) prog_1_method_44_code (3 : Nat) (Option.some Jvm.ClassFile.FieldType.boolean)) ∈ gtb := gtb_of (mt2 (i := 62) rfl) rfl
theorem q2_63 : (Jvm.Cond.methodLink "TuneSchool" (98 : Nat) ({ cls := "TuneSchool$Voice", name := "has", desc := "(II)Z" } : Jvm.MethodName)) ∈ gtb := gtb_of (mt2 (i := 63) rfl) rfl
theorem q2_64 : (Jvm.Cond.instanceMethod ({ cls := "TuneSchool$Voice", name := "has", desc := "(II)Z" } : Jvm.MethodName)) ∈ gtb := gtb_of (mt2 (i := 64) rfl) rfl
theorem q2_65 : (Jvm.Cond.selects "TuneSchool$Voice" ({ cls := "TuneSchool$Voice", name := "has", desc := "(II)Z" } : Jvm.MethodName) ({ cls := "TuneSchool$Voice", name := "has", desc := "(II)Z" } : Jvm.MethodName)) ∈ gtb := gtb_of (mt2 (i := 65) rfl) rfl
theorem q2_66 : (Jvm.Cond.code ({ cls := "TuneSchool$Voice", name := "has", desc := "(II)Z" } : Jvm.MethodName) prog_12_method_4_code (3 : Nat) (Option.some Jvm.ClassFile.FieldType.boolean)) ∈ gtb := gtb_of (mt2 (i := 66) rfl) rfl
theorem q2_67 : (Jvm.Cond.methodLink "TuneSchoolLaw" (28 : Nat) ({ cls := "TuneSchool", name := "cut", desc := "(III)I" } : Jvm.MethodName)) ∈ gtb := gtb_of (mt2 (i := 67) rfl) rfl
theorem q2_68 : (Jvm.Cond.instanceMethod ({ cls := "TuneSchool", name := "cut", desc := "(III)I" } : Jvm.MethodName)) ∈ gtb := gtb_of (mt2 (i := 68) rfl) rfl
theorem q2_69 : (Jvm.Cond.selects "TuneSchool" ({ cls := "TuneSchool", name := "cut", desc := "(III)I" } : Jvm.MethodName) ({ cls := "TuneSchool", name := "cut", desc := "(III)I" } : Jvm.MethodName)) ∈ gtb := gtb_of (mt2 (i := 69) rfl) rfl
theorem q2_70 : (Jvm.Cond.code ({ cls := "TuneSchool", name := "cut", desc := "(III)I" } : Jvm.MethodName) prog_1_method_5_code (6 : Nat) (Option.some Jvm.ClassFile.FieldType.int)) ∈ gtb := gtb_of (mt2 (i := 70) rfl) rfl
theorem q2_71 : (Jvm.Cond.methodLink "TuneSchool" (106 : Nat) ({ cls := "TuneSchool", name := "isRow", desc := "(I)Z" } : Jvm.MethodName)) ∈ gtb := gtb_of (mt2 (i := 71) rfl) rfl
theorem q2_72 : (Jvm.Cond.static ({ cls := "TuneSchool", name := "isRow", desc := "(I)Z" } : Jvm.MethodName)) ∈ gtb := gtb_of (mt2 (i := 72) rfl) rfl
theorem q2_73 : (Jvm.Cond.code ({ cls := "TuneSchool", name := "isRow", desc := "(I)Z" } : Jvm.MethodName) prog_1_method_46_code (1 : Nat) (Option.some Jvm.ClassFile.FieldType.boolean)) ∈ gtb := gtb_of (mt2 (i := 73) rfl) rfl
theorem q2_74 : (Jvm.Cond.methodLink "TuneSchoolLaw" (33 : Nat) ({ cls := "TuneSchool", name := "size", desc := "(II)I" } : Jvm.MethodName)) ∈ gtb := gtb_of (mt2 (i := 74) rfl) rfl
theorem q2_75 : (Jvm.Cond.instanceMethod ({ cls := "TuneSchool", name := "size", desc := "(II)I" } : Jvm.MethodName)) ∈ gtb := gtb_of (mt2 (i := 75) rfl) rfl
theorem q2_76 : (Jvm.Cond.selects "TuneSchool" ({ cls := "TuneSchool", name := "size", desc := "(II)I" } : Jvm.MethodName) ({ cls := "TuneSchool", name := "size", desc := "(II)I" } : Jvm.MethodName)) ∈ gtb := gtb_of (mt2 (i := 76) rfl) rfl
theorem q2_77 : (Jvm.Cond.code ({ cls := "TuneSchool", name := "size", desc := "(II)I" } : Jvm.MethodName) prog_1_method_6_code (3 : Nat) (Option.some Jvm.ClassFile.FieldType.int)) ∈ gtb := gtb_of (mt2 (i := 77) rfl) rfl
theorem q2_78 : (Jvm.Cond.methodLink "TuneSchoolLaw" (37 : Nat) ({ cls := "TuneSchool", name := "number", desc := "(III)I" } : Jvm.MethodName)) ∈ gtb := gtb_of (mt2 (i := 78) rfl) rfl
theorem q2_79 : (Jvm.Cond.instanceMethod ({ cls := "TuneSchool", name := "number", desc := "(III)I" } : Jvm.MethodName)) ∈ gtb := gtb_of (mt2 (i := 79) rfl) rfl
theorem q2_80 : (Jvm.Cond.selects "TuneSchool" ({ cls := "TuneSchool", name := "number", desc := "(III)I" } : Jvm.MethodName) ({ cls := "TuneSchool", name := "number", desc := "(III)I" } : Jvm.MethodName)) ∈ gtb := gtb_of (mt2 (i := 80) rfl) rfl
theorem q2_81 : (Jvm.Cond.code ({ cls := "TuneSchool", name := "number", desc := "(III)I" } : Jvm.MethodName) prog_1_method_7_code (5 : Nat) (Option.some Jvm.ClassFile.FieldType.int)) ∈ gtb := gtb_of (mt2 (i := 81) rfl) rfl
theorem q2_82 : (Jvm.Cond.methodLink "TuneSchoolLaw" (41 : Nat) ({ cls := "TuneSchool", name := "end", desc := "(I)I" } : Jvm.MethodName)) ∈ gtb := gtb_of (mt2 (i := 82) rfl) rfl
theorem q2_83 : (Jvm.Cond.instanceMethod ({ cls := "TuneSchool", name := "end", desc := "(I)I" } : Jvm.MethodName)) ∈ gtb := gtb_of (mt2 (i := 83) rfl) rfl
theorem q2_84 : (Jvm.Cond.selects "TuneSchool" ({ cls := "TuneSchool", name := "end", desc := "(I)I" } : Jvm.MethodName) ({ cls := "TuneSchool", name := "end", desc := "(I)I" } : Jvm.MethodName)) ∈ gtb := gtb_of (mt2 (i := 84) rfl) rfl
theorem q2_85 : (Jvm.Cond.code ({ cls := "TuneSchool", name := "end", desc := "(I)I" } : Jvm.MethodName) prog_1_method_8_code (3 : Nat) (Option.some Jvm.ClassFile.FieldType.int)) ∈ gtb := gtb_of (mt2 (i := 85) rfl) rfl
theorem q2_86 : (Jvm.Cond.methodLink "TuneSchool" (112 : Nat) ({ cls := "TuneSchool", name := "goThrough", desc := "(LTuneSchool$Voice;)I" } : Jvm.MethodName)) ∈ gtb := gtb_of (mt2 (i := 86) rfl) rfl
theorem q2_87 : (Jvm.Cond.static ({ cls := "TuneSchool", name := "goThrough", desc := "(LTuneSchool$Voice;)I" } : Jvm.MethodName)) ∈ gtb := gtb_of (mt2 (i := 87) rfl) rfl
theorem q2_88 : (Jvm.Cond.code ({ cls := "TuneSchool", name := "goThrough", desc := "(LTuneSchool$Voice;)I" } : Jvm.MethodName) prog_1_method_52_code (1 : Nat) (Option.some Jvm.ClassFile.FieldType.int)) ∈ gtb := gtb_of (mt2 (i := 88) rfl) rfl
theorem q2_89 : (Jvm.Cond.methodLink "TuneSchool" (326 : Nat) ({ cls := "TuneSchool$Voice", name := "walk", desc := "()Z" } : Jvm.MethodName)) ∈ gtb := gtb_of (mt2 (i := 89) rfl) rfl
theorem q2_90 : (Jvm.Cond.instanceMethod ({ cls := "TuneSchool$Voice", name := "walk", desc := "()Z" } : Jvm.MethodName)) ∈ gtb := gtb_of (mt2 (i := 90) rfl) rfl
theorem q2_91 : (Jvm.Cond.selects "TuneSchool$Voice" ({ cls := "TuneSchool$Voice", name := "walk", desc := "()Z" } : Jvm.MethodName) ({ cls := "TuneSchool$Voice", name := "walk", desc := "()Z" } : Jvm.MethodName)) ∈ gtb := gtb_of (mt2 (i := 91) rfl) rfl
theorem q2_92 : (Jvm.Cond.code ({ cls := "TuneSchool$Voice", name := "walk", desc := "()Z" } : Jvm.MethodName) prog_12_method_6_code (4 : Nat) (Option.some Jvm.ClassFile.FieldType.boolean)) ∈ gtb := gtb_of (mt2 (i := 92) rfl) rfl
theorem q2_93 : (Jvm.Cond.methodLink "TuneSchoolLaw" (45 : Nat) ({ cls := "TuneSchool", name := "sounds", desc := "(II)I" } : Jvm.MethodName)) ∈ gtb := gtb_of (mt2 (i := 93) rfl) rfl
theorem q2_94 : (Jvm.Cond.instanceMethod ({ cls := "TuneSchool", name := "sounds", desc := "(II)I" } : Jvm.MethodName)) ∈ gtb := gtb_of (mt2 (i := 94) rfl) rfl
theorem q2_95 : (Jvm.Cond.selects "TuneSchool" ({ cls := "TuneSchool", name := "sounds", desc := "(II)I" } : Jvm.MethodName) ({ cls := "TuneSchool", name := "sounds", desc := "(II)I" } : Jvm.MethodName)) ∈ gtb := gtb_of (mt2 (i := 95) rfl) rfl
theorem q2_96 : (Jvm.Cond.code ({ cls := "TuneSchool", name := "sounds", desc := "(II)I" } : Jvm.MethodName) prog_1_method_9_code (4 : Nat) (Option.some Jvm.ClassFile.FieldType.int)) ∈ gtb := gtb_of (mt2 (i := 96) rfl) rfl
theorem q2_97 : (Jvm.Cond.methodLink "TuneSchool" (119 : Nat) ({ cls := "TuneSchool$Voice", name := "at", desc := "(I)I" } : Jvm.MethodName)) ∈ gtb := gtb_of (mt2 (i := 97) rfl) rfl
theorem q2_98 : (Jvm.Cond.instanceMethod ({ cls := "TuneSchool$Voice", name := "at", desc := "(I)I" } : Jvm.MethodName)) ∈ gtb := gtb_of (mt2 (i := 98) rfl) rfl
theorem q2_99 : (Jvm.Cond.selects "TuneSchool$Voice" ({ cls := "TuneSchool$Voice", name := "at", desc := "(I)I" } : Jvm.MethodName) ({ cls := "TuneSchool$Voice", name := "at", desc := "(I)I" } : Jvm.MethodName)) ∈ gtb := gtb_of (mt2 (i := 99) rfl) rfl
theorem q2_100 : (Jvm.Cond.code ({ cls := "TuneSchool$Voice", name := "at", desc := "(I)I" } : Jvm.MethodName) prog_12_method_7_code (2 : Nat) (Option.some Jvm.ClassFile.FieldType.int)) ∈ gtb := gtb_of (mt2 (i := 100) rfl) rfl
theorem q2_101 : (Jvm.Cond.methodLink "TuneSchoolLaw" (49 : Nat) ({ cls := "TuneSchool", name := "transpose", desc := "(II)I" } : Jvm.MethodName)) ∈ gtb := gtb_of (mt2 (i := 101) rfl) rfl
theorem q2_102 : (Jvm.Cond.instanceMethod ({ cls := "TuneSchool", name := "transpose", desc := "(II)I" } : Jvm.MethodName)) ∈ gtb := gtb_of (mt2 (i := 102) rfl) rfl
theorem q2_103 : (Jvm.Cond.selects "TuneSchool" ({ cls := "TuneSchool", name := "transpose", desc := "(II)I" } : Jvm.MethodName) ({ cls := "TuneSchool", name := "transpose", desc := "(II)I" } : Jvm.MethodName)) ∈ gtb := gtb_of (mt2 (i := 103) rfl) rfl
theorem q2_104 : (Jvm.Cond.code ({ cls := "TuneSchool", name := "transpose", desc := "(II)I" } : Jvm.MethodName) prog_1_method_10_code (4 : Nat) (Option.some Jvm.ClassFile.FieldType.int)) ∈ gtb := gtb_of (mt2 (i := 104) rfl) rfl
theorem q2_105 : (Jvm.Cond.methodLink "TuneSchool" (122 : Nat) ({ cls := "TuneSchool$Voice", name := "canShift", desc := "(I)Z" } : Jvm.MethodName)) ∈ gtb := gtb_of (mt2 (i := 105) rfl) rfl
theorem q2_106 : (Jvm.Cond.instanceMethod ({ cls := "TuneSchool$Voice", name := "canShift", desc := "(I)Z" } : Jvm.MethodName)) ∈ gtb := gtb_of (mt2 (i := 106) rfl) rfl
theorem q2_107 : (Jvm.Cond.selects "TuneSchool$Voice" ({ cls := "TuneSchool$Voice", name := "canShift", desc := "(I)Z" } : Jvm.MethodName) ({ cls := "TuneSchool$Voice", name := "canShift", desc := "(I)Z" } : Jvm.MethodName)) ∈ gtb := gtb_of (mt2 (i := 107) rfl) rfl
theorem q2_108 : (Jvm.Cond.code ({ cls := "TuneSchool$Voice", name := "canShift", desc := "(I)Z" } : Jvm.MethodName) prog_12_method_10_code (4 : Nat) (Option.some Jvm.ClassFile.FieldType.boolean)) ∈ gtb := gtb_of (mt2 (i := 108) rfl) rfl
theorem q2_110 : (Jvm.Cond.methodLink "TuneSchool" (125 : Nat) ({ cls := "TuneSchool$Voice", name := "shift", desc := "(I)I" } : Jvm.MethodName)) ∈ gtb := gtb_of (mt2 (i := 110) rfl) rfl
theorem q2_111 : (Jvm.Cond.instanceMethod ({ cls := "TuneSchool$Voice", name := "shift", desc := "(I)I" } : Jvm.MethodName)) ∈ gtb := gtb_of (mt2 (i := 111) rfl) rfl
theorem q2_112 : (Jvm.Cond.selects "TuneSchool$Voice" ({ cls := "TuneSchool$Voice", name := "shift", desc := "(I)I" } : Jvm.MethodName) ({ cls := "TuneSchool$Voice", name := "shift", desc := "(I)I" } : Jvm.MethodName)) ∈ gtb := gtb_of (mt2 (i := 112) rfl) rfl
theorem q2_113 : (Jvm.Cond.code ({ cls := "TuneSchool$Voice", name := "shift", desc := "(I)I" } : Jvm.MethodName) prog_12_method_11_code (4 : Nat) (Option.some Jvm.ClassFile.FieldType.int)) ∈ gtb := gtb_of (mt2 (i := 113) rfl) rfl
theorem q2_114 : (Jvm.Cond.methodLink "TuneSchoolLaw" (53 : Nat) ({ cls := "TuneSchool", name := "copy", desc := "(IIIII)I" } : Jvm.MethodName)) ∈ gtb := gtb_of (mt2 (i := 114) rfl) rfl
theorem q2_115 : (Jvm.Cond.instanceMethod ({ cls := "TuneSchool", name := "copy", desc := "(IIIII)I" } : Jvm.MethodName)) ∈ gtb := gtb_of (mt2 (i := 115) rfl) rfl
theorem q2_116 : (Jvm.Cond.selects "TuneSchool" ({ cls := "TuneSchool", name := "copy", desc := "(IIIII)I" } : Jvm.MethodName) ({ cls := "TuneSchool", name := "copy", desc := "(IIIII)I" } : Jvm.MethodName)) ∈ gtb := gtb_of (mt2 (i := 116) rfl) rfl
theorem q2_117 : (Jvm.Cond.code ({ cls := "TuneSchool", name := "copy", desc := "(IIIII)I" } : Jvm.MethodName) prog_1_method_11_code (8 : Nat) (Option.some Jvm.ClassFile.FieldType.int)) ∈ gtb := gtb_of (mt2 (i := 117) rfl) rfl
theorem q2_118 : (Jvm.Cond.methodLink "TuneSchool" (131 : Nat) ({ cls := "TuneSchool$Voice", name := "hasPart", desc := "(III)Z" } : Jvm.MethodName)) ∈ gtb := gtb_of (mt2 (i := 118) rfl) rfl
theorem q2_119 : (Jvm.Cond.instanceMethod ({ cls := "TuneSchool$Voice", name := "hasPart", desc := "(III)Z" } : Jvm.MethodName)) ∈ gtb := gtb_of (mt2 (i := 119) rfl) rfl
theorem q2_120 : (Jvm.Cond.selects "TuneSchool$Voice" ({ cls := "TuneSchool$Voice", name := "hasPart", desc := "(III)Z" } : Jvm.MethodName) ({ cls := "TuneSchool$Voice", name := "hasPart", desc := "(III)Z" } : Jvm.MethodName)) ∈ gtb := gtb_of (mt2 (i := 120) rfl) rfl
theorem q2_121 : (Jvm.Cond.code ({ cls := "TuneSchool$Voice", name := "hasPart", desc := "(III)Z" } : Jvm.MethodName) prog_12_method_5_code (4 : Nat) (Option.some Jvm.ClassFile.FieldType.boolean)) ∈ gtb := gtb_of (mt2 (i := 121) rfl) rfl
theorem q2_122 : (Jvm.Cond.methodLink "TuneSchool" (134 : Nat) ({ cls := "java/lang/System", name := "arraycopy", desc := "(Ljava/lang/Object;ILjava/lang/Object;II)V" } : Jvm.MethodName)) ∈ gtb := gtb_of (mt2 (i := 122) rfl) rfl
theorem q2_123 : (Jvm.Cond.methodLink "TuneSchoolLaw" (58 : Nat) ({ cls := "TuneSchool", name := "undo", desc := "()I" } : Jvm.MethodName)) ∈ gtb := gtb_of (mt2 (i := 123) rfl) rfl
theorem q2_124 : (Jvm.Cond.instanceMethod ({ cls := "TuneSchool", name := "undo", desc := "()I" } : Jvm.MethodName)) ∈ gtb := gtb_of (mt2 (i := 124) rfl) rfl
theorem q2_125 : (Jvm.Cond.selects "TuneSchool" ({ cls := "TuneSchool", name := "undo", desc := "()I" } : Jvm.MethodName) ({ cls := "TuneSchool", name := "undo", desc := "()I" } : Jvm.MethodName)) ∈ gtb := gtb_of (mt2 (i := 125) rfl) rfl
theorem q2_126 : (Jvm.Cond.code ({ cls := "TuneSchool", name := "undo", desc := "()I" } : Jvm.MethodName) prog_1_method_12_code (1 : Nat) (Option.some Jvm.ClassFile.FieldType.int)) ∈ gtb := gtb_of (mt2 (i := 126) rfl) rfl
theorem q2_127 : (Jvm.Cond.methodLink "TuneSchoolLaw" (63 : Nat) ({ cls := "TuneSchool", name := "rule", desc := "(II)I" } : Jvm.MethodName)) ∈ gtb := gtb_of (mt2 (i := 127) rfl) rfl
theorem q2_128 : (Jvm.Cond.instanceMethod ({ cls := "TuneSchool", name := "rule", desc := "(II)I" } : Jvm.MethodName)) ∈ gtb := gtb_of (mt2 (i := 128) rfl) rfl
theorem q2_129 : (Jvm.Cond.selects "TuneSchool" ({ cls := "TuneSchool", name := "rule", desc := "(II)I" } : Jvm.MethodName) ({ cls := "TuneSchool", name := "rule", desc := "(II)I" } : Jvm.MethodName)) ∈ gtb := gtb_of (mt2 (i := 129) rfl) rfl
theorem q2_130 : (Jvm.Cond.code ({ cls := "TuneSchool", name := "rule", desc := "(II)I" } : Jvm.MethodName) prog_1_method_13_code (3 : Nat) (Option.some Jvm.ClassFile.FieldType.int)) ∈ gtb := gtb_of (mt2 (i := 130) rfl) rfl
theorem q2_131 : (Jvm.Cond.methodLink "TuneSchool" (144 : Nat) ({ cls := "TuneSchool", name := "isPlace", desc := "(I)Z" } : Jvm.MethodName)) ∈ gtb := gtb_of (mt2 (i := 131) rfl) rfl
theorem q2_132 : (Jvm.Cond.static ({ cls := "TuneSchool", name := "isPlace", desc := "(I)Z" } : Jvm.MethodName)) ∈ gtb := gtb_of (mt2 (i := 132) rfl) rfl
theorem q2_133 : (Jvm.Cond.code ({ cls := "TuneSchool", name := "isPlace", desc := "(I)Z" } : Jvm.MethodName) prog_1_method_47_code (1 : Nat) (Option.some Jvm.ClassFile.FieldType.boolean)) ∈ gtb := gtb_of (mt2 (i := 133) rfl) rfl
theorem q2_134 : (Jvm.Cond.methodLink "TuneSchool" (147 : Nat) ({ cls := "TuneSchool", name := "newRule", desc := "(I)LTuneSchool$Rule;" } : Jvm.MethodName)) ∈ gtb := gtb_of (mt2 (i := 134) rfl) rfl
theorem q2_135 : (Jvm.Cond.static ({ cls := "TuneSchool", name := "newRule", desc := "(I)LTuneSchool$Rule;" } : Jvm.MethodName)) ∈ gtb := gtb_of (mt2 (i := 135) rfl) rfl
theorem q2_136 : (Jvm.Cond.code ({ cls := "TuneSchool", name := "newRule", desc := "(I)LTuneSchool$Rule;" } : Jvm.MethodName) prog_1_method_55_code (1 : Nat) (Option.some (Jvm.ClassFile.FieldType.object "TuneSchool$Rule"))) ∈ gtb := gtb_of (mt2 (i := 136) rfl) rfl
theorem q2_137 : (Jvm.Cond.classLink "TuneSchool" (329 : Nat) "TuneSchool$Motion") ∈ gtb := gtb_of (mt2 (i := 137) rfl) rfl
theorem q2_138 : (Jvm.Cond.instantiable "TuneSchool$Motion" (1 : Nat)) ∈ gtb := gtb_of (mt2 (i := 138) rfl) rfl
theorem q2_140 : (Jvm.Cond.instanceMethod ({ cls := "TuneSchool$Motion", name := "<init>", desc := "()V" } : Jvm.MethodName)) ∈ gtb := gtb_of (mt2 (i := 140) rfl) rfl
theorem q2_141 : (Jvm.Cond.code ({ cls := "TuneSchool$Motion", name := "<init>", desc := "()V" } : Jvm.MethodName) prog_8_method_1_code (1 : Nat) (Option.none : Option Jvm.ClassFile.FieldType)) ∈ gtb := gtb_of (mt2 (i := 141) rfl) rfl
theorem q2_143 : (Jvm.Cond.instanceMethod ({ cls := "TuneSchool$Interval", name := "<init>", desc := "()V" } : Jvm.MethodName)) ∈ gtb := gtb_of (mt2 (i := 143) rfl) rfl
theorem q2_144 : (Jvm.Cond.code ({ cls := "TuneSchool$Interval", name := "<init>", desc := "()V" } : Jvm.MethodName) prog_4_method_1_code (1 : Nat) (Option.none : Option Jvm.ClassFile.FieldType)) ∈ gtb := gtb_of (mt2 (i := 144) rfl) rfl
theorem q2_146 : (Jvm.Cond.instanceMethod ({ cls := "TuneSchool$Rule", name := "<init>", desc := "()V" } : Jvm.MethodName)) ∈ gtb := gtb_of (mt2 (i := 146) rfl) rfl
theorem q2_147 : (Jvm.Cond.code ({ cls := "TuneSchool$Rule", name := "<init>", desc := "()V" } : Jvm.MethodName) prog_9_method_1_code (1 : Nat) (Option.none : Option Jvm.ClassFile.FieldType)) ∈ gtb := gtb_of (mt2 (i := 147) rfl) rfl
theorem q2_149 : (Jvm.Cond.instanceMethod ({ cls := "TuneSchool$Standing", name := "<init>", desc := "()V" } : Jvm.MethodName)) ∈ gtb := gtb_of (mt2 (i := 149) rfl) rfl
theorem q2_150 : (Jvm.Cond.code ({ cls := "TuneSchool$Standing", name := "<init>", desc := "()V" } : Jvm.MethodName) prog_11_method_1_code (1 : Nat) (Option.none : Option Jvm.ClassFile.FieldType)) ∈ gtb := gtb_of (mt2 (i := 150) rfl) rfl
theorem q2_151 : (Jvm.Cond.methodLink "TuneSchool$Standing" (1 : Nat) ({ cls := "java/lang/Object", name := "<init>", desc := "()V" } : Jvm.MethodName)) ∈ gtb := gtb_of (mt2 (i := 151) rfl) rfl
theorem q2_152 : (Jvm.Cond.fieldLink "TuneSchool$Rule" (9 : Nat) "TuneSchool$Rule" "truths" "[J") ∈ gtb := gtb_of (mt2 (i := 152) rfl) rfl
theorem q2_153 : (Jvm.Cond.laysFinal "TuneSchool$Motion" "TuneSchool$Rule" "truths" "[J") ∈ gtb := gtb_of (mt2 (i := 153) rfl) rfl
theorem q2_155 : (Jvm.Cond.superclass "TuneSchool$Motion" "TuneSchool$Interval") ∈ gtb := gtb_of (mt2 (i := 155) rfl) rfl
theorem q2_156 : (Jvm.Cond.arrayClass Jvm.ClassFile.FieldType.long) ∈ gtb := gtb_of (mt2 (i := 156) rfl) rfl
theorem q2_157 : (Jvm.Cond.classLink "TuneSchool" (332 : Nat) "TuneSchool$Leap") ∈ gtb := gtb_of (mt2 (i := 157) rfl) rfl
theorem q2_158 : (Jvm.Cond.instantiable "TuneSchool$Leap" (1 : Nat)) ∈ gtb := gtb_of (mt2 (i := 158) rfl) rfl
theorem q2_160 : (Jvm.Cond.instanceMethod ({ cls := "TuneSchool$Leap", name := "<init>", desc := "()V" } : Jvm.MethodName)) ∈ gtb := gtb_of (mt2 (i := 160) rfl) rfl
theorem q2_161 : (Jvm.Cond.code ({ cls := "TuneSchool$Leap", name := "<init>", desc := "()V" } : Jvm.MethodName) prog_5_method_1_code (1 : Nat) (Option.none : Option Jvm.ClassFile.FieldType)) ∈ gtb := gtb_of (mt2 (i := 161) rfl) rfl
theorem q2_163 : (Jvm.Cond.laysFinal "TuneSchool$Leap" "TuneSchool$Rule" "truths" "[J") ∈ gtb := gtb_of (mt2 (i := 163) rfl) rfl
theorem q2_164 : (Jvm.Cond.superclass "TuneSchool$Leap" "TuneSchool$Rule") ∈ gtb := gtb_of (mt2 (i := 164) rfl) rfl
theorem q2_165 : (Jvm.Cond.classLink "TuneSchool" (335 : Nat) "TuneSchool$Cadence") ∈ gtb := gtb_of (mt2 (i := 165) rfl) rfl
theorem q2_166 : (Jvm.Cond.instantiable "TuneSchool$Cadence" (1 : Nat)) ∈ gtb := gtb_of (mt2 (i := 166) rfl) rfl
theorem q2_168 : (Jvm.Cond.instanceMethod ({ cls := "TuneSchool$Cadence", name := "<init>", desc := "()V" } : Jvm.MethodName)) ∈ gtb := gtb_of (mt2 (i := 168) rfl) rfl
theorem q2_169 : (Jvm.Cond.code ({ cls := "TuneSchool$Cadence", name := "<init>", desc := "()V" } : Jvm.MethodName) prog_2_method_1_code (1 : Nat) (Option.none : Option Jvm.ClassFile.FieldType)) ∈ gtb := gtb_of (mt2 (i := 169) rfl) rfl
theorem q2_171 : (Jvm.Cond.laysFinal "TuneSchool$Cadence" "TuneSchool$Rule" "truths" "[J") ∈ gtb := gtb_of (mt2 (i := 171) rfl) rfl
theorem q2_172 : (Jvm.Cond.superclass "TuneSchool$Cadence" "TuneSchool$Motion") ∈ gtb := gtb_of (mt2 (i := 172) rfl) rfl
theorem q2_173 : (Jvm.Cond.classLink "TuneSchool" (338 : Nat) "TuneSchool$Interval") ∈ gtb := gtb_of (mt2 (i := 173) rfl) rfl
theorem q2_174 : (Jvm.Cond.instantiable "TuneSchool$Interval" (1 : Nat)) ∈ gtb := gtb_of (mt2 (i := 174) rfl) rfl
theorem q2_176 : (Jvm.Cond.laysFinal "TuneSchool$Interval" "TuneSchool$Rule" "truths" "[J") ∈ gtb := gtb_of (mt2 (i := 176) rfl) rfl
theorem q2_177 : (Jvm.Cond.superclass "TuneSchool$Interval" "TuneSchool$Rule") ∈ gtb := gtb_of (mt2 (i := 177) rfl) rfl
theorem q2_178 : (Jvm.Cond.methodLink "TuneSchoolLaw" (67 : Nat) ({ cls := "TuneSchool", name := "school", desc := "(III)I" } : Jvm.MethodName)) ∈ gtb := gtb_of (mt2 (i := 178) rfl) rfl
theorem q2_179 : (Jvm.Cond.instanceMethod ({ cls := "TuneSchool", name := "school", desc := "(III)I" } : Jvm.MethodName)) ∈ gtb := gtb_of (mt2 (i := 179) rfl) rfl
theorem q2_180 : (Jvm.Cond.selects "TuneSchool" ({ cls := "TuneSchool", name := "school", desc := "(III)I" } : Jvm.MethodName) ({ cls := "TuneSchool", name := "school", desc := "(III)I" } : Jvm.MethodName)) ∈ gtb := gtb_of (mt2 (i := 180) rfl) rfl
theorem q2_181 : (Jvm.Cond.code ({ cls := "TuneSchool", name := "school", desc := "(III)I" } : Jvm.MethodName) prog_1_method_14_code (4 : Nat) (Option.some Jvm.ClassFile.FieldType.int)) ∈ gtb := gtb_of (mt2 (i := 181) rfl) rfl
theorem q2_182 : (Jvm.Cond.classLink "TuneSchool" (151 : Nat) "TuneSchool$School") ∈ gtb := gtb_of (mt2 (i := 182) rfl) rfl
theorem q2_183 : (Jvm.Cond.instantiable "TuneSchool$School" (2 : Nat)) ∈ gtb := gtb_of (mt2 (i := 183) rfl) rfl
theorem q2_184 : (Jvm.Cond.methodLink "TuneSchool" (153 : Nat) ({ cls := "TuneSchool$School", name := "<init>", desc := "(II)V" } : Jvm.MethodName)) ∈ gtb := gtb_of (mt2 (i := 184) rfl) rfl
theorem q2_185 : (Jvm.Cond.instanceMethod ({ cls := "TuneSchool$School", name := "<init>", desc := "(II)V" } : Jvm.MethodName)) ∈ gtb := gtb_of (mt2 (i := 185) rfl) rfl
theorem q2_186 : (Jvm.Cond.code ({ cls := "TuneSchool$School", name := "<init>", desc := "(II)V" } : Jvm.MethodName) prog_10_method_1_code (3 : Nat) (Option.none : Option Jvm.ClassFile.FieldType)) ∈ gtb := gtb_of (mt2 (i := 186) rfl) rfl
theorem q2_188 : (Jvm.Cond.classLink "TuneSchool$School" (13 : Nat) "TuneSchool$Rule") ∈ gtb := gtb_of (mt2 (i := 188) rfl) rfl
theorem q2_189 : (Jvm.Cond.fieldLink "TuneSchool$School" (7 : Nat) "TuneSchool$School" "type" "I") ∈ gtb := gtb_of (mt2 (i := 189) rfl) rfl
theorem q2_190 : (Jvm.Cond.fieldLink "TuneSchool$School" (15 : Nat) "TuneSchool$School" "seats" "[LTuneSchool$Rule;") ∈ gtb := gtb_of (mt2 (i := 190) rfl) rfl
theorem q2_191 : (Jvm.Cond.fieldLink "TuneSchool" (170 : Nat) "TuneSchool$School" "seats" "[LTuneSchool$Rule;") ∈ gtb := gtb_of (mt2 (i := 191) rfl) rfl
theorem q2_192 : (Jvm.Cond.laysFinal "TuneSchool$School" "TuneSchool$School" "type" "I") ∈ gtb := gtb_of (mt2 (i := 192) rfl) rfl
theorem q2_194 : (Jvm.Cond.laysFinal "TuneSchool$School" "TuneSchool$School" "seats" "[LTuneSchool$Rule;") ∈ gtb := gtb_of (mt2 (i := 194) rfl) rfl
theorem q2_196 : (Jvm.Cond.superclass "TuneSchool$School" "TuneSchool$Standing") ∈ gtb := gtb_of (mt2 (i := 196) rfl) rfl
theorem q2_197 : (Jvm.Cond.methodLink "TuneSchoolLaw" (71 : Nat) ({ cls := "TuneSchool", name := "clear", desc := "(I)I" } : Jvm.MethodName)) ∈ gtb := gtb_of (mt2 (i := 197) rfl) rfl
theorem q2_198 : (Jvm.Cond.instanceMethod ({ cls := "TuneSchool", name := "clear", desc := "(I)I" } : Jvm.MethodName)) ∈ gtb := gtb_of (mt2 (i := 198) rfl) rfl
theorem q2_199 : (Jvm.Cond.selects "TuneSchool" ({ cls := "TuneSchool", name := "clear", desc := "(I)I" } : Jvm.MethodName) ({ cls := "TuneSchool", name := "clear", desc := "(I)I" } : Jvm.MethodName)) ∈ gtb := gtb_of (mt2 (i := 199) rfl) rfl
theorem q2_200 : (Jvm.Cond.code ({ cls := "TuneSchool", name := "clear", desc := "(I)I" } : Jvm.MethodName) prog_1_method_15_code (3 : Nat) (Option.some Jvm.ClassFile.FieldType.int)) ∈ gtb := gtb_of (mt2 (i := 200) rfl) rfl
theorem q2_201 : (Jvm.Cond.methodLink "TuneSchoolLaw" (75 : Nat) ({ cls := "TuneSchool", name := "truth", desc := "(IIIZ)I" } : Jvm.MethodName)) ∈ gtb := gtb_of (mt2 (i := 201) rfl) rfl
theorem q2_202 : (Jvm.Cond.instanceMethod ({ cls := "TuneSchool", name := "truth", desc := "(IIIZ)I" } : Jvm.MethodName)) ∈ gtb := gtb_of (mt2 (i := 202) rfl) rfl
theorem q2_203 : (Jvm.Cond.selects "TuneSchool" ({ cls := "TuneSchool", name := "truth", desc := "(IIIZ)I" } : Jvm.MethodName) ({ cls := "TuneSchool", name := "truth", desc := "(IIIZ)I" } : Jvm.MethodName)) ∈ gtb := gtb_of (mt2 (i := 203) rfl) rfl
theorem q2_204 : (Jvm.Cond.code ({ cls := "TuneSchool", name := "truth", desc := "(IIIZ)I" } : Jvm.MethodName) prog_1_method_16_code (8 : Nat) (Option.some Jvm.ClassFile.FieldType.int)) ∈ gtb := gtb_of (mt2 (i := 204) rfl) rfl
theorem q2_205 : (Jvm.Cond.methodLink "TuneSchool" (156 : Nat) ({ cls := "TuneSchool", name := "standsAs", desc := "(LTuneSchool$Standing;I)Z" } : Jvm.MethodName)) ∈ gtb := gtb_of (mt2 (i := 205) rfl) rfl
theorem q2_206 : (Jvm.Cond.static ({ cls := "TuneSchool", name := "standsAs", desc := "(LTuneSchool$Standing;I)Z" } : Jvm.MethodName)) ∈ gtb := gtb_of (mt2 (i := 206) rfl) rfl
theorem q2_207 : (Jvm.Cond.code ({ cls := "TuneSchool", name := "standsAs", desc := "(LTuneSchool$Standing;I)Z" } : Jvm.MethodName) prog_1_method_56_code (2 : Nat) (Option.some Jvm.ClassFile.FieldType.boolean)) ∈ gtb := gtb_of (mt2 (i := 207) rfl) rfl
theorem q2_208 : (Jvm.Cond.fieldLink "TuneSchool" (160 : Nat) "TuneSchool" "TRUTHS" "[I") ∈ gtb := gtb_of (mt2 (i := 208) rfl) rfl
theorem q2_210 : (Jvm.Cond.methodLink "TuneSchool" (163 : Nat) ({ cls := "TuneSchool$Rule", name := "holds", desc := "(II)Z" } : Jvm.MethodName)) ∈ gtb := gtb_of (mt2 (i := 210) rfl) rfl
theorem q2_211 : (Jvm.Cond.instanceMethod ({ cls := "TuneSchool$Rule", name := "holds", desc := "(II)Z" } : Jvm.MethodName)) ∈ gtb := gtb_of (mt2 (i := 211) rfl) rfl
theorem q2_212 : (Jvm.Cond.sameMethod "TuneSchool$Rule" "TuneSchool$Rule" "holds" "(II)Z") ∈ gtb := gtb_of (mt2 (i := 212) rfl) rfl
theorem q2_213 : (Jvm.Cond.selects "TuneSchool$Cadence" ({ cls := "TuneSchool$Rule", name := "holds", desc := "(II)Z" } : Jvm.MethodName) ({ cls := "TuneSchool$Rule", name := "holds", desc := "(II)Z" } : Jvm.MethodName)) ∈ gtb := gtb_of (mt2 (i := 213) rfl) rfl
theorem q2_214 : (Jvm.Cond.selects "TuneSchool$Interval" ({ cls := "TuneSchool$Rule", name := "holds", desc := "(II)Z" } : Jvm.MethodName) ({ cls := "TuneSchool$Rule", name := "holds", desc := "(II)Z" } : Jvm.MethodName)) ∈ gtb := gtb_of (mt2 (i := 214) rfl) rfl
theorem q2_215 : (Jvm.Cond.selects "TuneSchool$Leap" ({ cls := "TuneSchool$Rule", name := "holds", desc := "(II)Z" } : Jvm.MethodName) ({ cls := "TuneSchool$Rule", name := "holds", desc := "(II)Z" } : Jvm.MethodName)) ∈ gtb := gtb_of (mt2 (i := 215) rfl) rfl
theorem q2_216 : (Jvm.Cond.selects "TuneSchool$Motion" ({ cls := "TuneSchool$Rule", name := "holds", desc := "(II)Z" } : Jvm.MethodName) ({ cls := "TuneSchool$Rule", name := "holds", desc := "(II)Z" } : Jvm.MethodName)) ∈ gtb := gtb_of (mt2 (i := 216) rfl) rfl
theorem q2_217 : (Jvm.Cond.code ({ cls := "TuneSchool$Rule", name := "holds", desc := "(II)Z" } : Jvm.MethodName) prog_9_method_6_code (3 : Nat) (Option.some Jvm.ClassFile.FieldType.boolean)) ∈ gtb := gtb_of (mt2 (i := 217) rfl) rfl
theorem q2_218 : (Jvm.Cond.methodLink "TuneSchool" (166 : Nat) ({ cls := "TuneSchool$Rule", name := "change", desc := "(IIZ)V" } : Jvm.MethodName)) ∈ gtb := gtb_of (mt2 (i := 218) rfl) rfl
theorem q2_219 : (Jvm.Cond.instanceMethod ({ cls := "TuneSchool$Rule", name := "change", desc := "(IIZ)V" } : Jvm.MethodName)) ∈ gtb := gtb_of (mt2 (i := 219) rfl) rfl
theorem q2_220 : (Jvm.Cond.sameMethod "TuneSchool$Rule" "TuneSchool$Rule" "change" "(IIZ)V") ∈ gtb := gtb_of (mt2 (i := 220) rfl) rfl
theorem q2_221 : (Jvm.Cond.selects "TuneSchool$Cadence" ({ cls := "TuneSchool$Rule", name := "change", desc := "(IIZ)V" } : Jvm.MethodName) ({ cls := "TuneSchool$Rule", name := "change", desc := "(IIZ)V" } : Jvm.MethodName)) ∈ gtb := gtb_of (mt2 (i := 221) rfl) rfl
theorem q2_222 : (Jvm.Cond.selects "TuneSchool$Interval" ({ cls := "TuneSchool$Rule", name := "change", desc := "(IIZ)V" } : Jvm.MethodName) ({ cls := "TuneSchool$Rule", name := "change", desc := "(IIZ)V" } : Jvm.MethodName)) ∈ gtb := gtb_of (mt2 (i := 222) rfl) rfl
theorem q2_223 : (Jvm.Cond.selects "TuneSchool$Leap" ({ cls := "TuneSchool$Rule", name := "change", desc := "(IIZ)V" } : Jvm.MethodName) ({ cls := "TuneSchool$Rule", name := "change", desc := "(IIZ)V" } : Jvm.MethodName)) ∈ gtb := gtb_of (mt2 (i := 223) rfl) rfl
theorem q2_224 : (Jvm.Cond.selects "TuneSchool$Motion" ({ cls := "TuneSchool$Rule", name := "change", desc := "(IIZ)V" } : Jvm.MethodName) ({ cls := "TuneSchool$Rule", name := "change", desc := "(IIZ)V" } : Jvm.MethodName)) ∈ gtb := gtb_of (mt2 (i := 224) rfl) rfl
theorem q2_225 : (Jvm.Cond.code ({ cls := "TuneSchool$Rule", name := "change", desc := "(IIZ)V" } : Jvm.MethodName) prog_9_method_7_code (4 : Nat) (Option.none : Option Jvm.ClassFile.FieldType)) ∈ gtb := gtb_of (mt2 (i := 225) rfl) rfl
theorem q2_227 : (Jvm.Cond.methodLink "TuneSchoolLaw" (80 : Nat) ({ cls := "TuneSchool", name := "is", desc := "(II)I" } : Jvm.MethodName)) ∈ gtb := gtb_of (mt2 (i := 227) rfl) rfl
theorem q2_228 : (Jvm.Cond.instanceMethod ({ cls := "TuneSchool", name := "is", desc := "(II)I" } : Jvm.MethodName)) ∈ gtb := gtb_of (mt2 (i := 228) rfl) rfl
theorem q2_229 : (Jvm.Cond.selects "TuneSchool" ({ cls := "TuneSchool", name := "is", desc := "(II)I" } : Jvm.MethodName) ({ cls := "TuneSchool", name := "is", desc := "(II)I" } : Jvm.MethodName)) ∈ gtb := gtb_of (mt2 (i := 229) rfl) rfl
theorem q2_230 : (Jvm.Cond.code ({ cls := "TuneSchool", name := "is", desc := "(II)I" } : Jvm.MethodName) prog_1_method_17_code (3 : Nat) (Option.some Jvm.ClassFile.FieldType.int)) ∈ gtb := gtb_of (mt2 (i := 230) rfl) rfl
theorem q2_231 : (Jvm.Cond.methodLink "TuneSchoolLaw" (84 : Nat) ({ cls := "TuneSchool", name := "seat", desc := "(III)I" } : Jvm.MethodName)) ∈ gtb := gtb_of (mt2 (i := 231) rfl) rfl
theorem q2_232 : (Jvm.Cond.instanceMethod ({ cls := "TuneSchool", name := "seat", desc := "(III)I" } : Jvm.MethodName)) ∈ gtb := gtb_of (mt2 (i := 232) rfl) rfl
theorem q2_233 : (Jvm.Cond.selects "TuneSchool" ({ cls := "TuneSchool", name := "seat", desc := "(III)I" } : Jvm.MethodName) ({ cls := "TuneSchool", name := "seat", desc := "(III)I" } : Jvm.MethodName)) ∈ gtb := gtb_of (mt2 (i := 233) rfl) rfl
theorem q2_234 : (Jvm.Cond.code ({ cls := "TuneSchool", name := "seat", desc := "(III)I" } : Jvm.MethodName) prog_1_method_18_code (7 : Nat) (Option.some Jvm.ClassFile.FieldType.int)) ∈ gtb := gtb_of (mt2 (i := 234) rfl) rfl
theorem q2_235 : (Jvm.Cond.methodLink "TuneSchool" (173 : Nat) ({ cls := "TuneSchool$School", name := "isFor", desc := "(LTuneSchool$Standing;)Z" } : Jvm.MethodName)) ∈ gtb := gtb_of (mt2 (i := 235) rfl) rfl
theorem q2_236 : (Jvm.Cond.instanceMethod ({ cls := "TuneSchool$School", name := "isFor", desc := "(LTuneSchool$Standing;)Z" } : Jvm.MethodName)) ∈ gtb := gtb_of (mt2 (i := 236) rfl) rfl
theorem q2_237 : (Jvm.Cond.selects "TuneSchool$School" ({ cls := "TuneSchool$School", name := "isFor", desc := "(LTuneSchool$Standing;)Z" } : Jvm.MethodName) ({ cls := "TuneSchool$School", name := "isFor", desc := "(LTuneSchool$Standing;)Z" } : Jvm.MethodName)) ∈ gtb := gtb_of (mt2 (i := 237) rfl) rfl
theorem q2_238 : (Jvm.Cond.code ({ cls := "TuneSchool$School", name := "isFor", desc := "(LTuneSchool$Standing;)Z" } : Jvm.MethodName) prog_10_method_4_code (2 : Nat) (Option.some Jvm.ClassFile.FieldType.boolean)) ∈ gtb := gtb_of (mt2 (i := 238) rfl) rfl
theorem q2_239 : (Jvm.Cond.classLink "TuneSchool$School" (19 : Nat) "TuneSchool$Interval") ∈ gtb := gtb_of (mt2 (i := 239) rfl) rfl
theorem q3_0 : (Jvm.Cond.classLink "TuneSchool$School" (21 : Nat) "TuneSchool$Leap") ∈ gtb := gtb_of (mt3 (i := 0) rfl) rfl
theorem q3_1 : (Jvm.Cond.methodLink "TuneSchoolLaw" (88 : Nat) ({ cls := "TuneSchool", name := "seated", desc := "(II)I" } : Jvm.MethodName)) ∈ gtb := gtb_of (mt3 (i := 1) rfl) rfl
theorem q3_2 : (Jvm.Cond.instanceMethod ({ cls := "TuneSchool", name := "seated", desc := "(II)I" } : Jvm.MethodName)) ∈ gtb := gtb_of (mt3 (i := 2) rfl) rfl
theorem q3_3 : (Jvm.Cond.selects "TuneSchool" ({ cls := "TuneSchool", name := "seated", desc := "(II)I" } : Jvm.MethodName) ({ cls := "TuneSchool", name := "seated", desc := "(II)I" } : Jvm.MethodName)) ∈ gtb := gtb_of (mt3 (i := 3) rfl) rfl
theorem q3_4 : (Jvm.Cond.code ({ cls := "TuneSchool", name := "seated", desc := "(II)I" } : Jvm.MethodName) prog_1_method_19_code (5 : Nat) (Option.some Jvm.ClassFile.FieldType.int)) ∈ gtb := gtb_of (mt3 (i := 4) rfl) rfl
theorem q3_5 : (Jvm.Cond.methodLink "TuneSchool" (177 : Nat) ({ cls := "TuneSchool$Rule", name := "kind", desc := "()I" } : Jvm.MethodName)) ∈ gtb := gtb_of (mt3 (i := 5) rfl) rfl
theorem q3_7 : (Jvm.Cond.sameMethod "TuneSchool$Rule" "TuneSchool$Rule" "kind" "()I") ∈ gtb := gtb_of (mt3 (i := 7) rfl) rfl
theorem q3_8 : (Jvm.Cond.selects "TuneSchool$Cadence" ({ cls := "TuneSchool$Rule", name := "kind", desc := "()I" } : Jvm.MethodName) ({ cls := "TuneSchool$Cadence", name := "kind", desc := "()I" } : Jvm.MethodName)) ∈ gtb := gtb_of (mt3 (i := 8) rfl) rfl
theorem q3_9 : (Jvm.Cond.instanceMethod ({ cls := "TuneSchool$Cadence", name := "kind", desc := "()I" } : Jvm.MethodName)) ∈ gtb := gtb_of (mt3 (i := 9) rfl) rfl
theorem q3_10 : (Jvm.Cond.code ({ cls := "TuneSchool$Cadence", name := "kind", desc := "()I" } : Jvm.MethodName) prog_2_method_2_code (1 : Nat) (Option.some Jvm.ClassFile.FieldType.int)) ∈ gtb := gtb_of (mt3 (i := 10) rfl) rfl
theorem q3_11 : (Jvm.Cond.selects "TuneSchool$Interval" ({ cls := "TuneSchool$Rule", name := "kind", desc := "()I" } : Jvm.MethodName) ({ cls := "TuneSchool$Interval", name := "kind", desc := "()I" } : Jvm.MethodName)) ∈ gtb := gtb_of (mt3 (i := 11) rfl) rfl
theorem q3_12 : (Jvm.Cond.instanceMethod ({ cls := "TuneSchool$Interval", name := "kind", desc := "()I" } : Jvm.MethodName)) ∈ gtb := gtb_of (mt3 (i := 12) rfl) rfl
theorem q3_13 : (Jvm.Cond.code ({ cls := "TuneSchool$Interval", name := "kind", desc := "()I" } : Jvm.MethodName) prog_4_method_2_code (1 : Nat) (Option.some Jvm.ClassFile.FieldType.int)) ∈ gtb := gtb_of (mt3 (i := 13) rfl) rfl
theorem q3_14 : (Jvm.Cond.selects "TuneSchool$Leap" ({ cls := "TuneSchool$Rule", name := "kind", desc := "()I" } : Jvm.MethodName) ({ cls := "TuneSchool$Leap", name := "kind", desc := "()I" } : Jvm.MethodName)) ∈ gtb := gtb_of (mt3 (i := 14) rfl) rfl
theorem q3_15 : (Jvm.Cond.instanceMethod ({ cls := "TuneSchool$Leap", name := "kind", desc := "()I" } : Jvm.MethodName)) ∈ gtb := gtb_of (mt3 (i := 15) rfl) rfl
theorem q3_16 : (Jvm.Cond.code ({ cls := "TuneSchool$Leap", name := "kind", desc := "()I" } : Jvm.MethodName) prog_5_method_2_code (1 : Nat) (Option.some Jvm.ClassFile.FieldType.int)) ∈ gtb := gtb_of (mt3 (i := 16) rfl) rfl
theorem q3_17 : (Jvm.Cond.selects "TuneSchool$Motion" ({ cls := "TuneSchool$Rule", name := "kind", desc := "()I" } : Jvm.MethodName) ({ cls := "TuneSchool$Motion", name := "kind", desc := "()I" } : Jvm.MethodName)) ∈ gtb := gtb_of (mt3 (i := 17) rfl) rfl
theorem q3_18 : (Jvm.Cond.instanceMethod ({ cls := "TuneSchool$Motion", name := "kind", desc := "()I" } : Jvm.MethodName)) ∈ gtb := gtb_of (mt3 (i := 18) rfl) rfl
theorem q3_19 : (Jvm.Cond.code ({ cls := "TuneSchool$Motion", name := "kind", desc := "()I" } : Jvm.MethodName) prog_8_method_2_code (1 : Nat) (Option.some Jvm.ClassFile.FieldType.int)) ∈ gtb := gtb_of (mt3 (i := 19) rfl) rfl
theorem q3_20 : (Jvm.Cond.methodLink "TuneSchoolLaw" (92 : Nat) ({ cls := "TuneSchool", name := "strong", desc := "(I)I" } : Jvm.MethodName)) ∈ gtb := gtb_of (mt3 (i := 20) rfl) rfl
theorem q3_21 : (Jvm.Cond.instanceMethod ({ cls := "TuneSchool", name := "strong", desc := "(I)I" } : Jvm.MethodName)) ∈ gtb := gtb_of (mt3 (i := 21) rfl) rfl
theorem q3_22 : (Jvm.Cond.selects "TuneSchool" ({ cls := "TuneSchool", name := "strong", desc := "(I)I" } : Jvm.MethodName) ({ cls := "TuneSchool", name := "strong", desc := "(I)I" } : Jvm.MethodName)) ∈ gtb := gtb_of (mt3 (i := 22) rfl) rfl
theorem q3_23 : (Jvm.Cond.code ({ cls := "TuneSchool", name := "strong", desc := "(I)I" } : Jvm.MethodName) prog_1_method_20_code (3 : Nat) (Option.some Jvm.ClassFile.FieldType.int)) ∈ gtb := gtb_of (mt3 (i := 23) rfl) rfl
theorem q3_24 : (Jvm.Cond.methodLink "TuneSchoolLaw" (96 : Nat) ({ cls := "TuneSchool", name := "key", desc := "(I)I" } : Jvm.MethodName)) ∈ gtb := gtb_of (mt3 (i := 24) rfl) rfl
theorem q3_25 : (Jvm.Cond.instanceMethod ({ cls := "TuneSchool", name := "key", desc := "(I)I" } : Jvm.MethodName)) ∈ gtb := gtb_of (mt3 (i := 25) rfl) rfl
theorem q3_26 : (Jvm.Cond.selects "TuneSchool" ({ cls := "TuneSchool", name := "key", desc := "(I)I" } : Jvm.MethodName) ({ cls := "TuneSchool", name := "key", desc := "(I)I" } : Jvm.MethodName)) ∈ gtb := gtb_of (mt3 (i := 26) rfl) rfl
theorem q3_27 : (Jvm.Cond.code ({ cls := "TuneSchool", name := "key", desc := "(I)I" } : Jvm.MethodName) prog_1_method_21_code (3 : Nat) (Option.some Jvm.ClassFile.FieldType.int)) ∈ gtb := gtb_of (mt3 (i := 27) rfl) rfl
theorem q3_28 : (Jvm.Cond.methodLink "TuneSchoolLaw" (100 : Nat) ({ cls := "TuneSchool", name := "weight", desc := "(II)I" } : Jvm.MethodName)) ∈ gtb := gtb_of (mt3 (i := 28) rfl) rfl
theorem q3_29 : (Jvm.Cond.instanceMethod ({ cls := "TuneSchool", name := "weight", desc := "(II)I" } : Jvm.MethodName)) ∈ gtb := gtb_of (mt3 (i := 29) rfl) rfl
theorem q3_30 : (Jvm.Cond.selects "TuneSchool" ({ cls := "TuneSchool", name := "weight", desc := "(II)I" } : Jvm.MethodName) ({ cls := "TuneSchool", name := "weight", desc := "(II)I" } : Jvm.MethodName)) ∈ gtb := gtb_of (mt3 (i := 30) rfl) rfl
theorem q3_31 : (Jvm.Cond.code ({ cls := "TuneSchool", name := "weight", desc := "(II)I" } : Jvm.MethodName) prog_1_method_22_code (4 : Nat) (Option.some Jvm.ClassFile.FieldType.int)) ∈ gtb := gtb_of (mt3 (i := 31) rfl) rfl
theorem q3_32 : (Jvm.Cond.methodLink "TuneSchoolLaw" (104 : Nat) ({ cls := "TuneSchool", name := "faults", desc := "(I)I" } : Jvm.MethodName)) ∈ gtb := gtb_of (mt3 (i := 32) rfl) rfl
theorem q3_33 : (Jvm.Cond.instanceMethod ({ cls := "TuneSchool", name := "faults", desc := "(I)I" } : Jvm.MethodName)) ∈ gtb := gtb_of (mt3 (i := 33) rfl) rfl
theorem q3_34 : (Jvm.Cond.selects "TuneSchool" ({ cls := "TuneSchool", name := "faults", desc := "(I)I" } : Jvm.MethodName) ({ cls := "TuneSchool", name := "faults", desc := "(I)I" } : Jvm.MethodName)) ∈ gtb := gtb_of (mt3 (i := 34) rfl) rfl
theorem q3_35 : (Jvm.Cond.code ({ cls := "TuneSchool", name := "faults", desc := "(I)I" } : Jvm.MethodName) prog_1_method_23_code (7 : Nat) (Option.some Jvm.ClassFile.FieldType.int)) ∈ gtb := gtb_of (mt3 (i := 35) rfl) rfl
theorem q3_36 : (Jvm.Cond.methodLink "TuneSchool" (190 : Nat) ({ cls := "TuneSchool$Moment", name := "openTrace", desc := "()V" } : Jvm.MethodName)) ∈ gtb := gtb_of (mt3 (i := 36) rfl) rfl
theorem q3_37 : (Jvm.Cond.instanceMethod ({ cls := "TuneSchool$Moment", name := "openTrace", desc := "()V" } : Jvm.MethodName)) ∈ gtb := gtb_of (mt3 (i := 37) rfl) rfl
theorem q3_38 : (Jvm.Cond.selects "TuneSchool$Moment" ({ cls := "TuneSchool$Moment", name := "openTrace", desc := "()V" } : Jvm.MethodName) ({ cls := "TuneSchool$Moment", name := "openTrace", desc := "()V" } : Jvm.MethodName)) ∈ gtb := gtb_of (mt3 (i := 38) rfl) rfl
theorem q3_39 : (Jvm.Cond.code ({ cls := "TuneSchool$Moment", name := "openTrace", desc := "()V" } : Jvm.MethodName) prog_7_method_2_code (1 : Nat) (Option.none : Option Jvm.ClassFile.FieldType)) ∈ gtb := gtb_of (mt3 (i := 39) rfl) rfl
theorem q3_40 : (Jvm.Cond.methodLink "TuneSchool" (193 : Nat) ({ cls := "java/lang/Math", name := "max", desc := "(II)I" } : Jvm.MethodName)) ∈ gtb := gtb_of (mt3 (i := 40) rfl) rfl
theorem q3_41 : (Jvm.Cond.static ({ cls := "java/lang/Math", name := "max", desc := "(II)I" } : Jvm.MethodName)) ∈ gtb := gtb_of (mt3 (i := 41) rfl) rfl
theorem q3_42 : (Jvm.Cond.code ({ cls := "java/lang/Math", name := "max", desc := "(II)I" } : Jvm.MethodName) prog_15_method_65_code (2 : Nat) (Option.some Jvm.ClassFile.FieldType.int)) ∈ gtb := gtb_of (mt3 (i := 42) rfl) rfl
theorem q3_43 : (Jvm.Cond.methodLink "TuneSchool" (205 : Nat) ({ cls := "TuneSchool", name := "findLasts", desc := "()V" } : Jvm.MethodName)) ∈ gtb := gtb_of (mt3 (i := 43) rfl) rfl
theorem q3_45 : (Jvm.Cond.instanceMethod ({ cls := "TuneSchool", name := "findLasts", desc := "()V" } : Jvm.MethodName)) ∈ gtb := gtb_of (mt3 (i := 45) rfl) rfl
theorem q3_46 : (Jvm.Cond.code ({ cls := "TuneSchool", name := "findLasts", desc := "()V" } : Jvm.MethodName) prog_1_method_58_code (3 : Nat) (Option.none : Option Jvm.ClassFile.FieldType)) ∈ gtb := gtb_of (mt3 (i := 46) rfl) rfl
theorem q3_47 : (Jvm.Cond.methodLink "TuneSchool" (215 : Nat) ({ cls := "TuneSchool", name := "lastOfBoth", desc := "(LTuneSchool$Voice;LTuneSchool$Voice;)I" } : Jvm.MethodName)) ∈ gtb := gtb_of (mt3 (i := 47) rfl) rfl
theorem q3_48 : (Jvm.Cond.static ({ cls := "TuneSchool", name := "lastOfBoth", desc := "(LTuneSchool$Voice;LTuneSchool$Voice;)I" } : Jvm.MethodName)) ∈ gtb := gtb_of (mt3 (i := 48) rfl) rfl
theorem q3_49 : (Jvm.Cond.code ({ cls := "TuneSchool", name := "lastOfBoth", desc := "(LTuneSchool$Voice;LTuneSchool$Voice;)I" } : Jvm.MethodName) prog_1_method_57_code (3 : Nat) (Option.some Jvm.ClassFile.FieldType.int)) ∈ gtb := gtb_of (mt3 (i := 49) rfl) rfl
theorem q3_50 : (Jvm.Cond.methodLink "TuneSchool" (208 : Nat) ({ cls := "TuneSchool", name := "askPair", desc := "(LTuneSchool$Standing;III)V" } : Jvm.MethodName)) ∈ gtb := gtb_of (mt3 (i := 50) rfl) rfl
theorem q3_52 : (Jvm.Cond.instanceMethod ({ cls := "TuneSchool", name := "askPair", desc := "(LTuneSchool$Standing;III)V" } : Jvm.MethodName)) ∈ gtb := gtb_of (mt3 (i := 52) rfl) rfl
theorem q3_53 : (Jvm.Cond.code ({ cls := "TuneSchool", name := "askPair", desc := "(LTuneSchool$Standing;III)V" } : Jvm.MethodName) prog_1_method_59_code (7 : Nat) (Option.none : Option Jvm.ClassFile.FieldType)) ∈ gtb := gtb_of (mt3 (i := 53) rfl) rfl
theorem q3_54 : (Jvm.Cond.methodLink "TuneSchool" (219 : Nat) ({ cls := "TuneSchool$Moment", name := "stand", desc := "(LTuneSchool$Voice;LTuneSchool$Voice;II)V" } : Jvm.MethodName)) ∈ gtb := gtb_of (mt3 (i := 54) rfl) rfl
theorem q3_55 : (Jvm.Cond.instanceMethod ({ cls := "TuneSchool$Moment", name := "stand", desc := "(LTuneSchool$Voice;LTuneSchool$Voice;II)V" } : Jvm.MethodName)) ∈ gtb := gtb_of (mt3 (i := 55) rfl) rfl
theorem q3_56 : (Jvm.Cond.selects "TuneSchool$Moment" ({ cls := "TuneSchool$Moment", name := "stand", desc := "(LTuneSchool$Voice;LTuneSchool$Voice;II)V" } : Jvm.MethodName) ({ cls := "TuneSchool$Moment", name := "stand", desc := "(LTuneSchool$Voice;LTuneSchool$Voice;II)V" } : Jvm.MethodName)) ∈ gtb := gtb_of (mt3 (i := 56) rfl) rfl
theorem q3_57 : (Jvm.Cond.code ({ cls := "TuneSchool$Moment", name := "stand", desc := "(LTuneSchool$Voice;LTuneSchool$Voice;II)V" } : Jvm.MethodName) prog_7_method_4_code (5 : Nat) (Option.none : Option Jvm.ClassFile.FieldType)) ∈ gtb := gtb_of (mt3 (i := 57) rfl) rfl
theorem q3_58 : (Jvm.Cond.methodLink "TuneSchool$Moment" (29 : Nat) ({ cls := "TuneSchool$Voice", name := "at", desc := "(I)I" } : Jvm.MethodName)) ∈ gtb := gtb_of (mt3 (i := 58) rfl) rfl
theorem q3_59 : (Jvm.Cond.methodLink "TuneSchool" (223 : Nat) ({ cls := "TuneSchool$Moment", name := "bothSound", desc := "()Z" } : Jvm.MethodName)) ∈ gtb := gtb_of (mt3 (i := 59) rfl) rfl
theorem q3_60 : (Jvm.Cond.instanceMethod ({ cls := "TuneSchool$Moment", name := "bothSound", desc := "()Z" } : Jvm.MethodName)) ∈ gtb := gtb_of (mt3 (i := 60) rfl) rfl
theorem q3_61 : (Jvm.Cond.selects "TuneSchool$Moment" ({ cls := "TuneSchool$Moment", name := "bothSound", desc := "()Z" } : Jvm.MethodName) ({ cls := "TuneSchool$Moment", name := "bothSound", desc := "()Z" } : Jvm.MethodName)) ∈ gtb := gtb_of (mt3 (i := 61) rfl) rfl
theorem q3_62 : (Jvm.Cond.code ({ cls := "TuneSchool$Moment", name := "bothSound", desc := "()Z" } : Jvm.MethodName) prog_7_method_6_code (1 : Nat) (Option.some Jvm.ClassFile.FieldType.boolean)) ∈ gtb := gtb_of (mt3 (i := 62) rfl) rfl
theorem q3_63 : (Jvm.Cond.methodLink "TuneSchool" (344 : Nat) ({ cls := "TuneSchool$Standing", name := "width", desc := "()I" } : Jvm.MethodName)) ∈ gtb := gtb_of (mt3 (i := 63) rfl) rfl
theorem q3_65 : (Jvm.Cond.sameMethod "TuneSchool$Standing" "TuneSchool$Standing" "width" "()I") ∈ gtb := gtb_of (mt3 (i := 65) rfl) rfl
theorem q3_66 : (Jvm.Cond.selects "TuneSchool$Cadence" ({ cls := "TuneSchool$Standing", name := "width", desc := "()I" } : Jvm.MethodName) ({ cls := "TuneSchool$Rule", name := "width", desc := "()I" } : Jvm.MethodName)) ∈ gtb := gtb_of (mt3 (i := 66) rfl) rfl
theorem q3_67 : (Jvm.Cond.instanceMethod ({ cls := "TuneSchool$Rule", name := "width", desc := "()I" } : Jvm.MethodName)) ∈ gtb := gtb_of (mt3 (i := 67) rfl) rfl
theorem q3_68 : (Jvm.Cond.code ({ cls := "TuneSchool$Rule", name := "width", desc := "()I" } : Jvm.MethodName) prog_9_method_4_code (1 : Nat) (Option.some Jvm.ClassFile.FieldType.int)) ∈ gtb := gtb_of (mt3 (i := 68) rfl) rfl
theorem q3_69 : (Jvm.Cond.selects "TuneSchool$Interval" ({ cls := "TuneSchool$Standing", name := "width", desc := "()I" } : Jvm.MethodName) ({ cls := "TuneSchool$Rule", name := "width", desc := "()I" } : Jvm.MethodName)) ∈ gtb := gtb_of (mt3 (i := 69) rfl) rfl
theorem q3_70 : (Jvm.Cond.selects "TuneSchool$Leap" ({ cls := "TuneSchool$Standing", name := "width", desc := "()I" } : Jvm.MethodName) ({ cls := "TuneSchool$Rule", name := "width", desc := "()I" } : Jvm.MethodName)) ∈ gtb := gtb_of (mt3 (i := 70) rfl) rfl
theorem q3_71 : (Jvm.Cond.selects "TuneSchool$Motion" ({ cls := "TuneSchool$Standing", name := "width", desc := "()I" } : Jvm.MethodName) ({ cls := "TuneSchool$Rule", name := "width", desc := "()I" } : Jvm.MethodName)) ∈ gtb := gtb_of (mt3 (i := 71) rfl) rfl
theorem q3_72 : (Jvm.Cond.selects "TuneSchool$School" ({ cls := "TuneSchool$Standing", name := "width", desc := "()I" } : Jvm.MethodName) ({ cls := "TuneSchool$School", name := "width", desc := "()I" } : Jvm.MethodName)) ∈ gtb := gtb_of (mt3 (i := 72) rfl) rfl
theorem q3_73 : (Jvm.Cond.instanceMethod ({ cls := "TuneSchool$School", name := "width", desc := "()I" } : Jvm.MethodName)) ∈ gtb := gtb_of (mt3 (i := 73) rfl) rfl
theorem q3_74 : (Jvm.Cond.code ({ cls := "TuneSchool$School", name := "width", desc := "()I" } : Jvm.MethodName) prog_10_method_2_code (1 : Nat) (Option.some Jvm.ClassFile.FieldType.int)) ∈ gtb := gtb_of (mt3 (i := 74) rfl) rfl
theorem q3_75 : (Jvm.Cond.methodLink "TuneSchool" (347 : Nat) ({ cls := "TuneSchool$Standing", name := "ruleAt", desc := "(I)LTuneSchool$Rule;" } : Jvm.MethodName)) ∈ gtb := gtb_of (mt3 (i := 75) rfl) rfl
theorem q3_77 : (Jvm.Cond.sameMethod "TuneSchool$Standing" "TuneSchool$Standing" "ruleAt" "(I)LTuneSchool$Rule;") ∈ gtb := gtb_of (mt3 (i := 77) rfl) rfl
theorem q3_78 : (Jvm.Cond.selects "TuneSchool$Cadence" ({ cls := "TuneSchool$Standing", name := "ruleAt", desc := "(I)LTuneSchool$Rule;" } : Jvm.MethodName) ({ cls := "TuneSchool$Rule", name := "ruleAt", desc := "(I)LTuneSchool$Rule;" } : Jvm.MethodName)) ∈ gtb := gtb_of (mt3 (i := 78) rfl) rfl
theorem q3_79 : (Jvm.Cond.instanceMethod ({ cls := "TuneSchool$Rule", name := "ruleAt", desc := "(I)LTuneSchool$Rule;" } : Jvm.MethodName)) ∈ gtb := gtb_of (mt3 (i := 79) rfl) rfl
theorem q3_80 : (Jvm.Cond.code ({ cls := "TuneSchool$Rule", name := "ruleAt", desc := "(I)LTuneSchool$Rule;" } : Jvm.MethodName) prog_9_method_5_code (2 : Nat) (Option.some (Jvm.ClassFile.FieldType.object "TuneSchool$Rule"))) ∈ gtb := gtb_of (mt3 (i := 80) rfl) rfl
theorem q3_81 : (Jvm.Cond.selects "TuneSchool$Interval" ({ cls := "TuneSchool$Standing", name := "ruleAt", desc := "(I)LTuneSchool$Rule;" } : Jvm.MethodName) ({ cls := "TuneSchool$Rule", name := "ruleAt", desc := "(I)LTuneSchool$Rule;" } : Jvm.MethodName)) ∈ gtb := gtb_of (mt3 (i := 81) rfl) rfl
theorem q3_82 : (Jvm.Cond.selects "TuneSchool$Leap" ({ cls := "TuneSchool$Standing", name := "ruleAt", desc := "(I)LTuneSchool$Rule;" } : Jvm.MethodName) ({ cls := "TuneSchool$Rule", name := "ruleAt", desc := "(I)LTuneSchool$Rule;" } : Jvm.MethodName)) ∈ gtb := gtb_of (mt3 (i := 82) rfl) rfl
theorem q3_83 : (Jvm.Cond.selects "TuneSchool$Motion" ({ cls := "TuneSchool$Standing", name := "ruleAt", desc := "(I)LTuneSchool$Rule;" } : Jvm.MethodName) ({ cls := "TuneSchool$Rule", name := "ruleAt", desc := "(I)LTuneSchool$Rule;" } : Jvm.MethodName)) ∈ gtb := gtb_of (mt3 (i := 83) rfl) rfl
theorem q3_84 : (Jvm.Cond.selects "TuneSchool$School" ({ cls := "TuneSchool$Standing", name := "ruleAt", desc := "(I)LTuneSchool$Rule;" } : Jvm.MethodName) ({ cls := "TuneSchool$School", name := "ruleAt", desc := "(I)LTuneSchool$Rule;" } : Jvm.MethodName)) ∈ gtb := gtb_of (mt3 (i := 84) rfl) rfl
theorem q3_85 : (Jvm.Cond.instanceMethod ({ cls := "TuneSchool$School", name := "ruleAt", desc := "(I)LTuneSchool$Rule;" } : Jvm.MethodName)) ∈ gtb := gtb_of (mt3 (i := 85) rfl) rfl
theorem q3_86 : (Jvm.Cond.code ({ cls := "TuneSchool$School", name := "ruleAt", desc := "(I)LTuneSchool$Rule;" } : Jvm.MethodName) prog_10_method_3_code (2 : Nat) (Option.some (Jvm.ClassFile.FieldType.object "TuneSchool$Rule"))) ∈ gtb := gtb_of (mt3 (i := 86) rfl) rfl
theorem q3_87 : (Jvm.Cond.methodLink "TuneSchool" (350 : Nat) ({ cls := "TuneSchool$Rule", name := "listens", desc := "(LTuneSchool$Moment;)Z" } : Jvm.MethodName)) ∈ gtb := gtb_of (mt3 (i := 87) rfl) rfl
theorem q3_88 : (Jvm.Cond.instanceMethod ({ cls := "TuneSchool$Rule", name := "listens", desc := "(LTuneSchool$Moment;)Z" } : Jvm.MethodName)) ∈ gtb := gtb_of (mt3 (i := 88) rfl) rfl
theorem q3_89 : (Jvm.Cond.sameMethod "TuneSchool$Rule" "TuneSchool$Rule" "listens" "(LTuneSchool$Moment;)Z") ∈ gtb := gtb_of (mt3 (i := 89) rfl) rfl
theorem q3_90 : (Jvm.Cond.selects "TuneSchool$Cadence" ({ cls := "TuneSchool$Rule", name := "listens", desc := "(LTuneSchool$Moment;)Z" } : Jvm.MethodName) ({ cls := "TuneSchool$Rule", name := "listens", desc := "(LTuneSchool$Moment;)Z" } : Jvm.MethodName)) ∈ gtb := gtb_of (mt3 (i := 90) rfl) rfl
theorem q3_91 : (Jvm.Cond.selects "TuneSchool$Interval" ({ cls := "TuneSchool$Rule", name := "listens", desc := "(LTuneSchool$Moment;)Z" } : Jvm.MethodName) ({ cls := "TuneSchool$Rule", name := "listens", desc := "(LTuneSchool$Moment;)Z" } : Jvm.MethodName)) ∈ gtb := gtb_of (mt3 (i := 91) rfl) rfl
theorem q3_92 : (Jvm.Cond.selects "TuneSchool$Leap" ({ cls := "TuneSchool$Rule", name := "listens", desc := "(LTuneSchool$Moment;)Z" } : Jvm.MethodName) ({ cls := "TuneSchool$Leap", name := "listens", desc := "(LTuneSchool$Moment;)Z" } : Jvm.MethodName)) ∈ gtb := gtb_of (mt3 (i := 92) rfl) rfl
theorem q3_93 : (Jvm.Cond.instanceMethod ({ cls := "TuneSchool$Leap", name := "listens", desc := "(LTuneSchool$Moment;)Z" } : Jvm.MethodName)) ∈ gtb := gtb_of (mt3 (i := 93) rfl) rfl
theorem q3_94 : (Jvm.Cond.code ({ cls := "TuneSchool$Leap", name := "listens", desc := "(LTuneSchool$Moment;)Z" } : Jvm.MethodName) prog_5_method_3_code (2 : Nat) (Option.some Jvm.ClassFile.FieldType.boolean)) ∈ gtb := gtb_of (mt3 (i := 94) rfl) rfl
theorem q3_95 : (Jvm.Cond.methodLink "TuneSchool$Leap" (9 : Nat) ({ cls := "TuneSchool$Moment", name := "mark", desc := "(I)V" } : Jvm.MethodName)) ∈ gtb := gtb_of (mt3 (i := 95) rfl) rfl
theorem q3_96 : (Jvm.Cond.instanceMethod ({ cls := "TuneSchool$Moment", name := "mark", desc := "(I)V" } : Jvm.MethodName)) ∈ gtb := gtb_of (mt3 (i := 96) rfl) rfl
theorem q3_97 : (Jvm.Cond.selects "TuneSchool$Moment" ({ cls := "TuneSchool$Moment", name := "mark", desc := "(I)V" } : Jvm.MethodName) ({ cls := "TuneSchool$Moment", name := "mark", desc := "(I)V" } : Jvm.MethodName)) ∈ gtb := gtb_of (mt3 (i := 97) rfl) rfl
theorem q3_98 : (Jvm.Cond.code ({ cls := "TuneSchool$Moment", name := "mark", desc := "(I)V" } : Jvm.MethodName) prog_7_method_3_code (2 : Nat) (Option.none : Option Jvm.ClassFile.FieldType)) ∈ gtb := gtb_of (mt3 (i := 98) rfl) rfl
theorem q3_99 : (Jvm.Cond.selects "TuneSchool$Motion" ({ cls := "TuneSchool$Rule", name := "listens", desc := "(LTuneSchool$Moment;)Z" } : Jvm.MethodName) ({ cls := "TuneSchool$Rule", name := "listens", desc := "(LTuneSchool$Moment;)Z" } : Jvm.MethodName)) ∈ gtb := gtb_of (mt3 (i := 99) rfl) rfl
theorem q3_100 : (Jvm.Cond.code ({ cls := "TuneSchool$Rule", name := "listens", desc := "(LTuneSchool$Moment;)Z" } : Jvm.MethodName) prog_9_method_8_code (2 : Nat) (Option.some Jvm.ClassFile.FieldType.boolean)) ∈ gtb := gtb_of (mt3 (i := 100) rfl) rfl
theorem q3_101 : (Jvm.Cond.methodLink "TuneSchool$Rule" (17 : Nat) ({ cls := "TuneSchool$Moment", name := "mark", desc := "(I)V" } : Jvm.MethodName)) ∈ gtb := gtb_of (mt3 (i := 101) rfl) rfl
theorem q3_102 : (Jvm.Cond.methodLink "TuneSchool" (354 : Nat) ({ cls := "TuneSchool$Rule", name := "tells", desc := "(LTuneSchool$Moment;)Z" } : Jvm.MethodName)) ∈ gtb := gtb_of (mt3 (i := 102) rfl) rfl
theorem q3_104 : (Jvm.Cond.sameMethod "TuneSchool$Rule" "TuneSchool$Rule" "tells" "(LTuneSchool$Moment;)Z") ∈ gtb := gtb_of (mt3 (i := 104) rfl) rfl
theorem q3_105 : (Jvm.Cond.selects "TuneSchool$Cadence" ({ cls := "TuneSchool$Rule", name := "tells", desc := "(LTuneSchool$Moment;)Z" } : Jvm.MethodName) ({ cls := "TuneSchool$Cadence", name := "tells", desc := "(LTuneSchool$Moment;)Z" } : Jvm.MethodName)) ∈ gtb := gtb_of (mt3 (i := 105) rfl) rfl
theorem q3_106 : (Jvm.Cond.instanceMethod ({ cls := "TuneSchool$Cadence", name := "tells", desc := "(LTuneSchool$Moment;)Z" } : Jvm.MethodName)) ∈ gtb := gtb_of (mt3 (i := 106) rfl) rfl
theorem q3_107 : (Jvm.Cond.code ({ cls := "TuneSchool$Cadence", name := "tells", desc := "(LTuneSchool$Moment;)Z" } : Jvm.MethodName) prog_2_method_3_code (2 : Nat) (Option.some Jvm.ClassFile.FieldType.boolean)) ∈ gtb := gtb_of (mt3 (i := 107) rfl) rfl
theorem q3_108 : (Jvm.Cond.methodLink "TuneSchool$Cadence" (9 : Nat) ({ cls := "TuneSchool$Moment", name := "mark", desc := "(I)V" } : Jvm.MethodName)) ∈ gtb := gtb_of (mt3 (i := 108) rfl) rfl
theorem q3_109 : (Jvm.Cond.methodLink "TuneSchool$Cadence" (15 : Nat) ({ cls := "TuneSchool$Motion", name := "tells", desc := "(LTuneSchool$Moment;)Z" } : Jvm.MethodName)) ∈ gtb := gtb_of (mt3 (i := 109) rfl) rfl
theorem q3_110 : (Jvm.Cond.instanceMethod ({ cls := "TuneSchool$Motion", name := "tells", desc := "(LTuneSchool$Moment;)Z" } : Jvm.MethodName)) ∈ gtb := gtb_of (mt3 (i := 110) rfl) rfl
theorem q3_111 : (Jvm.Cond.code ({ cls := "TuneSchool$Motion", name := "tells", desc := "(LTuneSchool$Moment;)Z" } : Jvm.MethodName) prog_8_method_3_code (2 : Nat) (Option.some Jvm.ClassFile.FieldType.boolean)) ∈ gtb := gtb_of (mt3 (i := 111) rfl) rfl
theorem q3_112 : (Jvm.Cond.methodLink "TuneSchool$Motion" (9 : Nat) ({ cls := "TuneSchool$Moment", name := "mark", desc := "(I)V" } : Jvm.MethodName)) ∈ gtb := gtb_of (mt3 (i := 112) rfl) rfl
theorem q3_113 : (Jvm.Cond.methodLink "TuneSchool$Motion" (15 : Nat) ({ cls := "TuneSchool$Interval", name := "tells", desc := "(LTuneSchool$Moment;)Z" } : Jvm.MethodName)) ∈ gtb := gtb_of (mt3 (i := 113) rfl) rfl
theorem q3_114 : (Jvm.Cond.instanceMethod ({ cls := "TuneSchool$Interval", name := "tells", desc := "(LTuneSchool$Moment;)Z" } : Jvm.MethodName)) ∈ gtb := gtb_of (mt3 (i := 114) rfl) rfl
theorem q3_115 : (Jvm.Cond.code ({ cls := "TuneSchool$Interval", name := "tells", desc := "(LTuneSchool$Moment;)Z" } : Jvm.MethodName) prog_4_method_3_code (2 : Nat) (Option.some Jvm.ClassFile.FieldType.boolean)) ∈ gtb := gtb_of (mt3 (i := 115) rfl) rfl
theorem q3_116 : (Jvm.Cond.methodLink "TuneSchool$Interval" (9 : Nat) ({ cls := "TuneSchool$Moment", name := "mark", desc := "(I)V" } : Jvm.MethodName)) ∈ gtb := gtb_of (mt3 (i := 116) rfl) rfl
theorem q3_117 : (Jvm.Cond.methodLink "TuneSchool$Interval" (15 : Nat) ({ cls := "TuneSchool$Moment", name := "isStrong", desc := "()Z" } : Jvm.MethodName)) ∈ gtb := gtb_of (mt3 (i := 117) rfl) rfl
theorem q3_118 : (Jvm.Cond.instanceMethod ({ cls := "TuneSchool$Moment", name := "isStrong", desc := "()Z" } : Jvm.MethodName)) ∈ gtb := gtb_of (mt3 (i := 118) rfl) rfl
theorem q3_119 : (Jvm.Cond.selects "TuneSchool$Moment" ({ cls := "TuneSchool$Moment", name := "isStrong", desc := "()Z" } : Jvm.MethodName) ({ cls := "TuneSchool$Moment", name := "isStrong", desc := "()Z" } : Jvm.MethodName)) ∈ gtb := gtb_of (mt3 (i := 119) rfl) rfl
theorem q3_120 : (Jvm.Cond.code ({ cls := "TuneSchool$Moment", name := "isStrong", desc := "()Z" } : Jvm.MethodName) prog_7_method_7_code (1 : Nat) (Option.some Jvm.ClassFile.FieldType.boolean)) ∈ gtb := gtb_of (mt3 (i := 120) rfl) rfl
theorem q3_121 : (Jvm.Cond.methodLink "TuneSchool$Interval" (19 : Nat) ({ cls := "TuneSchool$Moment", name := "step", desc := "()I" } : Jvm.MethodName)) ∈ gtb := gtb_of (mt3 (i := 121) rfl) rfl
theorem q3_122 : (Jvm.Cond.instanceMethod ({ cls := "TuneSchool$Moment", name := "step", desc := "()I" } : Jvm.MethodName)) ∈ gtb := gtb_of (mt3 (i := 122) rfl) rfl
theorem q3_123 : (Jvm.Cond.selects "TuneSchool$Moment" ({ cls := "TuneSchool$Moment", name := "step", desc := "()I" } : Jvm.MethodName) ({ cls := "TuneSchool$Moment", name := "step", desc := "()I" } : Jvm.MethodName)) ∈ gtb := gtb_of (mt3 (i := 123) rfl) rfl
theorem q3_124 : (Jvm.Cond.code ({ cls := "TuneSchool$Moment", name := "step", desc := "()I" } : Jvm.MethodName) prog_7_method_8_code (1 : Nat) (Option.some Jvm.ClassFile.FieldType.int)) ∈ gtb := gtb_of (mt3 (i := 124) rfl) rfl
theorem q3_125 : (Jvm.Cond.methodLink "TuneSchool$Interval" (23 : Nat) ({ cls := "TuneSchool$Interval", name := "holds", desc := "(II)Z" } : Jvm.MethodName)) ∈ gtb := gtb_of (mt3 (i := 125) rfl) rfl
theorem q3_126 : (Jvm.Cond.sameMethod "TuneSchool$Interval" "TuneSchool$Rule" "holds" "(II)Z") ∈ gtb := gtb_of (mt3 (i := 126) rfl) rfl
theorem q3_128 : (Jvm.Cond.selects "TuneSchool$Cadence" ({ cls := "TuneSchool$Interval", name := "holds", desc := "(II)Z" } : Jvm.MethodName) ({ cls := "TuneSchool$Rule", name := "holds", desc := "(II)Z" } : Jvm.MethodName)) ∈ gtb := gtb_of (mt3 (i := 128) rfl) rfl
theorem q3_129 : (Jvm.Cond.selects "TuneSchool$Interval" ({ cls := "TuneSchool$Interval", name := "holds", desc := "(II)Z" } : Jvm.MethodName) ({ cls := "TuneSchool$Rule", name := "holds", desc := "(II)Z" } : Jvm.MethodName)) ∈ gtb := gtb_of (mt3 (i := 129) rfl) rfl
theorem q3_130 : (Jvm.Cond.selects "TuneSchool$Motion" ({ cls := "TuneSchool$Interval", name := "holds", desc := "(II)Z" } : Jvm.MethodName) ({ cls := "TuneSchool$Rule", name := "holds", desc := "(II)Z" } : Jvm.MethodName)) ∈ gtb := gtb_of (mt3 (i := 130) rfl) rfl
theorem q3_131 : (Jvm.Cond.methodLink "TuneSchool$Motion" (19 : Nat) ({ cls := "TuneSchool$Moment", name := "moved", desc := "()Z" } : Jvm.MethodName)) ∈ gtb := gtb_of (mt3 (i := 131) rfl) rfl
theorem q3_132 : (Jvm.Cond.instanceMethod ({ cls := "TuneSchool$Moment", name := "moved", desc := "()Z" } : Jvm.MethodName)) ∈ gtb := gtb_of (mt3 (i := 132) rfl) rfl
theorem q3_133 : (Jvm.Cond.selects "TuneSchool$Moment" ({ cls := "TuneSchool$Moment", name := "moved", desc := "()Z" } : Jvm.MethodName) ({ cls := "TuneSchool$Moment", name := "moved", desc := "()Z" } : Jvm.MethodName)) ∈ gtb := gtb_of (mt3 (i := 133) rfl) rfl
theorem q3_134 : (Jvm.Cond.code ({ cls := "TuneSchool$Moment", name := "moved", desc := "()Z" } : Jvm.MethodName) prog_7_method_9_code (1 : Nat) (Option.some Jvm.ClassFile.FieldType.boolean)) ∈ gtb := gtb_of (mt3 (i := 134) rfl) rfl
theorem q3_135 : (Jvm.Cond.methodLink "TuneSchool$Motion" (23 : Nat) ({ cls := "TuneSchool$Moment", name := "way", desc := "()I" } : Jvm.MethodName)) ∈ gtb := gtb_of (mt3 (i := 135) rfl) rfl
theorem q3_136 : (Jvm.Cond.instanceMethod ({ cls := "TuneSchool$Moment", name := "way", desc := "()I" } : Jvm.MethodName)) ∈ gtb := gtb_of (mt3 (i := 136) rfl) rfl
theorem q3_137 : (Jvm.Cond.selects "TuneSchool$Moment" ({ cls := "TuneSchool$Moment", name := "way", desc := "()I" } : Jvm.MethodName) ({ cls := "TuneSchool$Moment", name := "way", desc := "()I" } : Jvm.MethodName)) ∈ gtb := gtb_of (mt3 (i := 137) rfl) rfl
theorem q3_138 : (Jvm.Cond.code ({ cls := "TuneSchool$Moment", name := "way", desc := "()I" } : Jvm.MethodName) prog_7_method_10_code (3 : Nat) (Option.some Jvm.ClassFile.FieldType.int)) ∈ gtb := gtb_of (mt3 (i := 138) rfl) rfl
theorem q3_139 : (Jvm.Cond.methodLink "TuneSchool$Motion" (27 : Nat) ({ cls := "TuneSchool$Moment", name := "step", desc := "()I" } : Jvm.MethodName)) ∈ gtb := gtb_of (mt3 (i := 139) rfl) rfl
theorem q3_140 : (Jvm.Cond.methodLink "TuneSchool$Motion" (30 : Nat) ({ cls := "TuneSchool$Motion", name := "holds", desc := "(II)Z" } : Jvm.MethodName)) ∈ gtb := gtb_of (mt3 (i := 140) rfl) rfl
theorem q3_141 : (Jvm.Cond.sameMethod "TuneSchool$Motion" "TuneSchool$Rule" "holds" "(II)Z") ∈ gtb := gtb_of (mt3 (i := 141) rfl) rfl
theorem q3_142 : (Jvm.Cond.selects "TuneSchool$Cadence" ({ cls := "TuneSchool$Motion", name := "holds", desc := "(II)Z" } : Jvm.MethodName) ({ cls := "TuneSchool$Rule", name := "holds", desc := "(II)Z" } : Jvm.MethodName)) ∈ gtb := gtb_of (mt3 (i := 142) rfl) rfl
theorem q3_143 : (Jvm.Cond.selects "TuneSchool$Motion" ({ cls := "TuneSchool$Motion", name := "holds", desc := "(II)Z" } : Jvm.MethodName) ({ cls := "TuneSchool$Rule", name := "holds", desc := "(II)Z" } : Jvm.MethodName)) ∈ gtb := gtb_of (mt3 (i := 143) rfl) rfl
theorem q3_144 : (Jvm.Cond.methodLink "TuneSchool$Cadence" (23 : Nat) ({ cls := "TuneSchool$Moment", name := "step", desc := "()I" } : Jvm.MethodName)) ∈ gtb := gtb_of (mt3 (i := 144) rfl) rfl
theorem q3_145 : (Jvm.Cond.selects "TuneSchool$Interval" ({ cls := "TuneSchool$Rule", name := "tells", desc := "(LTuneSchool$Moment;)Z" } : Jvm.MethodName) ({ cls := "TuneSchool$Interval", name := "tells", desc := "(LTuneSchool$Moment;)Z" } : Jvm.MethodName)) ∈ gtb := gtb_of (mt3 (i := 145) rfl) rfl
theorem q3_146 : (Jvm.Cond.selects "TuneSchool$Leap" ({ cls := "TuneSchool$Rule", name := "tells", desc := "(LTuneSchool$Moment;)Z" } : Jvm.MethodName) ({ cls := "TuneSchool$Leap", name := "tells", desc := "(LTuneSchool$Moment;)Z" } : Jvm.MethodName)) ∈ gtb := gtb_of (mt3 (i := 146) rfl) rfl
theorem q3_147 : (Jvm.Cond.instanceMethod ({ cls := "TuneSchool$Leap", name := "tells", desc := "(LTuneSchool$Moment;)Z" } : Jvm.MethodName)) ∈ gtb := gtb_of (mt3 (i := 147) rfl) rfl
theorem q3_148 : (Jvm.Cond.code ({ cls := "TuneSchool$Leap", name := "tells", desc := "(LTuneSchool$Moment;)Z" } : Jvm.MethodName) prog_5_method_4_code (4 : Nat) (Option.some Jvm.ClassFile.FieldType.boolean)) ∈ gtb := gtb_of (mt3 (i := 148) rfl) rfl
theorem q3_149 : (Jvm.Cond.methodLink "TuneSchool$Leap" (26 : Nat) ({ cls := "TuneSchool$Leap", name := "wantsAnswer", desc := "(II)Z" } : Jvm.MethodName)) ∈ gtb := gtb_of (mt3 (i := 149) rfl) rfl
theorem q3_150 : (Jvm.Cond.instanceMethod ({ cls := "TuneSchool$Leap", name := "wantsAnswer", desc := "(II)Z" } : Jvm.MethodName)) ∈ gtb := gtb_of (mt3 (i := 150) rfl) rfl
theorem q3_151 : (Jvm.Cond.selects "TuneSchool$Leap" ({ cls := "TuneSchool$Leap", name := "wantsAnswer", desc := "(II)Z" } : Jvm.MethodName) ({ cls := "TuneSchool$Leap", name := "wantsAnswer", desc := "(II)Z" } : Jvm.MethodName)) ∈ gtb := gtb_of (mt3 (i := 151) rfl) rfl
theorem q3_152 : (Jvm.Cond.code ({ cls := "TuneSchool$Leap", name := "wantsAnswer", desc := "(II)Z" } : Jvm.MethodName) prog_5_method_5_code (3 : Nat) (Option.some Jvm.ClassFile.FieldType.boolean)) ∈ gtb := gtb_of (mt3 (i := 152) rfl) rfl
theorem q3_153 : (Jvm.Cond.methodLink "TuneSchool$Leap" (41 : Nat) ({ cls := "java/lang/Math", name := "abs", desc := "(I)I" } : Jvm.MethodName)) ∈ gtb := gtb_of (mt3 (i := 153) rfl) rfl
theorem q3_154 : (Jvm.Cond.static ({ cls := "java/lang/Math", name := "abs", desc := "(I)I" } : Jvm.MethodName)) ∈ gtb := gtb_of (mt3 (i := 154) rfl) rfl
theorem q3_155 : (Jvm.Cond.code ({ cls := "java/lang/Math", name := "abs", desc := "(I)I" } : Jvm.MethodName) prog_15_method_59_code (1 : Nat) (Option.some Jvm.ClassFile.FieldType.int)) ∈ gtb := gtb_of (mt3 (i := 155) rfl) rfl
theorem q3_156 : (Jvm.Cond.methodLink "TuneSchool$Leap" (46 : Nat) ({ cls := "java/lang/Math", name := "min", desc := "(II)I" } : Jvm.MethodName)) ∈ gtb := gtb_of (mt3 (i := 156) rfl) rfl
theorem q3_157 : (Jvm.Cond.static ({ cls := "java/lang/Math", name := "min", desc := "(II)I" } : Jvm.MethodName)) ∈ gtb := gtb_of (mt3 (i := 157) rfl) rfl
theorem q3_158 : (Jvm.Cond.code ({ cls := "java/lang/Math", name := "min", desc := "(II)I" } : Jvm.MethodName) prog_15_method_69_code (2 : Nat) (Option.some Jvm.ClassFile.FieldType.int)) ∈ gtb := gtb_of (mt3 (i := 158) rfl) rfl
theorem q3_159 : (Jvm.Cond.methodLink "TuneSchool$Leap" (50 : Nat) ({ cls := "TuneSchool$Leap", name := "holds", desc := "(II)Z" } : Jvm.MethodName)) ∈ gtb := gtb_of (mt3 (i := 159) rfl) rfl
theorem q3_160 : (Jvm.Cond.sameMethod "TuneSchool$Leap" "TuneSchool$Rule" "holds" "(II)Z") ∈ gtb := gtb_of (mt3 (i := 160) rfl) rfl
theorem q3_161 : (Jvm.Cond.selects "TuneSchool$Leap" ({ cls := "TuneSchool$Leap", name := "holds", desc := "(II)Z" } : Jvm.MethodName) ({ cls := "TuneSchool$Rule", name := "holds", desc := "(II)Z" } : Jvm.MethodName)) ∈ gtb := gtb_of (mt3 (i := 161) rfl) rfl
theorem q3_162 : (Jvm.Cond.methodLink "TuneSchool$Leap" (35 : Nat) ({ cls := "TuneSchool$Voice", name := "otherBehind", desc := "(I)I" } : Jvm.MethodName)) ∈ gtb := gtb_of (mt3 (i := 162) rfl) rfl
theorem q3_163 : (Jvm.Cond.instanceMethod ({ cls := "TuneSchool$Voice", name := "otherBehind", desc := "(I)I" } : Jvm.MethodName)) ∈ gtb := gtb_of (mt3 (i := 163) rfl) rfl
theorem q3_164 : (Jvm.Cond.selects "TuneSchool$Voice" ({ cls := "TuneSchool$Voice", name := "otherBehind", desc := "(I)I" } : Jvm.MethodName) ({ cls := "TuneSchool$Voice", name := "otherBehind", desc := "(I)I" } : Jvm.MethodName)) ∈ gtb := gtb_of (mt3 (i := 164) rfl) rfl
theorem q3_165 : (Jvm.Cond.code ({ cls := "TuneSchool$Voice", name := "otherBehind", desc := "(I)I" } : Jvm.MethodName) prog_12_method_8_code (3 : Nat) (Option.some Jvm.ClassFile.FieldType.int)) ∈ gtb := gtb_of (mt3 (i := 165) rfl) rfl
theorem q3_166 : (Jvm.Cond.methodLink "TuneSchool$Voice" (43 : Nat) ({ cls := "TuneSchool$Voice", name := "at", desc := "(I)I" } : Jvm.MethodName)) ∈ gtb := gtb_of (mt3 (i := 166) rfl) rfl
theorem q3_167 : (Jvm.Cond.selects "TuneSchool$Motion" ({ cls := "TuneSchool$Rule", name := "tells", desc := "(LTuneSchool$Moment;)Z" } : Jvm.MethodName) ({ cls := "TuneSchool$Motion", name := "tells", desc := "(LTuneSchool$Moment;)Z" } : Jvm.MethodName)) ∈ gtb := gtb_of (mt3 (i := 167) rfl) rfl
theorem q3_168 : (Jvm.Cond.methodLink "TuneSchool" (357 : Nat) ({ cls := "TuneSchool", name := "noteFault", desc := "(LTuneSchool$Rule;III)V" } : Jvm.MethodName)) ∈ gtb := gtb_of (mt3 (i := 168) rfl) rfl
theorem q3_170 : (Jvm.Cond.instanceMethod ({ cls := "TuneSchool", name := "noteFault", desc := "(LTuneSchool$Rule;III)V" } : Jvm.MethodName)) ∈ gtb := gtb_of (mt3 (i := 170) rfl) rfl
theorem q3_171 : (Jvm.Cond.code ({ cls := "TuneSchool", name := "noteFault", desc := "(LTuneSchool$Rule;III)V" } : Jvm.MethodName) prog_1_method_60_code (6 : Nat) (Option.none : Option Jvm.ClassFile.FieldType)) ∈ gtb := gtb_of (mt3 (i := 171) rfl) rfl
theorem q3_172 : (Jvm.Cond.methodLink "TuneSchoolLaw" (108 : Nat) ({ cls := "TuneSchool", name := "fault", desc := "(II)I" } : Jvm.MethodName)) ∈ gtb := gtb_of (mt3 (i := 172) rfl) rfl
theorem q3_173 : (Jvm.Cond.instanceMethod ({ cls := "TuneSchool", name := "fault", desc := "(II)I" } : Jvm.MethodName)) ∈ gtb := gtb_of (mt3 (i := 173) rfl) rfl
theorem q3_174 : (Jvm.Cond.selects "TuneSchool" ({ cls := "TuneSchool", name := "fault", desc := "(II)I" } : Jvm.MethodName) ({ cls := "TuneSchool", name := "fault", desc := "(II)I" } : Jvm.MethodName)) ∈ gtb := gtb_of (mt3 (i := 174) rfl) rfl
theorem q3_175 : (Jvm.Cond.code ({ cls := "TuneSchool", name := "fault", desc := "(II)I" } : Jvm.MethodName) prog_1_method_24_code (3 : Nat) (Option.some Jvm.ClassFile.FieldType.int)) ∈ gtb := gtb_of (mt3 (i := 175) rfl) rfl
theorem q3_176 : (Jvm.Cond.methodLink "TuneSchool" (212 : Nat) ({ cls := "TuneSchool", name := "faultNumber", desc := "(II)I" } : Jvm.MethodName)) ∈ gtb := gtb_of (mt3 (i := 176) rfl) rfl
theorem q3_178 : (Jvm.Cond.instanceMethod ({ cls := "TuneSchool", name := "faultNumber", desc := "(II)I" } : Jvm.MethodName)) ∈ gtb := gtb_of (mt3 (i := 178) rfl) rfl
theorem q3_179 : (Jvm.Cond.code ({ cls := "TuneSchool", name := "faultNumber", desc := "(II)I" } : Jvm.MethodName) prog_1_method_61_code (3 : Nat) (Option.some Jvm.ClassFile.FieldType.int)) ∈ gtb := gtb_of (mt3 (i := 179) rfl) rfl
theorem q3_180 : (Jvm.Cond.methodLink "TuneSchoolLaw" (112 : Nat) ({ cls := "TuneSchool", name := "mend", desc := "(I)I" } : Jvm.MethodName)) ∈ gtb := gtb_of (mt3 (i := 180) rfl) rfl
theorem q3_181 : (Jvm.Cond.instanceMethod ({ cls := "TuneSchool", name := "mend", desc := "(I)I" } : Jvm.MethodName)) ∈ gtb := gtb_of (mt3 (i := 181) rfl) rfl
theorem q3_182 : (Jvm.Cond.selects "TuneSchool" ({ cls := "TuneSchool", name := "mend", desc := "(I)I" } : Jvm.MethodName) ({ cls := "TuneSchool", name := "mend", desc := "(I)I" } : Jvm.MethodName)) ∈ gtb := gtb_of (mt3 (i := 182) rfl) rfl
theorem q3_183 : (Jvm.Cond.code ({ cls := "TuneSchool", name := "mend", desc := "(I)I" } : Jvm.MethodName) prog_1_method_25_code (5 : Nat) (Option.some Jvm.ClassFile.FieldType.int)) ∈ gtb := gtb_of (mt3 (i := 183) rfl) rfl
theorem q3_184 : (Jvm.Cond.methodLink "TuneSchool" (227 : Nat) ({ cls := "TuneSchool$Rule", name := "mends", desc := "(LTuneSchool$Moment;)I" } : Jvm.MethodName)) ∈ gtb := gtb_of (mt3 (i := 184) rfl) rfl
theorem q3_185 : (Jvm.Cond.instanceMethod ({ cls := "TuneSchool$Rule", name := "mends", desc := "(LTuneSchool$Moment;)I" } : Jvm.MethodName)) ∈ gtb := gtb_of (mt3 (i := 185) rfl) rfl
theorem q3_186 : (Jvm.Cond.sameMethod "TuneSchool$Rule" "TuneSchool$Rule" "mends" "(LTuneSchool$Moment;)I") ∈ gtb := gtb_of (mt3 (i := 186) rfl) rfl
theorem q3_187 : (Jvm.Cond.selects "TuneSchool$Cadence" ({ cls := "TuneSchool$Rule", name := "mends", desc := "(LTuneSchool$Moment;)I" } : Jvm.MethodName) ({ cls := "TuneSchool$Cadence", name := "mends", desc := "(LTuneSchool$Moment;)I" } : Jvm.MethodName)) ∈ gtb := gtb_of (mt3 (i := 187) rfl) rfl
theorem q3_188 : (Jvm.Cond.instanceMethod ({ cls := "TuneSchool$Cadence", name := "mends", desc := "(LTuneSchool$Moment;)I" } : Jvm.MethodName)) ∈ gtb := gtb_of (mt3 (i := 188) rfl) rfl
theorem q3_189 : (Jvm.Cond.code ({ cls := "TuneSchool$Cadence", name := "mends", desc := "(LTuneSchool$Moment;)I" } : Jvm.MethodName) prog_2_method_4_code (3 : Nat) (Option.some Jvm.ClassFile.FieldType.int)) ∈ gtb := gtb_of (mt3 (i := 189) rfl) rfl
theorem q3_190 : (Jvm.Cond.methodLink "TuneSchool$Cadence" (34 : Nat) ({ cls := "TuneSchool$Cadence", name := "tells", desc := "(LTuneSchool$Moment;)Z" } : Jvm.MethodName)) ∈ gtb := gtb_of (mt3 (i := 190) rfl) rfl
theorem q3_191 : (Jvm.Cond.methodLink "TuneSchool$Cadence" (37 : Nat) ({ cls := "TuneSchool$Motion", name := "mends", desc := "(LTuneSchool$Moment;)I" } : Jvm.MethodName)) ∈ gtb := gtb_of (mt3 (i := 191) rfl) rfl
theorem q3_192 : (Jvm.Cond.sameMethod "TuneSchool$Motion" "TuneSchool$Interval" "mends" "(LTuneSchool$Moment;)I") ∈ gtb := gtb_of (mt3 (i := 192) rfl) rfl
theorem q3_194 : (Jvm.Cond.instanceMethod ({ cls := "TuneSchool$Interval", name := "mends", desc := "(LTuneSchool$Moment;)I" } : Jvm.MethodName)) ∈ gtb := gtb_of (mt3 (i := 194) rfl) rfl
theorem q3_195 : (Jvm.Cond.code ({ cls := "TuneSchool$Interval", name := "mends", desc := "(LTuneSchool$Moment;)I" } : Jvm.MethodName) prog_4_method_4_code (4 : Nat) (Option.some Jvm.ClassFile.FieldType.int)) ∈ gtb := gtb_of (mt3 (i := 195) rfl) rfl
theorem q3_196 : (Jvm.Cond.methodLink "TuneSchool$Interval" (33 : Nat) ({ cls := "TuneSchool$Interval", name := "tells", desc := "(LTuneSchool$Moment;)Z" } : Jvm.MethodName)) ∈ gtb := gtb_of (mt3 (i := 196) rfl) rfl
theorem q3_197 : (Jvm.Cond.selects "TuneSchool$Interval" ({ cls := "TuneSchool$Rule", name := "mends", desc := "(LTuneSchool$Moment;)I" } : Jvm.MethodName) ({ cls := "TuneSchool$Interval", name := "mends", desc := "(LTuneSchool$Moment;)I" } : Jvm.MethodName)) ∈ gtb := gtb_of (mt3 (i := 197) rfl) rfl
theorem q3_198 : (Jvm.Cond.selects "TuneSchool$Leap" ({ cls := "TuneSchool$Rule", name := "mends", desc := "(LTuneSchool$Moment;)I" } : Jvm.MethodName) ({ cls := "TuneSchool$Rule", name := "mends", desc := "(LTuneSchool$Moment;)I" } : Jvm.MethodName)) ∈ gtb := gtb_of (mt3 (i := 198) rfl) rfl
theorem q3_199 : (Jvm.Cond.selects "TuneSchool$Motion" ({ cls := "TuneSchool$Rule", name := "mends", desc := "(LTuneSchool$Moment;)I" } : Jvm.MethodName) ({ cls := "TuneSchool$Interval", name := "mends", desc := "(LTuneSchool$Moment;)I" } : Jvm.MethodName)) ∈ gtb := gtb_of (mt3 (i := 199) rfl) rfl
theorem q3_200 : (Jvm.Cond.code ({ cls := "TuneSchool$Rule", name := "mends", desc := "(LTuneSchool$Moment;)I" } : Jvm.MethodName) prog_9_method_9_code (2 : Nat) (Option.some Jvm.ClassFile.FieldType.int)) ∈ gtb := gtb_of (mt3 (i := 200) rfl) rfl
theorem q3_201 : (Jvm.Cond.methodLink "TuneSchoolLaw" (116 : Nat) ({ cls := "TuneSchool", name := "canon", desc := "(IIIII)I" } : Jvm.MethodName)) ∈ gtb := gtb_of (mt3 (i := 201) rfl) rfl
theorem q3_202 : (Jvm.Cond.instanceMethod ({ cls := "TuneSchool", name := "canon", desc := "(IIIII)I" } : Jvm.MethodName)) ∈ gtb := gtb_of (mt3 (i := 202) rfl) rfl
theorem q3_203 : (Jvm.Cond.selects "TuneSchool" ({ cls := "TuneSchool", name := "canon", desc := "(IIIII)I" } : Jvm.MethodName) ({ cls := "TuneSchool", name := "canon", desc := "(IIIII)I" } : Jvm.MethodName)) ∈ gtb := gtb_of (mt3 (i := 203) rfl) rfl
theorem q3_204 : (Jvm.Cond.code ({ cls := "TuneSchool", name := "canon", desc := "(IIIII)I" } : Jvm.MethodName) prog_1_method_26_code (7 : Nat) (Option.some Jvm.ClassFile.FieldType.int)) ∈ gtb := gtb_of (mt3 (i := 204) rfl) rfl
theorem q3_205 : (Jvm.Cond.methodLink "TuneSchool" (231 : Nat) ({ cls := "TuneSchool", name := "isFollower", desc := "(III)Z" } : Jvm.MethodName)) ∈ gtb := gtb_of (mt3 (i := 205) rfl) rfl
theorem q3_206 : (Jvm.Cond.static ({ cls := "TuneSchool", name := "isFollower", desc := "(III)Z" } : Jvm.MethodName)) ∈ gtb := gtb_of (mt3 (i := 206) rfl) rfl
theorem q3_207 : (Jvm.Cond.code ({ cls := "TuneSchool", name := "isFollower", desc := "(III)Z" } : Jvm.MethodName) prog_1_method_48_code (3 : Nat) (Option.some Jvm.ClassFile.FieldType.boolean)) ∈ gtb := gtb_of (mt3 (i := 207) rfl) rfl
theorem q3_208 : (Jvm.Cond.methodLink "TuneSchool" (234 : Nat) ({ cls := "TuneSchool", name := "firstFault", desc := "(LTuneSchool$Voice;LTuneSchool$Standing;III)I" } : Jvm.MethodName)) ∈ gtb := gtb_of (mt3 (i := 208) rfl) rfl
theorem q3_210 : (Jvm.Cond.instanceMethod ({ cls := "TuneSchool", name := "firstFault", desc := "(LTuneSchool$Voice;LTuneSchool$Standing;III)I" } : Jvm.MethodName)) ∈ gtb := gtb_of (mt3 (i := 210) rfl) rfl
theorem q3_211 : (Jvm.Cond.code ({ cls := "TuneSchool", name := "firstFault", desc := "(LTuneSchool$Voice;LTuneSchool$Standing;III)I" } : Jvm.MethodName) prog_1_method_62_code (8 : Nat) (Option.some Jvm.ClassFile.FieldType.int)) ∈ gtb := gtb_of (mt3 (i := 211) rfl) rfl
theorem q3_212 : (Jvm.Cond.methodLink "TuneSchool" (364 : Nat) ({ cls := "TuneSchool$Voice", name := "follow", desc := "(LTuneSchool$Voice;III)V" } : Jvm.MethodName)) ∈ gtb := gtb_of (mt3 (i := 212) rfl) rfl
theorem q3_213 : (Jvm.Cond.instanceMethod ({ cls := "TuneSchool$Voice", name := "follow", desc := "(LTuneSchool$Voice;III)V" } : Jvm.MethodName)) ∈ gtb := gtb_of (mt3 (i := 213) rfl) rfl
theorem q3_214 : (Jvm.Cond.selects "TuneSchool$Voice" ({ cls := "TuneSchool$Voice", name := "follow", desc := "(LTuneSchool$Voice;III)V" } : Jvm.MethodName) ({ cls := "TuneSchool$Voice", name := "follow", desc := "(LTuneSchool$Voice;III)V" } : Jvm.MethodName)) ∈ gtb := gtb_of (mt3 (i := 214) rfl) rfl
theorem q3_215 : (Jvm.Cond.code ({ cls := "TuneSchool$Voice", name := "follow", desc := "(LTuneSchool$Voice;III)V" } : Jvm.MethodName) prog_12_method_13_code (6 : Nat) (Option.none : Option Jvm.ClassFile.FieldType)) ∈ gtb := gtb_of (mt3 (i := 215) rfl) rfl
theorem q3_216 : (Jvm.Cond.methodLink "TuneSchool$Voice" (55 : Nat) ({ cls := "TuneSchool$Voice", name := "followed", desc := "(IIII)I" } : Jvm.MethodName)) ∈ gtb := gtb_of (mt3 (i := 216) rfl) rfl
theorem q3_217 : (Jvm.Cond.instanceMethod ({ cls := "TuneSchool$Voice", name := "followed", desc := "(IIII)I" } : Jvm.MethodName)) ∈ gtb := gtb_of (mt3 (i := 217) rfl) rfl
theorem q3_218 : (Jvm.Cond.selects "TuneSchool$Voice" ({ cls := "TuneSchool$Voice", name := "followed", desc := "(IIII)I" } : Jvm.MethodName) ({ cls := "TuneSchool$Voice", name := "followed", desc := "(IIII)I" } : Jvm.MethodName)) ∈ gtb := gtb_of (mt3 (i := 218) rfl) rfl
theorem q3_219 : (Jvm.Cond.code ({ cls := "TuneSchool$Voice", name := "followed", desc := "(IIII)I" } : Jvm.MethodName) prog_12_method_12_code (7 : Nat) (Option.some Jvm.ClassFile.FieldType.int)) ∈ gtb := gtb_of (mt3 (i := 219) rfl) rfl
theorem q3_220 : (Jvm.Cond.methodLink "TuneSchool$Voice" (51 : Nat) ({ cls := "TuneSchool$Voice", name := "firstPitch", desc := "()I" } : Jvm.MethodName)) ∈ gtb := gtb_of (mt3 (i := 220) rfl) rfl
theorem q3_221 : (Jvm.Cond.instanceMethod ({ cls := "TuneSchool$Voice", name := "firstPitch", desc := "()I" } : Jvm.MethodName)) ∈ gtb := gtb_of (mt3 (i := 221) rfl) rfl
theorem q3_222 : (Jvm.Cond.selects "TuneSchool$Voice" ({ cls := "TuneSchool$Voice", name := "firstPitch", desc := "()I" } : Jvm.MethodName) ({ cls := "TuneSchool$Voice", name := "firstPitch", desc := "()I" } : Jvm.MethodName)) ∈ gtb := gtb_of (mt3 (i := 222) rfl) rfl
theorem q3_223 : (Jvm.Cond.code ({ cls := "TuneSchool$Voice", name := "firstPitch", desc := "()I" } : Jvm.MethodName) prog_12_method_9_code (2 : Nat) (Option.some Jvm.ClassFile.FieldType.int)) ∈ gtb := gtb_of (mt3 (i := 223) rfl) rfl
theorem q3_224 : (Jvm.Cond.methodLink "TuneSchool" (368 : Nat) ({ cls := "TuneSchool", name := "tellsAny", desc := "(LTuneSchool$Standing;)Z" } : Jvm.MethodName)) ∈ gtb := gtb_of (mt3 (i := 224) rfl) rfl
theorem q3_226 : (Jvm.Cond.instanceMethod ({ cls := "TuneSchool", name := "tellsAny", desc := "(LTuneSchool$Standing;)Z" } : Jvm.MethodName)) ∈ gtb := gtb_of (mt3 (i := 226) rfl) rfl
theorem q3_227 : (Jvm.Cond.code ({ cls := "TuneSchool", name := "tellsAny", desc := "(LTuneSchool$Standing;)Z" } : Jvm.MethodName) prog_1_method_63_code (4 : Nat) (Option.some Jvm.ClassFile.FieldType.boolean)) ∈ gtb := gtb_of (mt3 (i := 227) rfl) rfl
theorem q3_228 : (Jvm.Cond.methodLink "TuneSchoolLaw" (120 : Nat) ({ cls := "TuneSchool", name := "canons", desc := "(IIII)I" } : Jvm.MethodName)) ∈ gtb := gtb_of (mt3 (i := 228) rfl) rfl
theorem q3_229 : (Jvm.Cond.instanceMethod ({ cls := "TuneSchool", name := "canons", desc := "(IIII)I" } : Jvm.MethodName)) ∈ gtb := gtb_of (mt3 (i := 229) rfl) rfl
theorem q3_230 : (Jvm.Cond.selects "TuneSchool" ({ cls := "TuneSchool", name := "canons", desc := "(IIII)I" } : Jvm.MethodName) ({ cls := "TuneSchool", name := "canons", desc := "(IIII)I" } : Jvm.MethodName)) ∈ gtb := gtb_of (mt3 (i := 230) rfl) rfl
theorem q3_231 : (Jvm.Cond.code ({ cls := "TuneSchool", name := "canons", desc := "(IIII)I" } : Jvm.MethodName) prog_1_method_27_code (8 : Nat) (Option.some Jvm.ClassFile.FieldType.int)) ∈ gtb := gtb_of (mt3 (i := 231) rfl) rfl
theorem q3_232 : (Jvm.Cond.methodLink "TuneSchoolLaw" (124 : Nat) ({ cls := "TuneSchool", name := "follows", desc := "(IIIII)I" } : Jvm.MethodName)) ∈ gtb := gtb_of (mt3 (i := 232) rfl) rfl
theorem q3_233 : (Jvm.Cond.instanceMethod ({ cls := "TuneSchool", name := "follows", desc := "(IIIII)I" } : Jvm.MethodName)) ∈ gtb := gtb_of (mt3 (i := 233) rfl) rfl
theorem q3_234 : (Jvm.Cond.selects "TuneSchool" ({ cls := "TuneSchool", name := "follows", desc := "(IIIII)I" } : Jvm.MethodName) ({ cls := "TuneSchool", name := "follows", desc := "(IIIII)I" } : Jvm.MethodName)) ∈ gtb := gtb_of (mt3 (i := 234) rfl) rfl
theorem q3_235 : (Jvm.Cond.code ({ cls := "TuneSchool", name := "follows", desc := "(IIIII)I" } : Jvm.MethodName) prog_1_method_28_code (7 : Nat) (Option.some Jvm.ClassFile.FieldType.int)) ∈ gtb := gtb_of (mt3 (i := 235) rfl) rfl
theorem q3_236 : (Jvm.Cond.methodLink "TuneSchool" (238 : Nat) ({ cls := "TuneSchool$Voice", name := "followed", desc := "(IIII)I" } : Jvm.MethodName)) ∈ gtb := gtb_of (mt3 (i := 236) rfl) rfl
theorem q3_237 : (Jvm.Cond.methodLink "TuneSchoolLaw" (128 : Nat) ({ cls := "TuneSchool", name := "set", desc := "(IIIZIII)I" } : Jvm.MethodName)) ∈ gtb := gtb_of (mt3 (i := 237) rfl) rfl
theorem q3_238 : (Jvm.Cond.instanceMethod ({ cls := "TuneSchool", name := "set", desc := "(IIIZIII)I" } : Jvm.MethodName)) ∈ gtb := gtb_of (mt3 (i := 238) rfl) rfl
theorem q3_239 : (Jvm.Cond.selects "TuneSchool" ({ cls := "TuneSchool", name := "set", desc := "(IIIZIII)I" } : Jvm.MethodName) ({ cls := "TuneSchool", name := "set", desc := "(IIIZIII)I" } : Jvm.MethodName)) ∈ gtb := gtb_of (mt3 (i := 239) rfl) rfl
theorem q4_0 : (Jvm.Cond.code ({ cls := "TuneSchool", name := "set", desc := "(IIIZIII)I" } : Jvm.MethodName) prog_1_method_29_code (9 : Nat) (Option.some Jvm.ClassFile.FieldType.int)) ∈ gtb := gtb_of (mt4 (i := 0) rfl) rfl
theorem q4_1 : (Jvm.Cond.methodLink "TuneSchool" (242 : Nat) ({ cls := "TuneSchool$Desk", name := "begin", desc := "(LTuneSchool$Voice;ZII)V" } : Jvm.MethodName)) ∈ gtb := gtb_of (mt4 (i := 1) rfl) rfl
theorem q4_2 : (Jvm.Cond.instanceMethod ({ cls := "TuneSchool$Desk", name := "begin", desc := "(LTuneSchool$Voice;ZII)V" } : Jvm.MethodName)) ∈ gtb := gtb_of (mt4 (i := 2) rfl) rfl
theorem q4_3 : (Jvm.Cond.selects "TuneSchool$Desk" ({ cls := "TuneSchool$Desk", name := "begin", desc := "(LTuneSchool$Voice;ZII)V" } : Jvm.MethodName) ({ cls := "TuneSchool$Desk", name := "begin", desc := "(LTuneSchool$Voice;ZII)V" } : Jvm.MethodName)) ∈ gtb := gtb_of (mt4 (i := 3) rfl) rfl
theorem q4_4 : (Jvm.Cond.code ({ cls := "TuneSchool$Desk", name := "begin", desc := "(LTuneSchool$Voice;ZII)V" } : Jvm.MethodName) prog_3_method_2_code (7 : Nat) (Option.none : Option Jvm.ClassFile.FieldType)) ∈ gtb := gtb_of (mt4 (i := 4) rfl) rfl
theorem q4_5 : (Jvm.Cond.methodLink "TuneSchool$Desk" (48 : Nat) ({ cls := "TuneSchool$Voice", name := "becomeAs", desc := "(LTuneSchool$Voice;)V" } : Jvm.MethodName)) ∈ gtb := gtb_of (mt4 (i := 5) rfl) rfl
theorem q4_6 : (Jvm.Cond.methodLink "TuneSchool$Desk" (65 : Nat) ({ cls := "TuneSchool$Desk", name := "notes", desc := "()I" } : Jvm.MethodName)) ∈ gtb := gtb_of (mt4 (i := 6) rfl) rfl
theorem q4_7 : (Jvm.Cond.instanceMethod ({ cls := "TuneSchool$Desk", name := "notes", desc := "()I" } : Jvm.MethodName)) ∈ gtb := gtb_of (mt4 (i := 7) rfl) rfl
theorem q4_8 : (Jvm.Cond.selects "TuneSchool$Desk" ({ cls := "TuneSchool$Desk", name := "notes", desc := "()I" } : Jvm.MethodName) ({ cls := "TuneSchool$Desk", name := "notes", desc := "()I" } : Jvm.MethodName)) ∈ gtb := gtb_of (mt4 (i := 8) rfl) rfl
theorem q4_9 : (Jvm.Cond.code ({ cls := "TuneSchool$Desk", name := "notes", desc := "()I" } : Jvm.MethodName) prog_3_method_3_code (1 : Nat) (Option.some Jvm.ClassFile.FieldType.int)) ∈ gtb := gtb_of (mt4 (i := 9) rfl) rfl
theorem q4_10 : (Jvm.Cond.methodLink "TuneSchool$Desk" (73 : Nat) ({ cls := "TuneSchool$Desk", name := "isHeard", desc := "(I)Z" } : Jvm.MethodName)) ∈ gtb := gtb_of (mt4 (i := 10) rfl) rfl
theorem q4_11 : (Jvm.Cond.instanceMethod ({ cls := "TuneSchool$Desk", name := "isHeard", desc := "(I)Z" } : Jvm.MethodName)) ∈ gtb := gtb_of (mt4 (i := 11) rfl) rfl
theorem q4_12 : (Jvm.Cond.selects "TuneSchool$Desk" ({ cls := "TuneSchool$Desk", name := "isHeard", desc := "(I)Z" } : Jvm.MethodName) ({ cls := "TuneSchool$Desk", name := "isHeard", desc := "(I)Z" } : Jvm.MethodName)) ∈ gtb := gtb_of (mt4 (i := 12) rfl) rfl
theorem q4_13 : (Jvm.Cond.code ({ cls := "TuneSchool$Desk", name := "isHeard", desc := "(I)Z" } : Jvm.MethodName) prog_3_method_6_code (2 : Nat) (Option.some Jvm.ClassFile.FieldType.boolean)) ∈ gtb := gtb_of (mt4 (i := 13) rfl) rfl
theorem q4_14 : (Jvm.Cond.methodLink "TuneSchool$Desk" (91 : Nat) ({ cls := "TuneSchool$Voice", name := "has", desc := "(II)Z" } : Jvm.MethodName)) ∈ gtb := gtb_of (mt4 (i := 14) rfl) rfl
theorem q4_15 : (Jvm.Cond.methodLink "TuneSchool$Desk" (80 : Nat) ({ cls := "TuneSchool$Desk", name := "work", desc := "(ILTuneSchool$Standing;)V" } : Jvm.MethodName)) ∈ gtb := gtb_of (mt4 (i := 15) rfl) rfl
theorem q4_16 : (Jvm.Cond.instanceMethod ({ cls := "TuneSchool$Desk", name := "work", desc := "(ILTuneSchool$Standing;)V" } : Jvm.MethodName)) ∈ gtb := gtb_of (mt4 (i := 16) rfl) rfl
theorem q4_17 : (Jvm.Cond.selects "TuneSchool$Desk" ({ cls := "TuneSchool$Desk", name := "work", desc := "(ILTuneSchool$Standing;)V" } : Jvm.MethodName) ({ cls := "TuneSchool$Desk", name := "work", desc := "(ILTuneSchool$Standing;)V" } : Jvm.MethodName)) ∈ gtb := gtb_of (mt4 (i := 17) rfl) rfl
theorem q4_18 : (Jvm.Cond.code ({ cls := "TuneSchool$Desk", name := "work", desc := "(ILTuneSchool$Standing;)V" } : Jvm.MethodName) prog_3_method_16_code (10 : Nat) (Option.none : Option Jvm.ClassFile.FieldType)) ∈ gtb := gtb_of (mt4 (i := 18) rfl) rfl
theorem q4_19 : (Jvm.Cond.methodLink "TuneSchool$Desk" (116 : Nat) ({ cls := "TuneSchool$Desk", name := "nextHeard", desc := "(I)I" } : Jvm.MethodName)) ∈ gtb := gtb_of (mt4 (i := 19) rfl) rfl
theorem q4_20 : (Jvm.Cond.instanceMethod ({ cls := "TuneSchool$Desk", name := "nextHeard", desc := "(I)I" } : Jvm.MethodName)) ∈ gtb := gtb_of (mt4 (i := 20) rfl) rfl
theorem q4_21 : (Jvm.Cond.selects "TuneSchool$Desk" ({ cls := "TuneSchool$Desk", name := "nextHeard", desc := "(I)I" } : Jvm.MethodName) ({ cls := "TuneSchool$Desk", name := "nextHeard", desc := "(I)I" } : Jvm.MethodName)) ∈ gtb := gtb_of (mt4 (i := 21) rfl) rfl
theorem q4_22 : (Jvm.Cond.code ({ cls := "TuneSchool$Desk", name := "nextHeard", desc := "(I)I" } : Jvm.MethodName) prog_3_method_13_code (3 : Nat) (Option.some Jvm.ClassFile.FieldType.int)) ∈ gtb := gtb_of (mt4 (i := 22) rfl) rfl
theorem q4_23 : (Jvm.Cond.methodLink "TuneSchool$Desk" (120 : Nat) ({ cls := "TuneSchool$Moment", name := "comeFrom", desc := "(II)V" } : Jvm.MethodName)) ∈ gtb := gtb_of (mt4 (i := 23) rfl) rfl
theorem q4_24 : (Jvm.Cond.instanceMethod ({ cls := "TuneSchool$Moment", name := "comeFrom", desc := "(II)V" } : Jvm.MethodName)) ∈ gtb := gtb_of (mt4 (i := 24) rfl) rfl
theorem q4_25 : (Jvm.Cond.selects "TuneSchool$Moment" ({ cls := "TuneSchool$Moment", name := "comeFrom", desc := "(II)V" } : Jvm.MethodName) ({ cls := "TuneSchool$Moment", name := "comeFrom", desc := "(II)V" } : Jvm.MethodName)) ∈ gtb := gtb_of (mt4 (i := 25) rfl) rfl
theorem q4_26 : (Jvm.Cond.code ({ cls := "TuneSchool$Moment", name := "comeFrom", desc := "(II)V" } : Jvm.MethodName) prog_7_method_5_code (3 : Nat) (Option.none : Option Jvm.ClassFile.FieldType)) ∈ gtb := gtb_of (mt4 (i := 26) rfl) rfl
theorem q4_27 : (Jvm.Cond.methodLink "TuneSchool$Desk" (126 : Nat) ({ cls := "TuneSchool$Desk", name := "isAllowed", desc := "(II)Z" } : Jvm.MethodName)) ∈ gtb := gtb_of (mt4 (i := 27) rfl) rfl
theorem q4_28 : (Jvm.Cond.instanceMethod ({ cls := "TuneSchool$Desk", name := "isAllowed", desc := "(II)Z" } : Jvm.MethodName)) ∈ gtb := gtb_of (mt4 (i := 28) rfl) rfl
theorem q4_29 : (Jvm.Cond.selects "TuneSchool$Desk" ({ cls := "TuneSchool$Desk", name := "isAllowed", desc := "(II)Z" } : Jvm.MethodName) ({ cls := "TuneSchool$Desk", name := "isAllowed", desc := "(II)Z" } : Jvm.MethodName)) ∈ gtb := gtb_of (mt4 (i := 29) rfl) rfl
theorem q4_30 : (Jvm.Cond.code ({ cls := "TuneSchool$Desk", name := "isAllowed", desc := "(II)Z" } : Jvm.MethodName) prog_3_method_17_code (4 : Nat) (Option.some Jvm.ClassFile.FieldType.boolean)) ∈ gtb := gtb_of (mt4 (i := 30) rfl) rfl
theorem q4_31 : (Jvm.Cond.methodLink "TuneSchool$Desk" (129 : Nat) ({ cls := "TuneSchool$Desk", name := "refuses", desc := "(LTuneSchool$Standing;IIII)Z" } : Jvm.MethodName)) ∈ gtb := gtb_of (mt4 (i := 31) rfl) rfl
theorem q4_32 : (Jvm.Cond.instanceMethod ({ cls := "TuneSchool$Desk", name := "refuses", desc := "(LTuneSchool$Standing;IIII)Z" } : Jvm.MethodName)) ∈ gtb := gtb_of (mt4 (i := 32) rfl) rfl
theorem q4_33 : (Jvm.Cond.selects "TuneSchool$Desk" ({ cls := "TuneSchool$Desk", name := "refuses", desc := "(LTuneSchool$Standing;IIII)Z" } : Jvm.MethodName) ({ cls := "TuneSchool$Desk", name := "refuses", desc := "(LTuneSchool$Standing;IIII)Z" } : Jvm.MethodName)) ∈ gtb := gtb_of (mt4 (i := 33) rfl) rfl
theorem q4_34 : (Jvm.Cond.code ({ cls := "TuneSchool$Desk", name := "refuses", desc := "(LTuneSchool$Standing;IIII)Z" } : Jvm.MethodName) prog_3_method_18_code (9 : Nat) (Option.some Jvm.ClassFile.FieldType.boolean)) ∈ gtb := gtb_of (mt4 (i := 34) rfl) rfl
theorem q4_35 : (Jvm.Cond.methodLink "TuneSchool$Desk" (162 : Nat) ({ cls := "TuneSchool$Standing", name := "width", desc := "()I" } : Jvm.MethodName)) ∈ gtb := gtb_of (mt4 (i := 35) rfl) rfl
theorem q4_36 : (Jvm.Cond.methodLink "TuneSchool$Desk" (167 : Nat) ({ cls := "TuneSchool$Standing", name := "ruleAt", desc := "(I)LTuneSchool$Rule;" } : Jvm.MethodName)) ∈ gtb := gtb_of (mt4 (i := 36) rfl) rfl
theorem q4_37 : (Jvm.Cond.methodLink "TuneSchool$Desk" (171 : Nat) ({ cls := "TuneSchool$Rule", name := "listens", desc := "(LTuneSchool$Moment;)Z" } : Jvm.MethodName)) ∈ gtb := gtb_of (mt4 (i := 37) rfl) rfl
theorem q4_38 : (Jvm.Cond.methodLink "TuneSchool$Desk" (177 : Nat) ({ cls := "TuneSchool$Rule", name := "tells", desc := "(LTuneSchool$Moment;)Z" } : Jvm.MethodName)) ∈ gtb := gtb_of (mt4 (i := 38) rfl) rfl
theorem q4_39 : (Jvm.Cond.methodLink "TuneSchool$Desk" (133 : Nat) ({ cls := "TuneSchool$Desk", name := "openFresh", desc := "(IZ)V" } : Jvm.MethodName)) ∈ gtb := gtb_of (mt4 (i := 39) rfl) rfl
theorem q4_40 : (Jvm.Cond.instanceMethod ({ cls := "TuneSchool$Desk", name := "openFresh", desc := "(IZ)V" } : Jvm.MethodName)) ∈ gtb := gtb_of (mt4 (i := 40) rfl) rfl
theorem q4_41 : (Jvm.Cond.selects "TuneSchool$Desk" ({ cls := "TuneSchool$Desk", name := "openFresh", desc := "(IZ)V" } : Jvm.MethodName) ({ cls := "TuneSchool$Desk", name := "openFresh", desc := "(IZ)V" } : Jvm.MethodName)) ∈ gtb := gtb_of (mt4 (i := 41) rfl) rfl
theorem q4_42 : (Jvm.Cond.code ({ cls := "TuneSchool$Desk", name := "openFresh", desc := "(IZ)V" } : Jvm.MethodName) prog_3_method_19_code (5 : Nat) (Option.none : Option Jvm.ClassFile.FieldType)) ∈ gtb := gtb_of (mt4 (i := 42) rfl) rfl
theorem q4_43 : (Jvm.Cond.methodLink "TuneSchool$Desk" (102 : Nat) ({ cls := "TuneSchool$Desk", name := "cell", desc := "(III)I" } : Jvm.MethodName)) ∈ gtb := gtb_of (mt4 (i := 43) rfl) rfl
theorem q4_44 : (Jvm.Cond.instanceMethod ({ cls := "TuneSchool$Desk", name := "cell", desc := "(III)I" } : Jvm.MethodName)) ∈ gtb := gtb_of (mt4 (i := 44) rfl) rfl
theorem q4_45 : (Jvm.Cond.selects "TuneSchool$Desk" ({ cls := "TuneSchool$Desk", name := "cell", desc := "(III)I" } : Jvm.MethodName) ({ cls := "TuneSchool$Desk", name := "cell", desc := "(III)I" } : Jvm.MethodName)) ∈ gtb := gtb_of (mt4 (i := 45) rfl) rfl
theorem q4_46 : (Jvm.Cond.code ({ cls := "TuneSchool$Desk", name := "cell", desc := "(III)I" } : Jvm.MethodName) prog_3_method_9_code (4 : Nat) (Option.some Jvm.ClassFile.FieldType.int)) ∈ gtb := gtb_of (mt4 (i := 46) rfl) rfl
theorem q4_47 : (Jvm.Cond.constant "TuneSchool$Desk" (109 : Nat) (1000000000 : Int32)) ∈ gtb := gtb_of (mt4 (i := 47) rfl) rfl
theorem q4_48 : (Jvm.Cond.methodLink "TuneSchool$Desk" (137 : Nat) ({ cls := "TuneSchool$Desk", name := "offer", desc := "(LTuneSchool$Standing;IZII)V" } : Jvm.MethodName)) ∈ gtb := gtb_of (mt4 (i := 48) rfl) rfl
theorem q4_49 : (Jvm.Cond.instanceMethod ({ cls := "TuneSchool$Desk", name := "offer", desc := "(LTuneSchool$Standing;IZII)V" } : Jvm.MethodName)) ∈ gtb := gtb_of (mt4 (i := 49) rfl) rfl
theorem q4_50 : (Jvm.Cond.selects "TuneSchool$Desk" ({ cls := "TuneSchool$Desk", name := "offer", desc := "(LTuneSchool$Standing;IZII)V" } : Jvm.MethodName) ({ cls := "TuneSchool$Desk", name := "offer", desc := "(LTuneSchool$Standing;IZII)V" } : Jvm.MethodName)) ∈ gtb := gtb_of (mt4 (i := 50) rfl) rfl
theorem q4_51 : (Jvm.Cond.code ({ cls := "TuneSchool$Desk", name := "offer", desc := "(LTuneSchool$Standing;IZII)V" } : Jvm.MethodName) prog_3_method_20_code (13 : Nat) (Option.none : Option Jvm.ClassFile.FieldType)) ∈ gtb := gtb_of (mt4 (i := 51) rfl) rfl
theorem q4_52 : (Jvm.Cond.methodLink "TuneSchool$Desk" (180 : Nat) ({ cls := "TuneSchool$Desk", name := "weightBetween", desc := "(II)I" } : Jvm.MethodName)) ∈ gtb := gtb_of (mt4 (i := 52) rfl) rfl
theorem q4_53 : (Jvm.Cond.instanceMethod ({ cls := "TuneSchool$Desk", name := "weightBetween", desc := "(II)I" } : Jvm.MethodName)) ∈ gtb := gtb_of (mt4 (i := 53) rfl) rfl
theorem q4_54 : (Jvm.Cond.selects "TuneSchool$Desk" ({ cls := "TuneSchool$Desk", name := "weightBetween", desc := "(II)I" } : Jvm.MethodName) ({ cls := "TuneSchool$Desk", name := "weightBetween", desc := "(II)I" } : Jvm.MethodName)) ∈ gtb := gtb_of (mt4 (i := 54) rfl) rfl
theorem q4_55 : (Jvm.Cond.code ({ cls := "TuneSchool$Desk", name := "weightBetween", desc := "(II)I" } : Jvm.MethodName) prog_3_method_22_code (3 : Nat) (Option.some Jvm.ClassFile.FieldType.int)) ∈ gtb := gtb_of (mt4 (i := 55) rfl) rfl
theorem q4_56 : (Jvm.Cond.methodLink "TuneSchool$Desk" (196 : Nat) ({ cls := "java/lang/Math", name := "abs", desc := "(I)I" } : Jvm.MethodName)) ∈ gtb := gtb_of (mt4 (i := 56) rfl) rfl
theorem q4_57 : (Jvm.Cond.methodLink "TuneSchool$Desk" (199 : Nat) ({ cls := "java/lang/Math", name := "max", desc := "(II)I" } : Jvm.MethodName)) ∈ gtb := gtb_of (mt4 (i := 57) rfl) rfl
theorem q4_58 : (Jvm.Cond.methodLink "TuneSchool$Desk" (184 : Nat) ({ cls := "TuneSchool$Desk", name := "dueBehind", desc := "(LTuneSchool$Standing;II)I" } : Jvm.MethodName)) ∈ gtb := gtb_of (mt4 (i := 58) rfl) rfl
theorem q4_59 : (Jvm.Cond.instanceMethod ({ cls := "TuneSchool$Desk", name := "dueBehind", desc := "(LTuneSchool$Standing;II)I" } : Jvm.MethodName)) ∈ gtb := gtb_of (mt4 (i := 59) rfl) rfl
theorem q4_60 : (Jvm.Cond.selects "TuneSchool$Desk" ({ cls := "TuneSchool$Desk", name := "dueBehind", desc := "(LTuneSchool$Standing;II)I" } : Jvm.MethodName) ({ cls := "TuneSchool$Desk", name := "dueBehind", desc := "(LTuneSchool$Standing;II)I" } : Jvm.MethodName)) ∈ gtb := gtb_of (mt4 (i := 60) rfl) rfl
theorem q4_61 : (Jvm.Cond.code ({ cls := "TuneSchool$Desk", name := "dueBehind", desc := "(LTuneSchool$Standing;II)I" } : Jvm.MethodName) prog_3_method_24_code (7 : Nat) (Option.some Jvm.ClassFile.FieldType.int)) ∈ gtb := gtb_of (mt4 (i := 61) rfl) rfl
theorem q4_62 : (Jvm.Cond.classLink "TuneSchool$Desk" (202 : Nat) "TuneSchool$Leap") ∈ gtb := gtb_of (mt4 (i := 62) rfl) rfl
theorem q4_63 : (Jvm.Cond.methodLink "TuneSchool$Desk" (204 : Nat) ({ cls := "TuneSchool$Leap", name := "wantsAnswer", desc := "(II)Z" } : Jvm.MethodName)) ∈ gtb := gtb_of (mt4 (i := 63) rfl) rfl
theorem q4_64 : (Jvm.Cond.methodLink "TuneSchool$Desk" (188 : Nat) ({ cls := "TuneSchool$Desk", name := "mayCome", desc := "(III)Z" } : Jvm.MethodName)) ∈ gtb := gtb_of (mt4 (i := 64) rfl) rfl
theorem q4_65 : (Jvm.Cond.instanceMethod ({ cls := "TuneSchool$Desk", name := "mayCome", desc := "(III)Z" } : Jvm.MethodName)) ∈ gtb := gtb_of (mt4 (i := 65) rfl) rfl
theorem q4_66 : (Jvm.Cond.selects "TuneSchool$Desk" ({ cls := "TuneSchool$Desk", name := "mayCome", desc := "(III)Z" } : Jvm.MethodName) ({ cls := "TuneSchool$Desk", name := "mayCome", desc := "(III)Z" } : Jvm.MethodName)) ∈ gtb := gtb_of (mt4 (i := 66) rfl) rfl
theorem q4_67 : (Jvm.Cond.code ({ cls := "TuneSchool$Desk", name := "mayCome", desc := "(III)Z" } : Jvm.MethodName) prog_3_method_23_code (5 : Nat) (Option.some Jvm.ClassFile.FieldType.boolean)) ∈ gtb := gtb_of (mt4 (i := 67) rfl) rfl
theorem q4_68 : (Jvm.Cond.methodLink "TuneSchool$Desk" (191 : Nat) ({ cls := "java/lang/Math", name := "min", desc := "(II)I" } : Jvm.MethodName)) ∈ gtb := gtb_of (mt4 (i := 68) rfl) rfl
theorem q4_69 : (Jvm.Cond.methodLink "TuneSchool$Desk" (141 : Nat) ({ cls := "TuneSchool$Desk", name := "closeFresh", desc := "(II)V" } : Jvm.MethodName)) ∈ gtb := gtb_of (mt4 (i := 69) rfl) rfl
theorem q4_70 : (Jvm.Cond.instanceMethod ({ cls := "TuneSchool$Desk", name := "closeFresh", desc := "(II)V" } : Jvm.MethodName)) ∈ gtb := gtb_of (mt4 (i := 70) rfl) rfl
theorem q4_71 : (Jvm.Cond.selects "TuneSchool$Desk" ({ cls := "TuneSchool$Desk", name := "closeFresh", desc := "(II)V" } : Jvm.MethodName) ({ cls := "TuneSchool$Desk", name := "closeFresh", desc := "(II)V" } : Jvm.MethodName)) ∈ gtb := gtb_of (mt4 (i := 71) rfl) rfl
theorem q4_72 : (Jvm.Cond.code ({ cls := "TuneSchool$Desk", name := "closeFresh", desc := "(II)V" } : Jvm.MethodName) prog_3_method_21_code (5 : Nat) (Option.none : Option Jvm.ClassFile.FieldType)) ∈ gtb := gtb_of (mt4 (i := 72) rfl) rfl
theorem q4_73 : (Jvm.Cond.methodLink "TuneSchool$Desk" (84 : Nat) ({ cls := "TuneSchool$Desk", name := "takeFresh", desc := "(I)V" } : Jvm.MethodName)) ∈ gtb := gtb_of (mt4 (i := 73) rfl) rfl
theorem q4_74 : (Jvm.Cond.instanceMethod ({ cls := "TuneSchool$Desk", name := "takeFresh", desc := "(I)V" } : Jvm.MethodName)) ∈ gtb := gtb_of (mt4 (i := 74) rfl) rfl
theorem q4_75 : (Jvm.Cond.selects "TuneSchool$Desk" ({ cls := "TuneSchool$Desk", name := "takeFresh", desc := "(I)V" } : Jvm.MethodName) ({ cls := "TuneSchool$Desk", name := "takeFresh", desc := "(I)V" } : Jvm.MethodName)) ∈ gtb := gtb_of (mt4 (i := 75) rfl) rfl
theorem q4_76 : (Jvm.Cond.code ({ cls := "TuneSchool$Desk", name := "takeFresh", desc := "(I)V" } : Jvm.MethodName) prog_3_method_15_code (4 : Nat) (Option.none : Option Jvm.ClassFile.FieldType)) ∈ gtb := gtb_of (mt4 (i := 76) rfl) rfl
theorem q4_77 : (Jvm.Cond.methodLink "TuneSchool$Desk" (110 : Nat) ({ cls := "java/lang/System", name := "arraycopy", desc := "(Ljava/lang/Object;ILjava/lang/Object;II)V" } : Jvm.MethodName)) ∈ gtb := gtb_of (mt4 (i := 77) rfl) rfl
theorem q4_78 : (Jvm.Cond.methodLink "TuneSchool" (252 : Nat) ({ cls := "TuneSchool", name := "advance", desc := "(I)I" } : Jvm.MethodName)) ∈ gtb := gtb_of (mt4 (i := 78) rfl) rfl
theorem q4_80 : (Jvm.Cond.instanceMethod ({ cls := "TuneSchool", name := "advance", desc := "(I)I" } : Jvm.MethodName)) ∈ gtb := gtb_of (mt4 (i := 80) rfl) rfl
theorem q4_81 : (Jvm.Cond.code ({ cls := "TuneSchool", name := "advance", desc := "(I)I" } : Jvm.MethodName) prog_1_method_64_code (4 : Nat) (Option.some Jvm.ClassFile.FieldType.int)) ∈ gtb := gtb_of (mt4 (i := 81) rfl) rfl
theorem q4_82 : (Jvm.Cond.methodLink "TuneSchool" (261 : Nat) ({ cls := "TuneSchool$Desk", name := "isWorked", desc := "()Z" } : Jvm.MethodName)) ∈ gtb := gtb_of (mt4 (i := 82) rfl) rfl
theorem q4_83 : (Jvm.Cond.instanceMethod ({ cls := "TuneSchool$Desk", name := "isWorked", desc := "()Z" } : Jvm.MethodName)) ∈ gtb := gtb_of (mt4 (i := 83) rfl) rfl
theorem q4_84 : (Jvm.Cond.selects "TuneSchool$Desk" ({ cls := "TuneSchool$Desk", name := "isWorked", desc := "()Z" } : Jvm.MethodName) ({ cls := "TuneSchool$Desk", name := "isWorked", desc := "()Z" } : Jvm.MethodName)) ∈ gtb := gtb_of (mt4 (i := 84) rfl) rfl
theorem q4_85 : (Jvm.Cond.code ({ cls := "TuneSchool$Desk", name := "isWorked", desc := "()Z" } : Jvm.MethodName) prog_3_method_5_code (1 : Nat) (Option.some Jvm.ClassFile.FieldType.boolean)) ∈ gtb := gtb_of (mt4 (i := 85) rfl) rfl
theorem q4_86 : (Jvm.Cond.methodLink "TuneSchool" (371 : Nat) ({ cls := "TuneSchool$Desk", name := "left", desc := "()I" } : Jvm.MethodName)) ∈ gtb := gtb_of (mt4 (i := 86) rfl) rfl
theorem q4_87 : (Jvm.Cond.instanceMethod ({ cls := "TuneSchool$Desk", name := "left", desc := "()I" } : Jvm.MethodName)) ∈ gtb := gtb_of (mt4 (i := 87) rfl) rfl
theorem q4_88 : (Jvm.Cond.selects "TuneSchool$Desk" ({ cls := "TuneSchool$Desk", name := "left", desc := "()I" } : Jvm.MethodName) ({ cls := "TuneSchool$Desk", name := "left", desc := "()I" } : Jvm.MethodName)) ∈ gtb := gtb_of (mt4 (i := 88) rfl) rfl
theorem q4_89 : (Jvm.Cond.code ({ cls := "TuneSchool$Desk", name := "left", desc := "()I" } : Jvm.MethodName) prog_3_method_4_code (1 : Nat) (Option.some Jvm.ClassFile.FieldType.int)) ∈ gtb := gtb_of (mt4 (i := 89) rfl) rfl
theorem q4_90 : (Jvm.Cond.methodLink "TuneSchool" (374 : Nat) ({ cls := "TuneSchool$Desk", name := "work", desc := "(ILTuneSchool$Standing;)V" } : Jvm.MethodName)) ∈ gtb := gtb_of (mt4 (i := 90) rfl) rfl
theorem q4_91 : (Jvm.Cond.methodLink "TuneSchool" (378 : Nat) ({ cls := "TuneSchool$Desk", name := "takeStep", desc := "()V" } : Jvm.MethodName)) ∈ gtb := gtb_of (mt4 (i := 91) rfl) rfl
theorem q4_92 : (Jvm.Cond.instanceMethod ({ cls := "TuneSchool$Desk", name := "takeStep", desc := "()V" } : Jvm.MethodName)) ∈ gtb := gtb_of (mt4 (i := 92) rfl) rfl
theorem q4_93 : (Jvm.Cond.selects "TuneSchool$Desk" ({ cls := "TuneSchool$Desk", name := "takeStep", desc := "()V" } : Jvm.MethodName) ({ cls := "TuneSchool$Desk", name := "takeStep", desc := "()V" } : Jvm.MethodName)) ∈ gtb := gtb_of (mt4 (i := 93) rfl) rfl
theorem q4_94 : (Jvm.Cond.code ({ cls := "TuneSchool$Desk", name := "takeStep", desc := "()V" } : Jvm.MethodName) prog_3_method_14_code (1 : Nat) (Option.none : Option Jvm.ClassFile.FieldType)) ∈ gtb := gtb_of (mt4 (i := 94) rfl) rfl
theorem q4_95 : (Jvm.Cond.methodLink "TuneSchool$Desk" (99 : Nat) ({ cls := "TuneSchool$Desk", name := "left", desc := "()I" } : Jvm.MethodName)) ∈ gtb := gtb_of (mt4 (i := 95) rfl) rfl
theorem q4_96 : (Jvm.Cond.methodLink "TuneSchool" (381 : Nat) ({ cls := "TuneSchool$Desk", name := "takeFresh", desc := "(I)V" } : Jvm.MethodName)) ∈ gtb := gtb_of (mt4 (i := 96) rfl) rfl
theorem q4_97 : (Jvm.Cond.methodLink "TuneSchool" (384 : Nat) ({ cls := "TuneSchool", name := "writeTune", desc := "()I" } : Jvm.MethodName)) ∈ gtb := gtb_of (mt4 (i := 97) rfl) rfl
theorem q4_99 : (Jvm.Cond.instanceMethod ({ cls := "TuneSchool", name := "writeTune", desc := "()I" } : Jvm.MethodName)) ∈ gtb := gtb_of (mt4 (i := 99) rfl) rfl
theorem q4_100 : (Jvm.Cond.code ({ cls := "TuneSchool", name := "writeTune", desc := "()I" } : Jvm.MethodName) prog_1_method_65_code (2 : Nat) (Option.some Jvm.ClassFile.FieldType.int)) ∈ gtb := gtb_of (mt4 (i := 100) rfl) rfl
theorem q4_101 : (Jvm.Cond.methodLink "TuneSchool" (264 : Nat) ({ cls := "TuneSchool$Desk", name := "hasTune", desc := "()Z" } : Jvm.MethodName)) ∈ gtb := gtb_of (mt4 (i := 101) rfl) rfl
theorem q4_102 : (Jvm.Cond.instanceMethod ({ cls := "TuneSchool$Desk", name := "hasTune", desc := "()Z" } : Jvm.MethodName)) ∈ gtb := gtb_of (mt4 (i := 102) rfl) rfl
theorem q4_103 : (Jvm.Cond.selects "TuneSchool$Desk" ({ cls := "TuneSchool$Desk", name := "hasTune", desc := "()Z" } : Jvm.MethodName) ({ cls := "TuneSchool$Desk", name := "hasTune", desc := "()Z" } : Jvm.MethodName)) ∈ gtb := gtb_of (mt4 (i := 103) rfl) rfl
theorem q4_104 : (Jvm.Cond.code ({ cls := "TuneSchool$Desk", name := "hasTune", desc := "()Z" } : Jvm.MethodName) prog_3_method_11_code (1 : Nat) (Option.some Jvm.ClassFile.FieldType.boolean)) ∈ gtb := gtb_of (mt4 (i := 104) rfl) rfl
theorem q4_105 : (Jvm.Cond.methodLink "TuneSchool$Desk" (106 : Nat) ({ cls := "TuneSchool$Desk", name := "tuneWeight", desc := "()I" } : Jvm.MethodName)) ∈ gtb := gtb_of (mt4 (i := 105) rfl) rfl
theorem q4_106 : (Jvm.Cond.instanceMethod ({ cls := "TuneSchool$Desk", name := "tuneWeight", desc := "()I" } : Jvm.MethodName)) ∈ gtb := gtb_of (mt4 (i := 106) rfl) rfl
theorem q4_107 : (Jvm.Cond.selects "TuneSchool$Desk" ({ cls := "TuneSchool$Desk", name := "tuneWeight", desc := "()I" } : Jvm.MethodName) ({ cls := "TuneSchool$Desk", name := "tuneWeight", desc := "()I" } : Jvm.MethodName)) ∈ gtb := gtb_of (mt4 (i := 107) rfl) rfl
theorem q4_108 : (Jvm.Cond.code ({ cls := "TuneSchool$Desk", name := "tuneWeight", desc := "()I" } : Jvm.MethodName) prog_3_method_10_code (1 : Nat) (Option.some Jvm.ClassFile.FieldType.int)) ∈ gtb := gtb_of (mt4 (i := 108) rfl) rfl
theorem q4_109 : (Jvm.Cond.methodLink "TuneSchool" (387 : Nat) ({ cls := "TuneSchool$Desk", name := "notes", desc := "()I" } : Jvm.MethodName)) ∈ gtb := gtb_of (mt4 (i := 109) rfl) rfl
theorem q4_110 : (Jvm.Cond.methodLink "TuneSchool" (390 : Nat) ({ cls := "TuneSchool$Desk", name := "write", desc := "(LTuneSchool$Voice;)V" } : Jvm.MethodName)) ∈ gtb := gtb_of (mt4 (i := 110) rfl) rfl
theorem q4_111 : (Jvm.Cond.instanceMethod ({ cls := "TuneSchool$Desk", name := "write", desc := "(LTuneSchool$Voice;)V" } : Jvm.MethodName)) ∈ gtb := gtb_of (mt4 (i := 111) rfl) rfl
theorem q4_112 : (Jvm.Cond.selects "TuneSchool$Desk" ({ cls := "TuneSchool$Desk", name := "write", desc := "(LTuneSchool$Voice;)V" } : Jvm.MethodName) ({ cls := "TuneSchool$Desk", name := "write", desc := "(LTuneSchool$Voice;)V" } : Jvm.MethodName)) ∈ gtb := gtb_of (mt4 (i := 112) rfl) rfl
theorem q4_113 : (Jvm.Cond.code ({ cls := "TuneSchool$Desk", name := "write", desc := "(LTuneSchool$Voice;)V" } : Jvm.MethodName) prog_3_method_26_code (5 : Nat) (Option.none : Option Jvm.ClassFile.FieldType)) ∈ gtb := gtb_of (mt4 (i := 113) rfl) rfl
theorem q4_115 : (Jvm.Cond.methodLink "TuneSchoolLaw" (133 : Nat) ({ cls := "TuneSchool", name := "goOn", desc := "(I)I" } : Jvm.MethodName)) ∈ gtb := gtb_of (mt4 (i := 115) rfl) rfl
theorem q4_116 : (Jvm.Cond.instanceMethod ({ cls := "TuneSchool", name := "goOn", desc := "(I)I" } : Jvm.MethodName)) ∈ gtb := gtb_of (mt4 (i := 116) rfl) rfl
theorem q4_117 : (Jvm.Cond.selects "TuneSchool" ({ cls := "TuneSchool", name := "goOn", desc := "(I)I" } : Jvm.MethodName) ({ cls := "TuneSchool", name := "goOn", desc := "(I)I" } : Jvm.MethodName)) ∈ gtb := gtb_of (mt4 (i := 117) rfl) rfl
theorem q4_118 : (Jvm.Cond.code ({ cls := "TuneSchool", name := "goOn", desc := "(I)I" } : Jvm.MethodName) prog_1_method_30_code (2 : Nat) (Option.some Jvm.ClassFile.FieldType.int)) ∈ gtb := gtb_of (mt4 (i := 118) rfl) rfl
theorem q4_119 : (Jvm.Cond.methodLink "TuneSchoolLaw" (137 : Nat) ({ cls := "TuneSchool", name := "least", desc := "()I" } : Jvm.MethodName)) ∈ gtb := gtb_of (mt4 (i := 119) rfl) rfl
theorem q4_120 : (Jvm.Cond.instanceMethod ({ cls := "TuneSchool", name := "least", desc := "()I" } : Jvm.MethodName)) ∈ gtb := gtb_of (mt4 (i := 120) rfl) rfl
theorem q4_121 : (Jvm.Cond.selects "TuneSchool" ({ cls := "TuneSchool", name := "least", desc := "()I" } : Jvm.MethodName) ({ cls := "TuneSchool", name := "least", desc := "()I" } : Jvm.MethodName)) ∈ gtb := gtb_of (mt4 (i := 121) rfl) rfl
theorem q4_122 : (Jvm.Cond.code ({ cls := "TuneSchool", name := "least", desc := "()I" } : Jvm.MethodName) prog_1_method_31_code (1 : Nat) (Option.some Jvm.ClassFile.FieldType.int)) ∈ gtb := gtb_of (mt4 (i := 122) rfl) rfl
theorem q4_123 : (Jvm.Cond.methodLink "TuneSchool" (267 : Nat) ({ cls := "TuneSchool$Desk", name := "tuneWeight", desc := "()I" } : Jvm.MethodName)) ∈ gtb := gtb_of (mt4 (i := 123) rfl) rfl
theorem q4_124 : (Jvm.Cond.methodLink "TuneSchoolLaw" (141 : Nat) ({ cls := "TuneSchool", name := "many", desc := "()I" } : Jvm.MethodName)) ∈ gtb := gtb_of (mt4 (i := 124) rfl) rfl
theorem q4_125 : (Jvm.Cond.instanceMethod ({ cls := "TuneSchool", name := "many", desc := "()I" } : Jvm.MethodName)) ∈ gtb := gtb_of (mt4 (i := 125) rfl) rfl
theorem q4_126 : (Jvm.Cond.selects "TuneSchool" ({ cls := "TuneSchool", name := "many", desc := "()I" } : Jvm.MethodName) ({ cls := "TuneSchool", name := "many", desc := "()I" } : Jvm.MethodName)) ∈ gtb := gtb_of (mt4 (i := 126) rfl) rfl
theorem q4_127 : (Jvm.Cond.code ({ cls := "TuneSchool", name := "many", desc := "()I" } : Jvm.MethodName) prog_1_method_32_code (1 : Nat) (Option.some Jvm.ClassFile.FieldType.int)) ∈ gtb := gtb_of (mt4 (i := 127) rfl) rfl
theorem q4_128 : (Jvm.Cond.methodLink "TuneSchool" (270 : Nat) ({ cls := "TuneSchool$Desk", name := "tunes", desc := "()I" } : Jvm.MethodName)) ∈ gtb := gtb_of (mt4 (i := 128) rfl) rfl
theorem q4_129 : (Jvm.Cond.instanceMethod ({ cls := "TuneSchool$Desk", name := "tunes", desc := "()I" } : Jvm.MethodName)) ∈ gtb := gtb_of (mt4 (i := 129) rfl) rfl
theorem q4_130 : (Jvm.Cond.selects "TuneSchool$Desk" ({ cls := "TuneSchool$Desk", name := "tunes", desc := "()I" } : Jvm.MethodName) ({ cls := "TuneSchool$Desk", name := "tunes", desc := "()I" } : Jvm.MethodName)) ∈ gtb := gtb_of (mt4 (i := 130) rfl) rfl
theorem q4_131 : (Jvm.Cond.code ({ cls := "TuneSchool$Desk", name := "tunes", desc := "()I" } : Jvm.MethodName) prog_3_method_12_code (1 : Nat) (Option.some Jvm.ClassFile.FieldType.int)) ∈ gtb := gtb_of (mt4 (i := 131) rfl) rfl
theorem q4_132 : (Jvm.Cond.methodLink "TuneSchoolLaw" (145 : Nat) ({ cls := "TuneSchool", name := "row", desc := "(III)I" } : Jvm.MethodName)) ∈ gtb := gtb_of (mt4 (i := 132) rfl) rfl
theorem q4_133 : (Jvm.Cond.instanceMethod ({ cls := "TuneSchool", name := "row", desc := "(III)I" } : Jvm.MethodName)) ∈ gtb := gtb_of (mt4 (i := 133) rfl) rfl
theorem q4_134 : (Jvm.Cond.selects "TuneSchool" ({ cls := "TuneSchool", name := "row", desc := "(III)I" } : Jvm.MethodName) ({ cls := "TuneSchool", name := "row", desc := "(III)I" } : Jvm.MethodName)) ∈ gtb := gtb_of (mt4 (i := 134) rfl) rfl
theorem q4_135 : (Jvm.Cond.code ({ cls := "TuneSchool", name := "row", desc := "(III)I" } : Jvm.MethodName) prog_1_method_33_code (4 : Nat) (Option.some Jvm.ClassFile.FieldType.int)) ∈ gtb := gtb_of (mt4 (i := 135) rfl) rfl
theorem q4_136 : (Jvm.Cond.methodLink "TuneSchool" (273 : Nat) ({ cls := "TuneSchool$Desk", name := "takes", desc := "(II)Z" } : Jvm.MethodName)) ∈ gtb := gtb_of (mt4 (i := 136) rfl) rfl
theorem q4_137 : (Jvm.Cond.instanceMethod ({ cls := "TuneSchool$Desk", name := "takes", desc := "(II)Z" } : Jvm.MethodName)) ∈ gtb := gtb_of (mt4 (i := 137) rfl) rfl
theorem q4_138 : (Jvm.Cond.selects "TuneSchool$Desk" ({ cls := "TuneSchool$Desk", name := "takes", desc := "(II)Z" } : Jvm.MethodName) ({ cls := "TuneSchool$Desk", name := "takes", desc := "(II)Z" } : Jvm.MethodName)) ∈ gtb := gtb_of (mt4 (i := 138) rfl) rfl
theorem q4_139 : (Jvm.Cond.code ({ cls := "TuneSchool$Desk", name := "takes", desc := "(II)Z" } : Jvm.MethodName) prog_3_method_7_code (3 : Nat) (Option.some Jvm.ClassFile.FieldType.boolean)) ∈ gtb := gtb_of (mt4 (i := 139) rfl) rfl
theorem q4_140 : (Jvm.Cond.methodLink "TuneSchool" (276 : Nat) ({ cls := "TuneSchool$Desk", name := "hasWorked", desc := "(I)Z" } : Jvm.MethodName)) ∈ gtb := gtb_of (mt4 (i := 140) rfl) rfl
theorem q4_141 : (Jvm.Cond.instanceMethod ({ cls := "TuneSchool$Desk", name := "hasWorked", desc := "(I)Z" } : Jvm.MethodName)) ∈ gtb := gtb_of (mt4 (i := 141) rfl) rfl
theorem q4_142 : (Jvm.Cond.selects "TuneSchool$Desk" ({ cls := "TuneSchool$Desk", name := "hasWorked", desc := "(I)Z" } : Jvm.MethodName) ({ cls := "TuneSchool$Desk", name := "hasWorked", desc := "(I)Z" } : Jvm.MethodName)) ∈ gtb := gtb_of (mt4 (i := 142) rfl) rfl
theorem q4_143 : (Jvm.Cond.code ({ cls := "TuneSchool$Desk", name := "hasWorked", desc := "(I)Z" } : Jvm.MethodName) prog_3_method_8_code (2 : Nat) (Option.some Jvm.ClassFile.FieldType.boolean)) ∈ gtb := gtb_of (mt4 (i := 143) rfl) rfl
theorem q4_144 : (Jvm.Cond.methodLink "TuneSchool" (282 : Nat) ({ cls := "TuneSchool$Desk", name := "cell", desc := "(III)I" } : Jvm.MethodName)) ∈ gtb := gtb_of (mt4 (i := 144) rfl) rfl
theorem q4_145 : (Jvm.Cond.methodLink "TuneSchoolLaw" (149 : Nat) ({ cls := "TuneSchool", name := "spoil", desc := "(IIII)I" } : Jvm.MethodName)) ∈ gtb := gtb_of (mt4 (i := 145) rfl) rfl
theorem q4_146 : (Jvm.Cond.instanceMethod ({ cls := "TuneSchool", name := "spoil", desc := "(IIII)I" } : Jvm.MethodName)) ∈ gtb := gtb_of (mt4 (i := 146) rfl) rfl
theorem q4_147 : (Jvm.Cond.selects "TuneSchool" ({ cls := "TuneSchool", name := "spoil", desc := "(IIII)I" } : Jvm.MethodName) ({ cls := "TuneSchool", name := "spoil", desc := "(IIII)I" } : Jvm.MethodName)) ∈ gtb := gtb_of (mt4 (i := 147) rfl) rfl
theorem q4_148 : (Jvm.Cond.code ({ cls := "TuneSchool", name := "spoil", desc := "(IIII)I" } : Jvm.MethodName) prog_1_method_34_code (7 : Nat) (Option.some Jvm.ClassFile.FieldType.int)) ∈ gtb := gtb_of (mt4 (i := 148) rfl) rfl
theorem q4_149 : (Jvm.Cond.constant "TuneSchool" (286 : Nat) (1000000000 : Int32)) ∈ gtb := gtb_of (mt4 (i := 149) rfl) rfl
theorem q4_150 : (Jvm.Cond.methodLink "TuneSchoolLaw" (153 : Nat) ({ cls := "TuneSchool", name := "check", desc := "()I" } : Jvm.MethodName)) ∈ gtb := gtb_of (mt4 (i := 150) rfl) rfl
theorem q4_151 : (Jvm.Cond.instanceMethod ({ cls := "TuneSchool", name := "check", desc := "()I" } : Jvm.MethodName)) ∈ gtb := gtb_of (mt4 (i := 151) rfl) rfl
theorem q4_152 : (Jvm.Cond.selects "TuneSchool" ({ cls := "TuneSchool", name := "check", desc := "()I" } : Jvm.MethodName) ({ cls := "TuneSchool", name := "check", desc := "()I" } : Jvm.MethodName)) ∈ gtb := gtb_of (mt4 (i := 152) rfl) rfl
theorem q4_153 : (Jvm.Cond.code ({ cls := "TuneSchool", name := "check", desc := "()I" } : Jvm.MethodName) prog_1_method_35_code (2 : Nat) (Option.some Jvm.ClassFile.FieldType.int)) ∈ gtb := gtb_of (mt4 (i := 153) rfl) rfl
theorem q4_154 : (Jvm.Cond.methodLink "TuneSchool" (287 : Nat) ({ cls := "TuneSchool$Desk", name := "isAsTold", desc := "(LTuneSchool$Standing;)Z" } : Jvm.MethodName)) ∈ gtb := gtb_of (mt4 (i := 154) rfl) rfl
theorem q4_155 : (Jvm.Cond.instanceMethod ({ cls := "TuneSchool$Desk", name := "isAsTold", desc := "(LTuneSchool$Standing;)Z" } : Jvm.MethodName)) ∈ gtb := gtb_of (mt4 (i := 155) rfl) rfl
theorem q4_156 : (Jvm.Cond.selects "TuneSchool$Desk" ({ cls := "TuneSchool$Desk", name := "isAsTold", desc := "(LTuneSchool$Standing;)Z" } : Jvm.MethodName) ({ cls := "TuneSchool$Desk", name := "isAsTold", desc := "(LTuneSchool$Standing;)Z" } : Jvm.MethodName)) ∈ gtb := gtb_of (mt4 (i := 156) rfl) rfl
theorem q4_157 : (Jvm.Cond.code ({ cls := "TuneSchool$Desk", name := "isAsTold", desc := "(LTuneSchool$Standing;)Z" } : Jvm.MethodName) prog_3_method_25_code (5 : Nat) (Option.some Jvm.ClassFile.FieldType.boolean)) ∈ gtb := gtb_of (mt4 (i := 157) rfl) rfl
theorem q4_158 : (Jvm.Cond.methodLink "TuneSchoolLaw" (157 : Nat) ({ cls := "TuneSchool", name := "print", desc := "(I)I" } : Jvm.MethodName)) ∈ gtb := gtb_of (mt4 (i := 158) rfl) rfl
theorem q4_159 : (Jvm.Cond.instanceMethod ({ cls := "TuneSchool", name := "print", desc := "(I)I" } : Jvm.MethodName)) ∈ gtb := gtb_of (mt4 (i := 159) rfl) rfl
theorem q4_160 : (Jvm.Cond.selects "TuneSchool" ({ cls := "TuneSchool", name := "print", desc := "(I)I" } : Jvm.MethodName) ({ cls := "TuneSchool", name := "print", desc := "(I)I" } : Jvm.MethodName)) ∈ gtb := gtb_of (mt4 (i := 160) rfl) rfl
theorem q4_161 : (Jvm.Cond.code ({ cls := "TuneSchool", name := "print", desc := "(I)I" } : Jvm.MethodName) prog_1_method_36_code (3 : Nat) (Option.some Jvm.ClassFile.FieldType.int)) ∈ gtb := gtb_of (mt4 (i := 161) rfl) rfl
theorem q4_162 : (Jvm.Cond.methodLink "TuneSchool" (290 : Nat) ({ cls := "TuneSchool$Line", name := "tell", desc := "(LTuneSchool$Voice;)V" } : Jvm.MethodName)) ∈ gtb := gtb_of (mt4 (i := 162) rfl) rfl
theorem q4_163 : (Jvm.Cond.instanceMethod ({ cls := "TuneSchool$Line", name := "tell", desc := "(LTuneSchool$Voice;)V" } : Jvm.MethodName)) ∈ gtb := gtb_of (mt4 (i := 163) rfl) rfl
theorem q4_164 : (Jvm.Cond.selects "TuneSchool$Line" ({ cls := "TuneSchool$Line", name := "tell", desc := "(LTuneSchool$Voice;)V" } : Jvm.MethodName) ({ cls := "TuneSchool$Line", name := "tell", desc := "(LTuneSchool$Voice;)V" } : Jvm.MethodName)) ∈ gtb := gtb_of (mt4 (i := 164) rfl) rfl
theorem q4_165 : (Jvm.Cond.code ({ cls := "TuneSchool$Line", name := "tell", desc := "(LTuneSchool$Voice;)V" } : Jvm.MethodName) prog_6_method_2_code (3 : Nat) (Option.none : Option Jvm.ClassFile.FieldType)) ∈ gtb := gtb_of (mt4 (i := 165) rfl) rfl
theorem q4_166 : (Jvm.Cond.methodLink "TuneSchool$Line" (24 : Nat) ({ cls := "TuneSchool$Line", name := "add", desc := "(I)V" } : Jvm.MethodName)) ∈ gtb := gtb_of (mt4 (i := 166) rfl) rfl
theorem q4_168 : (Jvm.Cond.instanceMethod ({ cls := "TuneSchool$Line", name := "add", desc := "(I)V" } : Jvm.MethodName)) ∈ gtb := gtb_of (mt4 (i := 168) rfl) rfl
theorem q4_169 : (Jvm.Cond.code ({ cls := "TuneSchool$Line", name := "add", desc := "(I)V" } : Jvm.MethodName) prog_6_method_4_code (2 : Nat) (Option.none : Option Jvm.ClassFile.FieldType)) ∈ gtb := gtb_of (mt4 (i := 169) rfl) rfl
theorem q4_170 : (Jvm.Cond.methodLink "TuneSchool$Line" (32 : Nat) ({ cls := "TuneSchool$Line", name := "addPitch", desc := "(I)V" } : Jvm.MethodName)) ∈ gtb := gtb_of (mt4 (i := 170) rfl) rfl
theorem q4_172 : (Jvm.Cond.instanceMethod ({ cls := "TuneSchool$Line", name := "addPitch", desc := "(I)V" } : Jvm.MethodName)) ∈ gtb := gtb_of (mt4 (i := 172) rfl) rfl
theorem q4_173 : (Jvm.Cond.code ({ cls := "TuneSchool$Line", name := "addPitch", desc := "(I)V" } : Jvm.MethodName) prog_6_method_3_code (2 : Nat) (Option.none : Option Jvm.ClassFile.FieldType)) ∈ gtb := gtb_of (mt4 (i := 173) rfl) rfl
theorem q4_174 : (Jvm.Cond.methodLink "TuneSchoolLaw" (161 : Nat) ({ cls := "TuneSchool", name := "read", desc := "(I)I" } : Jvm.MethodName)) ∈ gtb := gtb_of (mt4 (i := 174) rfl) rfl
theorem q4_175 : (Jvm.Cond.instanceMethod ({ cls := "TuneSchool", name := "read", desc := "(I)I" } : Jvm.MethodName)) ∈ gtb := gtb_of (mt4 (i := 175) rfl) rfl
theorem q4_176 : (Jvm.Cond.selects "TuneSchool" ({ cls := "TuneSchool", name := "read", desc := "(I)I" } : Jvm.MethodName) ({ cls := "TuneSchool", name := "read", desc := "(I)I" } : Jvm.MethodName)) ∈ gtb := gtb_of (mt4 (i := 176) rfl) rfl
theorem q4_177 : (Jvm.Cond.code ({ cls := "TuneSchool", name := "read", desc := "(I)I" } : Jvm.MethodName) prog_1_method_37_code (3 : Nat) (Option.some Jvm.ClassFile.FieldType.int)) ∈ gtb := gtb_of (mt4 (i := 177) rfl) rfl
theorem q4_178 : (Jvm.Cond.methodLink "TuneSchool" (296 : Nat) ({ cls := "TuneSchool$Line", name := "wrongPlace", desc := "(LTuneSchool$Voice;)I" } : Jvm.MethodName)) ∈ gtb := gtb_of (mt4 (i := 178) rfl) rfl
theorem q4_179 : (Jvm.Cond.instanceMethod ({ cls := "TuneSchool$Line", name := "wrongPlace", desc := "(LTuneSchool$Voice;)I" } : Jvm.MethodName)) ∈ gtb := gtb_of (mt4 (i := 179) rfl) rfl
theorem q4_180 : (Jvm.Cond.selects "TuneSchool$Line" ({ cls := "TuneSchool$Line", name := "wrongPlace", desc := "(LTuneSchool$Voice;)I" } : Jvm.MethodName) ({ cls := "TuneSchool$Line", name := "wrongPlace", desc := "(LTuneSchool$Voice;)I" } : Jvm.MethodName)) ∈ gtb := gtb_of (mt4 (i := 180) rfl) rfl
theorem q4_181 : (Jvm.Cond.code ({ cls := "TuneSchool$Line", name := "wrongPlace", desc := "(LTuneSchool$Voice;)I" } : Jvm.MethodName) prog_6_method_5_code (6 : Nat) (Option.some Jvm.ClassFile.FieldType.int)) ∈ gtb := gtb_of (mt4 (i := 181) rfl) rfl
theorem q4_182 : (Jvm.Cond.methodLink "TuneSchool$Line" (35 : Nat) ({ cls := "TuneSchool$Voice", name := "renew", desc := "(I)V" } : Jvm.MethodName)) ∈ gtb := gtb_of (mt4 (i := 182) rfl) rfl
theorem q4_183 : (Jvm.Cond.methodLink "TuneSchool$Line" (41 : Nat) ({ cls := "TuneSchool$Line", name := "takePitch", desc := "()I" } : Jvm.MethodName)) ∈ gtb := gtb_of (mt4 (i := 183) rfl) rfl
theorem q4_185 : (Jvm.Cond.instanceMethod ({ cls := "TuneSchool$Line", name := "takePitch", desc := "()I" } : Jvm.MethodName)) ∈ gtb := gtb_of (mt4 (i := 185) rfl) rfl
theorem q4_186 : (Jvm.Cond.code ({ cls := "TuneSchool$Line", name := "takePitch", desc := "()I" } : Jvm.MethodName) prog_6_method_7_code (3 : Nat) (Option.some Jvm.ClassFile.FieldType.int)) ∈ gtb := gtb_of (mt4 (i := 186) rfl) rfl
theorem q4_187 : (Jvm.Cond.methodLink "TuneSchool$Line" (45 : Nat) ({ cls := "TuneSchool$Line", name := "here", desc := "()I" } : Jvm.MethodName)) ∈ gtb := gtb_of (mt4 (i := 187) rfl) rfl
theorem q4_189 : (Jvm.Cond.instanceMethod ({ cls := "TuneSchool$Line", name := "here", desc := "()I" } : Jvm.MethodName)) ∈ gtb := gtb_of (mt4 (i := 189) rfl) rfl
theorem q4_190 : (Jvm.Cond.code ({ cls := "TuneSchool$Line", name := "here", desc := "()I" } : Jvm.MethodName) prog_6_method_6_code (1 : Nat) (Option.some Jvm.ClassFile.FieldType.int)) ∈ gtb := gtb_of (mt4 (i := 190) rfl) rfl
theorem q4_192 : (Jvm.Cond.methodLink "TuneSchool$Line" (52 : Nat) ({ cls := "java/lang/Math", name := "min", desc := "(II)I" } : Jvm.MethodName)) ∈ gtb := gtb_of (mt4 (i := 192) rfl) rfl
theorem q4_193 : (Jvm.Cond.methodLink "TuneSchoolLaw" (165 : Nat) ({ cls := "TuneSchool", name := "put", desc := "(II)I" } : Jvm.MethodName)) ∈ gtb := gtb_of (mt4 (i := 193) rfl) rfl
theorem q4_194 : (Jvm.Cond.instanceMethod ({ cls := "TuneSchool", name := "put", desc := "(II)I" } : Jvm.MethodName)) ∈ gtb := gtb_of (mt4 (i := 194) rfl) rfl
theorem q4_195 : (Jvm.Cond.selects "TuneSchool" ({ cls := "TuneSchool", name := "put", desc := "(II)I" } : Jvm.MethodName) ({ cls := "TuneSchool", name := "put", desc := "(II)I" } : Jvm.MethodName)) ∈ gtb := gtb_of (mt4 (i := 195) rfl) rfl
theorem q4_196 : (Jvm.Cond.code ({ cls := "TuneSchool", name := "put", desc := "(II)I" } : Jvm.MethodName) prog_1_method_38_code (3 : Nat) (Option.some Jvm.ClassFile.FieldType.int)) ∈ gtb := gtb_of (mt4 (i := 196) rfl) rfl
theorem q4_197 : (Jvm.Cond.methodLink "TuneSchoolLaw" (169 : Nat) ({ cls := "TuneSchool", name := "cutLine", desc := "(I)I" } : Jvm.MethodName)) ∈ gtb := gtb_of (mt4 (i := 197) rfl) rfl
theorem q4_198 : (Jvm.Cond.instanceMethod ({ cls := "TuneSchool", name := "cutLine", desc := "(I)I" } : Jvm.MethodName)) ∈ gtb := gtb_of (mt4 (i := 198) rfl) rfl
theorem q4_199 : (Jvm.Cond.selects "TuneSchool" ({ cls := "TuneSchool", name := "cutLine", desc := "(I)I" } : Jvm.MethodName) ({ cls := "TuneSchool", name := "cutLine", desc := "(I)I" } : Jvm.MethodName)) ∈ gtb := gtb_of (mt4 (i := 199) rfl) rfl
theorem q4_200 : (Jvm.Cond.code ({ cls := "TuneSchool", name := "cutLine", desc := "(I)I" } : Jvm.MethodName) prog_1_method_39_code (3 : Nat) (Option.some Jvm.ClassFile.FieldType.int)) ∈ gtb := gtb_of (mt4 (i := 200) rfl) rfl
theorem q4_201 : (Jvm.Cond.methodLink "TuneSchoolLaw" (173 : Nat) ({ cls := "TuneSchool", name := "character", desc := "(I)I" } : Jvm.MethodName)) ∈ gtb := gtb_of (mt4 (i := 201) rfl) rfl
theorem q4_202 : (Jvm.Cond.instanceMethod ({ cls := "TuneSchool", name := "character", desc := "(I)I" } : Jvm.MethodName)) ∈ gtb := gtb_of (mt4 (i := 202) rfl) rfl
theorem q4_203 : (Jvm.Cond.selects "TuneSchool" ({ cls := "TuneSchool", name := "character", desc := "(I)I" } : Jvm.MethodName) ({ cls := "TuneSchool", name := "character", desc := "(I)I" } : Jvm.MethodName)) ∈ gtb := gtb_of (mt4 (i := 203) rfl) rfl
theorem q4_204 : (Jvm.Cond.code ({ cls := "TuneSchool", name := "character", desc := "(I)I" } : Jvm.MethodName) prog_1_method_40_code (2 : Nat) (Option.some Jvm.ClassFile.FieldType.int)) ∈ gtb := gtb_of (mt4 (i := 204) rfl) rfl
theorem q4_205 : (Jvm.Cond.methodLink "TuneSchoolLaw" (177 : Nat) ({ cls := "TuneSchool", name := "status", desc := "()I" } : Jvm.MethodName)) ∈ gtb := gtb_of (mt4 (i := 205) rfl) rfl
theorem q4_206 : (Jvm.Cond.instanceMethod ({ cls := "TuneSchool", name := "status", desc := "()I" } : Jvm.MethodName)) ∈ gtb := gtb_of (mt4 (i := 206) rfl) rfl
theorem q4_207 : (Jvm.Cond.selects "TuneSchool" ({ cls := "TuneSchool", name := "status", desc := "()I" } : Jvm.MethodName) ({ cls := "TuneSchool", name := "status", desc := "()I" } : Jvm.MethodName)) ∈ gtb := gtb_of (mt4 (i := 207) rfl) rfl
theorem q4_208 : (Jvm.Cond.code ({ cls := "TuneSchool", name := "status", desc := "()I" } : Jvm.MethodName) prog_1_method_41_code (1 : Nat) (Option.some Jvm.ClassFile.FieldType.int)) ∈ gtb := gtb_of (mt4 (i := 208) rfl) rfl
theorem q4_209 : (Jvm.Cond.methodLink "TuneSchoolLaw" (181 : Nat) ({ cls := "TuneSchool", name := "trace", desc := "(I)I" } : Jvm.MethodName)) ∈ gtb := gtb_of (mt4 (i := 209) rfl) rfl
theorem q4_210 : (Jvm.Cond.instanceMethod ({ cls := "TuneSchool", name := "trace", desc := "(I)I" } : Jvm.MethodName)) ∈ gtb := gtb_of (mt4 (i := 210) rfl) rfl
theorem q4_211 : (Jvm.Cond.selects "TuneSchool" ({ cls := "TuneSchool", name := "trace", desc := "(I)I" } : Jvm.MethodName) ({ cls := "TuneSchool", name := "trace", desc := "(I)I" } : Jvm.MethodName)) ∈ gtb := gtb_of (mt4 (i := 211) rfl) rfl
theorem q4_212 : (Jvm.Cond.code ({ cls := "TuneSchool", name := "trace", desc := "(I)I" } : Jvm.MethodName) prog_1_method_42_code (2 : Nat) (Option.some Jvm.ClassFile.FieldType.int)) ∈ gtb := gtb_of (mt4 (i := 212) rfl) rfl
theorem q4_213 : (Jvm.Cond.methodLink "TuneSchool" (308 : Nat) ({ cls := "java/lang/Math", name := "min", desc := "(II)I" } : Jvm.MethodName)) ∈ gtb := gtb_of (mt4 (i := 213) rfl) rfl
theorem q4_214 : (Jvm.Cond.methodLink "TuneSchoolLaw" (185 : Nat) ({ cls := "TuneSchool", name := "count", desc := "(I)I" } : Jvm.MethodName)) ∈ gtb := gtb_of (mt4 (i := 214) rfl) rfl
theorem q4_215 : (Jvm.Cond.instanceMethod ({ cls := "TuneSchool", name := "count", desc := "(I)I" } : Jvm.MethodName)) ∈ gtb := gtb_of (mt4 (i := 215) rfl) rfl
theorem q4_216 : (Jvm.Cond.selects "TuneSchool" ({ cls := "TuneSchool", name := "count", desc := "(I)I" } : Jvm.MethodName) ({ cls := "TuneSchool", name := "count", desc := "(I)I" } : Jvm.MethodName)) ∈ gtb := gtb_of (mt4 (i := 216) rfl) rfl
theorem q4_217 : (Jvm.Cond.code ({ cls := "TuneSchool", name := "count", desc := "(I)I" } : Jvm.MethodName) prog_1_method_43_code (2 : Nat) (Option.some Jvm.ClassFile.FieldType.int)) ∈ gtb := gtb_of (mt4 (i := 217) rfl) rfl
theorem q4_218 : (Jvm.Cond.methodLink "TuneSchool" (317 : Nat) ({ cls := "TuneSchool", name := "voicesThere", desc := "()I" } : Jvm.MethodName)) ∈ gtb := gtb_of (mt4 (i := 218) rfl) rfl
theorem q4_220 : (Jvm.Cond.instanceMethod ({ cls := "TuneSchool", name := "voicesThere", desc := "()I" } : Jvm.MethodName)) ∈ gtb := gtb_of (mt4 (i := 220) rfl) rfl
theorem q4_221 : (Jvm.Cond.code ({ cls := "TuneSchool", name := "voicesThere", desc := "()I" } : Jvm.MethodName) prog_1_method_53_code (3 : Nat) (Option.some Jvm.ClassFile.FieldType.int)) ∈ gtb := gtb_of (mt4 (i := 221) rfl) rfl
theorem q4_222 : (Jvm.Cond.methodLink "TuneSchool" (320 : Nat) ({ cls := "TuneSchool", name := "placesTaken", desc := "()I" } : Jvm.MethodName)) ∈ gtb := gtb_of (mt4 (i := 222) rfl) rfl
theorem q4_224 : (Jvm.Cond.instanceMethod ({ cls := "TuneSchool", name := "placesTaken", desc := "()I" } : Jvm.MethodName)) ∈ gtb := gtb_of (mt4 (i := 224) rfl) rfl
theorem q4_225 : (Jvm.Cond.code ({ cls := "TuneSchool", name := "placesTaken", desc := "()I" } : Jvm.MethodName) prog_1_method_54_code (3 : Nat) (Option.some Jvm.ClassFile.FieldType.int)) ∈ gtb := gtb_of (mt4 (i := 225) rfl) rfl
theorem q4_226 : (Jvm.Cond.classLink "TuneSchoolLaw" (10 : Nat) "TuneSchoolModel") ∈ gtb := gtb_of (mt4 (i := 226) rfl) rfl
theorem q4_227 : (Jvm.Cond.instantiable "TuneSchoolModel" (71 : Nat)) ∈ gtb := gtb_of (mt4 (i := 227) rfl) rfl
theorem q4_228 : (Jvm.Cond.methodLink "TuneSchoolLaw" (12 : Nat) ({ cls := "TuneSchoolModel", name := "<init>", desc := "()V" } : Jvm.MethodName)) ∈ gtb := gtb_of (mt4 (i := 228) rfl) rfl
theorem q4_229 : (Jvm.Cond.instanceMethod ({ cls := "TuneSchoolModel", name := "<init>", desc := "()V" } : Jvm.MethodName)) ∈ gtb := gtb_of (mt4 (i := 229) rfl) rfl
theorem q4_230 : (Jvm.Cond.code ({ cls := "TuneSchoolModel", name := "<init>", desc := "()V" } : Jvm.MethodName) prog_14_method_1_code (1 : Nat) (Option.none : Option Jvm.ClassFile.FieldType)) ∈ gtb := gtb_of (mt4 (i := 230) rfl) rfl
theorem q4_231 : (Jvm.Cond.methodLink "TuneSchoolModel" (1 : Nat) ({ cls := "java/lang/Object", name := "<init>", desc := "()V" } : Jvm.MethodName)) ∈ gtb := gtb_of (mt4 (i := 231) rfl) rfl
theorem q4_232 : (Jvm.Cond.fieldLink "TuneSchoolModel" (126 : Nat) "TuneSchoolModel" "status" "I") ∈ gtb := gtb_of (mt4 (i := 232) rfl) rfl
theorem q4_233 : (Jvm.Cond.fieldLink "TuneSchoolModel" (133 : Nat) "TuneSchoolModel" "findings" "I") ∈ gtb := gtb_of (mt4 (i := 233) rfl) rfl
theorem q4_234 : (Jvm.Cond.fieldLink "TuneSchoolModel" (9 : Nat) "TuneSchoolModel" "isThere" "[Z") ∈ gtb := gtb_of (mt4 (i := 234) rfl) rfl
theorem q4_235 : (Jvm.Cond.fieldLink "TuneSchoolModel" (13 : Nat) "TuneSchoolModel" "sizes" "[I") ∈ gtb := gtb_of (mt4 (i := 235) rfl) rfl
theorem q4_236 : (Jvm.Cond.fieldLink "TuneSchoolModel" (17 : Nat) "TuneSchoolModel" "numbers" "[I") ∈ gtb := gtb_of (mt4 (i := 236) rfl) rfl
theorem q4_237 : (Jvm.Cond.fieldLink "TuneSchoolModel" (136 : Nat) "TuneSchoolModel" "isKept" "Z") ∈ gtb := gtb_of (mt4 (i := 237) rfl) rfl
theorem q4_238 : (Jvm.Cond.fieldLink "TuneSchoolModel" (140 : Nat) "TuneSchoolModel" "keptVoice" "I") ∈ gtb := gtb_of (mt4 (i := 238) rfl) rfl
theorem q4_239 : (Jvm.Cond.fieldLink "TuneSchoolModel" (143 : Nat) "TuneSchoolModel" "keptThere" "Z") ∈ gtb := gtb_of (mt4 (i := 239) rfl) rfl
theorem q5_0 : (Jvm.Cond.fieldLink "TuneSchoolModel" (20 : Nat) "TuneSchoolModel" "keptSizes" "[I") ∈ gtb := gtb_of (mt5 (i := 0) rfl) rfl
theorem q5_1 : (Jvm.Cond.fieldLink "TuneSchoolModel" (23 : Nat) "TuneSchoolModel" "keptNumbers" "[I") ∈ gtb := gtb_of (mt5 (i := 1) rfl) rfl
theorem q5_2 : (Jvm.Cond.fieldLink "TuneSchoolModel" (174 : Nat) "TuneSchoolModel" "copied" "I") ∈ gtb := gtb_of (mt5 (i := 2) rfl) rfl
theorem q5_3 : (Jvm.Cond.fieldLink "TuneSchoolModel" (26 : Nat) "TuneSchoolModel" "sound" "[I") ∈ gtb := gtb_of (mt5 (i := 3) rfl) rfl
theorem q5_4 : (Jvm.Cond.fieldLink "TuneSchoolModel" (29 : Nat) "TuneSchoolModel" "ends" "[I") ∈ gtb := gtb_of (mt5 (i := 4) rfl) rfl
theorem q5_5 : (Jvm.Cond.fieldLink "TuneSchoolModel" (184 : Nat) "TuneSchoolModel" "rules" "I") ∈ gtb := gtb_of (mt5 (i := 5) rfl) rfl
theorem q5_6 : (Jvm.Cond.fieldLink "TuneSchoolModel" (32 : Nat) "TuneSchoolModel" "kindOf" "[I") ∈ gtb := gtb_of (mt5 (i := 6) rfl) rfl
theorem q5_7 : (Jvm.Cond.fieldLink "TuneSchoolModel" (35 : Nat) "TuneSchoolModel" "rests" "[Z") ∈ gtb := gtb_of (mt5 (i := 7) rfl) rfl
theorem q5_8 : (Jvm.Cond.fieldLink "TuneSchoolModel" (38 : Nat) "TuneSchoolModel" "comes" "[Z") ∈ gtb := gtb_of (mt5 (i := 8) rfl) rfl
theorem q5_9 : (Jvm.Cond.fieldLink "TuneSchoolModel" (41 : Nat) "TuneSchoolModel" "answered" "[Z") ∈ gtb := gtb_of (mt5 (i := 9) rfl) rfl
theorem q5_10 : (Jvm.Cond.fieldLink "TuneSchoolModel" (187 : Nat) "TuneSchoolModel" "schools" "I") ∈ gtb := gtb_of (mt5 (i := 10) rfl) rfl
theorem q5_11 : (Jvm.Cond.fieldLink "TuneSchoolModel" (44 : Nat) "TuneSchoolModel" "typeOf" "[I") ∈ gtb := gtb_of (mt5 (i := 11) rfl) rfl
theorem q5_12 : (Jvm.Cond.fieldLink "TuneSchoolModel" (47 : Nat) "TuneSchoolModel" "seatsOf" "[I") ∈ gtb := gtb_of (mt5 (i := 12) rfl) rfl
theorem q5_13 : (Jvm.Cond.fieldLink "TuneSchoolModel" (50 : Nat) "TuneSchoolModel" "seats" "[I") ∈ gtb := gtb_of (mt5 (i := 13) rfl) rfl
theorem q5_14 : (Jvm.Cond.fieldLink "TuneSchoolModel" (53 : Nat) "TuneSchoolModel" "sort" "[I") ∈ gtb := gtb_of (mt5 (i := 14) rfl) rfl
theorem q5_15 : (Jvm.Cond.fieldLink "TuneSchoolModel" (56 : Nat) "TuneSchoolModel" "what" "[I") ∈ gtb := gtb_of (mt5 (i := 15) rfl) rfl
theorem q5_16 : (Jvm.Cond.fieldLink "TuneSchoolModel" (59 : Nat) "TuneSchoolModel" "strong" "I") ∈ gtb := gtb_of (mt5 (i := 16) rfl) rfl
theorem q5_17 : (Jvm.Cond.fieldLink "TuneSchoolModel" (63 : Nat) "TuneSchoolModel" "key" "I") ∈ gtb := gtb_of (mt5 (i := 17) rfl) rfl
theorem q5_18 : (Jvm.Cond.fieldLink "TuneSchoolModel" (66 : Nat) "TuneSchoolModel" "weights" "[I") ∈ gtb := gtb_of (mt5 (i := 18) rfl) rfl
theorem q5_19 : (Jvm.Cond.fieldLink "TuneSchoolModel" (201 : Nat) "TuneSchoolModel" "isTracing" "Z") ∈ gtb := gtb_of (mt5 (i := 19) rfl) rfl
theorem q5_20 : (Jvm.Cond.fieldLink "TuneSchoolModel" (198 : Nat) "TuneSchoolModel" "traced" "I") ∈ gtb := gtb_of (mt5 (i := 20) rfl) rfl
theorem q5_21 : (Jvm.Cond.fieldLink "TuneSchoolModel" (69 : Nat) "TuneSchoolModel" "traces" "[I") ∈ gtb := gtb_of (mt5 (i := 21) rfl) rfl
theorem q5_22 : (Jvm.Cond.fieldLink "TuneSchoolModel" (245 : Nat) "TuneSchoolModel" "faultCount" "I") ∈ gtb := gtb_of (mt5 (i := 22) rfl) rfl
theorem q5_23 : (Jvm.Cond.fieldLink "TuneSchoolModel" (248 : Nat) "TuneSchoolModel" "noted" "I") ∈ gtb := gtb_of (mt5 (i := 23) rfl) rfl
theorem q5_24 : (Jvm.Cond.fieldLink "TuneSchoolModel" (72 : Nat) "TuneSchoolModel" "faultSeat" "[I") ∈ gtb := gtb_of (mt5 (i := 24) rfl) rfl
theorem q5_25 : (Jvm.Cond.fieldLink "TuneSchoolModel" (75 : Nat) "TuneSchoolModel" "faultTick" "[I") ∈ gtb := gtb_of (mt5 (i := 25) rfl) rfl
theorem q5_26 : (Jvm.Cond.fieldLink "TuneSchoolModel" (78 : Nat) "TuneSchoolModel" "faultA" "[I") ∈ gtb := gtb_of (mt5 (i := 26) rfl) rfl
theorem q5_27 : (Jvm.Cond.fieldLink "TuneSchoolModel" (81 : Nat) "TuneSchoolModel" "faultB" "[I") ∈ gtb := gtb_of (mt5 (i := 27) rfl) rfl
theorem q5_28 : (Jvm.Cond.fieldLink "TuneSchoolModel" (84 : Nat) "TuneSchoolModel" "faultRule" "[I") ∈ gtb := gtb_of (mt5 (i := 28) rfl) rfl
theorem q5_29 : (Jvm.Cond.fieldLink "TuneSchoolModel" (87 : Nat) "TuneSchoolModel" "line" "[I") ∈ gtb := gtb_of (mt5 (i := 29) rfl) rfl
theorem q5_30 : (Jvm.Cond.fieldLink "TuneSchoolModel" (382 : Nat) "TuneSchoolModel" "lineSize" "I") ∈ gtb := gtb_of (mt5 (i := 30) rfl) rfl
theorem q5_31 : (Jvm.Cond.fieldLink "TuneSchoolModel" (90 : Nat) "TuneSchoolModel" "middle" "[I") ∈ gtb := gtb_of (mt5 (i := 31) rfl) rfl
theorem q5_32 : (Jvm.Cond.fieldLink "TuneSchoolModel" (204 : Nat) "TuneSchoolModel" "rowA" "I") ∈ gtb := gtb_of (mt5 (i := 32) rfl) rfl
theorem q5_33 : (Jvm.Cond.fieldLink "TuneSchoolModel" (207 : Nat) "TuneSchoolModel" "rowB" "I") ∈ gtb := gtb_of (mt5 (i := 33) rfl) rfl
theorem q5_34 : (Jvm.Cond.fieldLink "TuneSchoolModel" (210 : Nat) "TuneSchoolModel" "lastBoth" "I") ∈ gtb := gtb_of (mt5 (i := 34) rfl) rfl
theorem q5_35 : (Jvm.Cond.fieldLink "TuneSchoolModel" (93 : Nat) "TuneSchoolModel" "lasts" "[I") ∈ gtb := gtb_of (mt5 (i := 35) rfl) rfl
theorem q5_36 : (Jvm.Cond.fieldLink "TuneSchoolModel" (355 : Nat) "TuneSchoolModel" "isSet" "Z") ∈ gtb := gtb_of (mt5 (i := 36) rfl) rfl
theorem q5_37 : (Jvm.Cond.fieldLink "TuneSchoolModel" (358 : Nat) "TuneSchoolModel" "setVoice" "I") ∈ gtb := gtb_of (mt5 (i := 37) rfl) rfl
theorem q5_38 : (Jvm.Cond.fieldLink "TuneSchoolModel" (290 : Nat) "TuneSchoolModel" "setPlace" "I") ∈ gtb := gtb_of (mt5 (i := 38) rfl) rfl
theorem q5_39 : (Jvm.Cond.fieldLink "TuneSchoolModel" (287 : Nat) "TuneSchoolModel" "setAbove" "Z") ∈ gtb := gtb_of (mt5 (i := 39) rfl) rfl
theorem q5_40 : (Jvm.Cond.fieldLink "TuneSchoolModel" (278 : Nat) "TuneSchoolModel" "setLow" "I") ∈ gtb := gtb_of (mt5 (i := 40) rfl) rfl
theorem q5_41 : (Jvm.Cond.fieldLink "TuneSchoolModel" (299 : Nat) "TuneSchoolModel" "setHigh" "I") ∈ gtb := gtb_of (mt5 (i := 41) rfl) rfl
theorem q5_42 : (Jvm.Cond.fieldLink "TuneSchoolModel" (281 : Nat) "TuneSchoolModel" "notes" "I") ∈ gtb := gtb_of (mt5 (i := 42) rfl) rfl
theorem q5_43 : (Jvm.Cond.fieldLink "TuneSchoolModel" (96 : Nat) "TuneSchoolModel" "gPitch" "[I") ∈ gtb := gtb_of (mt5 (i := 43) rfl) rfl
theorem q5_44 : (Jvm.Cond.fieldLink "TuneSchoolModel" (99 : Nat) "TuneSchoolModel" "gLength" "[I") ∈ gtb := gtb_of (mt5 (i := 44) rfl) rfl
theorem q5_45 : (Jvm.Cond.fieldLink "TuneSchoolModel" (102 : Nat) "TuneSchoolModel" "gBegin" "[I") ∈ gtb := gtb_of (mt5 (i := 45) rfl) rfl
theorem q5_46 : (Jvm.Cond.fieldLink "TuneSchoolModel" (361 : Nat) "TuneSchoolModel" "stepsDone" "I") ∈ gtb := gtb_of (mt5 (i := 46) rfl) rfl
theorem q5_47 : (Jvm.Cond.fieldLink "TuneSchoolModel" (340 : Nat) "TuneSchoolModel" "isWorked" "Z") ∈ gtb := gtb_of (mt5 (i := 47) rfl) rfl
theorem q5_48 : (Jvm.Cond.fieldLink "TuneSchoolModel" (364 : Nat) "TuneSchoolModel" "isOver" "Z") ∈ gtb := gtb_of (mt5 (i := 48) rfl) rfl
theorem q5_49 : (Jvm.Cond.fieldLink "TuneSchoolModel" (352 : Nat) "TuneSchoolModel" "hasTune" "Z") ∈ gtb := gtb_of (mt5 (i := 49) rfl) rfl
theorem q5_50 : (Jvm.Cond.fieldLink "TuneSchoolModel" (346 : Nat) "TuneSchoolModel" "tuneWeight" "I") ∈ gtb := gtb_of (mt5 (i := 50) rfl) rfl
theorem q5_51 : (Jvm.Cond.fieldLink "TuneSchoolModel" (349 : Nat) "TuneSchoolModel" "tuneMany" "I") ∈ gtb := gtb_of (mt5 (i := 51) rfl) rfl
theorem q5_52 : (Jvm.Cond.fieldLink "TuneSchoolModel" (105 : Nat) "TuneSchoolModel" "leasts" "[I") ∈ gtb := gtb_of (mt5 (i := 52) rfl) rfl
theorem q5_53 : (Jvm.Cond.fieldLink "TuneSchoolModel" (108 : Nat) "TuneSchoolModel" "chosen" "[I") ∈ gtb := gtb_of (mt5 (i := 53) rfl) rfl
theorem q5_54 : (Jvm.Cond.fieldLink "TuneSchoolModel" (111 : Nat) "TuneSchoolModel" "manies" "[I") ∈ gtb := gtb_of (mt5 (i := 54) rfl) rfl
theorem q5_55 : (Jvm.Cond.fieldLink "TuneSchoolModel" (114 : Nat) "TuneSchoolModel" "fitting" "[Z") ∈ gtb := gtb_of (mt5 (i := 55) rfl) rfl
theorem q5_56 : (Jvm.Cond.fieldLink "TuneSchoolModel" (302 : Nat) "TuneSchoolModel" "best" "I") ∈ gtb := gtb_of (mt5 (i := 56) rfl) rfl
theorem q5_57 : (Jvm.Cond.fieldLink "TuneSchoolModel" (305 : Nat) "TuneSchoolModel" "choice" "I") ∈ gtb := gtb_of (mt5 (i := 57) rfl) rfl
theorem q5_58 : (Jvm.Cond.fieldLink "TuneSchoolModel" (308 : Nat) "TuneSchoolModel" "many" "I") ∈ gtb := gtb_of (mt5 (i := 58) rfl) rfl
theorem q5_59 : (Jvm.Cond.fieldLink "TuneSchoolModel" (117 : Nat) "TuneSchoolModel" "tune" "[I") ∈ gtb := gtb_of (mt5 (i := 59) rfl) rfl
theorem q5_60 : (Jvm.Cond.fieldLink "TuneSchoolModel" (120 : Nat) "TuneSchoolModel" "readPitch" "[I") ∈ gtb := gtb_of (mt5 (i := 60) rfl) rfl
theorem q5_61 : (Jvm.Cond.fieldLink "TuneSchoolModel" (123 : Nat) "TuneSchoolModel" "readLength" "[I") ∈ gtb := gtb_of (mt5 (i := 61) rfl) rfl
theorem q5_62 : (Jvm.Cond.fieldLink "TuneSchoolModel" (388 : Nat) "TuneSchoolModel" "readNotes" "I") ∈ gtb := gtb_of (mt5 (i := 62) rfl) rfl
theorem q5_63 : (Jvm.Cond.lays "TuneSchoolModel" "TuneSchoolModel" "status" "I") ∈ gtb := gtb_of (mt5 (i := 63) rfl) rfl
theorem q5_65 : (Jvm.Cond.lays "TuneSchoolModel" "TuneSchoolModel" "findings" "I") ∈ gtb := gtb_of (mt5 (i := 65) rfl) rfl
theorem q5_67 : (Jvm.Cond.laysFinal "TuneSchoolModel" "TuneSchoolModel" "isThere" "[Z") ∈ gtb := gtb_of (mt5 (i := 67) rfl) rfl
theorem q5_69 : (Jvm.Cond.laysFinal "TuneSchoolModel" "TuneSchoolModel" "sizes" "[I") ∈ gtb := gtb_of (mt5 (i := 69) rfl) rfl
theorem q5_71 : (Jvm.Cond.laysFinal "TuneSchoolModel" "TuneSchoolModel" "numbers" "[I") ∈ gtb := gtb_of (mt5 (i := 71) rfl) rfl
theorem q5_73 : (Jvm.Cond.lays "TuneSchoolModel" "TuneSchoolModel" "isKept" "Z") ∈ gtb := gtb_of (mt5 (i := 73) rfl) rfl
theorem q5_75 : (Jvm.Cond.lays "TuneSchoolModel" "TuneSchoolModel" "keptVoice" "I") ∈ gtb := gtb_of (mt5 (i := 75) rfl) rfl
theorem q5_77 : (Jvm.Cond.lays "TuneSchoolModel" "TuneSchoolModel" "keptThere" "Z") ∈ gtb := gtb_of (mt5 (i := 77) rfl) rfl
theorem q5_79 : (Jvm.Cond.laysFinal "TuneSchoolModel" "TuneSchoolModel" "keptSizes" "[I") ∈ gtb := gtb_of (mt5 (i := 79) rfl) rfl
theorem q5_81 : (Jvm.Cond.laysFinal "TuneSchoolModel" "TuneSchoolModel" "keptNumbers" "[I") ∈ gtb := gtb_of (mt5 (i := 81) rfl) rfl
theorem q5_83 : (Jvm.Cond.lays "TuneSchoolModel" "TuneSchoolModel" "copied" "I") ∈ gtb := gtb_of (mt5 (i := 83) rfl) rfl
theorem q5_85 : (Jvm.Cond.laysFinal "TuneSchoolModel" "TuneSchoolModel" "sound" "[I") ∈ gtb := gtb_of (mt5 (i := 85) rfl) rfl
theorem q5_87 : (Jvm.Cond.laysFinal "TuneSchoolModel" "TuneSchoolModel" "ends" "[I") ∈ gtb := gtb_of (mt5 (i := 87) rfl) rfl
theorem q5_89 : (Jvm.Cond.lays "TuneSchoolModel" "TuneSchoolModel" "rules" "I") ∈ gtb := gtb_of (mt5 (i := 89) rfl) rfl
theorem q5_91 : (Jvm.Cond.laysFinal "TuneSchoolModel" "TuneSchoolModel" "kindOf" "[I") ∈ gtb := gtb_of (mt5 (i := 91) rfl) rfl
theorem q5_93 : (Jvm.Cond.laysFinal "TuneSchoolModel" "TuneSchoolModel" "rests" "[Z") ∈ gtb := gtb_of (mt5 (i := 93) rfl) rfl
theorem q5_95 : (Jvm.Cond.laysFinal "TuneSchoolModel" "TuneSchoolModel" "comes" "[Z") ∈ gtb := gtb_of (mt5 (i := 95) rfl) rfl
theorem q5_97 : (Jvm.Cond.laysFinal "TuneSchoolModel" "TuneSchoolModel" "answered" "[Z") ∈ gtb := gtb_of (mt5 (i := 97) rfl) rfl
theorem q5_99 : (Jvm.Cond.lays "TuneSchoolModel" "TuneSchoolModel" "schools" "I") ∈ gtb := gtb_of (mt5 (i := 99) rfl) rfl
theorem q5_101 : (Jvm.Cond.laysFinal "TuneSchoolModel" "TuneSchoolModel" "typeOf" "[I") ∈ gtb := gtb_of (mt5 (i := 101) rfl) rfl
theorem q5_103 : (Jvm.Cond.laysFinal "TuneSchoolModel" "TuneSchoolModel" "seatsOf" "[I") ∈ gtb := gtb_of (mt5 (i := 103) rfl) rfl
theorem q5_105 : (Jvm.Cond.laysFinal "TuneSchoolModel" "TuneSchoolModel" "seats" "[I") ∈ gtb := gtb_of (mt5 (i := 105) rfl) rfl
theorem q5_107 : (Jvm.Cond.laysFinal "TuneSchoolModel" "TuneSchoolModel" "sort" "[I") ∈ gtb := gtb_of (mt5 (i := 107) rfl) rfl
theorem q5_109 : (Jvm.Cond.laysFinal "TuneSchoolModel" "TuneSchoolModel" "what" "[I") ∈ gtb := gtb_of (mt5 (i := 109) rfl) rfl
theorem q5_111 : (Jvm.Cond.lays "TuneSchoolModel" "TuneSchoolModel" "strong" "I") ∈ gtb := gtb_of (mt5 (i := 111) rfl) rfl
theorem q5_113 : (Jvm.Cond.lays "TuneSchoolModel" "TuneSchoolModel" "key" "I") ∈ gtb := gtb_of (mt5 (i := 113) rfl) rfl
theorem q5_115 : (Jvm.Cond.laysFinal "TuneSchoolModel" "TuneSchoolModel" "weights" "[I") ∈ gtb := gtb_of (mt5 (i := 115) rfl) rfl
theorem q5_117 : (Jvm.Cond.lays "TuneSchoolModel" "TuneSchoolModel" "isTracing" "Z") ∈ gtb := gtb_of (mt5 (i := 117) rfl) rfl
theorem q5_119 : (Jvm.Cond.lays "TuneSchoolModel" "TuneSchoolModel" "traced" "I") ∈ gtb := gtb_of (mt5 (i := 119) rfl) rfl
theorem q5_121 : (Jvm.Cond.laysFinal "TuneSchoolModel" "TuneSchoolModel" "traces" "[I") ∈ gtb := gtb_of (mt5 (i := 121) rfl) rfl
theorem q5_123 : (Jvm.Cond.lays "TuneSchoolModel" "TuneSchoolModel" "faultCount" "I") ∈ gtb := gtb_of (mt5 (i := 123) rfl) rfl
theorem q5_125 : (Jvm.Cond.lays "TuneSchoolModel" "TuneSchoolModel" "noted" "I") ∈ gtb := gtb_of (mt5 (i := 125) rfl) rfl
theorem q5_127 : (Jvm.Cond.laysFinal "TuneSchoolModel" "TuneSchoolModel" "faultSeat" "[I") ∈ gtb := gtb_of (mt5 (i := 127) rfl) rfl
theorem q5_129 : (Jvm.Cond.laysFinal "TuneSchoolModel" "TuneSchoolModel" "faultTick" "[I") ∈ gtb := gtb_of (mt5 (i := 129) rfl) rfl
theorem q5_131 : (Jvm.Cond.laysFinal "TuneSchoolModel" "TuneSchoolModel" "faultA" "[I") ∈ gtb := gtb_of (mt5 (i := 131) rfl) rfl
theorem q5_133 : (Jvm.Cond.laysFinal "TuneSchoolModel" "TuneSchoolModel" "faultB" "[I") ∈ gtb := gtb_of (mt5 (i := 133) rfl) rfl
theorem q5_135 : (Jvm.Cond.laysFinal "TuneSchoolModel" "TuneSchoolModel" "faultRule" "[I") ∈ gtb := gtb_of (mt5 (i := 135) rfl) rfl
theorem q5_137 : (Jvm.Cond.laysFinal "TuneSchoolModel" "TuneSchoolModel" "line" "[I") ∈ gtb := gtb_of (mt5 (i := 137) rfl) rfl
theorem q5_139 : (Jvm.Cond.lays "TuneSchoolModel" "TuneSchoolModel" "lineSize" "I") ∈ gtb := gtb_of (mt5 (i := 139) rfl) rfl
theorem q5_141 : (Jvm.Cond.laysFinal "TuneSchoolModel" "TuneSchoolModel" "middle" "[I") ∈ gtb := gtb_of (mt5 (i := 141) rfl) rfl
theorem q5_143 : (Jvm.Cond.lays "TuneSchoolModel" "TuneSchoolModel" "rowA" "I") ∈ gtb := gtb_of (mt5 (i := 143) rfl) rfl
theorem q5_145 : (Jvm.Cond.lays "TuneSchoolModel" "TuneSchoolModel" "rowB" "I") ∈ gtb := gtb_of (mt5 (i := 145) rfl) rfl
theorem q5_147 : (Jvm.Cond.lays "TuneSchoolModel" "TuneSchoolModel" "lastBoth" "I") ∈ gtb := gtb_of (mt5 (i := 147) rfl) rfl
theorem q5_149 : (Jvm.Cond.laysFinal "TuneSchoolModel" "TuneSchoolModel" "lasts" "[I") ∈ gtb := gtb_of (mt5 (i := 149) rfl) rfl
theorem q5_151 : (Jvm.Cond.lays "TuneSchoolModel" "TuneSchoolModel" "isSet" "Z") ∈ gtb := gtb_of (mt5 (i := 151) rfl) rfl
theorem q5_153 : (Jvm.Cond.lays "TuneSchoolModel" "TuneSchoolModel" "setVoice" "I") ∈ gtb := gtb_of (mt5 (i := 153) rfl) rfl
theorem q5_155 : (Jvm.Cond.lays "TuneSchoolModel" "TuneSchoolModel" "setPlace" "I") ∈ gtb := gtb_of (mt5 (i := 155) rfl) rfl
theorem q5_157 : (Jvm.Cond.lays "TuneSchoolModel" "TuneSchoolModel" "setAbove" "Z") ∈ gtb := gtb_of (mt5 (i := 157) rfl) rfl
theorem q5_159 : (Jvm.Cond.lays "TuneSchoolModel" "TuneSchoolModel" "setLow" "I") ∈ gtb := gtb_of (mt5 (i := 159) rfl) rfl
theorem q5_161 : (Jvm.Cond.lays "TuneSchoolModel" "TuneSchoolModel" "setHigh" "I") ∈ gtb := gtb_of (mt5 (i := 161) rfl) rfl
theorem q5_163 : (Jvm.Cond.lays "TuneSchoolModel" "TuneSchoolModel" "notes" "I") ∈ gtb := gtb_of (mt5 (i := 163) rfl) rfl
theorem q5_165 : (Jvm.Cond.laysFinal "TuneSchoolModel" "TuneSchoolModel" "gPitch" "[I") ∈ gtb := gtb_of (mt5 (i := 165) rfl) rfl
theorem q5_167 : (Jvm.Cond.laysFinal "TuneSchoolModel" "TuneSchoolModel" "gLength" "[I") ∈ gtb := gtb_of (mt5 (i := 167) rfl) rfl
theorem q5_169 : (Jvm.Cond.laysFinal "TuneSchoolModel" "TuneSchoolModel" "gBegin" "[I") ∈ gtb := gtb_of (mt5 (i := 169) rfl) rfl
theorem q5_171 : (Jvm.Cond.lays "TuneSchoolModel" "TuneSchoolModel" "stepsDone" "I") ∈ gtb := gtb_of (mt5 (i := 171) rfl) rfl
theorem q5_173 : (Jvm.Cond.lays "TuneSchoolModel" "TuneSchoolModel" "isWorked" "Z") ∈ gtb := gtb_of (mt5 (i := 173) rfl) rfl
theorem q5_175 : (Jvm.Cond.lays "TuneSchoolModel" "TuneSchoolModel" "isOver" "Z") ∈ gtb := gtb_of (mt5 (i := 175) rfl) rfl
theorem q5_177 : (Jvm.Cond.lays "TuneSchoolModel" "TuneSchoolModel" "hasTune" "Z") ∈ gtb := gtb_of (mt5 (i := 177) rfl) rfl
theorem q5_179 : (Jvm.Cond.lays "TuneSchoolModel" "TuneSchoolModel" "tuneWeight" "I") ∈ gtb := gtb_of (mt5 (i := 179) rfl) rfl
theorem q5_181 : (Jvm.Cond.lays "TuneSchoolModel" "TuneSchoolModel" "tuneMany" "I") ∈ gtb := gtb_of (mt5 (i := 181) rfl) rfl
theorem q5_183 : (Jvm.Cond.laysFinal "TuneSchoolModel" "TuneSchoolModel" "leasts" "[I") ∈ gtb := gtb_of (mt5 (i := 183) rfl) rfl
theorem q5_185 : (Jvm.Cond.laysFinal "TuneSchoolModel" "TuneSchoolModel" "chosen" "[I") ∈ gtb := gtb_of (mt5 (i := 185) rfl) rfl
theorem q5_187 : (Jvm.Cond.laysFinal "TuneSchoolModel" "TuneSchoolModel" "manies" "[I") ∈ gtb := gtb_of (mt5 (i := 187) rfl) rfl
theorem q5_189 : (Jvm.Cond.laysFinal "TuneSchoolModel" "TuneSchoolModel" "fitting" "[Z") ∈ gtb := gtb_of (mt5 (i := 189) rfl) rfl
theorem q5_191 : (Jvm.Cond.lays "TuneSchoolModel" "TuneSchoolModel" "best" "I") ∈ gtb := gtb_of (mt5 (i := 191) rfl) rfl
theorem q5_193 : (Jvm.Cond.lays "TuneSchoolModel" "TuneSchoolModel" "choice" "I") ∈ gtb := gtb_of (mt5 (i := 193) rfl) rfl
theorem q5_195 : (Jvm.Cond.lays "TuneSchoolModel" "TuneSchoolModel" "many" "I") ∈ gtb := gtb_of (mt5 (i := 195) rfl) rfl
theorem q5_197 : (Jvm.Cond.laysFinal "TuneSchoolModel" "TuneSchoolModel" "tune" "[I") ∈ gtb := gtb_of (mt5 (i := 197) rfl) rfl
theorem q5_199 : (Jvm.Cond.laysFinal "TuneSchoolModel" "TuneSchoolModel" "readPitch" "[I") ∈ gtb := gtb_of (mt5 (i := 199) rfl) rfl
theorem q5_201 : (Jvm.Cond.laysFinal "TuneSchoolModel" "TuneSchoolModel" "readLength" "[I") ∈ gtb := gtb_of (mt5 (i := 201) rfl) rfl
theorem q5_203 : (Jvm.Cond.lays "TuneSchoolModel" "TuneSchoolModel" "readNotes" "I") ∈ gtb := gtb_of (mt5 (i := 203) rfl) rfl
theorem q5_205 : (Jvm.Cond.superclass "TuneSchoolModel" "java/lang/Object") ∈ gtb := gtb_of (mt5 (i := 205) rfl) rfl
theorem q5_206 : (Jvm.Cond.arrayClass Jvm.ClassFile.FieldType.boolean) ∈ gtb := gtb_of (mt5 (i := 206) rfl) rfl
theorem q5_207 : (Jvm.Cond.methodLink "TuneSchoolLaw" (17 : Nat) ({ cls := "TuneSchoolModel", name := "voice", desc := "(II)I" } : Jvm.MethodName)) ∈ gtb := gtb_of (mt5 (i := 207) rfl) rfl
theorem q5_208 : (Jvm.Cond.instanceMethod ({ cls := "TuneSchoolModel", name := "voice", desc := "(II)I" } : Jvm.MethodName)) ∈ gtb := gtb_of (mt5 (i := 208) rfl) rfl
theorem q5_209 : (Jvm.Cond.selects "TuneSchoolModel" ({ cls := "TuneSchoolModel", name := "voice", desc := "(II)I" } : Jvm.MethodName) ({ cls := "TuneSchoolModel", name := "voice", desc := "(II)I" } : Jvm.MethodName)) ∈ gtb := gtb_of (mt5 (i := 209) rfl) rfl
theorem q5_210 : (Jvm.Cond.code ({ cls := "TuneSchoolModel", name := "voice", desc := "(II)I" } : Jvm.MethodName) prog_14_method_14_code (4 : Nat) (Option.some Jvm.ClassFile.FieldType.int)) ∈ gtb := gtb_of (mt5 (i := 210) rfl) rfl
theorem q5_211 : (Jvm.Cond.methodLink "TuneSchoolModel" (153 : Nat) ({ cls := "TuneSchoolModel", name := "isVoice", desc := "(I)Z" } : Jvm.MethodName)) ∈ gtb := gtb_of (mt5 (i := 211) rfl) rfl
theorem q5_212 : (Jvm.Cond.static ({ cls := "TuneSchoolModel", name := "isVoice", desc := "(I)Z" } : Jvm.MethodName)) ∈ gtb := gtb_of (mt5 (i := 212) rfl) rfl
theorem q5_213 : (Jvm.Cond.code ({ cls := "TuneSchoolModel", name := "isVoice", desc := "(I)Z" } : Jvm.MethodName) prog_14_method_4_code (1 : Nat) (Option.some Jvm.ClassFile.FieldType.boolean)) ∈ gtb := gtb_of (mt5 (i := 213) rfl) rfl
theorem q5_214 : (Jvm.Cond.methodLink "TuneSchoolModel" (129 : Nat) ({ cls := "TuneSchoolModel", name := "in", desc := "(III)Z" } : Jvm.MethodName)) ∈ gtb := gtb_of (mt5 (i := 214) rfl) rfl
theorem q5_215 : (Jvm.Cond.static ({ cls := "TuneSchoolModel", name := "in", desc := "(III)Z" } : Jvm.MethodName)) ∈ gtb := gtb_of (mt5 (i := 215) rfl) rfl
theorem q5_216 : (Jvm.Cond.code ({ cls := "TuneSchoolModel", name := "in", desc := "(III)Z" } : Jvm.MethodName) prog_14_method_3_code (3 : Nat) (Option.some Jvm.ClassFile.FieldType.boolean)) ∈ gtb := gtb_of (mt5 (i := 216) rfl) rfl
theorem q5_217 : (Jvm.Cond.methodLink "TuneSchoolModel" (157 : Nat) ({ cls := "TuneSchoolModel", name := "finds", desc := "(I)I" } : Jvm.MethodName)) ∈ gtb := gtb_of (mt5 (i := 217) rfl) rfl
theorem q5_219 : (Jvm.Cond.instanceMethod ({ cls := "TuneSchoolModel", name := "finds", desc := "(I)I" } : Jvm.MethodName)) ∈ gtb := gtb_of (mt5 (i := 219) rfl) rfl
theorem q5_220 : (Jvm.Cond.code ({ cls := "TuneSchoolModel", name := "finds", desc := "(I)I" } : Jvm.MethodName) prog_14_method_6_code (2 : Nat) (Option.some Jvm.ClassFile.FieldType.int)) ∈ gtb := gtb_of (mt5 (i := 220) rfl) rfl
theorem q5_221 : (Jvm.Cond.methodLink "TuneSchoolModel" (161 : Nat) ({ cls := "TuneSchoolModel", name := "keep", desc := "(I)V" } : Jvm.MethodName)) ∈ gtb := gtb_of (mt5 (i := 221) rfl) rfl
theorem q5_223 : (Jvm.Cond.instanceMethod ({ cls := "TuneSchoolModel", name := "keep", desc := "(I)V" } : Jvm.MethodName)) ∈ gtb := gtb_of (mt5 (i := 223) rfl) rfl
theorem q5_224 : (Jvm.Cond.code ({ cls := "TuneSchoolModel", name := "keep", desc := "(I)V" } : Jvm.MethodName) prog_14_method_8_code (4 : Nat) (Option.none : Option Jvm.ClassFile.FieldType)) ∈ gtb := gtb_of (mt5 (i := 224) rfl) rfl
theorem q5_225 : (Jvm.Cond.methodLink "TuneSchoolLaw" (22 : Nat) ({ cls := "TuneSchoolModel", name := "drop", desc := "(I)I" } : Jvm.MethodName)) ∈ gtb := gtb_of (mt5 (i := 225) rfl) rfl
theorem q5_226 : (Jvm.Cond.instanceMethod ({ cls := "TuneSchoolModel", name := "drop", desc := "(I)I" } : Jvm.MethodName)) ∈ gtb := gtb_of (mt5 (i := 226) rfl) rfl
theorem q5_227 : (Jvm.Cond.selects "TuneSchoolModel" ({ cls := "TuneSchoolModel", name := "drop", desc := "(I)I" } : Jvm.MethodName) ({ cls := "TuneSchoolModel", name := "drop", desc := "(I)I" } : Jvm.MethodName)) ∈ gtb := gtb_of (mt5 (i := 227) rfl) rfl
theorem q5_228 : (Jvm.Cond.code ({ cls := "TuneSchoolModel", name := "drop", desc := "(I)I" } : Jvm.MethodName) prog_14_method_15_code (3 : Nat) (Option.some Jvm.ClassFile.FieldType.int)) ∈ gtb := gtb_of (mt5 (i := 228) rfl) rfl
theorem q5_229 : (Jvm.Cond.methodLink "TuneSchoolLaw" (27 : Nat) ({ cls := "TuneSchoolModel", name := "note", desc := "(IIII)I" } : Jvm.MethodName)) ∈ gtb := gtb_of (mt5 (i := 229) rfl) rfl
theorem q5_230 : (Jvm.Cond.instanceMethod ({ cls := "TuneSchoolModel", name := "note", desc := "(IIII)I" } : Jvm.MethodName)) ∈ gtb := gtb_of (mt5 (i := 230) rfl) rfl
theorem q5_231 : (Jvm.Cond.selects "TuneSchoolModel" ({ cls := "TuneSchoolModel", name := "note", desc := "(IIII)I" } : Jvm.MethodName) ({ cls := "TuneSchoolModel", name := "note", desc := "(IIII)I" } : Jvm.MethodName)) ∈ gtb := gtb_of (mt5 (i := 231) rfl) rfl
theorem q5_232 : (Jvm.Cond.code ({ cls := "TuneSchoolModel", name := "note", desc := "(IIII)I" } : Jvm.MethodName) prog_14_method_16_code (5 : Nat) (Option.some Jvm.ClassFile.FieldType.int)) ∈ gtb := gtb_of (mt5 (i := 232) rfl) rfl
theorem q5_233 : (Jvm.Cond.methodLink "TuneSchoolLaw" (32 : Nat) ({ cls := "TuneSchoolModel", name := "cut", desc := "(III)I" } : Jvm.MethodName)) ∈ gtb := gtb_of (mt5 (i := 233) rfl) rfl
theorem q5_234 : (Jvm.Cond.instanceMethod ({ cls := "TuneSchoolModel", name := "cut", desc := "(III)I" } : Jvm.MethodName)) ∈ gtb := gtb_of (mt5 (i := 234) rfl) rfl
theorem q5_235 : (Jvm.Cond.selects "TuneSchoolModel" ({ cls := "TuneSchoolModel", name := "cut", desc := "(III)I" } : Jvm.MethodName) ({ cls := "TuneSchoolModel", name := "cut", desc := "(III)I" } : Jvm.MethodName)) ∈ gtb := gtb_of (mt5 (i := 235) rfl) rfl
theorem q5_236 : (Jvm.Cond.code ({ cls := "TuneSchoolModel", name := "cut", desc := "(III)I" } : Jvm.MethodName) prog_14_method_17_code (5 : Nat) (Option.some Jvm.ClassFile.FieldType.int)) ∈ gtb := gtb_of (mt5 (i := 236) rfl) rfl
theorem q5_237 : (Jvm.Cond.methodLink "TuneSchoolLaw" (36 : Nat) ({ cls := "TuneSchoolModel", name := "size", desc := "(II)I" } : Jvm.MethodName)) ∈ gtb := gtb_of (mt5 (i := 237) rfl) rfl
theorem q5_238 : (Jvm.Cond.instanceMethod ({ cls := "TuneSchoolModel", name := "size", desc := "(II)I" } : Jvm.MethodName)) ∈ gtb := gtb_of (mt5 (i := 238) rfl) rfl
theorem q5_239 : (Jvm.Cond.selects "TuneSchoolModel" ({ cls := "TuneSchoolModel", name := "size", desc := "(II)I" } : Jvm.MethodName) ({ cls := "TuneSchoolModel", name := "size", desc := "(II)I" } : Jvm.MethodName)) ∈ gtb := gtb_of (mt5 (i := 239) rfl) rfl
theorem q6_0 : (Jvm.Cond.code ({ cls := "TuneSchoolModel", name := "size", desc := "(II)I" } : Jvm.MethodName) prog_14_method_18_code (3 : Nat) (Option.some Jvm.ClassFile.FieldType.int)) ∈ gtb := gtb_of (mt6 (i := 0) rfl) rfl
theorem q6_1 : (Jvm.Cond.methodLink "TuneSchoolLaw" (40 : Nat) ({ cls := "TuneSchoolModel", name := "number", desc := "(III)I" } : Jvm.MethodName)) ∈ gtb := gtb_of (mt6 (i := 1) rfl) rfl
theorem q6_2 : (Jvm.Cond.instanceMethod ({ cls := "TuneSchoolModel", name := "number", desc := "(III)I" } : Jvm.MethodName)) ∈ gtb := gtb_of (mt6 (i := 2) rfl) rfl
theorem q6_3 : (Jvm.Cond.selects "TuneSchoolModel" ({ cls := "TuneSchoolModel", name := "number", desc := "(III)I" } : Jvm.MethodName) ({ cls := "TuneSchoolModel", name := "number", desc := "(III)I" } : Jvm.MethodName)) ∈ gtb := gtb_of (mt6 (i := 3) rfl) rfl
theorem q6_4 : (Jvm.Cond.code ({ cls := "TuneSchoolModel", name := "number", desc := "(III)I" } : Jvm.MethodName) prog_14_method_19_code (4 : Nat) (Option.some Jvm.ClassFile.FieldType.int)) ∈ gtb := gtb_of (mt6 (i := 4) rfl) rfl
theorem q6_5 : (Jvm.Cond.methodLink "TuneSchoolLaw" (44 : Nat) ({ cls := "TuneSchoolModel", name := "end", desc := "(I)I" } : Jvm.MethodName)) ∈ gtb := gtb_of (mt6 (i := 5) rfl) rfl
theorem q6_6 : (Jvm.Cond.instanceMethod ({ cls := "TuneSchoolModel", name := "end", desc := "(I)I" } : Jvm.MethodName)) ∈ gtb := gtb_of (mt6 (i := 6) rfl) rfl
theorem q6_7 : (Jvm.Cond.selects "TuneSchoolModel" ({ cls := "TuneSchoolModel", name := "end", desc := "(I)I" } : Jvm.MethodName) ({ cls := "TuneSchoolModel", name := "end", desc := "(I)I" } : Jvm.MethodName)) ∈ gtb := gtb_of (mt6 (i := 7) rfl) rfl
theorem q6_8 : (Jvm.Cond.code ({ cls := "TuneSchoolModel", name := "end", desc := "(I)I" } : Jvm.MethodName) prog_14_method_20_code (3 : Nat) (Option.some Jvm.ClassFile.FieldType.int)) ∈ gtb := gtb_of (mt6 (i := 8) rfl) rfl
theorem q6_9 : (Jvm.Cond.methodLink "TuneSchoolModel" (165 : Nat) ({ cls := "TuneSchoolModel", name := "against", desc := "(I)I" } : Jvm.MethodName)) ∈ gtb := gtb_of (mt6 (i := 9) rfl) rfl
theorem q6_11 : (Jvm.Cond.instanceMethod ({ cls := "TuneSchoolModel", name := "against", desc := "(I)I" } : Jvm.MethodName)) ∈ gtb := gtb_of (mt6 (i := 11) rfl) rfl
theorem q6_12 : (Jvm.Cond.code ({ cls := "TuneSchoolModel", name := "against", desc := "(I)I" } : Jvm.MethodName) prog_14_method_11_code (2 : Nat) (Option.some Jvm.ClassFile.FieldType.int)) ∈ gtb := gtb_of (mt6 (i := 12) rfl) rfl
theorem q6_13 : (Jvm.Cond.methodLink "TuneSchoolModel" (168 : Nat) ({ cls := "TuneSchoolModel", name := "lay", desc := "(I)V" } : Jvm.MethodName)) ∈ gtb := gtb_of (mt6 (i := 13) rfl) rfl
theorem q6_15 : (Jvm.Cond.instanceMethod ({ cls := "TuneSchoolModel", name := "lay", desc := "(I)V" } : Jvm.MethodName)) ∈ gtb := gtb_of (mt6 (i := 15) rfl) rfl
theorem q6_16 : (Jvm.Cond.code ({ cls := "TuneSchoolModel", name := "lay", desc := "(I)V" } : Jvm.MethodName) prog_14_method_12_code (5 : Nat) (Option.none : Option Jvm.ClassFile.FieldType)) ∈ gtb := gtb_of (mt6 (i := 16) rfl) rfl
theorem q6_17 : (Jvm.Cond.methodLink "TuneSchoolModel" (146 : Nat) ({ cls := "TuneSchoolModel", name := "lengthAt", desc := "(II)I" } : Jvm.MethodName)) ∈ gtb := gtb_of (mt6 (i := 17) rfl) rfl
theorem q6_19 : (Jvm.Cond.instanceMethod ({ cls := "TuneSchoolModel", name := "lengthAt", desc := "(II)I" } : Jvm.MethodName)) ∈ gtb := gtb_of (mt6 (i := 19) rfl) rfl
theorem q6_20 : (Jvm.Cond.code ({ cls := "TuneSchoolModel", name := "lengthAt", desc := "(II)I" } : Jvm.MethodName) prog_14_method_10_code (3 : Nat) (Option.some Jvm.ClassFile.FieldType.int)) ∈ gtb := gtb_of (mt6 (i := 20) rfl) rfl
theorem q6_21 : (Jvm.Cond.methodLink "TuneSchoolModel" (150 : Nat) ({ cls := "TuneSchoolModel", name := "pitchAt", desc := "(II)I" } : Jvm.MethodName)) ∈ gtb := gtb_of (mt6 (i := 21) rfl) rfl
theorem q6_23 : (Jvm.Cond.instanceMethod ({ cls := "TuneSchoolModel", name := "pitchAt", desc := "(II)I" } : Jvm.MethodName)) ∈ gtb := gtb_of (mt6 (i := 23) rfl) rfl
theorem q6_24 : (Jvm.Cond.code ({ cls := "TuneSchoolModel", name := "pitchAt", desc := "(II)I" } : Jvm.MethodName) prog_14_method_9_code (3 : Nat) (Option.some Jvm.ClassFile.FieldType.int)) ∈ gtb := gtb_of (mt6 (i := 24) rfl) rfl
theorem q6_25 : (Jvm.Cond.methodLink "TuneSchoolLaw" (48 : Nat) ({ cls := "TuneSchoolModel", name := "sounds", desc := "(II)I" } : Jvm.MethodName)) ∈ gtb := gtb_of (mt6 (i := 25) rfl) rfl
theorem q6_26 : (Jvm.Cond.instanceMethod ({ cls := "TuneSchoolModel", name := "sounds", desc := "(II)I" } : Jvm.MethodName)) ∈ gtb := gtb_of (mt6 (i := 26) rfl) rfl
theorem q6_27 : (Jvm.Cond.selects "TuneSchoolModel" ({ cls := "TuneSchoolModel", name := "sounds", desc := "(II)I" } : Jvm.MethodName) ({ cls := "TuneSchoolModel", name := "sounds", desc := "(II)I" } : Jvm.MethodName)) ∈ gtb := gtb_of (mt6 (i := 27) rfl) rfl
theorem q6_28 : (Jvm.Cond.code ({ cls := "TuneSchoolModel", name := "sounds", desc := "(II)I" } : Jvm.MethodName) prog_14_method_21_code (4 : Nat) (Option.some Jvm.ClassFile.FieldType.int)) ∈ gtb := gtb_of (mt6 (i := 28) rfl) rfl
theorem q6_29 : (Jvm.Cond.methodLink "TuneSchoolModel" (171 : Nat) ({ cls := "TuneSchoolModel", name := "soundAt", desc := "(II)I" } : Jvm.MethodName)) ∈ gtb := gtb_of (mt6 (i := 29) rfl) rfl
theorem q6_31 : (Jvm.Cond.instanceMethod ({ cls := "TuneSchoolModel", name := "soundAt", desc := "(II)I" } : Jvm.MethodName)) ∈ gtb := gtb_of (mt6 (i := 31) rfl) rfl
theorem q6_32 : (Jvm.Cond.code ({ cls := "TuneSchoolModel", name := "soundAt", desc := "(II)I" } : Jvm.MethodName) prog_14_method_13_code (3 : Nat) (Option.some Jvm.ClassFile.FieldType.int)) ∈ gtb := gtb_of (mt6 (i := 32) rfl) rfl
theorem q6_33 : (Jvm.Cond.methodLink "TuneSchoolLaw" (52 : Nat) ({ cls := "TuneSchoolModel", name := "transpose", desc := "(II)I" } : Jvm.MethodName)) ∈ gtb := gtb_of (mt6 (i := 33) rfl) rfl
theorem q6_34 : (Jvm.Cond.instanceMethod ({ cls := "TuneSchoolModel", name := "transpose", desc := "(II)I" } : Jvm.MethodName)) ∈ gtb := gtb_of (mt6 (i := 34) rfl) rfl
theorem q6_35 : (Jvm.Cond.selects "TuneSchoolModel" ({ cls := "TuneSchoolModel", name := "transpose", desc := "(II)I" } : Jvm.MethodName) ({ cls := "TuneSchoolModel", name := "transpose", desc := "(II)I" } : Jvm.MethodName)) ∈ gtb := gtb_of (mt6 (i := 35) rfl) rfl
theorem q6_36 : (Jvm.Cond.code ({ cls := "TuneSchoolModel", name := "transpose", desc := "(II)I" } : Jvm.MethodName) prog_14_method_22_code (7 : Nat) (Option.some Jvm.ClassFile.FieldType.int)) ∈ gtb := gtb_of (mt6 (i := 36) rfl) rfl
theorem q6_37 : (Jvm.Cond.methodLink "TuneSchoolLaw" (57 : Nat) ({ cls := "TuneSchoolModel", name := "copy", desc := "(IIIII)I" } : Jvm.MethodName)) ∈ gtb := gtb_of (mt6 (i := 37) rfl) rfl
theorem q6_38 : (Jvm.Cond.instanceMethod ({ cls := "TuneSchoolModel", name := "copy", desc := "(IIIII)I" } : Jvm.MethodName)) ∈ gtb := gtb_of (mt6 (i := 38) rfl) rfl
theorem q6_39 : (Jvm.Cond.selects "TuneSchoolModel" ({ cls := "TuneSchoolModel", name := "copy", desc := "(IIIII)I" } : Jvm.MethodName) ({ cls := "TuneSchoolModel", name := "copy", desc := "(IIIII)I" } : Jvm.MethodName)) ∈ gtb := gtb_of (mt6 (i := 39) rfl) rfl
theorem q6_40 : (Jvm.Cond.code ({ cls := "TuneSchoolModel", name := "copy", desc := "(IIIII)I" } : Jvm.MethodName) prog_14_method_24_code (6 : Nat) (Option.some Jvm.ClassFile.FieldType.int)) ∈ gtb := gtb_of (mt6 (i := 40) rfl) rfl
theorem q6_41 : (Jvm.Cond.methodLink "TuneSchoolModel" (177 : Nat) ({ cls := "TuneSchoolModel", name := "copyRow", desc := "(IIIIII)Z" } : Jvm.MethodName)) ∈ gtb := gtb_of (mt6 (i := 41) rfl) rfl
theorem q6_43 : (Jvm.Cond.instanceMethod ({ cls := "TuneSchoolModel", name := "copyRow", desc := "(IIIIII)Z" } : Jvm.MethodName)) ∈ gtb := gtb_of (mt6 (i := 43) rfl) rfl
theorem q6_44 : (Jvm.Cond.code ({ cls := "TuneSchoolModel", name := "copyRow", desc := "(IIIIII)Z" } : Jvm.MethodName) prog_14_method_23_code (10 : Nat) (Option.some Jvm.ClassFile.FieldType.boolean)) ∈ gtb := gtb_of (mt6 (i := 44) rfl) rfl
theorem q6_45 : (Jvm.Cond.methodLink "TuneSchoolLaw" (62 : Nat) ({ cls := "TuneSchoolModel", name := "undo", desc := "()I" } : Jvm.MethodName)) ∈ gtb := gtb_of (mt6 (i := 45) rfl) rfl
theorem q6_46 : (Jvm.Cond.instanceMethod ({ cls := "TuneSchoolModel", name := "undo", desc := "()I" } : Jvm.MethodName)) ∈ gtb := gtb_of (mt6 (i := 46) rfl) rfl
theorem q6_47 : (Jvm.Cond.selects "TuneSchoolModel" ({ cls := "TuneSchoolModel", name := "undo", desc := "()I" } : Jvm.MethodName) ({ cls := "TuneSchoolModel", name := "undo", desc := "()I" } : Jvm.MethodName)) ∈ gtb := gtb_of (mt6 (i := 47) rfl) rfl
theorem q6_48 : (Jvm.Cond.code ({ cls := "TuneSchoolModel", name := "undo", desc := "()I" } : Jvm.MethodName) prog_14_method_25_code (4 : Nat) (Option.some Jvm.ClassFile.FieldType.int)) ∈ gtb := gtb_of (mt6 (i := 48) rfl) rfl
theorem q6_49 : (Jvm.Cond.methodLink "TuneSchoolLaw" (66 : Nat) ({ cls := "TuneSchoolModel", name := "rule", desc := "(II)I" } : Jvm.MethodName)) ∈ gtb := gtb_of (mt6 (i := 49) rfl) rfl
theorem q6_50 : (Jvm.Cond.instanceMethod ({ cls := "TuneSchoolModel", name := "rule", desc := "(II)I" } : Jvm.MethodName)) ∈ gtb := gtb_of (mt6 (i := 50) rfl) rfl
theorem q6_51 : (Jvm.Cond.selects "TuneSchoolModel" ({ cls := "TuneSchoolModel", name := "rule", desc := "(II)I" } : Jvm.MethodName) ({ cls := "TuneSchoolModel", name := "rule", desc := "(II)I" } : Jvm.MethodName)) ∈ gtb := gtb_of (mt6 (i := 51) rfl) rfl
theorem q6_52 : (Jvm.Cond.code ({ cls := "TuneSchoolModel", name := "rule", desc := "(II)I" } : Jvm.MethodName) prog_14_method_26_code (3 : Nat) (Option.some Jvm.ClassFile.FieldType.int)) ∈ gtb := gtb_of (mt6 (i := 52) rfl) rfl
theorem q6_53 : (Jvm.Cond.methodLink "TuneSchoolModel" (181 : Nat) ({ cls := "TuneSchoolModel", name := "isPlace", desc := "(I)Z" } : Jvm.MethodName)) ∈ gtb := gtb_of (mt6 (i := 53) rfl) rfl
theorem q6_54 : (Jvm.Cond.static ({ cls := "TuneSchoolModel", name := "isPlace", desc := "(I)Z" } : Jvm.MethodName)) ∈ gtb := gtb_of (mt6 (i := 54) rfl) rfl
theorem q6_55 : (Jvm.Cond.code ({ cls := "TuneSchoolModel", name := "isPlace", desc := "(I)Z" } : Jvm.MethodName) prog_14_method_5_code (1 : Nat) (Option.some Jvm.ClassFile.FieldType.boolean)) ∈ gtb := gtb_of (mt6 (i := 55) rfl) rfl
theorem q6_56 : (Jvm.Cond.methodLink "TuneSchoolLaw" (70 : Nat) ({ cls := "TuneSchoolModel", name := "school", desc := "(III)I" } : Jvm.MethodName)) ∈ gtb := gtb_of (mt6 (i := 56) rfl) rfl
theorem q6_57 : (Jvm.Cond.instanceMethod ({ cls := "TuneSchoolModel", name := "school", desc := "(III)I" } : Jvm.MethodName)) ∈ gtb := gtb_of (mt6 (i := 57) rfl) rfl
theorem q6_58 : (Jvm.Cond.selects "TuneSchoolModel" ({ cls := "TuneSchoolModel", name := "school", desc := "(III)I" } : Jvm.MethodName) ({ cls := "TuneSchoolModel", name := "school", desc := "(III)I" } : Jvm.MethodName)) ∈ gtb := gtb_of (mt6 (i := 58) rfl) rfl
theorem q6_59 : (Jvm.Cond.code ({ cls := "TuneSchoolModel", name := "school", desc := "(III)I" } : Jvm.MethodName) prog_14_method_27_code (5 : Nat) (Option.some Jvm.ClassFile.FieldType.int)) ∈ gtb := gtb_of (mt6 (i := 59) rfl) rfl
theorem q6_60 : (Jvm.Cond.methodLink "TuneSchoolLaw" (74 : Nat) ({ cls := "TuneSchoolModel", name := "clear", desc := "(I)I" } : Jvm.MethodName)) ∈ gtb := gtb_of (mt6 (i := 60) rfl) rfl
theorem q6_61 : (Jvm.Cond.instanceMethod ({ cls := "TuneSchoolModel", name := "clear", desc := "(I)I" } : Jvm.MethodName)) ∈ gtb := gtb_of (mt6 (i := 61) rfl) rfl
theorem q6_62 : (Jvm.Cond.selects "TuneSchoolModel" ({ cls := "TuneSchoolModel", name := "clear", desc := "(I)I" } : Jvm.MethodName) ({ cls := "TuneSchoolModel", name := "clear", desc := "(I)I" } : Jvm.MethodName)) ∈ gtb := gtb_of (mt6 (i := 62) rfl) rfl
theorem q6_63 : (Jvm.Cond.code ({ cls := "TuneSchoolModel", name := "clear", desc := "(I)I" } : Jvm.MethodName) prog_14_method_28_code (3 : Nat) (Option.some Jvm.ClassFile.FieldType.int)) ∈ gtb := gtb_of (mt6 (i := 63) rfl) rfl
theorem q6_64 : (Jvm.Cond.methodLink "TuneSchoolLaw" (79 : Nat) ({ cls := "TuneSchoolModel", name := "truth", desc := "(IIIZ)I" } : Jvm.MethodName)) ∈ gtb := gtb_of (mt6 (i := 64) rfl) rfl
theorem q6_65 : (Jvm.Cond.instanceMethod ({ cls := "TuneSchoolModel", name := "truth", desc := "(IIIZ)I" } : Jvm.MethodName)) ∈ gtb := gtb_of (mt6 (i := 65) rfl) rfl
theorem q6_66 : (Jvm.Cond.selects "TuneSchoolModel" ({ cls := "TuneSchoolModel", name := "truth", desc := "(IIIZ)I" } : Jvm.MethodName) ({ cls := "TuneSchoolModel", name := "truth", desc := "(IIIZ)I" } : Jvm.MethodName)) ∈ gtb := gtb_of (mt6 (i := 66) rfl) rfl
theorem q6_67 : (Jvm.Cond.code ({ cls := "TuneSchoolModel", name := "truth", desc := "(IIIZ)I" } : Jvm.MethodName) prog_14_method_31_code (6 : Nat) (Option.some Jvm.ClassFile.FieldType.int)) ∈ gtb := gtb_of (mt6 (i := 67) rfl) rfl
theorem q6_68 : (Jvm.Cond.methodLink "TuneSchoolModel" (190 : Nat) ({ cls := "TuneSchoolModel", name := "isOf", desc := "(II)Z" } : Jvm.MethodName)) ∈ gtb := gtb_of (mt6 (i := 68) rfl) rfl
theorem q6_70 : (Jvm.Cond.instanceMethod ({ cls := "TuneSchoolModel", name := "isOf", desc := "(II)Z" } : Jvm.MethodName)) ∈ gtb := gtb_of (mt6 (i := 70) rfl) rfl
theorem q6_71 : (Jvm.Cond.code ({ cls := "TuneSchoolModel", name := "isOf", desc := "(II)Z" } : Jvm.MethodName) prog_14_method_29_code (4 : Nat) (Option.some Jvm.ClassFile.FieldType.boolean)) ∈ gtb := gtb_of (mt6 (i := 71) rfl) rfl
theorem q6_72 : (Jvm.Cond.methodLink "TuneSchoolModel" (194 : Nat) ({ cls := "TuneSchoolModel", name := "told", desc := "([ZIZ)I" } : Jvm.MethodName)) ∈ gtb := gtb_of (mt6 (i := 72) rfl) rfl
theorem q6_74 : (Jvm.Cond.instanceMethod ({ cls := "TuneSchoolModel", name := "told", desc := "([ZIZ)I" } : Jvm.MethodName)) ∈ gtb := gtb_of (mt6 (i := 74) rfl) rfl
theorem q6_75 : (Jvm.Cond.code ({ cls := "TuneSchoolModel", name := "told", desc := "([ZIZ)I" } : Jvm.MethodName) prog_14_method_30_code (5 : Nat) (Option.some Jvm.ClassFile.FieldType.int)) ∈ gtb := gtb_of (mt6 (i := 75) rfl) rfl
theorem q6_76 : (Jvm.Cond.methodLink "TuneSchoolLaw" (83 : Nat) ({ cls := "TuneSchoolModel", name := "is", desc := "(II)I" } : Jvm.MethodName)) ∈ gtb := gtb_of (mt6 (i := 76) rfl) rfl
theorem q6_77 : (Jvm.Cond.instanceMethod ({ cls := "TuneSchoolModel", name := "is", desc := "(II)I" } : Jvm.MethodName)) ∈ gtb := gtb_of (mt6 (i := 77) rfl) rfl
theorem q6_78 : (Jvm.Cond.selects "TuneSchoolModel" ({ cls := "TuneSchoolModel", name := "is", desc := "(II)I" } : Jvm.MethodName) ({ cls := "TuneSchoolModel", name := "is", desc := "(II)I" } : Jvm.MethodName)) ∈ gtb := gtb_of (mt6 (i := 78) rfl) rfl
theorem q6_79 : (Jvm.Cond.code ({ cls := "TuneSchoolModel", name := "is", desc := "(II)I" } : Jvm.MethodName) prog_14_method_32_code (4 : Nat) (Option.some Jvm.ClassFile.FieldType.int)) ∈ gtb := gtb_of (mt6 (i := 79) rfl) rfl
theorem q6_80 : (Jvm.Cond.methodLink "TuneSchoolLaw" (87 : Nat) ({ cls := "TuneSchoolModel", name := "seat", desc := "(III)I" } : Jvm.MethodName)) ∈ gtb := gtb_of (mt6 (i := 80) rfl) rfl
theorem q6_81 : (Jvm.Cond.instanceMethod ({ cls := "TuneSchoolModel", name := "seat", desc := "(III)I" } : Jvm.MethodName)) ∈ gtb := gtb_of (mt6 (i := 81) rfl) rfl
theorem q6_82 : (Jvm.Cond.selects "TuneSchoolModel" ({ cls := "TuneSchoolModel", name := "seat", desc := "(III)I" } : Jvm.MethodName) ({ cls := "TuneSchoolModel", name := "seat", desc := "(III)I" } : Jvm.MethodName)) ∈ gtb := gtb_of (mt6 (i := 82) rfl) rfl
theorem q6_83 : (Jvm.Cond.code ({ cls := "TuneSchoolModel", name := "seat", desc := "(III)I" } : Jvm.MethodName) prog_14_method_33_code (6 : Nat) (Option.some Jvm.ClassFile.FieldType.int)) ∈ gtb := gtb_of (mt6 (i := 83) rfl) rfl
theorem q6_84 : (Jvm.Cond.methodLink "TuneSchoolLaw" (91 : Nat) ({ cls := "TuneSchoolModel", name := "seated", desc := "(II)I" } : Jvm.MethodName)) ∈ gtb := gtb_of (mt6 (i := 84) rfl) rfl
theorem q6_85 : (Jvm.Cond.instanceMethod ({ cls := "TuneSchoolModel", name := "seated", desc := "(II)I" } : Jvm.MethodName)) ∈ gtb := gtb_of (mt6 (i := 85) rfl) rfl
theorem q6_86 : (Jvm.Cond.selects "TuneSchoolModel" ({ cls := "TuneSchoolModel", name := "seated", desc := "(II)I" } : Jvm.MethodName) ({ cls := "TuneSchoolModel", name := "seated", desc := "(II)I" } : Jvm.MethodName)) ∈ gtb := gtb_of (mt6 (i := 86) rfl) rfl
theorem q6_87 : (Jvm.Cond.code ({ cls := "TuneSchoolModel", name := "seated", desc := "(II)I" } : Jvm.MethodName) prog_14_method_34_code (4 : Nat) (Option.some Jvm.ClassFile.FieldType.int)) ∈ gtb := gtb_of (mt6 (i := 87) rfl) rfl
theorem q6_88 : (Jvm.Cond.methodLink "TuneSchoolLaw" (95 : Nat) ({ cls := "TuneSchoolModel", name := "strong", desc := "(I)I" } : Jvm.MethodName)) ∈ gtb := gtb_of (mt6 (i := 88) rfl) rfl
theorem q6_89 : (Jvm.Cond.instanceMethod ({ cls := "TuneSchoolModel", name := "strong", desc := "(I)I" } : Jvm.MethodName)) ∈ gtb := gtb_of (mt6 (i := 89) rfl) rfl
theorem q6_90 : (Jvm.Cond.selects "TuneSchoolModel" ({ cls := "TuneSchoolModel", name := "strong", desc := "(I)I" } : Jvm.MethodName) ({ cls := "TuneSchoolModel", name := "strong", desc := "(I)I" } : Jvm.MethodName)) ∈ gtb := gtb_of (mt6 (i := 90) rfl) rfl
theorem q6_91 : (Jvm.Cond.code ({ cls := "TuneSchoolModel", name := "strong", desc := "(I)I" } : Jvm.MethodName) prog_14_method_35_code (3 : Nat) (Option.some Jvm.ClassFile.FieldType.int)) ∈ gtb := gtb_of (mt6 (i := 91) rfl) rfl
theorem q6_92 : (Jvm.Cond.methodLink "TuneSchoolLaw" (99 : Nat) ({ cls := "TuneSchoolModel", name := "key", desc := "(I)I" } : Jvm.MethodName)) ∈ gtb := gtb_of (mt6 (i := 92) rfl) rfl
theorem q6_93 : (Jvm.Cond.instanceMethod ({ cls := "TuneSchoolModel", name := "key", desc := "(I)I" } : Jvm.MethodName)) ∈ gtb := gtb_of (mt6 (i := 93) rfl) rfl
theorem q6_94 : (Jvm.Cond.selects "TuneSchoolModel" ({ cls := "TuneSchoolModel", name := "key", desc := "(I)I" } : Jvm.MethodName) ({ cls := "TuneSchoolModel", name := "key", desc := "(I)I" } : Jvm.MethodName)) ∈ gtb := gtb_of (mt6 (i := 94) rfl) rfl
theorem q6_95 : (Jvm.Cond.code ({ cls := "TuneSchoolModel", name := "key", desc := "(I)I" } : Jvm.MethodName) prog_14_method_36_code (3 : Nat) (Option.some Jvm.ClassFile.FieldType.int)) ∈ gtb := gtb_of (mt6 (i := 95) rfl) rfl
theorem q6_96 : (Jvm.Cond.methodLink "TuneSchoolLaw" (103 : Nat) ({ cls := "TuneSchoolModel", name := "weight", desc := "(II)I" } : Jvm.MethodName)) ∈ gtb := gtb_of (mt6 (i := 96) rfl) rfl
theorem q6_97 : (Jvm.Cond.instanceMethod ({ cls := "TuneSchoolModel", name := "weight", desc := "(II)I" } : Jvm.MethodName)) ∈ gtb := gtb_of (mt6 (i := 97) rfl) rfl
theorem q6_98 : (Jvm.Cond.selects "TuneSchoolModel" ({ cls := "TuneSchoolModel", name := "weight", desc := "(II)I" } : Jvm.MethodName) ({ cls := "TuneSchoolModel", name := "weight", desc := "(II)I" } : Jvm.MethodName)) ∈ gtb := gtb_of (mt6 (i := 98) rfl) rfl
theorem q6_99 : (Jvm.Cond.code ({ cls := "TuneSchoolModel", name := "weight", desc := "(II)I" } : Jvm.MethodName) prog_14_method_37_code (4 : Nat) (Option.some Jvm.ClassFile.FieldType.int)) ∈ gtb := gtb_of (mt6 (i := 99) rfl) rfl
theorem q6_100 : (Jvm.Cond.methodLink "TuneSchoolLaw" (107 : Nat) ({ cls := "TuneSchoolModel", name := "faults", desc := "(I)I" } : Jvm.MethodName)) ∈ gtb := gtb_of (mt6 (i := 100) rfl) rfl
theorem q6_101 : (Jvm.Cond.instanceMethod ({ cls := "TuneSchoolModel", name := "faults", desc := "(I)I" } : Jvm.MethodName)) ∈ gtb := gtb_of (mt6 (i := 101) rfl) rfl
theorem q6_102 : (Jvm.Cond.selects "TuneSchoolModel" ({ cls := "TuneSchoolModel", name := "faults", desc := "(I)I" } : Jvm.MethodName) ({ cls := "TuneSchoolModel", name := "faults", desc := "(I)I" } : Jvm.MethodName)) ∈ gtb := gtb_of (mt6 (i := 102) rfl) rfl
theorem q6_103 : (Jvm.Cond.code ({ cls := "TuneSchoolModel", name := "faults", desc := "(I)I" } : Jvm.MethodName) prog_14_method_50_code (6 : Nat) (Option.some Jvm.ClassFile.FieldType.int)) ∈ gtb := gtb_of (mt6 (i := 103) rfl) rfl
theorem q6_104 : (Jvm.Cond.methodLink "TuneSchoolModel" (238 : Nat) ({ cls := "TuneSchoolModel", name := "beginTrace", desc := "()V" } : Jvm.MethodName)) ∈ gtb := gtb_of (mt6 (i := 104) rfl) rfl
theorem q6_106 : (Jvm.Cond.instanceMethod ({ cls := "TuneSchoolModel", name := "beginTrace", desc := "()V" } : Jvm.MethodName)) ∈ gtb := gtb_of (mt6 (i := 106) rfl) rfl
theorem q6_107 : (Jvm.Cond.code ({ cls := "TuneSchoolModel", name := "beginTrace", desc := "()V" } : Jvm.MethodName) prog_14_method_38_code (1 : Nat) (Option.none : Option Jvm.ClassFile.FieldType)) ∈ gtb := gtb_of (mt6 (i := 107) rfl) rfl
theorem q6_108 : (Jvm.Cond.methodLink "TuneSchoolModel" (241 : Nat) ({ cls := "TuneSchoolModel", name := "pair", desc := "(II)V" } : Jvm.MethodName)) ∈ gtb := gtb_of (mt6 (i := 108) rfl) rfl
theorem q6_110 : (Jvm.Cond.instanceMethod ({ cls := "TuneSchoolModel", name := "pair", desc := "(II)V" } : Jvm.MethodName)) ∈ gtb := gtb_of (mt6 (i := 110) rfl) rfl
theorem q6_111 : (Jvm.Cond.code ({ cls := "TuneSchoolModel", name := "pair", desc := "(II)V" } : Jvm.MethodName) prog_14_method_40_code (4 : Nat) (Option.none : Option Jvm.ClassFile.FieldType)) ∈ gtb := gtb_of (mt6 (i := 111) rfl) rfl
theorem q6_112 : (Jvm.Cond.methodLink "TuneSchoolModel" (251 : Nat) ({ cls := "TuneSchoolModel", name := "look", desc := "(IIII)V" } : Jvm.MethodName)) ∈ gtb := gtb_of (mt6 (i := 112) rfl) rfl
theorem q6_114 : (Jvm.Cond.instanceMethod ({ cls := "TuneSchoolModel", name := "look", desc := "(IIII)V" } : Jvm.MethodName)) ∈ gtb := gtb_of (mt6 (i := 114) rfl) rfl
theorem q6_115 : (Jvm.Cond.code ({ cls := "TuneSchoolModel", name := "look", desc := "(IIII)V" } : Jvm.MethodName) prog_14_method_51_code (7 : Nat) (Option.none : Option Jvm.ClassFile.FieldType)) ∈ gtb := gtb_of (mt6 (i := 115) rfl) rfl
theorem q6_116 : (Jvm.Cond.methodLink "TuneSchoolModel" (255 : Nat) ({ cls := "TuneSchoolModel", name := "askedAt", desc := "(I)I" } : Jvm.MethodName)) ∈ gtb := gtb_of (mt6 (i := 116) rfl) rfl
theorem q6_118 : (Jvm.Cond.instanceMethod ({ cls := "TuneSchoolModel", name := "askedAt", desc := "(I)I" } : Jvm.MethodName)) ∈ gtb := gtb_of (mt6 (i := 118) rfl) rfl
theorem q6_119 : (Jvm.Cond.code ({ cls := "TuneSchoolModel", name := "askedAt", desc := "(I)I" } : Jvm.MethodName) prog_14_method_47_code (2 : Nat) (Option.some Jvm.ClassFile.FieldType.int)) ∈ gtb := gtb_of (mt6 (i := 119) rfl) rfl
theorem q6_120 : (Jvm.Cond.methodLink "TuneSchoolModel" (258 : Nat) ({ cls := "TuneSchoolModel", name := "ruleAt", desc := "(II)I" } : Jvm.MethodName)) ∈ gtb := gtb_of (mt6 (i := 120) rfl) rfl
theorem q6_122 : (Jvm.Cond.instanceMethod ({ cls := "TuneSchoolModel", name := "ruleAt", desc := "(II)I" } : Jvm.MethodName)) ∈ gtb := gtb_of (mt6 (i := 122) rfl) rfl
theorem q6_123 : (Jvm.Cond.code ({ cls := "TuneSchoolModel", name := "ruleAt", desc := "(II)I" } : Jvm.MethodName) prog_14_method_48_code (3 : Nat) (Option.some Jvm.ClassFile.FieldType.int)) ∈ gtb := gtb_of (mt6 (i := 123) rfl) rfl
theorem q6_124 : (Jvm.Cond.methodLink "TuneSchoolModel" (261 : Nat) ({ cls := "TuneSchoolModel", name := "asks", desc := "(II)Z" } : Jvm.MethodName)) ∈ gtb := gtb_of (mt6 (i := 124) rfl) rfl
theorem q6_126 : (Jvm.Cond.instanceMethod ({ cls := "TuneSchoolModel", name := "asks", desc := "(II)Z" } : Jvm.MethodName)) ∈ gtb := gtb_of (mt6 (i := 126) rfl) rfl
theorem q6_127 : (Jvm.Cond.code ({ cls := "TuneSchoolModel", name := "asks", desc := "(II)Z" } : Jvm.MethodName) prog_14_method_49_code (3 : Nat) (Option.some Jvm.ClassFile.FieldType.boolean)) ∈ gtb := gtb_of (mt6 (i := 127) rfl) rfl
theorem q6_128 : (Jvm.Cond.methodLink "TuneSchoolModel" (232 : Nat) ({ cls := "TuneSchoolModel", name := "listens", desc := "(I)Z" } : Jvm.MethodName)) ∈ gtb := gtb_of (mt6 (i := 128) rfl) rfl
theorem q6_130 : (Jvm.Cond.instanceMethod ({ cls := "TuneSchoolModel", name := "listens", desc := "(I)Z" } : Jvm.MethodName)) ∈ gtb := gtb_of (mt6 (i := 130) rfl) rfl
theorem q6_131 : (Jvm.Cond.code ({ cls := "TuneSchoolModel", name := "listens", desc := "(I)Z" } : Jvm.MethodName) prog_14_method_46_code (3 : Nat) (Option.some Jvm.ClassFile.FieldType.boolean)) ∈ gtb := gtb_of (mt6 (i := 131) rfl) rfl
theorem q6_132 : (Jvm.Cond.methodLink "TuneSchoolModel" (213 : Nat) ({ cls := "TuneSchoolModel", name := "tell", desc := "(I)V" } : Jvm.MethodName)) ∈ gtb := gtb_of (mt6 (i := 132) rfl) rfl
theorem q6_134 : (Jvm.Cond.instanceMethod ({ cls := "TuneSchoolModel", name := "tell", desc := "(I)V" } : Jvm.MethodName)) ∈ gtb := gtb_of (mt6 (i := 134) rfl) rfl
theorem q6_135 : (Jvm.Cond.code ({ cls := "TuneSchoolModel", name := "tell", desc := "(I)V" } : Jvm.MethodName) prog_14_method_39_code (2 : Nat) (Option.none : Option Jvm.ClassFile.FieldType)) ∈ gtb := gtb_of (mt6 (i := 135) rfl) rfl
theorem q6_136 : (Jvm.Cond.methodLink "TuneSchoolModel" (235 : Nat) ({ cls := "TuneSchoolModel", name := "hasFault", desc := "(IIII)Z" } : Jvm.MethodName)) ∈ gtb := gtb_of (mt6 (i := 136) rfl) rfl
theorem q6_138 : (Jvm.Cond.instanceMethod ({ cls := "TuneSchoolModel", name := "hasFault", desc := "(IIII)Z" } : Jvm.MethodName)) ∈ gtb := gtb_of (mt6 (i := 138) rfl) rfl
theorem q6_139 : (Jvm.Cond.code ({ cls := "TuneSchoolModel", name := "hasFault", desc := "(IIII)Z" } : Jvm.MethodName) prog_14_method_45_code (5 : Nat) (Option.some Jvm.ClassFile.FieldType.boolean)) ∈ gtb := gtb_of (mt6 (i := 139) rfl) rfl
theorem q6_140 : (Jvm.Cond.methodLink "TuneSchoolModel" (219 : Nat) ({ cls := "TuneSchoolModel", name := "byInterval", desc := "(IIII)Z" } : Jvm.MethodName)) ∈ gtb := gtb_of (mt6 (i := 140) rfl) rfl
theorem q6_142 : (Jvm.Cond.instanceMethod ({ cls := "TuneSchoolModel", name := "byInterval", desc := "(IIII)Z" } : Jvm.MethodName)) ∈ gtb := gtb_of (mt6 (i := 142) rfl) rfl
theorem q6_143 : (Jvm.Cond.code ({ cls := "TuneSchoolModel", name := "byInterval", desc := "(IIII)Z" } : Jvm.MethodName) prog_14_method_41_code (5 : Nat) (Option.some Jvm.ClassFile.FieldType.boolean)) ∈ gtb := gtb_of (mt6 (i := 143) rfl) rfl
theorem q6_144 : (Jvm.Cond.methodLink "TuneSchoolModel" (216 : Nat) ({ cls := "TuneSchoolModel", name := "distance", desc := "(II)I" } : Jvm.MethodName)) ∈ gtb := gtb_of (mt6 (i := 144) rfl) rfl
theorem q6_145 : (Jvm.Cond.static ({ cls := "TuneSchoolModel", name := "distance", desc := "(II)I" } : Jvm.MethodName)) ∈ gtb := gtb_of (mt6 (i := 145) rfl) rfl
theorem q6_146 : (Jvm.Cond.code ({ cls := "TuneSchoolModel", name := "distance", desc := "(II)I" } : Jvm.MethodName) prog_14_method_7_code (2 : Nat) (Option.some Jvm.ClassFile.FieldType.int)) ∈ gtb := gtb_of (mt6 (i := 146) rfl) rfl
theorem q6_147 : (Jvm.Cond.methodLink "TuneSchoolModel" (223 : Nat) ({ cls := "TuneSchoolModel", name := "byMotion", desc := "(IIII)Z" } : Jvm.MethodName)) ∈ gtb := gtb_of (mt6 (i := 147) rfl) rfl
theorem q6_149 : (Jvm.Cond.instanceMethod ({ cls := "TuneSchoolModel", name := "byMotion", desc := "(IIII)Z" } : Jvm.MethodName)) ∈ gtb := gtb_of (mt6 (i := 149) rfl) rfl
theorem q6_150 : (Jvm.Cond.code ({ cls := "TuneSchoolModel", name := "byMotion", desc := "(IIII)Z" } : Jvm.MethodName) prog_14_method_42_code (10 : Nat) (Option.some Jvm.ClassFile.FieldType.boolean)) ∈ gtb := gtb_of (mt6 (i := 150) rfl) rfl
theorem q6_151 : (Jvm.Cond.methodLink "TuneSchoolModel" (226 : Nat) ({ cls := "TuneSchoolModel", name := "byLeap", desc := "(III)Z" } : Jvm.MethodName)) ∈ gtb := gtb_of (mt6 (i := 151) rfl) rfl
theorem q6_153 : (Jvm.Cond.instanceMethod ({ cls := "TuneSchoolModel", name := "byLeap", desc := "(III)Z" } : Jvm.MethodName)) ∈ gtb := gtb_of (mt6 (i := 153) rfl) rfl
theorem q6_154 : (Jvm.Cond.code ({ cls := "TuneSchoolModel", name := "byLeap", desc := "(III)Z" } : Jvm.MethodName) prog_14_method_44_code (9 : Nat) (Option.some Jvm.ClassFile.FieldType.boolean)) ∈ gtb := gtb_of (mt6 (i := 154) rfl) rfl
theorem q6_155 : (Jvm.Cond.methodLink "TuneSchoolModel" (229 : Nat) ({ cls := "TuneSchoolModel", name := "byCadence", desc := "(IIII)Z" } : Jvm.MethodName)) ∈ gtb := gtb_of (mt6 (i := 155) rfl) rfl
theorem q6_157 : (Jvm.Cond.instanceMethod ({ cls := "TuneSchoolModel", name := "byCadence", desc := "(IIII)Z" } : Jvm.MethodName)) ∈ gtb := gtb_of (mt6 (i := 157) rfl) rfl
theorem q6_158 : (Jvm.Cond.code ({ cls := "TuneSchoolModel", name := "byCadence", desc := "(IIII)Z" } : Jvm.MethodName) prog_14_method_43_code (5 : Nat) (Option.some Jvm.ClassFile.FieldType.boolean)) ∈ gtb := gtb_of (mt6 (i := 158) rfl) rfl
theorem q6_159 : (Jvm.Cond.methodLink "TuneSchoolLaw" (111 : Nat) ({ cls := "TuneSchoolModel", name := "fault", desc := "(II)I" } : Jvm.MethodName)) ∈ gtb := gtb_of (mt6 (i := 159) rfl) rfl
theorem q6_160 : (Jvm.Cond.instanceMethod ({ cls := "TuneSchoolModel", name := "fault", desc := "(II)I" } : Jvm.MethodName)) ∈ gtb := gtb_of (mt6 (i := 160) rfl) rfl
theorem q6_161 : (Jvm.Cond.selects "TuneSchoolModel" ({ cls := "TuneSchoolModel", name := "fault", desc := "(II)I" } : Jvm.MethodName) ({ cls := "TuneSchoolModel", name := "fault", desc := "(II)I" } : Jvm.MethodName)) ∈ gtb := gtb_of (mt6 (i := 161) rfl) rfl
theorem q6_162 : (Jvm.Cond.code ({ cls := "TuneSchoolModel", name := "fault", desc := "(II)I" } : Jvm.MethodName) prog_14_method_52_code (3 : Nat) (Option.some Jvm.ClassFile.FieldType.int)) ∈ gtb := gtb_of (mt6 (i := 162) rfl) rfl
theorem q6_163 : (Jvm.Cond.methodLink "TuneSchoolLaw" (115 : Nat) ({ cls := "TuneSchoolModel", name := "mend", desc := "(I)I" } : Jvm.MethodName)) ∈ gtb := gtb_of (mt6 (i := 163) rfl) rfl
theorem q6_164 : (Jvm.Cond.instanceMethod ({ cls := "TuneSchoolModel", name := "mend", desc := "(I)I" } : Jvm.MethodName)) ∈ gtb := gtb_of (mt6 (i := 164) rfl) rfl
theorem q6_165 : (Jvm.Cond.selects "TuneSchoolModel" ({ cls := "TuneSchoolModel", name := "mend", desc := "(I)I" } : Jvm.MethodName) ({ cls := "TuneSchoolModel", name := "mend", desc := "(I)I" } : Jvm.MethodName)) ∈ gtb := gtb_of (mt6 (i := 165) rfl) rfl
theorem q6_166 : (Jvm.Cond.code ({ cls := "TuneSchoolModel", name := "mend", desc := "(I)I" } : Jvm.MethodName) prog_14_method_54_code (8 : Nat) (Option.some Jvm.ClassFile.FieldType.int)) ∈ gtb := gtb_of (mt6 (i := 166) rfl) rfl
theorem q6_167 : (Jvm.Cond.methodLink "TuneSchoolModel" (264 : Nat) ({ cls := "TuneSchoolModel", name := "nearest", desc := "(IIII)I" } : Jvm.MethodName)) ∈ gtb := gtb_of (mt6 (i := 167) rfl) rfl
theorem q6_169 : (Jvm.Cond.instanceMethod ({ cls := "TuneSchoolModel", name := "nearest", desc := "(IIII)I" } : Jvm.MethodName)) ∈ gtb := gtb_of (mt6 (i := 169) rfl) rfl
theorem q6_170 : (Jvm.Cond.code ({ cls := "TuneSchoolModel", name := "nearest", desc := "(IIII)I" } : Jvm.MethodName) prog_14_method_53_code (6 : Nat) (Option.some Jvm.ClassFile.FieldType.int)) ∈ gtb := gtb_of (mt6 (i := 170) rfl) rfl
theorem q6_171 : (Jvm.Cond.methodLink "TuneSchoolLaw" (119 : Nat) ({ cls := "TuneSchoolModel", name := "canon", desc := "(IIIII)I" } : Jvm.MethodName)) ∈ gtb := gtb_of (mt6 (i := 171) rfl) rfl
theorem q6_172 : (Jvm.Cond.instanceMethod ({ cls := "TuneSchoolModel", name := "canon", desc := "(IIIII)I" } : Jvm.MethodName)) ∈ gtb := gtb_of (mt6 (i := 172) rfl) rfl
theorem q6_173 : (Jvm.Cond.selects "TuneSchoolModel" ({ cls := "TuneSchoolModel", name := "canon", desc := "(IIIII)I" } : Jvm.MethodName) ({ cls := "TuneSchoolModel", name := "canon", desc := "(IIIII)I" } : Jvm.MethodName)) ∈ gtb := gtb_of (mt6 (i := 173) rfl) rfl
theorem q6_174 : (Jvm.Cond.code ({ cls := "TuneSchoolModel", name := "canon", desc := "(IIIII)I" } : Jvm.MethodName) prog_14_method_58_code (7 : Nat) (Option.some Jvm.ClassFile.FieldType.int)) ∈ gtb := gtb_of (mt6 (i := 174) rfl) rfl
theorem q6_175 : (Jvm.Cond.methodLink "TuneSchoolModel" (272 : Nat) ({ cls := "TuneSchoolModel", name := "againstCanon", desc := "(II)I" } : Jvm.MethodName)) ∈ gtb := gtb_of (mt6 (i := 175) rfl) rfl
theorem q6_177 : (Jvm.Cond.instanceMethod ({ cls := "TuneSchoolModel", name := "againstCanon", desc := "(II)I" } : Jvm.MethodName)) ∈ gtb := gtb_of (mt6 (i := 177) rfl) rfl
theorem q6_178 : (Jvm.Cond.code ({ cls := "TuneSchoolModel", name := "againstCanon", desc := "(II)I" } : Jvm.MethodName) prog_14_method_57_code (4 : Nat) (Option.some Jvm.ClassFile.FieldType.int)) ∈ gtb := gtb_of (mt6 (i := 178) rfl) rfl
theorem q6_179 : (Jvm.Cond.methodLink "TuneSchoolModel" (275 : Nat) ({ cls := "TuneSchoolModel", name := "firstFault", desc := "(IIIII)I" } : Jvm.MethodName)) ∈ gtb := gtb_of (mt6 (i := 179) rfl) rfl
theorem q6_181 : (Jvm.Cond.instanceMethod ({ cls := "TuneSchoolModel", name := "firstFault", desc := "(IIIII)I" } : Jvm.MethodName)) ∈ gtb := gtb_of (mt6 (i := 181) rfl) rfl
theorem q6_182 : (Jvm.Cond.code ({ cls := "TuneSchoolModel", name := "firstFault", desc := "(IIIII)I" } : Jvm.MethodName) prog_14_method_56_code (8 : Nat) (Option.some Jvm.ClassFile.FieldType.int)) ∈ gtb := gtb_of (mt6 (i := 182) rfl) rfl
theorem q6_183 : (Jvm.Cond.methodLink "TuneSchoolModel" (268 : Nat) ({ cls := "TuneSchoolModel", name := "followed", desc := "(IIIII)I" } : Jvm.MethodName)) ∈ gtb := gtb_of (mt6 (i := 183) rfl) rfl
theorem q6_185 : (Jvm.Cond.instanceMethod ({ cls := "TuneSchoolModel", name := "followed", desc := "(IIIII)I" } : Jvm.MethodName)) ∈ gtb := gtb_of (mt6 (i := 185) rfl) rfl
theorem q6_186 : (Jvm.Cond.code ({ cls := "TuneSchoolModel", name := "followed", desc := "(IIIII)I" } : Jvm.MethodName) prog_14_method_55_code (11 : Nat) (Option.some Jvm.ClassFile.FieldType.int)) ∈ gtb := gtb_of (mt6 (i := 186) rfl) rfl
theorem q6_187 : (Jvm.Cond.methodLink "TuneSchoolLaw" (123 : Nat) ({ cls := "TuneSchoolModel", name := "canons", desc := "(IIII)I" } : Jvm.MethodName)) ∈ gtb := gtb_of (mt6 (i := 187) rfl) rfl
theorem q6_188 : (Jvm.Cond.instanceMethod ({ cls := "TuneSchoolModel", name := "canons", desc := "(IIII)I" } : Jvm.MethodName)) ∈ gtb := gtb_of (mt6 (i := 188) rfl) rfl
theorem q6_189 : (Jvm.Cond.selects "TuneSchoolModel" ({ cls := "TuneSchoolModel", name := "canons", desc := "(IIII)I" } : Jvm.MethodName) ({ cls := "TuneSchoolModel", name := "canons", desc := "(IIII)I" } : Jvm.MethodName)) ∈ gtb := gtb_of (mt6 (i := 189) rfl) rfl
theorem q6_190 : (Jvm.Cond.code ({ cls := "TuneSchoolModel", name := "canons", desc := "(IIII)I" } : Jvm.MethodName) prog_14_method_59_code (8 : Nat) (Option.some Jvm.ClassFile.FieldType.int)) ∈ gtb := gtb_of (mt6 (i := 190) rfl) rfl
theorem q6_191 : (Jvm.Cond.methodLink "TuneSchoolLaw" (127 : Nat) ({ cls := "TuneSchoolModel", name := "follows", desc := "(IIIII)I" } : Jvm.MethodName)) ∈ gtb := gtb_of (mt6 (i := 191) rfl) rfl
theorem q6_192 : (Jvm.Cond.instanceMethod ({ cls := "TuneSchoolModel", name := "follows", desc := "(IIIII)I" } : Jvm.MethodName)) ∈ gtb := gtb_of (mt6 (i := 192) rfl) rfl
theorem q6_193 : (Jvm.Cond.selects "TuneSchoolModel" ({ cls := "TuneSchoolModel", name := "follows", desc := "(IIIII)I" } : Jvm.MethodName) ({ cls := "TuneSchoolModel", name := "follows", desc := "(IIIII)I" } : Jvm.MethodName)) ∈ gtb := gtb_of (mt6 (i := 193) rfl) rfl
theorem q6_194 : (Jvm.Cond.code ({ cls := "TuneSchoolModel", name := "follows", desc := "(IIIII)I" } : Jvm.MethodName) prog_14_method_60_code (7 : Nat) (Option.some Jvm.ClassFile.FieldType.int)) ∈ gtb := gtb_of (mt6 (i := 194) rfl) rfl
theorem q6_195 : (Jvm.Cond.methodLink "TuneSchoolLaw" (132 : Nat) ({ cls := "TuneSchoolModel", name := "set", desc := "(IIIZIII)I" } : Jvm.MethodName)) ∈ gtb := gtb_of (mt6 (i := 195) rfl) rfl
theorem q6_196 : (Jvm.Cond.instanceMethod ({ cls := "TuneSchoolModel", name := "set", desc := "(IIIZIII)I" } : Jvm.MethodName)) ∈ gtb := gtb_of (mt6 (i := 196) rfl) rfl
theorem q6_197 : (Jvm.Cond.selects "TuneSchoolModel" ({ cls := "TuneSchoolModel", name := "set", desc := "(IIIZIII)I" } : Jvm.MethodName) ({ cls := "TuneSchoolModel", name := "set", desc := "(IIIZIII)I" } : Jvm.MethodName)) ∈ gtb := gtb_of (mt6 (i := 197) rfl) rfl
theorem q6_198 : (Jvm.Cond.code ({ cls := "TuneSchoolModel", name := "set", desc := "(IIIZIII)I" } : Jvm.MethodName) prog_14_method_75_code (11 : Nat) (Option.some Jvm.ClassFile.FieldType.int)) ∈ gtb := gtb_of (mt6 (i := 198) rfl) rfl
theorem q6_199 : (Jvm.Cond.methodLink "TuneSchoolModel" (367 : Nat) ({ cls := "TuneSchoolModel", name := "goesOn", desc := "(I)I" } : Jvm.MethodName)) ∈ gtb := gtb_of (mt6 (i := 199) rfl) rfl
theorem q6_201 : (Jvm.Cond.instanceMethod ({ cls := "TuneSchoolModel", name := "goesOn", desc := "(I)I" } : Jvm.MethodName)) ∈ gtb := gtb_of (mt6 (i := 201) rfl) rfl
theorem q6_202 : (Jvm.Cond.code ({ cls := "TuneSchoolModel", name := "goesOn", desc := "(I)I" } : Jvm.MethodName) prog_14_method_77_code (4 : Nat) (Option.some Jvm.ClassFile.FieldType.int)) ∈ gtb := gtb_of (mt6 (i := 202) rfl) rfl
theorem q6_203 : (Jvm.Cond.methodLink "TuneSchoolModel" (370 : Nat) ({ cls := "TuneSchoolModel", name := "laySetting", desc := "()V" } : Jvm.MethodName)) ∈ gtb := gtb_of (mt6 (i := 203) rfl) rfl
theorem q6_205 : (Jvm.Cond.instanceMethod ({ cls := "TuneSchoolModel", name := "laySetting", desc := "()V" } : Jvm.MethodName)) ∈ gtb := gtb_of (mt6 (i := 205) rfl) rfl
theorem q6_206 : (Jvm.Cond.code ({ cls := "TuneSchoolModel", name := "laySetting", desc := "()V" } : Jvm.MethodName) prog_14_method_65_code (4 : Nat) (Option.none : Option Jvm.ClassFile.FieldType)) ∈ gtb := gtb_of (mt6 (i := 206) rfl) rfl
theorem q6_207 : (Jvm.Cond.methodLink "TuneSchoolModel" (373 : Nat) ({ cls := "TuneSchoolModel", name := "work", desc := "(I)V" } : Jvm.MethodName)) ∈ gtb := gtb_of (mt6 (i := 207) rfl) rfl
theorem q6_209 : (Jvm.Cond.instanceMethod ({ cls := "TuneSchoolModel", name := "work", desc := "(I)V" } : Jvm.MethodName)) ∈ gtb := gtb_of (mt6 (i := 209) rfl) rfl
theorem q6_210 : (Jvm.Cond.code ({ cls := "TuneSchoolModel", name := "work", desc := "(I)V" } : Jvm.MethodName) prog_14_method_72_code (4 : Nat) (Option.none : Option Jvm.ClassFile.FieldType)) ∈ gtb := gtb_of (mt6 (i := 210) rfl) rfl
theorem q6_211 : (Jvm.Cond.methodLink "TuneSchoolModel" (284 : Nat) ({ cls := "TuneSchoolModel", name := "isHeard", desc := "(I)Z" } : Jvm.MethodName)) ∈ gtb := gtb_of (mt6 (i := 211) rfl) rfl
theorem q6_213 : (Jvm.Cond.instanceMethod ({ cls := "TuneSchoolModel", name := "isHeard", desc := "(I)Z" } : Jvm.MethodName)) ∈ gtb := gtb_of (mt6 (i := 213) rfl) rfl
theorem q6_214 : (Jvm.Cond.code ({ cls := "TuneSchoolModel", name := "isHeard", desc := "(I)Z" } : Jvm.MethodName) prog_14_method_62_code (2 : Nat) (Option.some Jvm.ClassFile.FieldType.boolean)) ∈ gtb := gtb_of (mt6 (i := 214) rfl) rfl
theorem q6_215 : (Jvm.Cond.methodLink "TuneSchoolModel" (333 : Nat) ({ cls := "TuneSchoolModel", name := "fit", desc := "(I)V" } : Jvm.MethodName)) ∈ gtb := gtb_of (mt6 (i := 215) rfl) rfl
theorem q6_217 : (Jvm.Cond.instanceMethod ({ cls := "TuneSchoolModel", name := "fit", desc := "(I)V" } : Jvm.MethodName)) ∈ gtb := gtb_of (mt6 (i := 217) rfl) rfl
theorem q6_218 : (Jvm.Cond.code ({ cls := "TuneSchoolModel", name := "fit", desc := "(I)V" } : Jvm.MethodName) prog_14_method_71_code (6 : Nat) (Option.none : Option Jvm.ClassFile.FieldType)) ∈ gtb := gtb_of (mt6 (i := 218) rfl) rfl
theorem q6_219 : (Jvm.Cond.methodLink "TuneSchoolModel" (296 : Nat) ({ cls := "TuneSchoolModel", name := "nextHeard", desc := "(I)I" } : Jvm.MethodName)) ∈ gtb := gtb_of (mt6 (i := 219) rfl) rfl
theorem q6_221 : (Jvm.Cond.instanceMethod ({ cls := "TuneSchoolModel", name := "nextHeard", desc := "(I)I" } : Jvm.MethodName)) ∈ gtb := gtb_of (mt6 (i := 221) rfl) rfl
theorem q6_222 : (Jvm.Cond.code ({ cls := "TuneSchoolModel", name := "nextHeard", desc := "(I)I" } : Jvm.MethodName) prog_14_method_63_code (3 : Nat) (Option.some Jvm.ClassFile.FieldType.int)) ∈ gtb := gtb_of (mt6 (i := 222) rfl) rfl
theorem q6_223 : (Jvm.Cond.methodLink "TuneSchoolModel" (311 : Nat) ({ cls := "TuneSchoolModel", name := "isJoined", desc := "(II)Z" } : Jvm.MethodName)) ∈ gtb := gtb_of (mt6 (i := 223) rfl) rfl
theorem q6_225 : (Jvm.Cond.instanceMethod ({ cls := "TuneSchoolModel", name := "isJoined", desc := "(II)Z" } : Jvm.MethodName)) ∈ gtb := gtb_of (mt6 (i := 225) rfl) rfl
theorem q6_226 : (Jvm.Cond.code ({ cls := "TuneSchoolModel", name := "isJoined", desc := "(II)Z" } : Jvm.MethodName) prog_14_method_64_code (3 : Nat) (Option.some Jvm.ClassFile.FieldType.boolean)) ∈ gtb := gtb_of (mt6 (i := 226) rfl) rfl
theorem q6_227 : (Jvm.Cond.methodLink "TuneSchoolModel" (330 : Nat) ({ cls := "TuneSchoolModel", name := "fits", desc := "(III)Z" } : Jvm.MethodName)) ∈ gtb := gtb_of (mt6 (i := 227) rfl) rfl
theorem q6_229 : (Jvm.Cond.instanceMethod ({ cls := "TuneSchoolModel", name := "fits", desc := "(III)Z" } : Jvm.MethodName)) ∈ gtb := gtb_of (mt6 (i := 229) rfl) rfl
theorem q6_230 : (Jvm.Cond.code ({ cls := "TuneSchoolModel", name := "fits", desc := "(III)Z" } : Jvm.MethodName) prog_14_method_66_code (8 : Nat) (Option.some Jvm.ClassFile.FieldType.boolean)) ∈ gtb := gtb_of (mt6 (i := 230) rfl) rfl
theorem q6_231 : (Jvm.Cond.methodLink "TuneSchoolModel" (336 : Nat) ({ cls := "TuneSchoolModel", name := "reckon", desc := "(III)V" } : Jvm.MethodName)) ∈ gtb := gtb_of (mt6 (i := 231) rfl) rfl
theorem q6_233 : (Jvm.Cond.instanceMethod ({ cls := "TuneSchoolModel", name := "reckon", desc := "(III)V" } : Jvm.MethodName)) ∈ gtb := gtb_of (mt6 (i := 233) rfl) rfl
theorem q6_234 : (Jvm.Cond.code ({ cls := "TuneSchoolModel", name := "reckon", desc := "(III)V" } : Jvm.MethodName) prog_14_method_70_code (11 : Nat) (Option.none : Option Jvm.ClassFile.FieldType)) ∈ gtb := gtb_of (mt6 (i := 234) rfl) rfl
theorem q6_235 : (Jvm.Cond.constant "TuneSchoolModel" (314 : Nat) (1000000000 : Int32)) ∈ gtb := gtb_of (mt6 (i := 235) rfl) rfl
theorem q6_236 : (Jvm.Cond.methodLink "TuneSchoolModel" (315 : Nat) ({ cls := "TuneSchoolModel", name := "dueBehind", desc := "(III)I" } : Jvm.MethodName)) ∈ gtb := gtb_of (mt6 (i := 236) rfl) rfl
theorem q6_238 : (Jvm.Cond.instanceMethod ({ cls := "TuneSchoolModel", name := "dueBehind", desc := "(III)I" } : Jvm.MethodName)) ∈ gtb := gtb_of (mt6 (i := 238) rfl) rfl
theorem q6_239 : (Jvm.Cond.code ({ cls := "TuneSchoolModel", name := "dueBehind", desc := "(III)I" } : Jvm.MethodName) prog_14_method_68_code (6 : Nat) (Option.some Jvm.ClassFile.FieldType.int)) ∈ gtb := gtb_of (mt6 (i := 239) rfl) rfl
theorem q7_0 : (Jvm.Cond.methodLink "TuneSchoolModel" (293 : Nat) ({ cls := "TuneSchoolModel", name := "mustAnswer", desc := "(I)Z" } : Jvm.MethodName)) ∈ gtb := gtb_of (mt7 (i := 0) rfl) rfl
theorem q7_2 : (Jvm.Cond.instanceMethod ({ cls := "TuneSchoolModel", name := "mustAnswer", desc := "(I)Z" } : Jvm.MethodName)) ∈ gtb := gtb_of (mt7 (i := 2) rfl) rfl
theorem q7_3 : (Jvm.Cond.code ({ cls := "TuneSchoolModel", name := "mustAnswer", desc := "(I)Z" } : Jvm.MethodName) prog_14_method_67_code (5 : Nat) (Option.some Jvm.ClassFile.FieldType.boolean)) ∈ gtb := gtb_of (mt7 (i := 3) rfl) rfl
theorem q7_4 : (Jvm.Cond.methodLink "TuneSchoolModel" (319 : Nat) ({ cls := "TuneSchoolModel", name := "step", desc := "(II)I" } : Jvm.MethodName)) ∈ gtb := gtb_of (mt7 (i := 4) rfl) rfl
theorem q7_6 : (Jvm.Cond.instanceMethod ({ cls := "TuneSchoolModel", name := "step", desc := "(II)I" } : Jvm.MethodName)) ∈ gtb := gtb_of (mt7 (i := 6) rfl) rfl
theorem q7_7 : (Jvm.Cond.code ({ cls := "TuneSchoolModel", name := "step", desc := "(II)I" } : Jvm.MethodName) prog_14_method_69_code (4 : Nat) (Option.some Jvm.ClassFile.FieldType.int)) ∈ gtb := gtb_of (mt7 (i := 7) rfl) rfl
theorem q7_8 : (Jvm.Cond.methodLink "TuneSchoolModel" (322 : Nat) ({ cls := "TuneSchoolModel", name := "at", desc := "(III)I" } : Jvm.MethodName)) ∈ gtb := gtb_of (mt7 (i := 8) rfl) rfl
theorem q7_10 : (Jvm.Cond.instanceMethod ({ cls := "TuneSchoolModel", name := "at", desc := "(III)I" } : Jvm.MethodName)) ∈ gtb := gtb_of (mt7 (i := 10) rfl) rfl
theorem q7_11 : (Jvm.Cond.code ({ cls := "TuneSchoolModel", name := "at", desc := "(III)I" } : Jvm.MethodName) prog_14_method_61_code (4 : Nat) (Option.some Jvm.ClassFile.FieldType.int)) ∈ gtb := gtb_of (mt7 (i := 11) rfl) rfl
theorem q7_12 : (Jvm.Cond.methodLink "TuneSchoolModel" (325 : Nat) ({ cls := "java/lang/Math", name := "min", desc := "(II)I" } : Jvm.MethodName)) ∈ gtb := gtb_of (mt7 (i := 12) rfl) rfl
theorem q7_13 : (Jvm.Cond.methodLink "TuneSchoolModel" (376 : Nat) ({ cls := "TuneSchoolModel", name := "finish", desc := "()V" } : Jvm.MethodName)) ∈ gtb := gtb_of (mt7 (i := 13) rfl) rfl
theorem q7_15 : (Jvm.Cond.instanceMethod ({ cls := "TuneSchoolModel", name := "finish", desc := "()V" } : Jvm.MethodName)) ∈ gtb := gtb_of (mt7 (i := 15) rfl) rfl
theorem q7_16 : (Jvm.Cond.code ({ cls := "TuneSchoolModel", name := "finish", desc := "()V" } : Jvm.MethodName) prog_14_method_74_code (6 : Nat) (Option.none : Option Jvm.ClassFile.FieldType)) ∈ gtb := gtb_of (mt7 (i := 16) rfl) rfl
theorem q7_17 : (Jvm.Cond.methodLink "TuneSchoolModel" (343 : Nat) ({ cls := "TuneSchoolModel", name := "reckonTune", desc := "()V" } : Jvm.MethodName)) ∈ gtb := gtb_of (mt7 (i := 17) rfl) rfl
theorem q7_19 : (Jvm.Cond.instanceMethod ({ cls := "TuneSchoolModel", name := "reckonTune", desc := "()V" } : Jvm.MethodName)) ∈ gtb := gtb_of (mt7 (i := 19) rfl) rfl
theorem q7_20 : (Jvm.Cond.code ({ cls := "TuneSchoolModel", name := "reckonTune", desc := "()V" } : Jvm.MethodName) prog_14_method_73_code (4 : Nat) (Option.none : Option Jvm.ClassFile.FieldType)) ∈ gtb := gtb_of (mt7 (i := 20) rfl) rfl
theorem q7_21 : (Jvm.Cond.methodLink "TuneSchoolLaw" (136 : Nat) ({ cls := "TuneSchoolModel", name := "goOn", desc := "(I)I" } : Jvm.MethodName)) ∈ gtb := gtb_of (mt7 (i := 21) rfl) rfl
theorem q7_22 : (Jvm.Cond.instanceMethod ({ cls := "TuneSchoolModel", name := "goOn", desc := "(I)I" } : Jvm.MethodName)) ∈ gtb := gtb_of (mt7 (i := 22) rfl) rfl
theorem q7_23 : (Jvm.Cond.selects "TuneSchoolModel" ({ cls := "TuneSchoolModel", name := "goOn", desc := "(I)I" } : Jvm.MethodName) ({ cls := "TuneSchoolModel", name := "goOn", desc := "(I)I" } : Jvm.MethodName)) ∈ gtb := gtb_of (mt7 (i := 23) rfl) rfl
theorem q7_24 : (Jvm.Cond.code ({ cls := "TuneSchoolModel", name := "goOn", desc := "(I)I" } : Jvm.MethodName) prog_14_method_76_code (2 : Nat) (Option.some Jvm.ClassFile.FieldType.int)) ∈ gtb := gtb_of (mt7 (i := 24) rfl) rfl
theorem q7_25 : (Jvm.Cond.methodLink "TuneSchoolLaw" (140 : Nat) ({ cls := "TuneSchoolModel", name := "least", desc := "()I" } : Jvm.MethodName)) ∈ gtb := gtb_of (mt7 (i := 25) rfl) rfl
theorem q7_26 : (Jvm.Cond.instanceMethod ({ cls := "TuneSchoolModel", name := "least", desc := "()I" } : Jvm.MethodName)) ∈ gtb := gtb_of (mt7 (i := 26) rfl) rfl
theorem q7_27 : (Jvm.Cond.selects "TuneSchoolModel" ({ cls := "TuneSchoolModel", name := "least", desc := "()I" } : Jvm.MethodName) ({ cls := "TuneSchoolModel", name := "least", desc := "()I" } : Jvm.MethodName)) ∈ gtb := gtb_of (mt7 (i := 27) rfl) rfl
theorem q7_28 : (Jvm.Cond.code ({ cls := "TuneSchoolModel", name := "least", desc := "()I" } : Jvm.MethodName) prog_14_method_78_code (1 : Nat) (Option.some Jvm.ClassFile.FieldType.int)) ∈ gtb := gtb_of (mt7 (i := 28) rfl) rfl
theorem q7_29 : (Jvm.Cond.methodLink "TuneSchoolLaw" (144 : Nat) ({ cls := "TuneSchoolModel", name := "many", desc := "()I" } : Jvm.MethodName)) ∈ gtb := gtb_of (mt7 (i := 29) rfl) rfl
theorem q7_30 : (Jvm.Cond.instanceMethod ({ cls := "TuneSchoolModel", name := "many", desc := "()I" } : Jvm.MethodName)) ∈ gtb := gtb_of (mt7 (i := 30) rfl) rfl
theorem q7_31 : (Jvm.Cond.selects "TuneSchoolModel" ({ cls := "TuneSchoolModel", name := "many", desc := "()I" } : Jvm.MethodName) ({ cls := "TuneSchoolModel", name := "many", desc := "()I" } : Jvm.MethodName)) ∈ gtb := gtb_of (mt7 (i := 31) rfl) rfl
theorem q7_32 : (Jvm.Cond.code ({ cls := "TuneSchoolModel", name := "many", desc := "()I" } : Jvm.MethodName) prog_14_method_79_code (1 : Nat) (Option.some Jvm.ClassFile.FieldType.int)) ∈ gtb := gtb_of (mt7 (i := 32) rfl) rfl
theorem q7_33 : (Jvm.Cond.methodLink "TuneSchoolLaw" (148 : Nat) ({ cls := "TuneSchoolModel", name := "row", desc := "(III)I" } : Jvm.MethodName)) ∈ gtb := gtb_of (mt7 (i := 33) rfl) rfl
theorem q7_34 : (Jvm.Cond.instanceMethod ({ cls := "TuneSchoolModel", name := "row", desc := "(III)I" } : Jvm.MethodName)) ∈ gtb := gtb_of (mt7 (i := 34) rfl) rfl
theorem q7_35 : (Jvm.Cond.selects "TuneSchoolModel" ({ cls := "TuneSchoolModel", name := "row", desc := "(III)I" } : Jvm.MethodName) ({ cls := "TuneSchoolModel", name := "row", desc := "(III)I" } : Jvm.MethodName)) ∈ gtb := gtb_of (mt7 (i := 35) rfl) rfl
theorem q7_36 : (Jvm.Cond.code ({ cls := "TuneSchoolModel", name := "row", desc := "(III)I" } : Jvm.MethodName) prog_14_method_81_code (4 : Nat) (Option.some Jvm.ClassFile.FieldType.int)) ∈ gtb := gtb_of (mt7 (i := 36) rfl) rfl
theorem q7_37 : (Jvm.Cond.methodLink "TuneSchoolModel" (379 : Nat) ({ cls := "TuneSchoolModel", name := "hasLeast", desc := "(I)Z" } : Jvm.MethodName)) ∈ gtb := gtb_of (mt7 (i := 37) rfl) rfl
theorem q7_39 : (Jvm.Cond.instanceMethod ({ cls := "TuneSchoolModel", name := "hasLeast", desc := "(I)Z" } : Jvm.MethodName)) ∈ gtb := gtb_of (mt7 (i := 39) rfl) rfl
theorem q7_40 : (Jvm.Cond.code ({ cls := "TuneSchoolModel", name := "hasLeast", desc := "(I)Z" } : Jvm.MethodName) prog_14_method_80_code (2 : Nat) (Option.some Jvm.ClassFile.FieldType.boolean)) ∈ gtb := gtb_of (mt7 (i := 40) rfl) rfl
theorem q7_41 : (Jvm.Cond.methodLink "TuneSchoolLaw" (152 : Nat) ({ cls := "TuneSchoolModel", name := "spoil", desc := "(IIII)I" } : Jvm.MethodName)) ∈ gtb := gtb_of (mt7 (i := 41) rfl) rfl
theorem q7_42 : (Jvm.Cond.instanceMethod ({ cls := "TuneSchoolModel", name := "spoil", desc := "(IIII)I" } : Jvm.MethodName)) ∈ gtb := gtb_of (mt7 (i := 42) rfl) rfl
theorem q7_43 : (Jvm.Cond.selects "TuneSchoolModel" ({ cls := "TuneSchoolModel", name := "spoil", desc := "(IIII)I" } : Jvm.MethodName) ({ cls := "TuneSchoolModel", name := "spoil", desc := "(IIII)I" } : Jvm.MethodName)) ∈ gtb := gtb_of (mt7 (i := 43) rfl) rfl
theorem q7_44 : (Jvm.Cond.code ({ cls := "TuneSchoolModel", name := "spoil", desc := "(IIII)I" } : Jvm.MethodName) prog_14_method_82_code (6 : Nat) (Option.some Jvm.ClassFile.FieldType.int)) ∈ gtb := gtb_of (mt7 (i := 44) rfl) rfl
theorem q7_45 : (Jvm.Cond.methodLink "TuneSchoolLaw" (156 : Nat) ({ cls := "TuneSchoolModel", name := "check", desc := "()I" } : Jvm.MethodName)) ∈ gtb := gtb_of (mt7 (i := 45) rfl) rfl
theorem q7_46 : (Jvm.Cond.instanceMethod ({ cls := "TuneSchoolModel", name := "check", desc := "()I" } : Jvm.MethodName)) ∈ gtb := gtb_of (mt7 (i := 46) rfl) rfl
theorem q7_47 : (Jvm.Cond.selects "TuneSchoolModel" ({ cls := "TuneSchoolModel", name := "check", desc := "()I" } : Jvm.MethodName) ({ cls := "TuneSchoolModel", name := "check", desc := "()I" } : Jvm.MethodName)) ∈ gtb := gtb_of (mt7 (i := 47) rfl) rfl
theorem q7_48 : (Jvm.Cond.code ({ cls := "TuneSchoolModel", name := "check", desc := "()I" } : Jvm.MethodName) prog_14_method_83_code (5 : Nat) (Option.some Jvm.ClassFile.FieldType.int)) ∈ gtb := gtb_of (mt7 (i := 48) rfl) rfl
theorem q7_49 : (Jvm.Cond.methodLink "TuneSchoolLaw" (160 : Nat) ({ cls := "TuneSchoolModel", name := "print", desc := "(I)I" } : Jvm.MethodName)) ∈ gtb := gtb_of (mt7 (i := 49) rfl) rfl
theorem q7_50 : (Jvm.Cond.instanceMethod ({ cls := "TuneSchoolModel", name := "print", desc := "(I)I" } : Jvm.MethodName)) ∈ gtb := gtb_of (mt7 (i := 50) rfl) rfl
theorem q7_51 : (Jvm.Cond.selects "TuneSchoolModel" ({ cls := "TuneSchoolModel", name := "print", desc := "(I)I" } : Jvm.MethodName) ({ cls := "TuneSchoolModel", name := "print", desc := "(I)I" } : Jvm.MethodName)) ∈ gtb := gtb_of (mt7 (i := 51) rfl) rfl
theorem q7_52 : (Jvm.Cond.code ({ cls := "TuneSchoolModel", name := "print", desc := "(I)I" } : Jvm.MethodName) prog_14_method_85_code (5 : Nat) (Option.some Jvm.ClassFile.FieldType.int)) ∈ gtb := gtb_of (mt7 (i := 52) rfl) rfl
theorem q7_53 : (Jvm.Cond.methodLink "TuneSchoolModel" (385 : Nat) ({ cls := "TuneSchoolModel", name := "say", desc := "(I)V" } : Jvm.MethodName)) ∈ gtb := gtb_of (mt7 (i := 53) rfl) rfl
theorem q7_55 : (Jvm.Cond.instanceMethod ({ cls := "TuneSchoolModel", name := "say", desc := "(I)V" } : Jvm.MethodName)) ∈ gtb := gtb_of (mt7 (i := 55) rfl) rfl
theorem q7_56 : (Jvm.Cond.code ({ cls := "TuneSchoolModel", name := "say", desc := "(I)V" } : Jvm.MethodName) prog_14_method_84_code (2 : Nat) (Option.none : Option Jvm.ClassFile.FieldType)) ∈ gtb := gtb_of (mt7 (i := 56) rfl) rfl
theorem q7_57 : (Jvm.Cond.methodLink "TuneSchoolLaw" (164 : Nat) ({ cls := "TuneSchoolModel", name := "read", desc := "(I)I" } : Jvm.MethodName)) ∈ gtb := gtb_of (mt7 (i := 57) rfl) rfl
theorem q7_58 : (Jvm.Cond.instanceMethod ({ cls := "TuneSchoolModel", name := "read", desc := "(I)I" } : Jvm.MethodName)) ∈ gtb := gtb_of (mt7 (i := 58) rfl) rfl
theorem q7_59 : (Jvm.Cond.selects "TuneSchoolModel" ({ cls := "TuneSchoolModel", name := "read", desc := "(I)I" } : Jvm.MethodName) ({ cls := "TuneSchoolModel", name := "read", desc := "(I)I" } : Jvm.MethodName)) ∈ gtb := gtb_of (mt7 (i := 59) rfl) rfl
theorem q7_60 : (Jvm.Cond.code ({ cls := "TuneSchoolModel", name := "read", desc := "(I)I" } : Jvm.MethodName) prog_14_method_88_code (4 : Nat) (Option.some Jvm.ClassFile.FieldType.int)) ∈ gtb := gtb_of (mt7 (i := 60) rfl) rfl
theorem q7_61 : (Jvm.Cond.methodLink "TuneSchoolModel" (394 : Nat) ({ cls := "TuneSchoolModel", name := "wrongIn", desc := "()I" } : Jvm.MethodName)) ∈ gtb := gtb_of (mt7 (i := 61) rfl) rfl
theorem q7_63 : (Jvm.Cond.instanceMethod ({ cls := "TuneSchoolModel", name := "wrongIn", desc := "()I" } : Jvm.MethodName)) ∈ gtb := gtb_of (mt7 (i := 63) rfl) rfl
theorem q7_64 : (Jvm.Cond.code ({ cls := "TuneSchoolModel", name := "wrongIn", desc := "()I" } : Jvm.MethodName) prog_14_method_87_code (5 : Nat) (Option.some Jvm.ClassFile.FieldType.int)) ∈ gtb := gtb_of (mt7 (i := 64) rfl) rfl
theorem q7_65 : (Jvm.Cond.methodLink "TuneSchoolModel" (391 : Nat) ({ cls := "TuneSchoolModel", name := "charAt", desc := "(I)I" } : Jvm.MethodName)) ∈ gtb := gtb_of (mt7 (i := 65) rfl) rfl
theorem q7_67 : (Jvm.Cond.instanceMethod ({ cls := "TuneSchoolModel", name := "charAt", desc := "(I)I" } : Jvm.MethodName)) ∈ gtb := gtb_of (mt7 (i := 67) rfl) rfl
theorem q7_68 : (Jvm.Cond.code ({ cls := "TuneSchoolModel", name := "charAt", desc := "(I)I" } : Jvm.MethodName) prog_14_method_86_code (2 : Nat) (Option.some Jvm.ClassFile.FieldType.int)) ∈ gtb := gtb_of (mt7 (i := 68) rfl) rfl
theorem q7_69 : (Jvm.Cond.methodLink "TuneSchoolLaw" (168 : Nat) ({ cls := "TuneSchoolModel", name := "put", desc := "(II)I" } : Jvm.MethodName)) ∈ gtb := gtb_of (mt7 (i := 69) rfl) rfl
theorem q7_70 : (Jvm.Cond.instanceMethod ({ cls := "TuneSchoolModel", name := "put", desc := "(II)I" } : Jvm.MethodName)) ∈ gtb := gtb_of (mt7 (i := 70) rfl) rfl
theorem q7_71 : (Jvm.Cond.selects "TuneSchoolModel" ({ cls := "TuneSchoolModel", name := "put", desc := "(II)I" } : Jvm.MethodName) ({ cls := "TuneSchoolModel", name := "put", desc := "(II)I" } : Jvm.MethodName)) ∈ gtb := gtb_of (mt7 (i := 71) rfl) rfl
theorem q7_72 : (Jvm.Cond.code ({ cls := "TuneSchoolModel", name := "put", desc := "(II)I" } : Jvm.MethodName) prog_14_method_89_code (3 : Nat) (Option.some Jvm.ClassFile.FieldType.int)) ∈ gtb := gtb_of (mt7 (i := 72) rfl) rfl
theorem q7_73 : (Jvm.Cond.methodLink "TuneSchoolLaw" (172 : Nat) ({ cls := "TuneSchoolModel", name := "cutLine", desc := "(I)I" } : Jvm.MethodName)) ∈ gtb := gtb_of (mt7 (i := 73) rfl) rfl
theorem q7_74 : (Jvm.Cond.instanceMethod ({ cls := "TuneSchoolModel", name := "cutLine", desc := "(I)I" } : Jvm.MethodName)) ∈ gtb := gtb_of (mt7 (i := 74) rfl) rfl
theorem q7_75 : (Jvm.Cond.selects "TuneSchoolModel" ({ cls := "TuneSchoolModel", name := "cutLine", desc := "(I)I" } : Jvm.MethodName) ({ cls := "TuneSchoolModel", name := "cutLine", desc := "(I)I" } : Jvm.MethodName)) ∈ gtb := gtb_of (mt7 (i := 75) rfl) rfl
theorem q7_76 : (Jvm.Cond.code ({ cls := "TuneSchoolModel", name := "cutLine", desc := "(I)I" } : Jvm.MethodName) prog_14_method_90_code (3 : Nat) (Option.some Jvm.ClassFile.FieldType.int)) ∈ gtb := gtb_of (mt7 (i := 76) rfl) rfl
theorem q7_77 : (Jvm.Cond.methodLink "TuneSchoolLaw" (176 : Nat) ({ cls := "TuneSchoolModel", name := "character", desc := "(I)I" } : Jvm.MethodName)) ∈ gtb := gtb_of (mt7 (i := 77) rfl) rfl
theorem q7_78 : (Jvm.Cond.instanceMethod ({ cls := "TuneSchoolModel", name := "character", desc := "(I)I" } : Jvm.MethodName)) ∈ gtb := gtb_of (mt7 (i := 78) rfl) rfl
theorem q7_79 : (Jvm.Cond.selects "TuneSchoolModel" ({ cls := "TuneSchoolModel", name := "character", desc := "(I)I" } : Jvm.MethodName) ({ cls := "TuneSchoolModel", name := "character", desc := "(I)I" } : Jvm.MethodName)) ∈ gtb := gtb_of (mt7 (i := 79) rfl) rfl
theorem q7_80 : (Jvm.Cond.code ({ cls := "TuneSchoolModel", name := "character", desc := "(I)I" } : Jvm.MethodName) prog_14_method_91_code (2 : Nat) (Option.some Jvm.ClassFile.FieldType.int)) ∈ gtb := gtb_of (mt7 (i := 80) rfl) rfl
theorem q7_81 : (Jvm.Cond.methodLink "TuneSchoolLaw" (180 : Nat) ({ cls := "TuneSchoolModel", name := "status", desc := "()I" } : Jvm.MethodName)) ∈ gtb := gtb_of (mt7 (i := 81) rfl) rfl
theorem q7_82 : (Jvm.Cond.instanceMethod ({ cls := "TuneSchoolModel", name := "status", desc := "()I" } : Jvm.MethodName)) ∈ gtb := gtb_of (mt7 (i := 82) rfl) rfl
theorem q7_83 : (Jvm.Cond.selects "TuneSchoolModel" ({ cls := "TuneSchoolModel", name := "status", desc := "()I" } : Jvm.MethodName) ({ cls := "TuneSchoolModel", name := "status", desc := "()I" } : Jvm.MethodName)) ∈ gtb := gtb_of (mt7 (i := 83) rfl) rfl
theorem q7_84 : (Jvm.Cond.code ({ cls := "TuneSchoolModel", name := "status", desc := "()I" } : Jvm.MethodName) prog_14_method_92_code (1 : Nat) (Option.some Jvm.ClassFile.FieldType.int)) ∈ gtb := gtb_of (mt7 (i := 84) rfl) rfl
theorem q7_85 : (Jvm.Cond.methodLink "TuneSchoolLaw" (184 : Nat) ({ cls := "TuneSchoolModel", name := "trace", desc := "(I)I" } : Jvm.MethodName)) ∈ gtb := gtb_of (mt7 (i := 85) rfl) rfl
theorem q7_86 : (Jvm.Cond.instanceMethod ({ cls := "TuneSchoolModel", name := "trace", desc := "(I)I" } : Jvm.MethodName)) ∈ gtb := gtb_of (mt7 (i := 86) rfl) rfl
theorem q7_87 : (Jvm.Cond.selects "TuneSchoolModel" ({ cls := "TuneSchoolModel", name := "trace", desc := "(I)I" } : Jvm.MethodName) ({ cls := "TuneSchoolModel", name := "trace", desc := "(I)I" } : Jvm.MethodName)) ∈ gtb := gtb_of (mt7 (i := 87) rfl) rfl
theorem q7_88 : (Jvm.Cond.code ({ cls := "TuneSchoolModel", name := "trace", desc := "(I)I" } : Jvm.MethodName) prog_14_method_93_code (2 : Nat) (Option.some Jvm.ClassFile.FieldType.int)) ∈ gtb := gtb_of (mt7 (i := 88) rfl) rfl
theorem q7_89 : (Jvm.Cond.methodLink "TuneSchoolLaw" (188 : Nat) ({ cls := "TuneSchoolModel", name := "count", desc := "(I)I" } : Jvm.MethodName)) ∈ gtb := gtb_of (mt7 (i := 89) rfl) rfl
theorem q7_90 : (Jvm.Cond.instanceMethod ({ cls := "TuneSchoolModel", name := "count", desc := "(I)I" } : Jvm.MethodName)) ∈ gtb := gtb_of (mt7 (i := 90) rfl) rfl
theorem q7_91 : (Jvm.Cond.selects "TuneSchoolModel" ({ cls := "TuneSchoolModel", name := "count", desc := "(I)I" } : Jvm.MethodName) ({ cls := "TuneSchoolModel", name := "count", desc := "(I)I" } : Jvm.MethodName)) ∈ gtb := gtb_of (mt7 (i := 91) rfl) rfl
theorem q7_92 : (Jvm.Cond.code ({ cls := "TuneSchoolModel", name := "count", desc := "(I)I" } : Jvm.MethodName) prog_14_method_94_code (4 : Nat) (Option.some Jvm.ClassFile.FieldType.int)) ∈ gtb := gtb_of (mt7 (i := 92) rfl) rfl
theorem q7_93 : (Jvm.Cond.sameMethod "TuneSchool$Motion" "TuneSchool$Motion" "tells" "(LTuneSchool$Moment;)Z") ∈ gtb := gtb_of (mt7 (i := 93) rfl) rfl
theorem q7_94 : (Jvm.Cond.sameMethod "TuneSchool$Interval" "TuneSchool$Interval" "tells" "(LTuneSchool$Moment;)Z") ∈ gtb := gtb_of (mt7 (i := 94) rfl) rfl
theorem q7_95 : (Jvm.Cond.selects "TuneSchool$Cadence" ({ cls := "TuneSchool$Cadence", name := "tells", desc := "(LTuneSchool$Moment;)Z" } : Jvm.MethodName) ({ cls := "TuneSchool$Cadence", name := "tells", desc := "(LTuneSchool$Moment;)Z" } : Jvm.MethodName)) ∈ gtb := gtb_of (mt7 (i := 95) rfl) rfl
theorem q7_96 : (Jvm.Cond.selects "TuneSchool$Cadence" ({ cls := "TuneSchool$Interval", name := "tells", desc := "(LTuneSchool$Moment;)Z" } : Jvm.MethodName) ({ cls := "TuneSchool$Cadence", name := "tells", desc := "(LTuneSchool$Moment;)Z" } : Jvm.MethodName)) ∈ gtb := gtb_of (mt7 (i := 96) rfl) rfl
theorem q7_97 : (Jvm.Cond.selects "TuneSchool$Interval" ({ cls := "TuneSchool$Interval", name := "tells", desc := "(LTuneSchool$Moment;)Z" } : Jvm.MethodName) ({ cls := "TuneSchool$Interval", name := "tells", desc := "(LTuneSchool$Moment;)Z" } : Jvm.MethodName)) ∈ gtb := gtb_of (mt7 (i := 97) rfl) rfl
theorem q7_98 : (Jvm.Cond.selects "TuneSchool$Motion" ({ cls := "TuneSchool$Interval", name := "tells", desc := "(LTuneSchool$Moment;)Z" } : Jvm.MethodName) ({ cls := "TuneSchool$Motion", name := "tells", desc := "(LTuneSchool$Moment;)Z" } : Jvm.MethodName)) ∈ gtb := gtb_of (mt7 (i := 98) rfl) rfl
theorem qs_0 : Cond.selects "TuneSchool" ({ cls := "TuneSchool", name := "finding", desc := "(I)I" } : MethodName) ({ cls := "TuneSchool", name := "finding", desc := "(I)I" } : MethodName) ∈ gtb := mgs (i := 0) rfl rfl
theorem qs_1 : Cond.selects "TuneSchool" ({ cls := "TuneSchool", name := "keep", desc := "(I)V" } : MethodName) ({ cls := "TuneSchool", name := "keep", desc := "(I)V" } : MethodName) ∈ gtb := mgs (i := 1) rfl rfl
theorem qs_2 : Cond.selects "TuneSchool" ({ cls := "TuneSchool", name := "fine", desc := "(I)I" } : MethodName) ({ cls := "TuneSchool", name := "fine", desc := "(I)I" } : MethodName) ∈ gtb := mgs (i := 2) rfl rfl
theorem qs_3 : Cond.selects "TuneSchool" ({ cls := "TuneSchool", name := "findLasts", desc := "()V" } : MethodName) ({ cls := "TuneSchool", name := "findLasts", desc := "()V" } : MethodName) ∈ gtb := mgs (i := 3) rfl rfl
theorem qs_4 : Cond.selects "TuneSchool" ({ cls := "TuneSchool", name := "askPair", desc := "(LTuneSchool$Standing;III)V" } : MethodName) ({ cls := "TuneSchool", name := "askPair", desc := "(LTuneSchool$Standing;III)V" } : MethodName) ∈ gtb := mgs (i := 4) rfl rfl
theorem qs_5 : Cond.selects "TuneSchool" ({ cls := "TuneSchool", name := "noteFault", desc := "(LTuneSchool$Rule;III)V" } : MethodName) ({ cls := "TuneSchool", name := "noteFault", desc := "(LTuneSchool$Rule;III)V" } : MethodName) ∈ gtb := mgs (i := 5) rfl rfl
theorem qs_6 : Cond.selects "TuneSchool" ({ cls := "TuneSchool", name := "faultNumber", desc := "(II)I" } : MethodName) ({ cls := "TuneSchool", name := "faultNumber", desc := "(II)I" } : MethodName) ∈ gtb := mgs (i := 6) rfl rfl
theorem qs_7 : Cond.selects "TuneSchool" ({ cls := "TuneSchool", name := "firstFault", desc := "(LTuneSchool$Voice;LTuneSchool$Standing;III)I" } : MethodName) ({ cls := "TuneSchool", name := "firstFault", desc := "(LTuneSchool$Voice;LTuneSchool$Standing;III)I" } : MethodName) ∈ gtb := mgs (i := 7) rfl rfl
theorem qs_8 : Cond.selects "TuneSchool" ({ cls := "TuneSchool", name := "tellsAny", desc := "(LTuneSchool$Standing;)Z" } : MethodName) ({ cls := "TuneSchool", name := "tellsAny", desc := "(LTuneSchool$Standing;)Z" } : MethodName) ∈ gtb := mgs (i := 8) rfl rfl
theorem qs_9 : Cond.selects "TuneSchool" ({ cls := "TuneSchool", name := "advance", desc := "(I)I" } : MethodName) ({ cls := "TuneSchool", name := "advance", desc := "(I)I" } : MethodName) ∈ gtb := mgs (i := 9) rfl rfl
theorem qs_10 : Cond.selects "TuneSchool" ({ cls := "TuneSchool", name := "writeTune", desc := "()I" } : MethodName) ({ cls := "TuneSchool", name := "writeTune", desc := "()I" } : MethodName) ∈ gtb := mgs (i := 10) rfl rfl
theorem qs_11 : Cond.selects "TuneSchool$Line" ({ cls := "TuneSchool$Line", name := "add", desc := "(I)V" } : MethodName) ({ cls := "TuneSchool$Line", name := "add", desc := "(I)V" } : MethodName) ∈ gtb := mgs (i := 11) rfl rfl
theorem qs_12 : Cond.selects "TuneSchool$Line" ({ cls := "TuneSchool$Line", name := "addPitch", desc := "(I)V" } : MethodName) ({ cls := "TuneSchool$Line", name := "addPitch", desc := "(I)V" } : MethodName) ∈ gtb := mgs (i := 12) rfl rfl
theorem qs_13 : Cond.selects "TuneSchool$Line" ({ cls := "TuneSchool$Line", name := "takePitch", desc := "()I" } : MethodName) ({ cls := "TuneSchool$Line", name := "takePitch", desc := "()I" } : MethodName) ∈ gtb := mgs (i := 13) rfl rfl
theorem qs_14 : Cond.selects "TuneSchool$Line" ({ cls := "TuneSchool$Line", name := "here", desc := "()I" } : MethodName) ({ cls := "TuneSchool$Line", name := "here", desc := "()I" } : MethodName) ∈ gtb := mgs (i := 14) rfl rfl
theorem qs_15 : Cond.selects "TuneSchool" ({ cls := "TuneSchool", name := "voicesThere", desc := "()I" } : MethodName) ({ cls := "TuneSchool", name := "voicesThere", desc := "()I" } : MethodName) ∈ gtb := mgs (i := 15) rfl rfl
theorem qs_16 : Cond.selects "TuneSchool" ({ cls := "TuneSchool", name := "placesTaken", desc := "()I" } : MethodName) ({ cls := "TuneSchool", name := "placesTaken", desc := "()I" } : MethodName) ∈ gtb := mgs (i := 16) rfl rfl
theorem qs_17 : Cond.selects "TuneSchoolModel" ({ cls := "TuneSchoolModel", name := "finds", desc := "(I)I" } : MethodName) ({ cls := "TuneSchoolModel", name := "finds", desc := "(I)I" } : MethodName) ∈ gtb := mgs (i := 17) rfl rfl
theorem qs_18 : Cond.selects "TuneSchoolModel" ({ cls := "TuneSchoolModel", name := "keep", desc := "(I)V" } : MethodName) ({ cls := "TuneSchoolModel", name := "keep", desc := "(I)V" } : MethodName) ∈ gtb := mgs (i := 18) rfl rfl
theorem qs_19 : Cond.selects "TuneSchoolModel" ({ cls := "TuneSchoolModel", name := "against", desc := "(I)I" } : MethodName) ({ cls := "TuneSchoolModel", name := "against", desc := "(I)I" } : MethodName) ∈ gtb := mgs (i := 19) rfl rfl
theorem qs_20 : Cond.selects "TuneSchoolModel" ({ cls := "TuneSchoolModel", name := "lay", desc := "(I)V" } : MethodName) ({ cls := "TuneSchoolModel", name := "lay", desc := "(I)V" } : MethodName) ∈ gtb := mgs (i := 20) rfl rfl
theorem qs_21 : Cond.selects "TuneSchoolModel" ({ cls := "TuneSchoolModel", name := "lengthAt", desc := "(II)I" } : MethodName) ({ cls := "TuneSchoolModel", name := "lengthAt", desc := "(II)I" } : MethodName) ∈ gtb := mgs (i := 21) rfl rfl
theorem qs_22 : Cond.selects "TuneSchoolModel" ({ cls := "TuneSchoolModel", name := "pitchAt", desc := "(II)I" } : MethodName) ({ cls := "TuneSchoolModel", name := "pitchAt", desc := "(II)I" } : MethodName) ∈ gtb := mgs (i := 22) rfl rfl
theorem qs_23 : Cond.selects "TuneSchoolModel" ({ cls := "TuneSchoolModel", name := "soundAt", desc := "(II)I" } : MethodName) ({ cls := "TuneSchoolModel", name := "soundAt", desc := "(II)I" } : MethodName) ∈ gtb := mgs (i := 23) rfl rfl
theorem qs_24 : Cond.selects "TuneSchoolModel" ({ cls := "TuneSchoolModel", name := "copyRow", desc := "(IIIIII)Z" } : MethodName) ({ cls := "TuneSchoolModel", name := "copyRow", desc := "(IIIIII)Z" } : MethodName) ∈ gtb := mgs (i := 24) rfl rfl
theorem qs_25 : Cond.selects "TuneSchoolModel" ({ cls := "TuneSchoolModel", name := "isOf", desc := "(II)Z" } : MethodName) ({ cls := "TuneSchoolModel", name := "isOf", desc := "(II)Z" } : MethodName) ∈ gtb := mgs (i := 25) rfl rfl
theorem qs_26 : Cond.selects "TuneSchoolModel" ({ cls := "TuneSchoolModel", name := "told", desc := "([ZIZ)I" } : MethodName) ({ cls := "TuneSchoolModel", name := "told", desc := "([ZIZ)I" } : MethodName) ∈ gtb := mgs (i := 26) rfl rfl
theorem qs_27 : Cond.selects "TuneSchoolModel" ({ cls := "TuneSchoolModel", name := "beginTrace", desc := "()V" } : MethodName) ({ cls := "TuneSchoolModel", name := "beginTrace", desc := "()V" } : MethodName) ∈ gtb := mgs (i := 27) rfl rfl
theorem qs_28 : Cond.selects "TuneSchoolModel" ({ cls := "TuneSchoolModel", name := "pair", desc := "(II)V" } : MethodName) ({ cls := "TuneSchoolModel", name := "pair", desc := "(II)V" } : MethodName) ∈ gtb := mgs (i := 28) rfl rfl
theorem qs_29 : Cond.selects "TuneSchoolModel" ({ cls := "TuneSchoolModel", name := "look", desc := "(IIII)V" } : MethodName) ({ cls := "TuneSchoolModel", name := "look", desc := "(IIII)V" } : MethodName) ∈ gtb := mgs (i := 29) rfl rfl
theorem qs_30 : Cond.selects "TuneSchoolModel" ({ cls := "TuneSchoolModel", name := "askedAt", desc := "(I)I" } : MethodName) ({ cls := "TuneSchoolModel", name := "askedAt", desc := "(I)I" } : MethodName) ∈ gtb := mgs (i := 30) rfl rfl
theorem qs_31 : Cond.selects "TuneSchoolModel" ({ cls := "TuneSchoolModel", name := "ruleAt", desc := "(II)I" } : MethodName) ({ cls := "TuneSchoolModel", name := "ruleAt", desc := "(II)I" } : MethodName) ∈ gtb := mgs (i := 31) rfl rfl
theorem qs_32 : Cond.selects "TuneSchoolModel" ({ cls := "TuneSchoolModel", name := "asks", desc := "(II)Z" } : MethodName) ({ cls := "TuneSchoolModel", name := "asks", desc := "(II)Z" } : MethodName) ∈ gtb := mgs (i := 32) rfl rfl
theorem qs_33 : Cond.selects "TuneSchoolModel" ({ cls := "TuneSchoolModel", name := "listens", desc := "(I)Z" } : MethodName) ({ cls := "TuneSchoolModel", name := "listens", desc := "(I)Z" } : MethodName) ∈ gtb := mgs (i := 33) rfl rfl
theorem qs_34 : Cond.selects "TuneSchoolModel" ({ cls := "TuneSchoolModel", name := "tell", desc := "(I)V" } : MethodName) ({ cls := "TuneSchoolModel", name := "tell", desc := "(I)V" } : MethodName) ∈ gtb := mgs (i := 34) rfl rfl
theorem qs_35 : Cond.selects "TuneSchoolModel" ({ cls := "TuneSchoolModel", name := "hasFault", desc := "(IIII)Z" } : MethodName) ({ cls := "TuneSchoolModel", name := "hasFault", desc := "(IIII)Z" } : MethodName) ∈ gtb := mgs (i := 35) rfl rfl
theorem qs_36 : Cond.selects "TuneSchoolModel" ({ cls := "TuneSchoolModel", name := "byInterval", desc := "(IIII)Z" } : MethodName) ({ cls := "TuneSchoolModel", name := "byInterval", desc := "(IIII)Z" } : MethodName) ∈ gtb := mgs (i := 36) rfl rfl
theorem qs_37 : Cond.selects "TuneSchoolModel" ({ cls := "TuneSchoolModel", name := "byMotion", desc := "(IIII)Z" } : MethodName) ({ cls := "TuneSchoolModel", name := "byMotion", desc := "(IIII)Z" } : MethodName) ∈ gtb := mgs (i := 37) rfl rfl
theorem qs_38 : Cond.selects "TuneSchoolModel" ({ cls := "TuneSchoolModel", name := "byLeap", desc := "(III)Z" } : MethodName) ({ cls := "TuneSchoolModel", name := "byLeap", desc := "(III)Z" } : MethodName) ∈ gtb := mgs (i := 38) rfl rfl
theorem qs_39 : Cond.selects "TuneSchoolModel" ({ cls := "TuneSchoolModel", name := "byCadence", desc := "(IIII)Z" } : MethodName) ({ cls := "TuneSchoolModel", name := "byCadence", desc := "(IIII)Z" } : MethodName) ∈ gtb := mgs (i := 39) rfl rfl
theorem qs_40 : Cond.selects "TuneSchoolModel" ({ cls := "TuneSchoolModel", name := "nearest", desc := "(IIII)I" } : MethodName) ({ cls := "TuneSchoolModel", name := "nearest", desc := "(IIII)I" } : MethodName) ∈ gtb := mgs (i := 40) rfl rfl
theorem qs_41 : Cond.selects "TuneSchoolModel" ({ cls := "TuneSchoolModel", name := "againstCanon", desc := "(II)I" } : MethodName) ({ cls := "TuneSchoolModel", name := "againstCanon", desc := "(II)I" } : MethodName) ∈ gtb := mgs (i := 41) rfl rfl
theorem qs_42 : Cond.selects "TuneSchoolModel" ({ cls := "TuneSchoolModel", name := "firstFault", desc := "(IIIII)I" } : MethodName) ({ cls := "TuneSchoolModel", name := "firstFault", desc := "(IIIII)I" } : MethodName) ∈ gtb := mgs (i := 42) rfl rfl
theorem qs_43 : Cond.selects "TuneSchoolModel" ({ cls := "TuneSchoolModel", name := "followed", desc := "(IIIII)I" } : MethodName) ({ cls := "TuneSchoolModel", name := "followed", desc := "(IIIII)I" } : MethodName) ∈ gtb := mgs (i := 43) rfl rfl
theorem qs_44 : Cond.selects "TuneSchoolModel" ({ cls := "TuneSchoolModel", name := "goesOn", desc := "(I)I" } : MethodName) ({ cls := "TuneSchoolModel", name := "goesOn", desc := "(I)I" } : MethodName) ∈ gtb := mgs (i := 44) rfl rfl
theorem qs_45 : Cond.selects "TuneSchoolModel" ({ cls := "TuneSchoolModel", name := "laySetting", desc := "()V" } : MethodName) ({ cls := "TuneSchoolModel", name := "laySetting", desc := "()V" } : MethodName) ∈ gtb := mgs (i := 45) rfl rfl
theorem qs_46 : Cond.selects "TuneSchoolModel" ({ cls := "TuneSchoolModel", name := "work", desc := "(I)V" } : MethodName) ({ cls := "TuneSchoolModel", name := "work", desc := "(I)V" } : MethodName) ∈ gtb := mgs (i := 46) rfl rfl
theorem qs_47 : Cond.selects "TuneSchoolModel" ({ cls := "TuneSchoolModel", name := "isHeard", desc := "(I)Z" } : MethodName) ({ cls := "TuneSchoolModel", name := "isHeard", desc := "(I)Z" } : MethodName) ∈ gtb := mgs (i := 47) rfl rfl
theorem qs_48 : Cond.selects "TuneSchoolModel" ({ cls := "TuneSchoolModel", name := "fit", desc := "(I)V" } : MethodName) ({ cls := "TuneSchoolModel", name := "fit", desc := "(I)V" } : MethodName) ∈ gtb := mgs (i := 48) rfl rfl
theorem qs_49 : Cond.selects "TuneSchoolModel" ({ cls := "TuneSchoolModel", name := "nextHeard", desc := "(I)I" } : MethodName) ({ cls := "TuneSchoolModel", name := "nextHeard", desc := "(I)I" } : MethodName) ∈ gtb := mgs (i := 49) rfl rfl
theorem qs_50 : Cond.selects "TuneSchoolModel" ({ cls := "TuneSchoolModel", name := "isJoined", desc := "(II)Z" } : MethodName) ({ cls := "TuneSchoolModel", name := "isJoined", desc := "(II)Z" } : MethodName) ∈ gtb := mgs (i := 50) rfl rfl
theorem qs_51 : Cond.selects "TuneSchoolModel" ({ cls := "TuneSchoolModel", name := "fits", desc := "(III)Z" } : MethodName) ({ cls := "TuneSchoolModel", name := "fits", desc := "(III)Z" } : MethodName) ∈ gtb := mgs (i := 51) rfl rfl
theorem qs_52 : Cond.selects "TuneSchoolModel" ({ cls := "TuneSchoolModel", name := "reckon", desc := "(III)V" } : MethodName) ({ cls := "TuneSchoolModel", name := "reckon", desc := "(III)V" } : MethodName) ∈ gtb := mgs (i := 52) rfl rfl
theorem qs_53 : Cond.selects "TuneSchoolModel" ({ cls := "TuneSchoolModel", name := "dueBehind", desc := "(III)I" } : MethodName) ({ cls := "TuneSchoolModel", name := "dueBehind", desc := "(III)I" } : MethodName) ∈ gtb := mgs (i := 53) rfl rfl
theorem qs_54 : Cond.selects "TuneSchoolModel" ({ cls := "TuneSchoolModel", name := "mustAnswer", desc := "(I)Z" } : MethodName) ({ cls := "TuneSchoolModel", name := "mustAnswer", desc := "(I)Z" } : MethodName) ∈ gtb := mgs (i := 54) rfl rfl
theorem qs_55 : Cond.selects "TuneSchoolModel" ({ cls := "TuneSchoolModel", name := "step", desc := "(II)I" } : MethodName) ({ cls := "TuneSchoolModel", name := "step", desc := "(II)I" } : MethodName) ∈ gtb := mgs (i := 55) rfl rfl
theorem qs_56 : Cond.selects "TuneSchoolModel" ({ cls := "TuneSchoolModel", name := "at", desc := "(III)I" } : MethodName) ({ cls := "TuneSchoolModel", name := "at", desc := "(III)I" } : MethodName) ∈ gtb := mgs (i := 56) rfl rfl
theorem qs_57 : Cond.selects "TuneSchoolModel" ({ cls := "TuneSchoolModel", name := "finish", desc := "()V" } : MethodName) ({ cls := "TuneSchoolModel", name := "finish", desc := "()V" } : MethodName) ∈ gtb := mgs (i := 57) rfl rfl
theorem qs_58 : Cond.selects "TuneSchoolModel" ({ cls := "TuneSchoolModel", name := "reckonTune", desc := "()V" } : MethodName) ({ cls := "TuneSchoolModel", name := "reckonTune", desc := "()V" } : MethodName) ∈ gtb := mgs (i := 58) rfl rfl
theorem qs_59 : Cond.selects "TuneSchoolModel" ({ cls := "TuneSchoolModel", name := "hasLeast", desc := "(I)Z" } : MethodName) ({ cls := "TuneSchoolModel", name := "hasLeast", desc := "(I)Z" } : MethodName) ∈ gtb := mgs (i := 59) rfl rfl
theorem qs_60 : Cond.selects "TuneSchoolModel" ({ cls := "TuneSchoolModel", name := "say", desc := "(I)V" } : MethodName) ({ cls := "TuneSchoolModel", name := "say", desc := "(I)V" } : MethodName) ∈ gtb := mgs (i := 60) rfl rfl
theorem qs_61 : Cond.selects "TuneSchoolModel" ({ cls := "TuneSchoolModel", name := "wrongIn", desc := "()I" } : MethodName) ({ cls := "TuneSchoolModel", name := "wrongIn", desc := "()I" } : MethodName) ∈ gtb := mgs (i := 61) rfl rfl
theorem qs_62 : Cond.selects "TuneSchoolModel" ({ cls := "TuneSchoolModel", name := "charAt", desc := "(I)I" } : MethodName) ({ cls := "TuneSchoolModel", name := "charAt", desc := "(I)I" } : MethodName) ∈ gtb := mgs (i := 62) rfl rfl
