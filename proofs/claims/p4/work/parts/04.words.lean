theorem TWs {C : String} {T : u_T} {N : Nat} (h : ∀ k, k < N → TW (u_lay C T k)) : ∀ w ∈ u_ws C T N, TW w := by
  intro w hw
  obtain ⟨k, hk, rfl⟩ := List.mem_map.mp hw
  exact h k (List.mem_range.mp hk)
theorem sb_1 {w : Cond} (h : w ∈ tables_1_1) (ho : okW w = true) : TW w := TW.of (List.mem_append_right _ (List.mem_append_left _ h)) ho
theorem sb_2 {w : Cond} (h : w ∈ tables_1_2) (ho : okW w = true) : TW w := TW.of (List.mem_append_right _ (List.mem_append_right _ (List.mem_append_left _ h))) ho
theorem sb_3 {w : Cond} (h : w ∈ tables_1_3) (ho : okW w = true) : TW w := TW.of (List.mem_append_right _ (List.mem_append_right _ (List.mem_append_right _ (List.mem_append_left _ h)))) ho
theorem sb_4 {w : Cond} (h : w ∈ tables_1_4) (ho : okW w = true) : TW w := TW.of (List.mem_append_right _ (List.mem_append_right _ (List.mem_append_right _ (List.mem_append_right _ (List.mem_append_left _ h))))) ho
theorem sb_5 {w : Cond} (h : w ∈ tables_1_5) (ho : okW w = true) : TW w := TW.of (List.mem_append_right _ (List.mem_append_right _ (List.mem_append_right _ (List.mem_append_right _ (List.mem_append_right _ (List.mem_append_left _ h)))))) ho
theorem sb_6 {w : Cond} (h : w ∈ tables_1_6) (ho : okW w = true) : TW w := TW.of (List.mem_append_right _ (List.mem_append_right _ (List.mem_append_right _ (List.mem_append_right _ (List.mem_append_right _ (List.mem_append_right _ (List.mem_append_left _ h))))))) ho
theorem sb_7 {w : Cond} (h : w ∈ tables_1_7) (ho : okW w = true) : TW w := TW.of (List.mem_append_right _ (List.mem_append_right _ (List.mem_append_right _ (List.mem_append_right _ (List.mem_append_right _ (List.mem_append_right _ (List.mem_append_right _ (List.mem_append_left _ h)))))))) ho
theorem sb_8 {w : Cond} (h : w ∈ tables_1_8) (ho : okW w = true) : TW w := TW.of (List.mem_append_right _ (List.mem_append_right _ (List.mem_append_right _ (List.mem_append_right _ (List.mem_append_right _ (List.mem_append_right _ (List.mem_append_right _ (List.mem_append_right _ (h))))))))) ho
theorem tw_1 : TW (Jvm.Cond.initialized "ThousandLeaflets") := sb_1 (List.mem_of_getElem? (i := 1) rfl) rfl
theorem tw_2 : TW (Jvm.Cond.initialized "ThousandLeaflets$DrawReader") := sb_1 (List.mem_of_getElem? (i := 2) rfl) rfl
theorem tw_3 : TW (Jvm.Cond.initialized "ThousandLeaflets$Tape") := sb_1 (List.mem_of_getElem? (i := 3) rfl) rfl
theorem tw_4 : TW (Jvm.Cond.initialized "ThousandLeaflets$Draw") := sb_1 (List.mem_of_getElem? (i := 4) rfl) rfl
theorem tw_5 : TW (Jvm.Cond.initialized "ThousandLeaflets$Sets") := sb_1 (List.mem_of_getElem? (i := 5) rfl) rfl
theorem tw_6 : TW (Jvm.Cond.initialized "ThousandLeaflets$Equations") := sb_1 (List.mem_of_getElem? (i := 6) rfl) rfl
theorem tw_7 : TW (Jvm.Cond.initialized "ThousandLeaflets$Basis") := sb_1 (List.mem_of_getElem? (i := 7) rfl) rfl
theorem tw_8 : TW (Jvm.Cond.initialized "ThousandLeaflets$Coming") := sb_1 (List.mem_of_getElem? (i := 8) rfl) rfl
theorem tw_9 : TW (Jvm.Cond.initialized "ThousandLeaflets$Ways") := sb_1 (List.mem_of_getElem? (i := 9) rfl) rfl
theorem tw_10 : TW (Jvm.Cond.initialized "ThousandLeaflets$Book") := sb_1 (List.mem_of_getElem? (i := 10) rfl) rfl
theorem tw_11 : TW (Jvm.Cond.initialized "ThousandLeaflets$Heap") := sb_1 (List.mem_of_getElem? (i := 11) rfl) rfl
theorem tw_12 : TW (Jvm.Cond.initialized "ThousandLeafletsModel") := sb_1 (List.mem_of_getElem? (i := 12) rfl) rfl
theorem tw_13 : TW (Jvm.Cond.initialized "java/lang/String") := sb_1 (List.mem_of_getElem? (i := 13) rfl) rfl
theorem tw_14 : TW (Jvm.Cond.initialized "java/lang/StringLatin1") := sb_1 (List.mem_of_getElem? (i := 14) rfl) rfl
theorem tw_15 : TW (Jvm.Cond.initialized "jdk/internal/util/Preconditions") := sb_1 (List.mem_of_getElem? (i := 15) rfl) rfl
theorem tw_16 : TW (Jvm.Cond.initialized "java/lang/StringUTF16") := sb_1 (List.mem_of_getElem? (i := 16) rfl) rfl
theorem tw_18 : TW (Jvm.Cond.initialized "java/lang/Integer") := sb_1 (List.mem_of_getElem? (i := 18) rfl) rfl
theorem tw_19 : TW (Jvm.Cond.initialized "ThousandLeaflets$Paper") := sb_1 (List.mem_of_getElem? (i := 19) rfl) rfl
theorem tw_24 : TW (Jvm.Cond.initialized "java/lang/Long") := sb_1 (List.mem_of_getElem? (i := 24) rfl) rfl
theorem tw_25 : TW (Jvm.Cond.initialized "java/lang/Math") := sb_1 (List.mem_of_getElem? (i := 25) rfl) rfl
theorem tw_26 : TW (Jvm.Cond.classLink "ThousandLeafletsLaw" (8 : Nat) "ThousandLeaflets") := sb_1 (List.mem_of_getElem? (i := 26) rfl) rfl
theorem tw_27 : TW (Jvm.Cond.instantiable "ThousandLeaflets" (14 : Nat)) := sb_1 (List.mem_of_getElem? (i := 27) rfl) rfl
theorem tw_28 : TW (Jvm.Cond.methodLink "ThousandLeafletsLaw" (15 : Nat) ({ cls := "ThousandLeaflets", name := "<init>", desc := "()V" } : Jvm.MethodName)) := sb_1 (List.mem_of_getElem? (i := 28) rfl) rfl
theorem tw_29 : TW (Jvm.Cond.instanceMethod ({ cls := "ThousandLeaflets", name := "<init>", desc := "()V" } : Jvm.MethodName)) := sb_1 (List.mem_of_getElem? (i := 29) rfl) rfl
theorem tw_30 : TW (Jvm.Cond.code ({ cls := "ThousandLeaflets", name := "<init>", desc := "()V" } : Jvm.MethodName) prog_1_method_1_code (2 : Nat) (Option.none : Option Jvm.ClassFile.FieldType)) := sb_1 (List.mem_of_getElem? (i := 30) rfl) rfl
theorem tw_31 : TW (Jvm.Cond.methodLink "ThousandLeaflets" (3 : Nat) ({ cls := "java/lang/Object", name := "<init>", desc := "()V" } : Jvm.MethodName)) := sb_1 (List.mem_of_getElem? (i := 31) rfl) rfl
theorem tw_32 : TW (Jvm.Cond.instanceMethod ({ cls := "java/lang/Object", name := "<init>", desc := "()V" } : Jvm.MethodName)) := sb_1 (List.mem_of_getElem? (i := 32) rfl) rfl
theorem tw_33 : TW (Jvm.Cond.code ({ cls := "java/lang/Object", name := "<init>", desc := "()V" } : Jvm.MethodName) object_method_1_code (1 : Nat) (Option.none : Option Jvm.ClassFile.FieldType)) := sb_1 (List.mem_of_getElem? (i := 33) rfl) rfl
theorem tw_34 : TW (Jvm.Cond.classLink "ThousandLeaflets" (9 : Nat) "ThousandLeaflets$Book") := sb_1 (List.mem_of_getElem? (i := 34) rfl) rfl
theorem tw_35 : TW (Jvm.Cond.arrayOver (Jvm.ClassFile.FieldType.object "ThousandLeaflets$Book")) := sb_1 (List.mem_of_getElem? (i := 35) rfl) rfl
theorem tw_36 : TW (Jvm.Cond.classLink "ThousandLeaflets" (15 : Nat) "ThousandLeaflets$Heap") := sb_1 (List.mem_of_getElem? (i := 36) rfl) rfl
theorem tw_37 : TW (Jvm.Cond.arrayOver (Jvm.ClassFile.FieldType.object "ThousandLeaflets$Heap")) := sb_1 (List.mem_of_getElem? (i := 37) rfl) rfl
theorem tw_38 : TW (Jvm.Cond.classLink "ThousandLeaflets" (38 : Nat) "ThousandLeaflets$DrawReader") := sb_1 (List.mem_of_getElem? (i := 38) rfl) rfl
theorem tw_39 : TW (Jvm.Cond.instantiable "ThousandLeaflets$DrawReader" (2 : Nat)) := sb_1 (List.mem_of_getElem? (i := 39) rfl) rfl
theorem tw_40 : TW (Jvm.Cond.methodLinkNest "ThousandLeaflets" (40 : Nat) ({ cls := "ThousandLeaflets$DrawReader", name := "<init>", desc := "()V" } : Jvm.MethodName) "ThousandLeaflets") := sb_1 (List.mem_of_getElem? (i := 40) rfl) rfl
theorem tw_41 : TW (Jvm.Cond.instanceMethod ({ cls := "ThousandLeaflets$DrawReader", name := "<init>", desc := "()V" } : Jvm.MethodName)) := sb_1 (List.mem_of_getElem? (i := 41) rfl) rfl
theorem tw_42 : TW (Jvm.Cond.code ({ cls := "ThousandLeaflets$DrawReader", name := "<init>", desc := "()V" } : Jvm.MethodName) prog_6_method_1_code (1 : Nat) (Option.none : Option Jvm.ClassFile.FieldType)) := sb_1 (List.mem_of_getElem? (i := 42) rfl) rfl
theorem tw_43 : TW (Jvm.Cond.methodLink "ThousandLeaflets$DrawReader" (3 : Nat) ({ cls := "java/lang/Object", name := "<init>", desc := "()V" } : Jvm.MethodName)) := sb_1 (List.mem_of_getElem? (i := 43) rfl) rfl
theorem tw_44 : TW (Jvm.Cond.classLink "ThousandLeaflets$DrawReader" (9 : Nat) "ThousandLeaflets$Tape") := sb_1 (List.mem_of_getElem? (i := 44) rfl) rfl
theorem tw_45 : TW (Jvm.Cond.instantiable "ThousandLeaflets$Tape" (6 : Nat)) := sb_1 (List.mem_of_getElem? (i := 45) rfl) rfl
theorem tw_46 : TW (Jvm.Cond.methodLinkNest "ThousandLeaflets$DrawReader" (11 : Nat) ({ cls := "ThousandLeaflets$Tape", name := "<init>", desc := "()V" } : Jvm.MethodName) "ThousandLeaflets") := sb_1 (List.mem_of_getElem? (i := 46) rfl) rfl
theorem tw_47 : TW (Jvm.Cond.instanceMethod ({ cls := "ThousandLeaflets$Tape", name := "<init>", desc := "()V" } : Jvm.MethodName)) := sb_1 (List.mem_of_getElem? (i := 47) rfl) rfl
theorem tw_48 : TW (Jvm.Cond.code ({ cls := "ThousandLeaflets$Tape", name := "<init>", desc := "()V" } : Jvm.MethodName) prog_11_method_1_code (1 : Nat) (Option.none : Option Jvm.ClassFile.FieldType)) := sb_1 (List.mem_of_getElem? (i := 48) rfl) rfl
theorem tw_49 : TW (Jvm.Cond.methodLink "ThousandLeaflets$Tape" (3 : Nat) ({ cls := "java/lang/Object", name := "<init>", desc := "()V" } : Jvm.MethodName)) := sb_1 (List.mem_of_getElem? (i := 49) rfl) rfl
theorem tw_50 : TW (Jvm.Cond.fieldLink "ThousandLeaflets$Tape" (9 : Nat) "ThousandLeaflets$Tape" "sign" "[I") := sb_1 (List.mem_of_getElem? (i := 50) rfl) rfl
theorem tw_51 : TW (Jvm.Cond.fieldLink "ThousandLeaflets$Tape" (15 : Nat) "ThousandLeaflets$Tape" "length" "I") := sb_1 (List.mem_of_getElem? (i := 51) rfl) rfl
theorem tw_52 : TW (Jvm.Cond.fieldLink "ThousandLeaflets" (121 : Nat) "ThousandLeaflets$Tape" "length" "I") := sb_1 (List.mem_of_getElem? (i := 52) rfl) rfl
theorem tw_53 : TW (Jvm.Cond.fieldLink "ThousandLeaflets$DrawReader" (34 : Nat) "ThousandLeaflets$Tape" "kind" "I") := sb_1 (List.mem_of_getElem? (i := 53) rfl) rfl
theorem tw_54 : TW (Jvm.Cond.fieldLink "ThousandLeaflets$Tape" (25 : Nat) "ThousandLeaflets$Tape" "kind" "I") := sb_1 (List.mem_of_getElem? (i := 54) rfl) rfl
theorem tw_55 : TW (Jvm.Cond.fieldLink "ThousandLeaflets$Tape" (22 : Nat) "ThousandLeaflets$Tape" "start" "I") := sb_1 (List.mem_of_getElem? (i := 55) rfl) rfl
theorem tw_56 : TW (Jvm.Cond.fieldLink "ThousandLeaflets$DrawReader" (96 : Nat) "ThousandLeaflets$Tape" "start" "I") := sb_1 (List.mem_of_getElem? (i := 56) rfl) rfl
theorem tw_57 : TW (Jvm.Cond.fieldLink "ThousandLeaflets$Tape" (19 : Nat) "ThousandLeaflets$Tape" "past" "I") := sb_1 (List.mem_of_getElem? (i := 57) rfl) rfl
theorem tw_58 : TW (Jvm.Cond.fieldLink "ThousandLeaflets$DrawReader" (82 : Nat) "ThousandLeaflets$Tape" "number" "I") := sb_1 (List.mem_of_getElem? (i := 58) rfl) rfl
theorem tw_59 : TW (Jvm.Cond.fieldLink "ThousandLeaflets$Tape" (36 : Nat) "ThousandLeaflets$Tape" "number" "I") := sb_1 (List.mem_of_getElem? (i := 59) rfl) rfl
theorem tw_60 : TW (Jvm.Cond.laysFinal "ThousandLeaflets$Tape" "ThousandLeaflets$Tape" "sign" "[I") := sb_1 (List.mem_of_getElem? (i := 60) rfl) rfl
theorem tw_62 : TW (Jvm.Cond.lays "ThousandLeaflets$Tape" "ThousandLeaflets$Tape" "length" "I") := sb_1 (List.mem_of_getElem? (i := 62) rfl) rfl
theorem tw_64 : TW (Jvm.Cond.lays "ThousandLeaflets$Tape" "ThousandLeaflets$Tape" "kind" "I") := sb_1 (List.mem_of_getElem? (i := 64) rfl) rfl
theorem tw_66 : TW (Jvm.Cond.lays "ThousandLeaflets$Tape" "ThousandLeaflets$Tape" "start" "I") := sb_1 (List.mem_of_getElem? (i := 66) rfl) rfl
theorem tw_68 : TW (Jvm.Cond.lays "ThousandLeaflets$Tape" "ThousandLeaflets$Tape" "past" "I") := sb_1 (List.mem_of_getElem? (i := 68) rfl) rfl
theorem tw_70 : TW (Jvm.Cond.lays "ThousandLeaflets$Tape" "ThousandLeaflets$Tape" "number" "I") := sb_1 (List.mem_of_getElem? (i := 70) rfl) rfl
theorem tw_73 : TW (Jvm.Cond.arrayClass Jvm.ClassFile.FieldType.boolean) := sb_1 (List.mem_of_getElem? (i := 73) rfl) rfl
theorem tw_74 : TW (Jvm.Cond.arrayClass Jvm.ClassFile.FieldType.int) := sb_1 (List.mem_of_getElem? (i := 74) rfl) rfl
theorem tw_75 : TW (Jvm.Cond.classLink "ThousandLeaflets$DrawReader" (18 : Nat) "ThousandLeaflets$Draw") := sb_1 (List.mem_of_getElem? (i := 75) rfl) rfl
theorem tw_76 : TW (Jvm.Cond.instantiable "ThousandLeaflets$Draw" (6 : Nat)) := sb_1 (List.mem_of_getElem? (i := 76) rfl) rfl
theorem tw_77 : TW (Jvm.Cond.methodLink "ThousandLeaflets$DrawReader" (20 : Nat) ({ cls := "ThousandLeaflets$Draw", name := "<init>", desc := "()V" } : Jvm.MethodName)) := sb_1 (List.mem_of_getElem? (i := 77) rfl) rfl
theorem tw_78 : TW (Jvm.Cond.instanceMethod ({ cls := "ThousandLeaflets$Draw", name := "<init>", desc := "()V" } : Jvm.MethodName)) := sb_1 (List.mem_of_getElem? (i := 78) rfl) rfl
theorem tw_79 : TW (Jvm.Cond.code ({ cls := "ThousandLeaflets$Draw", name := "<init>", desc := "()V" } : Jvm.MethodName) prog_5_method_1_code (1 : Nat) (Option.none : Option Jvm.ClassFile.FieldType)) := sb_1 (List.mem_of_getElem? (i := 79) rfl) rfl
theorem tw_80 : TW (Jvm.Cond.methodLink "ThousandLeaflets$Draw" (3 : Nat) ({ cls := "java/lang/Object", name := "<init>", desc := "()V" } : Jvm.MethodName)) := sb_1 (List.mem_of_getElem? (i := 80) rfl) rfl
theorem tw_81 : TW (Jvm.Cond.methodLink "ThousandLeaflets$Draw" (18 : Nat) ({ cls := "ThousandLeaflets$Draw", name := "clear", desc := "()V" } : Jvm.MethodName)) := sb_1 (List.mem_of_getElem? (i := 81) rfl) rfl
theorem tw_82 : TW (Jvm.Cond.instanceMethod ({ cls := "ThousandLeaflets$Draw", name := "clear", desc := "()V" } : Jvm.MethodName)) := sb_1 (List.mem_of_getElem? (i := 82) rfl) rfl
theorem tw_83 : TW (Jvm.Cond.selects "ThousandLeaflets$Draw" ({ cls := "ThousandLeaflets$Draw", name := "clear", desc := "()V" } : Jvm.MethodName) ({ cls := "ThousandLeaflets$Draw", name := "clear", desc := "()V" } : Jvm.MethodName)) := sb_1 (List.mem_of_getElem? (i := 83) rfl) rfl
theorem tw_84 : TW (Jvm.Cond.code ({ cls := "ThousandLeaflets$Draw", name := "clear", desc := "()V" } : Jvm.MethodName) prog_5_method_2_code (2 : Nat) (Option.none : Option Jvm.ClassFile.FieldType)) := sb_1 (List.mem_of_getElem? (i := 84) rfl) rfl
theorem tw_85 : TW (Jvm.Cond.fieldLink "ThousandLeaflets$Draw" (9 : Nat) "ThousandLeaflets$Draw" "odds" "[I") := sb_1 (List.mem_of_getElem? (i := 85) rfl) rfl
theorem tw_86 : TW (Jvm.Cond.fieldLink "ThousandLeaflets$DrawReader" (85 : Nat) "ThousandLeaflets$Draw" "odds" "[I") := sb_1 (List.mem_of_getElem? (i := 86) rfl) rfl
theorem tw_87 : TW (Jvm.Cond.fieldLink "ThousandLeaflets$Draw" (15 : Nat) "ThousandLeaflets$Draw" "sum" "[I") := sb_1 (List.mem_of_getElem? (i := 87) rfl) rfl
theorem tw_88 : TW (Jvm.Cond.fieldLink "ThousandLeaflets$Equations" (40 : Nat) "ThousandLeaflets$Draw" "sum" "[I") := sb_1 (List.mem_of_getElem? (i := 88) rfl) rfl
theorem tw_89 : TW (Jvm.Cond.fieldLink "ThousandLeaflets$DrawReader" (94 : Nat) "ThousandLeaflets$Draw" "sum" "[I") := sb_1 (List.mem_of_getElem? (i := 89) rfl) rfl
theorem tw_90 : TW (Jvm.Cond.fieldLink "ThousandLeaflets$Book" (53 : Nat) "ThousandLeaflets$Draw" "sum" "[I") := sb_1 (List.mem_of_getElem? (i := 90) rfl) rfl
theorem tw_91 : TW (Jvm.Cond.fieldLink "ThousandLeaflets$Equations" (35 : Nat) "ThousandLeaflets$Draw" "sums" "I") := sb_1 (List.mem_of_getElem? (i := 91) rfl) rfl
theorem tw_92 : TW (Jvm.Cond.fieldLink "ThousandLeaflets$Draw" (21 : Nat) "ThousandLeaflets$Draw" "sums" "I") := sb_1 (List.mem_of_getElem? (i := 92) rfl) rfl
theorem tw_93 : TW (Jvm.Cond.fieldLink "ThousandLeaflets$DrawReader" (65 : Nat) "ThousandLeaflets$Draw" "sums" "I") := sb_1 (List.mem_of_getElem? (i := 93) rfl) rfl
theorem tw_94 : TW (Jvm.Cond.fieldLink "ThousandLeaflets$Book" (46 : Nat) "ThousandLeaflets$Draw" "sums" "I") := sb_1 (List.mem_of_getElem? (i := 94) rfl) rfl
theorem tw_95 : TW (Jvm.Cond.fieldLink "ThousandLeaflets$Draw" (25 : Nat) "ThousandLeaflets$Draw" "firstBelow" "I") := sb_1 (List.mem_of_getElem? (i := 95) rfl) rfl
theorem tw_96 : TW (Jvm.Cond.fieldLink "ThousandLeaflets$DrawReader" (54 : Nat) "ThousandLeaflets$Draw" "firstBelow" "I") := sb_1 (List.mem_of_getElem? (i := 96) rfl) rfl
theorem tw_97 : TW (Jvm.Cond.fieldLink "ThousandLeaflets$Book" (92 : Nat) "ThousandLeaflets$Draw" "firstBelow" "I") := sb_1 (List.mem_of_getElem? (i := 97) rfl) rfl
theorem tw_98 : TW (Jvm.Cond.fieldLink "ThousandLeaflets$Draw" (28 : Nat) "ThousandLeaflets$Draw" "firstWeight" "I") := sb_1 (List.mem_of_getElem? (i := 98) rfl) rfl
theorem tw_99 : TW (Jvm.Cond.fieldLink "ThousandLeaflets$DrawReader" (91 : Nat) "ThousandLeaflets$Draw" "firstWeight" "I") := sb_1 (List.mem_of_getElem? (i := 99) rfl) rfl
theorem tw_100 : TW (Jvm.Cond.fieldLink "ThousandLeaflets$Book" (95 : Nat) "ThousandLeaflets$Draw" "firstWeight" "I") := sb_1 (List.mem_of_getElem? (i := 100) rfl) rfl
theorem tw_101 : TW (Jvm.Cond.fieldLink "ThousandLeaflets$Draw" (31 : Nat) "ThousandLeaflets$Draw" "seal" "I") := sb_1 (List.mem_of_getElem? (i := 101) rfl) rfl
theorem tw_102 : TW (Jvm.Cond.fieldLink "ThousandLeaflets$DrawReader" (73 : Nat) "ThousandLeaflets$Draw" "seal" "I") := sb_1 (List.mem_of_getElem? (i := 102) rfl) rfl
theorem tw_103 : TW (Jvm.Cond.fieldLink "ThousandLeaflets$Book" (60 : Nat) "ThousandLeaflets$Draw" "seal" "I") := sb_1 (List.mem_of_getElem? (i := 103) rfl) rfl
theorem tw_104 : TW (Jvm.Cond.fieldLink "ThousandLeaflets" (357 : Nat) "ThousandLeaflets$Draw" "seal" "I") := sb_1 (List.mem_of_getElem? (i := 104) rfl) rfl
theorem tw_105 : TW (Jvm.Cond.laysFinal "ThousandLeaflets$Draw" "ThousandLeaflets$Draw" "odds" "[I") := sb_1 (List.mem_of_getElem? (i := 105) rfl) rfl
theorem tw_107 : TW (Jvm.Cond.laysFinal "ThousandLeaflets$Draw" "ThousandLeaflets$Draw" "sum" "[I") := sb_1 (List.mem_of_getElem? (i := 107) rfl) rfl
theorem tw_109 : TW (Jvm.Cond.lays "ThousandLeaflets$Draw" "ThousandLeaflets$Draw" "sums" "I") := sb_1 (List.mem_of_getElem? (i := 109) rfl) rfl
theorem tw_111 : TW (Jvm.Cond.lays "ThousandLeaflets$Draw" "ThousandLeaflets$Draw" "firstBelow" "I") := sb_1 (List.mem_of_getElem? (i := 111) rfl) rfl
theorem tw_113 : TW (Jvm.Cond.lays "ThousandLeaflets$Draw" "ThousandLeaflets$Draw" "firstWeight" "I") := sb_1 (List.mem_of_getElem? (i := 113) rfl) rfl
theorem tw_115 : TW (Jvm.Cond.lays "ThousandLeaflets$Draw" "ThousandLeaflets$Draw" "seal" "I") := sb_1 (List.mem_of_getElem? (i := 115) rfl) rfl
theorem tw_118 : TW (Jvm.Cond.fieldLink "ThousandLeaflets$DrawReader" (12 : Nat) "ThousandLeaflets$DrawReader" "tape" "LThousandLeaflets$Tape;") := sb_1 (List.mem_of_getElem? (i := 118) rfl) rfl
theorem tw_119 : TW (Jvm.Cond.fieldLink "ThousandLeaflets" (111 : Nat) "ThousandLeaflets$DrawReader" "tape" "LThousandLeaflets$Tape;") := sb_1 (List.mem_of_getElem? (i := 119) rfl) rfl
theorem tw_120 : TW (Jvm.Cond.fieldLink "ThousandLeaflets$DrawReader" (21 : Nat) "ThousandLeaflets$DrawReader" "draft" "LThousandLeaflets$Draw;") := sb_1 (List.mem_of_getElem? (i := 120) rfl) rfl
theorem tw_121 : TW (Jvm.Cond.fieldLink "ThousandLeaflets" (128 : Nat) "ThousandLeaflets$DrawReader" "draft" "LThousandLeaflets$Draw;") := sb_1 (List.mem_of_getElem? (i := 121) rfl) rfl
theorem tw_122 : TW (Jvm.Cond.laysFinal "ThousandLeaflets$DrawReader" "ThousandLeaflets$DrawReader" "tape" "LThousandLeaflets$Tape;") := sb_1 (List.mem_of_getElem? (i := 122) rfl) rfl
theorem tw_124 : TW (Jvm.Cond.laysFinal "ThousandLeaflets$DrawReader" "ThousandLeaflets$DrawReader" "draft" "LThousandLeaflets$Draw;") := sb_1 (List.mem_of_getElem? (i := 124) rfl) rfl
theorem tw_127 : TW (Jvm.Cond.classLink "ThousandLeaflets" (45 : Nat) "ThousandLeaflets$Equations") := sb_1 (List.mem_of_getElem? (i := 127) rfl) rfl
theorem tw_128 : TW (Jvm.Cond.arrayOver (Jvm.ClassFile.FieldType.object "ThousandLeaflets$Equations")) := sb_1 (List.mem_of_getElem? (i := 128) rfl) rfl
theorem tw_129 : TW (Jvm.Cond.classLink "ThousandLeaflets" (51 : Nat) "ThousandLeaflets$Basis") := sb_1 (List.mem_of_getElem? (i := 129) rfl) rfl
theorem tw_130 : TW (Jvm.Cond.arrayOver (Jvm.ClassFile.FieldType.object "ThousandLeaflets$Basis")) := sb_1 (List.mem_of_getElem? (i := 130) rfl) rfl
theorem tw_131 : TW (Jvm.Cond.classLink "ThousandLeaflets" (57 : Nat) "ThousandLeaflets$Sets") := sb_1 (List.mem_of_getElem? (i := 131) rfl) rfl
theorem tw_132 : TW (Jvm.Cond.instantiable "ThousandLeaflets$Sets" (8 : Nat)) := sb_1 (List.mem_of_getElem? (i := 132) rfl) rfl
theorem tw_133 : TW (Jvm.Cond.methodLinkNest "ThousandLeaflets" (59 : Nat) ({ cls := "ThousandLeaflets$Sets", name := "<init>", desc := "()V" } : Jvm.MethodName) "ThousandLeaflets") := sb_1 (List.mem_of_getElem? (i := 133) rfl) rfl
theorem tw_134 : TW (Jvm.Cond.instanceMethod ({ cls := "ThousandLeaflets$Sets", name := "<init>", desc := "()V" } : Jvm.MethodName)) := sb_1 (List.mem_of_getElem? (i := 134) rfl) rfl
theorem tw_135 : TW (Jvm.Cond.code ({ cls := "ThousandLeaflets$Sets", name := "<init>", desc := "()V" } : Jvm.MethodName) prog_10_method_1_code (1 : Nat) (Option.none : Option Jvm.ClassFile.FieldType)) := sb_1 (List.mem_of_getElem? (i := 135) rfl) rfl
theorem tw_136 : TW (Jvm.Cond.methodLink "ThousandLeaflets$Sets" (3 : Nat) ({ cls := "java/lang/Object", name := "<init>", desc := "()V" } : Jvm.MethodName)) := sb_1 (List.mem_of_getElem? (i := 136) rfl) rfl
theorem tw_137 : TW (Jvm.Cond.classLink "ThousandLeaflets$Sets" (18 : Nat) "ThousandLeaflets$Equations") := sb_1 (List.mem_of_getElem? (i := 137) rfl) rfl
theorem tw_138 : TW (Jvm.Cond.instantiable "ThousandLeaflets$Equations" (6 : Nat)) := sb_1 (List.mem_of_getElem? (i := 138) rfl) rfl
theorem tw_139 : TW (Jvm.Cond.methodLinkNest "ThousandLeaflets$Sets" (20 : Nat) ({ cls := "ThousandLeaflets$Equations", name := "<init>", desc := "()V" } : Jvm.MethodName) "ThousandLeaflets") := sb_1 (List.mem_of_getElem? (i := 139) rfl) rfl
theorem tw_140 : TW (Jvm.Cond.instanceMethod ({ cls := "ThousandLeaflets$Equations", name := "<init>", desc := "()V" } : Jvm.MethodName)) := sb_1 (List.mem_of_getElem? (i := 140) rfl) rfl
theorem tw_141 : TW (Jvm.Cond.code ({ cls := "ThousandLeaflets$Equations", name := "<init>", desc := "()V" } : Jvm.MethodName) prog_7_method_1_code (1 : Nat) (Option.none : Option Jvm.ClassFile.FieldType)) := sb_1 (List.mem_of_getElem? (i := 141) rfl) rfl
theorem tw_142 : TW (Jvm.Cond.methodLink "ThousandLeaflets$Equations" (3 : Nat) ({ cls := "java/lang/Object", name := "<init>", desc := "()V" } : Jvm.MethodName)) := sb_1 (List.mem_of_getElem? (i := 142) rfl) rfl
theorem tw_143 : TW (Jvm.Cond.fieldLink "ThousandLeaflets$Equations" (9 : Nat) "ThousandLeaflets$Equations" "row" "[I") := sb_1 (List.mem_of_getElem? (i := 143) rfl) rfl
theorem tw_144 : TW (Jvm.Cond.fieldLink "ThousandLeaflets$Basis" (31 : Nat) "ThousandLeaflets$Equations" "row" "[I") := sb_1 (List.mem_of_getElem? (i := 144) rfl) rfl
theorem tw_145 : TW (Jvm.Cond.fieldLink "ThousandLeaflets$Equations" (15 : Nat) "ThousandLeaflets$Equations" "place" "[I") := sb_1 (List.mem_of_getElem? (i := 145) rfl) rfl
theorem tw_146 : TW (Jvm.Cond.fieldLink "ThousandLeaflets" (269 : Nat) "ThousandLeaflets$Equations" "place" "[I") := sb_1 (List.mem_of_getElem? (i := 146) rfl) rfl
theorem tw_147 : TW (Jvm.Cond.fieldLink "ThousandLeaflets$Equations" (18 : Nat) "ThousandLeaflets$Equations" "read" "[I") := sb_1 (List.mem_of_getElem? (i := 147) rfl) rfl
theorem tw_148 : TW (Jvm.Cond.fieldLink "ThousandLeaflets" (382 : Nat) "ThousandLeaflets$Equations" "read" "[I") := sb_1 (List.mem_of_getElem? (i := 148) rfl) rfl
theorem tw_149 : TW (Jvm.Cond.fieldLink "ThousandLeaflets$Equations" (21 : Nat) "ThousandLeaflets$Equations" "touched" "[J") := sb_1 (List.mem_of_getElem? (i := 149) rfl) rfl
theorem tw_150 : TW (Jvm.Cond.fieldLink "ThousandLeaflets$Equations" (25 : Nat) "ThousandLeaflets$Equations" "size" "I") := sb_1 (List.mem_of_getElem? (i := 150) rfl) rfl
theorem tw_151 : TW (Jvm.Cond.fieldLink "ThousandLeaflets$Basis" (26 : Nat) "ThousandLeaflets$Equations" "size" "I") := sb_1 (List.mem_of_getElem? (i := 151) rfl) rfl
theorem tw_152 : TW (Jvm.Cond.fieldLink "ThousandLeaflets$Sets" (84 : Nat) "ThousandLeaflets$Equations" "size" "I") := sb_1 (List.mem_of_getElem? (i := 152) rfl) rfl
theorem tw_153 : TW (Jvm.Cond.fieldLink "ThousandLeaflets" (266 : Nat) "ThousandLeaflets$Equations" "size" "I") := sb_1 (List.mem_of_getElem? (i := 153) rfl) rfl
theorem tw_154 : TW (Jvm.Cond.fieldLink "ThousandLeaflets$Equations" (50 : Nat) "ThousandLeaflets$Equations" "hidden" "I") := sb_1 (List.mem_of_getElem? (i := 154) rfl) rfl
theorem tw_155 : TW (Jvm.Cond.fieldLink "ThousandLeaflets" (263 : Nat) "ThousandLeaflets$Equations" "hidden" "I") := sb_1 (List.mem_of_getElem? (i := 155) rfl) rfl
theorem tw_156 : TW (Jvm.Cond.laysFinal "ThousandLeaflets$Equations" "ThousandLeaflets$Equations" "row" "[I") := sb_1 (List.mem_of_getElem? (i := 156) rfl) rfl
theorem tw_158 : TW (Jvm.Cond.laysFinal "ThousandLeaflets$Equations" "ThousandLeaflets$Equations" "place" "[I") := sb_1 (List.mem_of_getElem? (i := 158) rfl) rfl
theorem tw_160 : TW (Jvm.Cond.laysFinal "ThousandLeaflets$Equations" "ThousandLeaflets$Equations" "read" "[I") := sb_1 (List.mem_of_getElem? (i := 160) rfl) rfl
theorem tw_162 : TW (Jvm.Cond.laysFinal "ThousandLeaflets$Equations" "ThousandLeaflets$Equations" "touched" "[J") := sb_1 (List.mem_of_getElem? (i := 162) rfl) rfl
theorem tw_164 : TW (Jvm.Cond.lays "ThousandLeaflets$Equations" "ThousandLeaflets$Equations" "size" "I") := sb_1 (List.mem_of_getElem? (i := 164) rfl) rfl
theorem tw_166 : TW (Jvm.Cond.lays "ThousandLeaflets$Equations" "ThousandLeaflets$Equations" "hidden" "I") := sb_1 (List.mem_of_getElem? (i := 166) rfl) rfl
theorem tw_169 : TW (Jvm.Cond.arrayClass Jvm.ClassFile.FieldType.long) := sb_1 (List.mem_of_getElem? (i := 169) rfl) rfl
theorem tw_170 : TW (Jvm.Cond.classLink "ThousandLeaflets$Sets" (25 : Nat) "ThousandLeaflets$Basis") := sb_1 (List.mem_of_getElem? (i := 170) rfl) rfl
theorem tw_171 : TW (Jvm.Cond.instantiable "ThousandLeaflets$Basis" (4 : Nat)) := sb_1 (List.mem_of_getElem? (i := 171) rfl) rfl
theorem tw_172 : TW (Jvm.Cond.methodLinkNest "ThousandLeaflets$Sets" (27 : Nat) ({ cls := "ThousandLeaflets$Basis", name := "<init>", desc := "()V" } : Jvm.MethodName) "ThousandLeaflets") := sb_1 (List.mem_of_getElem? (i := 172) rfl) rfl
theorem tw_173 : TW (Jvm.Cond.instanceMethod ({ cls := "ThousandLeaflets$Basis", name := "<init>", desc := "()V" } : Jvm.MethodName)) := sb_1 (List.mem_of_getElem? (i := 173) rfl) rfl
theorem tw_174 : TW (Jvm.Cond.code ({ cls := "ThousandLeaflets$Basis", name := "<init>", desc := "()V" } : Jvm.MethodName) prog_2_method_1_code (1 : Nat) (Option.none : Option Jvm.ClassFile.FieldType)) := sb_1 (List.mem_of_getElem? (i := 174) rfl) rfl
theorem tw_175 : TW (Jvm.Cond.methodLink "ThousandLeaflets$Basis" (3 : Nat) ({ cls := "java/lang/Object", name := "<init>", desc := "()V" } : Jvm.MethodName)) := sb_1 (List.mem_of_getElem? (i := 175) rfl) rfl
theorem tw_176 : TW (Jvm.Cond.fieldLink "ThousandLeaflets$Basis" (9 : Nat) "ThousandLeaflets$Basis" "row" "[I") := sb_1 (List.mem_of_getElem? (i := 176) rfl) rfl
theorem tw_177 : TW (Jvm.Cond.fieldLink "ThousandLeaflets$Basis" (15 : Nat) "ThousandLeaflets$Basis" "lead" "[I") := sb_1 (List.mem_of_getElem? (i := 177) rfl) rfl
theorem tw_178 : TW (Jvm.Cond.fieldLink "ThousandLeaflets$Basis" (18 : Nat) "ThousandLeaflets$Basis" "rank" "I") := sb_1 (List.mem_of_getElem? (i := 178) rfl) rfl
theorem tw_179 : TW (Jvm.Cond.fieldLink "ThousandLeaflets$Coming" (62 : Nat) "ThousandLeaflets$Basis" "rank" "I") := sb_1 (List.mem_of_getElem? (i := 179) rfl) rfl
theorem tw_180 : TW (Jvm.Cond.fieldLink "ThousandLeaflets$Sets" (77 : Nat) "ThousandLeaflets$Basis" "rank" "I") := sb_1 (List.mem_of_getElem? (i := 180) rfl) rfl
theorem tw_181 : TW (Jvm.Cond.fieldLink "ThousandLeaflets$Ways" (68 : Nat) "ThousandLeaflets$Basis" "rank" "I") := sb_1 (List.mem_of_getElem? (i := 181) rfl) rfl
theorem tw_182 : TW (Jvm.Cond.fieldLink "ThousandLeaflets" (246 : Nat) "ThousandLeaflets$Basis" "rank" "I") := sb_1 (List.mem_of_getElem? (i := 182) rfl) rfl
theorem tw_183 : TW (Jvm.Cond.fieldLink "ThousandLeaflets$Basis" (22 : Nat) "ThousandLeaflets$Basis" "agrees" "Z") := sb_1 (List.mem_of_getElem? (i := 183) rfl) rfl
theorem tw_184 : TW (Jvm.Cond.fieldLink "ThousandLeaflets$Coming" (32 : Nat) "ThousandLeaflets$Basis" "agrees" "Z") := sb_1 (List.mem_of_getElem? (i := 184) rfl) rfl
theorem tw_185 : TW (Jvm.Cond.fieldLink "ThousandLeaflets$Ways" (56 : Nat) "ThousandLeaflets$Basis" "agrees" "Z") := sb_1 (List.mem_of_getElem? (i := 185) rfl) rfl
theorem tw_186 : TW (Jvm.Cond.fieldLink "ThousandLeaflets" (243 : Nat) "ThousandLeaflets$Basis" "agrees" "Z") := sb_1 (List.mem_of_getElem? (i := 186) rfl) rfl
theorem tw_187 : TW (Jvm.Cond.laysFinal "ThousandLeaflets$Basis" "ThousandLeaflets$Basis" "row" "[I") := sb_1 (List.mem_of_getElem? (i := 187) rfl) rfl
theorem tw_189 : TW (Jvm.Cond.laysFinal "ThousandLeaflets$Basis" "ThousandLeaflets$Basis" "lead" "[I") := sb_1 (List.mem_of_getElem? (i := 189) rfl) rfl
theorem tw_191 : TW (Jvm.Cond.lays "ThousandLeaflets$Basis" "ThousandLeaflets$Basis" "rank" "I") := sb_1 (List.mem_of_getElem? (i := 191) rfl) rfl
theorem tw_193 : TW (Jvm.Cond.lays "ThousandLeaflets$Basis" "ThousandLeaflets$Basis" "agrees" "Z") := sb_1 (List.mem_of_getElem? (i := 193) rfl) rfl
theorem tw_196 : TW (Jvm.Cond.fieldLink "ThousandLeaflets$Sets" (9 : Nat) "ThousandLeaflets$Sets" "giving" "[I") := sb_1 (List.mem_of_getElem? (i := 196) rfl) rfl
theorem tw_197 : TW (Jvm.Cond.fieldLink "ThousandLeaflets" (296 : Nat) "ThousandLeaflets$Sets" "giving" "[I") := sb_1 (List.mem_of_getElem? (i := 197) rfl) rfl
theorem tw_198 : TW (Jvm.Cond.fieldLink "ThousandLeaflets$Sets" (15 : Nat) "ThousandLeaflets$Sets" "leaflets" "[I") := sb_1 (List.mem_of_getElem? (i := 198) rfl) rfl
theorem tw_199 : TW (Jvm.Cond.fieldLink "ThousandLeaflets$Sets" (21 : Nat) "ThousandLeaflets$Sets" "chosen" "LThousandLeaflets$Equations;") := sb_1 (List.mem_of_getElem? (i := 199) rfl) rfl
theorem tw_200 : TW (Jvm.Cond.fieldLink "ThousandLeaflets$Sets" (28 : Nat) "ThousandLeaflets$Sets" "basis" "LThousandLeaflets$Basis;") := sb_1 (List.mem_of_getElem? (i := 200) rfl) rfl
theorem tw_201 : TW (Jvm.Cond.fieldLink "ThousandLeaflets$Sets" (38 : Nat) "ThousandLeaflets$Sets" "m" "I") := sb_1 (List.mem_of_getElem? (i := 201) rfl) rfl
theorem tw_202 : TW (Jvm.Cond.fieldLink "ThousandLeaflets$Sets" (42 : Nat) "ThousandLeaflets$Sets" "how" "I") := sb_1 (List.mem_of_getElem? (i := 202) rfl) rfl
theorem tw_203 : TW (Jvm.Cond.fieldLink "ThousandLeaflets$Sets" (51 : Nat) "ThousandLeaflets$Sets" "all" "I") := sb_1 (List.mem_of_getElem? (i := 203) rfl) rfl
theorem tw_204 : TW (Jvm.Cond.fieldLink "ThousandLeaflets$Sets" (56 : Nat) "ThousandLeaflets$Sets" "allBits" "I") := sb_1 (List.mem_of_getElem? (i := 204) rfl) rfl
theorem tw_205 : TW (Jvm.Cond.laysFinal "ThousandLeaflets$Sets" "ThousandLeaflets$Sets" "giving" "[I") := sb_1 (List.mem_of_getElem? (i := 205) rfl) rfl
theorem tw_207 : TW (Jvm.Cond.laysFinal "ThousandLeaflets$Sets" "ThousandLeaflets$Sets" "leaflets" "[I") := sb_1 (List.mem_of_getElem? (i := 207) rfl) rfl
theorem tw_209 : TW (Jvm.Cond.laysFinal "ThousandLeaflets$Sets" "ThousandLeaflets$Sets" "chosen" "LThousandLeaflets$Equations;") := sb_1 (List.mem_of_getElem? (i := 209) rfl) rfl
theorem tw_211 : TW (Jvm.Cond.laysFinal "ThousandLeaflets$Sets" "ThousandLeaflets$Sets" "basis" "LThousandLeaflets$Basis;") := sb_1 (List.mem_of_getElem? (i := 211) rfl) rfl
theorem tw_213 : TW (Jvm.Cond.lays "ThousandLeaflets$Sets" "ThousandLeaflets$Sets" "m" "I") := sb_1 (List.mem_of_getElem? (i := 213) rfl) rfl
theorem tw_215 : TW (Jvm.Cond.lays "ThousandLeaflets$Sets" "ThousandLeaflets$Sets" "how" "I") := sb_1 (List.mem_of_getElem? (i := 215) rfl) rfl
theorem tw_217 : TW (Jvm.Cond.lays "ThousandLeaflets$Sets" "ThousandLeaflets$Sets" "all" "I") := sb_1 (List.mem_of_getElem? (i := 217) rfl) rfl
theorem tw_219 : TW (Jvm.Cond.lays "ThousandLeaflets$Sets" "ThousandLeaflets$Sets" "allBits" "I") := sb_1 (List.mem_of_getElem? (i := 219) rfl) rfl
theorem tw_222 : TW (Jvm.Cond.classLink "ThousandLeaflets" (64 : Nat) "ThousandLeaflets$Coming") := sb_1 (List.mem_of_getElem? (i := 222) rfl) rfl
theorem tw_223 : TW (Jvm.Cond.instantiable "ThousandLeaflets$Coming" (7 : Nat)) := sb_1 (List.mem_of_getElem? (i := 223) rfl) rfl
theorem tw_224 : TW (Jvm.Cond.methodLinkNest "ThousandLeaflets" (66 : Nat) ({ cls := "ThousandLeaflets$Coming", name := "<init>", desc := "()V" } : Jvm.MethodName) "ThousandLeaflets") := sb_1 (List.mem_of_getElem? (i := 224) rfl) rfl
theorem tw_225 : TW (Jvm.Cond.instanceMethod ({ cls := "ThousandLeaflets$Coming", name := "<init>", desc := "()V" } : Jvm.MethodName)) := sb_1 (List.mem_of_getElem? (i := 225) rfl) rfl
theorem tw_226 : TW (Jvm.Cond.code ({ cls := "ThousandLeaflets$Coming", name := "<init>", desc := "()V" } : Jvm.MethodName) prog_4_method_1_code (1 : Nat) (Option.none : Option Jvm.ClassFile.FieldType)) := sb_1 (List.mem_of_getElem? (i := 226) rfl) rfl
theorem tw_227 : TW (Jvm.Cond.methodLink "ThousandLeaflets$Coming" (3 : Nat) ({ cls := "java/lang/Object", name := "<init>", desc := "()V" } : Jvm.MethodName)) := sb_1 (List.mem_of_getElem? (i := 227) rfl) rfl
theorem tw_228 : TW (Jvm.Cond.classLink "ThousandLeaflets$Coming" (18 : Nat) "ThousandLeaflets$Basis") := sb_1 (List.mem_of_getElem? (i := 228) rfl) rfl
theorem tw_229 : TW (Jvm.Cond.methodLinkNest "ThousandLeaflets$Coming" (20 : Nat) ({ cls := "ThousandLeaflets$Basis", name := "<init>", desc := "()V" } : Jvm.MethodName) "ThousandLeaflets") := sb_1 (List.mem_of_getElem? (i := 229) rfl) rfl
theorem tw_230 : TW (Jvm.Cond.fieldLink "ThousandLeaflets$Coming" (9 : Nat) "ThousandLeaflets$Coming" "lowRow" "[I") := sb_1 (List.mem_of_getElem? (i := 230) rfl) rfl
theorem tw_231 : TW (Jvm.Cond.fieldLink "ThousandLeaflets$Coming" (15 : Nat) "ThousandLeaflets$Coming" "highRow" "[I") := sb_1 (List.mem_of_getElem? (i := 231) rfl) rfl
theorem tw_232 : TW (Jvm.Cond.fieldLink "ThousandLeaflets$Coming" (21 : Nat) "ThousandLeaflets$Coming" "low" "LThousandLeaflets$Basis;") := sb_1 (List.mem_of_getElem? (i := 232) rfl) rfl
theorem tw_233 : TW (Jvm.Cond.fieldLink "ThousandLeaflets$Coming" (25 : Nat) "ThousandLeaflets$Coming" "high" "LThousandLeaflets$Basis;") := sb_1 (List.mem_of_getElem? (i := 233) rfl) rfl
theorem tw_234 : TW (Jvm.Cond.fieldLink "ThousandLeaflets$Coming" (42 : Nat) "ThousandLeaflets$Coming" "all" "I") := sb_1 (List.mem_of_getElem? (i := 234) rfl) rfl
theorem tw_235 : TW (Jvm.Cond.fieldLink "ThousandLeaflets$Coming" (45 : Nat) "ThousandLeaflets$Coming" "least" "I") := sb_1 (List.mem_of_getElem? (i := 235) rfl) rfl
theorem tw_236 : TW (Jvm.Cond.fieldLink "ThousandLeaflets" (283 : Nat) "ThousandLeaflets$Coming" "least" "I") := sb_1 (List.mem_of_getElem? (i := 236) rfl) rfl
theorem tw_237 : TW (Jvm.Cond.fieldLink "ThousandLeaflets$Coming" (48 : Nat) "ThousandLeaflets$Coming" "found" "I") := sb_1 (List.mem_of_getElem? (i := 237) rfl) rfl
theorem tw_238 : TW (Jvm.Cond.fieldLink "ThousandLeaflets" (286 : Nat) "ThousandLeaflets$Coming" "found" "I") := sb_1 (List.mem_of_getElem? (i := 238) rfl) rfl
theorem tw_239 : TW (Jvm.Cond.laysFinal "ThousandLeaflets$Coming" "ThousandLeaflets$Coming" "lowRow" "[I") := sb_1 (List.mem_of_getElem? (i := 239) rfl) rfl
theorem tw_241 : TW (Jvm.Cond.laysFinal "ThousandLeaflets$Coming" "ThousandLeaflets$Coming" "highRow" "[I") := sb_2 (List.mem_of_getElem? (i := 1) rfl) rfl
theorem tw_243 : TW (Jvm.Cond.laysFinal "ThousandLeaflets$Coming" "ThousandLeaflets$Coming" "low" "LThousandLeaflets$Basis;") := sb_2 (List.mem_of_getElem? (i := 3) rfl) rfl
theorem tw_245 : TW (Jvm.Cond.laysFinal "ThousandLeaflets$Coming" "ThousandLeaflets$Coming" "high" "LThousandLeaflets$Basis;") := sb_2 (List.mem_of_getElem? (i := 5) rfl) rfl
theorem tw_247 : TW (Jvm.Cond.lays "ThousandLeaflets$Coming" "ThousandLeaflets$Coming" "all" "I") := sb_2 (List.mem_of_getElem? (i := 7) rfl) rfl
theorem tw_249 : TW (Jvm.Cond.lays "ThousandLeaflets$Coming" "ThousandLeaflets$Coming" "least" "I") := sb_2 (List.mem_of_getElem? (i := 9) rfl) rfl
theorem tw_251 : TW (Jvm.Cond.lays "ThousandLeaflets$Coming" "ThousandLeaflets$Coming" "found" "I") := sb_2 (List.mem_of_getElem? (i := 11) rfl) rfl
theorem tw_254 : TW (Jvm.Cond.classLink "ThousandLeaflets" (71 : Nat) "ThousandLeaflets$Ways") := sb_2 (List.mem_of_getElem? (i := 14) rfl) rfl
theorem tw_255 : TW (Jvm.Cond.instantiable "ThousandLeaflets$Ways" (6 : Nat)) := sb_2 (List.mem_of_getElem? (i := 15) rfl) rfl
theorem tw_256 : TW (Jvm.Cond.methodLink "ThousandLeaflets" (73 : Nat) ({ cls := "ThousandLeaflets$Ways", name := "<init>", desc := "()V" } : Jvm.MethodName)) := sb_2 (List.mem_of_getElem? (i := 16) rfl) rfl
theorem tw_257 : TW (Jvm.Cond.instanceMethod ({ cls := "ThousandLeaflets$Ways", name := "<init>", desc := "()V" } : Jvm.MethodName)) := sb_2 (List.mem_of_getElem? (i := 17) rfl) rfl
theorem tw_258 : TW (Jvm.Cond.code ({ cls := "ThousandLeaflets$Ways", name := "<init>", desc := "()V" } : Jvm.MethodName) prog_12_method_1_code (2 : Nat) (Option.none : Option Jvm.ClassFile.FieldType)) := sb_2 (List.mem_of_getElem? (i := 18) rfl) rfl
theorem tw_259 : TW (Jvm.Cond.methodLink "ThousandLeaflets$Ways" (3 : Nat) ({ cls := "java/lang/Object", name := "<init>", desc := "()V" } : Jvm.MethodName)) := sb_2 (List.mem_of_getElem? (i := 19) rfl) rfl
theorem tw_260 : TW (Jvm.Cond.classLink "ThousandLeaflets$Ways" (9 : Nat) "ThousandLeaflets$Paper") := sb_2 (List.mem_of_getElem? (i := 20) rfl) rfl
theorem tw_261 : TW (Jvm.Cond.arrayOver (Jvm.ClassFile.FieldType.object "ThousandLeaflets$Paper")) := sb_2 (List.mem_of_getElem? (i := 21) rfl) rfl
theorem tw_262 : TW (Jvm.Cond.classLink "ThousandLeaflets$Ways" (21 : Nat) "ThousandLeaflets$Basis") := sb_2 (List.mem_of_getElem? (i := 22) rfl) rfl
theorem tw_263 : TW (Jvm.Cond.methodLinkNest "ThousandLeaflets$Ways" (27 : Nat) ({ cls := "ThousandLeaflets$Basis", name := "<init>", desc := "()V" } : Jvm.MethodName) "ThousandLeaflets") := sb_2 (List.mem_of_getElem? (i := 23) rfl) rfl
theorem tw_264 : TW (Jvm.Cond.fieldLink "ThousandLeaflets$Ways" (11 : Nat) "ThousandLeaflets$Ways" "nameless" "[LThousandLeaflets$Paper;") := sb_2 (List.mem_of_getElem? (i := 24) rfl) rfl
theorem tw_265 : TW (Jvm.Cond.fieldLink "ThousandLeaflets$Ways" (17 : Nat) "ThousandLeaflets$Ways" "places" "[I") := sb_2 (List.mem_of_getElem? (i := 25) rfl) rfl
theorem tw_266 : TW (Jvm.Cond.fieldLink "ThousandLeaflets$Ways" (23 : Nat) "ThousandLeaflets$Ways" "bases" "[LThousandLeaflets$Basis;") := sb_2 (List.mem_of_getElem? (i := 26) rfl) rfl
theorem tw_267 : TW (Jvm.Cond.fieldLink "ThousandLeaflets$Ways" (35 : Nat) "ThousandLeaflets$Ways" "size" "I") := sb_2 (List.mem_of_getElem? (i := 27) rfl) rfl
theorem tw_268 : TW (Jvm.Cond.fieldLink "ThousandLeaflets$Ways" (28 : Nat) "ThousandLeaflets$Ways" "everOf0" "I") := sb_2 (List.mem_of_getElem? (i := 28) rfl) rfl
theorem tw_269 : TW (Jvm.Cond.fieldLink "ThousandLeaflets$Ways" (32 : Nat) "ThousandLeaflets$Ways" "everOf1" "I") := sb_2 (List.mem_of_getElem? (i := 29) rfl) rfl
theorem tw_270 : TW (Jvm.Cond.laysFinal "ThousandLeaflets$Ways" "ThousandLeaflets$Ways" "nameless" "[LThousandLeaflets$Paper;") := sb_2 (List.mem_of_getElem? (i := 30) rfl) rfl
theorem tw_272 : TW (Jvm.Cond.laysFinal "ThousandLeaflets$Ways" "ThousandLeaflets$Ways" "places" "[I") := sb_2 (List.mem_of_getElem? (i := 32) rfl) rfl
theorem tw_274 : TW (Jvm.Cond.laysFinal "ThousandLeaflets$Ways" "ThousandLeaflets$Ways" "bases" "[LThousandLeaflets$Basis;") := sb_2 (List.mem_of_getElem? (i := 34) rfl) rfl
theorem tw_276 : TW (Jvm.Cond.lays "ThousandLeaflets$Ways" "ThousandLeaflets$Ways" "size" "I") := sb_2 (List.mem_of_getElem? (i := 36) rfl) rfl
theorem tw_278 : TW (Jvm.Cond.lays "ThousandLeaflets$Ways" "ThousandLeaflets$Ways" "everOf0" "I") := sb_2 (List.mem_of_getElem? (i := 38) rfl) rfl
theorem tw_280 : TW (Jvm.Cond.lays "ThousandLeaflets$Ways" "ThousandLeaflets$Ways" "everOf1" "I") := sb_2 (List.mem_of_getElem? (i := 40) rfl) rfl
theorem tw_283 : TW (Jvm.Cond.instantiable "ThousandLeaflets$Book" (7 : Nat)) := sb_2 (List.mem_of_getElem? (i := 43) rfl) rfl
theorem tw_284 : TW (Jvm.Cond.methodLink "ThousandLeaflets" (78 : Nat) ({ cls := "ThousandLeaflets$Book", name := "<init>", desc := "(I)V" } : Jvm.MethodName)) := sb_2 (List.mem_of_getElem? (i := 44) rfl) rfl
theorem tw_285 : TW (Jvm.Cond.instanceMethod ({ cls := "ThousandLeaflets$Book", name := "<init>", desc := "(I)V" } : Jvm.MethodName)) := sb_2 (List.mem_of_getElem? (i := 45) rfl) rfl
theorem tw_286 : TW (Jvm.Cond.code ({ cls := "ThousandLeaflets$Book", name := "<init>", desc := "(I)V" } : Jvm.MethodName) prog_3_method_1_code (2 : Nat) (Option.none : Option Jvm.ClassFile.FieldType)) := sb_2 (List.mem_of_getElem? (i := 46) rfl) rfl
theorem tw_287 : TW (Jvm.Cond.methodLink "ThousandLeaflets$Book" (3 : Nat) ({ cls := "java/lang/Object", name := "<init>", desc := "()V" } : Jvm.MethodName)) := sb_2 (List.mem_of_getElem? (i := 47) rfl) rfl
theorem tw_288 : TW (Jvm.Cond.classLink "ThousandLeaflets$Book" (15 : Nat) "ThousandLeaflets$Draw") := sb_2 (List.mem_of_getElem? (i := 48) rfl) rfl
theorem tw_289 : TW (Jvm.Cond.methodLink "ThousandLeaflets$Book" (17 : Nat) ({ cls := "ThousandLeaflets$Draw", name := "<init>", desc := "()V" } : Jvm.MethodName)) := sb_2 (List.mem_of_getElem? (i := 49) rfl) rfl
theorem tw_290 : TW (Jvm.Cond.fieldLink "ThousandLeaflets$Book" (25 : Nat) "ThousandLeaflets$Book" "index" "I") := sb_2 (List.mem_of_getElem? (i := 50) rfl) rfl
theorem tw_291 : TW (Jvm.Cond.fieldLink "ThousandLeaflets" (394 : Nat) "ThousandLeaflets$Book" "index" "I") := sb_2 (List.mem_of_getElem? (i := 51) rfl) rfl
theorem tw_292 : TW (Jvm.Cond.fieldLink "ThousandLeaflets$Book" (9 : Nat) "ThousandLeaflets$Book" "value" "[I") := sb_2 (List.mem_of_getElem? (i := 52) rfl) rfl
theorem tw_293 : TW (Jvm.Cond.fieldLink "ThousandLeaflets" (108 : Nat) "ThousandLeaflets$Book" "value" "[I") := sb_2 (List.mem_of_getElem? (i := 53) rfl) rfl
theorem tw_294 : TW (Jvm.Cond.fieldLink "ThousandLeaflets$Book" (18 : Nat) "ThousandLeaflets$Book" "draw" "LThousandLeaflets$Draw;") := sb_2 (List.mem_of_getElem? (i := 54) rfl) rfl
theorem tw_295 : TW (Jvm.Cond.fieldLink "ThousandLeaflets$Equations" (29 : Nat) "ThousandLeaflets$Book" "draw" "LThousandLeaflets$Draw;") := sb_2 (List.mem_of_getElem? (i := 55) rfl) rfl
theorem tw_296 : TW (Jvm.Cond.fieldLink "ThousandLeaflets" (354 : Nat) "ThousandLeaflets$Book" "draw" "LThousandLeaflets$Draw;") := sb_2 (List.mem_of_getElem? (i := 56) rfl) rfl
theorem tw_297 : TW (Jvm.Cond.fieldLink "ThousandLeaflets$Book" (22 : Nat) "ThousandLeaflets$Book" "drawn" "[I") := sb_2 (List.mem_of_getElem? (i := 57) rfl) rfl
theorem tw_298 : TW (Jvm.Cond.fieldLink "ThousandLeaflets$Book" (29 : Nat) "ThousandLeaflets$Book" "told" "Z") := sb_2 (List.mem_of_getElem? (i := 58) rfl) rfl
theorem tw_299 : TW (Jvm.Cond.fieldLink "ThousandLeaflets" (176 : Nat) "ThousandLeaflets$Book" "told" "Z") := sb_2 (List.mem_of_getElem? (i := 59) rfl) rfl
theorem tw_300 : TW (Jvm.Cond.fieldLink "ThousandLeaflets$Book" (33 : Nat) "ThousandLeaflets$Book" "pages" "I") := sb_2 (List.mem_of_getElem? (i := 60) rfl) rfl
theorem tw_301 : TW (Jvm.Cond.fieldLink "ThousandLeaflets$Equations" (43 : Nat) "ThousandLeaflets$Book" "pages" "I") := sb_2 (List.mem_of_getElem? (i := 61) rfl) rfl
theorem tw_302 : TW (Jvm.Cond.fieldLink "ThousandLeaflets" (100 : Nat) "ThousandLeaflets$Book" "pages" "I") := sb_2 (List.mem_of_getElem? (i := 62) rfl) rfl
theorem tw_303 : TW (Jvm.Cond.fieldLink "ThousandLeaflets$Book" (68 : Nat) "ThousandLeaflets$Book" "dice" "I") := sb_2 (List.mem_of_getElem? (i := 63) rfl) rfl
theorem tw_304 : TW (Jvm.Cond.laysFinal "ThousandLeaflets$Book" "ThousandLeaflets$Book" "index" "I") := sb_2 (List.mem_of_getElem? (i := 64) rfl) rfl
theorem tw_306 : TW (Jvm.Cond.laysFinal "ThousandLeaflets$Book" "ThousandLeaflets$Book" "value" "[I") := sb_2 (List.mem_of_getElem? (i := 66) rfl) rfl
theorem tw_308 : TW (Jvm.Cond.laysFinal "ThousandLeaflets$Book" "ThousandLeaflets$Book" "draw" "LThousandLeaflets$Draw;") := sb_2 (List.mem_of_getElem? (i := 68) rfl) rfl
theorem tw_310 : TW (Jvm.Cond.laysFinal "ThousandLeaflets$Book" "ThousandLeaflets$Book" "drawn" "[I") := sb_2 (List.mem_of_getElem? (i := 70) rfl) rfl
theorem tw_312 : TW (Jvm.Cond.lays "ThousandLeaflets$Book" "ThousandLeaflets$Book" "told" "Z") := sb_2 (List.mem_of_getElem? (i := 72) rfl) rfl
theorem tw_314 : TW (Jvm.Cond.lays "ThousandLeaflets$Book" "ThousandLeaflets$Book" "pages" "I") := sb_2 (List.mem_of_getElem? (i := 74) rfl) rfl
theorem tw_316 : TW (Jvm.Cond.lays "ThousandLeaflets$Book" "ThousandLeaflets$Book" "dice" "I") := sb_2 (List.mem_of_getElem? (i := 76) rfl) rfl
theorem tw_319 : TW (Jvm.Cond.instantiable "ThousandLeaflets$Heap" (2 : Nat)) := sb_2 (List.mem_of_getElem? (i := 79) rfl) rfl
theorem tw_320 : TW (Jvm.Cond.methodLinkNest "ThousandLeaflets" (81 : Nat) ({ cls := "ThousandLeaflets$Heap", name := "<init>", desc := "()V" } : Jvm.MethodName) "ThousandLeaflets") := sb_2 (List.mem_of_getElem? (i := 80) rfl) rfl
theorem tw_321 : TW (Jvm.Cond.instanceMethod ({ cls := "ThousandLeaflets$Heap", name := "<init>", desc := "()V" } : Jvm.MethodName)) := sb_2 (List.mem_of_getElem? (i := 81) rfl) rfl
theorem tw_322 : TW (Jvm.Cond.code ({ cls := "ThousandLeaflets$Heap", name := "<init>", desc := "()V" } : Jvm.MethodName) prog_8_method_1_code (1 : Nat) (Option.none : Option Jvm.ClassFile.FieldType)) := sb_2 (List.mem_of_getElem? (i := 82) rfl) rfl
theorem tw_323 : TW (Jvm.Cond.methodLink "ThousandLeaflets$Heap" (3 : Nat) ({ cls := "java/lang/Object", name := "<init>", desc := "()V" } : Jvm.MethodName)) := sb_2 (List.mem_of_getElem? (i := 83) rfl) rfl
theorem tw_324 : TW (Jvm.Cond.classLink "ThousandLeaflets$Heap" (9 : Nat) "ThousandLeaflets$Paper") := sb_2 (List.mem_of_getElem? (i := 84) rfl) rfl
theorem tw_325 : TW (Jvm.Cond.fieldLink "ThousandLeaflets$Heap" (11 : Nat) "ThousandLeaflets$Heap" "papers" "[LThousandLeaflets$Paper;") := sb_2 (List.mem_of_getElem? (i := 85) rfl) rfl
theorem tw_326 : TW (Jvm.Cond.fieldLink "ThousandLeaflets$Heap" (17 : Nat) "ThousandLeaflets$Heap" "size" "I") := sb_2 (List.mem_of_getElem? (i := 86) rfl) rfl
theorem tw_327 : TW (Jvm.Cond.fieldLink "ThousandLeaflets$Ways" (38 : Nat) "ThousandLeaflets$Heap" "size" "I") := sb_2 (List.mem_of_getElem? (i := 87) rfl) rfl
theorem tw_328 : TW (Jvm.Cond.fieldLink "ThousandLeaflets" (336 : Nat) "ThousandLeaflets$Heap" "size" "I") := sb_2 (List.mem_of_getElem? (i := 88) rfl) rfl
theorem tw_329 : TW (Jvm.Cond.laysFinal "ThousandLeaflets$Heap" "ThousandLeaflets$Heap" "papers" "[LThousandLeaflets$Paper;") := sb_2 (List.mem_of_getElem? (i := 89) rfl) rfl
theorem tw_331 : TW (Jvm.Cond.lays "ThousandLeaflets$Heap" "ThousandLeaflets$Heap" "size" "I") := sb_2 (List.mem_of_getElem? (i := 91) rfl) rfl
theorem tw_334 : TW (Jvm.Cond.methodLinkNest "ThousandLeaflets" (82 : Nat) ({ cls := "ThousandLeaflets$Equations", name := "<init>", desc := "()V" } : Jvm.MethodName) "ThousandLeaflets") := sb_2 (List.mem_of_getElem? (i := 94) rfl) rfl
theorem tw_335 : TW (Jvm.Cond.methodLinkNest "ThousandLeaflets" (83 : Nat) ({ cls := "ThousandLeaflets$Basis", name := "<init>", desc := "()V" } : Jvm.MethodName) "ThousandLeaflets") := sb_2 (List.mem_of_getElem? (i := 95) rfl) rfl
theorem tw_336 : TW (Jvm.Cond.fieldLink "ThousandLeaflets" (11 : Nat) "ThousandLeaflets" "books" "[LThousandLeaflets$Book;") := sb_2 (List.mem_of_getElem? (i := 96) rfl) rfl
theorem tw_337 : TW (Jvm.Cond.fieldLink "ThousandLeaflets" (17 : Nat) "ThousandLeaflets" "heaps" "[LThousandLeaflets$Heap;") := sb_2 (List.mem_of_getElem? (i := 97) rfl) rfl
theorem tw_338 : TW (Jvm.Cond.fieldLink "ThousandLeaflets" (21 : Nat) "ThousandLeaflets" "kept" "[LThousandLeaflets$Heap;") := sb_2 (List.mem_of_getElem? (i := 98) rfl) rfl
theorem tw_339 : TW (Jvm.Cond.fieldLink "ThousandLeaflets" (24 : Nat) "ThousandLeaflets" "marked" "[Z") := sb_2 (List.mem_of_getElem? (i := 99) rfl) rfl
theorem tw_340 : TW (Jvm.Cond.fieldLink "ThousandLeaflets" (28 : Nat) "ThousandLeaflets" "burns" "[I") := sb_2 (List.mem_of_getElem? (i := 100) rfl) rfl
theorem tw_341 : TW (Jvm.Cond.fieldLink "ThousandLeaflets" (32 : Nat) "ThousandLeaflets" "houses" "[I") := sb_2 (List.mem_of_getElem? (i := 101) rfl) rfl
theorem tw_342 : TW (Jvm.Cond.fieldLink "ThousandLeaflets" (35 : Nat) "ThousandLeaflets" "needed" "[I") := sb_2 (List.mem_of_getElem? (i := 102) rfl) rfl
theorem tw_343 : TW (Jvm.Cond.fieldLink "ThousandLeaflets" (41 : Nat) "ThousandLeaflets" "reader" "LThousandLeaflets$DrawReader;") := sb_2 (List.mem_of_getElem? (i := 103) rfl) rfl
theorem tw_344 : TW (Jvm.Cond.fieldLink "ThousandLeaflets" (47 : Nat) "ThousandLeaflets" "equations" "[LThousandLeaflets$Equations;") := sb_2 (List.mem_of_getElem? (i := 104) rfl) rfl
theorem tw_345 : TW (Jvm.Cond.fieldLink "ThousandLeaflets" (53 : Nat) "ThousandLeaflets" "bases" "[LThousandLeaflets$Basis;") := sb_2 (List.mem_of_getElem? (i := 105) rfl) rfl
theorem tw_346 : TW (Jvm.Cond.fieldLink "ThousandLeaflets" (60 : Nat) "ThousandLeaflets" "sets" "LThousandLeaflets$Sets;") := sb_2 (List.mem_of_getElem? (i := 106) rfl) rfl
theorem tw_347 : TW (Jvm.Cond.fieldLink "ThousandLeaflets" (67 : Nat) "ThousandLeaflets" "coming" "LThousandLeaflets$Coming;") := sb_2 (List.mem_of_getElem? (i := 107) rfl) rfl
theorem tw_348 : TW (Jvm.Cond.fieldLink "ThousandLeaflets" (74 : Nat) "ThousandLeaflets" "ways" "LThousandLeaflets$Ways;") := sb_2 (List.mem_of_getElem? (i := 108) rfl) rfl
theorem tw_349 : TW (Jvm.Cond.fieldLink "ThousandLeaflets" (348 : Nat) "ThousandLeaflets" "thrownOut" "I") := sb_2 (List.mem_of_getElem? (i := 109) rfl) rfl
theorem tw_350 : TW (Jvm.Cond.laysFinal "ThousandLeaflets" "ThousandLeaflets" "books" "[LThousandLeaflets$Book;") := sb_2 (List.mem_of_getElem? (i := 110) rfl) rfl
theorem tw_352 : TW (Jvm.Cond.laysFinal "ThousandLeaflets" "ThousandLeaflets" "heaps" "[LThousandLeaflets$Heap;") := sb_2 (List.mem_of_getElem? (i := 112) rfl) rfl
theorem tw_354 : TW (Jvm.Cond.laysFinal "ThousandLeaflets" "ThousandLeaflets" "kept" "[LThousandLeaflets$Heap;") := sb_2 (List.mem_of_getElem? (i := 114) rfl) rfl
theorem tw_356 : TW (Jvm.Cond.laysFinal "ThousandLeaflets" "ThousandLeaflets" "marked" "[Z") := sb_2 (List.mem_of_getElem? (i := 116) rfl) rfl
theorem tw_358 : TW (Jvm.Cond.laysFinal "ThousandLeaflets" "ThousandLeaflets" "burns" "[I") := sb_2 (List.mem_of_getElem? (i := 118) rfl) rfl
theorem tw_360 : TW (Jvm.Cond.laysFinal "ThousandLeaflets" "ThousandLeaflets" "houses" "[I") := sb_2 (List.mem_of_getElem? (i := 120) rfl) rfl
theorem tw_362 : TW (Jvm.Cond.laysFinal "ThousandLeaflets" "ThousandLeaflets" "needed" "[I") := sb_2 (List.mem_of_getElem? (i := 122) rfl) rfl
theorem tw_364 : TW (Jvm.Cond.laysFinal "ThousandLeaflets" "ThousandLeaflets" "reader" "LThousandLeaflets$DrawReader;") := sb_2 (List.mem_of_getElem? (i := 124) rfl) rfl
theorem tw_366 : TW (Jvm.Cond.laysFinal "ThousandLeaflets" "ThousandLeaflets" "equations" "[LThousandLeaflets$Equations;") := sb_2 (List.mem_of_getElem? (i := 126) rfl) rfl
theorem tw_368 : TW (Jvm.Cond.laysFinal "ThousandLeaflets" "ThousandLeaflets" "bases" "[LThousandLeaflets$Basis;") := sb_2 (List.mem_of_getElem? (i := 128) rfl) rfl
theorem tw_370 : TW (Jvm.Cond.laysFinal "ThousandLeaflets" "ThousandLeaflets" "sets" "LThousandLeaflets$Sets;") := sb_2 (List.mem_of_getElem? (i := 130) rfl) rfl
theorem tw_372 : TW (Jvm.Cond.laysFinal "ThousandLeaflets" "ThousandLeaflets" "coming" "LThousandLeaflets$Coming;") := sb_2 (List.mem_of_getElem? (i := 132) rfl) rfl
theorem tw_374 : TW (Jvm.Cond.laysFinal "ThousandLeaflets" "ThousandLeaflets" "ways" "LThousandLeaflets$Ways;") := sb_2 (List.mem_of_getElem? (i := 134) rfl) rfl
theorem tw_376 : TW (Jvm.Cond.lays "ThousandLeaflets" "ThousandLeaflets" "thrownOut" "I") := sb_2 (List.mem_of_getElem? (i := 136) rfl) rfl
theorem tw_379 : TW (Jvm.Cond.methodLink "ThousandLeafletsLaw" (19 : Nat) ({ cls := "ThousandLeaflets", name := "book", desc := "(II)Z" } : Jvm.MethodName)) := sb_2 (List.mem_of_getElem? (i := 139) rfl) rfl
theorem tw_380 : TW (Jvm.Cond.instanceMethod ({ cls := "ThousandLeaflets", name := "book", desc := "(II)Z" } : Jvm.MethodName)) := sb_2 (List.mem_of_getElem? (i := 140) rfl) rfl
theorem tw_381 : TW (Jvm.Cond.selects "ThousandLeaflets" ({ cls := "ThousandLeaflets", name := "book", desc := "(II)Z" } : Jvm.MethodName) ({ cls := "ThousandLeaflets", name := "book", desc := "(II)Z" } : Jvm.MethodName)) := sb_2 (List.mem_of_getElem? (i := 141) rfl) rfl
theorem tw_382 : TW (Jvm.Cond.code ({ cls := "ThousandLeaflets", name := "book", desc := "(II)Z" } : Jvm.MethodName) prog_1_method_2_code (4 : Nat) (Option.some Jvm.ClassFile.FieldType.boolean)) := sb_2 (List.mem_of_getElem? (i := 142) rfl) rfl
theorem tw_383 : TW (Jvm.Cond.methodLink "ThousandLeaflets" (84 : Nat) ({ cls := "ThousandLeaflets", name := "isBook", desc := "(I)Z" } : Jvm.MethodName)) := sb_2 (List.mem_of_getElem? (i := 143) rfl) rfl
theorem tw_384 : TW (Jvm.Cond.static ({ cls := "ThousandLeaflets", name := "isBook", desc := "(I)Z" } : Jvm.MethodName)) := sb_2 (List.mem_of_getElem? (i := 144) rfl) rfl
theorem tw_385 : TW (Jvm.Cond.code ({ cls := "ThousandLeaflets", name := "isBook", desc := "(I)Z" } : Jvm.MethodName) prog_1_method_35_code (1 : Nat) (Option.some Jvm.ClassFile.FieldType.boolean)) := sb_2 (List.mem_of_getElem? (i := 145) rfl) rfl
theorem tw_386 : TW (Jvm.Cond.methodLink "ThousandLeaflets" (88 : Nat) ({ cls := "ThousandLeaflets$Book", name := "tell", desc := "(I)V" } : Jvm.MethodName)) := sb_2 (List.mem_of_getElem? (i := 146) rfl) rfl
theorem tw_387 : TW (Jvm.Cond.instanceMethod ({ cls := "ThousandLeaflets$Book", name := "tell", desc := "(I)V" } : Jvm.MethodName)) := sb_2 (List.mem_of_getElem? (i := 147) rfl) rfl
theorem tw_388 : TW (Jvm.Cond.selects "ThousandLeaflets$Book" ({ cls := "ThousandLeaflets$Book", name := "tell", desc := "(I)V" } : Jvm.MethodName) ({ cls := "ThousandLeaflets$Book", name := "tell", desc := "(I)V" } : Jvm.MethodName)) := sb_2 (List.mem_of_getElem? (i := 148) rfl) rfl
theorem tw_389 : TW (Jvm.Cond.code ({ cls := "ThousandLeaflets$Book", name := "tell", desc := "(I)V" } : Jvm.MethodName) prog_3_method_2_code (3 : Nat) (Option.none : Option Jvm.ClassFile.FieldType)) := sb_2 (List.mem_of_getElem? (i := 149) rfl) rfl
theorem tw_390 : TW (Jvm.Cond.methodLink "ThousandLeaflets$Book" (36 : Nat) ({ cls := "ThousandLeaflets$Draw", name := "clear", desc := "()V" } : Jvm.MethodName)) := sb_2 (List.mem_of_getElem? (i := 150) rfl) rfl
theorem tw_391 : TW (Jvm.Cond.methodLink "ThousandLeaflets$Book" (39 : Nat) ({ cls := "ThousandLeaflets$Book", name := "forgetDrawn", desc := "()V" } : Jvm.MethodName)) := sb_2 (List.mem_of_getElem? (i := 151) rfl) rfl
theorem tw_393 : TW (Jvm.Cond.instanceMethod ({ cls := "ThousandLeaflets$Book", name := "forgetDrawn", desc := "()V" } : Jvm.MethodName)) := sb_2 (List.mem_of_getElem? (i := 153) rfl) rfl
theorem tw_394 : TW (Jvm.Cond.code ({ cls := "ThousandLeaflets$Book", name := "forgetDrawn", desc := "()V" } : Jvm.MethodName) prog_3_method_4_code (2 : Nat) (Option.none : Option Jvm.ClassFile.FieldType)) := sb_2 (List.mem_of_getElem? (i := 154) rfl) rfl
theorem tw_395 : TW (Jvm.Cond.methodLink "ThousandLeaflets" (91 : Nat) ({ cls := "ThousandLeaflets$Heap", name := "dropTouching", desc := "(I)V" } : Jvm.MethodName)) := sb_2 (List.mem_of_getElem? (i := 155) rfl) rfl
theorem tw_396 : TW (Jvm.Cond.instanceMethod ({ cls := "ThousandLeaflets$Heap", name := "dropTouching", desc := "(I)V" } : Jvm.MethodName)) := sb_2 (List.mem_of_getElem? (i := 156) rfl) rfl
theorem tw_397 : TW (Jvm.Cond.selects "ThousandLeaflets$Heap" ({ cls := "ThousandLeaflets$Heap", name := "dropTouching", desc := "(I)V" } : Jvm.MethodName) ({ cls := "ThousandLeaflets$Heap", name := "dropTouching", desc := "(I)V" } : Jvm.MethodName)) := sb_2 (List.mem_of_getElem? (i := 157) rfl) rfl
theorem tw_398 : TW (Jvm.Cond.code ({ cls := "ThousandLeaflets$Heap", name := "dropTouching", desc := "(I)V" } : Jvm.MethodName) prog_8_method_9_code (4 : Nat) (Option.none : Option Jvm.ClassFile.FieldType)) := sb_2 (List.mem_of_getElem? (i := 158) rfl) rfl
theorem tw_399 : TW (Jvm.Cond.methodLink "ThousandLeaflets$Heap" (32 : Nat) ({ cls := "ThousandLeaflets$Heap", name := "isTouching", desc := "(LThousandLeaflets$Paper;I)Z" } : Jvm.MethodName)) := sb_2 (List.mem_of_getElem? (i := 159) rfl) rfl
theorem tw_400 : TW (Jvm.Cond.static ({ cls := "ThousandLeaflets$Heap", name := "isTouching", desc := "(LThousandLeaflets$Paper;I)Z" } : Jvm.MethodName)) := sb_2 (List.mem_of_getElem? (i := 160) rfl) rfl
theorem tw_401 : TW (Jvm.Cond.code ({ cls := "ThousandLeaflets$Heap", name := "isTouching", desc := "(LThousandLeaflets$Paper;I)Z" } : Jvm.MethodName) prog_8_method_7_code (2 : Nat) (Option.some Jvm.ClassFile.FieldType.boolean)) := sb_2 (List.mem_of_getElem? (i := 161) rfl) rfl
theorem tw_402 : TW (Jvm.Cond.methodLink "ThousandLeaflets" (94 : Nat) ({ cls := "ThousandLeaflets", name := "forgetMarks", desc := "()V" } : Jvm.MethodName)) := sb_2 (List.mem_of_getElem? (i := 162) rfl) rfl
theorem tw_404 : TW (Jvm.Cond.instanceMethod ({ cls := "ThousandLeaflets", name := "forgetMarks", desc := "()V" } : Jvm.MethodName)) := sb_2 (List.mem_of_getElem? (i := 164) rfl) rfl
theorem tw_405 : TW (Jvm.Cond.code ({ cls := "ThousandLeaflets", name := "forgetMarks", desc := "()V" } : Jvm.MethodName) prog_1_method_47_code (2 : Nat) (Option.none : Option Jvm.ClassFile.FieldType)) := sb_2 (List.mem_of_getElem? (i := 165) rfl) rfl
theorem tw_406 : TW (Jvm.Cond.methodLink "ThousandLeafletsLaw" (24 : Nat) ({ cls := "ThousandLeaflets", name := "page", desc := "(III)Z" } : Jvm.MethodName)) := sb_2 (List.mem_of_getElem? (i := 166) rfl) rfl
theorem tw_407 : TW (Jvm.Cond.instanceMethod ({ cls := "ThousandLeaflets", name := "page", desc := "(III)Z" } : Jvm.MethodName)) := sb_2 (List.mem_of_getElem? (i := 167) rfl) rfl
theorem tw_408 : TW (Jvm.Cond.selects "ThousandLeaflets" ({ cls := "ThousandLeaflets", name := "page", desc := "(III)Z" } : Jvm.MethodName) ({ cls := "ThousandLeaflets", name := "page", desc := "(III)Z" } : Jvm.MethodName)) := sb_2 (List.mem_of_getElem? (i := 168) rfl) rfl
theorem tw_409 : TW (Jvm.Cond.code ({ cls := "ThousandLeaflets", name := "page", desc := "(III)Z" } : Jvm.MethodName) prog_1_method_3_code (4 : Nat) (Option.some Jvm.ClassFile.FieldType.boolean)) := sb_2 (List.mem_of_getElem? (i := 169) rfl) rfl
theorem tw_410 : TW (Jvm.Cond.methodLink "ThousandLeaflets" (97 : Nat) ({ cls := "ThousandLeaflets", name := "isTold", desc := "(I)Z" } : Jvm.MethodName)) := sb_2 (List.mem_of_getElem? (i := 170) rfl) rfl
theorem tw_412 : TW (Jvm.Cond.instanceMethod ({ cls := "ThousandLeaflets", name := "isTold", desc := "(I)Z" } : Jvm.MethodName)) := sb_2 (List.mem_of_getElem? (i := 172) rfl) rfl
theorem tw_413 : TW (Jvm.Cond.code ({ cls := "ThousandLeaflets", name := "isTold", desc := "(I)Z" } : Jvm.MethodName) prog_1_method_41_code (2 : Nat) (Option.some Jvm.ClassFile.FieldType.boolean)) := sb_2 (List.mem_of_getElem? (i := 173) rfl) rfl
theorem tw_414 : TW (Jvm.Cond.constant "ThousandLeaflets" (104 : Nat) (65535 : Int32)) := sb_2 (List.mem_of_getElem? (i := 174) rfl) rfl
theorem tw_415 : TW (Jvm.Cond.methodLink "ThousandLeaflets" (105 : Nat) ({ cls := "ThousandLeaflets", name := "isTouched", desc := "(I)Z" } : Jvm.MethodName)) := sb_2 (List.mem_of_getElem? (i := 175) rfl) rfl
theorem tw_417 : TW (Jvm.Cond.instanceMethod ({ cls := "ThousandLeaflets", name := "isTouched", desc := "(I)Z" } : Jvm.MethodName)) := sb_2 (List.mem_of_getElem? (i := 177) rfl) rfl
theorem tw_418 : TW (Jvm.Cond.code ({ cls := "ThousandLeaflets", name := "isTouched", desc := "(I)Z" } : Jvm.MethodName) prog_1_method_44_code (3 : Nat) (Option.some Jvm.ClassFile.FieldType.boolean)) := sb_2 (List.mem_of_getElem? (i := 178) rfl) rfl
theorem tw_419 : TW (Jvm.Cond.methodLink "ThousandLeaflets" (351 : Nat) ({ cls := "ThousandLeaflets$Heap", name := "touches", desc := "(I)Z" } : Jvm.MethodName)) := sb_2 (List.mem_of_getElem? (i := 179) rfl) rfl
theorem tw_420 : TW (Jvm.Cond.instanceMethod ({ cls := "ThousandLeaflets$Heap", name := "touches", desc := "(I)Z" } : Jvm.MethodName)) := sb_2 (List.mem_of_getElem? (i := 180) rfl) rfl
theorem tw_421 : TW (Jvm.Cond.selects "ThousandLeaflets$Heap" ({ cls := "ThousandLeaflets$Heap", name := "touches", desc := "(I)Z" } : Jvm.MethodName) ({ cls := "ThousandLeaflets$Heap", name := "touches", desc := "(I)Z" } : Jvm.MethodName)) := sb_2 (List.mem_of_getElem? (i := 181) rfl) rfl
theorem tw_422 : TW (Jvm.Cond.code ({ cls := "ThousandLeaflets$Heap", name := "touches", desc := "(I)Z" } : Jvm.MethodName) prog_8_method_6_code (3 : Nat) (Option.some Jvm.ClassFile.FieldType.boolean)) := sb_2 (List.mem_of_getElem? (i := 182) rfl) rfl
theorem tw_423 : TW (Jvm.Cond.methodLink "ThousandLeafletsLaw" (31 : Nat) ({ cls := "ThousandLeaflets", name := "feed", desc := "(JJJ)I" } : Jvm.MethodName)) := sb_2 (List.mem_of_getElem? (i := 183) rfl) rfl
theorem tw_424 : TW (Jvm.Cond.instanceMethod ({ cls := "ThousandLeaflets", name := "feed", desc := "(JJJ)I" } : Jvm.MethodName)) := sb_2 (List.mem_of_getElem? (i := 184) rfl) rfl
theorem tw_425 : TW (Jvm.Cond.selects "ThousandLeaflets" ({ cls := "ThousandLeaflets", name := "feed", desc := "(JJJ)I" } : Jvm.MethodName) ({ cls := "ThousandLeaflets", name := "feed", desc := "(JJJ)I" } : Jvm.MethodName)) := sb_2 (List.mem_of_getElem? (i := 185) rfl) rfl
theorem tw_426 : TW (Jvm.Cond.code ({ cls := "ThousandLeaflets", name := "feed", desc := "(JJJ)I" } : Jvm.MethodName) prog_1_method_4_code (8 : Nat) (Option.some Jvm.ClassFile.FieldType.int)) := sb_2 (List.mem_of_getElem? (i := 186) rfl) rfl
theorem tw_427 : TW (Jvm.Cond.methodLink "ThousandLeaflets" (115 : Nat) ({ cls := "ThousandLeaflets$Tape", name := "takeEight", desc := "(J)V" } : Jvm.MethodName)) := sb_2 (List.mem_of_getElem? (i := 187) rfl) rfl
theorem tw_428 : TW (Jvm.Cond.instanceMethod ({ cls := "ThousandLeaflets$Tape", name := "takeEight", desc := "(J)V" } : Jvm.MethodName)) := sb_2 (List.mem_of_getElem? (i := 188) rfl) rfl
theorem tw_429 : TW (Jvm.Cond.selects "ThousandLeaflets$Tape" ({ cls := "ThousandLeaflets$Tape", name := "takeEight", desc := "(J)V" } : Jvm.MethodName) ({ cls := "ThousandLeaflets$Tape", name := "takeEight", desc := "(J)V" } : Jvm.MethodName)) := sb_2 (List.mem_of_getElem? (i := 189) rfl) rfl
theorem tw_430 : TW (Jvm.Cond.code ({ cls := "ThousandLeaflets$Tape", name := "takeEight", desc := "(J)V" } : Jvm.MethodName) prog_11_method_2_code (5 : Nat) (Option.none : Option Jvm.ClassFile.FieldType)) := sb_2 (List.mem_of_getElem? (i := 190) rfl) rfl
theorem tw_431 : TW (Jvm.Cond.methodLink "ThousandLeafletsLaw" (36 : Nat) ({ cls := "ThousandLeaflets", name := "draw", desc := "(I)I" } : Jvm.MethodName)) := sb_2 (List.mem_of_getElem? (i := 191) rfl) rfl
theorem tw_432 : TW (Jvm.Cond.instanceMethod ({ cls := "ThousandLeaflets", name := "draw", desc := "(I)I" } : Jvm.MethodName)) := sb_2 (List.mem_of_getElem? (i := 192) rfl) rfl
theorem tw_433 : TW (Jvm.Cond.selects "ThousandLeaflets" ({ cls := "ThousandLeaflets", name := "draw", desc := "(I)I" } : Jvm.MethodName) ({ cls := "ThousandLeaflets", name := "draw", desc := "(I)I" } : Jvm.MethodName)) := sb_2 (List.mem_of_getElem? (i := 193) rfl) rfl
theorem tw_434 : TW (Jvm.Cond.code ({ cls := "ThousandLeaflets", name := "draw", desc := "(I)I" } : Jvm.MethodName) prog_1_method_5_code (3 : Nat) (Option.some Jvm.ClassFile.FieldType.int)) := sb_2 (List.mem_of_getElem? (i := 194) rfl) rfl
theorem tw_435 : TW (Jvm.Cond.methodLink "ThousandLeaflets" (124 : Nat) ({ cls := "ThousandLeaflets$DrawReader", name := "faultFor", desc := "(I)I" } : Jvm.MethodName)) := sb_2 (List.mem_of_getElem? (i := 195) rfl) rfl
theorem tw_436 : TW (Jvm.Cond.instanceMethod ({ cls := "ThousandLeaflets$DrawReader", name := "faultFor", desc := "(I)I" } : Jvm.MethodName)) := sb_2 (List.mem_of_getElem? (i := 196) rfl) rfl
theorem tw_437 : TW (Jvm.Cond.selects "ThousandLeaflets$DrawReader" ({ cls := "ThousandLeaflets$DrawReader", name := "faultFor", desc := "(I)I" } : Jvm.MethodName) ({ cls := "ThousandLeaflets$DrawReader", name := "faultFor", desc := "(I)I" } : Jvm.MethodName)) := sb_2 (List.mem_of_getElem? (i := 197) rfl) rfl
theorem tw_438 : TW (Jvm.Cond.code ({ cls := "ThousandLeaflets$DrawReader", name := "faultFor", desc := "(I)I" } : Jvm.MethodName) prog_6_method_2_code (4 : Nat) (Option.some Jvm.ClassFile.FieldType.int)) := sb_2 (List.mem_of_getElem? (i := 198) rfl) rfl
theorem tw_439 : TW (Jvm.Cond.methodLink "ThousandLeaflets$DrawReader" (25 : Nat) ({ cls := "ThousandLeaflets$Draw", name := "clear", desc := "()V" } : Jvm.MethodName)) := sb_2 (List.mem_of_getElem? (i := 199) rfl) rfl
theorem tw_440 : TW (Jvm.Cond.methodLink "ThousandLeaflets$DrawReader" (28 : Nat) ({ cls := "ThousandLeaflets$Tape", name := "rewind", desc := "()V" } : Jvm.MethodName)) := sb_2 (List.mem_of_getElem? (i := 200) rfl) rfl
theorem tw_441 : TW (Jvm.Cond.instanceMethod ({ cls := "ThousandLeaflets$Tape", name := "rewind", desc := "()V" } : Jvm.MethodName)) := sb_2 (List.mem_of_getElem? (i := 201) rfl) rfl
theorem tw_442 : TW (Jvm.Cond.selects "ThousandLeaflets$Tape" ({ cls := "ThousandLeaflets$Tape", name := "rewind", desc := "()V" } : Jvm.MethodName) ({ cls := "ThousandLeaflets$Tape", name := "rewind", desc := "()V" } : Jvm.MethodName)) := sb_2 (List.mem_of_getElem? (i := 202) rfl) rfl
theorem tw_443 : TW (Jvm.Cond.code ({ cls := "ThousandLeaflets$Tape", name := "rewind", desc := "()V" } : Jvm.MethodName) prog_11_method_3_code (1 : Nat) (Option.none : Option Jvm.ClassFile.FieldType)) := sb_2 (List.mem_of_getElem? (i := 203) rfl) rfl
theorem tw_444 : TW (Jvm.Cond.methodLink "ThousandLeaflets$DrawReader" (31 : Nat) ({ cls := "ThousandLeaflets$Tape", name := "next", desc := "()V" } : Jvm.MethodName)) := sb_2 (List.mem_of_getElem? (i := 204) rfl) rfl
theorem tw_445 : TW (Jvm.Cond.instanceMethod ({ cls := "ThousandLeaflets$Tape", name := "next", desc := "()V" } : Jvm.MethodName)) := sb_2 (List.mem_of_getElem? (i := 205) rfl) rfl
theorem tw_446 : TW (Jvm.Cond.selects "ThousandLeaflets$Tape" ({ cls := "ThousandLeaflets$Tape", name := "next", desc := "()V" } : Jvm.MethodName) ({ cls := "ThousandLeaflets$Tape", name := "next", desc := "()V" } : Jvm.MethodName)) := sb_2 (List.mem_of_getElem? (i := 206) rfl) rfl
theorem tw_447 : TW (Jvm.Cond.code ({ cls := "ThousandLeaflets$Tape", name := "next", desc := "()V" } : Jvm.MethodName) prog_11_method_4_code (2 : Nat) (Option.none : Option Jvm.ClassFile.FieldType)) := sb_2 (List.mem_of_getElem? (i := 207) rfl) rfl
theorem tw_448 : TW (Jvm.Cond.methodLink "ThousandLeaflets$Tape" (28 : Nat) ({ cls := "ThousandLeaflets$Tape", name := "takeRun", desc := "(II)V" } : Jvm.MethodName)) := sb_2 (List.mem_of_getElem? (i := 208) rfl) rfl
theorem tw_450 : TW (Jvm.Cond.instanceMethod ({ cls := "ThousandLeaflets$Tape", name := "takeRun", desc := "(II)V" } : Jvm.MethodName)) := sb_2 (List.mem_of_getElem? (i := 210) rfl) rfl
theorem tw_451 : TW (Jvm.Cond.code ({ cls := "ThousandLeaflets$Tape", name := "takeRun", desc := "(II)V" } : Jvm.MethodName) prog_11_method_5_code (3 : Nat) (Option.none : Option Jvm.ClassFile.FieldType)) := sb_2 (List.mem_of_getElem? (i := 211) rfl) rfl
theorem tw_452 : TW (Jvm.Cond.methodLink "ThousandLeaflets$Tape" (32 : Nat) ({ cls := "ThousandLeaflets$Tape", name := "numberHere", desc := "()I" } : Jvm.MethodName)) := sb_2 (List.mem_of_getElem? (i := 212) rfl) rfl
theorem tw_454 : TW (Jvm.Cond.instanceMethod ({ cls := "ThousandLeaflets$Tape", name := "numberHere", desc := "()I" } : Jvm.MethodName)) := sb_2 (List.mem_of_getElem? (i := 214) rfl) rfl
theorem tw_455 : TW (Jvm.Cond.code ({ cls := "ThousandLeaflets$Tape", name := "numberHere", desc := "()I" } : Jvm.MethodName) prog_11_method_6_code (3 : Nat) (Option.some Jvm.ClassFile.FieldType.int)) := sb_2 (List.mem_of_getElem? (i := 215) rfl) rfl
theorem tw_456 : TW (Jvm.Cond.methodLink "ThousandLeaflets$DrawReader" (38 : Nat) ({ cls := "ThousandLeaflets$DrawReader", name := "statementFault", desc := "(I)I" } : Jvm.MethodName)) := sb_2 (List.mem_of_getElem? (i := 216) rfl) rfl
theorem tw_458 : TW (Jvm.Cond.instanceMethod ({ cls := "ThousandLeaflets$DrawReader", name := "statementFault", desc := "(I)I" } : Jvm.MethodName)) := sb_2 (List.mem_of_getElem? (i := 218) rfl) rfl
theorem tw_459 : TW (Jvm.Cond.code ({ cls := "ThousandLeaflets$DrawReader", name := "statementFault", desc := "(I)I" } : Jvm.MethodName) prog_6_method_3_code (2 : Nat) (Option.some Jvm.ClassFile.FieldType.int)) := sb_2 (List.mem_of_getElem? (i := 219) rfl) rfl
theorem tw_461 : TW (Jvm.Cond.methodLink "ThousandLeaflets$DrawReader" (44 : Nat) ({ cls := "ThousandLeaflets$Tape", name := "isWord", desc := "(Ljava/lang/String;)Z" } : Jvm.MethodName)) := sb_2 (List.mem_of_getElem? (i := 221) rfl) rfl
theorem tw_462 : TW (Jvm.Cond.instanceMethod ({ cls := "ThousandLeaflets$Tape", name := "isWord", desc := "(Ljava/lang/String;)Z" } : Jvm.MethodName)) := sb_2 (List.mem_of_getElem? (i := 222) rfl) rfl
theorem tw_463 : TW (Jvm.Cond.selects "ThousandLeaflets$Tape" ({ cls := "ThousandLeaflets$Tape", name := "isWord", desc := "(Ljava/lang/String;)Z" } : Jvm.MethodName) ({ cls := "ThousandLeaflets$Tape", name := "isWord", desc := "(Ljava/lang/String;)Z" } : Jvm.MethodName)) := sb_2 (List.mem_of_getElem? (i := 223) rfl) rfl
theorem tw_464 : TW (Jvm.Cond.code ({ cls := "ThousandLeaflets$Tape", name := "isWord", desc := "(Ljava/lang/String;)Z" } : Jvm.MethodName) prog_11_method_7_code (3 : Nat) (Option.some Jvm.ClassFile.FieldType.boolean)) := sb_2 (List.mem_of_getElem? (i := 224) rfl) rfl
theorem tw_465 : TW (Jvm.Cond.methodLink "ThousandLeaflets$Tape" (39 : Nat) ({ cls := "java/lang/String", name := "length", desc := "()I" } : Jvm.MethodName)) := sb_2 (List.mem_of_getElem? (i := 225) rfl) rfl
theorem tw_468 : TW (Jvm.Cond.code ({ cls := "java/lang/String", name := "length", desc := "()I" } : Jvm.MethodName) prog_20_method_54_code (1 : Nat) (Option.some Jvm.ClassFile.FieldType.int)) := sb_2 (List.mem_of_getElem? (i := 228) rfl) rfl
theorem tw_469 : TW (Jvm.Cond.methodLink "java/lang/String" (335 : Nat) ({ cls := "java/lang/String", name := "coder", desc := "()B" } : Jvm.MethodName)) := sb_2 (List.mem_of_getElem? (i := 229) rfl) rfl
theorem tw_472 : TW (Jvm.Cond.code ({ cls := "java/lang/String", name := "coder", desc := "()B" } : Jvm.MethodName) prog_20_method_152_code (1 : Nat) (Option.some Jvm.ClassFile.FieldType.byte)) := sb_2 (List.mem_of_getElem? (i := 232) rfl) rfl
theorem tw_475 : TW (Jvm.Cond.methodLink "ThousandLeaflets$Tape" (43 : Nat) ({ cls := "java/lang/String", name := "charAt", desc := "(I)C" } : Jvm.MethodName)) := sb_2 (List.mem_of_getElem? (i := 235) rfl) rfl
theorem tw_478 : TW (Jvm.Cond.code ({ cls := "java/lang/String", name := "charAt", desc := "(I)C" } : Jvm.MethodName) prog_20_method_56_code (2 : Nat) (Option.some Jvm.ClassFile.FieldType.char)) := sb_2 (List.mem_of_getElem? (i := 238) rfl) rfl
theorem tw_479 : TW (Jvm.Cond.methodLink "java/lang/String" (492 : Nat) ({ cls := "java/lang/String", name := "isLatin1", desc := "()Z" } : Jvm.MethodName)) := sb_2 (List.mem_of_getElem? (i := 239) rfl) rfl
theorem tw_482 : TW (Jvm.Cond.code ({ cls := "java/lang/String", name := "isLatin1", desc := "()Z" } : Jvm.MethodName) prog_20_method_154_code (1 : Nat) (Option.some Jvm.ClassFile.FieldType.boolean)) := sb_3 (List.mem_of_getElem? (i := 2) rfl) rfl
theorem tw_483 : TW (Jvm.Cond.methodLink "java/lang/String" (495 : Nat) ({ cls := "java/lang/StringLatin1", name := "charAt", desc := "([BI)C" } : Jvm.MethodName)) := sb_3 (List.mem_of_getElem? (i := 3) rfl) rfl
theorem tw_484 : TW (Jvm.Cond.static ({ cls := "java/lang/StringLatin1", name := "charAt", desc := "([BI)C" } : Jvm.MethodName)) := sb_3 (List.mem_of_getElem? (i := 4) rfl) rfl
theorem tw_485 : TW (Jvm.Cond.code ({ cls := "java/lang/StringLatin1", name := "charAt", desc := "([BI)C" } : Jvm.MethodName) prog_21_method_2_code (2 : Nat) (Option.some Jvm.ClassFile.FieldType.char)) := sb_3 (List.mem_of_getElem? (i := 5) rfl) rfl
theorem tw_486 : TW (Jvm.Cond.methodLink "java/lang/StringLatin1" (9 : Nat) ({ cls := "java/lang/String", name := "checkIndex", desc := "(II)V" } : Jvm.MethodName)) := sb_3 (List.mem_of_getElem? (i := 6) rfl) rfl
theorem tw_487 : TW (Jvm.Cond.static ({ cls := "java/lang/String", name := "checkIndex", desc := "(II)V" } : Jvm.MethodName)) := sb_3 (List.mem_of_getElem? (i := 7) rfl) rfl
theorem tw_488 : TW (Jvm.Cond.code ({ cls := "java/lang/String", name := "checkIndex", desc := "(II)V" } : Jvm.MethodName) prog_20_method_155_code (2 : Nat) (Option.none : Option Jvm.ClassFile.FieldType)) := sb_3 (List.mem_of_getElem? (i := 8) rfl) rfl
theorem tw_491 : TW (Jvm.Cond.methodLink "java/lang/String" (1059 : Nat) ({ cls := "jdk/internal/util/Preconditions", name := "checkIndex", desc := "(IILjava/util/function/BiFunction;)I" } : Jvm.MethodName)) := sb_3 (List.mem_of_getElem? (i := 11) rfl) rfl
theorem tw_492 : TW (Jvm.Cond.static ({ cls := "jdk/internal/util/Preconditions", name := "checkIndex", desc := "(IILjava/util/function/BiFunction;)I" } : Jvm.MethodName)) := sb_3 (List.mem_of_getElem? (i := 12) rfl) rfl
theorem tw_493 : TW (Jvm.Cond.code ({ cls := "jdk/internal/util/Preconditions", name := "checkIndex", desc := "(IILjava/util/function/BiFunction;)I" } : Jvm.MethodName) prog_26_method_11_code (3 : Nat) (Option.some Jvm.ClassFile.FieldType.int)) := sb_3 (List.mem_of_getElem? (i := 13) rfl) rfl
theorem tw_494 : TW (Jvm.Cond.methodLink "java/lang/String" (498 : Nat) ({ cls := "java/lang/StringUTF16", name := "charAt", desc := "([BI)C" } : Jvm.MethodName)) := sb_3 (List.mem_of_getElem? (i := 14) rfl) rfl
theorem tw_495 : TW (Jvm.Cond.static ({ cls := "java/lang/StringUTF16", name := "charAt", desc := "([BI)C" } : Jvm.MethodName)) := sb_3 (List.mem_of_getElem? (i := 15) rfl) rfl
theorem tw_496 : TW (Jvm.Cond.code ({ cls := "java/lang/StringUTF16", name := "charAt", desc := "([BI)C" } : Jvm.MethodName) prog_22_method_83_code (2 : Nat) (Option.some Jvm.ClassFile.FieldType.char)) := sb_3 (List.mem_of_getElem? (i := 16) rfl) rfl
theorem tw_497 : TW (Jvm.Cond.methodLink "java/lang/StringUTF16" (67 : Nat) ({ cls := "java/lang/StringUTF16", name := "checkIndex", desc := "(I[B)V" } : Jvm.MethodName)) := sb_3 (List.mem_of_getElem? (i := 17) rfl) rfl
theorem tw_498 : TW (Jvm.Cond.static ({ cls := "java/lang/StringUTF16", name := "checkIndex", desc := "(I[B)V" } : Jvm.MethodName)) := sb_3 (List.mem_of_getElem? (i := 18) rfl) rfl
theorem tw_499 : TW (Jvm.Cond.code ({ cls := "java/lang/StringUTF16", name := "checkIndex", desc := "(I[B)V" } : Jvm.MethodName) prog_22_method_91_code (2 : Nat) (Option.none : Option Jvm.ClassFile.FieldType)) := sb_3 (List.mem_of_getElem? (i := 19) rfl) rfl
theorem tw_500 : TW (Jvm.Cond.methodLink "java/lang/StringUTF16" (48 : Nat) ({ cls := "java/lang/StringUTF16", name := "length", desc := "([B)I" } : Jvm.MethodName)) := sb_3 (List.mem_of_getElem? (i := 20) rfl) rfl
theorem tw_501 : TW (Jvm.Cond.static ({ cls := "java/lang/StringUTF16", name := "length", desc := "([B)I" } : Jvm.MethodName)) := sb_3 (List.mem_of_getElem? (i := 21) rfl) rfl
theorem tw_502 : TW (Jvm.Cond.code ({ cls := "java/lang/StringUTF16", name := "length", desc := "([B)I" } : Jvm.MethodName) prog_22_method_6_code (1 : Nat) (Option.some Jvm.ClassFile.FieldType.int)) := sb_3 (List.mem_of_getElem? (i := 22) rfl) rfl
theorem tw_503 : TW (Jvm.Cond.methodLink "java/lang/StringUTF16" (414 : Nat) ({ cls := "java/lang/String", name := "checkIndex", desc := "(II)V" } : Jvm.MethodName)) := sb_3 (List.mem_of_getElem? (i := 23) rfl) rfl
theorem tw_504 : TW (Jvm.Cond.methodLink "java/lang/StringUTF16" (71 : Nat) ({ cls := "java/lang/StringUTF16", name := "getChar", desc := "([BI)C" } : Jvm.MethodName)) := sb_3 (List.mem_of_getElem? (i := 24) rfl) rfl
theorem tw_505 : TW (Jvm.Cond.static ({ cls := "java/lang/StringUTF16", name := "getChar", desc := "([BI)C" } : Jvm.MethodName)) := sb_3 (List.mem_of_getElem? (i := 25) rfl) rfl
theorem tw_506 : TW (Jvm.Cond.code ({ cls := "java/lang/StringUTF16", name := "getChar", desc := "([BI)C" } : Jvm.MethodName) prog_22_method_5_code (2 : Nat) (Option.some Jvm.ClassFile.FieldType.char)) := sb_3 (List.mem_of_getElem? (i := 26) rfl) rfl
theorem tw_513 : TW (Jvm.Cond.methodLink "ThousandLeaflets$DrawReader" (48 : Nat) ({ cls := "ThousandLeaflets$DrawReader", name := "oddsFault", desc := "()I" } : Jvm.MethodName)) := sb_3 (List.mem_of_getElem? (i := 33) rfl) rfl
theorem tw_515 : TW (Jvm.Cond.instanceMethod ({ cls := "ThousandLeaflets$DrawReader", name := "oddsFault", desc := "()I" } : Jvm.MethodName)) := sb_3 (List.mem_of_getElem? (i := 35) rfl) rfl
theorem tw_516 : TW (Jvm.Cond.code ({ cls := "ThousandLeaflets$DrawReader", name := "oddsFault", desc := "()I" } : Jvm.MethodName) prog_6_method_4_code (3 : Nat) (Option.some Jvm.ClassFile.FieldType.int)) := sb_3 (List.mem_of_getElem? (i := 36) rfl) rfl
theorem tw_517 : TW (Jvm.Cond.methodLink "ThousandLeaflets$DrawReader" (78 : Nat) ({ cls := "ThousandLeaflets$DrawReader", name := "numberFault", desc := "(II)I" } : Jvm.MethodName)) := sb_3 (List.mem_of_getElem? (i := 37) rfl) rfl
theorem tw_519 : TW (Jvm.Cond.instanceMethod ({ cls := "ThousandLeaflets$DrawReader", name := "numberFault", desc := "(II)I" } : Jvm.MethodName)) := sb_3 (List.mem_of_getElem? (i := 39) rfl) rfl
theorem tw_520 : TW (Jvm.Cond.code ({ cls := "ThousandLeaflets$DrawReader", name := "numberFault", desc := "(II)I" } : Jvm.MethodName) prog_6_method_8_code (3 : Nat) (Option.some Jvm.ClassFile.FieldType.int)) := sb_3 (List.mem_of_getElem? (i := 40) rfl) rfl
theorem tw_521 : TW (Jvm.Cond.methodLink "ThousandLeaflets$DrawReader" (57 : Nat) ({ cls := "ThousandLeaflets$DrawReader", name := "wrong", desc := "(I)I" } : Jvm.MethodName)) := sb_3 (List.mem_of_getElem? (i := 41) rfl) rfl
theorem tw_523 : TW (Jvm.Cond.instanceMethod ({ cls := "ThousandLeaflets$DrawReader", name := "wrong", desc := "(I)I" } : Jvm.MethodName)) := sb_3 (List.mem_of_getElem? (i := 43) rfl) rfl
theorem tw_524 : TW (Jvm.Cond.code ({ cls := "ThousandLeaflets$DrawReader", name := "wrong", desc := "(I)I" } : Jvm.MethodName) prog_6_method_10_code (2 : Nat) (Option.some Jvm.ClassFile.FieldType.int)) := sb_3 (List.mem_of_getElem? (i := 44) rfl) rfl
theorem tw_525 : TW (Jvm.Cond.methodLink "ThousandLeaflets$DrawReader" (88 : Nat) ({ cls := "ThousandLeaflets$DrawReader", name := "endFault", desc := "()I" } : Jvm.MethodName)) := sb_3 (List.mem_of_getElem? (i := 45) rfl) rfl
theorem tw_527 : TW (Jvm.Cond.instanceMethod ({ cls := "ThousandLeaflets$DrawReader", name := "endFault", desc := "()I" } : Jvm.MethodName)) := sb_3 (List.mem_of_getElem? (i := 47) rfl) rfl
theorem tw_528 : TW (Jvm.Cond.code ({ cls := "ThousandLeaflets$DrawReader", name := "endFault", desc := "()I" } : Jvm.MethodName) prog_6_method_9_code (1 : Nat) (Option.some Jvm.ClassFile.FieldType.int)) := sb_3 (List.mem_of_getElem? (i := 48) rfl) rfl
theorem tw_530 : TW (Jvm.Cond.methodLink "ThousandLeaflets$DrawReader" (60 : Nat) ({ cls := "ThousandLeaflets$DrawReader", name := "firstFault", desc := "()I" } : Jvm.MethodName)) := sb_3 (List.mem_of_getElem? (i := 50) rfl) rfl
theorem tw_532 : TW (Jvm.Cond.instanceMethod ({ cls := "ThousandLeaflets$DrawReader", name := "firstFault", desc := "()I" } : Jvm.MethodName)) := sb_3 (List.mem_of_getElem? (i := 52) rfl) rfl
theorem tw_533 : TW (Jvm.Cond.code ({ cls := "ThousandLeaflets$DrawReader", name := "firstFault", desc := "()I" } : Jvm.MethodName) prog_6_method_5_code (2 : Nat) (Option.some Jvm.ClassFile.FieldType.int)) := sb_3 (List.mem_of_getElem? (i := 53) rfl) rfl
theorem tw_535 : TW (Jvm.Cond.methodLink "ThousandLeaflets$DrawReader" (68 : Nat) ({ cls := "ThousandLeaflets$DrawReader", name := "sumFault", desc := "(I)I" } : Jvm.MethodName)) := sb_3 (List.mem_of_getElem? (i := 55) rfl) rfl
theorem tw_537 : TW (Jvm.Cond.instanceMethod ({ cls := "ThousandLeaflets$DrawReader", name := "sumFault", desc := "(I)I" } : Jvm.MethodName)) := sb_3 (List.mem_of_getElem? (i := 57) rfl) rfl
theorem tw_538 : TW (Jvm.Cond.code ({ cls := "ThousandLeaflets$DrawReader", name := "sumFault", desc := "(I)I" } : Jvm.MethodName) prog_6_method_7_code (4 : Nat) (Option.some Jvm.ClassFile.FieldType.int)) := sb_3 (List.mem_of_getElem? (i := 58) rfl) rfl
theorem tw_540 : TW (Jvm.Cond.methodLink "ThousandLeaflets$DrawReader" (75 : Nat) ({ cls := "ThousandLeaflets$DrawReader", name := "sealFault", desc := "()I" } : Jvm.MethodName)) := sb_3 (List.mem_of_getElem? (i := 60) rfl) rfl
theorem tw_542 : TW (Jvm.Cond.instanceMethod ({ cls := "ThousandLeaflets$DrawReader", name := "sealFault", desc := "()I" } : Jvm.MethodName)) := sb_3 (List.mem_of_getElem? (i := 62) rfl) rfl
theorem tw_543 : TW (Jvm.Cond.code ({ cls := "ThousandLeaflets$DrawReader", name := "sealFault", desc := "()I" } : Jvm.MethodName) prog_6_method_6_code (2 : Nat) (Option.some Jvm.ClassFile.FieldType.int)) := sb_3 (List.mem_of_getElem? (i := 63) rfl) rfl
theorem tw_544 : TW (Jvm.Cond.methodLink "ThousandLeaflets" (132 : Nat) ({ cls := "ThousandLeaflets$Book", name := "changeDraw", desc := "(LThousandLeaflets$Draw;)V" } : Jvm.MethodName)) := sb_3 (List.mem_of_getElem? (i := 64) rfl) rfl
theorem tw_545 : TW (Jvm.Cond.instanceMethod ({ cls := "ThousandLeaflets$Book", name := "changeDraw", desc := "(LThousandLeaflets$Draw;)V" } : Jvm.MethodName)) := sb_3 (List.mem_of_getElem? (i := 65) rfl) rfl
theorem tw_546 : TW (Jvm.Cond.selects "ThousandLeaflets$Book" ({ cls := "ThousandLeaflets$Book", name := "changeDraw", desc := "(LThousandLeaflets$Draw;)V" } : Jvm.MethodName) ({ cls := "ThousandLeaflets$Book", name := "changeDraw", desc := "(LThousandLeaflets$Draw;)V" } : Jvm.MethodName)) := sb_3 (List.mem_of_getElem? (i := 66) rfl) rfl
theorem tw_547 : TW (Jvm.Cond.code ({ cls := "ThousandLeaflets$Book", name := "changeDraw", desc := "(LThousandLeaflets$Draw;)V" } : Jvm.MethodName) prog_3_method_3_code (2 : Nat) (Option.none : Option Jvm.ClassFile.FieldType)) := sb_3 (List.mem_of_getElem? (i := 67) rfl) rfl
theorem tw_548 : TW (Jvm.Cond.methodLink "ThousandLeaflets$Book" (42 : Nat) ({ cls := "ThousandLeaflets$Draw", name := "copy", desc := "(LThousandLeaflets$Draw;)V" } : Jvm.MethodName)) := sb_3 (List.mem_of_getElem? (i := 68) rfl) rfl
theorem tw_549 : TW (Jvm.Cond.instanceMethod ({ cls := "ThousandLeaflets$Draw", name := "copy", desc := "(LThousandLeaflets$Draw;)V" } : Jvm.MethodName)) := sb_3 (List.mem_of_getElem? (i := 69) rfl) rfl
theorem tw_550 : TW (Jvm.Cond.selects "ThousandLeaflets$Draw" ({ cls := "ThousandLeaflets$Draw", name := "copy", desc := "(LThousandLeaflets$Draw;)V" } : Jvm.MethodName) ({ cls := "ThousandLeaflets$Draw", name := "copy", desc := "(LThousandLeaflets$Draw;)V" } : Jvm.MethodName)) := sb_3 (List.mem_of_getElem? (i := 70) rfl) rfl
theorem tw_551 : TW (Jvm.Cond.code ({ cls := "ThousandLeaflets$Draw", name := "copy", desc := "(LThousandLeaflets$Draw;)V" } : Jvm.MethodName) prog_5_method_3_code (2 : Nat) (Option.none : Option Jvm.ClassFile.FieldType)) := sb_3 (List.mem_of_getElem? (i := 71) rfl) rfl
theorem tw_556 : TW (Jvm.Cond.methodLink "ThousandLeafletsLaw" (41 : Nat) ({ cls := "ThousandLeaflets", name := "leaflet", desc := "(III)I" } : Jvm.MethodName)) := sb_3 (List.mem_of_getElem? (i := 76) rfl) rfl
theorem tw_557 : TW (Jvm.Cond.instanceMethod ({ cls := "ThousandLeaflets", name := "leaflet", desc := "(III)I" } : Jvm.MethodName)) := sb_3 (List.mem_of_getElem? (i := 77) rfl) rfl
theorem tw_558 : TW (Jvm.Cond.selects "ThousandLeaflets" ({ cls := "ThousandLeaflets", name := "leaflet", desc := "(III)I" } : Jvm.MethodName) ({ cls := "ThousandLeaflets", name := "leaflet", desc := "(III)I" } : Jvm.MethodName)) := sb_3 (List.mem_of_getElem? (i := 78) rfl) rfl
theorem tw_559 : TW (Jvm.Cond.code ({ cls := "ThousandLeaflets", name := "leaflet", desc := "(III)I" } : Jvm.MethodName) prog_1_method_6_code (6 : Nat) (Option.some Jvm.ClassFile.FieldType.int)) := sb_3 (List.mem_of_getElem? (i := 79) rfl) rfl
theorem tw_560 : TW (Jvm.Cond.methodLink "ThousandLeaflets" (136 : Nat) ({ cls := "ThousandLeaflets", name := "isLeaflet", desc := "(II)Z" } : Jvm.MethodName)) := sb_3 (List.mem_of_getElem? (i := 80) rfl) rfl
theorem tw_562 : TW (Jvm.Cond.instanceMethod ({ cls := "ThousandLeaflets", name := "isLeaflet", desc := "(II)Z" } : Jvm.MethodName)) := sb_3 (List.mem_of_getElem? (i := 82) rfl) rfl
theorem tw_563 : TW (Jvm.Cond.code ({ cls := "ThousandLeaflets", name := "isLeaflet", desc := "(II)Z" } : Jvm.MethodName) prog_1_method_42_code (3 : Nat) (Option.some Jvm.ClassFile.FieldType.boolean)) := sb_3 (List.mem_of_getElem? (i := 83) rfl) rfl
theorem tw_564 : TW (Jvm.Cond.methodLink "ThousandLeaflets" (173 : Nat) ({ cls := "ThousandLeaflets", name := "isNumber", desc := "(I)Z" } : Jvm.MethodName)) := sb_3 (List.mem_of_getElem? (i := 84) rfl) rfl
theorem tw_565 : TW (Jvm.Cond.static ({ cls := "ThousandLeaflets", name := "isNumber", desc := "(I)Z" } : Jvm.MethodName)) := sb_3 (List.mem_of_getElem? (i := 85) rfl) rfl
theorem tw_566 : TW (Jvm.Cond.code ({ cls := "ThousandLeaflets", name := "isNumber", desc := "(I)Z" } : Jvm.MethodName) prog_1_method_38_code (1 : Nat) (Option.some Jvm.ClassFile.FieldType.boolean)) := sb_3 (List.mem_of_getElem? (i := 86) rfl) rfl
theorem tw_567 : TW (Jvm.Cond.methodLink "ThousandLeaflets" (140 : Nat) ({ cls := "ThousandLeaflets$Book", name := "pagesOf", desc := "(I)I" } : Jvm.MethodName)) := sb_3 (List.mem_of_getElem? (i := 87) rfl) rfl
theorem tw_568 : TW (Jvm.Cond.instanceMethod ({ cls := "ThousandLeaflets$Book", name := "pagesOf", desc := "(I)I" } : Jvm.MethodName)) := sb_3 (List.mem_of_getElem? (i := 88) rfl) rfl
theorem tw_569 : TW (Jvm.Cond.selects "ThousandLeaflets$Book" ({ cls := "ThousandLeaflets$Book", name := "pagesOf", desc := "(I)I" } : Jvm.MethodName) ({ cls := "ThousandLeaflets$Book", name := "pagesOf", desc := "(I)I" } : Jvm.MethodName)) := sb_3 (List.mem_of_getElem? (i := 89) rfl) rfl
theorem tw_570 : TW (Jvm.Cond.code ({ cls := "ThousandLeaflets$Book", name := "pagesOf", desc := "(I)I" } : Jvm.MethodName) prog_3_method_10_code (2 : Nat) (Option.some Jvm.ClassFile.FieldType.int)) := sb_3 (List.mem_of_getElem? (i := 90) rfl) rfl
theorem tw_571 : TW (Jvm.Cond.methodLink "ThousandLeaflets$Book" (63 : Nat) ({ cls := "ThousandLeaflets$Book", name := "drawPages", desc := "(II)I" } : Jvm.MethodName)) := sb_3 (List.mem_of_getElem? (i := 91) rfl) rfl
theorem tw_572 : TW (Jvm.Cond.instanceMethod ({ cls := "ThousandLeaflets$Book", name := "drawPages", desc := "(II)I" } : Jvm.MethodName)) := sb_3 (List.mem_of_getElem? (i := 92) rfl) rfl
theorem tw_573 : TW (Jvm.Cond.selects "ThousandLeaflets$Book" ({ cls := "ThousandLeaflets$Book", name := "drawPages", desc := "(II)I" } : Jvm.MethodName) ({ cls := "ThousandLeaflets$Book", name := "drawPages", desc := "(II)I" } : Jvm.MethodName)) := sb_3 (List.mem_of_getElem? (i := 93) rfl) rfl
theorem tw_574 : TW (Jvm.Cond.code ({ cls := "ThousandLeaflets$Book", name := "drawPages", desc := "(II)I" } : Jvm.MethodName) prog_3_method_11_code (9 : Nat) (Option.some Jvm.ClassFile.FieldType.int)) := sb_3 (List.mem_of_getElem? (i := 94) rfl) rfl
theorem tw_575 : TW (Jvm.Cond.constant "ThousandLeaflets$Book" (67 : Nat) (104729 : Int32)) := sb_3 (List.mem_of_getElem? (i := 95) rfl) rfl
theorem tw_576 : TW (Jvm.Cond.methodLink "ThousandLeaflets$Book" (49 : Nat) ({ cls := "ThousandLeaflets$Book", name := "all", desc := "()I" } : Jvm.MethodName)) := sb_3 (List.mem_of_getElem? (i := 96) rfl) rfl
theorem tw_577 : TW (Jvm.Cond.instanceMethod ({ cls := "ThousandLeaflets$Book", name := "all", desc := "()I" } : Jvm.MethodName)) := sb_3 (List.mem_of_getElem? (i := 97) rfl) rfl
theorem tw_578 : TW (Jvm.Cond.selects "ThousandLeaflets$Book" ({ cls := "ThousandLeaflets$Book", name := "all", desc := "()I" } : Jvm.MethodName) ({ cls := "ThousandLeaflets$Book", name := "all", desc := "()I" } : Jvm.MethodName)) := sb_3 (List.mem_of_getElem? (i := 98) rfl) rfl
theorem tw_579 : TW (Jvm.Cond.code ({ cls := "ThousandLeaflets$Book", name := "all", desc := "()I" } : Jvm.MethodName) prog_3_method_5_code (1 : Nat) (Option.some Jvm.ClassFile.FieldType.int)) := sb_3 (List.mem_of_getElem? (i := 99) rfl) rfl
theorem tw_580 : TW (Jvm.Cond.methodLink "ThousandLeaflets$Book" (71 : Nat) ({ cls := "ThousandLeaflets$Book", name := "castDegree", desc := "(I)I" } : Jvm.MethodName)) := sb_3 (List.mem_of_getElem? (i := 100) rfl) rfl
theorem tw_582 : TW (Jvm.Cond.instanceMethod ({ cls := "ThousandLeaflets$Book", name := "castDegree", desc := "(I)I" } : Jvm.MethodName)) := sb_3 (List.mem_of_getElem? (i := 102) rfl) rfl
theorem tw_583 : TW (Jvm.Cond.code ({ cls := "ThousandLeaflets$Book", name := "castDegree", desc := "(I)I" } : Jvm.MethodName) prog_3_method_13_code (2 : Nat) (Option.some Jvm.ClassFile.FieldType.int)) := sb_3 (List.mem_of_getElem? (i := 103) rfl) rfl
theorem tw_584 : TW (Jvm.Cond.methodLink "ThousandLeaflets$Book" (80 : Nat) ({ cls := "ThousandLeaflets$Book", name := "cast", desc := "(I)I" } : Jvm.MethodName)) := sb_3 (List.mem_of_getElem? (i := 104) rfl) rfl
theorem tw_586 : TW (Jvm.Cond.instanceMethod ({ cls := "ThousandLeaflets$Book", name := "cast", desc := "(I)I" } : Jvm.MethodName)) := sb_3 (List.mem_of_getElem? (i := 106) rfl) rfl
theorem tw_587 : TW (Jvm.Cond.code ({ cls := "ThousandLeaflets$Book", name := "cast", desc := "(I)I" } : Jvm.MethodName) prog_3_method_12_code (2 : Nat) (Option.some Jvm.ClassFile.FieldType.int)) := sb_3 (List.mem_of_getElem? (i := 107) rfl) rfl
theorem tw_588 : TW (Jvm.Cond.constant "ThousandLeaflets$Book" (87 : Nat) (1103515245 : Int32)) := sb_3 (List.mem_of_getElem? (i := 108) rfl) rfl
theorem tw_589 : TW (Jvm.Cond.constant "ThousandLeaflets$Book" (88 : Nat) (2147483647 : Int32)) := sb_3 (List.mem_of_getElem? (i := 109) rfl) rfl
theorem tw_590 : TW (Jvm.Cond.methodLink "ThousandLeaflets$Book" (74 : Nat) ({ cls := "ThousandLeaflets$Book", name := "howMany", desc := "(I)I" } : Jvm.MethodName)) := sb_3 (List.mem_of_getElem? (i := 110) rfl) rfl
theorem tw_592 : TW (Jvm.Cond.instanceMethod ({ cls := "ThousandLeaflets$Book", name := "howMany", desc := "(I)I" } : Jvm.MethodName)) := sb_3 (List.mem_of_getElem? (i := 112) rfl) rfl
theorem tw_593 : TW (Jvm.Cond.code ({ cls := "ThousandLeaflets$Book", name := "howMany", desc := "(I)I" } : Jvm.MethodName) prog_3_method_14_code (6 : Nat) (Option.some Jvm.ClassFile.FieldType.int)) := sb_3 (List.mem_of_getElem? (i := 113) rfl) rfl
theorem tw_594 : TW (Jvm.Cond.methodLink "ThousandLeaflets$Book" (89 : Nat) ({ cls := "ThousandLeaflets$Draw", name := "oddsOf", desc := "(I)I" } : Jvm.MethodName)) := sb_3 (List.mem_of_getElem? (i := 114) rfl) rfl
theorem tw_595 : TW (Jvm.Cond.instanceMethod ({ cls := "ThousandLeaflets$Draw", name := "oddsOf", desc := "(I)I" } : Jvm.MethodName)) := sb_3 (List.mem_of_getElem? (i := 115) rfl) rfl
theorem tw_596 : TW (Jvm.Cond.selects "ThousandLeaflets$Draw" ({ cls := "ThousandLeaflets$Draw", name := "oddsOf", desc := "(I)I" } : Jvm.MethodName) ({ cls := "ThousandLeaflets$Draw", name := "oddsOf", desc := "(I)I" } : Jvm.MethodName)) := sb_3 (List.mem_of_getElem? (i := 116) rfl) rfl
theorem tw_597 : TW (Jvm.Cond.code ({ cls := "ThousandLeaflets$Draw", name := "oddsOf", desc := "(I)I" } : Jvm.MethodName) prog_5_method_4_code (2 : Nat) (Option.some Jvm.ClassFile.FieldType.int)) := sb_3 (List.mem_of_getElem? (i := 117) rfl) rfl
theorem tw_598 : TW (Jvm.Cond.methodLink "ThousandLeaflets$Book" (77 : Nat) ({ cls := "ThousandLeaflets$Book", name := "weightOf", desc := "(I)I" } : Jvm.MethodName)) := sb_3 (List.mem_of_getElem? (i := 118) rfl) rfl
theorem tw_600 : TW (Jvm.Cond.instanceMethod ({ cls := "ThousandLeaflets$Book", name := "weightOf", desc := "(I)I" } : Jvm.MethodName)) := sb_3 (List.mem_of_getElem? (i := 120) rfl) rfl
theorem tw_601 : TW (Jvm.Cond.code ({ cls := "ThousandLeaflets$Book", name := "weightOf", desc := "(I)I" } : Jvm.MethodName) prog_3_method_15_code (2 : Nat) (Option.some Jvm.ClassFile.FieldType.int)) := sb_3 (List.mem_of_getElem? (i := 121) rfl) rfl
theorem tw_602 : TW (Jvm.Cond.methodLink "ThousandLeaflets$Book" (83 : Nat) ({ cls := "ThousandLeaflets$Book", name := "pickBeside", desc := "(III)I" } : Jvm.MethodName)) := sb_3 (List.mem_of_getElem? (i := 122) rfl) rfl
theorem tw_604 : TW (Jvm.Cond.instanceMethod ({ cls := "ThousandLeaflets$Book", name := "pickBeside", desc := "(III)I" } : Jvm.MethodName)) := sb_3 (List.mem_of_getElem? (i := 124) rfl) rfl
theorem tw_605 : TW (Jvm.Cond.code ({ cls := "ThousandLeaflets$Book", name := "pickBeside", desc := "(III)I" } : Jvm.MethodName) prog_3_method_16_code (6 : Nat) (Option.some Jvm.ClassFile.FieldType.int)) := sb_3 (List.mem_of_getElem? (i := 125) rfl) rfl
theorem tw_606 : TW (Jvm.Cond.methodLink "ThousandLeaflets" (143 : Nat) ({ cls := "ThousandLeaflets$Book", name := "sumOf", desc := "(I)I" } : Jvm.MethodName)) := sb_3 (List.mem_of_getElem? (i := 126) rfl) rfl
theorem tw_607 : TW (Jvm.Cond.instanceMethod ({ cls := "ThousandLeaflets$Book", name := "sumOf", desc := "(I)I" } : Jvm.MethodName)) := sb_3 (List.mem_of_getElem? (i := 127) rfl) rfl
theorem tw_608 : TW (Jvm.Cond.selects "ThousandLeaflets$Book" ({ cls := "ThousandLeaflets$Book", name := "sumOf", desc := "(I)I" } : Jvm.MethodName) ({ cls := "ThousandLeaflets$Book", name := "sumOf", desc := "(I)I" } : Jvm.MethodName)) := sb_3 (List.mem_of_getElem? (i := 128) rfl) rfl
theorem tw_609 : TW (Jvm.Cond.code ({ cls := "ThousandLeaflets$Book", name := "sumOf", desc := "(I)I" } : Jvm.MethodName) prog_3_method_8_code (5 : Nat) (Option.some Jvm.ClassFile.FieldType.int)) := sb_3 (List.mem_of_getElem? (i := 129) rfl) rfl
theorem tw_610 : TW (Jvm.Cond.methodLink "ThousandLeaflets$Book" (56 : Nat) ({ cls := "ThousandLeaflets$Book", name := "withoutHidden", desc := "(I)I" } : Jvm.MethodName)) := sb_3 (List.mem_of_getElem? (i := 130) rfl) rfl
theorem tw_611 : TW (Jvm.Cond.instanceMethod ({ cls := "ThousandLeaflets$Book", name := "withoutHidden", desc := "(I)I" } : Jvm.MethodName)) := sb_3 (List.mem_of_getElem? (i := 131) rfl) rfl
theorem tw_612 : TW (Jvm.Cond.selects "ThousandLeaflets$Book" ({ cls := "ThousandLeaflets$Book", name := "withoutHidden", desc := "(I)I" } : Jvm.MethodName) ({ cls := "ThousandLeaflets$Book", name := "withoutHidden", desc := "(I)I" } : Jvm.MethodName)) := sb_3 (List.mem_of_getElem? (i := 132) rfl) rfl
theorem tw_613 : TW (Jvm.Cond.code ({ cls := "ThousandLeaflets$Book", name := "withoutHidden", desc := "(I)I" } : Jvm.MethodName) prog_3_method_7_code (4 : Nat) (Option.some Jvm.ClassFile.FieldType.int)) := sb_3 (List.mem_of_getElem? (i := 133) rfl) rfl
theorem tw_614 : TW (Jvm.Cond.methodLink "ThousandLeaflets" (146 : Nat) ({ cls := "ThousandLeaflets$Book", name := "sealOf", desc := "(II)I" } : Jvm.MethodName)) := sb_3 (List.mem_of_getElem? (i := 134) rfl) rfl
theorem tw_615 : TW (Jvm.Cond.instanceMethod ({ cls := "ThousandLeaflets$Book", name := "sealOf", desc := "(II)I" } : Jvm.MethodName)) := sb_3 (List.mem_of_getElem? (i := 135) rfl) rfl
theorem tw_616 : TW (Jvm.Cond.selects "ThousandLeaflets$Book" ({ cls := "ThousandLeaflets$Book", name := "sealOf", desc := "(II)I" } : Jvm.MethodName) ({ cls := "ThousandLeaflets$Book", name := "sealOf", desc := "(II)I" } : Jvm.MethodName)) := sb_3 (List.mem_of_getElem? (i := 136) rfl) rfl
theorem tw_617 : TW (Jvm.Cond.code ({ cls := "ThousandLeaflets$Book", name := "sealOf", desc := "(II)I" } : Jvm.MethodName) prog_3_method_9_code (3 : Nat) (Option.some Jvm.ClassFile.FieldType.int)) := sb_3 (List.mem_of_getElem? (i := 137) rfl) rfl
theorem tw_618 : TW (Jvm.Cond.methodLink "ThousandLeaflets" (150 : Nat) ({ cls := "java/lang/Integer", name := "bitCount", desc := "(I)I" } : Jvm.MethodName)) := sb_3 (List.mem_of_getElem? (i := 138) rfl) rfl
theorem tw_619 : TW (Jvm.Cond.static ({ cls := "java/lang/Integer", name := "bitCount", desc := "(I)I" } : Jvm.MethodName)) := sb_3 (List.mem_of_getElem? (i := 139) rfl) rfl
theorem tw_620 : TW (Jvm.Cond.code ({ cls := "java/lang/Integer", name := "bitCount", desc := "(I)I" } : Jvm.MethodName) prog_16_method_49_code (1 : Nat) (Option.some Jvm.ClassFile.FieldType.int)) := sb_3 (List.mem_of_getElem? (i := 140) rfl) rfl
theorem tw_621 : TW (Jvm.Cond.constant "java/lang/Integer" (265 : Nat) (1431655765 : Int32)) := sb_3 (List.mem_of_getElem? (i := 141) rfl) rfl
theorem tw_622 : TW (Jvm.Cond.constant "java/lang/Integer" (266 : Nat) (858993459 : Int32)) := sb_3 (List.mem_of_getElem? (i := 142) rfl) rfl
theorem tw_623 : TW (Jvm.Cond.constant "java/lang/Integer" (267 : Nat) (252645135 : Int32)) := sb_3 (List.mem_of_getElem? (i := 143) rfl) rfl
theorem tw_624 : TW (Jvm.Cond.methodLink "ThousandLeafletsLaw" (45 : Nat) ({ cls := "ThousandLeaflets", name := "told", desc := "(II)I" } : Jvm.MethodName)) := sb_3 (List.mem_of_getElem? (i := 144) rfl) rfl
theorem tw_625 : TW (Jvm.Cond.instanceMethod ({ cls := "ThousandLeaflets", name := "told", desc := "(II)I" } : Jvm.MethodName)) := sb_3 (List.mem_of_getElem? (i := 145) rfl) rfl
theorem tw_626 : TW (Jvm.Cond.selects "ThousandLeaflets" ({ cls := "ThousandLeaflets", name := "told", desc := "(II)I" } : Jvm.MethodName) ({ cls := "ThousandLeaflets", name := "told", desc := "(II)I" } : Jvm.MethodName)) := sb_3 (List.mem_of_getElem? (i := 146) rfl) rfl
theorem tw_627 : TW (Jvm.Cond.code ({ cls := "ThousandLeaflets", name := "told", desc := "(II)I" } : Jvm.MethodName) prog_1_method_7_code (3 : Nat) (Option.some Jvm.ClassFile.FieldType.int)) := sb_3 (List.mem_of_getElem? (i := 147) rfl) rfl
theorem tw_628 : TW (Jvm.Cond.methodLink "ThousandLeaflets" (155 : Nat) ({ cls := "ThousandLeaflets", name := "isPageOf", desc := "(II)Z" } : Jvm.MethodName)) := sb_3 (List.mem_of_getElem? (i := 148) rfl) rfl
theorem tw_630 : TW (Jvm.Cond.instanceMethod ({ cls := "ThousandLeaflets", name := "isPageOf", desc := "(II)Z" } : Jvm.MethodName)) := sb_3 (List.mem_of_getElem? (i := 150) rfl) rfl
theorem tw_631 : TW (Jvm.Cond.code ({ cls := "ThousandLeaflets", name := "isPageOf", desc := "(II)Z" } : Jvm.MethodName) prog_1_method_43_code (3 : Nat) (Option.some Jvm.ClassFile.FieldType.boolean)) := sb_3 (List.mem_of_getElem? (i := 151) rfl) rfl
theorem tw_632 : TW (Jvm.Cond.methodLink "ThousandLeaflets" (233 : Nat) ({ cls := "ThousandLeaflets$Book", name := "all", desc := "()I" } : Jvm.MethodName)) := sb_3 (List.mem_of_getElem? (i := 152) rfl) rfl
theorem tw_633 : TW (Jvm.Cond.methodLink "ThousandLeafletsLaw" (50 : Nat) ({ cls := "ThousandLeaflets", name := "comes", desc := "(IIII)I" } : Jvm.MethodName)) := sb_3 (List.mem_of_getElem? (i := 153) rfl) rfl
theorem tw_634 : TW (Jvm.Cond.instanceMethod ({ cls := "ThousandLeaflets", name := "comes", desc := "(IIII)I" } : Jvm.MethodName)) := sb_3 (List.mem_of_getElem? (i := 154) rfl) rfl
theorem tw_635 : TW (Jvm.Cond.selects "ThousandLeaflets" ({ cls := "ThousandLeaflets", name := "comes", desc := "(IIII)I" } : Jvm.MethodName) ({ cls := "ThousandLeaflets", name := "comes", desc := "(IIII)I" } : Jvm.MethodName)) := sb_3 (List.mem_of_getElem? (i := 155) rfl) rfl
theorem tw_636 : TW (Jvm.Cond.code ({ cls := "ThousandLeaflets", name := "comes", desc := "(IIII)I" } : Jvm.MethodName) prog_1_method_8_code (5 : Nat) (Option.some Jvm.ClassFile.FieldType.int)) := sb_3 (List.mem_of_getElem? (i := 156) rfl) rfl
theorem tw_637 : TW (Jvm.Cond.methodLink "ThousandLeaflets" (158 : Nat) ({ cls := "ThousandLeaflets", name := "isQuarter", desc := "(I)Z" } : Jvm.MethodName)) := sb_3 (List.mem_of_getElem? (i := 157) rfl) rfl
theorem tw_638 : TW (Jvm.Cond.static ({ cls := "ThousandLeaflets", name := "isQuarter", desc := "(I)Z" } : Jvm.MethodName)) := sb_3 (List.mem_of_getElem? (i := 158) rfl) rfl
theorem tw_639 : TW (Jvm.Cond.code ({ cls := "ThousandLeaflets", name := "isQuarter", desc := "(I)Z" } : Jvm.MethodName) prog_1_method_36_code (1 : Nat) (Option.some Jvm.ClassFile.FieldType.boolean)) := sb_3 (List.mem_of_getElem? (i := 159) rfl) rfl
theorem tw_640 : TW (Jvm.Cond.methodLink "ThousandLeaflets" (161 : Nat) ({ cls := "ThousandLeaflets$Book", name := "leafletPaper", desc := "(II)LThousandLeaflets$Paper;" } : Jvm.MethodName)) := sb_3 (List.mem_of_getElem? (i := 160) rfl) rfl
theorem tw_641 : TW (Jvm.Cond.instanceMethod ({ cls := "ThousandLeaflets$Book", name := "leafletPaper", desc := "(II)LThousandLeaflets$Paper;" } : Jvm.MethodName)) := sb_3 (List.mem_of_getElem? (i := 161) rfl) rfl
theorem tw_642 : TW (Jvm.Cond.selects "ThousandLeaflets$Book" ({ cls := "ThousandLeaflets$Book", name := "leafletPaper", desc := "(II)LThousandLeaflets$Paper;" } : Jvm.MethodName) ({ cls := "ThousandLeaflets$Book", name := "leafletPaper", desc := "(II)LThousandLeaflets$Paper;" } : Jvm.MethodName)) := sb_3 (List.mem_of_getElem? (i := 162) rfl) rfl
theorem tw_643 : TW (Jvm.Cond.code ({ cls := "ThousandLeaflets$Book", name := "leafletPaper", desc := "(II)LThousandLeaflets$Paper;" } : Jvm.MethodName) prog_3_method_17_code (6 : Nat) (Option.some (Jvm.ClassFile.FieldType.object "ThousandLeaflets$Paper"))) := sb_3 (List.mem_of_getElem? (i := 163) rfl) rfl
theorem tw_644 : TW (Jvm.Cond.methodLink "ThousandLeaflets$Book" (98 : Nat) ({ cls := "ThousandLeaflets$Book", name := "pagesOf", desc := "(I)I" } : Jvm.MethodName)) := sb_3 (List.mem_of_getElem? (i := 164) rfl) rfl
theorem tw_645 : TW (Jvm.Cond.methodLink "ThousandLeaflets$Book" (101 : Nat) ({ cls := "ThousandLeaflets$Book", name := "sumOf", desc := "(I)I" } : Jvm.MethodName)) := sb_3 (List.mem_of_getElem? (i := 165) rfl) rfl
theorem tw_646 : TW (Jvm.Cond.constant "ThousandLeaflets$Book" (104 : Nat) (65280 : Int32)) := sb_3 (List.mem_of_getElem? (i := 166) rfl) rfl
theorem tw_647 : TW (Jvm.Cond.methodLink "ThousandLeaflets$Book" (105 : Nat) ({ cls := "ThousandLeaflets$Book", name := "sealOf", desc := "(II)I" } : Jvm.MethodName)) := sb_3 (List.mem_of_getElem? (i := 167) rfl) rfl
theorem tw_648 : TW (Jvm.Cond.methodLink "ThousandLeaflets$Book" (108 : Nat) ({ cls := "ThousandLeaflets$Book", name := "paperOf", desc := "(IIIII)LThousandLeaflets$Paper;" } : Jvm.MethodName)) := sb_3 (List.mem_of_getElem? (i := 168) rfl) rfl
theorem tw_649 : TW (Jvm.Cond.instanceMethod ({ cls := "ThousandLeaflets$Book", name := "paperOf", desc := "(IIIII)LThousandLeaflets$Paper;" } : Jvm.MethodName)) := sb_3 (List.mem_of_getElem? (i := 169) rfl) rfl
theorem tw_650 : TW (Jvm.Cond.selects "ThousandLeaflets$Book" ({ cls := "ThousandLeaflets$Book", name := "paperOf", desc := "(IIIII)LThousandLeaflets$Paper;" } : Jvm.MethodName) ({ cls := "ThousandLeaflets$Book", name := "paperOf", desc := "(IIIII)LThousandLeaflets$Paper;" } : Jvm.MethodName)) := sb_3 (List.mem_of_getElem? (i := 170) rfl) rfl
theorem tw_651 : TW (Jvm.Cond.code ({ cls := "ThousandLeaflets$Book", name := "paperOf", desc := "(IIIII)LThousandLeaflets$Paper;" } : Jvm.MethodName) prog_3_method_18_code (6 : Nat) (Option.some (Jvm.ClassFile.FieldType.object "ThousandLeaflets$Paper"))) := sb_3 (List.mem_of_getElem? (i := 171) rfl) rfl
theorem tw_652 : TW (Jvm.Cond.classLink "ThousandLeaflets$Book" (112 : Nat) "ThousandLeaflets$Paper") := sb_3 (List.mem_of_getElem? (i := 172) rfl) rfl
theorem tw_653 : TW (Jvm.Cond.instantiable "ThousandLeaflets$Paper" (7 : Nat)) := sb_3 (List.mem_of_getElem? (i := 173) rfl) rfl
theorem tw_654 : TW (Jvm.Cond.methodLink "ThousandLeaflets$Book" (114 : Nat) ({ cls := "ThousandLeaflets$Paper", name := "<init>", desc := "(IIIIIII)V" } : Jvm.MethodName)) := sb_3 (List.mem_of_getElem? (i := 174) rfl) rfl
theorem tw_655 : TW (Jvm.Cond.instanceMethod ({ cls := "ThousandLeaflets$Paper", name := "<init>", desc := "(IIIIIII)V" } : Jvm.MethodName)) := sb_3 (List.mem_of_getElem? (i := 175) rfl) rfl
theorem tw_656 : TW (Jvm.Cond.code ({ cls := "ThousandLeaflets$Paper", name := "<init>", desc := "(IIIIIII)V" } : Jvm.MethodName) prog_9_method_1_code (8 : Nat) (Option.none : Option Jvm.ClassFile.FieldType)) := sb_3 (List.mem_of_getElem? (i := 176) rfl) rfl
theorem tw_657 : TW (Jvm.Cond.methodLink "ThousandLeaflets$Paper" (3 : Nat) ({ cls := "java/lang/Object", name := "<init>", desc := "()V" } : Jvm.MethodName)) := sb_3 (List.mem_of_getElem? (i := 177) rfl) rfl
theorem tw_658 : TW (Jvm.Cond.fieldLink "ThousandLeaflets$Paper" (9 : Nat) "ThousandLeaflets$Paper" "book" "I") := sb_3 (List.mem_of_getElem? (i := 178) rfl) rfl
theorem tw_659 : TW (Jvm.Cond.fieldLink "ThousandLeaflets$Heap" (21 : Nat) "ThousandLeaflets$Paper" "book" "I") := sb_3 (List.mem_of_getElem? (i := 179) rfl) rfl
theorem tw_660 : TW (Jvm.Cond.fieldLink "ThousandLeaflets$Ways" (45 : Nat) "ThousandLeaflets$Paper" "book" "I") := sb_3 (List.mem_of_getElem? (i := 180) rfl) rfl
theorem tw_661 : TW (Jvm.Cond.fieldLink "ThousandLeaflets" (191 : Nat) "ThousandLeaflets$Paper" "book" "I") := sb_3 (List.mem_of_getElem? (i := 181) rfl) rfl
theorem tw_662 : TW (Jvm.Cond.fieldLink "ThousandLeaflets$Paper" (15 : Nat) "ThousandLeaflets$Paper" "number" "I") := sb_3 (List.mem_of_getElem? (i := 182) rfl) rfl
theorem tw_663 : TW (Jvm.Cond.fieldLink "ThousandLeaflets" (194 : Nat) "ThousandLeaflets$Paper" "number" "I") := sb_3 (List.mem_of_getElem? (i := 183) rfl) rfl
theorem tw_664 : TW (Jvm.Cond.fieldLink "ThousandLeaflets$Paper" (18 : Nat) "ThousandLeaflets$Paper" "sum" "I") := sb_3 (List.mem_of_getElem? (i := 184) rfl) rfl
theorem tw_665 : TW (Jvm.Cond.fieldLink "ThousandLeaflets" (197 : Nat) "ThousandLeaflets$Paper" "sum" "I") := sb_3 (List.mem_of_getElem? (i := 185) rfl) rfl
theorem tw_666 : TW (Jvm.Cond.fieldLink "ThousandLeaflets$Paper" (21 : Nat) "ThousandLeaflets$Paper" "bytes" "I") := sb_3 (List.mem_of_getElem? (i := 186) rfl) rfl
theorem tw_667 : TW (Jvm.Cond.fieldLink "ThousandLeaflets" (200 : Nat) "ThousandLeaflets$Paper" "bytes" "I") := sb_3 (List.mem_of_getElem? (i := 187) rfl) rfl
theorem tw_668 : TW (Jvm.Cond.fieldLink "ThousandLeaflets$Paper" (24 : Nat) "ThousandLeaflets$Paper" "seal" "I") := sb_3 (List.mem_of_getElem? (i := 188) rfl) rfl
theorem tw_669 : TW (Jvm.Cond.fieldLink "ThousandLeaflets" (203 : Nat) "ThousandLeaflets$Paper" "seal" "I") := sb_3 (List.mem_of_getElem? (i := 189) rfl) rfl
theorem tw_670 : TW (Jvm.Cond.fieldLink "ThousandLeaflets$Paper" (27 : Nat) "ThousandLeaflets$Paper" "pages0" "I") := sb_3 (List.mem_of_getElem? (i := 190) rfl) rfl
theorem tw_671 : TW (Jvm.Cond.fieldLink "ThousandLeaflets$Paper" (30 : Nat) "ThousandLeaflets$Paper" "pages1" "I") := sb_3 (List.mem_of_getElem? (i := 191) rfl) rfl
theorem tw_672 : TW (Jvm.Cond.laysFinal "ThousandLeaflets$Paper" "ThousandLeaflets$Paper" "book" "I") := sb_3 (List.mem_of_getElem? (i := 192) rfl) rfl
theorem tw_674 : TW (Jvm.Cond.laysFinal "ThousandLeaflets$Paper" "ThousandLeaflets$Paper" "number" "I") := sb_3 (List.mem_of_getElem? (i := 194) rfl) rfl
theorem tw_676 : TW (Jvm.Cond.laysFinal "ThousandLeaflets$Paper" "ThousandLeaflets$Paper" "sum" "I") := sb_3 (List.mem_of_getElem? (i := 196) rfl) rfl
theorem tw_678 : TW (Jvm.Cond.laysFinal "ThousandLeaflets$Paper" "ThousandLeaflets$Paper" "bytes" "I") := sb_3 (List.mem_of_getElem? (i := 198) rfl) rfl
theorem tw_680 : TW (Jvm.Cond.laysFinal "ThousandLeaflets$Paper" "ThousandLeaflets$Paper" "seal" "I") := sb_3 (List.mem_of_getElem? (i := 200) rfl) rfl
theorem tw_682 : TW (Jvm.Cond.laysFinal "ThousandLeaflets$Paper" "ThousandLeaflets$Paper" "pages0" "I") := sb_3 (List.mem_of_getElem? (i := 202) rfl) rfl
theorem tw_684 : TW (Jvm.Cond.laysFinal "ThousandLeaflets$Paper" "ThousandLeaflets$Paper" "pages1" "I") := sb_3 (List.mem_of_getElem? (i := 204) rfl) rfl
theorem tw_687 : TW (Jvm.Cond.methodLink "ThousandLeaflets" (165 : Nat) ({ cls := "ThousandLeaflets$Heap", name := "put", desc := "(LThousandLeaflets$Paper;)I" } : Jvm.MethodName)) := sb_3 (List.mem_of_getElem? (i := 207) rfl) rfl
theorem tw_688 : TW (Jvm.Cond.instanceMethod ({ cls := "ThousandLeaflets$Heap", name := "put", desc := "(LThousandLeaflets$Paper;)I" } : Jvm.MethodName)) := sb_3 (List.mem_of_getElem? (i := 208) rfl) rfl
theorem tw_689 : TW (Jvm.Cond.selects "ThousandLeaflets$Heap" ({ cls := "ThousandLeaflets$Heap", name := "put", desc := "(LThousandLeaflets$Paper;)I" } : Jvm.MethodName) ({ cls := "ThousandLeaflets$Heap", name := "put", desc := "(LThousandLeaflets$Paper;)I" } : Jvm.MethodName)) := sb_3 (List.mem_of_getElem? (i := 209) rfl) rfl
theorem tw_690 : TW (Jvm.Cond.code ({ cls := "ThousandLeaflets$Heap", name := "put", desc := "(LThousandLeaflets$Paper;)I" } : Jvm.MethodName) prog_8_method_3_code (2 : Nat) (Option.some Jvm.ClassFile.FieldType.int)) := sb_3 (List.mem_of_getElem? (i := 210) rfl) rfl
theorem tw_691 : TW (Jvm.Cond.methodLink "ThousandLeaflets$Heap" (24 : Nat) ({ cls := "ThousandLeaflets$Heap", name := "unnamed", desc := "()I" } : Jvm.MethodName)) := sb_3 (List.mem_of_getElem? (i := 211) rfl) rfl
theorem tw_693 : TW (Jvm.Cond.instanceMethod ({ cls := "ThousandLeaflets$Heap", name := "unnamed", desc := "()I" } : Jvm.MethodName)) := sb_3 (List.mem_of_getElem? (i := 213) rfl) rfl
theorem tw_694 : TW (Jvm.Cond.code ({ cls := "ThousandLeaflets$Heap", name := "unnamed", desc := "()I" } : Jvm.MethodName) prog_8_method_4_code (4 : Nat) (Option.some Jvm.ClassFile.FieldType.int)) := sb_3 (List.mem_of_getElem? (i := 214) rfl) rfl
theorem tw_695 : TW (Jvm.Cond.methodLink "ThousandLeafletsLaw" (55 : Nat) ({ cls := "ThousandLeaflets", name := "slip", desc := "(IIII)I" } : Jvm.MethodName)) := sb_3 (List.mem_of_getElem? (i := 215) rfl) rfl
theorem tw_696 : TW (Jvm.Cond.instanceMethod ({ cls := "ThousandLeaflets", name := "slip", desc := "(IIII)I" } : Jvm.MethodName)) := sb_3 (List.mem_of_getElem? (i := 216) rfl) rfl
theorem tw_697 : TW (Jvm.Cond.selects "ThousandLeaflets" ({ cls := "ThousandLeaflets", name := "slip", desc := "(IIII)I" } : Jvm.MethodName) ({ cls := "ThousandLeaflets", name := "slip", desc := "(IIII)I" } : Jvm.MethodName)) := sb_3 (List.mem_of_getElem? (i := 217) rfl) rfl
theorem tw_698 : TW (Jvm.Cond.code ({ cls := "ThousandLeaflets", name := "slip", desc := "(IIII)I" } : Jvm.MethodName) prog_1_method_9_code (7 : Nat) (Option.some Jvm.ClassFile.FieldType.int)) := sb_3 (List.mem_of_getElem? (i := 218) rfl) rfl
theorem tw_699 : TW (Jvm.Cond.methodLink "ThousandLeaflets" (169 : Nat) ({ cls := "ThousandLeaflets", name := "send", desc := "(ILThousandLeaflets$Book;III)I" } : Jvm.MethodName)) := sb_3 (List.mem_of_getElem? (i := 219) rfl) rfl
theorem tw_701 : TW (Jvm.Cond.instanceMethod ({ cls := "ThousandLeaflets", name := "send", desc := "(ILThousandLeaflets$Book;III)I" } : Jvm.MethodName)) := sb_3 (List.mem_of_getElem? (i := 221) rfl) rfl
theorem tw_702 : TW (Jvm.Cond.code ({ cls := "ThousandLeaflets", name := "send", desc := "(ILThousandLeaflets$Book;III)I" } : Jvm.MethodName) prog_1_method_46_code (6 : Nat) (Option.some Jvm.ClassFile.FieldType.int)) := sb_3 (List.mem_of_getElem? (i := 222) rfl) rfl
theorem tw_703 : TW (Jvm.Cond.methodLink "ThousandLeaflets" (360 : Nat) ({ cls := "ThousandLeaflets$Book", name := "paperOf", desc := "(IIIII)LThousandLeaflets$Paper;" } : Jvm.MethodName)) := sb_3 (List.mem_of_getElem? (i := 223) rfl) rfl
theorem tw_704 : TW (Jvm.Cond.methodLink "ThousandLeafletsLaw" (59 : Nat) ({ cls := "ThousandLeaflets", name := "forged", desc := "(IIIII)I" } : Jvm.MethodName)) := sb_3 (List.mem_of_getElem? (i := 224) rfl) rfl
theorem tw_705 : TW (Jvm.Cond.instanceMethod ({ cls := "ThousandLeaflets", name := "forged", desc := "(IIIII)I" } : Jvm.MethodName)) := sb_3 (List.mem_of_getElem? (i := 225) rfl) rfl
theorem tw_706 : TW (Jvm.Cond.selects "ThousandLeaflets" ({ cls := "ThousandLeaflets", name := "forged", desc := "(IIIII)I" } : Jvm.MethodName) ({ cls := "ThousandLeaflets", name := "forged", desc := "(IIIII)I" } : Jvm.MethodName)) := sb_3 (List.mem_of_getElem? (i := 226) rfl) rfl
theorem tw_707 : TW (Jvm.Cond.code ({ cls := "ThousandLeaflets", name := "forged", desc := "(IIIII)I" } : Jvm.MethodName) prog_1_method_10_code (6 : Nat) (Option.some Jvm.ClassFile.FieldType.int)) := sb_3 (List.mem_of_getElem? (i := 227) rfl) rfl
theorem tw_708 : TW (Jvm.Cond.methodLink "ThousandLeafletsLaw" (64 : Nat) ({ cls := "ThousandLeaflets", name := "nameless", desc := "(III)I" } : Jvm.MethodName)) := sb_3 (List.mem_of_getElem? (i := 228) rfl) rfl
theorem tw_709 : TW (Jvm.Cond.instanceMethod ({ cls := "ThousandLeaflets", name := "nameless", desc := "(III)I" } : Jvm.MethodName)) := sb_3 (List.mem_of_getElem? (i := 229) rfl) rfl
theorem tw_710 : TW (Jvm.Cond.selects "ThousandLeaflets" ({ cls := "ThousandLeaflets", name := "nameless", desc := "(III)I" } : Jvm.MethodName) ({ cls := "ThousandLeaflets", name := "nameless", desc := "(III)I" } : Jvm.MethodName)) := sb_3 (List.mem_of_getElem? (i := 230) rfl) rfl
theorem tw_711 : TW (Jvm.Cond.code ({ cls := "ThousandLeaflets", name := "nameless", desc := "(III)I" } : Jvm.MethodName) prog_1_method_11_code (6 : Nat) (Option.some Jvm.ClassFile.FieldType.int)) := sb_3 (List.mem_of_getElem? (i := 231) rfl) rfl
theorem tw_712 : TW (Jvm.Cond.classLink "ThousandLeaflets" (180 : Nat) "ThousandLeaflets$Paper") := sb_3 (List.mem_of_getElem? (i := 232) rfl) rfl
theorem tw_713 : TW (Jvm.Cond.methodLink "ThousandLeaflets" (182 : Nat) ({ cls := "ThousandLeaflets$Paper", name := "<init>", desc := "(IIIIIII)V" } : Jvm.MethodName)) := sb_3 (List.mem_of_getElem? (i := 233) rfl) rfl
theorem tw_714 : TW (Jvm.Cond.methodLink "ThousandLeafletsLaw" (74 : Nat) ({ cls := "ThousandLeaflets", name := "away", desc := "(II)Z" } : Jvm.MethodName)) := sb_3 (List.mem_of_getElem? (i := 234) rfl) rfl
theorem tw_715 : TW (Jvm.Cond.instanceMethod ({ cls := "ThousandLeaflets", name := "away", desc := "(II)Z" } : Jvm.MethodName)) := sb_3 (List.mem_of_getElem? (i := 235) rfl) rfl
theorem tw_716 : TW (Jvm.Cond.selects "ThousandLeaflets" ({ cls := "ThousandLeaflets", name := "away", desc := "(II)Z" } : Jvm.MethodName) ({ cls := "ThousandLeaflets", name := "away", desc := "(II)Z" } : Jvm.MethodName)) := sb_3 (List.mem_of_getElem? (i := 236) rfl) rfl
theorem tw_717 : TW (Jvm.Cond.code ({ cls := "ThousandLeaflets", name := "away", desc := "(II)Z" } : Jvm.MethodName) prog_1_method_13_code (3 : Nat) (Option.some Jvm.ClassFile.FieldType.boolean)) := sb_3 (List.mem_of_getElem? (i := 237) rfl) rfl
theorem tw_718 : TW (Jvm.Cond.methodLink "ThousandLeaflets" (185 : Nat) ({ cls := "ThousandLeaflets", name := "paperAt", desc := "(II)LThousandLeaflets$Paper;" } : Jvm.MethodName)) := sb_3 (List.mem_of_getElem? (i := 238) rfl) rfl
theorem tw_720 : TW (Jvm.Cond.instanceMethod ({ cls := "ThousandLeaflets", name := "paperAt", desc := "(II)LThousandLeaflets$Paper;" } : Jvm.MethodName)) := sb_4 (List.mem_of_getElem? (i := 0) rfl) rfl
theorem tw_721 : TW (Jvm.Cond.code ({ cls := "ThousandLeaflets", name := "paperAt", desc := "(II)LThousandLeaflets$Paper;" } : Jvm.MethodName) prog_1_method_45_code (3 : Nat) (Option.some (Jvm.ClassFile.FieldType.object "ThousandLeaflets$Paper"))) := sb_4 (List.mem_of_getElem? (i := 1) rfl) rfl
theorem tw_722 : TW (Jvm.Cond.methodLink "ThousandLeaflets" (337 : Nat) ({ cls := "ThousandLeaflets$Heap", name := "at", desc := "(I)LThousandLeaflets$Paper;" } : Jvm.MethodName)) := sb_4 (List.mem_of_getElem? (i := 2) rfl) rfl
theorem tw_723 : TW (Jvm.Cond.instanceMethod ({ cls := "ThousandLeaflets$Heap", name := "at", desc := "(I)LThousandLeaflets$Paper;" } : Jvm.MethodName)) := sb_4 (List.mem_of_getElem? (i := 3) rfl) rfl
theorem tw_724 : TW (Jvm.Cond.selects "ThousandLeaflets$Heap" ({ cls := "ThousandLeaflets$Heap", name := "at", desc := "(I)LThousandLeaflets$Paper;" } : Jvm.MethodName) ({ cls := "ThousandLeaflets$Heap", name := "at", desc := "(I)LThousandLeaflets$Paper;" } : Jvm.MethodName)) := sb_4 (List.mem_of_getElem? (i := 4) rfl) rfl
theorem tw_725 : TW (Jvm.Cond.code ({ cls := "ThousandLeaflets$Heap", name := "at", desc := "(I)LThousandLeaflets$Paper;" } : Jvm.MethodName) prog_8_method_2_code (2 : Nat) (Option.some (Jvm.ClassFile.FieldType.object "ThousandLeaflets$Paper"))) := sb_4 (List.mem_of_getElem? (i := 5) rfl) rfl
theorem tw_726 : TW (Jvm.Cond.methodLink "ThousandLeaflets" (210 : Nat) ({ cls := "ThousandLeaflets$Heap", name := "drop", desc := "(I)V" } : Jvm.MethodName)) := sb_4 (List.mem_of_getElem? (i := 6) rfl) rfl
theorem tw_727 : TW (Jvm.Cond.instanceMethod ({ cls := "ThousandLeaflets$Heap", name := "drop", desc := "(I)V" } : Jvm.MethodName)) := sb_4 (List.mem_of_getElem? (i := 7) rfl) rfl
theorem tw_728 : TW (Jvm.Cond.selects "ThousandLeaflets$Heap" ({ cls := "ThousandLeaflets$Heap", name := "drop", desc := "(I)V" } : Jvm.MethodName) ({ cls := "ThousandLeaflets$Heap", name := "drop", desc := "(I)V" } : Jvm.MethodName)) := sb_4 (List.mem_of_getElem? (i := 8) rfl) rfl
theorem tw_729 : TW (Jvm.Cond.code ({ cls := "ThousandLeaflets$Heap", name := "drop", desc := "(I)V" } : Jvm.MethodName) prog_8_method_8_code (3 : Nat) (Option.none : Option Jvm.ClassFile.FieldType)) := sb_4 (List.mem_of_getElem? (i := 9) rfl) rfl
theorem tw_730 : TW (Jvm.Cond.methodLink "ThousandLeafletsLaw" (78 : Nat) ({ cls := "ThousandLeaflets", name := "peels", desc := "(IIII)I" } : Jvm.MethodName)) := sb_4 (List.mem_of_getElem? (i := 10) rfl) rfl
theorem tw_731 : TW (Jvm.Cond.instanceMethod ({ cls := "ThousandLeaflets", name := "peels", desc := "(IIII)I" } : Jvm.MethodName)) := sb_4 (List.mem_of_getElem? (i := 11) rfl) rfl
theorem tw_732 : TW (Jvm.Cond.selects "ThousandLeaflets" ({ cls := "ThousandLeaflets", name := "peels", desc := "(IIII)I" } : Jvm.MethodName) ({ cls := "ThousandLeaflets", name := "peels", desc := "(IIII)I" } : Jvm.MethodName)) := sb_4 (List.mem_of_getElem? (i := 12) rfl) rfl
theorem tw_733 : TW (Jvm.Cond.code ({ cls := "ThousandLeaflets", name := "peels", desc := "(IIII)I" } : Jvm.MethodName) prog_1_method_14_code (7 : Nat) (Option.some Jvm.ClassFile.FieldType.int)) := sb_4 (List.mem_of_getElem? (i := 13) rfl) rfl
theorem tw_734 : TW (Jvm.Cond.methodLink "ThousandLeaflets" (213 : Nat) ({ cls := "ThousandLeaflets", name := "isOctet", desc := "(I)Z" } : Jvm.MethodName)) := sb_4 (List.mem_of_getElem? (i := 14) rfl) rfl
theorem tw_735 : TW (Jvm.Cond.static ({ cls := "ThousandLeaflets", name := "isOctet", desc := "(I)Z" } : Jvm.MethodName)) := sb_4 (List.mem_of_getElem? (i := 15) rfl) rfl
theorem tw_736 : TW (Jvm.Cond.code ({ cls := "ThousandLeaflets", name := "isOctet", desc := "(I)Z" } : Jvm.MethodName) prog_1_method_37_code (1 : Nat) (Option.some Jvm.ClassFile.FieldType.boolean)) := sb_4 (List.mem_of_getElem? (i := 16) rfl) rfl
theorem tw_737 : TW (Jvm.Cond.methodLink "ThousandLeaflets" (216 : Nat) ({ cls := "ThousandLeaflets", name := "gather", desc := "(III)LThousandLeaflets$Equations;" } : Jvm.MethodName)) := sb_4 (List.mem_of_getElem? (i := 17) rfl) rfl
theorem tw_739 : TW (Jvm.Cond.instanceMethod ({ cls := "ThousandLeaflets", name := "gather", desc := "(III)LThousandLeaflets$Equations;" } : Jvm.MethodName)) := sb_4 (List.mem_of_getElem? (i := 19) rfl) rfl
theorem tw_740 : TW (Jvm.Cond.code ({ cls := "ThousandLeaflets", name := "gather", desc := "(III)LThousandLeaflets$Equations;" } : Jvm.MethodName) prog_1_method_49_code (8 : Nat) (Option.some (Jvm.ClassFile.FieldType.object "ThousandLeaflets$Equations"))) := sb_4 (List.mem_of_getElem? (i := 20) rfl) rfl
theorem tw_741 : TW (Jvm.Cond.methodLink "ThousandLeaflets" (371 : Nat) ({ cls := "ThousandLeaflets$Equations", name := "startWith", desc := "(LThousandLeaflets$Book;)V" } : Jvm.MethodName)) := sb_4 (List.mem_of_getElem? (i := 21) rfl) rfl
theorem tw_742 : TW (Jvm.Cond.instanceMethod ({ cls := "ThousandLeaflets$Equations", name := "startWith", desc := "(LThousandLeaflets$Book;)V" } : Jvm.MethodName)) := sb_4 (List.mem_of_getElem? (i := 22) rfl) rfl
theorem tw_743 : TW (Jvm.Cond.selects "ThousandLeaflets$Equations" ({ cls := "ThousandLeaflets$Equations", name := "startWith", desc := "(LThousandLeaflets$Book;)V" } : Jvm.MethodName) ({ cls := "ThousandLeaflets$Equations", name := "startWith", desc := "(LThousandLeaflets$Book;)V" } : Jvm.MethodName)) := sb_4 (List.mem_of_getElem? (i := 23) rfl) rfl
theorem tw_744 : TW (Jvm.Cond.code ({ cls := "ThousandLeaflets$Equations", name := "startWith", desc := "(LThousandLeaflets$Book;)V" } : Jvm.MethodName) prog_7_method_2_code (3 : Nat) (Option.none : Option Jvm.ClassFile.FieldType)) := sb_4 (List.mem_of_getElem? (i := 24) rfl) rfl
theorem tw_745 : TW (Jvm.Cond.methodLink "ThousandLeaflets$Equations" (46 : Nat) ({ cls := "ThousandLeaflets$Equations", name := "add", desc := "(II)V" } : Jvm.MethodName)) := sb_4 (List.mem_of_getElem? (i := 25) rfl) rfl
theorem tw_746 : TW (Jvm.Cond.instanceMethod ({ cls := "ThousandLeaflets$Equations", name := "add", desc := "(II)V" } : Jvm.MethodName)) := sb_4 (List.mem_of_getElem? (i := 26) rfl) rfl
theorem tw_747 : TW (Jvm.Cond.selects "ThousandLeaflets$Equations" ({ cls := "ThousandLeaflets$Equations", name := "add", desc := "(II)V" } : Jvm.MethodName) ({ cls := "ThousandLeaflets$Equations", name := "add", desc := "(II)V" } : Jvm.MethodName)) := sb_4 (List.mem_of_getElem? (i := 27) rfl) rfl
theorem tw_748 : TW (Jvm.Cond.code ({ cls := "ThousandLeaflets$Equations", name := "add", desc := "(II)V" } : Jvm.MethodName) prog_7_method_3_code (3 : Nat) (Option.none : Option Jvm.ClassFile.FieldType)) := sb_4 (List.mem_of_getElem? (i := 28) rfl) rfl
theorem tw_749 : TW (Jvm.Cond.methodLink "ThousandLeaflets" (365 : Nat) ({ cls := "ThousandLeaflets$Paper", name := "hasOctet", desc := "(I)Z" } : Jvm.MethodName)) := sb_4 (List.mem_of_getElem? (i := 29) rfl) rfl
theorem tw_750 : TW (Jvm.Cond.instanceMethod ({ cls := "ThousandLeaflets$Paper", name := "hasOctet", desc := "(I)Z" } : Jvm.MethodName)) := sb_4 (List.mem_of_getElem? (i := 30) rfl) rfl
theorem tw_751 : TW (Jvm.Cond.selects "ThousandLeaflets$Paper" ({ cls := "ThousandLeaflets$Paper", name := "hasOctet", desc := "(I)Z" } : Jvm.MethodName) ({ cls := "ThousandLeaflets$Paper", name := "hasOctet", desc := "(I)Z" } : Jvm.MethodName)) := sb_4 (List.mem_of_getElem? (i := 31) rfl) rfl
theorem tw_752 : TW (Jvm.Cond.code ({ cls := "ThousandLeaflets$Paper", name := "hasOctet", desc := "(I)Z" } : Jvm.MethodName) prog_9_method_3_code (2 : Nat) (Option.some Jvm.ClassFile.FieldType.boolean)) := sb_4 (List.mem_of_getElem? (i := 32) rfl) rfl
theorem tw_753 : TW (Jvm.Cond.methodLink "ThousandLeaflets" (375 : Nat) ({ cls := "ThousandLeaflets$Paper", name := "equation", desc := "(II)I" } : Jvm.MethodName)) := sb_4 (List.mem_of_getElem? (i := 33) rfl) rfl
theorem tw_754 : TW (Jvm.Cond.instanceMethod ({ cls := "ThousandLeaflets$Paper", name := "equation", desc := "(II)I" } : Jvm.MethodName)) := sb_4 (List.mem_of_getElem? (i := 34) rfl) rfl
theorem tw_755 : TW (Jvm.Cond.selects "ThousandLeaflets$Paper" ({ cls := "ThousandLeaflets$Paper", name := "equation", desc := "(II)I" } : Jvm.MethodName) ({ cls := "ThousandLeaflets$Paper", name := "equation", desc := "(II)I" } : Jvm.MethodName)) := sb_4 (List.mem_of_getElem? (i := 35) rfl) rfl
theorem tw_756 : TW (Jvm.Cond.code ({ cls := "ThousandLeaflets$Paper", name := "equation", desc := "(II)I" } : Jvm.MethodName) prog_9_method_4_code (3 : Nat) (Option.some Jvm.ClassFile.FieldType.int)) := sb_4 (List.mem_of_getElem? (i := 36) rfl) rfl
theorem tw_757 : TW (Jvm.Cond.methodLink "ThousandLeaflets$Paper" (33 : Nat) ({ cls := "ThousandLeaflets$Paper", name := "pagesBy", desc := "(I)I" } : Jvm.MethodName)) := sb_4 (List.mem_of_getElem? (i := 37) rfl) rfl
theorem tw_758 : TW (Jvm.Cond.instanceMethod ({ cls := "ThousandLeaflets$Paper", name := "pagesBy", desc := "(I)I" } : Jvm.MethodName)) := sb_4 (List.mem_of_getElem? (i := 38) rfl) rfl
theorem tw_759 : TW (Jvm.Cond.selects "ThousandLeaflets$Paper" ({ cls := "ThousandLeaflets$Paper", name := "pagesBy", desc := "(I)I" } : Jvm.MethodName) ({ cls := "ThousandLeaflets$Paper", name := "pagesBy", desc := "(I)I" } : Jvm.MethodName)) := sb_4 (List.mem_of_getElem? (i := 39) rfl) rfl
theorem tw_760 : TW (Jvm.Cond.code ({ cls := "ThousandLeaflets$Paper", name := "pagesBy", desc := "(I)I" } : Jvm.MethodName) prog_9_method_2_code (2 : Nat) (Option.some Jvm.ClassFile.FieldType.int)) := sb_4 (List.mem_of_getElem? (i := 40) rfl) rfl
theorem tw_761 : TW (Jvm.Cond.methodLink "ThousandLeaflets" (378 : Nat) ({ cls := "ThousandLeaflets$Equations", name := "add", desc := "(II)V" } : Jvm.MethodName)) := sb_4 (List.mem_of_getElem? (i := 41) rfl) rfl
theorem tw_762 : TW (Jvm.Cond.methodLink "ThousandLeaflets" (220 : Nat) ({ cls := "ThousandLeaflets$Equations", name := "peel", desc := "()I" } : Jvm.MethodName)) := sb_4 (List.mem_of_getElem? (i := 42) rfl) rfl
theorem tw_763 : TW (Jvm.Cond.instanceMethod ({ cls := "ThousandLeaflets$Equations", name := "peel", desc := "()I" } : Jvm.MethodName)) := sb_4 (List.mem_of_getElem? (i := 43) rfl) rfl
theorem tw_764 : TW (Jvm.Cond.selects "ThousandLeaflets$Equations" ({ cls := "ThousandLeaflets$Equations", name := "peel", desc := "()I" } : Jvm.MethodName) ({ cls := "ThousandLeaflets$Equations", name := "peel", desc := "()I" } : Jvm.MethodName)) := sb_4 (List.mem_of_getElem? (i := 44) rfl) rfl
theorem tw_765 : TW (Jvm.Cond.code ({ cls := "ThousandLeaflets$Equations", name := "peel", desc := "()I" } : Jvm.MethodName) prog_7_method_7_code (6 : Nat) (Option.some Jvm.ClassFile.FieldType.int)) := sb_4 (List.mem_of_getElem? (i := 45) rfl) rfl
theorem tw_766 : TW (Jvm.Cond.methodLink "ThousandLeaflets$Equations" (58 : Nat) ({ cls := "ThousandLeaflets$Equations", name := "firstWithOneUnknown", desc := "(I)I" } : Jvm.MethodName)) := sb_4 (List.mem_of_getElem? (i := 46) rfl) rfl
theorem tw_768 : TW (Jvm.Cond.instanceMethod ({ cls := "ThousandLeaflets$Equations", name := "firstWithOneUnknown", desc := "(I)I" } : Jvm.MethodName)) := sb_4 (List.mem_of_getElem? (i := 48) rfl) rfl
theorem tw_769 : TW (Jvm.Cond.code ({ cls := "ThousandLeaflets$Equations", name := "firstWithOneUnknown", desc := "(I)I" } : Jvm.MethodName) prog_7_method_8_code (4 : Nat) (Option.some Jvm.ClassFile.FieldType.int)) := sb_4 (List.mem_of_getElem? (i := 49) rfl) rfl
theorem tw_770 : TW (Jvm.Cond.methodLink "ThousandLeaflets$Equations" (54 : Nat) ({ cls := "ThousandLeaflets$Equations", name := "unknownOf", desc := "(II)I" } : Jvm.MethodName)) := sb_4 (List.mem_of_getElem? (i := 50) rfl) rfl
theorem tw_772 : TW (Jvm.Cond.instanceMethod ({ cls := "ThousandLeaflets$Equations", name := "unknownOf", desc := "(II)I" } : Jvm.MethodName)) := sb_4 (List.mem_of_getElem? (i := 52) rfl) rfl
theorem tw_773 : TW (Jvm.Cond.code ({ cls := "ThousandLeaflets$Equations", name := "unknownOf", desc := "(II)I" } : Jvm.MethodName) prog_7_method_5_code (3 : Nat) (Option.some Jvm.ClassFile.FieldType.int)) := sb_4 (List.mem_of_getElem? (i := 53) rfl) rfl
theorem tw_774 : TW (Jvm.Cond.constant "ThousandLeaflets$Equations" (53 : Nat) (1048575 : Int32)) := sb_4 (List.mem_of_getElem? (i := 54) rfl) rfl
theorem tw_775 : TW (Jvm.Cond.methodLinkNest "ThousandLeaflets$Equations" (62 : Nat) ({ cls := "ThousandLeaflets", name := "lowestPlace", desc := "(I)I" } : Jvm.MethodName) "ThousandLeaflets") := sb_4 (List.mem_of_getElem? (i := 55) rfl) rfl
theorem tw_776 : TW (Jvm.Cond.static ({ cls := "ThousandLeaflets", name := "lowestPlace", desc := "(I)I" } : Jvm.MethodName)) := sb_4 (List.mem_of_getElem? (i := 56) rfl) rfl
theorem tw_777 : TW (Jvm.Cond.code ({ cls := "ThousandLeaflets", name := "lowestPlace", desc := "(I)I" } : Jvm.MethodName) prog_1_method_62_code (1 : Nat) (Option.some Jvm.ClassFile.FieldType.int)) := sb_4 (List.mem_of_getElem? (i := 57) rfl) rfl
theorem tw_778 : TW (Jvm.Cond.methodLink "ThousandLeaflets$Equations" (65 : Nat) ({ cls := "ThousandLeaflets$Equations", name := "restOf", desc := "(II)I" } : Jvm.MethodName)) := sb_4 (List.mem_of_getElem? (i := 58) rfl) rfl
theorem tw_780 : TW (Jvm.Cond.instanceMethod ({ cls := "ThousandLeaflets$Equations", name := "restOf", desc := "(II)I" } : Jvm.MethodName)) := sb_4 (List.mem_of_getElem? (i := 60) rfl) rfl
theorem tw_781 : TW (Jvm.Cond.code ({ cls := "ThousandLeaflets$Equations", name := "restOf", desc := "(II)I" } : Jvm.MethodName) prog_7_method_9_code (6 : Nat) (Option.some Jvm.ClassFile.FieldType.int)) := sb_4 (List.mem_of_getElem? (i := 61) rfl) rfl
theorem tw_782 : TW (Jvm.Cond.methodLink "ThousandLeaflets" (224 : Nat) ({ cls := "ThousandLeaflets$Equations", name := "quarrels", desc := "(I)I" } : Jvm.MethodName)) := sb_4 (List.mem_of_getElem? (i := 62) rfl) rfl
theorem tw_783 : TW (Jvm.Cond.instanceMethod ({ cls := "ThousandLeaflets$Equations", name := "quarrels", desc := "(I)I" } : Jvm.MethodName)) := sb_4 (List.mem_of_getElem? (i := 63) rfl) rfl
theorem tw_784 : TW (Jvm.Cond.selects "ThousandLeaflets$Equations" ({ cls := "ThousandLeaflets$Equations", name := "quarrels", desc := "(I)I" } : Jvm.MethodName) ({ cls := "ThousandLeaflets$Equations", name := "quarrels", desc := "(I)I" } : Jvm.MethodName)) := sb_4 (List.mem_of_getElem? (i := 64) rfl) rfl
theorem tw_785 : TW (Jvm.Cond.code ({ cls := "ThousandLeaflets$Equations", name := "quarrels", desc := "(I)I" } : Jvm.MethodName) prog_7_method_10_code (4 : Nat) (Option.some Jvm.ClassFile.FieldType.int)) := sb_4 (List.mem_of_getElem? (i := 65) rfl) rfl
theorem tw_786 : TW (Jvm.Cond.methodLink "ThousandLeaflets" (227 : Nat) ({ cls := "ThousandLeaflets$Equations", name := "work", desc := "(I)I" } : Jvm.MethodName)) := sb_4 (List.mem_of_getElem? (i := 66) rfl) rfl
theorem tw_787 : TW (Jvm.Cond.instanceMethod ({ cls := "ThousandLeaflets$Equations", name := "work", desc := "(I)I" } : Jvm.MethodName)) := sb_4 (List.mem_of_getElem? (i := 67) rfl) rfl
theorem tw_788 : TW (Jvm.Cond.selects "ThousandLeaflets$Equations" ({ cls := "ThousandLeaflets$Equations", name := "work", desc := "(I)I" } : Jvm.MethodName) ({ cls := "ThousandLeaflets$Equations", name := "work", desc := "(I)I" } : Jvm.MethodName)) := sb_4 (List.mem_of_getElem? (i := 68) rfl) rfl
theorem tw_789 : TW (Jvm.Cond.code ({ cls := "ThousandLeaflets$Equations", name := "work", desc := "(I)I" } : Jvm.MethodName) prog_7_method_11_code (4 : Nat) (Option.some Jvm.ClassFile.FieldType.int)) := sb_4 (List.mem_of_getElem? (i := 69) rfl) rfl
theorem tw_790 : TW (Jvm.Cond.methodLink "ThousandLeaflets$Equations" (68 : Nat) ({ cls := "java/lang/Integer", name := "bitCount", desc := "(I)I" } : Jvm.MethodName)) := sb_4 (List.mem_of_getElem? (i := 70) rfl) rfl
theorem tw_791 : TW (Jvm.Cond.methodLink "ThousandLeaflets" (230 : Nat) ({ cls := "ThousandLeaflets$Equations", name := "left", desc := "(I)I" } : Jvm.MethodName)) := sb_4 (List.mem_of_getElem? (i := 71) rfl) rfl
theorem tw_792 : TW (Jvm.Cond.instanceMethod ({ cls := "ThousandLeaflets$Equations", name := "left", desc := "(I)I" } : Jvm.MethodName)) := sb_4 (List.mem_of_getElem? (i := 72) rfl) rfl
theorem tw_793 : TW (Jvm.Cond.selects "ThousandLeaflets$Equations" ({ cls := "ThousandLeaflets$Equations", name := "left", desc := "(I)I" } : Jvm.MethodName) ({ cls := "ThousandLeaflets$Equations", name := "left", desc := "(I)I" } : Jvm.MethodName)) := sb_4 (List.mem_of_getElem? (i := 73) rfl) rfl
theorem tw_794 : TW (Jvm.Cond.code ({ cls := "ThousandLeaflets$Equations", name := "left", desc := "(I)I" } : Jvm.MethodName) prog_7_method_12_code (5 : Nat) (Option.some Jvm.ClassFile.FieldType.int)) := sb_4 (List.mem_of_getElem? (i := 74) rfl) rfl
theorem tw_795 : TW (Jvm.Cond.methodLink "ThousandLeafletsLaw" (82 : Nat) ({ cls := "ThousandLeaflets", name := "solves", desc := "(IIII)I" } : Jvm.MethodName)) := sb_4 (List.mem_of_getElem? (i := 75) rfl) rfl
theorem tw_796 : TW (Jvm.Cond.instanceMethod ({ cls := "ThousandLeaflets", name := "solves", desc := "(IIII)I" } : Jvm.MethodName)) := sb_4 (List.mem_of_getElem? (i := 76) rfl) rfl
theorem tw_797 : TW (Jvm.Cond.selects "ThousandLeaflets" ({ cls := "ThousandLeaflets", name := "solves", desc := "(IIII)I" } : Jvm.MethodName) ({ cls := "ThousandLeaflets", name := "solves", desc := "(IIII)I" } : Jvm.MethodName)) := sb_4 (List.mem_of_getElem? (i := 77) rfl) rfl
theorem tw_798 : TW (Jvm.Cond.code ({ cls := "ThousandLeaflets", name := "solves", desc := "(IIII)I" } : Jvm.MethodName) prog_1_method_15_code (7 : Nat) (Option.some Jvm.ClassFile.FieldType.int)) := sb_4 (List.mem_of_getElem? (i := 78) rfl) rfl
theorem tw_799 : TW (Jvm.Cond.methodLink "ThousandLeaflets" (236 : Nat) ({ cls := "ThousandLeaflets$Basis", name := "take", desc := "(LThousandLeaflets$Equations;I)V" } : Jvm.MethodName)) := sb_4 (List.mem_of_getElem? (i := 79) rfl) rfl
theorem tw_800 : TW (Jvm.Cond.instanceMethod ({ cls := "ThousandLeaflets$Basis", name := "take", desc := "(LThousandLeaflets$Equations;I)V" } : Jvm.MethodName)) := sb_4 (List.mem_of_getElem? (i := 80) rfl) rfl
theorem tw_801 : TW (Jvm.Cond.selects "ThousandLeaflets$Basis" ({ cls := "ThousandLeaflets$Basis", name := "take", desc := "(LThousandLeaflets$Equations;I)V" } : Jvm.MethodName) ({ cls := "ThousandLeaflets$Basis", name := "take", desc := "(LThousandLeaflets$Equations;I)V" } : Jvm.MethodName)) := sb_4 (List.mem_of_getElem? (i := 81) rfl) rfl
theorem tw_802 : TW (Jvm.Cond.code ({ cls := "ThousandLeaflets$Basis", name := "take", desc := "(LThousandLeaflets$Equations;I)V" } : Jvm.MethodName) prog_2_method_2_code (4 : Nat) (Option.none : Option Jvm.ClassFile.FieldType)) := sb_4 (List.mem_of_getElem? (i := 82) rfl) rfl
theorem tw_803 : TW (Jvm.Cond.methodLink "ThousandLeaflets$Basis" (32 : Nat) ({ cls := "ThousandLeaflets$Basis", name := "add", desc := "(I)V" } : Jvm.MethodName)) := sb_4 (List.mem_of_getElem? (i := 83) rfl) rfl
theorem tw_804 : TW (Jvm.Cond.instanceMethod ({ cls := "ThousandLeaflets$Basis", name := "add", desc := "(I)V" } : Jvm.MethodName)) := sb_4 (List.mem_of_getElem? (i := 84) rfl) rfl
theorem tw_805 : TW (Jvm.Cond.selects "ThousandLeaflets$Basis" ({ cls := "ThousandLeaflets$Basis", name := "add", desc := "(I)V" } : Jvm.MethodName) ({ cls := "ThousandLeaflets$Basis", name := "add", desc := "(I)V" } : Jvm.MethodName)) := sb_4 (List.mem_of_getElem? (i := 85) rfl) rfl
theorem tw_806 : TW (Jvm.Cond.code ({ cls := "ThousandLeaflets$Basis", name := "add", desc := "(I)V" } : Jvm.MethodName) prog_2_method_3_code (4 : Nat) (Option.none : Option Jvm.ClassFile.FieldType)) := sb_4 (List.mem_of_getElem? (i := 86) rfl) rfl
theorem tw_807 : TW (Jvm.Cond.methodLink "ThousandLeaflets$Basis" (36 : Nat) ({ cls := "ThousandLeaflets$Basis", name := "reduce", desc := "(I)I" } : Jvm.MethodName)) := sb_4 (List.mem_of_getElem? (i := 87) rfl) rfl
theorem tw_809 : TW (Jvm.Cond.instanceMethod ({ cls := "ThousandLeaflets$Basis", name := "reduce", desc := "(I)I" } : Jvm.MethodName)) := sb_4 (List.mem_of_getElem? (i := 89) rfl) rfl
theorem tw_810 : TW (Jvm.Cond.code ({ cls := "ThousandLeaflets$Basis", name := "reduce", desc := "(I)I" } : Jvm.MethodName) prog_2_method_5_code (4 : Nat) (Option.some Jvm.ClassFile.FieldType.int)) := sb_4 (List.mem_of_getElem? (i := 90) rfl) rfl
theorem tw_811 : TW (Jvm.Cond.constant "ThousandLeaflets$Basis" (40 : Nat) (1048575 : Int32)) := sb_4 (List.mem_of_getElem? (i := 91) rfl) rfl
theorem tw_812 : TW (Jvm.Cond.methodLink "ThousandLeaflets" (240 : Nat) ({ cls := "ThousandLeaflets$Basis", name := "fixedPages", desc := "(I)I" } : Jvm.MethodName)) := sb_4 (List.mem_of_getElem? (i := 92) rfl) rfl
theorem tw_813 : TW (Jvm.Cond.instanceMethod ({ cls := "ThousandLeaflets$Basis", name := "fixedPages", desc := "(I)I" } : Jvm.MethodName)) := sb_4 (List.mem_of_getElem? (i := 93) rfl) rfl
theorem tw_814 : TW (Jvm.Cond.selects "ThousandLeaflets$Basis" ({ cls := "ThousandLeaflets$Basis", name := "fixedPages", desc := "(I)I" } : Jvm.MethodName) ({ cls := "ThousandLeaflets$Basis", name := "fixedPages", desc := "(I)I" } : Jvm.MethodName)) := sb_4 (List.mem_of_getElem? (i := 94) rfl) rfl
theorem tw_815 : TW (Jvm.Cond.code ({ cls := "ThousandLeaflets$Basis", name := "fixedPages", desc := "(I)I" } : Jvm.MethodName) prog_2_method_7_code (4 : Nat) (Option.some Jvm.ClassFile.FieldType.int)) := sb_4 (List.mem_of_getElem? (i := 95) rfl) rfl
theorem tw_816 : TW (Jvm.Cond.methodLink "ThousandLeaflets$Basis" (41 : Nat) ({ cls := "ThousandLeaflets$Basis", name := "octetOf", desc := "(I)I" } : Jvm.MethodName)) := sb_4 (List.mem_of_getElem? (i := 96) rfl) rfl
theorem tw_817 : TW (Jvm.Cond.instanceMethod ({ cls := "ThousandLeaflets$Basis", name := "octetOf", desc := "(I)I" } : Jvm.MethodName)) := sb_4 (List.mem_of_getElem? (i := 97) rfl) rfl
theorem tw_818 : TW (Jvm.Cond.selects "ThousandLeaflets$Basis" ({ cls := "ThousandLeaflets$Basis", name := "octetOf", desc := "(I)I" } : Jvm.MethodName) ({ cls := "ThousandLeaflets$Basis", name := "octetOf", desc := "(I)I" } : Jvm.MethodName)) := sb_4 (List.mem_of_getElem? (i := 98) rfl) rfl
theorem tw_819 : TW (Jvm.Cond.code ({ cls := "ThousandLeaflets$Basis", name := "octetOf", desc := "(I)I" } : Jvm.MethodName) prog_2_method_6_code (3 : Nat) (Option.some Jvm.ClassFile.FieldType.int)) := sb_4 (List.mem_of_getElem? (i := 99) rfl) rfl
theorem tw_820 : TW (Jvm.Cond.methodLink "ThousandLeafletsLaw" (86 : Nat) ({ cls := "ThousandLeaflets", name := "read", desc := "(IIII)I" } : Jvm.MethodName)) := sb_4 (List.mem_of_getElem? (i := 100) rfl) rfl
theorem tw_821 : TW (Jvm.Cond.instanceMethod ({ cls := "ThousandLeaflets", name := "read", desc := "(IIII)I" } : Jvm.MethodName)) := sb_4 (List.mem_of_getElem? (i := 101) rfl) rfl
theorem tw_822 : TW (Jvm.Cond.selects "ThousandLeaflets" ({ cls := "ThousandLeaflets", name := "read", desc := "(IIII)I" } : Jvm.MethodName) ({ cls := "ThousandLeaflets", name := "read", desc := "(IIII)I" } : Jvm.MethodName)) := sb_4 (List.mem_of_getElem? (i := 102) rfl) rfl
theorem tw_823 : TW (Jvm.Cond.code ({ cls := "ThousandLeaflets", name := "read", desc := "(IIII)I" } : Jvm.MethodName) prog_1_method_16_code (7 : Nat) (Option.some Jvm.ClassFile.FieldType.int)) := sb_4 (List.mem_of_getElem? (i := 103) rfl) rfl
theorem tw_824 : TW (Jvm.Cond.methodLink "ThousandLeaflets" (249 : Nat) ({ cls := "ThousandLeaflets", name := "isHow", desc := "(I)Z" } : Jvm.MethodName)) := sb_4 (List.mem_of_getElem? (i := 104) rfl) rfl
theorem tw_825 : TW (Jvm.Cond.static ({ cls := "ThousandLeaflets", name := "isHow", desc := "(I)Z" } : Jvm.MethodName)) := sb_4 (List.mem_of_getElem? (i := 105) rfl) rfl
theorem tw_826 : TW (Jvm.Cond.code ({ cls := "ThousandLeaflets", name := "isHow", desc := "(I)Z" } : Jvm.MethodName) prog_1_method_39_code (1 : Nat) (Option.some Jvm.ClassFile.FieldType.boolean)) := sb_4 (List.mem_of_getElem? (i := 106) rfl) rfl
theorem tw_827 : TW (Jvm.Cond.methodLink "ThousandLeaflets" (252 : Nat) ({ cls := "ThousandLeaflets", name := "readOctet", desc := "(IIIII)I" } : Jvm.MethodName)) := sb_4 (List.mem_of_getElem? (i := 107) rfl) rfl
theorem tw_829 : TW (Jvm.Cond.instanceMethod ({ cls := "ThousandLeaflets", name := "readOctet", desc := "(IIIII)I" } : Jvm.MethodName)) := sb_4 (List.mem_of_getElem? (i := 109) rfl) rfl
theorem tw_830 : TW (Jvm.Cond.code ({ cls := "ThousandLeaflets", name := "readOctet", desc := "(IIIII)I" } : Jvm.MethodName) prog_1_method_50_code (8 : Nat) (Option.some Jvm.ClassFile.FieldType.int)) := sb_4 (List.mem_of_getElem? (i := 110) rfl) rfl
theorem tw_831 : TW (Jvm.Cond.methodLink "ThousandLeaflets" (272 : Nat) ({ cls := "ThousandLeaflets$Basis", name := "octetOf", desc := "(I)I" } : Jvm.MethodName)) := sb_4 (List.mem_of_getElem? (i := 111) rfl) rfl
theorem tw_832 : TW (Jvm.Cond.methodLink "ThousandLeafletsLaw" (90 : Nat) ({ cls := "ThousandLeaflets", name := "soon", desc := "(IIII)I" } : Jvm.MethodName)) := sb_4 (List.mem_of_getElem? (i := 112) rfl) rfl
theorem tw_833 : TW (Jvm.Cond.instanceMethod ({ cls := "ThousandLeaflets", name := "soon", desc := "(IIII)I" } : Jvm.MethodName)) := sb_4 (List.mem_of_getElem? (i := 113) rfl) rfl
theorem tw_834 : TW (Jvm.Cond.selects "ThousandLeaflets" ({ cls := "ThousandLeaflets", name := "soon", desc := "(IIII)I" } : Jvm.MethodName) ({ cls := "ThousandLeaflets", name := "soon", desc := "(IIII)I" } : Jvm.MethodName)) := sb_4 (List.mem_of_getElem? (i := 114) rfl) rfl
theorem tw_835 : TW (Jvm.Cond.code ({ cls := "ThousandLeaflets", name := "soon", desc := "(IIII)I" } : Jvm.MethodName) prog_1_method_17_code (5 : Nat) (Option.some Jvm.ClassFile.FieldType.int)) := sb_4 (List.mem_of_getElem? (i := 115) rfl) rfl
theorem tw_836 : TW (Jvm.Cond.methodLink "ThousandLeaflets" (256 : Nat) ({ cls := "ThousandLeaflets", name := "soonPeeled", desc := "(III)I" } : Jvm.MethodName)) := sb_4 (List.mem_of_getElem? (i := 116) rfl) rfl
theorem tw_838 : TW (Jvm.Cond.instanceMethod ({ cls := "ThousandLeaflets", name := "soonPeeled", desc := "(III)I" } : Jvm.MethodName)) := sb_4 (List.mem_of_getElem? (i := 118) rfl) rfl
theorem tw_839 : TW (Jvm.Cond.code ({ cls := "ThousandLeaflets", name := "soonPeeled", desc := "(III)I" } : Jvm.MethodName) prog_1_method_51_code (9 : Nat) (Option.some Jvm.ClassFile.FieldType.int)) := sb_4 (List.mem_of_getElem? (i := 119) rfl) rfl
theorem tw_840 : TW (Jvm.Cond.methodLink "ThousandLeaflets" (385 : Nat) ({ cls := "ThousandLeaflets", name := "spreadWith", desc := "(LThousandLeaflets$Paper;III)I" } : Jvm.MethodName)) := sb_4 (List.mem_of_getElem? (i := 120) rfl) rfl
theorem tw_842 : TW (Jvm.Cond.instanceMethod ({ cls := "ThousandLeaflets", name := "spreadWith", desc := "(LThousandLeaflets$Paper;III)I" } : Jvm.MethodName)) := sb_4 (List.mem_of_getElem? (i := 122) rfl) rfl
theorem tw_843 : TW (Jvm.Cond.code ({ cls := "ThousandLeaflets", name := "spreadWith", desc := "(LThousandLeaflets$Paper;III)I" } : Jvm.MethodName) prog_1_method_52_code (5 : Nat) (Option.some Jvm.ClassFile.FieldType.int)) := sb_4 (List.mem_of_getElem? (i := 123) rfl) rfl
theorem tw_844 : TW (Jvm.Cond.methodLink "ThousandLeaflets" (389 : Nat) ({ cls := "ThousandLeaflets$Equations", name := "spread", desc := "(I)I" } : Jvm.MethodName)) := sb_4 (List.mem_of_getElem? (i := 124) rfl) rfl
theorem tw_845 : TW (Jvm.Cond.instanceMethod ({ cls := "ThousandLeaflets$Equations", name := "spread", desc := "(I)I" } : Jvm.MethodName)) := sb_4 (List.mem_of_getElem? (i := 125) rfl) rfl
theorem tw_846 : TW (Jvm.Cond.selects "ThousandLeaflets$Equations" ({ cls := "ThousandLeaflets$Equations", name := "spread", desc := "(I)I" } : Jvm.MethodName) ({ cls := "ThousandLeaflets$Equations", name := "spread", desc := "(I)I" } : Jvm.MethodName)) := sb_4 (List.mem_of_getElem? (i := 126) rfl) rfl
theorem tw_847 : TW (Jvm.Cond.code ({ cls := "ThousandLeaflets$Equations", name := "spread", desc := "(I)I" } : Jvm.MethodName) prog_7_method_6_code (7 : Nat) (Option.some Jvm.ClassFile.FieldType.int)) := sb_4 (List.mem_of_getElem? (i := 127) rfl) rfl
theorem tw_848 : TW (Jvm.Cond.methodLink "ThousandLeaflets" (260 : Nat) ({ cls := "ThousandLeaflets", name := "soonSolved", desc := "(III)I" } : Jvm.MethodName)) := sb_4 (List.mem_of_getElem? (i := 128) rfl) rfl
theorem tw_850 : TW (Jvm.Cond.instanceMethod ({ cls := "ThousandLeaflets", name := "soonSolved", desc := "(III)I" } : Jvm.MethodName)) := sb_4 (List.mem_of_getElem? (i := 130) rfl) rfl
theorem tw_851 : TW (Jvm.Cond.code ({ cls := "ThousandLeaflets", name := "soonSolved", desc := "(III)I" } : Jvm.MethodName) prog_1_method_53_code (8 : Nat) (Option.some Jvm.ClassFile.FieldType.int)) := sb_4 (List.mem_of_getElem? (i := 131) rfl) rfl
theorem tw_852 : TW (Jvm.Cond.methodLink "ThousandLeaflets" (392 : Nat) ({ cls := "ThousandLeaflets$Basis", name := "add", desc := "(I)V" } : Jvm.MethodName)) := sb_4 (List.mem_of_getElem? (i := 132) rfl) rfl
theorem tw_853 : TW (Jvm.Cond.methodLink "ThousandLeafletsLaw" (94 : Nat) ({ cls := "ThousandLeaflets", name := "slipped", desc := "(IIII)I" } : Jvm.MethodName)) := sb_4 (List.mem_of_getElem? (i := 133) rfl) rfl
theorem tw_854 : TW (Jvm.Cond.instanceMethod ({ cls := "ThousandLeaflets", name := "slipped", desc := "(IIII)I" } : Jvm.MethodName)) := sb_4 (List.mem_of_getElem? (i := 134) rfl) rfl
theorem tw_855 : TW (Jvm.Cond.selects "ThousandLeaflets" ({ cls := "ThousandLeaflets", name := "slipped", desc := "(IIII)I" } : Jvm.MethodName) ({ cls := "ThousandLeaflets", name := "slipped", desc := "(IIII)I" } : Jvm.MethodName)) := sb_4 (List.mem_of_getElem? (i := 135) rfl) rfl
theorem tw_856 : TW (Jvm.Cond.code ({ cls := "ThousandLeaflets", name := "slipped", desc := "(IIII)I" } : Jvm.MethodName) prog_1_method_18_code (10 : Nat) (Option.some Jvm.ClassFile.FieldType.int)) := sb_4 (List.mem_of_getElem? (i := 136) rfl) rfl
theorem tw_857 : TW (Jvm.Cond.methodLink "ThousandLeafletsLaw" (98 : Nat) ({ cls := "ThousandLeaflets", name := "right", desc := "(IIII)I" } : Jvm.MethodName)) := sb_4 (List.mem_of_getElem? (i := 137) rfl) rfl
theorem tw_858 : TW (Jvm.Cond.instanceMethod ({ cls := "ThousandLeaflets", name := "right", desc := "(IIII)I" } : Jvm.MethodName)) := sb_4 (List.mem_of_getElem? (i := 138) rfl) rfl
theorem tw_859 : TW (Jvm.Cond.selects "ThousandLeaflets" ({ cls := "ThousandLeaflets", name := "right", desc := "(IIII)I" } : Jvm.MethodName) ({ cls := "ThousandLeaflets", name := "right", desc := "(IIII)I" } : Jvm.MethodName)) := sb_4 (List.mem_of_getElem? (i := 139) rfl) rfl
theorem tw_860 : TW (Jvm.Cond.code ({ cls := "ThousandLeaflets", name := "right", desc := "(IIII)I" } : Jvm.MethodName) prog_1_method_19_code (10 : Nat) (Option.some Jvm.ClassFile.FieldType.int)) := sb_4 (List.mem_of_getElem? (i := 140) rfl) rfl
theorem tw_861 : TW (Jvm.Cond.methodLink "ThousandLeafletsLaw" (102 : Nat) ({ cls := "ThousandLeaflets", name := "doubles", desc := "(III)I" } : Jvm.MethodName)) := sb_4 (List.mem_of_getElem? (i := 141) rfl) rfl
theorem tw_862 : TW (Jvm.Cond.instanceMethod ({ cls := "ThousandLeaflets", name := "doubles", desc := "(III)I" } : Jvm.MethodName)) := sb_4 (List.mem_of_getElem? (i := 142) rfl) rfl
theorem tw_863 : TW (Jvm.Cond.selects "ThousandLeaflets" ({ cls := "ThousandLeaflets", name := "doubles", desc := "(III)I" } : Jvm.MethodName) ({ cls := "ThousandLeaflets", name := "doubles", desc := "(III)I" } : Jvm.MethodName)) := sb_4 (List.mem_of_getElem? (i := 143) rfl) rfl
theorem tw_864 : TW (Jvm.Cond.code ({ cls := "ThousandLeaflets", name := "doubles", desc := "(III)I" } : Jvm.MethodName) prog_1_method_20_code (9 : Nat) (Option.some Jvm.ClassFile.FieldType.int)) := sb_4 (List.mem_of_getElem? (i := 144) rfl) rfl
theorem tw_865 : TW (Jvm.Cond.methodLink "ThousandLeafletsLaw" (106 : Nat) ({ cls := "ThousandLeaflets", name := "guard", desc := "(IIII)I" } : Jvm.MethodName)) := sb_4 (List.mem_of_getElem? (i := 145) rfl) rfl
theorem tw_866 : TW (Jvm.Cond.instanceMethod ({ cls := "ThousandLeaflets", name := "guard", desc := "(IIII)I" } : Jvm.MethodName)) := sb_4 (List.mem_of_getElem? (i := 146) rfl) rfl
theorem tw_867 : TW (Jvm.Cond.selects "ThousandLeaflets" ({ cls := "ThousandLeaflets", name := "guard", desc := "(IIII)I" } : Jvm.MethodName) ({ cls := "ThousandLeaflets", name := "guard", desc := "(IIII)I" } : Jvm.MethodName)) := sb_4 (List.mem_of_getElem? (i := 147) rfl) rfl
theorem tw_868 : TW (Jvm.Cond.code ({ cls := "ThousandLeaflets", name := "guard", desc := "(IIII)I" } : Jvm.MethodName) prog_1_method_21_code (8 : Nat) (Option.some Jvm.ClassFile.FieldType.int)) := sb_4 (List.mem_of_getElem? (i := 148) rfl) rfl
theorem tw_869 : TW (Jvm.Cond.methodLink "ThousandLeaflets" (275 : Nat) ({ cls := "ThousandLeaflets$Equations", name := "fewestGuarding", desc := "(LThousandLeaflets$Book;I)I" } : Jvm.MethodName)) := sb_4 (List.mem_of_getElem? (i := 149) rfl) rfl
theorem tw_870 : TW (Jvm.Cond.instanceMethod ({ cls := "ThousandLeaflets$Equations", name := "fewestGuarding", desc := "(LThousandLeaflets$Book;I)I" } : Jvm.MethodName)) := sb_4 (List.mem_of_getElem? (i := 150) rfl) rfl
theorem tw_871 : TW (Jvm.Cond.selects "ThousandLeaflets$Equations" ({ cls := "ThousandLeaflets$Equations", name := "fewestGuarding", desc := "(LThousandLeaflets$Book;I)I" } : Jvm.MethodName) ({ cls := "ThousandLeaflets$Equations", name := "fewestGuarding", desc := "(LThousandLeaflets$Book;I)I" } : Jvm.MethodName)) := sb_4 (List.mem_of_getElem? (i := 151) rfl) rfl
theorem tw_872 : TW (Jvm.Cond.code ({ cls := "ThousandLeaflets$Equations", name := "fewestGuarding", desc := "(LThousandLeaflets$Book;I)I" } : Jvm.MethodName) prog_7_method_13_code (9 : Nat) (Option.some Jvm.ClassFile.FieldType.int)) := sb_4 (List.mem_of_getElem? (i := 152) rfl) rfl
theorem tw_873 : TW (Jvm.Cond.methodLink "ThousandLeaflets$Equations" (73 : Nat) ({ cls := "ThousandLeaflets$Equations", name := "touchPapers", desc := "(LThousandLeaflets$Book;)V" } : Jvm.MethodName)) := sb_4 (List.mem_of_getElem? (i := 153) rfl) rfl
theorem tw_875 : TW (Jvm.Cond.instanceMethod ({ cls := "ThousandLeaflets$Equations", name := "touchPapers", desc := "(LThousandLeaflets$Book;)V" } : Jvm.MethodName)) := sb_4 (List.mem_of_getElem? (i := 155) rfl) rfl
theorem tw_876 : TW (Jvm.Cond.code ({ cls := "ThousandLeaflets$Equations", name := "touchPapers", desc := "(LThousandLeaflets$Book;)V" } : Jvm.MethodName) prog_7_method_14_code (5 : Nat) (Option.none : Option Jvm.ClassFile.FieldType)) := sb_4 (List.mem_of_getElem? (i := 156) rfl) rfl
theorem tw_877 : TW (Jvm.Cond.methodLink "ThousandLeaflets$Equations" (77 : Nat) ({ cls := "ThousandLeaflets$Book", name := "withoutHidden", desc := "(I)I" } : Jvm.MethodName)) := sb_4 (List.mem_of_getElem? (i := 157) rfl) rfl
theorem tw_878 : TW (Jvm.Cond.methodLink "ThousandLeaflets$Equations" (80 : Nat) ({ cls := "ThousandLeaflets$Equations", name := "fewestTouched", desc := "(JI)I" } : Jvm.MethodName)) := sb_4 (List.mem_of_getElem? (i := 158) rfl) rfl
theorem tw_880 : TW (Jvm.Cond.instanceMethod ({ cls := "ThousandLeaflets$Equations", name := "fewestTouched", desc := "(JI)I" } : Jvm.MethodName)) := sb_4 (List.mem_of_getElem? (i := 160) rfl) rfl
theorem tw_881 : TW (Jvm.Cond.code ({ cls := "ThousandLeaflets$Equations", name := "fewestTouched", desc := "(JI)I" } : Jvm.MethodName) prog_7_method_15_code (8 : Nat) (Option.some Jvm.ClassFile.FieldType.int)) := sb_4 (List.mem_of_getElem? (i := 161) rfl) rfl
theorem tw_882 : TW (Jvm.Cond.methodLink "ThousandLeaflets$Equations" (84 : Nat) ({ cls := "java/lang/Long", name := "bitCount", desc := "(J)I" } : Jvm.MethodName)) := sb_4 (List.mem_of_getElem? (i := 162) rfl) rfl
theorem tw_883 : TW (Jvm.Cond.static ({ cls := "java/lang/Long", name := "bitCount", desc := "(J)I" } : Jvm.MethodName)) := sb_4 (List.mem_of_getElem? (i := 163) rfl) rfl
theorem tw_884 : TW (Jvm.Cond.code ({ cls := "java/lang/Long", name := "bitCount", desc := "(J)I" } : Jvm.MethodName) prog_17_method_50_code (2 : Nat) (Option.some Jvm.ClassFile.FieldType.int)) := sb_4 (List.mem_of_getElem? (i := 164) rfl) rfl
theorem tw_885 : TW (Jvm.Cond.constantLong "java/lang/Long" (314 : Nat) (6148914691236517205 : Int64)) := sb_4 (List.mem_of_getElem? (i := 165) rfl) rfl
theorem tw_886 : TW (Jvm.Cond.constantLong "java/lang/Long" (316 : Nat) (3689348814741910323 : Int64)) := sb_4 (List.mem_of_getElem? (i := 166) rfl) rfl
theorem tw_887 : TW (Jvm.Cond.constantLong "java/lang/Long" (318 : Nat) (1085102592571150095 : Int64)) := sb_4 (List.mem_of_getElem? (i := 167) rfl) rfl
theorem tw_888 : TW (Jvm.Cond.methodLink "ThousandLeaflets$Equations" (89 : Nat) ({ cls := "java/lang/Math", name := "min", desc := "(II)I" } : Jvm.MethodName)) := sb_4 (List.mem_of_getElem? (i := 168) rfl) rfl
theorem tw_889 : TW (Jvm.Cond.static ({ cls := "java/lang/Math", name := "min", desc := "(II)I" } : Jvm.MethodName)) := sb_4 (List.mem_of_getElem? (i := 169) rfl) rfl
theorem tw_890 : TW (Jvm.Cond.code ({ cls := "java/lang/Math", name := "min", desc := "(II)I" } : Jvm.MethodName) prog_18_method_69_code (2 : Nat) (Option.some Jvm.ClassFile.FieldType.int)) := sb_4 (List.mem_of_getElem? (i := 170) rfl) rfl
theorem tw_891 : TW (Jvm.Cond.methodLink "ThousandLeafletsLaw" (110 : Nat) ({ cls := "ThousandLeaflets", name := "tocome", desc := "(III)I" } : Jvm.MethodName)) := sb_4 (List.mem_of_getElem? (i := 171) rfl) rfl
theorem tw_892 : TW (Jvm.Cond.instanceMethod ({ cls := "ThousandLeaflets", name := "tocome", desc := "(III)I" } : Jvm.MethodName)) := sb_4 (List.mem_of_getElem? (i := 172) rfl) rfl
theorem tw_893 : TW (Jvm.Cond.selects "ThousandLeaflets" ({ cls := "ThousandLeaflets", name := "tocome", desc := "(III)I" } : Jvm.MethodName) ({ cls := "ThousandLeaflets", name := "tocome", desc := "(III)I" } : Jvm.MethodName)) := sb_4 (List.mem_of_getElem? (i := 173) rfl) rfl
theorem tw_894 : TW (Jvm.Cond.code ({ cls := "ThousandLeaflets", name := "tocome", desc := "(III)I" } : Jvm.MethodName) prog_1_method_22_code (6 : Nat) (Option.some Jvm.ClassFile.FieldType.int)) := sb_4 (List.mem_of_getElem? (i := 174) rfl) rfl
theorem tw_895 : TW (Jvm.Cond.methodLink "ThousandLeaflets" (279 : Nat) ({ cls := "ThousandLeaflets$Coming", name := "find", desc := "(LThousandLeaflets$Book;LThousandLeaflets$Equations;LThousandLeaflets$Equations;)Z" } : Jvm.MethodName)) := sb_4 (List.mem_of_getElem? (i := 175) rfl) rfl
theorem tw_896 : TW (Jvm.Cond.instanceMethod ({ cls := "ThousandLeaflets$Coming", name := "find", desc := "(LThousandLeaflets$Book;LThousandLeaflets$Equations;LThousandLeaflets$Equations;)Z" } : Jvm.MethodName)) := sb_4 (List.mem_of_getElem? (i := 176) rfl) rfl
theorem tw_897 : TW (Jvm.Cond.selects "ThousandLeaflets$Coming" ({ cls := "ThousandLeaflets$Coming", name := "find", desc := "(LThousandLeaflets$Book;LThousandLeaflets$Equations;LThousandLeaflets$Equations;)Z" } : Jvm.MethodName) ({ cls := "ThousandLeaflets$Coming", name := "find", desc := "(LThousandLeaflets$Book;LThousandLeaflets$Equations;LThousandLeaflets$Equations;)Z" } : Jvm.MethodName)) := sb_4 (List.mem_of_getElem? (i := 177) rfl) rfl
theorem tw_898 : TW (Jvm.Cond.code ({ cls := "ThousandLeaflets$Coming", name := "find", desc := "(LThousandLeaflets$Book;LThousandLeaflets$Equations;LThousandLeaflets$Equations;)Z" } : Jvm.MethodName) prog_4_method_2_code (7 : Nat) (Option.some Jvm.ClassFile.FieldType.boolean)) := sb_4 (List.mem_of_getElem? (i := 178) rfl) rfl
theorem tw_899 : TW (Jvm.Cond.methodLink "ThousandLeaflets$Coming" (28 : Nat) ({ cls := "ThousandLeaflets$Basis", name := "take", desc := "(LThousandLeaflets$Equations;I)V" } : Jvm.MethodName)) := sb_4 (List.mem_of_getElem? (i := 179) rfl) rfl
theorem tw_900 : TW (Jvm.Cond.methodLink "ThousandLeaflets$Coming" (36 : Nat) ({ cls := "ThousandLeaflets$Book", name := "all", desc := "()I" } : Jvm.MethodName)) := sb_4 (List.mem_of_getElem? (i := 180) rfl) rfl
theorem tw_901 : TW (Jvm.Cond.methodLink "ThousandLeaflets$Coming" (51 : Nat) ({ cls := "ThousandLeaflets$Book", name := "pagesOf", desc := "(I)I" } : Jvm.MethodName)) := sb_4 (List.mem_of_getElem? (i := 181) rfl) rfl
theorem tw_902 : TW (Jvm.Cond.methodLink "ThousandLeaflets$Coming" (55 : Nat) ({ cls := "ThousandLeaflets$Book", name := "sumOf", desc := "(I)I" } : Jvm.MethodName)) := sb_4 (List.mem_of_getElem? (i := 182) rfl) rfl
theorem tw_903 : TW (Jvm.Cond.methodLink "ThousandLeaflets$Coming" (58 : Nat) ({ cls := "ThousandLeaflets$Coming", name := "seek", desc := "(III)V" } : Jvm.MethodName)) := sb_4 (List.mem_of_getElem? (i := 183) rfl) rfl
theorem tw_905 : TW (Jvm.Cond.instanceMethod ({ cls := "ThousandLeaflets$Coming", name := "seek", desc := "(III)V" } : Jvm.MethodName)) := sb_4 (List.mem_of_getElem? (i := 185) rfl) rfl
theorem tw_906 : TW (Jvm.Cond.code ({ cls := "ThousandLeaflets$Coming", name := "seek", desc := "(III)V" } : Jvm.MethodName) prog_4_method_3_code (7 : Nat) (Option.none : Option Jvm.ClassFile.FieldType)) := sb_4 (List.mem_of_getElem? (i := 186) rfl) rfl
theorem tw_907 : TW (Jvm.Cond.methodLink "ThousandLeaflets$Coming" (65 : Nat) ({ cls := "java/lang/Math", name := "min", desc := "(II)I" } : Jvm.MethodName)) := sb_4 (List.mem_of_getElem? (i := 187) rfl) rfl
theorem tw_908 : TW (Jvm.Cond.methodLink "ThousandLeaflets$Coming" (71 : Nat) ({ cls := "ThousandLeaflets$Basis", name := "add", desc := "(I)V" } : Jvm.MethodName)) := sb_4 (List.mem_of_getElem? (i := 188) rfl) rfl
theorem tw_909 : TW (Jvm.Cond.methodLink "ThousandLeaflets$Coming" (75 : Nat) ({ cls := "ThousandLeaflets$Basis", name := "cut", desc := "(I)V" } : Jvm.MethodName)) := sb_4 (List.mem_of_getElem? (i := 189) rfl) rfl
theorem tw_910 : TW (Jvm.Cond.instanceMethod ({ cls := "ThousandLeaflets$Basis", name := "cut", desc := "(I)V" } : Jvm.MethodName)) := sb_4 (List.mem_of_getElem? (i := 190) rfl) rfl
theorem tw_911 : TW (Jvm.Cond.selects "ThousandLeaflets$Basis" ({ cls := "ThousandLeaflets$Basis", name := "cut", desc := "(I)V" } : Jvm.MethodName) ({ cls := "ThousandLeaflets$Basis", name := "cut", desc := "(I)V" } : Jvm.MethodName)) := sb_4 (List.mem_of_getElem? (i := 191) rfl) rfl
theorem tw_912 : TW (Jvm.Cond.code ({ cls := "ThousandLeaflets$Basis", name := "cut", desc := "(I)V" } : Jvm.MethodName) prog_2_method_4_code (2 : Nat) (Option.none : Option Jvm.ClassFile.FieldType)) := sb_4 (List.mem_of_getElem? (i := 192) rfl) rfl
theorem tw_913 : TW (Jvm.Cond.methodLink "ThousandLeafletsLaw" (114 : Nat) ({ cls := "ThousandLeaflets", name := "chances", desc := "(IIII)I" } : Jvm.MethodName)) := sb_4 (List.mem_of_getElem? (i := 193) rfl) rfl
theorem tw_914 : TW (Jvm.Cond.instanceMethod ({ cls := "ThousandLeaflets", name := "chances", desc := "(IIII)I" } : Jvm.MethodName)) := sb_4 (List.mem_of_getElem? (i := 194) rfl) rfl
theorem tw_915 : TW (Jvm.Cond.selects "ThousandLeaflets" ({ cls := "ThousandLeaflets", name := "chances", desc := "(IIII)I" } : Jvm.MethodName) ({ cls := "ThousandLeaflets", name := "chances", desc := "(IIII)I" } : Jvm.MethodName)) := sb_4 (List.mem_of_getElem? (i := 195) rfl) rfl
theorem tw_916 : TW (Jvm.Cond.code ({ cls := "ThousandLeaflets", name := "chances", desc := "(IIII)I" } : Jvm.MethodName) prog_1_method_23_code (5 : Nat) (Option.some Jvm.ClassFile.FieldType.int)) := sb_4 (List.mem_of_getElem? (i := 196) rfl) rfl
theorem tw_917 : TW (Jvm.Cond.methodLink "ThousandLeaflets" (289 : Nat) ({ cls := "ThousandLeaflets", name := "isSetSize", desc := "(II)Z" } : Jvm.MethodName)) := sb_4 (List.mem_of_getElem? (i := 197) rfl) rfl
theorem tw_918 : TW (Jvm.Cond.static ({ cls := "ThousandLeaflets", name := "isSetSize", desc := "(II)Z" } : Jvm.MethodName)) := sb_4 (List.mem_of_getElem? (i := 198) rfl) rfl
theorem tw_919 : TW (Jvm.Cond.code ({ cls := "ThousandLeaflets", name := "isSetSize", desc := "(II)Z" } : Jvm.MethodName) prog_1_method_40_code (2 : Nat) (Option.some Jvm.ClassFile.FieldType.boolean)) := sb_4 (List.mem_of_getElem? (i := 199) rfl) rfl
theorem tw_920 : TW (Jvm.Cond.methodLink "ThousandLeaflets" (292 : Nat) ({ cls := "ThousandLeaflets$Sets", name := "tally", desc := "(LThousandLeaflets$Book;III)V" } : Jvm.MethodName)) := sb_4 (List.mem_of_getElem? (i := 200) rfl) rfl
theorem tw_921 : TW (Jvm.Cond.instanceMethod ({ cls := "ThousandLeaflets$Sets", name := "tally", desc := "(LThousandLeaflets$Book;III)V" } : Jvm.MethodName)) := sb_4 (List.mem_of_getElem? (i := 201) rfl) rfl
theorem tw_922 : TW (Jvm.Cond.selects "ThousandLeaflets$Sets" ({ cls := "ThousandLeaflets$Sets", name := "tally", desc := "(LThousandLeaflets$Book;III)V" } : Jvm.MethodName) ({ cls := "ThousandLeaflets$Sets", name := "tally", desc := "(LThousandLeaflets$Book;III)V" } : Jvm.MethodName)) := sb_4 (List.mem_of_getElem? (i := 202) rfl) rfl
theorem tw_923 : TW (Jvm.Cond.code ({ cls := "ThousandLeaflets$Sets", name := "tally", desc := "(LThousandLeaflets$Book;III)V" } : Jvm.MethodName) prog_10_method_2_code (6 : Nat) (Option.none : Option Jvm.ClassFile.FieldType)) := sb_4 (List.mem_of_getElem? (i := 203) rfl) rfl
theorem tw_924 : TW (Jvm.Cond.methodLink "ThousandLeaflets$Sets" (32 : Nat) ({ cls := "java/lang/Math", name := "min", desc := "(II)I" } : Jvm.MethodName)) := sb_4 (List.mem_of_getElem? (i := 204) rfl) rfl
theorem tw_925 : TW (Jvm.Cond.methodLink "ThousandLeaflets$Sets" (45 : Nat) ({ cls := "ThousandLeaflets$Book", name := "all", desc := "()I" } : Jvm.MethodName)) := sb_4 (List.mem_of_getElem? (i := 205) rfl) rfl
theorem tw_926 : TW (Jvm.Cond.methodLink "ThousandLeaflets$Sets" (53 : Nat) ({ cls := "ThousandLeaflets$Book", name := "allBits", desc := "()I" } : Jvm.MethodName)) := sb_4 (List.mem_of_getElem? (i := 206) rfl) rfl
theorem tw_927 : TW (Jvm.Cond.instanceMethod ({ cls := "ThousandLeaflets$Book", name := "allBits", desc := "()I" } : Jvm.MethodName)) := sb_4 (List.mem_of_getElem? (i := 207) rfl) rfl
theorem tw_928 : TW (Jvm.Cond.selects "ThousandLeaflets$Book" ({ cls := "ThousandLeaflets$Book", name := "allBits", desc := "()I" } : Jvm.MethodName) ({ cls := "ThousandLeaflets$Book", name := "allBits", desc := "()I" } : Jvm.MethodName)) := sb_4 (List.mem_of_getElem? (i := 208) rfl) rfl
theorem tw_929 : TW (Jvm.Cond.code ({ cls := "ThousandLeaflets$Book", name := "allBits", desc := "()I" } : Jvm.MethodName) prog_3_method_6_code (1 : Nat) (Option.some Jvm.ClassFile.FieldType.int)) := sb_4 (List.mem_of_getElem? (i := 209) rfl) rfl
theorem tw_930 : TW (Jvm.Cond.methodLink "ThousandLeaflets$Sets" (58 : Nat) ({ cls := "ThousandLeaflets$Book", name := "drawPages", desc := "(II)I" } : Jvm.MethodName)) := sb_4 (List.mem_of_getElem? (i := 210) rfl) rfl
theorem tw_931 : TW (Jvm.Cond.methodLink "ThousandLeaflets$Sets" (61 : Nat) ({ cls := "ThousandLeaflets$Book", name := "pagesOf", desc := "(I)I" } : Jvm.MethodName)) := sb_4 (List.mem_of_getElem? (i := 211) rfl) rfl
theorem tw_932 : TW (Jvm.Cond.methodLink "ThousandLeaflets$Sets" (65 : Nat) ({ cls := "ThousandLeaflets$Equations", name := "startWith", desc := "(LThousandLeaflets$Book;)V" } : Jvm.MethodName)) := sb_4 (List.mem_of_getElem? (i := 212) rfl) rfl
theorem tw_933 : TW (Jvm.Cond.methodLink "ThousandLeaflets$Sets" (69 : Nat) ({ cls := "ThousandLeaflets$Basis", name := "take", desc := "(LThousandLeaflets$Equations;I)V" } : Jvm.MethodName)) := sb_4 (List.mem_of_getElem? (i := 213) rfl) rfl
theorem tw_934 : TW (Jvm.Cond.methodLink "ThousandLeaflets$Sets" (73 : Nat) ({ cls := "ThousandLeaflets$Sets", name := "walk", desc := "(III)V" } : Jvm.MethodName)) := sb_4 (List.mem_of_getElem? (i := 214) rfl) rfl
theorem tw_936 : TW (Jvm.Cond.instanceMethod ({ cls := "ThousandLeaflets$Sets", name := "walk", desc := "(III)V" } : Jvm.MethodName)) := sb_4 (List.mem_of_getElem? (i := 216) rfl) rfl
theorem tw_937 : TW (Jvm.Cond.code ({ cls := "ThousandLeaflets$Sets", name := "walk", desc := "(III)V" } : Jvm.MethodName) prog_10_method_3_code (6 : Nat) (Option.none : Option Jvm.ClassFile.FieldType)) := sb_4 (List.mem_of_getElem? (i := 217) rfl) rfl
theorem tw_938 : TW (Jvm.Cond.methodLink "ThousandLeaflets$Sets" (80 : Nat) ({ cls := "ThousandLeaflets$Sets", name := "addAllWith", desc := "(II)V" } : Jvm.MethodName)) := sb_4 (List.mem_of_getElem? (i := 218) rfl) rfl
theorem tw_940 : TW (Jvm.Cond.instanceMethod ({ cls := "ThousandLeaflets$Sets", name := "addAllWith", desc := "(II)V" } : Jvm.MethodName)) := sb_4 (List.mem_of_getElem? (i := 220) rfl) rfl
theorem tw_941 : TW (Jvm.Cond.code ({ cls := "ThousandLeaflets$Sets", name := "addAllWith", desc := "(II)V" } : Jvm.MethodName) prog_10_method_4_code (4 : Nat) (Option.none : Option Jvm.ClassFile.FieldType)) := sb_4 (List.mem_of_getElem? (i := 221) rfl) rfl
theorem tw_942 : TW (Jvm.Cond.methodLinkNest "ThousandLeaflets$Sets" (100 : Nat) ({ cls := "ThousandLeaflets", name := "choose", desc := "(II)I" } : Jvm.MethodName) "ThousandLeaflets") := sb_4 (List.mem_of_getElem? (i := 222) rfl) rfl
theorem tw_943 : TW (Jvm.Cond.static ({ cls := "ThousandLeaflets", name := "choose", desc := "(II)I" } : Jvm.MethodName)) := sb_4 (List.mem_of_getElem? (i := 223) rfl) rfl
theorem tw_944 : TW (Jvm.Cond.code ({ cls := "ThousandLeaflets", name := "choose", desc := "(II)I" } : Jvm.MethodName) prog_1_method_60_code (4 : Nat) (Option.some Jvm.ClassFile.FieldType.int)) := sb_4 (List.mem_of_getElem? (i := 224) rfl) rfl
theorem tw_945 : TW (Jvm.Cond.methodLink "ThousandLeaflets$Sets" (87 : Nat) ({ cls := "ThousandLeaflets$Basis", name := "add", desc := "(I)V" } : Jvm.MethodName)) := sb_4 (List.mem_of_getElem? (i := 225) rfl) rfl
theorem tw_946 : TW (Jvm.Cond.methodLink "ThousandLeaflets$Sets" (91 : Nat) ({ cls := "ThousandLeaflets$Equations", name := "add", desc := "(II)V" } : Jvm.MethodName)) := sb_4 (List.mem_of_getElem? (i := 226) rfl) rfl
theorem tw_947 : TW (Jvm.Cond.methodLink "ThousandLeaflets$Sets" (93 : Nat) ({ cls := "ThousandLeaflets$Equations", name := "spread", desc := "(I)I" } : Jvm.MethodName)) := sb_4 (List.mem_of_getElem? (i := 227) rfl) rfl
theorem tw_948 : TW (Jvm.Cond.methodLink "ThousandLeaflets$Sets" (96 : Nat) ({ cls := "ThousandLeaflets$Basis", name := "cut", desc := "(I)V" } : Jvm.MethodName)) := sb_4 (List.mem_of_getElem? (i := 228) rfl) rfl
theorem tw_949 : TW (Jvm.Cond.methodLink "ThousandLeaflets$Sets" (99 : Nat) ({ cls := "ThousandLeaflets$Equations", name := "cut", desc := "(I)V" } : Jvm.MethodName)) := sb_4 (List.mem_of_getElem? (i := 229) rfl) rfl
theorem tw_950 : TW (Jvm.Cond.instanceMethod ({ cls := "ThousandLeaflets$Equations", name := "cut", desc := "(I)V" } : Jvm.MethodName)) := sb_4 (List.mem_of_getElem? (i := 230) rfl) rfl
theorem tw_951 : TW (Jvm.Cond.selects "ThousandLeaflets$Equations" ({ cls := "ThousandLeaflets$Equations", name := "cut", desc := "(I)V" } : Jvm.MethodName) ({ cls := "ThousandLeaflets$Equations", name := "cut", desc := "(I)V" } : Jvm.MethodName)) := sb_4 (List.mem_of_getElem? (i := 231) rfl) rfl
theorem tw_952 : TW (Jvm.Cond.code ({ cls := "ThousandLeaflets$Equations", name := "cut", desc := "(I)V" } : Jvm.MethodName) prog_7_method_4_code (2 : Nat) (Option.none : Option Jvm.ClassFile.FieldType)) := sb_4 (List.mem_of_getElem? (i := 232) rfl) rfl
theorem tw_953 : TW (Jvm.Cond.methodLink "ThousandLeafletsLaw" (118 : Nat) ({ cls := "ThousandLeaflets", name := "enough", desc := "(IIIZ)I" } : Jvm.MethodName)) := sb_4 (List.mem_of_getElem? (i := 233) rfl) rfl
theorem tw_954 : TW (Jvm.Cond.instanceMethod ({ cls := "ThousandLeaflets", name := "enough", desc := "(IIIZ)I" } : Jvm.MethodName)) := sb_4 (List.mem_of_getElem? (i := 234) rfl) rfl
theorem tw_955 : TW (Jvm.Cond.selects "ThousandLeaflets" ({ cls := "ThousandLeaflets", name := "enough", desc := "(IIIZ)I" } : Jvm.MethodName) ({ cls := "ThousandLeaflets", name := "enough", desc := "(IIIZ)I" } : Jvm.MethodName)) := sb_4 (List.mem_of_getElem? (i := 235) rfl) rfl
theorem tw_956 : TW (Jvm.Cond.code ({ cls := "ThousandLeaflets", name := "enough", desc := "(IIIZ)I" } : Jvm.MethodName) prog_1_method_24_code (8 : Nat) (Option.some Jvm.ClassFile.FieldType.int)) := sb_4 (List.mem_of_getElem? (i := 236) rfl) rfl
theorem tw_957 : TW (Jvm.Cond.methodLink "ThousandLeaflets" (299 : Nat) ({ cls := "ThousandLeaflets", name := "choose", desc := "(II)I" } : Jvm.MethodName)) := sb_4 (List.mem_of_getElem? (i := 237) rfl) rfl
theorem tw_958 : TW (Jvm.Cond.methodLink "ThousandLeafletsLaw" (123 : Nat) ({ cls := "ThousandLeaflets", name := "average", desc := "(IIII)J" } : Jvm.MethodName)) := sb_4 (List.mem_of_getElem? (i := 238) rfl) rfl
theorem tw_959 : TW (Jvm.Cond.instanceMethod ({ cls := "ThousandLeaflets", name := "average", desc := "(IIII)J" } : Jvm.MethodName)) := sb_4 (List.mem_of_getElem? (i := 239) rfl) rfl
theorem tw_960 : TW (Jvm.Cond.selects "ThousandLeaflets" ({ cls := "ThousandLeaflets", name := "average", desc := "(IIII)J" } : Jvm.MethodName) ({ cls := "ThousandLeaflets", name := "average", desc := "(IIII)J" } : Jvm.MethodName)) := sb_5 (List.mem_of_getElem? (i := 0) rfl) rfl
theorem tw_961 : TW (Jvm.Cond.code ({ cls := "ThousandLeaflets", name := "average", desc := "(IIII)J" } : Jvm.MethodName) prog_1_method_25_code (14 : Nat) (Option.some Jvm.ClassFile.FieldType.long)) := sb_5 (List.mem_of_getElem? (i := 1) rfl) rfl
theorem tw_962 : TW (Jvm.Cond.constantLong "ThousandLeaflets" (302 : Nat) (-1 : Int64)) := sb_5 (List.mem_of_getElem? (i := 2) rfl) rfl
theorem tw_963 : TW (Jvm.Cond.methodLink "ThousandLeaflets" (304 : Nat) ({ cls := "ThousandLeaflets", name := "commonDivisor", desc := "(JJ)J" } : Jvm.MethodName)) := sb_5 (List.mem_of_getElem? (i := 3) rfl) rfl
theorem tw_964 : TW (Jvm.Cond.static ({ cls := "ThousandLeaflets", name := "commonDivisor", desc := "(JJ)J" } : Jvm.MethodName)) := sb_5 (List.mem_of_getElem? (i := 4) rfl) rfl
theorem tw_965 : TW (Jvm.Cond.code ({ cls := "ThousandLeaflets", name := "commonDivisor", desc := "(JJ)J" } : Jvm.MethodName) prog_1_method_61_code (11 : Nat) (Option.some Jvm.ClassFile.FieldType.long)) := sb_5 (List.mem_of_getElem? (i := 5) rfl) rfl
theorem tw_966 : TW (Jvm.Cond.methodLink "ThousandLeafletsLaw" (128 : Nat) ({ cls := "ThousandLeaflets", name := "degree", desc := "(IIII)I" } : Jvm.MethodName)) := sb_5 (List.mem_of_getElem? (i := 6) rfl) rfl
theorem tw_967 : TW (Jvm.Cond.instanceMethod ({ cls := "ThousandLeaflets", name := "degree", desc := "(IIII)I" } : Jvm.MethodName)) := sb_5 (List.mem_of_getElem? (i := 7) rfl) rfl
theorem tw_968 : TW (Jvm.Cond.selects "ThousandLeaflets" ({ cls := "ThousandLeaflets", name := "degree", desc := "(IIII)I" } : Jvm.MethodName) ({ cls := "ThousandLeaflets", name := "degree", desc := "(IIII)I" } : Jvm.MethodName)) := sb_5 (List.mem_of_getElem? (i := 8) rfl) rfl
theorem tw_969 : TW (Jvm.Cond.code ({ cls := "ThousandLeaflets", name := "degree", desc := "(IIII)I" } : Jvm.MethodName) prog_1_method_26_code (10 : Nat) (Option.some Jvm.ClassFile.FieldType.int)) := sb_5 (List.mem_of_getElem? (i := 9) rfl) rfl
theorem tw_970 : TW (Jvm.Cond.methodLink "ThousandLeafletsLaw" (132 : Nat) ({ cls := "ThousandLeaflets", name := "apart", desc := "(II)I" } : Jvm.MethodName)) := sb_5 (List.mem_of_getElem? (i := 10) rfl) rfl
theorem tw_971 : TW (Jvm.Cond.instanceMethod ({ cls := "ThousandLeaflets", name := "apart", desc := "(II)I" } : Jvm.MethodName)) := sb_5 (List.mem_of_getElem? (i := 11) rfl) rfl
theorem tw_972 : TW (Jvm.Cond.selects "ThousandLeaflets" ({ cls := "ThousandLeaflets", name := "apart", desc := "(II)I" } : Jvm.MethodName) ({ cls := "ThousandLeaflets", name := "apart", desc := "(II)I" } : Jvm.MethodName)) := sb_5 (List.mem_of_getElem? (i := 12) rfl) rfl
theorem tw_973 : TW (Jvm.Cond.code ({ cls := "ThousandLeaflets", name := "apart", desc := "(II)I" } : Jvm.MethodName) prog_1_method_27_code (6 : Nat) (Option.some Jvm.ClassFile.FieldType.int)) := sb_5 (List.mem_of_getElem? (i := 13) rfl) rfl
theorem tw_974 : TW (Jvm.Cond.methodLink "ThousandLeaflets" (308 : Nat) ({ cls := "ThousandLeaflets$Ways", name := "basisOf", desc := "(II)LThousandLeaflets$Basis;" } : Jvm.MethodName)) := sb_5 (List.mem_of_getElem? (i := 14) rfl) rfl
theorem tw_975 : TW (Jvm.Cond.instanceMethod ({ cls := "ThousandLeaflets$Ways", name := "basisOf", desc := "(II)LThousandLeaflets$Basis;" } : Jvm.MethodName)) := sb_5 (List.mem_of_getElem? (i := 15) rfl) rfl
theorem tw_976 : TW (Jvm.Cond.selects "ThousandLeaflets$Ways" ({ cls := "ThousandLeaflets$Ways", name := "basisOf", desc := "(II)LThousandLeaflets$Basis;" } : Jvm.MethodName) ({ cls := "ThousandLeaflets$Ways", name := "basisOf", desc := "(II)LThousandLeaflets$Basis;" } : Jvm.MethodName)) := sb_5 (List.mem_of_getElem? (i := 16) rfl) rfl
theorem tw_977 : TW (Jvm.Cond.code ({ cls := "ThousandLeaflets$Ways", name := "basisOf", desc := "(II)LThousandLeaflets$Basis;" } : Jvm.MethodName) prog_12_method_2_code (3 : Nat) (Option.some (Jvm.ClassFile.FieldType.object "ThousandLeaflets$Basis"))) := sb_5 (List.mem_of_getElem? (i := 17) rfl) rfl
theorem tw_978 : TW (Jvm.Cond.methodLink "ThousandLeaflets" (312 : Nat) ({ cls := "ThousandLeaflets$Ways", name := "findAll", desc := "(LThousandLeaflets$Heap;)V" } : Jvm.MethodName)) := sb_5 (List.mem_of_getElem? (i := 18) rfl) rfl
theorem tw_979 : TW (Jvm.Cond.instanceMethod ({ cls := "ThousandLeaflets$Ways", name := "findAll", desc := "(LThousandLeaflets$Heap;)V" } : Jvm.MethodName)) := sb_5 (List.mem_of_getElem? (i := 19) rfl) rfl
theorem tw_980 : TW (Jvm.Cond.selects "ThousandLeaflets$Ways" ({ cls := "ThousandLeaflets$Ways", name := "findAll", desc := "(LThousandLeaflets$Heap;)V" } : Jvm.MethodName) ({ cls := "ThousandLeaflets$Ways", name := "findAll", desc := "(LThousandLeaflets$Heap;)V" } : Jvm.MethodName)) := sb_5 (List.mem_of_getElem? (i := 20) rfl) rfl
theorem tw_981 : TW (Jvm.Cond.code ({ cls := "ThousandLeaflets$Ways", name := "findAll", desc := "(LThousandLeaflets$Heap;)V" } : Jvm.MethodName) prog_12_method_3_code (4 : Nat) (Option.none : Option Jvm.ClassFile.FieldType)) := sb_5 (List.mem_of_getElem? (i := 21) rfl) rfl
theorem tw_982 : TW (Jvm.Cond.methodLink "ThousandLeaflets$Ways" (41 : Nat) ({ cls := "ThousandLeaflets$Heap", name := "at", desc := "(I)LThousandLeaflets$Paper;" } : Jvm.MethodName)) := sb_5 (List.mem_of_getElem? (i := 22) rfl) rfl
theorem tw_983 : TW (Jvm.Cond.methodLink "ThousandLeaflets$Ways" (48 : Nat) ({ cls := "ThousandLeaflets$Ways", name := "allAgree", desc := "()Z" } : Jvm.MethodName)) := sb_5 (List.mem_of_getElem? (i := 23) rfl) rfl
theorem tw_985 : TW (Jvm.Cond.instanceMethod ({ cls := "ThousandLeaflets$Ways", name := "allAgree", desc := "()Z" } : Jvm.MethodName)) := sb_5 (List.mem_of_getElem? (i := 25) rfl) rfl
theorem tw_986 : TW (Jvm.Cond.code ({ cls := "ThousandLeaflets$Ways", name := "allAgree", desc := "()Z" } : Jvm.MethodName) prog_12_method_4_code (2 : Nat) (Option.some Jvm.ClassFile.FieldType.boolean)) := sb_5 (List.mem_of_getElem? (i := 26) rfl) rfl
theorem tw_987 : TW (Jvm.Cond.methodLink "ThousandLeaflets$Ways" (52 : Nat) ({ cls := "ThousandLeaflets$Ways", name := "give", desc := "(II)V" } : Jvm.MethodName)) := sb_5 (List.mem_of_getElem? (i := 27) rfl) rfl
theorem tw_989 : TW (Jvm.Cond.instanceMethod ({ cls := "ThousandLeaflets$Ways", name := "give", desc := "(II)V" } : Jvm.MethodName)) := sb_5 (List.mem_of_getElem? (i := 29) rfl) rfl
theorem tw_990 : TW (Jvm.Cond.code ({ cls := "ThousandLeaflets$Ways", name := "give", desc := "(II)V" } : Jvm.MethodName) prog_12_method_5_code (5 : Nat) (Option.none : Option Jvm.ClassFile.FieldType)) := sb_5 (List.mem_of_getElem? (i := 30) rfl) rfl
theorem tw_991 : TW (Jvm.Cond.methodLink "ThousandLeaflets$Ways" (60 : Nat) ({ cls := "ThousandLeaflets$Ways", name := "tryBook", desc := "(IILThousandLeaflets$Paper;I)V" } : Jvm.MethodName)) := sb_5 (List.mem_of_getElem? (i := 31) rfl) rfl
theorem tw_993 : TW (Jvm.Cond.instanceMethod ({ cls := "ThousandLeaflets$Ways", name := "tryBook", desc := "(IILThousandLeaflets$Paper;I)V" } : Jvm.MethodName)) := sb_5 (List.mem_of_getElem? (i := 33) rfl) rfl
theorem tw_994 : TW (Jvm.Cond.code ({ cls := "ThousandLeaflets$Ways", name := "tryBook", desc := "(IILThousandLeaflets$Paper;I)V" } : Jvm.MethodName) prog_12_method_6_code (9 : Nat) (Option.none : Option Jvm.ClassFile.FieldType)) := sb_5 (List.mem_of_getElem? (i := 34) rfl) rfl
theorem tw_995 : TW (Jvm.Cond.methodLink "ThousandLeaflets$Ways" (64 : Nat) ({ cls := "ThousandLeaflets$Ways", name := "basisOf", desc := "(II)LThousandLeaflets$Basis;" } : Jvm.MethodName)) := sb_5 (List.mem_of_getElem? (i := 35) rfl) rfl
theorem tw_996 : TW (Jvm.Cond.methodLink "ThousandLeaflets$Ways" (71 : Nat) ({ cls := "ThousandLeaflets$Paper", name := "equation", desc := "(II)I" } : Jvm.MethodName)) := sb_5 (List.mem_of_getElem? (i := 36) rfl) rfl
theorem tw_997 : TW (Jvm.Cond.methodLink "ThousandLeaflets$Ways" (75 : Nat) ({ cls := "ThousandLeaflets$Basis", name := "add", desc := "(I)V" } : Jvm.MethodName)) := sb_5 (List.mem_of_getElem? (i := 37) rfl) rfl
theorem tw_998 : TW (Jvm.Cond.methodLink "ThousandLeaflets$Ways" (79 : Nat) ({ cls := "ThousandLeaflets$Basis", name := "cut", desc := "(I)V" } : Jvm.MethodName)) := sb_5 (List.mem_of_getElem? (i := 38) rfl) rfl
theorem tw_999 : TW (Jvm.Cond.methodLink "ThousandLeaflets" (316 : Nat) ({ cls := "ThousandLeaflets$Ways", name := "bookAt", desc := "(I)I" } : Jvm.MethodName)) := sb_5 (List.mem_of_getElem? (i := 39) rfl) rfl
theorem tw_1000 : TW (Jvm.Cond.instanceMethod ({ cls := "ThousandLeaflets$Ways", name := "bookAt", desc := "(I)I" } : Jvm.MethodName)) := sb_5 (List.mem_of_getElem? (i := 40) rfl) rfl
theorem tw_1001 : TW (Jvm.Cond.selects "ThousandLeaflets$Ways" ({ cls := "ThousandLeaflets$Ways", name := "bookAt", desc := "(I)I" } : Jvm.MethodName) ({ cls := "ThousandLeaflets$Ways", name := "bookAt", desc := "(I)I" } : Jvm.MethodName)) := sb_5 (List.mem_of_getElem? (i := 41) rfl) rfl
theorem tw_1002 : TW (Jvm.Cond.code ({ cls := "ThousandLeaflets$Ways", name := "bookAt", desc := "(I)I" } : Jvm.MethodName) prog_12_method_7_code (5 : Nat) (Option.some Jvm.ClassFile.FieldType.int)) := sb_5 (List.mem_of_getElem? (i := 42) rfl) rfl
theorem tw_1003 : TW (Jvm.Cond.methodLink "ThousandLeafletsLaw" (136 : Nat) ({ cls := "ThousandLeaflets", name := "quarter", desc := "(III)Z" } : Jvm.MethodName)) := sb_5 (List.mem_of_getElem? (i := 43) rfl) rfl
theorem tw_1004 : TW (Jvm.Cond.instanceMethod ({ cls := "ThousandLeaflets", name := "quarter", desc := "(III)Z" } : Jvm.MethodName)) := sb_5 (List.mem_of_getElem? (i := 44) rfl) rfl
theorem tw_1005 : TW (Jvm.Cond.selects "ThousandLeaflets" ({ cls := "ThousandLeaflets", name := "quarter", desc := "(III)Z" } : Jvm.MethodName) ({ cls := "ThousandLeaflets", name := "quarter", desc := "(III)Z" } : Jvm.MethodName)) := sb_5 (List.mem_of_getElem? (i := 45) rfl) rfl
theorem tw_1006 : TW (Jvm.Cond.code ({ cls := "ThousandLeaflets", name := "quarter", desc := "(III)Z" } : Jvm.MethodName) prog_1_method_28_code (4 : Nat) (Option.some Jvm.ClassFile.FieldType.boolean)) := sb_5 (List.mem_of_getElem? (i := 46) rfl) rfl
theorem tw_1007 : TW (Jvm.Cond.methodLink "ThousandLeafletsLaw" (140 : Nat) ({ cls := "ThousandLeaflets", name := "scatter", desc := "(III)I" } : Jvm.MethodName)) := sb_5 (List.mem_of_getElem? (i := 47) rfl) rfl
theorem tw_1008 : TW (Jvm.Cond.instanceMethod ({ cls := "ThousandLeaflets", name := "scatter", desc := "(III)I" } : Jvm.MethodName)) := sb_5 (List.mem_of_getElem? (i := 48) rfl) rfl
theorem tw_1009 : TW (Jvm.Cond.selects "ThousandLeaflets" ({ cls := "ThousandLeaflets", name := "scatter", desc := "(III)I" } : Jvm.MethodName) ({ cls := "ThousandLeaflets", name := "scatter", desc := "(III)I" } : Jvm.MethodName)) := sb_5 (List.mem_of_getElem? (i := 49) rfl) rfl
theorem tw_1010 : TW (Jvm.Cond.code ({ cls := "ThousandLeaflets", name := "scatter", desc := "(III)I" } : Jvm.MethodName) prog_1_method_29_code (6 : Nat) (Option.some Jvm.ClassFile.FieldType.int)) := sb_5 (List.mem_of_getElem? (i := 50) rfl) rfl
theorem tw_1011 : TW (Jvm.Cond.methodLink "ThousandLeaflets" (319 : Nat) ({ cls := "ThousandLeaflets", name := "isRoomAnywhere", desc := "()Z" } : Jvm.MethodName)) := sb_5 (List.mem_of_getElem? (i := 51) rfl) rfl
theorem tw_1013 : TW (Jvm.Cond.instanceMethod ({ cls := "ThousandLeaflets", name := "isRoomAnywhere", desc := "()Z" } : Jvm.MethodName)) := sb_5 (List.mem_of_getElem? (i := 53) rfl) rfl
theorem tw_1014 : TW (Jvm.Cond.code ({ cls := "ThousandLeaflets", name := "isRoomAnywhere", desc := "()Z" } : Jvm.MethodName) prog_1_method_55_code (2 : Nat) (Option.some Jvm.ClassFile.FieldType.boolean)) := sb_5 (List.mem_of_getElem? (i := 54) rfl) rfl
theorem tw_1015 : TW (Jvm.Cond.methodLink "ThousandLeaflets" (323 : Nat) ({ cls := "ThousandLeaflets", name := "throwOne", desc := "(LThousandLeaflets$Book;I)I" } : Jvm.MethodName)) := sb_5 (List.mem_of_getElem? (i := 55) rfl) rfl
theorem tw_1017 : TW (Jvm.Cond.instanceMethod ({ cls := "ThousandLeaflets", name := "throwOne", desc := "(LThousandLeaflets$Book;I)I" } : Jvm.MethodName)) := sb_5 (List.mem_of_getElem? (i := 57) rfl) rfl
theorem tw_1018 : TW (Jvm.Cond.code ({ cls := "ThousandLeaflets", name := "throwOne", desc := "(LThousandLeaflets$Book;I)I" } : Jvm.MethodName) prog_1_method_56_code (6 : Nat) (Option.some Jvm.ClassFile.FieldType.int)) := sb_5 (List.mem_of_getElem? (i := 58) rfl) rfl
theorem tw_1019 : TW (Jvm.Cond.methodLink "ThousandLeaflets" (397 : Nat) ({ cls := "ThousandLeaflets", name := "falls", desc := "(LThousandLeaflets$Book;II)Z" } : Jvm.MethodName)) := sb_5 (List.mem_of_getElem? (i := 59) rfl) rfl
theorem tw_1021 : TW (Jvm.Cond.instanceMethod ({ cls := "ThousandLeaflets", name := "falls", desc := "(LThousandLeaflets$Book;II)Z" } : Jvm.MethodName)) := sb_5 (List.mem_of_getElem? (i := 61) rfl) rfl
theorem tw_1022 : TW (Jvm.Cond.code ({ cls := "ThousandLeaflets", name := "falls", desc := "(LThousandLeaflets$Book;II)Z" } : Jvm.MethodName) prog_1_method_54_code (4 : Nat) (Option.some Jvm.ClassFile.FieldType.boolean)) := sb_5 (List.mem_of_getElem? (i := 62) rfl) rfl
theorem tw_1023 : TW (Jvm.Cond.methodLink "ThousandLeaflets" (341 : Nat) ({ cls := "ThousandLeaflets$Heap", name := "hasAlike", desc := "(LThousandLeaflets$Paper;)Z" } : Jvm.MethodName)) := sb_5 (List.mem_of_getElem? (i := 63) rfl) rfl
theorem tw_1024 : TW (Jvm.Cond.instanceMethod ({ cls := "ThousandLeaflets$Heap", name := "hasAlike", desc := "(LThousandLeaflets$Paper;)Z" } : Jvm.MethodName)) := sb_5 (List.mem_of_getElem? (i := 64) rfl) rfl
theorem tw_1025 : TW (Jvm.Cond.selects "ThousandLeaflets$Heap" ({ cls := "ThousandLeaflets$Heap", name := "hasAlike", desc := "(LThousandLeaflets$Paper;)Z" } : Jvm.MethodName) ({ cls := "ThousandLeaflets$Heap", name := "hasAlike", desc := "(LThousandLeaflets$Paper;)Z" } : Jvm.MethodName)) := sb_5 (List.mem_of_getElem? (i := 65) rfl) rfl
theorem tw_1026 : TW (Jvm.Cond.code ({ cls := "ThousandLeaflets$Heap", name := "hasAlike", desc := "(LThousandLeaflets$Paper;)Z" } : Jvm.MethodName) prog_8_method_5_code (4 : Nat) (Option.some Jvm.ClassFile.FieldType.boolean)) := sb_5 (List.mem_of_getElem? (i := 66) rfl) rfl
theorem tw_1027 : TW (Jvm.Cond.methodLink "ThousandLeaflets$Heap" (28 : Nat) ({ cls := "ThousandLeaflets$Paper", name := "isAlike", desc := "(LThousandLeaflets$Paper;)Z" } : Jvm.MethodName)) := sb_5 (List.mem_of_getElem? (i := 67) rfl) rfl
theorem tw_1028 : TW (Jvm.Cond.instanceMethod ({ cls := "ThousandLeaflets$Paper", name := "isAlike", desc := "(LThousandLeaflets$Paper;)Z" } : Jvm.MethodName)) := sb_5 (List.mem_of_getElem? (i := 68) rfl) rfl
theorem tw_1029 : TW (Jvm.Cond.selects "ThousandLeaflets$Paper" ({ cls := "ThousandLeaflets$Paper", name := "isAlike", desc := "(LThousandLeaflets$Paper;)Z" } : Jvm.MethodName) ({ cls := "ThousandLeaflets$Paper", name := "isAlike", desc := "(LThousandLeaflets$Paper;)Z" } : Jvm.MethodName)) := sb_5 (List.mem_of_getElem? (i := 69) rfl) rfl
theorem tw_1030 : TW (Jvm.Cond.code ({ cls := "ThousandLeaflets$Paper", name := "isAlike", desc := "(LThousandLeaflets$Paper;)Z" } : Jvm.MethodName) prog_9_method_5_code (2 : Nat) (Option.some Jvm.ClassFile.FieldType.boolean)) := sb_5 (List.mem_of_getElem? (i := 70) rfl) rfl
theorem tw_1031 : TW (Jvm.Cond.methodLink "ThousandLeafletsLaw" (144 : Nat) ({ cls := "ThousandLeaflets", name := "needs", desc := "(II)I" } : Jvm.MethodName)) := sb_5 (List.mem_of_getElem? (i := 71) rfl) rfl
theorem tw_1032 : TW (Jvm.Cond.instanceMethod ({ cls := "ThousandLeaflets", name := "needs", desc := "(II)I" } : Jvm.MethodName)) := sb_5 (List.mem_of_getElem? (i := 72) rfl) rfl
theorem tw_1033 : TW (Jvm.Cond.selects "ThousandLeaflets" ({ cls := "ThousandLeaflets", name := "needs", desc := "(II)I" } : Jvm.MethodName) ({ cls := "ThousandLeaflets", name := "needs", desc := "(II)I" } : Jvm.MethodName)) := sb_5 (List.mem_of_getElem? (i := 73) rfl) rfl
theorem tw_1034 : TW (Jvm.Cond.code ({ cls := "ThousandLeaflets", name := "needs", desc := "(II)I" } : Jvm.MethodName) prog_1_method_30_code (3 : Nat) (Option.some Jvm.ClassFile.FieldType.int)) := sb_5 (List.mem_of_getElem? (i := 74) rfl) rfl
theorem tw_1035 : TW (Jvm.Cond.methodLink "ThousandLeaflets" (326 : Nat) ({ cls := "ThousandLeaflets", name := "neededIn", desc := "(ILThousandLeaflets$Book;)I" } : Jvm.MethodName)) := sb_5 (List.mem_of_getElem? (i := 75) rfl) rfl
theorem tw_1037 : TW (Jvm.Cond.instanceMethod ({ cls := "ThousandLeaflets", name := "neededIn", desc := "(ILThousandLeaflets$Book;)I" } : Jvm.MethodName)) := sb_5 (List.mem_of_getElem? (i := 77) rfl) rfl
theorem tw_1038 : TW (Jvm.Cond.code ({ cls := "ThousandLeaflets", name := "neededIn", desc := "(ILThousandLeaflets$Book;)I" } : Jvm.MethodName) prog_1_method_57_code (6 : Nat) (Option.some Jvm.ClassFile.FieldType.int)) := sb_5 (List.mem_of_getElem? (i := 78) rfl) rfl
theorem tw_1039 : TW (Jvm.Cond.methodLink "ThousandLeafletsLaw" (148 : Nat) ({ cls := "ThousandLeaflets", name := "town", desc := "(II)I" } : Jvm.MethodName)) := sb_5 (List.mem_of_getElem? (i := 79) rfl) rfl
theorem tw_1040 : TW (Jvm.Cond.instanceMethod ({ cls := "ThousandLeaflets", name := "town", desc := "(II)I" } : Jvm.MethodName)) := sb_5 (List.mem_of_getElem? (i := 80) rfl) rfl
theorem tw_1041 : TW (Jvm.Cond.selects "ThousandLeaflets" ({ cls := "ThousandLeaflets", name := "town", desc := "(II)I" } : Jvm.MethodName) ({ cls := "ThousandLeaflets", name := "town", desc := "(II)I" } : Jvm.MethodName)) := sb_5 (List.mem_of_getElem? (i := 81) rfl) rfl
theorem tw_1042 : TW (Jvm.Cond.code ({ cls := "ThousandLeaflets", name := "town", desc := "(II)I" } : Jvm.MethodName) prog_1_method_31_code (5 : Nat) (Option.some Jvm.ClassFile.FieldType.int)) := sb_5 (List.mem_of_getElem? (i := 82) rfl) rfl
theorem tw_1043 : TW (Jvm.Cond.methodLink "ThousandLeaflets" (330 : Nat) ({ cls := "ThousandLeaflets", name := "allHouses", desc := "()I" } : Jvm.MethodName)) := sb_5 (List.mem_of_getElem? (i := 83) rfl) rfl
theorem tw_1045 : TW (Jvm.Cond.instanceMethod ({ cls := "ThousandLeaflets", name := "allHouses", desc := "()I" } : Jvm.MethodName)) := sb_5 (List.mem_of_getElem? (i := 85) rfl) rfl
theorem tw_1046 : TW (Jvm.Cond.code ({ cls := "ThousandLeaflets", name := "allHouses", desc := "()I" } : Jvm.MethodName) prog_1_method_58_code (3 : Nat) (Option.some Jvm.ClassFile.FieldType.int)) := sb_5 (List.mem_of_getElem? (i := 86) rfl) rfl
theorem tw_1047 : TW (Jvm.Cond.methodLink "ThousandLeaflets" (333 : Nat) ({ cls := "ThousandLeaflets", name := "housesServed", desc := "(I)I" } : Jvm.MethodName)) := sb_5 (List.mem_of_getElem? (i := 87) rfl) rfl
theorem tw_1049 : TW (Jvm.Cond.instanceMethod ({ cls := "ThousandLeaflets", name := "housesServed", desc := "(I)I" } : Jvm.MethodName)) := sb_5 (List.mem_of_getElem? (i := 89) rfl) rfl
theorem tw_1050 : TW (Jvm.Cond.code ({ cls := "ThousandLeaflets", name := "housesServed", desc := "(I)I" } : Jvm.MethodName) prog_1_method_59_code (4 : Nat) (Option.some Jvm.ClassFile.FieldType.int)) := sb_5 (List.mem_of_getElem? (i := 90) rfl) rfl
theorem tw_1051 : TW (Jvm.Cond.methodLink "ThousandLeafletsLaw" (152 : Nat) ({ cls := "ThousandLeaflets", name := "swap", desc := "(III)I" } : Jvm.MethodName)) := sb_5 (List.mem_of_getElem? (i := 91) rfl) rfl
theorem tw_1052 : TW (Jvm.Cond.instanceMethod ({ cls := "ThousandLeaflets", name := "swap", desc := "(III)I" } : Jvm.MethodName)) := sb_5 (List.mem_of_getElem? (i := 92) rfl) rfl
theorem tw_1053 : TW (Jvm.Cond.selects "ThousandLeaflets" ({ cls := "ThousandLeaflets", name := "swap", desc := "(III)I" } : Jvm.MethodName) ({ cls := "ThousandLeaflets", name := "swap", desc := "(III)I" } : Jvm.MethodName)) := sb_5 (List.mem_of_getElem? (i := 93) rfl) rfl
theorem tw_1054 : TW (Jvm.Cond.code ({ cls := "ThousandLeaflets", name := "swap", desc := "(III)I" } : Jvm.MethodName) prog_1_method_32_code (9 : Nat) (Option.some Jvm.ClassFile.FieldType.int)) := sb_5 (List.mem_of_getElem? (i := 94) rfl) rfl
theorem tw_1055 : TW (Jvm.Cond.methodLink "ThousandLeafletsLaw" (156 : Nat) ({ cls := "ThousandLeaflets", name := "mark", desc := "(IZ)Z" } : Jvm.MethodName)) := sb_5 (List.mem_of_getElem? (i := 95) rfl) rfl
theorem tw_1056 : TW (Jvm.Cond.instanceMethod ({ cls := "ThousandLeaflets", name := "mark", desc := "(IZ)Z" } : Jvm.MethodName)) := sb_5 (List.mem_of_getElem? (i := 96) rfl) rfl
theorem tw_1057 : TW (Jvm.Cond.selects "ThousandLeaflets" ({ cls := "ThousandLeaflets", name := "mark", desc := "(IZ)Z" } : Jvm.MethodName) ({ cls := "ThousandLeaflets", name := "mark", desc := "(IZ)Z" } : Jvm.MethodName)) := sb_5 (List.mem_of_getElem? (i := 97) rfl) rfl
theorem tw_1058 : TW (Jvm.Cond.code ({ cls := "ThousandLeaflets", name := "mark", desc := "(IZ)Z" } : Jvm.MethodName) prog_1_method_33_code (5 : Nat) (Option.some Jvm.ClassFile.FieldType.boolean)) := sb_5 (List.mem_of_getElem? (i := 98) rfl) rfl
theorem tw_1059 : TW (Jvm.Cond.methodLink "ThousandLeaflets" (345 : Nat) ({ cls := "ThousandLeaflets$Heap", name := "copy", desc := "(LThousandLeaflets$Heap;)V" } : Jvm.MethodName)) := sb_5 (List.mem_of_getElem? (i := 99) rfl) rfl
theorem tw_1060 : TW (Jvm.Cond.instanceMethod ({ cls := "ThousandLeaflets$Heap", name := "copy", desc := "(LThousandLeaflets$Heap;)V" } : Jvm.MethodName)) := sb_5 (List.mem_of_getElem? (i := 100) rfl) rfl
theorem tw_1061 : TW (Jvm.Cond.selects "ThousandLeaflets$Heap" ({ cls := "ThousandLeaflets$Heap", name := "copy", desc := "(LThousandLeaflets$Heap;)V" } : Jvm.MethodName) ({ cls := "ThousandLeaflets$Heap", name := "copy", desc := "(LThousandLeaflets$Heap;)V" } : Jvm.MethodName)) := sb_5 (List.mem_of_getElem? (i := 101) rfl) rfl
theorem tw_1062 : TW (Jvm.Cond.code ({ cls := "ThousandLeaflets$Heap", name := "copy", desc := "(LThousandLeaflets$Heap;)V" } : Jvm.MethodName) prog_8_method_10_code (3 : Nat) (Option.none : Option Jvm.ClassFile.FieldType)) := sb_5 (List.mem_of_getElem? (i := 102) rfl) rfl
theorem tw_1063 : TW (Jvm.Cond.methodLink "ThousandLeafletsLaw" (161 : Nat) ({ cls := "ThousandLeaflets", name := "count", desc := "(I)I" } : Jvm.MethodName)) := sb_5 (List.mem_of_getElem? (i := 103) rfl) rfl
theorem tw_1064 : TW (Jvm.Cond.instanceMethod ({ cls := "ThousandLeaflets", name := "count", desc := "(I)I" } : Jvm.MethodName)) := sb_5 (List.mem_of_getElem? (i := 104) rfl) rfl
theorem tw_1065 : TW (Jvm.Cond.selects "ThousandLeaflets" ({ cls := "ThousandLeaflets", name := "count", desc := "(I)I" } : Jvm.MethodName) ({ cls := "ThousandLeaflets", name := "count", desc := "(I)I" } : Jvm.MethodName)) := sb_5 (List.mem_of_getElem? (i := 105) rfl) rfl
theorem tw_1066 : TW (Jvm.Cond.code ({ cls := "ThousandLeaflets", name := "count", desc := "(I)I" } : Jvm.MethodName) prog_1_method_34_code (2 : Nat) (Option.some Jvm.ClassFile.FieldType.int)) := sb_5 (List.mem_of_getElem? (i := 106) rfl) rfl
theorem tw_1071 : TW (Jvm.Cond.methodLink "ThousandLeafletsLaw" (7 : Nat) ({ cls := "ThousandLeaflets", name := "paper", desc := "(III)I" } : Jvm.MethodName)) := sb_5 (List.mem_of_getElem? (i := 111) rfl) rfl
theorem tw_1072 : TW (Jvm.Cond.instanceMethod ({ cls := "ThousandLeaflets", name := "paper", desc := "(III)I" } : Jvm.MethodName)) := sb_5 (List.mem_of_getElem? (i := 112) rfl) rfl
theorem tw_1073 : TW (Jvm.Cond.selects "ThousandLeaflets" ({ cls := "ThousandLeaflets", name := "paper", desc := "(III)I" } : Jvm.MethodName) ({ cls := "ThousandLeaflets", name := "paper", desc := "(III)I" } : Jvm.MethodName)) := sb_5 (List.mem_of_getElem? (i := 113) rfl) rfl
theorem tw_1074 : TW (Jvm.Cond.code ({ cls := "ThousandLeaflets", name := "paper", desc := "(III)I" } : Jvm.MethodName) prog_1_method_12_code (5 : Nat) (Option.some Jvm.ClassFile.FieldType.int)) := sb_5 (List.mem_of_getElem? (i := 114) rfl) rfl
theorem tw_1136 : TW (Jvm.Cond.methodLink "ThousandLeaflets" (206 : Nat) ({ cls := "ThousandLeaflets", name := "unknownPages", desc := "(ILThousandLeaflets$Paper;)I" } : Jvm.MethodName)) := sb_5 (List.mem_of_getElem? (i := 176) rfl) rfl
theorem tw_1138 : TW (Jvm.Cond.instanceMethod ({ cls := "ThousandLeaflets", name := "unknownPages", desc := "(ILThousandLeaflets$Paper;)I" } : Jvm.MethodName)) := sb_5 (List.mem_of_getElem? (i := 178) rfl) rfl
theorem tw_1139 : TW (Jvm.Cond.code ({ cls := "ThousandLeaflets", name := "unknownPages", desc := "(ILThousandLeaflets$Paper;)I" } : Jvm.MethodName) prog_1_method_48_code (5 : Nat) (Option.some Jvm.ClassFile.FieldType.int)) := sb_5 (List.mem_of_getElem? (i := 179) rfl) rfl
theorem tw_1140 : TW (Jvm.Cond.constant "ThousandLeaflets" (364 : Nat) (1048575 : Int32)) := sb_5 (List.mem_of_getElem? (i := 180) rfl) rfl
theorem tw_1141 : TW (Jvm.Cond.methodLink "ThousandLeaflets" (368 : Nat) ({ cls := "ThousandLeaflets$Paper", name := "pagesBy", desc := "(I)I" } : Jvm.MethodName)) := sb_5 (List.mem_of_getElem? (i := 181) rfl) rfl
theorem tw_1142 : TW (Jvm.Cond.methodLink "ThousandLeafletsLaw" (35 : Nat) ({ cls := "ThousandLeafletsModel", name := "feed", desc := "(JJJ)I" } : Jvm.MethodName)) := sb_5 (List.mem_of_getElem? (i := 182) rfl) rfl
theorem tw_1143 : TW (Jvm.Cond.instanceMethod ({ cls := "ThousandLeafletsModel", name := "feed", desc := "(JJJ)I" } : Jvm.MethodName)) := sb_5 (List.mem_of_getElem? (i := 183) rfl) rfl
theorem tw_1144 : TW (Jvm.Cond.selects "ThousandLeafletsModel" ({ cls := "ThousandLeafletsModel", name := "feed", desc := "(JJJ)I" } : Jvm.MethodName) ({ cls := "ThousandLeafletsModel", name := "feed", desc := "(JJJ)I" } : Jvm.MethodName)) := sb_5 (List.mem_of_getElem? (i := 184) rfl) rfl
theorem tw_1145 : TW (Jvm.Cond.code ({ cls := "ThousandLeafletsModel", name := "feed", desc := "(JJJ)I" } : Jvm.MethodName) prog_14_method_2_code (7 : Nat) (Option.some Jvm.ClassFile.FieldType.int)) := sb_5 (List.mem_of_getElem? (i := 185) rfl) rfl
theorem tw_1146 : TW (Jvm.Cond.methodLink "ThousandLeafletsModel" (7 : Nat) ({ cls := "ThousandLeafletsModel", name := "lay", desc := "(J)V" } : Jvm.MethodName)) := sb_5 (List.mem_of_getElem? (i := 186) rfl) rfl
theorem tw_1148 : TW (Jvm.Cond.instanceMethod ({ cls := "ThousandLeafletsModel", name := "lay", desc := "(J)V" } : Jvm.MethodName)) := sb_5 (List.mem_of_getElem? (i := 188) rfl) rfl
theorem tw_1149 : TW (Jvm.Cond.instantiable "ThousandLeafletsModel" (48 : Nat)) := sb_5 (List.mem_of_getElem? (i := 189) rfl) rfl
theorem tw_1150 : TW (Jvm.Cond.code ({ cls := "ThousandLeafletsModel", name := "lay", desc := "(J)V" } : Jvm.MethodName) prog_14_method_3_code (5 : Nat) (Option.none : Option Jvm.ClassFile.FieldType)) := sb_5 (List.mem_of_getElem? (i := 190) rfl) rfl
theorem tw_1151 : TW (Jvm.Cond.classLink "ThousandLeafletsLaw" (16 : Nat) "ThousandLeafletsModel") := sb_5 (List.mem_of_getElem? (i := 191) rfl) rfl
theorem tw_1152 : TW (Jvm.Cond.methodLink "ThousandLeafletsLaw" (18 : Nat) ({ cls := "ThousandLeafletsModel", name := "<init>", desc := "()V" } : Jvm.MethodName)) := sb_5 (List.mem_of_getElem? (i := 192) rfl) rfl
theorem tw_1153 : TW (Jvm.Cond.instanceMethod ({ cls := "ThousandLeafletsModel", name := "<init>", desc := "()V" } : Jvm.MethodName)) := sb_5 (List.mem_of_getElem? (i := 193) rfl) rfl
theorem tw_1154 : TW (Jvm.Cond.code ({ cls := "ThousandLeafletsModel", name := "<init>", desc := "()V" } : Jvm.MethodName) prog_14_method_4_code (2 : Nat) (Option.none : Option Jvm.ClassFile.FieldType)) := sb_5 (List.mem_of_getElem? (i := 194) rfl) rfl
theorem tw_1155 : TW (Jvm.Cond.methodLink "ThousandLeafletsModel" (18 : Nat) ({ cls := "java/lang/Object", name := "<init>", desc := "()V" } : Jvm.MethodName)) := sb_5 (List.mem_of_getElem? (i := 195) rfl) rfl
theorem tw_1156 : TW (Jvm.Cond.constantLong "ThousandLeafletsModel" (34 : Nat) (765438 : Int64)) := sb_5 (List.mem_of_getElem? (i := 196) rfl) rfl
theorem tw_1157 : TW (Jvm.Cond.constantLong "ThousandLeafletsModel" (36 : Nat) (11726208 : Int64)) := sb_5 (List.mem_of_getElem? (i := 197) rfl) rfl
theorem tw_1158 : TW (Jvm.Cond.constantLong "ThousandLeafletsModel" (38 : Nat) (26801 : Int64)) := sb_5 (List.mem_of_getElem? (i := 198) rfl) rfl
theorem tw_1159 : TW (Jvm.Cond.constantLong "ThousandLeafletsModel" (40 : Nat) (969301 : Int64)) := sb_5 (List.mem_of_getElem? (i := 199) rfl) rfl
theorem tw_1160 : TW (Jvm.Cond.fieldLink "ThousandLeafletsModel" (1 : Nat) "ThousandLeafletsModel" "thrown" "I") := sb_5 (List.mem_of_getElem? (i := 200) rfl) rfl
theorem tw_1161 : TW (Jvm.Cond.fieldLink "ThousandLeafletsModel" (14 : Nat) "ThousandLeafletsModel" "tape" "[I") := sb_5 (List.mem_of_getElem? (i := 201) rfl) rfl
theorem tw_1162 : TW (Jvm.Cond.fieldLink "ThousandLeafletsModel" (11 : Nat) "ThousandLeafletsModel" "taped" "I") := sb_5 (List.mem_of_getElem? (i := 202) rfl) rfl
theorem tw_1163 : TW (Jvm.Cond.fieldLink "ThousandLeafletsModel" (140 : Nat) "ThousandLeafletsModel" "size" "I") := sb_5 (List.mem_of_getElem? (i := 203) rfl) rfl
theorem tw_1164 : TW (Jvm.Cond.fieldLink "ThousandLeafletsModel" (24 : Nat) "ThousandLeafletsModel" "sort" "[I") := sb_5 (List.mem_of_getElem? (i := 204) rfl) rfl
theorem tw_1165 : TW (Jvm.Cond.fieldLink "ThousandLeafletsModel" (27 : Nat) "ThousandLeafletsModel" "place" "[I") := sb_5 (List.mem_of_getElem? (i := 205) rfl) rfl
theorem tw_1166 : TW (Jvm.Cond.fieldLink "ThousandLeafletsModel" (30 : Nat) "ThousandLeafletsModel" "value" "[J") := sb_5 (List.mem_of_getElem? (i := 206) rfl) rfl
theorem tw_1167 : TW (Jvm.Cond.fieldLink "ThousandLeafletsModel" (159 : Nat) "ThousandLeafletsModel" "at" "I") := sb_5 (List.mem_of_getElem? (i := 207) rfl) rfl
theorem tw_1168 : TW (Jvm.Cond.fieldLink "ThousandLeafletsModel" (162 : Nat) "ThousandLeafletsModel" "fault" "I") := sb_5 (List.mem_of_getElem? (i := 208) rfl) rfl
theorem tw_1169 : TW (Jvm.Cond.fieldLink "ThousandLeafletsModel" (42 : Nat) "ThousandLeafletsModel" "words" "[J") := sb_5 (List.mem_of_getElem? (i := 209) rfl) rfl
theorem tw_1170 : TW (Jvm.Cond.fieldLink "ThousandLeafletsModel" (45 : Nat) "ThousandLeafletsModel" "pages" "[I") := sb_5 (List.mem_of_getElem? (i := 210) rfl) rfl
theorem tw_1171 : TW (Jvm.Cond.fieldLink "ThousandLeafletsModel" (48 : Nat) "ThousandLeafletsModel" "page" "[I") := sb_5 (List.mem_of_getElem? (i := 211) rfl) rfl
theorem tw_1172 : TW (Jvm.Cond.fieldLink "ThousandLeafletsModel" (51 : Nat) "ThousandLeafletsModel" "odds" "[I") := sb_5 (List.mem_of_getElem? (i := 212) rfl) rfl
theorem tw_1173 : TW (Jvm.Cond.fieldLink "ThousandLeafletsModel" (54 : Nat) "ThousandLeafletsModel" "firstBelow" "[I") := sb_5 (List.mem_of_getElem? (i := 213) rfl) rfl
theorem tw_1174 : TW (Jvm.Cond.fieldLink "ThousandLeafletsModel" (57 : Nat) "ThousandLeafletsModel" "firstWeight" "[I") := sb_5 (List.mem_of_getElem? (i := 214) rfl) rfl
theorem tw_1175 : TW (Jvm.Cond.fieldLink "ThousandLeafletsModel" (60 : Nat) "ThousandLeafletsModel" "sums" "[I") := sb_5 (List.mem_of_getElem? (i := 215) rfl) rfl
theorem tw_1176 : TW (Jvm.Cond.fieldLink "ThousandLeafletsModel" (63 : Nat) "ThousandLeafletsModel" "sumSet" "[I") := sb_5 (List.mem_of_getElem? (i := 216) rfl) rfl
theorem tw_1177 : TW (Jvm.Cond.fieldLink "ThousandLeafletsModel" (66 : Nat) "ThousandLeafletsModel" "sealBy" "[I") := sb_5 (List.mem_of_getElem? (i := 217) rfl) rfl
theorem tw_1178 : TW (Jvm.Cond.fieldLink "ThousandLeafletsModel" (202 : Nat) "ThousandLeafletsModel" "readPages" "I") := sb_5 (List.mem_of_getElem? (i := 218) rfl) rfl
theorem tw_1179 : TW (Jvm.Cond.fieldLink "ThousandLeafletsModel" (226 : Nat) "ThousandLeafletsModel" "seed" "J") := sb_5 (List.mem_of_getElem? (i := 219) rfl) rfl
theorem tw_1180 : TW (Jvm.Cond.fieldLink "ThousandLeafletsModel" (69 : Nat) "ThousandLeafletsModel" "sizes" "[I") := sb_5 (List.mem_of_getElem? (i := 220) rfl) rfl
theorem tw_1181 : TW (Jvm.Cond.fieldLink "ThousandLeafletsModel" (72 : Nat) "ThousandLeafletsModel" "numberOf" "[I") := sb_5 (List.mem_of_getElem? (i := 221) rfl) rfl
theorem tw_1182 : TW (Jvm.Cond.fieldLink "ThousandLeafletsModel" (75 : Nat) "ThousandLeafletsModel" "bookOf" "[I") := sb_5 (List.mem_of_getElem? (i := 222) rfl) rfl
theorem tw_1183 : TW (Jvm.Cond.fieldLink "ThousandLeafletsModel" (78 : Nat) "ThousandLeafletsModel" "sumOn" "[I") := sb_5 (List.mem_of_getElem? (i := 223) rfl) rfl
theorem tw_1184 : TW (Jvm.Cond.fieldLink "ThousandLeafletsModel" (81 : Nat) "ThousandLeafletsModel" "bytesOn" "[I") := sb_5 (List.mem_of_getElem? (i := 224) rfl) rfl
theorem tw_1185 : TW (Jvm.Cond.fieldLink "ThousandLeafletsModel" (84 : Nat) "ThousandLeafletsModel" "sealOn" "[I") := sb_5 (List.mem_of_getElem? (i := 225) rfl) rfl
theorem tw_1186 : TW (Jvm.Cond.fieldLink "ThousandLeafletsModel" (87 : Nat) "ThousandLeafletsModel" "isMarked" "[Z") := sb_5 (List.mem_of_getElem? (i := 226) rfl) rfl
theorem tw_1187 : TW (Jvm.Cond.fieldLink "ThousandLeafletsModel" (288 : Nat) "ThousandLeafletsModel" "thrownOut" "I") := sb_5 (List.mem_of_getElem? (i := 227) rfl) rfl
theorem tw_1188 : TW (Jvm.Cond.fieldLink "ThousandLeafletsModel" (305 : Nat) "ThousandLeafletsModel" "equations" "I") := sb_5 (List.mem_of_getElem? (i := 228) rfl) rfl
theorem tw_1189 : TW (Jvm.Cond.fieldLink "ThousandLeafletsModel" (91 : Nat) "ThousandLeafletsModel" "sets" "[I") := sb_5 (List.mem_of_getElem? (i := 229) rfl) rfl
theorem tw_1190 : TW (Jvm.Cond.fieldLink "ThousandLeafletsModel" (94 : Nat) "ThousandLeafletsModel" "bytes" "[I") := sb_5 (List.mem_of_getElem? (i := 230) rfl) rfl
theorem tw_1191 : TW (Jvm.Cond.fieldLink "ThousandLeafletsModel" (97 : Nat) "ThousandLeafletsModel" "fromPlace" "[I") := sb_5 (List.mem_of_getElem? (i := 231) rfl) rfl
theorem tw_1192 : TW (Jvm.Cond.fieldLink "ThousandLeafletsModel" (100 : Nat) "ThousandLeafletsModel" "isLeft" "[Z") := sb_5 (List.mem_of_getElem? (i := 232) rfl) rfl
theorem tw_1193 : TW (Jvm.Cond.fieldLink "ThousandLeafletsModel" (318 : Nat) "ThousandLeafletsModel" "peeled" "I") := sb_5 (List.mem_of_getElem? (i := 233) rfl) rfl
theorem tw_1194 : TW (Jvm.Cond.fieldLink "ThousandLeafletsModel" (103 : Nat) "ThousandLeafletsModel" "byteBy" "[I") := sb_5 (List.mem_of_getElem? (i := 234) rfl) rfl
theorem tw_1195 : TW (Jvm.Cond.fieldLink "ThousandLeafletsModel" (324 : Nat) "ThousandLeafletsModel" "rank" "I") := sb_5 (List.mem_of_getElem? (i := 235) rfl) rfl
theorem tw_1196 : TW (Jvm.Cond.fieldLink "ThousandLeafletsModel" (326 : Nat) "ThousandLeafletsModel" "doAgree" "Z") := sb_5 (List.mem_of_getElem? (i := 236) rfl) rfl
theorem tw_1197 : TW (Jvm.Cond.fieldLink "ThousandLeafletsModel" (106 : Nat) "ThousandLeafletsModel" "leadSet" "[I") := sb_5 (List.mem_of_getElem? (i := 237) rfl) rfl
theorem tw_1198 : TW (Jvm.Cond.fieldLink "ThousandLeafletsModel" (109 : Nat) "ThousandLeafletsModel" "leadByte" "[I") := sb_5 (List.mem_of_getElem? (i := 238) rfl) rfl
theorem tw_1199 : TW (Jvm.Cond.fieldLink "ThousandLeafletsModel" (361 : Nat) "ThousandLeafletsModel" "slippedMany" "I") := sb_5 (List.mem_of_getElem? (i := 239) rfl) rfl
theorem tw_1200 : TW (Jvm.Cond.fieldLink "ThousandLeafletsModel" (112 : Nat) "ThousandLeafletsModel" "slippedAt" "[I") := sb_6 (List.mem_of_getElem? (i := 0) rfl) rfl
theorem tw_1201 : TW (Jvm.Cond.fieldLink "ThousandLeafletsModel" (115 : Nat) "ThousandLeafletsModel" "withoutSets" "[I") := sb_6 (List.mem_of_getElem? (i := 1) rfl) rfl
theorem tw_1202 : TW (Jvm.Cond.fieldLink "ThousandLeafletsModel" (118 : Nat) "ThousandLeafletsModel" "withoutBytes" "[I") := sb_6 (List.mem_of_getElem? (i := 2) rfl) rfl
theorem tw_1203 : TW (Jvm.Cond.fieldLink "ThousandLeafletsModel" (121 : Nat) "ThousandLeafletsModel" "sixty" "[I") := sb_6 (List.mem_of_getElem? (i := 3) rfl) rfl
theorem tw_1204 : TW (Jvm.Cond.fieldLink "ThousandLeafletsModel" (124 : Nat) "ThousandLeafletsModel" "oddsKept" "[I") := sb_6 (List.mem_of_getElem? (i := 4) rfl) rfl
theorem tw_1205 : TW (Jvm.Cond.fieldLink "ThousandLeafletsModel" (127 : Nat) "ThousandLeafletsModel" "burn" "[I") := sb_6 (List.mem_of_getElem? (i := 5) rfl) rfl
theorem tw_1206 : TW (Jvm.Cond.fieldLink "ThousandLeafletsModel" (130 : Nat) "ThousandLeafletsModel" "houses" "[I") := sb_6 (List.mem_of_getElem? (i := 6) rfl) rfl
theorem tw_1207 : TW (Jvm.Cond.fieldLink "ThousandLeafletsModel" (133 : Nat) "ThousandLeafletsModel" "need" "[I") := sb_6 (List.mem_of_getElem? (i := 7) rfl) rfl
theorem tw_1208 : TW (Jvm.Cond.lays "ThousandLeafletsModel" "ThousandLeafletsModel" "thrown" "I") := sb_6 (List.mem_of_getElem? (i := 8) rfl) rfl
theorem tw_1210 : TW (Jvm.Cond.laysFinal "ThousandLeafletsModel" "ThousandLeafletsModel" "tape" "[I") := sb_6 (List.mem_of_getElem? (i := 10) rfl) rfl
theorem tw_1212 : TW (Jvm.Cond.lays "ThousandLeafletsModel" "ThousandLeafletsModel" "taped" "I") := sb_6 (List.mem_of_getElem? (i := 12) rfl) rfl
theorem tw_1214 : TW (Jvm.Cond.lays "ThousandLeafletsModel" "ThousandLeafletsModel" "size" "I") := sb_6 (List.mem_of_getElem? (i := 14) rfl) rfl
theorem tw_1216 : TW (Jvm.Cond.laysFinal "ThousandLeafletsModel" "ThousandLeafletsModel" "sort" "[I") := sb_6 (List.mem_of_getElem? (i := 16) rfl) rfl
theorem tw_1218 : TW (Jvm.Cond.laysFinal "ThousandLeafletsModel" "ThousandLeafletsModel" "place" "[I") := sb_6 (List.mem_of_getElem? (i := 18) rfl) rfl
theorem tw_1220 : TW (Jvm.Cond.laysFinal "ThousandLeafletsModel" "ThousandLeafletsModel" "value" "[J") := sb_6 (List.mem_of_getElem? (i := 20) rfl) rfl
theorem tw_1222 : TW (Jvm.Cond.lays "ThousandLeafletsModel" "ThousandLeafletsModel" "at" "I") := sb_6 (List.mem_of_getElem? (i := 22) rfl) rfl
theorem tw_1224 : TW (Jvm.Cond.lays "ThousandLeafletsModel" "ThousandLeafletsModel" "fault" "I") := sb_6 (List.mem_of_getElem? (i := 24) rfl) rfl
theorem tw_1226 : TW (Jvm.Cond.laysFinal "ThousandLeafletsModel" "ThousandLeafletsModel" "words" "[J") := sb_6 (List.mem_of_getElem? (i := 26) rfl) rfl
theorem tw_1228 : TW (Jvm.Cond.laysFinal "ThousandLeafletsModel" "ThousandLeafletsModel" "pages" "[I") := sb_6 (List.mem_of_getElem? (i := 28) rfl) rfl
theorem tw_1230 : TW (Jvm.Cond.laysFinal "ThousandLeafletsModel" "ThousandLeafletsModel" "page" "[I") := sb_6 (List.mem_of_getElem? (i := 30) rfl) rfl
theorem tw_1232 : TW (Jvm.Cond.laysFinal "ThousandLeafletsModel" "ThousandLeafletsModel" "odds" "[I") := sb_6 (List.mem_of_getElem? (i := 32) rfl) rfl
theorem tw_1234 : TW (Jvm.Cond.laysFinal "ThousandLeafletsModel" "ThousandLeafletsModel" "firstBelow" "[I") := sb_6 (List.mem_of_getElem? (i := 34) rfl) rfl
theorem tw_1236 : TW (Jvm.Cond.laysFinal "ThousandLeafletsModel" "ThousandLeafletsModel" "firstWeight" "[I") := sb_6 (List.mem_of_getElem? (i := 36) rfl) rfl
theorem tw_1238 : TW (Jvm.Cond.laysFinal "ThousandLeafletsModel" "ThousandLeafletsModel" "sums" "[I") := sb_6 (List.mem_of_getElem? (i := 38) rfl) rfl
theorem tw_1240 : TW (Jvm.Cond.laysFinal "ThousandLeafletsModel" "ThousandLeafletsModel" "sumSet" "[I") := sb_6 (List.mem_of_getElem? (i := 40) rfl) rfl
theorem tw_1242 : TW (Jvm.Cond.laysFinal "ThousandLeafletsModel" "ThousandLeafletsModel" "sealBy" "[I") := sb_6 (List.mem_of_getElem? (i := 42) rfl) rfl
theorem tw_1244 : TW (Jvm.Cond.lays "ThousandLeafletsModel" "ThousandLeafletsModel" "readPages" "I") := sb_6 (List.mem_of_getElem? (i := 44) rfl) rfl
theorem tw_1246 : TW (Jvm.Cond.lays "ThousandLeafletsModel" "ThousandLeafletsModel" "seed" "J") := sb_6 (List.mem_of_getElem? (i := 46) rfl) rfl
theorem tw_1248 : TW (Jvm.Cond.laysFinal "ThousandLeafletsModel" "ThousandLeafletsModel" "sizes" "[I") := sb_6 (List.mem_of_getElem? (i := 48) rfl) rfl
theorem tw_1250 : TW (Jvm.Cond.laysFinal "ThousandLeafletsModel" "ThousandLeafletsModel" "numberOf" "[I") := sb_6 (List.mem_of_getElem? (i := 50) rfl) rfl
theorem tw_1252 : TW (Jvm.Cond.laysFinal "ThousandLeafletsModel" "ThousandLeafletsModel" "bookOf" "[I") := sb_6 (List.mem_of_getElem? (i := 52) rfl) rfl
theorem tw_1254 : TW (Jvm.Cond.laysFinal "ThousandLeafletsModel" "ThousandLeafletsModel" "sumOn" "[I") := sb_6 (List.mem_of_getElem? (i := 54) rfl) rfl
theorem tw_1256 : TW (Jvm.Cond.laysFinal "ThousandLeafletsModel" "ThousandLeafletsModel" "bytesOn" "[I") := sb_6 (List.mem_of_getElem? (i := 56) rfl) rfl
theorem tw_1258 : TW (Jvm.Cond.laysFinal "ThousandLeafletsModel" "ThousandLeafletsModel" "sealOn" "[I") := sb_6 (List.mem_of_getElem? (i := 58) rfl) rfl
theorem tw_1260 : TW (Jvm.Cond.laysFinal "ThousandLeafletsModel" "ThousandLeafletsModel" "isMarked" "[Z") := sb_6 (List.mem_of_getElem? (i := 60) rfl) rfl
theorem tw_1262 : TW (Jvm.Cond.lays "ThousandLeafletsModel" "ThousandLeafletsModel" "thrownOut" "I") := sb_6 (List.mem_of_getElem? (i := 62) rfl) rfl
theorem tw_1264 : TW (Jvm.Cond.lays "ThousandLeafletsModel" "ThousandLeafletsModel" "equations" "I") := sb_6 (List.mem_of_getElem? (i := 64) rfl) rfl
theorem tw_1266 : TW (Jvm.Cond.laysFinal "ThousandLeafletsModel" "ThousandLeafletsModel" "sets" "[I") := sb_6 (List.mem_of_getElem? (i := 66) rfl) rfl
theorem tw_1268 : TW (Jvm.Cond.laysFinal "ThousandLeafletsModel" "ThousandLeafletsModel" "bytes" "[I") := sb_6 (List.mem_of_getElem? (i := 68) rfl) rfl
theorem tw_1270 : TW (Jvm.Cond.laysFinal "ThousandLeafletsModel" "ThousandLeafletsModel" "fromPlace" "[I") := sb_6 (List.mem_of_getElem? (i := 70) rfl) rfl
theorem tw_1272 : TW (Jvm.Cond.laysFinal "ThousandLeafletsModel" "ThousandLeafletsModel" "isLeft" "[Z") := sb_6 (List.mem_of_getElem? (i := 72) rfl) rfl
theorem tw_1274 : TW (Jvm.Cond.lays "ThousandLeafletsModel" "ThousandLeafletsModel" "peeled" "I") := sb_6 (List.mem_of_getElem? (i := 74) rfl) rfl
theorem tw_1276 : TW (Jvm.Cond.laysFinal "ThousandLeafletsModel" "ThousandLeafletsModel" "byteBy" "[I") := sb_6 (List.mem_of_getElem? (i := 76) rfl) rfl
theorem tw_1278 : TW (Jvm.Cond.lays "ThousandLeafletsModel" "ThousandLeafletsModel" "rank" "I") := sb_6 (List.mem_of_getElem? (i := 78) rfl) rfl
theorem tw_1280 : TW (Jvm.Cond.lays "ThousandLeafletsModel" "ThousandLeafletsModel" "doAgree" "Z") := sb_6 (List.mem_of_getElem? (i := 80) rfl) rfl
theorem tw_1282 : TW (Jvm.Cond.laysFinal "ThousandLeafletsModel" "ThousandLeafletsModel" "leadSet" "[I") := sb_6 (List.mem_of_getElem? (i := 82) rfl) rfl
theorem tw_1284 : TW (Jvm.Cond.laysFinal "ThousandLeafletsModel" "ThousandLeafletsModel" "leadByte" "[I") := sb_6 (List.mem_of_getElem? (i := 84) rfl) rfl
theorem tw_1286 : TW (Jvm.Cond.lays "ThousandLeafletsModel" "ThousandLeafletsModel" "slippedMany" "I") := sb_6 (List.mem_of_getElem? (i := 86) rfl) rfl
theorem tw_1288 : TW (Jvm.Cond.laysFinal "ThousandLeafletsModel" "ThousandLeafletsModel" "slippedAt" "[I") := sb_6 (List.mem_of_getElem? (i := 88) rfl) rfl
theorem tw_1290 : TW (Jvm.Cond.laysFinal "ThousandLeafletsModel" "ThousandLeafletsModel" "withoutSets" "[I") := sb_6 (List.mem_of_getElem? (i := 90) rfl) rfl
theorem tw_1292 : TW (Jvm.Cond.laysFinal "ThousandLeafletsModel" "ThousandLeafletsModel" "withoutBytes" "[I") := sb_6 (List.mem_of_getElem? (i := 92) rfl) rfl
theorem tw_1294 : TW (Jvm.Cond.laysFinal "ThousandLeafletsModel" "ThousandLeafletsModel" "sixty" "[I") := sb_6 (List.mem_of_getElem? (i := 94) rfl) rfl
theorem tw_1296 : TW (Jvm.Cond.laysFinal "ThousandLeafletsModel" "ThousandLeafletsModel" "oddsKept" "[I") := sb_6 (List.mem_of_getElem? (i := 96) rfl) rfl
theorem tw_1298 : TW (Jvm.Cond.laysFinal "ThousandLeafletsModel" "ThousandLeafletsModel" "burn" "[I") := sb_6 (List.mem_of_getElem? (i := 98) rfl) rfl
theorem tw_1300 : TW (Jvm.Cond.laysFinal "ThousandLeafletsModel" "ThousandLeafletsModel" "houses" "[I") := sb_6 (List.mem_of_getElem? (i := 100) rfl) rfl
theorem tw_1302 : TW (Jvm.Cond.laysFinal "ThousandLeafletsModel" "ThousandLeafletsModel" "need" "[I") := sb_6 (List.mem_of_getElem? (i := 102) rfl) rfl
theorem tw_1305 : TW (Jvm.Cond.methodLink "ThousandLeafletsLaw" (23 : Nat) ({ cls := "ThousandLeafletsModel", name := "book", desc := "(II)Z" } : Jvm.MethodName)) := sb_6 (List.mem_of_getElem? (i := 105) rfl) rfl
theorem tw_1306 : TW (Jvm.Cond.instanceMethod ({ cls := "ThousandLeafletsModel", name := "book", desc := "(II)Z" } : Jvm.MethodName)) := sb_6 (List.mem_of_getElem? (i := 106) rfl) rfl
theorem tw_1307 : TW (Jvm.Cond.selects "ThousandLeafletsModel" ({ cls := "ThousandLeafletsModel", name := "book", desc := "(II)Z" } : Jvm.MethodName) ({ cls := "ThousandLeafletsModel", name := "book", desc := "(II)Z" } : Jvm.MethodName)) := sb_6 (List.mem_of_getElem? (i := 107) rfl) rfl
theorem tw_1308 : TW (Jvm.Cond.code ({ cls := "ThousandLeafletsModel", name := "book", desc := "(II)Z" } : Jvm.MethodName) prog_14_method_20_code (5 : Nat) (Option.some Jvm.ClassFile.FieldType.boolean)) := sb_6 (List.mem_of_getElem? (i := 108) rfl) rfl
theorem tw_1309 : TW (Jvm.Cond.methodLink "ThousandLeafletsModel" (178 : Nat) ({ cls := "ThousandLeafletsModel", name := "within", desc := "(III)Z" } : Jvm.MethodName)) := sb_6 (List.mem_of_getElem? (i := 109) rfl) rfl
theorem tw_1310 : TW (Jvm.Cond.static ({ cls := "ThousandLeafletsModel", name := "within", desc := "(III)Z" } : Jvm.MethodName)) := sb_6 (List.mem_of_getElem? (i := 110) rfl) rfl
theorem tw_1311 : TW (Jvm.Cond.code ({ cls := "ThousandLeafletsModel", name := "within", desc := "(III)Z" } : Jvm.MethodName) prog_14_method_17_code (3 : Nat) (Option.some Jvm.ClassFile.FieldType.boolean)) := sb_6 (List.mem_of_getElem? (i := 111) rfl) rfl
theorem tw_1312 : TW (Jvm.Cond.methodLink "ThousandLeafletsModel" (182 : Nat) ({ cls := "ThousandLeafletsModel", name := "forgetsDraw", desc := "(I)V" } : Jvm.MethodName)) := sb_6 (List.mem_of_getElem? (i := 112) rfl) rfl
theorem tw_1314 : TW (Jvm.Cond.instanceMethod ({ cls := "ThousandLeafletsModel", name := "forgetsDraw", desc := "(I)V" } : Jvm.MethodName)) := sb_6 (List.mem_of_getElem? (i := 114) rfl) rfl
theorem tw_1315 : TW (Jvm.Cond.code ({ cls := "ThousandLeafletsModel", name := "forgetsDraw", desc := "(I)V" } : Jvm.MethodName) prog_14_method_19_code (3 : Nat) (Option.none : Option Jvm.ClassFile.FieldType)) := sb_6 (List.mem_of_getElem? (i := 115) rfl) rfl
theorem tw_1316 : TW (Jvm.Cond.methodLink "ThousandLeafletsModel" (185 : Nat) ({ cls := "ThousandLeafletsModel", name := "takesOut", desc := "(II)V" } : Jvm.MethodName)) := sb_6 (List.mem_of_getElem? (i := 116) rfl) rfl
theorem tw_1318 : TW (Jvm.Cond.instanceMethod ({ cls := "ThousandLeafletsModel", name := "takesOut", desc := "(II)V" } : Jvm.MethodName)) := sb_6 (List.mem_of_getElem? (i := 118) rfl) rfl
theorem tw_1319 : TW (Jvm.Cond.code ({ cls := "ThousandLeafletsModel", name := "takesOut", desc := "(II)V" } : Jvm.MethodName) prog_14_method_43_code (4 : Nat) (Option.none : Option Jvm.ClassFile.FieldType)) := sb_6 (List.mem_of_getElem? (i := 119) rfl) rfl
theorem tw_1320 : TW (Jvm.Cond.methodLink "ThousandLeafletsModel" (274 : Nat) ({ cls := "ThousandLeafletsModel", name := "moves", desc := "(II)V" } : Jvm.MethodName)) := sb_6 (List.mem_of_getElem? (i := 120) rfl) rfl
theorem tw_1322 : TW (Jvm.Cond.instanceMethod ({ cls := "ThousandLeafletsModel", name := "moves", desc := "(II)V" } : Jvm.MethodName)) := sb_6 (List.mem_of_getElem? (i := 122) rfl) rfl
theorem tw_1323 : TW (Jvm.Cond.code ({ cls := "ThousandLeafletsModel", name := "moves", desc := "(II)V" } : Jvm.MethodName) prog_14_method_42_code (3 : Nat) (Option.none : Option Jvm.ClassFile.FieldType)) := sb_6 (List.mem_of_getElem? (i := 123) rfl) rfl
theorem tw_1324 : TW (Jvm.Cond.methodLink "ThousandLeafletsModel" (189 : Nat) ({ cls := "ThousandLeafletsModel", name := "forgetsMarks", desc := "()V" } : Jvm.MethodName)) := sb_6 (List.mem_of_getElem? (i := 124) rfl) rfl
theorem tw_1326 : TW (Jvm.Cond.instanceMethod ({ cls := "ThousandLeafletsModel", name := "forgetsMarks", desc := "()V" } : Jvm.MethodName)) := sb_6 (List.mem_of_getElem? (i := 126) rfl) rfl
theorem tw_1327 : TW (Jvm.Cond.code ({ cls := "ThousandLeafletsModel", name := "forgetsMarks", desc := "()V" } : Jvm.MethodName) prog_14_method_55_code (2 : Nat) (Option.none : Option Jvm.ClassFile.FieldType)) := sb_6 (List.mem_of_getElem? (i := 127) rfl) rfl
theorem tw_1328 : TW (Jvm.Cond.methodLink "ThousandLeafletsLaw" (28 : Nat) ({ cls := "ThousandLeafletsModel", name := "page", desc := "(III)Z" } : Jvm.MethodName)) := sb_6 (List.mem_of_getElem? (i := 128) rfl) rfl
theorem tw_1329 : TW (Jvm.Cond.instanceMethod ({ cls := "ThousandLeafletsModel", name := "page", desc := "(III)Z" } : Jvm.MethodName)) := sb_6 (List.mem_of_getElem? (i := 129) rfl) rfl
theorem tw_1330 : TW (Jvm.Cond.selects "ThousandLeafletsModel" ({ cls := "ThousandLeafletsModel", name := "page", desc := "(III)Z" } : Jvm.MethodName) ({ cls := "ThousandLeafletsModel", name := "page", desc := "(III)Z" } : Jvm.MethodName)) := sb_6 (List.mem_of_getElem? (i := 130) rfl) rfl
theorem tw_1331 : TW (Jvm.Cond.code ({ cls := "ThousandLeafletsModel", name := "page", desc := "(III)Z" } : Jvm.MethodName) prog_14_method_22_code (4 : Nat) (Option.some Jvm.ClassFile.FieldType.boolean)) := sb_6 (List.mem_of_getElem? (i := 131) rfl) rfl
theorem tw_1332 : TW (Jvm.Cond.methodLink "ThousandLeafletsModel" (192 : Nat) ({ cls := "ThousandLeafletsModel", name := "isBook", desc := "(I)Z" } : Jvm.MethodName)) := sb_6 (List.mem_of_getElem? (i := 132) rfl) rfl
theorem tw_1334 : TW (Jvm.Cond.instanceMethod ({ cls := "ThousandLeafletsModel", name := "isBook", desc := "(I)Z" } : Jvm.MethodName)) := sb_6 (List.mem_of_getElem? (i := 134) rfl) rfl
theorem tw_1335 : TW (Jvm.Cond.code ({ cls := "ThousandLeafletsModel", name := "isBook", desc := "(I)Z" } : Jvm.MethodName) prog_14_method_18_code (2 : Nat) (Option.some Jvm.ClassFile.FieldType.boolean)) := sb_6 (List.mem_of_getElem? (i := 135) rfl) rfl
theorem tw_1336 : TW (Jvm.Cond.constant "ThousandLeafletsModel" (195 : Nat) (65535 : Int32)) := sb_6 (List.mem_of_getElem? (i := 136) rfl) rfl
theorem tw_1337 : TW (Jvm.Cond.methodLink "ThousandLeafletsModel" (196 : Nat) ({ cls := "ThousandLeafletsModel", name := "isOut", desc := "(I)Z" } : Jvm.MethodName)) := sb_6 (List.mem_of_getElem? (i := 137) rfl) rfl
theorem tw_1339 : TW (Jvm.Cond.instanceMethod ({ cls := "ThousandLeafletsModel", name := "isOut", desc := "(I)Z" } : Jvm.MethodName)) := sb_6 (List.mem_of_getElem? (i := 139) rfl) rfl
theorem tw_1340 : TW (Jvm.Cond.code ({ cls := "ThousandLeafletsModel", name := "isOut", desc := "(I)Z" } : Jvm.MethodName) prog_14_method_21_code (5 : Nat) (Option.some Jvm.ClassFile.FieldType.boolean)) := sb_6 (List.mem_of_getElem? (i := 140) rfl) rfl
theorem tw_1341 : TW (Jvm.Cond.methodLink "ThousandLeafletsLaw" (40 : Nat) ({ cls := "ThousandLeafletsModel", name := "draw", desc := "(I)I" } : Jvm.MethodName)) := sb_6 (List.mem_of_getElem? (i := 141) rfl) rfl
theorem tw_1342 : TW (Jvm.Cond.instanceMethod ({ cls := "ThousandLeafletsModel", name := "draw", desc := "(I)I" } : Jvm.MethodName)) := sb_6 (List.mem_of_getElem? (i := 142) rfl) rfl
theorem tw_1343 : TW (Jvm.Cond.selects "ThousandLeafletsModel" ({ cls := "ThousandLeafletsModel", name := "draw", desc := "(I)I" } : Jvm.MethodName) ({ cls := "ThousandLeafletsModel", name := "draw", desc := "(I)I" } : Jvm.MethodName)) := sb_6 (List.mem_of_getElem? (i := 143) rfl) rfl
theorem tw_1344 : TW (Jvm.Cond.code ({ cls := "ThousandLeafletsModel", name := "draw", desc := "(I)I" } : Jvm.MethodName) prog_14_method_24_code (3 : Nat) (Option.some Jvm.ClassFile.FieldType.int)) := sb_6 (List.mem_of_getElem? (i := 144) rfl) rfl
theorem tw_1345 : TW (Jvm.Cond.methodLink "ThousandLeafletsModel" (199 : Nat) ({ cls := "ThousandLeafletsModel", name := "cutAll", desc := "()V" } : Jvm.MethodName)) := sb_6 (List.mem_of_getElem? (i := 145) rfl) rfl
theorem tw_1347 : TW (Jvm.Cond.instanceMethod ({ cls := "ThousandLeafletsModel", name := "cutAll", desc := "()V" } : Jvm.MethodName)) := sb_6 (List.mem_of_getElem? (i := 147) rfl) rfl
theorem tw_1348 : TW (Jvm.Cond.code ({ cls := "ThousandLeafletsModel", name := "cutAll", desc := "()V" } : Jvm.MethodName) prog_14_method_9_code (7 : Nat) (Option.none : Option Jvm.ClassFile.FieldType)) := sb_6 (List.mem_of_getElem? (i := 148) rfl) rfl
theorem tw_1349 : TW (Jvm.Cond.methodLink "ThousandLeafletsModel" (136 : Nat) ({ cls := "ThousandLeafletsModel", name := "isLetter", desc := "(I)Z" } : Jvm.MethodName)) := sb_6 (List.mem_of_getElem? (i := 149) rfl) rfl
theorem tw_1350 : TW (Jvm.Cond.static ({ cls := "ThousandLeafletsModel", name := "isLetter", desc := "(I)Z" } : Jvm.MethodName)) := sb_6 (List.mem_of_getElem? (i := 150) rfl) rfl
theorem tw_1351 : TW (Jvm.Cond.code ({ cls := "ThousandLeafletsModel", name := "isLetter", desc := "(I)Z" } : Jvm.MethodName) prog_14_method_5_code (1 : Nat) (Option.some Jvm.ClassFile.FieldType.boolean)) := sb_6 (List.mem_of_getElem? (i := 151) rfl) rfl
theorem tw_1352 : TW (Jvm.Cond.constantLong "ThousandLeafletsModel" (143 : Nat) (37 : Int64)) := sb_6 (List.mem_of_getElem? (i := 152) rfl) rfl
theorem tw_1353 : TW (Jvm.Cond.methodLink "ThousandLeafletsModel" (145 : Nat) ({ cls := "ThousandLeafletsModel", name := "rank", desc := "(I)I" } : Jvm.MethodName)) := sb_6 (List.mem_of_getElem? (i := 153) rfl) rfl
theorem tw_1354 : TW (Jvm.Cond.static ({ cls := "ThousandLeafletsModel", name := "rank", desc := "(I)I" } : Jvm.MethodName)) := sb_6 (List.mem_of_getElem? (i := 154) rfl) rfl
theorem tw_1355 : TW (Jvm.Cond.code ({ cls := "ThousandLeafletsModel", name := "rank", desc := "(I)I" } : Jvm.MethodName) prog_14_method_7_code (1 : Nat) (Option.some Jvm.ClassFile.FieldType.int)) := sb_6 (List.mem_of_getElem? (i := 155) rfl) rfl
theorem tw_1356 : TW (Jvm.Cond.methodLink "ThousandLeafletsModel" (149 : Nat) ({ cls := "ThousandLeafletsModel", name := "isDigit", desc := "(I)Z" } : Jvm.MethodName)) := sb_6 (List.mem_of_getElem? (i := 156) rfl) rfl
theorem tw_1357 : TW (Jvm.Cond.static ({ cls := "ThousandLeafletsModel", name := "isDigit", desc := "(I)Z" } : Jvm.MethodName)) := sb_6 (List.mem_of_getElem? (i := 157) rfl) rfl
theorem tw_1358 : TW (Jvm.Cond.code ({ cls := "ThousandLeafletsModel", name := "isDigit", desc := "(I)Z" } : Jvm.MethodName) prog_14_method_6_code (1 : Nat) (Option.some Jvm.ClassFile.FieldType.boolean)) := sb_6 (List.mem_of_getElem? (i := 158) rfl) rfl
theorem tw_1359 : TW (Jvm.Cond.constantLong "ThousandLeafletsModel" (152 : Nat) (10 : Int64)) := sb_6 (List.mem_of_getElem? (i := 159) rfl) rfl
theorem tw_1360 : TW (Jvm.Cond.constantLong "ThousandLeafletsModel" (154 : Nat) (48 : Int64)) := sb_6 (List.mem_of_getElem? (i := 160) rfl) rfl
theorem tw_1361 : TW (Jvm.Cond.methodLink "ThousandLeafletsModel" (156 : Nat) ({ cls := "ThousandLeafletsModel", name := "isSignOf", desc := "(I)Z" } : Jvm.MethodName)) := sb_6 (List.mem_of_getElem? (i := 161) rfl) rfl
theorem tw_1362 : TW (Jvm.Cond.static ({ cls := "ThousandLeafletsModel", name := "isSignOf", desc := "(I)Z" } : Jvm.MethodName)) := sb_6 (List.mem_of_getElem? (i := 162) rfl) rfl
theorem tw_1363 : TW (Jvm.Cond.code ({ cls := "ThousandLeafletsModel", name := "isSignOf", desc := "(I)Z" } : Jvm.MethodName) prog_14_method_8_code (1 : Nat) (Option.some Jvm.ClassFile.FieldType.boolean)) := sb_6 (List.mem_of_getElem? (i := 163) rfl) rfl
theorem tw_1364 : TW (Jvm.Cond.methodLink "ThousandLeafletsModel" (205 : Nat) ({ cls := "ThousandLeafletsModel", name := "readLine", desc := "()V" } : Jvm.MethodName)) := sb_6 (List.mem_of_getElem? (i := 164) rfl) rfl
theorem tw_1366 : TW (Jvm.Cond.instanceMethod ({ cls := "ThousandLeafletsModel", name := "readLine", desc := "()V" } : Jvm.MethodName)) := sb_6 (List.mem_of_getElem? (i := 166) rfl) rfl
theorem tw_1367 : TW (Jvm.Cond.code ({ cls := "ThousandLeafletsModel", name := "readLine", desc := "()V" } : Jvm.MethodName) prog_14_method_25_code (2 : Nat) (Option.none : Option Jvm.ClassFile.FieldType)) := sb_6 (List.mem_of_getElem? (i := 167) rfl) rfl
theorem tw_1368 : TW (Jvm.Cond.methodLink "ThousandLeafletsModel" (172 : Nat) ({ cls := "ThousandLeafletsModel", name := "isWord", desc := "(I)Z" } : Jvm.MethodName)) := sb_6 (List.mem_of_getElem? (i := 168) rfl) rfl
theorem tw_1370 : TW (Jvm.Cond.instanceMethod ({ cls := "ThousandLeafletsModel", name := "isWord", desc := "(I)Z" } : Jvm.MethodName)) := sb_6 (List.mem_of_getElem? (i := 170) rfl) rfl
theorem tw_1371 : TW (Jvm.Cond.code ({ cls := "ThousandLeafletsModel", name := "isWord", desc := "(I)Z" } : Jvm.MethodName) prog_14_method_12_code (2 : Nat) (Option.some Jvm.ClassFile.FieldType.boolean)) := sb_6 (List.mem_of_getElem? (i := 171) rfl) rfl
theorem tw_1372 : TW (Jvm.Cond.methodLink "ThousandLeafletsModel" (168 : Nat) ({ cls := "ThousandLeafletsModel", name := "wrong", desc := "(I)V" } : Jvm.MethodName)) := sb_6 (List.mem_of_getElem? (i := 172) rfl) rfl
theorem tw_1374 : TW (Jvm.Cond.instanceMethod ({ cls := "ThousandLeafletsModel", name := "wrong", desc := "(I)V" } : Jvm.MethodName)) := sb_6 (List.mem_of_getElem? (i := 174) rfl) rfl
theorem tw_1375 : TW (Jvm.Cond.code ({ cls := "ThousandLeafletsModel", name := "wrong", desc := "(I)V" } : Jvm.MethodName) prog_14_method_10_code (2 : Nat) (Option.none : Option Jvm.ClassFile.FieldType)) := sb_6 (List.mem_of_getElem? (i := 175) rfl) rfl
theorem tw_1376 : TW (Jvm.Cond.methodLink "ThousandLeafletsModel" (175 : Nat) ({ cls := "ThousandLeafletsModel", name := "hasWord", desc := "(I)Z" } : Jvm.MethodName)) := sb_6 (List.mem_of_getElem? (i := 176) rfl) rfl
theorem tw_1378 : TW (Jvm.Cond.instanceMethod ({ cls := "ThousandLeafletsModel", name := "hasWord", desc := "(I)Z" } : Jvm.MethodName)) := sb_6 (List.mem_of_getElem? (i := 178) rfl) rfl
theorem tw_1379 : TW (Jvm.Cond.code ({ cls := "ThousandLeafletsModel", name := "hasWord", desc := "(I)Z" } : Jvm.MethodName) prog_14_method_15_code (3 : Nat) (Option.some Jvm.ClassFile.FieldType.boolean)) := sb_6 (List.mem_of_getElem? (i := 179) rfl) rfl
theorem tw_1380 : TW (Jvm.Cond.methodLink "ThousandLeafletsModel" (208 : Nat) ({ cls := "ThousandLeafletsModel", name := "readOdds", desc := "()V" } : Jvm.MethodName)) := sb_6 (List.mem_of_getElem? (i := 180) rfl) rfl
theorem tw_1382 : TW (Jvm.Cond.instanceMethod ({ cls := "ThousandLeafletsModel", name := "readOdds", desc := "()V" } : Jvm.MethodName)) := sb_6 (List.mem_of_getElem? (i := 182) rfl) rfl
theorem tw_1383 : TW (Jvm.Cond.code ({ cls := "ThousandLeafletsModel", name := "readOdds", desc := "()V" } : Jvm.MethodName) prog_14_method_26_code (3 : Nat) (Option.none : Option Jvm.ClassFile.FieldType)) := sb_6 (List.mem_of_getElem? (i := 183) rfl) rfl
theorem tw_1384 : TW (Jvm.Cond.constantLong "ThousandLeafletsModel" (221 : Nat) (20 : Int64)) := sb_6 (List.mem_of_getElem? (i := 184) rfl) rfl
theorem tw_1385 : TW (Jvm.Cond.methodLink "ThousandLeafletsModel" (211 : Nat) ({ cls := "ThousandLeafletsModel", name := "takeNumber", desc := "(II)I" } : Jvm.MethodName)) := sb_6 (List.mem_of_getElem? (i := 185) rfl) rfl
theorem tw_1387 : TW (Jvm.Cond.instanceMethod ({ cls := "ThousandLeafletsModel", name := "takeNumber", desc := "(II)I" } : Jvm.MethodName)) := sb_6 (List.mem_of_getElem? (i := 187) rfl) rfl
theorem tw_1388 : TW (Jvm.Cond.code ({ cls := "ThousandLeafletsModel", name := "takeNumber", desc := "(II)I" } : Jvm.MethodName) prog_14_method_23_code (3 : Nat) (Option.some Jvm.ClassFile.FieldType.int)) := sb_6 (List.mem_of_getElem? (i := 188) rfl) rfl
theorem tw_1389 : TW (Jvm.Cond.methodLink "ThousandLeafletsModel" (215 : Nat) ({ cls := "ThousandLeafletsModel", name := "readSum", desc := "()V" } : Jvm.MethodName)) := sb_6 (List.mem_of_getElem? (i := 189) rfl) rfl
theorem tw_1391 : TW (Jvm.Cond.instanceMethod ({ cls := "ThousandLeafletsModel", name := "readSum", desc := "()V" } : Jvm.MethodName)) := sb_6 (List.mem_of_getElem? (i := 191) rfl) rfl
theorem tw_1392 : TW (Jvm.Cond.code ({ cls := "ThousandLeafletsModel", name := "readSum", desc := "()V" } : Jvm.MethodName) prog_14_method_27_code (3 : Nat) (Option.none : Option Jvm.ClassFile.FieldType)) := sb_6 (List.mem_of_getElem? (i := 192) rfl) rfl
theorem tw_1393 : TW (Jvm.Cond.methodLink "ThousandLeafletsModel" (218 : Nat) ({ cls := "ThousandLeafletsModel", name := "takeSign", desc := "(I)V" } : Jvm.MethodName)) := sb_6 (List.mem_of_getElem? (i := 193) rfl) rfl
theorem tw_1395 : TW (Jvm.Cond.instanceMethod ({ cls := "ThousandLeafletsModel", name := "takeSign", desc := "(I)V" } : Jvm.MethodName)) := sb_6 (List.mem_of_getElem? (i := 195) rfl) rfl
theorem tw_1396 : TW (Jvm.Cond.code ({ cls := "ThousandLeafletsModel", name := "takeSign", desc := "(I)V" } : Jvm.MethodName) prog_14_method_13_code (2 : Nat) (Option.none : Option Jvm.ClassFile.FieldType)) := sb_6 (List.mem_of_getElem? (i := 196) rfl) rfl
theorem tw_1397 : TW (Jvm.Cond.methodLink "ThousandLeafletsModel" (165 : Nat) ({ cls := "ThousandLeafletsModel", name := "isSign", desc := "(I)Z" } : Jvm.MethodName)) := sb_6 (List.mem_of_getElem? (i := 197) rfl) rfl
theorem tw_1399 : TW (Jvm.Cond.instanceMethod ({ cls := "ThousandLeafletsModel", name := "isSign", desc := "(I)Z" } : Jvm.MethodName)) := sb_6 (List.mem_of_getElem? (i := 199) rfl) rfl
theorem tw_1400 : TW (Jvm.Cond.code ({ cls := "ThousandLeafletsModel", name := "isSign", desc := "(I)Z" } : Jvm.MethodName) prog_14_method_11_code (2 : Nat) (Option.some Jvm.ClassFile.FieldType.boolean)) := sb_6 (List.mem_of_getElem? (i := 200) rfl) rfl
theorem tw_1401 : TW (Jvm.Cond.methodLink "ThousandLeafletsLaw" (44 : Nat) ({ cls := "ThousandLeafletsModel", name := "leaflet", desc := "(III)I" } : Jvm.MethodName)) := sb_6 (List.mem_of_getElem? (i := 201) rfl) rfl
theorem tw_1402 : TW (Jvm.Cond.instanceMethod ({ cls := "ThousandLeafletsModel", name := "leaflet", desc := "(III)I" } : Jvm.MethodName)) := sb_6 (List.mem_of_getElem? (i := 202) rfl) rfl
theorem tw_1403 : TW (Jvm.Cond.selects "ThousandLeafletsModel" ({ cls := "ThousandLeafletsModel", name := "leaflet", desc := "(III)I" } : Jvm.MethodName) ({ cls := "ThousandLeafletsModel", name := "leaflet", desc := "(III)I" } : Jvm.MethodName)) := sb_6 (List.mem_of_getElem? (i := 203) rfl) rfl
theorem tw_1404 : TW (Jvm.Cond.code ({ cls := "ThousandLeafletsModel", name := "leaflet", desc := "(III)I" } : Jvm.MethodName) prog_14_method_39_code (5 : Nat) (Option.some Jvm.ClassFile.FieldType.int)) := sb_6 (List.mem_of_getElem? (i := 204) rfl) rfl
theorem tw_1405 : TW (Jvm.Cond.methodLink "ThousandLeafletsModel" (258 : Nat) ({ cls := "ThousandLeafletsModel", name := "isNumber", desc := "(I)Z" } : Jvm.MethodName)) := sb_6 (List.mem_of_getElem? (i := 205) rfl) rfl
theorem tw_1406 : TW (Jvm.Cond.static ({ cls := "ThousandLeafletsModel", name := "isNumber", desc := "(I)Z" } : Jvm.MethodName)) := sb_6 (List.mem_of_getElem? (i := 206) rfl) rfl
theorem tw_1407 : TW (Jvm.Cond.code ({ cls := "ThousandLeafletsModel", name := "isNumber", desc := "(I)Z" } : Jvm.MethodName) prog_14_method_37_code (1 : Nat) (Option.some Jvm.ClassFile.FieldType.boolean)) := sb_6 (List.mem_of_getElem? (i := 207) rfl) rfl
theorem tw_1408 : TW (Jvm.Cond.methodLink "ThousandLeafletsModel" (261 : Nat) ({ cls := "ThousandLeafletsModel", name := "setOf", desc := "(II)I" } : Jvm.MethodName)) := sb_6 (List.mem_of_getElem? (i := 208) rfl) rfl
theorem tw_1410 : TW (Jvm.Cond.instanceMethod ({ cls := "ThousandLeafletsModel", name := "setOf", desc := "(II)I" } : Jvm.MethodName)) := sb_6 (List.mem_of_getElem? (i := 210) rfl) rfl
theorem tw_1411 : TW (Jvm.Cond.code ({ cls := "ThousandLeafletsModel", name := "setOf", desc := "(II)I" } : Jvm.MethodName) prog_14_method_35_code (10 : Nat) (Option.some Jvm.ClassFile.FieldType.int)) := sb_6 (List.mem_of_getElem? (i := 211) rfl) rfl
theorem tw_1412 : TW (Jvm.Cond.constantLong "ThousandLeafletsModel" (248 : Nat) (7919 : Int64)) := sb_6 (List.mem_of_getElem? (i := 212) rfl) rfl
theorem tw_1413 : TW (Jvm.Cond.constantLong "ThousandLeafletsModel" (250 : Nat) (104729 : Int64)) := sb_6 (List.mem_of_getElem? (i := 213) rfl) rfl
theorem tw_1414 : TW (Jvm.Cond.constantLong "ThousandLeafletsModel" (234 : Nat) (2147483648 : Int64)) := sb_6 (List.mem_of_getElem? (i := 214) rfl) rfl
theorem tw_1415 : TW (Jvm.Cond.methodLink "ThousandLeafletsModel" (252 : Nat) ({ cls := "ThousandLeafletsModel", name := "howMany", desc := "(I)I" } : Jvm.MethodName)) := sb_6 (List.mem_of_getElem? (i := 215) rfl) rfl
theorem tw_1417 : TW (Jvm.Cond.instanceMethod ({ cls := "ThousandLeafletsModel", name := "howMany", desc := "(I)I" } : Jvm.MethodName)) := sb_6 (List.mem_of_getElem? (i := 217) rfl) rfl
theorem tw_1418 : TW (Jvm.Cond.code ({ cls := "ThousandLeafletsModel", name := "howMany", desc := "(I)I" } : Jvm.MethodName) prog_14_method_33_code (6 : Nat) (Option.some Jvm.ClassFile.FieldType.int)) := sb_6 (List.mem_of_getElem? (i := 218) rfl) rfl
theorem tw_1419 : TW (Jvm.Cond.methodLink "ThousandLeafletsModel" (238 : Nat) ({ cls := "ThousandLeafletsModel", name := "allOf", desc := "(I)I" } : Jvm.MethodName)) := sb_6 (List.mem_of_getElem? (i := 219) rfl) rfl
theorem tw_1421 : TW (Jvm.Cond.instanceMethod ({ cls := "ThousandLeafletsModel", name := "allOf", desc := "(I)I" } : Jvm.MethodName)) := sb_6 (List.mem_of_getElem? (i := 221) rfl) rfl
theorem tw_1422 : TW (Jvm.Cond.code ({ cls := "ThousandLeafletsModel", name := "allOf", desc := "(I)I" } : Jvm.MethodName) prog_14_method_28_code (2 : Nat) (Option.some Jvm.ClassFile.FieldType.int)) := sb_6 (List.mem_of_getElem? (i := 222) rfl) rfl
theorem tw_1423 : TW (Jvm.Cond.methodLink "ThousandLeafletsModel" (241 : Nat) ({ cls := "ThousandLeafletsModel", name := "oddsOf", desc := "(II)I" } : Jvm.MethodName)) := sb_6 (List.mem_of_getElem? (i := 223) rfl) rfl
theorem tw_1425 : TW (Jvm.Cond.instanceMethod ({ cls := "ThousandLeafletsModel", name := "oddsOf", desc := "(II)I" } : Jvm.MethodName)) := sb_6 (List.mem_of_getElem? (i := 225) rfl) rfl
theorem tw_1426 : TW (Jvm.Cond.code ({ cls := "ThousandLeafletsModel", name := "oddsOf", desc := "(II)I" } : Jvm.MethodName) prog_14_method_32_code (3 : Nat) (Option.some Jvm.ClassFile.FieldType.int)) := sb_6 (List.mem_of_getElem? (i := 226) rfl) rfl
theorem tw_1427 : TW (Jvm.Cond.methodLink "ThousandLeafletsModel" (244 : Nat) ({ cls := "ThousandLeafletsModel", name := "drawn", desc := "()I" } : Jvm.MethodName)) := sb_6 (List.mem_of_getElem? (i := 227) rfl) rfl
theorem tw_1429 : TW (Jvm.Cond.instanceMethod ({ cls := "ThousandLeafletsModel", name := "drawn", desc := "()I" } : Jvm.MethodName)) := sb_6 (List.mem_of_getElem? (i := 229) rfl) rfl
theorem tw_1430 : TW (Jvm.Cond.code ({ cls := "ThousandLeafletsModel", name := "drawn", desc := "()I" } : Jvm.MethodName) prog_14_method_31_code (1 : Nat) (Option.some Jvm.ClassFile.FieldType.int)) := sb_6 (List.mem_of_getElem? (i := 230) rfl) rfl
theorem tw_1431 : TW (Jvm.Cond.constantLong "ThousandLeafletsModel" (230 : Nat) (1103515245 : Int64)) := sb_6 (List.mem_of_getElem? (i := 231) rfl) rfl
theorem tw_1432 : TW (Jvm.Cond.constantLong "ThousandLeafletsModel" (232 : Nat) (12345 : Int64)) := sb_6 (List.mem_of_getElem? (i := 232) rfl) rfl
theorem tw_1433 : TW (Jvm.Cond.constantLong "ThousandLeafletsModel" (236 : Nat) (65536 : Int64)) := sb_6 (List.mem_of_getElem? (i := 233) rfl) rfl
theorem tw_1434 : TW (Jvm.Cond.methodLink "ThousandLeafletsModel" (255 : Nat) ({ cls := "ThousandLeafletsModel", name := "weightOf", desc := "(II)I" } : Jvm.MethodName)) := sb_6 (List.mem_of_getElem? (i := 234) rfl) rfl
theorem tw_1436 : TW (Jvm.Cond.instanceMethod ({ cls := "ThousandLeafletsModel", name := "weightOf", desc := "(II)I" } : Jvm.MethodName)) := sb_6 (List.mem_of_getElem? (i := 236) rfl) rfl
theorem tw_1437 : TW (Jvm.Cond.code ({ cls := "ThousandLeafletsModel", name := "weightOf", desc := "(II)I" } : Jvm.MethodName) prog_14_method_34_code (3 : Nat) (Option.some Jvm.ClassFile.FieldType.int)) := sb_6 (List.mem_of_getElem? (i := 237) rfl) rfl
theorem tw_1438 : TW (Jvm.Cond.methodLink "ThousandLeafletsModel" (264 : Nat) ({ cls := "ThousandLeafletsModel", name := "bits", desc := "(I)I" } : Jvm.MethodName)) := sb_6 (List.mem_of_getElem? (i := 238) rfl) rfl
theorem tw_1439 : TW (Jvm.Cond.static ({ cls := "ThousandLeafletsModel", name := "bits", desc := "(I)I" } : Jvm.MethodName)) := sb_6 (List.mem_of_getElem? (i := 239) rfl) rfl
theorem tw_1440 : TW (Jvm.Cond.code ({ cls := "ThousandLeafletsModel", name := "bits", desc := "(I)I" } : Jvm.MethodName) prog_14_method_38_code (3 : Nat) (Option.some Jvm.ClassFile.FieldType.int)) := sb_7 (List.mem_of_getElem? (i := 0) rfl) rfl
theorem tw_1441 : TW (Jvm.Cond.methodLink "ThousandLeafletsModel" (223 : Nat) ({ cls := "ThousandLeafletsModel", name := "sumOf", desc := "(II)I" } : Jvm.MethodName)) := sb_7 (List.mem_of_getElem? (i := 1) rfl) rfl
theorem tw_1443 : TW (Jvm.Cond.instanceMethod ({ cls := "ThousandLeafletsModel", name := "sumOf", desc := "(II)I" } : Jvm.MethodName)) := sb_7 (List.mem_of_getElem? (i := 3) rfl) rfl
theorem tw_1444 : TW (Jvm.Cond.code ({ cls := "ThousandLeafletsModel", name := "sumOf", desc := "(II)I" } : Jvm.MethodName) prog_14_method_30_code (6 : Nat) (Option.some Jvm.ClassFile.FieldType.int)) := sb_7 (List.mem_of_getElem? (i := 4) rfl) rfl
theorem tw_1445 : TW (Jvm.Cond.methodLink "ThousandLeafletsModel" (267 : Nat) ({ cls := "ThousandLeafletsModel", name := "sealOf", desc := "(III)I" } : Jvm.MethodName)) := sb_7 (List.mem_of_getElem? (i := 5) rfl) rfl
theorem tw_1447 : TW (Jvm.Cond.instanceMethod ({ cls := "ThousandLeafletsModel", name := "sealOf", desc := "(III)I" } : Jvm.MethodName)) := sb_7 (List.mem_of_getElem? (i := 7) rfl) rfl
theorem tw_1448 : TW (Jvm.Cond.code ({ cls := "ThousandLeafletsModel", name := "sealOf", desc := "(III)I" } : Jvm.MethodName) prog_14_method_36_code (4 : Nat) (Option.some Jvm.ClassFile.FieldType.int)) := sb_7 (List.mem_of_getElem? (i := 8) rfl) rfl
theorem tw_1449 : TW (Jvm.Cond.methodLink "ThousandLeafletsLaw" (49 : Nat) ({ cls := "ThousandLeafletsModel", name := "told", desc := "(II)I" } : Jvm.MethodName)) := sb_7 (List.mem_of_getElem? (i := 9) rfl) rfl
theorem tw_1450 : TW (Jvm.Cond.instanceMethod ({ cls := "ThousandLeafletsModel", name := "told", desc := "(II)I" } : Jvm.MethodName)) := sb_7 (List.mem_of_getElem? (i := 10) rfl) rfl
theorem tw_1451 : TW (Jvm.Cond.selects "ThousandLeafletsModel" ({ cls := "ThousandLeafletsModel", name := "told", desc := "(II)I" } : Jvm.MethodName) ({ cls := "ThousandLeafletsModel", name := "told", desc := "(II)I" } : Jvm.MethodName)) := sb_7 (List.mem_of_getElem? (i := 11) rfl) rfl
theorem tw_1452 : TW (Jvm.Cond.code ({ cls := "ThousandLeafletsModel", name := "told", desc := "(II)I" } : Jvm.MethodName) prog_14_method_40_code (3 : Nat) (Option.some Jvm.ClassFile.FieldType.int)) := sb_7 (List.mem_of_getElem? (i := 12) rfl) rfl
theorem tw_1453 : TW (Jvm.Cond.methodLink "ThousandLeafletsModel" (271 : Nat) ({ cls := "ThousandLeafletsModel", name := "valueOf", desc := "(II)I" } : Jvm.MethodName)) := sb_7 (List.mem_of_getElem? (i := 13) rfl) rfl
theorem tw_1455 : TW (Jvm.Cond.instanceMethod ({ cls := "ThousandLeafletsModel", name := "valueOf", desc := "(II)I" } : Jvm.MethodName)) := sb_7 (List.mem_of_getElem? (i := 15) rfl) rfl
theorem tw_1456 : TW (Jvm.Cond.code ({ cls := "ThousandLeafletsModel", name := "valueOf", desc := "(II)I" } : Jvm.MethodName) prog_14_method_29_code (3 : Nat) (Option.some Jvm.ClassFile.FieldType.int)) := sb_7 (List.mem_of_getElem? (i := 16) rfl) rfl
theorem tw_1457 : TW (Jvm.Cond.methodLink "ThousandLeafletsLaw" (54 : Nat) ({ cls := "ThousandLeafletsModel", name := "comes", desc := "(IIII)I" } : Jvm.MethodName)) := sb_7 (List.mem_of_getElem? (i := 17) rfl) rfl
theorem tw_1458 : TW (Jvm.Cond.instanceMethod ({ cls := "ThousandLeafletsModel", name := "comes", desc := "(IIII)I" } : Jvm.MethodName)) := sb_7 (List.mem_of_getElem? (i := 18) rfl) rfl
theorem tw_1459 : TW (Jvm.Cond.selects "ThousandLeafletsModel" ({ cls := "ThousandLeafletsModel", name := "comes", desc := "(IIII)I" } : Jvm.MethodName) ({ cls := "ThousandLeafletsModel", name := "comes", desc := "(IIII)I" } : Jvm.MethodName)) := sb_7 (List.mem_of_getElem? (i := 19) rfl) rfl
theorem tw_1460 : TW (Jvm.Cond.code ({ cls := "ThousandLeafletsModel", name := "comes", desc := "(IIII)I" } : Jvm.MethodName) prog_14_method_46_code (6 : Nat) (Option.some Jvm.ClassFile.FieldType.int)) := sb_7 (List.mem_of_getElem? (i := 20) rfl) rfl
theorem tw_1461 : TW (Jvm.Cond.methodLink "ThousandLeafletsModel" (278 : Nat) ({ cls := "ThousandLeafletsModel", name := "isQuarter", desc := "(I)Z" } : Jvm.MethodName)) := sb_7 (List.mem_of_getElem? (i := 21) rfl) rfl
theorem tw_1462 : TW (Jvm.Cond.static ({ cls := "ThousandLeafletsModel", name := "isQuarter", desc := "(I)Z" } : Jvm.MethodName)) := sb_7 (List.mem_of_getElem? (i := 22) rfl) rfl
theorem tw_1463 : TW (Jvm.Cond.code ({ cls := "ThousandLeafletsModel", name := "isQuarter", desc := "(I)Z" } : Jvm.MethodName) prog_14_method_41_code (1 : Nat) (Option.some Jvm.ClassFile.FieldType.boolean)) := sb_7 (List.mem_of_getElem? (i := 23) rfl) rfl
theorem tw_1464 : TW (Jvm.Cond.methodLink "ThousandLeafletsModel" (281 : Nat) ({ cls := "ThousandLeafletsModel", name := "cutTo", desc := "(II)I" } : Jvm.MethodName)) := sb_7 (List.mem_of_getElem? (i := 24) rfl) rfl
theorem tw_1465 : TW (Jvm.Cond.static ({ cls := "ThousandLeafletsModel", name := "cutTo", desc := "(II)I" } : Jvm.MethodName)) := sb_7 (List.mem_of_getElem? (i := 25) rfl) rfl
theorem tw_1466 : TW (Jvm.Cond.code ({ cls := "ThousandLeafletsModel", name := "cutTo", desc := "(II)I" } : Jvm.MethodName) prog_14_method_45_code (2 : Nat) (Option.some Jvm.ClassFile.FieldType.int)) := sb_7 (List.mem_of_getElem? (i := 26) rfl) rfl
theorem tw_1467 : TW (Jvm.Cond.constant "ThousandLeafletsModel" (277 : Nat) (65280 : Int32)) := sb_7 (List.mem_of_getElem? (i := 27) rfl) rfl
theorem tw_1468 : TW (Jvm.Cond.methodLink "ThousandLeafletsModel" (284 : Nat) ({ cls := "ThousandLeafletsModel", name := "lays", desc := "(IIIIII)I" } : Jvm.MethodName)) := sb_7 (List.mem_of_getElem? (i := 28) rfl) rfl
theorem tw_1470 : TW (Jvm.Cond.instanceMethod ({ cls := "ThousandLeafletsModel", name := "lays", desc := "(IIIIII)I" } : Jvm.MethodName)) := sb_7 (List.mem_of_getElem? (i := 30) rfl) rfl
theorem tw_1471 : TW (Jvm.Cond.code ({ cls := "ThousandLeafletsModel", name := "lays", desc := "(IIIIII)I" } : Jvm.MethodName) prog_14_method_44_code (8 : Nat) (Option.some Jvm.ClassFile.FieldType.int)) := sb_7 (List.mem_of_getElem? (i := 31) rfl) rfl
theorem tw_1472 : TW (Jvm.Cond.methodLink "ThousandLeafletsLaw" (58 : Nat) ({ cls := "ThousandLeafletsModel", name := "slip", desc := "(IIII)I" } : Jvm.MethodName)) := sb_7 (List.mem_of_getElem? (i := 32) rfl) rfl
theorem tw_1473 : TW (Jvm.Cond.instanceMethod ({ cls := "ThousandLeafletsModel", name := "slip", desc := "(IIII)I" } : Jvm.MethodName)) := sb_7 (List.mem_of_getElem? (i := 33) rfl) rfl
theorem tw_1474 : TW (Jvm.Cond.selects "ThousandLeafletsModel" ({ cls := "ThousandLeafletsModel", name := "slip", desc := "(IIII)I" } : Jvm.MethodName) ({ cls := "ThousandLeafletsModel", name := "slip", desc := "(IIII)I" } : Jvm.MethodName)) := sb_7 (List.mem_of_getElem? (i := 34) rfl) rfl
theorem tw_1475 : TW (Jvm.Cond.code ({ cls := "ThousandLeafletsModel", name := "slip", desc := "(IIII)I" } : Jvm.MethodName) prog_14_method_48_code (6 : Nat) (Option.some Jvm.ClassFile.FieldType.int)) := sb_7 (List.mem_of_getElem? (i := 35) rfl) rfl
theorem tw_1476 : TW (Jvm.Cond.methodLink "ThousandLeafletsModel" (291 : Nat) ({ cls := "ThousandLeafletsModel", name := "laysIf", desc := "(IIIII)I" } : Jvm.MethodName)) := sb_7 (List.mem_of_getElem? (i := 36) rfl) rfl
theorem tw_1478 : TW (Jvm.Cond.instanceMethod ({ cls := "ThousandLeafletsModel", name := "laysIf", desc := "(IIIII)I" } : Jvm.MethodName)) := sb_7 (List.mem_of_getElem? (i := 38) rfl) rfl
theorem tw_1479 : TW (Jvm.Cond.code ({ cls := "ThousandLeafletsModel", name := "laysIf", desc := "(IIIII)I" } : Jvm.MethodName) prog_14_method_47_code (6 : Nat) (Option.some Jvm.ClassFile.FieldType.int)) := sb_7 (List.mem_of_getElem? (i := 39) rfl) rfl
theorem tw_1480 : TW (Jvm.Cond.methodLink "ThousandLeafletsLaw" (63 : Nat) ({ cls := "ThousandLeafletsModel", name := "forged", desc := "(IIIII)I" } : Jvm.MethodName)) := sb_7 (List.mem_of_getElem? (i := 40) rfl) rfl
theorem tw_1481 : TW (Jvm.Cond.instanceMethod ({ cls := "ThousandLeafletsModel", name := "forged", desc := "(IIIII)I" } : Jvm.MethodName)) := sb_7 (List.mem_of_getElem? (i := 41) rfl) rfl
theorem tw_1482 : TW (Jvm.Cond.selects "ThousandLeafletsModel" ({ cls := "ThousandLeafletsModel", name := "forged", desc := "(IIIII)I" } : Jvm.MethodName) ({ cls := "ThousandLeafletsModel", name := "forged", desc := "(IIIII)I" } : Jvm.MethodName)) := sb_7 (List.mem_of_getElem? (i := 42) rfl) rfl
theorem tw_1483 : TW (Jvm.Cond.code ({ cls := "ThousandLeafletsModel", name := "forged", desc := "(IIIII)I" } : Jvm.MethodName) prog_14_method_49_code (7 : Nat) (Option.some Jvm.ClassFile.FieldType.int)) := sb_7 (List.mem_of_getElem? (i := 43) rfl) rfl
theorem tw_1484 : TW (Jvm.Cond.methodLink "ThousandLeafletsLaw" (67 : Nat) ({ cls := "ThousandLeafletsModel", name := "nameless", desc := "(III)I" } : Jvm.MethodName)) := sb_7 (List.mem_of_getElem? (i := 44) rfl) rfl
theorem tw_1485 : TW (Jvm.Cond.instanceMethod ({ cls := "ThousandLeafletsModel", name := "nameless", desc := "(III)I" } : Jvm.MethodName)) := sb_7 (List.mem_of_getElem? (i := 45) rfl) rfl
theorem tw_1486 : TW (Jvm.Cond.selects "ThousandLeafletsModel" ({ cls := "ThousandLeafletsModel", name := "nameless", desc := "(III)I" } : Jvm.MethodName) ({ cls := "ThousandLeafletsModel", name := "nameless", desc := "(III)I" } : Jvm.MethodName)) := sb_7 (List.mem_of_getElem? (i := 46) rfl) rfl
theorem tw_1487 : TW (Jvm.Cond.code ({ cls := "ThousandLeafletsModel", name := "nameless", desc := "(III)I" } : Jvm.MethodName) prog_14_method_51_code (4 : Nat) (Option.some Jvm.ClassFile.FieldType.int)) := sb_7 (List.mem_of_getElem? (i := 47) rfl) rfl
theorem tw_1488 : TW (Jvm.Cond.methodLink "ThousandLeafletsModel" (295 : Nat) ({ cls := "ThousandLeafletsModel", name := "namelessIn", desc := "(I)I" } : Jvm.MethodName)) := sb_7 (List.mem_of_getElem? (i := 48) rfl) rfl
theorem tw_1490 : TW (Jvm.Cond.instanceMethod ({ cls := "ThousandLeafletsModel", name := "namelessIn", desc := "(I)I" } : Jvm.MethodName)) := sb_7 (List.mem_of_getElem? (i := 50) rfl) rfl
theorem tw_1491 : TW (Jvm.Cond.code ({ cls := "ThousandLeafletsModel", name := "namelessIn", desc := "(I)I" } : Jvm.MethodName) prog_14_method_50_code (4 : Nat) (Option.some Jvm.ClassFile.FieldType.int)) := sb_7 (List.mem_of_getElem? (i := 51) rfl) rfl
theorem tw_1492 : TW (Jvm.Cond.methodLink "ThousandLeafletsLaw" (77 : Nat) ({ cls := "ThousandLeafletsModel", name := "away", desc := "(II)Z" } : Jvm.MethodName)) := sb_7 (List.mem_of_getElem? (i := 52) rfl) rfl
theorem tw_1493 : TW (Jvm.Cond.instanceMethod ({ cls := "ThousandLeafletsModel", name := "away", desc := "(II)Z" } : Jvm.MethodName)) := sb_7 (List.mem_of_getElem? (i := 53) rfl) rfl
theorem tw_1494 : TW (Jvm.Cond.selects "ThousandLeafletsModel" ({ cls := "ThousandLeafletsModel", name := "away", desc := "(II)Z" } : Jvm.MethodName) ({ cls := "ThousandLeafletsModel", name := "away", desc := "(II)Z" } : Jvm.MethodName)) := sb_7 (List.mem_of_getElem? (i := 54) rfl) rfl
theorem tw_1495 : TW (Jvm.Cond.code ({ cls := "ThousandLeafletsModel", name := "away", desc := "(II)Z" } : Jvm.MethodName) prog_14_method_53_code (3 : Nat) (Option.some Jvm.ClassFile.FieldType.boolean)) := sb_7 (List.mem_of_getElem? (i := 55) rfl) rfl
theorem tw_1496 : TW (Jvm.Cond.methodLink "ThousandLeafletsModel" (298 : Nat) ({ cls := "ThousandLeafletsModel", name := "isPaper", desc := "(II)Z" } : Jvm.MethodName)) := sb_7 (List.mem_of_getElem? (i := 56) rfl) rfl
theorem tw_1498 : TW (Jvm.Cond.instanceMethod ({ cls := "ThousandLeafletsModel", name := "isPaper", desc := "(II)Z" } : Jvm.MethodName)) := sb_7 (List.mem_of_getElem? (i := 58) rfl) rfl
theorem tw_1499 : TW (Jvm.Cond.code ({ cls := "ThousandLeafletsModel", name := "isPaper", desc := "(II)Z" } : Jvm.MethodName) prog_14_method_52_code (3 : Nat) (Option.some Jvm.ClassFile.FieldType.boolean)) := sb_7 (List.mem_of_getElem? (i := 59) rfl) rfl
theorem tw_1500 : TW (Jvm.Cond.methodLink "ThousandLeafletsLaw" (160 : Nat) ({ cls := "ThousandLeafletsModel", name := "mark", desc := "(IZ)Z" } : Jvm.MethodName)) := sb_7 (List.mem_of_getElem? (i := 60) rfl) rfl
theorem tw_1501 : TW (Jvm.Cond.instanceMethod ({ cls := "ThousandLeafletsModel", name := "mark", desc := "(IZ)Z" } : Jvm.MethodName)) := sb_7 (List.mem_of_getElem? (i := 61) rfl) rfl
theorem tw_1502 : TW (Jvm.Cond.selects "ThousandLeafletsModel" ({ cls := "ThousandLeafletsModel", name := "mark", desc := "(IZ)Z" } : Jvm.MethodName) ({ cls := "ThousandLeafletsModel", name := "mark", desc := "(IZ)Z" } : Jvm.MethodName)) := sb_7 (List.mem_of_getElem? (i := 62) rfl) rfl
theorem tw_1503 : TW (Jvm.Cond.code ({ cls := "ThousandLeafletsModel", name := "mark", desc := "(IZ)Z" } : Jvm.MethodName) prog_14_method_56_code (4 : Nat) (Option.some Jvm.ClassFile.FieldType.boolean)) := sb_7 (List.mem_of_getElem? (i := 63) rfl) rfl
theorem tw_1504 : TW (Jvm.Cond.methodLink "ThousandLeafletsModel" (302 : Nat) ({ cls := "ThousandLeafletsModel", name := "copies", desc := "(II)V" } : Jvm.MethodName)) := sb_7 (List.mem_of_getElem? (i := 64) rfl) rfl
theorem tw_1506 : TW (Jvm.Cond.instanceMethod ({ cls := "ThousandLeafletsModel", name := "copies", desc := "(II)V" } : Jvm.MethodName)) := sb_7 (List.mem_of_getElem? (i := 66) rfl) rfl
theorem tw_1507 : TW (Jvm.Cond.code ({ cls := "ThousandLeafletsModel", name := "copies", desc := "(II)V" } : Jvm.MethodName) prog_14_method_54_code (4 : Nat) (Option.none : Option Jvm.ClassFile.FieldType)) := sb_7 (List.mem_of_getElem? (i := 67) rfl) rfl
theorem tw_1508 : TW (Jvm.Cond.methodLink "ThousandLeafletsLaw" (81 : Nat) ({ cls := "ThousandLeafletsModel", name := "peels", desc := "(IIII)I" } : Jvm.MethodName)) := sb_7 (List.mem_of_getElem? (i := 68) rfl) rfl
theorem tw_1509 : TW (Jvm.Cond.instanceMethod ({ cls := "ThousandLeafletsModel", name := "peels", desc := "(IIII)I" } : Jvm.MethodName)) := sb_7 (List.mem_of_getElem? (i := 69) rfl) rfl
theorem tw_1510 : TW (Jvm.Cond.selects "ThousandLeafletsModel" ({ cls := "ThousandLeafletsModel", name := "peels", desc := "(IIII)I" } : Jvm.MethodName) ({ cls := "ThousandLeafletsModel", name := "peels", desc := "(IIII)I" } : Jvm.MethodName)) := sb_7 (List.mem_of_getElem? (i := 70) rfl) rfl
theorem tw_1511 : TW (Jvm.Cond.code ({ cls := "ThousandLeafletsModel", name := "peels", desc := "(IIII)I" } : Jvm.MethodName) prog_14_method_68_code (8 : Nat) (Option.some Jvm.ClassFile.FieldType.int)) := sb_7 (List.mem_of_getElem? (i := 71) rfl) rfl
theorem tw_1512 : TW (Jvm.Cond.methodLink "ThousandLeafletsModel" (333 : Nat) ({ cls := "ThousandLeafletsModel", name := "isAsked", desc := "(III)Z" } : Jvm.MethodName)) := sb_7 (List.mem_of_getElem? (i := 72) rfl) rfl
theorem tw_1514 : TW (Jvm.Cond.instanceMethod ({ cls := "ThousandLeafletsModel", name := "isAsked", desc := "(III)Z" } : Jvm.MethodName)) := sb_7 (List.mem_of_getElem? (i := 74) rfl) rfl
theorem tw_1515 : TW (Jvm.Cond.code ({ cls := "ThousandLeafletsModel", name := "isAsked", desc := "(III)Z" } : Jvm.MethodName) prog_14_method_67_code (4 : Nat) (Option.some Jvm.ClassFile.FieldType.boolean)) := sb_7 (List.mem_of_getElem? (i := 75) rfl) rfl
theorem tw_1516 : TW (Jvm.Cond.methodLink "ThousandLeafletsModel" (336 : Nat) ({ cls := "ThousandLeafletsModel", name := "leavesNone", desc := "()V" } : Jvm.MethodName)) := sb_7 (List.mem_of_getElem? (i := 76) rfl) rfl
theorem tw_1518 : TW (Jvm.Cond.instanceMethod ({ cls := "ThousandLeafletsModel", name := "leavesNone", desc := "()V" } : Jvm.MethodName)) := sb_7 (List.mem_of_getElem? (i := 78) rfl) rfl
theorem tw_1519 : TW (Jvm.Cond.code ({ cls := "ThousandLeafletsModel", name := "leavesNone", desc := "()V" } : Jvm.MethodName) prog_14_method_61_code (2 : Nat) (Option.none : Option Jvm.ClassFile.FieldType)) := sb_7 (List.mem_of_getElem? (i := 79) rfl) rfl
theorem tw_1520 : TW (Jvm.Cond.methodLink "ThousandLeafletsModel" (339 : Nat) ({ cls := "ThousandLeafletsModel", name := "gathers", desc := "(IIII)V" } : Jvm.MethodName)) := sb_7 (List.mem_of_getElem? (i := 80) rfl) rfl
theorem tw_1522 : TW (Jvm.Cond.instanceMethod ({ cls := "ThousandLeafletsModel", name := "gathers", desc := "(IIII)V" } : Jvm.MethodName)) := sb_7 (List.mem_of_getElem? (i := 82) rfl) rfl
theorem tw_1523 : TW (Jvm.Cond.code ({ cls := "ThousandLeafletsModel", name := "gathers", desc := "(IIII)V" } : Jvm.MethodName) prog_14_method_60_code (7 : Nat) (Option.none : Option Jvm.ClassFile.FieldType)) := sb_7 (List.mem_of_getElem? (i := 83) rfl) rfl
theorem tw_1524 : TW (Jvm.Cond.methodLink "ThousandLeafletsModel" (312 : Nat) ({ cls := "ThousandLeafletsModel", name := "begins", desc := "(I)V" } : Jvm.MethodName)) := sb_7 (List.mem_of_getElem? (i := 84) rfl) rfl
theorem tw_1526 : TW (Jvm.Cond.instanceMethod ({ cls := "ThousandLeafletsModel", name := "begins", desc := "(I)V" } : Jvm.MethodName)) := sb_7 (List.mem_of_getElem? (i := 86) rfl) rfl
theorem tw_1527 : TW (Jvm.Cond.code ({ cls := "ThousandLeafletsModel", name := "begins", desc := "(I)V" } : Jvm.MethodName) prog_14_method_58_code (3 : Nat) (Option.none : Option Jvm.ClassFile.FieldType)) := sb_7 (List.mem_of_getElem? (i := 87) rfl) rfl
theorem tw_1528 : TW (Jvm.Cond.methodLink "ThousandLeafletsModel" (308 : Nat) ({ cls := "ThousandLeafletsModel", name := "adds", desc := "(III)V" } : Jvm.MethodName)) := sb_7 (List.mem_of_getElem? (i := 88) rfl) rfl
theorem tw_1530 : TW (Jvm.Cond.instanceMethod ({ cls := "ThousandLeafletsModel", name := "adds", desc := "(III)V" } : Jvm.MethodName)) := sb_7 (List.mem_of_getElem? (i := 90) rfl) rfl
theorem tw_1531 : TW (Jvm.Cond.code ({ cls := "ThousandLeafletsModel", name := "adds", desc := "(III)V" } : Jvm.MethodName) prog_14_method_57_code (4 : Nat) (Option.none : Option Jvm.ClassFile.FieldType)) := sb_7 (List.mem_of_getElem? (i := 91) rfl) rfl
theorem tw_1532 : TW (Jvm.Cond.methodLink "ThousandLeafletsModel" (315 : Nat) ({ cls := "ThousandLeafletsModel", name := "byteOf", desc := "(II)I" } : Jvm.MethodName)) := sb_7 (List.mem_of_getElem? (i := 92) rfl) rfl
theorem tw_1533 : TW (Jvm.Cond.static ({ cls := "ThousandLeafletsModel", name := "byteOf", desc := "(II)I" } : Jvm.MethodName)) := sb_7 (List.mem_of_getElem? (i := 93) rfl) rfl
theorem tw_1534 : TW (Jvm.Cond.code ({ cls := "ThousandLeafletsModel", name := "byteOf", desc := "(II)I" } : Jvm.MethodName) prog_14_method_59_code (2 : Nat) (Option.some Jvm.ClassFile.FieldType.int)) := sb_7 (List.mem_of_getElem? (i := 94) rfl) rfl
theorem tw_1535 : TW (Jvm.Cond.methodLink "ThousandLeafletsModel" (343 : Nat) ({ cls := "ThousandLeafletsModel", name := "findPeeled", desc := "()V" } : Jvm.MethodName)) := sb_7 (List.mem_of_getElem? (i := 95) rfl) rfl
theorem tw_1537 : TW (Jvm.Cond.instanceMethod ({ cls := "ThousandLeafletsModel", name := "findPeeled", desc := "()V" } : Jvm.MethodName)) := sb_7 (List.mem_of_getElem? (i := 97) rfl) rfl
theorem tw_1538 : TW (Jvm.Cond.code ({ cls := "ThousandLeafletsModel", name := "findPeeled", desc := "()V" } : Jvm.MethodName) prog_14_method_62_code (6 : Nat) (Option.none : Option Jvm.ClassFile.FieldType)) := sb_7 (List.mem_of_getElem? (i := 98) rfl) rfl
theorem tw_1539 : TW (Jvm.Cond.methodLink "ThousandLeafletsModel" (321 : Nat) ({ cls := "ThousandLeafletsModel", name := "comesTo", desc := "(I)I" } : Jvm.MethodName)) := sb_7 (List.mem_of_getElem? (i := 99) rfl) rfl
theorem tw_1541 : TW (Jvm.Cond.instanceMethod ({ cls := "ThousandLeafletsModel", name := "comesTo", desc := "(I)I" } : Jvm.MethodName)) := sb_7 (List.mem_of_getElem? (i := 101) rfl) rfl
theorem tw_1542 : TW (Jvm.Cond.code ({ cls := "ThousandLeafletsModel", name := "comesTo", desc := "(I)I" } : Jvm.MethodName) prog_14_method_63_code (4 : Nat) (Option.some Jvm.ClassFile.FieldType.int)) := sb_7 (List.mem_of_getElem? (i := 102) rfl) rfl
theorem tw_1543 : TW (Jvm.Cond.methodLink "ThousandLeafletsLaw" (85 : Nat) ({ cls := "ThousandLeafletsModel", name := "solves", desc := "(IIII)I" } : Jvm.MethodName)) := sb_7 (List.mem_of_getElem? (i := 103) rfl) rfl
theorem tw_1544 : TW (Jvm.Cond.instanceMethod ({ cls := "ThousandLeafletsModel", name := "solves", desc := "(IIII)I" } : Jvm.MethodName)) := sb_7 (List.mem_of_getElem? (i := 104) rfl) rfl
theorem tw_1545 : TW (Jvm.Cond.selects "ThousandLeafletsModel" ({ cls := "ThousandLeafletsModel", name := "solves", desc := "(IIII)I" } : Jvm.MethodName) ({ cls := "ThousandLeafletsModel", name := "solves", desc := "(IIII)I" } : Jvm.MethodName)) := sb_7 (List.mem_of_getElem? (i := 105) rfl) rfl
theorem tw_1546 : TW (Jvm.Cond.code ({ cls := "ThousandLeafletsModel", name := "solves", desc := "(IIII)I" } : Jvm.MethodName) prog_14_method_69_code (5 : Nat) (Option.some Jvm.ClassFile.FieldType.int)) := sb_7 (List.mem_of_getElem? (i := 106) rfl) rfl
theorem tw_1547 : TW (Jvm.Cond.methodLink "ThousandLeafletsModel" (346 : Nat) ({ cls := "ThousandLeafletsModel", name := "findSolved", desc := "()V" } : Jvm.MethodName)) := sb_7 (List.mem_of_getElem? (i := 107) rfl) rfl
theorem tw_1549 : TW (Jvm.Cond.instanceMethod ({ cls := "ThousandLeafletsModel", name := "findSolved", desc := "()V" } : Jvm.MethodName)) := sb_7 (List.mem_of_getElem? (i := 109) rfl) rfl
theorem tw_1550 : TW (Jvm.Cond.code ({ cls := "ThousandLeafletsModel", name := "findSolved", desc := "()V" } : Jvm.MethodName) prog_14_method_64_code (6 : Nat) (Option.none : Option Jvm.ClassFile.FieldType)) := sb_7 (List.mem_of_getElem? (i := 110) rfl) rfl
theorem tw_1551 : TW (Jvm.Cond.methodLink "ThousandLeafletsModel" (349 : Nat) ({ cls := "ThousandLeafletsModel", name := "fixedSet", desc := "()I" } : Jvm.MethodName)) := sb_7 (List.mem_of_getElem? (i := 111) rfl) rfl
theorem tw_1553 : TW (Jvm.Cond.instanceMethod ({ cls := "ThousandLeafletsModel", name := "fixedSet", desc := "()I" } : Jvm.MethodName)) := sb_7 (List.mem_of_getElem? (i := 113) rfl) rfl
theorem tw_1554 : TW (Jvm.Cond.code ({ cls := "ThousandLeafletsModel", name := "fixedSet", desc := "()I" } : Jvm.MethodName) prog_14_method_66_code (3 : Nat) (Option.some Jvm.ClassFile.FieldType.int)) := sb_7 (List.mem_of_getElem? (i := 114) rfl) rfl
theorem tw_1555 : TW (Jvm.Cond.methodLink "ThousandLeafletsModel" (330 : Nat) ({ cls := "ThousandLeafletsModel", name := "isFixed", desc := "(I)Z" } : Jvm.MethodName)) := sb_7 (List.mem_of_getElem? (i := 115) rfl) rfl
theorem tw_1557 : TW (Jvm.Cond.instanceMethod ({ cls := "ThousandLeafletsModel", name := "isFixed", desc := "(I)Z" } : Jvm.MethodName)) := sb_7 (List.mem_of_getElem? (i := 117) rfl) rfl
theorem tw_1558 : TW (Jvm.Cond.code ({ cls := "ThousandLeafletsModel", name := "isFixed", desc := "(I)Z" } : Jvm.MethodName) prog_14_method_65_code (2 : Nat) (Option.some Jvm.ClassFile.FieldType.boolean)) := sb_7 (List.mem_of_getElem? (i := 118) rfl) rfl
theorem tw_1559 : TW (Jvm.Cond.methodLink "ThousandLeafletsLaw" (89 : Nat) ({ cls := "ThousandLeafletsModel", name := "read", desc := "(IIII)I" } : Jvm.MethodName)) := sb_7 (List.mem_of_getElem? (i := 119) rfl) rfl
theorem tw_1560 : TW (Jvm.Cond.instanceMethod ({ cls := "ThousandLeafletsModel", name := "read", desc := "(IIII)I" } : Jvm.MethodName)) := sb_7 (List.mem_of_getElem? (i := 120) rfl) rfl
theorem tw_1561 : TW (Jvm.Cond.selects "ThousandLeafletsModel" ({ cls := "ThousandLeafletsModel", name := "read", desc := "(IIII)I" } : Jvm.MethodName) ({ cls := "ThousandLeafletsModel", name := "read", desc := "(IIII)I" } : Jvm.MethodName)) := sb_7 (List.mem_of_getElem? (i := 121) rfl) rfl
theorem tw_1562 : TW (Jvm.Cond.code ({ cls := "ThousandLeafletsModel", name := "read", desc := "(IIII)I" } : Jvm.MethodName) prog_14_method_72_code (5 : Nat) (Option.some Jvm.ClassFile.FieldType.int)) := sb_7 (List.mem_of_getElem? (i := 122) rfl) rfl
theorem tw_1563 : TW (Jvm.Cond.methodLink "ThousandLeafletsModel" (352 : Nat) ({ cls := "ThousandLeafletsModel", name := "isPage", desc := "(II)Z" } : Jvm.MethodName)) := sb_7 (List.mem_of_getElem? (i := 123) rfl) rfl
theorem tw_1565 : TW (Jvm.Cond.instanceMethod ({ cls := "ThousandLeafletsModel", name := "isPage", desc := "(II)Z" } : Jvm.MethodName)) := sb_7 (List.mem_of_getElem? (i := 125) rfl) rfl
theorem tw_1566 : TW (Jvm.Cond.code ({ cls := "ThousandLeafletsModel", name := "isPage", desc := "(II)Z" } : Jvm.MethodName) prog_14_method_71_code (3 : Nat) (Option.some Jvm.ClassFile.FieldType.boolean)) := sb_7 (List.mem_of_getElem? (i := 126) rfl) rfl
theorem tw_1567 : TW (Jvm.Cond.methodLink "ThousandLeafletsModel" (355 : Nat) ({ cls := "ThousandLeafletsModel", name := "readBy", desc := "(IIIII)I" } : Jvm.MethodName)) := sb_7 (List.mem_of_getElem? (i := 127) rfl) rfl
theorem tw_1569 : TW (Jvm.Cond.instanceMethod ({ cls := "ThousandLeafletsModel", name := "readBy", desc := "(IIIII)I" } : Jvm.MethodName)) := sb_7 (List.mem_of_getElem? (i := 129) rfl) rfl
theorem tw_1570 : TW (Jvm.Cond.code ({ cls := "ThousandLeafletsModel", name := "readBy", desc := "(IIIII)I" } : Jvm.MethodName) prog_14_method_70_code (9 : Nat) (Option.some Jvm.ClassFile.FieldType.int)) := sb_7 (List.mem_of_getElem? (i := 130) rfl) rfl
theorem tw_1571 : TW (Jvm.Cond.methodLink "ThousandLeafletsLaw" (93 : Nat) ({ cls := "ThousandLeafletsModel", name := "soon", desc := "(IIII)I" } : Jvm.MethodName)) := sb_7 (List.mem_of_getElem? (i := 131) rfl) rfl
theorem tw_1572 : TW (Jvm.Cond.instanceMethod ({ cls := "ThousandLeafletsModel", name := "soon", desc := "(IIII)I" } : Jvm.MethodName)) := sb_7 (List.mem_of_getElem? (i := 132) rfl) rfl
theorem tw_1573 : TW (Jvm.Cond.selects "ThousandLeafletsModel" ({ cls := "ThousandLeafletsModel", name := "soon", desc := "(IIII)I" } : Jvm.MethodName) ({ cls := "ThousandLeafletsModel", name := "soon", desc := "(IIII)I" } : Jvm.MethodName)) := sb_7 (List.mem_of_getElem? (i := 133) rfl) rfl
theorem tw_1574 : TW (Jvm.Cond.code ({ cls := "ThousandLeafletsModel", name := "soon", desc := "(IIII)I" } : Jvm.MethodName) prog_14_method_73_code (6 : Nat) (Option.some Jvm.ClassFile.FieldType.int)) := sb_7 (List.mem_of_getElem? (i := 134) rfl) rfl
theorem tw_1575 : TW (Jvm.Cond.methodLink "ThousandLeafletsLaw" (73 : Nat) ({ cls := "ThousandLeafletsModel", name := "paper", desc := "(III)I" } : Jvm.MethodName)) := sb_7 (List.mem_of_getElem? (i := 135) rfl) rfl
theorem tw_1576 : TW (Jvm.Cond.instanceMethod ({ cls := "ThousandLeafletsModel", name := "paper", desc := "(III)I" } : Jvm.MethodName)) := sb_7 (List.mem_of_getElem? (i := 136) rfl) rfl
theorem tw_1577 : TW (Jvm.Cond.selects "ThousandLeafletsModel" ({ cls := "ThousandLeafletsModel", name := "paper", desc := "(III)I" } : Jvm.MethodName) ({ cls := "ThousandLeafletsModel", name := "paper", desc := "(III)I" } : Jvm.MethodName)) := sb_7 (List.mem_of_getElem? (i := 137) rfl) rfl
theorem tw_1578 : TW (Jvm.Cond.code ({ cls := "ThousandLeafletsModel", name := "paper", desc := "(III)I" } : Jvm.MethodName) prog_14_method_75_code (5 : Nat) (Option.some Jvm.ClassFile.FieldType.int)) := sb_7 (List.mem_of_getElem? (i := 138) rfl) rfl
theorem tw_1579 : TW (Jvm.Cond.methodLink "ThousandLeafletsModel" (358 : Nat) ({ cls := "ThousandLeafletsModel", name := "unknownOf", desc := "(II)I" } : Jvm.MethodName)) := sb_7 (List.mem_of_getElem? (i := 139) rfl) rfl
theorem tw_1581 : TW (Jvm.Cond.instanceMethod ({ cls := "ThousandLeafletsModel", name := "unknownOf", desc := "(II)I" } : Jvm.MethodName)) := sb_7 (List.mem_of_getElem? (i := 141) rfl) rfl
theorem tw_1582 : TW (Jvm.Cond.code ({ cls := "ThousandLeafletsModel", name := "unknownOf", desc := "(II)I" } : Jvm.MethodName) prog_14_method_74_code (8 : Nat) (Option.some Jvm.ClassFile.FieldType.int)) := sb_7 (List.mem_of_getElem? (i := 142) rfl) rfl
theorem tw_1583 : TW (Jvm.Cond.methodLink "ThousandLeafletsLaw" (97 : Nat) ({ cls := "ThousandLeafletsModel", name := "slipped", desc := "(IIII)I" } : Jvm.MethodName)) := sb_7 (List.mem_of_getElem? (i := 143) rfl) rfl
theorem tw_1584 : TW (Jvm.Cond.instanceMethod ({ cls := "ThousandLeafletsModel", name := "slipped", desc := "(IIII)I" } : Jvm.MethodName)) := sb_7 (List.mem_of_getElem? (i := 144) rfl) rfl
theorem tw_1585 : TW (Jvm.Cond.selects "ThousandLeafletsModel" ({ cls := "ThousandLeafletsModel", name := "slipped", desc := "(IIII)I" } : Jvm.MethodName) ({ cls := "ThousandLeafletsModel", name := "slipped", desc := "(IIII)I" } : Jvm.MethodName)) := sb_7 (List.mem_of_getElem? (i := 145) rfl) rfl
theorem tw_1586 : TW (Jvm.Cond.code ({ cls := "ThousandLeafletsModel", name := "slipped", desc := "(IIII)I" } : Jvm.MethodName) prog_14_method_77_code (5 : Nat) (Option.some Jvm.ClassFile.FieldType.int)) := sb_7 (List.mem_of_getElem? (i := 146) rfl) rfl
theorem tw_1587 : TW (Jvm.Cond.methodLink "ThousandLeafletsModel" (364 : Nat) ({ cls := "ThousandLeafletsModel", name := "findSlipped", desc := "(III)Z" } : Jvm.MethodName)) := sb_7 (List.mem_of_getElem? (i := 147) rfl) rfl
theorem tw_1589 : TW (Jvm.Cond.instanceMethod ({ cls := "ThousandLeafletsModel", name := "findSlipped", desc := "(III)Z" } : Jvm.MethodName)) := sb_7 (List.mem_of_getElem? (i := 149) rfl) rfl
theorem tw_1590 : TW (Jvm.Cond.code ({ cls := "ThousandLeafletsModel", name := "findSlipped", desc := "(III)Z" } : Jvm.MethodName) prog_14_method_76_code (6 : Nat) (Option.some Jvm.ClassFile.FieldType.boolean)) := sb_7 (List.mem_of_getElem? (i := 150) rfl) rfl
theorem tw_1591 : TW (Jvm.Cond.methodLink "ThousandLeafletsLaw" (101 : Nat) ({ cls := "ThousandLeafletsModel", name := "right", desc := "(IIII)I" } : Jvm.MethodName)) := sb_7 (List.mem_of_getElem? (i := 151) rfl) rfl
theorem tw_1592 : TW (Jvm.Cond.instanceMethod ({ cls := "ThousandLeafletsModel", name := "right", desc := "(IIII)I" } : Jvm.MethodName)) := sb_7 (List.mem_of_getElem? (i := 152) rfl) rfl
theorem tw_1593 : TW (Jvm.Cond.selects "ThousandLeafletsModel" ({ cls := "ThousandLeafletsModel", name := "right", desc := "(IIII)I" } : Jvm.MethodName) ({ cls := "ThousandLeafletsModel", name := "right", desc := "(IIII)I" } : Jvm.MethodName)) := sb_7 (List.mem_of_getElem? (i := 153) rfl) rfl
theorem tw_1594 : TW (Jvm.Cond.code ({ cls := "ThousandLeafletsModel", name := "right", desc := "(IIII)I" } : Jvm.MethodName) prog_14_method_78_code (7 : Nat) (Option.some Jvm.ClassFile.FieldType.int)) := sb_7 (List.mem_of_getElem? (i := 154) rfl) rfl
theorem tw_1595 : TW (Jvm.Cond.methodLink "ThousandLeafletsLaw" (105 : Nat) ({ cls := "ThousandLeafletsModel", name := "doubles", desc := "(III)I" } : Jvm.MethodName)) := sb_7 (List.mem_of_getElem? (i := 155) rfl) rfl
theorem tw_1596 : TW (Jvm.Cond.instanceMethod ({ cls := "ThousandLeafletsModel", name := "doubles", desc := "(III)I" } : Jvm.MethodName)) := sb_7 (List.mem_of_getElem? (i := 156) rfl) rfl
theorem tw_1597 : TW (Jvm.Cond.selects "ThousandLeafletsModel" ({ cls := "ThousandLeafletsModel", name := "doubles", desc := "(III)I" } : Jvm.MethodName) ({ cls := "ThousandLeafletsModel", name := "doubles", desc := "(III)I" } : Jvm.MethodName)) := sb_7 (List.mem_of_getElem? (i := 157) rfl) rfl
theorem tw_1598 : TW (Jvm.Cond.code ({ cls := "ThousandLeafletsModel", name := "doubles", desc := "(III)I" } : Jvm.MethodName) prog_14_method_79_code (8 : Nat) (Option.some Jvm.ClassFile.FieldType.int)) := sb_7 (List.mem_of_getElem? (i := 158) rfl) rfl
theorem tw_1599 : TW (Jvm.Cond.methodLink "ThousandLeafletsLaw" (109 : Nat) ({ cls := "ThousandLeafletsModel", name := "guard", desc := "(IIII)I" } : Jvm.MethodName)) := sb_7 (List.mem_of_getElem? (i := 159) rfl) rfl
theorem tw_1600 : TW (Jvm.Cond.instanceMethod ({ cls := "ThousandLeafletsModel", name := "guard", desc := "(IIII)I" } : Jvm.MethodName)) := sb_7 (List.mem_of_getElem? (i := 160) rfl) rfl
theorem tw_1601 : TW (Jvm.Cond.selects "ThousandLeafletsModel" ({ cls := "ThousandLeafletsModel", name := "guard", desc := "(IIII)I" } : Jvm.MethodName) ({ cls := "ThousandLeafletsModel", name := "guard", desc := "(IIII)I" } : Jvm.MethodName)) := sb_7 (List.mem_of_getElem? (i := 161) rfl) rfl
theorem tw_1602 : TW (Jvm.Cond.code ({ cls := "ThousandLeafletsModel", name := "guard", desc := "(IIII)I" } : Jvm.MethodName) prog_14_method_81_code (9 : Nat) (Option.some Jvm.ClassFile.FieldType.int)) := sb_7 (List.mem_of_getElem? (i := 162) rfl) rfl
theorem tw_1603 : TW (Jvm.Cond.methodLink "ThousandLeafletsModel" (367 : Nat) ({ cls := "ThousandLeafletsModel", name := "isFixedWithout", desc := "(IIII)Z" } : Jvm.MethodName)) := sb_7 (List.mem_of_getElem? (i := 163) rfl) rfl
theorem tw_1605 : TW (Jvm.Cond.instanceMethod ({ cls := "ThousandLeafletsModel", name := "isFixedWithout", desc := "(IIII)Z" } : Jvm.MethodName)) := sb_7 (List.mem_of_getElem? (i := 165) rfl) rfl
theorem tw_1606 : TW (Jvm.Cond.code ({ cls := "ThousandLeafletsModel", name := "isFixedWithout", desc := "(IIII)Z" } : Jvm.MethodName) prog_14_method_80_code (9 : Nat) (Option.some Jvm.ClassFile.FieldType.boolean)) := sb_7 (List.mem_of_getElem? (i := 166) rfl) rfl
theorem tw_1607 : TW (Jvm.Cond.methodLink "ThousandLeafletsLaw" (113 : Nat) ({ cls := "ThousandLeafletsModel", name := "tocome", desc := "(III)I" } : Jvm.MethodName)) := sb_7 (List.mem_of_getElem? (i := 167) rfl) rfl
theorem tw_1608 : TW (Jvm.Cond.instanceMethod ({ cls := "ThousandLeafletsModel", name := "tocome", desc := "(III)I" } : Jvm.MethodName)) := sb_7 (List.mem_of_getElem? (i := 168) rfl) rfl
theorem tw_1609 : TW (Jvm.Cond.selects "ThousandLeafletsModel" ({ cls := "ThousandLeafletsModel", name := "tocome", desc := "(III)I" } : Jvm.MethodName) ({ cls := "ThousandLeafletsModel", name := "tocome", desc := "(III)I" } : Jvm.MethodName)) := sb_7 (List.mem_of_getElem? (i := 169) rfl) rfl
theorem tw_1610 : TW (Jvm.Cond.code ({ cls := "ThousandLeafletsModel", name := "tocome", desc := "(III)I" } : Jvm.MethodName) prog_14_method_84_code (6 : Nat) (Option.some Jvm.ClassFile.FieldType.int)) := sb_7 (List.mem_of_getElem? (i := 170) rfl) rfl
theorem tw_1611 : TW (Jvm.Cond.methodLink "ThousandLeafletsModel" (374 : Nat) ({ cls := "ThousandLeafletsModel", name := "isAllWith", desc := "(III)Z" } : Jvm.MethodName)) := sb_7 (List.mem_of_getElem? (i := 171) rfl) rfl
theorem tw_1613 : TW (Jvm.Cond.instanceMethod ({ cls := "ThousandLeafletsModel", name := "isAllWith", desc := "(III)Z" } : Jvm.MethodName)) := sb_7 (List.mem_of_getElem? (i := 173) rfl) rfl
theorem tw_1614 : TW (Jvm.Cond.code ({ cls := "ThousandLeafletsModel", name := "isAllWith", desc := "(III)Z" } : Jvm.MethodName) prog_14_method_82_code (7 : Nat) (Option.some Jvm.ClassFile.FieldType.boolean)) := sb_7 (List.mem_of_getElem? (i := 174) rfl) rfl
theorem tw_1615 : TW (Jvm.Cond.methodLink "ThousandLeafletsModel" (371 : Nat) ({ cls := "ThousandLeafletsModel", name := "givesAll", desc := "(II)Z" } : Jvm.MethodName)) := sb_7 (List.mem_of_getElem? (i := 175) rfl) rfl
theorem tw_1617 : TW (Jvm.Cond.instanceMethod ({ cls := "ThousandLeafletsModel", name := "givesAll", desc := "(II)Z" } : Jvm.MethodName)) := sb_7 (List.mem_of_getElem? (i := 177) rfl) rfl
theorem tw_1618 : TW (Jvm.Cond.code ({ cls := "ThousandLeafletsModel", name := "givesAll", desc := "(II)Z" } : Jvm.MethodName) prog_14_method_83_code (3 : Nat) (Option.some Jvm.ClassFile.FieldType.boolean)) := sb_7 (List.mem_of_getElem? (i := 178) rfl) rfl
theorem tw_1619 : TW (Jvm.Cond.methodLink "ThousandLeafletsLaw" (117 : Nat) ({ cls := "ThousandLeafletsModel", name := "chances", desc := "(IIII)I" } : Jvm.MethodName)) := sb_7 (List.mem_of_getElem? (i := 179) rfl) rfl
theorem tw_1620 : TW (Jvm.Cond.instanceMethod ({ cls := "ThousandLeafletsModel", name := "chances", desc := "(IIII)I" } : Jvm.MethodName)) := sb_7 (List.mem_of_getElem? (i := 180) rfl) rfl
theorem tw_1621 : TW (Jvm.Cond.selects "ThousandLeafletsModel" ({ cls := "ThousandLeafletsModel", name := "chances", desc := "(IIII)I" } : Jvm.MethodName) ({ cls := "ThousandLeafletsModel", name := "chances", desc := "(IIII)I" } : Jvm.MethodName)) := sb_7 (List.mem_of_getElem? (i := 181) rfl) rfl
theorem tw_1622 : TW (Jvm.Cond.code ({ cls := "ThousandLeafletsModel", name := "chances", desc := "(IIII)I" } : Jvm.MethodName) prog_14_method_88_code (5 : Nat) (Option.some Jvm.ClassFile.FieldType.int)) := sb_7 (List.mem_of_getElem? (i := 182) rfl) rfl
theorem tw_1623 : TW (Jvm.Cond.methodLink "ThousandLeafletsModel" (377 : Nat) ({ cls := "ThousandLeafletsModel", name := "areChances", desc := "(III)Z" } : Jvm.MethodName)) := sb_7 (List.mem_of_getElem? (i := 183) rfl) rfl
theorem tw_1625 : TW (Jvm.Cond.instanceMethod ({ cls := "ThousandLeafletsModel", name := "areChances", desc := "(III)Z" } : Jvm.MethodName)) := sb_7 (List.mem_of_getElem? (i := 185) rfl) rfl
theorem tw_1626 : TW (Jvm.Cond.code ({ cls := "ThousandLeafletsModel", name := "areChances", desc := "(III)Z" } : Jvm.MethodName) prog_14_method_87_code (4 : Nat) (Option.some Jvm.ClassFile.FieldType.boolean)) := sb_7 (List.mem_of_getElem? (i := 186) rfl) rfl
theorem tw_1627 : TW (Jvm.Cond.methodLink "ThousandLeafletsModel" (380 : Nat) ({ cls := "ThousandLeafletsModel", name := "keepsSets", desc := "(II)V" } : Jvm.MethodName)) := sb_7 (List.mem_of_getElem? (i := 187) rfl) rfl
theorem tw_1629 : TW (Jvm.Cond.instanceMethod ({ cls := "ThousandLeafletsModel", name := "keepsSets", desc := "(II)V" } : Jvm.MethodName)) := sb_7 (List.mem_of_getElem? (i := 189) rfl) rfl
theorem tw_1630 : TW (Jvm.Cond.code ({ cls := "ThousandLeafletsModel", name := "keepsSets", desc := "(II)V" } : Jvm.MethodName) prog_14_method_86_code (4 : Nat) (Option.none : Option Jvm.ClassFile.FieldType)) := sb_7 (List.mem_of_getElem? (i := 190) rfl) rfl
theorem tw_1631 : TW (Jvm.Cond.methodLink "ThousandLeafletsModel" (383 : Nat) ({ cls := "ThousandLeafletsModel", name := "chancesOf", desc := "(IIII)I" } : Jvm.MethodName)) := sb_7 (List.mem_of_getElem? (i := 191) rfl) rfl
theorem tw_1633 : TW (Jvm.Cond.instanceMethod ({ cls := "ThousandLeafletsModel", name := "chancesOf", desc := "(IIII)I" } : Jvm.MethodName)) := sb_7 (List.mem_of_getElem? (i := 193) rfl) rfl
theorem tw_1634 : TW (Jvm.Cond.code ({ cls := "ThousandLeafletsModel", name := "chancesOf", desc := "(IIII)I" } : Jvm.MethodName) prog_14_method_85_code (8 : Nat) (Option.some Jvm.ClassFile.FieldType.int)) := sb_7 (List.mem_of_getElem? (i := 194) rfl) rfl
theorem tw_1635 : TW (Jvm.Cond.methodLink "ThousandLeafletsLaw" (122 : Nat) ({ cls := "ThousandLeafletsModel", name := "enough", desc := "(IIIZ)I" } : Jvm.MethodName)) := sb_7 (List.mem_of_getElem? (i := 195) rfl) rfl
theorem tw_1636 : TW (Jvm.Cond.instanceMethod ({ cls := "ThousandLeafletsModel", name := "enough", desc := "(IIIZ)I" } : Jvm.MethodName)) := sb_7 (List.mem_of_getElem? (i := 196) rfl) rfl
theorem tw_1637 : TW (Jvm.Cond.selects "ThousandLeafletsModel" ({ cls := "ThousandLeafletsModel", name := "enough", desc := "(IIIZ)I" } : Jvm.MethodName) ({ cls := "ThousandLeafletsModel", name := "enough", desc := "(IIIZ)I" } : Jvm.MethodName)) := sb_7 (List.mem_of_getElem? (i := 197) rfl) rfl
theorem tw_1638 : TW (Jvm.Cond.code ({ cls := "ThousandLeafletsModel", name := "enough", desc := "(IIIZ)I" } : Jvm.MethodName) prog_14_method_90_code (7 : Nat) (Option.some Jvm.ClassFile.FieldType.int)) := sb_7 (List.mem_of_getElem? (i := 198) rfl) rfl
theorem tw_1639 : TW (Jvm.Cond.methodLink "ThousandLeafletsModel" (387 : Nat) ({ cls := "ThousandLeafletsModel", name := "choices", desc := "(II)I" } : Jvm.MethodName)) := sb_7 (List.mem_of_getElem? (i := 199) rfl) rfl
theorem tw_1640 : TW (Jvm.Cond.static ({ cls := "ThousandLeafletsModel", name := "choices", desc := "(II)I" } : Jvm.MethodName)) := sb_7 (List.mem_of_getElem? (i := 200) rfl) rfl
theorem tw_1641 : TW (Jvm.Cond.code ({ cls := "ThousandLeafletsModel", name := "choices", desc := "(II)I" } : Jvm.MethodName) prog_14_method_89_code (4 : Nat) (Option.some Jvm.ClassFile.FieldType.int)) := sb_7 (List.mem_of_getElem? (i := 201) rfl) rfl
theorem tw_1642 : TW (Jvm.Cond.methodLink "ThousandLeafletsLaw" (127 : Nat) ({ cls := "ThousandLeafletsModel", name := "average", desc := "(IIII)J" } : Jvm.MethodName)) := sb_7 (List.mem_of_getElem? (i := 202) rfl) rfl
theorem tw_1643 : TW (Jvm.Cond.instanceMethod ({ cls := "ThousandLeafletsModel", name := "average", desc := "(IIII)J" } : Jvm.MethodName)) := sb_7 (List.mem_of_getElem? (i := 203) rfl) rfl
theorem tw_1644 : TW (Jvm.Cond.selects "ThousandLeafletsModel" ({ cls := "ThousandLeafletsModel", name := "average", desc := "(IIII)J" } : Jvm.MethodName) ({ cls := "ThousandLeafletsModel", name := "average", desc := "(IIII)J" } : Jvm.MethodName)) := sb_7 (List.mem_of_getElem? (i := 204) rfl) rfl
theorem tw_1645 : TW (Jvm.Cond.code ({ cls := "ThousandLeafletsModel", name := "average", desc := "(IIII)J" } : Jvm.MethodName) prog_14_method_92_code (16 : Nat) (Option.some Jvm.ClassFile.FieldType.long)) := sb_7 (List.mem_of_getElem? (i := 205) rfl) rfl
theorem tw_1646 : TW (Jvm.Cond.constantLong "ThousandLeafletsModel" (390 : Nat) (-1 : Int64)) := sb_7 (List.mem_of_getElem? (i := 206) rfl) rfl
theorem tw_1647 : TW (Jvm.Cond.methodLink "ThousandLeafletsModel" (392 : Nat) ({ cls := "ThousandLeafletsModel", name := "common", desc := "(JJ)J" } : Jvm.MethodName)) := sb_7 (List.mem_of_getElem? (i := 207) rfl) rfl
theorem tw_1648 : TW (Jvm.Cond.static ({ cls := "ThousandLeafletsModel", name := "common", desc := "(JJ)J" } : Jvm.MethodName)) := sb_7 (List.mem_of_getElem? (i := 208) rfl) rfl
theorem tw_1649 : TW (Jvm.Cond.code ({ cls := "ThousandLeafletsModel", name := "common", desc := "(JJ)J" } : Jvm.MethodName) prog_14_method_91_code (10 : Nat) (Option.some Jvm.ClassFile.FieldType.long)) := sb_7 (List.mem_of_getElem? (i := 209) rfl) rfl
theorem tw_1650 : TW (Jvm.Cond.methodLink "ThousandLeafletsLaw" (131 : Nat) ({ cls := "ThousandLeafletsModel", name := "degree", desc := "(IIII)I" } : Jvm.MethodName)) := sb_7 (List.mem_of_getElem? (i := 210) rfl) rfl
theorem tw_1651 : TW (Jvm.Cond.instanceMethod ({ cls := "ThousandLeafletsModel", name := "degree", desc := "(IIII)I" } : Jvm.MethodName)) := sb_7 (List.mem_of_getElem? (i := 211) rfl) rfl
theorem tw_1652 : TW (Jvm.Cond.selects "ThousandLeafletsModel" ({ cls := "ThousandLeafletsModel", name := "degree", desc := "(IIII)I" } : Jvm.MethodName) ({ cls := "ThousandLeafletsModel", name := "degree", desc := "(IIII)I" } : Jvm.MethodName)) := sb_7 (List.mem_of_getElem? (i := 212) rfl) rfl
theorem tw_1653 : TW (Jvm.Cond.code ({ cls := "ThousandLeafletsModel", name := "degree", desc := "(IIII)I" } : Jvm.MethodName) prog_14_method_93_code (9 : Nat) (Option.some Jvm.ClassFile.FieldType.int)) := sb_7 (List.mem_of_getElem? (i := 213) rfl) rfl
theorem tw_1654 : TW (Jvm.Cond.methodLink "ThousandLeafletsLaw" (135 : Nat) ({ cls := "ThousandLeafletsModel", name := "apart", desc := "(II)I" } : Jvm.MethodName)) := sb_7 (List.mem_of_getElem? (i := 214) rfl) rfl
theorem tw_1655 : TW (Jvm.Cond.instanceMethod ({ cls := "ThousandLeafletsModel", name := "apart", desc := "(II)I" } : Jvm.MethodName)) := sb_7 (List.mem_of_getElem? (i := 215) rfl) rfl
theorem tw_1656 : TW (Jvm.Cond.selects "ThousandLeafletsModel" ({ cls := "ThousandLeafletsModel", name := "apart", desc := "(II)I" } : Jvm.MethodName) ({ cls := "ThousandLeafletsModel", name := "apart", desc := "(II)I" } : Jvm.MethodName)) := sb_7 (List.mem_of_getElem? (i := 216) rfl) rfl
theorem tw_1657 : TW (Jvm.Cond.code ({ cls := "ThousandLeafletsModel", name := "apart", desc := "(II)I" } : Jvm.MethodName) prog_14_method_95_code (7 : Nat) (Option.some Jvm.ClassFile.FieldType.int)) := sb_7 (List.mem_of_getElem? (i := 217) rfl) rfl
theorem tw_1658 : TW (Jvm.Cond.methodLink "ThousandLeafletsModel" (396 : Nat) ({ cls := "ThousandLeafletsModel", name := "agreesBy", desc := "(III)Z" } : Jvm.MethodName)) := sb_7 (List.mem_of_getElem? (i := 218) rfl) rfl
theorem tw_1660 : TW (Jvm.Cond.instanceMethod ({ cls := "ThousandLeafletsModel", name := "agreesBy", desc := "(III)Z" } : Jvm.MethodName)) := sb_7 (List.mem_of_getElem? (i := 220) rfl) rfl
theorem tw_1661 : TW (Jvm.Cond.code ({ cls := "ThousandLeafletsModel", name := "agreesBy", desc := "(III)Z" } : Jvm.MethodName) prog_14_method_94_code (8 : Nat) (Option.some Jvm.ClassFile.FieldType.boolean)) := sb_7 (List.mem_of_getElem? (i := 221) rfl) rfl
theorem tw_1662 : TW (Jvm.Cond.methodLink "ThousandLeafletsLaw" (139 : Nat) ({ cls := "ThousandLeafletsModel", name := "quarter", desc := "(III)Z" } : Jvm.MethodName)) := sb_7 (List.mem_of_getElem? (i := 222) rfl) rfl
theorem tw_1663 : TW (Jvm.Cond.instanceMethod ({ cls := "ThousandLeafletsModel", name := "quarter", desc := "(III)Z" } : Jvm.MethodName)) := sb_7 (List.mem_of_getElem? (i := 223) rfl) rfl
theorem tw_1664 : TW (Jvm.Cond.selects "ThousandLeafletsModel" ({ cls := "ThousandLeafletsModel", name := "quarter", desc := "(III)Z" } : Jvm.MethodName) ({ cls := "ThousandLeafletsModel", name := "quarter", desc := "(III)Z" } : Jvm.MethodName)) := sb_7 (List.mem_of_getElem? (i := 224) rfl) rfl
theorem tw_1665 : TW (Jvm.Cond.code ({ cls := "ThousandLeafletsModel", name := "quarter", desc := "(III)Z" } : Jvm.MethodName) prog_14_method_96_code (4 : Nat) (Option.some Jvm.ClassFile.FieldType.boolean)) := sb_7 (List.mem_of_getElem? (i := 225) rfl) rfl
theorem tw_1666 : TW (Jvm.Cond.methodLink "ThousandLeafletsLaw" (143 : Nat) ({ cls := "ThousandLeafletsModel", name := "scatter", desc := "(III)I" } : Jvm.MethodName)) := sb_7 (List.mem_of_getElem? (i := 226) rfl) rfl
theorem tw_1667 : TW (Jvm.Cond.instanceMethod ({ cls := "ThousandLeafletsModel", name := "scatter", desc := "(III)I" } : Jvm.MethodName)) := sb_7 (List.mem_of_getElem? (i := 227) rfl) rfl
theorem tw_1668 : TW (Jvm.Cond.selects "ThousandLeafletsModel" ({ cls := "ThousandLeafletsModel", name := "scatter", desc := "(III)I" } : Jvm.MethodName) ({ cls := "ThousandLeafletsModel", name := "scatter", desc := "(III)I" } : Jvm.MethodName)) := sb_7 (List.mem_of_getElem? (i := 228) rfl) rfl
theorem tw_1669 : TW (Jvm.Cond.code ({ cls := "ThousandLeafletsModel", name := "scatter", desc := "(III)I" } : Jvm.MethodName) prog_14_method_100_code (9 : Nat) (Option.some Jvm.ClassFile.FieldType.int)) := sb_7 (List.mem_of_getElem? (i := 229) rfl) rfl
theorem tw_1670 : TW (Jvm.Cond.methodLink "ThousandLeafletsModel" (402 : Nat) ({ cls := "ThousandLeafletsModel", name := "falls", desc := "(III)Z" } : Jvm.MethodName)) := sb_7 (List.mem_of_getElem? (i := 230) rfl) rfl
theorem tw_1672 : TW (Jvm.Cond.instanceMethod ({ cls := "ThousandLeafletsModel", name := "falls", desc := "(III)Z" } : Jvm.MethodName)) := sb_7 (List.mem_of_getElem? (i := 232) rfl) rfl
theorem tw_1673 : TW (Jvm.Cond.code ({ cls := "ThousandLeafletsModel", name := "falls", desc := "(III)Z" } : Jvm.MethodName) prog_14_method_97_code (4 : Nat) (Option.some Jvm.ClassFile.FieldType.boolean)) := sb_7 (List.mem_of_getElem? (i := 233) rfl) rfl
theorem tw_1674 : TW (Jvm.Cond.methodLink "ThousandLeafletsModel" (405 : Nat) ({ cls := "ThousandLeafletsModel", name := "hasAlike", desc := "(II)Z" } : Jvm.MethodName)) := sb_7 (List.mem_of_getElem? (i := 234) rfl) rfl
theorem tw_1676 : TW (Jvm.Cond.instanceMethod ({ cls := "ThousandLeafletsModel", name := "hasAlike", desc := "(II)Z" } : Jvm.MethodName)) := sb_7 (List.mem_of_getElem? (i := 236) rfl) rfl
theorem tw_1677 : TW (Jvm.Cond.code ({ cls := "ThousandLeafletsModel", name := "hasAlike", desc := "(II)Z" } : Jvm.MethodName) prog_14_method_99_code (5 : Nat) (Option.some Jvm.ClassFile.FieldType.boolean)) := sb_7 (List.mem_of_getElem? (i := 237) rfl) rfl
theorem tw_1678 : TW (Jvm.Cond.methodLink "ThousandLeafletsModel" (399 : Nat) ({ cls := "ThousandLeafletsModel", name := "isAlike", desc := "(II)Z" } : Jvm.MethodName)) := sb_7 (List.mem_of_getElem? (i := 238) rfl) rfl
theorem tw_1680 : TW (Jvm.Cond.instanceMethod ({ cls := "ThousandLeafletsModel", name := "isAlike", desc := "(II)Z" } : Jvm.MethodName)) := sb_8 (List.mem_of_getElem? (i := 0) rfl) rfl
theorem tw_1681 : TW (Jvm.Cond.code ({ cls := "ThousandLeafletsModel", name := "isAlike", desc := "(II)Z" } : Jvm.MethodName) prog_14_method_98_code (3 : Nat) (Option.some Jvm.ClassFile.FieldType.boolean)) := sb_8 (List.mem_of_getElem? (i := 1) rfl) rfl
theorem tw_1682 : TW (Jvm.Cond.methodLink "ThousandLeafletsLaw" (147 : Nat) ({ cls := "ThousandLeafletsModel", name := "needs", desc := "(II)I" } : Jvm.MethodName)) := sb_8 (List.mem_of_getElem? (i := 2) rfl) rfl
theorem tw_1683 : TW (Jvm.Cond.instanceMethod ({ cls := "ThousandLeafletsModel", name := "needs", desc := "(II)I" } : Jvm.MethodName)) := sb_8 (List.mem_of_getElem? (i := 3) rfl) rfl
theorem tw_1684 : TW (Jvm.Cond.selects "ThousandLeafletsModel" ({ cls := "ThousandLeafletsModel", name := "needs", desc := "(II)I" } : Jvm.MethodName) ({ cls := "ThousandLeafletsModel", name := "needs", desc := "(II)I" } : Jvm.MethodName)) := sb_8 (List.mem_of_getElem? (i := 4) rfl) rfl
theorem tw_1685 : TW (Jvm.Cond.code ({ cls := "ThousandLeafletsModel", name := "needs", desc := "(II)I" } : Jvm.MethodName) prog_14_method_102_code (4 : Nat) (Option.some Jvm.ClassFile.FieldType.int)) := sb_8 (List.mem_of_getElem? (i := 5) rfl) rfl
theorem tw_1686 : TW (Jvm.Cond.methodLink "ThousandLeafletsModel" (408 : Nat) ({ cls := "ThousandLeafletsModel", name := "needsOf", desc := "(II)I" } : Jvm.MethodName)) := sb_8 (List.mem_of_getElem? (i := 6) rfl) rfl
theorem tw_1688 : TW (Jvm.Cond.instanceMethod ({ cls := "ThousandLeafletsModel", name := "needsOf", desc := "(II)I" } : Jvm.MethodName)) := sb_8 (List.mem_of_getElem? (i := 8) rfl) rfl
theorem tw_1689 : TW (Jvm.Cond.code ({ cls := "ThousandLeafletsModel", name := "needsOf", desc := "(II)I" } : Jvm.MethodName) prog_14_method_101_code (4 : Nat) (Option.some Jvm.ClassFile.FieldType.int)) := sb_8 (List.mem_of_getElem? (i := 9) rfl) rfl
theorem tw_1690 : TW (Jvm.Cond.methodLink "ThousandLeafletsLaw" (151 : Nat) ({ cls := "ThousandLeafletsModel", name := "town", desc := "(II)I" } : Jvm.MethodName)) := sb_8 (List.mem_of_getElem? (i := 10) rfl) rfl
theorem tw_1691 : TW (Jvm.Cond.instanceMethod ({ cls := "ThousandLeafletsModel", name := "town", desc := "(II)I" } : Jvm.MethodName)) := sb_8 (List.mem_of_getElem? (i := 11) rfl) rfl
theorem tw_1692 : TW (Jvm.Cond.selects "ThousandLeafletsModel" ({ cls := "ThousandLeafletsModel", name := "town", desc := "(II)I" } : Jvm.MethodName) ({ cls := "ThousandLeafletsModel", name := "town", desc := "(II)I" } : Jvm.MethodName)) := sb_8 (List.mem_of_getElem? (i := 12) rfl) rfl
theorem tw_1693 : TW (Jvm.Cond.code ({ cls := "ThousandLeafletsModel", name := "town", desc := "(II)I" } : Jvm.MethodName) prog_14_method_104_code (6 : Nat) (Option.some Jvm.ClassFile.FieldType.int)) := sb_8 (List.mem_of_getElem? (i := 13) rfl) rfl
theorem tw_1694 : TW (Jvm.Cond.methodLink "ThousandLeafletsModel" (411 : Nat) ({ cls := "ThousandLeafletsModel", name := "allHouses", desc := "()I" } : Jvm.MethodName)) := sb_8 (List.mem_of_getElem? (i := 14) rfl) rfl
theorem tw_1696 : TW (Jvm.Cond.instanceMethod ({ cls := "ThousandLeafletsModel", name := "allHouses", desc := "()I" } : Jvm.MethodName)) := sb_8 (List.mem_of_getElem? (i := 16) rfl) rfl
theorem tw_1697 : TW (Jvm.Cond.code ({ cls := "ThousandLeafletsModel", name := "allHouses", desc := "()I" } : Jvm.MethodName) prog_14_method_103_code (3 : Nat) (Option.some Jvm.ClassFile.FieldType.int)) := sb_8 (List.mem_of_getElem? (i := 17) rfl) rfl
theorem tw_1698 : TW (Jvm.Cond.methodLink "ThousandLeafletsLaw" (155 : Nat) ({ cls := "ThousandLeafletsModel", name := "swap", desc := "(III)I" } : Jvm.MethodName)) := sb_8 (List.mem_of_getElem? (i := 18) rfl) rfl
theorem tw_1699 : TW (Jvm.Cond.instanceMethod ({ cls := "ThousandLeafletsModel", name := "swap", desc := "(III)I" } : Jvm.MethodName)) := sb_8 (List.mem_of_getElem? (i := 19) rfl) rfl
theorem tw_1700 : TW (Jvm.Cond.selects "ThousandLeafletsModel" ({ cls := "ThousandLeafletsModel", name := "swap", desc := "(III)I" } : Jvm.MethodName) ({ cls := "ThousandLeafletsModel", name := "swap", desc := "(III)I" } : Jvm.MethodName)) := sb_8 (List.mem_of_getElem? (i := 20) rfl) rfl
theorem tw_1701 : TW (Jvm.Cond.code ({ cls := "ThousandLeafletsModel", name := "swap", desc := "(III)I" } : Jvm.MethodName) prog_14_method_105_code (8 : Nat) (Option.some Jvm.ClassFile.FieldType.int)) := sb_8 (List.mem_of_getElem? (i := 21) rfl) rfl
theorem tw_1702 : TW (Jvm.Cond.methodLink "ThousandLeafletsLaw" (164 : Nat) ({ cls := "ThousandLeafletsModel", name := "count", desc := "(I)I" } : Jvm.MethodName)) := sb_8 (List.mem_of_getElem? (i := 22) rfl) rfl
theorem tw_1703 : TW (Jvm.Cond.instanceMethod ({ cls := "ThousandLeafletsModel", name := "count", desc := "(I)I" } : Jvm.MethodName)) := sb_8 (List.mem_of_getElem? (i := 23) rfl) rfl
theorem tw_1704 : TW (Jvm.Cond.selects "ThousandLeafletsModel" ({ cls := "ThousandLeafletsModel", name := "count", desc := "(I)I" } : Jvm.MethodName) ({ cls := "ThousandLeafletsModel", name := "count", desc := "(I)I" } : Jvm.MethodName)) := sb_8 (List.mem_of_getElem? (i := 24) rfl) rfl
theorem tw_1705 : TW (Jvm.Cond.code ({ cls := "ThousandLeafletsModel", name := "count", desc := "(I)I" } : Jvm.MethodName) prog_14_method_106_code (2 : Nat) (Option.some Jvm.ClassFile.FieldType.int)) := sb_8 (List.mem_of_getElem? (i := 25) rfl) rfl
theorem tw_1706 : TW (Jvm.Cond.constantLong "ThousandLeafletsLaw" (29 : Nat) (4294967295 : Int64)) := sb_8 (List.mem_of_getElem? (i := 26) rfl) rfl
theorem ul_X0 : ∀ k, k < 4 → TW (u_lay RX0 TX0 k)
  | 0, _ => tw_187
  | 1, _ => tw_189
  | 2, _ => tw_191
  | 3, _ => tw_193
  | k + 4, h => absurd h (by omega)
theorem us_X0 : ∀ w ∈ u_ws RX0 TX0 4, TW w := TWs ul_X0
theorem df_X0 : ∀ j, j < 4 → defaultValue (tyX0 j) = vp_V (fl0 (ft 0)) j := by decide +kernel
theorem ul_X1 : ∀ k, k < 7 → TW (u_lay RX1 TX1 k)
  | 0, _ => tw_304
  | 1, _ => tw_306
  | 2, _ => tw_308
  | 3, _ => tw_310
  | 4, _ => tw_312
  | 5, _ => tw_314
  | 6, _ => tw_316
  | k + 7, h => absurd h (by omega)
theorem us_X1 : ∀ w ∈ u_ws RX1 TX1 7, TW w := TWs ul_X1
theorem df_X1 : ∀ j, j < 7 → defaultValue (tyX1 j) = vp_V (fl0 (ft 1)) j := by decide +kernel
theorem ul_X2 : ∀ k, k < 7 → TW (u_lay RX2 TX2 k)
  | 0, _ => tw_239
  | 1, _ => tw_241
  | 2, _ => tw_243
  | 3, _ => tw_245
  | 4, _ => tw_247
  | 5, _ => tw_249
  | 6, _ => tw_251
  | k + 7, h => absurd h (by omega)
theorem us_X2 : ∀ w ∈ u_ws RX2 TX2 7, TW w := TWs ul_X2
theorem df_X2 : ∀ j, j < 7 → defaultValue (tyX2 j) = vp_V (fl0 (ft 2)) j := by decide +kernel
theorem ul_X3 : ∀ k, k < 6 → TW (u_lay RX3 TX3 k)
  | 0, _ => tw_105
  | 1, _ => tw_107
  | 2, _ => tw_109
  | 3, _ => tw_111
  | 4, _ => tw_113
  | 5, _ => tw_115
  | k + 6, h => absurd h (by omega)
theorem us_X3 : ∀ w ∈ u_ws RX3 TX3 6, TW w := TWs ul_X3
theorem df_X3 : ∀ j, j < 6 → defaultValue (tyX3 j) = vp_V (fl0 (ft 3)) j := by decide +kernel
theorem ul_X4 : ∀ k, k < 2 → TW (u_lay RX4 TX4 k)
  | 0, _ => tw_122
  | 1, _ => tw_124
  | k + 2, h => absurd h (by omega)
theorem us_X4 : ∀ w ∈ u_ws RX4 TX4 2, TW w := TWs ul_X4
theorem df_X4 : ∀ j, j < 2 → defaultValue (tyX4 j) = vp_V (fl0 (ft 4)) j := by decide +kernel
theorem ul_X5 : ∀ k, k < 6 → TW (u_lay RX5 TX5 k)
  | 0, _ => tw_156
  | 1, _ => tw_158
  | 2, _ => tw_160
  | 3, _ => tw_162
  | 4, _ => tw_164
  | 5, _ => tw_166
  | k + 6, h => absurd h (by omega)
theorem us_X5 : ∀ w ∈ u_ws RX5 TX5 6, TW w := TWs ul_X5
theorem df_X5 : ∀ j, j < 6 → defaultValue (tyX5 j) = vp_V (fl0 (ft 5)) j := by decide +kernel
theorem ul_X6 : ∀ k, k < 2 → TW (u_lay RX6 TX6 k)
  | 0, _ => tw_329
  | 1, _ => tw_331
  | k + 2, h => absurd h (by omega)
theorem us_X6 : ∀ w ∈ u_ws RX6 TX6 2, TW w := TWs ul_X6
theorem df_X6 : ∀ j, j < 2 → defaultValue (tyX6 j) = vp_V (fl0 (ft 6)) j := by decide +kernel
theorem ul_X7 : ∀ k, k < 7 → TW (u_lay RX7 TX7 k)
  | 0, _ => tw_672
  | 1, _ => tw_674
  | 2, _ => tw_676
  | 3, _ => tw_678
  | 4, _ => tw_680
  | 5, _ => tw_682
  | 6, _ => tw_684
  | k + 7, h => absurd h (by omega)
theorem us_X7 : ∀ w ∈ u_ws RX7 TX7 7, TW w := TWs ul_X7
theorem df_X7 : ∀ j, j < 7 → defaultValue (tyX7 j) = vp_V (fl0 (ft 7)) j := by decide +kernel
theorem ul_X8 : ∀ k, k < 8 → TW (u_lay RX8 TX8 k)
  | 0, _ => tw_205
  | 1, _ => tw_207
  | 2, _ => tw_209
  | 3, _ => tw_211
  | 4, _ => tw_213
  | 5, _ => tw_215
  | 6, _ => tw_217
  | 7, _ => tw_219
  | k + 8, h => absurd h (by omega)
theorem us_X8 : ∀ w ∈ u_ws RX8 TX8 8, TW w := TWs ul_X8
theorem df_X8 : ∀ j, j < 8 → defaultValue (tyX8 j) = vp_V (fl0 (ft 8)) j := by decide +kernel
theorem ul_X9 : ∀ k, k < 6 → TW (u_lay RX9 TX9 k)
  | 0, _ => tw_60
  | 1, _ => tw_62
  | 2, _ => tw_64
  | 3, _ => tw_66
  | 4, _ => tw_68
  | 5, _ => tw_70
  | k + 6, h => absurd h (by omega)
theorem us_X9 : ∀ w ∈ u_ws RX9 TX9 6, TW w := TWs ul_X9
theorem df_X9 : ∀ j, j < 6 → defaultValue (tyX9 j) = vp_V (fl0 (ft 9)) j := by decide +kernel
theorem ul_X10 : ∀ k, k < 6 → TW (u_lay RX10 TX10 k)
  | 0, _ => tw_270
  | 1, _ => tw_272
  | 2, _ => tw_274
  | 3, _ => tw_276
  | 4, _ => tw_278
  | 5, _ => tw_280
  | k + 6, h => absurd h (by omega)
theorem us_X10 : ∀ w ∈ u_ws RX10 TX10 6, TW w := TWs ul_X10
theorem df_X10 : ∀ j, j < 6 → defaultValue (tyX10 j) = vp_V (fl0 (ft 10)) j := by decide +kernel
theorem ul_X11 : ∀ k, k < 14 → TW (u_lay RX11 TX11 k)
  | 0, _ => tw_350
  | 1, _ => tw_352
  | 2, _ => tw_354
  | 3, _ => tw_356
  | 4, _ => tw_358
  | 5, _ => tw_360
  | 6, _ => tw_362
  | 7, _ => tw_364
  | 8, _ => tw_366
  | 9, _ => tw_368
  | 10, _ => tw_370
  | 11, _ => tw_372
  | 12, _ => tw_374
  | 13, _ => tw_376
  | k + 14, h => absurd h (by omega)
theorem us_X11 : ∀ w ∈ u_ws RX11 TX11 14, TW w := TWs ul_X11
theorem df_X11 : ∀ j, j < 14 → defaultValue (tyX11 j) = vp_V (fl0 (ft 11)) j := by decide +kernel
theorem ul_X12 : ∀ k, k < 48 → TW (u_lay RX12 TX12 k)
  | 0, _ => tw_1208
  | 1, _ => tw_1210
  | 2, _ => tw_1212
  | 3, _ => tw_1214
  | 4, _ => tw_1216
  | 5, _ => tw_1218
  | 6, _ => tw_1220
  | 7, _ => tw_1222
  | 8, _ => tw_1224
  | 9, _ => tw_1226
  | 10, _ => tw_1228
  | 11, _ => tw_1230
  | 12, _ => tw_1232
  | 13, _ => tw_1234
  | 14, _ => tw_1236
  | 15, _ => tw_1238
  | 16, _ => tw_1240
  | 17, _ => tw_1242
  | 18, _ => tw_1244
  | 19, _ => tw_1246
  | 20, _ => tw_1248
  | 21, _ => tw_1250
  | 22, _ => tw_1252
  | 23, _ => tw_1254
  | 24, _ => tw_1256
  | 25, _ => tw_1258
  | 26, _ => tw_1260
  | 27, _ => tw_1262
  | 28, _ => tw_1264
  | 29, _ => tw_1266
  | 30, _ => tw_1268
  | 31, _ => tw_1270
  | 32, _ => tw_1272
  | 33, _ => tw_1274
  | 34, _ => tw_1276
  | 35, _ => tw_1278
  | 36, _ => tw_1280
  | 37, _ => tw_1282
  | 38, _ => tw_1284
  | 39, _ => tw_1286
  | 40, _ => tw_1288
  | 41, _ => tw_1290
  | 42, _ => tw_1292
  | 43, _ => tw_1294
  | 44, _ => tw_1296
  | 45, _ => tw_1298
  | 46, _ => tw_1300
  | 47, _ => tw_1302
  | k + 48, h => absurd h (by omega)
theorem us_X12 : ∀ w ∈ u_ws RX12 TX12 48, TW w := TWs ul_X12
theorem df_X12 : ∀ j, j < 48 → defaultValue (tyX12 j) = vp_V (fl0 (ft 12)) j := by decide +kernel
theorem cl_L_8 : TW (.classLink RL 8 RX11) := tw_26
theorem ni_L_8 : NI RL 8 11 14 := ⟨RX11, TX11, tyX11, rfl, us_X11, tyX11_ok, tw_26, tw_27, tw_1, by decide, df_X11⟩
theorem cl_X11_9 : TW (.classLink RX11 9 RX1) := tw_34
theorem ni_X11_9 : NI RX11 9 1 7 := ⟨RX1, TX1, tyX1, rfl, us_X1, tyX1_ok, tw_34, tw_283, tw_10, by decide, df_X1⟩
theorem ao_X1 : TW (.arrayOver (.object RX1)) := tw_35
theorem cl_X11_15 : TW (.classLink RX11 15 RX6) := tw_36
theorem ni_X11_15 : NI RX11 15 6 2 := ⟨RX6, TX6, tyX6, rfl, us_X6, tyX6_ok, tw_36, tw_319, tw_11, by decide, df_X6⟩
theorem ao_X6 : TW (.arrayOver (.object RX6)) := tw_37
theorem cl_X11_38 : TW (.classLink RX11 38 RX4) := tw_38
theorem ni_X11_38 : NI RX11 38 4 2 := ⟨RX4, TX4, tyX4, rfl, us_X4, tyX4_ok, tw_38, tw_39, tw_2, by decide, df_X4⟩
theorem cl_X4_9 : TW (.classLink RX4 9 RX9) := tw_44
theorem ni_X4_9 : NI RX4 9 9 6 := ⟨RX9, TX9, tyX9, rfl, us_X9, tyX9_ok, tw_44, tw_45, tw_3, by decide, df_X9⟩
theorem fi_X9_9 : FI RX9 9 9 0 1 true := ⟨RX9, TX9, 6, tyX9, rfl, us_X9, tyX9_ok, nmX9, by decide, tw_50, rfl, by decide, rfl, rfl, rfl, Or.inr ⟨_, rfl⟩⟩
theorem fi_X9_15 : FI RX9 15 9 1 0 false := ⟨RX9, TX9, 6, tyX9, rfl, us_X9, tyX9_ok, nmX9, by decide, tw_51, rfl, by decide, rfl, rfl, rfl, rfl⟩
theorem fi_X11_121 : FI RX11 121 9 1 0 false := ⟨RX9, TX9, 6, tyX9, rfl, us_X9, tyX9_ok, nmX9, by decide, tw_52, rfl, by decide, rfl, rfl, rfl, rfl⟩
theorem fi_X4_34 : FI RX4 34 9 2 0 false := ⟨RX9, TX9, 6, tyX9, rfl, us_X9, tyX9_ok, nmX9, by decide, tw_53, rfl, by decide, rfl, rfl, rfl, rfl⟩
theorem fi_X9_25 : FI RX9 25 9 2 0 false := ⟨RX9, TX9, 6, tyX9, rfl, us_X9, tyX9_ok, nmX9, by decide, tw_54, rfl, by decide, rfl, rfl, rfl, rfl⟩
theorem fi_X9_22 : FI RX9 22 9 3 0 false := ⟨RX9, TX9, 6, tyX9, rfl, us_X9, tyX9_ok, nmX9, by decide, tw_55, rfl, by decide, rfl, rfl, rfl, rfl⟩
theorem fi_X4_96 : FI RX4 96 9 3 0 false := ⟨RX9, TX9, 6, tyX9, rfl, us_X9, tyX9_ok, nmX9, by decide, tw_56, rfl, by decide, rfl, rfl, rfl, rfl⟩
theorem fi_X9_19 : FI RX9 19 9 4 0 false := ⟨RX9, TX9, 6, tyX9, rfl, us_X9, tyX9_ok, nmX9, by decide, tw_57, rfl, by decide, rfl, rfl, rfl, rfl⟩
theorem fi_X4_82 : FI RX4 82 9 5 0 false := ⟨RX9, TX9, 6, tyX9, rfl, us_X9, tyX9_ok, nmX9, by decide, tw_58, rfl, by decide, rfl, rfl, rfl, rfl⟩
theorem fi_X9_36 : FI RX9 36 9 5 0 false := ⟨RX9, TX9, 6, tyX9, rfl, us_X9, tyX9_ok, nmX9, by decide, tw_59, rfl, by decide, rfl, rfl, rfl, rfl⟩
theorem ac_boolean : TW (.arrayClass .boolean) := tw_73
theorem ac_int : TW (.arrayClass .int) := tw_74
theorem cl_X4_18 : TW (.classLink RX4 18 RX3) := tw_75
theorem ni_X4_18 : NI RX4 18 3 6 := ⟨RX3, TX3, tyX3, rfl, us_X3, tyX3_ok, tw_75, tw_76, tw_4, by decide, df_X3⟩
theorem fi_X3_9 : FI RX3 9 3 0 1 true := ⟨RX3, TX3, 6, tyX3, rfl, us_X3, tyX3_ok, nmX3, by decide, tw_85, rfl, by decide, rfl, rfl, rfl, Or.inr ⟨_, rfl⟩⟩
theorem fi_X4_85 : FI RX4 85 3 0 1 true := ⟨RX3, TX3, 6, tyX3, rfl, us_X3, tyX3_ok, nmX3, by decide, tw_86, rfl, by decide, rfl, rfl, rfl, Or.inr ⟨_, rfl⟩⟩
theorem fi_X3_15 : FI RX3 15 3 1 1 true := ⟨RX3, TX3, 6, tyX3, rfl, us_X3, tyX3_ok, nmX3, by decide, tw_87, rfl, by decide, rfl, rfl, rfl, Or.inr ⟨_, rfl⟩⟩
theorem fi_X5_40 : FI RX5 40 3 1 1 true := ⟨RX3, TX3, 6, tyX3, rfl, us_X3, tyX3_ok, nmX3, by decide, tw_88, rfl, by decide, rfl, rfl, rfl, Or.inr ⟨_, rfl⟩⟩
theorem fi_X4_94 : FI RX4 94 3 1 1 true := ⟨RX3, TX3, 6, tyX3, rfl, us_X3, tyX3_ok, nmX3, by decide, tw_89, rfl, by decide, rfl, rfl, rfl, Or.inr ⟨_, rfl⟩⟩
theorem fi_X1_53 : FI RX1 53 3 1 1 true := ⟨RX3, TX3, 6, tyX3, rfl, us_X3, tyX3_ok, nmX3, by decide, tw_90, rfl, by decide, rfl, rfl, rfl, Or.inr ⟨_, rfl⟩⟩
theorem fi_X5_35 : FI RX5 35 3 2 0 false := ⟨RX3, TX3, 6, tyX3, rfl, us_X3, tyX3_ok, nmX3, by decide, tw_91, rfl, by decide, rfl, rfl, rfl, rfl⟩
theorem fi_X3_21 : FI RX3 21 3 2 0 false := ⟨RX3, TX3, 6, tyX3, rfl, us_X3, tyX3_ok, nmX3, by decide, tw_92, rfl, by decide, rfl, rfl, rfl, rfl⟩
theorem fi_X4_65 : FI RX4 65 3 2 0 false := ⟨RX3, TX3, 6, tyX3, rfl, us_X3, tyX3_ok, nmX3, by decide, tw_93, rfl, by decide, rfl, rfl, rfl, rfl⟩
theorem fi_X1_46 : FI RX1 46 3 2 0 false := ⟨RX3, TX3, 6, tyX3, rfl, us_X3, tyX3_ok, nmX3, by decide, tw_94, rfl, by decide, rfl, rfl, rfl, rfl⟩
theorem fi_X3_25 : FI RX3 25 3 3 0 false := ⟨RX3, TX3, 6, tyX3, rfl, us_X3, tyX3_ok, nmX3, by decide, tw_95, rfl, by decide, rfl, rfl, rfl, rfl⟩
theorem fi_X4_54 : FI RX4 54 3 3 0 false := ⟨RX3, TX3, 6, tyX3, rfl, us_X3, tyX3_ok, nmX3, by decide, tw_96, rfl, by decide, rfl, rfl, rfl, rfl⟩
theorem fi_X1_92 : FI RX1 92 3 3 0 false := ⟨RX3, TX3, 6, tyX3, rfl, us_X3, tyX3_ok, nmX3, by decide, tw_97, rfl, by decide, rfl, rfl, rfl, rfl⟩
theorem fi_X3_28 : FI RX3 28 3 4 0 false := ⟨RX3, TX3, 6, tyX3, rfl, us_X3, tyX3_ok, nmX3, by decide, tw_98, rfl, by decide, rfl, rfl, rfl, rfl⟩
theorem fi_X4_91 : FI RX4 91 3 4 0 false := ⟨RX3, TX3, 6, tyX3, rfl, us_X3, tyX3_ok, nmX3, by decide, tw_99, rfl, by decide, rfl, rfl, rfl, rfl⟩
theorem fi_X1_95 : FI RX1 95 3 4 0 false := ⟨RX3, TX3, 6, tyX3, rfl, us_X3, tyX3_ok, nmX3, by decide, tw_100, rfl, by decide, rfl, rfl, rfl, rfl⟩
theorem fi_X3_31 : FI RX3 31 3 5 0 false := ⟨RX3, TX3, 6, tyX3, rfl, us_X3, tyX3_ok, nmX3, by decide, tw_101, rfl, by decide, rfl, rfl, rfl, rfl⟩
theorem fi_X4_73 : FI RX4 73 3 5 0 false := ⟨RX3, TX3, 6, tyX3, rfl, us_X3, tyX3_ok, nmX3, by decide, tw_102, rfl, by decide, rfl, rfl, rfl, rfl⟩
theorem fi_X1_60 : FI RX1 60 3 5 0 false := ⟨RX3, TX3, 6, tyX3, rfl, us_X3, tyX3_ok, nmX3, by decide, tw_103, rfl, by decide, rfl, rfl, rfl, rfl⟩
theorem fi_X11_357 : FI RX11 357 3 5 0 false := ⟨RX3, TX3, 6, tyX3, rfl, us_X3, tyX3_ok, nmX3, by decide, tw_104, rfl, by decide, rfl, rfl, rfl, rfl⟩
theorem fi_X4_12 : FI RX4 12 4 0 1 true := ⟨RX4, TX4, 2, tyX4, rfl, us_X4, tyX4_ok, nmX4, by decide, tw_118, rfl, by decide, rfl, rfl, rfl, Or.inl ⟨_, rfl⟩⟩
theorem fi_X11_111 : FI RX11 111 4 0 1 true := ⟨RX4, TX4, 2, tyX4, rfl, us_X4, tyX4_ok, nmX4, by decide, tw_119, rfl, by decide, rfl, rfl, rfl, Or.inl ⟨_, rfl⟩⟩
theorem fi_X4_21 : FI RX4 21 4 1 1 true := ⟨RX4, TX4, 2, tyX4, rfl, us_X4, tyX4_ok, nmX4, by decide, tw_120, rfl, by decide, rfl, rfl, rfl, Or.inl ⟨_, rfl⟩⟩
theorem fi_X11_128 : FI RX11 128 4 1 1 true := ⟨RX4, TX4, 2, tyX4, rfl, us_X4, tyX4_ok, nmX4, by decide, tw_121, rfl, by decide, rfl, rfl, rfl, Or.inl ⟨_, rfl⟩⟩
theorem cl_X11_45 : TW (.classLink RX11 45 RX5) := tw_127
theorem ni_X11_45 : NI RX11 45 5 6 := ⟨RX5, TX5, tyX5, rfl, us_X5, tyX5_ok, tw_127, tw_138, tw_6, by decide, df_X5⟩
theorem ao_X5 : TW (.arrayOver (.object RX5)) := tw_128
theorem cl_X11_51 : TW (.classLink RX11 51 RX0) := tw_129
theorem ni_X11_51 : NI RX11 51 0 4 := ⟨RX0, TX0, tyX0, rfl, us_X0, tyX0_ok, tw_129, tw_171, tw_7, by decide, df_X0⟩
theorem ao_X0 : TW (.arrayOver (.object RX0)) := tw_130
theorem cl_X11_57 : TW (.classLink RX11 57 RX8) := tw_131
theorem ni_X11_57 : NI RX11 57 8 8 := ⟨RX8, TX8, tyX8, rfl, us_X8, tyX8_ok, tw_131, tw_132, tw_5, by decide, df_X8⟩
theorem cl_X8_18 : TW (.classLink RX8 18 RX5) := tw_137
theorem ni_X8_18 : NI RX8 18 5 6 := ⟨RX5, TX5, tyX5, rfl, us_X5, tyX5_ok, tw_137, tw_138, tw_6, by decide, df_X5⟩
theorem fi_X5_9 : FI RX5 9 5 0 1 true := ⟨RX5, TX5, 6, tyX5, rfl, us_X5, tyX5_ok, nmX5, by decide, tw_143, rfl, by decide, rfl, rfl, rfl, Or.inr ⟨_, rfl⟩⟩
theorem fi_X0_31 : FI RX0 31 5 0 1 true := ⟨RX5, TX5, 6, tyX5, rfl, us_X5, tyX5_ok, nmX5, by decide, tw_144, rfl, by decide, rfl, rfl, rfl, Or.inr ⟨_, rfl⟩⟩
theorem fi_X5_15 : FI RX5 15 5 1 1 true := ⟨RX5, TX5, 6, tyX5, rfl, us_X5, tyX5_ok, nmX5, by decide, tw_145, rfl, by decide, rfl, rfl, rfl, Or.inr ⟨_, rfl⟩⟩
theorem fi_X11_269 : FI RX11 269 5 1 1 true := ⟨RX5, TX5, 6, tyX5, rfl, us_X5, tyX5_ok, nmX5, by decide, tw_146, rfl, by decide, rfl, rfl, rfl, Or.inr ⟨_, rfl⟩⟩
theorem fi_X5_18 : FI RX5 18 5 2 1 true := ⟨RX5, TX5, 6, tyX5, rfl, us_X5, tyX5_ok, nmX5, by decide, tw_147, rfl, by decide, rfl, rfl, rfl, Or.inr ⟨_, rfl⟩⟩
theorem fi_X11_382 : FI RX11 382 5 2 1 true := ⟨RX5, TX5, 6, tyX5, rfl, us_X5, tyX5_ok, nmX5, by decide, tw_148, rfl, by decide, rfl, rfl, rfl, Or.inr ⟨_, rfl⟩⟩
theorem fi_X5_21 : FI RX5 21 5 3 1 true := ⟨RX5, TX5, 6, tyX5, rfl, us_X5, tyX5_ok, nmX5, by decide, tw_149, rfl, by decide, rfl, rfl, rfl, Or.inr ⟨_, rfl⟩⟩
theorem fi_X5_25 : FI RX5 25 5 4 0 false := ⟨RX5, TX5, 6, tyX5, rfl, us_X5, tyX5_ok, nmX5, by decide, tw_150, rfl, by decide, rfl, rfl, rfl, rfl⟩
theorem fi_X0_26 : FI RX0 26 5 4 0 false := ⟨RX5, TX5, 6, tyX5, rfl, us_X5, tyX5_ok, nmX5, by decide, tw_151, rfl, by decide, rfl, rfl, rfl, rfl⟩
theorem fi_X8_84 : FI RX8 84 5 4 0 false := ⟨RX5, TX5, 6, tyX5, rfl, us_X5, tyX5_ok, nmX5, by decide, tw_152, rfl, by decide, rfl, rfl, rfl, rfl⟩
theorem fi_X11_266 : FI RX11 266 5 4 0 false := ⟨RX5, TX5, 6, tyX5, rfl, us_X5, tyX5_ok, nmX5, by decide, tw_153, rfl, by decide, rfl, rfl, rfl, rfl⟩
theorem fi_X5_50 : FI RX5 50 5 5 0 false := ⟨RX5, TX5, 6, tyX5, rfl, us_X5, tyX5_ok, nmX5, by decide, tw_154, rfl, by decide, rfl, rfl, rfl, rfl⟩
theorem fi_X11_263 : FI RX11 263 5 5 0 false := ⟨RX5, TX5, 6, tyX5, rfl, us_X5, tyX5_ok, nmX5, by decide, tw_155, rfl, by decide, rfl, rfl, rfl, rfl⟩
theorem ac_long : TW (.arrayClass .long) := tw_169
theorem cl_X8_25 : TW (.classLink RX8 25 RX0) := tw_170
theorem ni_X8_25 : NI RX8 25 0 4 := ⟨RX0, TX0, tyX0, rfl, us_X0, tyX0_ok, tw_170, tw_171, tw_7, by decide, df_X0⟩
theorem fi_X0_9 : FI RX0 9 0 0 1 true := ⟨RX0, TX0, 4, tyX0, rfl, us_X0, tyX0_ok, nmX0, by decide, tw_176, rfl, by decide, rfl, rfl, rfl, Or.inr ⟨_, rfl⟩⟩
theorem fi_X0_15 : FI RX0 15 0 1 1 true := ⟨RX0, TX0, 4, tyX0, rfl, us_X0, tyX0_ok, nmX0, by decide, tw_177, rfl, by decide, rfl, rfl, rfl, Or.inr ⟨_, rfl⟩⟩
theorem fi_X0_18 : FI RX0 18 0 2 0 false := ⟨RX0, TX0, 4, tyX0, rfl, us_X0, tyX0_ok, nmX0, by decide, tw_178, rfl, by decide, rfl, rfl, rfl, rfl⟩
theorem fi_X2_62 : FI RX2 62 0 2 0 false := ⟨RX0, TX0, 4, tyX0, rfl, us_X0, tyX0_ok, nmX0, by decide, tw_179, rfl, by decide, rfl, rfl, rfl, rfl⟩
theorem fi_X8_77 : FI RX8 77 0 2 0 false := ⟨RX0, TX0, 4, tyX0, rfl, us_X0, tyX0_ok, nmX0, by decide, tw_180, rfl, by decide, rfl, rfl, rfl, rfl⟩
theorem fi_X10_68 : FI RX10 68 0 2 0 false := ⟨RX0, TX0, 4, tyX0, rfl, us_X0, tyX0_ok, nmX0, by decide, tw_181, rfl, by decide, rfl, rfl, rfl, rfl⟩
theorem fi_X11_246 : FI RX11 246 0 2 0 false := ⟨RX0, TX0, 4, tyX0, rfl, us_X0, tyX0_ok, nmX0, by decide, tw_182, rfl, by decide, rfl, rfl, rfl, rfl⟩
theorem fi_X0_22 : FI RX0 22 0 3 3 false := ⟨RX0, TX0, 4, tyX0, rfl, us_X0, tyX0_ok, nmX0, by decide, tw_183, rfl, by decide, rfl, rfl, rfl, rfl⟩
theorem fi_X2_32 : FI RX2 32 0 3 3 false := ⟨RX0, TX0, 4, tyX0, rfl, us_X0, tyX0_ok, nmX0, by decide, tw_184, rfl, by decide, rfl, rfl, rfl, rfl⟩
theorem fi_X10_56 : FI RX10 56 0 3 3 false := ⟨RX0, TX0, 4, tyX0, rfl, us_X0, tyX0_ok, nmX0, by decide, tw_185, rfl, by decide, rfl, rfl, rfl, rfl⟩
theorem fi_X11_243 : FI RX11 243 0 3 3 false := ⟨RX0, TX0, 4, tyX0, rfl, us_X0, tyX0_ok, nmX0, by decide, tw_186, rfl, by decide, rfl, rfl, rfl, rfl⟩
theorem fi_X8_9 : FI RX8 9 8 0 1 true := ⟨RX8, TX8, 8, tyX8, rfl, us_X8, tyX8_ok, nmX8, by decide, tw_196, rfl, by decide, rfl, rfl, rfl, Or.inr ⟨_, rfl⟩⟩
theorem fi_X11_296 : FI RX11 296 8 0 1 true := ⟨RX8, TX8, 8, tyX8, rfl, us_X8, tyX8_ok, nmX8, by decide, tw_197, rfl, by decide, rfl, rfl, rfl, Or.inr ⟨_, rfl⟩⟩
theorem fi_X8_15 : FI RX8 15 8 1 1 true := ⟨RX8, TX8, 8, tyX8, rfl, us_X8, tyX8_ok, nmX8, by decide, tw_198, rfl, by decide, rfl, rfl, rfl, Or.inr ⟨_, rfl⟩⟩
theorem fi_X8_21 : FI RX8 21 8 2 1 true := ⟨RX8, TX8, 8, tyX8, rfl, us_X8, tyX8_ok, nmX8, by decide, tw_199, rfl, by decide, rfl, rfl, rfl, Or.inl ⟨_, rfl⟩⟩
theorem fi_X8_28 : FI RX8 28 8 3 1 true := ⟨RX8, TX8, 8, tyX8, rfl, us_X8, tyX8_ok, nmX8, by decide, tw_200, rfl, by decide, rfl, rfl, rfl, Or.inl ⟨_, rfl⟩⟩
theorem fi_X8_38 : FI RX8 38 8 4 0 false := ⟨RX8, TX8, 8, tyX8, rfl, us_X8, tyX8_ok, nmX8, by decide, tw_201, rfl, by decide, rfl, rfl, rfl, rfl⟩
theorem fi_X8_42 : FI RX8 42 8 5 0 false := ⟨RX8, TX8, 8, tyX8, rfl, us_X8, tyX8_ok, nmX8, by decide, tw_202, rfl, by decide, rfl, rfl, rfl, rfl⟩
theorem fi_X8_51 : FI RX8 51 8 6 0 false := ⟨RX8, TX8, 8, tyX8, rfl, us_X8, tyX8_ok, nmX8, by decide, tw_203, rfl, by decide, rfl, rfl, rfl, rfl⟩
theorem fi_X8_56 : FI RX8 56 8 7 0 false := ⟨RX8, TX8, 8, tyX8, rfl, us_X8, tyX8_ok, nmX8, by decide, tw_204, rfl, by decide, rfl, rfl, rfl, rfl⟩
theorem cl_X11_64 : TW (.classLink RX11 64 RX2) := tw_222
theorem ni_X11_64 : NI RX11 64 2 7 := ⟨RX2, TX2, tyX2, rfl, us_X2, tyX2_ok, tw_222, tw_223, tw_8, by decide, df_X2⟩
theorem cl_X2_18 : TW (.classLink RX2 18 RX0) := tw_228
theorem ni_X2_18 : NI RX2 18 0 4 := ⟨RX0, TX0, tyX0, rfl, us_X0, tyX0_ok, tw_228, tw_171, tw_7, by decide, df_X0⟩
theorem fi_X2_9 : FI RX2 9 2 0 1 true := ⟨RX2, TX2, 7, tyX2, rfl, us_X2, tyX2_ok, nmX2, by decide, tw_230, rfl, by decide, rfl, rfl, rfl, Or.inr ⟨_, rfl⟩⟩
theorem fi_X2_15 : FI RX2 15 2 1 1 true := ⟨RX2, TX2, 7, tyX2, rfl, us_X2, tyX2_ok, nmX2, by decide, tw_231, rfl, by decide, rfl, rfl, rfl, Or.inr ⟨_, rfl⟩⟩
theorem fi_X2_21 : FI RX2 21 2 2 1 true := ⟨RX2, TX2, 7, tyX2, rfl, us_X2, tyX2_ok, nmX2, by decide, tw_232, rfl, by decide, rfl, rfl, rfl, Or.inl ⟨_, rfl⟩⟩
theorem fi_X2_25 : FI RX2 25 2 3 1 true := ⟨RX2, TX2, 7, tyX2, rfl, us_X2, tyX2_ok, nmX2, by decide, tw_233, rfl, by decide, rfl, rfl, rfl, Or.inl ⟨_, rfl⟩⟩
theorem fi_X2_42 : FI RX2 42 2 4 0 false := ⟨RX2, TX2, 7, tyX2, rfl, us_X2, tyX2_ok, nmX2, by decide, tw_234, rfl, by decide, rfl, rfl, rfl, rfl⟩
theorem fi_X2_45 : FI RX2 45 2 5 0 false := ⟨RX2, TX2, 7, tyX2, rfl, us_X2, tyX2_ok, nmX2, by decide, tw_235, rfl, by decide, rfl, rfl, rfl, rfl⟩
theorem fi_X11_283 : FI RX11 283 2 5 0 false := ⟨RX2, TX2, 7, tyX2, rfl, us_X2, tyX2_ok, nmX2, by decide, tw_236, rfl, by decide, rfl, rfl, rfl, rfl⟩
theorem fi_X2_48 : FI RX2 48 2 6 0 false := ⟨RX2, TX2, 7, tyX2, rfl, us_X2, tyX2_ok, nmX2, by decide, tw_237, rfl, by decide, rfl, rfl, rfl, rfl⟩
theorem fi_X11_286 : FI RX11 286 2 6 0 false := ⟨RX2, TX2, 7, tyX2, rfl, us_X2, tyX2_ok, nmX2, by decide, tw_238, rfl, by decide, rfl, rfl, rfl, rfl⟩
theorem cl_X11_71 : TW (.classLink RX11 71 RX10) := tw_254
theorem ni_X11_71 : NI RX11 71 10 6 := ⟨RX10, TX10, tyX10, rfl, us_X10, tyX10_ok, tw_254, tw_255, tw_9, by decide, df_X10⟩
theorem cl_X10_9 : TW (.classLink RX10 9 RX7) := tw_260
theorem ni_X10_9 : NI RX10 9 7 7 := ⟨RX7, TX7, tyX7, rfl, us_X7, tyX7_ok, tw_260, tw_653, tw_19, by decide, df_X7⟩
theorem ao_X7 : TW (.arrayOver (.object RX7)) := tw_261
theorem cl_X10_21 : TW (.classLink RX10 21 RX0) := tw_262
theorem ni_X10_21 : NI RX10 21 0 4 := ⟨RX0, TX0, tyX0, rfl, us_X0, tyX0_ok, tw_262, tw_171, tw_7, by decide, df_X0⟩
theorem fi_X10_11 : FI RX10 11 10 0 1 true := ⟨RX10, TX10, 6, tyX10, rfl, us_X10, tyX10_ok, nmX10, by decide, tw_264, rfl, by decide, rfl, rfl, rfl, Or.inr ⟨_, rfl⟩⟩
theorem fi_X10_17 : FI RX10 17 10 1 1 true := ⟨RX10, TX10, 6, tyX10, rfl, us_X10, tyX10_ok, nmX10, by decide, tw_265, rfl, by decide, rfl, rfl, rfl, Or.inr ⟨_, rfl⟩⟩
theorem fi_X10_23 : FI RX10 23 10 2 1 true := ⟨RX10, TX10, 6, tyX10, rfl, us_X10, tyX10_ok, nmX10, by decide, tw_266, rfl, by decide, rfl, rfl, rfl, Or.inr ⟨_, rfl⟩⟩
theorem fi_X10_35 : FI RX10 35 10 3 0 false := ⟨RX10, TX10, 6, tyX10, rfl, us_X10, tyX10_ok, nmX10, by decide, tw_267, rfl, by decide, rfl, rfl, rfl, rfl⟩
theorem fi_X10_28 : FI RX10 28 10 4 0 false := ⟨RX10, TX10, 6, tyX10, rfl, us_X10, tyX10_ok, nmX10, by decide, tw_268, rfl, by decide, rfl, rfl, rfl, rfl⟩
theorem fi_X10_32 : FI RX10 32 10 5 0 false := ⟨RX10, TX10, 6, tyX10, rfl, us_X10, tyX10_ok, nmX10, by decide, tw_269, rfl, by decide, rfl, rfl, rfl, rfl⟩
theorem cl_X1_15 : TW (.classLink RX1 15 RX3) := tw_288
theorem ni_X1_15 : NI RX1 15 3 6 := ⟨RX3, TX3, tyX3, rfl, us_X3, tyX3_ok, tw_288, tw_76, tw_4, by decide, df_X3⟩
theorem fi_X1_25 : FI RX1 25 1 0 0 true := ⟨RX1, TX1, 7, tyX1, rfl, us_X1, tyX1_ok, nmX1, by decide, tw_290, rfl, by decide, rfl, rfl, rfl, rfl⟩
theorem fi_X11_394 : FI RX11 394 1 0 0 true := ⟨RX1, TX1, 7, tyX1, rfl, us_X1, tyX1_ok, nmX1, by decide, tw_291, rfl, by decide, rfl, rfl, rfl, rfl⟩
theorem fi_X1_9 : FI RX1 9 1 1 1 true := ⟨RX1, TX1, 7, tyX1, rfl, us_X1, tyX1_ok, nmX1, by decide, tw_292, rfl, by decide, rfl, rfl, rfl, Or.inr ⟨_, rfl⟩⟩
theorem fi_X11_108 : FI RX11 108 1 1 1 true := ⟨RX1, TX1, 7, tyX1, rfl, us_X1, tyX1_ok, nmX1, by decide, tw_293, rfl, by decide, rfl, rfl, rfl, Or.inr ⟨_, rfl⟩⟩
theorem fi_X1_18 : FI RX1 18 1 2 1 true := ⟨RX1, TX1, 7, tyX1, rfl, us_X1, tyX1_ok, nmX1, by decide, tw_294, rfl, by decide, rfl, rfl, rfl, Or.inl ⟨_, rfl⟩⟩
theorem fi_X5_29 : FI RX5 29 1 2 1 true := ⟨RX1, TX1, 7, tyX1, rfl, us_X1, tyX1_ok, nmX1, by decide, tw_295, rfl, by decide, rfl, rfl, rfl, Or.inl ⟨_, rfl⟩⟩
theorem fi_X11_354 : FI RX11 354 1 2 1 true := ⟨RX1, TX1, 7, tyX1, rfl, us_X1, tyX1_ok, nmX1, by decide, tw_296, rfl, by decide, rfl, rfl, rfl, Or.inl ⟨_, rfl⟩⟩
theorem fi_X1_22 : FI RX1 22 1 3 1 true := ⟨RX1, TX1, 7, tyX1, rfl, us_X1, tyX1_ok, nmX1, by decide, tw_297, rfl, by decide, rfl, rfl, rfl, Or.inr ⟨_, rfl⟩⟩
theorem fi_X1_29 : FI RX1 29 1 4 3 false := ⟨RX1, TX1, 7, tyX1, rfl, us_X1, tyX1_ok, nmX1, by decide, tw_298, rfl, by decide, rfl, rfl, rfl, rfl⟩
theorem fi_X11_176 : FI RX11 176 1 4 3 false := ⟨RX1, TX1, 7, tyX1, rfl, us_X1, tyX1_ok, nmX1, by decide, tw_299, rfl, by decide, rfl, rfl, rfl, rfl⟩
theorem fi_X1_33 : FI RX1 33 1 5 0 false := ⟨RX1, TX1, 7, tyX1, rfl, us_X1, tyX1_ok, nmX1, by decide, tw_300, rfl, by decide, rfl, rfl, rfl, rfl⟩
theorem fi_X5_43 : FI RX5 43 1 5 0 false := ⟨RX1, TX1, 7, tyX1, rfl, us_X1, tyX1_ok, nmX1, by decide, tw_301, rfl, by decide, rfl, rfl, rfl, rfl⟩
theorem fi_X11_100 : FI RX11 100 1 5 0 false := ⟨RX1, TX1, 7, tyX1, rfl, us_X1, tyX1_ok, nmX1, by decide, tw_302, rfl, by decide, rfl, rfl, rfl, rfl⟩
theorem fi_X1_68 : FI RX1 68 1 6 0 false := ⟨RX1, TX1, 7, tyX1, rfl, us_X1, tyX1_ok, nmX1, by decide, tw_303, rfl, by decide, rfl, rfl, rfl, rfl⟩
theorem cl_X6_9 : TW (.classLink RX6 9 RX7) := tw_324
theorem ni_X6_9 : NI RX6 9 7 7 := ⟨RX7, TX7, tyX7, rfl, us_X7, tyX7_ok, tw_324, tw_653, tw_19, by decide, df_X7⟩
theorem fi_X6_11 : FI RX6 11 6 0 1 true := ⟨RX6, TX6, 2, tyX6, rfl, us_X6, tyX6_ok, nmX6, by decide, tw_325, rfl, by decide, rfl, rfl, rfl, Or.inr ⟨_, rfl⟩⟩
theorem fi_X6_17 : FI RX6 17 6 1 0 false := ⟨RX6, TX6, 2, tyX6, rfl, us_X6, tyX6_ok, nmX6, by decide, tw_326, rfl, by decide, rfl, rfl, rfl, rfl⟩
theorem fi_X10_38 : FI RX10 38 6 1 0 false := ⟨RX6, TX6, 2, tyX6, rfl, us_X6, tyX6_ok, nmX6, by decide, tw_327, rfl, by decide, rfl, rfl, rfl, rfl⟩
theorem fi_X11_336 : FI RX11 336 6 1 0 false := ⟨RX6, TX6, 2, tyX6, rfl, us_X6, tyX6_ok, nmX6, by decide, tw_328, rfl, by decide, rfl, rfl, rfl, rfl⟩
theorem fi_X11_11 : FI RX11 11 11 0 1 true := ⟨RX11, TX11, 14, tyX11, rfl, us_X11, tyX11_ok, nmX11, by decide, tw_336, rfl, by decide, rfl, rfl, rfl, Or.inr ⟨_, rfl⟩⟩
theorem fi_X11_17 : FI RX11 17 11 1 1 true := ⟨RX11, TX11, 14, tyX11, rfl, us_X11, tyX11_ok, nmX11, by decide, tw_337, rfl, by decide, rfl, rfl, rfl, Or.inr ⟨_, rfl⟩⟩
theorem fi_X11_21 : FI RX11 21 11 2 1 true := ⟨RX11, TX11, 14, tyX11, rfl, us_X11, tyX11_ok, nmX11, by decide, tw_338, rfl, by decide, rfl, rfl, rfl, Or.inr ⟨_, rfl⟩⟩
theorem fi_X11_24 : FI RX11 24 11 3 1 true := ⟨RX11, TX11, 14, tyX11, rfl, us_X11, tyX11_ok, nmX11, by decide, tw_339, rfl, by decide, rfl, rfl, rfl, Or.inr ⟨_, rfl⟩⟩
theorem fi_X11_28 : FI RX11 28 11 4 1 true := ⟨RX11, TX11, 14, tyX11, rfl, us_X11, tyX11_ok, nmX11, by decide, tw_340, rfl, by decide, rfl, rfl, rfl, Or.inr ⟨_, rfl⟩⟩
theorem fi_X11_32 : FI RX11 32 11 5 1 true := ⟨RX11, TX11, 14, tyX11, rfl, us_X11, tyX11_ok, nmX11, by decide, tw_341, rfl, by decide, rfl, rfl, rfl, Or.inr ⟨_, rfl⟩⟩
theorem fi_X11_35 : FI RX11 35 11 6 1 true := ⟨RX11, TX11, 14, tyX11, rfl, us_X11, tyX11_ok, nmX11, by decide, tw_342, rfl, by decide, rfl, rfl, rfl, Or.inr ⟨_, rfl⟩⟩
theorem fi_X11_41 : FI RX11 41 11 7 1 true := ⟨RX11, TX11, 14, tyX11, rfl, us_X11, tyX11_ok, nmX11, by decide, tw_343, rfl, by decide, rfl, rfl, rfl, Or.inl ⟨_, rfl⟩⟩
theorem fi_X11_47 : FI RX11 47 11 8 1 true := ⟨RX11, TX11, 14, tyX11, rfl, us_X11, tyX11_ok, nmX11, by decide, tw_344, rfl, by decide, rfl, rfl, rfl, Or.inr ⟨_, rfl⟩⟩
theorem fi_X11_53 : FI RX11 53 11 9 1 true := ⟨RX11, TX11, 14, tyX11, rfl, us_X11, tyX11_ok, nmX11, by decide, tw_345, rfl, by decide, rfl, rfl, rfl, Or.inr ⟨_, rfl⟩⟩
theorem fi_X11_60 : FI RX11 60 11 10 1 true := ⟨RX11, TX11, 14, tyX11, rfl, us_X11, tyX11_ok, nmX11, by decide, tw_346, rfl, by decide, rfl, rfl, rfl, Or.inl ⟨_, rfl⟩⟩
theorem fi_X11_67 : FI RX11 67 11 11 1 true := ⟨RX11, TX11, 14, tyX11, rfl, us_X11, tyX11_ok, nmX11, by decide, tw_347, rfl, by decide, rfl, rfl, rfl, Or.inl ⟨_, rfl⟩⟩
theorem fi_X11_74 : FI RX11 74 11 12 1 true := ⟨RX11, TX11, 14, tyX11, rfl, us_X11, tyX11_ok, nmX11, by decide, tw_348, rfl, by decide, rfl, rfl, rfl, Or.inl ⟨_, rfl⟩⟩
theorem fi_X11_348 : FI RX11 348 11 13 0 false := ⟨RX11, TX11, 14, tyX11, rfl, us_X11, tyX11_ok, nmX11, by decide, tw_349, rfl, by decide, rfl, rfl, rfl, rfl⟩
theorem kc_X11_104 : TW (.constant RX11 104 (65535)) := tw_414
theorem kc_X1_67 : TW (.constant RX1 67 (104729)) := tw_575
theorem kc_X1_87 : TW (.constant RX1 87 (1103515245)) := tw_588
theorem kc_X1_88 : TW (.constant RX1 88 (2147483647)) := tw_589
theorem kc_J6_265 : TW (.constant RJ6 265 (1431655765)) := tw_621
theorem kc_J6_266 : TW (.constant RJ6 266 (858993459)) := tw_622
theorem kc_J6_267 : TW (.constant RJ6 267 (252645135)) := tw_623
theorem kc_X1_104 : TW (.constant RX1 104 (65280)) := tw_646
theorem cl_X1_112 : TW (.classLink RX1 112 RX7) := tw_652
theorem ni_X1_112 : NI RX1 112 7 7 := ⟨RX7, TX7, tyX7, rfl, us_X7, tyX7_ok, tw_652, tw_653, tw_19, by decide, df_X7⟩
theorem fi_X7_9 : FI RX7 9 7 0 0 true := ⟨RX7, TX7, 7, tyX7, rfl, us_X7, tyX7_ok, nmX7, by decide, tw_658, rfl, by decide, rfl, rfl, rfl, rfl⟩
theorem fi_X6_21 : FI RX6 21 7 0 0 true := ⟨RX7, TX7, 7, tyX7, rfl, us_X7, tyX7_ok, nmX7, by decide, tw_659, rfl, by decide, rfl, rfl, rfl, rfl⟩
theorem fi_X10_45 : FI RX10 45 7 0 0 true := ⟨RX7, TX7, 7, tyX7, rfl, us_X7, tyX7_ok, nmX7, by decide, tw_660, rfl, by decide, rfl, rfl, rfl, rfl⟩
theorem fi_X11_191 : FI RX11 191 7 0 0 true := ⟨RX7, TX7, 7, tyX7, rfl, us_X7, tyX7_ok, nmX7, by decide, tw_661, rfl, by decide, rfl, rfl, rfl, rfl⟩
theorem fi_X7_15 : FI RX7 15 7 1 0 true := ⟨RX7, TX7, 7, tyX7, rfl, us_X7, tyX7_ok, nmX7, by decide, tw_662, rfl, by decide, rfl, rfl, rfl, rfl⟩
theorem fi_X11_194 : FI RX11 194 7 1 0 true := ⟨RX7, TX7, 7, tyX7, rfl, us_X7, tyX7_ok, nmX7, by decide, tw_663, rfl, by decide, rfl, rfl, rfl, rfl⟩
theorem fi_X7_18 : FI RX7 18 7 2 0 true := ⟨RX7, TX7, 7, tyX7, rfl, us_X7, tyX7_ok, nmX7, by decide, tw_664, rfl, by decide, rfl, rfl, rfl, rfl⟩
theorem fi_X11_197 : FI RX11 197 7 2 0 true := ⟨RX7, TX7, 7, tyX7, rfl, us_X7, tyX7_ok, nmX7, by decide, tw_665, rfl, by decide, rfl, rfl, rfl, rfl⟩
theorem fi_X7_21 : FI RX7 21 7 3 0 true := ⟨RX7, TX7, 7, tyX7, rfl, us_X7, tyX7_ok, nmX7, by decide, tw_666, rfl, by decide, rfl, rfl, rfl, rfl⟩
theorem fi_X11_200 : FI RX11 200 7 3 0 true := ⟨RX7, TX7, 7, tyX7, rfl, us_X7, tyX7_ok, nmX7, by decide, tw_667, rfl, by decide, rfl, rfl, rfl, rfl⟩
theorem fi_X7_24 : FI RX7 24 7 4 0 true := ⟨RX7, TX7, 7, tyX7, rfl, us_X7, tyX7_ok, nmX7, by decide, tw_668, rfl, by decide, rfl, rfl, rfl, rfl⟩
theorem fi_X11_203 : FI RX11 203 7 4 0 true := ⟨RX7, TX7, 7, tyX7, rfl, us_X7, tyX7_ok, nmX7, by decide, tw_669, rfl, by decide, rfl, rfl, rfl, rfl⟩
theorem fi_X7_27 : FI RX7 27 7 5 0 true := ⟨RX7, TX7, 7, tyX7, rfl, us_X7, tyX7_ok, nmX7, by decide, tw_670, rfl, by decide, rfl, rfl, rfl, rfl⟩
theorem fi_X7_30 : FI RX7 30 7 6 0 true := ⟨RX7, TX7, 7, tyX7, rfl, us_X7, tyX7_ok, nmX7, by decide, tw_671, rfl, by decide, rfl, rfl, rfl, rfl⟩
theorem cl_X11_180 : TW (.classLink RX11 180 RX7) := tw_712
theorem ni_X11_180 : NI RX11 180 7 7 := ⟨RX7, TX7, tyX7, rfl, us_X7, tyX7_ok, tw_712, tw_653, tw_19, by decide, df_X7⟩
theorem kc_X5_53 : TW (.constant RX5 53 (1048575)) := tw_774
theorem kc_X0_40 : TW (.constant RX0 40 (1048575)) := tw_811
theorem kl_J13_314 : TW (.constantLong RJ13 314 (6148914691236517205)) := tw_885
theorem kl_J13_316 : TW (.constantLong RJ13 316 (3689348814741910323)) := tw_886
theorem kl_J13_318 : TW (.constantLong RJ13 318 (1085102592571150095)) := tw_887
theorem kl_X11_302 : TW (.constantLong RX11 302 (-1)) := tw_962
theorem kc_X11_364 : TW (.constant RX11 364 (1048575)) := tw_1140
theorem cl_L_16 : TW (.classLink RL 16 RX12) := tw_1151
theorem ni_L_16 : NI RL 16 12 48 := ⟨RX12, TX12, tyX12, rfl, us_X12, tyX12_ok, tw_1151, tw_1149, tw_12, by decide, df_X12⟩
theorem kl_X12_34 : TW (.constantLong RX12 34 (765438)) := tw_1156
theorem kl_X12_36 : TW (.constantLong RX12 36 (11726208)) := tw_1157
theorem kl_X12_38 : TW (.constantLong RX12 38 (26801)) := tw_1158
theorem kl_X12_40 : TW (.constantLong RX12 40 (969301)) := tw_1159
theorem fi_X12_1 : FI RX12 1 12 0 0 false := ⟨RX12, TX12, 48, tyX12, rfl, us_X12, tyX12_ok, nmX12, by decide, tw_1160, rfl, by decide, rfl, rfl, rfl, rfl⟩
theorem fi_X12_14 : FI RX12 14 12 1 1 true := ⟨RX12, TX12, 48, tyX12, rfl, us_X12, tyX12_ok, nmX12, by decide, tw_1161, rfl, by decide, rfl, rfl, rfl, Or.inr ⟨_, rfl⟩⟩
theorem fi_X12_11 : FI RX12 11 12 2 0 false := ⟨RX12, TX12, 48, tyX12, rfl, us_X12, tyX12_ok, nmX12, by decide, tw_1162, rfl, by decide, rfl, rfl, rfl, rfl⟩
theorem fi_X12_140 : FI RX12 140 12 3 0 false := ⟨RX12, TX12, 48, tyX12, rfl, us_X12, tyX12_ok, nmX12, by decide, tw_1163, rfl, by decide, rfl, rfl, rfl, rfl⟩
theorem fi_X12_24 : FI RX12 24 12 4 1 true := ⟨RX12, TX12, 48, tyX12, rfl, us_X12, tyX12_ok, nmX12, by decide, tw_1164, rfl, by decide, rfl, rfl, rfl, Or.inr ⟨_, rfl⟩⟩
theorem fi_X12_27 : FI RX12 27 12 5 1 true := ⟨RX12, TX12, 48, tyX12, rfl, us_X12, tyX12_ok, nmX12, by decide, tw_1165, rfl, by decide, rfl, rfl, rfl, Or.inr ⟨_, rfl⟩⟩
theorem fi_X12_30 : FI RX12 30 12 6 1 true := ⟨RX12, TX12, 48, tyX12, rfl, us_X12, tyX12_ok, nmX12, by decide, tw_1166, rfl, by decide, rfl, rfl, rfl, Or.inr ⟨_, rfl⟩⟩
theorem fi_X12_159 : FI RX12 159 12 7 0 false := ⟨RX12, TX12, 48, tyX12, rfl, us_X12, tyX12_ok, nmX12, by decide, tw_1167, rfl, by decide, rfl, rfl, rfl, rfl⟩
theorem fi_X12_162 : FI RX12 162 12 8 0 false := ⟨RX12, TX12, 48, tyX12, rfl, us_X12, tyX12_ok, nmX12, by decide, tw_1168, rfl, by decide, rfl, rfl, rfl, rfl⟩
theorem fi_X12_42 : FI RX12 42 12 9 1 true := ⟨RX12, TX12, 48, tyX12, rfl, us_X12, tyX12_ok, nmX12, by decide, tw_1169, rfl, by decide, rfl, rfl, rfl, Or.inr ⟨_, rfl⟩⟩
theorem fi_X12_45 : FI RX12 45 12 10 1 true := ⟨RX12, TX12, 48, tyX12, rfl, us_X12, tyX12_ok, nmX12, by decide, tw_1170, rfl, by decide, rfl, rfl, rfl, Or.inr ⟨_, rfl⟩⟩
theorem fi_X12_48 : FI RX12 48 12 11 1 true := ⟨RX12, TX12, 48, tyX12, rfl, us_X12, tyX12_ok, nmX12, by decide, tw_1171, rfl, by decide, rfl, rfl, rfl, Or.inr ⟨_, rfl⟩⟩
theorem fi_X12_51 : FI RX12 51 12 12 1 true := ⟨RX12, TX12, 48, tyX12, rfl, us_X12, tyX12_ok, nmX12, by decide, tw_1172, rfl, by decide, rfl, rfl, rfl, Or.inr ⟨_, rfl⟩⟩
theorem fi_X12_54 : FI RX12 54 12 13 1 true := ⟨RX12, TX12, 48, tyX12, rfl, us_X12, tyX12_ok, nmX12, by decide, tw_1173, rfl, by decide, rfl, rfl, rfl, Or.inr ⟨_, rfl⟩⟩
theorem fi_X12_57 : FI RX12 57 12 14 1 true := ⟨RX12, TX12, 48, tyX12, rfl, us_X12, tyX12_ok, nmX12, by decide, tw_1174, rfl, by decide, rfl, rfl, rfl, Or.inr ⟨_, rfl⟩⟩
theorem fi_X12_60 : FI RX12 60 12 15 1 true := ⟨RX12, TX12, 48, tyX12, rfl, us_X12, tyX12_ok, nmX12, by decide, tw_1175, rfl, by decide, rfl, rfl, rfl, Or.inr ⟨_, rfl⟩⟩
theorem fi_X12_63 : FI RX12 63 12 16 1 true := ⟨RX12, TX12, 48, tyX12, rfl, us_X12, tyX12_ok, nmX12, by decide, tw_1176, rfl, by decide, rfl, rfl, rfl, Or.inr ⟨_, rfl⟩⟩
theorem fi_X12_66 : FI RX12 66 12 17 1 true := ⟨RX12, TX12, 48, tyX12, rfl, us_X12, tyX12_ok, nmX12, by decide, tw_1177, rfl, by decide, rfl, rfl, rfl, Or.inr ⟨_, rfl⟩⟩
theorem fi_X12_202 : FI RX12 202 12 18 0 false := ⟨RX12, TX12, 48, tyX12, rfl, us_X12, tyX12_ok, nmX12, by decide, tw_1178, rfl, by decide, rfl, rfl, rfl, rfl⟩
theorem fi_X12_226 : FI RX12 226 12 19 2 false := ⟨RX12, TX12, 48, tyX12, rfl, us_X12, tyX12_ok, nmX12, by decide, tw_1179, rfl, by decide, rfl, rfl, rfl, rfl⟩
theorem fi_X12_69 : FI RX12 69 12 20 1 true := ⟨RX12, TX12, 48, tyX12, rfl, us_X12, tyX12_ok, nmX12, by decide, tw_1180, rfl, by decide, rfl, rfl, rfl, Or.inr ⟨_, rfl⟩⟩
theorem fi_X12_72 : FI RX12 72 12 21 1 true := ⟨RX12, TX12, 48, tyX12, rfl, us_X12, tyX12_ok, nmX12, by decide, tw_1181, rfl, by decide, rfl, rfl, rfl, Or.inr ⟨_, rfl⟩⟩
theorem fi_X12_75 : FI RX12 75 12 22 1 true := ⟨RX12, TX12, 48, tyX12, rfl, us_X12, tyX12_ok, nmX12, by decide, tw_1182, rfl, by decide, rfl, rfl, rfl, Or.inr ⟨_, rfl⟩⟩
theorem fi_X12_78 : FI RX12 78 12 23 1 true := ⟨RX12, TX12, 48, tyX12, rfl, us_X12, tyX12_ok, nmX12, by decide, tw_1183, rfl, by decide, rfl, rfl, rfl, Or.inr ⟨_, rfl⟩⟩
theorem fi_X12_81 : FI RX12 81 12 24 1 true := ⟨RX12, TX12, 48, tyX12, rfl, us_X12, tyX12_ok, nmX12, by decide, tw_1184, rfl, by decide, rfl, rfl, rfl, Or.inr ⟨_, rfl⟩⟩
theorem fi_X12_84 : FI RX12 84 12 25 1 true := ⟨RX12, TX12, 48, tyX12, rfl, us_X12, tyX12_ok, nmX12, by decide, tw_1185, rfl, by decide, rfl, rfl, rfl, Or.inr ⟨_, rfl⟩⟩
theorem fi_X12_87 : FI RX12 87 12 26 1 true := ⟨RX12, TX12, 48, tyX12, rfl, us_X12, tyX12_ok, nmX12, by decide, tw_1186, rfl, by decide, rfl, rfl, rfl, Or.inr ⟨_, rfl⟩⟩
theorem fi_X12_288 : FI RX12 288 12 27 0 false := ⟨RX12, TX12, 48, tyX12, rfl, us_X12, tyX12_ok, nmX12, by decide, tw_1187, rfl, by decide, rfl, rfl, rfl, rfl⟩
theorem fi_X12_305 : FI RX12 305 12 28 0 false := ⟨RX12, TX12, 48, tyX12, rfl, us_X12, tyX12_ok, nmX12, by decide, tw_1188, rfl, by decide, rfl, rfl, rfl, rfl⟩
theorem fi_X12_91 : FI RX12 91 12 29 1 true := ⟨RX12, TX12, 48, tyX12, rfl, us_X12, tyX12_ok, nmX12, by decide, tw_1189, rfl, by decide, rfl, rfl, rfl, Or.inr ⟨_, rfl⟩⟩
theorem fi_X12_94 : FI RX12 94 12 30 1 true := ⟨RX12, TX12, 48, tyX12, rfl, us_X12, tyX12_ok, nmX12, by decide, tw_1190, rfl, by decide, rfl, rfl, rfl, Or.inr ⟨_, rfl⟩⟩
theorem fi_X12_97 : FI RX12 97 12 31 1 true := ⟨RX12, TX12, 48, tyX12, rfl, us_X12, tyX12_ok, nmX12, by decide, tw_1191, rfl, by decide, rfl, rfl, rfl, Or.inr ⟨_, rfl⟩⟩
theorem fi_X12_100 : FI RX12 100 12 32 1 true := ⟨RX12, TX12, 48, tyX12, rfl, us_X12, tyX12_ok, nmX12, by decide, tw_1192, rfl, by decide, rfl, rfl, rfl, Or.inr ⟨_, rfl⟩⟩
theorem fi_X12_318 : FI RX12 318 12 33 0 false := ⟨RX12, TX12, 48, tyX12, rfl, us_X12, tyX12_ok, nmX12, by decide, tw_1193, rfl, by decide, rfl, rfl, rfl, rfl⟩
theorem fi_X12_103 : FI RX12 103 12 34 1 true := ⟨RX12, TX12, 48, tyX12, rfl, us_X12, tyX12_ok, nmX12, by decide, tw_1194, rfl, by decide, rfl, rfl, rfl, Or.inr ⟨_, rfl⟩⟩
theorem fi_X12_324 : FI RX12 324 12 35 0 false := ⟨RX12, TX12, 48, tyX12, rfl, us_X12, tyX12_ok, nmX12, by decide, tw_1195, rfl, by decide, rfl, rfl, rfl, rfl⟩
theorem fi_X12_326 : FI RX12 326 12 36 3 false := ⟨RX12, TX12, 48, tyX12, rfl, us_X12, tyX12_ok, nmX12, by decide, tw_1196, rfl, by decide, rfl, rfl, rfl, rfl⟩
theorem fi_X12_106 : FI RX12 106 12 37 1 true := ⟨RX12, TX12, 48, tyX12, rfl, us_X12, tyX12_ok, nmX12, by decide, tw_1197, rfl, by decide, rfl, rfl, rfl, Or.inr ⟨_, rfl⟩⟩
theorem fi_X12_109 : FI RX12 109 12 38 1 true := ⟨RX12, TX12, 48, tyX12, rfl, us_X12, tyX12_ok, nmX12, by decide, tw_1198, rfl, by decide, rfl, rfl, rfl, Or.inr ⟨_, rfl⟩⟩
theorem fi_X12_361 : FI RX12 361 12 39 0 false := ⟨RX12, TX12, 48, tyX12, rfl, us_X12, tyX12_ok, nmX12, by decide, tw_1199, rfl, by decide, rfl, rfl, rfl, rfl⟩
theorem fi_X12_112 : FI RX12 112 12 40 1 true := ⟨RX12, TX12, 48, tyX12, rfl, us_X12, tyX12_ok, nmX12, by decide, tw_1200, rfl, by decide, rfl, rfl, rfl, Or.inr ⟨_, rfl⟩⟩
theorem fi_X12_115 : FI RX12 115 12 41 1 true := ⟨RX12, TX12, 48, tyX12, rfl, us_X12, tyX12_ok, nmX12, by decide, tw_1201, rfl, by decide, rfl, rfl, rfl, Or.inr ⟨_, rfl⟩⟩
theorem fi_X12_118 : FI RX12 118 12 42 1 true := ⟨RX12, TX12, 48, tyX12, rfl, us_X12, tyX12_ok, nmX12, by decide, tw_1202, rfl, by decide, rfl, rfl, rfl, Or.inr ⟨_, rfl⟩⟩
theorem fi_X12_121 : FI RX12 121 12 43 1 true := ⟨RX12, TX12, 48, tyX12, rfl, us_X12, tyX12_ok, nmX12, by decide, tw_1203, rfl, by decide, rfl, rfl, rfl, Or.inr ⟨_, rfl⟩⟩
theorem fi_X12_124 : FI RX12 124 12 44 1 true := ⟨RX12, TX12, 48, tyX12, rfl, us_X12, tyX12_ok, nmX12, by decide, tw_1204, rfl, by decide, rfl, rfl, rfl, Or.inr ⟨_, rfl⟩⟩
theorem fi_X12_127 : FI RX12 127 12 45 1 true := ⟨RX12, TX12, 48, tyX12, rfl, us_X12, tyX12_ok, nmX12, by decide, tw_1205, rfl, by decide, rfl, rfl, rfl, Or.inr ⟨_, rfl⟩⟩
theorem fi_X12_130 : FI RX12 130 12 46 1 true := ⟨RX12, TX12, 48, tyX12, rfl, us_X12, tyX12_ok, nmX12, by decide, tw_1206, rfl, by decide, rfl, rfl, rfl, Or.inr ⟨_, rfl⟩⟩
theorem fi_X12_133 : FI RX12 133 12 47 1 true := ⟨RX12, TX12, 48, tyX12, rfl, us_X12, tyX12_ok, nmX12, by decide, tw_1207, rfl, by decide, rfl, rfl, rfl, Or.inr ⟨_, rfl⟩⟩
theorem kc_X12_195 : TW (.constant RX12 195 (65535)) := tw_1336
theorem kl_X12_143 : TW (.constantLong RX12 143 (37)) := tw_1352
theorem kl_X12_152 : TW (.constantLong RX12 152 (10)) := tw_1359
theorem kl_X12_154 : TW (.constantLong RX12 154 (48)) := tw_1360
theorem kl_X12_221 : TW (.constantLong RX12 221 (20)) := tw_1384
theorem kl_X12_248 : TW (.constantLong RX12 248 (7919)) := tw_1412
theorem kl_X12_250 : TW (.constantLong RX12 250 (104729)) := tw_1413
theorem kl_X12_234 : TW (.constantLong RX12 234 (2147483648)) := tw_1414
theorem kl_X12_230 : TW (.constantLong RX12 230 (1103515245)) := tw_1431
theorem kl_X12_232 : TW (.constantLong RX12 232 (12345)) := tw_1432
theorem kl_X12_236 : TW (.constantLong RX12 236 (65536)) := tw_1433
theorem kc_X12_277 : TW (.constant RX12 277 (65280)) := tw_1467
theorem kl_X12_390 : TW (.constantLong RX12 390 (-1)) := tw_1646
theorem kl_L_29 : TW (.constantLong RL 29 (4294967295)) := tw_1706
theorem pm_X11_init : (parseMethodDescriptor yX11_init.desc).map (fun d => d.parameters.length) = some 0 := by decide +kernel
theorem nh_X11 : RX11 ≠ "java/lang/invoke/MethodHandle" ∧ RX11 ≠ "java/lang/invoke/VarHandle" := ⟨by decide +kernel, by decide +kernel⟩
theorem mi_L_15 : MI RL 15 yX11_init cX11_init 2 0 := ⟨⟨tw_28, tw_1, tw_30, nh_X11.1, nh_X11.2, pm_X11_init⟩, tw_29, rfl⟩
theorem oi_X11_3 : TW (.methodLink RX11 3 objectInit) := tw_31
theorem pm_X4_init : (parseMethodDescriptor yX4_init.desc).map (fun d => d.parameters.length) = some 0 := by decide +kernel
theorem nh_X4 : RX4 ≠ "java/lang/invoke/MethodHandle" ∧ RX4 ≠ "java/lang/invoke/VarHandle" := ⟨by decide +kernel, by decide +kernel⟩
theorem mn_X11_40 : MN RX11 40 yX4_init cX4_init 1 0 "ThousandLeaflets" := ⟨⟨tw_40, tw_2, tw_42, nh_X4.1, nh_X4.2, pm_X4_init⟩, tw_41, rfl⟩
theorem oi_X4_3 : TW (.methodLink RX4 3 objectInit) := tw_43
theorem pm_X9_init : (parseMethodDescriptor yX9_init.desc).map (fun d => d.parameters.length) = some 0 := by decide +kernel
theorem nh_X9 : RX9 ≠ "java/lang/invoke/MethodHandle" ∧ RX9 ≠ "java/lang/invoke/VarHandle" := ⟨by decide +kernel, by decide +kernel⟩
theorem mn_X4_11 : MN RX4 11 yX9_init cX9_init 1 0 "ThousandLeaflets" := ⟨⟨tw_46, tw_3, tw_48, nh_X9.1, nh_X9.2, pm_X9_init⟩, tw_47, rfl⟩
theorem oi_X9_3 : TW (.methodLink RX9 3 objectInit) := tw_49
theorem pm_X3_init : (parseMethodDescriptor yX3_init.desc).map (fun d => d.parameters.length) = some 0 := by decide +kernel
theorem nh_X3 : RX3 ≠ "java/lang/invoke/MethodHandle" ∧ RX3 ≠ "java/lang/invoke/VarHandle" := ⟨by decide +kernel, by decide +kernel⟩
theorem mi_X4_20 : MI RX4 20 yX3_init cX3_init 1 0 := ⟨⟨tw_77, tw_4, tw_79, nh_X3.1, nh_X3.2, pm_X3_init⟩, tw_78, rfl⟩
theorem oi_X3_3 : TW (.methodLink RX3 3 objectInit) := tw_80
theorem pm_X3_clear : (parseMethodDescriptor yX3_clear.desc).map (fun d => d.parameters.length) = some 0 := by decide +kernel
theorem mv_X3_18 : MV RX3 18 yX3_clear cX3_clear 2 none 0 3 := ⟨⟨tw_81, tw_4, tw_84, nh_X3.1, nh_X3.2, pm_X3_clear⟩, tw_82, tw_83, _, _, rfl, by decide⟩
theorem pm_X8_init : (parseMethodDescriptor yX8_init.desc).map (fun d => d.parameters.length) = some 0 := by decide +kernel
theorem nh_X8 : RX8 ≠ "java/lang/invoke/MethodHandle" ∧ RX8 ≠ "java/lang/invoke/VarHandle" := ⟨by decide +kernel, by decide +kernel⟩
theorem mn_X11_59 : MN RX11 59 yX8_init cX8_init 1 0 "ThousandLeaflets" := ⟨⟨tw_133, tw_5, tw_135, nh_X8.1, nh_X8.2, pm_X8_init⟩, tw_134, rfl⟩
theorem oi_X8_3 : TW (.methodLink RX8 3 objectInit) := tw_136
theorem pm_X5_init : (parseMethodDescriptor yX5_init.desc).map (fun d => d.parameters.length) = some 0 := by decide +kernel
theorem nh_X5 : RX5 ≠ "java/lang/invoke/MethodHandle" ∧ RX5 ≠ "java/lang/invoke/VarHandle" := ⟨by decide +kernel, by decide +kernel⟩
theorem mn_X8_20 : MN RX8 20 yX5_init cX5_init 1 0 "ThousandLeaflets" := ⟨⟨tw_139, tw_6, tw_141, nh_X5.1, nh_X5.2, pm_X5_init⟩, tw_140, rfl⟩
theorem oi_X5_3 : TW (.methodLink RX5 3 objectInit) := tw_142
theorem pm_X0_init : (parseMethodDescriptor yX0_init.desc).map (fun d => d.parameters.length) = some 0 := by decide +kernel
theorem nh_X0 : RX0 ≠ "java/lang/invoke/MethodHandle" ∧ RX0 ≠ "java/lang/invoke/VarHandle" := ⟨by decide +kernel, by decide +kernel⟩
theorem mn_X8_27 : MN RX8 27 yX0_init cX0_init 1 0 "ThousandLeaflets" := ⟨⟨tw_172, tw_7, tw_174, nh_X0.1, nh_X0.2, pm_X0_init⟩, tw_173, rfl⟩
theorem oi_X0_3 : TW (.methodLink RX0 3 objectInit) := tw_175
theorem pm_X2_init : (parseMethodDescriptor yX2_init.desc).map (fun d => d.parameters.length) = some 0 := by decide +kernel
theorem nh_X2 : RX2 ≠ "java/lang/invoke/MethodHandle" ∧ RX2 ≠ "java/lang/invoke/VarHandle" := ⟨by decide +kernel, by decide +kernel⟩
theorem mn_X11_66 : MN RX11 66 yX2_init cX2_init 1 0 "ThousandLeaflets" := ⟨⟨tw_224, tw_8, tw_226, nh_X2.1, nh_X2.2, pm_X2_init⟩, tw_225, rfl⟩
theorem oi_X2_3 : TW (.methodLink RX2 3 objectInit) := tw_227
theorem mn_X2_20 : MN RX2 20 yX0_init cX0_init 1 0 "ThousandLeaflets" := ⟨⟨tw_229, tw_7, tw_174, nh_X0.1, nh_X0.2, pm_X0_init⟩, tw_173, rfl⟩
theorem pm_X10_init : (parseMethodDescriptor yX10_init.desc).map (fun d => d.parameters.length) = some 0 := by decide +kernel
theorem nh_X10 : RX10 ≠ "java/lang/invoke/MethodHandle" ∧ RX10 ≠ "java/lang/invoke/VarHandle" := ⟨by decide +kernel, by decide +kernel⟩
theorem mi_X11_73 : MI RX11 73 yX10_init cX10_init 2 0 := ⟨⟨tw_256, tw_9, tw_258, nh_X10.1, nh_X10.2, pm_X10_init⟩, tw_257, rfl⟩
theorem oi_X10_3 : TW (.methodLink RX10 3 objectInit) := tw_259
theorem mn_X10_27 : MN RX10 27 yX0_init cX0_init 1 0 "ThousandLeaflets" := ⟨⟨tw_263, tw_7, tw_174, nh_X0.1, nh_X0.2, pm_X0_init⟩, tw_173, rfl⟩
theorem pm_X1_init : (parseMethodDescriptor yX1_init.desc).map (fun d => d.parameters.length) = some 1 := by decide +kernel
theorem nh_X1 : RX1 ≠ "java/lang/invoke/MethodHandle" ∧ RX1 ≠ "java/lang/invoke/VarHandle" := ⟨by decide +kernel, by decide +kernel⟩
theorem mi_X11_78 : MI RX11 78 yX1_init cX1_init 2 1 := ⟨⟨tw_284, tw_10, tw_286, nh_X1.1, nh_X1.2, pm_X1_init⟩, tw_285, rfl⟩
theorem oi_X1_3 : TW (.methodLink RX1 3 objectInit) := tw_287
theorem mi_X1_17 : MI RX1 17 yX3_init cX3_init 1 0 := ⟨⟨tw_289, tw_4, tw_79, nh_X3.1, nh_X3.2, pm_X3_init⟩, tw_78, rfl⟩
theorem pm_X6_init : (parseMethodDescriptor yX6_init.desc).map (fun d => d.parameters.length) = some 0 := by decide +kernel
theorem nh_X6 : RX6 ≠ "java/lang/invoke/MethodHandle" ∧ RX6 ≠ "java/lang/invoke/VarHandle" := ⟨by decide +kernel, by decide +kernel⟩
theorem mn_X11_81 : MN RX11 81 yX6_init cX6_init 1 0 "ThousandLeaflets" := ⟨⟨tw_320, tw_11, tw_322, nh_X6.1, nh_X6.2, pm_X6_init⟩, tw_321, rfl⟩
theorem oi_X6_3 : TW (.methodLink RX6 3 objectInit) := tw_323
theorem mn_X11_82 : MN RX11 82 yX5_init cX5_init 1 0 "ThousandLeaflets" := ⟨⟨tw_334, tw_6, tw_141, nh_X5.1, nh_X5.2, pm_X5_init⟩, tw_140, rfl⟩
theorem mn_X11_83 : MN RX11 83 yX0_init cX0_init 1 0 "ThousandLeaflets" := ⟨⟨tw_335, tw_7, tw_174, nh_X0.1, nh_X0.2, pm_X0_init⟩, tw_173, rfl⟩
theorem pm_X11_book : (parseMethodDescriptor yX11_book.desc).map (fun d => d.parameters.length) = some 2 := by decide +kernel
theorem mv_L_19 : MV RL 19 yX11_book cX11_book 4 (some Jvm.ClassFile.FieldType.boolean) 2 11 := ⟨⟨tw_379, tw_1, tw_382, nh_X11.1, nh_X11.2, pm_X11_book⟩, tw_380, tw_381, _, _, rfl, by decide⟩
theorem pm_X11_isBook : (parseMethodDescriptor yX11_isBook.desc).map (fun d => d.parameters.length) = some 1 := by decide +kernel
theorem ms_X11_84 : MS RX11 84 yX11_isBook cX11_isBook 1 (some Jvm.ClassFile.FieldType.boolean) 1 := ⟨⟨tw_383, tw_1, tw_385, nh_X11.1, nh_X11.2, pm_X11_isBook⟩, tw_384⟩
theorem pm_X1_tell : (parseMethodDescriptor yX1_tell.desc).map (fun d => d.parameters.length) = some 1 := by decide +kernel
theorem mv_X11_88 : MV RX11 88 yX1_tell cX1_tell 3 none 1 1 := ⟨⟨tw_386, tw_10, tw_389, nh_X1.1, nh_X1.2, pm_X1_tell⟩, tw_387, tw_388, _, _, rfl, by decide⟩
theorem mv_X1_36 : MV RX1 36 yX3_clear cX3_clear 2 none 0 3 := ⟨⟨tw_390, tw_4, tw_84, nh_X3.1, nh_X3.2, pm_X3_clear⟩, tw_82, tw_83, _, _, rfl, by decide⟩
theorem pm_X1_forgetDrawn : (parseMethodDescriptor yX1_forgetDrawn.desc).map (fun d => d.parameters.length) = some 0 := by decide +kernel
theorem mv_X1_39 : MV RX1 39 yX1_forgetDrawn cX1_forgetDrawn 2 none 0 1 := ⟨⟨tw_391, tw_10, tw_394, nh_X1.1, nh_X1.2, pm_X1_forgetDrawn⟩, tw_393, TW.of (List.mem_append_left _ (List.mem_of_getElem? (i := 0) (by decide +kernel))) rfl, _, _, rfl, by decide⟩
theorem pm_X6_dropTouching : (parseMethodDescriptor yX6_dropTouching.desc).map (fun d => d.parameters.length) = some 1 := by decide +kernel
theorem mv_X11_91 : MV RX11 91 yX6_dropTouching cX6_dropTouching 4 none 1 6 := ⟨⟨tw_395, tw_11, tw_398, nh_X6.1, nh_X6.2, pm_X6_dropTouching⟩, tw_396, tw_397, _, _, rfl, by decide⟩
theorem pm_X6_isTouching : (parseMethodDescriptor yX6_isTouching.desc).map (fun d => d.parameters.length) = some 2 := by decide +kernel
theorem ms_X6_32 : MS RX6 32 yX6_isTouching cX6_isTouching 2 (some Jvm.ClassFile.FieldType.boolean) 2 := ⟨⟨tw_399, tw_11, tw_401, nh_X6.1, nh_X6.2, pm_X6_isTouching⟩, tw_400⟩
theorem pm_X11_forgetMarks : (parseMethodDescriptor yX11_forgetMarks.desc).map (fun d => d.parameters.length) = some 0 := by decide +kernel
theorem mv_X11_94 : MV RX11 94 yX11_forgetMarks cX11_forgetMarks 2 none 0 11 := ⟨⟨tw_402, tw_1, tw_405, nh_X11.1, nh_X11.2, pm_X11_forgetMarks⟩, tw_404, TW.of (List.mem_append_left _ (List.mem_of_getElem? (i := 1) (by decide +kernel))) rfl, _, _, rfl, by decide⟩
theorem pm_X11_page : (parseMethodDescriptor yX11_page.desc).map (fun d => d.parameters.length) = some 3 := by decide +kernel
theorem mv_L_24 : MV RL 24 yX11_page cX11_page 4 (some Jvm.ClassFile.FieldType.boolean) 3 11 := ⟨⟨tw_406, tw_1, tw_409, nh_X11.1, nh_X11.2, pm_X11_page⟩, tw_407, tw_408, _, _, rfl, by decide⟩
theorem pm_X11_isTold : (parseMethodDescriptor yX11_isTold.desc).map (fun d => d.parameters.length) = some 1 := by decide +kernel
theorem mv_X11_97 : MV RX11 97 yX11_isTold cX11_isTold 2 (some Jvm.ClassFile.FieldType.boolean) 1 11 := ⟨⟨tw_410, tw_1, tw_413, nh_X11.1, nh_X11.2, pm_X11_isTold⟩, tw_412, TW.of (List.mem_append_left _ (List.mem_of_getElem? (i := 2) (by decide +kernel))) rfl, _, _, rfl, by decide⟩
theorem pm_X11_isTouched : (parseMethodDescriptor yX11_isTouched.desc).map (fun d => d.parameters.length) = some 1 := by decide +kernel
theorem mv_X11_105 : MV RX11 105 yX11_isTouched cX11_isTouched 3 (some Jvm.ClassFile.FieldType.boolean) 1 11 := ⟨⟨tw_415, tw_1, tw_418, nh_X11.1, nh_X11.2, pm_X11_isTouched⟩, tw_417, TW.of (List.mem_append_left _ (List.mem_of_getElem? (i := 3) (by decide +kernel))) rfl, _, _, rfl, by decide⟩
theorem pm_X6_touches : (parseMethodDescriptor yX6_touches.desc).map (fun d => d.parameters.length) = some 1 := by decide +kernel
theorem mv_X11_351 : MV RX11 351 yX6_touches cX6_touches 3 (some Jvm.ClassFile.FieldType.boolean) 1 6 := ⟨⟨tw_419, tw_11, tw_422, nh_X6.1, nh_X6.2, pm_X6_touches⟩, tw_420, tw_421, _, _, rfl, by decide⟩
theorem pm_X11_feed : (parseMethodDescriptor yX11_feed.desc).map (fun d => d.parameters.length) = some 3 := by decide +kernel
theorem mv_L_31 : MV RL 31 yX11_feed cX11_feed 8 (some Jvm.ClassFile.FieldType.int) 3 11 := ⟨⟨tw_423, tw_1, tw_426, nh_X11.1, nh_X11.2, pm_X11_feed⟩, tw_424, tw_425, _, _, rfl, by decide⟩
theorem pm_X9_takeEight : (parseMethodDescriptor yX9_takeEight.desc).map (fun d => d.parameters.length) = some 1 := by decide +kernel
theorem mv_X11_115 : MV RX11 115 yX9_takeEight cX9_takeEight 5 none 1 9 := ⟨⟨tw_427, tw_3, tw_430, nh_X9.1, nh_X9.2, pm_X9_takeEight⟩, tw_428, tw_429, _, _, rfl, by decide⟩
theorem pm_X11_draw : (parseMethodDescriptor yX11_draw.desc).map (fun d => d.parameters.length) = some 1 := by decide +kernel
theorem mv_L_36 : MV RL 36 yX11_draw cX11_draw 3 (some Jvm.ClassFile.FieldType.int) 1 11 := ⟨⟨tw_431, tw_1, tw_434, nh_X11.1, nh_X11.2, pm_X11_draw⟩, tw_432, tw_433, _, _, rfl, by decide⟩
theorem pm_X4_faultFor : (parseMethodDescriptor yX4_faultFor.desc).map (fun d => d.parameters.length) = some 1 := by decide +kernel
theorem mv_X11_124 : MV RX11 124 yX4_faultFor cX4_faultFor 4 (some Jvm.ClassFile.FieldType.int) 1 4 := ⟨⟨tw_435, tw_2, tw_438, nh_X4.1, nh_X4.2, pm_X4_faultFor⟩, tw_436, tw_437, _, _, rfl, by decide⟩
theorem mv_X4_25 : MV RX4 25 yX3_clear cX3_clear 2 none 0 3 := ⟨⟨tw_439, tw_4, tw_84, nh_X3.1, nh_X3.2, pm_X3_clear⟩, tw_82, tw_83, _, _, rfl, by decide⟩
theorem pm_X9_rewind : (parseMethodDescriptor yX9_rewind.desc).map (fun d => d.parameters.length) = some 0 := by decide +kernel
theorem mv_X4_28 : MV RX4 28 yX9_rewind cX9_rewind 1 none 0 9 := ⟨⟨tw_440, tw_3, tw_443, nh_X9.1, nh_X9.2, pm_X9_rewind⟩, tw_441, tw_442, _, _, rfl, by decide⟩
theorem pm_X9_next : (parseMethodDescriptor yX9_next.desc).map (fun d => d.parameters.length) = some 0 := by decide +kernel
theorem mv_X4_31 : MV RX4 31 yX9_next cX9_next 2 none 0 9 := ⟨⟨tw_444, tw_3, tw_447, nh_X9.1, nh_X9.2, pm_X9_next⟩, tw_445, tw_446, _, _, rfl, by decide⟩
theorem pm_X9_takeRun : (parseMethodDescriptor yX9_takeRun.desc).map (fun d => d.parameters.length) = some 2 := by decide +kernel
theorem mv_X9_28 : MV RX9 28 yX9_takeRun cX9_takeRun 3 none 2 9 := ⟨⟨tw_448, tw_3, tw_451, nh_X9.1, nh_X9.2, pm_X9_takeRun⟩, tw_450, TW.of (List.mem_append_left _ (List.mem_of_getElem? (i := 4) (by decide +kernel))) rfl, _, _, rfl, by decide⟩
theorem pm_X9_numberHere : (parseMethodDescriptor yX9_numberHere.desc).map (fun d => d.parameters.length) = some 0 := by decide +kernel
theorem mv_X9_32 : MV RX9 32 yX9_numberHere cX9_numberHere 3 (some Jvm.ClassFile.FieldType.int) 0 9 := ⟨⟨tw_452, tw_3, tw_455, nh_X9.1, nh_X9.2, pm_X9_numberHere⟩, tw_454, TW.of (List.mem_append_left _ (List.mem_of_getElem? (i := 5) (by decide +kernel))) rfl, _, _, rfl, by decide⟩
theorem pm_X4_statementFault : (parseMethodDescriptor yX4_statementFault.desc).map (fun d => d.parameters.length) = some 1 := by decide +kernel
theorem mv_X4_38 : MV RX4 38 yX4_statementFault cX4_statementFault 2 (some Jvm.ClassFile.FieldType.int) 1 4 := ⟨⟨tw_456, tw_2, tw_459, nh_X4.1, nh_X4.2, pm_X4_statementFault⟩, tw_458, TW.of (List.mem_append_left _ (List.mem_of_getElem? (i := 6) (by decide +kernel))) rfl, _, _, rfl, by decide⟩
theorem pm_X9_isWord : (parseMethodDescriptor yX9_isWord.desc).map (fun d => d.parameters.length) = some 1 := by decide +kernel
theorem mv_X4_44 : MV RX4 44 yX9_isWord cX9_isWord 3 (some Jvm.ClassFile.FieldType.boolean) 1 9 := ⟨⟨tw_461, tw_3, tw_464, nh_X9.1, nh_X9.2, pm_X9_isWord⟩, tw_462, tw_463, _, _, rfl, by decide⟩
theorem pm_J0_length_8abf5 : (parseMethodDescriptor yJ0_length_8abf5.desc).map (fun d => d.parameters.length) = some 0 := by decide +kernel
theorem nh_J0 : RJ0 ≠ "java/lang/invoke/MethodHandle" ∧ RJ0 ≠ "java/lang/invoke/VarHandle" := ⟨by decide +kernel, by decide +kernel⟩
theorem pm_J0_coder_7d493 : (parseMethodDescriptor yJ0_coder_7d493.desc).map (fun d => d.parameters.length) = some 0 := by decide +kernel
theorem pm_J0_charAt_5068e : (parseMethodDescriptor yJ0_charAt_5068e.desc).map (fun d => d.parameters.length) = some 1 := by decide +kernel
theorem pm_J0_isLatin1_aae02 : (parseMethodDescriptor yJ0_isLatin1_aae02.desc).map (fun d => d.parameters.length) = some 0 := by decide +kernel
theorem pm_J1_charAt_3b067 : (parseMethodDescriptor yJ1_charAt_3b067.desc).map (fun d => d.parameters.length) = some 2 := by decide +kernel
theorem nh_J1 : RJ1 ≠ "java/lang/invoke/MethodHandle" ∧ RJ1 ≠ "java/lang/invoke/VarHandle" := ⟨by decide +kernel, by decide +kernel⟩
theorem ms_J0_495 : MS RJ0 495 yJ1_charAt_3b067 cJ1_charAt_3b067 2 (some Jvm.ClassFile.FieldType.char) 2 := ⟨⟨tw_483, tw_14, tw_485, nh_J1.1, nh_J1.2, pm_J1_charAt_3b067⟩, tw_484⟩
theorem pm_J0_checkIndex_df160 : (parseMethodDescriptor yJ0_checkIndex_df160.desc).map (fun d => d.parameters.length) = some 2 := by decide +kernel
theorem ms_J1_9 : MS RJ1 9 yJ0_checkIndex_df160 cJ0_checkIndex_df160 2 none 2 := ⟨⟨tw_486, tw_13, tw_488, nh_J0.1, nh_J0.2, pm_J0_checkIndex_df160⟩, tw_487⟩
theorem pm_J3_checkIndex_8e157 : (parseMethodDescriptor yJ3_checkIndex_8e157.desc).map (fun d => d.parameters.length) = some 3 := by decide +kernel
theorem nh_J3 : RJ3 ≠ "java/lang/invoke/MethodHandle" ∧ RJ3 ≠ "java/lang/invoke/VarHandle" := ⟨by decide +kernel, by decide +kernel⟩
theorem ms_J0_1059 : MS RJ0 1059 yJ3_checkIndex_8e157 cJ3_checkIndex_8e157 3 (some Jvm.ClassFile.FieldType.int) 3 := ⟨⟨tw_491, tw_15, tw_493, nh_J3.1, nh_J3.2, pm_J3_checkIndex_8e157⟩, tw_492⟩
theorem pm_J2_charAt_3b067 : (parseMethodDescriptor yJ2_charAt_3b067.desc).map (fun d => d.parameters.length) = some 2 := by decide +kernel
theorem nh_J2 : RJ2 ≠ "java/lang/invoke/MethodHandle" ∧ RJ2 ≠ "java/lang/invoke/VarHandle" := ⟨by decide +kernel, by decide +kernel⟩
theorem ms_J0_498 : MS RJ0 498 yJ2_charAt_3b067 cJ2_charAt_3b067 2 (some Jvm.ClassFile.FieldType.char) 2 := ⟨⟨tw_494, tw_16, tw_496, nh_J2.1, nh_J2.2, pm_J2_charAt_3b067⟩, tw_495⟩
theorem pm_J2_checkIndex_2214a : (parseMethodDescriptor yJ2_checkIndex_2214a.desc).map (fun d => d.parameters.length) = some 2 := by decide +kernel
theorem ms_J2_67 : MS RJ2 67 yJ2_checkIndex_2214a cJ2_checkIndex_2214a 2 none 2 := ⟨⟨tw_497, tw_16, tw_499, nh_J2.1, nh_J2.2, pm_J2_checkIndex_2214a⟩, tw_498⟩
theorem pm_J2_length_9d52b : (parseMethodDescriptor yJ2_length_9d52b.desc).map (fun d => d.parameters.length) = some 1 := by decide +kernel
theorem ms_J2_48 : MS RJ2 48 yJ2_length_9d52b cJ2_length_9d52b 1 (some Jvm.ClassFile.FieldType.int) 1 := ⟨⟨tw_500, tw_16, tw_502, nh_J2.1, nh_J2.2, pm_J2_length_9d52b⟩, tw_501⟩
theorem ms_J2_414 : MS RJ2 414 yJ0_checkIndex_df160 cJ0_checkIndex_df160 2 none 2 := ⟨⟨tw_503, tw_13, tw_488, nh_J0.1, nh_J0.2, pm_J0_checkIndex_df160⟩, tw_487⟩
theorem pm_J2_getChar_3b067 : (parseMethodDescriptor yJ2_getChar_3b067.desc).map (fun d => d.parameters.length) = some 2 := by decide +kernel
theorem ms_J2_71 : MS RJ2 71 yJ2_getChar_3b067 cJ2_getChar_3b067 2 (some Jvm.ClassFile.FieldType.char) 2 := ⟨⟨tw_504, tw_16, tw_506, nh_J2.1, nh_J2.2, pm_J2_getChar_3b067⟩, tw_505⟩
theorem pm_X4_oddsFault : (parseMethodDescriptor yX4_oddsFault.desc).map (fun d => d.parameters.length) = some 0 := by decide +kernel
theorem mv_X4_48 : MV RX4 48 yX4_oddsFault cX4_oddsFault 3 (some Jvm.ClassFile.FieldType.int) 0 4 := ⟨⟨tw_513, tw_2, tw_516, nh_X4.1, nh_X4.2, pm_X4_oddsFault⟩, tw_515, TW.of (List.mem_append_left _ (List.mem_of_getElem? (i := 7) (by decide +kernel))) rfl, _, _, rfl, by decide⟩
theorem pm_X4_numberFault : (parseMethodDescriptor yX4_numberFault.desc).map (fun d => d.parameters.length) = some 2 := by decide +kernel
theorem mv_X4_78 : MV RX4 78 yX4_numberFault cX4_numberFault 3 (some Jvm.ClassFile.FieldType.int) 2 4 := ⟨⟨tw_517, tw_2, tw_520, nh_X4.1, nh_X4.2, pm_X4_numberFault⟩, tw_519, TW.of (List.mem_append_left _ (List.mem_of_getElem? (i := 8) (by decide +kernel))) rfl, _, _, rfl, by decide⟩
theorem pm_X4_wrong : (parseMethodDescriptor yX4_wrong.desc).map (fun d => d.parameters.length) = some 1 := by decide +kernel
theorem mv_X4_57 : MV RX4 57 yX4_wrong cX4_wrong 2 (some Jvm.ClassFile.FieldType.int) 1 4 := ⟨⟨tw_521, tw_2, tw_524, nh_X4.1, nh_X4.2, pm_X4_wrong⟩, tw_523, TW.of (List.mem_append_left _ (List.mem_of_getElem? (i := 9) (by decide +kernel))) rfl, _, _, rfl, by decide⟩
theorem pm_X4_endFault : (parseMethodDescriptor yX4_endFault.desc).map (fun d => d.parameters.length) = some 0 := by decide +kernel
theorem mv_X4_88 : MV RX4 88 yX4_endFault cX4_endFault 1 (some Jvm.ClassFile.FieldType.int) 0 4 := ⟨⟨tw_525, tw_2, tw_528, nh_X4.1, nh_X4.2, pm_X4_endFault⟩, tw_527, TW.of (List.mem_append_left _ (List.mem_of_getElem? (i := 10) (by decide +kernel))) rfl, _, _, rfl, by decide⟩
theorem pm_X4_firstFault : (parseMethodDescriptor yX4_firstFault.desc).map (fun d => d.parameters.length) = some 0 := by decide +kernel
theorem mv_X4_60 : MV RX4 60 yX4_firstFault cX4_firstFault 2 (some Jvm.ClassFile.FieldType.int) 0 4 := ⟨⟨tw_530, tw_2, tw_533, nh_X4.1, nh_X4.2, pm_X4_firstFault⟩, tw_532, TW.of (List.mem_append_left _ (List.mem_of_getElem? (i := 11) (by decide +kernel))) rfl, _, _, rfl, by decide⟩
theorem pm_X4_sumFault : (parseMethodDescriptor yX4_sumFault.desc).map (fun d => d.parameters.length) = some 1 := by decide +kernel
theorem mv_X4_68 : MV RX4 68 yX4_sumFault cX4_sumFault 4 (some Jvm.ClassFile.FieldType.int) 1 4 := ⟨⟨tw_535, tw_2, tw_538, nh_X4.1, nh_X4.2, pm_X4_sumFault⟩, tw_537, TW.of (List.mem_append_left _ (List.mem_of_getElem? (i := 12) (by decide +kernel))) rfl, _, _, rfl, by decide⟩
theorem pm_X4_sealFault : (parseMethodDescriptor yX4_sealFault.desc).map (fun d => d.parameters.length) = some 0 := by decide +kernel
theorem mv_X4_75 : MV RX4 75 yX4_sealFault cX4_sealFault 2 (some Jvm.ClassFile.FieldType.int) 0 4 := ⟨⟨tw_540, tw_2, tw_543, nh_X4.1, nh_X4.2, pm_X4_sealFault⟩, tw_542, TW.of (List.mem_append_left _ (List.mem_of_getElem? (i := 13) (by decide +kernel))) rfl, _, _, rfl, by decide⟩
theorem pm_X1_changeDraw : (parseMethodDescriptor yX1_changeDraw.desc).map (fun d => d.parameters.length) = some 1 := by decide +kernel
theorem mv_X11_132 : MV RX11 132 yX1_changeDraw cX1_changeDraw 2 none 1 1 := ⟨⟨tw_544, tw_10, tw_547, nh_X1.1, nh_X1.2, pm_X1_changeDraw⟩, tw_545, tw_546, _, _, rfl, by decide⟩
theorem pm_X3_copy : (parseMethodDescriptor yX3_copy.desc).map (fun d => d.parameters.length) = some 1 := by decide +kernel
theorem mv_X1_42 : MV RX1 42 yX3_copy cX3_copy 2 none 1 3 := ⟨⟨tw_548, tw_4, tw_551, nh_X3.1, nh_X3.2, pm_X3_copy⟩, tw_549, tw_550, _, _, rfl, by decide⟩
theorem pm_X11_leaflet : (parseMethodDescriptor yX11_leaflet.desc).map (fun d => d.parameters.length) = some 3 := by decide +kernel
theorem mv_L_41 : MV RL 41 yX11_leaflet cX11_leaflet 6 (some Jvm.ClassFile.FieldType.int) 3 11 := ⟨⟨tw_556, tw_1, tw_559, nh_X11.1, nh_X11.2, pm_X11_leaflet⟩, tw_557, tw_558, _, _, rfl, by decide⟩
theorem pm_X11_isLeaflet : (parseMethodDescriptor yX11_isLeaflet.desc).map (fun d => d.parameters.length) = some 2 := by decide +kernel
theorem mv_X11_136 : MV RX11 136 yX11_isLeaflet cX11_isLeaflet 3 (some Jvm.ClassFile.FieldType.boolean) 2 11 := ⟨⟨tw_560, tw_1, tw_563, nh_X11.1, nh_X11.2, pm_X11_isLeaflet⟩, tw_562, TW.of (List.mem_append_left _ (List.mem_of_getElem? (i := 14) (by decide +kernel))) rfl, _, _, rfl, by decide⟩
theorem pm_X11_isNumber : (parseMethodDescriptor yX11_isNumber.desc).map (fun d => d.parameters.length) = some 1 := by decide +kernel
theorem ms_X11_173 : MS RX11 173 yX11_isNumber cX11_isNumber 1 (some Jvm.ClassFile.FieldType.boolean) 1 := ⟨⟨tw_564, tw_1, tw_566, nh_X11.1, nh_X11.2, pm_X11_isNumber⟩, tw_565⟩
theorem pm_X1_pagesOf : (parseMethodDescriptor yX1_pagesOf.desc).map (fun d => d.parameters.length) = some 1 := by decide +kernel
theorem mv_X11_140 : MV RX11 140 yX1_pagesOf cX1_pagesOf 2 (some Jvm.ClassFile.FieldType.int) 1 1 := ⟨⟨tw_567, tw_10, tw_570, nh_X1.1, nh_X1.2, pm_X1_pagesOf⟩, tw_568, tw_569, _, _, rfl, by decide⟩
theorem pm_X1_drawPages : (parseMethodDescriptor yX1_drawPages.desc).map (fun d => d.parameters.length) = some 2 := by decide +kernel
theorem mv_X1_63 : MV RX1 63 yX1_drawPages cX1_drawPages 9 (some Jvm.ClassFile.FieldType.int) 2 1 := ⟨⟨tw_571, tw_10, tw_574, nh_X1.1, nh_X1.2, pm_X1_drawPages⟩, tw_572, tw_573, _, _, rfl, by decide⟩
theorem pm_X1_all : (parseMethodDescriptor yX1_all.desc).map (fun d => d.parameters.length) = some 0 := by decide +kernel
theorem mv_X1_49 : MV RX1 49 yX1_all cX1_all 1 (some Jvm.ClassFile.FieldType.int) 0 1 := ⟨⟨tw_576, tw_10, tw_579, nh_X1.1, nh_X1.2, pm_X1_all⟩, tw_577, tw_578, _, _, rfl, by decide⟩
theorem pm_X1_castDegree : (parseMethodDescriptor yX1_castDegree.desc).map (fun d => d.parameters.length) = some 1 := by decide +kernel
theorem mv_X1_71 : MV RX1 71 yX1_castDegree cX1_castDegree 2 (some Jvm.ClassFile.FieldType.int) 1 1 := ⟨⟨tw_580, tw_10, tw_583, nh_X1.1, nh_X1.2, pm_X1_castDegree⟩, tw_582, TW.of (List.mem_append_left _ (List.mem_of_getElem? (i := 15) (by decide +kernel))) rfl, _, _, rfl, by decide⟩
theorem pm_X1_cast : (parseMethodDescriptor yX1_cast.desc).map (fun d => d.parameters.length) = some 1 := by decide +kernel
theorem mv_X1_80 : MV RX1 80 yX1_cast cX1_cast 2 (some Jvm.ClassFile.FieldType.int) 1 1 := ⟨⟨tw_584, tw_10, tw_587, nh_X1.1, nh_X1.2, pm_X1_cast⟩, tw_586, TW.of (List.mem_append_left _ (List.mem_of_getElem? (i := 16) (by decide +kernel))) rfl, _, _, rfl, by decide⟩
theorem pm_X1_howMany : (parseMethodDescriptor yX1_howMany.desc).map (fun d => d.parameters.length) = some 1 := by decide +kernel
theorem mv_X1_74 : MV RX1 74 yX1_howMany cX1_howMany 6 (some Jvm.ClassFile.FieldType.int) 1 1 := ⟨⟨tw_590, tw_10, tw_593, nh_X1.1, nh_X1.2, pm_X1_howMany⟩, tw_592, TW.of (List.mem_append_left _ (List.mem_of_getElem? (i := 17) (by decide +kernel))) rfl, _, _, rfl, by decide⟩
theorem pm_X3_oddsOf : (parseMethodDescriptor yX3_oddsOf.desc).map (fun d => d.parameters.length) = some 1 := by decide +kernel
theorem mv_X1_89 : MV RX1 89 yX3_oddsOf cX3_oddsOf 2 (some Jvm.ClassFile.FieldType.int) 1 3 := ⟨⟨tw_594, tw_4, tw_597, nh_X3.1, nh_X3.2, pm_X3_oddsOf⟩, tw_595, tw_596, _, _, rfl, by decide⟩
theorem pm_X1_weightOf : (parseMethodDescriptor yX1_weightOf.desc).map (fun d => d.parameters.length) = some 1 := by decide +kernel
theorem mv_X1_77 : MV RX1 77 yX1_weightOf cX1_weightOf 2 (some Jvm.ClassFile.FieldType.int) 1 1 := ⟨⟨tw_598, tw_10, tw_601, nh_X1.1, nh_X1.2, pm_X1_weightOf⟩, tw_600, TW.of (List.mem_append_left _ (List.mem_of_getElem? (i := 18) (by decide +kernel))) rfl, _, _, rfl, by decide⟩
theorem pm_X1_pickBeside : (parseMethodDescriptor yX1_pickBeside.desc).map (fun d => d.parameters.length) = some 3 := by decide +kernel
theorem mv_X1_83 : MV RX1 83 yX1_pickBeside cX1_pickBeside 6 (some Jvm.ClassFile.FieldType.int) 3 1 := ⟨⟨tw_602, tw_10, tw_605, nh_X1.1, nh_X1.2, pm_X1_pickBeside⟩, tw_604, TW.of (List.mem_append_left _ (List.mem_of_getElem? (i := 19) (by decide +kernel))) rfl, _, _, rfl, by decide⟩
theorem pm_X1_sumOf : (parseMethodDescriptor yX1_sumOf.desc).map (fun d => d.parameters.length) = some 1 := by decide +kernel
theorem mv_X11_143 : MV RX11 143 yX1_sumOf cX1_sumOf 5 (some Jvm.ClassFile.FieldType.int) 1 1 := ⟨⟨tw_606, tw_10, tw_609, nh_X1.1, nh_X1.2, pm_X1_sumOf⟩, tw_607, tw_608, _, _, rfl, by decide⟩
theorem pm_X1_withoutHidden : (parseMethodDescriptor yX1_withoutHidden.desc).map (fun d => d.parameters.length) = some 1 := by decide +kernel
theorem mv_X1_56 : MV RX1 56 yX1_withoutHidden cX1_withoutHidden 4 (some Jvm.ClassFile.FieldType.int) 1 1 := ⟨⟨tw_610, tw_10, tw_613, nh_X1.1, nh_X1.2, pm_X1_withoutHidden⟩, tw_611, tw_612, _, _, rfl, by decide⟩
theorem pm_X1_sealOf : (parseMethodDescriptor yX1_sealOf.desc).map (fun d => d.parameters.length) = some 2 := by decide +kernel
theorem mv_X11_146 : MV RX11 146 yX1_sealOf cX1_sealOf 3 (some Jvm.ClassFile.FieldType.int) 2 1 := ⟨⟨tw_614, tw_10, tw_617, nh_X1.1, nh_X1.2, pm_X1_sealOf⟩, tw_615, tw_616, _, _, rfl, by decide⟩
theorem pm_J6_bitCount_0f7a4 : (parseMethodDescriptor yJ6_bitCount_0f7a4.desc).map (fun d => d.parameters.length) = some 1 := by decide +kernel
theorem nh_J6 : RJ6 ≠ "java/lang/invoke/MethodHandle" ∧ RJ6 ≠ "java/lang/invoke/VarHandle" := ⟨by decide +kernel, by decide +kernel⟩
theorem ms_X11_150 : MS RX11 150 yJ6_bitCount_0f7a4 cJ6_bitCount_0f7a4 1 (some Jvm.ClassFile.FieldType.int) 1 := ⟨⟨tw_618, tw_18, tw_620, nh_J6.1, nh_J6.2, pm_J6_bitCount_0f7a4⟩, tw_619⟩
theorem pm_X11_told : (parseMethodDescriptor yX11_told.desc).map (fun d => d.parameters.length) = some 2 := by decide +kernel
theorem mv_L_45 : MV RL 45 yX11_told cX11_told 3 (some Jvm.ClassFile.FieldType.int) 2 11 := ⟨⟨tw_624, tw_1, tw_627, nh_X11.1, nh_X11.2, pm_X11_told⟩, tw_625, tw_626, _, _, rfl, by decide⟩
theorem pm_X11_isPageOf : (parseMethodDescriptor yX11_isPageOf.desc).map (fun d => d.parameters.length) = some 2 := by decide +kernel
theorem mv_X11_155 : MV RX11 155 yX11_isPageOf cX11_isPageOf 3 (some Jvm.ClassFile.FieldType.boolean) 2 11 := ⟨⟨tw_628, tw_1, tw_631, nh_X11.1, nh_X11.2, pm_X11_isPageOf⟩, tw_630, TW.of (List.mem_append_left _ (List.mem_of_getElem? (i := 20) (by decide +kernel))) rfl, _, _, rfl, by decide⟩
theorem mv_X11_233 : MV RX11 233 yX1_all cX1_all 1 (some Jvm.ClassFile.FieldType.int) 0 1 := ⟨⟨tw_632, tw_10, tw_579, nh_X1.1, nh_X1.2, pm_X1_all⟩, tw_577, tw_578, _, _, rfl, by decide⟩
theorem pm_X11_comes : (parseMethodDescriptor yX11_comes.desc).map (fun d => d.parameters.length) = some 4 := by decide +kernel
theorem mv_L_50 : MV RL 50 yX11_comes cX11_comes 5 (some Jvm.ClassFile.FieldType.int) 4 11 := ⟨⟨tw_633, tw_1, tw_636, nh_X11.1, nh_X11.2, pm_X11_comes⟩, tw_634, tw_635, _, _, rfl, by decide⟩
theorem pm_X11_isQuarter : (parseMethodDescriptor yX11_isQuarter.desc).map (fun d => d.parameters.length) = some 1 := by decide +kernel
theorem ms_X11_158 : MS RX11 158 yX11_isQuarter cX11_isQuarter 1 (some Jvm.ClassFile.FieldType.boolean) 1 := ⟨⟨tw_637, tw_1, tw_639, nh_X11.1, nh_X11.2, pm_X11_isQuarter⟩, tw_638⟩
theorem pm_X1_leafletPaper : (parseMethodDescriptor yX1_leafletPaper.desc).map (fun d => d.parameters.length) = some 2 := by decide +kernel
theorem mv_X11_161 : MV RX11 161 yX1_leafletPaper cX1_leafletPaper 6 (some (Jvm.ClassFile.FieldType.object "ThousandLeaflets$Paper")) 2 1 := ⟨⟨tw_640, tw_10, tw_643, nh_X1.1, nh_X1.2, pm_X1_leafletPaper⟩, tw_641, tw_642, _, _, rfl, by decide⟩
theorem mv_X1_98 : MV RX1 98 yX1_pagesOf cX1_pagesOf 2 (some Jvm.ClassFile.FieldType.int) 1 1 := ⟨⟨tw_644, tw_10, tw_570, nh_X1.1, nh_X1.2, pm_X1_pagesOf⟩, tw_568, tw_569, _, _, rfl, by decide⟩
theorem mv_X1_101 : MV RX1 101 yX1_sumOf cX1_sumOf 5 (some Jvm.ClassFile.FieldType.int) 1 1 := ⟨⟨tw_645, tw_10, tw_609, nh_X1.1, nh_X1.2, pm_X1_sumOf⟩, tw_607, tw_608, _, _, rfl, by decide⟩
theorem mv_X1_105 : MV RX1 105 yX1_sealOf cX1_sealOf 3 (some Jvm.ClassFile.FieldType.int) 2 1 := ⟨⟨tw_647, tw_10, tw_617, nh_X1.1, nh_X1.2, pm_X1_sealOf⟩, tw_615, tw_616, _, _, rfl, by decide⟩
theorem pm_X1_paperOf : (parseMethodDescriptor yX1_paperOf.desc).map (fun d => d.parameters.length) = some 5 := by decide +kernel
theorem mv_X1_108 : MV RX1 108 yX1_paperOf cX1_paperOf 6 (some (Jvm.ClassFile.FieldType.object "ThousandLeaflets$Paper")) 5 1 := ⟨⟨tw_648, tw_10, tw_651, nh_X1.1, nh_X1.2, pm_X1_paperOf⟩, tw_649, tw_650, _, _, rfl, by decide⟩
theorem pm_X7_init : (parseMethodDescriptor yX7_init.desc).map (fun d => d.parameters.length) = some 7 := by decide +kernel
theorem nh_X7 : RX7 ≠ "java/lang/invoke/MethodHandle" ∧ RX7 ≠ "java/lang/invoke/VarHandle" := ⟨by decide +kernel, by decide +kernel⟩
theorem mi_X1_114 : MI RX1 114 yX7_init cX7_init 8 7 := ⟨⟨tw_654, tw_19, tw_656, nh_X7.1, nh_X7.2, pm_X7_init⟩, tw_655, rfl⟩
theorem oi_X7_3 : TW (.methodLink RX7 3 objectInit) := tw_657
theorem pm_X6_put : (parseMethodDescriptor yX6_put.desc).map (fun d => d.parameters.length) = some 1 := by decide +kernel
theorem mv_X11_165 : MV RX11 165 yX6_put cX6_put 2 (some Jvm.ClassFile.FieldType.int) 1 6 := ⟨⟨tw_687, tw_11, tw_690, nh_X6.1, nh_X6.2, pm_X6_put⟩, tw_688, tw_689, _, _, rfl, by decide⟩
theorem pm_X6_unnamed : (parseMethodDescriptor yX6_unnamed.desc).map (fun d => d.parameters.length) = some 0 := by decide +kernel
theorem mv_X6_24 : MV RX6 24 yX6_unnamed cX6_unnamed 4 (some Jvm.ClassFile.FieldType.int) 0 6 := ⟨⟨tw_691, tw_11, tw_694, nh_X6.1, nh_X6.2, pm_X6_unnamed⟩, tw_693, TW.of (List.mem_append_left _ (List.mem_of_getElem? (i := 21) (by decide +kernel))) rfl, _, _, rfl, by decide⟩
theorem pm_X11_slip : (parseMethodDescriptor yX11_slip.desc).map (fun d => d.parameters.length) = some 4 := by decide +kernel
theorem mv_L_55 : MV RL 55 yX11_slip cX11_slip 7 (some Jvm.ClassFile.FieldType.int) 4 11 := ⟨⟨tw_695, tw_1, tw_698, nh_X11.1, nh_X11.2, pm_X11_slip⟩, tw_696, tw_697, _, _, rfl, by decide⟩
theorem pm_X11_send : (parseMethodDescriptor yX11_send.desc).map (fun d => d.parameters.length) = some 5 := by decide +kernel
theorem mv_X11_169 : MV RX11 169 yX11_send cX11_send 6 (some Jvm.ClassFile.FieldType.int) 5 11 := ⟨⟨tw_699, tw_1, tw_702, nh_X11.1, nh_X11.2, pm_X11_send⟩, tw_701, TW.of (List.mem_append_left _ (List.mem_of_getElem? (i := 22) (by decide +kernel))) rfl, _, _, rfl, by decide⟩
theorem mv_X11_360 : MV RX11 360 yX1_paperOf cX1_paperOf 6 (some (Jvm.ClassFile.FieldType.object "ThousandLeaflets$Paper")) 5 1 := ⟨⟨tw_703, tw_10, tw_651, nh_X1.1, nh_X1.2, pm_X1_paperOf⟩, tw_649, tw_650, _, _, rfl, by decide⟩
theorem pm_X11_forged : (parseMethodDescriptor yX11_forged.desc).map (fun d => d.parameters.length) = some 5 := by decide +kernel
theorem mv_L_59 : MV RL 59 yX11_forged cX11_forged 6 (some Jvm.ClassFile.FieldType.int) 5 11 := ⟨⟨tw_704, tw_1, tw_707, nh_X11.1, nh_X11.2, pm_X11_forged⟩, tw_705, tw_706, _, _, rfl, by decide⟩
theorem pm_X11_nameless : (parseMethodDescriptor yX11_nameless.desc).map (fun d => d.parameters.length) = some 3 := by decide +kernel
theorem mv_L_64 : MV RL 64 yX11_nameless cX11_nameless 6 (some Jvm.ClassFile.FieldType.int) 3 11 := ⟨⟨tw_708, tw_1, tw_711, nh_X11.1, nh_X11.2, pm_X11_nameless⟩, tw_709, tw_710, _, _, rfl, by decide⟩
theorem mi_X11_182 : MI RX11 182 yX7_init cX7_init 8 7 := ⟨⟨tw_713, tw_19, tw_656, nh_X7.1, nh_X7.2, pm_X7_init⟩, tw_655, rfl⟩
theorem pm_X11_away : (parseMethodDescriptor yX11_away.desc).map (fun d => d.parameters.length) = some 2 := by decide +kernel
theorem mv_L_74 : MV RL 74 yX11_away cX11_away 3 (some Jvm.ClassFile.FieldType.boolean) 2 11 := ⟨⟨tw_714, tw_1, tw_717, nh_X11.1, nh_X11.2, pm_X11_away⟩, tw_715, tw_716, _, _, rfl, by decide⟩
theorem pm_X11_paperAt : (parseMethodDescriptor yX11_paperAt.desc).map (fun d => d.parameters.length) = some 2 := by decide +kernel
theorem mv_X11_185 : MV RX11 185 yX11_paperAt cX11_paperAt 3 (some (Jvm.ClassFile.FieldType.object "ThousandLeaflets$Paper")) 2 11 := ⟨⟨tw_718, tw_1, tw_721, nh_X11.1, nh_X11.2, pm_X11_paperAt⟩, tw_720, TW.of (List.mem_append_left _ (List.mem_of_getElem? (i := 23) (by decide +kernel))) rfl, _, _, rfl, by decide⟩
theorem pm_X6_at : (parseMethodDescriptor yX6_at.desc).map (fun d => d.parameters.length) = some 1 := by decide +kernel
theorem mv_X11_337 : MV RX11 337 yX6_at cX6_at 2 (some (Jvm.ClassFile.FieldType.object "ThousandLeaflets$Paper")) 1 6 := ⟨⟨tw_722, tw_11, tw_725, nh_X6.1, nh_X6.2, pm_X6_at⟩, tw_723, tw_724, _, _, rfl, by decide⟩
theorem pm_X6_drop : (parseMethodDescriptor yX6_drop.desc).map (fun d => d.parameters.length) = some 1 := by decide +kernel
theorem mv_X11_210 : MV RX11 210 yX6_drop cX6_drop 3 none 1 6 := ⟨⟨tw_726, tw_11, tw_729, nh_X6.1, nh_X6.2, pm_X6_drop⟩, tw_727, tw_728, _, _, rfl, by decide⟩
theorem pm_X11_peels : (parseMethodDescriptor yX11_peels.desc).map (fun d => d.parameters.length) = some 4 := by decide +kernel
theorem mv_L_78 : MV RL 78 yX11_peels cX11_peels 7 (some Jvm.ClassFile.FieldType.int) 4 11 := ⟨⟨tw_730, tw_1, tw_733, nh_X11.1, nh_X11.2, pm_X11_peels⟩, tw_731, tw_732, _, _, rfl, by decide⟩
theorem pm_X11_isOctet : (parseMethodDescriptor yX11_isOctet.desc).map (fun d => d.parameters.length) = some 1 := by decide +kernel
theorem ms_X11_213 : MS RX11 213 yX11_isOctet cX11_isOctet 1 (some Jvm.ClassFile.FieldType.boolean) 1 := ⟨⟨tw_734, tw_1, tw_736, nh_X11.1, nh_X11.2, pm_X11_isOctet⟩, tw_735⟩
theorem pm_X11_gather : (parseMethodDescriptor yX11_gather.desc).map (fun d => d.parameters.length) = some 3 := by decide +kernel
theorem mv_X11_216 : MV RX11 216 yX11_gather cX11_gather 8 (some (Jvm.ClassFile.FieldType.object "ThousandLeaflets$Equations")) 3 11 := ⟨⟨tw_737, tw_1, tw_740, nh_X11.1, nh_X11.2, pm_X11_gather⟩, tw_739, TW.of (List.mem_append_left _ (List.mem_of_getElem? (i := 24) (by decide +kernel))) rfl, _, _, rfl, by decide⟩
theorem pm_X5_startWith : (parseMethodDescriptor yX5_startWith.desc).map (fun d => d.parameters.length) = some 1 := by decide +kernel
theorem mv_X11_371 : MV RX11 371 yX5_startWith cX5_startWith 3 none 1 5 := ⟨⟨tw_741, tw_6, tw_744, nh_X5.1, nh_X5.2, pm_X5_startWith⟩, tw_742, tw_743, _, _, rfl, by decide⟩
theorem pm_X5_add : (parseMethodDescriptor yX5_add.desc).map (fun d => d.parameters.length) = some 2 := by decide +kernel
theorem mv_X5_46 : MV RX5 46 yX5_add cX5_add 3 none 2 5 := ⟨⟨tw_745, tw_6, tw_748, nh_X5.1, nh_X5.2, pm_X5_add⟩, tw_746, tw_747, _, _, rfl, by decide⟩
theorem pm_X7_hasOctet : (parseMethodDescriptor yX7_hasOctet.desc).map (fun d => d.parameters.length) = some 1 := by decide +kernel
theorem mv_X11_365 : MV RX11 365 yX7_hasOctet cX7_hasOctet 2 (some Jvm.ClassFile.FieldType.boolean) 1 7 := ⟨⟨tw_749, tw_19, tw_752, nh_X7.1, nh_X7.2, pm_X7_hasOctet⟩, tw_750, tw_751, _, _, rfl, by decide⟩
theorem pm_X7_equation : (parseMethodDescriptor yX7_equation.desc).map (fun d => d.parameters.length) = some 2 := by decide +kernel
theorem mv_X11_375 : MV RX11 375 yX7_equation cX7_equation 3 (some Jvm.ClassFile.FieldType.int) 2 7 := ⟨⟨tw_753, tw_19, tw_756, nh_X7.1, nh_X7.2, pm_X7_equation⟩, tw_754, tw_755, _, _, rfl, by decide⟩
theorem pm_X7_pagesBy : (parseMethodDescriptor yX7_pagesBy.desc).map (fun d => d.parameters.length) = some 1 := by decide +kernel
theorem mv_X7_33 : MV RX7 33 yX7_pagesBy cX7_pagesBy 2 (some Jvm.ClassFile.FieldType.int) 1 7 := ⟨⟨tw_757, tw_19, tw_760, nh_X7.1, nh_X7.2, pm_X7_pagesBy⟩, tw_758, tw_759, _, _, rfl, by decide⟩
theorem mv_X11_378 : MV RX11 378 yX5_add cX5_add 3 none 2 5 := ⟨⟨tw_761, tw_6, tw_748, nh_X5.1, nh_X5.2, pm_X5_add⟩, tw_746, tw_747, _, _, rfl, by decide⟩
theorem pm_X5_peel : (parseMethodDescriptor yX5_peel.desc).map (fun d => d.parameters.length) = some 0 := by decide +kernel
theorem mv_X11_220 : MV RX11 220 yX5_peel cX5_peel 6 (some Jvm.ClassFile.FieldType.int) 0 5 := ⟨⟨tw_762, tw_6, tw_765, nh_X5.1, nh_X5.2, pm_X5_peel⟩, tw_763, tw_764, _, _, rfl, by decide⟩
theorem pm_X5_firstWithOneUnknown : (parseMethodDescriptor yX5_firstWithOneUnknown.desc).map (fun d => d.parameters.length) = some 1 := by decide +kernel
theorem mv_X5_58 : MV RX5 58 yX5_firstWithOneUnknown cX5_firstWithOneUnknown 4 (some Jvm.ClassFile.FieldType.int) 1 5 := ⟨⟨tw_766, tw_6, tw_769, nh_X5.1, nh_X5.2, pm_X5_firstWithOneUnknown⟩, tw_768, TW.of (List.mem_append_left _ (List.mem_of_getElem? (i := 25) (by decide +kernel))) rfl, _, _, rfl, by decide⟩
theorem pm_X5_unknownOf : (parseMethodDescriptor yX5_unknownOf.desc).map (fun d => d.parameters.length) = some 2 := by decide +kernel
theorem mv_X5_54 : MV RX5 54 yX5_unknownOf cX5_unknownOf 3 (some Jvm.ClassFile.FieldType.int) 2 5 := ⟨⟨tw_770, tw_6, tw_773, nh_X5.1, nh_X5.2, pm_X5_unknownOf⟩, tw_772, TW.of (List.mem_append_left _ (List.mem_of_getElem? (i := 26) (by decide +kernel))) rfl, _, _, rfl, by decide⟩
theorem pm_X11_lowestPlace : (parseMethodDescriptor yX11_lowestPlace.desc).map (fun d => d.parameters.length) = some 1 := by decide +kernel
theorem mz_X5_62 : MSN RX5 62 yX11_lowestPlace cX11_lowestPlace 1 (some Jvm.ClassFile.FieldType.int) 1 "ThousandLeaflets" := ⟨⟨tw_775, tw_1, tw_777, nh_X11.1, nh_X11.2, pm_X11_lowestPlace⟩, tw_776⟩
theorem pm_X5_restOf : (parseMethodDescriptor yX5_restOf.desc).map (fun d => d.parameters.length) = some 2 := by decide +kernel
theorem mv_X5_65 : MV RX5 65 yX5_restOf cX5_restOf 6 (some Jvm.ClassFile.FieldType.int) 2 5 := ⟨⟨tw_778, tw_6, tw_781, nh_X5.1, nh_X5.2, pm_X5_restOf⟩, tw_780, TW.of (List.mem_append_left _ (List.mem_of_getElem? (i := 27) (by decide +kernel))) rfl, _, _, rfl, by decide⟩
theorem pm_X5_quarrels : (parseMethodDescriptor yX5_quarrels.desc).map (fun d => d.parameters.length) = some 1 := by decide +kernel
theorem mv_X11_224 : MV RX11 224 yX5_quarrels cX5_quarrels 4 (some Jvm.ClassFile.FieldType.int) 1 5 := ⟨⟨tw_782, tw_6, tw_785, nh_X5.1, nh_X5.2, pm_X5_quarrels⟩, tw_783, tw_784, _, _, rfl, by decide⟩
theorem pm_X5_work : (parseMethodDescriptor yX5_work.desc).map (fun d => d.parameters.length) = some 1 := by decide +kernel
theorem mv_X11_227 : MV RX11 227 yX5_work cX5_work 4 (some Jvm.ClassFile.FieldType.int) 1 5 := ⟨⟨tw_786, tw_6, tw_789, nh_X5.1, nh_X5.2, pm_X5_work⟩, tw_787, tw_788, _, _, rfl, by decide⟩
theorem ms_X5_68 : MS RX5 68 yJ6_bitCount_0f7a4 cJ6_bitCount_0f7a4 1 (some Jvm.ClassFile.FieldType.int) 1 := ⟨⟨tw_790, tw_18, tw_620, nh_J6.1, nh_J6.2, pm_J6_bitCount_0f7a4⟩, tw_619⟩
theorem pm_X5_left : (parseMethodDescriptor yX5_left.desc).map (fun d => d.parameters.length) = some 1 := by decide +kernel
theorem mv_X11_230 : MV RX11 230 yX5_left cX5_left 5 (some Jvm.ClassFile.FieldType.int) 1 5 := ⟨⟨tw_791, tw_6, tw_794, nh_X5.1, nh_X5.2, pm_X5_left⟩, tw_792, tw_793, _, _, rfl, by decide⟩
theorem pm_X11_solves : (parseMethodDescriptor yX11_solves.desc).map (fun d => d.parameters.length) = some 4 := by decide +kernel
theorem mv_L_82 : MV RL 82 yX11_solves cX11_solves 7 (some Jvm.ClassFile.FieldType.int) 4 11 := ⟨⟨tw_795, tw_1, tw_798, nh_X11.1, nh_X11.2, pm_X11_solves⟩, tw_796, tw_797, _, _, rfl, by decide⟩
theorem pm_X0_take : (parseMethodDescriptor yX0_take.desc).map (fun d => d.parameters.length) = some 2 := by decide +kernel
theorem mv_X11_236 : MV RX11 236 yX0_take cX0_take 4 none 2 0 := ⟨⟨tw_799, tw_7, tw_802, nh_X0.1, nh_X0.2, pm_X0_take⟩, tw_800, tw_801, _, _, rfl, by decide⟩
theorem pm_X0_add : (parseMethodDescriptor yX0_add.desc).map (fun d => d.parameters.length) = some 1 := by decide +kernel
theorem mv_X0_32 : MV RX0 32 yX0_add cX0_add 4 none 1 0 := ⟨⟨tw_803, tw_7, tw_806, nh_X0.1, nh_X0.2, pm_X0_add⟩, tw_804, tw_805, _, _, rfl, by decide⟩
theorem pm_X0_reduce : (parseMethodDescriptor yX0_reduce.desc).map (fun d => d.parameters.length) = some 1 := by decide +kernel
theorem mv_X0_36 : MV RX0 36 yX0_reduce cX0_reduce 4 (some Jvm.ClassFile.FieldType.int) 1 0 := ⟨⟨tw_807, tw_7, tw_810, nh_X0.1, nh_X0.2, pm_X0_reduce⟩, tw_809, TW.of (List.mem_append_left _ (List.mem_of_getElem? (i := 28) (by decide +kernel))) rfl, _, _, rfl, by decide⟩
theorem pm_X0_fixedPages : (parseMethodDescriptor yX0_fixedPages.desc).map (fun d => d.parameters.length) = some 1 := by decide +kernel
theorem mv_X11_240 : MV RX11 240 yX0_fixedPages cX0_fixedPages 4 (some Jvm.ClassFile.FieldType.int) 1 0 := ⟨⟨tw_812, tw_7, tw_815, nh_X0.1, nh_X0.2, pm_X0_fixedPages⟩, tw_813, tw_814, _, _, rfl, by decide⟩
theorem pm_X0_octetOf : (parseMethodDescriptor yX0_octetOf.desc).map (fun d => d.parameters.length) = some 1 := by decide +kernel
theorem mv_X0_41 : MV RX0 41 yX0_octetOf cX0_octetOf 3 (some Jvm.ClassFile.FieldType.int) 1 0 := ⟨⟨tw_816, tw_7, tw_819, nh_X0.1, nh_X0.2, pm_X0_octetOf⟩, tw_817, tw_818, _, _, rfl, by decide⟩
theorem pm_X11_read : (parseMethodDescriptor yX11_read.desc).map (fun d => d.parameters.length) = some 4 := by decide +kernel
theorem mv_L_86 : MV RL 86 yX11_read cX11_read 7 (some Jvm.ClassFile.FieldType.int) 4 11 := ⟨⟨tw_820, tw_1, tw_823, nh_X11.1, nh_X11.2, pm_X11_read⟩, tw_821, tw_822, _, _, rfl, by decide⟩
theorem pm_X11_isHow : (parseMethodDescriptor yX11_isHow.desc).map (fun d => d.parameters.length) = some 1 := by decide +kernel
theorem ms_X11_249 : MS RX11 249 yX11_isHow cX11_isHow 1 (some Jvm.ClassFile.FieldType.boolean) 1 := ⟨⟨tw_824, tw_1, tw_826, nh_X11.1, nh_X11.2, pm_X11_isHow⟩, tw_825⟩
theorem pm_X11_readOctet : (parseMethodDescriptor yX11_readOctet.desc).map (fun d => d.parameters.length) = some 5 := by decide +kernel
theorem mv_X11_252 : MV RX11 252 yX11_readOctet cX11_readOctet 8 (some Jvm.ClassFile.FieldType.int) 5 11 := ⟨⟨tw_827, tw_1, tw_830, nh_X11.1, nh_X11.2, pm_X11_readOctet⟩, tw_829, TW.of (List.mem_append_left _ (List.mem_of_getElem? (i := 29) (by decide +kernel))) rfl, _, _, rfl, by decide⟩
theorem mv_X11_272 : MV RX11 272 yX0_octetOf cX0_octetOf 3 (some Jvm.ClassFile.FieldType.int) 1 0 := ⟨⟨tw_831, tw_7, tw_819, nh_X0.1, nh_X0.2, pm_X0_octetOf⟩, tw_817, tw_818, _, _, rfl, by decide⟩
theorem pm_X11_soon : (parseMethodDescriptor yX11_soon.desc).map (fun d => d.parameters.length) = some 4 := by decide +kernel
theorem mv_L_90 : MV RL 90 yX11_soon cX11_soon 5 (some Jvm.ClassFile.FieldType.int) 4 11 := ⟨⟨tw_832, tw_1, tw_835, nh_X11.1, nh_X11.2, pm_X11_soon⟩, tw_833, tw_834, _, _, rfl, by decide⟩
theorem pm_X11_soonPeeled : (parseMethodDescriptor yX11_soonPeeled.desc).map (fun d => d.parameters.length) = some 3 := by decide +kernel
theorem mv_X11_256 : MV RX11 256 yX11_soonPeeled cX11_soonPeeled 9 (some Jvm.ClassFile.FieldType.int) 3 11 := ⟨⟨tw_836, tw_1, tw_839, nh_X11.1, nh_X11.2, pm_X11_soonPeeled⟩, tw_838, TW.of (List.mem_append_left _ (List.mem_of_getElem? (i := 30) (by decide +kernel))) rfl, _, _, rfl, by decide⟩
theorem pm_X11_spreadWith : (parseMethodDescriptor yX11_spreadWith.desc).map (fun d => d.parameters.length) = some 4 := by decide +kernel
theorem mv_X11_385 : MV RX11 385 yX11_spreadWith cX11_spreadWith 5 (some Jvm.ClassFile.FieldType.int) 4 11 := ⟨⟨tw_840, tw_1, tw_843, nh_X11.1, nh_X11.2, pm_X11_spreadWith⟩, tw_842, TW.of (List.mem_append_left _ (List.mem_of_getElem? (i := 31) (by decide +kernel))) rfl, _, _, rfl, by decide⟩
theorem pm_X5_spread : (parseMethodDescriptor yX5_spread.desc).map (fun d => d.parameters.length) = some 1 := by decide +kernel
theorem mv_X11_389 : MV RX11 389 yX5_spread cX5_spread 7 (some Jvm.ClassFile.FieldType.int) 1 5 := ⟨⟨tw_844, tw_6, tw_847, nh_X5.1, nh_X5.2, pm_X5_spread⟩, tw_845, tw_846, _, _, rfl, by decide⟩
theorem pm_X11_soonSolved : (parseMethodDescriptor yX11_soonSolved.desc).map (fun d => d.parameters.length) = some 3 := by decide +kernel
theorem mv_X11_260 : MV RX11 260 yX11_soonSolved cX11_soonSolved 8 (some Jvm.ClassFile.FieldType.int) 3 11 := ⟨⟨tw_848, tw_1, tw_851, nh_X11.1, nh_X11.2, pm_X11_soonSolved⟩, tw_850, TW.of (List.mem_append_left _ (List.mem_of_getElem? (i := 32) (by decide +kernel))) rfl, _, _, rfl, by decide⟩
theorem mv_X11_392 : MV RX11 392 yX0_add cX0_add 4 none 1 0 := ⟨⟨tw_852, tw_7, tw_806, nh_X0.1, nh_X0.2, pm_X0_add⟩, tw_804, tw_805, _, _, rfl, by decide⟩
theorem pm_X11_slipped : (parseMethodDescriptor yX11_slipped.desc).map (fun d => d.parameters.length) = some 4 := by decide +kernel
theorem mv_L_94 : MV RL 94 yX11_slipped cX11_slipped 10 (some Jvm.ClassFile.FieldType.int) 4 11 := ⟨⟨tw_853, tw_1, tw_856, nh_X11.1, nh_X11.2, pm_X11_slipped⟩, tw_854, tw_855, _, _, rfl, by decide⟩
theorem pm_X11_right : (parseMethodDescriptor yX11_right.desc).map (fun d => d.parameters.length) = some 4 := by decide +kernel
theorem mv_L_98 : MV RL 98 yX11_right cX11_right 10 (some Jvm.ClassFile.FieldType.int) 4 11 := ⟨⟨tw_857, tw_1, tw_860, nh_X11.1, nh_X11.2, pm_X11_right⟩, tw_858, tw_859, _, _, rfl, by decide⟩
theorem pm_X11_doubles : (parseMethodDescriptor yX11_doubles.desc).map (fun d => d.parameters.length) = some 3 := by decide +kernel
theorem mv_L_102 : MV RL 102 yX11_doubles cX11_doubles 9 (some Jvm.ClassFile.FieldType.int) 3 11 := ⟨⟨tw_861, tw_1, tw_864, nh_X11.1, nh_X11.2, pm_X11_doubles⟩, tw_862, tw_863, _, _, rfl, by decide⟩
theorem pm_X11_guard : (parseMethodDescriptor yX11_guard.desc).map (fun d => d.parameters.length) = some 4 := by decide +kernel
theorem mv_L_106 : MV RL 106 yX11_guard cX11_guard 8 (some Jvm.ClassFile.FieldType.int) 4 11 := ⟨⟨tw_865, tw_1, tw_868, nh_X11.1, nh_X11.2, pm_X11_guard⟩, tw_866, tw_867, _, _, rfl, by decide⟩
theorem pm_X5_fewestGuarding : (parseMethodDescriptor yX5_fewestGuarding.desc).map (fun d => d.parameters.length) = some 2 := by decide +kernel
theorem mv_X11_275 : MV RX11 275 yX5_fewestGuarding cX5_fewestGuarding 9 (some Jvm.ClassFile.FieldType.int) 2 5 := ⟨⟨tw_869, tw_6, tw_872, nh_X5.1, nh_X5.2, pm_X5_fewestGuarding⟩, tw_870, tw_871, _, _, rfl, by decide⟩
theorem pm_X5_touchPapers : (parseMethodDescriptor yX5_touchPapers.desc).map (fun d => d.parameters.length) = some 1 := by decide +kernel
theorem mv_X5_73 : MV RX5 73 yX5_touchPapers cX5_touchPapers 5 none 1 5 := ⟨⟨tw_873, tw_6, tw_876, nh_X5.1, nh_X5.2, pm_X5_touchPapers⟩, tw_875, TW.of (List.mem_append_left _ (List.mem_of_getElem? (i := 33) (by decide +kernel))) rfl, _, _, rfl, by decide⟩
theorem mv_X5_77 : MV RX5 77 yX1_withoutHidden cX1_withoutHidden 4 (some Jvm.ClassFile.FieldType.int) 1 1 := ⟨⟨tw_877, tw_10, tw_613, nh_X1.1, nh_X1.2, pm_X1_withoutHidden⟩, tw_611, tw_612, _, _, rfl, by decide⟩
theorem pm_X5_fewestTouched : (parseMethodDescriptor yX5_fewestTouched.desc).map (fun d => d.parameters.length) = some 2 := by decide +kernel
theorem mv_X5_80 : MV RX5 80 yX5_fewestTouched cX5_fewestTouched 8 (some Jvm.ClassFile.FieldType.int) 2 5 := ⟨⟨tw_878, tw_6, tw_881, nh_X5.1, nh_X5.2, pm_X5_fewestTouched⟩, tw_880, TW.of (List.mem_append_left _ (List.mem_of_getElem? (i := 34) (by decide +kernel))) rfl, _, _, rfl, by decide⟩
theorem pm_J13_bitCount_95d88 : (parseMethodDescriptor yJ13_bitCount_95d88.desc).map (fun d => d.parameters.length) = some 1 := by decide +kernel
theorem nh_J13 : RJ13 ≠ "java/lang/invoke/MethodHandle" ∧ RJ13 ≠ "java/lang/invoke/VarHandle" := ⟨by decide +kernel, by decide +kernel⟩
theorem ms_X5_84 : MS RX5 84 yJ13_bitCount_95d88 cJ13_bitCount_95d88 2 (some Jvm.ClassFile.FieldType.int) 1 := ⟨⟨tw_882, tw_24, tw_884, nh_J13.1, nh_J13.2, pm_J13_bitCount_95d88⟩, tw_883⟩
theorem pm_J9_min_7cf53 : (parseMethodDescriptor yJ9_min_7cf53.desc).map (fun d => d.parameters.length) = some 2 := by decide +kernel
theorem nh_J9 : RJ9 ≠ "java/lang/invoke/MethodHandle" ∧ RJ9 ≠ "java/lang/invoke/VarHandle" := ⟨by decide +kernel, by decide +kernel⟩
theorem ms_X5_89 : MS RX5 89 yJ9_min_7cf53 cJ9_min_7cf53 2 (some Jvm.ClassFile.FieldType.int) 2 := ⟨⟨tw_888, tw_25, tw_890, nh_J9.1, nh_J9.2, pm_J9_min_7cf53⟩, tw_889⟩
theorem pm_X11_tocome : (parseMethodDescriptor yX11_tocome.desc).map (fun d => d.parameters.length) = some 3 := by decide +kernel
theorem mv_L_110 : MV RL 110 yX11_tocome cX11_tocome 6 (some Jvm.ClassFile.FieldType.int) 3 11 := ⟨⟨tw_891, tw_1, tw_894, nh_X11.1, nh_X11.2, pm_X11_tocome⟩, tw_892, tw_893, _, _, rfl, by decide⟩
theorem pm_X2_find : (parseMethodDescriptor yX2_find.desc).map (fun d => d.parameters.length) = some 3 := by decide +kernel
theorem mv_X11_279 : MV RX11 279 yX2_find cX2_find 7 (some Jvm.ClassFile.FieldType.boolean) 3 2 := ⟨⟨tw_895, tw_8, tw_898, nh_X2.1, nh_X2.2, pm_X2_find⟩, tw_896, tw_897, _, _, rfl, by decide⟩
theorem mv_X2_28 : MV RX2 28 yX0_take cX0_take 4 none 2 0 := ⟨⟨tw_899, tw_7, tw_802, nh_X0.1, nh_X0.2, pm_X0_take⟩, tw_800, tw_801, _, _, rfl, by decide⟩
theorem mv_X2_36 : MV RX2 36 yX1_all cX1_all 1 (some Jvm.ClassFile.FieldType.int) 0 1 := ⟨⟨tw_900, tw_10, tw_579, nh_X1.1, nh_X1.2, pm_X1_all⟩, tw_577, tw_578, _, _, rfl, by decide⟩
theorem mv_X2_51 : MV RX2 51 yX1_pagesOf cX1_pagesOf 2 (some Jvm.ClassFile.FieldType.int) 1 1 := ⟨⟨tw_901, tw_10, tw_570, nh_X1.1, nh_X1.2, pm_X1_pagesOf⟩, tw_568, tw_569, _, _, rfl, by decide⟩
theorem mv_X2_55 : MV RX2 55 yX1_sumOf cX1_sumOf 5 (some Jvm.ClassFile.FieldType.int) 1 1 := ⟨⟨tw_902, tw_10, tw_609, nh_X1.1, nh_X1.2, pm_X1_sumOf⟩, tw_607, tw_608, _, _, rfl, by decide⟩
theorem pm_X2_seek : (parseMethodDescriptor yX2_seek.desc).map (fun d => d.parameters.length) = some 3 := by decide +kernel
theorem mv_X2_58 : MV RX2 58 yX2_seek cX2_seek 7 none 3 2 := ⟨⟨tw_903, tw_8, tw_906, nh_X2.1, nh_X2.2, pm_X2_seek⟩, tw_905, TW.of (List.mem_append_left _ (List.mem_of_getElem? (i := 35) (by decide +kernel))) rfl, _, _, rfl, by decide⟩
theorem ms_X2_65 : MS RX2 65 yJ9_min_7cf53 cJ9_min_7cf53 2 (some Jvm.ClassFile.FieldType.int) 2 := ⟨⟨tw_907, tw_25, tw_890, nh_J9.1, nh_J9.2, pm_J9_min_7cf53⟩, tw_889⟩
theorem mv_X2_71 : MV RX2 71 yX0_add cX0_add 4 none 1 0 := ⟨⟨tw_908, tw_7, tw_806, nh_X0.1, nh_X0.2, pm_X0_add⟩, tw_804, tw_805, _, _, rfl, by decide⟩
theorem pm_X0_cut : (parseMethodDescriptor yX0_cut.desc).map (fun d => d.parameters.length) = some 1 := by decide +kernel
theorem mv_X2_75 : MV RX2 75 yX0_cut cX0_cut 2 none 1 0 := ⟨⟨tw_909, tw_7, tw_912, nh_X0.1, nh_X0.2, pm_X0_cut⟩, tw_910, tw_911, _, _, rfl, by decide⟩
theorem pm_X11_chances : (parseMethodDescriptor yX11_chances.desc).map (fun d => d.parameters.length) = some 4 := by decide +kernel
theorem mv_L_114 : MV RL 114 yX11_chances cX11_chances 5 (some Jvm.ClassFile.FieldType.int) 4 11 := ⟨⟨tw_913, tw_1, tw_916, nh_X11.1, nh_X11.2, pm_X11_chances⟩, tw_914, tw_915, _, _, rfl, by decide⟩
theorem pm_X11_isSetSize : (parseMethodDescriptor yX11_isSetSize.desc).map (fun d => d.parameters.length) = some 2 := by decide +kernel
theorem ms_X11_289 : MS RX11 289 yX11_isSetSize cX11_isSetSize 2 (some Jvm.ClassFile.FieldType.boolean) 2 := ⟨⟨tw_917, tw_1, tw_919, nh_X11.1, nh_X11.2, pm_X11_isSetSize⟩, tw_918⟩
theorem pm_X8_tally : (parseMethodDescriptor yX8_tally.desc).map (fun d => d.parameters.length) = some 4 := by decide +kernel
theorem mv_X11_292 : MV RX11 292 yX8_tally cX8_tally 6 none 4 8 := ⟨⟨tw_920, tw_5, tw_923, nh_X8.1, nh_X8.2, pm_X8_tally⟩, tw_921, tw_922, _, _, rfl, by decide⟩
theorem ms_X8_32 : MS RX8 32 yJ9_min_7cf53 cJ9_min_7cf53 2 (some Jvm.ClassFile.FieldType.int) 2 := ⟨⟨tw_924, tw_25, tw_890, nh_J9.1, nh_J9.2, pm_J9_min_7cf53⟩, tw_889⟩
theorem mv_X8_45 : MV RX8 45 yX1_all cX1_all 1 (some Jvm.ClassFile.FieldType.int) 0 1 := ⟨⟨tw_925, tw_10, tw_579, nh_X1.1, nh_X1.2, pm_X1_all⟩, tw_577, tw_578, _, _, rfl, by decide⟩
theorem pm_X1_allBits : (parseMethodDescriptor yX1_allBits.desc).map (fun d => d.parameters.length) = some 0 := by decide +kernel
theorem mv_X8_53 : MV RX8 53 yX1_allBits cX1_allBits 1 (some Jvm.ClassFile.FieldType.int) 0 1 := ⟨⟨tw_926, tw_10, tw_929, nh_X1.1, nh_X1.2, pm_X1_allBits⟩, tw_927, tw_928, _, _, rfl, by decide⟩
theorem mv_X8_58 : MV RX8 58 yX1_drawPages cX1_drawPages 9 (some Jvm.ClassFile.FieldType.int) 2 1 := ⟨⟨tw_930, tw_10, tw_574, nh_X1.1, nh_X1.2, pm_X1_drawPages⟩, tw_572, tw_573, _, _, rfl, by decide⟩
theorem mv_X8_61 : MV RX8 61 yX1_pagesOf cX1_pagesOf 2 (some Jvm.ClassFile.FieldType.int) 1 1 := ⟨⟨tw_931, tw_10, tw_570, nh_X1.1, nh_X1.2, pm_X1_pagesOf⟩, tw_568, tw_569, _, _, rfl, by decide⟩
theorem mv_X8_65 : MV RX8 65 yX5_startWith cX5_startWith 3 none 1 5 := ⟨⟨tw_932, tw_6, tw_744, nh_X5.1, nh_X5.2, pm_X5_startWith⟩, tw_742, tw_743, _, _, rfl, by decide⟩
theorem mv_X8_69 : MV RX8 69 yX0_take cX0_take 4 none 2 0 := ⟨⟨tw_933, tw_7, tw_802, nh_X0.1, nh_X0.2, pm_X0_take⟩, tw_800, tw_801, _, _, rfl, by decide⟩
theorem pm_X8_walk : (parseMethodDescriptor yX8_walk.desc).map (fun d => d.parameters.length) = some 3 := by decide +kernel
theorem mv_X8_73 : MV RX8 73 yX8_walk cX8_walk 6 none 3 8 := ⟨⟨tw_934, tw_5, tw_937, nh_X8.1, nh_X8.2, pm_X8_walk⟩, tw_936, TW.of (List.mem_append_left _ (List.mem_of_getElem? (i := 36) (by decide +kernel))) rfl, _, _, rfl, by decide⟩
theorem pm_X8_addAllWith : (parseMethodDescriptor yX8_addAllWith.desc).map (fun d => d.parameters.length) = some 2 := by decide +kernel
theorem mv_X8_80 : MV RX8 80 yX8_addAllWith cX8_addAllWith 4 none 2 8 := ⟨⟨tw_938, tw_5, tw_941, nh_X8.1, nh_X8.2, pm_X8_addAllWith⟩, tw_940, TW.of (List.mem_append_left _ (List.mem_of_getElem? (i := 37) (by decide +kernel))) rfl, _, _, rfl, by decide⟩
theorem pm_X11_choose : (parseMethodDescriptor yX11_choose.desc).map (fun d => d.parameters.length) = some 2 := by decide +kernel
theorem mz_X8_100 : MSN RX8 100 yX11_choose cX11_choose 4 (some Jvm.ClassFile.FieldType.int) 2 "ThousandLeaflets" := ⟨⟨tw_942, tw_1, tw_944, nh_X11.1, nh_X11.2, pm_X11_choose⟩, tw_943⟩
theorem mv_X8_87 : MV RX8 87 yX0_add cX0_add 4 none 1 0 := ⟨⟨tw_945, tw_7, tw_806, nh_X0.1, nh_X0.2, pm_X0_add⟩, tw_804, tw_805, _, _, rfl, by decide⟩
theorem mv_X8_91 : MV RX8 91 yX5_add cX5_add 3 none 2 5 := ⟨⟨tw_946, tw_6, tw_748, nh_X5.1, nh_X5.2, pm_X5_add⟩, tw_746, tw_747, _, _, rfl, by decide⟩
theorem mv_X8_93 : MV RX8 93 yX5_spread cX5_spread 7 (some Jvm.ClassFile.FieldType.int) 1 5 := ⟨⟨tw_947, tw_6, tw_847, nh_X5.1, nh_X5.2, pm_X5_spread⟩, tw_845, tw_846, _, _, rfl, by decide⟩
theorem mv_X8_96 : MV RX8 96 yX0_cut cX0_cut 2 none 1 0 := ⟨⟨tw_948, tw_7, tw_912, nh_X0.1, nh_X0.2, pm_X0_cut⟩, tw_910, tw_911, _, _, rfl, by decide⟩
theorem pm_X5_cut : (parseMethodDescriptor yX5_cut.desc).map (fun d => d.parameters.length) = some 1 := by decide +kernel
theorem mv_X8_99 : MV RX8 99 yX5_cut cX5_cut 2 none 1 5 := ⟨⟨tw_949, tw_6, tw_952, nh_X5.1, nh_X5.2, pm_X5_cut⟩, tw_950, tw_951, _, _, rfl, by decide⟩
theorem pm_X11_enough : (parseMethodDescriptor yX11_enough.desc).map (fun d => d.parameters.length) = some 4 := by decide +kernel
theorem mv_L_118 : MV RL 118 yX11_enough cX11_enough 8 (some Jvm.ClassFile.FieldType.int) 4 11 := ⟨⟨tw_953, tw_1, tw_956, nh_X11.1, nh_X11.2, pm_X11_enough⟩, tw_954, tw_955, _, _, rfl, by decide⟩
theorem ms_X11_299 : MS RX11 299 yX11_choose cX11_choose 4 (some Jvm.ClassFile.FieldType.int) 2 := ⟨⟨tw_957, tw_1, tw_944, nh_X11.1, nh_X11.2, pm_X11_choose⟩, tw_943⟩
theorem pm_X11_average : (parseMethodDescriptor yX11_average.desc).map (fun d => d.parameters.length) = some 4 := by decide +kernel
theorem mv_L_123 : MV RL 123 yX11_average cX11_average 14 (some Jvm.ClassFile.FieldType.long) 4 11 := ⟨⟨tw_958, tw_1, tw_961, nh_X11.1, nh_X11.2, pm_X11_average⟩, tw_959, tw_960, _, _, rfl, by decide⟩
theorem pm_X11_commonDivisor : (parseMethodDescriptor yX11_commonDivisor.desc).map (fun d => d.parameters.length) = some 2 := by decide +kernel
theorem ms_X11_304 : MS RX11 304 yX11_commonDivisor cX11_commonDivisor 11 (some Jvm.ClassFile.FieldType.long) 2 := ⟨⟨tw_963, tw_1, tw_965, nh_X11.1, nh_X11.2, pm_X11_commonDivisor⟩, tw_964⟩
theorem pm_X11_degree : (parseMethodDescriptor yX11_degree.desc).map (fun d => d.parameters.length) = some 4 := by decide +kernel
theorem mv_L_128 : MV RL 128 yX11_degree cX11_degree 10 (some Jvm.ClassFile.FieldType.int) 4 11 := ⟨⟨tw_966, tw_1, tw_969, nh_X11.1, nh_X11.2, pm_X11_degree⟩, tw_967, tw_968, _, _, rfl, by decide⟩
theorem pm_X11_apart : (parseMethodDescriptor yX11_apart.desc).map (fun d => d.parameters.length) = some 2 := by decide +kernel
theorem mv_L_132 : MV RL 132 yX11_apart cX11_apart 6 (some Jvm.ClassFile.FieldType.int) 2 11 := ⟨⟨tw_970, tw_1, tw_973, nh_X11.1, nh_X11.2, pm_X11_apart⟩, tw_971, tw_972, _, _, rfl, by decide⟩
theorem pm_X10_basisOf : (parseMethodDescriptor yX10_basisOf.desc).map (fun d => d.parameters.length) = some 2 := by decide +kernel
theorem mv_X11_308 : MV RX11 308 yX10_basisOf cX10_basisOf 3 (some (Jvm.ClassFile.FieldType.object "ThousandLeaflets$Basis")) 2 10 := ⟨⟨tw_974, tw_9, tw_977, nh_X10.1, nh_X10.2, pm_X10_basisOf⟩, tw_975, tw_976, _, _, rfl, by decide⟩
theorem pm_X10_findAll : (parseMethodDescriptor yX10_findAll.desc).map (fun d => d.parameters.length) = some 1 := by decide +kernel
theorem mv_X11_312 : MV RX11 312 yX10_findAll cX10_findAll 4 none 1 10 := ⟨⟨tw_978, tw_9, tw_981, nh_X10.1, nh_X10.2, pm_X10_findAll⟩, tw_979, tw_980, _, _, rfl, by decide⟩
theorem mv_X10_41 : MV RX10 41 yX6_at cX6_at 2 (some (Jvm.ClassFile.FieldType.object "ThousandLeaflets$Paper")) 1 6 := ⟨⟨tw_982, tw_11, tw_725, nh_X6.1, nh_X6.2, pm_X6_at⟩, tw_723, tw_724, _, _, rfl, by decide⟩
theorem pm_X10_allAgree : (parseMethodDescriptor yX10_allAgree.desc).map (fun d => d.parameters.length) = some 0 := by decide +kernel
theorem mv_X10_48 : MV RX10 48 yX10_allAgree cX10_allAgree 2 (some Jvm.ClassFile.FieldType.boolean) 0 10 := ⟨⟨tw_983, tw_9, tw_986, nh_X10.1, nh_X10.2, pm_X10_allAgree⟩, tw_985, TW.of (List.mem_append_left _ (List.mem_of_getElem? (i := 38) (by decide +kernel))) rfl, _, _, rfl, by decide⟩
theorem pm_X10_give : (parseMethodDescriptor yX10_give.desc).map (fun d => d.parameters.length) = some 2 := by decide +kernel
theorem mv_X10_52 : MV RX10 52 yX10_give cX10_give 5 none 2 10 := ⟨⟨tw_987, tw_9, tw_990, nh_X10.1, nh_X10.2, pm_X10_give⟩, tw_989, TW.of (List.mem_append_left _ (List.mem_of_getElem? (i := 39) (by decide +kernel))) rfl, _, _, rfl, by decide⟩
theorem pm_X10_tryBook : (parseMethodDescriptor yX10_tryBook.desc).map (fun d => d.parameters.length) = some 4 := by decide +kernel
theorem mv_X10_60 : MV RX10 60 yX10_tryBook cX10_tryBook 9 none 4 10 := ⟨⟨tw_991, tw_9, tw_994, nh_X10.1, nh_X10.2, pm_X10_tryBook⟩, tw_993, TW.of (List.mem_append_left _ (List.mem_of_getElem? (i := 40) (by decide +kernel))) rfl, _, _, rfl, by decide⟩
theorem mv_X10_64 : MV RX10 64 yX10_basisOf cX10_basisOf 3 (some (Jvm.ClassFile.FieldType.object "ThousandLeaflets$Basis")) 2 10 := ⟨⟨tw_995, tw_9, tw_977, nh_X10.1, nh_X10.2, pm_X10_basisOf⟩, tw_975, tw_976, _, _, rfl, by decide⟩
theorem mv_X10_71 : MV RX10 71 yX7_equation cX7_equation 3 (some Jvm.ClassFile.FieldType.int) 2 7 := ⟨⟨tw_996, tw_19, tw_756, nh_X7.1, nh_X7.2, pm_X7_equation⟩, tw_754, tw_755, _, _, rfl, by decide⟩
theorem mv_X10_75 : MV RX10 75 yX0_add cX0_add 4 none 1 0 := ⟨⟨tw_997, tw_7, tw_806, nh_X0.1, nh_X0.2, pm_X0_add⟩, tw_804, tw_805, _, _, rfl, by decide⟩
theorem mv_X10_79 : MV RX10 79 yX0_cut cX0_cut 2 none 1 0 := ⟨⟨tw_998, tw_7, tw_912, nh_X0.1, nh_X0.2, pm_X0_cut⟩, tw_910, tw_911, _, _, rfl, by decide⟩
theorem pm_X10_bookAt : (parseMethodDescriptor yX10_bookAt.desc).map (fun d => d.parameters.length) = some 1 := by decide +kernel
theorem mv_X11_316 : MV RX11 316 yX10_bookAt cX10_bookAt 5 (some Jvm.ClassFile.FieldType.int) 1 10 := ⟨⟨tw_999, tw_9, tw_1002, nh_X10.1, nh_X10.2, pm_X10_bookAt⟩, tw_1000, tw_1001, _, _, rfl, by decide⟩
theorem pm_X11_quarter : (parseMethodDescriptor yX11_quarter.desc).map (fun d => d.parameters.length) = some 3 := by decide +kernel
theorem mv_L_136 : MV RL 136 yX11_quarter cX11_quarter 4 (some Jvm.ClassFile.FieldType.boolean) 3 11 := ⟨⟨tw_1003, tw_1, tw_1006, nh_X11.1, nh_X11.2, pm_X11_quarter⟩, tw_1004, tw_1005, _, _, rfl, by decide⟩
theorem pm_X11_scatter : (parseMethodDescriptor yX11_scatter.desc).map (fun d => d.parameters.length) = some 3 := by decide +kernel
theorem mv_L_140 : MV RL 140 yX11_scatter cX11_scatter 6 (some Jvm.ClassFile.FieldType.int) 3 11 := ⟨⟨tw_1007, tw_1, tw_1010, nh_X11.1, nh_X11.2, pm_X11_scatter⟩, tw_1008, tw_1009, _, _, rfl, by decide⟩
theorem pm_X11_isRoomAnywhere : (parseMethodDescriptor yX11_isRoomAnywhere.desc).map (fun d => d.parameters.length) = some 0 := by decide +kernel
theorem mv_X11_319 : MV RX11 319 yX11_isRoomAnywhere cX11_isRoomAnywhere 2 (some Jvm.ClassFile.FieldType.boolean) 0 11 := ⟨⟨tw_1011, tw_1, tw_1014, nh_X11.1, nh_X11.2, pm_X11_isRoomAnywhere⟩, tw_1013, TW.of (List.mem_append_left _ (List.mem_of_getElem? (i := 41) (by decide +kernel))) rfl, _, _, rfl, by decide⟩
theorem pm_X11_throwOne : (parseMethodDescriptor yX11_throwOne.desc).map (fun d => d.parameters.length) = some 2 := by decide +kernel
theorem mv_X11_323 : MV RX11 323 yX11_throwOne cX11_throwOne 6 (some Jvm.ClassFile.FieldType.int) 2 11 := ⟨⟨tw_1015, tw_1, tw_1018, nh_X11.1, nh_X11.2, pm_X11_throwOne⟩, tw_1017, TW.of (List.mem_append_left _ (List.mem_of_getElem? (i := 42) (by decide +kernel))) rfl, _, _, rfl, by decide⟩
theorem pm_X11_falls : (parseMethodDescriptor yX11_falls.desc).map (fun d => d.parameters.length) = some 3 := by decide +kernel
theorem mv_X11_397 : MV RX11 397 yX11_falls cX11_falls 4 (some Jvm.ClassFile.FieldType.boolean) 3 11 := ⟨⟨tw_1019, tw_1, tw_1022, nh_X11.1, nh_X11.2, pm_X11_falls⟩, tw_1021, TW.of (List.mem_append_left _ (List.mem_of_getElem? (i := 43) (by decide +kernel))) rfl, _, _, rfl, by decide⟩
theorem pm_X6_hasAlike : (parseMethodDescriptor yX6_hasAlike.desc).map (fun d => d.parameters.length) = some 1 := by decide +kernel
theorem mv_X11_341 : MV RX11 341 yX6_hasAlike cX6_hasAlike 4 (some Jvm.ClassFile.FieldType.boolean) 1 6 := ⟨⟨tw_1023, tw_11, tw_1026, nh_X6.1, nh_X6.2, pm_X6_hasAlike⟩, tw_1024, tw_1025, _, _, rfl, by decide⟩
theorem pm_X7_isAlike : (parseMethodDescriptor yX7_isAlike.desc).map (fun d => d.parameters.length) = some 1 := by decide +kernel
theorem mv_X6_28 : MV RX6 28 yX7_isAlike cX7_isAlike 2 (some Jvm.ClassFile.FieldType.boolean) 1 7 := ⟨⟨tw_1027, tw_19, tw_1030, nh_X7.1, nh_X7.2, pm_X7_isAlike⟩, tw_1028, tw_1029, _, _, rfl, by decide⟩
theorem pm_X11_needs : (parseMethodDescriptor yX11_needs.desc).map (fun d => d.parameters.length) = some 2 := by decide +kernel
theorem mv_L_144 : MV RL 144 yX11_needs cX11_needs 3 (some Jvm.ClassFile.FieldType.int) 2 11 := ⟨⟨tw_1031, tw_1, tw_1034, nh_X11.1, nh_X11.2, pm_X11_needs⟩, tw_1032, tw_1033, _, _, rfl, by decide⟩
theorem pm_X11_neededIn : (parseMethodDescriptor yX11_neededIn.desc).map (fun d => d.parameters.length) = some 2 := by decide +kernel
theorem mv_X11_326 : MV RX11 326 yX11_neededIn cX11_neededIn 6 (some Jvm.ClassFile.FieldType.int) 2 11 := ⟨⟨tw_1035, tw_1, tw_1038, nh_X11.1, nh_X11.2, pm_X11_neededIn⟩, tw_1037, TW.of (List.mem_append_left _ (List.mem_of_getElem? (i := 44) (by decide +kernel))) rfl, _, _, rfl, by decide⟩
theorem pm_X11_town : (parseMethodDescriptor yX11_town.desc).map (fun d => d.parameters.length) = some 2 := by decide +kernel
theorem mv_L_148 : MV RL 148 yX11_town cX11_town 5 (some Jvm.ClassFile.FieldType.int) 2 11 := ⟨⟨tw_1039, tw_1, tw_1042, nh_X11.1, nh_X11.2, pm_X11_town⟩, tw_1040, tw_1041, _, _, rfl, by decide⟩
theorem pm_X11_allHouses : (parseMethodDescriptor yX11_allHouses.desc).map (fun d => d.parameters.length) = some 0 := by decide +kernel
theorem mv_X11_330 : MV RX11 330 yX11_allHouses cX11_allHouses 3 (some Jvm.ClassFile.FieldType.int) 0 11 := ⟨⟨tw_1043, tw_1, tw_1046, nh_X11.1, nh_X11.2, pm_X11_allHouses⟩, tw_1045, TW.of (List.mem_append_left _ (List.mem_of_getElem? (i := 45) (by decide +kernel))) rfl, _, _, rfl, by decide⟩
theorem pm_X11_housesServed : (parseMethodDescriptor yX11_housesServed.desc).map (fun d => d.parameters.length) = some 1 := by decide +kernel
theorem mv_X11_333 : MV RX11 333 yX11_housesServed cX11_housesServed 4 (some Jvm.ClassFile.FieldType.int) 1 11 := ⟨⟨tw_1047, tw_1, tw_1050, nh_X11.1, nh_X11.2, pm_X11_housesServed⟩, tw_1049, TW.of (List.mem_append_left _ (List.mem_of_getElem? (i := 46) (by decide +kernel))) rfl, _, _, rfl, by decide⟩
theorem pm_X11_swap : (parseMethodDescriptor yX11_swap.desc).map (fun d => d.parameters.length) = some 3 := by decide +kernel
theorem mv_L_152 : MV RL 152 yX11_swap cX11_swap 9 (some Jvm.ClassFile.FieldType.int) 3 11 := ⟨⟨tw_1051, tw_1, tw_1054, nh_X11.1, nh_X11.2, pm_X11_swap⟩, tw_1052, tw_1053, _, _, rfl, by decide⟩
theorem pm_X11_mark : (parseMethodDescriptor yX11_mark.desc).map (fun d => d.parameters.length) = some 2 := by decide +kernel
theorem mv_L_156 : MV RL 156 yX11_mark cX11_mark 5 (some Jvm.ClassFile.FieldType.boolean) 2 11 := ⟨⟨tw_1055, tw_1, tw_1058, nh_X11.1, nh_X11.2, pm_X11_mark⟩, tw_1056, tw_1057, _, _, rfl, by decide⟩
theorem pm_X6_copy : (parseMethodDescriptor yX6_copy.desc).map (fun d => d.parameters.length) = some 1 := by decide +kernel
theorem mv_X11_345 : MV RX11 345 yX6_copy cX6_copy 3 none 1 6 := ⟨⟨tw_1059, tw_11, tw_1062, nh_X6.1, nh_X6.2, pm_X6_copy⟩, tw_1060, tw_1061, _, _, rfl, by decide⟩
theorem pm_X11_count : (parseMethodDescriptor yX11_count.desc).map (fun d => d.parameters.length) = some 1 := by decide +kernel
theorem mv_L_161 : MV RL 161 yX11_count cX11_count 2 (some Jvm.ClassFile.FieldType.int) 1 11 := ⟨⟨tw_1063, tw_1, tw_1066, nh_X11.1, nh_X11.2, pm_X11_count⟩, tw_1064, tw_1065, _, _, rfl, by decide⟩
theorem pm_X11_paper : (parseMethodDescriptor yX11_paper.desc).map (fun d => d.parameters.length) = some 3 := by decide +kernel
theorem mv_L_7 : MV RL 7 yX11_paper cX11_paper 5 (some Jvm.ClassFile.FieldType.int) 3 11 := ⟨⟨tw_1071, tw_1, tw_1074, nh_X11.1, nh_X11.2, pm_X11_paper⟩, tw_1072, tw_1073, _, _, rfl, by decide⟩
theorem pm_X11_unknownPages : (parseMethodDescriptor yX11_unknownPages.desc).map (fun d => d.parameters.length) = some 2 := by decide +kernel
theorem mv_X11_206 : MV RX11 206 yX11_unknownPages cX11_unknownPages 5 (some Jvm.ClassFile.FieldType.int) 2 11 := ⟨⟨tw_1136, tw_1, tw_1139, nh_X11.1, nh_X11.2, pm_X11_unknownPages⟩, tw_1138, TW.of (List.mem_append_left _ (List.mem_of_getElem? (i := 48) (by decide +kernel))) rfl, _, _, rfl, by decide⟩
theorem mv_X11_368 : MV RX11 368 yX7_pagesBy cX7_pagesBy 2 (some Jvm.ClassFile.FieldType.int) 1 7 := ⟨⟨tw_1141, tw_19, tw_760, nh_X7.1, nh_X7.2, pm_X7_pagesBy⟩, tw_758, tw_759, _, _, rfl, by decide⟩
theorem pm_X12_feed : (parseMethodDescriptor yX12_feed.desc).map (fun d => d.parameters.length) = some 3 := by decide +kernel
theorem nh_X12 : RX12 ≠ "java/lang/invoke/MethodHandle" ∧ RX12 ≠ "java/lang/invoke/VarHandle" := ⟨by decide +kernel, by decide +kernel⟩
theorem mv_L_35 : MV RL 35 yX12_feed cX12_feed 7 (some Jvm.ClassFile.FieldType.int) 3 12 := ⟨⟨tw_1142, tw_12, tw_1145, nh_X12.1, nh_X12.2, pm_X12_feed⟩, tw_1143, tw_1144, _, _, rfl, by decide⟩
theorem pm_X12_lay : (parseMethodDescriptor yX12_lay.desc).map (fun d => d.parameters.length) = some 1 := by decide +kernel
theorem mv_X12_7 : MV RX12 7 yX12_lay cX12_lay 5 none 1 12 := ⟨⟨tw_1146, tw_12, tw_1150, nh_X12.1, nh_X12.2, pm_X12_lay⟩, tw_1148, TW.of (List.mem_append_left _ (List.mem_of_getElem? (i := 49) (by decide +kernel))) rfl, _, _, rfl, by decide⟩
theorem pm_X12_init : (parseMethodDescriptor yX12_init.desc).map (fun d => d.parameters.length) = some 0 := by decide +kernel
theorem mi_L_18 : MI RL 18 yX12_init cX12_init 2 0 := ⟨⟨tw_1152, tw_12, tw_1154, nh_X12.1, nh_X12.2, pm_X12_init⟩, tw_1153, rfl⟩
theorem oi_X12_18 : TW (.methodLink RX12 18 objectInit) := tw_1155
theorem pm_X12_book : (parseMethodDescriptor yX12_book.desc).map (fun d => d.parameters.length) = some 2 := by decide +kernel
theorem mv_L_23 : MV RL 23 yX12_book cX12_book 5 (some Jvm.ClassFile.FieldType.boolean) 2 12 := ⟨⟨tw_1305, tw_12, tw_1308, nh_X12.1, nh_X12.2, pm_X12_book⟩, tw_1306, tw_1307, _, _, rfl, by decide⟩
theorem pm_X12_within : (parseMethodDescriptor yX12_within.desc).map (fun d => d.parameters.length) = some 3 := by decide +kernel
theorem ms_X12_178 : MS RX12 178 yX12_within cX12_within 3 (some Jvm.ClassFile.FieldType.boolean) 3 := ⟨⟨tw_1309, tw_12, tw_1311, nh_X12.1, nh_X12.2, pm_X12_within⟩, tw_1310⟩
theorem pm_X12_forgetsDraw : (parseMethodDescriptor yX12_forgetsDraw.desc).map (fun d => d.parameters.length) = some 1 := by decide +kernel
theorem mv_X12_182 : MV RX12 182 yX12_forgetsDraw cX12_forgetsDraw 3 none 1 12 := ⟨⟨tw_1312, tw_12, tw_1315, nh_X12.1, nh_X12.2, pm_X12_forgetsDraw⟩, tw_1314, TW.of (List.mem_append_left _ (List.mem_of_getElem? (i := 50) (by decide +kernel))) rfl, _, _, rfl, by decide⟩
theorem pm_X12_takesOut : (parseMethodDescriptor yX12_takesOut.desc).map (fun d => d.parameters.length) = some 2 := by decide +kernel
theorem mv_X12_185 : MV RX12 185 yX12_takesOut cX12_takesOut 4 none 2 12 := ⟨⟨tw_1316, tw_12, tw_1319, nh_X12.1, nh_X12.2, pm_X12_takesOut⟩, tw_1318, TW.of (List.mem_append_left _ (List.mem_of_getElem? (i := 51) (by decide +kernel))) rfl, _, _, rfl, by decide⟩
theorem pm_X12_moves : (parseMethodDescriptor yX12_moves.desc).map (fun d => d.parameters.length) = some 2 := by decide +kernel
theorem mv_X12_274 : MV RX12 274 yX12_moves cX12_moves 3 none 2 12 := ⟨⟨tw_1320, tw_12, tw_1323, nh_X12.1, nh_X12.2, pm_X12_moves⟩, tw_1322, TW.of (List.mem_append_left _ (List.mem_of_getElem? (i := 52) (by decide +kernel))) rfl, _, _, rfl, by decide⟩
theorem pm_X12_forgetsMarks : (parseMethodDescriptor yX12_forgetsMarks.desc).map (fun d => d.parameters.length) = some 0 := by decide +kernel
theorem mv_X12_189 : MV RX12 189 yX12_forgetsMarks cX12_forgetsMarks 2 none 0 12 := ⟨⟨tw_1324, tw_12, tw_1327, nh_X12.1, nh_X12.2, pm_X12_forgetsMarks⟩, tw_1326, TW.of (List.mem_append_left _ (List.mem_of_getElem? (i := 53) (by decide +kernel))) rfl, _, _, rfl, by decide⟩
theorem pm_X12_page : (parseMethodDescriptor yX12_page.desc).map (fun d => d.parameters.length) = some 3 := by decide +kernel
theorem mv_L_28 : MV RL 28 yX12_page cX12_page 4 (some Jvm.ClassFile.FieldType.boolean) 3 12 := ⟨⟨tw_1328, tw_12, tw_1331, nh_X12.1, nh_X12.2, pm_X12_page⟩, tw_1329, tw_1330, _, _, rfl, by decide⟩
theorem pm_X12_isBook : (parseMethodDescriptor yX12_isBook.desc).map (fun d => d.parameters.length) = some 1 := by decide +kernel
theorem mv_X12_192 : MV RX12 192 yX12_isBook cX12_isBook 2 (some Jvm.ClassFile.FieldType.boolean) 1 12 := ⟨⟨tw_1332, tw_12, tw_1335, nh_X12.1, nh_X12.2, pm_X12_isBook⟩, tw_1334, TW.of (List.mem_append_left _ (List.mem_of_getElem? (i := 54) (by decide +kernel))) rfl, _, _, rfl, by decide⟩
theorem pm_X12_isOut : (parseMethodDescriptor yX12_isOut.desc).map (fun d => d.parameters.length) = some 1 := by decide +kernel
theorem mv_X12_196 : MV RX12 196 yX12_isOut cX12_isOut 5 (some Jvm.ClassFile.FieldType.boolean) 1 12 := ⟨⟨tw_1337, tw_12, tw_1340, nh_X12.1, nh_X12.2, pm_X12_isOut⟩, tw_1339, TW.of (List.mem_append_left _ (List.mem_of_getElem? (i := 55) (by decide +kernel))) rfl, _, _, rfl, by decide⟩
theorem pm_X12_draw : (parseMethodDescriptor yX12_draw.desc).map (fun d => d.parameters.length) = some 1 := by decide +kernel
theorem mv_L_40 : MV RL 40 yX12_draw cX12_draw 3 (some Jvm.ClassFile.FieldType.int) 1 12 := ⟨⟨tw_1341, tw_12, tw_1344, nh_X12.1, nh_X12.2, pm_X12_draw⟩, tw_1342, tw_1343, _, _, rfl, by decide⟩
theorem pm_X12_cutAll : (parseMethodDescriptor yX12_cutAll.desc).map (fun d => d.parameters.length) = some 0 := by decide +kernel
theorem mv_X12_199 : MV RX12 199 yX12_cutAll cX12_cutAll 7 none 0 12 := ⟨⟨tw_1345, tw_12, tw_1348, nh_X12.1, nh_X12.2, pm_X12_cutAll⟩, tw_1347, TW.of (List.mem_append_left _ (List.mem_of_getElem? (i := 56) (by decide +kernel))) rfl, _, _, rfl, by decide⟩
theorem pm_X12_isLetter : (parseMethodDescriptor yX12_isLetter.desc).map (fun d => d.parameters.length) = some 1 := by decide +kernel
theorem ms_X12_136 : MS RX12 136 yX12_isLetter cX12_isLetter 1 (some Jvm.ClassFile.FieldType.boolean) 1 := ⟨⟨tw_1349, tw_12, tw_1351, nh_X12.1, nh_X12.2, pm_X12_isLetter⟩, tw_1350⟩
theorem pm_X12_rank : (parseMethodDescriptor yX12_rank.desc).map (fun d => d.parameters.length) = some 1 := by decide +kernel
theorem ms_X12_145 : MS RX12 145 yX12_rank cX12_rank 1 (some Jvm.ClassFile.FieldType.int) 1 := ⟨⟨tw_1353, tw_12, tw_1355, nh_X12.1, nh_X12.2, pm_X12_rank⟩, tw_1354⟩
theorem pm_X12_isDigit : (parseMethodDescriptor yX12_isDigit.desc).map (fun d => d.parameters.length) = some 1 := by decide +kernel
theorem ms_X12_149 : MS RX12 149 yX12_isDigit cX12_isDigit 1 (some Jvm.ClassFile.FieldType.boolean) 1 := ⟨⟨tw_1356, tw_12, tw_1358, nh_X12.1, nh_X12.2, pm_X12_isDigit⟩, tw_1357⟩
theorem pm_X12_isSignOf : (parseMethodDescriptor yX12_isSignOf.desc).map (fun d => d.parameters.length) = some 1 := by decide +kernel
theorem ms_X12_156 : MS RX12 156 yX12_isSignOf cX12_isSignOf 1 (some Jvm.ClassFile.FieldType.boolean) 1 := ⟨⟨tw_1361, tw_12, tw_1363, nh_X12.1, nh_X12.2, pm_X12_isSignOf⟩, tw_1362⟩
theorem pm_X12_readLine : (parseMethodDescriptor yX12_readLine.desc).map (fun d => d.parameters.length) = some 0 := by decide +kernel
theorem mv_X12_205 : MV RX12 205 yX12_readLine cX12_readLine 2 none 0 12 := ⟨⟨tw_1364, tw_12, tw_1367, nh_X12.1, nh_X12.2, pm_X12_readLine⟩, tw_1366, TW.of (List.mem_append_left _ (List.mem_of_getElem? (i := 57) (by decide +kernel))) rfl, _, _, rfl, by decide⟩
theorem pm_X12_isWord : (parseMethodDescriptor yX12_isWord.desc).map (fun d => d.parameters.length) = some 1 := by decide +kernel
theorem mv_X12_172 : MV RX12 172 yX12_isWord cX12_isWord 2 (some Jvm.ClassFile.FieldType.boolean) 1 12 := ⟨⟨tw_1368, tw_12, tw_1371, nh_X12.1, nh_X12.2, pm_X12_isWord⟩, tw_1370, TW.of (List.mem_append_left _ (List.mem_of_getElem? (i := 58) (by decide +kernel))) rfl, _, _, rfl, by decide⟩
theorem pm_X12_wrong : (parseMethodDescriptor yX12_wrong.desc).map (fun d => d.parameters.length) = some 1 := by decide +kernel
theorem mv_X12_168 : MV RX12 168 yX12_wrong cX12_wrong 2 none 1 12 := ⟨⟨tw_1372, tw_12, tw_1375, nh_X12.1, nh_X12.2, pm_X12_wrong⟩, tw_1374, TW.of (List.mem_append_left _ (List.mem_of_getElem? (i := 59) (by decide +kernel))) rfl, _, _, rfl, by decide⟩
theorem pm_X12_hasWord : (parseMethodDescriptor yX12_hasWord.desc).map (fun d => d.parameters.length) = some 1 := by decide +kernel
theorem mv_X12_175 : MV RX12 175 yX12_hasWord cX12_hasWord 3 (some Jvm.ClassFile.FieldType.boolean) 1 12 := ⟨⟨tw_1376, tw_12, tw_1379, nh_X12.1, nh_X12.2, pm_X12_hasWord⟩, tw_1378, TW.of (List.mem_append_left _ (List.mem_of_getElem? (i := 60) (by decide +kernel))) rfl, _, _, rfl, by decide⟩
theorem pm_X12_readOdds : (parseMethodDescriptor yX12_readOdds.desc).map (fun d => d.parameters.length) = some 0 := by decide +kernel
theorem mv_X12_208 : MV RX12 208 yX12_readOdds cX12_readOdds 3 none 0 12 := ⟨⟨tw_1380, tw_12, tw_1383, nh_X12.1, nh_X12.2, pm_X12_readOdds⟩, tw_1382, TW.of (List.mem_append_left _ (List.mem_of_getElem? (i := 61) (by decide +kernel))) rfl, _, _, rfl, by decide⟩
theorem pm_X12_takeNumber : (parseMethodDescriptor yX12_takeNumber.desc).map (fun d => d.parameters.length) = some 2 := by decide +kernel
theorem mv_X12_211 : MV RX12 211 yX12_takeNumber cX12_takeNumber 3 (some Jvm.ClassFile.FieldType.int) 2 12 := ⟨⟨tw_1385, tw_12, tw_1388, nh_X12.1, nh_X12.2, pm_X12_takeNumber⟩, tw_1387, TW.of (List.mem_append_left _ (List.mem_of_getElem? (i := 62) (by decide +kernel))) rfl, _, _, rfl, by decide⟩
theorem pm_X12_readSum : (parseMethodDescriptor yX12_readSum.desc).map (fun d => d.parameters.length) = some 0 := by decide +kernel
theorem mv_X12_215 : MV RX12 215 yX12_readSum cX12_readSum 3 none 0 12 := ⟨⟨tw_1389, tw_12, tw_1392, nh_X12.1, nh_X12.2, pm_X12_readSum⟩, tw_1391, TW.of (List.mem_append_left _ (List.mem_of_getElem? (i := 63) (by decide +kernel))) rfl, _, _, rfl, by decide⟩
theorem pm_X12_takeSign : (parseMethodDescriptor yX12_takeSign.desc).map (fun d => d.parameters.length) = some 1 := by decide +kernel
theorem mv_X12_218 : MV RX12 218 yX12_takeSign cX12_takeSign 2 none 1 12 := ⟨⟨tw_1393, tw_12, tw_1396, nh_X12.1, nh_X12.2, pm_X12_takeSign⟩, tw_1395, TW.of (List.mem_append_left _ (List.mem_of_getElem? (i := 64) (by decide +kernel))) rfl, _, _, rfl, by decide⟩
theorem pm_X12_isSign : (parseMethodDescriptor yX12_isSign.desc).map (fun d => d.parameters.length) = some 1 := by decide +kernel
theorem mv_X12_165 : MV RX12 165 yX12_isSign cX12_isSign 2 (some Jvm.ClassFile.FieldType.boolean) 1 12 := ⟨⟨tw_1397, tw_12, tw_1400, nh_X12.1, nh_X12.2, pm_X12_isSign⟩, tw_1399, TW.of (List.mem_append_left _ (List.mem_of_getElem? (i := 65) (by decide +kernel))) rfl, _, _, rfl, by decide⟩
theorem pm_X12_leaflet : (parseMethodDescriptor yX12_leaflet.desc).map (fun d => d.parameters.length) = some 3 := by decide +kernel
theorem mv_L_44 : MV RL 44 yX12_leaflet cX12_leaflet 5 (some Jvm.ClassFile.FieldType.int) 3 12 := ⟨⟨tw_1401, tw_12, tw_1404, nh_X12.1, nh_X12.2, pm_X12_leaflet⟩, tw_1402, tw_1403, _, _, rfl, by decide⟩
theorem pm_X12_isNumber : (parseMethodDescriptor yX12_isNumber.desc).map (fun d => d.parameters.length) = some 1 := by decide +kernel
theorem ms_X12_258 : MS RX12 258 yX12_isNumber cX12_isNumber 1 (some Jvm.ClassFile.FieldType.boolean) 1 := ⟨⟨tw_1405, tw_12, tw_1407, nh_X12.1, nh_X12.2, pm_X12_isNumber⟩, tw_1406⟩
theorem pm_X12_setOf : (parseMethodDescriptor yX12_setOf.desc).map (fun d => d.parameters.length) = some 2 := by decide +kernel
theorem mv_X12_261 : MV RX12 261 yX12_setOf cX12_setOf 10 (some Jvm.ClassFile.FieldType.int) 2 12 := ⟨⟨tw_1408, tw_12, tw_1411, nh_X12.1, nh_X12.2, pm_X12_setOf⟩, tw_1410, TW.of (List.mem_append_left _ (List.mem_of_getElem? (i := 66) (by decide +kernel))) rfl, _, _, rfl, by decide⟩
theorem pm_X12_howMany : (parseMethodDescriptor yX12_howMany.desc).map (fun d => d.parameters.length) = some 1 := by decide +kernel
theorem mv_X12_252 : MV RX12 252 yX12_howMany cX12_howMany 6 (some Jvm.ClassFile.FieldType.int) 1 12 := ⟨⟨tw_1415, tw_12, tw_1418, nh_X12.1, nh_X12.2, pm_X12_howMany⟩, tw_1417, TW.of (List.mem_append_left _ (List.mem_of_getElem? (i := 67) (by decide +kernel))) rfl, _, _, rfl, by decide⟩
theorem pm_X12_allOf : (parseMethodDescriptor yX12_allOf.desc).map (fun d => d.parameters.length) = some 1 := by decide +kernel
theorem mv_X12_238 : MV RX12 238 yX12_allOf cX12_allOf 2 (some Jvm.ClassFile.FieldType.int) 1 12 := ⟨⟨tw_1419, tw_12, tw_1422, nh_X12.1, nh_X12.2, pm_X12_allOf⟩, tw_1421, TW.of (List.mem_append_left _ (List.mem_of_getElem? (i := 68) (by decide +kernel))) rfl, _, _, rfl, by decide⟩
theorem pm_X12_oddsOf : (parseMethodDescriptor yX12_oddsOf.desc).map (fun d => d.parameters.length) = some 2 := by decide +kernel
theorem mv_X12_241 : MV RX12 241 yX12_oddsOf cX12_oddsOf 3 (some Jvm.ClassFile.FieldType.int) 2 12 := ⟨⟨tw_1423, tw_12, tw_1426, nh_X12.1, nh_X12.2, pm_X12_oddsOf⟩, tw_1425, TW.of (List.mem_append_left _ (List.mem_of_getElem? (i := 69) (by decide +kernel))) rfl, _, _, rfl, by decide⟩
theorem pm_X12_drawn : (parseMethodDescriptor yX12_drawn.desc).map (fun d => d.parameters.length) = some 0 := by decide +kernel
theorem mv_X12_244 : MV RX12 244 yX12_drawn cX12_drawn 1 (some Jvm.ClassFile.FieldType.int) 0 12 := ⟨⟨tw_1427, tw_12, tw_1430, nh_X12.1, nh_X12.2, pm_X12_drawn⟩, tw_1429, TW.of (List.mem_append_left _ (List.mem_of_getElem? (i := 70) (by decide +kernel))) rfl, _, _, rfl, by decide⟩
theorem pm_X12_weightOf : (parseMethodDescriptor yX12_weightOf.desc).map (fun d => d.parameters.length) = some 2 := by decide +kernel
theorem mv_X12_255 : MV RX12 255 yX12_weightOf cX12_weightOf 3 (some Jvm.ClassFile.FieldType.int) 2 12 := ⟨⟨tw_1434, tw_12, tw_1437, nh_X12.1, nh_X12.2, pm_X12_weightOf⟩, tw_1436, TW.of (List.mem_append_left _ (List.mem_of_getElem? (i := 71) (by decide +kernel))) rfl, _, _, rfl, by decide⟩
theorem pm_X12_bits : (parseMethodDescriptor yX12_bits.desc).map (fun d => d.parameters.length) = some 1 := by decide +kernel
theorem ms_X12_264 : MS RX12 264 yX12_bits cX12_bits 3 (some Jvm.ClassFile.FieldType.int) 1 := ⟨⟨tw_1438, tw_12, tw_1440, nh_X12.1, nh_X12.2, pm_X12_bits⟩, tw_1439⟩
theorem pm_X12_sumOf : (parseMethodDescriptor yX12_sumOf.desc).map (fun d => d.parameters.length) = some 2 := by decide +kernel
theorem mv_X12_223 : MV RX12 223 yX12_sumOf cX12_sumOf 6 (some Jvm.ClassFile.FieldType.int) 2 12 := ⟨⟨tw_1441, tw_12, tw_1444, nh_X12.1, nh_X12.2, pm_X12_sumOf⟩, tw_1443, TW.of (List.mem_append_left _ (List.mem_of_getElem? (i := 72) (by decide +kernel))) rfl, _, _, rfl, by decide⟩
theorem pm_X12_sealOf : (parseMethodDescriptor yX12_sealOf.desc).map (fun d => d.parameters.length) = some 3 := by decide +kernel
theorem mv_X12_267 : MV RX12 267 yX12_sealOf cX12_sealOf 4 (some Jvm.ClassFile.FieldType.int) 3 12 := ⟨⟨tw_1445, tw_12, tw_1448, nh_X12.1, nh_X12.2, pm_X12_sealOf⟩, tw_1447, TW.of (List.mem_append_left _ (List.mem_of_getElem? (i := 73) (by decide +kernel))) rfl, _, _, rfl, by decide⟩
theorem pm_X12_told : (parseMethodDescriptor yX12_told.desc).map (fun d => d.parameters.length) = some 2 := by decide +kernel
theorem mv_L_49 : MV RL 49 yX12_told cX12_told 3 (some Jvm.ClassFile.FieldType.int) 2 12 := ⟨⟨tw_1449, tw_12, tw_1452, nh_X12.1, nh_X12.2, pm_X12_told⟩, tw_1450, tw_1451, _, _, rfl, by decide⟩
theorem pm_X12_valueOf : (parseMethodDescriptor yX12_valueOf.desc).map (fun d => d.parameters.length) = some 2 := by decide +kernel
theorem mv_X12_271 : MV RX12 271 yX12_valueOf cX12_valueOf 3 (some Jvm.ClassFile.FieldType.int) 2 12 := ⟨⟨tw_1453, tw_12, tw_1456, nh_X12.1, nh_X12.2, pm_X12_valueOf⟩, tw_1455, TW.of (List.mem_append_left _ (List.mem_of_getElem? (i := 74) (by decide +kernel))) rfl, _, _, rfl, by decide⟩
theorem pm_X12_comes : (parseMethodDescriptor yX12_comes.desc).map (fun d => d.parameters.length) = some 4 := by decide +kernel
theorem mv_L_54 : MV RL 54 yX12_comes cX12_comes 6 (some Jvm.ClassFile.FieldType.int) 4 12 := ⟨⟨tw_1457, tw_12, tw_1460, nh_X12.1, nh_X12.2, pm_X12_comes⟩, tw_1458, tw_1459, _, _, rfl, by decide⟩
theorem pm_X12_isQuarter : (parseMethodDescriptor yX12_isQuarter.desc).map (fun d => d.parameters.length) = some 1 := by decide +kernel
theorem ms_X12_278 : MS RX12 278 yX12_isQuarter cX12_isQuarter 1 (some Jvm.ClassFile.FieldType.boolean) 1 := ⟨⟨tw_1461, tw_12, tw_1463, nh_X12.1, nh_X12.2, pm_X12_isQuarter⟩, tw_1462⟩
theorem pm_X12_cutTo : (parseMethodDescriptor yX12_cutTo.desc).map (fun d => d.parameters.length) = some 2 := by decide +kernel
theorem ms_X12_281 : MS RX12 281 yX12_cutTo cX12_cutTo 2 (some Jvm.ClassFile.FieldType.int) 2 := ⟨⟨tw_1464, tw_12, tw_1466, nh_X12.1, nh_X12.2, pm_X12_cutTo⟩, tw_1465⟩
theorem pm_X12_lays : (parseMethodDescriptor yX12_lays.desc).map (fun d => d.parameters.length) = some 6 := by decide +kernel
theorem mv_X12_284 : MV RX12 284 yX12_lays cX12_lays 8 (some Jvm.ClassFile.FieldType.int) 6 12 := ⟨⟨tw_1468, tw_12, tw_1471, nh_X12.1, nh_X12.2, pm_X12_lays⟩, tw_1470, TW.of (List.mem_append_left _ (List.mem_of_getElem? (i := 75) (by decide +kernel))) rfl, _, _, rfl, by decide⟩
theorem pm_X12_slip : (parseMethodDescriptor yX12_slip.desc).map (fun d => d.parameters.length) = some 4 := by decide +kernel
theorem mv_L_58 : MV RL 58 yX12_slip cX12_slip 6 (some Jvm.ClassFile.FieldType.int) 4 12 := ⟨⟨tw_1472, tw_12, tw_1475, nh_X12.1, nh_X12.2, pm_X12_slip⟩, tw_1473, tw_1474, _, _, rfl, by decide⟩
theorem pm_X12_laysIf : (parseMethodDescriptor yX12_laysIf.desc).map (fun d => d.parameters.length) = some 5 := by decide +kernel
theorem mv_X12_291 : MV RX12 291 yX12_laysIf cX12_laysIf 6 (some Jvm.ClassFile.FieldType.int) 5 12 := ⟨⟨tw_1476, tw_12, tw_1479, nh_X12.1, nh_X12.2, pm_X12_laysIf⟩, tw_1478, TW.of (List.mem_append_left _ (List.mem_of_getElem? (i := 76) (by decide +kernel))) rfl, _, _, rfl, by decide⟩
theorem pm_X12_forged : (parseMethodDescriptor yX12_forged.desc).map (fun d => d.parameters.length) = some 5 := by decide +kernel
theorem mv_L_63 : MV RL 63 yX12_forged cX12_forged 7 (some Jvm.ClassFile.FieldType.int) 5 12 := ⟨⟨tw_1480, tw_12, tw_1483, nh_X12.1, nh_X12.2, pm_X12_forged⟩, tw_1481, tw_1482, _, _, rfl, by decide⟩
theorem pm_X12_nameless : (parseMethodDescriptor yX12_nameless.desc).map (fun d => d.parameters.length) = some 3 := by decide +kernel
theorem mv_L_67 : MV RL 67 yX12_nameless cX12_nameless 4 (some Jvm.ClassFile.FieldType.int) 3 12 := ⟨⟨tw_1484, tw_12, tw_1487, nh_X12.1, nh_X12.2, pm_X12_nameless⟩, tw_1485, tw_1486, _, _, rfl, by decide⟩
theorem pm_X12_namelessIn : (parseMethodDescriptor yX12_namelessIn.desc).map (fun d => d.parameters.length) = some 1 := by decide +kernel
theorem mv_X12_295 : MV RX12 295 yX12_namelessIn cX12_namelessIn 4 (some Jvm.ClassFile.FieldType.int) 1 12 := ⟨⟨tw_1488, tw_12, tw_1491, nh_X12.1, nh_X12.2, pm_X12_namelessIn⟩, tw_1490, TW.of (List.mem_append_left _ (List.mem_of_getElem? (i := 77) (by decide +kernel))) rfl, _, _, rfl, by decide⟩
theorem pm_X12_away : (parseMethodDescriptor yX12_away.desc).map (fun d => d.parameters.length) = some 2 := by decide +kernel
theorem mv_L_77 : MV RL 77 yX12_away cX12_away 3 (some Jvm.ClassFile.FieldType.boolean) 2 12 := ⟨⟨tw_1492, tw_12, tw_1495, nh_X12.1, nh_X12.2, pm_X12_away⟩, tw_1493, tw_1494, _, _, rfl, by decide⟩
theorem pm_X12_isPaper : (parseMethodDescriptor yX12_isPaper.desc).map (fun d => d.parameters.length) = some 2 := by decide +kernel
theorem mv_X12_298 : MV RX12 298 yX12_isPaper cX12_isPaper 3 (some Jvm.ClassFile.FieldType.boolean) 2 12 := ⟨⟨tw_1496, tw_12, tw_1499, nh_X12.1, nh_X12.2, pm_X12_isPaper⟩, tw_1498, TW.of (List.mem_append_left _ (List.mem_of_getElem? (i := 78) (by decide +kernel))) rfl, _, _, rfl, by decide⟩
theorem pm_X12_mark : (parseMethodDescriptor yX12_mark.desc).map (fun d => d.parameters.length) = some 2 := by decide +kernel
theorem mv_L_160 : MV RL 160 yX12_mark cX12_mark 4 (some Jvm.ClassFile.FieldType.boolean) 2 12 := ⟨⟨tw_1500, tw_12, tw_1503, nh_X12.1, nh_X12.2, pm_X12_mark⟩, tw_1501, tw_1502, _, _, rfl, by decide⟩
theorem pm_X12_copies : (parseMethodDescriptor yX12_copies.desc).map (fun d => d.parameters.length) = some 2 := by decide +kernel
theorem mv_X12_302 : MV RX12 302 yX12_copies cX12_copies 4 none 2 12 := ⟨⟨tw_1504, tw_12, tw_1507, nh_X12.1, nh_X12.2, pm_X12_copies⟩, tw_1506, TW.of (List.mem_append_left _ (List.mem_of_getElem? (i := 79) (by decide +kernel))) rfl, _, _, rfl, by decide⟩
theorem pm_X12_peels : (parseMethodDescriptor yX12_peels.desc).map (fun d => d.parameters.length) = some 4 := by decide +kernel
theorem mv_L_81 : MV RL 81 yX12_peels cX12_peels 8 (some Jvm.ClassFile.FieldType.int) 4 12 := ⟨⟨tw_1508, tw_12, tw_1511, nh_X12.1, nh_X12.2, pm_X12_peels⟩, tw_1509, tw_1510, _, _, rfl, by decide⟩
theorem pm_X12_isAsked : (parseMethodDescriptor yX12_isAsked.desc).map (fun d => d.parameters.length) = some 3 := by decide +kernel
theorem mv_X12_333 : MV RX12 333 yX12_isAsked cX12_isAsked 4 (some Jvm.ClassFile.FieldType.boolean) 3 12 := ⟨⟨tw_1512, tw_12, tw_1515, nh_X12.1, nh_X12.2, pm_X12_isAsked⟩, tw_1514, TW.of (List.mem_append_left _ (List.mem_of_getElem? (i := 80) (by decide +kernel))) rfl, _, _, rfl, by decide⟩
theorem pm_X12_leavesNone : (parseMethodDescriptor yX12_leavesNone.desc).map (fun d => d.parameters.length) = some 0 := by decide +kernel
theorem mv_X12_336 : MV RX12 336 yX12_leavesNone cX12_leavesNone 2 none 0 12 := ⟨⟨tw_1516, tw_12, tw_1519, nh_X12.1, nh_X12.2, pm_X12_leavesNone⟩, tw_1518, TW.of (List.mem_append_left _ (List.mem_of_getElem? (i := 81) (by decide +kernel))) rfl, _, _, rfl, by decide⟩
theorem pm_X12_gathers : (parseMethodDescriptor yX12_gathers.desc).map (fun d => d.parameters.length) = some 4 := by decide +kernel
theorem mv_X12_339 : MV RX12 339 yX12_gathers cX12_gathers 7 none 4 12 := ⟨⟨tw_1520, tw_12, tw_1523, nh_X12.1, nh_X12.2, pm_X12_gathers⟩, tw_1522, TW.of (List.mem_append_left _ (List.mem_of_getElem? (i := 82) (by decide +kernel))) rfl, _, _, rfl, by decide⟩
theorem pm_X12_begins : (parseMethodDescriptor yX12_begins.desc).map (fun d => d.parameters.length) = some 1 := by decide +kernel
theorem mv_X12_312 : MV RX12 312 yX12_begins cX12_begins 3 none 1 12 := ⟨⟨tw_1524, tw_12, tw_1527, nh_X12.1, nh_X12.2, pm_X12_begins⟩, tw_1526, TW.of (List.mem_append_left _ (List.mem_of_getElem? (i := 83) (by decide +kernel))) rfl, _, _, rfl, by decide⟩
theorem pm_X12_adds : (parseMethodDescriptor yX12_adds.desc).map (fun d => d.parameters.length) = some 3 := by decide +kernel
theorem mv_X12_308 : MV RX12 308 yX12_adds cX12_adds 4 none 3 12 := ⟨⟨tw_1528, tw_12, tw_1531, nh_X12.1, nh_X12.2, pm_X12_adds⟩, tw_1530, TW.of (List.mem_append_left _ (List.mem_of_getElem? (i := 84) (by decide +kernel))) rfl, _, _, rfl, by decide⟩
theorem pm_X12_byteOf : (parseMethodDescriptor yX12_byteOf.desc).map (fun d => d.parameters.length) = some 2 := by decide +kernel
theorem ms_X12_315 : MS RX12 315 yX12_byteOf cX12_byteOf 2 (some Jvm.ClassFile.FieldType.int) 2 := ⟨⟨tw_1532, tw_12, tw_1534, nh_X12.1, nh_X12.2, pm_X12_byteOf⟩, tw_1533⟩
theorem pm_X12_findPeeled : (parseMethodDescriptor yX12_findPeeled.desc).map (fun d => d.parameters.length) = some 0 := by decide +kernel
theorem mv_X12_343 : MV RX12 343 yX12_findPeeled cX12_findPeeled 6 none 0 12 := ⟨⟨tw_1535, tw_12, tw_1538, nh_X12.1, nh_X12.2, pm_X12_findPeeled⟩, tw_1537, TW.of (List.mem_append_left _ (List.mem_of_getElem? (i := 85) (by decide +kernel))) rfl, _, _, rfl, by decide⟩
theorem pm_X12_comesTo : (parseMethodDescriptor yX12_comesTo.desc).map (fun d => d.parameters.length) = some 1 := by decide +kernel
theorem mv_X12_321 : MV RX12 321 yX12_comesTo cX12_comesTo 4 (some Jvm.ClassFile.FieldType.int) 1 12 := ⟨⟨tw_1539, tw_12, tw_1542, nh_X12.1, nh_X12.2, pm_X12_comesTo⟩, tw_1541, TW.of (List.mem_append_left _ (List.mem_of_getElem? (i := 86) (by decide +kernel))) rfl, _, _, rfl, by decide⟩
theorem pm_X12_solves : (parseMethodDescriptor yX12_solves.desc).map (fun d => d.parameters.length) = some 4 := by decide +kernel
theorem mv_L_85 : MV RL 85 yX12_solves cX12_solves 5 (some Jvm.ClassFile.FieldType.int) 4 12 := ⟨⟨tw_1543, tw_12, tw_1546, nh_X12.1, nh_X12.2, pm_X12_solves⟩, tw_1544, tw_1545, _, _, rfl, by decide⟩
theorem pm_X12_findSolved : (parseMethodDescriptor yX12_findSolved.desc).map (fun d => d.parameters.length) = some 0 := by decide +kernel
theorem mv_X12_346 : MV RX12 346 yX12_findSolved cX12_findSolved 6 none 0 12 := ⟨⟨tw_1547, tw_12, tw_1550, nh_X12.1, nh_X12.2, pm_X12_findSolved⟩, tw_1549, TW.of (List.mem_append_left _ (List.mem_of_getElem? (i := 87) (by decide +kernel))) rfl, _, _, rfl, by decide⟩
theorem pm_X12_fixedSet : (parseMethodDescriptor yX12_fixedSet.desc).map (fun d => d.parameters.length) = some 0 := by decide +kernel
theorem mv_X12_349 : MV RX12 349 yX12_fixedSet cX12_fixedSet 3 (some Jvm.ClassFile.FieldType.int) 0 12 := ⟨⟨tw_1551, tw_12, tw_1554, nh_X12.1, nh_X12.2, pm_X12_fixedSet⟩, tw_1553, TW.of (List.mem_append_left _ (List.mem_of_getElem? (i := 88) (by decide +kernel))) rfl, _, _, rfl, by decide⟩
theorem pm_X12_isFixed : (parseMethodDescriptor yX12_isFixed.desc).map (fun d => d.parameters.length) = some 1 := by decide +kernel
theorem mv_X12_330 : MV RX12 330 yX12_isFixed cX12_isFixed 2 (some Jvm.ClassFile.FieldType.boolean) 1 12 := ⟨⟨tw_1555, tw_12, tw_1558, nh_X12.1, nh_X12.2, pm_X12_isFixed⟩, tw_1557, TW.of (List.mem_append_left _ (List.mem_of_getElem? (i := 89) (by decide +kernel))) rfl, _, _, rfl, by decide⟩
theorem pm_X12_read : (parseMethodDescriptor yX12_read.desc).map (fun d => d.parameters.length) = some 4 := by decide +kernel
theorem mv_L_89 : MV RL 89 yX12_read cX12_read 5 (some Jvm.ClassFile.FieldType.int) 4 12 := ⟨⟨tw_1559, tw_12, tw_1562, nh_X12.1, nh_X12.2, pm_X12_read⟩, tw_1560, tw_1561, _, _, rfl, by decide⟩
theorem pm_X12_isPage : (parseMethodDescriptor yX12_isPage.desc).map (fun d => d.parameters.length) = some 2 := by decide +kernel
theorem mv_X12_352 : MV RX12 352 yX12_isPage cX12_isPage 3 (some Jvm.ClassFile.FieldType.boolean) 2 12 := ⟨⟨tw_1563, tw_12, tw_1566, nh_X12.1, nh_X12.2, pm_X12_isPage⟩, tw_1565, TW.of (List.mem_append_left _ (List.mem_of_getElem? (i := 90) (by decide +kernel))) rfl, _, _, rfl, by decide⟩
theorem pm_X12_readBy : (parseMethodDescriptor yX12_readBy.desc).map (fun d => d.parameters.length) = some 5 := by decide +kernel
theorem mv_X12_355 : MV RX12 355 yX12_readBy cX12_readBy 9 (some Jvm.ClassFile.FieldType.int) 5 12 := ⟨⟨tw_1567, tw_12, tw_1570, nh_X12.1, nh_X12.2, pm_X12_readBy⟩, tw_1569, TW.of (List.mem_append_left _ (List.mem_of_getElem? (i := 91) (by decide +kernel))) rfl, _, _, rfl, by decide⟩
theorem pm_X12_soon : (parseMethodDescriptor yX12_soon.desc).map (fun d => d.parameters.length) = some 4 := by decide +kernel
theorem mv_L_93 : MV RL 93 yX12_soon cX12_soon 6 (some Jvm.ClassFile.FieldType.int) 4 12 := ⟨⟨tw_1571, tw_12, tw_1574, nh_X12.1, nh_X12.2, pm_X12_soon⟩, tw_1572, tw_1573, _, _, rfl, by decide⟩
theorem pm_X12_paper : (parseMethodDescriptor yX12_paper.desc).map (fun d => d.parameters.length) = some 3 := by decide +kernel
theorem mv_L_73 : MV RL 73 yX12_paper cX12_paper 5 (some Jvm.ClassFile.FieldType.int) 3 12 := ⟨⟨tw_1575, tw_12, tw_1578, nh_X12.1, nh_X12.2, pm_X12_paper⟩, tw_1576, tw_1577, _, _, rfl, by decide⟩
theorem pm_X12_unknownOf : (parseMethodDescriptor yX12_unknownOf.desc).map (fun d => d.parameters.length) = some 2 := by decide +kernel
theorem mv_X12_358 : MV RX12 358 yX12_unknownOf cX12_unknownOf 8 (some Jvm.ClassFile.FieldType.int) 2 12 := ⟨⟨tw_1579, tw_12, tw_1582, nh_X12.1, nh_X12.2, pm_X12_unknownOf⟩, tw_1581, TW.of (List.mem_append_left _ (List.mem_of_getElem? (i := 92) (by decide +kernel))) rfl, _, _, rfl, by decide⟩
theorem pm_X12_slipped : (parseMethodDescriptor yX12_slipped.desc).map (fun d => d.parameters.length) = some 4 := by decide +kernel
theorem mv_L_97 : MV RL 97 yX12_slipped cX12_slipped 5 (some Jvm.ClassFile.FieldType.int) 4 12 := ⟨⟨tw_1583, tw_12, tw_1586, nh_X12.1, nh_X12.2, pm_X12_slipped⟩, tw_1584, tw_1585, _, _, rfl, by decide⟩
theorem pm_X12_findSlipped : (parseMethodDescriptor yX12_findSlipped.desc).map (fun d => d.parameters.length) = some 3 := by decide +kernel
theorem mv_X12_364 : MV RX12 364 yX12_findSlipped cX12_findSlipped 6 (some Jvm.ClassFile.FieldType.boolean) 3 12 := ⟨⟨tw_1587, tw_12, tw_1590, nh_X12.1, nh_X12.2, pm_X12_findSlipped⟩, tw_1589, TW.of (List.mem_append_left _ (List.mem_of_getElem? (i := 93) (by decide +kernel))) rfl, _, _, rfl, by decide⟩
theorem pm_X12_right : (parseMethodDescriptor yX12_right.desc).map (fun d => d.parameters.length) = some 4 := by decide +kernel
theorem mv_L_101 : MV RL 101 yX12_right cX12_right 7 (some Jvm.ClassFile.FieldType.int) 4 12 := ⟨⟨tw_1591, tw_12, tw_1594, nh_X12.1, nh_X12.2, pm_X12_right⟩, tw_1592, tw_1593, _, _, rfl, by decide⟩
theorem pm_X12_doubles : (parseMethodDescriptor yX12_doubles.desc).map (fun d => d.parameters.length) = some 3 := by decide +kernel
theorem mv_L_105 : MV RL 105 yX12_doubles cX12_doubles 8 (some Jvm.ClassFile.FieldType.int) 3 12 := ⟨⟨tw_1595, tw_12, tw_1598, nh_X12.1, nh_X12.2, pm_X12_doubles⟩, tw_1596, tw_1597, _, _, rfl, by decide⟩
theorem pm_X12_guard : (parseMethodDescriptor yX12_guard.desc).map (fun d => d.parameters.length) = some 4 := by decide +kernel
theorem mv_L_109 : MV RL 109 yX12_guard cX12_guard 9 (some Jvm.ClassFile.FieldType.int) 4 12 := ⟨⟨tw_1599, tw_12, tw_1602, nh_X12.1, nh_X12.2, pm_X12_guard⟩, tw_1600, tw_1601, _, _, rfl, by decide⟩
theorem pm_X12_isFixedWithout : (parseMethodDescriptor yX12_isFixedWithout.desc).map (fun d => d.parameters.length) = some 4 := by decide +kernel
theorem mv_X12_367 : MV RX12 367 yX12_isFixedWithout cX12_isFixedWithout 9 (some Jvm.ClassFile.FieldType.boolean) 4 12 := ⟨⟨tw_1603, tw_12, tw_1606, nh_X12.1, nh_X12.2, pm_X12_isFixedWithout⟩, tw_1605, TW.of (List.mem_append_left _ (List.mem_of_getElem? (i := 94) (by decide +kernel))) rfl, _, _, rfl, by decide⟩
theorem pm_X12_tocome : (parseMethodDescriptor yX12_tocome.desc).map (fun d => d.parameters.length) = some 3 := by decide +kernel
theorem mv_L_113 : MV RL 113 yX12_tocome cX12_tocome 6 (some Jvm.ClassFile.FieldType.int) 3 12 := ⟨⟨tw_1607, tw_12, tw_1610, nh_X12.1, nh_X12.2, pm_X12_tocome⟩, tw_1608, tw_1609, _, _, rfl, by decide⟩
theorem pm_X12_isAllWith : (parseMethodDescriptor yX12_isAllWith.desc).map (fun d => d.parameters.length) = some 3 := by decide +kernel
theorem mv_X12_374 : MV RX12 374 yX12_isAllWith cX12_isAllWith 7 (some Jvm.ClassFile.FieldType.boolean) 3 12 := ⟨⟨tw_1611, tw_12, tw_1614, nh_X12.1, nh_X12.2, pm_X12_isAllWith⟩, tw_1613, TW.of (List.mem_append_left _ (List.mem_of_getElem? (i := 95) (by decide +kernel))) rfl, _, _, rfl, by decide⟩
theorem pm_X12_givesAll : (parseMethodDescriptor yX12_givesAll.desc).map (fun d => d.parameters.length) = some 2 := by decide +kernel
theorem mv_X12_371 : MV RX12 371 yX12_givesAll cX12_givesAll 3 (some Jvm.ClassFile.FieldType.boolean) 2 12 := ⟨⟨tw_1615, tw_12, tw_1618, nh_X12.1, nh_X12.2, pm_X12_givesAll⟩, tw_1617, TW.of (List.mem_append_left _ (List.mem_of_getElem? (i := 96) (by decide +kernel))) rfl, _, _, rfl, by decide⟩
theorem pm_X12_chances : (parseMethodDescriptor yX12_chances.desc).map (fun d => d.parameters.length) = some 4 := by decide +kernel
theorem mv_L_117 : MV RL 117 yX12_chances cX12_chances 5 (some Jvm.ClassFile.FieldType.int) 4 12 := ⟨⟨tw_1619, tw_12, tw_1622, nh_X12.1, nh_X12.2, pm_X12_chances⟩, tw_1620, tw_1621, _, _, rfl, by decide⟩
theorem pm_X12_areChances : (parseMethodDescriptor yX12_areChances.desc).map (fun d => d.parameters.length) = some 3 := by decide +kernel
theorem mv_X12_377 : MV RX12 377 yX12_areChances cX12_areChances 4 (some Jvm.ClassFile.FieldType.boolean) 3 12 := ⟨⟨tw_1623, tw_12, tw_1626, nh_X12.1, nh_X12.2, pm_X12_areChances⟩, tw_1625, TW.of (List.mem_append_left _ (List.mem_of_getElem? (i := 97) (by decide +kernel))) rfl, _, _, rfl, by decide⟩
theorem pm_X12_keepsSets : (parseMethodDescriptor yX12_keepsSets.desc).map (fun d => d.parameters.length) = some 2 := by decide +kernel
theorem mv_X12_380 : MV RX12 380 yX12_keepsSets cX12_keepsSets 4 none 2 12 := ⟨⟨tw_1627, tw_12, tw_1630, nh_X12.1, nh_X12.2, pm_X12_keepsSets⟩, tw_1629, TW.of (List.mem_append_left _ (List.mem_of_getElem? (i := 98) (by decide +kernel))) rfl, _, _, rfl, by decide⟩
theorem pm_X12_chancesOf : (parseMethodDescriptor yX12_chancesOf.desc).map (fun d => d.parameters.length) = some 4 := by decide +kernel
theorem mv_X12_383 : MV RX12 383 yX12_chancesOf cX12_chancesOf 8 (some Jvm.ClassFile.FieldType.int) 4 12 := ⟨⟨tw_1631, tw_12, tw_1634, nh_X12.1, nh_X12.2, pm_X12_chancesOf⟩, tw_1633, TW.of (List.mem_append_left _ (List.mem_of_getElem? (i := 99) (by decide +kernel))) rfl, _, _, rfl, by decide⟩
theorem pm_X12_enough : (parseMethodDescriptor yX12_enough.desc).map (fun d => d.parameters.length) = some 4 := by decide +kernel
theorem mv_L_122 : MV RL 122 yX12_enough cX12_enough 7 (some Jvm.ClassFile.FieldType.int) 4 12 := ⟨⟨tw_1635, tw_12, tw_1638, nh_X12.1, nh_X12.2, pm_X12_enough⟩, tw_1636, tw_1637, _, _, rfl, by decide⟩
theorem pm_X12_choices : (parseMethodDescriptor yX12_choices.desc).map (fun d => d.parameters.length) = some 2 := by decide +kernel
theorem ms_X12_387 : MS RX12 387 yX12_choices cX12_choices 4 (some Jvm.ClassFile.FieldType.int) 2 := ⟨⟨tw_1639, tw_12, tw_1641, nh_X12.1, nh_X12.2, pm_X12_choices⟩, tw_1640⟩
theorem pm_X12_average : (parseMethodDescriptor yX12_average.desc).map (fun d => d.parameters.length) = some 4 := by decide +kernel
theorem mv_L_127 : MV RL 127 yX12_average cX12_average 16 (some Jvm.ClassFile.FieldType.long) 4 12 := ⟨⟨tw_1642, tw_12, tw_1645, nh_X12.1, nh_X12.2, pm_X12_average⟩, tw_1643, tw_1644, _, _, rfl, by decide⟩
theorem pm_X12_common : (parseMethodDescriptor yX12_common.desc).map (fun d => d.parameters.length) = some 2 := by decide +kernel
theorem ms_X12_392 : MS RX12 392 yX12_common cX12_common 10 (some Jvm.ClassFile.FieldType.long) 2 := ⟨⟨tw_1647, tw_12, tw_1649, nh_X12.1, nh_X12.2, pm_X12_common⟩, tw_1648⟩
theorem pm_X12_degree : (parseMethodDescriptor yX12_degree.desc).map (fun d => d.parameters.length) = some 4 := by decide +kernel
theorem mv_L_131 : MV RL 131 yX12_degree cX12_degree 9 (some Jvm.ClassFile.FieldType.int) 4 12 := ⟨⟨tw_1650, tw_12, tw_1653, nh_X12.1, nh_X12.2, pm_X12_degree⟩, tw_1651, tw_1652, _, _, rfl, by decide⟩
theorem pm_X12_apart : (parseMethodDescriptor yX12_apart.desc).map (fun d => d.parameters.length) = some 2 := by decide +kernel
theorem mv_L_135 : MV RL 135 yX12_apart cX12_apart 7 (some Jvm.ClassFile.FieldType.int) 2 12 := ⟨⟨tw_1654, tw_12, tw_1657, nh_X12.1, nh_X12.2, pm_X12_apart⟩, tw_1655, tw_1656, _, _, rfl, by decide⟩
theorem pm_X12_agreesBy : (parseMethodDescriptor yX12_agreesBy.desc).map (fun d => d.parameters.length) = some 3 := by decide +kernel
theorem mv_X12_396 : MV RX12 396 yX12_agreesBy cX12_agreesBy 8 (some Jvm.ClassFile.FieldType.boolean) 3 12 := ⟨⟨tw_1658, tw_12, tw_1661, nh_X12.1, nh_X12.2, pm_X12_agreesBy⟩, tw_1660, TW.of (List.mem_append_left _ (List.mem_of_getElem? (i := 100) (by decide +kernel))) rfl, _, _, rfl, by decide⟩
theorem pm_X12_quarter : (parseMethodDescriptor yX12_quarter.desc).map (fun d => d.parameters.length) = some 3 := by decide +kernel
theorem mv_L_139 : MV RL 139 yX12_quarter cX12_quarter 4 (some Jvm.ClassFile.FieldType.boolean) 3 12 := ⟨⟨tw_1662, tw_12, tw_1665, nh_X12.1, nh_X12.2, pm_X12_quarter⟩, tw_1663, tw_1664, _, _, rfl, by decide⟩
theorem pm_X12_scatter : (parseMethodDescriptor yX12_scatter.desc).map (fun d => d.parameters.length) = some 3 := by decide +kernel
theorem mv_L_143 : MV RL 143 yX12_scatter cX12_scatter 9 (some Jvm.ClassFile.FieldType.int) 3 12 := ⟨⟨tw_1666, tw_12, tw_1669, nh_X12.1, nh_X12.2, pm_X12_scatter⟩, tw_1667, tw_1668, _, _, rfl, by decide⟩
theorem pm_X12_falls : (parseMethodDescriptor yX12_falls.desc).map (fun d => d.parameters.length) = some 3 := by decide +kernel
theorem mv_X12_402 : MV RX12 402 yX12_falls cX12_falls 4 (some Jvm.ClassFile.FieldType.boolean) 3 12 := ⟨⟨tw_1670, tw_12, tw_1673, nh_X12.1, nh_X12.2, pm_X12_falls⟩, tw_1672, TW.of (List.mem_append_left _ (List.mem_of_getElem? (i := 101) (by decide +kernel))) rfl, _, _, rfl, by decide⟩
theorem pm_X12_hasAlike : (parseMethodDescriptor yX12_hasAlike.desc).map (fun d => d.parameters.length) = some 2 := by decide +kernel
theorem mv_X12_405 : MV RX12 405 yX12_hasAlike cX12_hasAlike 5 (some Jvm.ClassFile.FieldType.boolean) 2 12 := ⟨⟨tw_1674, tw_12, tw_1677, nh_X12.1, nh_X12.2, pm_X12_hasAlike⟩, tw_1676, TW.of (List.mem_append_left _ (List.mem_of_getElem? (i := 102) (by decide +kernel))) rfl, _, _, rfl, by decide⟩
theorem pm_X12_isAlike : (parseMethodDescriptor yX12_isAlike.desc).map (fun d => d.parameters.length) = some 2 := by decide +kernel
theorem mv_X12_399 : MV RX12 399 yX12_isAlike cX12_isAlike 3 (some Jvm.ClassFile.FieldType.boolean) 2 12 := ⟨⟨tw_1678, tw_12, tw_1681, nh_X12.1, nh_X12.2, pm_X12_isAlike⟩, tw_1680, TW.of (List.mem_append_left _ (List.mem_of_getElem? (i := 103) (by decide +kernel))) rfl, _, _, rfl, by decide⟩
theorem pm_X12_needs : (parseMethodDescriptor yX12_needs.desc).map (fun d => d.parameters.length) = some 2 := by decide +kernel
theorem mv_L_147 : MV RL 147 yX12_needs cX12_needs 4 (some Jvm.ClassFile.FieldType.int) 2 12 := ⟨⟨tw_1682, tw_12, tw_1685, nh_X12.1, nh_X12.2, pm_X12_needs⟩, tw_1683, tw_1684, _, _, rfl, by decide⟩
theorem pm_X12_needsOf : (parseMethodDescriptor yX12_needsOf.desc).map (fun d => d.parameters.length) = some 2 := by decide +kernel
theorem mv_X12_408 : MV RX12 408 yX12_needsOf cX12_needsOf 4 (some Jvm.ClassFile.FieldType.int) 2 12 := ⟨⟨tw_1686, tw_12, tw_1689, nh_X12.1, nh_X12.2, pm_X12_needsOf⟩, tw_1688, TW.of (List.mem_append_left _ (List.mem_of_getElem? (i := 104) (by decide +kernel))) rfl, _, _, rfl, by decide⟩
theorem pm_X12_town : (parseMethodDescriptor yX12_town.desc).map (fun d => d.parameters.length) = some 2 := by decide +kernel
theorem mv_L_151 : MV RL 151 yX12_town cX12_town 6 (some Jvm.ClassFile.FieldType.int) 2 12 := ⟨⟨tw_1690, tw_12, tw_1693, nh_X12.1, nh_X12.2, pm_X12_town⟩, tw_1691, tw_1692, _, _, rfl, by decide⟩
theorem pm_X12_allHouses : (parseMethodDescriptor yX12_allHouses.desc).map (fun d => d.parameters.length) = some 0 := by decide +kernel
theorem mv_X12_411 : MV RX12 411 yX12_allHouses cX12_allHouses 3 (some Jvm.ClassFile.FieldType.int) 0 12 := ⟨⟨tw_1694, tw_12, tw_1697, nh_X12.1, nh_X12.2, pm_X12_allHouses⟩, tw_1696, TW.of (List.mem_append_left _ (List.mem_of_getElem? (i := 105) (by decide +kernel))) rfl, _, _, rfl, by decide⟩
theorem pm_X12_swap : (parseMethodDescriptor yX12_swap.desc).map (fun d => d.parameters.length) = some 3 := by decide +kernel
theorem mv_L_155 : MV RL 155 yX12_swap cX12_swap 8 (some Jvm.ClassFile.FieldType.int) 3 12 := ⟨⟨tw_1698, tw_12, tw_1701, nh_X12.1, nh_X12.2, pm_X12_swap⟩, tw_1699, tw_1700, _, _, rfl, by decide⟩
theorem pm_X12_count : (parseMethodDescriptor yX12_count.desc).map (fun d => d.parameters.length) = some 1 := by decide +kernel
theorem mv_L_164 : MV RL 164 yX12_count cX12_count 2 (some Jvm.ClassFile.FieldType.int) 1 12 := ⟨⟨tw_1702, tw_12, tw_1705, nh_X12.1, nh_X12.2, pm_X12_count⟩, tw_1703, tw_1704, _, _, rfl, by decide⟩
theorem oi_inst : TW (.instanceMethod objectInit) := tw_32
theorem oi_code : TW (.code objectInit ⟨#[0xb1]⟩ 1 none) := tw_33
