theorem a_gwI {w : Cond} (i : Nat) (h : tables_1[i]? = some w) (hg : goodWord w = true) : w ∈ a_gw := List.mem_filter.mpr ⟨List.mem_append_right _ (List.mem_of_getElem? h), hg⟩
theorem a_gwP {w : Cond} (i : Nat) (h : (k2_sels lw_privs)[i]? = some w) (hg : goodWord w = true) : w ∈ a_gw := List.mem_filter.mpr ⟨List.mem_append_left _ (List.mem_of_getElem? h), hg⟩

theorem tw_0 : (Cond.initialized "LoafFallLaw") ∈ a_gw := a_gwI 0 (by decide +kernel) rfl
theorem tw_1 : (Cond.initialized "LoafFall") ∈ a_gw := a_gwI 1 (by decide +kernel) rfl
theorem tw_2 : (Cond.initialized "LoafFall$Loaf") ∈ a_gw := a_gwI 2 (by decide +kernel) rfl
theorem tw_3 : (Cond.initialized "LoafFall$Flour") ∈ a_gw := a_gwI 3 (by decide +kernel) rfl
theorem tw_4 : (Cond.initialized "LoafFall$Doing") ∈ a_gw := a_gwI 4 (by decide +kernel) rfl
theorem tw_5 : (Cond.initialized "LoafFall$Dough") ∈ a_gw := a_gwI 5 (by decide +kernel) rfl
theorem tw_6 : (Cond.initialized "LoafFall$Falls") ∈ a_gw := a_gwI 6 (by decide +kernel) rfl
theorem tw_7 : (Cond.initialized "LoafFall$Slips") ∈ a_gw := a_gwI 7 (by decide +kernel) rfl
theorem tw_8 : (Cond.initialized "LoafFall$Reader") ∈ a_gw := a_gwI 8 (by decide +kernel) rfl
theorem tw_9 : (Cond.initialized "LoafFall$Baker") ∈ a_gw := a_gwI 9 (by decide +kernel) rfl
theorem tw_10 : (Cond.initialized "LoafFall$Holes") ∈ a_gw := a_gwI 10 (by decide +kernel) rfl
theorem tw_11 : (Cond.initialized "LoafFall$Row") ∈ a_gw := a_gwI 11 (by decide +kernel) rfl
theorem tw_12 : (Cond.initialized "LoafFall$Text") ∈ a_gw := a_gwI 12 (by decide +kernel) rfl
theorem tw_13 : (Cond.initialized "LoafFallModel") ∈ a_gw := a_gwI 13 (by decide +kernel) rfl
theorem tw_14 : (Cond.initialized "java/lang/Math") ∈ a_gw := a_gwI 14 (by decide +kernel) rfl
theorem tw_15 : (Cond.initialized "java/lang/System") ∈ a_gw := a_gwI 15 (by decide +kernel) rfl
theorem tw_16 : (Cond.initialized "java/util/Arrays") ∈ a_gw := a_gwI 16 (by decide +kernel) rfl
theorem tw_17 : (Cond.classLink "LoafFallLaw" (7 : Nat) "LoafFall") ∈ a_gw := a_gwI 17 (by decide +kernel) rfl
theorem tw_18 : (Cond.instantiable "LoafFall" (20 : Nat)) ∈ a_gw := a_gwI 18 (by decide +kernel) rfl
theorem tw_19 : (Cond.methodLink "LoafFallLaw" (9 : Nat) ({ cls := "LoafFall", name := "<init>", desc := "()V" } : Jvm.MethodName)) ∈ a_gw := a_gwI 19 (by decide +kernel) rfl
theorem tw_20 : (Cond.instanceMethod ({ cls := "LoafFall", name := "<init>", desc := "()V" } : Jvm.MethodName)) ∈ a_gw := a_gwI 20 (by decide +kernel) rfl
theorem tw_21 : (Cond.code ({ cls := "LoafFall", name := "<init>", desc := "()V" } : Jvm.MethodName) prog_1_method_1_code (2 : Nat) (Option.none : Option Jvm.ClassFile.FieldType)) ∈ a_gw := a_gwI 21 (by decide +kernel) rfl
theorem tw_22 : (Cond.methodLink "LoafFall" (1 : Nat) ({ cls := "java/lang/Object", name := "<init>", desc := "()V" } : Jvm.MethodName)) ∈ a_gw := a_gwI 22 (by decide +kernel) rfl
theorem tw_23 : (Cond.instanceMethod ({ cls := "java/lang/Object", name := "<init>", desc := "()V" } : Jvm.MethodName)) ∈ a_gw := a_gwI 23 (by decide +kernel) rfl
theorem tw_24 : (Cond.code ({ cls := "java/lang/Object", name := "<init>", desc := "()V" } : Jvm.MethodName) object_method_1_code (1 : Nat) (Option.none : Option Jvm.ClassFile.FieldType)) ∈ a_gw := a_gwI 24 (by decide +kernel) rfl
theorem tw_25 : (Cond.classLink "LoafFall" (9 : Nat) "LoafFall$Row") ∈ a_gw := a_gwI 25 (by decide +kernel) rfl
theorem tw_27 : (Cond.classLink "LoafFall" (15 : Nat) "LoafFall$Text") ∈ a_gw := a_gwI 27 (by decide +kernel) rfl
theorem tw_29 : (Cond.classLink "LoafFall" (21 : Nat) "LoafFall$Flour") ∈ a_gw := a_gwI 29 (by decide +kernel) rfl
theorem tw_31 : (Cond.classLink "LoafFall" (27 : Nat) "LoafFall$Doing") ∈ a_gw := a_gwI 31 (by decide +kernel) rfl
theorem tw_33 : (Cond.classLink "LoafFall" (33 : Nat) "LoafFall$Loaf") ∈ a_gw := a_gwI 33 (by decide +kernel) rfl
theorem tw_35 : (Cond.instantiable "LoafFall$Loaf" (5 : Nat)) ∈ a_gw := a_gwI 35 (by decide +kernel) rfl
theorem tw_37 : (Cond.instanceMethod ({ cls := "LoafFall$Loaf", name := "<init>", desc := "()V" } : Jvm.MethodName)) ∈ a_gw := a_gwI 37 (by decide +kernel) rfl
theorem tw_38 : (Cond.code ({ cls := "LoafFall$Loaf", name := "<init>", desc := "()V" } : Jvm.MethodName) prog_8_method_1_code (1 : Nat) (Option.none : Option Jvm.ClassFile.FieldType)) ∈ a_gw := a_gwI 38 (by decide +kernel) rfl
theorem tw_39 : (Cond.methodLink "LoafFall$Loaf" (3 : Nat) ({ cls := "java/lang/Object", name := "<init>", desc := "()V" } : Jvm.MethodName)) ∈ a_gw := a_gwI 39 (by decide +kernel) rfl
theorem tw_40 : (Cond.classLink "LoafFall$Loaf" (9 : Nat) "LoafFall$Flour") ∈ a_gw := a_gwI 40 (by decide +kernel) rfl
theorem tw_41 : (Cond.instantiable "LoafFall$Flour" (2 : Nat)) ∈ a_gw := a_gwI 41 (by decide +kernel) rfl
theorem tw_43 : (Cond.instanceMethod ({ cls := "LoafFall$Flour", name := "<init>", desc := "()V" } : Jvm.MethodName)) ∈ a_gw := a_gwI 43 (by decide +kernel) rfl
theorem tw_44 : (Cond.code ({ cls := "LoafFall$Flour", name := "<init>", desc := "()V" } : Jvm.MethodName) prog_6_method_1_code (1 : Nat) (Option.none : Option Jvm.ClassFile.FieldType)) ∈ a_gw := a_gwI 44 (by decide +kernel) rfl
theorem tw_45 : (Cond.methodLink "LoafFall$Flour" (3 : Nat) ({ cls := "java/lang/Object", name := "<init>", desc := "()V" } : Jvm.MethodName)) ∈ a_gw := a_gwI 45 (by decide +kernel) rfl
theorem tw_46 : (Cond.fieldLink "LoafFall$Flour" (9 : Nat) "LoafFall$Flour" "parts" "[I") ∈ a_gw := a_gwI 46 (by decide +kernel) rfl
theorem tw_47 : (Cond.fieldLink "LoafFall$Loaf" (46 : Nat) "LoafFall$Flour" "parts" "[I") ∈ a_gw := a_gwI 47 (by decide +kernel) rfl
theorem tw_48 : (Cond.fieldLink "LoafFall$Reader" (78 : Nat) "LoafFall$Flour" "parts" "[I") ∈ a_gw := a_gwI 48 (by decide +kernel) rfl
theorem tw_49 : (Cond.fieldLink "LoafFall$Dough" (69 : Nat) "LoafFall$Flour" "parts" "[I") ∈ a_gw := a_gwI 49 (by decide +kernel) rfl
theorem tw_50 : (Cond.fieldLink "LoafFall" (187 : Nat) "LoafFall$Flour" "parts" "[I") ∈ a_gw := a_gwI 50 (by decide +kernel) rfl
theorem tw_51 : (Cond.fieldLink "LoafFall$Reader" (48 : Nat) "LoafFall$Flour" "there" "Z") ∈ a_gw := a_gwI 51 (by decide +kernel) rfl
theorem tw_52 : (Cond.fieldLink "LoafFall$Flour" (24 : Nat) "LoafFall$Flour" "there" "Z") ∈ a_gw := a_gwI 52 (by decide +kernel) rfl
theorem tw_53 : (Cond.fieldLink "LoafFall" (183 : Nat) "LoafFall$Flour" "there" "Z") ∈ a_gw := a_gwI 53 (by decide +kernel) rfl
theorem tw_54 : (Cond.laysFinal "LoafFall$Flour" "LoafFall$Flour" "parts" "[I") ∈ a_gw := a_gwI 54 (by decide +kernel) rfl
theorem tw_56 : (Cond.lays "LoafFall$Flour" "LoafFall$Flour" "there" "Z") ∈ a_gw := a_gwI 56 (by decide +kernel) rfl
theorem tw_59 : (Cond.arrayClass Jvm.ClassFile.FieldType.int) ∈ a_gw := a_gwI 59 (by decide +kernel) rfl
theorem tw_60 : (Cond.classLink "LoafFall$Loaf" (18 : Nat) "LoafFall$Doing") ∈ a_gw := a_gwI 60 (by decide +kernel) rfl
theorem tw_61 : (Cond.instantiable "LoafFall$Doing" (5 : Nat)) ∈ a_gw := a_gwI 61 (by decide +kernel) rfl
theorem tw_63 : (Cond.instanceMethod ({ cls := "LoafFall$Doing", name := "<init>", desc := "()V" } : Jvm.MethodName)) ∈ a_gw := a_gwI 63 (by decide +kernel) rfl
theorem tw_64 : (Cond.code ({ cls := "LoafFall$Doing", name := "<init>", desc := "()V" } : Jvm.MethodName) prog_3_method_1_code (1 : Nat) (Option.none : Option Jvm.ClassFile.FieldType)) ∈ a_gw := a_gwI 64 (by decide +kernel) rfl
theorem tw_65 : (Cond.methodLink "LoafFall$Doing" (3 : Nat) ({ cls := "java/lang/Object", name := "<init>", desc := "()V" } : Jvm.MethodName)) ∈ a_gw := a_gwI 65 (by decide +kernel) rfl
theorem tw_66 : (Cond.fieldLink "LoafFall$Doing" (9 : Nat) "LoafFall$Doing" "kinds" "[I") ∈ a_gw := a_gwI 66 (by decide +kernel) rfl
theorem tw_67 : (Cond.fieldLink "LoafFall$Loaf" (82 : Nat) "LoafFall$Doing" "kinds" "[I") ∈ a_gw := a_gwI 67 (by decide +kernel) rfl
theorem tw_68 : (Cond.fieldLink "LoafFall" (197 : Nat) "LoafFall$Doing" "kinds" "[I") ∈ a_gw := a_gwI 68 (by decide +kernel) rfl
theorem tw_69 : (Cond.fieldLink "LoafFall$Doing" (15 : Nat) "LoafFall$Doing" "warmths" "[I") ∈ a_gw := a_gwI 69 (by decide +kernel) rfl
theorem tw_70 : (Cond.fieldLink "LoafFall$Loaf" (92 : Nat) "LoafFall$Doing" "warmths" "[I") ∈ a_gw := a_gwI 70 (by decide +kernel) rfl
theorem tw_71 : (Cond.fieldLink "LoafFall" (349 : Nat) "LoafFall$Doing" "warmths" "[I") ∈ a_gw := a_gwI 71 (by decide +kernel) rfl
theorem tw_72 : (Cond.fieldLink "LoafFall$Doing" (18 : Nat) "LoafFall$Doing" "turns" "[I") ∈ a_gw := a_gwI 72 (by decide +kernel) rfl
theorem tw_73 : (Cond.fieldLink "LoafFall$Loaf" (98 : Nat) "LoafFall$Doing" "turns" "[I") ∈ a_gw := a_gwI 73 (by decide +kernel) rfl
theorem tw_74 : (Cond.fieldLink "LoafFall" (329 : Nat) "LoafFall$Doing" "turns" "[I") ∈ a_gw := a_gwI 74 (by decide +kernel) rfl
theorem tw_75 : (Cond.fieldLink "LoafFall$Doing" (21 : Nat) "LoafFall$Doing" "size" "I") ∈ a_gw := a_gwI 75 (by decide +kernel) rfl
theorem tw_76 : (Cond.fieldLink "LoafFall$Baker" (45 : Nat) "LoafFall$Doing" "size" "I") ∈ a_gw := a_gwI 76 (by decide +kernel) rfl
theorem tw_77 : (Cond.fieldLink "LoafFall$Reader" (52 : Nat) "LoafFall$Doing" "size" "I") ∈ a_gw := a_gwI 77 (by decide +kernel) rfl
theorem tw_78 : (Cond.fieldLink "LoafFall$Loaf" (75 : Nat) "LoafFall$Doing" "size" "I") ∈ a_gw := a_gwI 78 (by decide +kernel) rfl
theorem tw_79 : (Cond.fieldLink "LoafFall" (182 : Nat) "LoafFall$Doing" "size" "I") ∈ a_gw := a_gwI 79 (by decide +kernel) rfl
theorem tw_80 : (Cond.fieldLink "LoafFall$Doing" (31 : Nat) "LoafFall$Doing" "there" "Z") ∈ a_gw := a_gwI 80 (by decide +kernel) rfl
theorem tw_81 : (Cond.fieldLink "LoafFall$Reader" (56 : Nat) "LoafFall$Doing" "there" "Z") ∈ a_gw := a_gwI 81 (by decide +kernel) rfl
theorem tw_82 : (Cond.fieldLink "LoafFall" (190 : Nat) "LoafFall$Doing" "there" "Z") ∈ a_gw := a_gwI 82 (by decide +kernel) rfl
theorem tw_83 : (Cond.laysFinal "LoafFall$Doing" "LoafFall$Doing" "kinds" "[I") ∈ a_gw := a_gwI 83 (by decide +kernel) rfl
theorem tw_85 : (Cond.laysFinal "LoafFall$Doing" "LoafFall$Doing" "warmths" "[I") ∈ a_gw := a_gwI 85 (by decide +kernel) rfl
theorem tw_87 : (Cond.laysFinal "LoafFall$Doing" "LoafFall$Doing" "turns" "[I") ∈ a_gw := a_gwI 87 (by decide +kernel) rfl
theorem tw_89 : (Cond.lays "LoafFall$Doing" "LoafFall$Doing" "size" "I") ∈ a_gw := a_gwI 89 (by decide +kernel) rfl
theorem tw_91 : (Cond.lays "LoafFall$Doing" "LoafFall$Doing" "there" "Z") ∈ a_gw := a_gwI 91 (by decide +kernel) rfl
theorem tw_94 : (Cond.classLink "LoafFall$Loaf" (25 : Nat) "LoafFall$Dough") ∈ a_gw := a_gwI 94 (by decide +kernel) rfl
theorem tw_95 : (Cond.instantiable "LoafFall$Dough" (10 : Nat)) ∈ a_gw := a_gwI 95 (by decide +kernel) rfl
theorem tw_97 : (Cond.instanceMethod ({ cls := "LoafFall$Dough", name := "<init>", desc := "()V" } : Jvm.MethodName)) ∈ a_gw := a_gwI 97 (by decide +kernel) rfl
theorem tw_98 : (Cond.code ({ cls := "LoafFall$Dough", name := "<init>", desc := "()V" } : Jvm.MethodName) prog_4_method_1_code (1 : Nat) (Option.none : Option Jvm.ClassFile.FieldType)) ∈ a_gw := a_gwI 98 (by decide +kernel) rfl
theorem tw_99 : (Cond.methodLink "LoafFall$Dough" (3 : Nat) ({ cls := "java/lang/Object", name := "<init>", desc := "()V" } : Jvm.MethodName)) ∈ a_gw := a_gwI 99 (by decide +kernel) rfl
theorem tw_100 : (Cond.fieldLink "LoafFall$Dough" (9 : Nat) "LoafFall$Dough" "gas" "[I") ∈ a_gw := a_gwI 100 (by decide +kernel) rfl
theorem tw_101 : (Cond.fieldLink "LoafFall$Falls" (39 : Nat) "LoafFall$Dough" "gas" "[I") ∈ a_gw := a_gwI 101 (by decide +kernel) rfl
theorem tw_102 : (Cond.fieldLink "LoafFall$Loaf" (133 : Nat) "LoafFall$Dough" "gas" "[I") ∈ a_gw := a_gwI 102 (by decide +kernel) rfl
theorem tw_103 : (Cond.fieldLink "LoafFall$Dough" (15 : Nat) "LoafFall$Dough" "stretch" "[I") ∈ a_gw := a_gwI 103 (by decide +kernel) rfl
theorem tw_104 : (Cond.fieldLink "LoafFall$Loaf" (136 : Nat) "LoafFall$Dough" "stretch" "[I") ∈ a_gw := a_gwI 104 (by decide +kernel) rfl
theorem tw_105 : (Cond.fieldLink "LoafFall$Dough" (18 : Nat) "LoafFall$Dough" "heat" "[I") ∈ a_gw := a_gwI 105 (by decide +kernel) rfl
theorem tw_106 : (Cond.fieldLink "LoafFall$Loaf" (149 : Nat) "LoafFall$Dough" "heat" "[I") ∈ a_gw := a_gwI 106 (by decide +kernel) rfl
theorem tw_107 : (Cond.fieldLink "LoafFall$Dough" (21 : Nat) "LoafFall$Dough" "set" "[I") ∈ a_gw := a_gwI 107 (by decide +kernel) rfl
theorem tw_108 : (Cond.fieldLink "LoafFall$Loaf" (139 : Nat) "LoafFall$Dough" "set" "[I") ∈ a_gw := a_gwI 108 (by decide +kernel) rfl
theorem tw_109 : (Cond.fieldLink "LoafFall$Dough" (24 : Nat) "LoafFall$Dough" "torn" "[I") ∈ a_gw := a_gwI 109 (by decide +kernel) rfl
theorem tw_110 : (Cond.fieldLink "LoafFall$Holes" (26 : Nat) "LoafFall$Dough" "torn" "[I") ∈ a_gw := a_gwI 110 (by decide +kernel) rfl
theorem tw_111 : (Cond.fieldLink "LoafFall$Loaf" (142 : Nat) "LoafFall$Dough" "torn" "[I") ∈ a_gw := a_gwI 111 (by decide +kernel) rfl
theorem tw_112 : (Cond.fieldLink "LoafFall$Dough" (27 : Nat) "LoafFall$Dough" "tornCells" "I") ∈ a_gw := a_gwI 112 (by decide +kernel) rfl
theorem tw_113 : (Cond.fieldLink "LoafFall$Falls" (33 : Nat) "LoafFall$Dough" "tornCells" "I") ∈ a_gw := a_gwI 113 (by decide +kernel) rfl
theorem tw_114 : (Cond.fieldLink "LoafFall$Loaf" (64 : Nat) "LoafFall$Dough" "tornCells" "I") ∈ a_gw := a_gwI 114 (by decide +kernel) rfl
theorem tw_115 : (Cond.fieldLink "LoafFall$Baker" (92 : Nat) "LoafFall$Dough" "tornCells" "I") ∈ a_gw := a_gwI 115 (by decide +kernel) rfl
theorem tw_116 : (Cond.fieldLink "LoafFall" (273 : Nat) "LoafFall$Dough" "tornCells" "I") ∈ a_gw := a_gwI 116 (by decide +kernel) rfl
theorem tw_117 : (Cond.fieldLink "LoafFall$Dough" (31 : Nat) "LoafFall$Dough" "turn" "I") ∈ a_gw := a_gwI 117 (by decide +kernel) rfl
theorem tw_118 : (Cond.fieldLink "LoafFall$Falls" (42 : Nat) "LoafFall$Dough" "turn" "I") ∈ a_gw := a_gwI 118 (by decide +kernel) rfl
theorem tw_119 : (Cond.fieldLink "LoafFall$Loaf" (121 : Nat) "LoafFall$Dough" "turn" "I") ∈ a_gw := a_gwI 119 (by decide +kernel) rfl
theorem tw_120 : (Cond.fieldLink "LoafFall" (216 : Nat) "LoafFall$Dough" "turn" "I") ∈ a_gw := a_gwI 120 (by decide +kernel) rfl
theorem tw_121 : (Cond.fieldLink "LoafFall$Dough" (34 : Nat) "LoafFall$Dough" "stepNow" "I") ∈ a_gw := a_gwI 121 (by decide +kernel) rfl
theorem tw_122 : (Cond.fieldLink "LoafFall$Loaf" (72 : Nat) "LoafFall$Dough" "stepNow" "I") ∈ a_gw := a_gwI 122 (by decide +kernel) rfl
theorem tw_123 : (Cond.fieldLink "LoafFall$Dough" (37 : Nat) "LoafFall$Dough" "turnsOfStep" "I") ∈ a_gw := a_gwI 123 (by decide +kernel) rfl
theorem tw_124 : (Cond.fieldLink "LoafFall$Loaf" (95 : Nat) "LoafFall$Dough" "turnsOfStep" "I") ∈ a_gw := a_gwI 124 (by decide +kernel) rfl
theorem tw_125 : (Cond.fieldLink "LoafFall$Dough" (40 : Nat) "LoafFall$Dough" "ovened" "Z") ∈ a_gw := a_gwI 125 (by decide +kernel) rfl
theorem tw_126 : (Cond.fieldLink "LoafFall$Loaf" (115 : Nat) "LoafFall$Dough" "ovened" "Z") ∈ a_gw := a_gwI 126 (by decide +kernel) rfl
theorem tw_127 : (Cond.laysFinal "LoafFall$Dough" "LoafFall$Dough" "gas" "[I") ∈ a_gw := a_gwI 127 (by decide +kernel) rfl
theorem tw_129 : (Cond.laysFinal "LoafFall$Dough" "LoafFall$Dough" "stretch" "[I") ∈ a_gw := a_gwI 129 (by decide +kernel) rfl
theorem tw_131 : (Cond.laysFinal "LoafFall$Dough" "LoafFall$Dough" "heat" "[I") ∈ a_gw := a_gwI 131 (by decide +kernel) rfl
theorem tw_133 : (Cond.laysFinal "LoafFall$Dough" "LoafFall$Dough" "set" "[I") ∈ a_gw := a_gwI 133 (by decide +kernel) rfl
theorem tw_135 : (Cond.laysFinal "LoafFall$Dough" "LoafFall$Dough" "torn" "[I") ∈ a_gw := a_gwI 135 (by decide +kernel) rfl
theorem tw_137 : (Cond.lays "LoafFall$Dough" "LoafFall$Dough" "tornCells" "I") ∈ a_gw := a_gwI 137 (by decide +kernel) rfl
theorem tw_139 : (Cond.lays "LoafFall$Dough" "LoafFall$Dough" "turn" "I") ∈ a_gw := a_gwI 139 (by decide +kernel) rfl
theorem tw_141 : (Cond.lays "LoafFall$Dough" "LoafFall$Dough" "stepNow" "I") ∈ a_gw := a_gwI 141 (by decide +kernel) rfl
theorem tw_143 : (Cond.lays "LoafFall$Dough" "LoafFall$Dough" "turnsOfStep" "I") ∈ a_gw := a_gwI 143 (by decide +kernel) rfl
theorem tw_145 : (Cond.lays "LoafFall$Dough" "LoafFall$Dough" "ovened" "Z") ∈ a_gw := a_gwI 145 (by decide +kernel) rfl
theorem tw_148 : (Cond.classLink "LoafFall$Loaf" (32 : Nat) "LoafFall$Falls") ∈ a_gw := a_gwI 148 (by decide +kernel) rfl
theorem tw_149 : (Cond.instantiable "LoafFall$Falls" (5 : Nat)) ∈ a_gw := a_gwI 149 (by decide +kernel) rfl
theorem tw_151 : (Cond.instanceMethod ({ cls := "LoafFall$Falls", name := "<init>", desc := "()V" } : Jvm.MethodName)) ∈ a_gw := a_gwI 151 (by decide +kernel) rfl
theorem tw_152 : (Cond.code ({ cls := "LoafFall$Falls", name := "<init>", desc := "()V" } : Jvm.MethodName) prog_5_method_1_code (1 : Nat) (Option.none : Option Jvm.ClassFile.FieldType)) ∈ a_gw := a_gwI 152 (by decide +kernel) rfl
theorem tw_153 : (Cond.methodLink "LoafFall$Falls" (3 : Nat) ({ cls := "java/lang/Object", name := "<init>", desc := "()V" } : Jvm.MethodName)) ∈ a_gw := a_gwI 153 (by decide +kernel) rfl
theorem tw_154 : (Cond.fieldLink "LoafFall$Falls" (9 : Nat) "LoafFall$Falls" "kinds" "[I") ∈ a_gw := a_gwI 154 (by decide +kernel) rfl
theorem tw_155 : (Cond.fieldLink "LoafFall$Falls" (15 : Nat) "LoafFall$Falls" "cells" "[I") ∈ a_gw := a_gwI 155 (by decide +kernel) rfl
theorem tw_156 : (Cond.fieldLink "LoafFall" (243 : Nat) "LoafFall$Falls" "cells" "[I") ∈ a_gw := a_gwI 156 (by decide +kernel) rfl
theorem tw_157 : (Cond.fieldLink "LoafFall$Falls" (18 : Nat) "LoafFall$Falls" "gases" "[I") ∈ a_gw := a_gwI 157 (by decide +kernel) rfl
theorem tw_158 : (Cond.fieldLink "LoafFall$Falls" (21 : Nat) "LoafFall$Falls" "turns" "[I") ∈ a_gw := a_gwI 158 (by decide +kernel) rfl
theorem tw_159 : (Cond.fieldLink "LoafFall$Falls" (24 : Nat) "LoafFall$Falls" "marks" "[I") ∈ a_gw := a_gwI 159 (by decide +kernel) rfl
theorem tw_160 : (Cond.fieldLink "LoafFall" (246 : Nat) "LoafFall$Falls" "marks" "[I") ∈ a_gw := a_gwI 160 (by decide +kernel) rfl
theorem tw_161 : (Cond.laysFinal "LoafFall$Falls" "LoafFall$Falls" "kinds" "[I") ∈ a_gw := a_gwI 161 (by decide +kernel) rfl
theorem tw_163 : (Cond.laysFinal "LoafFall$Falls" "LoafFall$Falls" "cells" "[I") ∈ a_gw := a_gwI 163 (by decide +kernel) rfl
theorem tw_165 : (Cond.laysFinal "LoafFall$Falls" "LoafFall$Falls" "gases" "[I") ∈ a_gw := a_gwI 165 (by decide +kernel) rfl
theorem tw_167 : (Cond.laysFinal "LoafFall$Falls" "LoafFall$Falls" "turns" "[I") ∈ a_gw := a_gwI 167 (by decide +kernel) rfl
theorem tw_169 : (Cond.laysFinal "LoafFall$Falls" "LoafFall$Falls" "marks" "[I") ∈ a_gw := a_gwI 169 (by decide +kernel) rfl
theorem tw_172 : (Cond.fieldLink "LoafFall$Loaf" (12 : Nat) "LoafFall$Loaf" "flour" "LLoafFall$Flour;") ∈ a_gw := a_gwI 172 (by decide +kernel) rfl
theorem tw_173 : (Cond.fieldLink "LoafFall$Baker" (65 : Nat) "LoafFall$Loaf" "flour" "LLoafFall$Flour;") ∈ a_gw := a_gwI 173 (by decide +kernel) rfl
theorem tw_174 : (Cond.fieldLink "LoafFall" (240 : Nat) "LoafFall$Loaf" "flour" "LLoafFall$Flour;") ∈ a_gw := a_gwI 174 (by decide +kernel) rfl
theorem tw_175 : (Cond.fieldLink "LoafFall$Loaf" (21 : Nat) "LoafFall$Loaf" "doing" "LLoafFall$Doing;") ∈ a_gw := a_gwI 175 (by decide +kernel) rfl
theorem tw_176 : (Cond.fieldLink "LoafFall$Baker" (75 : Nat) "LoafFall$Loaf" "doing" "LLoafFall$Doing;") ∈ a_gw := a_gwI 176 (by decide +kernel) rfl
theorem tw_177 : (Cond.fieldLink "LoafFall" (204 : Nat) "LoafFall$Loaf" "doing" "LLoafFall$Doing;") ∈ a_gw := a_gwI 177 (by decide +kernel) rfl
theorem tw_178 : (Cond.fieldLink "LoafFall$Loaf" (28 : Nat) "LoafFall$Loaf" "dough" "LLoafFall$Dough;") ∈ a_gw := a_gwI 178 (by decide +kernel) rfl
theorem tw_179 : (Cond.fieldLink "LoafFall$Baker" (33 : Nat) "LoafFall$Loaf" "dough" "LLoafFall$Dough;") ∈ a_gw := a_gwI 179 (by decide +kernel) rfl
theorem tw_180 : (Cond.fieldLink "LoafFall" (212 : Nat) "LoafFall$Loaf" "dough" "LLoafFall$Dough;") ∈ a_gw := a_gwI 180 (by decide +kernel) rfl
theorem tw_181 : (Cond.fieldLink "LoafFall$Loaf" (35 : Nat) "LoafFall$Loaf" "falls" "LLoafFall$Falls;") ∈ a_gw := a_gwI 181 (by decide +kernel) rfl
theorem tw_182 : (Cond.fieldLink "LoafFall" (230 : Nat) "LoafFall$Loaf" "falls" "LLoafFall$Falls;") ∈ a_gw := a_gwI 182 (by decide +kernel) rfl
theorem tw_183 : (Cond.fieldLink "LoafFall$Loaf" (54 : Nat) "LoafFall$Loaf" "there" "Z") ∈ a_gw := a_gwI 183 (by decide +kernel) rfl
theorem tw_184 : (Cond.fieldLink "LoafFall" (211 : Nat) "LoafFall$Loaf" "there" "Z") ∈ a_gw := a_gwI 184 (by decide +kernel) rfl
theorem tw_185 : (Cond.laysFinal "LoafFall$Loaf" "LoafFall$Loaf" "flour" "LLoafFall$Flour;") ∈ a_gw := a_gwI 185 (by decide +kernel) rfl
theorem tw_187 : (Cond.laysFinal "LoafFall$Loaf" "LoafFall$Loaf" "doing" "LLoafFall$Doing;") ∈ a_gw := a_gwI 187 (by decide +kernel) rfl
theorem tw_189 : (Cond.laysFinal "LoafFall$Loaf" "LoafFall$Loaf" "dough" "LLoafFall$Dough;") ∈ a_gw := a_gwI 189 (by decide +kernel) rfl
theorem tw_191 : (Cond.laysFinal "LoafFall$Loaf" "LoafFall$Loaf" "falls" "LLoafFall$Falls;") ∈ a_gw := a_gwI 191 (by decide +kernel) rfl
theorem tw_193 : (Cond.lays "LoafFall$Loaf" "LoafFall$Loaf" "there" "Z") ∈ a_gw := a_gwI 193 (by decide +kernel) rfl
theorem tw_196 : (Cond.classLink "LoafFall" (44 : Nat) "LoafFall$Slips") ∈ a_gw := a_gwI 196 (by decide +kernel) rfl
theorem tw_197 : (Cond.instantiable "LoafFall$Slips" (3 : Nat)) ∈ a_gw := a_gwI 197 (by decide +kernel) rfl
theorem tw_199 : (Cond.instanceMethod ({ cls := "LoafFall$Slips", name := "<init>", desc := "()V" } : Jvm.MethodName)) ∈ a_gw := a_gwI 199 (by decide +kernel) rfl
theorem tw_200 : (Cond.code ({ cls := "LoafFall$Slips", name := "<init>", desc := "()V" } : Jvm.MethodName) prog_11_method_1_code (1 : Nat) (Option.none : Option Jvm.ClassFile.FieldType)) ∈ a_gw := a_gwI 200 (by decide +kernel) rfl
theorem tw_201 : (Cond.methodLink "LoafFall$Slips" (3 : Nat) ({ cls := "java/lang/Object", name := "<init>", desc := "()V" } : Jvm.MethodName)) ∈ a_gw := a_gwI 201 (by decide +kernel) rfl
theorem tw_202 : (Cond.fieldLink "LoafFall$Slips" (9 : Nat) "LoafFall$Slips" "doings" "[I") ∈ a_gw := a_gwI 202 (by decide +kernel) rfl
theorem tw_203 : (Cond.fieldLink "LoafFall" (359 : Nat) "LoafFall$Slips" "doings" "[I") ∈ a_gw := a_gwI 203 (by decide +kernel) rfl
theorem tw_204 : (Cond.fieldLink "LoafFall$Slips" (15 : Nat) "LoafFall$Slips" "heights" "[I") ∈ a_gw := a_gwI 204 (by decide +kernel) rfl
theorem tw_205 : (Cond.fieldLink "LoafFall" (361 : Nat) "LoafFall$Slips" "heights" "[I") ∈ a_gw := a_gwI 205 (by decide +kernel) rfl
theorem tw_206 : (Cond.fieldLink "LoafFall$Slips" (18 : Nat) "LoafFall$Slips" "size" "I") ∈ a_gw := a_gwI 206 (by decide +kernel) rfl
theorem tw_207 : (Cond.fieldLink "LoafFall" (355 : Nat) "LoafFall$Slips" "size" "I") ∈ a_gw := a_gwI 207 (by decide +kernel) rfl
theorem tw_208 : (Cond.laysFinal "LoafFall$Slips" "LoafFall$Slips" "doings" "[I") ∈ a_gw := a_gwI 208 (by decide +kernel) rfl
theorem tw_210 : (Cond.laysFinal "LoafFall$Slips" "LoafFall$Slips" "heights" "[I") ∈ a_gw := a_gwI 210 (by decide +kernel) rfl
theorem tw_212 : (Cond.lays "LoafFall$Slips" "LoafFall$Slips" "size" "I") ∈ a_gw := a_gwI 212 (by decide +kernel) rfl
theorem tw_215 : (Cond.classLink "LoafFall" (51 : Nat) "LoafFall$Reader") ∈ a_gw := a_gwI 215 (by decide +kernel) rfl
theorem tw_216 : (Cond.instantiable "LoafFall$Reader" (4 : Nat)) ∈ a_gw := a_gwI 216 (by decide +kernel) rfl
theorem tw_218 : (Cond.instanceMethod ({ cls := "LoafFall$Reader", name := "<init>", desc := "()V" } : Jvm.MethodName)) ∈ a_gw := a_gwI 218 (by decide +kernel) rfl
theorem tw_219 : (Cond.code ({ cls := "LoafFall$Reader", name := "<init>", desc := "()V" } : Jvm.MethodName) prog_9_method_1_code (1 : Nat) (Option.none : Option Jvm.ClassFile.FieldType)) ∈ a_gw := a_gwI 219 (by decide +kernel) rfl
theorem tw_220 : (Cond.methodLink "LoafFall$Reader" (3 : Nat) ({ cls := "java/lang/Object", name := "<init>", desc := "()V" } : Jvm.MethodName)) ∈ a_gw := a_gwI 220 (by decide +kernel) rfl
theorem tw_221 : (Cond.classLink "LoafFall$Reader" (9 : Nat) "LoafFall$Flour") ∈ a_gw := a_gwI 221 (by decide +kernel) rfl
theorem tw_223 : (Cond.classLink "LoafFall$Reader" (18 : Nat) "LoafFall$Doing") ∈ a_gw := a_gwI 223 (by decide +kernel) rfl
theorem tw_225 : (Cond.fieldLink "LoafFall$Reader" (12 : Nat) "LoafFall$Reader" "flourRead" "LLoafFall$Flour;") ∈ a_gw := a_gwI 225 (by decide +kernel) rfl
theorem tw_226 : (Cond.fieldLink "LoafFall" (163 : Nat) "LoafFall$Reader" "flourRead" "LLoafFall$Flour;") ∈ a_gw := a_gwI 226 (by decide +kernel) rfl
theorem tw_227 : (Cond.fieldLink "LoafFall$Reader" (21 : Nat) "LoafFall$Reader" "doingRead" "LLoafFall$Doing;") ∈ a_gw := a_gwI 227 (by decide +kernel) rfl
theorem tw_228 : (Cond.fieldLink "LoafFall" (176 : Nat) "LoafFall$Reader" "doingRead" "LLoafFall$Doing;") ∈ a_gw := a_gwI 228 (by decide +kernel) rfl
theorem tw_229 : (Cond.fieldLink "LoafFall$Reader" (28 : Nat) "LoafFall$Reader" "itemsRead" "I") ∈ a_gw := a_gwI 229 (by decide +kernel) rfl
theorem tw_230 : (Cond.fieldLink "LoafFall" (170 : Nat) "LoafFall$Reader" "itemsRead" "I") ∈ a_gw := a_gwI 230 (by decide +kernel) rfl
theorem tw_231 : (Cond.fieldLink "LoafFall$Reader" (32 : Nat) "LoafFall$Reader" "place" "I") ∈ a_gw := a_gwI 231 (by decide +kernel) rfl
theorem tw_232 : (Cond.laysFinal "LoafFall$Reader" "LoafFall$Reader" "flourRead" "LLoafFall$Flour;") ∈ a_gw := a_gwI 232 (by decide +kernel) rfl
theorem tw_234 : (Cond.laysFinal "LoafFall$Reader" "LoafFall$Reader" "doingRead" "LLoafFall$Doing;") ∈ a_gw := a_gwI 234 (by decide +kernel) rfl
theorem tw_236 : (Cond.lays "LoafFall$Reader" "LoafFall$Reader" "itemsRead" "I") ∈ a_gw := a_gwI 236 (by decide +kernel) rfl
theorem tw_238 : (Cond.lays "LoafFall$Reader" "LoafFall$Reader" "place" "I") ∈ a_gw := a_gwI 238 (by decide +kernel) rfl
theorem tw_241 : (Cond.classLink "LoafFall" (58 : Nat) "LoafFall$Baker") ∈ a_gw := a_gwI 241 (by decide +kernel) rfl
theorem tw_242 : (Cond.instantiable "LoafFall$Baker" (3 : Nat)) ∈ a_gw := a_gwI 242 (by decide +kernel) rfl
theorem tw_243 : (Cond.methodLink "LoafFall" (60 : Nat) ({ cls := "LoafFall$Baker", name := "<init>", desc := "()V" } : Jvm.MethodName)) ∈ a_gw := a_gwI 243 (by decide +kernel) rfl
theorem tw_244 : (Cond.instanceMethod ({ cls := "LoafFall$Baker", name := "<init>", desc := "()V" } : Jvm.MethodName)) ∈ a_gw := a_gwI 244 (by decide +kernel) rfl
theorem tw_245 : (Cond.code ({ cls := "LoafFall$Baker", name := "<init>", desc := "()V" } : Jvm.MethodName) prog_2_method_1_code (2 : Nat) (Option.none : Option Jvm.ClassFile.FieldType)) ∈ a_gw := a_gwI 245 (by decide +kernel) rfl
theorem tw_246 : (Cond.methodLink "LoafFall$Baker" (3 : Nat) ({ cls := "java/lang/Object", name := "<init>", desc := "()V" } : Jvm.MethodName)) ∈ a_gw := a_gwI 246 (by decide +kernel) rfl
theorem tw_247 : (Cond.classLink "LoafFall$Baker" (9 : Nat) "LoafFall$Loaf") ∈ a_gw := a_gwI 247 (by decide +kernel) rfl
theorem tw_249 : (Cond.classLink "LoafFall$Baker" (18 : Nat) "LoafFall$Dough") ∈ a_gw := a_gwI 249 (by decide +kernel) rfl
theorem tw_252 : (Cond.fieldLink "LoafFall$Baker" (12 : Nat) "LoafFall$Baker" "aside" "LLoafFall$Loaf;") ∈ a_gw := a_gwI 252 (by decide +kernel) rfl
theorem tw_253 : (Cond.fieldLink "LoafFall$Baker" (20 : Nat) "LoafFall$Baker" "ahead" "[LLoafFall$Dough;") ∈ a_gw := a_gwI 253 (by decide +kernel) rfl
theorem tw_254 : (Cond.fieldLink "LoafFall$Baker" (41 : Nat) "LoafFall$Baker" "known" "I") ∈ a_gw := a_gwI 254 (by decide +kernel) rfl
theorem tw_255 : (Cond.laysFinal "LoafFall$Baker" "LoafFall$Baker" "aside" "LLoafFall$Loaf;") ∈ a_gw := a_gwI 255 (by decide +kernel) rfl
theorem tw_257 : (Cond.laysFinal "LoafFall$Baker" "LoafFall$Baker" "ahead" "[LLoafFall$Dough;") ∈ a_gw := a_gwI 257 (by decide +kernel) rfl
theorem tw_259 : (Cond.lays "LoafFall$Baker" "LoafFall$Baker" "known" "I") ∈ a_gw := a_gwI 259 (by decide +kernel) rfl
theorem tw_262 : (Cond.classLink "LoafFall" (65 : Nat) "LoafFall$Holes") ∈ a_gw := a_gwI 262 (by decide +kernel) rfl
theorem tw_263 : (Cond.instantiable "LoafFall$Holes" (5 : Nat)) ∈ a_gw := a_gwI 263 (by decide +kernel) rfl
theorem tw_265 : (Cond.instanceMethod ({ cls := "LoafFall$Holes", name := "<init>", desc := "()V" } : Jvm.MethodName)) ∈ a_gw := a_gwI 265 (by decide +kernel) rfl
theorem tw_266 : (Cond.code ({ cls := "LoafFall$Holes", name := "<init>", desc := "()V" } : Jvm.MethodName) prog_7_method_1_code (1 : Nat) (Option.none : Option Jvm.ClassFile.FieldType)) ∈ a_gw := a_gwI 266 (by decide +kernel) rfl
theorem tw_267 : (Cond.methodLink "LoafFall$Holes" (3 : Nat) ({ cls := "java/lang/Object", name := "<init>", desc := "()V" } : Jvm.MethodName)) ∈ a_gw := a_gwI 267 (by decide +kernel) rfl
theorem tw_268 : (Cond.fieldLink "LoafFall$Holes" (9 : Nat) "LoafFall$Holes" "seen" "[Z") ∈ a_gw := a_gwI 268 (by decide +kernel) rfl
theorem tw_269 : (Cond.fieldLink "LoafFall$Holes" (15 : Nat) "LoafFall$Holes" "waiting" "[I") ∈ a_gw := a_gwI 269 (by decide +kernel) rfl
theorem tw_270 : (Cond.fieldLink "LoafFall$Holes" (41 : Nat) "LoafFall$Holes" "waits" "I") ∈ a_gw := a_gwI 270 (by decide +kernel) rfl
theorem tw_271 : (Cond.fieldLink "LoafFall$Holes" (19 : Nat) "LoafFall$Holes" "found" "I") ∈ a_gw := a_gwI 271 (by decide +kernel) rfl
theorem tw_272 : (Cond.fieldLink "LoafFall" (268 : Nat) "LoafFall$Holes" "found" "I") ∈ a_gw := a_gwI 272 (by decide +kernel) rfl
theorem tw_273 : (Cond.fieldLink "LoafFall$Holes" (23 : Nat) "LoafFall$Holes" "greatest" "I") ∈ a_gw := a_gwI 273 (by decide +kernel) rfl
theorem tw_274 : (Cond.fieldLink "LoafFall" (265 : Nat) "LoafFall$Holes" "greatest" "I") ∈ a_gw := a_gwI 274 (by decide +kernel) rfl
theorem tw_275 : (Cond.laysFinal "LoafFall$Holes" "LoafFall$Holes" "seen" "[Z") ∈ a_gw := a_gwI 275 (by decide +kernel) rfl
theorem tw_277 : (Cond.laysFinal "LoafFall$Holes" "LoafFall$Holes" "waiting" "[I") ∈ a_gw := a_gwI 277 (by decide +kernel) rfl
theorem tw_279 : (Cond.lays "LoafFall$Holes" "LoafFall$Holes" "waits" "I") ∈ a_gw := a_gwI 279 (by decide +kernel) rfl
theorem tw_281 : (Cond.lays "LoafFall$Holes" "LoafFall$Holes" "found" "I") ∈ a_gw := a_gwI 281 (by decide +kernel) rfl
theorem tw_283 : (Cond.lays "LoafFall$Holes" "LoafFall$Holes" "greatest" "I") ∈ a_gw := a_gwI 283 (by decide +kernel) rfl
theorem tw_286 : (Cond.arrayClass Jvm.ClassFile.FieldType.boolean) ∈ a_gw := a_gwI 286 (by decide +kernel) rfl
theorem tw_289 : (Cond.instantiable "LoafFall$Row" (2 : Nat)) ∈ a_gw := a_gwI 289 (by decide +kernel) rfl
theorem tw_291 : (Cond.instanceMethod ({ cls := "LoafFall$Row", name := "<init>", desc := "()V" } : Jvm.MethodName)) ∈ a_gw := a_gwI 291 (by decide +kernel) rfl
theorem tw_292 : (Cond.code ({ cls := "LoafFall$Row", name := "<init>", desc := "()V" } : Jvm.MethodName) prog_10_method_1_code (1 : Nat) (Option.none : Option Jvm.ClassFile.FieldType)) ∈ a_gw := a_gwI 292 (by decide +kernel) rfl
theorem tw_293 : (Cond.methodLink "LoafFall$Row" (3 : Nat) ({ cls := "java/lang/Object", name := "<init>", desc := "()V" } : Jvm.MethodName)) ∈ a_gw := a_gwI 293 (by decide +kernel) rfl
theorem tw_294 : (Cond.fieldLink "LoafFall$Row" (9 : Nat) "LoafFall$Row" "places" "[I") ∈ a_gw := a_gwI 294 (by decide +kernel) rfl
theorem tw_295 : (Cond.fieldLink "LoafFall" (117 : Nat) "LoafFall$Row" "places" "[I") ∈ a_gw := a_gwI 295 (by decide +kernel) rfl
theorem tw_296 : (Cond.fieldLink "LoafFall$Dough" (64 : Nat) "LoafFall$Row" "places" "[I") ∈ a_gw := a_gwI 296 (by decide +kernel) rfl
theorem tw_297 : (Cond.fieldLink "LoafFall$Row" (15 : Nat) "LoafFall$Row" "size" "I") ∈ a_gw := a_gwI 297 (by decide +kernel) rfl
theorem tw_298 : (Cond.fieldLink "LoafFall" (127 : Nat) "LoafFall$Row" "size" "I") ∈ a_gw := a_gwI 298 (by decide +kernel) rfl
theorem tw_299 : (Cond.laysFinal "LoafFall$Row" "LoafFall$Row" "places" "[I") ∈ a_gw := a_gwI 299 (by decide +kernel) rfl
theorem tw_301 : (Cond.lays "LoafFall$Row" "LoafFall$Row" "size" "I") ∈ a_gw := a_gwI 301 (by decide +kernel) rfl
theorem tw_304 : (Cond.instantiable "LoafFall$Text" (2 : Nat)) ∈ a_gw := a_gwI 304 (by decide +kernel) rfl
theorem tw_306 : (Cond.instanceMethod ({ cls := "LoafFall$Text", name := "<init>", desc := "()V" } : Jvm.MethodName)) ∈ a_gw := a_gwI 306 (by decide +kernel) rfl
theorem tw_307 : (Cond.code ({ cls := "LoafFall$Text", name := "<init>", desc := "()V" } : Jvm.MethodName) prog_12_method_1_code (1 : Nat) (Option.none : Option Jvm.ClassFile.FieldType)) ∈ a_gw := a_gwI 307 (by decide +kernel) rfl
theorem tw_308 : (Cond.methodLink "LoafFall$Text" (3 : Nat) ({ cls := "java/lang/Object", name := "<init>", desc := "()V" } : Jvm.MethodName)) ∈ a_gw := a_gwI 308 (by decide +kernel) rfl
theorem tw_309 : (Cond.fieldLink "LoafFall$Text" (9 : Nat) "LoafFall$Text" "bytes" "[B") ∈ a_gw := a_gwI 309 (by decide +kernel) rfl
theorem tw_310 : (Cond.fieldLink "LoafFall" (149 : Nat) "LoafFall$Text" "bytes" "[B") ∈ a_gw := a_gwI 310 (by decide +kernel) rfl
theorem tw_311 : (Cond.fieldLink "LoafFall$Text" (15 : Nat) "LoafFall$Text" "size" "I") ∈ a_gw := a_gwI 311 (by decide +kernel) rfl
theorem tw_312 : (Cond.fieldLink "LoafFall$Reader" (35 : Nat) "LoafFall$Text" "size" "I") ∈ a_gw := a_gwI 312 (by decide +kernel) rfl
theorem tw_313 : (Cond.fieldLink "LoafFall" (435 : Nat) "LoafFall$Text" "size" "I") ∈ a_gw := a_gwI 313 (by decide +kernel) rfl
theorem tw_314 : (Cond.laysFinal "LoafFall$Text" "LoafFall$Text" "bytes" "[B") ∈ a_gw := a_gwI 314 (by decide +kernel) rfl
theorem tw_316 : (Cond.lays "LoafFall$Text" "LoafFall$Text" "size" "I") ∈ a_gw := a_gwI 316 (by decide +kernel) rfl
theorem tw_319 : (Cond.arrayClass Jvm.ClassFile.FieldType.byte) ∈ a_gw := a_gwI 319 (by decide +kernel) rfl
theorem tw_320 : (Cond.fieldLink "LoafFall" (11 : Nat) "LoafFall" "rows" "[LLoafFall$Row;") ∈ a_gw := a_gwI 320 (by decide +kernel) rfl
theorem tw_321 : (Cond.fieldLink "LoafFall" (17 : Nat) "LoafFall" "texts" "[LLoafFall$Text;") ∈ a_gw := a_gwI 321 (by decide +kernel) rfl
theorem tw_322 : (Cond.fieldLink "LoafFall" (23 : Nat) "LoafFall" "flours" "[LLoafFall$Flour;") ∈ a_gw := a_gwI 322 (by decide +kernel) rfl
theorem tw_323 : (Cond.fieldLink "LoafFall" (29 : Nat) "LoafFall" "doings" "[LLoafFall$Doing;") ∈ a_gw := a_gwI 323 (by decide +kernel) rfl
theorem tw_324 : (Cond.fieldLink "LoafFall" (35 : Nat) "LoafFall" "kept" "[LLoafFall$Loaf;") ∈ a_gw := a_gwI 324 (by decide +kernel) rfl
theorem tw_325 : (Cond.fieldLink "LoafFall" (40 : Nat) "LoafFall" "loaf" "LLoafFall$Loaf;") ∈ a_gw := a_gwI 325 (by decide +kernel) rfl
theorem tw_326 : (Cond.fieldLink "LoafFall" (47 : Nat) "LoafFall" "slips" "LLoafFall$Slips;") ∈ a_gw := a_gwI 326 (by decide +kernel) rfl
theorem tw_327 : (Cond.fieldLink "LoafFall" (54 : Nat) "LoafFall" "reader" "LLoafFall$Reader;") ∈ a_gw := a_gwI 327 (by decide +kernel) rfl
theorem tw_328 : (Cond.fieldLink "LoafFall" (61 : Nat) "LoafFall" "baker" "LLoafFall$Baker;") ∈ a_gw := a_gwI 328 (by decide +kernel) rfl
theorem tw_329 : (Cond.fieldLink "LoafFall" (68 : Nat) "LoafFall" "holeSearch" "LLoafFall$Holes;") ∈ a_gw := a_gwI 329 (by decide +kernel) rfl
theorem tw_330 : (Cond.fieldLink "LoafFall" (73 : Nat) "LoafFall" "otherFlour" "LLoafFall$Flour;") ∈ a_gw := a_gwI 330 (by decide +kernel) rfl
theorem tw_331 : (Cond.fieldLink "LoafFall" (78 : Nat) "LoafFall" "otherDoing" "LLoafFall$Doing;") ∈ a_gw := a_gwI 331 (by decide +kernel) rfl
theorem tw_332 : (Cond.fieldLink "LoafFall" (82 : Nat) "LoafFall" "changedDoing" "LLoafFall$Doing;") ∈ a_gw := a_gwI 332 (by decide +kernel) rfl
theorem tw_333 : (Cond.fieldLink "LoafFall" (85 : Nat) "LoafFall" "lawOffs" "[I") ∈ a_gw := a_gwI 333 (by decide +kernel) rfl
theorem tw_334 : (Cond.fieldLink "LoafFall" (89 : Nat) "LoafFall" "lawHeights" "[I") ∈ a_gw := a_gwI 334 (by decide +kernel) rfl
theorem tw_335 : (Cond.fieldLink "LoafFall" (92 : Nat) "LoafFall" "findingCounts" "[I") ∈ a_gw := a_gwI 335 (by decide +kernel) rfl
theorem tw_336 : (Cond.fieldLink "LoafFall" (397 : Nat) "LoafFall" "latestFinding" "I") ∈ a_gw := a_gwI 336 (by decide +kernel) rfl
theorem tw_337 : (Cond.fieldLink "LoafFall" (194 : Nat) "LoafFall" "latestAsked" "I") ∈ a_gw := a_gwI 337 (by decide +kernel) rfl
theorem tw_338 : (Cond.fieldLink "LoafFall" (379 : Nat) "LoafFall" "latestUpper" "J") ∈ a_gw := a_gwI 338 (by decide +kernel) rfl
theorem tw_339 : (Cond.fieldLink "LoafFall" (95 : Nat) "LoafFall" "latestLower" "J") ∈ a_gw := a_gwI 339 (by decide +kernel) rfl
theorem tw_340 : (Cond.laysFinal "LoafFall" "LoafFall" "rows" "[LLoafFall$Row;") ∈ a_gw := a_gwI 340 (by decide +kernel) rfl
theorem tw_342 : (Cond.laysFinal "LoafFall" "LoafFall" "texts" "[LLoafFall$Text;") ∈ a_gw := a_gwI 342 (by decide +kernel) rfl
theorem tw_344 : (Cond.laysFinal "LoafFall" "LoafFall" "flours" "[LLoafFall$Flour;") ∈ a_gw := a_gwI 344 (by decide +kernel) rfl
theorem tw_346 : (Cond.laysFinal "LoafFall" "LoafFall" "doings" "[LLoafFall$Doing;") ∈ a_gw := a_gwI 346 (by decide +kernel) rfl
theorem tw_348 : (Cond.laysFinal "LoafFall" "LoafFall" "kept" "[LLoafFall$Loaf;") ∈ a_gw := a_gwI 348 (by decide +kernel) rfl
theorem tw_350 : (Cond.laysFinal "LoafFall" "LoafFall" "loaf" "LLoafFall$Loaf;") ∈ a_gw := a_gwI 350 (by decide +kernel) rfl
theorem tw_352 : (Cond.laysFinal "LoafFall" "LoafFall" "slips" "LLoafFall$Slips;") ∈ a_gw := a_gwI 352 (by decide +kernel) rfl
theorem tw_354 : (Cond.laysFinal "LoafFall" "LoafFall" "reader" "LLoafFall$Reader;") ∈ a_gw := a_gwI 354 (by decide +kernel) rfl
theorem tw_356 : (Cond.laysFinal "LoafFall" "LoafFall" "baker" "LLoafFall$Baker;") ∈ a_gw := a_gwI 356 (by decide +kernel) rfl
theorem tw_358 : (Cond.laysFinal "LoafFall" "LoafFall" "holeSearch" "LLoafFall$Holes;") ∈ a_gw := a_gwI 358 (by decide +kernel) rfl
theorem tw_360 : (Cond.laysFinal "LoafFall" "LoafFall" "otherFlour" "LLoafFall$Flour;") ∈ a_gw := a_gwI 360 (by decide +kernel) rfl
theorem tw_362 : (Cond.laysFinal "LoafFall" "LoafFall" "otherDoing" "LLoafFall$Doing;") ∈ a_gw := a_gwI 362 (by decide +kernel) rfl
theorem tw_364 : (Cond.laysFinal "LoafFall" "LoafFall" "changedDoing" "LLoafFall$Doing;") ∈ a_gw := a_gwI 364 (by decide +kernel) rfl
theorem tw_366 : (Cond.laysFinal "LoafFall" "LoafFall" "lawOffs" "[I") ∈ a_gw := a_gwI 366 (by decide +kernel) rfl
theorem tw_368 : (Cond.laysFinal "LoafFall" "LoafFall" "lawHeights" "[I") ∈ a_gw := a_gwI 368 (by decide +kernel) rfl
theorem tw_370 : (Cond.laysFinal "LoafFall" "LoafFall" "findingCounts" "[I") ∈ a_gw := a_gwI 370 (by decide +kernel) rfl
theorem tw_372 : (Cond.lays "LoafFall" "LoafFall" "latestFinding" "I") ∈ a_gw := a_gwI 372 (by decide +kernel) rfl
theorem tw_374 : (Cond.lays "LoafFall" "LoafFall" "latestAsked" "I") ∈ a_gw := a_gwI 374 (by decide +kernel) rfl
theorem tw_376 : (Cond.lays "LoafFall" "LoafFall" "latestUpper" "J") ∈ a_gw := a_gwI 376 (by decide +kernel) rfl
theorem tw_378 : (Cond.lays "LoafFall" "LoafFall" "latestLower" "J") ∈ a_gw := a_gwI 378 (by decide +kernel) rfl
theorem tw_381 : (Cond.methodLink "LoafFallLaw" (13 : Nat) ({ cls := "LoafFall", name := "row", desc := "(II)I" } : Jvm.MethodName)) ∈ a_gw := a_gwI 381 (by decide +kernel) rfl
theorem tw_382 : (Cond.instanceMethod ({ cls := "LoafFall", name := "row", desc := "(II)I" } : Jvm.MethodName)) ∈ a_gw := a_gwI 382 (by decide +kernel) rfl
theorem tw_383 : (Cond.selects "LoafFall" ({ cls := "LoafFall", name := "row", desc := "(II)I" } : Jvm.MethodName) ({ cls := "LoafFall", name := "row", desc := "(II)I" } : Jvm.MethodName)) ∈ a_gw := a_gwI 383 (by decide +kernel) rfl
theorem tw_384 : (Cond.code ({ cls := "LoafFall", name := "row", desc := "(II)I" } : Jvm.MethodName) prog_1_method_2_code (3 : Nat) (Option.some Jvm.ClassFile.FieldType.int)) ∈ a_gw := a_gwI 384 (by decide +kernel) rfl
theorem tw_385 : (Cond.methodLink "LoafFall" (101 : Nat) ({ cls := "LoafFall", name := "isRow", desc := "(I)Z" } : Jvm.MethodName)) ∈ a_gw := a_gwI 385 (by decide +kernel) rfl
theorem tw_386 : (Cond.static ({ cls := "LoafFall", name := "isRow", desc := "(I)Z" } : Jvm.MethodName)) ∈ a_gw := a_gwI 386 (by decide +kernel) rfl
theorem tw_387 : (Cond.code ({ cls := "LoafFall", name := "isRow", desc := "(I)Z" } : Jvm.MethodName) prog_1_method_49_code (1 : Nat) (Option.some Jvm.ClassFile.FieldType.boolean)) ∈ a_gw := a_gwI 387 (by decide +kernel) rfl
theorem tw_388 : (Cond.methodLink "LoafFall" (105 : Nat) ({ cls := "LoafFall", name := "found", desc := "(I)I" } : Jvm.MethodName)) ∈ a_gw := a_gwI 388 (by decide +kernel) rfl
theorem tw_390 : (Cond.instanceMethod ({ cls := "LoafFall", name := "found", desc := "(I)I" } : Jvm.MethodName)) ∈ a_gw := a_gwI 390 (by decide +kernel) rfl
theorem tw_391 : (Cond.code ({ cls := "LoafFall", name := "found", desc := "(I)I" } : Jvm.MethodName) prog_1_method_58_code (2 : Nat) (Option.some Jvm.ClassFile.FieldType.int)) ∈ a_gw := a_gwI 391 (by decide +kernel) rfl
theorem tw_392 : (Cond.methodLink "LoafFall" (109 : Nat) ({ cls := "LoafFall$Row", name := "renew", desc := "(I)V" } : Jvm.MethodName)) ∈ a_gw := a_gwI 392 (by decide +kernel) rfl
theorem tw_393 : (Cond.instanceMethod ({ cls := "LoafFall$Row", name := "renew", desc := "(I)V" } : Jvm.MethodName)) ∈ a_gw := a_gwI 393 (by decide +kernel) rfl
theorem tw_394 : (Cond.selects "LoafFall$Row" ({ cls := "LoafFall$Row", name := "renew", desc := "(I)V" } : Jvm.MethodName) ({ cls := "LoafFall$Row", name := "renew", desc := "(I)V" } : Jvm.MethodName)) ∈ a_gw := a_gwI 394 (by decide +kernel) rfl
theorem tw_395 : (Cond.code ({ cls := "LoafFall$Row", name := "renew", desc := "(I)V" } : Jvm.MethodName) prog_10_method_5_code (3 : Nat) (Option.none : Option Jvm.ClassFile.FieldType)) ∈ a_gw := a_gwI 395 (by decide +kernel) rfl
theorem tw_396 : (Cond.methodLink "LoafFall$Row" (19 : Nat) ({ cls := "java/lang/Math", name := "min", desc := "(II)I" } : Jvm.MethodName)) ∈ a_gw := a_gwI 396 (by decide +kernel) rfl
theorem tw_397 : (Cond.static ({ cls := "java/lang/Math", name := "min", desc := "(II)I" } : Jvm.MethodName)) ∈ a_gw := a_gwI 397 (by decide +kernel) rfl
theorem tw_398 : (Cond.code ({ cls := "java/lang/Math", name := "min", desc := "(II)I" } : Jvm.MethodName) prog_15_method_69_code (2 : Nat) (Option.some Jvm.ClassFile.FieldType.int)) ∈ a_gw := a_gwI 398 (by decide +kernel) rfl
theorem tw_399 : (Cond.methodLink "LoafFall$Row" (25 : Nat) ({ cls := "java/lang/Math", name := "max", desc := "(II)I" } : Jvm.MethodName)) ∈ a_gw := a_gwI 399 (by decide +kernel) rfl
theorem tw_400 : (Cond.static ({ cls := "java/lang/Math", name := "max", desc := "(II)I" } : Jvm.MethodName)) ∈ a_gw := a_gwI 400 (by decide +kernel) rfl
theorem tw_401 : (Cond.code ({ cls := "java/lang/Math", name := "max", desc := "(II)I" } : Jvm.MethodName) prog_15_method_65_code (2 : Nat) (Option.some Jvm.ClassFile.FieldType.int)) ∈ a_gw := a_gwI 401 (by decide +kernel) rfl
theorem tw_402 : (Cond.methodLink "LoafFallLaw" (18 : Nat) ({ cls := "LoafFall", name := "lay", desc := "(III)I" } : Jvm.MethodName)) ∈ a_gw := a_gwI 402 (by decide +kernel) rfl
theorem tw_403 : (Cond.instanceMethod ({ cls := "LoafFall", name := "lay", desc := "(III)I" } : Jvm.MethodName)) ∈ a_gw := a_gwI 403 (by decide +kernel) rfl
theorem tw_404 : (Cond.selects "LoafFall" ({ cls := "LoafFall", name := "lay", desc := "(III)I" } : Jvm.MethodName) ({ cls := "LoafFall", name := "lay", desc := "(III)I" } : Jvm.MethodName)) ∈ a_gw := a_gwI 404 (by decide +kernel) rfl
theorem tw_405 : (Cond.code ({ cls := "LoafFall", name := "lay", desc := "(III)I" } : Jvm.MethodName) prog_1_method_3_code (6 : Nat) (Option.some Jvm.ClassFile.FieldType.int)) ∈ a_gw := a_gwI 405 (by decide +kernel) rfl
theorem tw_406 : (Cond.methodLink "LoafFall" (113 : Nat) ({ cls := "LoafFall", name := "lackOfPlace", desc := "(II)I" } : Jvm.MethodName)) ∈ a_gw := a_gwI 406 (by decide +kernel) rfl
theorem tw_408 : (Cond.instanceMethod ({ cls := "LoafFall", name := "lackOfPlace", desc := "(II)I" } : Jvm.MethodName)) ∈ a_gw := a_gwI 408 (by decide +kernel) rfl
theorem tw_409 : (Cond.code ({ cls := "LoafFall", name := "lackOfPlace", desc := "(II)I" } : Jvm.MethodName) prog_1_method_59_code (3 : Nat) (Option.some Jvm.ClassFile.FieldType.int)) ∈ a_gw := a_gwI 409 (by decide +kernel) rfl
theorem tw_410 : (Cond.methodLink "LoafFall" (123 : Nat) ({ cls := "LoafFall$Row", name := "isThere", desc := "()Z" } : Jvm.MethodName)) ∈ a_gw := a_gwI 410 (by decide +kernel) rfl
theorem tw_411 : (Cond.instanceMethod ({ cls := "LoafFall$Row", name := "isThere", desc := "()Z" } : Jvm.MethodName)) ∈ a_gw := a_gwI 411 (by decide +kernel) rfl
theorem tw_412 : (Cond.selects "LoafFall$Row" ({ cls := "LoafFall$Row", name := "isThere", desc := "()Z" } : Jvm.MethodName) ({ cls := "LoafFall$Row", name := "isThere", desc := "()Z" } : Jvm.MethodName)) ∈ a_gw := a_gwI 412 (by decide +kernel) rfl
theorem tw_413 : (Cond.code ({ cls := "LoafFall$Row", name := "isThere", desc := "()Z" } : Jvm.MethodName) prog_10_method_2_code (1 : Nat) (Option.some Jvm.ClassFile.FieldType.boolean)) ∈ a_gw := a_gwI 413 (by decide +kernel) rfl
theorem tw_414 : (Cond.methodLink "LoafFall" (423 : Nat) ({ cls := "LoafFall$Row", name := "has", desc := "(I)Z" } : Jvm.MethodName)) ∈ a_gw := a_gwI 414 (by decide +kernel) rfl
theorem tw_415 : (Cond.instanceMethod ({ cls := "LoafFall$Row", name := "has", desc := "(I)Z" } : Jvm.MethodName)) ∈ a_gw := a_gwI 415 (by decide +kernel) rfl
theorem tw_416 : (Cond.selects "LoafFall$Row" ({ cls := "LoafFall$Row", name := "has", desc := "(I)Z" } : Jvm.MethodName) ({ cls := "LoafFall$Row", name := "has", desc := "(I)Z" } : Jvm.MethodName)) ∈ a_gw := a_gwI 416 (by decide +kernel) rfl
theorem tw_417 : (Cond.code ({ cls := "LoafFall$Row", name := "has", desc := "(I)Z" } : Jvm.MethodName) prog_10_method_3_code (2 : Nat) (Option.some Jvm.ClassFile.FieldType.boolean)) ∈ a_gw := a_gwI 417 (by decide +kernel) rfl
theorem tw_418 : (Cond.methodLink "LoafFall" (120 : Nat) ({ cls := "LoafFall", name := "tell", desc := "(I)I" } : Jvm.MethodName)) ∈ a_gw := a_gwI 418 (by decide +kernel) rfl
theorem tw_420 : (Cond.instanceMethod ({ cls := "LoafFall", name := "tell", desc := "(I)I" } : Jvm.MethodName)) ∈ a_gw := a_gwI 420 (by decide +kernel) rfl
theorem tw_421 : (Cond.code ({ cls := "LoafFall", name := "tell", desc := "(I)I" } : Jvm.MethodName) prog_1_method_56_code (2 : Nat) (Option.some Jvm.ClassFile.FieldType.int)) ∈ a_gw := a_gwI 421 (by decide +kernel) rfl
theorem tw_422 : (Cond.methodLink "LoafFallLaw" (23 : Nat) ({ cls := "LoafFall", name := "at", desc := "(II)I" } : Jvm.MethodName)) ∈ a_gw := a_gwI 422 (by decide +kernel) rfl
theorem tw_423 : (Cond.instanceMethod ({ cls := "LoafFall", name := "at", desc := "(II)I" } : Jvm.MethodName)) ∈ a_gw := a_gwI 423 (by decide +kernel) rfl
theorem tw_424 : (Cond.selects "LoafFall" ({ cls := "LoafFall", name := "at", desc := "(II)I" } : Jvm.MethodName) ({ cls := "LoafFall", name := "at", desc := "(II)I" } : Jvm.MethodName)) ∈ a_gw := a_gwI 424 (by decide +kernel) rfl
theorem tw_425 : (Cond.code ({ cls := "LoafFall", name := "at", desc := "(II)I" } : Jvm.MethodName) prog_1_method_4_code (4 : Nat) (Option.some Jvm.ClassFile.FieldType.int)) ∈ a_gw := a_gwI 425 (by decide +kernel) rfl
theorem tw_426 : (Cond.methodLink "LoafFallLaw" (27 : Nat) ({ cls := "LoafFall", name := "tear", desc := "(I)I" } : Jvm.MethodName)) ∈ a_gw := a_gwI 426 (by decide +kernel) rfl
theorem tw_427 : (Cond.instanceMethod ({ cls := "LoafFall", name := "tear", desc := "(I)I" } : Jvm.MethodName)) ∈ a_gw := a_gwI 427 (by decide +kernel) rfl
theorem tw_428 : (Cond.selects "LoafFall" ({ cls := "LoafFall", name := "tear", desc := "(I)I" } : Jvm.MethodName) ({ cls := "LoafFall", name := "tear", desc := "(I)I" } : Jvm.MethodName)) ∈ a_gw := a_gwI 428 (by decide +kernel) rfl
theorem tw_429 : (Cond.code ({ cls := "LoafFall", name := "tear", desc := "(I)I" } : Jvm.MethodName) prog_1_method_5_code (2 : Nat) (Option.some Jvm.ClassFile.FieldType.int)) ∈ a_gw := a_gwI 429 (by decide +kernel) rfl
theorem tw_430 : (Cond.methodLink "LoafFallLaw" (32 : Nat) ({ cls := "LoafFall", name := "copy", desc := "(IIIII)I" } : Jvm.MethodName)) ∈ a_gw := a_gwI 430 (by decide +kernel) rfl
theorem tw_431 : (Cond.instanceMethod ({ cls := "LoafFall", name := "copy", desc := "(IIIII)I" } : Jvm.MethodName)) ∈ a_gw := a_gwI 431 (by decide +kernel) rfl
theorem tw_432 : (Cond.selects "LoafFall" ({ cls := "LoafFall", name := "copy", desc := "(IIIII)I" } : Jvm.MethodName) ({ cls := "LoafFall", name := "copy", desc := "(IIIII)I" } : Jvm.MethodName)) ∈ a_gw := a_gwI 432 (by decide +kernel) rfl
theorem tw_433 : (Cond.code ({ cls := "LoafFall", name := "copy", desc := "(IIIII)I" } : Jvm.MethodName) prog_1_method_6_code (6 : Nat) (Option.some Jvm.ClassFile.FieldType.int)) ∈ a_gw := a_gwI 433 (by decide +kernel) rfl
theorem tw_434 : (Cond.methodLink "LoafFall" (131 : Nat) ({ cls := "LoafFall$Row", name := "hasSpan", desc := "(II)Z" } : Jvm.MethodName)) ∈ a_gw := a_gwI 434 (by decide +kernel) rfl
theorem tw_435 : (Cond.instanceMethod ({ cls := "LoafFall$Row", name := "hasSpan", desc := "(II)Z" } : Jvm.MethodName)) ∈ a_gw := a_gwI 435 (by decide +kernel) rfl
theorem tw_436 : (Cond.selects "LoafFall$Row" ({ cls := "LoafFall$Row", name := "hasSpan", desc := "(II)Z" } : Jvm.MethodName) ({ cls := "LoafFall$Row", name := "hasSpan", desc := "(II)Z" } : Jvm.MethodName)) ∈ a_gw := a_gwI 436 (by decide +kernel) rfl
theorem tw_437 : (Cond.code ({ cls := "LoafFall$Row", name := "hasSpan", desc := "(II)Z" } : Jvm.MethodName) prog_10_method_4_code (3 : Nat) (Option.some Jvm.ClassFile.FieldType.boolean)) ∈ a_gw := a_gwI 437 (by decide +kernel) rfl
theorem tw_438 : (Cond.methodLink "LoafFall" (135 : Nat) ({ cls := "java/lang/System", name := "arraycopy", desc := "(Ljava/lang/Object;ILjava/lang/Object;II)V" } : Jvm.MethodName)) ∈ a_gw := a_gwI 438 (by decide +kernel) rfl
theorem tw_439 : (Cond.static ({ cls := "java/lang/System", name := "arraycopy", desc := "(Ljava/lang/Object;ILjava/lang/Object;II)V" } : Jvm.MethodName)) ∈ a_gw := a_gwI 439 (by decide +kernel) rfl
theorem tw_440 : (Cond.native ({ cls := "java/lang/System", name := "arraycopy", desc := "(Ljava/lang/Object;ILjava/lang/Object;II)V" } : Jvm.MethodName)) ∈ a_gw := a_gwI 440 (by decide +kernel) rfl
theorem tw_441 : (Cond.methodLink "LoafFallLaw" (37 : Nat) ({ cls := "LoafFall", name := "mean", desc := "(I)I" } : Jvm.MethodName)) ∈ a_gw := a_gwI 441 (by decide +kernel) rfl
theorem tw_442 : (Cond.instanceMethod ({ cls := "LoafFall", name := "mean", desc := "(I)I" } : Jvm.MethodName)) ∈ a_gw := a_gwI 442 (by decide +kernel) rfl
theorem tw_443 : (Cond.selects "LoafFall" ({ cls := "LoafFall", name := "mean", desc := "(I)I" } : Jvm.MethodName) ({ cls := "LoafFall", name := "mean", desc := "(I)I" } : Jvm.MethodName)) ∈ a_gw := a_gwI 443 (by decide +kernel) rfl
theorem tw_444 : (Cond.code ({ cls := "LoafFall", name := "mean", desc := "(I)I" } : Jvm.MethodName) prog_1_method_7_code (6 : Nat) (Option.some Jvm.ClassFile.FieldType.int)) ∈ a_gw := a_gwI 444 (by decide +kernel) rfl
theorem tw_445 : (Cond.methodLink "LoafFallLaw" (41 : Nat) ({ cls := "LoafFall", name := "text", desc := "(II)I" } : Jvm.MethodName)) ∈ a_gw := a_gwI 445 (by decide +kernel) rfl
theorem tw_446 : (Cond.instanceMethod ({ cls := "LoafFall", name := "text", desc := "(II)I" } : Jvm.MethodName)) ∈ a_gw := a_gwI 446 (by decide +kernel) rfl
theorem tw_447 : (Cond.selects "LoafFall" ({ cls := "LoafFall", name := "text", desc := "(II)I" } : Jvm.MethodName) ({ cls := "LoafFall", name := "text", desc := "(II)I" } : Jvm.MethodName)) ∈ a_gw := a_gwI 447 (by decide +kernel) rfl
theorem tw_448 : (Cond.code ({ cls := "LoafFall", name := "text", desc := "(II)I" } : Jvm.MethodName) prog_1_method_8_code (3 : Nat) (Option.some Jvm.ClassFile.FieldType.int)) ∈ a_gw := a_gwI 448 (by decide +kernel) rfl
theorem tw_449 : (Cond.methodLink "LoafFall" (141 : Nat) ({ cls := "LoafFall", name := "isText", desc := "(I)Z" } : Jvm.MethodName)) ∈ a_gw := a_gwI 449 (by decide +kernel) rfl
theorem tw_450 : (Cond.static ({ cls := "LoafFall", name := "isText", desc := "(I)Z" } : Jvm.MethodName)) ∈ a_gw := a_gwI 450 (by decide +kernel) rfl
theorem tw_451 : (Cond.code ({ cls := "LoafFall", name := "isText", desc := "(I)Z" } : Jvm.MethodName) prog_1_method_50_code (1 : Nat) (Option.some Jvm.ClassFile.FieldType.boolean)) ∈ a_gw := a_gwI 451 (by decide +kernel) rfl
theorem tw_452 : (Cond.methodLink "LoafFall" (144 : Nat) ({ cls := "LoafFall$Text", name := "renew", desc := "(I)V" } : Jvm.MethodName)) ∈ a_gw := a_gwI 452 (by decide +kernel) rfl
theorem tw_453 : (Cond.instanceMethod ({ cls := "LoafFall$Text", name := "renew", desc := "(I)V" } : Jvm.MethodName)) ∈ a_gw := a_gwI 453 (by decide +kernel) rfl
theorem tw_454 : (Cond.selects "LoafFall$Text" ({ cls := "LoafFall$Text", name := "renew", desc := "(I)V" } : Jvm.MethodName) ({ cls := "LoafFall$Text", name := "renew", desc := "(I)V" } : Jvm.MethodName)) ∈ a_gw := a_gwI 454 (by decide +kernel) rfl
theorem tw_455 : (Cond.code ({ cls := "LoafFall$Text", name := "renew", desc := "(I)V" } : Jvm.MethodName) prog_12_method_4_code (3 : Nat) (Option.none : Option Jvm.ClassFile.FieldType)) ∈ a_gw := a_gwI 455 (by decide +kernel) rfl
theorem tw_456 : (Cond.methodLink "LoafFall$Text" (19 : Nat) ({ cls := "java/lang/Math", name := "min", desc := "(II)I" } : Jvm.MethodName)) ∈ a_gw := a_gwI 456 (by decide +kernel) rfl
theorem tw_457 : (Cond.methodLink "LoafFall$Text" (25 : Nat) ({ cls := "java/lang/Math", name := "max", desc := "(II)I" } : Jvm.MethodName)) ∈ a_gw := a_gwI 457 (by decide +kernel) rfl
theorem tw_458 : (Cond.methodLink "LoafFallLaw" (45 : Nat) ({ cls := "LoafFall", name := "put", desc := "(III)I" } : Jvm.MethodName)) ∈ a_gw := a_gwI 458 (by decide +kernel) rfl
theorem tw_459 : (Cond.instanceMethod ({ cls := "LoafFall", name := "put", desc := "(III)I" } : Jvm.MethodName)) ∈ a_gw := a_gwI 459 (by decide +kernel) rfl
theorem tw_460 : (Cond.selects "LoafFall" ({ cls := "LoafFall", name := "put", desc := "(III)I" } : Jvm.MethodName) ({ cls := "LoafFall", name := "put", desc := "(III)I" } : Jvm.MethodName)) ∈ a_gw := a_gwI 460 (by decide +kernel) rfl
theorem tw_461 : (Cond.code ({ cls := "LoafFall", name := "put", desc := "(III)I" } : Jvm.MethodName) prog_1_method_9_code (5 : Nat) (Option.some Jvm.ClassFile.FieldType.int)) ∈ a_gw := a_gwI 461 (by decide +kernel) rfl
theorem tw_462 : (Cond.methodLink "LoafFall" (145 : Nat) ({ cls := "LoafFall$Text", name := "isThere", desc := "()Z" } : Jvm.MethodName)) ∈ a_gw := a_gwI 462 (by decide +kernel) rfl
theorem tw_463 : (Cond.instanceMethod ({ cls := "LoafFall$Text", name := "isThere", desc := "()Z" } : Jvm.MethodName)) ∈ a_gw := a_gwI 463 (by decide +kernel) rfl
theorem tw_464 : (Cond.selects "LoafFall$Text" ({ cls := "LoafFall$Text", name := "isThere", desc := "()Z" } : Jvm.MethodName) ({ cls := "LoafFall$Text", name := "isThere", desc := "()Z" } : Jvm.MethodName)) ∈ a_gw := a_gwI 464 (by decide +kernel) rfl
theorem tw_465 : (Cond.code ({ cls := "LoafFall$Text", name := "isThere", desc := "()Z" } : Jvm.MethodName) prog_12_method_2_code (1 : Nat) (Option.some Jvm.ClassFile.FieldType.boolean)) ∈ a_gw := a_gwI 465 (by decide +kernel) rfl
theorem tw_466 : (Cond.methodLink "LoafFall" (146 : Nat) ({ cls := "LoafFall$Text", name := "has", desc := "(I)Z" } : Jvm.MethodName)) ∈ a_gw := a_gwI 466 (by decide +kernel) rfl
theorem tw_467 : (Cond.instanceMethod ({ cls := "LoafFall$Text", name := "has", desc := "(I)Z" } : Jvm.MethodName)) ∈ a_gw := a_gwI 467 (by decide +kernel) rfl
theorem tw_468 : (Cond.selects "LoafFall$Text" ({ cls := "LoafFall$Text", name := "has", desc := "(I)Z" } : Jvm.MethodName) ({ cls := "LoafFall$Text", name := "has", desc := "(I)Z" } : Jvm.MethodName)) ∈ a_gw := a_gwI 468 (by decide +kernel) rfl
theorem tw_469 : (Cond.code ({ cls := "LoafFall$Text", name := "has", desc := "(I)Z" } : Jvm.MethodName) prog_12_method_3_code (2 : Nat) (Option.some Jvm.ClassFile.FieldType.boolean)) ∈ a_gw := a_gwI 469 (by decide +kernel) rfl
theorem tw_470 : (Cond.methodLink "LoafFallLaw" (49 : Nat) ({ cls := "LoafFall", name := "fault", desc := "(IZ)I" } : Jvm.MethodName)) ∈ a_gw := a_gwI 470 (by decide +kernel) rfl
theorem tw_471 : (Cond.instanceMethod ({ cls := "LoafFall", name := "fault", desc := "(IZ)I" } : Jvm.MethodName)) ∈ a_gw := a_gwI 471 (by decide +kernel) rfl
theorem tw_472 : (Cond.selects "LoafFall" ({ cls := "LoafFall", name := "fault", desc := "(IZ)I" } : Jvm.MethodName) ({ cls := "LoafFall", name := "fault", desc := "(IZ)I" } : Jvm.MethodName)) ∈ a_gw := a_gwI 472 (by decide +kernel) rfl
theorem tw_473 : (Cond.code ({ cls := "LoafFall", name := "fault", desc := "(IZ)I" } : Jvm.MethodName) prog_1_method_10_code (3 : Nat) (Option.some Jvm.ClassFile.FieldType.int)) ∈ a_gw := a_gwI 473 (by decide +kernel) rfl
theorem tw_474 : (Cond.methodLink "LoafFall" (153 : Nat) ({ cls := "LoafFall$Reader", name := "readDoing", desc := "(LLoafFall$Text;)I" } : Jvm.MethodName)) ∈ a_gw := a_gwI 474 (by decide +kernel) rfl
theorem tw_475 : (Cond.instanceMethod ({ cls := "LoafFall$Reader", name := "readDoing", desc := "(LLoafFall$Text;)I" } : Jvm.MethodName)) ∈ a_gw := a_gwI 475 (by decide +kernel) rfl
theorem tw_476 : (Cond.selects "LoafFall$Reader" ({ cls := "LoafFall$Reader", name := "readDoing", desc := "(LLoafFall$Text;)I" } : Jvm.MethodName) ({ cls := "LoafFall$Reader", name := "readDoing", desc := "(LLoafFall$Text;)I" } : Jvm.MethodName)) ∈ a_gw := a_gwI 476 (by decide +kernel) rfl
theorem tw_477 : (Cond.code ({ cls := "LoafFall$Reader", name := "readDoing", desc := "(LLoafFall$Text;)I" } : Jvm.MethodName) prog_9_method_3_code (3 : Nat) (Option.some Jvm.ClassFile.FieldType.int)) ∈ a_gw := a_gwI 477 (by decide +kernel) rfl
theorem tw_478 : (Cond.methodLink "LoafFall$Reader" (40 : Nat) ({ cls := "LoafFall$Text", name := "signAt", desc := "(I)I" } : Jvm.MethodName)) ∈ a_gw := a_gwI 478 (by decide +kernel) rfl
theorem tw_479 : (Cond.instanceMethod ({ cls := "LoafFall$Text", name := "signAt", desc := "(I)I" } : Jvm.MethodName)) ∈ a_gw := a_gwI 479 (by decide +kernel) rfl
theorem tw_480 : (Cond.selects "LoafFall$Text" ({ cls := "LoafFall$Text", name := "signAt", desc := "(I)I" } : Jvm.MethodName) ({ cls := "LoafFall$Text", name := "signAt", desc := "(I)I" } : Jvm.MethodName)) ∈ a_gw := a_gwI 480 (by decide +kernel) rfl
theorem tw_481 : (Cond.code ({ cls := "LoafFall$Text", name := "signAt", desc := "(I)I" } : Jvm.MethodName) prog_12_method_5_code (2 : Nat) (Option.some Jvm.ClassFile.FieldType.int)) ∈ a_gw := a_gwI 481 (by decide +kernel) rfl
theorem tw_482 : (Cond.methodLink "LoafFall$Reader" (53 : Nat) ({ cls := "LoafFall$Reader", name := "readStep", desc := "(LLoafFall$Text;)Z" } : Jvm.MethodName)) ∈ a_gw := a_gwI 482 (by decide +kernel) rfl
theorem tw_484 : (Cond.instanceMethod ({ cls := "LoafFall$Reader", name := "readStep", desc := "(LLoafFall$Text;)Z" } : Jvm.MethodName)) ∈ a_gw := a_gwI 484 (by decide +kernel) rfl
theorem tw_485 : (Cond.code ({ cls := "LoafFall$Reader", name := "readStep", desc := "(LLoafFall$Text;)Z" } : Jvm.MethodName) prog_9_method_5_code (3 : Nat) (Option.some Jvm.ClassFile.FieldType.boolean)) ∈ a_gw := a_gwI 485 (by decide +kernel) rfl
theorem tw_488 : (Cond.methodLink "LoafFall$Reader" (61 : Nat) ({ cls := "LoafFall$Reader", name := "indexOf", desc := "(I[I)I" } : Jvm.MethodName)) ∈ a_gw := a_gwI 488 (by decide +kernel) rfl
theorem tw_489 : (Cond.static ({ cls := "LoafFall$Reader", name := "indexOf", desc := "(I[I)I" } : Jvm.MethodName)) ∈ a_gw := a_gwI 489 (by decide +kernel) rfl
theorem tw_490 : (Cond.code ({ cls := "LoafFall$Reader", name := "indexOf", desc := "(I[I)I" } : Jvm.MethodName) prog_9_method_7_code (3 : Nat) (Option.some Jvm.ClassFile.FieldType.int)) ∈ a_gw := a_gwI 490 (by decide +kernel) rfl
theorem tw_491 : (Cond.methodLink "LoafFall$Reader" (84 : Nat) ({ cls := "LoafFall$Reader", name := "readLasting", desc := "(LLoafFall$Text;I)Z" } : Jvm.MethodName)) ∈ a_gw := a_gwI 491 (by decide +kernel) rfl
theorem tw_493 : (Cond.instanceMethod ({ cls := "LoafFall$Reader", name := "readLasting", desc := "(LLoafFall$Text;I)Z" } : Jvm.MethodName)) ∈ a_gw := a_gwI 493 (by decide +kernel) rfl
theorem tw_494 : (Cond.code ({ cls := "LoafFall$Reader", name := "readLasting", desc := "(LLoafFall$Text;I)Z" } : Jvm.MethodName) prog_9_method_6_code (6 : Nat) (Option.some Jvm.ClassFile.FieldType.boolean)) ∈ a_gw := a_gwI 494 (by decide +kernel) rfl
theorem tw_495 : (Cond.methodLink "LoafFall$Reader" (92 : Nat) ({ cls := "LoafFall$Text", name := "isFigure", desc := "(I)Z" } : Jvm.MethodName)) ∈ a_gw := a_gwI 495 (by decide +kernel) rfl
theorem tw_496 : (Cond.instanceMethod ({ cls := "LoafFall$Text", name := "isFigure", desc := "(I)Z" } : Jvm.MethodName)) ∈ a_gw := a_gwI 496 (by decide +kernel) rfl
theorem tw_497 : (Cond.selects "LoafFall$Text" ({ cls := "LoafFall$Text", name := "isFigure", desc := "(I)Z" } : Jvm.MethodName) ({ cls := "LoafFall$Text", name := "isFigure", desc := "(I)Z" } : Jvm.MethodName)) ∈ a_gw := a_gwI 497 (by decide +kernel) rfl
theorem tw_498 : (Cond.code ({ cls := "LoafFall$Text", name := "isFigure", desc := "(I)Z" } : Jvm.MethodName) prog_12_method_6_code (3 : Nat) (Option.some Jvm.ClassFile.FieldType.boolean)) ∈ a_gw := a_gwI 498 (by decide +kernel) rfl
theorem tw_499 : (Cond.methodLink "LoafFall$Text" (28 : Nat) ({ cls := "LoafFall$Text", name := "signAt", desc := "(I)I" } : Jvm.MethodName)) ∈ a_gw := a_gwI 499 (by decide +kernel) rfl
theorem tw_500 : (Cond.methodLink "LoafFall$Reader" (68 : Nat) ({ cls := "LoafFall$Text", name := "numberFrom", desc := "(II)I" } : Jvm.MethodName)) ∈ a_gw := a_gwI 500 (by decide +kernel) rfl
theorem tw_501 : (Cond.instanceMethod ({ cls := "LoafFall$Text", name := "numberFrom", desc := "(II)I" } : Jvm.MethodName)) ∈ a_gw := a_gwI 501 (by decide +kernel) rfl
theorem tw_502 : (Cond.selects "LoafFall$Text" ({ cls := "LoafFall$Text", name := "numberFrom", desc := "(II)I" } : Jvm.MethodName) ({ cls := "LoafFall$Text", name := "numberFrom", desc := "(II)I" } : Jvm.MethodName)) ∈ a_gw := a_gwI 502 (by decide +kernel) rfl
theorem tw_503 : (Cond.code ({ cls := "LoafFall$Text", name := "numberFrom", desc := "(II)I" } : Jvm.MethodName) prog_12_method_8_code (5 : Nat) (Option.some Jvm.ClassFile.FieldType.int)) ∈ a_gw := a_gwI 503 (by decide +kernel) rfl
theorem tw_504 : (Cond.methodLink "LoafFall$Reader" (65 : Nat) ({ cls := "LoafFall$Text", name := "figuresFrom", desc := "(I)I" } : Jvm.MethodName)) ∈ a_gw := a_gwI 504 (by decide +kernel) rfl
theorem tw_505 : (Cond.instanceMethod ({ cls := "LoafFall$Text", name := "figuresFrom", desc := "(I)I" } : Jvm.MethodName)) ∈ a_gw := a_gwI 505 (by decide +kernel) rfl
theorem tw_506 : (Cond.selects "LoafFall$Text" ({ cls := "LoafFall$Text", name := "figuresFrom", desc := "(I)I" } : Jvm.MethodName) ({ cls := "LoafFall$Text", name := "figuresFrom", desc := "(I)I" } : Jvm.MethodName)) ∈ a_gw := a_gwI 506 (by decide +kernel) rfl
theorem tw_507 : (Cond.code ({ cls := "LoafFall$Text", name := "figuresFrom", desc := "(I)I" } : Jvm.MethodName) prog_12_method_7_code (2 : Nat) (Option.some Jvm.ClassFile.FieldType.int)) ∈ a_gw := a_gwI 507 (by decide +kernel) rfl
theorem tw_508 : (Cond.methodLink "LoafFall$Text" (32 : Nat) ({ cls := "LoafFall$Text", name := "isFigure", desc := "(I)Z" } : Jvm.MethodName)) ∈ a_gw := a_gwI 508 (by decide +kernel) rfl
theorem tw_509 : (Cond.methodLink "LoafFall$Reader" (96 : Nat) ({ cls := "LoafFall$Doing", name := "turnsInAll", desc := "()I" } : Jvm.MethodName)) ∈ a_gw := a_gwI 509 (by decide +kernel) rfl
theorem tw_510 : (Cond.instanceMethod ({ cls := "LoafFall$Doing", name := "turnsInAll", desc := "()I" } : Jvm.MethodName)) ∈ a_gw := a_gwI 510 (by decide +kernel) rfl
theorem tw_511 : (Cond.selects "LoafFall$Doing" ({ cls := "LoafFall$Doing", name := "turnsInAll", desc := "()I" } : Jvm.MethodName) ({ cls := "LoafFall$Doing", name := "turnsInAll", desc := "()I" } : Jvm.MethodName)) ∈ a_gw := a_gwI 511 (by decide +kernel) rfl
theorem tw_512 : (Cond.code ({ cls := "LoafFall$Doing", name := "turnsInAll", desc := "()I" } : Jvm.MethodName) prog_3_method_4_code (3 : Nat) (Option.some Jvm.ClassFile.FieldType.int)) ∈ a_gw := a_gwI 512 (by decide +kernel) rfl
theorem tw_513 : (Cond.methodLink "LoafFall$Reader" (88 : Nat) ({ cls := "LoafFall$Doing", name := "add", desc := "(III)Z" } : Jvm.MethodName)) ∈ a_gw := a_gwI 513 (by decide +kernel) rfl
theorem tw_514 : (Cond.instanceMethod ({ cls := "LoafFall$Doing", name := "add", desc := "(III)Z" } : Jvm.MethodName)) ∈ a_gw := a_gwI 514 (by decide +kernel) rfl
theorem tw_515 : (Cond.selects "LoafFall$Doing" ({ cls := "LoafFall$Doing", name := "add", desc := "(III)Z" } : Jvm.MethodName) ({ cls := "LoafFall$Doing", name := "add", desc := "(III)Z" } : Jvm.MethodName)) ∈ a_gw := a_gwI 515 (by decide +kernel) rfl
theorem tw_516 : (Cond.code ({ cls := "LoafFall$Doing", name := "add", desc := "(III)Z" } : Jvm.MethodName) prog_3_method_2_code (4 : Nat) (Option.some Jvm.ClassFile.FieldType.boolean)) ∈ a_gw := a_gwI 516 (by decide +kernel) rfl
theorem tw_517 : (Cond.methodLink "LoafFall" (157 : Nat) ({ cls := "LoafFall$Reader", name := "readFlour", desc := "(LLoafFall$Text;)I" } : Jvm.MethodName)) ∈ a_gw := a_gwI 517 (by decide +kernel) rfl
theorem tw_518 : (Cond.instanceMethod ({ cls := "LoafFall$Reader", name := "readFlour", desc := "(LLoafFall$Text;)I" } : Jvm.MethodName)) ∈ a_gw := a_gwI 518 (by decide +kernel) rfl
theorem tw_519 : (Cond.selects "LoafFall$Reader" ({ cls := "LoafFall$Reader", name := "readFlour", desc := "(LLoafFall$Text;)I" } : Jvm.MethodName) ({ cls := "LoafFall$Reader", name := "readFlour", desc := "(LLoafFall$Text;)I" } : Jvm.MethodName)) ∈ a_gw := a_gwI 519 (by decide +kernel) rfl
theorem tw_520 : (Cond.code ({ cls := "LoafFall$Reader", name := "readFlour", desc := "(LLoafFall$Text;)I" } : Jvm.MethodName) prog_9_method_2_code (3 : Nat) (Option.some Jvm.ClassFile.FieldType.int)) ∈ a_gw := a_gwI 520 (by decide +kernel) rfl
theorem tw_521 : (Cond.methodLink "LoafFall$Reader" (25 : Nat) ({ cls := "LoafFall$Flour", name := "beUsual", desc := "()V" } : Jvm.MethodName)) ∈ a_gw := a_gwI 521 (by decide +kernel) rfl
theorem tw_522 : (Cond.instanceMethod ({ cls := "LoafFall$Flour", name := "beUsual", desc := "()V" } : Jvm.MethodName)) ∈ a_gw := a_gwI 522 (by decide +kernel) rfl
theorem tw_523 : (Cond.selects "LoafFall$Flour" ({ cls := "LoafFall$Flour", name := "beUsual", desc := "()V" } : Jvm.MethodName) ({ cls := "LoafFall$Flour", name := "beUsual", desc := "()V" } : Jvm.MethodName)) ∈ a_gw := a_gwI 523 (by decide +kernel) rfl
theorem tw_524 : (Cond.code ({ cls := "LoafFall$Flour", name := "beUsual", desc := "()V" } : Jvm.MethodName) prog_6_method_2_code (2 : Nat) (Option.none : Option Jvm.ClassFile.FieldType)) ∈ a_gw := a_gwI 524 (by decide +kernel) rfl
theorem tw_527 : (Cond.methodLink "LoafFall$Reader" (44 : Nat) ({ cls := "LoafFall$Reader", name := "readItem", desc := "(LLoafFall$Text;)Z" } : Jvm.MethodName)) ∈ a_gw := a_gwI 527 (by decide +kernel) rfl
theorem tw_529 : (Cond.instanceMethod ({ cls := "LoafFall$Reader", name := "readItem", desc := "(LLoafFall$Text;)Z" } : Jvm.MethodName)) ∈ a_gw := a_gwI 529 (by decide +kernel) rfl
theorem tw_530 : (Cond.code ({ cls := "LoafFall$Reader", name := "readItem", desc := "(LLoafFall$Text;)Z" } : Jvm.MethodName) prog_9_method_4_code (5 : Nat) (Option.some Jvm.ClassFile.FieldType.boolean)) ∈ a_gw := a_gwI 530 (by decide +kernel) rfl
theorem tw_537 : (Cond.methodLink "LoafFallLaw" (54 : Nat) ({ cls := "LoafFall", name := "flour", desc := "(II)I" } : Jvm.MethodName)) ∈ a_gw := a_gwI 537 (by decide +kernel) rfl
theorem tw_538 : (Cond.instanceMethod ({ cls := "LoafFall", name := "flour", desc := "(II)I" } : Jvm.MethodName)) ∈ a_gw := a_gwI 538 (by decide +kernel) rfl
theorem tw_539 : (Cond.selects "LoafFall" ({ cls := "LoafFall", name := "flour", desc := "(II)I" } : Jvm.MethodName) ({ cls := "LoafFall", name := "flour", desc := "(II)I" } : Jvm.MethodName)) ∈ a_gw := a_gwI 539 (by decide +kernel) rfl
theorem tw_540 : (Cond.code ({ cls := "LoafFall", name := "flour", desc := "(II)I" } : Jvm.MethodName) prog_1_method_11_code (3 : Nat) (Option.some Jvm.ClassFile.FieldType.int)) ∈ a_gw := a_gwI 540 (by decide +kernel) rfl
theorem tw_541 : (Cond.methodLink "LoafFall" (160 : Nat) ({ cls := "LoafFall", name := "isFlour", desc := "(I)Z" } : Jvm.MethodName)) ∈ a_gw := a_gwI 541 (by decide +kernel) rfl
theorem tw_542 : (Cond.static ({ cls := "LoafFall", name := "isFlour", desc := "(I)Z" } : Jvm.MethodName)) ∈ a_gw := a_gwI 542 (by decide +kernel) rfl
theorem tw_543 : (Cond.code ({ cls := "LoafFall", name := "isFlour", desc := "(I)Z" } : Jvm.MethodName) prog_1_method_51_code (1 : Nat) (Option.some Jvm.ClassFile.FieldType.boolean)) ∈ a_gw := a_gwI 543 (by decide +kernel) rfl
theorem tw_544 : (Cond.methodLink "LoafFall" (166 : Nat) ({ cls := "LoafFall$Flour", name := "take", desc := "(LLoafFall$Flour;)V" } : Jvm.MethodName)) ∈ a_gw := a_gwI 544 (by decide +kernel) rfl
theorem tw_545 : (Cond.instanceMethod ({ cls := "LoafFall$Flour", name := "take", desc := "(LLoafFall$Flour;)V" } : Jvm.MethodName)) ∈ a_gw := a_gwI 545 (by decide +kernel) rfl
theorem tw_546 : (Cond.selects "LoafFall$Flour" ({ cls := "LoafFall$Flour", name := "take", desc := "(LLoafFall$Flour;)V" } : Jvm.MethodName) ({ cls := "LoafFall$Flour", name := "take", desc := "(LLoafFall$Flour;)V" } : Jvm.MethodName)) ∈ a_gw := a_gwI 546 (by decide +kernel) rfl
theorem tw_547 : (Cond.code ({ cls := "LoafFall$Flour", name := "take", desc := "(LLoafFall$Flour;)V" } : Jvm.MethodName) prog_6_method_3_code (2 : Nat) (Option.none : Option Jvm.ClassFile.FieldType)) ∈ a_gw := a_gwI 547 (by decide +kernel) rfl
theorem tw_548 : (Cond.methodLink "LoafFall$Flour" (18 : Nat) ({ cls := "java/lang/System", name := "arraycopy", desc := "(Ljava/lang/Object;ILjava/lang/Object;II)V" } : Jvm.MethodName)) ∈ a_gw := a_gwI 548 (by decide +kernel) rfl
theorem tw_549 : (Cond.methodLink "LoafFallLaw" (58 : Nat) ({ cls := "LoafFall", name := "doing", desc := "(II)I" } : Jvm.MethodName)) ∈ a_gw := a_gwI 549 (by decide +kernel) rfl
theorem tw_550 : (Cond.instanceMethod ({ cls := "LoafFall", name := "doing", desc := "(II)I" } : Jvm.MethodName)) ∈ a_gw := a_gwI 550 (by decide +kernel) rfl
theorem tw_551 : (Cond.selects "LoafFall" ({ cls := "LoafFall", name := "doing", desc := "(II)I" } : Jvm.MethodName) ({ cls := "LoafFall", name := "doing", desc := "(II)I" } : Jvm.MethodName)) ∈ a_gw := a_gwI 551 (by decide +kernel) rfl
theorem tw_552 : (Cond.code ({ cls := "LoafFall", name := "doing", desc := "(II)I" } : Jvm.MethodName) prog_1_method_12_code (3 : Nat) (Option.some Jvm.ClassFile.FieldType.int)) ∈ a_gw := a_gwI 552 (by decide +kernel) rfl
theorem tw_553 : (Cond.methodLink "LoafFall" (173 : Nat) ({ cls := "LoafFall", name := "isDoing", desc := "(I)Z" } : Jvm.MethodName)) ∈ a_gw := a_gwI 553 (by decide +kernel) rfl
theorem tw_554 : (Cond.static ({ cls := "LoafFall", name := "isDoing", desc := "(I)Z" } : Jvm.MethodName)) ∈ a_gw := a_gwI 554 (by decide +kernel) rfl
theorem tw_555 : (Cond.code ({ cls := "LoafFall", name := "isDoing", desc := "(I)Z" } : Jvm.MethodName) prog_1_method_52_code (1 : Nat) (Option.some Jvm.ClassFile.FieldType.boolean)) ∈ a_gw := a_gwI 555 (by decide +kernel) rfl
theorem tw_556 : (Cond.methodLink "LoafFall" (179 : Nat) ({ cls := "LoafFall$Doing", name := "take", desc := "(LLoafFall$Doing;)V" } : Jvm.MethodName)) ∈ a_gw := a_gwI 556 (by decide +kernel) rfl
theorem tw_557 : (Cond.instanceMethod ({ cls := "LoafFall$Doing", name := "take", desc := "(LLoafFall$Doing;)V" } : Jvm.MethodName)) ∈ a_gw := a_gwI 557 (by decide +kernel) rfl
theorem tw_558 : (Cond.selects "LoafFall$Doing" ({ cls := "LoafFall$Doing", name := "take", desc := "(LLoafFall$Doing;)V" } : Jvm.MethodName) ({ cls := "LoafFall$Doing", name := "take", desc := "(LLoafFall$Doing;)V" } : Jvm.MethodName)) ∈ a_gw := a_gwI 558 (by decide +kernel) rfl
theorem tw_559 : (Cond.code ({ cls := "LoafFall$Doing", name := "take", desc := "(LLoafFall$Doing;)V" } : Jvm.MethodName) prog_3_method_3_code (2 : Nat) (Option.none : Option Jvm.ClassFile.FieldType)) ∈ a_gw := a_gwI 559 (by decide +kernel) rfl
theorem tw_560 : (Cond.methodLink "LoafFall$Doing" (25 : Nat) ({ cls := "java/lang/System", name := "arraycopy", desc := "(Ljava/lang/Object;ILjava/lang/Object;II)V" } : Jvm.MethodName)) ∈ a_gw := a_gwI 560 (by decide +kernel) rfl
theorem tw_561 : (Cond.methodLink "LoafFallLaw" (62 : Nat) ({ cls := "LoafFall", name := "about", desc := "(II)I" } : Jvm.MethodName)) ∈ a_gw := a_gwI 561 (by decide +kernel) rfl
theorem tw_562 : (Cond.instanceMethod ({ cls := "LoafFall", name := "about", desc := "(II)I" } : Jvm.MethodName)) ∈ a_gw := a_gwI 562 (by decide +kernel) rfl
theorem tw_563 : (Cond.selects "LoafFall" ({ cls := "LoafFall", name := "about", desc := "(II)I" } : Jvm.MethodName) ({ cls := "LoafFall", name := "about", desc := "(II)I" } : Jvm.MethodName)) ∈ a_gw := a_gwI 563 (by decide +kernel) rfl
theorem tw_564 : (Cond.code ({ cls := "LoafFall", name := "about", desc := "(II)I" } : Jvm.MethodName) prog_1_method_13_code (3 : Nat) (Option.some Jvm.ClassFile.FieldType.int)) ∈ a_gw := a_gwI 564 (by decide +kernel) rfl
theorem tw_565 : (Cond.methodLink "LoafFallLaw" (66 : Nat) ({ cls := "LoafFall", name := "step", desc := "(II)I" } : Jvm.MethodName)) ∈ a_gw := a_gwI 565 (by decide +kernel) rfl
