theorem tw_1046 : (Cond.fieldLink "LoafFallModel" (39 : Nat) "LoafFallModel" "stepMany" "[I") ∈ a_gw := a_gwI 1046 (by decide +kernel) rfl
theorem tw_1047 : (Cond.fieldLink "LoafFallModel" (42 : Nat) "LoafFallModel" "steps" "[I") ∈ a_gw := a_gwI 1047 (by decide +kernel) rfl
theorem tw_1048 : (Cond.fieldLink "LoafFallModel" (114 : Nat) "LoafFallModel" "readAt" "I") ∈ a_gw := a_gwI 1048 (by decide +kernel) rfl
theorem tw_1049 : (Cond.fieldLink "LoafFallModel" (120 : Nat) "LoafFallModel" "readNumber" "I") ∈ a_gw := a_gwI 1049 (by decide +kernel) rfl
theorem tw_1050 : (Cond.fieldLink "LoafFallModel" (123 : Nat) "LoafFallModel" "readMany" "I") ∈ a_gw := a_gwI 1050 (by decide +kernel) rfl
theorem tw_1051 : (Cond.fieldLink "LoafFallModel" (139 : Nat) "LoafFallModel" "readTurns" "I") ∈ a_gw := a_gwI 1051 (by decide +kernel) rfl
theorem tw_1052 : (Cond.fieldLink "LoafFallModel" (45 : Nat) "LoafFallModel" "readFlour" "[I") ∈ a_gw := a_gwI 1052 (by decide +kernel) rfl
theorem tw_1053 : (Cond.fieldLink "LoafFallModel" (48 : Nat) "LoafFallModel" "readSteps" "[I") ∈ a_gw := a_gwI 1053 (by decide +kernel) rfl
theorem tw_1054 : (Cond.fieldLink "LoafFallModel" (51 : Nat) "LoafFallModel" "isLoaf" "[Z") ∈ a_gw := a_gwI 1054 (by decide +kernel) rfl
theorem tw_1055 : (Cond.fieldLink "LoafFallModel" (54 : Nat) "LoafFallModel" "loaves" "[I") ∈ a_gw := a_gwI 1055 (by decide +kernel) rfl
theorem tw_1056 : (Cond.fieldLink "LoafFallModel" (157 : Nat) "LoafFallModel" "b" "I") ∈ a_gw := a_gwI 1056 (by decide +kernel) rfl
theorem tw_1057 : (Cond.fieldLink "LoafFallModel" (57 : Nat) "LoafFallModel" "heats" "[I") ∈ a_gw := a_gwI 1057 (by decide +kernel) rfl
theorem tw_1058 : (Cond.fieldLink "LoafFallModel" (60 : Nat) "LoafFallModel" "part" "[I") ∈ a_gw := a_gwI 1058 (by decide +kernel) rfl
theorem tw_1059 : (Cond.fieldLink "LoafFallModel" (63 : Nat) "LoafFallModel" "pairOff" "[I") ∈ a_gw := a_gwI 1059 (by decide +kernel) rfl
theorem tw_1060 : (Cond.fieldLink "LoafFallModel" (66 : Nat) "LoafFallModel" "kept" "[I") ∈ a_gw := a_gwI 1060 (by decide +kernel) rfl
theorem tw_1061 : (Cond.fieldLink "LoafFallModel" (310 : Nat) "LoafFallModel" "slipMany" "I") ∈ a_gw := a_gwI 1061 (by decide +kernel) rfl
theorem tw_1062 : (Cond.fieldLink "LoafFallModel" (69 : Nat) "LoafFallModel" "slips" "[I") ∈ a_gw := a_gwI 1062 (by decide +kernel) rfl
theorem tw_1063 : (Cond.fieldLink "LoafFallModel" (72 : Nat) "LoafFallModel" "lawOff" "[I") ∈ a_gw := a_gwI 1063 (by decide +kernel) rfl
theorem tw_1064 : (Cond.fieldLink "LoafFallModel" (75 : Nat) "LoafFallModel" "doingHeight" "[I") ∈ a_gw := a_gwI 1064 (by decide +kernel) rfl
theorem tw_1065 : (Cond.fieldLink "LoafFallModel" (330 : Nat) "LoafFallModel" "hash" "J") ∈ a_gw := a_gwI 1065 (by decide +kernel) rfl
theorem tw_1066 : (Cond.lays "LoafFallModel" "LoafFallModel" "latest" "I") ∈ a_gw := a_gwI 1066 (by decide +kernel) rfl
theorem tw_1068 : (Cond.laysFinal "LoafFallModel" "LoafFallModel" "came" "[I") ∈ a_gw := a_gwI 1068 (by decide +kernel) rfl
theorem tw_1070 : (Cond.lays "LoafFallModel" "LoafFallModel" "asked" "I") ∈ a_gw := a_gwI 1070 (by decide +kernel) rfl
theorem tw_1072 : (Cond.lays "LoafFallModel" "LoafFallModel" "upper" "J") ∈ a_gw := a_gwI 1072 (by decide +kernel) rfl
theorem tw_1074 : (Cond.lays "LoafFallModel" "LoafFallModel" "lower" "J") ∈ a_gw := a_gwI 1074 (by decide +kernel) rfl
theorem tw_1076 : (Cond.laysFinal "LoafFallModel" "LoafFallModel" "sizes" "[I") ∈ a_gw := a_gwI 1076 (by decide +kernel) rfl
theorem tw_1078 : (Cond.laysFinal "LoafFallModel" "LoafFallModel" "rows" "[I") ∈ a_gw := a_gwI 1078 (by decide +kernel) rfl
theorem tw_1080 : (Cond.laysFinal "LoafFallModel" "LoafFallModel" "copied" "[I") ∈ a_gw := a_gwI 1080 (by decide +kernel) rfl
theorem tw_1082 : (Cond.laysFinal "LoafFallModel" "LoafFallModel" "textSizes" "[I") ∈ a_gw := a_gwI 1082 (by decide +kernel) rfl
theorem tw_1084 : (Cond.laysFinal "LoafFallModel" "LoafFallModel" "bytes" "[B") ∈ a_gw := a_gwI 1084 (by decide +kernel) rfl
theorem tw_1086 : (Cond.laysFinal "LoafFallModel" "LoafFallModel" "isFlour" "[Z") ∈ a_gw := a_gwI 1086 (by decide +kernel) rfl
theorem tw_1088 : (Cond.laysFinal "LoafFallModel" "LoafFallModel" "flours" "[I") ∈ a_gw := a_gwI 1088 (by decide +kernel) rfl
theorem tw_1090 : (Cond.laysFinal "LoafFallModel" "LoafFallModel" "isDoing" "[Z") ∈ a_gw := a_gwI 1090 (by decide +kernel) rfl
theorem tw_1092 : (Cond.laysFinal "LoafFallModel" "LoafFallModel" "stepMany" "[I") ∈ a_gw := a_gwI 1092 (by decide +kernel) rfl
theorem tw_1094 : (Cond.laysFinal "LoafFallModel" "LoafFallModel" "steps" "[I") ∈ a_gw := a_gwI 1094 (by decide +kernel) rfl
theorem tw_1096 : (Cond.lays "LoafFallModel" "LoafFallModel" "readAt" "I") ∈ a_gw := a_gwI 1096 (by decide +kernel) rfl
theorem tw_1098 : (Cond.lays "LoafFallModel" "LoafFallModel" "readNumber" "I") ∈ a_gw := a_gwI 1098 (by decide +kernel) rfl
theorem tw_1100 : (Cond.lays "LoafFallModel" "LoafFallModel" "readMany" "I") ∈ a_gw := a_gwI 1100 (by decide +kernel) rfl
theorem tw_1102 : (Cond.lays "LoafFallModel" "LoafFallModel" "readTurns" "I") ∈ a_gw := a_gwI 1102 (by decide +kernel) rfl
theorem tw_1104 : (Cond.laysFinal "LoafFallModel" "LoafFallModel" "readFlour" "[I") ∈ a_gw := a_gwI 1104 (by decide +kernel) rfl
theorem tw_1106 : (Cond.laysFinal "LoafFallModel" "LoafFallModel" "readSteps" "[I") ∈ a_gw := a_gwI 1106 (by decide +kernel) rfl
theorem tw_1108 : (Cond.laysFinal "LoafFallModel" "LoafFallModel" "isLoaf" "[Z") ∈ a_gw := a_gwI 1108 (by decide +kernel) rfl
theorem tw_1110 : (Cond.laysFinal "LoafFallModel" "LoafFallModel" "loaves" "[I") ∈ a_gw := a_gwI 1110 (by decide +kernel) rfl
theorem tw_1112 : (Cond.lays "LoafFallModel" "LoafFallModel" "b" "I") ∈ a_gw := a_gwI 1112 (by decide +kernel) rfl
theorem tw_1114 : (Cond.laysFinal "LoafFallModel" "LoafFallModel" "heats" "[I") ∈ a_gw := a_gwI 1114 (by decide +kernel) rfl
theorem tw_1116 : (Cond.laysFinal "LoafFallModel" "LoafFallModel" "part" "[I") ∈ a_gw := a_gwI 1116 (by decide +kernel) rfl
theorem tw_1118 : (Cond.laysFinal "LoafFallModel" "LoafFallModel" "pairOff" "[I") ∈ a_gw := a_gwI 1118 (by decide +kernel) rfl
theorem tw_1120 : (Cond.laysFinal "LoafFallModel" "LoafFallModel" "kept" "[I") ∈ a_gw := a_gwI 1120 (by decide +kernel) rfl
theorem tw_1122 : (Cond.lays "LoafFallModel" "LoafFallModel" "slipMany" "I") ∈ a_gw := a_gwI 1122 (by decide +kernel) rfl
theorem tw_1124 : (Cond.laysFinal "LoafFallModel" "LoafFallModel" "slips" "[I") ∈ a_gw := a_gwI 1124 (by decide +kernel) rfl
theorem tw_1126 : (Cond.laysFinal "LoafFallModel" "LoafFallModel" "lawOff" "[I") ∈ a_gw := a_gwI 1126 (by decide +kernel) rfl
theorem tw_1128 : (Cond.laysFinal "LoafFallModel" "LoafFallModel" "doingHeight" "[I") ∈ a_gw := a_gwI 1128 (by decide +kernel) rfl
theorem tw_1130 : (Cond.lays "LoafFallModel" "LoafFallModel" "hash" "J") ∈ a_gw := a_gwI 1130 (by decide +kernel) rfl
theorem tw_1133 : (Cond.methodLink "LoafFallLaw" (200 : Nat) ({ cls := "LoafFallModel", name := "finding", desc := "()I" } : Jvm.MethodName)) ∈ a_gw := a_gwI 1133 (by decide +kernel) rfl
theorem tw_1134 : (Cond.instanceMethod ({ cls := "LoafFallModel", name := "finding", desc := "()I" } : Jvm.MethodName)) ∈ a_gw := a_gwI 1134 (by decide +kernel) rfl
theorem tw_1135 : (Cond.selects "LoafFallModel" ({ cls := "LoafFallModel", name := "finding", desc := "()I" } : Jvm.MethodName) ({ cls := "LoafFallModel", name := "finding", desc := "()I" } : Jvm.MethodName)) ∈ a_gw := a_gwI 1135 (by decide +kernel) rfl
theorem tw_1136 : (Cond.code ({ cls := "LoafFallModel", name := "finding", desc := "()I" } : Jvm.MethodName) prog_14_method_7_code (1 : Nat) (Option.some Jvm.ClassFile.FieldType.int)) ∈ a_gw := a_gwI 1136 (by decide +kernel) rfl
theorem tw_1137 : (Cond.methodLink "LoafFallLaw" (204 : Nat) ({ cls := "LoafFallModel", name := "findings", desc := "(I)I" } : Jvm.MethodName)) ∈ a_gw := a_gwI 1137 (by decide +kernel) rfl
theorem tw_1138 : (Cond.instanceMethod ({ cls := "LoafFallModel", name := "findings", desc := "(I)I" } : Jvm.MethodName)) ∈ a_gw := a_gwI 1138 (by decide +kernel) rfl
theorem tw_1139 : (Cond.selects "LoafFallModel" ({ cls := "LoafFallModel", name := "findings", desc := "(I)I" } : Jvm.MethodName) ({ cls := "LoafFallModel", name := "findings", desc := "(I)I" } : Jvm.MethodName)) ∈ a_gw := a_gwI 1139 (by decide +kernel) rfl
theorem tw_1140 : (Cond.code ({ cls := "LoafFallModel", name := "findings", desc := "(I)I" } : Jvm.MethodName) prog_14_method_8_code (2 : Nat) (Option.some Jvm.ClassFile.FieldType.int)) ∈ a_gw := a_gwI 1140 (by decide +kernel) rfl
theorem tw_1141 : (Cond.methodLink "LoafFallModel" (86 : Nat) ({ cls := "LoafFallModel", name := "in", desc := "(III)Z" } : Jvm.MethodName)) ∈ a_gw := a_gwI 1141 (by decide +kernel) rfl
theorem tw_1142 : (Cond.static ({ cls := "LoafFallModel", name := "in", desc := "(III)Z" } : Jvm.MethodName)) ∈ a_gw := a_gwI 1142 (by decide +kernel) rfl
theorem tw_1143 : (Cond.code ({ cls := "LoafFallModel", name := "in", desc := "(III)Z" } : Jvm.MethodName) prog_14_method_2_code (3 : Nat) (Option.some Jvm.ClassFile.FieldType.boolean)) ∈ a_gw := a_gwI 1143 (by decide +kernel) rfl
theorem tw_1144 : (Cond.methodLink "LoafFallLaw" (183 : Nat) ({ cls := "LoafFallModel", name := "asked", desc := "()I" } : Jvm.MethodName)) ∈ a_gw := a_gwI 1144 (by decide +kernel) rfl
theorem tw_1145 : (Cond.instanceMethod ({ cls := "LoafFallModel", name := "asked", desc := "()I" } : Jvm.MethodName)) ∈ a_gw := a_gwI 1145 (by decide +kernel) rfl
theorem tw_1146 : (Cond.selects "LoafFallModel" ({ cls := "LoafFallModel", name := "asked", desc := "()I" } : Jvm.MethodName) ({ cls := "LoafFallModel", name := "asked", desc := "()I" } : Jvm.MethodName)) ∈ a_gw := a_gwI 1146 (by decide +kernel) rfl
theorem tw_1147 : (Cond.code ({ cls := "LoafFallModel", name := "asked", desc := "()I" } : Jvm.MethodName) prog_14_method_10_code (1 : Nat) (Option.some Jvm.ClassFile.FieldType.int)) ∈ a_gw := a_gwI 1147 (by decide +kernel) rfl
theorem tw_1148 : (Cond.methodLink "LoafFallLaw" (188 : Nat) ({ cls := "LoafFallModel", name := "upper", desc := "()J" } : Jvm.MethodName)) ∈ a_gw := a_gwI 1148 (by decide +kernel) rfl
theorem tw_1149 : (Cond.instanceMethod ({ cls := "LoafFallModel", name := "upper", desc := "()J" } : Jvm.MethodName)) ∈ a_gw := a_gwI 1149 (by decide +kernel) rfl
theorem tw_1150 : (Cond.selects "LoafFallModel" ({ cls := "LoafFallModel", name := "upper", desc := "()J" } : Jvm.MethodName) ({ cls := "LoafFallModel", name := "upper", desc := "()J" } : Jvm.MethodName)) ∈ a_gw := a_gwI 1150 (by decide +kernel) rfl
theorem tw_1151 : (Cond.code ({ cls := "LoafFallModel", name := "upper", desc := "()J" } : Jvm.MethodName) prog_14_method_12_code (1 : Nat) (Option.some Jvm.ClassFile.FieldType.long)) ∈ a_gw := a_gwI 1151 (by decide +kernel) rfl
theorem tw_1152 : (Cond.methodLink "LoafFallLaw" (192 : Nat) ({ cls := "LoafFallModel", name := "lower", desc := "()J" } : Jvm.MethodName)) ∈ a_gw := a_gwI 1152 (by decide +kernel) rfl
theorem tw_1153 : (Cond.instanceMethod ({ cls := "LoafFallModel", name := "lower", desc := "()J" } : Jvm.MethodName)) ∈ a_gw := a_gwI 1153 (by decide +kernel) rfl
theorem tw_1154 : (Cond.selects "LoafFallModel" ({ cls := "LoafFallModel", name := "lower", desc := "()J" } : Jvm.MethodName) ({ cls := "LoafFallModel", name := "lower", desc := "()J" } : Jvm.MethodName)) ∈ a_gw := a_gwI 1154 (by decide +kernel) rfl
theorem tw_1155 : (Cond.code ({ cls := "LoafFallModel", name := "lower", desc := "()J" } : Jvm.MethodName) prog_14_method_13_code (1 : Nat) (Option.some Jvm.ClassFile.FieldType.long)) ∈ a_gw := a_gwI 1155 (by decide +kernel) rfl
theorem tw_1156 : (Cond.methodLink "LoafFallLaw" (17 : Nat) ({ cls := "LoafFallModel", name := "row", desc := "(II)I" } : Jvm.MethodName)) ∈ a_gw := a_gwI 1156 (by decide +kernel) rfl
theorem tw_1157 : (Cond.instanceMethod ({ cls := "LoafFallModel", name := "row", desc := "(II)I" } : Jvm.MethodName)) ∈ a_gw := a_gwI 1157 (by decide +kernel) rfl
theorem tw_1158 : (Cond.selects "LoafFallModel" ({ cls := "LoafFallModel", name := "row", desc := "(II)I" } : Jvm.MethodName) ({ cls := "LoafFallModel", name := "row", desc := "(II)I" } : Jvm.MethodName)) ∈ a_gw := a_gwI 1158 (by decide +kernel) rfl
theorem tw_1159 : (Cond.code ({ cls := "LoafFallModel", name := "row", desc := "(II)I" } : Jvm.MethodName) prog_14_method_16_code (4 : Nat) (Option.some Jvm.ClassFile.FieldType.int)) ∈ a_gw := a_gwI 1159 (by decide +kernel) rfl
theorem tw_1160 : (Cond.methodLink "LoafFallModel" (96 : Nat) ({ cls := "LoafFallModel", name := "isRow", desc := "(I)Z" } : Jvm.MethodName)) ∈ a_gw := a_gwI 1160 (by decide +kernel) rfl
theorem tw_1161 : (Cond.static ({ cls := "LoafFallModel", name := "isRow", desc := "(I)Z" } : Jvm.MethodName)) ∈ a_gw := a_gwI 1161 (by decide +kernel) rfl
theorem tw_1162 : (Cond.code ({ cls := "LoafFallModel", name := "isRow", desc := "(I)Z" } : Jvm.MethodName) prog_14_method_14_code (1 : Nat) (Option.some Jvm.ClassFile.FieldType.boolean)) ∈ a_gw := a_gwI 1162 (by decide +kernel) rfl
theorem tw_1163 : (Cond.methodLink "LoafFallModel" (100 : Nat) ({ cls := "LoafFallModel", name := "meets", desc := "(I)I" } : Jvm.MethodName)) ∈ a_gw := a_gwI 1163 (by decide +kernel) rfl
theorem tw_1165 : (Cond.instanceMethod ({ cls := "LoafFallModel", name := "meets", desc := "(I)I" } : Jvm.MethodName)) ∈ a_gw := a_gwI 1165 (by decide +kernel) rfl
theorem tw_1166 : (Cond.code ({ cls := "LoafFallModel", name := "meets", desc := "(I)I" } : Jvm.MethodName) prog_14_method_6_code (2 : Nat) (Option.some Jvm.ClassFile.FieldType.int)) ∈ a_gw := a_gwI 1166 (by decide +kernel) rfl
theorem tw_1167 : (Cond.methodLink "LoafFallLaw" (22 : Nat) ({ cls := "LoafFallModel", name := "lay", desc := "(III)I" } : Jvm.MethodName)) ∈ a_gw := a_gwI 1167 (by decide +kernel) rfl
theorem tw_1168 : (Cond.instanceMethod ({ cls := "LoafFallModel", name := "lay", desc := "(III)I" } : Jvm.MethodName)) ∈ a_gw := a_gwI 1168 (by decide +kernel) rfl
theorem tw_1169 : (Cond.selects "LoafFallModel" ({ cls := "LoafFallModel", name := "lay", desc := "(III)I" } : Jvm.MethodName) ({ cls := "LoafFallModel", name := "lay", desc := "(III)I" } : Jvm.MethodName)) ∈ a_gw := a_gwI 1169 (by decide +kernel) rfl
theorem tw_1170 : (Cond.code ({ cls := "LoafFallModel", name := "lay", desc := "(III)I" } : Jvm.MethodName) prog_14_method_17_code (5 : Nat) (Option.some Jvm.ClassFile.FieldType.int)) ∈ a_gw := a_gwI 1170 (by decide +kernel) rfl
theorem tw_1171 : (Cond.methodLink "LoafFallModel" (104 : Nat) ({ cls := "LoafFallModel", name := "rowAt", desc := "(II)I" } : Jvm.MethodName)) ∈ a_gw := a_gwI 1171 (by decide +kernel) rfl
theorem tw_1173 : (Cond.instanceMethod ({ cls := "LoafFallModel", name := "rowAt", desc := "(II)I" } : Jvm.MethodName)) ∈ a_gw := a_gwI 1173 (by decide +kernel) rfl
theorem tw_1174 : (Cond.code ({ cls := "LoafFallModel", name := "rowAt", desc := "(II)I" } : Jvm.MethodName) prog_14_method_15_code (3 : Nat) (Option.some Jvm.ClassFile.FieldType.int)) ∈ a_gw := a_gwI 1174 (by decide +kernel) rfl
theorem tw_1175 : (Cond.methodLink "LoafFallModel" (108 : Nat) ({ cls := "LoafFallModel", name := "tells", desc := "(II)I" } : Jvm.MethodName)) ∈ a_gw := a_gwI 1175 (by decide +kernel) rfl
theorem tw_1177 : (Cond.instanceMethod ({ cls := "LoafFallModel", name := "tells", desc := "(II)I" } : Jvm.MethodName)) ∈ a_gw := a_gwI 1177 (by decide +kernel) rfl
theorem tw_1178 : (Cond.code ({ cls := "LoafFallModel", name := "tells", desc := "(II)I" } : Jvm.MethodName) prog_14_method_9_code (3 : Nat) (Option.some Jvm.ClassFile.FieldType.int)) ∈ a_gw := a_gwI 1178 (by decide +kernel) rfl
theorem tw_1179 : (Cond.methodLink "LoafFallLaw" (26 : Nat) ({ cls := "LoafFallModel", name := "at", desc := "(II)I" } : Jvm.MethodName)) ∈ a_gw := a_gwI 1179 (by decide +kernel) rfl
theorem tw_1180 : (Cond.instanceMethod ({ cls := "LoafFallModel", name := "at", desc := "(II)I" } : Jvm.MethodName)) ∈ a_gw := a_gwI 1180 (by decide +kernel) rfl
theorem tw_1181 : (Cond.selects "LoafFallModel" ({ cls := "LoafFallModel", name := "at", desc := "(II)I" } : Jvm.MethodName) ({ cls := "LoafFallModel", name := "at", desc := "(II)I" } : Jvm.MethodName)) ∈ a_gw := a_gwI 1181 (by decide +kernel) rfl
theorem tw_1182 : (Cond.code ({ cls := "LoafFallModel", name := "at", desc := "(II)I" } : Jvm.MethodName) prog_14_method_18_code (3 : Nat) (Option.some Jvm.ClassFile.FieldType.int)) ∈ a_gw := a_gwI 1182 (by decide +kernel) rfl
theorem tw_1183 : (Cond.methodLink "LoafFallLaw" (31 : Nat) ({ cls := "LoafFallModel", name := "tear", desc := "(I)I" } : Jvm.MethodName)) ∈ a_gw := a_gwI 1183 (by decide +kernel) rfl
theorem tw_1184 : (Cond.instanceMethod ({ cls := "LoafFallModel", name := "tear", desc := "(I)I" } : Jvm.MethodName)) ∈ a_gw := a_gwI 1184 (by decide +kernel) rfl
theorem tw_1185 : (Cond.selects "LoafFallModel" ({ cls := "LoafFallModel", name := "tear", desc := "(I)I" } : Jvm.MethodName) ({ cls := "LoafFallModel", name := "tear", desc := "(I)I" } : Jvm.MethodName)) ∈ a_gw := a_gwI 1185 (by decide +kernel) rfl
theorem tw_1186 : (Cond.code ({ cls := "LoafFallModel", name := "tear", desc := "(I)I" } : Jvm.MethodName) prog_14_method_19_code (2 : Nat) (Option.some Jvm.ClassFile.FieldType.int)) ∈ a_gw := a_gwI 1186 (by decide +kernel) rfl
theorem tw_1187 : (Cond.methodLink "LoafFallLaw" (36 : Nat) ({ cls := "LoafFallModel", name := "copy", desc := "(IIIII)I" } : Jvm.MethodName)) ∈ a_gw := a_gwI 1187 (by decide +kernel) rfl
theorem tw_1188 : (Cond.instanceMethod ({ cls := "LoafFallModel", name := "copy", desc := "(IIIII)I" } : Jvm.MethodName)) ∈ a_gw := a_gwI 1188 (by decide +kernel) rfl
theorem tw_1189 : (Cond.selects "LoafFallModel" ({ cls := "LoafFallModel", name := "copy", desc := "(IIIII)I" } : Jvm.MethodName) ({ cls := "LoafFallModel", name := "copy", desc := "(IIIII)I" } : Jvm.MethodName)) ∈ a_gw := a_gwI 1189 (by decide +kernel) rfl
theorem tw_1190 : (Cond.code ({ cls := "LoafFallModel", name := "copy", desc := "(IIIII)I" } : Jvm.MethodName) prog_14_method_20_code (7 : Nat) (Option.some Jvm.ClassFile.FieldType.int)) ∈ a_gw := a_gwI 1190 (by decide +kernel) rfl
theorem tw_1191 : (Cond.methodLink "LoafFallLaw" (40 : Nat) ({ cls := "LoafFallModel", name := "mean", desc := "(I)I" } : Jvm.MethodName)) ∈ a_gw := a_gwI 1191 (by decide +kernel) rfl
theorem tw_1192 : (Cond.instanceMethod ({ cls := "LoafFallModel", name := "mean", desc := "(I)I" } : Jvm.MethodName)) ∈ a_gw := a_gwI 1192 (by decide +kernel) rfl
theorem tw_1193 : (Cond.selects "LoafFallModel" ({ cls := "LoafFallModel", name := "mean", desc := "(I)I" } : Jvm.MethodName) ({ cls := "LoafFallModel", name := "mean", desc := "(I)I" } : Jvm.MethodName)) ∈ a_gw := a_gwI 1193 (by decide +kernel) rfl
theorem tw_1194 : (Cond.code ({ cls := "LoafFallModel", name := "mean", desc := "(I)I" } : Jvm.MethodName) prog_14_method_21_code (5 : Nat) (Option.some Jvm.ClassFile.FieldType.int)) ∈ a_gw := a_gwI 1194 (by decide +kernel) rfl
theorem tw_1195 : (Cond.methodLink "LoafFallLaw" (44 : Nat) ({ cls := "LoafFallModel", name := "text", desc := "(II)I" } : Jvm.MethodName)) ∈ a_gw := a_gwI 1195 (by decide +kernel) rfl
theorem tw_1196 : (Cond.instanceMethod ({ cls := "LoafFallModel", name := "text", desc := "(II)I" } : Jvm.MethodName)) ∈ a_gw := a_gwI 1196 (by decide +kernel) rfl
theorem tw_1197 : (Cond.selects "LoafFallModel" ({ cls := "LoafFallModel", name := "text", desc := "(II)I" } : Jvm.MethodName) ({ cls := "LoafFallModel", name := "text", desc := "(II)I" } : Jvm.MethodName)) ∈ a_gw := a_gwI 1197 (by decide +kernel) rfl
theorem tw_1198 : (Cond.code ({ cls := "LoafFallModel", name := "text", desc := "(II)I" } : Jvm.MethodName) prog_14_method_23_code (4 : Nat) (Option.some Jvm.ClassFile.FieldType.int)) ∈ a_gw := a_gwI 1198 (by decide +kernel) rfl
theorem tw_1199 : (Cond.methodLink "LoafFallModel" (111 : Nat) ({ cls := "LoafFallModel", name := "isText", desc := "(I)Z" } : Jvm.MethodName)) ∈ a_gw := a_gwI 1199 (by decide +kernel) rfl
theorem tw_1200 : (Cond.static ({ cls := "LoafFallModel", name := "isText", desc := "(I)Z" } : Jvm.MethodName)) ∈ a_gw := a_gwI 1200 (by decide +kernel) rfl
theorem tw_1201 : (Cond.code ({ cls := "LoafFallModel", name := "isText", desc := "(I)Z" } : Jvm.MethodName) prog_14_method_22_code (1 : Nat) (Option.some Jvm.ClassFile.FieldType.boolean)) ∈ a_gw := a_gwI 1201 (by decide +kernel) rfl
theorem tw_1202 : (Cond.methodLink "LoafFallLaw" (48 : Nat) ({ cls := "LoafFallModel", name := "put", desc := "(III)I" } : Jvm.MethodName)) ∈ a_gw := a_gwI 1202 (by decide +kernel) rfl
theorem tw_1203 : (Cond.instanceMethod ({ cls := "LoafFallModel", name := "put", desc := "(III)I" } : Jvm.MethodName)) ∈ a_gw := a_gwI 1203 (by decide +kernel) rfl
theorem tw_1204 : (Cond.selects "LoafFallModel" ({ cls := "LoafFallModel", name := "put", desc := "(III)I" } : Jvm.MethodName) ({ cls := "LoafFallModel", name := "put", desc := "(III)I" } : Jvm.MethodName)) ∈ a_gw := a_gwI 1204 (by decide +kernel) rfl
theorem tw_1205 : (Cond.code ({ cls := "LoafFallModel", name := "put", desc := "(III)I" } : Jvm.MethodName) prog_14_method_24_code (5 : Nat) (Option.some Jvm.ClassFile.FieldType.int)) ∈ a_gw := a_gwI 1205 (by decide +kernel) rfl
theorem tw_1206 : (Cond.methodLink "LoafFallLaw" (53 : Nat) ({ cls := "LoafFallModel", name := "fault", desc := "(IZ)I" } : Jvm.MethodName)) ∈ a_gw := a_gwI 1206 (by decide +kernel) rfl
theorem tw_1207 : (Cond.instanceMethod ({ cls := "LoafFallModel", name := "fault", desc := "(IZ)I" } : Jvm.MethodName)) ∈ a_gw := a_gwI 1207 (by decide +kernel) rfl
theorem tw_1208 : (Cond.selects "LoafFallModel" ({ cls := "LoafFallModel", name := "fault", desc := "(IZ)I" } : Jvm.MethodName) ({ cls := "LoafFallModel", name := "fault", desc := "(IZ)I" } : Jvm.MethodName)) ∈ a_gw := a_gwI 1208 (by decide +kernel) rfl
theorem tw_1209 : (Cond.code ({ cls := "LoafFallModel", name := "fault", desc := "(IZ)I" } : Jvm.MethodName) prog_14_method_33_code (3 : Nat) (Option.some Jvm.ClassFile.FieldType.int)) ∈ a_gw := a_gwI 1209 (by decide +kernel) rfl
theorem tw_1210 : (Cond.methodLink "LoafFallModel" (145 : Nat) ({ cls := "LoafFallModel", name := "doingFault", desc := "(I)I" } : Jvm.MethodName)) ∈ a_gw := a_gwI 1210 (by decide +kernel) rfl
theorem tw_1212 : (Cond.instanceMethod ({ cls := "LoafFallModel", name := "doingFault", desc := "(I)I" } : Jvm.MethodName)) ∈ a_gw := a_gwI 1212 (by decide +kernel) rfl
theorem tw_1213 : (Cond.code ({ cls := "LoafFallModel", name := "doingFault", desc := "(I)I" } : Jvm.MethodName) prog_14_method_32_code (2 : Nat) (Option.some Jvm.ClassFile.FieldType.int)) ∈ a_gw := a_gwI 1213 (by decide +kernel) rfl
theorem tw_1214 : (Cond.methodLink "LoafFallModel" (117 : Nat) ({ cls := "LoafFallModel", name := "byteAt", desc := "(II)I" } : Jvm.MethodName)) ∈ a_gw := a_gwI 1214 (by decide +kernel) rfl
theorem tw_1216 : (Cond.instanceMethod ({ cls := "LoafFallModel", name := "byteAt", desc := "(II)I" } : Jvm.MethodName)) ∈ a_gw := a_gwI 1216 (by decide +kernel) rfl
theorem tw_1217 : (Cond.code ({ cls := "LoafFallModel", name := "byteAt", desc := "(II)I" } : Jvm.MethodName) prog_14_method_25_code (3 : Nat) (Option.some Jvm.ClassFile.FieldType.int)) ∈ a_gw := a_gwI 1217 (by decide +kernel) rfl
theorem tw_1218 : (Cond.methodLink "LoafFallModel" (142 : Nat) ({ cls := "LoafFallModel", name := "readsStep", desc := "(I)Z" } : Jvm.MethodName)) ∈ a_gw := a_gwI 1218 (by decide +kernel) rfl
theorem tw_1220 : (Cond.instanceMethod ({ cls := "LoafFallModel", name := "readsStep", desc := "(I)Z" } : Jvm.MethodName)) ∈ a_gw := a_gwI 1220 (by decide +kernel) rfl
theorem tw_1221 : (Cond.code ({ cls := "LoafFallModel", name := "readsStep", desc := "(I)Z" } : Jvm.MethodName) prog_14_method_31_code (5 : Nat) (Option.some Jvm.ClassFile.FieldType.boolean)) ∈ a_gw := a_gwI 1221 (by decide +kernel) rfl
theorem tw_1222 : (Cond.methodLink "LoafFallModel" (132 : Nat) ({ cls := "LoafFallModel", name := "stepOf", desc := "(I)I" } : Jvm.MethodName)) ∈ a_gw := a_gwI 1222 (by decide +kernel) rfl
theorem tw_1223 : (Cond.static ({ cls := "LoafFallModel", name := "stepOf", desc := "(I)I" } : Jvm.MethodName)) ∈ a_gw := a_gwI 1223 (by decide +kernel) rfl
theorem tw_1224 : (Cond.code ({ cls := "LoafFallModel", name := "stepOf", desc := "(I)I" } : Jvm.MethodName) prog_14_method_30_code (1 : Nat) (Option.some Jvm.ClassFile.FieldType.int)) ∈ a_gw := a_gwI 1224 (by decide +kernel) rfl
theorem tw_1225 : (Cond.methodLink "LoafFallModel" (135 : Nat) ({ cls := "LoafFallModel", name := "sign", desc := "(II)Z" } : Jvm.MethodName)) ∈ a_gw := a_gwI 1225 (by decide +kernel) rfl
theorem tw_1227 : (Cond.instanceMethod ({ cls := "LoafFallModel", name := "sign", desc := "(II)Z" } : Jvm.MethodName)) ∈ a_gw := a_gwI 1227 (by decide +kernel) rfl
theorem tw_1228 : (Cond.code ({ cls := "LoafFallModel", name := "sign", desc := "(II)Z" } : Jvm.MethodName) prog_14_method_26_code (4 : Nat) (Option.some Jvm.ClassFile.FieldType.boolean)) ∈ a_gw := a_gwI 1228 (by decide +kernel) rfl
theorem tw_1229 : (Cond.methodLink "LoafFallModel" (129 : Nat) ({ cls := "LoafFallModel", name := "number", desc := "(III)Z" } : Jvm.MethodName)) ∈ a_gw := a_gwI 1229 (by decide +kernel) rfl
theorem tw_1231 : (Cond.instanceMethod ({ cls := "LoafFallModel", name := "number", desc := "(III)Z" } : Jvm.MethodName)) ∈ a_gw := a_gwI 1231 (by decide +kernel) rfl
theorem tw_1232 : (Cond.code ({ cls := "LoafFallModel", name := "number", desc := "(III)Z" } : Jvm.MethodName) prog_14_method_27_code (6 : Nat) (Option.some Jvm.ClassFile.FieldType.boolean)) ∈ a_gw := a_gwI 1232 (by decide +kernel) rfl
theorem tw_1233 : (Cond.methodLink "LoafFallModel" (148 : Nat) ({ cls := "LoafFallModel", name := "flourFault", desc := "(I)I" } : Jvm.MethodName)) ∈ a_gw := a_gwI 1233 (by decide +kernel) rfl
theorem tw_1235 : (Cond.instanceMethod ({ cls := "LoafFallModel", name := "flourFault", desc := "(I)I" } : Jvm.MethodName)) ∈ a_gw := a_gwI 1235 (by decide +kernel) rfl
theorem tw_1236 : (Cond.code ({ cls := "LoafFallModel", name := "flourFault", desc := "(I)I" } : Jvm.MethodName) prog_14_method_29_code (3 : Nat) (Option.some Jvm.ClassFile.FieldType.int)) ∈ a_gw := a_gwI 1236 (by decide +kernel) rfl
theorem tw_1237 : (Cond.methodLink "LoafFallModel" (126 : Nat) ({ cls := "LoafFallModel", name := "itemOf", desc := "(I)I" } : Jvm.MethodName)) ∈ a_gw := a_gwI 1237 (by decide +kernel) rfl
theorem tw_1238 : (Cond.static ({ cls := "LoafFallModel", name := "itemOf", desc := "(I)I" } : Jvm.MethodName)) ∈ a_gw := a_gwI 1238 (by decide +kernel) rfl
theorem tw_1239 : (Cond.code ({ cls := "LoafFallModel", name := "itemOf", desc := "(I)I" } : Jvm.MethodName) prog_14_method_28_code (1 : Nat) (Option.some Jvm.ClassFile.FieldType.int)) ∈ a_gw := a_gwI 1239 (by decide +kernel) rfl
theorem tw_1240 : (Cond.methodLink "LoafFallLaw" (57 : Nat) ({ cls := "LoafFallModel", name := "flour", desc := "(II)I" } : Jvm.MethodName)) ∈ a_gw := a_gwI 1240 (by decide +kernel) rfl
theorem tw_1241 : (Cond.instanceMethod ({ cls := "LoafFallModel", name := "flour", desc := "(II)I" } : Jvm.MethodName)) ∈ a_gw := a_gwI 1241 (by decide +kernel) rfl
theorem tw_1242 : (Cond.selects "LoafFallModel" ({ cls := "LoafFallModel", name := "flour", desc := "(II)I" } : Jvm.MethodName) ({ cls := "LoafFallModel", name := "flour", desc := "(II)I" } : Jvm.MethodName)) ∈ a_gw := a_gwI 1242 (by decide +kernel) rfl
theorem tw_1243 : (Cond.code ({ cls := "LoafFallModel", name := "flour", desc := "(II)I" } : Jvm.MethodName) prog_14_method_35_code (4 : Nat) (Option.some Jvm.ClassFile.FieldType.int)) ∈ a_gw := a_gwI 1243 (by decide +kernel) rfl
theorem tw_1244 : (Cond.methodLink "LoafFallModel" (151 : Nat) ({ cls := "LoafFallModel", name := "isPlace", desc := "(I)Z" } : Jvm.MethodName)) ∈ a_gw := a_gwI 1244 (by decide +kernel) rfl
theorem tw_1245 : (Cond.static ({ cls := "LoafFallModel", name := "isPlace", desc := "(I)Z" } : Jvm.MethodName)) ∈ a_gw := a_gwI 1245 (by decide +kernel) rfl
theorem tw_1246 : (Cond.code ({ cls := "LoafFallModel", name := "isPlace", desc := "(I)Z" } : Jvm.MethodName) prog_14_method_34_code (1 : Nat) (Option.some Jvm.ClassFile.FieldType.boolean)) ∈ a_gw := a_gwI 1246 (by decide +kernel) rfl
theorem tw_1247 : (Cond.methodLink "LoafFallLaw" (61 : Nat) ({ cls := "LoafFallModel", name := "doing", desc := "(II)I" } : Jvm.MethodName)) ∈ a_gw := a_gwI 1247 (by decide +kernel) rfl
theorem tw_1248 : (Cond.instanceMethod ({ cls := "LoafFallModel", name := "doing", desc := "(II)I" } : Jvm.MethodName)) ∈ a_gw := a_gwI 1248 (by decide +kernel) rfl
theorem tw_1249 : (Cond.selects "LoafFallModel" ({ cls := "LoafFallModel", name := "doing", desc := "(II)I" } : Jvm.MethodName) ({ cls := "LoafFallModel", name := "doing", desc := "(II)I" } : Jvm.MethodName)) ∈ a_gw := a_gwI 1249 (by decide +kernel) rfl
theorem tw_1250 : (Cond.code ({ cls := "LoafFallModel", name := "doing", desc := "(II)I" } : Jvm.MethodName) prog_14_method_36_code (4 : Nat) (Option.some Jvm.ClassFile.FieldType.int)) ∈ a_gw := a_gwI 1250 (by decide +kernel) rfl
theorem tw_1251 : (Cond.methodLink "LoafFallLaw" (65 : Nat) ({ cls := "LoafFallModel", name := "about", desc := "(II)I" } : Jvm.MethodName)) ∈ a_gw := a_gwI 1251 (by decide +kernel) rfl
theorem tw_1252 : (Cond.instanceMethod ({ cls := "LoafFallModel", name := "about", desc := "(II)I" } : Jvm.MethodName)) ∈ a_gw := a_gwI 1252 (by decide +kernel) rfl
theorem tw_1253 : (Cond.selects "LoafFallModel" ({ cls := "LoafFallModel", name := "about", desc := "(II)I" } : Jvm.MethodName) ({ cls := "LoafFallModel", name := "about", desc := "(II)I" } : Jvm.MethodName)) ∈ a_gw := a_gwI 1253 (by decide +kernel) rfl
theorem tw_1254 : (Cond.code ({ cls := "LoafFallModel", name := "about", desc := "(II)I" } : Jvm.MethodName) prog_14_method_37_code (3 : Nat) (Option.some Jvm.ClassFile.FieldType.int)) ∈ a_gw := a_gwI 1254 (by decide +kernel) rfl
theorem tw_1255 : (Cond.methodLink "LoafFallLaw" (69 : Nat) ({ cls := "LoafFallModel", name := "step", desc := "(II)I" } : Jvm.MethodName)) ∈ a_gw := a_gwI 1255 (by decide +kernel) rfl
theorem tw_1256 : (Cond.instanceMethod ({ cls := "LoafFallModel", name := "step", desc := "(II)I" } : Jvm.MethodName)) ∈ a_gw := a_gwI 1256 (by decide +kernel) rfl
theorem tw_1257 : (Cond.selects "LoafFallModel" ({ cls := "LoafFallModel", name := "step", desc := "(II)I" } : Jvm.MethodName) ({ cls := "LoafFallModel", name := "step", desc := "(II)I" } : Jvm.MethodName)) ∈ a_gw := a_gwI 1257 (by decide +kernel) rfl
theorem tw_1258 : (Cond.code ({ cls := "LoafFallModel", name := "step", desc := "(II)I" } : Jvm.MethodName) prog_14_method_39_code (3 : Nat) (Option.some Jvm.ClassFile.FieldType.int)) ∈ a_gw := a_gwI 1258 (by decide +kernel) rfl
theorem tw_1259 : (Cond.methodLink "LoafFallModel" (154 : Nat) ({ cls := "LoafFallModel", name := "stepTells", desc := "(II)I" } : Jvm.MethodName)) ∈ a_gw := a_gwI 1259 (by decide +kernel) rfl
theorem tw_1261 : (Cond.instanceMethod ({ cls := "LoafFallModel", name := "stepTells", desc := "(II)I" } : Jvm.MethodName)) ∈ a_gw := a_gwI 1261 (by decide +kernel) rfl
theorem tw_1262 : (Cond.code ({ cls := "LoafFallModel", name := "stepTells", desc := "(II)I" } : Jvm.MethodName) prog_14_method_38_code (3 : Nat) (Option.some Jvm.ClassFile.FieldType.int)) ∈ a_gw := a_gwI 1262 (by decide +kernel) rfl
theorem tw_1263 : (Cond.methodLink "LoafFallLaw" (73 : Nat) ({ cls := "LoafFallModel", name := "loaf", desc := "(II)I" } : Jvm.MethodName)) ∈ a_gw := a_gwI 1263 (by decide +kernel) rfl
theorem tw_1264 : (Cond.instanceMethod ({ cls := "LoafFallModel", name := "loaf", desc := "(II)I" } : Jvm.MethodName)) ∈ a_gw := a_gwI 1264 (by decide +kernel) rfl
theorem tw_1265 : (Cond.selects "LoafFallModel" ({ cls := "LoafFallModel", name := "loaf", desc := "(II)I" } : Jvm.MethodName) ({ cls := "LoafFallModel", name := "loaf", desc := "(II)I" } : Jvm.MethodName)) ∈ a_gw := a_gwI 1265 (by decide +kernel) rfl
theorem tw_1266 : (Cond.code ({ cls := "LoafFallModel", name := "loaf", desc := "(II)I" } : Jvm.MethodName) prog_14_method_51_code (3 : Nat) (Option.some Jvm.ClassFile.FieldType.int)) ∈ a_gw := a_gwI 1266 (by decide +kernel) rfl
theorem tw_1267 : (Cond.methodLink "LoafFallModel" (174 : Nat) ({ cls := "LoafFallModel", name := "look", desc := "(I)V" } : Jvm.MethodName)) ∈ a_gw := a_gwI 1267 (by decide +kernel) rfl
theorem tw_1269 : (Cond.instanceMethod ({ cls := "LoafFallModel", name := "look", desc := "(I)V" } : Jvm.MethodName)) ∈ a_gw := a_gwI 1269 (by decide +kernel) rfl
theorem tw_1270 : (Cond.code ({ cls := "LoafFallModel", name := "look", desc := "(I)V" } : Jvm.MethodName) prog_14_method_42_code (2 : Nat) (Option.none : Option Jvm.ClassFile.FieldType)) ∈ a_gw := a_gwI 1270 (by decide +kernel) rfl
theorem tw_1271 : (Cond.methodLink "LoafFallModel" (178 : Nat) ({ cls := "LoafFallModel", name := "layFlour", desc := "(I)V" } : Jvm.MethodName)) ∈ a_gw := a_gwI 1271 (by decide +kernel) rfl
theorem tw_1273 : (Cond.instanceMethod ({ cls := "LoafFallModel", name := "layFlour", desc := "(I)V" } : Jvm.MethodName)) ∈ a_gw := a_gwI 1273 (by decide +kernel) rfl
theorem tw_1274 : (Cond.code ({ cls := "LoafFallModel", name := "layFlour", desc := "(I)V" } : Jvm.MethodName) prog_14_method_47_code (3 : Nat) (Option.none : Option Jvm.ClassFile.FieldType)) ∈ a_gw := a_gwI 1274 (by decide +kernel) rfl
theorem tw_1275 : (Cond.methodLink "LoafFallModel" (163 : Nat) ({ cls := "LoafFallModel", name := "put", desc := "(II)V" } : Jvm.MethodName)) ∈ a_gw := a_gwI 1275 (by decide +kernel) rfl
theorem tw_1277 : (Cond.instanceMethod ({ cls := "LoafFallModel", name := "put", desc := "(II)V" } : Jvm.MethodName)) ∈ a_gw := a_gwI 1277 (by decide +kernel) rfl
theorem tw_1278 : (Cond.code ({ cls := "LoafFallModel", name := "put", desc := "(II)V" } : Jvm.MethodName) prog_14_method_41_code (3 : Nat) (Option.none : Option Jvm.ClassFile.FieldType)) ∈ a_gw := a_gwI 1278 (by decide +kernel) rfl
theorem tw_1279 : (Cond.methodLink "LoafFallModel" (181 : Nat) ({ cls := "LoafFallModel", name := "layDoing", desc := "(I)V" } : Jvm.MethodName)) ∈ a_gw := a_gwI 1279 (by decide +kernel) rfl
theorem tw_1281 : (Cond.instanceMethod ({ cls := "LoafFallModel", name := "layDoing", desc := "(I)V" } : Jvm.MethodName)) ∈ a_gw := a_gwI 1281 (by decide +kernel) rfl
theorem tw_1282 : (Cond.code ({ cls := "LoafFallModel", name := "layDoing", desc := "(I)V" } : Jvm.MethodName) prog_14_method_48_code (3 : Nat) (Option.none : Option Jvm.ClassFile.FieldType)) ∈ a_gw := a_gwI 1282 (by decide +kernel) rfl
theorem tw_1283 : (Cond.methodLink "LoafFallModel" (184 : Nat) ({ cls := "LoafFallModel", name := "begins", desc := "()V" } : Jvm.MethodName)) ∈ a_gw := a_gwI 1283 (by decide +kernel) rfl
theorem tw_1285 : (Cond.instanceMethod ({ cls := "LoafFallModel", name := "begins", desc := "()V" } : Jvm.MethodName)) ∈ a_gw := a_gwI 1285 (by decide +kernel) rfl
theorem tw_1286 : (Cond.code ({ cls := "LoafFallModel", name := "begins", desc := "()V" } : Jvm.MethodName) prog_14_method_49_code (2 : Nat) (Option.none : Option Jvm.ClassFile.FieldType)) ∈ a_gw := a_gwI 1286 (by decide +kernel) rfl
theorem tw_1287 : (Cond.methodLink "LoafFallModel" (160 : Nat) ({ cls := "LoafFallModel", name := "v", desc := "(I)I" } : Jvm.MethodName)) ∈ a_gw := a_gwI 1287 (by decide +kernel) rfl
theorem tw_1289 : (Cond.instanceMethod ({ cls := "LoafFallModel", name := "v", desc := "(I)I" } : Jvm.MethodName)) ∈ a_gw := a_gwI 1289 (by decide +kernel) rfl
theorem tw_1290 : (Cond.code ({ cls := "LoafFallModel", name := "v", desc := "(I)I" } : Jvm.MethodName) prog_14_method_40_code (2 : Nat) (Option.some Jvm.ClassFile.FieldType.int)) ∈ a_gw := a_gwI 1290 (by decide +kernel) rfl
theorem tw_1291 : (Cond.methodLink "LoafFallModel" (167 : Nat) ({ cls := "LoafFallModel", name := "putCell", desc := "(III)V" } : Jvm.MethodName)) ∈ a_gw := a_gwI 1291 (by decide +kernel) rfl
theorem tw_1293 : (Cond.instanceMethod ({ cls := "LoafFallModel", name := "putCell", desc := "(III)V" } : Jvm.MethodName)) ∈ a_gw := a_gwI 1293 (by decide +kernel) rfl
theorem tw_1294 : (Cond.code ({ cls := "LoafFallModel", name := "putCell", desc := "(III)V" } : Jvm.MethodName) prog_14_method_45_code (4 : Nat) (Option.none : Option Jvm.ClassFile.FieldType)) ∈ a_gw := a_gwI 1294 (by decide +kernel) rfl
theorem tw_1295 : (Cond.methodLink "LoafFallModel" (187 : Nat) ({ cls := "LoafFallModel", name := "turnsAll", desc := "()I" } : Jvm.MethodName)) ∈ a_gw := a_gwI 1295 (by decide +kernel) rfl
theorem tw_1297 : (Cond.instanceMethod ({ cls := "LoafFallModel", name := "turnsAll", desc := "()I" } : Jvm.MethodName)) ∈ a_gw := a_gwI 1297 (by decide +kernel) rfl
theorem tw_1298 : (Cond.code ({ cls := "LoafFallModel", name := "turnsAll", desc := "()I" } : Jvm.MethodName) prog_14_method_50_code (3 : Nat) (Option.some Jvm.ClassFile.FieldType.int)) ∈ a_gw := a_gwI 1298 (by decide +kernel) rfl
theorem tw_1299 : (Cond.methodLink "LoafFallModel" (171 : Nat) ({ cls := "LoafFallModel", name := "s", desc := "(II)I" } : Jvm.MethodName)) ∈ a_gw := a_gwI 1299 (by decide +kernel) rfl
theorem tw_1301 : (Cond.instanceMethod ({ cls := "LoafFallModel", name := "s", desc := "(II)I" } : Jvm.MethodName)) ∈ a_gw := a_gwI 1301 (by decide +kernel) rfl
theorem tw_1302 : (Cond.code ({ cls := "LoafFallModel", name := "s", desc := "(II)I" } : Jvm.MethodName) prog_14_method_46_code (3 : Nat) (Option.some Jvm.ClassFile.FieldType.int)) ∈ a_gw := a_gwI 1302 (by decide +kernel) rfl
theorem tw_1303 : (Cond.methodLink "LoafFallLaw" (77 : Nat) ({ cls := "LoafFallModel", name := "go", desc := "(I)I" } : Jvm.MethodName)) ∈ a_gw := a_gwI 1303 (by decide +kernel) rfl
theorem tw_1304 : (Cond.instanceMethod ({ cls := "LoafFallModel", name := "go", desc := "(I)I" } : Jvm.MethodName)) ∈ a_gw := a_gwI 1304 (by decide +kernel) rfl
theorem tw_1305 : (Cond.selects "LoafFallModel" ({ cls := "LoafFallModel", name := "go", desc := "(I)I" } : Jvm.MethodName) ({ cls := "LoafFallModel", name := "go", desc := "(I)I" } : Jvm.MethodName)) ∈ a_gw := a_gwI 1305 (by decide +kernel) rfl
theorem tw_1306 : (Cond.code ({ cls := "LoafFallModel", name := "go", desc := "(I)I" } : Jvm.MethodName) prog_14_method_62_code (2 : Nat) (Option.some Jvm.ClassFile.FieldType.int)) ∈ a_gw := a_gwI 1306 (by decide +kernel) rfl
theorem tw_1307 : (Cond.methodLink "LoafFallModel" (229 : Nat) ({ cls := "LoafFallModel", name := "goes", desc := "(I)V" } : Jvm.MethodName)) ∈ a_gw := a_gwI 1307 (by decide +kernel) rfl
theorem tw_1309 : (Cond.instanceMethod ({ cls := "LoafFallModel", name := "goes", desc := "(I)V" } : Jvm.MethodName)) ∈ a_gw := a_gwI 1309 (by decide +kernel) rfl
theorem tw_1310 : (Cond.code ({ cls := "LoafFallModel", name := "goes", desc := "(I)V" } : Jvm.MethodName) prog_14_method_61_code (3 : Nat) (Option.none : Option Jvm.ClassFile.FieldType)) ∈ a_gw := a_gwI 1310 (by decide +kernel) rfl
theorem tw_1311 : (Cond.methodLink "LoafFallModel" (226 : Nat) ({ cls := "LoafFallModel", name := "next", desc := "()V" } : Jvm.MethodName)) ∈ a_gw := a_gwI 1311 (by decide +kernel) rfl
theorem tw_1313 : (Cond.instanceMethod ({ cls := "LoafFallModel", name := "next", desc := "()V" } : Jvm.MethodName)) ∈ a_gw := a_gwI 1313 (by decide +kernel) rfl
theorem tw_1314 : (Cond.code ({ cls := "LoafFallModel", name := "next", desc := "()V" } : Jvm.MethodName) prog_14_method_60_code (1 : Nat) (Option.none : Option Jvm.ClassFile.FieldType)) ∈ a_gw := a_gwI 1314 (by decide +kernel) rfl
theorem tw_1315 : (Cond.methodLink "LoafFallModel" (219 : Nat) ({ cls := "LoafFallModel", name := "atOnce", desc := "(I)V" } : Jvm.MethodName)) ∈ a_gw := a_gwI 1315 (by decide +kernel) rfl
theorem tw_1317 : (Cond.instanceMethod ({ cls := "LoafFallModel", name := "atOnce", desc := "(I)V" } : Jvm.MethodName)) ∈ a_gw := a_gwI 1317 (by decide +kernel) rfl
theorem tw_1318 : (Cond.code ({ cls := "LoafFallModel", name := "atOnce", desc := "(I)V" } : Jvm.MethodName) prog_14_method_59_code (4 : Nat) (Option.none : Option Jvm.ClassFile.FieldType)) ∈ a_gw := a_gwI 1318 (by decide +kernel) rfl
theorem tw_1319 : (Cond.methodLink "LoafFallModel" (191 : Nat) ({ cls := "LoafFallModel", name := "c", desc := "(II)I" } : Jvm.MethodName)) ∈ a_gw := a_gwI 1319 (by decide +kernel) rfl
theorem tw_1321 : (Cond.instanceMethod ({ cls := "LoafFallModel", name := "c", desc := "(II)I" } : Jvm.MethodName)) ∈ a_gw := a_gwI 1321 (by decide +kernel) rfl
theorem tw_1322 : (Cond.code ({ cls := "LoafFallModel", name := "c", desc := "(II)I" } : Jvm.MethodName) prog_14_method_44_code (3 : Nat) (Option.some Jvm.ClassFile.FieldType.int)) ∈ a_gw := a_gwI 1322 (by decide +kernel) rfl
theorem tw_1323 : (Cond.methodLink "LoafFallModel" (200 : Nat) ({ cls := "LoafFallModel", name := "lesser", desc := "(II)I" } : Jvm.MethodName)) ∈ a_gw := a_gwI 1323 (by decide +kernel) rfl
theorem tw_1324 : (Cond.static ({ cls := "LoafFallModel", name := "lesser", desc := "(II)I" } : Jvm.MethodName)) ∈ a_gw := a_gwI 1324 (by decide +kernel) rfl
theorem tw_1325 : (Cond.code ({ cls := "LoafFallModel", name := "lesser", desc := "(II)I" } : Jvm.MethodName) prog_14_method_3_code (2 : Nat) (Option.some Jvm.ClassFile.FieldType.int)) ∈ a_gw := a_gwI 1325 (by decide +kernel) rfl
theorem tw_1326 : (Cond.methodLink "LoafFallModel" (194 : Nat) ({ cls := "LoafFallModel", name := "isOuter", desc := "(I)Z" } : Jvm.MethodName)) ∈ a_gw := a_gwI 1326 (by decide +kernel) rfl
theorem tw_1327 : (Cond.static ({ cls := "LoafFallModel", name := "isOuter", desc := "(I)Z" } : Jvm.MethodName)) ∈ a_gw := a_gwI 1327 (by decide +kernel) rfl
theorem tw_1328 : (Cond.code ({ cls := "LoafFallModel", name := "isOuter", desc := "(I)Z" } : Jvm.MethodName) prog_14_method_52_code (1 : Nat) (Option.some Jvm.ClassFile.FieldType.boolean)) ∈ a_gw := a_gwI 1328 (by decide +kernel) rfl
theorem tw_1329 : (Cond.methodLink "LoafFallModel" (197 : Nat) ({ cls := "LoafFallModel", name := "greater", desc := "(II)I" } : Jvm.MethodName)) ∈ a_gw := a_gwI 1329 (by decide +kernel) rfl
theorem tw_1330 : (Cond.static ({ cls := "LoafFallModel", name := "greater", desc := "(II)I" } : Jvm.MethodName)) ∈ a_gw := a_gwI 1330 (by decide +kernel) rfl
theorem tw_1331 : (Cond.code ({ cls := "LoafFallModel", name := "greater", desc := "(II)I" } : Jvm.MethodName) prog_14_method_4_code (2 : Nat) (Option.some Jvm.ClassFile.FieldType.int)) ∈ a_gw := a_gwI 1331 (by decide +kernel) rfl
theorem tw_1332 : (Cond.methodLink "LoafFallModel" (203 : Nat) ({ cls := "LoafFallModel", name := "tears", desc := "(II)V" } : Jvm.MethodName)) ∈ a_gw := a_gwI 1332 (by decide +kernel) rfl
theorem tw_1334 : (Cond.instanceMethod ({ cls := "LoafFallModel", name := "tears", desc := "(II)V" } : Jvm.MethodName)) ∈ a_gw := a_gwI 1334 (by decide +kernel) rfl
theorem tw_1335 : (Cond.code ({ cls := "LoafFallModel", name := "tears", desc := "(II)V" } : Jvm.MethodName) prog_14_method_55_code (5 : Nat) (Option.none : Option Jvm.ClassFile.FieldType)) ∈ a_gw := a_gwI 1335 (by decide +kernel) rfl
theorem tw_1336 : (Cond.methodLink "LoafFallModel" (222 : Nat) ({ cls := "LoafFallModel", name := "turn", desc := "(ZI)V" } : Jvm.MethodName)) ∈ a_gw := a_gwI 1336 (by decide +kernel) rfl
theorem tw_1338 : (Cond.instanceMethod ({ cls := "LoafFallModel", name := "turn", desc := "(ZI)V" } : Jvm.MethodName)) ∈ a_gw := a_gwI 1338 (by decide +kernel) rfl
theorem tw_1339 : (Cond.code ({ cls := "LoafFallModel", name := "turn", desc := "(ZI)V" } : Jvm.MethodName) prog_14_method_58_code (3 : Nat) (Option.none : Option Jvm.ClassFile.FieldType)) ∈ a_gw := a_gwI 1339 (by decide +kernel) rfl
theorem tw_1340 : (Cond.methodLink "LoafFallModel" (206 : Nat) ({ cls := "LoafFallModel", name := "warms", desc := "(I)V" } : Jvm.MethodName)) ∈ a_gw := a_gwI 1340 (by decide +kernel) rfl
theorem tw_1342 : (Cond.instanceMethod ({ cls := "LoafFallModel", name := "warms", desc := "(I)V" } : Jvm.MethodName)) ∈ a_gw := a_gwI 1342 (by decide +kernel) rfl
theorem tw_1343 : (Cond.code ({ cls := "LoafFallModel", name := "warms", desc := "(I)V" } : Jvm.MethodName) prog_14_method_53_code (5 : Nat) (Option.none : Option Jvm.ClassFile.FieldType)) ∈ a_gw := a_gwI 1343 (by decide +kernel) rfl
theorem tw_1344 : (Cond.methodLink "LoafFallModel" (209 : Nat) ({ cls := "LoafFallModel", name := "grows", desc := "()V" } : Jvm.MethodName)) ∈ a_gw := a_gwI 1344 (by decide +kernel) rfl
theorem tw_1346 : (Cond.instanceMethod ({ cls := "LoafFallModel", name := "grows", desc := "()V" } : Jvm.MethodName)) ∈ a_gw := a_gwI 1346 (by decide +kernel) rfl
theorem tw_1347 : (Cond.code ({ cls := "LoafFallModel", name := "grows", desc := "()V" } : Jvm.MethodName) prog_14_method_54_code (3 : Nat) (Option.none : Option Jvm.ClassFile.FieldType)) ∈ a_gw := a_gwI 1347 (by decide +kernel) rfl
theorem tw_1348 : (Cond.methodLink "LoafFallModel" (212 : Nat) ({ cls := "LoafFallModel", name := "bursts", desc := "(Z)V" } : Jvm.MethodName)) ∈ a_gw := a_gwI 1348 (by decide +kernel) rfl
theorem tw_1350 : (Cond.instanceMethod ({ cls := "LoafFallModel", name := "bursts", desc := "(Z)V" } : Jvm.MethodName)) ∈ a_gw := a_gwI 1350 (by decide +kernel) rfl
theorem tw_1351 : (Cond.code ({ cls := "LoafFallModel", name := "bursts", desc := "(Z)V" } : Jvm.MethodName) prog_14_method_56_code (4 : Nat) (Option.none : Option Jvm.ClassFile.FieldType)) ∈ a_gw := a_gwI 1351 (by decide +kernel) rfl
theorem tw_1352 : (Cond.methodLink "LoafFallModel" (216 : Nat) ({ cls := "LoafFallModel", name := "sinks", desc := "()V" } : Jvm.MethodName)) ∈ a_gw := a_gwI 1352 (by decide +kernel) rfl
theorem tw_1354 : (Cond.instanceMethod ({ cls := "LoafFallModel", name := "sinks", desc := "()V" } : Jvm.MethodName)) ∈ a_gw := a_gwI 1354 (by decide +kernel) rfl
theorem tw_1355 : (Cond.code ({ cls := "LoafFallModel", name := "sinks", desc := "()V" } : Jvm.MethodName) prog_14_method_57_code (2 : Nat) (Option.none : Option Jvm.ClassFile.FieldType)) ∈ a_gw := a_gwI 1355 (by decide +kernel) rfl
theorem tw_1356 : (Cond.methodLink "LoafFallLaw" (81 : Nat) ({ cls := "LoafFallModel", name := "cell", desc := "(II)I" } : Jvm.MethodName)) ∈ a_gw := a_gwI 1356 (by decide +kernel) rfl
theorem tw_1357 : (Cond.instanceMethod ({ cls := "LoafFallModel", name := "cell", desc := "(II)I" } : Jvm.MethodName)) ∈ a_gw := a_gwI 1357 (by decide +kernel) rfl
theorem tw_1358 : (Cond.selects "LoafFallModel" ({ cls := "LoafFallModel", name := "cell", desc := "(II)I" } : Jvm.MethodName) ({ cls := "LoafFallModel", name := "cell", desc := "(II)I" } : Jvm.MethodName)) ∈ a_gw := a_gwI 1358 (by decide +kernel) rfl
theorem tw_1359 : (Cond.code ({ cls := "LoafFallModel", name := "cell", desc := "(II)I" } : Jvm.MethodName) prog_14_method_63_code (3 : Nat) (Option.some Jvm.ClassFile.FieldType.int)) ∈ a_gw := a_gwI 1359 (by decide +kernel) rfl
theorem tw_1360 : (Cond.methodLink "LoafFallLaw" (85 : Nat) ({ cls := "LoafFallModel", name := "fall", desc := "(II)I" } : Jvm.MethodName)) ∈ a_gw := a_gwI 1360 (by decide +kernel) rfl
theorem tw_1361 : (Cond.instanceMethod ({ cls := "LoafFallModel", name := "fall", desc := "(II)I" } : Jvm.MethodName)) ∈ a_gw := a_gwI 1361 (by decide +kernel) rfl
theorem tw_1362 : (Cond.selects "LoafFallModel" ({ cls := "LoafFallModel", name := "fall", desc := "(II)I" } : Jvm.MethodName) ({ cls := "LoafFallModel", name := "fall", desc := "(II)I" } : Jvm.MethodName)) ∈ a_gw := a_gwI 1362 (by decide +kernel) rfl
theorem tw_1363 : (Cond.code ({ cls := "LoafFallModel", name := "fall", desc := "(II)I" } : Jvm.MethodName) prog_14_method_66_code (3 : Nat) (Option.some Jvm.ClassFile.FieldType.int)) ∈ a_gw := a_gwI 1363 (by decide +kernel) rfl
theorem tw_1364 : (Cond.methodLink "LoafFallModel" (232 : Nat) ({ cls := "LoafFallModel", name := "isFall", desc := "(I)Z" } : Jvm.MethodName)) ∈ a_gw := a_gwI 1364 (by decide +kernel) rfl
theorem tw_1366 : (Cond.instanceMethod ({ cls := "LoafFallModel", name := "isFall", desc := "(I)Z" } : Jvm.MethodName)) ∈ a_gw := a_gwI 1366 (by decide +kernel) rfl
theorem tw_1367 : (Cond.code ({ cls := "LoafFallModel", name := "isFall", desc := "(I)Z" } : Jvm.MethodName) prog_14_method_64_code (2 : Nat) (Option.some Jvm.ClassFile.FieldType.boolean)) ∈ a_gw := a_gwI 1367 (by decide +kernel) rfl
theorem tw_1368 : (Cond.methodLink "LoafFallModel" (235 : Nat) ({ cls := "LoafFallModel", name := "f", desc := "(II)I" } : Jvm.MethodName)) ∈ a_gw := a_gwI 1368 (by decide +kernel) rfl
theorem tw_1370 : (Cond.instanceMethod ({ cls := "LoafFallModel", name := "f", desc := "(II)I" } : Jvm.MethodName)) ∈ a_gw := a_gwI 1370 (by decide +kernel) rfl
theorem tw_1371 : (Cond.code ({ cls := "LoafFallModel", name := "f", desc := "(II)I" } : Jvm.MethodName) prog_14_method_65_code (3 : Nat) (Option.some Jvm.ClassFile.FieldType.int)) ∈ a_gw := a_gwI 1371 (by decide +kernel) rfl
theorem tw_1372 : (Cond.methodLink "LoafFallLaw" (89 : Nat) ({ cls := "LoafFallModel", name := "mark", desc := "(II)I" } : Jvm.MethodName)) ∈ a_gw := a_gwI 1372 (by decide +kernel) rfl
theorem tw_1373 : (Cond.instanceMethod ({ cls := "LoafFallModel", name := "mark", desc := "(II)I" } : Jvm.MethodName)) ∈ a_gw := a_gwI 1373 (by decide +kernel) rfl
theorem tw_1374 : (Cond.selects "LoafFallModel" ({ cls := "LoafFallModel", name := "mark", desc := "(II)I" } : Jvm.MethodName) ({ cls := "LoafFallModel", name := "mark", desc := "(II)I" } : Jvm.MethodName)) ∈ a_gw := a_gwI 1374 (by decide +kernel) rfl
theorem tw_1375 : (Cond.code ({ cls := "LoafFallModel", name := "mark", desc := "(II)I" } : Jvm.MethodName) prog_14_method_67_code (5 : Nat) (Option.some Jvm.ClassFile.FieldType.int)) ∈ a_gw := a_gwI 1375 (by decide +kernel) rfl
theorem tw_1376 : (Cond.methodLink "LoafFallLaw" (93 : Nat) ({ cls := "LoafFallModel", name := "keep", desc := "(I)I" } : Jvm.MethodName)) ∈ a_gw := a_gwI 1376 (by decide +kernel) rfl
theorem tw_1377 : (Cond.instanceMethod ({ cls := "LoafFallModel", name := "keep", desc := "(I)I" } : Jvm.MethodName)) ∈ a_gw := a_gwI 1377 (by decide +kernel) rfl
theorem tw_1378 : (Cond.selects "LoafFallModel" ({ cls := "LoafFallModel", name := "keep", desc := "(I)I" } : Jvm.MethodName) ({ cls := "LoafFallModel", name := "keep", desc := "(I)I" } : Jvm.MethodName)) ∈ a_gw := a_gwI 1378 (by decide +kernel) rfl
theorem tw_1379 : (Cond.code ({ cls := "LoafFallModel", name := "keep", desc := "(I)I" } : Jvm.MethodName) prog_14_method_68_code (2 : Nat) (Option.some Jvm.ClassFile.FieldType.int)) ∈ a_gw := a_gwI 1379 (by decide +kernel) rfl
theorem tw_1380 : (Cond.methodLink "LoafFallModel" (238 : Nat) ({ cls := "LoafFallModel", name := "copyLoaf", desc := "(II)V" } : Jvm.MethodName)) ∈ a_gw := a_gwI 1380 (by decide +kernel) rfl
theorem tw_1382 : (Cond.instanceMethod ({ cls := "LoafFallModel", name := "copyLoaf", desc := "(II)V" } : Jvm.MethodName)) ∈ a_gw := a_gwI 1382 (by decide +kernel) rfl
theorem tw_1383 : (Cond.code ({ cls := "LoafFallModel", name := "copyLoaf", desc := "(II)V" } : Jvm.MethodName) prog_14_method_43_code (4 : Nat) (Option.none : Option Jvm.ClassFile.FieldType)) ∈ a_gw := a_gwI 1383 (by decide +kernel) rfl
theorem tw_1384 : (Cond.methodLink "LoafFallLaw" (97 : Nat) ({ cls := "LoafFallModel", name := "on", desc := "(I)I" } : Jvm.MethodName)) ∈ a_gw := a_gwI 1384 (by decide +kernel) rfl
theorem tw_1385 : (Cond.instanceMethod ({ cls := "LoafFallModel", name := "on", desc := "(I)I" } : Jvm.MethodName)) ∈ a_gw := a_gwI 1385 (by decide +kernel) rfl
theorem tw_1386 : (Cond.selects "LoafFallModel" ({ cls := "LoafFallModel", name := "on", desc := "(I)I" } : Jvm.MethodName) ({ cls := "LoafFallModel", name := "on", desc := "(I)I" } : Jvm.MethodName)) ∈ a_gw := a_gwI 1386 (by decide +kernel) rfl
theorem tw_1387 : (Cond.code ({ cls := "LoafFallModel", name := "on", desc := "(I)I" } : Jvm.MethodName) prog_14_method_69_code (2 : Nat) (Option.some Jvm.ClassFile.FieldType.int)) ∈ a_gw := a_gwI 1387 (by decide +kernel) rfl
theorem tw_1388 : (Cond.methodLink "LoafFallLaw" (102 : Nat) ({ cls := "LoafFallModel", name := "height", desc := "()I" } : Jvm.MethodName)) ∈ a_gw := a_gwI 1388 (by decide +kernel) rfl
theorem tw_1389 : (Cond.instanceMethod ({ cls := "LoafFallModel", name := "height", desc := "()I" } : Jvm.MethodName)) ∈ a_gw := a_gwI 1389 (by decide +kernel) rfl
theorem tw_1390 : (Cond.selects "LoafFallModel" ({ cls := "LoafFallModel", name := "height", desc := "()I" } : Jvm.MethodName) ({ cls := "LoafFallModel", name := "height", desc := "()I" } : Jvm.MethodName)) ∈ a_gw := a_gwI 1390 (by decide +kernel) rfl
theorem tw_1391 : (Cond.code ({ cls := "LoafFallModel", name := "height", desc := "()I" } : Jvm.MethodName) prog_14_method_73_code (1 : Nat) (Option.some Jvm.ClassFile.FieldType.int)) ∈ a_gw := a_gwI 1391 (by decide +kernel) rfl
theorem tw_1392 : (Cond.methodLink "LoafFallModel" (247 : Nat) ({ cls := "LoafFallModel", name := "worthNow", desc := "()I" } : Jvm.MethodName)) ∈ a_gw := a_gwI 1392 (by decide +kernel) rfl
theorem tw_1394 : (Cond.instanceMethod ({ cls := "LoafFallModel", name := "worthNow", desc := "()I" } : Jvm.MethodName)) ∈ a_gw := a_gwI 1394 (by decide +kernel) rfl
theorem tw_1395 : (Cond.code ({ cls := "LoafFallModel", name := "worthNow", desc := "()I" } : Jvm.MethodName) prog_14_method_72_code (3 : Nat) (Option.some Jvm.ClassFile.FieldType.int)) ∈ a_gw := a_gwI 1395 (by decide +kernel) rfl
theorem tw_1396 : (Cond.methodLink "LoafFallModel" (241 : Nat) ({ cls := "LoafFallModel", name := "heightNow", desc := "()I" } : Jvm.MethodName)) ∈ a_gw := a_gwI 1396 (by decide +kernel) rfl
theorem tw_1398 : (Cond.instanceMethod ({ cls := "LoafFallModel", name := "heightNow", desc := "()I" } : Jvm.MethodName)) ∈ a_gw := a_gwI 1398 (by decide +kernel) rfl
theorem tw_1399 : (Cond.code ({ cls := "LoafFallModel", name := "heightNow", desc := "()I" } : Jvm.MethodName) prog_14_method_70_code (3 : Nat) (Option.some Jvm.ClassFile.FieldType.int)) ∈ a_gw := a_gwI 1399 (by decide +kernel) rfl
theorem tw_1400 : (Cond.methodLink "LoafFallModel" (244 : Nat) ({ cls := "LoafFallModel", name := "tornMany", desc := "()I" } : Jvm.MethodName)) ∈ a_gw := a_gwI 1400 (by decide +kernel) rfl
theorem tw_1402 : (Cond.instanceMethod ({ cls := "LoafFallModel", name := "tornMany", desc := "()I" } : Jvm.MethodName)) ∈ a_gw := a_gwI 1402 (by decide +kernel) rfl
theorem tw_1403 : (Cond.code ({ cls := "LoafFallModel", name := "tornMany", desc := "()I" } : Jvm.MethodName) prog_14_method_71_code (3 : Nat) (Option.some Jvm.ClassFile.FieldType.int)) ∈ a_gw := a_gwI 1403 (by decide +kernel) rfl
theorem tw_1404 : (Cond.methodLink "LoafFallLaw" (106 : Nat) ({ cls := "LoafFallModel", name := "holes", desc := "()I" } : Jvm.MethodName)) ∈ a_gw := a_gwI 1404 (by decide +kernel) rfl
theorem tw_1405 : (Cond.instanceMethod ({ cls := "LoafFallModel", name := "holes", desc := "()I" } : Jvm.MethodName)) ∈ a_gw := a_gwI 1405 (by decide +kernel) rfl
theorem tw_1406 : (Cond.selects "LoafFallModel" ({ cls := "LoafFallModel", name := "holes", desc := "()I" } : Jvm.MethodName) ({ cls := "LoafFallModel", name := "holes", desc := "()I" } : Jvm.MethodName)) ∈ a_gw := a_gwI 1406 (by decide +kernel) rfl
theorem tw_1407 : (Cond.code ({ cls := "LoafFallModel", name := "holes", desc := "()I" } : Jvm.MethodName) prog_14_method_74_code (7 : Nat) (Option.some Jvm.ClassFile.FieldType.int)) ∈ a_gw := a_gwI 1407 (by decide +kernel) rfl
theorem tw_1408 : (Cond.methodLink "LoafFallModel" (250 : Nat) ({ cls := "LoafFallModel", name := "joins", desc := "(II)Z" } : Jvm.MethodName)) ∈ a_gw := a_gwI 1408 (by decide +kernel) rfl
theorem tw_1410 : (Cond.instanceMethod ({ cls := "LoafFallModel", name := "joins", desc := "(II)Z" } : Jvm.MethodName)) ∈ a_gw := a_gwI 1410 (by decide +kernel) rfl
theorem tw_1411 : (Cond.code ({ cls := "LoafFallModel", name := "joins", desc := "(II)Z" } : Jvm.MethodName) prog_14_method_75_code (4 : Nat) (Option.some Jvm.ClassFile.FieldType.boolean)) ∈ a_gw := a_gwI 1411 (by decide +kernel) rfl
theorem tw_1412 : (Cond.methodLink "LoafFallLaw" (110 : Nat) ({ cls := "LoafFallModel", name := "cut", desc := "(I)I" } : Jvm.MethodName)) ∈ a_gw := a_gwI 1412 (by decide +kernel) rfl
theorem tw_1413 : (Cond.instanceMethod ({ cls := "LoafFallModel", name := "cut", desc := "(I)I" } : Jvm.MethodName)) ∈ a_gw := a_gwI 1413 (by decide +kernel) rfl
theorem tw_1414 : (Cond.selects "LoafFallModel" ({ cls := "LoafFallModel", name := "cut", desc := "(I)I" } : Jvm.MethodName) ({ cls := "LoafFallModel", name := "cut", desc := "(I)I" } : Jvm.MethodName)) ∈ a_gw := a_gwI 1414 (by decide +kernel) rfl
theorem tw_1415 : (Cond.code ({ cls := "LoafFallModel", name := "cut", desc := "(I)I" } : Jvm.MethodName) prog_14_method_77_code (3 : Nat) (Option.some Jvm.ClassFile.FieldType.int)) ∈ a_gw := a_gwI 1415 (by decide +kernel) rfl
theorem tw_1416 : (Cond.methodLink "LoafFallModel" (253 : Nat) ({ cls := "LoafFallModel", name := "cutOf", desc := "(I)I" } : Jvm.MethodName)) ∈ a_gw := a_gwI 1416 (by decide +kernel) rfl
theorem tw_1418 : (Cond.instanceMethod ({ cls := "LoafFallModel", name := "cutOf", desc := "(I)I" } : Jvm.MethodName)) ∈ a_gw := a_gwI 1418 (by decide +kernel) rfl
theorem tw_1419 : (Cond.code ({ cls := "LoafFallModel", name := "cutOf", desc := "(I)I" } : Jvm.MethodName) prog_14_method_76_code (2 : Nat) (Option.some Jvm.ClassFile.FieldType.int)) ∈ a_gw := a_gwI 1419 (by decide +kernel) rfl
theorem tw_1420 : (Cond.methodLink "LoafFallLaw" (114 : Nat) ({ cls := "LoafFallModel", name := "rests", desc := "(I)I" } : Jvm.MethodName)) ∈ a_gw := a_gwI 1420 (by decide +kernel) rfl
theorem tw_1421 : (Cond.instanceMethod ({ cls := "LoafFallModel", name := "rests", desc := "(I)I" } : Jvm.MethodName)) ∈ a_gw := a_gwI 1421 (by decide +kernel) rfl
theorem tw_1422 : (Cond.selects "LoafFallModel" ({ cls := "LoafFallModel", name := "rests", desc := "(I)I" } : Jvm.MethodName) ({ cls := "LoafFallModel", name := "rests", desc := "(I)I" } : Jvm.MethodName)) ∈ a_gw := a_gwI 1422 (by decide +kernel) rfl
theorem tw_1423 : (Cond.code ({ cls := "LoafFallModel", name := "rests", desc := "(I)I" } : Jvm.MethodName) prog_14_method_78_code (4 : Nat) (Option.some Jvm.ClassFile.FieldType.int)) ∈ a_gw := a_gwI 1423 (by decide +kernel) rfl
theorem tw_1424 : (Cond.methodLink "LoafFallLaw" (118 : Nat) ({ cls := "LoafFallModel", name := "why", desc := "(I)I" } : Jvm.MethodName)) ∈ a_gw := a_gwI 1424 (by decide +kernel) rfl
theorem tw_1425 : (Cond.instanceMethod ({ cls := "LoafFallModel", name := "why", desc := "(I)I" } : Jvm.MethodName)) ∈ a_gw := a_gwI 1425 (by decide +kernel) rfl
theorem tw_1426 : (Cond.selects "LoafFallModel" ({ cls := "LoafFallModel", name := "why", desc := "(I)I" } : Jvm.MethodName) ({ cls := "LoafFallModel", name := "why", desc := "(I)I" } : Jvm.MethodName)) ∈ a_gw := a_gwI 1426 (by decide +kernel) rfl
theorem tw_1427 : (Cond.code ({ cls := "LoafFallModel", name := "why", desc := "(I)I" } : Jvm.MethodName) prog_14_method_86_code (4 : Nat) (Option.some Jvm.ClassFile.FieldType.int)) ∈ a_gw := a_gwI 1427 (by decide +kernel) rfl
theorem tw_1428 : (Cond.methodLink "LoafFallModel" (269 : Nat) ({ cls := "LoafFallModel", name := "needPairs", desc := "(I)I" } : Jvm.MethodName)) ∈ a_gw := a_gwI 1428 (by decide +kernel) rfl
theorem tw_1430 : (Cond.instanceMethod ({ cls := "LoafFallModel", name := "needPairs", desc := "(I)I" } : Jvm.MethodName)) ∈ a_gw := a_gwI 1430 (by decide +kernel) rfl
theorem tw_1431 : (Cond.code ({ cls := "LoafFallModel", name := "needPairs", desc := "(I)I" } : Jvm.MethodName) prog_14_method_84_code (6 : Nat) (Option.some Jvm.ClassFile.FieldType.int)) ∈ a_gw := a_gwI 1431 (by decide +kernel) rfl
theorem tw_1432 : (Cond.methodLink "LoafFallModel" (256 : Nat) ({ cls := "LoafFallModel", name := "needCut", desc := "(IZ)I" } : Jvm.MethodName)) ∈ a_gw := a_gwI 1432 (by decide +kernel) rfl
theorem tw_1434 : (Cond.instanceMethod ({ cls := "LoafFallModel", name := "needCut", desc := "(IZ)I" } : Jvm.MethodName)) ∈ a_gw := a_gwI 1434 (by decide +kernel) rfl
theorem tw_1435 : (Cond.code ({ cls := "LoafFallModel", name := "needCut", desc := "(IZ)I" } : Jvm.MethodName) prog_14_method_82_code (5 : Nat) (Option.some Jvm.ClassFile.FieldType.int)) ∈ a_gw := a_gwI 1435 (by decide +kernel) rfl
theorem tw_1436 : (Cond.methodLink "LoafFallModel" (260 : Nat) ({ cls := "LoafFallModel", name := "layBoth", desc := "(II)V" } : Jvm.MethodName)) ∈ a_gw := a_gwI 1436 (by decide +kernel) rfl
theorem tw_1438 : (Cond.instanceMethod ({ cls := "LoafFallModel", name := "layBoth", desc := "(II)V" } : Jvm.MethodName)) ∈ a_gw := a_gwI 1438 (by decide +kernel) rfl
theorem tw_1439 : (Cond.code ({ cls := "LoafFallModel", name := "layBoth", desc := "(II)V" } : Jvm.MethodName) prog_14_method_80_code (3 : Nat) (Option.none : Option Jvm.ClassFile.FieldType)) ∈ a_gw := a_gwI 1439 (by decide +kernel) rfl
theorem tw_1440 : (Cond.methodLink "LoafFallModel" (263 : Nat) ({ cls := "LoafFallModel", name := "bakes", desc := "()V" } : Jvm.MethodName)) ∈ a_gw := a_gwI 1440 (by decide +kernel) rfl
theorem tw_1442 : (Cond.instanceMethod ({ cls := "LoafFallModel", name := "bakes", desc := "()V" } : Jvm.MethodName)) ∈ a_gw := a_gwI 1442 (by decide +kernel) rfl
theorem tw_1443 : (Cond.code ({ cls := "LoafFallModel", name := "bakes", desc := "()V" } : Jvm.MethodName) prog_14_method_79_code (1 : Nat) (Option.none : Option Jvm.ClassFile.FieldType)) ∈ a_gw := a_gwI 1443 (by decide +kernel) rfl
theorem tw_1444 : (Cond.methodLink "LoafFallModel" (266 : Nat) ({ cls := "LoafFallModel", name := "unlike", desc := "(I)I" } : Jvm.MethodName)) ∈ a_gw := a_gwI 1444 (by decide +kernel) rfl
theorem tw_1446 : (Cond.instanceMethod ({ cls := "LoafFallModel", name := "unlike", desc := "(I)I" } : Jvm.MethodName)) ∈ a_gw := a_gwI 1446 (by decide +kernel) rfl
theorem tw_1447 : (Cond.code ({ cls := "LoafFallModel", name := "unlike", desc := "(I)I" } : Jvm.MethodName) prog_14_method_83_code (4 : Nat) (Option.some Jvm.ClassFile.FieldType.int)) ∈ a_gw := a_gwI 1447 (by decide +kernel) rfl
theorem tw_1448 : (Cond.methodLink "LoafFallModel" (272 : Nat) ({ cls := "LoafFallModel", name := "leastPair", desc := "()I" } : Jvm.MethodName)) ∈ a_gw := a_gwI 1448 (by decide +kernel) rfl
theorem tw_1450 : (Cond.instanceMethod ({ cls := "LoafFallModel", name := "leastPair", desc := "()I" } : Jvm.MethodName)) ∈ a_gw := a_gwI 1450 (by decide +kernel) rfl
theorem tw_1451 : (Cond.code ({ cls := "LoafFallModel", name := "leastPair", desc := "()I" } : Jvm.MethodName) prog_14_method_85_code (3 : Nat) (Option.some Jvm.ClassFile.FieldType.int)) ∈ a_gw := a_gwI 1451 (by decide +kernel) rfl
theorem tw_1452 : (Cond.methodLink "LoafFallLaw" (122 : Nat) ({ cls := "LoafFallModel", name := "odds", desc := "(II)I" } : Jvm.MethodName)) ∈ a_gw := a_gwI 1452 (by decide +kernel) rfl
theorem tw_1453 : (Cond.instanceMethod ({ cls := "LoafFallModel", name := "odds", desc := "(II)I" } : Jvm.MethodName)) ∈ a_gw := a_gwI 1453 (by decide +kernel) rfl
theorem tw_1454 : (Cond.selects "LoafFallModel" ({ cls := "LoafFallModel", name := "odds", desc := "(II)I" } : Jvm.MethodName) ({ cls := "LoafFallModel", name := "odds", desc := "(II)I" } : Jvm.MethodName)) ∈ a_gw := a_gwI 1454 (by decide +kernel) rfl
theorem tw_1455 : (Cond.code ({ cls := "LoafFallModel", name := "odds", desc := "(II)I" } : Jvm.MethodName) prog_14_method_87_code (8 : Nat) (Option.some Jvm.ClassFile.FieldType.int)) ∈ a_gw := a_gwI 1455 (by decide +kernel) rfl
theorem tw_1456 : (Cond.methodLink "LoafFallModel" (275 : Nat) ({ cls := "LoafFallModel", name := "fraction", desc := "(JJI)I" } : Jvm.MethodName)) ∈ a_gw := a_gwI 1456 (by decide +kernel) rfl
theorem tw_1458 : (Cond.instanceMethod ({ cls := "LoafFallModel", name := "fraction", desc := "(JJI)I" } : Jvm.MethodName)) ∈ a_gw := a_gwI 1458 (by decide +kernel) rfl
theorem tw_1459 : (Cond.code ({ cls := "LoafFallModel", name := "fraction", desc := "(JJI)I" } : Jvm.MethodName) prog_14_method_11_code (12 : Nat) (Option.some Jvm.ClassFile.FieldType.int)) ∈ a_gw := a_gwI 1459 (by decide +kernel) rfl
theorem tw_1460 : (Cond.methodLink "LoafFallLaw" (126 : Nat) ({ cls := "LoafFallModel", name := "sprout", desc := "(III)I" } : Jvm.MethodName)) ∈ a_gw := a_gwI 1460 (by decide +kernel) rfl
theorem tw_1461 : (Cond.instanceMethod ({ cls := "LoafFallModel", name := "sprout", desc := "(III)I" } : Jvm.MethodName)) ∈ a_gw := a_gwI 1461 (by decide +kernel) rfl
theorem tw_1462 : (Cond.selects "LoafFallModel" ({ cls := "LoafFallModel", name := "sprout", desc := "(III)I" } : Jvm.MethodName) ({ cls := "LoafFallModel", name := "sprout", desc := "(III)I" } : Jvm.MethodName)) ∈ a_gw := a_gwI 1462 (by decide +kernel) rfl
theorem tw_1463 : (Cond.code ({ cls := "LoafFallModel", name := "sprout", desc := "(III)I" } : Jvm.MethodName) prog_14_method_89_code (9 : Nat) (Option.some Jvm.ClassFile.FieldType.int)) ∈ a_gw := a_gwI 1463 (by decide +kernel) rfl
theorem tw_1464 : (Cond.methodLink "LoafFallModel" (279 : Nat) ({ cls := "LoafFallModel", name := "needBoth", desc := "(III)I" } : Jvm.MethodName)) ∈ a_gw := a_gwI 1464 (by decide +kernel) rfl
theorem tw_1466 : (Cond.instanceMethod ({ cls := "LoafFallModel", name := "needBoth", desc := "(III)I" } : Jvm.MethodName)) ∈ a_gw := a_gwI 1466 (by decide +kernel) rfl
theorem tw_1467 : (Cond.code ({ cls := "LoafFallModel", name := "needBoth", desc := "(III)I" } : Jvm.MethodName) prog_14_method_88_code (4 : Nat) (Option.some Jvm.ClassFile.FieldType.int)) ∈ a_gw := a_gwI 1467 (by decide +kernel) rfl
theorem tw_1468 : (Cond.methodLink "LoafFallLaw" (130 : Nat) ({ cls := "LoafFallModel", name := "rack", desc := "(III)I" } : Jvm.MethodName)) ∈ a_gw := a_gwI 1468 (by decide +kernel) rfl
theorem tw_1469 : (Cond.instanceMethod ({ cls := "LoafFallModel", name := "rack", desc := "(III)I" } : Jvm.MethodName)) ∈ a_gw := a_gwI 1469 (by decide +kernel) rfl
theorem tw_1470 : (Cond.selects "LoafFallModel" ({ cls := "LoafFallModel", name := "rack", desc := "(III)I" } : Jvm.MethodName) ({ cls := "LoafFallModel", name := "rack", desc := "(III)I" } : Jvm.MethodName)) ∈ a_gw := a_gwI 1470 (by decide +kernel) rfl
theorem tw_1471 : (Cond.code ({ cls := "LoafFallModel", name := "rack", desc := "(III)I" } : Jvm.MethodName) prog_14_method_91_code (10 : Nat) (Option.some Jvm.ClassFile.FieldType.int)) ∈ a_gw := a_gwI 1471 (by decide +kernel) rfl
theorem tw_1472 : (Cond.methodLink "LoafFallModel" (283 : Nat) ({ cls := "LoafFallModel", name := "shiftOvens", desc := "(I)V" } : Jvm.MethodName)) ∈ a_gw := a_gwI 1472 (by decide +kernel) rfl
theorem tw_1474 : (Cond.instanceMethod ({ cls := "LoafFallModel", name := "shiftOvens", desc := "(I)V" } : Jvm.MethodName)) ∈ a_gw := a_gwI 1474 (by decide +kernel) rfl
theorem tw_1475 : (Cond.code ({ cls := "LoafFallModel", name := "shiftOvens", desc := "(I)V" } : Jvm.MethodName) prog_14_method_90_code (3 : Nat) (Option.none : Option Jvm.ClassFile.FieldType)) ∈ a_gw := a_gwI 1475 (by decide +kernel) rfl
theorem tw_1476 : (Cond.methodLink "LoafFallLaw" (134 : Nat) ({ cls := "LoafFallModel", name := "change", desc := "()I" } : Jvm.MethodName)) ∈ a_gw := a_gwI 1476 (by decide +kernel) rfl
theorem tw_1477 : (Cond.instanceMethod ({ cls := "LoafFallModel", name := "change", desc := "()I" } : Jvm.MethodName)) ∈ a_gw := a_gwI 1477 (by decide +kernel) rfl
theorem tw_1478 : (Cond.selects "LoafFallModel" ({ cls := "LoafFallModel", name := "change", desc := "()I" } : Jvm.MethodName) ({ cls := "LoafFallModel", name := "change", desc := "()I" } : Jvm.MethodName)) ∈ a_gw := a_gwI 1478 (by decide +kernel) rfl
theorem tw_1479 : (Cond.code ({ cls := "LoafFallModel", name := "change", desc := "()I" } : Jvm.MethodName) prog_14_method_96_code (4 : Nat) (Option.some Jvm.ClassFile.FieldType.int)) ∈ a_gw := a_gwI 1479 (by decide +kernel) rfl
theorem tw_1480 : (Cond.methodLink "LoafFallModel" (289 : Nat) ({ cls := "LoafFallModel", name := "layOwn", desc := "()V" } : Jvm.MethodName)) ∈ a_gw := a_gwI 1480 (by decide +kernel) rfl
theorem tw_1482 : (Cond.instanceMethod ({ cls := "LoafFallModel", name := "layOwn", desc := "()V" } : Jvm.MethodName)) ∈ a_gw := a_gwI 1482 (by decide +kernel) rfl
theorem tw_1483 : (Cond.code ({ cls := "LoafFallModel", name := "layOwn", desc := "()V" } : Jvm.MethodName) prog_14_method_81_code (1 : Nat) (Option.none : Option Jvm.ClassFile.FieldType)) ∈ a_gw := a_gwI 1483 (by decide +kernel) rfl
theorem tw_1484 : (Cond.methodLink "LoafFallModel" (292 : Nat) ({ cls := "LoafFallModel", name := "canChange", desc := "(I)Z" } : Jvm.MethodName)) ∈ a_gw := a_gwI 1484 (by decide +kernel) rfl
theorem tw_1486 : (Cond.instanceMethod ({ cls := "LoafFallModel", name := "canChange", desc := "(I)Z" } : Jvm.MethodName)) ∈ a_gw := a_gwI 1486 (by decide +kernel) rfl
theorem tw_1487 : (Cond.code ({ cls := "LoafFallModel", name := "canChange", desc := "(I)Z" } : Jvm.MethodName) prog_14_method_94_code (8 : Nat) (Option.some Jvm.ClassFile.FieldType.boolean)) ∈ a_gw := a_gwI 1487 (by decide +kernel) rfl
theorem tw_1488 : (Cond.methodLink "LoafFallModel" (286 : Nat) ({ cls := "LoafFallModel", name := "leaveOut", desc := "(I)V" } : Jvm.MethodName)) ∈ a_gw := a_gwI 1488 (by decide +kernel) rfl
theorem tw_1490 : (Cond.instanceMethod ({ cls := "LoafFallModel", name := "leaveOut", desc := "(I)V" } : Jvm.MethodName)) ∈ a_gw := a_gwI 1490 (by decide +kernel) rfl
theorem tw_1491 : (Cond.code ({ cls := "LoafFallModel", name := "leaveOut", desc := "(I)V" } : Jvm.MethodName) prog_14_method_95_code (3 : Nat) (Option.none : Option Jvm.ClassFile.FieldType)) ∈ a_gw := a_gwI 1491 (by decide +kernel) rfl
theorem tw_1492 : (Cond.methodLink "LoafFallLaw" (138 : Nat) ({ cls := "LoafFallModel", name := "changes", desc := "()I" } : Jvm.MethodName)) ∈ a_gw := a_gwI 1492 (by decide +kernel) rfl
theorem tw_1493 : (Cond.instanceMethod ({ cls := "LoafFallModel", name := "changes", desc := "()I" } : Jvm.MethodName)) ∈ a_gw := a_gwI 1493 (by decide +kernel) rfl
theorem tw_1494 : (Cond.selects "LoafFallModel" ({ cls := "LoafFallModel", name := "changes", desc := "()I" } : Jvm.MethodName) ({ cls := "LoafFallModel", name := "changes", desc := "()I" } : Jvm.MethodName)) ∈ a_gw := a_gwI 1494 (by decide +kernel) rfl
theorem tw_1495 : (Cond.code ({ cls := "LoafFallModel", name := "changes", desc := "()I" } : Jvm.MethodName) prog_14_method_97_code (5 : Nat) (Option.some Jvm.ClassFile.FieldType.int)) ∈ a_gw := a_gwI 1495 (by decide +kernel) rfl
theorem tw_1496 : (Cond.methodLink "LoafFallModel" (295 : Nat) ({ cls := "LoafFallModel", name := "keepDoing", desc := "()V" } : Jvm.MethodName)) ∈ a_gw := a_gwI 1496 (by decide +kernel) rfl
theorem tw_1498 : (Cond.instanceMethod ({ cls := "LoafFallModel", name := "keepDoing", desc := "()V" } : Jvm.MethodName)) ∈ a_gw := a_gwI 1498 (by decide +kernel) rfl
theorem tw_1499 : (Cond.code ({ cls := "LoafFallModel", name := "keepDoing", desc := "()V" } : Jvm.MethodName) prog_14_method_92_code (2 : Nat) (Option.none : Option Jvm.ClassFile.FieldType)) ∈ a_gw := a_gwI 1499 (by decide +kernel) rfl
theorem tw_1500 : (Cond.methodLink "LoafFallModel" (298 : Nat) ({ cls := "LoafFallModel", name := "backDoing", desc := "()V" } : Jvm.MethodName)) ∈ a_gw := a_gwI 1500 (by decide +kernel) rfl
theorem tw_1502 : (Cond.instanceMethod ({ cls := "LoafFallModel", name := "backDoing", desc := "()V" } : Jvm.MethodName)) ∈ a_gw := a_gwI 1502 (by decide +kernel) rfl
theorem tw_1503 : (Cond.code ({ cls := "LoafFallModel", name := "backDoing", desc := "()V" } : Jvm.MethodName) prog_14_method_93_code (2 : Nat) (Option.none : Option Jvm.ClassFile.FieldType)) ∈ a_gw := a_gwI 1503 (by decide +kernel) rfl
theorem tw_1504 : (Cond.methodLink "LoafFallLaw" (142 : Nat) ({ cls := "LoafFallModel", name := "wide", desc := "(I)I" } : Jvm.MethodName)) ∈ a_gw := a_gwI 1504 (by decide +kernel) rfl
theorem tw_1505 : (Cond.instanceMethod ({ cls := "LoafFallModel", name := "wide", desc := "(I)I" } : Jvm.MethodName)) ∈ a_gw := a_gwI 1505 (by decide +kernel) rfl
theorem tw_1506 : (Cond.selects "LoafFallModel" ({ cls := "LoafFallModel", name := "wide", desc := "(I)I" } : Jvm.MethodName) ({ cls := "LoafFallModel", name := "wide", desc := "(I)I" } : Jvm.MethodName)) ∈ a_gw := a_gwI 1506 (by decide +kernel) rfl
theorem tw_1507 : (Cond.code ({ cls := "LoafFallModel", name := "wide", desc := "(I)I" } : Jvm.MethodName) prog_14_method_99_code (5 : Nat) (Option.some Jvm.ClassFile.FieldType.int)) ∈ a_gw := a_gwI 1507 (by decide +kernel) rfl
theorem tw_1508 : (Cond.methodLink "LoafFallModel" (301 : Nat) ({ cls := "LoafFallModel", name := "turnsOf", desc := "(II)Z" } : Jvm.MethodName)) ∈ a_gw := a_gwI 1508 (by decide +kernel) rfl
theorem tw_1510 : (Cond.instanceMethod ({ cls := "LoafFallModel", name := "turnsOf", desc := "(II)Z" } : Jvm.MethodName)) ∈ a_gw := a_gwI 1510 (by decide +kernel) rfl
theorem tw_1511 : (Cond.code ({ cls := "LoafFallModel", name := "turnsOf", desc := "(II)Z" } : Jvm.MethodName) prog_14_method_98_code (4 : Nat) (Option.some Jvm.ClassFile.FieldType.boolean)) ∈ a_gw := a_gwI 1511 (by decide +kernel) rfl
theorem tw_1512 : (Cond.methodLink "LoafFallLaw" (146 : Nat) ({ cls := "LoafFallModel", name := "flours", desc := "(I)I" } : Jvm.MethodName)) ∈ a_gw := a_gwI 1512 (by decide +kernel) rfl
theorem tw_1513 : (Cond.instanceMethod ({ cls := "LoafFallModel", name := "flours", desc := "(I)I" } : Jvm.MethodName)) ∈ a_gw := a_gwI 1513 (by decide +kernel) rfl
theorem tw_1514 : (Cond.selects "LoafFallModel" ({ cls := "LoafFallModel", name := "flours", desc := "(I)I" } : Jvm.MethodName) ({ cls := "LoafFallModel", name := "flours", desc := "(I)I" } : Jvm.MethodName)) ∈ a_gw := a_gwI 1514 (by decide +kernel) rfl
theorem tw_1515 : (Cond.code ({ cls := "LoafFallModel", name := "flours", desc := "(I)I" } : Jvm.MethodName) prog_14_method_100_code (7 : Nat) (Option.some Jvm.ClassFile.FieldType.int)) ∈ a_gw := a_gwI 1515 (by decide +kernel) rfl
theorem tw_1516 : (Cond.methodLink "LoafFallLaw" (150 : Nat) ({ cls := "LoafFallModel", name := "begin", desc := "(I)I" } : Jvm.MethodName)) ∈ a_gw := a_gwI 1516 (by decide +kernel) rfl
theorem tw_1517 : (Cond.instanceMethod ({ cls := "LoafFallModel", name := "begin", desc := "(I)I" } : Jvm.MethodName)) ∈ a_gw := a_gwI 1517 (by decide +kernel) rfl
theorem tw_1518 : (Cond.selects "LoafFallModel" ({ cls := "LoafFallModel", name := "begin", desc := "(I)I" } : Jvm.MethodName) ({ cls := "LoafFallModel", name := "begin", desc := "(I)I" } : Jvm.MethodName)) ∈ a_gw := a_gwI 1518 (by decide +kernel) rfl
theorem tw_1519 : (Cond.code ({ cls := "LoafFallModel", name := "begin", desc := "(I)I" } : Jvm.MethodName) prog_14_method_102_code (8 : Nat) (Option.some Jvm.ClassFile.FieldType.int)) ∈ a_gw := a_gwI 1519 (by decide +kernel) rfl
theorem tw_1520 : (Cond.methodLink "LoafFallModel" (304 : Nat) ({ cls := "LoafFallModel", name := "find", desc := "(IZ)I" } : Jvm.MethodName)) ∈ a_gw := a_gwI 1520 (by decide +kernel) rfl
theorem tw_1522 : (Cond.instanceMethod ({ cls := "LoafFallModel", name := "find", desc := "(IZ)I" } : Jvm.MethodName)) ∈ a_gw := a_gwI 1522 (by decide +kernel) rfl
theorem tw_1523 : (Cond.code ({ cls := "LoafFallModel", name := "find", desc := "(IZ)I" } : Jvm.MethodName) prog_14_method_101_code (5 : Nat) (Option.some Jvm.ClassFile.FieldType.int)) ∈ a_gw := a_gwI 1523 (by decide +kernel) rfl
theorem tw_1524 : (Cond.methodLink "LoafFallLaw" (154 : Nat) ({ cls := "LoafFallModel", name := "oven", desc := "(I)I" } : Jvm.MethodName)) ∈ a_gw := a_gwI 1524 (by decide +kernel) rfl
theorem tw_1525 : (Cond.instanceMethod ({ cls := "LoafFallModel", name := "oven", desc := "(I)I" } : Jvm.MethodName)) ∈ a_gw := a_gwI 1525 (by decide +kernel) rfl
theorem tw_1526 : (Cond.selects "LoafFallModel" ({ cls := "LoafFallModel", name := "oven", desc := "(I)I" } : Jvm.MethodName) ({ cls := "LoafFallModel", name := "oven", desc := "(I)I" } : Jvm.MethodName)) ∈ a_gw := a_gwI 1526 (by decide +kernel) rfl
theorem tw_1527 : (Cond.code ({ cls := "LoafFallModel", name := "oven", desc := "(I)I" } : Jvm.MethodName) prog_14_method_103_code (8 : Nat) (Option.some Jvm.ClassFile.FieldType.int)) ∈ a_gw := a_gwI 1527 (by decide +kernel) rfl
theorem tw_1528 : (Cond.methodLink "LoafFallModel" (307 : Nat) ({ cls := "LoafFallModel", name := "off", desc := "(II)I" } : Jvm.MethodName)) ∈ a_gw := a_gwI 1528 (by decide +kernel) rfl
theorem tw_1529 : (Cond.static ({ cls := "LoafFallModel", name := "off", desc := "(II)I" } : Jvm.MethodName)) ∈ a_gw := a_gwI 1529 (by decide +kernel) rfl
theorem tw_1530 : (Cond.code ({ cls := "LoafFallModel", name := "off", desc := "(II)I" } : Jvm.MethodName) prog_14_method_5_code (2 : Nat) (Option.some Jvm.ClassFile.FieldType.int)) ∈ a_gw := a_gwI 1530 (by decide +kernel) rfl
theorem tw_1531 : (Cond.methodLink "LoafFallLaw" (158 : Nat) ({ cls := "LoafFallModel", name := "even", desc := "()I" } : Jvm.MethodName)) ∈ a_gw := a_gwI 1531 (by decide +kernel) rfl
theorem tw_1532 : (Cond.instanceMethod ({ cls := "LoafFallModel", name := "even", desc := "()I" } : Jvm.MethodName)) ∈ a_gw := a_gwI 1532 (by decide +kernel) rfl
theorem tw_1533 : (Cond.selects "LoafFallModel" ({ cls := "LoafFallModel", name := "even", desc := "()I" } : Jvm.MethodName) ({ cls := "LoafFallModel", name := "even", desc := "()I" } : Jvm.MethodName)) ∈ a_gw := a_gwI 1533 (by decide +kernel) rfl
theorem tw_1534 : (Cond.code ({ cls := "LoafFallModel", name := "even", desc := "()I" } : Jvm.MethodName) prog_14_method_104_code (8 : Nat) (Option.some Jvm.ClassFile.FieldType.int)) ∈ a_gw := a_gwI 1534 (by decide +kernel) rfl
theorem tw_1535 : (Cond.methodLink "LoafFallLaw" (162 : Nat) ({ cls := "LoafFallModel", name := "slip", desc := "(II)I" } : Jvm.MethodName)) ∈ a_gw := a_gwI 1535 (by decide +kernel) rfl
theorem tw_1536 : (Cond.instanceMethod ({ cls := "LoafFallModel", name := "slip", desc := "(II)I" } : Jvm.MethodName)) ∈ a_gw := a_gwI 1536 (by decide +kernel) rfl
theorem tw_1537 : (Cond.selects "LoafFallModel" ({ cls := "LoafFallModel", name := "slip", desc := "(II)I" } : Jvm.MethodName) ({ cls := "LoafFallModel", name := "slip", desc := "(II)I" } : Jvm.MethodName)) ∈ a_gw := a_gwI 1537 (by decide +kernel) rfl
theorem tw_1538 : (Cond.code ({ cls := "LoafFallModel", name := "slip", desc := "(II)I" } : Jvm.MethodName) prog_14_method_105_code (3 : Nat) (Option.some Jvm.ClassFile.FieldType.int)) ∈ a_gw := a_gwI 1538 (by decide +kernel) rfl
theorem tw_1539 : (Cond.methodLink "LoafFallLaw" (166 : Nat) ({ cls := "LoafFallModel", name := "told", desc := "(II)I" } : Jvm.MethodName)) ∈ a_gw := a_gwI 1539 (by decide +kernel) rfl
theorem tw_1540 : (Cond.instanceMethod ({ cls := "LoafFallModel", name := "told", desc := "(II)I" } : Jvm.MethodName)) ∈ a_gw := a_gwI 1540 (by decide +kernel) rfl
theorem tw_1541 : (Cond.selects "LoafFallModel" ({ cls := "LoafFallModel", name := "told", desc := "(II)I" } : Jvm.MethodName) ({ cls := "LoafFallModel", name := "told", desc := "(II)I" } : Jvm.MethodName)) ∈ a_gw := a_gwI 1541 (by decide +kernel) rfl
theorem tw_1542 : (Cond.code ({ cls := "LoafFallModel", name := "told", desc := "(II)I" } : Jvm.MethodName) prog_14_method_106_code (3 : Nat) (Option.some Jvm.ClassFile.FieldType.int)) ∈ a_gw := a_gwI 1542 (by decide +kernel) rfl
theorem tw_1543 : (Cond.methodLink "LoafFallLaw" (170 : Nat) ({ cls := "LoafFallModel", name := "law", desc := "(I)I" } : Jvm.MethodName)) ∈ a_gw := a_gwI 1543 (by decide +kernel) rfl
theorem tw_1544 : (Cond.instanceMethod ({ cls := "LoafFallModel", name := "law", desc := "(I)I" } : Jvm.MethodName)) ∈ a_gw := a_gwI 1544 (by decide +kernel) rfl
theorem tw_1545 : (Cond.selects "LoafFallModel" ({ cls := "LoafFallModel", name := "law", desc := "(I)I" } : Jvm.MethodName) ({ cls := "LoafFallModel", name := "law", desc := "(I)I" } : Jvm.MethodName)) ∈ a_gw := a_gwI 1545 (by decide +kernel) rfl
theorem tw_1546 : (Cond.code ({ cls := "LoafFallModel", name := "law", desc := "(I)I" } : Jvm.MethodName) prog_14_method_111_code (4 : Nat) (Option.some Jvm.ClassFile.FieldType.int)) ∈ a_gw := a_gwI 1546 (by decide +kernel) rfl
theorem tw_1547 : (Cond.methodLink "LoafFallModel" (319 : Nat) ({ cls := "LoafFallModel", name := "needLaws", desc := "(IZ)I" } : Jvm.MethodName)) ∈ a_gw := a_gwI 1547 (by decide +kernel) rfl
theorem tw_1549 : (Cond.instanceMethod ({ cls := "LoafFallModel", name := "needLaws", desc := "(IZ)I" } : Jvm.MethodName)) ∈ a_gw := a_gwI 1549 (by decide +kernel) rfl
theorem tw_1550 : (Cond.code ({ cls := "LoafFallModel", name := "needLaws", desc := "(IZ)I" } : Jvm.MethodName) prog_14_method_109_code (6 : Nat) (Option.some Jvm.ClassFile.FieldType.int)) ∈ a_gw := a_gwI 1550 (by decide +kernel) rfl
theorem tw_1551 : (Cond.methodLink "LoafFallModel" (313 : Nat) ({ cls := "LoafFallModel", name := "isSlipped", desc := "(I)Z" } : Jvm.MethodName)) ∈ a_gw := a_gwI 1551 (by decide +kernel) rfl
theorem tw_1553 : (Cond.instanceMethod ({ cls := "LoafFallModel", name := "isSlipped", desc := "(I)Z" } : Jvm.MethodName)) ∈ a_gw := a_gwI 1553 (by decide +kernel) rfl
theorem tw_1554 : (Cond.code ({ cls := "LoafFallModel", name := "isSlipped", desc := "(I)Z" } : Jvm.MethodName) prog_14_method_108_code (4 : Nat) (Option.some Jvm.ClassFile.FieldType.boolean)) ∈ a_gw := a_gwI 1554 (by decide +kernel) rfl
theorem tw_1555 : (Cond.methodLink "LoafFallModel" (316 : Nat) ({ cls := "LoafFallModel", name := "layLaw", desc := "(III)V" } : Jvm.MethodName)) ∈ a_gw := a_gwI 1555 (by decide +kernel) rfl
theorem tw_1557 : (Cond.instanceMethod ({ cls := "LoafFallModel", name := "layLaw", desc := "(III)V" } : Jvm.MethodName)) ∈ a_gw := a_gwI 1557 (by decide +kernel) rfl
theorem tw_1558 : (Cond.code ({ cls := "LoafFallModel", name := "layLaw", desc := "(III)V" } : Jvm.MethodName) prog_14_method_107_code (4 : Nat) (Option.none : Option Jvm.ClassFile.FieldType)) ∈ a_gw := a_gwI 1558 (by decide +kernel) rfl
theorem tw_1559 : (Cond.methodLink "LoafFallModel" (322 : Nat) ({ cls := "LoafFallModel", name := "leastLaw", desc := "()I" } : Jvm.MethodName)) ∈ a_gw := a_gwI 1559 (by decide +kernel) rfl
theorem tw_1561 : (Cond.instanceMethod ({ cls := "LoafFallModel", name := "leastLaw", desc := "()I" } : Jvm.MethodName)) ∈ a_gw := a_gwI 1561 (by decide +kernel) rfl
theorem tw_1562 : (Cond.code ({ cls := "LoafFallModel", name := "leastLaw", desc := "()I" } : Jvm.MethodName) prog_14_method_110_code (3 : Nat) (Option.some Jvm.ClassFile.FieldType.int)) ∈ a_gw := a_gwI 1562 (by decide +kernel) rfl
theorem tw_1563 : (Cond.methodLink "LoafFallLaw" (175 : Nat) ({ cls := "LoafFallModel", name := "spans", desc := "(IIIZ)I" } : Jvm.MethodName)) ∈ a_gw := a_gwI 1563 (by decide +kernel) rfl
theorem tw_1564 : (Cond.instanceMethod ({ cls := "LoafFallModel", name := "spans", desc := "(IIIZ)I" } : Jvm.MethodName)) ∈ a_gw := a_gwI 1564 (by decide +kernel) rfl
theorem tw_1565 : (Cond.selects "LoafFallModel" ({ cls := "LoafFallModel", name := "spans", desc := "(IIIZ)I" } : Jvm.MethodName) ({ cls := "LoafFallModel", name := "spans", desc := "(IIIZ)I" } : Jvm.MethodName)) ∈ a_gw := a_gwI 1565 (by decide +kernel) rfl
theorem tw_1566 : (Cond.code ({ cls := "LoafFallModel", name := "spans", desc := "(IIIZ)I" } : Jvm.MethodName) prog_14_method_112_code (11 : Nat) (Option.some Jvm.ClassFile.FieldType.int)) ∈ a_gw := a_gwI 1566 (by decide +kernel) rfl
theorem tw_1567 : (Cond.methodLink "LoafFallLaw" (179 : Nat) ({ cls := "LoafFallModel", name := "foretell", desc := "(II)I" } : Jvm.MethodName)) ∈ a_gw := a_gwI 1567 (by decide +kernel) rfl
theorem tw_1568 : (Cond.instanceMethod ({ cls := "LoafFallModel", name := "foretell", desc := "(II)I" } : Jvm.MethodName)) ∈ a_gw := a_gwI 1568 (by decide +kernel) rfl
theorem tw_1569 : (Cond.selects "LoafFallModel" ({ cls := "LoafFallModel", name := "foretell", desc := "(II)I" } : Jvm.MethodName) ({ cls := "LoafFallModel", name := "foretell", desc := "(II)I" } : Jvm.MethodName)) ∈ a_gw := a_gwI 1569 (by decide +kernel) rfl
theorem tw_1570 : (Cond.code ({ cls := "LoafFallModel", name := "foretell", desc := "(II)I" } : Jvm.MethodName) prog_14_method_113_code (4 : Nat) (Option.some Jvm.ClassFile.FieldType.int)) ∈ a_gw := a_gwI 1570 (by decide +kernel) rfl
theorem tw_1571 : (Cond.methodLink "LoafFallLaw" (196 : Nat) ({ cls := "LoafFallModel", name := "count", desc := "(I)I" } : Jvm.MethodName)) ∈ a_gw := a_gwI 1571 (by decide +kernel) rfl
theorem tw_1572 : (Cond.instanceMethod ({ cls := "LoafFallModel", name := "count", desc := "(I)I" } : Jvm.MethodName)) ∈ a_gw := a_gwI 1572 (by decide +kernel) rfl
theorem tw_1573 : (Cond.selects "LoafFallModel" ({ cls := "LoafFallModel", name := "count", desc := "(I)I" } : Jvm.MethodName) ({ cls := "LoafFallModel", name := "count", desc := "(I)I" } : Jvm.MethodName)) ∈ a_gw := a_gwI 1573 (by decide +kernel) rfl
theorem tw_1574 : (Cond.code ({ cls := "LoafFallModel", name := "count", desc := "(I)I" } : Jvm.MethodName) prog_14_method_115_code (2 : Nat) (Option.some Jvm.ClassFile.FieldType.int)) ∈ a_gw := a_gwI 1574 (by decide +kernel) rfl
theorem tw_1575 : (Cond.methodLink "LoafFallModel" (325 : Nat) ({ cls := "LoafFallModel", name := "counted", desc := "(I)I" } : Jvm.MethodName)) ∈ a_gw := a_gwI 1575 (by decide +kernel) rfl
theorem tw_1577 : (Cond.instanceMethod ({ cls := "LoafFallModel", name := "counted", desc := "(I)I" } : Jvm.MethodName)) ∈ a_gw := a_gwI 1577 (by decide +kernel) rfl
theorem tw_1578 : (Cond.code ({ cls := "LoafFallModel", name := "counted", desc := "(I)I" } : Jvm.MethodName) prog_14_method_114_code (4 : Nat) (Option.some Jvm.ClassFile.FieldType.int)) ∈ a_gw := a_gwI 1578 (by decide +kernel) rfl
theorem tw_1579 : (Cond.methodLink "LoafFallLaw" (208 : Nat) ({ cls := "LoafFallModel", name := "digest", desc := "()J" } : Jvm.MethodName)) ∈ a_gw := a_gwI 1579 (by decide +kernel) rfl
theorem tw_1580 : (Cond.instanceMethod ({ cls := "LoafFallModel", name := "digest", desc := "()J" } : Jvm.MethodName)) ∈ a_gw := a_gwI 1580 (by decide +kernel) rfl
theorem tw_1581 : (Cond.selects "LoafFallModel" ({ cls := "LoafFallModel", name := "digest", desc := "()J" } : Jvm.MethodName) ({ cls := "LoafFallModel", name := "digest", desc := "()J" } : Jvm.MethodName)) ∈ a_gw := a_gwI 1581 (by decide +kernel) rfl
theorem tw_1582 : (Cond.code ({ cls := "LoafFallModel", name := "digest", desc := "()J" } : Jvm.MethodName) prog_14_method_119_code (3 : Nat) (Option.some Jvm.ClassFile.FieldType.long)) ∈ a_gw := a_gwI 1582 (by decide +kernel) rfl
theorem tw_1583 : (Cond.constantLong "LoafFallModel" (339 : Nat) (17 : Int64)) ∈ a_gw := a_gwI 1583 (by decide +kernel) rfl
theorem tw_1584 : (Cond.methodLink "LoafFallModel" (335 : Nat) ({ cls := "LoafFallModel", name := "mix", desc := "(J)V" } : Jvm.MethodName)) ∈ a_gw := a_gwI 1584 (by decide +kernel) rfl
theorem tw_1586 : (Cond.instanceMethod ({ cls := "LoafFallModel", name := "mix", desc := "(J)V" } : Jvm.MethodName)) ∈ a_gw := a_gwI 1586 (by decide +kernel) rfl
theorem tw_1587 : (Cond.code ({ cls := "LoafFallModel", name := "mix", desc := "(J)V" } : Jvm.MethodName) prog_14_method_116_code (3 : Nat) (Option.none : Option Jvm.ClassFile.FieldType)) ∈ a_gw := a_gwI 1587 (by decide +kernel) rfl
theorem tw_1588 : (Cond.constantLong "LoafFallModel" (328 : Nat) (31 : Int64)) ∈ a_gw := a_gwI 1588 (by decide +kernel) rfl
