/-! ===== what holds at the law's entry ===== -/
theorem st_tb {w : Cond} (i : Nat) (h : tables_1[i]? = some w) : w ∈ lw_tbl := List.mem_append_right _ (List.mem_of_getElem? h)
theorem st_ac {args : Array Value} {s : State} {ty : FieldType} (h : (Cond.arrayClass ty).before args s = true) : ∃ cA : ClassId, ArrOfT s cA ty ∧ s.vm.findClass ("[" ++ ty.toString) = some cA := by
  obtain ⟨cA, kA, comp, h1, h2, h3⟩ := Cond.arrayClass_spec h
  exact ⟨cA, fun n z => ⟨fun k h => (by cases h), kA, h2, comp, h3⟩, h1⟩
theorem st_ao {args : Array Value} {s : State} {C : String} (h : (Cond.arrayOver (.object C)).before args s = true) : ∃ cA : ClassId, ArrOfT s cA (.object C) ∧ va_RA s cA (.object C) := by
  obtain ⟨comp, c, k, h1, h2, h3, h4, h5⟩ := Cond.arrayOver_spec h
  exact ⟨c, fun n z => ⟨fun k h => (by cases h), k, h3, comp, h4⟩, k, comp, h3, h4, h1, h5⟩
theorem il_X0_0 : u_lay RX0 TX0 0 ∈ lw_tbl := st_tb 255 (by decide +kernel)
theorem il_X0_1 : u_lay RX0 TX0 1 ∈ lw_tbl := st_tb 257 (by decide +kernel)
theorem il_X0_2 : u_lay RX0 TX0 2 ∈ lw_tbl := st_tb 259 (by decide +kernel)
theorem il_X0 : ∀ w ∈ u_ws RX0 TX0 3, w ∈ lw_tbl := by
  intro w hw
  obtain ⟨k, hk, rfl⟩ := List.mem_map.mp hw
  have hk := List.mem_range.mp hk
  match k, hk with
  | 0, _ => exact il_X0_0
  | 1, _ => exact il_X0_1
  | 2, _ => exact il_X0_2
  | k + 3, h => exact absurd h (by omega)
theorem in_X0 : Cond.instantiable RX0 3 ∈ lw_tbl := st_tb 242 (by decide +kernel)
theorem il_X1_0 : u_lay RX1 TX1 0 ∈ lw_tbl := st_tb 83 (by decide +kernel)
theorem il_X1_1 : u_lay RX1 TX1 1 ∈ lw_tbl := st_tb 85 (by decide +kernel)
theorem il_X1_2 : u_lay RX1 TX1 2 ∈ lw_tbl := st_tb 87 (by decide +kernel)
theorem il_X1_3 : u_lay RX1 TX1 3 ∈ lw_tbl := st_tb 89 (by decide +kernel)
theorem il_X1_4 : u_lay RX1 TX1 4 ∈ lw_tbl := st_tb 91 (by decide +kernel)
theorem il_X1 : ∀ w ∈ u_ws RX1 TX1 5, w ∈ lw_tbl := by
  intro w hw
  obtain ⟨k, hk, rfl⟩ := List.mem_map.mp hw
  have hk := List.mem_range.mp hk
  match k, hk with
  | 0, _ => exact il_X1_0
  | 1, _ => exact il_X1_1
  | 2, _ => exact il_X1_2
  | 3, _ => exact il_X1_3
  | 4, _ => exact il_X1_4
  | k + 5, h => exact absurd h (by omega)
theorem in_X1 : Cond.instantiable RX1 5 ∈ lw_tbl := st_tb 61 (by decide +kernel)
theorem il_X2_0 : u_lay RX2 TX2 0 ∈ lw_tbl := st_tb 127 (by decide +kernel)
theorem il_X2_1 : u_lay RX2 TX2 1 ∈ lw_tbl := st_tb 129 (by decide +kernel)
theorem il_X2_2 : u_lay RX2 TX2 2 ∈ lw_tbl := st_tb 131 (by decide +kernel)
theorem il_X2_3 : u_lay RX2 TX2 3 ∈ lw_tbl := st_tb 133 (by decide +kernel)
theorem il_X2_4 : u_lay RX2 TX2 4 ∈ lw_tbl := st_tb 135 (by decide +kernel)
theorem il_X2_5 : u_lay RX2 TX2 5 ∈ lw_tbl := st_tb 137 (by decide +kernel)
theorem il_X2_6 : u_lay RX2 TX2 6 ∈ lw_tbl := st_tb 139 (by decide +kernel)
theorem il_X2_7 : u_lay RX2 TX2 7 ∈ lw_tbl := st_tb 141 (by decide +kernel)
theorem il_X2_8 : u_lay RX2 TX2 8 ∈ lw_tbl := st_tb 143 (by decide +kernel)
theorem il_X2_9 : u_lay RX2 TX2 9 ∈ lw_tbl := st_tb 145 (by decide +kernel)
theorem il_X2 : ∀ w ∈ u_ws RX2 TX2 10, w ∈ lw_tbl := by
  intro w hw
  obtain ⟨k, hk, rfl⟩ := List.mem_map.mp hw
  have hk := List.mem_range.mp hk
  match k, hk with
  | 0, _ => exact il_X2_0
  | 1, _ => exact il_X2_1
  | 2, _ => exact il_X2_2
  | 3, _ => exact il_X2_3
  | 4, _ => exact il_X2_4
  | 5, _ => exact il_X2_5
  | 6, _ => exact il_X2_6
  | 7, _ => exact il_X2_7
  | 8, _ => exact il_X2_8
  | 9, _ => exact il_X2_9
  | k + 10, h => exact absurd h (by omega)
theorem in_X2 : Cond.instantiable RX2 10 ∈ lw_tbl := st_tb 95 (by decide +kernel)
theorem il_X3_0 : u_lay RX3 TX3 0 ∈ lw_tbl := st_tb 161 (by decide +kernel)
theorem il_X3_1 : u_lay RX3 TX3 1 ∈ lw_tbl := st_tb 163 (by decide +kernel)
theorem il_X3_2 : u_lay RX3 TX3 2 ∈ lw_tbl := st_tb 165 (by decide +kernel)
theorem il_X3_3 : u_lay RX3 TX3 3 ∈ lw_tbl := st_tb 167 (by decide +kernel)
theorem il_X3_4 : u_lay RX3 TX3 4 ∈ lw_tbl := st_tb 169 (by decide +kernel)
theorem il_X3 : ∀ w ∈ u_ws RX3 TX3 5, w ∈ lw_tbl := by
  intro w hw
  obtain ⟨k, hk, rfl⟩ := List.mem_map.mp hw
  have hk := List.mem_range.mp hk
  match k, hk with
  | 0, _ => exact il_X3_0
  | 1, _ => exact il_X3_1
  | 2, _ => exact il_X3_2
  | 3, _ => exact il_X3_3
  | 4, _ => exact il_X3_4
  | k + 5, h => exact absurd h (by omega)
theorem in_X3 : Cond.instantiable RX3 5 ∈ lw_tbl := st_tb 149 (by decide +kernel)
theorem il_X4_0 : u_lay RX4 TX4 0 ∈ lw_tbl := st_tb 54 (by decide +kernel)
theorem il_X4_1 : u_lay RX4 TX4 1 ∈ lw_tbl := st_tb 56 (by decide +kernel)
theorem il_X4 : ∀ w ∈ u_ws RX4 TX4 2, w ∈ lw_tbl := by
  intro w hw
  obtain ⟨k, hk, rfl⟩ := List.mem_map.mp hw
  have hk := List.mem_range.mp hk
  match k, hk with
  | 0, _ => exact il_X4_0
  | 1, _ => exact il_X4_1
  | k + 2, h => exact absurd h (by omega)
theorem in_X4 : Cond.instantiable RX4 2 ∈ lw_tbl := st_tb 41 (by decide +kernel)
theorem il_X5_0 : u_lay RX5 TX5 0 ∈ lw_tbl := st_tb 275 (by decide +kernel)
theorem il_X5_1 : u_lay RX5 TX5 1 ∈ lw_tbl := st_tb 277 (by decide +kernel)
theorem il_X5_2 : u_lay RX5 TX5 2 ∈ lw_tbl := st_tb 279 (by decide +kernel)
theorem il_X5_3 : u_lay RX5 TX5 3 ∈ lw_tbl := st_tb 281 (by decide +kernel)
theorem il_X5_4 : u_lay RX5 TX5 4 ∈ lw_tbl := st_tb 283 (by decide +kernel)
theorem il_X5 : ∀ w ∈ u_ws RX5 TX5 5, w ∈ lw_tbl := by
  intro w hw
  obtain ⟨k, hk, rfl⟩ := List.mem_map.mp hw
  have hk := List.mem_range.mp hk
  match k, hk with
  | 0, _ => exact il_X5_0
  | 1, _ => exact il_X5_1
  | 2, _ => exact il_X5_2
  | 3, _ => exact il_X5_3
  | 4, _ => exact il_X5_4
  | k + 5, h => exact absurd h (by omega)
theorem in_X5 : Cond.instantiable RX5 5 ∈ lw_tbl := st_tb 263 (by decide +kernel)
theorem il_X6_0 : u_lay RX6 TX6 0 ∈ lw_tbl := st_tb 185 (by decide +kernel)
theorem il_X6_1 : u_lay RX6 TX6 1 ∈ lw_tbl := st_tb 187 (by decide +kernel)
theorem il_X6_2 : u_lay RX6 TX6 2 ∈ lw_tbl := st_tb 189 (by decide +kernel)
theorem il_X6_3 : u_lay RX6 TX6 3 ∈ lw_tbl := st_tb 191 (by decide +kernel)
theorem il_X6_4 : u_lay RX6 TX6 4 ∈ lw_tbl := st_tb 193 (by decide +kernel)
theorem il_X6 : ∀ w ∈ u_ws RX6 TX6 5, w ∈ lw_tbl := by
  intro w hw
  obtain ⟨k, hk, rfl⟩ := List.mem_map.mp hw
  have hk := List.mem_range.mp hk
  match k, hk with
  | 0, _ => exact il_X6_0
  | 1, _ => exact il_X6_1
  | 2, _ => exact il_X6_2
  | 3, _ => exact il_X6_3
  | 4, _ => exact il_X6_4
  | k + 5, h => exact absurd h (by omega)
theorem in_X6 : Cond.instantiable RX6 5 ∈ lw_tbl := st_tb 35 (by decide +kernel)
theorem il_X7_0 : u_lay RX7 TX7 0 ∈ lw_tbl := st_tb 232 (by decide +kernel)
theorem il_X7_1 : u_lay RX7 TX7 1 ∈ lw_tbl := st_tb 234 (by decide +kernel)
theorem il_X7_2 : u_lay RX7 TX7 2 ∈ lw_tbl := st_tb 236 (by decide +kernel)
theorem il_X7_3 : u_lay RX7 TX7 3 ∈ lw_tbl := st_tb 238 (by decide +kernel)
theorem il_X7 : ∀ w ∈ u_ws RX7 TX7 4, w ∈ lw_tbl := by
  intro w hw
  obtain ⟨k, hk, rfl⟩ := List.mem_map.mp hw
  have hk := List.mem_range.mp hk
  match k, hk with
  | 0, _ => exact il_X7_0
  | 1, _ => exact il_X7_1
  | 2, _ => exact il_X7_2
  | 3, _ => exact il_X7_3
  | k + 4, h => exact absurd h (by omega)
theorem in_X7 : Cond.instantiable RX7 4 ∈ lw_tbl := st_tb 216 (by decide +kernel)
theorem il_X8_0 : u_lay RX8 TX8 0 ∈ lw_tbl := st_tb 299 (by decide +kernel)
theorem il_X8_1 : u_lay RX8 TX8 1 ∈ lw_tbl := st_tb 301 (by decide +kernel)
theorem il_X8 : ∀ w ∈ u_ws RX8 TX8 2, w ∈ lw_tbl := by
  intro w hw
  obtain ⟨k, hk, rfl⟩ := List.mem_map.mp hw
  have hk := List.mem_range.mp hk
  match k, hk with
  | 0, _ => exact il_X8_0
  | 1, _ => exact il_X8_1
  | k + 2, h => exact absurd h (by omega)
theorem in_X8 : Cond.instantiable RX8 2 ∈ lw_tbl := st_tb 289 (by decide +kernel)
theorem il_X9_0 : u_lay RX9 TX9 0 ∈ lw_tbl := st_tb 208 (by decide +kernel)
theorem il_X9_1 : u_lay RX9 TX9 1 ∈ lw_tbl := st_tb 210 (by decide +kernel)
theorem il_X9_2 : u_lay RX9 TX9 2 ∈ lw_tbl := st_tb 212 (by decide +kernel)
theorem il_X9 : ∀ w ∈ u_ws RX9 TX9 3, w ∈ lw_tbl := by
  intro w hw
  obtain ⟨k, hk, rfl⟩ := List.mem_map.mp hw
  have hk := List.mem_range.mp hk
  match k, hk with
  | 0, _ => exact il_X9_0
  | 1, _ => exact il_X9_1
  | 2, _ => exact il_X9_2
  | k + 3, h => exact absurd h (by omega)
theorem in_X9 : Cond.instantiable RX9 3 ∈ lw_tbl := st_tb 197 (by decide +kernel)
theorem il_X10_0 : u_lay RX10 TX10 0 ∈ lw_tbl := st_tb 314 (by decide +kernel)
theorem il_X10_1 : u_lay RX10 TX10 1 ∈ lw_tbl := st_tb 316 (by decide +kernel)
theorem il_X10 : ∀ w ∈ u_ws RX10 TX10 2, w ∈ lw_tbl := by
  intro w hw
  obtain ⟨k, hk, rfl⟩ := List.mem_map.mp hw
  have hk := List.mem_range.mp hk
  match k, hk with
  | 0, _ => exact il_X10_0
  | 1, _ => exact il_X10_1
  | k + 2, h => exact absurd h (by omega)
theorem in_X10 : Cond.instantiable RX10 2 ∈ lw_tbl := st_tb 304 (by decide +kernel)
theorem il_X11_0 : u_lay RX11 TX11 0 ∈ lw_tbl := st_tb 340 (by decide +kernel)
theorem il_X11_1 : u_lay RX11 TX11 1 ∈ lw_tbl := st_tb 342 (by decide +kernel)
theorem il_X11_2 : u_lay RX11 TX11 2 ∈ lw_tbl := st_tb 344 (by decide +kernel)
theorem il_X11_3 : u_lay RX11 TX11 3 ∈ lw_tbl := st_tb 346 (by decide +kernel)
theorem il_X11_4 : u_lay RX11 TX11 4 ∈ lw_tbl := st_tb 348 (by decide +kernel)
theorem il_X11_5 : u_lay RX11 TX11 5 ∈ lw_tbl := st_tb 350 (by decide +kernel)
theorem il_X11_6 : u_lay RX11 TX11 6 ∈ lw_tbl := st_tb 352 (by decide +kernel)
theorem il_X11_7 : u_lay RX11 TX11 7 ∈ lw_tbl := st_tb 354 (by decide +kernel)
theorem il_X11_8 : u_lay RX11 TX11 8 ∈ lw_tbl := st_tb 356 (by decide +kernel)
theorem il_X11_9 : u_lay RX11 TX11 9 ∈ lw_tbl := st_tb 358 (by decide +kernel)
theorem il_X11_10 : u_lay RX11 TX11 10 ∈ lw_tbl := st_tb 360 (by decide +kernel)
theorem il_X11_11 : u_lay RX11 TX11 11 ∈ lw_tbl := st_tb 362 (by decide +kernel)
theorem il_X11_12 : u_lay RX11 TX11 12 ∈ lw_tbl := st_tb 364 (by decide +kernel)
theorem il_X11_13 : u_lay RX11 TX11 13 ∈ lw_tbl := st_tb 366 (by decide +kernel)
theorem il_X11_14 : u_lay RX11 TX11 14 ∈ lw_tbl := st_tb 368 (by decide +kernel)
theorem il_X11_15 : u_lay RX11 TX11 15 ∈ lw_tbl := st_tb 370 (by decide +kernel)
theorem il_X11_16 : u_lay RX11 TX11 16 ∈ lw_tbl := st_tb 372 (by decide +kernel)
theorem il_X11_17 : u_lay RX11 TX11 17 ∈ lw_tbl := st_tb 374 (by decide +kernel)
theorem il_X11_18 : u_lay RX11 TX11 18 ∈ lw_tbl := st_tb 376 (by decide +kernel)
theorem il_X11_19 : u_lay RX11 TX11 19 ∈ lw_tbl := st_tb 378 (by decide +kernel)
theorem il_X11 : ∀ w ∈ u_ws RX11 TX11 20, w ∈ lw_tbl := by
  intro w hw
  obtain ⟨k, hk, rfl⟩ := List.mem_map.mp hw
  have hk := List.mem_range.mp hk
  match k, hk with
  | 0, _ => exact il_X11_0
  | 1, _ => exact il_X11_1
  | 2, _ => exact il_X11_2
  | 3, _ => exact il_X11_3
  | 4, _ => exact il_X11_4
  | 5, _ => exact il_X11_5
  | 6, _ => exact il_X11_6
  | 7, _ => exact il_X11_7
  | 8, _ => exact il_X11_8
  | 9, _ => exact il_X11_9
  | 10, _ => exact il_X11_10
  | 11, _ => exact il_X11_11
  | 12, _ => exact il_X11_12
  | 13, _ => exact il_X11_13
  | 14, _ => exact il_X11_14
  | 15, _ => exact il_X11_15
  | 16, _ => exact il_X11_16
  | 17, _ => exact il_X11_17
  | 18, _ => exact il_X11_18
  | 19, _ => exact il_X11_19
  | k + 20, h => exact absurd h (by omega)
theorem in_X11 : Cond.instantiable RX11 20 ∈ lw_tbl := st_tb 18 (by decide +kernel)
theorem il_X12_0 : u_lay RX12 TX12 0 ∈ lw_tbl := st_tb 1066 (by decide +kernel)
theorem il_X12_1 : u_lay RX12 TX12 1 ∈ lw_tbl := st_tb 1068 (by decide +kernel)
theorem il_X12_2 : u_lay RX12 TX12 2 ∈ lw_tbl := st_tb 1070 (by decide +kernel)
theorem il_X12_3 : u_lay RX12 TX12 3 ∈ lw_tbl := st_tb 1072 (by decide +kernel)
theorem il_X12_4 : u_lay RX12 TX12 4 ∈ lw_tbl := st_tb 1074 (by decide +kernel)
theorem il_X12_5 : u_lay RX12 TX12 5 ∈ lw_tbl := st_tb 1076 (by decide +kernel)
theorem il_X12_6 : u_lay RX12 TX12 6 ∈ lw_tbl := st_tb 1078 (by decide +kernel)
theorem il_X12_7 : u_lay RX12 TX12 7 ∈ lw_tbl := st_tb 1080 (by decide +kernel)
theorem il_X12_8 : u_lay RX12 TX12 8 ∈ lw_tbl := st_tb 1082 (by decide +kernel)
theorem il_X12_9 : u_lay RX12 TX12 9 ∈ lw_tbl := st_tb 1084 (by decide +kernel)
theorem il_X12_10 : u_lay RX12 TX12 10 ∈ lw_tbl := st_tb 1086 (by decide +kernel)
theorem il_X12_11 : u_lay RX12 TX12 11 ∈ lw_tbl := st_tb 1088 (by decide +kernel)
theorem il_X12_12 : u_lay RX12 TX12 12 ∈ lw_tbl := st_tb 1090 (by decide +kernel)
theorem il_X12_13 : u_lay RX12 TX12 13 ∈ lw_tbl := st_tb 1092 (by decide +kernel)
theorem il_X12_14 : u_lay RX12 TX12 14 ∈ lw_tbl := st_tb 1094 (by decide +kernel)
theorem il_X12_15 : u_lay RX12 TX12 15 ∈ lw_tbl := st_tb 1096 (by decide +kernel)
theorem il_X12_16 : u_lay RX12 TX12 16 ∈ lw_tbl := st_tb 1098 (by decide +kernel)
theorem il_X12_17 : u_lay RX12 TX12 17 ∈ lw_tbl := st_tb 1100 (by decide +kernel)
theorem il_X12_18 : u_lay RX12 TX12 18 ∈ lw_tbl := st_tb 1102 (by decide +kernel)
theorem il_X12_19 : u_lay RX12 TX12 19 ∈ lw_tbl := st_tb 1104 (by decide +kernel)
theorem il_X12_20 : u_lay RX12 TX12 20 ∈ lw_tbl := st_tb 1106 (by decide +kernel)
theorem il_X12_21 : u_lay RX12 TX12 21 ∈ lw_tbl := st_tb 1108 (by decide +kernel)
theorem il_X12_22 : u_lay RX12 TX12 22 ∈ lw_tbl := st_tb 1110 (by decide +kernel)
theorem il_X12_23 : u_lay RX12 TX12 23 ∈ lw_tbl := st_tb 1112 (by decide +kernel)
theorem il_X12_24 : u_lay RX12 TX12 24 ∈ lw_tbl := st_tb 1114 (by decide +kernel)
theorem il_X12_25 : u_lay RX12 TX12 25 ∈ lw_tbl := st_tb 1116 (by decide +kernel)
theorem il_X12_26 : u_lay RX12 TX12 26 ∈ lw_tbl := st_tb 1118 (by decide +kernel)
theorem il_X12_27 : u_lay RX12 TX12 27 ∈ lw_tbl := st_tb 1120 (by decide +kernel)
theorem il_X12_28 : u_lay RX12 TX12 28 ∈ lw_tbl := st_tb 1122 (by decide +kernel)
theorem il_X12_29 : u_lay RX12 TX12 29 ∈ lw_tbl := st_tb 1124 (by decide +kernel)
theorem il_X12_30 : u_lay RX12 TX12 30 ∈ lw_tbl := st_tb 1126 (by decide +kernel)
theorem il_X12_31 : u_lay RX12 TX12 31 ∈ lw_tbl := st_tb 1128 (by decide +kernel)
theorem il_X12_32 : u_lay RX12 TX12 32 ∈ lw_tbl := st_tb 1130 (by decide +kernel)
theorem il_X12 : ∀ w ∈ u_ws RX12 TX12 33, w ∈ lw_tbl := by
  intro w hw
  obtain ⟨k, hk, rfl⟩ := List.mem_map.mp hw
  have hk := List.mem_range.mp hk
  match k, hk with
  | 0, _ => exact il_X12_0
  | 1, _ => exact il_X12_1
  | 2, _ => exact il_X12_2
  | 3, _ => exact il_X12_3
  | 4, _ => exact il_X12_4
  | 5, _ => exact il_X12_5
  | 6, _ => exact il_X12_6
  | 7, _ => exact il_X12_7
  | 8, _ => exact il_X12_8
  | 9, _ => exact il_X12_9
  | 10, _ => exact il_X12_10
  | 11, _ => exact il_X12_11
  | 12, _ => exact il_X12_12
  | 13, _ => exact il_X12_13
  | 14, _ => exact il_X12_14
  | 15, _ => exact il_X12_15
  | 16, _ => exact il_X12_16
  | 17, _ => exact il_X12_17
  | 18, _ => exact il_X12_18
  | 19, _ => exact il_X12_19
  | 20, _ => exact il_X12_20
  | 21, _ => exact il_X12_21
  | 22, _ => exact il_X12_22
  | 23, _ => exact il_X12_23
  | 24, _ => exact il_X12_24
  | 25, _ => exact il_X12_25
  | 26, _ => exact il_X12_26
  | 27, _ => exact il_X12_27
  | 28, _ => exact il_X12_28
  | 29, _ => exact il_X12_29
  | 30, _ => exact il_X12_30
  | 31, _ => exact il_X12_31
  | 32, _ => exact il_X12_32
  | k + 33, h => exact absurd h (by omega)
theorem in_X12 : Cond.instantiable RX12 33 ∈ lw_tbl := st_tb 1028 (by decide +kernel)
theorem st_kn {args : Array Value} {s : State} (hts : ∀ w ∈ lw_tbl, w.before args s = true) (k : Nat) : ∃ z : ClassId × (Nat → Nat), ∀ q : vw_C, vwCl[k]? = some q → u_Kn s q.1 q.2.1 q.2.2 z.1 z.2 := by
  match k with
  | 0 =>
    obtain ⟨c, i, h⟩ := u_known (C := RX0) (T := TX0) (N := 3) (n := 3) hts il_X0 (hts _ in_X0)
    exact ⟨(c, i), fun q hq => by cases hq; exact h⟩
  | 1 =>
    obtain ⟨c, i, h⟩ := u_known (C := RX1) (T := TX1) (N := 5) (n := 5) hts il_X1 (hts _ in_X1)
    exact ⟨(c, i), fun q hq => by cases hq; exact h⟩
  | 2 =>
    obtain ⟨c, i, h⟩ := u_known (C := RX2) (T := TX2) (N := 10) (n := 10) hts il_X2 (hts _ in_X2)
    exact ⟨(c, i), fun q hq => by cases hq; exact h⟩
  | 3 =>
    obtain ⟨c, i, h⟩ := u_known (C := RX3) (T := TX3) (N := 5) (n := 5) hts il_X3 (hts _ in_X3)
    exact ⟨(c, i), fun q hq => by cases hq; exact h⟩
  | 4 =>
    obtain ⟨c, i, h⟩ := u_known (C := RX4) (T := TX4) (N := 2) (n := 2) hts il_X4 (hts _ in_X4)
    exact ⟨(c, i), fun q hq => by cases hq; exact h⟩
  | 5 =>
    obtain ⟨c, i, h⟩ := u_known (C := RX5) (T := TX5) (N := 5) (n := 5) hts il_X5 (hts _ in_X5)
    exact ⟨(c, i), fun q hq => by cases hq; exact h⟩
  | 6 =>
    obtain ⟨c, i, h⟩ := u_known (C := RX6) (T := TX6) (N := 5) (n := 5) hts il_X6 (hts _ in_X6)
    exact ⟨(c, i), fun q hq => by cases hq; exact h⟩
  | 7 =>
    obtain ⟨c, i, h⟩ := u_known (C := RX7) (T := TX7) (N := 4) (n := 4) hts il_X7 (hts _ in_X7)
    exact ⟨(c, i), fun q hq => by cases hq; exact h⟩
  | 8 =>
    obtain ⟨c, i, h⟩ := u_known (C := RX8) (T := TX8) (N := 2) (n := 2) hts il_X8 (hts _ in_X8)
    exact ⟨(c, i), fun q hq => by cases hq; exact h⟩
  | 9 =>
    obtain ⟨c, i, h⟩ := u_known (C := RX9) (T := TX9) (N := 3) (n := 3) hts il_X9 (hts _ in_X9)
    exact ⟨(c, i), fun q hq => by cases hq; exact h⟩
  | 10 =>
    obtain ⟨c, i, h⟩ := u_known (C := RX10) (T := TX10) (N := 2) (n := 2) hts il_X10 (hts _ in_X10)
    exact ⟨(c, i), fun q hq => by cases hq; exact h⟩
  | 11 =>
    obtain ⟨c, i, h⟩ := u_known (C := RX11) (T := TX11) (N := 20) (n := 20) hts il_X11 (hts _ in_X11)
    exact ⟨(c, i), fun q hq => by cases hq; exact h⟩
  | 12 =>
    obtain ⟨c, i, h⟩ := u_known (C := RX12) (T := TX12) (N := 33) (n := 33) hts il_X12 (hts _ in_X12)
    exact ⟨(c, i), fun q hq => by cases hq; exact h⟩
  | k + 13 =>
    obtain ⟨c, i, -⟩ := u_known (C := RX0) (T := TX0) (N := 3) (n := 3) hts il_X0 (hts _ in_X0)
    exact ⟨(c, i), fun q hq => by
      rw [List.getElem?_eq_none (show vwCl.length ≤ k + 13 from Nat.le_add_left 13 k)] at hq
      cases hq⟩
theorem st_tab {b : Nat} {s : State} {n : String} {v0 v1 v2 v3 v4 : Int32} (hts : ∀ w ∈ lw_tbl, w.before #[Value.ref b] s = true) (hl : Cond.laysStatic "LoafFall" n "[I" ∈ lw_tbl) (ha : (Cond.arrayOf (.static "LoafFall" n "[I") .int).before #[Value.ref b] s = true) (h5 : (Cond.eq (.length (.static "LoafFall" n "[I")) (.int 5)).before #[Value.ref b] s = true) (e0 : (Cond.eq (.elem (.static "LoafFall" n "[I") (.int 0)) (.int v0)).before #[Value.ref b] s = true) (e1 : (Cond.eq (.elem (.static "LoafFall" n "[I") (.int 1)) (.int v1)).before #[Value.ref b] s = true) (e2 : (Cond.eq (.elem (.static "LoafFall" n "[I") (.int 2)) (.int v2)).before #[Value.ref b] s = true) (e3 : (Cond.eq (.elem (.static "LoafFall" n "[I") (.int 3)) (.int v3)).before #[Value.ref b] s = true) (e4 : (Cond.eq (.elem (.static "LoafFall" n "[I") (.int 4)) (.int v4)).before #[Value.ref b] s = true) : ∃ t : Nat, va_Z "LoafFall" n "[I" (.ref t) (fun q => s.heap.size ≤ q) s s.heap ∧ va_T .int t 5 (fun j => .int ([v0, v1, v2, v3, v4].getD j 0)) (fun q => s.heap.size ≤ q) s s.heap := by
  have hA : ∀ a : Nat, a < s.heap.size → ¬ (fun q : Nat => s.heap.size ≤ q) a := fun a h => Nat.not_le.mpr h
  obtain ⟨t, ht, hT⟩ := va_Tof (A := fun q => s.heap.size ≤ q) (N := 5) (f := fun j => .int ([v0, v1, v2, v3, v4].getD j 0)) (by decide) ha (va_eqt h5) (fun j hj => by
    match j, hj with
    | 0, _ => exact va_eqt e0
    | 1, _ => exact va_eqt e1
    | 2, _ => exact va_eqt e2
    | 3, _ => exact va_eqt e3
    | 4, _ => exact va_eqt e4
    | j + 5, h => exact absurd h (by omega)) hA
  exact ⟨t, va_Zref (hts _ hl) (hts _ (List.mem_filter.mp tw_1).1) ht hA, hT⟩
theorem ls_0 : Cond.laysStatic "LoafFall" "PART_LETTERS" "[I" ∈ lw_tbl := st_tb 532 (by decide +kernel)
theorem st_s0 {b : Nat} {s : State} (hts : ∀ w ∈ lw_tbl, w.before #[Value.ref b] s = true) (hgv : (Jvm.Cond.and given_1 narrow_1).before #[Value.ref b] s = true) : ∃ t : Nat, va_Z "LoafFall" "PART_LETTERS" "[I" (.ref t) (fun q => s.heap.size ≤ q) s s.heap ∧ va_T .int t 5 (fun j => .int ([121, 115, 101, 119, 116].getD j 0)) (fun q => s.heap.size ≤ q) s s.heap := by
  have hs := flat_of_before _ hgv
  exact st_tab hts ls_0 (hs _ (by decide +kernel)) (hs _ (by decide +kernel)) (hs _ (by decide +kernel)) (hs _ (by decide +kernel)) (hs _ (by decide +kernel)) (hs _ (by decide +kernel)) (hs _ (by decide +kernel))
theorem ls_1 : Cond.laysStatic "LoafFall" "PART_LEAST" "[I" ∈ lw_tbl := st_tb 534 (by decide +kernel)
theorem st_s1 {b : Nat} {s : State} (hts : ∀ w ∈ lw_tbl, w.before #[Value.ref b] s = true) (hgv : (Jvm.Cond.and given_1 narrow_1).before #[Value.ref b] s = true) : ∃ t : Nat, va_Z "LoafFall" "PART_LEAST" "[I" (.ref t) (fun q => s.heap.size ≤ q) s s.heap ∧ va_T .int t 5 (fun j => .int ([1, 10, 0, 0, 0].getD j 0)) (fun q => s.heap.size ≤ q) s s.heap := by
  have hs := flat_of_before _ hgv
  exact st_tab hts ls_1 (hs _ (by decide +kernel)) (hs _ (by decide +kernel)) (hs _ (by decide +kernel)) (hs _ (by decide +kernel)) (hs _ (by decide +kernel)) (hs _ (by decide +kernel)) (hs _ (by decide +kernel))
theorem ls_2 : Cond.laysStatic "LoafFall" "PART_MOST" "[I" ∈ lw_tbl := st_tb 536 (by decide +kernel)
theorem st_s2 {b : Nat} {s : State} (hts : ∀ w ∈ lw_tbl, w.before #[Value.ref b] s = true) (hgv : (Jvm.Cond.and given_1 narrow_1).before #[Value.ref b] s = true) : ∃ t : Nat, va_Z "LoafFall" "PART_MOST" "[I" (.ref t) (fun q => s.heap.size ≤ q) s s.heap ∧ va_T .int t 5 (fun j => .int ([9, 99, 9, 9, 9].getD j 0)) (fun q => s.heap.size ≤ q) s s.heap := by
  have hs := flat_of_before _ hgv
  exact st_tab hts ls_2 (hs _ (by decide +kernel)) (hs _ (by decide +kernel)) (hs _ (by decide +kernel)) (hs _ (by decide +kernel)) (hs _ (by decide +kernel)) (hs _ (by decide +kernel)) (hs _ (by decide +kernel))
theorem ls_3 : Cond.laysStatic "LoafFall" "PART_USUAL" "[I" ∈ lw_tbl := st_tb 526 (by decide +kernel)
theorem st_s3 {b : Nat} {s : State} (hts : ∀ w ∈ lw_tbl, w.before #[Value.ref b] s = true) (hgv : (Jvm.Cond.and given_1 narrow_1).before #[Value.ref b] s = true) : ∃ t : Nat, va_Z "LoafFall" "PART_USUAL" "[I" (.ref t) (fun q => s.heap.size ≤ q) s s.heap ∧ va_T .int t 5 (fun j => .int ([3, 40, 1, 4, 2].getD j 0)) (fun q => s.heap.size ≤ q) s s.heap := by
  have hs := flat_of_before _ hgv
  exact st_tab hts ls_3 (hs _ (by decide +kernel)) (hs _ (by decide +kernel)) (hs _ (by decide +kernel)) (hs _ (by decide +kernel)) (hs _ (by decide +kernel)) (hs _ (by decide +kernel)) (hs _ (by decide +kernel))
theorem ls_4 : Cond.laysStatic "LoafFall" "STEP_LETTERS" "[I" ∈ lw_tbl := st_tb 487 (by decide +kernel)
theorem st_s4 {b : Nat} {s : State} (hts : ∀ w ∈ lw_tbl, w.before #[Value.ref b] s = true) (hgv : (Jvm.Cond.and given_1 narrow_1).before #[Value.ref b] s = true) : ∃ t : Nat, va_Z "LoafFall" "STEP_LETTERS" "[I" (.ref t) (fun q => s.heap.size ≤ q) s s.heap ∧ va_T .int t 5 (fun j => .int ([114, 111, 107, 120, 100].getD j 0)) (fun q => s.heap.size ≤ q) s s.heap := by
  have hs := flat_of_before _ hgv
  exact st_tab hts ls_4 (hs _ (by decide +kernel)) (hs _ (by decide +kernel)) (hs _ (by decide +kernel)) (hs _ (by decide +kernel)) (hs _ (by decide +kernel)) (hs _ (by decide +kernel)) (hs _ (by decide +kernel))
theorem ls_5 : Cond.laysStatic "LoafFall" "RACK_OFFS" "[I" ∈ lw_tbl := st_tb 839 (by decide +kernel)
theorem st_s5 {b : Nat} {s : State} (hts : ∀ w ∈ lw_tbl, w.before #[Value.ref b] s = true) (hgv : (Jvm.Cond.and given_1 narrow_1).before #[Value.ref b] s = true) : ∃ t : Nat, va_Z "LoafFall" "RACK_OFFS" "[I" (.ref t) (fun q => s.heap.size ≤ q) s s.heap ∧ va_T .int t 5 (fun j => .int ([0, -1, 1, -2, 2].getD j 0)) (fun q => s.heap.size ≤ q) s s.heap := by
  have hs := flat_of_before _ hgv
  exact st_tab hts ls_5 (hs _ (by decide +kernel)) (hs _ (by decide +kernel)) (hs _ (by decide +kernel)) (hs _ (by decide +kernel)) (hs _ (by decide +kernel)) (hs _ (by decide +kernel)) (hs _ (by decide +kernel))
theorem nm_0 : Cond.methodLinkNest "LoafFall" 39 yX6_init "LoafFall" ∈ lw_tbl := st_tb 36 (by decide +kernel)
theorem nm_1 : Cond.methodLinkNest "LoafFall$Loaf" 11 yX4_init "LoafFall" ∈ lw_tbl := st_tb 42 (by decide +kernel)
theorem nm_2 : Cond.methodLinkNest "LoafFall$Loaf" 20 yX1_init "LoafFall" ∈ lw_tbl := st_tb 62 (by decide +kernel)
theorem nm_3 : Cond.methodLinkNest "LoafFall$Loaf" 27 yX2_init "LoafFall" ∈ lw_tbl := st_tb 96 (by decide +kernel)
theorem nm_4 : Cond.methodLinkNest "LoafFall$Loaf" 34 yX3_init "LoafFall" ∈ lw_tbl := st_tb 150 (by decide +kernel)
theorem nm_5 : Cond.methodLinkNest "LoafFall" 46 yX9_init "LoafFall" ∈ lw_tbl := st_tb 198 (by decide +kernel)
theorem nm_6 : Cond.methodLinkNest "LoafFall" 53 yX7_init "LoafFall" ∈ lw_tbl := st_tb 217 (by decide +kernel)
theorem nm_7 : Cond.methodLinkNest "LoafFall$Reader" 11 yX4_init "LoafFall" ∈ lw_tbl := st_tb 222 (by decide +kernel)
theorem nm_8 : Cond.methodLinkNest "LoafFall$Reader" 20 yX1_init "LoafFall" ∈ lw_tbl := st_tb 224 (by decide +kernel)
theorem nm_9 : Cond.methodLinkNest "LoafFall$Baker" 11 yX6_init "LoafFall" ∈ lw_tbl := st_tb 248 (by decide +kernel)
theorem nm_10 : Cond.methodLinkNest "LoafFall$Baker" 24 yX2_init "LoafFall" ∈ lw_tbl := st_tb 251 (by decide +kernel)
theorem nm_11 : Cond.methodLinkNest "LoafFall" 67 yX5_init "LoafFall" ∈ lw_tbl := st_tb 264 (by decide +kernel)
theorem nm_12 : Cond.methodLinkNest "LoafFall" 72 yX4_init "LoafFall" ∈ lw_tbl := st_tb 287 (by decide +kernel)
theorem nm_13 : Cond.methodLinkNest "LoafFall" 77 yX1_init "LoafFall" ∈ lw_tbl := st_tb 288 (by decide +kernel)
theorem nm_14 : Cond.methodLinkNest "LoafFall" 99 yX8_init "LoafFall" ∈ lw_tbl := st_tb 290 (by decide +kernel)
theorem nm_15 : Cond.methodLinkNest "LoafFall" 100 yX10_init "LoafFall" ∈ lw_tbl := st_tb 305 (by decide +kernel)
theorem st_nm {args : Array Value} {s : State} (hts : ∀ w ∈ lw_tbl, w.before args s = true) : ∀ q ∈ a_nm, va_Nw (.methodLinkNest q.1 q.2.1 q.2.2 "LoafFall") s := List.forall_mem_cons.mpr ⟨va_Nw.of rfl (hts _ nm_0), List.forall_mem_cons.mpr ⟨va_Nw.of rfl (hts _ nm_1), List.forall_mem_cons.mpr ⟨va_Nw.of rfl (hts _ nm_2), List.forall_mem_cons.mpr ⟨va_Nw.of rfl (hts _ nm_3), List.forall_mem_cons.mpr ⟨va_Nw.of rfl (hts _ nm_4), List.forall_mem_cons.mpr ⟨va_Nw.of rfl (hts _ nm_5), List.forall_mem_cons.mpr ⟨va_Nw.of rfl (hts _ nm_6), List.forall_mem_cons.mpr ⟨va_Nw.of rfl (hts _ nm_7), List.forall_mem_cons.mpr ⟨va_Nw.of rfl (hts _ nm_8), List.forall_mem_cons.mpr ⟨va_Nw.of rfl (hts _ nm_9), List.forall_mem_cons.mpr ⟨va_Nw.of rfl (hts _ nm_10), List.forall_mem_cons.mpr ⟨va_Nw.of rfl (hts _ nm_11), List.forall_mem_cons.mpr ⟨va_Nw.of rfl (hts _ nm_12), List.forall_mem_cons.mpr ⟨va_Nw.of rfl (hts _ nm_13), List.forall_mem_cons.mpr ⟨va_Nw.of rfl (hts _ nm_14), List.forall_mem_cons.mpr ⟨va_Nw.of rfl (hts _ nm_15), fun _ h => absurd h List.not_mem_nil⟩⟩⟩⟩⟩⟩⟩⟩⟩⟩⟩⟩⟩⟩⟩⟩
theorem nf_0 : Cond.fieldLinkNest "LoafFall$Reader" 81 "LoafFall" "STEP_LETTERS" "[I" "LoafFall" ∈ lw_tbl := st_tb 486 (by decide +kernel)
theorem nf_1 : Cond.fieldLinkNest "LoafFall$Flour" 15 "LoafFall" "PART_USUAL" "[I" "LoafFall" ∈ lw_tbl := st_tb 525 (by decide +kernel)
theorem nf_2 : Cond.fieldLinkNest "LoafFall$Reader" 57 "LoafFall" "PART_LETTERS" "[I" "LoafFall" ∈ lw_tbl := st_tb 531 (by decide +kernel)
theorem nf_3 : Cond.fieldLinkNest "LoafFall$Reader" 72 "LoafFall" "PART_LEAST" "[I" "LoafFall" ∈ lw_tbl := st_tb 533 (by decide +kernel)
theorem nf_4 : Cond.fieldLinkNest "LoafFall$Reader" 75 "LoafFall" "PART_MOST" "[I" "LoafFall" ∈ lw_tbl := st_tb 535 (by decide +kernel)
theorem st_nf {args : Array Value} {s : State} (hts : ∀ w ∈ lw_tbl, w.before args s = true) : ∀ q ∈ a_nf, va_Nw (.fieldLinkNest q.1 q.2.1 "LoafFall" q.2.2 "[I" "LoafFall") s := List.forall_mem_cons.mpr ⟨va_Nw.of rfl (hts _ nf_0), List.forall_mem_cons.mpr ⟨va_Nw.of rfl (hts _ nf_1), List.forall_mem_cons.mpr ⟨va_Nw.of rfl (hts _ nf_2), List.forall_mem_cons.mpr ⟨va_Nw.of rfl (hts _ nf_3), List.forall_mem_cons.mpr ⟨va_Nw.of rfl (hts _ nf_4), fun _ h => absurd h List.not_mem_nil⟩⟩⟩⟩⟩
theorem ao_X1 : Cond.arrayOver (.object RX1) ∈ lw_tbl := st_tb 32 (by decide +kernel)
theorem ao_X2 : Cond.arrayOver (.object RX2) ∈ lw_tbl := st_tb 250 (by decide +kernel)
theorem ao_X4 : Cond.arrayOver (.object RX4) ∈ lw_tbl := st_tb 30 (by decide +kernel)
theorem ao_X6 : Cond.arrayOver (.object RX6) ∈ lw_tbl := st_tb 34 (by decide +kernel)
theorem ao_X8 : Cond.arrayOver (.object RX8) ∈ lw_tbl := st_tb 26 (by decide +kernel)
theorem ao_X10 : Cond.arrayOver (.object RX10) ∈ lw_tbl := st_tb 28 (by decide +kernel)
theorem st_aos {args : Array Value} {s : State} (hts : ∀ w ∈ lw_tbl, w.before args s = true) : ∀ C ∈ a_ao, va_AO C s := List.forall_mem_cons.mpr ⟨va_AO.of (hts _ ao_X1), List.forall_mem_cons.mpr ⟨va_AO.of (hts _ ao_X2), List.forall_mem_cons.mpr ⟨va_AO.of (hts _ ao_X4), List.forall_mem_cons.mpr ⟨va_AO.of (hts _ ao_X6), List.forall_mem_cons.mpr ⟨va_AO.of (hts _ ao_X8), List.forall_mem_cons.mpr ⟨va_AO.of (hts _ ao_X10), fun _ h => absurd h List.not_mem_nil⟩⟩⟩⟩⟩⟩
theorem st_TP {b L : Nat} {xs : Nat → Int32} {s : State} (hts : ∀ w ∈ lw_tbl, w.before #[Value.ref b] s = true) (hX : va_X b L xs s s.heap) (hbl : b < s.heap.size) (hgv : (Jvm.Cond.and given_1 narrow_1).before #[Value.ref b] s = true) : ∃ (dC : Nat → ClassId) (dI : Nat → Nat → Nat) (dA : Nat → ClassId) (dS : Nat → Nat), dS 6 = b ∧ a_TP (s.heap, dC, dI, dA, dS) (scT L xs) s := by
  obtain ⟨dK, hK⟩ := Classical.axiomOfChoice (st_kn hts)
  obtain ⟨cI, aI, rI⟩ := st_ac (hts _ (List.mem_filter.mp a_acI).1)
  obtain ⟨cB, aB, rB⟩ := st_ac (hts _ (List.mem_filter.mp a_acB).1)
  obtain ⟨cZ, aZ, rZ⟩ := st_ac (hts _ (List.mem_filter.mp a_acZ).1)
  obtain ⟨cX1, aX1, rX1⟩ := st_ao (hts _ ao_X1)
  obtain ⟨cX2, aX2, rX2⟩ := st_ao (hts _ ao_X2)
  obtain ⟨cX4, aX4, rX4⟩ := st_ao (hts _ ao_X4)
  obtain ⟨cX6, aX6, rX6⟩ := st_ao (hts _ ao_X6)
  obtain ⟨cX8, aX8, rX8⟩ := st_ao (hts _ ao_X8)
  obtain ⟨cX10, aX10, rX10⟩ := st_ao (hts _ ao_X10)
  obtain ⟨t0, z0, y0⟩ := st_s0 hts hgv
  obtain ⟨t1, z1, y1⟩ := st_s1 hts hgv
  obtain ⟨t2, z2, y2⟩ := st_s2 hts hgv
  obtain ⟨t3, z3, y3⟩ := st_s3 hts hgv
  obtain ⟨t4, z4, y4⟩ := st_s4 hts hgv
  obtain ⟨t5, z5, y5⟩ := st_s5 hts hgv
  have hT : va_T .int b L (fun j => .int (xs j)) (fun q => s.heap.size ≤ q) s s.heap := by
    obtain ⟨scr, h1, h2, h3, h4, h5⟩ := hX
    exact ⟨scr, h1, h2, h3, Nat.le_of_eq h4.symm, by rw [h4], fun j hj => h5 j hj, Nat.not_le.mpr hbl⟩
  refine ⟨fun k => (dK k).1, fun k => (dK k).2, fun t => if t = 100 then cI else if t = 101 then cB else if t = 102 then cZ else if t = 111 then cX1 else if t = 112 then cX2 else if t = 114 then cX4 else if t = 116 then cX6 else if t = 118 then cX8 else cX10, fun i => if i = 0 then t0 else if i = 1 then t1 else if i = 2 then t2 else if i = 3 then t3 else if i = 4 then t4 else if i = 5 then t5 else b, rfl, ⟨fun k q hq => hK k q hq, ?_⟩, st_nm hts, st_nf hts, st_aos hts, ?_, ?_⟩
  · intro k q hq
    match k, hq with
    | 0, hq =>
      cases hq
      exact ⟨aI, rI⟩
    | 1, hq =>
      cases hq
      exact ⟨aB, rB⟩
    | 2, hq =>
      cases hq
      exact ⟨aZ, rZ⟩
    | 3, hq =>
      cases hq
      exact ⟨aX1, rX1⟩
    | 4, hq =>
      cases hq
      exact ⟨aX2, rX2⟩
    | 5, hq =>
      cases hq
      exact ⟨aX4, rX4⟩
    | 6, hq =>
      cases hq
      exact ⟨aX6, rX6⟩
    | 7, hq =>
      cases hq
      exact ⟨aX8, rX8⟩
    | 8, hq =>
      cases hq
      exact ⟨aX10, rX10⟩
    | k + 9, hq =>
      rw [List.getElem?_eq_none (show 9 ≤ k + 9 from Nat.le_add_left 9 k)] at hq
      cases hq
  · intro i n hn
    match i, hn with
    | 0, hn =>
      cases hn
      exact z0
    | 1, hn =>
      cases hn
      exact z1
    | 2, hn =>
      cases hn
      exact z2
    | 3, hn =>
      cases hn
      exact z3
    | 4, hn =>
      cases hn
      exact z4
    | 5, hn =>
      cases hn
      exact z5
    | i + 6, hn =>
      rw [List.getElem?_eq_none (show 6 ≤ i + 6 from Nat.le_add_left 6 i)] at hn
      cases hn
  · intro i q hq
    match i, hq with
    | 0, hq =>
      cases hq
      exact y0
    | 1, hq =>
      cases hq
      exact y1
    | 2, hq =>
      cases hq
      exact y2
    | 3, hq =>
      cases hq
      exact y3
    | 4, hq =>
      cases hq
      exact y4
    | 5, hq =>
      cases hq
      exact y5
    | 6, hq =>
      cases hq
      exact hT
    | i + 7, hq =>
      rw [List.getElem?_eq_none (show 7 ≤ i + 7 from Nat.le_add_left 7 i)] at hq
      cases hq
