theorem a_inX0 : ∀ w ∈ u_ws RX0 TX0 3, w ∈ a_gw := by
  intro w hw
  obtain ⟨k, hk, rfl⟩ := List.mem_map.mp hw
  have hk := List.mem_range.mp hk
  match k, hk with
  | 0, _ => exact tw_255
  | 1, _ => exact tw_257
  | 2, _ => exact tw_259
  | n + 3, hk => exact absurd hk (by omega)
theorem a_inX1 : ∀ w ∈ u_ws RX1 TX1 5, w ∈ a_gw := by
  intro w hw
  obtain ⟨k, hk, rfl⟩ := List.mem_map.mp hw
  have hk := List.mem_range.mp hk
  match k, hk with
  | 0, _ => exact tw_83
  | 1, _ => exact tw_85
  | 2, _ => exact tw_87
  | 3, _ => exact tw_89
  | 4, _ => exact tw_91
  | n + 5, hk => exact absurd hk (by omega)
theorem a_inX2 : ∀ w ∈ u_ws RX2 TX2 10, w ∈ a_gw := by
  intro w hw
  obtain ⟨k, hk, rfl⟩ := List.mem_map.mp hw
  have hk := List.mem_range.mp hk
  match k, hk with
  | 0, _ => exact tw_127
  | 1, _ => exact tw_129
  | 2, _ => exact tw_131
  | 3, _ => exact tw_133
  | 4, _ => exact tw_135
  | 5, _ => exact tw_137
  | 6, _ => exact tw_139
  | 7, _ => exact tw_141
  | 8, _ => exact tw_143
  | 9, _ => exact tw_145
  | n + 10, hk => exact absurd hk (by omega)
theorem a_inX3 : ∀ w ∈ u_ws RX3 TX3 5, w ∈ a_gw := by
  intro w hw
  obtain ⟨k, hk, rfl⟩ := List.mem_map.mp hw
  have hk := List.mem_range.mp hk
  match k, hk with
  | 0, _ => exact tw_161
  | 1, _ => exact tw_163
  | 2, _ => exact tw_165
  | 3, _ => exact tw_167
  | 4, _ => exact tw_169
  | n + 5, hk => exact absurd hk (by omega)
theorem a_inX4 : ∀ w ∈ u_ws RX4 TX4 2, w ∈ a_gw := by
  intro w hw
  obtain ⟨k, hk, rfl⟩ := List.mem_map.mp hw
  have hk := List.mem_range.mp hk
  match k, hk with
  | 0, _ => exact tw_54
  | 1, _ => exact tw_56
  | n + 2, hk => exact absurd hk (by omega)
theorem a_inX5 : ∀ w ∈ u_ws RX5 TX5 5, w ∈ a_gw := by
  intro w hw
  obtain ⟨k, hk, rfl⟩ := List.mem_map.mp hw
  have hk := List.mem_range.mp hk
  match k, hk with
  | 0, _ => exact tw_275
  | 1, _ => exact tw_277
  | 2, _ => exact tw_279
  | 3, _ => exact tw_281
  | 4, _ => exact tw_283
  | n + 5, hk => exact absurd hk (by omega)
theorem a_inX6 : ∀ w ∈ u_ws RX6 TX6 5, w ∈ a_gw := by
  intro w hw
  obtain ⟨k, hk, rfl⟩ := List.mem_map.mp hw
  have hk := List.mem_range.mp hk
  match k, hk with
  | 0, _ => exact tw_185
  | 1, _ => exact tw_187
  | 2, _ => exact tw_189
  | 3, _ => exact tw_191
  | 4, _ => exact tw_193
  | n + 5, hk => exact absurd hk (by omega)
theorem a_inX7 : ∀ w ∈ u_ws RX7 TX7 4, w ∈ a_gw := by
  intro w hw
  obtain ⟨k, hk, rfl⟩ := List.mem_map.mp hw
  have hk := List.mem_range.mp hk
  match k, hk with
  | 0, _ => exact tw_232
  | 1, _ => exact tw_234
  | 2, _ => exact tw_236
  | 3, _ => exact tw_238
  | n + 4, hk => exact absurd hk (by omega)
theorem a_inX8 : ∀ w ∈ u_ws RX8 TX8 2, w ∈ a_gw := by
  intro w hw
  obtain ⟨k, hk, rfl⟩ := List.mem_map.mp hw
  have hk := List.mem_range.mp hk
  match k, hk with
  | 0, _ => exact tw_299
  | 1, _ => exact tw_301
  | n + 2, hk => exact absurd hk (by omega)
theorem a_inX9 : ∀ w ∈ u_ws RX9 TX9 3, w ∈ a_gw := by
  intro w hw
  obtain ⟨k, hk, rfl⟩ := List.mem_map.mp hw
  have hk := List.mem_range.mp hk
  match k, hk with
  | 0, _ => exact tw_208
  | 1, _ => exact tw_210
  | 2, _ => exact tw_212
  | n + 3, hk => exact absurd hk (by omega)
theorem a_inX10 : ∀ w ∈ u_ws RX10 TX10 2, w ∈ a_gw := by
  intro w hw
  obtain ⟨k, hk, rfl⟩ := List.mem_map.mp hw
  have hk := List.mem_range.mp hk
  match k, hk with
  | 0, _ => exact tw_314
  | 1, _ => exact tw_316
  | n + 2, hk => exact absurd hk (by omega)
theorem a_inX11 : ∀ w ∈ u_ws RX11 TX11 20, w ∈ a_gw := by
  intro w hw
  obtain ⟨k, hk, rfl⟩ := List.mem_map.mp hw
  have hk := List.mem_range.mp hk
  match k, hk with
  | 0, _ => exact tw_340
  | 1, _ => exact tw_342
  | 2, _ => exact tw_344
  | 3, _ => exact tw_346
  | 4, _ => exact tw_348
  | 5, _ => exact tw_350
  | 6, _ => exact tw_352
  | 7, _ => exact tw_354
  | 8, _ => exact tw_356
  | 9, _ => exact tw_358
  | 10, _ => exact tw_360
  | 11, _ => exact tw_362
  | 12, _ => exact tw_364
  | 13, _ => exact tw_366
  | 14, _ => exact tw_368
  | 15, _ => exact tw_370
  | 16, _ => exact tw_372
  | 17, _ => exact tw_374
  | 18, _ => exact tw_376
  | 19, _ => exact tw_378
  | n + 20, hk => exact absurd hk (by omega)
theorem a_inX12 : ∀ w ∈ u_ws RX12 TX12 33, w ∈ a_gw := by
  intro w hw
  obtain ⟨k, hk, rfl⟩ := List.mem_map.mp hw
  have hk := List.mem_range.mp hk
  match k, hk with
  | 0, _ => exact tw_1066
  | 1, _ => exact tw_1068
  | 2, _ => exact tw_1070
  | 3, _ => exact tw_1072
  | 4, _ => exact tw_1074
  | 5, _ => exact tw_1076
  | 6, _ => exact tw_1078
  | 7, _ => exact tw_1080
  | 8, _ => exact tw_1082
  | 9, _ => exact tw_1084
  | 10, _ => exact tw_1086
  | 11, _ => exact tw_1088
  | 12, _ => exact tw_1090
  | 13, _ => exact tw_1092
  | 14, _ => exact tw_1094
  | 15, _ => exact tw_1096
  | 16, _ => exact tw_1098
  | 17, _ => exact tw_1100
  | 18, _ => exact tw_1102
  | 19, _ => exact tw_1104
  | 20, _ => exact tw_1106
  | 21, _ => exact tw_1108
  | 22, _ => exact tw_1110
  | 23, _ => exact tw_1112
  | 24, _ => exact tw_1114
  | 25, _ => exact tw_1116
  | 26, _ => exact tw_1118
  | 27, _ => exact tw_1120
  | 28, _ => exact tw_1122
  | 29, _ => exact tw_1124
  | 30, _ => exact tw_1126
  | 31, _ => exact tw_1128
  | 32, _ => exact tw_1130
  | n + 33, hk => exact absurd hk (by omega)
theorem a_in (c : Nat) (r : vw_C) (h : vwCl[c]? = some r) : ∀ w ∈ u_ws r.1 r.2.1 r.2.2, w ∈ a_gw := by
  match c, h with
  | 0, h => cases h; exact a_inX0
  | 1, h => cases h; exact a_inX1
  | 2, h => cases h; exact a_inX2
  | 3, h => cases h; exact a_inX3
  | 4, h => cases h; exact a_inX4
  | 5, h => cases h; exact a_inX5
  | 6, h => cases h; exact a_inX6
  | 7, h => cases h; exact a_inX7
  | 8, h => cases h; exact a_inX8
  | 9, h => cases h; exact a_inX9
  | 10, h => cases h; exact a_inX10
  | 11, h => cases h; exact a_inX11
  | 12, h => cases h; exact a_inX12
  | n + 13, h => exact absurd h (by simp [vwCl])
theorem a_clsOK (c : Nat) (r : vw_C) (h : vwCl[c]? = some r) : ∃ ty0 : Nat → FieldType, (∀ k, k < r.2.2 → parseFieldDescriptor (r.2.1 k).2.2.1 = some (ty0 k)) ∧ ∀ a, a < r.2.2 → ∀ b, b < r.2.2 → a ≠ b → (r.2.1 a).2.1 ≠ (r.2.1 b).2.1 := by
  match c, h with
  | 0, h => cases h; exact ⟨tyX0, tyX0_ok, nmX0⟩
  | 1, h => cases h; exact ⟨tyX1, tyX1_ok, nmX1⟩
  | 2, h => cases h; exact ⟨tyX2, tyX2_ok, nmX2⟩
  | 3, h => cases h; exact ⟨tyX3, tyX3_ok, nmX3⟩
  | 4, h => cases h; exact ⟨tyX4, tyX4_ok, nmX4⟩
  | 5, h => cases h; exact ⟨tyX5, tyX5_ok, nmX5⟩
  | 6, h => cases h; exact ⟨tyX6, tyX6_ok, nmX6⟩
  | 7, h => cases h; exact ⟨tyX7, tyX7_ok, nmX7⟩
  | 8, h => cases h; exact ⟨tyX8, tyX8_ok, nmX8⟩
  | 9, h => cases h; exact ⟨tyX9, tyX9_ok, nmX9⟩
  | 10, h => cases h; exact ⟨tyX10, tyX10_ok, nmX10⟩
  | 11, h => cases h; exact ⟨tyX11, tyX11_ok, nmX11⟩
  | 12, h => cases h; exact ⟨tyX12, tyX12_ok, nmX12⟩
  | n + 13, h => exact absurd h (by simp [vwCl])
theorem a_tyq2 (G : aG) {c : Nat} (h : (vwCl[c]?.map (·.1)).any (a_ao.contains ·) = true) : ∃ r : vw_C, vwCl[c]? = some r ∧ ∃ t0 : Nat, (a_tys G)[t0]? = some (G.2.2.2.1 (110 + c), .object r.1) := by
  match c, h with
  | 0, h => exact absurd h (by decide +kernel)
  | 1, _ => exact ⟨_, rfl, 3, rfl⟩
  | 2, _ => exact ⟨_, rfl, 4, rfl⟩
  | 3, h => exact absurd h (by decide +kernel)
  | 4, _ => exact ⟨_, rfl, 5, rfl⟩
  | 5, h => exact absurd h (by decide +kernel)
  | 6, _ => exact ⟨_, rfl, 6, rfl⟩
  | 7, h => exact absurd h (by decide +kernel)
  | 8, _ => exact ⟨_, rfl, 7, rfl⟩
  | 9, h => exact absurd h (by decide +kernel)
  | 10, _ => exact ⟨_, rfl, 8, rfl⟩
  | 11, h => exact absurd h (by decide +kernel)
  | 12, h => exact absurd h (by decide +kernel)
  | n + 13, h => exact absurd h (by simp [vwCl])
theorem a_tyq (G : aG) {c : Nat} (h : (vwCl[c]?.map (·.1)).any (a_ao.contains ·) = true) : ∃ (t0 : Nat) (C : String), (a_tys G)[t0]? = some (G.2.2.2.1 (110 + c), .object C) := by
  obtain ⟨r, -, t0, h0⟩ := a_tyq2 G h
  exact ⟨t0, _, h0⟩
theorem a_aoc {C : String} {T : u_T} {N : Nat} (h : C ∈ a_ao) : ((some ((C, T, N) : vw_C)).map (·.1)).any (a_ao.contains ·) = true := by
  simpa using h
theorem a_HP.relocs {G : aG} {M : aH} {H : Heap} {locs l2 L : List Loc} (h : a_HP G M H l2) (h1 : ∀ q ∈ locs, a_A G q.base) (h2 : ∀ q ∈ L, a_A G q.base) : a_HP G M H (locs ++ L) :=
  ⟨h.1, ⟨h.2.1.1, h.2.1.2.1, fun q hq => (List.mem_append.mp hq).elim (h1 q) (h2 q)⟩, h.2.2⟩
theorem a_acI : Cond.arrayClass .int ∈ a_gw := tw_59
theorem a_acB : Cond.arrayClass .byte ∈ a_gw := tw_319
theorem a_acZ : Cond.arrayClass .boolean ∈ a_gw := tw_286
theorem a_oi1 : Cond.instanceMethod objectInit ∈ a_gw := tw_23
theorem a_oi2 : Cond.code objectInit ⟨#[0xb1]⟩ 1 none ∈ a_gw := tw_24
theorem a_mm0 : Cond.initialized "java/lang/Math" ∈ a_gw := tw_14
theorem a_cp1 : Cond.native arraycopyName ∈ a_gw := tw_440
theorem a_cp2 : Cond.static arraycopyName ∈ a_gw := tw_439
theorem a_cp3 : Cond.initialized "java/lang/System" ∈ a_gw := tw_15
