theorem gf_X4_9 : a_GF "LoafFall$Flour" 9 4 0 := ⟨(RX4, TX4, 2), rfl, by decide, tw_46, rfl⟩
theorem pf_X4_9 : a_PF "LoafFall$Flour" 9 4 0 true (.array .int) := ⟨(RX4, TX4, 2), rfl, by decide, tw_46, rfl, rfl, by decide +kernel, fun _ => rfl⟩
theorem gf_X6_46 : a_GF "LoafFall$Loaf" 46 4 0 := ⟨(RX4, TX4, 2), rfl, by decide, tw_47, rfl⟩
theorem gf_X7_78 : a_GF "LoafFall$Reader" 78 4 0 := ⟨(RX4, TX4, 2), rfl, by decide, tw_48, rfl⟩
theorem gf_X2_69 : a_GF "LoafFall$Dough" 69 4 0 := ⟨(RX4, TX4, 2), rfl, by decide, tw_49, rfl⟩
theorem gf_X11_187 : a_GF "LoafFall" 187 4 0 := ⟨(RX4, TX4, 2), rfl, by decide, tw_50, rfl⟩
theorem gf_X7_48 : a_GF "LoafFall$Reader" 48 4 1 := ⟨(RX4, TX4, 2), rfl, by decide, tw_51, rfl⟩
theorem pf_X7_48 : a_PF "LoafFall$Reader" 48 4 1 false .boolean := ⟨(RX4, TX4, 2), rfl, by decide, tw_51, rfl, rfl, by decide +kernel, fun h => by cases h⟩
theorem gf_X4_24 : a_GF "LoafFall$Flour" 24 4 1 := ⟨(RX4, TX4, 2), rfl, by decide, tw_52, rfl⟩
theorem pf_X4_24 : a_PF "LoafFall$Flour" 24 4 1 false .boolean := ⟨(RX4, TX4, 2), rfl, by decide, tw_52, rfl, rfl, by decide +kernel, fun h => by cases h⟩
theorem gf_X11_183 : a_GF "LoafFall" 183 4 1 := ⟨(RX4, TX4, 2), rfl, by decide, tw_53, rfl⟩
theorem pf_X11_183 : a_PF "LoafFall" 183 4 1 false .boolean := ⟨(RX4, TX4, 2), rfl, by decide, tw_53, rfl, rfl, by decide +kernel, fun h => by cases h⟩
theorem gf_X1_9 : a_GF "LoafFall$Doing" 9 1 0 := ⟨(RX1, TX1, 5), rfl, by decide, tw_66, rfl⟩
theorem pf_X1_9 : a_PF "LoafFall$Doing" 9 1 0 true (.array .int) := ⟨(RX1, TX1, 5), rfl, by decide, tw_66, rfl, rfl, by decide +kernel, fun _ => rfl⟩
theorem gf_X6_82 : a_GF "LoafFall$Loaf" 82 1 0 := ⟨(RX1, TX1, 5), rfl, by decide, tw_67, rfl⟩
theorem gf_X11_197 : a_GF "LoafFall" 197 1 0 := ⟨(RX1, TX1, 5), rfl, by decide, tw_68, rfl⟩
theorem gf_X1_15 : a_GF "LoafFall$Doing" 15 1 1 := ⟨(RX1, TX1, 5), rfl, by decide, tw_69, rfl⟩
theorem pf_X1_15 : a_PF "LoafFall$Doing" 15 1 1 true (.array .int) := ⟨(RX1, TX1, 5), rfl, by decide, tw_69, rfl, rfl, by decide +kernel, fun _ => rfl⟩
theorem gf_X6_92 : a_GF "LoafFall$Loaf" 92 1 1 := ⟨(RX1, TX1, 5), rfl, by decide, tw_70, rfl⟩
theorem gf_X11_349 : a_GF "LoafFall" 349 1 1 := ⟨(RX1, TX1, 5), rfl, by decide, tw_71, rfl⟩
theorem gf_X1_18 : a_GF "LoafFall$Doing" 18 1 2 := ⟨(RX1, TX1, 5), rfl, by decide, tw_72, rfl⟩
theorem pf_X1_18 : a_PF "LoafFall$Doing" 18 1 2 true (.array .int) := ⟨(RX1, TX1, 5), rfl, by decide, tw_72, rfl, rfl, by decide +kernel, fun _ => rfl⟩
theorem gf_X6_98 : a_GF "LoafFall$Loaf" 98 1 2 := ⟨(RX1, TX1, 5), rfl, by decide, tw_73, rfl⟩
theorem gf_X11_329 : a_GF "LoafFall" 329 1 2 := ⟨(RX1, TX1, 5), rfl, by decide, tw_74, rfl⟩
theorem gf_X1_21 : a_GF "LoafFall$Doing" 21 1 3 := ⟨(RX1, TX1, 5), rfl, by decide, tw_75, rfl⟩
theorem pf_X1_21 : a_PF "LoafFall$Doing" 21 1 3 false .int := ⟨(RX1, TX1, 5), rfl, by decide, tw_75, rfl, rfl, by decide +kernel, fun h => by cases h⟩
theorem gf_X0_45 : a_GF "LoafFall$Baker" 45 1 3 := ⟨(RX1, TX1, 5), rfl, by decide, tw_76, rfl⟩
theorem pf_X0_45 : a_PF "LoafFall$Baker" 45 1 3 false .int := ⟨(RX1, TX1, 5), rfl, by decide, tw_76, rfl, rfl, by decide +kernel, fun h => by cases h⟩
theorem gf_X7_52 : a_GF "LoafFall$Reader" 52 1 3 := ⟨(RX1, TX1, 5), rfl, by decide, tw_77, rfl⟩
theorem pf_X7_52 : a_PF "LoafFall$Reader" 52 1 3 false .int := ⟨(RX1, TX1, 5), rfl, by decide, tw_77, rfl, rfl, by decide +kernel, fun h => by cases h⟩
theorem gf_X6_75 : a_GF "LoafFall$Loaf" 75 1 3 := ⟨(RX1, TX1, 5), rfl, by decide, tw_78, rfl⟩
theorem pf_X6_75 : a_PF "LoafFall$Loaf" 75 1 3 false .int := ⟨(RX1, TX1, 5), rfl, by decide, tw_78, rfl, rfl, by decide +kernel, fun h => by cases h⟩
theorem gf_X11_182 : a_GF "LoafFall" 182 1 3 := ⟨(RX1, TX1, 5), rfl, by decide, tw_79, rfl⟩
theorem pf_X11_182 : a_PF "LoafFall" 182 1 3 false .int := ⟨(RX1, TX1, 5), rfl, by decide, tw_79, rfl, rfl, by decide +kernel, fun h => by cases h⟩
theorem gf_X1_31 : a_GF "LoafFall$Doing" 31 1 4 := ⟨(RX1, TX1, 5), rfl, by decide, tw_80, rfl⟩
theorem pf_X1_31 : a_PF "LoafFall$Doing" 31 1 4 false .boolean := ⟨(RX1, TX1, 5), rfl, by decide, tw_80, rfl, rfl, by decide +kernel, fun h => by cases h⟩
theorem gf_X7_56 : a_GF "LoafFall$Reader" 56 1 4 := ⟨(RX1, TX1, 5), rfl, by decide, tw_81, rfl⟩
theorem pf_X7_56 : a_PF "LoafFall$Reader" 56 1 4 false .boolean := ⟨(RX1, TX1, 5), rfl, by decide, tw_81, rfl, rfl, by decide +kernel, fun h => by cases h⟩
theorem gf_X11_190 : a_GF "LoafFall" 190 1 4 := ⟨(RX1, TX1, 5), rfl, by decide, tw_82, rfl⟩
theorem pf_X11_190 : a_PF "LoafFall" 190 1 4 false .boolean := ⟨(RX1, TX1, 5), rfl, by decide, tw_82, rfl, rfl, by decide +kernel, fun h => by cases h⟩
theorem gf_X2_9 : a_GF "LoafFall$Dough" 9 2 0 := ⟨(RX2, TX2, 10), rfl, by decide, tw_100, rfl⟩
theorem pf_X2_9 : a_PF "LoafFall$Dough" 9 2 0 true (.array .int) := ⟨(RX2, TX2, 10), rfl, by decide, tw_100, rfl, rfl, by decide +kernel, fun _ => rfl⟩
theorem gf_X3_39 : a_GF "LoafFall$Falls" 39 2 0 := ⟨(RX2, TX2, 10), rfl, by decide, tw_101, rfl⟩
theorem gf_X6_133 : a_GF "LoafFall$Loaf" 133 2 0 := ⟨(RX2, TX2, 10), rfl, by decide, tw_102, rfl⟩
theorem gf_X2_15 : a_GF "LoafFall$Dough" 15 2 1 := ⟨(RX2, TX2, 10), rfl, by decide, tw_103, rfl⟩
theorem pf_X2_15 : a_PF "LoafFall$Dough" 15 2 1 true (.array .int) := ⟨(RX2, TX2, 10), rfl, by decide, tw_103, rfl, rfl, by decide +kernel, fun _ => rfl⟩
theorem gf_X6_136 : a_GF "LoafFall$Loaf" 136 2 1 := ⟨(RX2, TX2, 10), rfl, by decide, tw_104, rfl⟩
theorem gf_X2_18 : a_GF "LoafFall$Dough" 18 2 2 := ⟨(RX2, TX2, 10), rfl, by decide, tw_105, rfl⟩
theorem pf_X2_18 : a_PF "LoafFall$Dough" 18 2 2 true (.array .int) := ⟨(RX2, TX2, 10), rfl, by decide, tw_105, rfl, rfl, by decide +kernel, fun _ => rfl⟩
theorem gf_X6_149 : a_GF "LoafFall$Loaf" 149 2 2 := ⟨(RX2, TX2, 10), rfl, by decide, tw_106, rfl⟩
theorem gf_X2_21 : a_GF "LoafFall$Dough" 21 2 3 := ⟨(RX2, TX2, 10), rfl, by decide, tw_107, rfl⟩
theorem pf_X2_21 : a_PF "LoafFall$Dough" 21 2 3 true (.array .int) := ⟨(RX2, TX2, 10), rfl, by decide, tw_107, rfl, rfl, by decide +kernel, fun _ => rfl⟩
theorem gf_X6_139 : a_GF "LoafFall$Loaf" 139 2 3 := ⟨(RX2, TX2, 10), rfl, by decide, tw_108, rfl⟩
theorem gf_X2_24 : a_GF "LoafFall$Dough" 24 2 4 := ⟨(RX2, TX2, 10), rfl, by decide, tw_109, rfl⟩
theorem pf_X2_24 : a_PF "LoafFall$Dough" 24 2 4 true (.array .int) := ⟨(RX2, TX2, 10), rfl, by decide, tw_109, rfl, rfl, by decide +kernel, fun _ => rfl⟩
theorem gf_X5_26 : a_GF "LoafFall$Holes" 26 2 4 := ⟨(RX2, TX2, 10), rfl, by decide, tw_110, rfl⟩
theorem gf_X6_142 : a_GF "LoafFall$Loaf" 142 2 4 := ⟨(RX2, TX2, 10), rfl, by decide, tw_111, rfl⟩
theorem gf_X2_27 : a_GF "LoafFall$Dough" 27 2 5 := ⟨(RX2, TX2, 10), rfl, by decide, tw_112, rfl⟩
theorem pf_X2_27 : a_PF "LoafFall$Dough" 27 2 5 false .int := ⟨(RX2, TX2, 10), rfl, by decide, tw_112, rfl, rfl, by decide +kernel, fun h => by cases h⟩
theorem gf_X3_33 : a_GF "LoafFall$Falls" 33 2 5 := ⟨(RX2, TX2, 10), rfl, by decide, tw_113, rfl⟩
theorem pf_X3_33 : a_PF "LoafFall$Falls" 33 2 5 false .int := ⟨(RX2, TX2, 10), rfl, by decide, tw_113, rfl, rfl, by decide +kernel, fun h => by cases h⟩
theorem gf_X6_64 : a_GF "LoafFall$Loaf" 64 2 5 := ⟨(RX2, TX2, 10), rfl, by decide, tw_114, rfl⟩
theorem pf_X6_64 : a_PF "LoafFall$Loaf" 64 2 5 false .int := ⟨(RX2, TX2, 10), rfl, by decide, tw_114, rfl, rfl, by decide +kernel, fun h => by cases h⟩
theorem gf_X0_92 : a_GF "LoafFall$Baker" 92 2 5 := ⟨(RX2, TX2, 10), rfl, by decide, tw_115, rfl⟩
theorem pf_X0_92 : a_PF "LoafFall$Baker" 92 2 5 false .int := ⟨(RX2, TX2, 10), rfl, by decide, tw_115, rfl, rfl, by decide +kernel, fun h => by cases h⟩
theorem gf_X11_273 : a_GF "LoafFall" 273 2 5 := ⟨(RX2, TX2, 10), rfl, by decide, tw_116, rfl⟩
theorem pf_X11_273 : a_PF "LoafFall" 273 2 5 false .int := ⟨(RX2, TX2, 10), rfl, by decide, tw_116, rfl, rfl, by decide +kernel, fun h => by cases h⟩
theorem gf_X2_31 : a_GF "LoafFall$Dough" 31 2 6 := ⟨(RX2, TX2, 10), rfl, by decide, tw_117, rfl⟩
theorem pf_X2_31 : a_PF "LoafFall$Dough" 31 2 6 false .int := ⟨(RX2, TX2, 10), rfl, by decide, tw_117, rfl, rfl, by decide +kernel, fun h => by cases h⟩
theorem gf_X3_42 : a_GF "LoafFall$Falls" 42 2 6 := ⟨(RX2, TX2, 10), rfl, by decide, tw_118, rfl⟩
theorem pf_X3_42 : a_PF "LoafFall$Falls" 42 2 6 false .int := ⟨(RX2, TX2, 10), rfl, by decide, tw_118, rfl, rfl, by decide +kernel, fun h => by cases h⟩
theorem gf_X6_121 : a_GF "LoafFall$Loaf" 121 2 6 := ⟨(RX2, TX2, 10), rfl, by decide, tw_119, rfl⟩
theorem pf_X6_121 : a_PF "LoafFall$Loaf" 121 2 6 false .int := ⟨(RX2, TX2, 10), rfl, by decide, tw_119, rfl, rfl, by decide +kernel, fun h => by cases h⟩
theorem gf_X11_216 : a_GF "LoafFall" 216 2 6 := ⟨(RX2, TX2, 10), rfl, by decide, tw_120, rfl⟩
theorem pf_X11_216 : a_PF "LoafFall" 216 2 6 false .int := ⟨(RX2, TX2, 10), rfl, by decide, tw_120, rfl, rfl, by decide +kernel, fun h => by cases h⟩
theorem gf_X2_34 : a_GF "LoafFall$Dough" 34 2 7 := ⟨(RX2, TX2, 10), rfl, by decide, tw_121, rfl⟩
theorem pf_X2_34 : a_PF "LoafFall$Dough" 34 2 7 false .int := ⟨(RX2, TX2, 10), rfl, by decide, tw_121, rfl, rfl, by decide +kernel, fun h => by cases h⟩
theorem gf_X6_72 : a_GF "LoafFall$Loaf" 72 2 7 := ⟨(RX2, TX2, 10), rfl, by decide, tw_122, rfl⟩
theorem pf_X6_72 : a_PF "LoafFall$Loaf" 72 2 7 false .int := ⟨(RX2, TX2, 10), rfl, by decide, tw_122, rfl, rfl, by decide +kernel, fun h => by cases h⟩
theorem gf_X2_37 : a_GF "LoafFall$Dough" 37 2 8 := ⟨(RX2, TX2, 10), rfl, by decide, tw_123, rfl⟩
theorem pf_X2_37 : a_PF "LoafFall$Dough" 37 2 8 false .int := ⟨(RX2, TX2, 10), rfl, by decide, tw_123, rfl, rfl, by decide +kernel, fun h => by cases h⟩
theorem gf_X6_95 : a_GF "LoafFall$Loaf" 95 2 8 := ⟨(RX2, TX2, 10), rfl, by decide, tw_124, rfl⟩
theorem pf_X6_95 : a_PF "LoafFall$Loaf" 95 2 8 false .int := ⟨(RX2, TX2, 10), rfl, by decide, tw_124, rfl, rfl, by decide +kernel, fun h => by cases h⟩
theorem gf_X2_40 : a_GF "LoafFall$Dough" 40 2 9 := ⟨(RX2, TX2, 10), rfl, by decide, tw_125, rfl⟩
theorem pf_X2_40 : a_PF "LoafFall$Dough" 40 2 9 false .boolean := ⟨(RX2, TX2, 10), rfl, by decide, tw_125, rfl, rfl, by decide +kernel, fun h => by cases h⟩
theorem gf_X6_115 : a_GF "LoafFall$Loaf" 115 2 9 := ⟨(RX2, TX2, 10), rfl, by decide, tw_126, rfl⟩
theorem pf_X6_115 : a_PF "LoafFall$Loaf" 115 2 9 false .boolean := ⟨(RX2, TX2, 10), rfl, by decide, tw_126, rfl, rfl, by decide +kernel, fun h => by cases h⟩
theorem gf_X3_9 : a_GF "LoafFall$Falls" 9 3 0 := ⟨(RX3, TX3, 5), rfl, by decide, tw_154, rfl⟩
theorem pf_X3_9 : a_PF "LoafFall$Falls" 9 3 0 true (.array .int) := ⟨(RX3, TX3, 5), rfl, by decide, tw_154, rfl, rfl, by decide +kernel, fun _ => rfl⟩
theorem gf_X3_15 : a_GF "LoafFall$Falls" 15 3 1 := ⟨(RX3, TX3, 5), rfl, by decide, tw_155, rfl⟩
theorem pf_X3_15 : a_PF "LoafFall$Falls" 15 3 1 true (.array .int) := ⟨(RX3, TX3, 5), rfl, by decide, tw_155, rfl, rfl, by decide +kernel, fun _ => rfl⟩
theorem gf_X11_243 : a_GF "LoafFall" 243 3 1 := ⟨(RX3, TX3, 5), rfl, by decide, tw_156, rfl⟩
theorem gf_X3_18 : a_GF "LoafFall$Falls" 18 3 2 := ⟨(RX3, TX3, 5), rfl, by decide, tw_157, rfl⟩
theorem pf_X3_18 : a_PF "LoafFall$Falls" 18 3 2 true (.array .int) := ⟨(RX3, TX3, 5), rfl, by decide, tw_157, rfl, rfl, by decide +kernel, fun _ => rfl⟩
theorem gf_X3_21 : a_GF "LoafFall$Falls" 21 3 3 := ⟨(RX3, TX3, 5), rfl, by decide, tw_158, rfl⟩
theorem pf_X3_21 : a_PF "LoafFall$Falls" 21 3 3 true (.array .int) := ⟨(RX3, TX3, 5), rfl, by decide, tw_158, rfl, rfl, by decide +kernel, fun _ => rfl⟩
theorem gf_X3_24 : a_GF "LoafFall$Falls" 24 3 4 := ⟨(RX3, TX3, 5), rfl, by decide, tw_159, rfl⟩
theorem pf_X3_24 : a_PF "LoafFall$Falls" 24 3 4 true (.array .int) := ⟨(RX3, TX3, 5), rfl, by decide, tw_159, rfl, rfl, by decide +kernel, fun _ => rfl⟩
theorem gf_X11_246 : a_GF "LoafFall" 246 3 4 := ⟨(RX3, TX3, 5), rfl, by decide, tw_160, rfl⟩
theorem gf_X6_12 : a_GF "LoafFall$Loaf" 12 6 0 := ⟨(RX6, TX6, 5), rfl, by decide, tw_172, rfl⟩
theorem pf_X6_12 : a_PF "LoafFall$Loaf" 12 6 0 true (.object "LoafFall$Flour") := ⟨(RX6, TX6, 5), rfl, by decide, tw_172, rfl, rfl, by decide +kernel, fun _ => rfl⟩
theorem gf_X0_65 : a_GF "LoafFall$Baker" 65 6 0 := ⟨(RX6, TX6, 5), rfl, by decide, tw_173, rfl⟩
theorem gf_X11_240 : a_GF "LoafFall" 240 6 0 := ⟨(RX6, TX6, 5), rfl, by decide, tw_174, rfl⟩
theorem gf_X6_21 : a_GF "LoafFall$Loaf" 21 6 1 := ⟨(RX6, TX6, 5), rfl, by decide, tw_175, rfl⟩
theorem pf_X6_21 : a_PF "LoafFall$Loaf" 21 6 1 true (.object "LoafFall$Doing") := ⟨(RX6, TX6, 5), rfl, by decide, tw_175, rfl, rfl, by decide +kernel, fun _ => rfl⟩
theorem gf_X0_75 : a_GF "LoafFall$Baker" 75 6 1 := ⟨(RX6, TX6, 5), rfl, by decide, tw_176, rfl⟩
theorem gf_X11_204 : a_GF "LoafFall" 204 6 1 := ⟨(RX6, TX6, 5), rfl, by decide, tw_177, rfl⟩
theorem gf_X6_28 : a_GF "LoafFall$Loaf" 28 6 2 := ⟨(RX6, TX6, 5), rfl, by decide, tw_178, rfl⟩
theorem pf_X6_28 : a_PF "LoafFall$Loaf" 28 6 2 true (.object "LoafFall$Dough") := ⟨(RX6, TX6, 5), rfl, by decide, tw_178, rfl, rfl, by decide +kernel, fun _ => rfl⟩
theorem gf_X0_33 : a_GF "LoafFall$Baker" 33 6 2 := ⟨(RX6, TX6, 5), rfl, by decide, tw_179, rfl⟩
theorem gf_X11_212 : a_GF "LoafFall" 212 6 2 := ⟨(RX6, TX6, 5), rfl, by decide, tw_180, rfl⟩
theorem gf_X6_35 : a_GF "LoafFall$Loaf" 35 6 3 := ⟨(RX6, TX6, 5), rfl, by decide, tw_181, rfl⟩
theorem pf_X6_35 : a_PF "LoafFall$Loaf" 35 6 3 true (.object "LoafFall$Falls") := ⟨(RX6, TX6, 5), rfl, by decide, tw_181, rfl, rfl, by decide +kernel, fun _ => rfl⟩
theorem gf_X11_230 : a_GF "LoafFall" 230 6 3 := ⟨(RX6, TX6, 5), rfl, by decide, tw_182, rfl⟩
theorem gf_X6_54 : a_GF "LoafFall$Loaf" 54 6 4 := ⟨(RX6, TX6, 5), rfl, by decide, tw_183, rfl⟩
theorem pf_X6_54 : a_PF "LoafFall$Loaf" 54 6 4 false .boolean := ⟨(RX6, TX6, 5), rfl, by decide, tw_183, rfl, rfl, by decide +kernel, fun h => by cases h⟩
theorem gf_X11_211 : a_GF "LoafFall" 211 6 4 := ⟨(RX6, TX6, 5), rfl, by decide, tw_184, rfl⟩
theorem pf_X11_211 : a_PF "LoafFall" 211 6 4 false .boolean := ⟨(RX6, TX6, 5), rfl, by decide, tw_184, rfl, rfl, by decide +kernel, fun h => by cases h⟩
theorem gf_X9_9 : a_GF "LoafFall$Slips" 9 9 0 := ⟨(RX9, TX9, 3), rfl, by decide, tw_202, rfl⟩
theorem pf_X9_9 : a_PF "LoafFall$Slips" 9 9 0 true (.array .int) := ⟨(RX9, TX9, 3), rfl, by decide, tw_202, rfl, rfl, by decide +kernel, fun _ => rfl⟩
theorem gf_X11_359 : a_GF "LoafFall" 359 9 0 := ⟨(RX9, TX9, 3), rfl, by decide, tw_203, rfl⟩
theorem gf_X9_15 : a_GF "LoafFall$Slips" 15 9 1 := ⟨(RX9, TX9, 3), rfl, by decide, tw_204, rfl⟩
theorem pf_X9_15 : a_PF "LoafFall$Slips" 15 9 1 true (.array .int) := ⟨(RX9, TX9, 3), rfl, by decide, tw_204, rfl, rfl, by decide +kernel, fun _ => rfl⟩
theorem gf_X11_361 : a_GF "LoafFall" 361 9 1 := ⟨(RX9, TX9, 3), rfl, by decide, tw_205, rfl⟩
theorem gf_X9_18 : a_GF "LoafFall$Slips" 18 9 2 := ⟨(RX9, TX9, 3), rfl, by decide, tw_206, rfl⟩
theorem pf_X9_18 : a_PF "LoafFall$Slips" 18 9 2 false .int := ⟨(RX9, TX9, 3), rfl, by decide, tw_206, rfl, rfl, by decide +kernel, fun h => by cases h⟩
theorem gf_X11_355 : a_GF "LoafFall" 355 9 2 := ⟨(RX9, TX9, 3), rfl, by decide, tw_207, rfl⟩
theorem pf_X11_355 : a_PF "LoafFall" 355 9 2 false .int := ⟨(RX9, TX9, 3), rfl, by decide, tw_207, rfl, rfl, by decide +kernel, fun h => by cases h⟩
theorem gf_X7_12 : a_GF "LoafFall$Reader" 12 7 0 := ⟨(RX7, TX7, 4), rfl, by decide, tw_225, rfl⟩
theorem pf_X7_12 : a_PF "LoafFall$Reader" 12 7 0 true (.object "LoafFall$Flour") := ⟨(RX7, TX7, 4), rfl, by decide, tw_225, rfl, rfl, by decide +kernel, fun _ => rfl⟩
theorem gf_X11_163 : a_GF "LoafFall" 163 7 0 := ⟨(RX7, TX7, 4), rfl, by decide, tw_226, rfl⟩
theorem gf_X7_21 : a_GF "LoafFall$Reader" 21 7 1 := ⟨(RX7, TX7, 4), rfl, by decide, tw_227, rfl⟩
theorem pf_X7_21 : a_PF "LoafFall$Reader" 21 7 1 true (.object "LoafFall$Doing") := ⟨(RX7, TX7, 4), rfl, by decide, tw_227, rfl, rfl, by decide +kernel, fun _ => rfl⟩
theorem gf_X11_176 : a_GF "LoafFall" 176 7 1 := ⟨(RX7, TX7, 4), rfl, by decide, tw_228, rfl⟩
theorem gf_X7_28 : a_GF "LoafFall$Reader" 28 7 2 := ⟨(RX7, TX7, 4), rfl, by decide, tw_229, rfl⟩
theorem pf_X7_28 : a_PF "LoafFall$Reader" 28 7 2 false .int := ⟨(RX7, TX7, 4), rfl, by decide, tw_229, rfl, rfl, by decide +kernel, fun h => by cases h⟩
theorem gf_X11_170 : a_GF "LoafFall" 170 7 2 := ⟨(RX7, TX7, 4), rfl, by decide, tw_230, rfl⟩
theorem pf_X11_170 : a_PF "LoafFall" 170 7 2 false .int := ⟨(RX7, TX7, 4), rfl, by decide, tw_230, rfl, rfl, by decide +kernel, fun h => by cases h⟩
theorem gf_X7_32 : a_GF "LoafFall$Reader" 32 7 3 := ⟨(RX7, TX7, 4), rfl, by decide, tw_231, rfl⟩
theorem pf_X7_32 : a_PF "LoafFall$Reader" 32 7 3 false .int := ⟨(RX7, TX7, 4), rfl, by decide, tw_231, rfl, rfl, by decide +kernel, fun h => by cases h⟩
theorem gf_X0_12 : a_GF "LoafFall$Baker" 12 0 0 := ⟨(RX0, TX0, 3), rfl, by decide, tw_252, rfl⟩
theorem pf_X0_12 : a_PF "LoafFall$Baker" 12 0 0 true (.object "LoafFall$Loaf") := ⟨(RX0, TX0, 3), rfl, by decide, tw_252, rfl, rfl, by decide +kernel, fun _ => rfl⟩
theorem gf_X0_20 : a_GF "LoafFall$Baker" 20 0 1 := ⟨(RX0, TX0, 3), rfl, by decide, tw_253, rfl⟩
theorem pf_X0_20 : a_PF "LoafFall$Baker" 20 0 1 true (.array (.object "LoafFall$Dough")) := ⟨(RX0, TX0, 3), rfl, by decide, tw_253, rfl, rfl, by decide +kernel, fun _ => rfl⟩
theorem gf_X0_41 : a_GF "LoafFall$Baker" 41 0 2 := ⟨(RX0, TX0, 3), rfl, by decide, tw_254, rfl⟩
theorem pf_X0_41 : a_PF "LoafFall$Baker" 41 0 2 false .int := ⟨(RX0, TX0, 3), rfl, by decide, tw_254, rfl, rfl, by decide +kernel, fun h => by cases h⟩
theorem gf_X5_9 : a_GF "LoafFall$Holes" 9 5 0 := ⟨(RX5, TX5, 5), rfl, by decide, tw_268, rfl⟩
theorem pf_X5_9 : a_PF "LoafFall$Holes" 9 5 0 true (.array .boolean) := ⟨(RX5, TX5, 5), rfl, by decide, tw_268, rfl, rfl, by decide +kernel, fun _ => rfl⟩
theorem gf_X5_15 : a_GF "LoafFall$Holes" 15 5 1 := ⟨(RX5, TX5, 5), rfl, by decide, tw_269, rfl⟩
theorem pf_X5_15 : a_PF "LoafFall$Holes" 15 5 1 true (.array .int) := ⟨(RX5, TX5, 5), rfl, by decide, tw_269, rfl, rfl, by decide +kernel, fun _ => rfl⟩
theorem gf_X5_41 : a_GF "LoafFall$Holes" 41 5 2 := ⟨(RX5, TX5, 5), rfl, by decide, tw_270, rfl⟩
theorem pf_X5_41 : a_PF "LoafFall$Holes" 41 5 2 false .int := ⟨(RX5, TX5, 5), rfl, by decide, tw_270, rfl, rfl, by decide +kernel, fun h => by cases h⟩
theorem gf_X5_19 : a_GF "LoafFall$Holes" 19 5 3 := ⟨(RX5, TX5, 5), rfl, by decide, tw_271, rfl⟩
theorem pf_X5_19 : a_PF "LoafFall$Holes" 19 5 3 false .int := ⟨(RX5, TX5, 5), rfl, by decide, tw_271, rfl, rfl, by decide +kernel, fun h => by cases h⟩
theorem gf_X11_268 : a_GF "LoafFall" 268 5 3 := ⟨(RX5, TX5, 5), rfl, by decide, tw_272, rfl⟩
theorem pf_X11_268 : a_PF "LoafFall" 268 5 3 false .int := ⟨(RX5, TX5, 5), rfl, by decide, tw_272, rfl, rfl, by decide +kernel, fun h => by cases h⟩
theorem gf_X5_23 : a_GF "LoafFall$Holes" 23 5 4 := ⟨(RX5, TX5, 5), rfl, by decide, tw_273, rfl⟩
theorem pf_X5_23 : a_PF "LoafFall$Holes" 23 5 4 false .int := ⟨(RX5, TX5, 5), rfl, by decide, tw_273, rfl, rfl, by decide +kernel, fun h => by cases h⟩
theorem gf_X11_265 : a_GF "LoafFall" 265 5 4 := ⟨(RX5, TX5, 5), rfl, by decide, tw_274, rfl⟩
theorem pf_X11_265 : a_PF "LoafFall" 265 5 4 false .int := ⟨(RX5, TX5, 5), rfl, by decide, tw_274, rfl, rfl, by decide +kernel, fun h => by cases h⟩
theorem gf_X8_9 : a_GF "LoafFall$Row" 9 8 0 := ⟨(RX8, TX8, 2), rfl, by decide, tw_294, rfl⟩
theorem pf_X8_9 : a_PF "LoafFall$Row" 9 8 0 true (.array .int) := ⟨(RX8, TX8, 2), rfl, by decide, tw_294, rfl, rfl, by decide +kernel, fun _ => rfl⟩
theorem gf_X11_117 : a_GF "LoafFall" 117 8 0 := ⟨(RX8, TX8, 2), rfl, by decide, tw_295, rfl⟩
theorem gf_X2_64 : a_GF "LoafFall$Dough" 64 8 0 := ⟨(RX8, TX8, 2), rfl, by decide, tw_296, rfl⟩
theorem gf_X8_15 : a_GF "LoafFall$Row" 15 8 1 := ⟨(RX8, TX8, 2), rfl, by decide, tw_297, rfl⟩
theorem pf_X8_15 : a_PF "LoafFall$Row" 15 8 1 false .int := ⟨(RX8, TX8, 2), rfl, by decide, tw_297, rfl, rfl, by decide +kernel, fun h => by cases h⟩
theorem gf_X11_127 : a_GF "LoafFall" 127 8 1 := ⟨(RX8, TX8, 2), rfl, by decide, tw_298, rfl⟩
theorem pf_X11_127 : a_PF "LoafFall" 127 8 1 false .int := ⟨(RX8, TX8, 2), rfl, by decide, tw_298, rfl, rfl, by decide +kernel, fun h => by cases h⟩
theorem gf_X10_9 : a_GF "LoafFall$Text" 9 10 0 := ⟨(RX10, TX10, 2), rfl, by decide, tw_309, rfl⟩
theorem pf_X10_9 : a_PF "LoafFall$Text" 9 10 0 true (.array .byte) := ⟨(RX10, TX10, 2), rfl, by decide, tw_309, rfl, rfl, by decide +kernel, fun _ => rfl⟩
theorem gf_X11_149 : a_GF "LoafFall" 149 10 0 := ⟨(RX10, TX10, 2), rfl, by decide, tw_310, rfl⟩
theorem gf_X10_15 : a_GF "LoafFall$Text" 15 10 1 := ⟨(RX10, TX10, 2), rfl, by decide, tw_311, rfl⟩
theorem pf_X10_15 : a_PF "LoafFall$Text" 15 10 1 false .int := ⟨(RX10, TX10, 2), rfl, by decide, tw_311, rfl, rfl, by decide +kernel, fun h => by cases h⟩
theorem gf_X7_35 : a_GF "LoafFall$Reader" 35 10 1 := ⟨(RX10, TX10, 2), rfl, by decide, tw_312, rfl⟩
theorem pf_X7_35 : a_PF "LoafFall$Reader" 35 10 1 false .int := ⟨(RX10, TX10, 2), rfl, by decide, tw_312, rfl, rfl, by decide +kernel, fun h => by cases h⟩
theorem gf_X11_435 : a_GF "LoafFall" 435 10 1 := ⟨(RX10, TX10, 2), rfl, by decide, tw_313, rfl⟩
theorem pf_X11_435 : a_PF "LoafFall" 435 10 1 false .int := ⟨(RX10, TX10, 2), rfl, by decide, tw_313, rfl, rfl, by decide +kernel, fun h => by cases h⟩
theorem gf_X11_11 : a_GF "LoafFall" 11 11 0 := ⟨(RX11, TX11, 20), rfl, by decide, tw_320, rfl⟩
theorem pf_X11_11 : a_PF "LoafFall" 11 11 0 true (.array (.object "LoafFall$Row")) := ⟨(RX11, TX11, 20), rfl, by decide, tw_320, rfl, rfl, by decide +kernel, fun _ => rfl⟩
theorem gf_X11_17 : a_GF "LoafFall" 17 11 1 := ⟨(RX11, TX11, 20), rfl, by decide, tw_321, rfl⟩
theorem pf_X11_17 : a_PF "LoafFall" 17 11 1 true (.array (.object "LoafFall$Text")) := ⟨(RX11, TX11, 20), rfl, by decide, tw_321, rfl, rfl, by decide +kernel, fun _ => rfl⟩
theorem gf_X11_23 : a_GF "LoafFall" 23 11 2 := ⟨(RX11, TX11, 20), rfl, by decide, tw_322, rfl⟩
theorem pf_X11_23 : a_PF "LoafFall" 23 11 2 true (.array (.object "LoafFall$Flour")) := ⟨(RX11, TX11, 20), rfl, by decide, tw_322, rfl, rfl, by decide +kernel, fun _ => rfl⟩
theorem gf_X11_29 : a_GF "LoafFall" 29 11 3 := ⟨(RX11, TX11, 20), rfl, by decide, tw_323, rfl⟩
theorem pf_X11_29 : a_PF "LoafFall" 29 11 3 true (.array (.object "LoafFall$Doing")) := ⟨(RX11, TX11, 20), rfl, by decide, tw_323, rfl, rfl, by decide +kernel, fun _ => rfl⟩
theorem gf_X11_35 : a_GF "LoafFall" 35 11 4 := ⟨(RX11, TX11, 20), rfl, by decide, tw_324, rfl⟩
theorem pf_X11_35 : a_PF "LoafFall" 35 11 4 true (.array (.object "LoafFall$Loaf")) := ⟨(RX11, TX11, 20), rfl, by decide, tw_324, rfl, rfl, by decide +kernel, fun _ => rfl⟩
theorem gf_X11_40 : a_GF "LoafFall" 40 11 5 := ⟨(RX11, TX11, 20), rfl, by decide, tw_325, rfl⟩
theorem pf_X11_40 : a_PF "LoafFall" 40 11 5 true (.object "LoafFall$Loaf") := ⟨(RX11, TX11, 20), rfl, by decide, tw_325, rfl, rfl, by decide +kernel, fun _ => rfl⟩
theorem gf_X11_47 : a_GF "LoafFall" 47 11 6 := ⟨(RX11, TX11, 20), rfl, by decide, tw_326, rfl⟩
theorem pf_X11_47 : a_PF "LoafFall" 47 11 6 true (.object "LoafFall$Slips") := ⟨(RX11, TX11, 20), rfl, by decide, tw_326, rfl, rfl, by decide +kernel, fun _ => rfl⟩
theorem gf_X11_54 : a_GF "LoafFall" 54 11 7 := ⟨(RX11, TX11, 20), rfl, by decide, tw_327, rfl⟩
theorem pf_X11_54 : a_PF "LoafFall" 54 11 7 true (.object "LoafFall$Reader") := ⟨(RX11, TX11, 20), rfl, by decide, tw_327, rfl, rfl, by decide +kernel, fun _ => rfl⟩
theorem gf_X11_61 : a_GF "LoafFall" 61 11 8 := ⟨(RX11, TX11, 20), rfl, by decide, tw_328, rfl⟩
theorem pf_X11_61 : a_PF "LoafFall" 61 11 8 true (.object "LoafFall$Baker") := ⟨(RX11, TX11, 20), rfl, by decide, tw_328, rfl, rfl, by decide +kernel, fun _ => rfl⟩
theorem gf_X11_68 : a_GF "LoafFall" 68 11 9 := ⟨(RX11, TX11, 20), rfl, by decide, tw_329, rfl⟩
theorem pf_X11_68 : a_PF "LoafFall" 68 11 9 true (.object "LoafFall$Holes") := ⟨(RX11, TX11, 20), rfl, by decide, tw_329, rfl, rfl, by decide +kernel, fun _ => rfl⟩
theorem gf_X11_73 : a_GF "LoafFall" 73 11 10 := ⟨(RX11, TX11, 20), rfl, by decide, tw_330, rfl⟩
theorem pf_X11_73 : a_PF "LoafFall" 73 11 10 true (.object "LoafFall$Flour") := ⟨(RX11, TX11, 20), rfl, by decide, tw_330, rfl, rfl, by decide +kernel, fun _ => rfl⟩
theorem gf_X11_78 : a_GF "LoafFall" 78 11 11 := ⟨(RX11, TX11, 20), rfl, by decide, tw_331, rfl⟩
theorem pf_X11_78 : a_PF "LoafFall" 78 11 11 true (.object "LoafFall$Doing") := ⟨(RX11, TX11, 20), rfl, by decide, tw_331, rfl, rfl, by decide +kernel, fun _ => rfl⟩
theorem gf_X11_82 : a_GF "LoafFall" 82 11 12 := ⟨(RX11, TX11, 20), rfl, by decide, tw_332, rfl⟩
theorem pf_X11_82 : a_PF "LoafFall" 82 11 12 true (.object "LoafFall$Doing") := ⟨(RX11, TX11, 20), rfl, by decide, tw_332, rfl, rfl, by decide +kernel, fun _ => rfl⟩
theorem gf_X11_85 : a_GF "LoafFall" 85 11 13 := ⟨(RX11, TX11, 20), rfl, by decide, tw_333, rfl⟩
theorem pf_X11_85 : a_PF "LoafFall" 85 11 13 true (.array .int) := ⟨(RX11, TX11, 20), rfl, by decide, tw_333, rfl, rfl, by decide +kernel, fun _ => rfl⟩
theorem gf_X11_89 : a_GF "LoafFall" 89 11 14 := ⟨(RX11, TX11, 20), rfl, by decide, tw_334, rfl⟩
theorem pf_X11_89 : a_PF "LoafFall" 89 11 14 true (.array .int) := ⟨(RX11, TX11, 20), rfl, by decide, tw_334, rfl, rfl, by decide +kernel, fun _ => rfl⟩
theorem gf_X11_92 : a_GF "LoafFall" 92 11 15 := ⟨(RX11, TX11, 20), rfl, by decide, tw_335, rfl⟩
theorem pf_X11_92 : a_PF "LoafFall" 92 11 15 true (.array .int) := ⟨(RX11, TX11, 20), rfl, by decide, tw_335, rfl, rfl, by decide +kernel, fun _ => rfl⟩
theorem gf_X11_397 : a_GF "LoafFall" 397 11 16 := ⟨(RX11, TX11, 20), rfl, by decide, tw_336, rfl⟩
theorem pf_X11_397 : a_PF "LoafFall" 397 11 16 false .int := ⟨(RX11, TX11, 20), rfl, by decide, tw_336, rfl, rfl, by decide +kernel, fun h => by cases h⟩
theorem gf_X11_194 : a_GF "LoafFall" 194 11 17 := ⟨(RX11, TX11, 20), rfl, by decide, tw_337, rfl⟩
theorem pf_X11_194 : a_PF "LoafFall" 194 11 17 false .int := ⟨(RX11, TX11, 20), rfl, by decide, tw_337, rfl, rfl, by decide +kernel, fun h => by cases h⟩
theorem gf_X11_379 : a_GF "LoafFall" 379 11 18 := ⟨(RX11, TX11, 20), rfl, by decide, tw_338, rfl⟩
theorem pf_X11_379 : a_PF "LoafFall" 379 11 18 false .long := ⟨(RX11, TX11, 20), rfl, by decide, tw_338, rfl, rfl, by decide +kernel, fun h => by cases h⟩
theorem gf_X11_95 : a_GF "LoafFall" 95 11 19 := ⟨(RX11, TX11, 20), rfl, by decide, tw_339, rfl⟩
theorem pf_X11_95 : a_PF "LoafFall" 95 11 19 false .long := ⟨(RX11, TX11, 20), rfl, by decide, tw_339, rfl, rfl, by decide +kernel, fun h => by cases h⟩
theorem gf_X12_82 : a_GF "LoafFallModel" 82 12 0 := ⟨(RX12, TX12, 33), rfl, by decide, tw_1033, rfl⟩
theorem pf_X12_82 : a_PF "LoafFallModel" 82 12 0 false .int := ⟨(RX12, TX12, 33), rfl, by decide, tw_1033, rfl, rfl, by decide +kernel, fun h => by cases h⟩
theorem gf_X12_7 : a_GF "LoafFallModel" 7 12 1 := ⟨(RX12, TX12, 33), rfl, by decide, tw_1034, rfl⟩
theorem pf_X12_7 : a_PF "LoafFallModel" 7 12 1 true (.array .int) := ⟨(RX12, TX12, 33), rfl, by decide, tw_1034, rfl, rfl, by decide +kernel, fun _ => rfl⟩
theorem gf_X12_90 : a_GF "LoafFallModel" 90 12 2 := ⟨(RX12, TX12, 33), rfl, by decide, tw_1035, rfl⟩
theorem pf_X12_90 : a_PF "LoafFallModel" 90 12 2 false .int := ⟨(RX12, TX12, 33), rfl, by decide, tw_1035, rfl, rfl, by decide +kernel, fun h => by cases h⟩
theorem gf_X12_93 : a_GF "LoafFallModel" 93 12 3 := ⟨(RX12, TX12, 33), rfl, by decide, tw_1036, rfl⟩
theorem pf_X12_93 : a_PF "LoafFallModel" 93 12 3 false .long := ⟨(RX12, TX12, 33), rfl, by decide, tw_1036, rfl, rfl, by decide +kernel, fun h => by cases h⟩
theorem gf_X12_78 : a_GF "LoafFallModel" 78 12 4 := ⟨(RX12, TX12, 33), rfl, by decide, tw_1037, rfl⟩
theorem pf_X12_78 : a_PF "LoafFallModel" 78 12 4 false .long := ⟨(RX12, TX12, 33), rfl, by decide, tw_1037, rfl, rfl, by decide +kernel, fun h => by cases h⟩
theorem gf_X12_13 : a_GF "LoafFallModel" 13 12 5 := ⟨(RX12, TX12, 33), rfl, by decide, tw_1038, rfl⟩
theorem pf_X12_13 : a_PF "LoafFallModel" 13 12 5 true (.array .int) := ⟨(RX12, TX12, 33), rfl, by decide, tw_1038, rfl, rfl, by decide +kernel, fun _ => rfl⟩
theorem gf_X12_16 : a_GF "LoafFallModel" 16 12 6 := ⟨(RX12, TX12, 33), rfl, by decide, tw_1039, rfl⟩
theorem pf_X12_16 : a_PF "LoafFallModel" 16 12 6 true (.array .int) := ⟨(RX12, TX12, 33), rfl, by decide, tw_1039, rfl, rfl, by decide +kernel, fun _ => rfl⟩
theorem gf_X12_19 : a_GF "LoafFallModel" 19 12 7 := ⟨(RX12, TX12, 33), rfl, by decide, tw_1040, rfl⟩
theorem pf_X12_19 : a_PF "LoafFallModel" 19 12 7 true (.array .int) := ⟨(RX12, TX12, 33), rfl, by decide, tw_1040, rfl, rfl, by decide +kernel, fun _ => rfl⟩
theorem gf_X12_22 : a_GF "LoafFallModel" 22 12 8 := ⟨(RX12, TX12, 33), rfl, by decide, tw_1041, rfl⟩
theorem pf_X12_22 : a_PF "LoafFallModel" 22 12 8 true (.array .int) := ⟨(RX12, TX12, 33), rfl, by decide, tw_1041, rfl, rfl, by decide +kernel, fun _ => rfl⟩
theorem gf_X12_25 : a_GF "LoafFallModel" 25 12 9 := ⟨(RX12, TX12, 33), rfl, by decide, tw_1042, rfl⟩
theorem pf_X12_25 : a_PF "LoafFallModel" 25 12 9 true (.array .byte) := ⟨(RX12, TX12, 33), rfl, by decide, tw_1042, rfl, rfl, by decide +kernel, fun _ => rfl⟩
theorem gf_X12_29 : a_GF "LoafFallModel" 29 12 10 := ⟨(RX12, TX12, 33), rfl, by decide, tw_1043, rfl⟩
theorem pf_X12_29 : a_PF "LoafFallModel" 29 12 10 true (.array .boolean) := ⟨(RX12, TX12, 33), rfl, by decide, tw_1043, rfl, rfl, by decide +kernel, fun _ => rfl⟩
theorem gf_X12_33 : a_GF "LoafFallModel" 33 12 11 := ⟨(RX12, TX12, 33), rfl, by decide, tw_1044, rfl⟩
theorem pf_X12_33 : a_PF "LoafFallModel" 33 12 11 true (.array .int) := ⟨(RX12, TX12, 33), rfl, by decide, tw_1044, rfl, rfl, by decide +kernel, fun _ => rfl⟩
theorem gf_X12_36 : a_GF "LoafFallModel" 36 12 12 := ⟨(RX12, TX12, 33), rfl, by decide, tw_1045, rfl⟩
theorem pf_X12_36 : a_PF "LoafFallModel" 36 12 12 true (.array .boolean) := ⟨(RX12, TX12, 33), rfl, by decide, tw_1045, rfl, rfl, by decide +kernel, fun _ => rfl⟩
theorem gf_X12_39 : a_GF "LoafFallModel" 39 12 13 := ⟨(RX12, TX12, 33), rfl, by decide, tw_1046, rfl⟩
theorem pf_X12_39 : a_PF "LoafFallModel" 39 12 13 true (.array .int) := ⟨(RX12, TX12, 33), rfl, by decide, tw_1046, rfl, rfl, by decide +kernel, fun _ => rfl⟩
theorem gf_X12_42 : a_GF "LoafFallModel" 42 12 14 := ⟨(RX12, TX12, 33), rfl, by decide, tw_1047, rfl⟩
theorem pf_X12_42 : a_PF "LoafFallModel" 42 12 14 true (.array .int) := ⟨(RX12, TX12, 33), rfl, by decide, tw_1047, rfl, rfl, by decide +kernel, fun _ => rfl⟩
theorem gf_X12_114 : a_GF "LoafFallModel" 114 12 15 := ⟨(RX12, TX12, 33), rfl, by decide, tw_1048, rfl⟩
theorem pf_X12_114 : a_PF "LoafFallModel" 114 12 15 false .int := ⟨(RX12, TX12, 33), rfl, by decide, tw_1048, rfl, rfl, by decide +kernel, fun h => by cases h⟩
theorem gf_X12_120 : a_GF "LoafFallModel" 120 12 16 := ⟨(RX12, TX12, 33), rfl, by decide, tw_1049, rfl⟩
theorem pf_X12_120 : a_PF "LoafFallModel" 120 12 16 false .int := ⟨(RX12, TX12, 33), rfl, by decide, tw_1049, rfl, rfl, by decide +kernel, fun h => by cases h⟩
theorem gf_X12_123 : a_GF "LoafFallModel" 123 12 17 := ⟨(RX12, TX12, 33), rfl, by decide, tw_1050, rfl⟩
theorem pf_X12_123 : a_PF "LoafFallModel" 123 12 17 false .int := ⟨(RX12, TX12, 33), rfl, by decide, tw_1050, rfl, rfl, by decide +kernel, fun h => by cases h⟩
theorem gf_X12_139 : a_GF "LoafFallModel" 139 12 18 := ⟨(RX12, TX12, 33), rfl, by decide, tw_1051, rfl⟩
theorem pf_X12_139 : a_PF "LoafFallModel" 139 12 18 false .int := ⟨(RX12, TX12, 33), rfl, by decide, tw_1051, rfl, rfl, by decide +kernel, fun h => by cases h⟩
theorem gf_X12_45 : a_GF "LoafFallModel" 45 12 19 := ⟨(RX12, TX12, 33), rfl, by decide, tw_1052, rfl⟩
theorem pf_X12_45 : a_PF "LoafFallModel" 45 12 19 true (.array .int) := ⟨(RX12, TX12, 33), rfl, by decide, tw_1052, rfl, rfl, by decide +kernel, fun _ => rfl⟩
theorem gf_X12_48 : a_GF "LoafFallModel" 48 12 20 := ⟨(RX12, TX12, 33), rfl, by decide, tw_1053, rfl⟩
theorem pf_X12_48 : a_PF "LoafFallModel" 48 12 20 true (.array .int) := ⟨(RX12, TX12, 33), rfl, by decide, tw_1053, rfl, rfl, by decide +kernel, fun _ => rfl⟩
theorem gf_X12_51 : a_GF "LoafFallModel" 51 12 21 := ⟨(RX12, TX12, 33), rfl, by decide, tw_1054, rfl⟩
theorem pf_X12_51 : a_PF "LoafFallModel" 51 12 21 true (.array .boolean) := ⟨(RX12, TX12, 33), rfl, by decide, tw_1054, rfl, rfl, by decide +kernel, fun _ => rfl⟩
theorem gf_X12_54 : a_GF "LoafFallModel" 54 12 22 := ⟨(RX12, TX12, 33), rfl, by decide, tw_1055, rfl⟩
theorem pf_X12_54 : a_PF "LoafFallModel" 54 12 22 true (.array .int) := ⟨(RX12, TX12, 33), rfl, by decide, tw_1055, rfl, rfl, by decide +kernel, fun _ => rfl⟩
theorem gf_X12_157 : a_GF "LoafFallModel" 157 12 23 := ⟨(RX12, TX12, 33), rfl, by decide, tw_1056, rfl⟩
theorem pf_X12_157 : a_PF "LoafFallModel" 157 12 23 false .int := ⟨(RX12, TX12, 33), rfl, by decide, tw_1056, rfl, rfl, by decide +kernel, fun h => by cases h⟩
theorem gf_X12_57 : a_GF "LoafFallModel" 57 12 24 := ⟨(RX12, TX12, 33), rfl, by decide, tw_1057, rfl⟩
theorem pf_X12_57 : a_PF "LoafFallModel" 57 12 24 true (.array .int) := ⟨(RX12, TX12, 33), rfl, by decide, tw_1057, rfl, rfl, by decide +kernel, fun _ => rfl⟩
theorem gf_X12_60 : a_GF "LoafFallModel" 60 12 25 := ⟨(RX12, TX12, 33), rfl, by decide, tw_1058, rfl⟩
theorem pf_X12_60 : a_PF "LoafFallModel" 60 12 25 true (.array .int) := ⟨(RX12, TX12, 33), rfl, by decide, tw_1058, rfl, rfl, by decide +kernel, fun _ => rfl⟩
theorem gf_X12_63 : a_GF "LoafFallModel" 63 12 26 := ⟨(RX12, TX12, 33), rfl, by decide, tw_1059, rfl⟩
theorem pf_X12_63 : a_PF "LoafFallModel" 63 12 26 true (.array .int) := ⟨(RX12, TX12, 33), rfl, by decide, tw_1059, rfl, rfl, by decide +kernel, fun _ => rfl⟩
theorem gf_X12_66 : a_GF "LoafFallModel" 66 12 27 := ⟨(RX12, TX12, 33), rfl, by decide, tw_1060, rfl⟩
theorem pf_X12_66 : a_PF "LoafFallModel" 66 12 27 true (.array .int) := ⟨(RX12, TX12, 33), rfl, by decide, tw_1060, rfl, rfl, by decide +kernel, fun _ => rfl⟩
theorem gf_X12_310 : a_GF "LoafFallModel" 310 12 28 := ⟨(RX12, TX12, 33), rfl, by decide, tw_1061, rfl⟩
theorem pf_X12_310 : a_PF "LoafFallModel" 310 12 28 false .int := ⟨(RX12, TX12, 33), rfl, by decide, tw_1061, rfl, rfl, by decide +kernel, fun h => by cases h⟩
theorem gf_X12_69 : a_GF "LoafFallModel" 69 12 29 := ⟨(RX12, TX12, 33), rfl, by decide, tw_1062, rfl⟩
theorem pf_X12_69 : a_PF "LoafFallModel" 69 12 29 true (.array .int) := ⟨(RX12, TX12, 33), rfl, by decide, tw_1062, rfl, rfl, by decide +kernel, fun _ => rfl⟩
theorem gf_X12_72 : a_GF "LoafFallModel" 72 12 30 := ⟨(RX12, TX12, 33), rfl, by decide, tw_1063, rfl⟩
theorem pf_X12_72 : a_PF "LoafFallModel" 72 12 30 true (.array .int) := ⟨(RX12, TX12, 33), rfl, by decide, tw_1063, rfl, rfl, by decide +kernel, fun _ => rfl⟩
theorem gf_X12_75 : a_GF "LoafFallModel" 75 12 31 := ⟨(RX12, TX12, 33), rfl, by decide, tw_1064, rfl⟩
theorem pf_X12_75 : a_PF "LoafFallModel" 75 12 31 true (.array .int) := ⟨(RX12, TX12, 33), rfl, by decide, tw_1064, rfl, rfl, by decide +kernel, fun _ => rfl⟩
theorem gf_X12_330 : a_GF "LoafFallModel" 330 12 32 := ⟨(RX12, TX12, 33), rfl, by decide, tw_1065, rfl⟩
theorem pf_X12_330 : a_PF "LoafFallModel" 330 12 32 false .long := ⟨(RX12, TX12, 33), rfl, by decide, tw_1065, rfl, rfl, by decide +kernel, fun h => by cases h⟩
theorem gs_X7_81 : a_GS "LoafFall$Reader" 81 4 := ⟨_, rfl, Or.inr (by decide +kernel)⟩
theorem gs_X4_15 : a_GS "LoafFall$Flour" 15 3 := ⟨_, rfl, Or.inr (by decide +kernel)⟩
theorem gs_X7_57 : a_GS "LoafFall$Reader" 57 0 := ⟨_, rfl, Or.inr (by decide +kernel)⟩
theorem gs_X7_72 : a_GS "LoafFall$Reader" 72 1 := ⟨_, rfl, Or.inr (by decide +kernel)⟩
theorem gs_X7_75 : a_GS "LoafFall$Reader" 75 2 := ⟨_, rfl, Or.inr (by decide +kernel)⟩
theorem gs_X11_297 : a_GS "LoafFall" 297 1 := ⟨_, rfl, Or.inl tw_832⟩
theorem gs_X11_300 : a_GS "LoafFall" 300 2 := ⟨_, rfl, Or.inl tw_833⟩
theorem gs_X11_311 : a_GS "LoafFall" 311 5 := ⟨_, rfl, Or.inl tw_838⟩
theorem nw_L_7 : a_NW "LoafFallLaw" 7 11 [.null, .null, .null, .null, .null, .null, .null, .null, .null, .null, .null, .null, .null, .null, .null, .null, .int 0, .int 0, .long 0, .long 0] := ⟨(RX11, TX11, 20), tyX11, rfl, tw_17, tw_18, tw_1, tyX11_ok, rfl, by decide +kernel, by simp⟩
theorem nw_X11_9 : a_NW "LoafFall" 9 8 [.null, .int 0] := ⟨(RX8, TX8, 2), tyX8, rfl, tw_25, tw_289, tw_11, tyX8_ok, rfl, by decide +kernel, by simp⟩
theorem an_X11_9 : a_AN "LoafFall" 9 8 := ⟨(RX8, TX8, 2), rfl, tw_25, by decide +kernel⟩
theorem nw_X11_15 : a_NW "LoafFall" 15 10 [.null, .int 0] := ⟨(RX10, TX10, 2), tyX10, rfl, tw_27, tw_304, tw_12, tyX10_ok, rfl, by decide +kernel, by simp⟩
theorem an_X11_15 : a_AN "LoafFall" 15 10 := ⟨(RX10, TX10, 2), rfl, tw_27, by decide +kernel⟩
theorem nw_X11_21 : a_NW "LoafFall" 21 4 [.null, .int 0] := ⟨(RX4, TX4, 2), tyX4, rfl, tw_29, tw_41, tw_3, tyX4_ok, rfl, by decide +kernel, by simp⟩
theorem an_X11_21 : a_AN "LoafFall" 21 4 := ⟨(RX4, TX4, 2), rfl, tw_29, by decide +kernel⟩
theorem nw_X11_27 : a_NW "LoafFall" 27 1 [.null, .null, .null, .int 0, .int 0] := ⟨(RX1, TX1, 5), tyX1, rfl, tw_31, tw_61, tw_4, tyX1_ok, rfl, by decide +kernel, by simp⟩
theorem an_X11_27 : a_AN "LoafFall" 27 1 := ⟨(RX1, TX1, 5), rfl, tw_31, by decide +kernel⟩
theorem nw_X11_33 : a_NW "LoafFall" 33 6 [.null, .null, .null, .null, .int 0] := ⟨(RX6, TX6, 5), tyX6, rfl, tw_33, tw_35, tw_2, tyX6_ok, rfl, by decide +kernel, by simp⟩
theorem an_X11_33 : a_AN "LoafFall" 33 6 := ⟨(RX6, TX6, 5), rfl, tw_33, by decide +kernel⟩
theorem nw_X6_9 : a_NW "LoafFall$Loaf" 9 4 [.null, .int 0] := ⟨(RX4, TX4, 2), tyX4, rfl, tw_40, tw_41, tw_3, tyX4_ok, rfl, by decide +kernel, by simp⟩
theorem an_X6_9 : a_AN "LoafFall$Loaf" 9 4 := ⟨(RX4, TX4, 2), rfl, tw_40, by decide +kernel⟩
theorem nw_X6_18 : a_NW "LoafFall$Loaf" 18 1 [.null, .null, .null, .int 0, .int 0] := ⟨(RX1, TX1, 5), tyX1, rfl, tw_60, tw_61, tw_4, tyX1_ok, rfl, by decide +kernel, by simp⟩
theorem an_X6_18 : a_AN "LoafFall$Loaf" 18 1 := ⟨(RX1, TX1, 5), rfl, tw_60, by decide +kernel⟩
theorem nw_X6_25 : a_NW "LoafFall$Loaf" 25 2 [.null, .null, .null, .null, .null, .int 0, .int 0, .int 0, .int 0, .int 0] := ⟨(RX2, TX2, 10), tyX2, rfl, tw_94, tw_95, tw_5, tyX2_ok, rfl, by decide +kernel, by simp⟩
theorem an_X6_25 : a_AN "LoafFall$Loaf" 25 2 := ⟨(RX2, TX2, 10), rfl, tw_94, by decide +kernel⟩
theorem nw_X6_32 : a_NW "LoafFall$Loaf" 32 3 [.null, .null, .null, .null, .null] := ⟨(RX3, TX3, 5), tyX3, rfl, tw_148, tw_149, tw_6, tyX3_ok, rfl, by decide +kernel, by simp⟩
theorem nw_X11_44 : a_NW "LoafFall" 44 9 [.null, .null, .int 0] := ⟨(RX9, TX9, 3), tyX9, rfl, tw_196, tw_197, tw_7, tyX9_ok, rfl, by decide +kernel, by simp⟩
theorem nw_X11_51 : a_NW "LoafFall" 51 7 [.null, .null, .int 0, .int 0] := ⟨(RX7, TX7, 4), tyX7, rfl, tw_215, tw_216, tw_8, tyX7_ok, rfl, by decide +kernel, by simp⟩
theorem nw_X7_9 : a_NW "LoafFall$Reader" 9 4 [.null, .int 0] := ⟨(RX4, TX4, 2), tyX4, rfl, tw_221, tw_41, tw_3, tyX4_ok, rfl, by decide +kernel, by simp⟩
theorem an_X7_9 : a_AN "LoafFall$Reader" 9 4 := ⟨(RX4, TX4, 2), rfl, tw_221, by decide +kernel⟩
theorem nw_X7_18 : a_NW "LoafFall$Reader" 18 1 [.null, .null, .null, .int 0, .int 0] := ⟨(RX1, TX1, 5), tyX1, rfl, tw_223, tw_61, tw_4, tyX1_ok, rfl, by decide +kernel, by simp⟩
theorem an_X7_18 : a_AN "LoafFall$Reader" 18 1 := ⟨(RX1, TX1, 5), rfl, tw_223, by decide +kernel⟩
theorem nw_X11_58 : a_NW "LoafFall" 58 0 [.null, .null, .int 0] := ⟨(RX0, TX0, 3), tyX0, rfl, tw_241, tw_242, tw_9, tyX0_ok, rfl, by decide +kernel, by simp⟩
theorem nw_X0_9 : a_NW "LoafFall$Baker" 9 6 [.null, .null, .null, .null, .int 0] := ⟨(RX6, TX6, 5), tyX6, rfl, tw_247, tw_35, tw_2, tyX6_ok, rfl, by decide +kernel, by simp⟩
theorem an_X0_9 : a_AN "LoafFall$Baker" 9 6 := ⟨(RX6, TX6, 5), rfl, tw_247, by decide +kernel⟩
theorem nw_X0_18 : a_NW "LoafFall$Baker" 18 2 [.null, .null, .null, .null, .null, .int 0, .int 0, .int 0, .int 0, .int 0] := ⟨(RX2, TX2, 10), tyX2, rfl, tw_249, tw_95, tw_5, tyX2_ok, rfl, by decide +kernel, by simp⟩
theorem an_X0_18 : a_AN "LoafFall$Baker" 18 2 := ⟨(RX2, TX2, 10), rfl, tw_249, by decide +kernel⟩
theorem nw_X11_65 : a_NW "LoafFall" 65 5 [.null, .null, .int 0, .int 0, .int 0] := ⟨(RX5, TX5, 5), tyX5, rfl, tw_262, tw_263, tw_10, tyX5_ok, rfl, by decide +kernel, by simp⟩
theorem nw_L_10 : a_NW "LoafFallLaw" 10 12 [.int 0, .null, .int 0, .long 0, .long 0, .null, .null, .null, .null, .null, .null, .null, .null, .null, .null, .int 0, .int 0, .int 0, .int 0, .null, .null, .null, .null, .int 0, .null, .null, .null, .null, .int 0, .null, .null, .null, .long 0] := ⟨(RX12, TX12, 33), tyX12, rfl, tw_1027, tw_1028, tw_13, tyX12_ok, rfl, by decide +kernel, by simp⟩
