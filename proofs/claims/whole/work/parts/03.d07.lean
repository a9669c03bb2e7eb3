theorem dX12_canChange_122 : decode cX12_canChange 122 = .ok (.istore 6, 2) := by decide +kernel
theorem dX12_canChange_124 : decode cX12_canChange 124 = .ok (.iload 4, 2) := by decide +kernel
theorem dX12_canChange_126 : decode cX12_canChange 126 = .ok (.ifCond .eq 48, 3) := by decide +kernel
theorem dX12_canChange_129 : decode cX12_canChange 129 = .ok (.iload 5, 2) := by decide +kernel
theorem dX12_canChange_131 : decode cX12_canChange 131 = .ok (.iconst 0, 1) := by decide +kernel
theorem dX12_canChange_132 : decode cX12_canChange 132 = .ok (.bipush 9, 2) := by decide +kernel
theorem dX12_canChange_134 : decode cX12_canChange 134 = .ok (.invokestatic 86, 3) := by decide +kernel
theorem dX12_canChange_137 : decode cX12_canChange 137 = .ok (.ifCond .eq 37, 3) := by decide +kernel
theorem dX12_canChange_140 : decode cX12_canChange 140 = .ok (.iload 6, 2) := by decide +kernel
theorem dX12_canChange_142 : decode cX12_canChange 142 = .ok (.iconst 1, 1) := by decide +kernel
theorem dX12_canChange_143 : decode cX12_canChange 143 = .ok (.bipush 30, 2) := by decide +kernel
theorem dX12_canChange_145 : decode cX12_canChange 145 = .ok (.invokestatic 86, 3) := by decide +kernel
theorem dX12_canChange_148 : decode cX12_canChange 148 = .ok (.ifCond .eq 26, 3) := by decide +kernel
theorem dX12_canChange_151 : decode cX12_canChange 151 = .ok (.aload_n 0, 1) := by decide +kernel
theorem dX12_canChange_152 : decode cX12_canChange 152 = .ok (.invokevirtual 187, 3) := by decide +kernel
theorem dX12_canChange_155 : decode cX12_canChange 155 = .ok (.aload_n 0, 1) := by decide +kernel
theorem dX12_canChange_156 : decode cX12_canChange 156 = .ok (.iload_n 2, 1) := by decide +kernel
theorem dX12_canChange_157 : decode cX12_canChange 157 = .ok (.iconst 2, 1) := by decide +kernel
theorem dX12_canChange_158 : decode cX12_canChange 158 = .ok (.invokevirtual 171, 3) := by decide +kernel
theorem dX12_canChange_161 : decode cX12_canChange 161 = .ok (.isub, 1) := by decide +kernel
theorem dX12_canChange_162 : decode cX12_canChange 162 = .ok (.iload 6, 2) := by decide +kernel
theorem dX12_canChange_164 : decode cX12_canChange 164 = .ok (.iadd, 1) := by decide +kernel
theorem dX12_canChange_165 : decode cX12_canChange 165 = .ok (.bipush 90, 2) := by decide +kernel
theorem dX12_canChange_167 : decode cX12_canChange 167 = .ok (.if_icmp .gt 7, 3) := by decide +kernel
theorem dX12_canChange_170 : decode cX12_canChange 170 = .ok (.iconst 1, 1) := by decide +kernel
theorem dX12_canChange_171 : decode cX12_canChange 171 = .ok (.goto 4, 3) := by decide +kernel
theorem dX12_canChange_174 : decode cX12_canChange 174 = .ok (.iconst 0, 1) := by decide +kernel
theorem dX12_canChange_175 : decode cX12_canChange 175 = .ok (.istore 7, 2) := by decide +kernel
theorem dX12_canChange_177 : decode cX12_canChange 177 = .ok (.iload 7, 2) := by decide +kernel
theorem dX12_canChange_179 : decode cX12_canChange 179 = .ok (.ifCond .eq 31, 3) := by decide +kernel
theorem dX12_canChange_182 : decode cX12_canChange 182 = .ok (.aload_n 0, 1) := by decide +kernel
theorem dX12_canChange_183 : decode cX12_canChange 183 = .ok (.bipush 6, 2) := by decide +kernel
theorem dX12_canChange_185 : decode cX12_canChange 185 = .ok (.iconst 3, 1) := by decide +kernel
theorem dX12_canChange_186 : decode cX12_canChange 186 = .ok (.iload_n 2, 1) := by decide +kernel
theorem dX12_canChange_187 : decode cX12_canChange 187 = .ok (.imul, 1) := by decide +kernel
theorem dX12_canChange_188 : decode cX12_canChange 188 = .ok (.iadd, 1) := by decide +kernel
theorem dX12_canChange_189 : decode cX12_canChange 189 = .ok (.iconst 1, 1) := by decide +kernel
theorem dX12_canChange_190 : decode cX12_canChange 190 = .ok (.iadd, 1) := by decide +kernel
theorem dX12_canChange_191 : decode cX12_canChange 191 = .ok (.iload 5, 2) := by decide +kernel
theorem dX12_canChange_193 : decode cX12_canChange 193 = .ok (.invokevirtual 163, 3) := by decide +kernel
theorem dX12_canChange_196 : decode cX12_canChange 196 = .ok (.aload_n 0, 1) := by decide +kernel
theorem dX12_canChange_197 : decode cX12_canChange 197 = .ok (.bipush 6, 2) := by decide +kernel
theorem dX12_canChange_199 : decode cX12_canChange 199 = .ok (.iconst 3, 1) := by decide +kernel
theorem dX12_canChange_200 : decode cX12_canChange 200 = .ok (.iload_n 2, 1) := by decide +kernel
theorem dX12_canChange_201 : decode cX12_canChange 201 = .ok (.imul, 1) := by decide +kernel
theorem dX12_canChange_202 : decode cX12_canChange 202 = .ok (.iadd, 1) := by decide +kernel
theorem dX12_canChange_203 : decode cX12_canChange 203 = .ok (.iconst 2, 1) := by decide +kernel
theorem dX12_canChange_204 : decode cX12_canChange 204 = .ok (.iadd, 1) := by decide +kernel
theorem dX12_canChange_205 : decode cX12_canChange 205 = .ok (.iload 6, 2) := by decide +kernel
theorem dX12_canChange_207 : decode cX12_canChange 207 = .ok (.invokevirtual 163, 3) := by decide +kernel
theorem dX12_canChange_210 : decode cX12_canChange 210 = .ok (.iload 7, 2) := by decide +kernel
theorem dX12_canChange_212 : decode cX12_canChange 212 = .ok (.ireturn, 1) := by decide +kernel
theorem dX12_leaveOut_0 : decode cX12_leaveOut 0 = .ok (.iconst 3, 1) := by decide +kernel
theorem dX12_leaveOut_1 : decode cX12_leaveOut 1 = .ok (.iload_n 1, 1) := by decide +kernel
theorem dX12_leaveOut_2 : decode cX12_leaveOut 2 = .ok (.imul, 1) := by decide +kernel
theorem dX12_leaveOut_3 : decode cX12_leaveOut 3 = .ok (.istore_n 2, 1) := by decide +kernel
theorem dX12_leaveOut_4 : decode cX12_leaveOut 4 = .ok (.iload_n 2, 1) := by decide +kernel
theorem dX12_leaveOut_5 : decode cX12_leaveOut 5 = .ok (.iconst 3, 1) := by decide +kernel
theorem dX12_leaveOut_6 : decode cX12_leaveOut 6 = .ok (.aload_n 0, 1) := by decide +kernel
theorem dX12_leaveOut_7 : decode cX12_leaveOut 7 = .ok (.iconst 5, 1) := by decide +kernel
theorem dX12_leaveOut_8 : decode cX12_leaveOut 8 = .ok (.invokevirtual 160, 3) := by decide +kernel
theorem dX12_leaveOut_11 : decode cX12_leaveOut 11 = .ok (.imul, 1) := by decide +kernel
theorem dX12_leaveOut_12 : decode cX12_leaveOut 12 = .ok (.iconst 3, 1) := by decide +kernel
theorem dX12_leaveOut_13 : decode cX12_leaveOut 13 = .ok (.isub, 1) := by decide +kernel
theorem dX12_leaveOut_14 : decode cX12_leaveOut 14 = .ok (.if_icmp .ge 27, 3) := by decide +kernel
theorem dX12_leaveOut_17 : decode cX12_leaveOut 17 = .ok (.aload_n 0, 1) := by decide +kernel
theorem dX12_leaveOut_18 : decode cX12_leaveOut 18 = .ok (.bipush 6, 2) := by decide +kernel
theorem dX12_leaveOut_20 : decode cX12_leaveOut 20 = .ok (.iload_n 2, 1) := by decide +kernel
theorem dX12_leaveOut_21 : decode cX12_leaveOut 21 = .ok (.iadd, 1) := by decide +kernel
theorem dX12_leaveOut_22 : decode cX12_leaveOut 22 = .ok (.aload_n 0, 1) := by decide +kernel
theorem dX12_leaveOut_23 : decode cX12_leaveOut 23 = .ok (.bipush 6, 2) := by decide +kernel
theorem dX12_leaveOut_25 : decode cX12_leaveOut 25 = .ok (.iload_n 2, 1) := by decide +kernel
theorem dX12_leaveOut_26 : decode cX12_leaveOut 26 = .ok (.iadd, 1) := by decide +kernel
theorem dX12_leaveOut_27 : decode cX12_leaveOut 27 = .ok (.iconst 3, 1) := by decide +kernel
theorem dX12_leaveOut_28 : decode cX12_leaveOut 28 = .ok (.iadd, 1) := by decide +kernel
theorem dX12_leaveOut_29 : decode cX12_leaveOut 29 = .ok (.invokevirtual 160, 3) := by decide +kernel
theorem dX12_leaveOut_32 : decode cX12_leaveOut 32 = .ok (.invokevirtual 163, 3) := by decide +kernel
theorem dX12_leaveOut_35 : decode cX12_leaveOut 35 = .ok (.iinc 2 1, 3) := by decide +kernel
theorem dX12_leaveOut_38 : decode cX12_leaveOut 38 = .ok (.goto (-34), 3) := by decide +kernel
theorem dX12_leaveOut_41 : decode cX12_leaveOut 41 = .ok (.aload_n 0, 1) := by decide +kernel
theorem dX12_leaveOut_42 : decode cX12_leaveOut 42 = .ok (.iconst 5, 1) := by decide +kernel
theorem dX12_leaveOut_43 : decode cX12_leaveOut 43 = .ok (.aload_n 0, 1) := by decide +kernel
theorem dX12_leaveOut_44 : decode cX12_leaveOut 44 = .ok (.iconst 5, 1) := by decide +kernel
theorem dX12_leaveOut_45 : decode cX12_leaveOut 45 = .ok (.invokevirtual 160, 3) := by decide +kernel
theorem dX12_leaveOut_48 : decode cX12_leaveOut 48 = .ok (.iconst 1, 1) := by decide +kernel
theorem dX12_leaveOut_49 : decode cX12_leaveOut 49 = .ok (.isub, 1) := by decide +kernel
theorem dX12_leaveOut_50 : decode cX12_leaveOut 50 = .ok (.invokevirtual 163, 3) := by decide +kernel
theorem dX12_leaveOut_53 : decode cX12_leaveOut 53 = .ok (.return_, 1) := by decide +kernel
theorem dX12_change_0 : decode cX12_change 0 = .ok (.aload_n 0, 1) := by decide +kernel
theorem dX12_change_1 : decode cX12_change 1 = .ok (.getfield 51, 3) := by decide +kernel
theorem dX12_change_4 : decode cX12_change 4 = .ok (.iconst 0, 1) := by decide +kernel
theorem dX12_change_5 : decode cX12_change 5 = .ok (.baload, 1) := by decide +kernel
theorem dX12_change_6 : decode cX12_change 6 = .ok (.ifCond .ne 6, 3) := by decide +kernel
theorem dX12_change_9 : decode cX12_change 9 = .ok (.bipush (-4), 2) := by decide +kernel
theorem dX12_change_11 : decode cX12_change 11 = .ok (.ireturn, 1) := by decide +kernel
theorem dX12_change_12 : decode cX12_change 12 = .ok (.bipush (-9), 2) := by decide +kernel
theorem dX12_change_14 : decode cX12_change 14 = .ok (.istore_n 1, 1) := by decide +kernel
theorem dX12_change_15 : decode cX12_change 15 = .ok (.iconst 0, 1) := by decide +kernel
theorem dX12_change_16 : decode cX12_change 16 = .ok (.istore_n 2, 1) := by decide +kernel
theorem dX12_change_17 : decode cX12_change 17 = .ok (.iconst 0, 1) := by decide +kernel
theorem dX12_change_18 : decode cX12_change 18 = .ok (.istore_n 3, 1) := by decide +kernel
theorem dX12_change_19 : decode cX12_change 19 = .ok (.iload_n 3, 1) := by decide +kernel
theorem dX12_change_20 : decode cX12_change 20 = .ok (.bipush 100, 2) := by decide +kernel
theorem dX12_change_22 : decode cX12_change 22 = .ok (.if_icmp .ge 46, 3) := by decide +kernel
theorem dX12_change_25 : decode cX12_change 25 = .ok (.aload_n 0, 1) := by decide +kernel
theorem dX12_change_26 : decode cX12_change 26 = .ok (.invokevirtual 289, 3) := by decide +kernel
theorem dX12_change_29 : decode cX12_change 29 = .ok (.aload_n 0, 1) := by decide +kernel
theorem dX12_change_30 : decode cX12_change 30 = .ok (.iload_n 3, 1) := by decide +kernel
theorem dX12_change_31 : decode cX12_change 31 = .ok (.invokevirtual 292, 3) := by decide +kernel
theorem dX12_change_34 : decode cX12_change 34 = .ok (.ifCond .eq 28, 3) := by decide +kernel
theorem dX12_change_37 : decode cX12_change 37 = .ok (.aload_n 0, 1) := by decide +kernel
theorem dX12_change_38 : decode cX12_change 38 = .ok (.invokevirtual 263, 3) := by decide +kernel
theorem dX12_change_41 : decode cX12_change 41 = .ok (.iload_n 1, 1) := by decide +kernel
theorem dX12_change_42 : decode cX12_change 42 = .ok (.bipush (-9), 2) := by decide +kernel
theorem dX12_change_44 : decode cX12_change 44 = .ok (.if_icmp .eq 11, 3) := by decide +kernel
theorem dX12_change_47 : decode cX12_change 47 = .ok (.aload_n 0, 1) := by decide +kernel
theorem dX12_change_48 : decode cX12_change 48 = .ok (.invokevirtual 247, 3) := by decide +kernel
theorem dX12_change_51 : decode cX12_change 51 = .ok (.iload_n 2, 1) := by decide +kernel
theorem dX12_change_52 : decode cX12_change 52 = .ok (.if_icmp .le 10, 3) := by decide +kernel
theorem dX12_change_55 : decode cX12_change 55 = .ok (.iload_n 3, 1) := by decide +kernel
theorem dX12_change_56 : decode cX12_change 56 = .ok (.istore_n 1, 1) := by decide +kernel
theorem dX12_change_57 : decode cX12_change 57 = .ok (.aload_n 0, 1) := by decide +kernel
theorem dX12_change_58 : decode cX12_change 58 = .ok (.invokevirtual 247, 3) := by decide +kernel
theorem dX12_change_61 : decode cX12_change 61 = .ok (.istore_n 2, 1) := by decide +kernel
theorem dX12_change_62 : decode cX12_change 62 = .ok (.iinc 3 1, 3) := by decide +kernel
theorem dX12_change_65 : decode cX12_change 65 = .ok (.goto (-46), 3) := by decide +kernel
theorem dX12_change_68 : decode cX12_change 68 = .ok (.iload_n 1, 1) := by decide +kernel
theorem dX12_change_69 : decode cX12_change 69 = .ok (.bipush (-9), 2) := by decide +kernel
theorem dX12_change_71 : decode cX12_change 71 = .ok (.if_icmp .ne 8, 3) := by decide +kernel
theorem dX12_change_74 : decode cX12_change 74 = .ok (.bipush (-9), 2) := by decide +kernel
theorem dX12_change_76 : decode cX12_change 76 = .ok (.goto 9, 3) := by decide +kernel
theorem dX12_change_79 : decode cX12_change 79 = .ok (.aload_n 0, 1) := by decide +kernel
theorem dX12_change_80 : decode cX12_change 80 = .ok (.iload_n 2, 1) := by decide +kernel
theorem dX12_change_81 : decode cX12_change 81 = .ok (.iload_n 1, 1) := by decide +kernel
theorem dX12_change_82 : decode cX12_change 82 = .ok (.invokevirtual 108, 3) := by decide +kernel
theorem dX12_change_85 : decode cX12_change 85 = .ok (.ireturn, 1) := by decide +kernel
theorem dX12_changes_0 : decode cX12_changes 0 = .ok (.aload_n 0, 1) := by decide +kernel
theorem dX12_changes_1 : decode cX12_changes 1 = .ok (.getfield 51, 3) := by decide +kernel
theorem dX12_changes_4 : decode cX12_changes 4 = .ok (.iconst 0, 1) := by decide +kernel
theorem dX12_changes_5 : decode cX12_changes 5 = .ok (.baload, 1) := by decide +kernel
theorem dX12_changes_6 : decode cX12_changes 6 = .ok (.ifCond .ne 6, 3) := by decide +kernel
theorem dX12_changes_9 : decode cX12_changes 9 = .ok (.bipush (-4), 2) := by decide +kernel
theorem dX12_changes_11 : decode cX12_changes 11 = .ok (.ireturn, 1) := by decide +kernel
theorem dX12_changes_12 : decode cX12_changes 12 = .ok (.bipush (-9), 2) := by decide +kernel
theorem dX12_changes_14 : decode cX12_changes 14 = .ok (.istore_n 1, 1) := by decide +kernel
theorem dX12_changes_15 : decode cX12_changes 15 = .ok (.iconst 0, 1) := by decide +kernel
theorem dX12_changes_16 : decode cX12_changes 16 = .ok (.istore_n 2, 1) := by decide +kernel
theorem dX12_changes_17 : decode cX12_changes 17 = .ok (.iconst 0, 1) := by decide +kernel
theorem dX12_changes_18 : decode cX12_changes 18 = .ok (.istore_n 3, 1) := by decide +kernel
theorem dX12_changes_19 : decode cX12_changes 19 = .ok (.iload_n 3, 1) := by decide +kernel
theorem dX12_changes_20 : decode cX12_changes 20 = .ok (.bipush 100, 2) := by decide +kernel
theorem dX12_changes_22 : decode cX12_changes 22 = .ok (.if_icmp .ge 85, 3) := by decide +kernel
theorem dX12_changes_25 : decode cX12_changes 25 = .ok (.aload_n 0, 1) := by decide +kernel
theorem dX12_changes_26 : decode cX12_changes 26 = .ok (.invokevirtual 289, 3) := by decide +kernel
theorem dX12_changes_29 : decode cX12_changes 29 = .ok (.aload_n 0, 1) := by decide +kernel
theorem dX12_changes_30 : decode cX12_changes 30 = .ok (.iload_n 3, 1) := by decide +kernel
theorem dX12_changes_31 : decode cX12_changes 31 = .ok (.invokevirtual 292, 3) := by decide +kernel
theorem dX12_changes_34 : decode cX12_changes 34 = .ok (.ifCond .eq 67, 3) := by decide +kernel
theorem dX12_changes_37 : decode cX12_changes 37 = .ok (.aload_n 0, 1) := by decide +kernel
theorem dX12_changes_38 : decode cX12_changes 38 = .ok (.invokevirtual 295, 3) := by decide +kernel
theorem dX12_changes_41 : decode cX12_changes 41 = .ok (.iconst 0, 1) := by decide +kernel
theorem dX12_changes_42 : decode cX12_changes 42 = .ok (.istore 4, 2) := by decide +kernel
theorem dX12_changes_44 : decode cX12_changes 44 = .ok (.iload 4, 2) := by decide +kernel
theorem dX12_changes_46 : decode cX12_changes 46 = .ok (.bipush 100, 2) := by decide +kernel
theorem dX12_changes_48 : decode cX12_changes 48 = .ok (.if_icmp .ge 53, 3) := by decide +kernel
theorem dX12_changes_51 : decode cX12_changes 51 = .ok (.aload_n 0, 1) := by decide +kernel
theorem dX12_changes_52 : decode cX12_changes 52 = .ok (.invokevirtual 298, 3) := by decide +kernel
theorem dX12_changes_55 : decode cX12_changes 55 = .ok (.aload_n 0, 1) := by decide +kernel
theorem dX12_changes_56 : decode cX12_changes 56 = .ok (.iload 4, 2) := by decide +kernel
theorem dX12_changes_58 : decode cX12_changes 58 = .ok (.invokevirtual 292, 3) := by decide +kernel
theorem dX12_changes_61 : decode cX12_changes 61 = .ok (.ifCond .eq 34, 3) := by decide +kernel
theorem dX12_changes_64 : decode cX12_changes 64 = .ok (.aload_n 0, 1) := by decide +kernel
theorem dX12_changes_65 : decode cX12_changes 65 = .ok (.invokevirtual 263, 3) := by decide +kernel
theorem dX12_changes_68 : decode cX12_changes 68 = .ok (.iload_n 1, 1) := by decide +kernel
theorem dX12_changes_69 : decode cX12_changes 69 = .ok (.bipush (-9), 2) := by decide +kernel
theorem dX12_changes_71 : decode cX12_changes 71 = .ok (.if_icmp .eq 11, 3) := by decide +kernel
theorem dX12_changes_74 : decode cX12_changes 74 = .ok (.aload_n 0, 1) := by decide +kernel
theorem dX12_changes_75 : decode cX12_changes 75 = .ok (.invokevirtual 247, 3) := by decide +kernel
theorem dX12_changes_78 : decode cX12_changes 78 = .ok (.iload_n 2, 1) := by decide +kernel
theorem dX12_changes_79 : decode cX12_changes 79 = .ok (.if_icmp .le 16, 3) := by decide +kernel
theorem dX12_changes_82 : decode cX12_changes 82 = .ok (.bipush 100, 2) := by decide +kernel
theorem dX12_changes_84 : decode cX12_changes 84 = .ok (.iload_n 3, 1) := by decide +kernel
theorem dX12_changes_85 : decode cX12_changes 85 = .ok (.imul, 1) := by decide +kernel
theorem dX12_changes_86 : decode cX12_changes 86 = .ok (.iload 4, 2) := by decide +kernel
theorem dX12_changes_88 : decode cX12_changes 88 = .ok (.iadd, 1) := by decide +kernel
theorem dX12_changes_89 : decode cX12_changes 89 = .ok (.istore_n 1, 1) := by decide +kernel
theorem dX12_changes_90 : decode cX12_changes 90 = .ok (.aload_n 0, 1) := by decide +kernel
theorem dX12_changes_91 : decode cX12_changes 91 = .ok (.invokevirtual 247, 3) := by decide +kernel
theorem dX12_changes_94 : decode cX12_changes 94 = .ok (.istore_n 2, 1) := by decide +kernel
theorem dX12_changes_95 : decode cX12_changes 95 = .ok (.iinc 4 1, 3) := by decide +kernel
theorem dX12_changes_98 : decode cX12_changes 98 = .ok (.goto (-54), 3) := by decide +kernel
theorem dX12_changes_101 : decode cX12_changes 101 = .ok (.iinc 3 1, 3) := by decide +kernel
theorem dX12_changes_104 : decode cX12_changes 104 = .ok (.goto (-85), 3) := by decide +kernel
theorem dX12_changes_107 : decode cX12_changes 107 = .ok (.iload_n 1, 1) := by decide +kernel
theorem dX12_changes_108 : decode cX12_changes 108 = .ok (.bipush (-9), 2) := by decide +kernel
theorem dX12_changes_110 : decode cX12_changes 110 = .ok (.if_icmp .ne 8, 3) := by decide +kernel
theorem dX12_changes_113 : decode cX12_changes 113 = .ok (.bipush (-9), 2) := by decide +kernel
theorem dX12_changes_115 : decode cX12_changes 115 = .ok (.goto 9, 3) := by decide +kernel
theorem dX12_changes_118 : decode cX12_changes 118 = .ok (.aload_n 0, 1) := by decide +kernel
theorem dX12_changes_119 : decode cX12_changes 119 = .ok (.iload_n 2, 1) := by decide +kernel
theorem dX12_changes_120 : decode cX12_changes 120 = .ok (.iload_n 1, 1) := by decide +kernel
theorem dX12_changes_121 : decode cX12_changes 121 = .ok (.invokevirtual 108, 3) := by decide +kernel
theorem dX12_changes_124 : decode cX12_changes 124 = .ok (.ireturn, 1) := by decide +kernel
theorem dX12_turnsOf_0 : decode cX12_turnsOf 0 = .ok (.aload_n 0, 1) := by decide +kernel
theorem dX12_turnsOf_1 : decode cX12_turnsOf 1 = .ok (.invokevirtual 187, 3) := by decide +kernel
theorem dX12_turnsOf_4 : decode cX12_turnsOf 4 = .ok (.aload_n 0, 1) := by decide +kernel
theorem dX12_turnsOf_5 : decode cX12_turnsOf 5 = .ok (.iload_n 1, 1) := by decide +kernel
theorem dX12_turnsOf_6 : decode cX12_turnsOf 6 = .ok (.iconst 2, 1) := by decide +kernel
theorem dX12_turnsOf_7 : decode cX12_turnsOf 7 = .ok (.invokevirtual 171, 3) := by decide +kernel
theorem dX12_turnsOf_10 : decode cX12_turnsOf 10 = .ok (.isub, 1) := by decide +kernel
theorem dX12_turnsOf_11 : decode cX12_turnsOf 11 = .ok (.iload_n 2, 1) := by decide +kernel
theorem dX12_turnsOf_12 : decode cX12_turnsOf 12 = .ok (.iadd, 1) := by decide +kernel
theorem dX12_turnsOf_13 : decode cX12_turnsOf 13 = .ok (.bipush 90, 2) := by decide +kernel
theorem dX12_turnsOf_15 : decode cX12_turnsOf 15 = .ok (.if_icmp .gt 7, 3) := by decide +kernel
theorem dX12_turnsOf_18 : decode cX12_turnsOf 18 = .ok (.iconst 1, 1) := by decide +kernel
theorem dX12_turnsOf_19 : decode cX12_turnsOf 19 = .ok (.goto 4, 3) := by decide +kernel
theorem dX12_turnsOf_22 : decode cX12_turnsOf 22 = .ok (.iconst 0, 1) := by decide +kernel
theorem dX12_turnsOf_23 : decode cX12_turnsOf 23 = .ok (.istore_n 3, 1) := by decide +kernel
theorem dX12_turnsOf_24 : decode cX12_turnsOf 24 = .ok (.iload_n 3, 1) := by decide +kernel
theorem dX12_turnsOf_25 : decode cX12_turnsOf 25 = .ok (.ifCond .eq 16, 3) := by decide +kernel
theorem dX12_turnsOf_28 : decode cX12_turnsOf 28 = .ok (.aload_n 0, 1) := by decide +kernel
theorem dX12_turnsOf_29 : decode cX12_turnsOf 29 = .ok (.bipush 6, 2) := by decide +kernel
theorem dX12_turnsOf_31 : decode cX12_turnsOf 31 = .ok (.iconst 3, 1) := by decide +kernel
theorem dX12_turnsOf_32 : decode cX12_turnsOf 32 = .ok (.iload_n 1, 1) := by decide +kernel
theorem dX12_turnsOf_33 : decode cX12_turnsOf 33 = .ok (.imul, 1) := by decide +kernel
theorem dX12_turnsOf_34 : decode cX12_turnsOf 34 = .ok (.iadd, 1) := by decide +kernel
theorem dX12_turnsOf_35 : decode cX12_turnsOf 35 = .ok (.iconst 2, 1) := by decide +kernel
theorem dX12_turnsOf_36 : decode cX12_turnsOf 36 = .ok (.iadd, 1) := by decide +kernel
theorem dX12_turnsOf_37 : decode cX12_turnsOf 37 = .ok (.iload_n 2, 1) := by decide +kernel
theorem dX12_turnsOf_38 : decode cX12_turnsOf 38 = .ok (.invokevirtual 163, 3) := by decide +kernel
theorem dX12_turnsOf_41 : decode cX12_turnsOf 41 = .ok (.iload_n 3, 1) := by decide +kernel
theorem dX12_turnsOf_42 : decode cX12_turnsOf 42 = .ok (.ireturn, 1) := by decide +kernel
theorem dX12_wide_0 : decode cX12_wide 0 = .ok (.iload_n 1, 1) := by decide +kernel
theorem dX12_wide_1 : decode cX12_wide 1 = .ok (.iconst 0, 1) := by decide +kernel
theorem dX12_wide_2 : decode cX12_wide 2 = .ok (.bipush 9, 2) := by decide +kernel
theorem dX12_wide_4 : decode cX12_wide 4 = .ok (.invokestatic 86, 3) := by decide +kernel
theorem dX12_wide_7 : decode cX12_wide 7 = .ok (.ifCond .ne 5, 3) := by decide +kernel
theorem dX12_wide_10 : decode cX12_wide 10 = .ok (.iconst (-1), 1) := by decide +kernel
theorem dX12_wide_11 : decode cX12_wide 11 = .ok (.ireturn, 1) := by decide +kernel
theorem dX12_wide_12 : decode cX12_wide 12 = .ok (.aload_n 0, 1) := by decide +kernel
theorem dX12_wide_13 : decode cX12_wide 13 = .ok (.getfield 51, 3) := by decide +kernel
theorem dX12_wide_16 : decode cX12_wide 16 = .ok (.iconst 0, 1) := by decide +kernel
theorem dX12_wide_17 : decode cX12_wide 17 = .ok (.baload, 1) := by decide +kernel
theorem dX12_wide_18 : decode cX12_wide 18 = .ok (.ifCond .ne 6, 3) := by decide +kernel
theorem dX12_wide_21 : decode cX12_wide 21 = .ok (.bipush (-4), 2) := by decide +kernel
theorem dX12_wide_23 : decode cX12_wide 23 = .ok (.ireturn, 1) := by decide +kernel
theorem dX12_wide_24 : decode cX12_wide 24 = .ok (.aload_n 0, 1) := by decide +kernel
theorem dX12_wide_25 : decode cX12_wide 25 = .ok (.invokevirtual 289, 3) := by decide +kernel
theorem dX12_wide_28 : decode cX12_wide 28 = .ok (.iload_n 1, 1) := by decide +kernel
theorem dX12_wide_29 : decode cX12_wide 29 = .ok (.aload_n 0, 1) := by decide +kernel
theorem dX12_wide_30 : decode cX12_wide 30 = .ok (.iconst 5, 1) := by decide +kernel
theorem dX12_wide_31 : decode cX12_wide 31 = .ok (.invokevirtual 160, 3) := by decide +kernel
theorem dX12_wide_34 : decode cX12_wide 34 = .ok (.if_icmp .lt 5, 3) := by decide +kernel
theorem dX12_wide_37 : decode cX12_wide 37 = .ok (.iconst (-1), 1) := by decide +kernel
theorem dX12_wide_38 : decode cX12_wide 38 = .ok (.ireturn, 1) := by decide +kernel
theorem dX12_wide_39 : decode cX12_wide 39 = .ok (.aload_n 0, 1) := by decide +kernel
theorem dX12_wide_40 : decode cX12_wide 40 = .ok (.iload_n 1, 1) := by decide +kernel
theorem dX12_wide_41 : decode cX12_wide 41 = .ok (.iconst 0, 1) := by decide +kernel
theorem dX12_wide_42 : decode cX12_wide 42 = .ok (.invokevirtual 171, 3) := by decide +kernel
theorem dX12_wide_45 : decode cX12_wide 45 = .ok (.iconst 2, 1) := by decide +kernel
theorem dX12_wide_46 : decode cX12_wide 46 = .ok (.if_icmp .le 9, 3) := by decide +kernel
theorem dX12_wide_49 : decode cX12_wide 49 = .ok (.aload_n 0, 1) := by decide +kernel
theorem dX12_wide_50 : decode cX12_wide 50 = .ok (.iconst 3, 1) := by decide +kernel
theorem dX12_wide_51 : decode cX12_wide 51 = .ok (.invokevirtual 100, 3) := by decide +kernel
theorem dX12_wide_54 : decode cX12_wide 54 = .ok (.ireturn, 1) := by decide +kernel
theorem dX12_wide_55 : decode cX12_wide 55 = .ok (.bipush (-9), 2) := by decide +kernel
theorem dX12_wide_57 : decode cX12_wide 57 = .ok (.istore_n 2, 1) := by decide +kernel
theorem dX12_wide_58 : decode cX12_wide 58 = .ok (.bipush (-9), 2) := by decide +kernel
theorem dX12_wide_60 : decode cX12_wide 60 = .ok (.istore_n 3, 1) := by decide +kernel
theorem dX12_wide_61 : decode cX12_wide 61 = .ok (.iconst 1, 1) := by decide +kernel
theorem dX12_wide_62 : decode cX12_wide 62 = .ok (.istore 4, 2) := by decide +kernel
theorem dX12_wide_64 : decode cX12_wide 64 = .ok (.iload 4, 2) := by decide +kernel
theorem dX12_wide_66 : decode cX12_wide 66 = .ok (.bipush 30, 2) := by decide +kernel
theorem dX12_wide_68 : decode cX12_wide 68 = .ok (.if_icmp .gt 50, 3) := by decide +kernel
theorem dX12_wide_71 : decode cX12_wide 71 = .ok (.aload_n 0, 1) := by decide +kernel
theorem dX12_wide_72 : decode cX12_wide 72 = .ok (.invokevirtual 289, 3) := by decide +kernel
theorem dX12_wide_75 : decode cX12_wide 75 = .ok (.aload_n 0, 1) := by decide +kernel
theorem dX12_wide_76 : decode cX12_wide 76 = .ok (.iload_n 1, 1) := by decide +kernel
theorem dX12_wide_77 : decode cX12_wide 77 = .ok (.iload 4, 2) := by decide +kernel
theorem dX12_wide_79 : decode cX12_wide 79 = .ok (.invokevirtual 301, 3) := by decide +kernel
theorem dX12_wide_82 : decode cX12_wide 82 = .ok (.ifCond .eq 30, 3) := by decide +kernel
theorem dX12_wide_85 : decode cX12_wide 85 = .ok (.aload_n 0, 1) := by decide +kernel
theorem dX12_wide_86 : decode cX12_wide 86 = .ok (.invokevirtual 263, 3) := by decide +kernel
theorem dX12_wide_89 : decode cX12_wide 89 = .ok (.aload_n 0, 1) := by decide +kernel
theorem dX12_wide_90 : decode cX12_wide 90 = .ok (.invokevirtual 244, 3) := by decide +kernel
theorem dX12_wide_93 : decode cX12_wide 93 = .ok (.ifCond .ne 19, 3) := by decide +kernel
theorem dX12_wide_96 : decode cX12_wide 96 = .ok (.iload_n 2, 1) := by decide +kernel
theorem dX12_wide_97 : decode cX12_wide 97 = .ok (.bipush (-9), 2) := by decide +kernel
theorem dX12_wide_99 : decode cX12_wide 99 = .ok (.if_icmp .ne 8, 3) := by decide +kernel
theorem dX12_wide_102 : decode cX12_wide 102 = .ok (.iload 4, 2) := by decide +kernel
theorem dX12_wide_104 : decode cX12_wide 104 = .ok (.goto 4, 3) := by decide +kernel
theorem dX12_wide_107 : decode cX12_wide 107 = .ok (.iload_n 2, 1) := by decide +kernel
theorem dX12_wide_108 : decode cX12_wide 108 = .ok (.istore_n 2, 1) := by decide +kernel
theorem dX12_wide_109 : decode cX12_wide 109 = .ok (.iload 4, 2) := by decide +kernel
theorem dX12_wide_111 : decode cX12_wide 111 = .ok (.istore_n 3, 1) := by decide +kernel
theorem dX12_wide_112 : decode cX12_wide 112 = .ok (.iinc 4 1, 3) := by decide +kernel
theorem dX12_wide_115 : decode cX12_wide 115 = .ok (.goto (-51), 3) := by decide +kernel
theorem dX12_wide_118 : decode cX12_wide 118 = .ok (.iload_n 2, 1) := by decide +kernel
theorem dX12_wide_119 : decode cX12_wide 119 = .ok (.bipush (-9), 2) := by decide +kernel
theorem dX12_wide_121 : decode cX12_wide 121 = .ok (.if_icmp .ne 8, 3) := by decide +kernel
theorem dX12_wide_124 : decode cX12_wide 124 = .ok (.bipush (-9), 2) := by decide +kernel
theorem dX12_wide_126 : decode cX12_wide 126 = .ok (.goto 9, 3) := by decide +kernel
theorem dX12_wide_129 : decode cX12_wide 129 = .ok (.aload_n 0, 1) := by decide +kernel
theorem dX12_wide_130 : decode cX12_wide 130 = .ok (.iload_n 3, 1) := by decide +kernel
theorem dX12_wide_131 : decode cX12_wide 131 = .ok (.iload_n 2, 1) := by decide +kernel
theorem dX12_wide_132 : decode cX12_wide 132 = .ok (.invokevirtual 108, 3) := by decide +kernel
theorem dX12_wide_135 : decode cX12_wide 135 = .ok (.ireturn, 1) := by decide +kernel
theorem dX12_flours_0 : decode cX12_flours 0 = .ok (.iload_n 1, 1) := by decide +kernel
theorem dX12_flours_1 : decode cX12_flours 1 = .ok (.invokestatic 151, 3) := by decide +kernel
theorem dX12_flours_4 : decode cX12_flours 4 = .ok (.ifCond .ne 5, 3) := by decide +kernel
theorem dX12_flours_7 : decode cX12_flours 7 = .ok (.iconst (-1), 1) := by decide +kernel
theorem dX12_flours_8 : decode cX12_flours 8 = .ok (.ireturn, 1) := by decide +kernel
theorem dX12_flours_9 : decode cX12_flours 9 = .ok (.iconst 0, 1) := by decide +kernel
theorem dX12_flours_10 : decode cX12_flours 10 = .ok (.istore_n 2, 1) := by decide +kernel
theorem dX12_flours_11 : decode cX12_flours 11 = .ok (.iconst 0, 1) := by decide +kernel
theorem dX12_flours_12 : decode cX12_flours 12 = .ok (.istore_n 3, 1) := by decide +kernel
theorem dX12_flours_13 : decode cX12_flours 13 = .ok (.iload_n 3, 1) := by decide +kernel
theorem dX12_flours_14 : decode cX12_flours 14 = .ok (.iconst 4, 1) := by decide +kernel
theorem dX12_flours_15 : decode cX12_flours 15 = .ok (.if_icmp .ge 28, 3) := by decide +kernel
theorem dX12_flours_18 : decode cX12_flours 18 = .ok (.iload_n 2, 1) := by decide +kernel
theorem dX12_flours_19 : decode cX12_flours 19 = .ok (.ifCond .ne 12, 3) := by decide +kernel
theorem dX12_flours_22 : decode cX12_flours 22 = .ok (.aload_n 0, 1) := by decide +kernel
theorem dX12_flours_23 : decode cX12_flours 23 = .ok (.getfield 29, 3) := by decide +kernel
theorem dX12_flours_26 : decode cX12_flours 26 = .ok (.iload_n 3, 1) := by decide +kernel
theorem dX12_flours_27 : decode cX12_flours 27 = .ok (.baload, 1) := by decide +kernel
theorem dX12_flours_28 : decode cX12_flours 28 = .ok (.ifCond .eq 7, 3) := by decide +kernel
theorem dX12_flours_31 : decode cX12_flours 31 = .ok (.iconst 1, 1) := by decide +kernel
theorem dX12_flours_32 : decode cX12_flours 32 = .ok (.goto 4, 3) := by decide +kernel
theorem dX12_flours_35 : decode cX12_flours 35 = .ok (.iconst 0, 1) := by decide +kernel
theorem dX12_flours_36 : decode cX12_flours 36 = .ok (.istore_n 2, 1) := by decide +kernel
theorem dX12_flours_37 : decode cX12_flours 37 = .ok (.iinc 3 1, 3) := by decide +kernel
theorem dX12_flours_40 : decode cX12_flours 40 = .ok (.goto (-27), 3) := by decide +kernel
theorem dX12_flours_43 : decode cX12_flours 43 = .ok (.aload_n 0, 1) := by decide +kernel
theorem dX12_flours_44 : decode cX12_flours 44 = .ok (.getfield 36, 3) := by decide +kernel
theorem dX12_flours_47 : decode cX12_flours 47 = .ok (.iload_n 1, 1) := by decide +kernel
theorem dX12_flours_48 : decode cX12_flours 48 = .ok (.baload, 1) := by decide +kernel
theorem dX12_flours_49 : decode cX12_flours 49 = .ok (.ifCond .eq 7, 3) := by decide +kernel
theorem dX12_flours_52 : decode cX12_flours 52 = .ok (.iload_n 2, 1) := by decide +kernel
theorem dX12_flours_53 : decode cX12_flours 53 = .ok (.ifCond .ne 9, 3) := by decide +kernel
theorem dX12_flours_56 : decode cX12_flours 56 = .ok (.aload_n 0, 1) := by decide +kernel
theorem dX12_flours_57 : decode cX12_flours 57 = .ok (.iconst 1, 1) := by decide +kernel
theorem dX12_flours_58 : decode cX12_flours 58 = .ok (.invokevirtual 100, 3) := by decide +kernel
theorem dX12_flours_61 : decode cX12_flours 61 = .ok (.ireturn, 1) := by decide +kernel
theorem dX12_flours_62 : decode cX12_flours 62 = .ok (.iconst 0, 1) := by decide +kernel
theorem dX12_flours_63 : decode cX12_flours 63 = .ok (.istore_n 3, 1) := by decide +kernel
theorem dX12_flours_64 : decode cX12_flours 64 = .ok (.iconst 0, 1) := by decide +kernel
theorem dX12_flours_65 : decode cX12_flours 65 = .ok (.istore 4, 2) := by decide +kernel
theorem dX12_flours_67 : decode cX12_flours 67 = .ok (.iconst (-1), 1) := by decide +kernel
theorem dX12_flours_68 : decode cX12_flours 68 = .ok (.istore 5, 2) := by decide +kernel
theorem dX12_flours_70 : decode cX12_flours 70 = .ok (.iconst 0, 1) := by decide +kernel
theorem dX12_flours_71 : decode cX12_flours 71 = .ok (.istore 6, 2) := by decide +kernel
theorem dX12_flours_73 : decode cX12_flours 73 = .ok (.iload 6, 2) := by decide +kernel
theorem dX12_flours_75 : decode cX12_flours 75 = .ok (.iconst 4, 1) := by decide +kernel
theorem dX12_flours_76 : decode cX12_flours 76 = .ok (.if_icmp .ge 98, 3) := by decide +kernel
theorem dX12_flours_79 : decode cX12_flours 79 = .ok (.aload_n 0, 1) := by decide +kernel
theorem dX12_flours_80 : decode cX12_flours 80 = .ok (.getfield 29, 3) := by decide +kernel
theorem dX12_flours_83 : decode cX12_flours 83 = .ok (.iload 6, 2) := by decide +kernel
theorem dX12_flours_85 : decode cX12_flours 85 = .ok (.baload, 1) := by decide +kernel
theorem dX12_flours_86 : decode cX12_flours 86 = .ok (.ifCond .eq 82, 3) := by decide +kernel
theorem dX12_flours_89 : decode cX12_flours 89 = .ok (.aload_n 0, 1) := by decide +kernel
theorem dX12_flours_90 : decode cX12_flours 90 = .ok (.iload 6, 2) := by decide +kernel
theorem dX12_flours_92 : decode cX12_flours 92 = .ok (.iload_n 1, 1) := by decide +kernel
theorem dX12_flours_93 : decode cX12_flours 93 = .ok (.invokevirtual 260, 3) := by decide +kernel
theorem dX12_flours_96 : decode cX12_flours 96 = .ok (.aload_n 0, 1) := by decide +kernel
theorem dX12_flours_97 : decode cX12_flours 97 = .ok (.invokevirtual 263, 3) := by decide +kernel
theorem dX12_flours_100 : decode cX12_flours 100 = .ok (.iload_n 3, 1) := by decide +kernel
theorem dX12_flours_101 : decode cX12_flours 101 = .ok (.aload_n 0, 1) := by decide +kernel
theorem dX12_flours_102 : decode cX12_flours 102 = .ok (.invokevirtual 244, 3) := by decide +kernel
theorem dX12_flours_105 : decode cX12_flours 105 = .ok (.ifCond .ne 10, 3) := by decide +kernel
theorem dX12_flours_108 : decode cX12_flours 108 = .ok (.iconst 1, 1) := by decide +kernel
theorem dX12_flours_109 : decode cX12_flours 109 = .ok (.iload 6, 2) := by decide +kernel
theorem dX12_flours_111 : decode cX12_flours 111 = .ok (.ishl, 1) := by decide +kernel
theorem dX12_flours_112 : decode cX12_flours 112 = .ok (.goto 4, 3) := by decide +kernel
theorem dX12_flours_115 : decode cX12_flours 115 = .ok (.iconst 0, 1) := by decide +kernel
theorem dX12_flours_116 : decode cX12_flours 116 = .ok (.ior, 1) := by decide +kernel
theorem dX12_flours_117 : decode cX12_flours 117 = .ok (.istore_n 3, 1) := by decide +kernel
theorem dX12_flours_118 : decode cX12_flours 118 = .ok (.aload_n 0, 1) := by decide +kernel
theorem dX12_flours_119 : decode cX12_flours 119 = .ok (.invokevirtual 247, 3) := by decide +kernel
theorem dX12_flours_122 : decode cX12_flours 122 = .ok (.iload 5, 2) := by decide +kernel
theorem dX12_flours_124 : decode cX12_flours 124 = .ok (.if_icmp .le 7, 3) := by decide +kernel
theorem dX12_flours_127 : decode cX12_flours 127 = .ok (.iconst 0, 1) := by decide +kernel
theorem dX12_flours_128 : decode cX12_flours 128 = .ok (.goto 5, 3) := by decide +kernel
theorem dX12_flours_131 : decode cX12_flours 131 = .ok (.iload 4, 2) := by decide +kernel
theorem dX12_flours_133 : decode cX12_flours 133 = .ok (.istore 4, 2) := by decide +kernel
theorem dX12_flours_135 : decode cX12_flours 135 = .ok (.iload 5, 2) := by decide +kernel
theorem dX12_flours_137 : decode cX12_flours 137 = .ok (.aload_n 0, 1) := by decide +kernel
theorem dX12_flours_138 : decode cX12_flours 138 = .ok (.invokevirtual 247, 3) := by decide +kernel
theorem dX12_flours_141 : decode cX12_flours 141 = .ok (.invokestatic 197, 3) := by decide +kernel
theorem dX12_flours_144 : decode cX12_flours 144 = .ok (.istore 5, 2) := by decide +kernel
theorem dX12_flours_146 : decode cX12_flours 146 = .ok (.iload 4, 2) := by decide +kernel
theorem dX12_flours_148 : decode cX12_flours 148 = .ok (.aload_n 0, 1) := by decide +kernel
theorem dX12_flours_149 : decode cX12_flours 149 = .ok (.invokevirtual 247, 3) := by decide +kernel
theorem dX12_flours_152 : decode cX12_flours 152 = .ok (.iload 5, 2) := by decide +kernel
theorem dX12_flours_154 : decode cX12_flours 154 = .ok (.if_icmp .ne 10, 3) := by decide +kernel
theorem dX12_flours_157 : decode cX12_flours 157 = .ok (.iconst 1, 1) := by decide +kernel
theorem dX12_flours_158 : decode cX12_flours 158 = .ok (.iload 6, 2) := by decide +kernel
theorem dX12_flours_160 : decode cX12_flours 160 = .ok (.ishl, 1) := by decide +kernel
theorem dX12_flours_161 : decode cX12_flours 161 = .ok (.goto 4, 3) := by decide +kernel
theorem dX12_flours_164 : decode cX12_flours 164 = .ok (.iconst 0, 1) := by decide +kernel
theorem dX12_flours_165 : decode cX12_flours 165 = .ok (.ior, 1) := by decide +kernel
theorem dX12_flours_166 : decode cX12_flours 166 = .ok (.istore 4, 2) := by decide +kernel
theorem dX12_flours_168 : decode cX12_flours 168 = .ok (.iinc 6 1, 3) := by decide +kernel
theorem dX12_flours_171 : decode cX12_flours 171 = .ok (.goto (-98), 3) := by decide +kernel
theorem dX12_flours_174 : decode cX12_flours 174 = .ok (.aload_n 0, 1) := by decide +kernel
theorem dX12_flours_175 : decode cX12_flours 175 = .ok (.iload 4, 2) := by decide +kernel
theorem dX12_flours_177 : decode cX12_flours 177 = .ok (.iload_n 3, 1) := by decide +kernel
theorem dX12_flours_178 : decode cX12_flours 178 = .ok (.invokevirtual 108, 3) := by decide +kernel
theorem dX12_flours_181 : decode cX12_flours 181 = .ok (.ireturn, 1) := by decide +kernel
theorem dX12_find_0 : decode cX12_find 0 = .ok (.bipush (-9), 2) := by decide +kernel
theorem dX12_find_2 : decode cX12_find 2 = .ok (.istore_n 3, 1) := by decide +kernel
theorem dX12_find_3 : decode cX12_find 3 = .ok (.iconst 0, 1) := by decide +kernel
theorem dX12_find_4 : decode cX12_find 4 = .ok (.istore 4, 2) := by decide +kernel
theorem dX12_find_6 : decode cX12_find 6 = .ok (.iload 4, 2) := by decide +kernel
theorem dX12_find_8 : decode cX12_find 8 = .ok (.aload_n 0, 1) := by decide +kernel
theorem dX12_find_9 : decode cX12_find 9 = .ok (.iconst 5, 1) := by decide +kernel
theorem dX12_find_10 : decode cX12_find 10 = .ok (.invokevirtual 160, 3) := by decide +kernel
theorem dX12_find_13 : decode cX12_find 13 = .ok (.if_icmp .ge 37, 3) := by decide +kernel
theorem dX12_find_16 : decode cX12_find 16 = .ok (.aload_n 0, 1) := by decide +kernel
theorem dX12_find_17 : decode cX12_find 17 = .ok (.iload 4, 2) := by decide +kernel
theorem dX12_find_19 : decode cX12_find 19 = .ok (.iconst 0, 1) := by decide +kernel
theorem dX12_find_20 : decode cX12_find 20 = .ok (.invokevirtual 171, 3) := by decide +kernel
theorem dX12_find_23 : decode cX12_find 23 = .ok (.iload_n 1, 1) := by decide +kernel
theorem dX12_find_24 : decode cX12_find 24 = .ok (.if_icmp .ne 18, 3) := by decide +kernel
theorem dX12_find_27 : decode cX12_find 27 = .ok (.iload_n 2, 1) := by decide +kernel
theorem dX12_find_28 : decode cX12_find 28 = .ok (.ifCond .ne 9, 3) := by decide +kernel
theorem dX12_find_31 : decode cX12_find 31 = .ok (.iload_n 3, 1) := by decide +kernel
theorem dX12_find_32 : decode cX12_find 32 = .ok (.bipush (-9), 2) := by decide +kernel
theorem dX12_find_34 : decode cX12_find 34 = .ok (.if_icmp .ne 8, 3) := by decide +kernel
theorem dX12_find_37 : decode cX12_find 37 = .ok (.iload 4, 2) := by decide +kernel
theorem dX12_find_39 : decode cX12_find 39 = .ok (.goto 4, 3) := by decide +kernel
theorem dX12_find_42 : decode cX12_find 42 = .ok (.iload_n 3, 1) := by decide +kernel
theorem dX12_find_43 : decode cX12_find 43 = .ok (.istore_n 3, 1) := by decide +kernel
theorem dX12_find_44 : decode cX12_find 44 = .ok (.iinc 4 1, 3) := by decide +kernel
theorem dX12_find_47 : decode cX12_find 47 = .ok (.goto (-41), 3) := by decide +kernel
theorem dX12_find_50 : decode cX12_find 50 = .ok (.iload_n 3, 1) := by decide +kernel
theorem dX12_find_51 : decode cX12_find 51 = .ok (.ireturn, 1) := by decide +kernel
theorem dX12_begin_0 : decode cX12_begin 0 = .ok (.iload_n 1, 1) := by decide +kernel
theorem dX12_begin_1 : decode cX12_begin 1 = .ok (.iconst 0, 1) := by decide +kernel
theorem dX12_begin_2 : decode cX12_begin 2 = .ok (.bipush 9, 2) := by decide +kernel
theorem dX12_begin_4 : decode cX12_begin 4 = .ok (.invokestatic 86, 3) := by decide +kernel
theorem dX12_begin_7 : decode cX12_begin 7 = .ok (.ifCond .ne 5, 3) := by decide +kernel
theorem dX12_begin_10 : decode cX12_begin 10 = .ok (.iconst (-1), 1) := by decide +kernel
theorem dX12_begin_11 : decode cX12_begin 11 = .ok (.ireturn, 1) := by decide +kernel
theorem dX12_begin_12 : decode cX12_begin 12 = .ok (.aload_n 0, 1) := by decide +kernel
theorem dX12_begin_13 : decode cX12_begin 13 = .ok (.getfield 51, 3) := by decide +kernel
theorem dX12_begin_16 : decode cX12_begin 16 = .ok (.iconst 0, 1) := by decide +kernel
theorem dX12_begin_17 : decode cX12_begin 17 = .ok (.baload, 1) := by decide +kernel
theorem dX12_begin_18 : decode cX12_begin 18 = .ok (.ifCond .ne 6, 3) := by decide +kernel
theorem dX12_begin_21 : decode cX12_begin 21 = .ok (.bipush (-4), 2) := by decide +kernel
theorem dX12_begin_23 : decode cX12_begin 23 = .ok (.ireturn, 1) := by decide +kernel
theorem dX12_begin_24 : decode cX12_begin 24 = .ok (.aload_n 0, 1) := by decide +kernel
theorem dX12_begin_25 : decode cX12_begin 25 = .ok (.invokevirtual 289, 3) := by decide +kernel
theorem dX12_begin_28 : decode cX12_begin 28 = .ok (.aload_n 0, 1) := by decide +kernel
theorem dX12_begin_29 : decode cX12_begin 29 = .ok (.iconst 1, 1) := by decide +kernel
theorem dX12_begin_30 : decode cX12_begin 30 = .ok (.iconst 0, 1) := by decide +kernel
theorem dX12_begin_31 : decode cX12_begin 31 = .ok (.invokevirtual 304, 3) := by decide +kernel
theorem dX12_begin_34 : decode cX12_begin 34 = .ok (.istore_n 2, 1) := by decide +kernel
theorem dX12_begin_35 : decode cX12_begin 35 = .ok (.iload_n 2, 1) := by decide +kernel
theorem dX12_begin_36 : decode cX12_begin 36 = .ok (.bipush (-9), 2) := by decide +kernel
theorem dX12_begin_38 : decode cX12_begin 38 = .ok (.if_icmp .ne 9, 3) := by decide +kernel
theorem dX12_begin_41 : decode cX12_begin 41 = .ok (.aload_n 0, 1) := by decide +kernel
theorem dX12_begin_42 : decode cX12_begin 42 = .ok (.iconst 3, 1) := by decide +kernel
theorem dX12_begin_43 : decode cX12_begin 43 = .ok (.invokevirtual 100, 3) := by decide +kernel
theorem dX12_begin_46 : decode cX12_begin 46 = .ok (.ireturn, 1) := by decide +kernel
theorem dX12_begin_47 : decode cX12_begin 47 = .ok (.bipush (-9), 2) := by decide +kernel
theorem dX12_begin_49 : decode cX12_begin 49 = .ok (.istore_n 3, 1) := by decide +kernel
theorem dX12_begin_50 : decode cX12_begin 50 = .ok (.iconst 0, 1) := by decide +kernel
theorem dX12_begin_51 : decode cX12_begin 51 = .ok (.istore 4, 2) := by decide +kernel
theorem dX12_begin_53 : decode cX12_begin 53 = .ok (.iconst 0, 1) := by decide +kernel
theorem dX12_begin_54 : decode cX12_begin 54 = .ok (.istore 5, 2) := by decide +kernel
theorem dX12_begin_56 : decode cX12_begin 56 = .ok (.iconst 1, 1) := by decide +kernel
theorem dX12_begin_57 : decode cX12_begin 57 = .ok (.istore 6, 2) := by decide +kernel
theorem dX12_begin_59 : decode cX12_begin 59 = .ok (.iload 6, 2) := by decide +kernel
theorem dX12_begin_61 : decode cX12_begin 61 = .ok (.bipush 30, 2) := by decide +kernel
theorem dX12_begin_63 : decode cX12_begin 63 = .ok (.if_icmp .gt 111, 3) := by decide +kernel
theorem dX12_begin_66 : decode cX12_begin 66 = .ok (.aload_n 0, 1) := by decide +kernel
theorem dX12_begin_67 : decode cX12_begin 67 = .ok (.invokevirtual 289, 3) := by decide +kernel
theorem dX12_begin_70 : decode cX12_begin 70 = .ok (.iconst 0, 1) := by decide +kernel
theorem dX12_begin_71 : decode cX12_begin 71 = .ok (.istore 7, 2) := by decide +kernel
theorem dX12_begin_73 : decode cX12_begin 73 = .ok (.iload 7, 2) := by decide +kernel
theorem dX12_begin_75 : decode cX12_begin 75 = .ok (.aload_n 0, 1) := by decide +kernel
theorem dX12_begin_76 : decode cX12_begin 76 = .ok (.iconst 5, 1) := by decide +kernel
theorem dX12_begin_77 : decode cX12_begin 77 = .ok (.invokevirtual 160, 3) := by decide +kernel
theorem dX12_begin_80 : decode cX12_begin 80 = .ok (.if_icmp .ge 44, 3) := by decide +kernel
theorem dX12_begin_83 : decode cX12_begin 83 = .ok (.aload_n 0, 1) := by decide +kernel
theorem dX12_begin_84 : decode cX12_begin 84 = .ok (.bipush 6, 2) := by decide +kernel
theorem dX12_begin_86 : decode cX12_begin 86 = .ok (.iconst 3, 1) := by decide +kernel
theorem dX12_begin_87 : decode cX12_begin 87 = .ok (.iload 7, 2) := by decide +kernel
theorem dX12_begin_89 : decode cX12_begin 89 = .ok (.imul, 1) := by decide +kernel
theorem dX12_begin_90 : decode cX12_begin 90 = .ok (.iadd, 1) := by decide +kernel
theorem dX12_begin_91 : decode cX12_begin 91 = .ok (.iconst 1, 1) := by decide +kernel
theorem dX12_begin_92 : decode cX12_begin 92 = .ok (.iadd, 1) := by decide +kernel
theorem dX12_begin_93 : decode cX12_begin 93 = .ok (.aload_n 0, 1) := by decide +kernel
theorem dX12_begin_94 : decode cX12_begin 94 = .ok (.iload 7, 2) := by decide +kernel
theorem dX12_begin_96 : decode cX12_begin 96 = .ok (.iconst 0, 1) := by decide +kernel
theorem dX12_begin_97 : decode cX12_begin 97 = .ok (.invokevirtual 171, 3) := by decide +kernel
theorem dX12_begin_100 : decode cX12_begin 100 = .ok (.iconst 1, 1) := by decide +kernel
theorem dX12_begin_101 : decode cX12_begin 101 = .ok (.if_icmp .ne 7, 3) := by decide +kernel
theorem dX12_begin_104 : decode cX12_begin 104 = .ok (.iload_n 1, 1) := by decide +kernel
theorem dX12_begin_105 : decode cX12_begin 105 = .ok (.goto 10, 3) := by decide +kernel
theorem dX12_begin_108 : decode cX12_begin 108 = .ok (.aload_n 0, 1) := by decide +kernel
theorem dX12_begin_109 : decode cX12_begin 109 = .ok (.iload 7, 2) := by decide +kernel
theorem dX12_begin_111 : decode cX12_begin 111 = .ok (.iconst 1, 1) := by decide +kernel
theorem dX12_begin_112 : decode cX12_begin 112 = .ok (.invokevirtual 171, 3) := by decide +kernel
theorem dX12_begin_115 : decode cX12_begin 115 = .ok (.invokevirtual 163, 3) := by decide +kernel
theorem dX12_begin_118 : decode cX12_begin 118 = .ok (.iinc 7 1, 3) := by decide +kernel
theorem dX12_begin_121 : decode cX12_begin 121 = .ok (.goto (-48), 3) := by decide +kernel
theorem dX12_begin_124 : decode cX12_begin 124 = .ok (.aload_n 0, 1) := by decide +kernel
theorem dX12_begin_125 : decode cX12_begin 125 = .ok (.iload_n 2, 1) := by decide +kernel
theorem dX12_begin_126 : decode cX12_begin 126 = .ok (.iload 6, 2) := by decide +kernel
theorem dX12_begin_128 : decode cX12_begin 128 = .ok (.invokevirtual 301, 3) := by decide +kernel
theorem dX12_begin_131 : decode cX12_begin 131 = .ok (.ifCond .eq 37, 3) := by decide +kernel
theorem dX12_begin_134 : decode cX12_begin 134 = .ok (.aload_n 0, 1) := by decide +kernel
theorem dX12_begin_135 : decode cX12_begin 135 = .ok (.invokevirtual 263, 3) := by decide +kernel
theorem dX12_begin_138 : decode cX12_begin 138 = .ok (.iload_n 3, 1) := by decide +kernel
theorem dX12_begin_139 : decode cX12_begin 139 = .ok (.bipush (-9), 2) := by decide +kernel
theorem dX12_begin_141 : decode cX12_begin 141 = .ok (.if_icmp .eq 12, 3) := by decide +kernel
theorem dX12_begin_144 : decode cX12_begin 144 = .ok (.aload_n 0, 1) := by decide +kernel
theorem dX12_begin_145 : decode cX12_begin 145 = .ok (.invokevirtual 247, 3) := by decide +kernel
theorem dX12_begin_148 : decode cX12_begin 148 = .ok (.iload 4, 2) := by decide +kernel
theorem dX12_begin_150 : decode cX12_begin 150 = .ok (.if_icmp .le 18, 3) := by decide +kernel
theorem dX12_begin_153 : decode cX12_begin 153 = .ok (.iload 6, 2) := by decide +kernel
theorem dX12_begin_155 : decode cX12_begin 155 = .ok (.istore_n 3, 1) := by decide +kernel
theorem dX12_begin_156 : decode cX12_begin 156 = .ok (.aload_n 0, 1) := by decide +kernel
theorem dX12_begin_157 : decode cX12_begin 157 = .ok (.invokevirtual 247, 3) := by decide +kernel
theorem dX12_begin_160 : decode cX12_begin 160 = .ok (.istore 4, 2) := by decide +kernel
theorem dX12_begin_162 : decode cX12_begin 162 = .ok (.aload_n 0, 1) := by decide +kernel
theorem dX12_begin_163 : decode cX12_begin 163 = .ok (.invokevirtual 187, 3) := by decide +kernel
theorem dX12_begin_166 : decode cX12_begin 166 = .ok (.istore 5, 2) := by decide +kernel
theorem dX12_begin_168 : decode cX12_begin 168 = .ok (.iinc 6 1, 3) := by decide +kernel
theorem dX12_begin_171 : decode cX12_begin 171 = .ok (.goto (-112), 3) := by decide +kernel
theorem dX12_begin_174 : decode cX12_begin 174 = .ok (.aload_n 0, 1) := by decide +kernel
theorem dX12_begin_175 : decode cX12_begin 175 = .ok (.iload 5, 2) := by decide +kernel
theorem dX12_begin_177 : decode cX12_begin 177 = .ok (.iload_n 3, 1) := by decide +kernel
theorem dX12_begin_178 : decode cX12_begin 178 = .ok (.invokevirtual 108, 3) := by decide +kernel
theorem dX12_begin_181 : decode cX12_begin 181 = .ok (.ireturn, 1) := by decide +kernel
theorem dX12_oven_0 : decode cX12_oven 0 = .ok (.iload_n 1, 1) := by decide +kernel
theorem dX12_oven_1 : decode cX12_oven 1 = .ok (.bipush (-2), 2) := by decide +kernel
theorem dX12_oven_3 : decode cX12_oven 3 = .ok (.iconst 2, 1) := by decide +kernel
theorem dX12_oven_4 : decode cX12_oven 4 = .ok (.invokestatic 86, 3) := by decide +kernel
theorem dX12_oven_7 : decode cX12_oven 7 = .ok (.ifCond .ne 5, 3) := by decide +kernel
theorem dX12_oven_10 : decode cX12_oven 10 = .ok (.iconst (-1), 1) := by decide +kernel
theorem dX12_oven_11 : decode cX12_oven 11 = .ok (.ireturn, 1) := by decide +kernel
theorem dX12_oven_12 : decode cX12_oven 12 = .ok (.aload_n 0, 1) := by decide +kernel
theorem dX12_oven_13 : decode cX12_oven 13 = .ok (.getfield 51, 3) := by decide +kernel
theorem dX12_oven_16 : decode cX12_oven 16 = .ok (.iconst 0, 1) := by decide +kernel
theorem dX12_oven_17 : decode cX12_oven 17 = .ok (.baload, 1) := by decide +kernel
theorem dX12_oven_18 : decode cX12_oven 18 = .ok (.ifCond .ne 6, 3) := by decide +kernel
theorem dX12_oven_21 : decode cX12_oven 21 = .ok (.bipush (-4), 2) := by decide +kernel
theorem dX12_oven_23 : decode cX12_oven 23 = .ok (.ireturn, 1) := by decide +kernel
theorem dX12_oven_24 : decode cX12_oven 24 = .ok (.aload_n 0, 1) := by decide +kernel
theorem dX12_oven_25 : decode cX12_oven 25 = .ok (.invokevirtual 289, 3) := by decide +kernel
theorem dX12_oven_28 : decode cX12_oven 28 = .ok (.aload_n 0, 1) := by decide +kernel
theorem dX12_oven_29 : decode cX12_oven 29 = .ok (.iconst 2, 1) := by decide +kernel
theorem dX12_oven_30 : decode cX12_oven 30 = .ok (.iconst 1, 1) := by decide +kernel
theorem dX12_oven_31 : decode cX12_oven 31 = .ok (.invokevirtual 304, 3) := by decide +kernel
theorem dX12_oven_34 : decode cX12_oven 34 = .ok (.istore_n 2, 1) := by decide +kernel
theorem dX12_oven_35 : decode cX12_oven 35 = .ok (.iload_n 2, 1) := by decide +kernel
theorem dX12_oven_36 : decode cX12_oven 36 = .ok (.bipush (-9), 2) := by decide +kernel
theorem dX12_oven_38 : decode cX12_oven 38 = .ok (.if_icmp .ne 9, 3) := by decide +kernel
theorem dX12_oven_41 : decode cX12_oven 41 = .ok (.aload_n 0, 1) := by decide +kernel
theorem dX12_oven_42 : decode cX12_oven 42 = .ok (.iconst 3, 1) := by decide +kernel
theorem dX12_oven_43 : decode cX12_oven 43 = .ok (.invokevirtual 100, 3) := by decide +kernel
theorem dX12_oven_46 : decode cX12_oven 46 = .ok (.ireturn, 1) := by decide +kernel
theorem dX12_oven_47 : decode cX12_oven 47 = .ok (.aload_n 0, 1) := by decide +kernel
theorem dX12_oven_48 : decode cX12_oven 48 = .ok (.invokevirtual 263, 3) := by decide +kernel
theorem dX12_oven_51 : decode cX12_oven 51 = .ok (.aload_n 0, 1) := by decide +kernel
theorem dX12_oven_52 : decode cX12_oven 52 = .ok (.invokevirtual 247, 3) := by decide +kernel
theorem dX12_oven_55 : decode cX12_oven 55 = .ok (.istore_n 3, 1) := by decide +kernel
theorem dX12_oven_56 : decode cX12_oven 56 = .ok (.bipush (-9), 2) := by decide +kernel
theorem dX12_oven_58 : decode cX12_oven 58 = .ok (.istore 4, 2) := by decide +kernel
theorem dX12_oven_60 : decode cX12_oven 60 = .ok (.iconst 0, 1) := by decide +kernel
theorem dX12_oven_61 : decode cX12_oven 61 = .ok (.istore 5, 2) := by decide +kernel
theorem dX12_oven_63 : decode cX12_oven 63 = .ok (.iconst 1, 1) := by decide +kernel
theorem dX12_oven_64 : decode cX12_oven 64 = .ok (.istore 6, 2) := by decide +kernel
theorem dX12_oven_66 : decode cX12_oven 66 = .ok (.iload 6, 2) := by decide +kernel
theorem dX12_oven_68 : decode cX12_oven 68 = .ok (.bipush 30, 2) := by decide +kernel
theorem dX12_oven_70 : decode cX12_oven 70 = .ok (.if_icmp .gt 64, 3) := by decide +kernel
theorem dX12_oven_73 : decode cX12_oven 73 = .ok (.aload_n 0, 1) := by decide +kernel
theorem dX12_oven_74 : decode cX12_oven 74 = .ok (.invokevirtual 289, 3) := by decide +kernel
theorem dX12_oven_77 : decode cX12_oven 77 = .ok (.aload_n 0, 1) := by decide +kernel
theorem dX12_oven_78 : decode cX12_oven 78 = .ok (.iload_n 1, 1) := by decide +kernel
theorem dX12_oven_79 : decode cX12_oven 79 = .ok (.invokevirtual 283, 3) := by decide +kernel
theorem dX12_oven_82 : decode cX12_oven 82 = .ok (.aload_n 0, 1) := by decide +kernel
theorem dX12_oven_83 : decode cX12_oven 83 = .ok (.iload_n 2, 1) := by decide +kernel
theorem dX12_oven_84 : decode cX12_oven 84 = .ok (.iload 6, 2) := by decide +kernel
theorem dX12_oven_86 : decode cX12_oven 86 = .ok (.invokevirtual 301, 3) := by decide +kernel
theorem dX12_oven_89 : decode cX12_oven 89 = .ok (.ifCond .eq 39, 3) := by decide +kernel
theorem dX12_oven_92 : decode cX12_oven 92 = .ok (.aload_n 0, 1) := by decide +kernel
theorem dX12_oven_93 : decode cX12_oven 93 = .ok (.invokevirtual 263, 3) := by decide +kernel
theorem dX12_oven_96 : decode cX12_oven 96 = .ok (.aload_n 0, 1) := by decide +kernel
theorem dX12_oven_97 : decode cX12_oven 97 = .ok (.invokevirtual 247, 3) := by decide +kernel
theorem dX12_oven_100 : decode cX12_oven 100 = .ok (.iload_n 3, 1) := by decide +kernel
theorem dX12_oven_101 : decode cX12_oven 101 = .ok (.invokestatic 307, 3) := by decide +kernel
theorem dX12_oven_104 : decode cX12_oven 104 = .ok (.istore 7, 2) := by decide +kernel
theorem dX12_oven_106 : decode cX12_oven 106 = .ok (.iload 4, 2) := by decide +kernel
theorem dX12_oven_108 : decode cX12_oven 108 = .ok (.bipush (-9), 2) := by decide +kernel
theorem dX12_oven_110 : decode cX12_oven 110 = .ok (.if_icmp .eq 10, 3) := by decide +kernel
theorem dX12_oven_113 : decode cX12_oven 113 = .ok (.iload 7, 2) := by decide +kernel
theorem dX12_oven_115 : decode cX12_oven 115 = .ok (.iload 5, 2) := by decide +kernel
theorem dX12_oven_117 : decode cX12_oven 117 = .ok (.if_icmp .ge 11, 3) := by decide +kernel
theorem dX12_oven_120 : decode cX12_oven 120 = .ok (.iload 6, 2) := by decide +kernel
theorem dX12_oven_122 : decode cX12_oven 122 = .ok (.istore 4, 2) := by decide +kernel
theorem dX12_oven_124 : decode cX12_oven 124 = .ok (.iload 7, 2) := by decide +kernel
theorem dX12_oven_126 : decode cX12_oven 126 = .ok (.istore 5, 2) := by decide +kernel
theorem dX12_oven_128 : decode cX12_oven 128 = .ok (.iinc 6 1, 3) := by decide +kernel
theorem dX12_oven_131 : decode cX12_oven 131 = .ok (.goto (-65), 3) := by decide +kernel
theorem dX12_oven_134 : decode cX12_oven 134 = .ok (.aload_n 0, 1) := by decide +kernel
theorem dX12_oven_135 : decode cX12_oven 135 = .ok (.iload 5, 2) := by decide +kernel
theorem dX12_oven_137 : decode cX12_oven 137 = .ok (.iload 4, 2) := by decide +kernel
theorem dX12_oven_139 : decode cX12_oven 139 = .ok (.invokevirtual 108, 3) := by decide +kernel
theorem dX12_oven_142 : decode cX12_oven 142 = .ok (.ireturn, 1) := by decide +kernel
theorem dX12_even_0 : decode cX12_even 0 = .ok (.aload_n 0, 1) := by decide +kernel
theorem dX12_even_1 : decode cX12_even 1 = .ok (.getfield 51, 3) := by decide +kernel
theorem dX12_even_4 : decode cX12_even 4 = .ok (.iconst 0, 1) := by decide +kernel
theorem dX12_even_5 : decode cX12_even 5 = .ok (.baload, 1) := by decide +kernel
theorem dX12_even_6 : decode cX12_even 6 = .ok (.ifCond .ne 6, 3) := by decide +kernel
theorem dX12_even_9 : decode cX12_even 9 = .ok (.bipush (-4), 2) := by decide +kernel
theorem dX12_even_11 : decode cX12_even 11 = .ok (.ireturn, 1) := by decide +kernel
theorem dX12_even_12 : decode cX12_even 12 = .ok (.aload_n 0, 1) := by decide +kernel
theorem dX12_even_13 : decode cX12_even 13 = .ok (.invokevirtual 289, 3) := by decide +kernel
theorem dX12_even_16 : decode cX12_even 16 = .ok (.aload_n 0, 1) := by decide +kernel
theorem dX12_even_17 : decode cX12_even 17 = .ok (.iconst 1, 1) := by decide +kernel
theorem dX12_even_18 : decode cX12_even 18 = .ok (.iconst 0, 1) := by decide +kernel
theorem dX12_even_19 : decode cX12_even 19 = .ok (.invokevirtual 304, 3) := by decide +kernel
theorem dX12_even_22 : decode cX12_even 22 = .ok (.istore_n 1, 1) := by decide +kernel
theorem dX12_even_23 : decode cX12_even 23 = .ok (.iload_n 1, 1) := by decide +kernel
theorem dX12_even_24 : decode cX12_even 24 = .ok (.bipush (-9), 2) := by decide +kernel
theorem dX12_even_26 : decode cX12_even 26 = .ok (.if_icmp .ne 9, 3) := by decide +kernel
theorem dX12_even_29 : decode cX12_even 29 = .ok (.aload_n 0, 1) := by decide +kernel
theorem dX12_even_30 : decode cX12_even 30 = .ok (.iconst 3, 1) := by decide +kernel
theorem dX12_even_31 : decode cX12_even 31 = .ok (.invokevirtual 100, 3) := by decide +kernel
theorem dX12_even_34 : decode cX12_even 34 = .ok (.ireturn, 1) := by decide +kernel
theorem dX12_even_35 : decode cX12_even 35 = .ok (.bipush (-9), 2) := by decide +kernel
theorem dX12_even_37 : decode cX12_even 37 = .ok (.istore_n 2, 1) := by decide +kernel
theorem dX12_even_38 : decode cX12_even 38 = .ok (.iconst 0, 1) := by decide +kernel
theorem dX12_even_39 : decode cX12_even 39 = .ok (.istore_n 3, 1) := by decide +kernel
theorem dX12_even_40 : decode cX12_even 40 = .ok (.iconst 0, 1) := by decide +kernel
theorem dX12_even_41 : decode cX12_even 41 = .ok (.istore 4, 2) := by decide +kernel
theorem dX12_even_43 : decode cX12_even 43 = .ok (.iload 4, 2) := by decide +kernel
theorem dX12_even_45 : decode cX12_even 45 = .ok (.bipush 9, 2) := by decide +kernel
theorem dX12_even_47 : decode cX12_even 47 = .ok (.if_icmp .gt 119, 3) := by decide +kernel
theorem dX12_even_50 : decode cX12_even 50 = .ok (.iconst 5, 1) := by decide +kernel
theorem dX12_even_51 : decode cX12_even 51 = .ok (.istore 5, 2) := by decide +kernel
theorem dX12_even_53 : decode cX12_even 53 = .ok (.iload 5, 2) := by decide +kernel
theorem dX12_even_55 : decode cX12_even 55 = .ok (.bipush 30, 2) := by decide +kernel
theorem dX12_even_57 : decode cX12_even 57 = .ok (.if_icmp .gt 103, 3) := by decide +kernel
theorem dX12_even_60 : decode cX12_even 60 = .ok (.aload_n 0, 1) := by decide +kernel
theorem dX12_even_61 : decode cX12_even 61 = .ok (.invokevirtual 289, 3) := by decide +kernel
theorem dX12_even_64 : decode cX12_even 64 = .ok (.aload_n 0, 1) := by decide +kernel
theorem dX12_even_65 : decode cX12_even 65 = .ok (.bipush 6, 2) := by decide +kernel
theorem dX12_even_67 : decode cX12_even 67 = .ok (.iconst 3, 1) := by decide +kernel
theorem dX12_even_68 : decode cX12_even 68 = .ok (.iload_n 1, 1) := by decide +kernel
theorem dX12_even_69 : decode cX12_even 69 = .ok (.imul, 1) := by decide +kernel
theorem dX12_even_70 : decode cX12_even 70 = .ok (.iadd, 1) := by decide +kernel
theorem dX12_even_71 : decode cX12_even 71 = .ok (.iconst 1, 1) := by decide +kernel
theorem dX12_even_72 : decode cX12_even 72 = .ok (.iadd, 1) := by decide +kernel
theorem dX12_even_73 : decode cX12_even 73 = .ok (.iload 4, 2) := by decide +kernel
theorem dX12_even_75 : decode cX12_even 75 = .ok (.invokevirtual 163, 3) := by decide +kernel
theorem dX12_even_78 : decode cX12_even 78 = .ok (.aload_n 0, 1) := by decide +kernel
theorem dX12_even_79 : decode cX12_even 79 = .ok (.iload_n 1, 1) := by decide +kernel
theorem dX12_even_80 : decode cX12_even 80 = .ok (.iload 5, 2) := by decide +kernel
theorem dX12_even_82 : decode cX12_even 82 = .ok (.invokevirtual 301, 3) := by decide +kernel
theorem dX12_even_85 : decode cX12_even 85 = .ok (.ifCond .eq 69, 3) := by decide +kernel
theorem dX12_even_88 : decode cX12_even 88 = .ok (.aload_n 0, 1) := by decide +kernel
theorem dX12_even_89 : decode cX12_even 89 = .ok (.invokevirtual 263, 3) := by decide +kernel
theorem dX12_even_92 : decode cX12_even 92 = .ok (.iconst 0, 1) := by decide +kernel
theorem dX12_even_93 : decode cX12_even 93 = .ok (.istore 6, 2) := by decide +kernel
theorem dX12_even_95 : decode cX12_even 95 = .ok (.iconst 0, 1) := by decide +kernel
theorem dX12_even_96 : decode cX12_even 96 = .ok (.istore 7, 2) := by decide +kernel
theorem dX12_even_98 : decode cX12_even 98 = .ok (.iload 7, 2) := by decide +kernel
theorem dX12_even_100 : decode cX12_even 100 = .ok (.bipush 24, 2) := by decide +kernel
theorem dX12_even_102 : decode cX12_even 102 = .ok (.if_icmp .ge 28, 3) := by decide +kernel
theorem dX12_even_105 : decode cX12_even 105 = .ok (.iload 6, 2) := by decide +kernel
theorem dX12_even_107 : decode cX12_even 107 = .ok (.aload_n 0, 1) := by decide +kernel
theorem dX12_even_108 : decode cX12_even 108 = .ok (.iload 7, 2) := by decide +kernel
theorem dX12_even_110 : decode cX12_even 110 = .ok (.invokevirtual 253, 3) := by decide +kernel
theorem dX12_even_113 : decode cX12_even 113 = .ok (.ifCond .le 7, 3) := by decide +kernel
theorem dX12_even_116 : decode cX12_even 116 = .ok (.iconst 1, 1) := by decide +kernel
theorem dX12_even_117 : decode cX12_even 117 = .ok (.goto 4, 3) := by decide +kernel
theorem dX12_even_120 : decode cX12_even 120 = .ok (.iconst 0, 1) := by decide +kernel
theorem dX12_even_121 : decode cX12_even 121 = .ok (.iadd, 1) := by decide +kernel
theorem dX12_even_122 : decode cX12_even 122 = .ok (.istore 6, 2) := by decide +kernel
theorem dX12_even_124 : decode cX12_even 124 = .ok (.iinc 7 1, 3) := by decide +kernel
theorem dX12_even_127 : decode cX12_even 127 = .ok (.goto (-29), 3) := by decide +kernel
theorem dX12_even_130 : decode cX12_even 130 = .ok (.iload_n 2, 1) := by decide +kernel
theorem dX12_even_131 : decode cX12_even 131 = .ok (.bipush (-9), 2) := by decide +kernel
theorem dX12_even_133 : decode cX12_even 133 = .ok (.if_icmp .eq 9, 3) := by decide +kernel
theorem dX12_even_136 : decode cX12_even 136 = .ok (.iload 6, 2) := by decide +kernel
theorem dX12_even_138 : decode cX12_even 138 = .ok (.iload_n 3, 1) := by decide +kernel
theorem dX12_even_139 : decode cX12_even 139 = .ok (.if_icmp .ge 15, 3) := by decide +kernel
theorem dX12_even_142 : decode cX12_even 142 = .ok (.bipush 100, 2) := by decide +kernel
theorem dX12_even_144 : decode cX12_even 144 = .ok (.iload 4, 2) := by decide +kernel
theorem dX12_even_146 : decode cX12_even 146 = .ok (.imul, 1) := by decide +kernel
theorem dX12_even_147 : decode cX12_even 147 = .ok (.iload 5, 2) := by decide +kernel
theorem dX12_even_149 : decode cX12_even 149 = .ok (.iadd, 1) := by decide +kernel
theorem dX12_even_150 : decode cX12_even 150 = .ok (.istore_n 2, 1) := by decide +kernel
theorem dX12_even_151 : decode cX12_even 151 = .ok (.iload 6, 2) := by decide +kernel
theorem dX12_even_153 : decode cX12_even 153 = .ok (.istore_n 3, 1) := by decide +kernel
theorem dX12_even_154 : decode cX12_even 154 = .ok (.iinc 5 5, 3) := by decide +kernel
theorem dX12_even_157 : decode cX12_even 157 = .ok (.goto (-104), 3) := by decide +kernel
theorem dX12_even_160 : decode cX12_even 160 = .ok (.iinc 4 1, 3) := by decide +kernel
theorem dX12_even_163 : decode cX12_even 163 = .ok (.goto (-120), 3) := by decide +kernel
theorem dX12_even_166 : decode cX12_even 166 = .ok (.iload_n 2, 1) := by decide +kernel
theorem dX12_even_167 : decode cX12_even 167 = .ok (.bipush (-9), 2) := by decide +kernel
theorem dX12_even_169 : decode cX12_even 169 = .ok (.if_icmp .ne 8, 3) := by decide +kernel
theorem dX12_even_172 : decode cX12_even 172 = .ok (.bipush (-9), 2) := by decide +kernel
theorem dX12_even_174 : decode cX12_even 174 = .ok (.goto 9, 3) := by decide +kernel
theorem dX12_even_177 : decode cX12_even 177 = .ok (.aload_n 0, 1) := by decide +kernel
theorem dX12_even_178 : decode cX12_even 178 = .ok (.iload_n 3, 1) := by decide +kernel
theorem dX12_even_179 : decode cX12_even 179 = .ok (.iload_n 2, 1) := by decide +kernel
theorem dX12_even_180 : decode cX12_even 180 = .ok (.invokevirtual 108, 3) := by decide +kernel
theorem dX12_even_183 : decode cX12_even 183 = .ok (.ireturn, 1) := by decide +kernel
theorem dX12_slip_0 : decode cX12_slip 0 = .ok (.iload_n 1, 1) := by decide +kernel
theorem dX12_slip_1 : decode cX12_slip 1 = .ok (.invokestatic 151, 3) := by decide +kernel
theorem dX12_slip_4 : decode cX12_slip 4 = .ok (.ifCond .eq 14, 3) := by decide +kernel
theorem dX12_slip_7 : decode cX12_slip 7 = .ok (.iload_n 2, 1) := by decide +kernel
theorem dX12_slip_8 : decode cX12_slip 8 = .ok (.iconst 0, 1) := by decide +kernel
theorem dX12_slip_9 : decode cX12_slip 9 = .ok (.sipush 999, 3) := by decide +kernel
theorem dX12_slip_12 : decode cX12_slip 12 = .ok (.invokestatic 86, 3) := by decide +kernel
theorem dX12_slip_15 : decode cX12_slip 15 = .ok (.ifCond .ne 5, 3) := by decide +kernel
theorem dX12_slip_18 : decode cX12_slip 18 = .ok (.iconst (-1), 1) := by decide +kernel
theorem dX12_slip_19 : decode cX12_slip 19 = .ok (.ireturn, 1) := by decide +kernel
theorem dX12_slip_20 : decode cX12_slip 20 = .ok (.aload_n 0, 1) := by decide +kernel
theorem dX12_slip_21 : decode cX12_slip 21 = .ok (.getfield 310, 3) := by decide +kernel
theorem dX12_slip_24 : decode cX12_slip 24 = .ok (.bipush 12, 2) := by decide +kernel
theorem dX12_slip_26 : decode cX12_slip 26 = .ok (.if_icmp .ne 6, 3) := by decide +kernel
theorem dX12_slip_29 : decode cX12_slip 29 = .ok (.bipush (-2), 2) := by decide +kernel
theorem dX12_slip_31 : decode cX12_slip 31 = .ok (.ireturn, 1) := by decide +kernel
theorem dX12_slip_32 : decode cX12_slip 32 = .ok (.aload_n 0, 1) := by decide +kernel
theorem dX12_slip_33 : decode cX12_slip 33 = .ok (.getfield 69, 3) := by decide +kernel
theorem dX12_slip_36 : decode cX12_slip 36 = .ok (.iconst 2, 1) := by decide +kernel
theorem dX12_slip_37 : decode cX12_slip 37 = .ok (.aload_n 0, 1) := by decide +kernel
theorem dX12_slip_38 : decode cX12_slip 38 = .ok (.getfield 310, 3) := by decide +kernel
theorem dX12_slip_41 : decode cX12_slip 41 = .ok (.imul, 1) := by decide +kernel
theorem dX12_slip_42 : decode cX12_slip 42 = .ok (.iload_n 1, 1) := by decide +kernel
theorem dX12_slip_43 : decode cX12_slip 43 = .ok (.iastore, 1) := by decide +kernel
theorem dX12_slip_44 : decode cX12_slip 44 = .ok (.aload_n 0, 1) := by decide +kernel
theorem dX12_slip_45 : decode cX12_slip 45 = .ok (.getfield 69, 3) := by decide +kernel
theorem dX12_slip_48 : decode cX12_slip 48 = .ok (.iconst 2, 1) := by decide +kernel
theorem dX12_slip_49 : decode cX12_slip 49 = .ok (.aload_n 0, 1) := by decide +kernel
theorem dX12_slip_50 : decode cX12_slip 50 = .ok (.getfield 310, 3) := by decide +kernel
theorem dX12_slip_53 : decode cX12_slip 53 = .ok (.imul, 1) := by decide +kernel
theorem dX12_slip_54 : decode cX12_slip 54 = .ok (.iconst 1, 1) := by decide +kernel
theorem dX12_slip_55 : decode cX12_slip 55 = .ok (.iadd, 1) := by decide +kernel
theorem dX12_slip_56 : decode cX12_slip 56 = .ok (.iload_n 2, 1) := by decide +kernel
theorem dX12_slip_57 : decode cX12_slip 57 = .ok (.iastore, 1) := by decide +kernel
theorem dX12_slip_58 : decode cX12_slip 58 = .ok (.aload_n 0, 1) := by decide +kernel
theorem dX12_slip_59 : decode cX12_slip 59 = .ok (.dup, 1) := by decide +kernel
theorem dX12_slip_60 : decode cX12_slip 60 = .ok (.getfield 310, 3) := by decide +kernel
theorem dX12_slip_63 : decode cX12_slip 63 = .ok (.iconst 1, 1) := by decide +kernel
theorem dX12_slip_64 : decode cX12_slip 64 = .ok (.iadd, 1) := by decide +kernel
theorem dX12_slip_65 : decode cX12_slip 65 = .ok (.putfield 310, 3) := by decide +kernel
theorem dX12_slip_68 : decode cX12_slip 68 = .ok (.aload_n 0, 1) := by decide +kernel
theorem dX12_slip_69 : decode cX12_slip 69 = .ok (.getfield 310, 3) := by decide +kernel
theorem dX12_slip_72 : decode cX12_slip 72 = .ok (.iconst 1, 1) := by decide +kernel
theorem dX12_slip_73 : decode cX12_slip 73 = .ok (.isub, 1) := by decide +kernel
theorem dX12_slip_74 : decode cX12_slip 74 = .ok (.ireturn, 1) := by decide +kernel
theorem dX12_told_0 : decode cX12_told 0 = .ok (.iload_n 1, 1) := by decide +kernel
theorem dX12_told_1 : decode cX12_told 1 = .ok (.iconst 0, 1) := by decide +kernel
theorem dX12_told_2 : decode cX12_told 2 = .ok (.aload_n 0, 1) := by decide +kernel
theorem dX12_told_3 : decode cX12_told 3 = .ok (.getfield 310, 3) := by decide +kernel
theorem dX12_told_6 : decode cX12_told 6 = .ok (.iconst 1, 1) := by decide +kernel
theorem dX12_told_7 : decode cX12_told 7 = .ok (.isub, 1) := by decide +kernel
theorem dX12_told_8 : decode cX12_told 8 = .ok (.invokestatic 86, 3) := by decide +kernel
theorem dX12_told_11 : decode cX12_told 11 = .ok (.ifCond .eq 30, 3) := by decide +kernel
theorem dX12_told_14 : decode cX12_told 14 = .ok (.iload_n 2, 1) := by decide +kernel
theorem dX12_told_15 : decode cX12_told 15 = .ok (.iconst 0, 1) := by decide +kernel
theorem dX12_told_16 : decode cX12_told 16 = .ok (.iconst 1, 1) := by decide +kernel
theorem dX12_told_17 : decode cX12_told 17 = .ok (.invokestatic 86, 3) := by decide +kernel
theorem dX12_told_20 : decode cX12_told 20 = .ok (.ifCond .eq 21, 3) := by decide +kernel
theorem dX12_told_23 : decode cX12_told 23 = .ok (.aload_n 0, 1) := by decide +kernel
theorem dX12_told_24 : decode cX12_told 24 = .ok (.aload_n 0, 1) := by decide +kernel
theorem dX12_told_25 : decode cX12_told 25 = .ok (.getfield 69, 3) := by decide +kernel
theorem dX12_told_28 : decode cX12_told 28 = .ok (.iconst 2, 1) := by decide +kernel
theorem dX12_told_29 : decode cX12_told 29 = .ok (.iload_n 1, 1) := by decide +kernel
theorem dX12_told_30 : decode cX12_told 30 = .ok (.imul, 1) := by decide +kernel
theorem dX12_told_31 : decode cX12_told 31 = .ok (.iload_n 2, 1) := by decide +kernel
theorem dX12_told_32 : decode cX12_told 32 = .ok (.iadd, 1) := by decide +kernel
theorem dX12_told_33 : decode cX12_told 33 = .ok (.iaload, 1) := by decide +kernel
theorem dX12_told_34 : decode cX12_told 34 = .ok (.iconst 1, 1) := by decide +kernel
theorem dX12_told_35 : decode cX12_told 35 = .ok (.invokevirtual 108, 3) := by decide +kernel
theorem dX12_told_38 : decode cX12_told 38 = .ok (.goto 4, 3) := by decide +kernel
theorem dX12_told_41 : decode cX12_told 41 = .ok (.iconst (-1), 1) := by decide +kernel
theorem dX12_told_42 : decode cX12_told 42 = .ok (.ireturn, 1) := by decide +kernel
theorem dX12_layLaw_0 : decode cX12_layLaw 0 = .ok (.aload_n 0, 1) := by decide +kernel
theorem dX12_layLaw_1 : decode cX12_layLaw 1 = .ok (.iload_n 2, 1) := by decide +kernel
theorem dX12_layLaw_2 : decode cX12_layLaw 2 = .ok (.iload_n 3, 1) := by decide +kernel
theorem dX12_layLaw_3 : decode cX12_layLaw 3 = .ok (.invokevirtual 260, 3) := by decide +kernel
theorem dX12_layLaw_6 : decode cX12_layLaw 6 = .ok (.aload_n 0, 1) := by decide +kernel
theorem dX12_layLaw_7 : decode cX12_layLaw 7 = .ok (.iconst 0, 1) := by decide +kernel
theorem dX12_layLaw_8 : decode cX12_layLaw 8 = .ok (.iconst 1, 1) := by decide +kernel
theorem dX12_layLaw_9 : decode cX12_layLaw 9 = .ok (.iload_n 1, 1) := by decide +kernel
theorem dX12_layLaw_10 : decode cX12_layLaw 10 = .ok (.bipush 9, 2) := by decide +kernel
theorem dX12_layLaw_12 : decode cX12_layLaw 12 = .ok (.idiv, 1) := by decide +kernel
theorem dX12_layLaw_13 : decode cX12_layLaw 13 = .ok (.iadd, 1) := by decide +kernel
theorem dX12_layLaw_14 : decode cX12_layLaw 14 = .ok (.invokevirtual 163, 3) := by decide +kernel
theorem dX12_layLaw_17 : decode cX12_layLaw 17 = .ok (.aload_n 0, 1) := by decide +kernel
theorem dX12_layLaw_18 : decode cX12_layLaw 18 = .ok (.iconst 1, 1) := by decide +kernel
theorem dX12_layLaw_19 : decode cX12_layLaw 19 = .ok (.bipush 10, 2) := by decide +kernel
theorem dX12_layLaw_21 : decode cX12_layLaw 21 = .ok (.bipush 10, 2) := by decide +kernel
theorem dX12_layLaw_23 : decode cX12_layLaw 23 = .ok (.iload_n 1, 1) := by decide +kernel
theorem dX12_layLaw_24 : decode cX12_layLaw 24 = .ok (.bipush 9, 2) := by decide +kernel
theorem dX12_layLaw_26 : decode cX12_layLaw 26 = .ok (.irem, 1) := by decide +kernel
theorem dX12_layLaw_27 : decode cX12_layLaw 27 = .ok (.imul, 1) := by decide +kernel
theorem dX12_layLaw_28 : decode cX12_layLaw 28 = .ok (.iadd, 1) := by decide +kernel
theorem dX12_layLaw_29 : decode cX12_layLaw 29 = .ok (.invokevirtual 163, 3) := by decide +kernel
theorem dX12_layLaw_32 : decode cX12_layLaw 32 = .ok (.return_, 1) := by decide +kernel
theorem dX12_isSlipped_0 : decode cX12_isSlipped 0 = .ok (.iconst 0, 1) := by decide +kernel
theorem dX12_isSlipped_1 : decode cX12_isSlipped 1 = .ok (.istore_n 2, 1) := by decide +kernel
theorem dX12_isSlipped_2 : decode cX12_isSlipped 2 = .ok (.iconst 0, 1) := by decide +kernel
theorem dX12_isSlipped_3 : decode cX12_isSlipped 3 = .ok (.istore_n 3, 1) := by decide +kernel
theorem dX12_isSlipped_4 : decode cX12_isSlipped 4 = .ok (.iload_n 3, 1) := by decide +kernel
theorem dX12_isSlipped_5 : decode cX12_isSlipped 5 = .ok (.aload_n 0, 1) := by decide +kernel
theorem dX12_isSlipped_6 : decode cX12_isSlipped 6 = .ok (.getfield 310, 3) := by decide +kernel
theorem dX12_isSlipped_9 : decode cX12_isSlipped 9 = .ok (.if_icmp .ge 31, 3) := by decide +kernel
theorem dX12_isSlipped_12 : decode cX12_isSlipped 12 = .ok (.iload_n 2, 1) := by decide +kernel
theorem dX12_isSlipped_13 : decode cX12_isSlipped 13 = .ok (.ifCond .ne 15, 3) := by decide +kernel
theorem dX12_isSlipped_16 : decode cX12_isSlipped 16 = .ok (.aload_n 0, 1) := by decide +kernel
theorem dX12_isSlipped_17 : decode cX12_isSlipped 17 = .ok (.getfield 69, 3) := by decide +kernel
theorem dX12_isSlipped_20 : decode cX12_isSlipped 20 = .ok (.iconst 2, 1) := by decide +kernel
theorem dX12_isSlipped_21 : decode cX12_isSlipped 21 = .ok (.iload_n 3, 1) := by decide +kernel
theorem dX12_isSlipped_22 : decode cX12_isSlipped 22 = .ok (.imul, 1) := by decide +kernel
theorem dX12_isSlipped_23 : decode cX12_isSlipped 23 = .ok (.iaload, 1) := by decide +kernel
theorem dX12_isSlipped_24 : decode cX12_isSlipped 24 = .ok (.iload_n 1, 1) := by decide +kernel
theorem dX12_isSlipped_25 : decode cX12_isSlipped 25 = .ok (.if_icmp .ne 7, 3) := by decide +kernel
theorem dX12_isSlipped_28 : decode cX12_isSlipped 28 = .ok (.iconst 1, 1) := by decide +kernel
theorem dX12_isSlipped_29 : decode cX12_isSlipped 29 = .ok (.goto 4, 3) := by decide +kernel
theorem dX12_isSlipped_32 : decode cX12_isSlipped 32 = .ok (.iconst 0, 1) := by decide +kernel
theorem dX12_isSlipped_33 : decode cX12_isSlipped 33 = .ok (.istore_n 2, 1) := by decide +kernel
theorem dX12_isSlipped_34 : decode cX12_isSlipped 34 = .ok (.iinc 3 1, 3) := by decide +kernel
theorem dX12_isSlipped_37 : decode cX12_isSlipped 37 = .ok (.goto (-33), 3) := by decide +kernel
theorem dX12_isSlipped_40 : decode cX12_isSlipped 40 = .ok (.iload_n 2, 1) := by decide +kernel
theorem dX12_isSlipped_41 : decode cX12_isSlipped 41 = .ok (.ireturn, 1) := by decide +kernel
theorem dX12_needLaws_0 : decode cX12_needLaws 0 = .ok (.aload_n 0, 1) := by decide +kernel
theorem dX12_needLaws_1 : decode cX12_needLaws 1 = .ok (.getfield 29, 3) := by decide +kernel
theorem dX12_needLaws_4 : decode cX12_needLaws 4 = .ok (.iload_n 1, 1) := by decide +kernel
theorem dX12_needLaws_5 : decode cX12_needLaws 5 = .ok (.baload, 1) := by decide +kernel
theorem dX12_needLaws_6 : decode cX12_needLaws 6 = .ok (.ifCond .eq 7, 3) := by decide +kernel
theorem dX12_needLaws_9 : decode cX12_needLaws 9 = .ok (.iload_n 2, 1) := by decide +kernel
theorem dX12_needLaws_10 : decode cX12_needLaws 10 = .ok (.ifCond .ne 9, 3) := by decide +kernel
theorem dX12_needLaws_13 : decode cX12_needLaws 13 = .ok (.aload_n 0, 1) := by decide +kernel
theorem dX12_needLaws_14 : decode cX12_needLaws 14 = .ok (.iconst 1, 1) := by decide +kernel
theorem dX12_needLaws_15 : decode cX12_needLaws 15 = .ok (.invokevirtual 100, 3) := by decide +kernel
theorem dX12_needLaws_18 : decode cX12_needLaws 18 = .ok (.ireturn, 1) := by decide +kernel
theorem dX12_needLaws_19 : decode cX12_needLaws 19 = .ok (.aload_n 0, 1) := by decide +kernel
theorem dX12_needLaws_20 : decode cX12_needLaws 20 = .ok (.getfield 310, 3) := by decide +kernel
theorem dX12_needLaws_23 : decode cX12_needLaws 23 = .ok (.ifCond .ne 9, 3) := by decide +kernel
theorem dX12_needLaws_26 : decode cX12_needLaws 26 = .ok (.aload_n 0, 1) := by decide +kernel
theorem dX12_needLaws_27 : decode cX12_needLaws 27 = .ok (.iconst 4, 1) := by decide +kernel
theorem dX12_needLaws_28 : decode cX12_needLaws 28 = .ok (.invokevirtual 100, 3) := by decide +kernel
theorem dX12_needLaws_31 : decode cX12_needLaws 31 = .ok (.ireturn, 1) := by decide +kernel
theorem dX12_needLaws_32 : decode cX12_needLaws 32 = .ok (.iconst 1, 1) := by decide +kernel
theorem dX12_needLaws_33 : decode cX12_needLaws 33 = .ok (.istore_n 3, 1) := by decide +kernel
theorem dX12_needLaws_34 : decode cX12_needLaws 34 = .ok (.iconst 0, 1) := by decide +kernel
theorem dX12_needLaws_35 : decode cX12_needLaws 35 = .ok (.istore 4, 2) := by decide +kernel
theorem dX12_needLaws_37 : decode cX12_needLaws 37 = .ok (.iload 4, 2) := by decide +kernel
theorem dX12_needLaws_39 : decode cX12_needLaws 39 = .ok (.aload_n 0, 1) := by decide +kernel
theorem dX12_needLaws_40 : decode cX12_needLaws 40 = .ok (.getfield 310, 3) := by decide +kernel
theorem dX12_needLaws_43 : decode cX12_needLaws 43 = .ok (.if_icmp .ge 36, 3) := by decide +kernel
theorem dX12_needLaws_46 : decode cX12_needLaws 46 = .ok (.iload_n 3, 1) := by decide +kernel
theorem dX12_needLaws_47 : decode cX12_needLaws 47 = .ok (.ifCond .eq 24, 3) := by decide +kernel
theorem dX12_needLaws_50 : decode cX12_needLaws 50 = .ok (.aload_n 0, 1) := by decide +kernel
theorem dX12_needLaws_51 : decode cX12_needLaws 51 = .ok (.getfield 36, 3) := by decide +kernel
theorem dX12_needLaws_54 : decode cX12_needLaws 54 = .ok (.aload_n 0, 1) := by decide +kernel
theorem dX12_needLaws_55 : decode cX12_needLaws 55 = .ok (.getfield 69, 3) := by decide +kernel
theorem dX12_needLaws_58 : decode cX12_needLaws 58 = .ok (.iconst 2, 1) := by decide +kernel
theorem dX12_needLaws_59 : decode cX12_needLaws 59 = .ok (.iload 4, 2) := by decide +kernel
theorem dX12_needLaws_61 : decode cX12_needLaws 61 = .ok (.imul, 1) := by decide +kernel
theorem dX12_needLaws_62 : decode cX12_needLaws 62 = .ok (.iaload, 1) := by decide +kernel
theorem dX12_needLaws_63 : decode cX12_needLaws 63 = .ok (.baload, 1) := by decide +kernel
theorem dX12_needLaws_64 : decode cX12_needLaws 64 = .ok (.ifCond .eq 7, 3) := by decide +kernel
theorem dX12_needLaws_67 : decode cX12_needLaws 67 = .ok (.iconst 1, 1) := by decide +kernel
theorem dX12_needLaws_68 : decode cX12_needLaws 68 = .ok (.goto 4, 3) := by decide +kernel
theorem dX12_needLaws_71 : decode cX12_needLaws 71 = .ok (.iconst 0, 1) := by decide +kernel
theorem dX12_needLaws_72 : decode cX12_needLaws 72 = .ok (.istore_n 3, 1) := by decide +kernel
theorem dX12_needLaws_73 : decode cX12_needLaws 73 = .ok (.iinc 4 1, 3) := by decide +kernel
theorem dX12_needLaws_76 : decode cX12_needLaws 76 = .ok (.goto (-39), 3) := by decide +kernel
theorem dX12_needLaws_79 : decode cX12_needLaws 79 = .ok (.iload_n 3, 1) := by decide +kernel
theorem dX12_needLaws_80 : decode cX12_needLaws 80 = .ok (.ifCond .ne 9, 3) := by decide +kernel
theorem dX12_needLaws_83 : decode cX12_needLaws 83 = .ok (.aload_n 0, 1) := by decide +kernel
theorem dX12_needLaws_84 : decode cX12_needLaws 84 = .ok (.iconst 1, 1) := by decide +kernel
theorem dX12_needLaws_85 : decode cX12_needLaws 85 = .ok (.invokevirtual 100, 3) := by decide +kernel
theorem dX12_needLaws_88 : decode cX12_needLaws 88 = .ok (.ireturn, 1) := by decide +kernel
theorem dX12_needLaws_89 : decode cX12_needLaws 89 = .ok (.iconst 0, 1) := by decide +kernel
theorem dX12_needLaws_90 : decode cX12_needLaws 90 = .ok (.istore 4, 2) := by decide +kernel
theorem dX12_needLaws_92 : decode cX12_needLaws 92 = .ok (.iload 4, 2) := by decide +kernel
theorem dX12_needLaws_94 : decode cX12_needLaws 94 = .ok (.bipush 81, 2) := by decide +kernel
theorem dX12_needLaws_96 : decode cX12_needLaws 96 = .ok (.if_icmp .ge 121, 3) := by decide +kernel
theorem dX12_needLaws_99 : decode cX12_needLaws 99 = .ok (.iconst 0, 1) := by decide +kernel
theorem dX12_needLaws_100 : decode cX12_needLaws 100 = .ok (.istore 5, 2) := by decide +kernel
theorem dX12_needLaws_102 : decode cX12_needLaws 102 = .ok (.iload 5, 2) := by decide +kernel
theorem dX12_needLaws_104 : decode cX12_needLaws 104 = .ok (.iconst 4, 1) := by decide +kernel
theorem dX12_needLaws_105 : decode cX12_needLaws 105 = .ok (.if_icmp .ge 42, 3) := by decide +kernel
theorem dX12_needLaws_108 : decode cX12_needLaws 108 = .ok (.aload_n 0, 1) := by decide +kernel
theorem dX12_needLaws_109 : decode cX12_needLaws 109 = .ok (.iload 5, 2) := by decide +kernel
theorem dX12_needLaws_111 : decode cX12_needLaws 111 = .ok (.invokevirtual 313, 3) := by decide +kernel
theorem dX12_needLaws_114 : decode cX12_needLaws 114 = .ok (.ifCond .eq 27, 3) := by decide +kernel
theorem dX12_needLaws_117 : decode cX12_needLaws 117 = .ok (.aload_n 0, 1) := by decide +kernel
theorem dX12_needLaws_118 : decode cX12_needLaws 118 = .ok (.iload 4, 2) := by decide +kernel
theorem dX12_needLaws_120 : decode cX12_needLaws 120 = .ok (.iload_n 1, 1) := by decide +kernel
theorem dX12_needLaws_121 : decode cX12_needLaws 121 = .ok (.iload 5, 2) := by decide +kernel
theorem dX12_needLaws_123 : decode cX12_needLaws 123 = .ok (.invokevirtual 316, 3) := by decide +kernel
theorem dX12_needLaws_126 : decode cX12_needLaws 126 = .ok (.aload_n 0, 1) := by decide +kernel
theorem dX12_needLaws_127 : decode cX12_needLaws 127 = .ok (.invokevirtual 263, 3) := by decide +kernel
theorem dX12_needLaws_130 : decode cX12_needLaws 130 = .ok (.aload_n 0, 1) := by decide +kernel
theorem dX12_needLaws_131 : decode cX12_needLaws 131 = .ok (.getfield 75, 3) := by decide +kernel
theorem dX12_needLaws_134 : decode cX12_needLaws 134 = .ok (.iload 5, 2) := by decide +kernel
theorem dX12_needLaws_136 : decode cX12_needLaws 136 = .ok (.aload_n 0, 1) := by decide +kernel
theorem dX12_needLaws_137 : decode cX12_needLaws 137 = .ok (.invokevirtual 241, 3) := by decide +kernel
theorem dX12_needLaws_140 : decode cX12_needLaws 140 = .ok (.iastore, 1) := by decide +kernel
theorem dX12_needLaws_141 : decode cX12_needLaws 141 = .ok (.iinc 5 1, 3) := by decide +kernel
theorem dX12_needLaws_144 : decode cX12_needLaws 144 = .ok (.goto (-42), 3) := by decide +kernel
theorem dX12_needLaws_147 : decode cX12_needLaws 147 = .ok (.aload_n 0, 1) := by decide +kernel
theorem dX12_needLaws_148 : decode cX12_needLaws 148 = .ok (.getfield 72, 3) := by decide +kernel
theorem dX12_needLaws_151 : decode cX12_needLaws 151 = .ok (.iload 4, 2) := by decide +kernel
theorem dX12_needLaws_153 : decode cX12_needLaws 153 = .ok (.iconst 0, 1) := by decide +kernel
theorem dX12_needLaws_154 : decode cX12_needLaws 154 = .ok (.iastore, 1) := by decide +kernel
theorem dX12_needLaws_155 : decode cX12_needLaws 155 = .ok (.iconst 0, 1) := by decide +kernel
theorem dX12_needLaws_156 : decode cX12_needLaws 156 = .ok (.istore 5, 2) := by decide +kernel
theorem dX12_needLaws_158 : decode cX12_needLaws 158 = .ok (.iload 5, 2) := by decide +kernel
theorem dX12_needLaws_160 : decode cX12_needLaws 160 = .ok (.aload_n 0, 1) := by decide +kernel
theorem dX12_needLaws_161 : decode cX12_needLaws 161 = .ok (.getfield 310, 3) := by decide +kernel
theorem dX12_needLaws_164 : decode cX12_needLaws 164 = .ok (.if_icmp .ge 47, 3) := by decide +kernel
theorem dX12_needLaws_167 : decode cX12_needLaws 167 = .ok (.aload_n 0, 1) := by decide +kernel
theorem dX12_needLaws_168 : decode cX12_needLaws 168 = .ok (.getfield 72, 3) := by decide +kernel
theorem dX12_needLaws_171 : decode cX12_needLaws 171 = .ok (.iload 4, 2) := by decide +kernel
theorem dX12_needLaws_173 : decode cX12_needLaws 173 = .ok (.dup2, 1) := by decide +kernel
theorem dX12_needLaws_174 : decode cX12_needLaws 174 = .ok (.iaload, 1) := by decide +kernel
theorem dX12_needLaws_175 : decode cX12_needLaws 175 = .ok (.aload_n 0, 1) := by decide +kernel
theorem dX12_needLaws_176 : decode cX12_needLaws 176 = .ok (.getfield 75, 3) := by decide +kernel
theorem dX12_needLaws_179 : decode cX12_needLaws 179 = .ok (.aload_n 0, 1) := by decide +kernel
theorem dX12_needLaws_180 : decode cX12_needLaws 180 = .ok (.getfield 69, 3) := by decide +kernel
theorem dX12_needLaws_183 : decode cX12_needLaws 183 = .ok (.iconst 2, 1) := by decide +kernel
theorem dX12_needLaws_184 : decode cX12_needLaws 184 = .ok (.iload 5, 2) := by decide +kernel
theorem dX12_needLaws_186 : decode cX12_needLaws 186 = .ok (.imul, 1) := by decide +kernel
theorem dX12_needLaws_187 : decode cX12_needLaws 187 = .ok (.iaload, 1) := by decide +kernel
theorem dX12_needLaws_188 : decode cX12_needLaws 188 = .ok (.iaload, 1) := by decide +kernel
theorem dX12_needLaws_189 : decode cX12_needLaws 189 = .ok (.aload_n 0, 1) := by decide +kernel
theorem dX12_needLaws_190 : decode cX12_needLaws 190 = .ok (.getfield 69, 3) := by decide +kernel
theorem dX12_needLaws_193 : decode cX12_needLaws 193 = .ok (.iconst 2, 1) := by decide +kernel
theorem dX12_needLaws_194 : decode cX12_needLaws 194 = .ok (.iload 5, 2) := by decide +kernel
theorem dX12_needLaws_196 : decode cX12_needLaws 196 = .ok (.imul, 1) := by decide +kernel
theorem dX12_needLaws_197 : decode cX12_needLaws 197 = .ok (.iconst 1, 1) := by decide +kernel
theorem dX12_needLaws_198 : decode cX12_needLaws 198 = .ok (.iadd, 1) := by decide +kernel
theorem dX12_needLaws_199 : decode cX12_needLaws 199 = .ok (.iaload, 1) := by decide +kernel
theorem dX12_needLaws_200 : decode cX12_needLaws 200 = .ok (.invokestatic 307, 3) := by decide +kernel
theorem dX12_needLaws_203 : decode cX12_needLaws 203 = .ok (.iadd, 1) := by decide +kernel
theorem dX12_needLaws_204 : decode cX12_needLaws 204 = .ok (.iastore, 1) := by decide +kernel
theorem dX12_needLaws_205 : decode cX12_needLaws 205 = .ok (.iinc 5 1, 3) := by decide +kernel
theorem dX12_needLaws_208 : decode cX12_needLaws 208 = .ok (.goto (-50), 3) := by decide +kernel
theorem dX12_needLaws_211 : decode cX12_needLaws 211 = .ok (.iinc 4 1, 3) := by decide +kernel
theorem dX12_needLaws_214 : decode cX12_needLaws 214 = .ok (.goto (-122), 3) := by decide +kernel
theorem dX12_needLaws_217 : decode cX12_needLaws 217 = .ok (.iconst 0, 1) := by decide +kernel
theorem dX12_needLaws_218 : decode cX12_needLaws 218 = .ok (.ireturn, 1) := by decide +kernel
theorem dX12_leastLaw_0 : decode cX12_leastLaw 0 = .ok (.iconst 0, 1) := by decide +kernel
theorem dX12_leastLaw_1 : decode cX12_leastLaw 1 = .ok (.istore_n 1, 1) := by decide +kernel
theorem dX12_leastLaw_2 : decode cX12_leastLaw 2 = .ok (.iconst 1, 1) := by decide +kernel
theorem dX12_leastLaw_3 : decode cX12_leastLaw 3 = .ok (.istore_n 2, 1) := by decide +kernel
theorem dX12_leastLaw_4 : decode cX12_leastLaw 4 = .ok (.iload_n 2, 1) := by decide +kernel
theorem dX12_leastLaw_5 : decode cX12_leastLaw 5 = .ok (.bipush 81, 2) := by decide +kernel
theorem dX12_leastLaw_7 : decode cX12_leastLaw 7 = .ok (.if_icmp .ge 30, 3) := by decide +kernel
theorem dX12_leastLaw_10 : decode cX12_leastLaw 10 = .ok (.aload_n 0, 1) := by decide +kernel
theorem dX12_leastLaw_11 : decode cX12_leastLaw 11 = .ok (.getfield 72, 3) := by decide +kernel
theorem dX12_leastLaw_14 : decode cX12_leastLaw 14 = .ok (.iload_n 2, 1) := by decide +kernel
theorem dX12_leastLaw_15 : decode cX12_leastLaw 15 = .ok (.iaload, 1) := by decide +kernel
theorem dX12_leastLaw_16 : decode cX12_leastLaw 16 = .ok (.aload_n 0, 1) := by decide +kernel
theorem dX12_leastLaw_17 : decode cX12_leastLaw 17 = .ok (.getfield 72, 3) := by decide +kernel
theorem dX12_leastLaw_20 : decode cX12_leastLaw 20 = .ok (.iload_n 1, 1) := by decide +kernel
theorem dX12_leastLaw_21 : decode cX12_leastLaw 21 = .ok (.iaload, 1) := by decide +kernel
theorem dX12_leastLaw_22 : decode cX12_leastLaw 22 = .ok (.if_icmp .ge 7, 3) := by decide +kernel
theorem dX12_leastLaw_25 : decode cX12_leastLaw 25 = .ok (.iload_n 2, 1) := by decide +kernel
theorem dX12_leastLaw_26 : decode cX12_leastLaw 26 = .ok (.goto 4, 3) := by decide +kernel
theorem dX12_leastLaw_29 : decode cX12_leastLaw 29 = .ok (.iload_n 1, 1) := by decide +kernel
theorem dX12_leastLaw_30 : decode cX12_leastLaw 30 = .ok (.istore_n 1, 1) := by decide +kernel
theorem dX12_leastLaw_31 : decode cX12_leastLaw 31 = .ok (.iinc 2 1, 3) := by decide +kernel
theorem dX12_leastLaw_34 : decode cX12_leastLaw 34 = .ok (.goto (-30), 3) := by decide +kernel
theorem dX12_leastLaw_37 : decode cX12_leastLaw 37 = .ok (.iload_n 1, 1) := by decide +kernel
theorem dX12_leastLaw_38 : decode cX12_leastLaw 38 = .ok (.ireturn, 1) := by decide +kernel
theorem dX12_law_0 : decode cX12_law 0 = .ok (.iload_n 1, 1) := by decide +kernel
theorem dX12_law_1 : decode cX12_law 1 = .ok (.invokestatic 151, 3) := by decide +kernel
theorem dX12_law_4 : decode cX12_law 4 = .ok (.ifCond .ne 5, 3) := by decide +kernel
theorem dX12_law_7 : decode cX12_law 7 = .ok (.iconst (-1), 1) := by decide +kernel
theorem dX12_law_8 : decode cX12_law 8 = .ok (.ireturn, 1) := by decide +kernel
theorem dX12_law_9 : decode cX12_law 9 = .ok (.aload_n 0, 1) := by decide +kernel
theorem dX12_law_10 : decode cX12_law 10 = .ok (.iload_n 1, 1) := by decide +kernel
theorem dX12_law_11 : decode cX12_law 11 = .ok (.iconst 1, 1) := by decide +kernel
theorem dX12_law_12 : decode cX12_law 12 = .ok (.invokevirtual 319, 3) := by decide +kernel
theorem dX12_law_15 : decode cX12_law 15 = .ok (.istore_n 2, 1) := by decide +kernel
theorem dX12_law_16 : decode cX12_law 16 = .ok (.iload_n 2, 1) := by decide +kernel
theorem dX12_law_17 : decode cX12_law 17 = .ok (.ifCond .ge 5, 3) := by decide +kernel
theorem dX12_law_20 : decode cX12_law 20 = .ok (.iload_n 2, 1) := by decide +kernel
theorem dX12_law_21 : decode cX12_law 21 = .ok (.ireturn, 1) := by decide +kernel
theorem dX12_law_22 : decode cX12_law 22 = .ok (.aload_n 0, 1) := by decide +kernel
theorem dX12_law_23 : decode cX12_law 23 = .ok (.invokevirtual 322, 3) := by decide +kernel
theorem dX12_law_26 : decode cX12_law 26 = .ok (.istore_n 3, 1) := by decide +kernel
theorem dX12_law_27 : decode cX12_law 27 = .ok (.aload_n 0, 1) := by decide +kernel
theorem dX12_law_28 : decode cX12_law 28 = .ok (.aload_n 0, 1) := by decide +kernel
theorem dX12_law_29 : decode cX12_law 29 = .ok (.getfield 72, 3) := by decide +kernel
theorem dX12_law_32 : decode cX12_law 32 = .ok (.iload_n 3, 1) := by decide +kernel
theorem dX12_law_33 : decode cX12_law 33 = .ok (.iaload, 1) := by decide +kernel
theorem dX12_law_34 : decode cX12_law 34 = .ok (.bipush 100, 2) := by decide +kernel
theorem dX12_law_36 : decode cX12_law 36 = .ok (.iconst 1, 1) := by decide +kernel
theorem dX12_law_37 : decode cX12_law 37 = .ok (.iload_n 3, 1) := by decide +kernel
theorem dX12_law_38 : decode cX12_law 38 = .ok (.bipush 9, 2) := by decide +kernel
theorem dX12_law_40 : decode cX12_law 40 = .ok (.idiv, 1) := by decide +kernel
theorem dX12_law_41 : decode cX12_law 41 = .ok (.iadd, 1) := by decide +kernel
theorem dX12_law_42 : decode cX12_law 42 = .ok (.imul, 1) := by decide +kernel
theorem dX12_law_43 : decode cX12_law 43 = .ok (.bipush 10, 2) := by decide +kernel
theorem dX12_law_45 : decode cX12_law 45 = .ok (.iadd, 1) := by decide +kernel
theorem dX12_law_46 : decode cX12_law 46 = .ok (.bipush 10, 2) := by decide +kernel
theorem dX12_law_48 : decode cX12_law 48 = .ok (.iload_n 3, 1) := by decide +kernel
theorem dX12_law_49 : decode cX12_law 49 = .ok (.bipush 9, 2) := by decide +kernel
theorem dX12_law_51 : decode cX12_law 51 = .ok (.irem, 1) := by decide +kernel
theorem dX12_law_52 : decode cX12_law 52 = .ok (.imul, 1) := by decide +kernel
theorem dX12_law_53 : decode cX12_law 53 = .ok (.iadd, 1) := by decide +kernel
theorem dX12_law_54 : decode cX12_law 54 = .ok (.invokevirtual 108, 3) := by decide +kernel
theorem dX12_law_57 : decode cX12_law 57 = .ok (.ireturn, 1) := by decide +kernel
theorem dX12_spans_0 : decode cX12_spans 0 = .ok (.iload_n 1, 1) := by decide +kernel
theorem dX12_spans_1 : decode cX12_spans 1 = .ok (.invokestatic 151, 3) := by decide +kernel
theorem dX12_spans_4 : decode cX12_spans 4 = .ok (.ifCond .eq 21, 3) := by decide +kernel
theorem dX12_spans_7 : decode cX12_spans 7 = .ok (.iload_n 2, 1) := by decide +kernel
theorem dX12_spans_8 : decode cX12_spans 8 = .ok (.iconst 0, 1) := by decide +kernel
theorem dX12_spans_9 : decode cX12_spans 9 = .ok (.sipush 999, 3) := by decide +kernel
theorem dX12_spans_12 : decode cX12_spans 12 = .ok (.invokestatic 86, 3) := by decide +kernel
theorem dX12_spans_15 : decode cX12_spans 15 = .ok (.ifCond .eq 10, 3) := by decide +kernel
theorem dX12_spans_18 : decode cX12_spans 18 = .ok (.iload_n 3, 1) := by decide +kernel
theorem dX12_spans_19 : decode cX12_spans 19 = .ok (.invokestatic 151, 3) := by decide +kernel
theorem dX12_spans_22 : decode cX12_spans 22 = .ok (.ifCond .ne 5, 3) := by decide +kernel
theorem dX12_spans_25 : decode cX12_spans 25 = .ok (.iconst (-1), 1) := by decide +kernel
theorem dX12_spans_26 : decode cX12_spans 26 = .ok (.ireturn, 1) := by decide +kernel
theorem dX12_spans_27 : decode cX12_spans 27 = .ok (.aload_n 0, 1) := by decide +kernel
theorem dX12_spans_28 : decode cX12_spans 28 = .ok (.iload_n 1, 1) := by decide +kernel
theorem dX12_spans_29 : decode cX12_spans 29 = .ok (.aload_n 0, 1) := by decide +kernel
theorem dX12_spans_30 : decode cX12_spans 30 = .ok (.getfield 36, 3) := by decide +kernel
theorem dX12_spans_33 : decode cX12_spans 33 = .ok (.iload_n 3, 1) := by decide +kernel
theorem dX12_spans_34 : decode cX12_spans 34 = .ok (.baload, 1) := by decide +kernel
theorem dX12_spans_35 : decode cX12_spans 35 = .ok (.invokevirtual 319, 3) := by decide +kernel
theorem dX12_spans_38 : decode cX12_spans 38 = .ok (.istore 5, 2) := by decide +kernel
theorem dX12_spans_40 : decode cX12_spans 40 = .ok (.iload 5, 2) := by decide +kernel
theorem dX12_spans_42 : decode cX12_spans 42 = .ok (.ifCond .ge 6, 3) := by decide +kernel
theorem dX12_spans_45 : decode cX12_spans 45 = .ok (.iload 5, 2) := by decide +kernel
theorem dX12_spans_47 : decode cX12_spans 47 = .ok (.ireturn, 1) := by decide +kernel
theorem dX12_spans_48 : decode cX12_spans 48 = .ok (.iconst 0, 1) := by decide +kernel
theorem dX12_spans_49 : decode cX12_spans 49 = .ok (.istore 6, 2) := by decide +kernel
theorem dX12_spans_51 : decode cX12_spans 51 = .ok (.iconst 0, 1) := by decide +kernel
theorem dX12_spans_52 : decode cX12_spans 52 = .ok (.istore 7, 2) := by decide +kernel
theorem dX12_spans_54 : decode cX12_spans 54 = .ok (.aload_n 0, 1) := by decide +kernel
theorem dX12_spans_55 : decode cX12_spans 55 = .ok (.getfield 72, 3) := by decide +kernel
theorem dX12_spans_58 : decode cX12_spans 58 = .ok (.aload_n 0, 1) := by decide +kernel
theorem dX12_spans_59 : decode cX12_spans 59 = .ok (.invokevirtual 322, 3) := by decide +kernel
theorem dX12_spans_62 : decode cX12_spans 62 = .ok (.iaload, 1) := by decide +kernel
theorem dX12_spans_63 : decode cX12_spans 63 = .ok (.istore 8, 2) := by decide +kernel
theorem dX12_spans_65 : decode cX12_spans 65 = .ok (.iconst 0, 1) := by decide +kernel
theorem dX12_spans_66 : decode cX12_spans 66 = .ok (.istore 9, 2) := by decide +kernel
theorem dX12_spans_68 : decode cX12_spans 68 = .ok (.iload 9, 2) := by decide +kernel
theorem dX12_spans_70 : decode cX12_spans 70 = .ok (.bipush 81, 2) := by decide +kernel
theorem dX12_spans_72 : decode cX12_spans 72 = .ok (.if_icmp .ge 78, 3) := by decide +kernel
theorem dX12_spans_75 : decode cX12_spans 75 = .ok (.aload_n 0, 1) := by decide +kernel
theorem dX12_spans_76 : decode cX12_spans 76 = .ok (.getfield 72, 3) := by decide +kernel
theorem dX12_spans_79 : decode cX12_spans 79 = .ok (.iload 9, 2) := by decide +kernel
theorem dX12_spans_81 : decode cX12_spans 81 = .ok (.iaload, 1) := by decide +kernel
theorem dX12_spans_82 : decode cX12_spans 82 = .ok (.iload 8, 2) := by decide +kernel
theorem dX12_spans_84 : decode cX12_spans 84 = .ok (.iload_n 2, 1) := by decide +kernel
theorem dX12_spans_85 : decode cX12_spans 85 = .ok (.iadd, 1) := by decide +kernel
theorem dX12_spans_86 : decode cX12_spans 86 = .ok (.if_icmp .gt 58, 3) := by decide +kernel
theorem dX12_spans_89 : decode cX12_spans 89 = .ok (.aload_n 0, 1) := by decide +kernel
theorem dX12_spans_90 : decode cX12_spans 90 = .ok (.iload 9, 2) := by decide +kernel
theorem dX12_spans_92 : decode cX12_spans 92 = .ok (.iload_n 1, 1) := by decide +kernel
theorem dX12_spans_93 : decode cX12_spans 93 = .ok (.iload_n 3, 1) := by decide +kernel
theorem dX12_spans_94 : decode cX12_spans 94 = .ok (.invokevirtual 316, 3) := by decide +kernel
theorem dX12_spans_97 : decode cX12_spans 97 = .ok (.aload_n 0, 1) := by decide +kernel
theorem dX12_spans_98 : decode cX12_spans 98 = .ok (.invokevirtual 263, 3) := by decide +kernel
theorem dX12_spans_101 : decode cX12_spans 101 = .ok (.aload_n 0, 1) := by decide +kernel
theorem dX12_spans_102 : decode cX12_spans 102 = .ok (.invokevirtual 241, 3) := by decide +kernel
theorem dX12_spans_105 : decode cX12_spans 105 = .ok (.istore 10, 2) := by decide +kernel
theorem dX12_spans_107 : decode cX12_spans 107 = .ok (.iload 6, 2) := by decide +kernel
theorem dX12_spans_109 : decode cX12_spans 109 = .ok (.ifCond .ne 8, 3) := by decide +kernel
theorem dX12_spans_112 : decode cX12_spans 112 = .ok (.iload 10, 2) := by decide +kernel
theorem dX12_spans_114 : decode cX12_spans 114 = .ok (.goto 25, 3) := by decide +kernel
theorem dX12_spans_117 : decode cX12_spans 117 = .ok (.iload 4, 2) := by decide +kernel
theorem dX12_spans_119 : decode cX12_spans 119 = .ok (.ifCond .eq 13, 3) := by decide +kernel
theorem dX12_spans_122 : decode cX12_spans 122 = .ok (.iload 7, 2) := by decide +kernel
theorem dX12_spans_124 : decode cX12_spans 124 = .ok (.iload 10, 2) := by decide +kernel
theorem dX12_spans_126 : decode cX12_spans 126 = .ok (.invokestatic 197, 3) := by decide +kernel
theorem dX12_spans_129 : decode cX12_spans 129 = .ok (.goto 10, 3) := by decide +kernel
theorem dX12_spans_132 : decode cX12_spans 132 = .ok (.iload 7, 2) := by decide +kernel
theorem dX12_spans_134 : decode cX12_spans 134 = .ok (.iload 10, 2) := by decide +kernel
theorem dX12_spans_136 : decode cX12_spans 136 = .ok (.invokestatic 200, 3) := by decide +kernel
theorem dX12_spans_139 : decode cX12_spans 139 = .ok (.istore 7, 2) := by decide +kernel
theorem dX12_spans_141 : decode cX12_spans 141 = .ok (.iinc 6 1, 3) := by decide +kernel
theorem dX12_spans_144 : decode cX12_spans 144 = .ok (.iinc 9 1, 3) := by decide +kernel
theorem dX12_spans_147 : decode cX12_spans 147 = .ok (.goto (-79), 3) := by decide +kernel
theorem dX12_spans_150 : decode cX12_spans 150 = .ok (.aload_n 0, 1) := by decide +kernel
theorem dX12_spans_151 : decode cX12_spans 151 = .ok (.iload 7, 2) := by decide +kernel
theorem dX12_spans_153 : decode cX12_spans 153 = .ok (.iload 6, 2) := by decide +kernel
theorem dX12_spans_155 : decode cX12_spans 155 = .ok (.invokevirtual 108, 3) := by decide +kernel
theorem dX12_spans_158 : decode cX12_spans 158 = .ok (.ireturn, 1) := by decide +kernel
theorem dX12_foretell_0 : decode cX12_foretell 0 = .ok (.iload_n 1, 1) := by decide +kernel
theorem dX12_foretell_1 : decode cX12_foretell 1 = .ok (.invokestatic 151, 3) := by decide +kernel
theorem dX12_foretell_4 : decode cX12_foretell 4 = .ok (.ifCond .eq 10, 3) := by decide +kernel
theorem dX12_foretell_7 : decode cX12_foretell 7 = .ok (.iload_n 2, 1) := by decide +kernel
theorem dX12_foretell_8 : decode cX12_foretell 8 = .ok (.invokestatic 151, 3) := by decide +kernel
theorem dX12_foretell_11 : decode cX12_foretell 11 = .ok (.ifCond .ne 5, 3) := by decide +kernel
theorem dX12_foretell_14 : decode cX12_foretell 14 = .ok (.iconst (-1), 1) := by decide +kernel
theorem dX12_foretell_15 : decode cX12_foretell 15 = .ok (.ireturn, 1) := by decide +kernel
theorem dX12_foretell_16 : decode cX12_foretell 16 = .ok (.aload_n 0, 1) := by decide +kernel
theorem dX12_foretell_17 : decode cX12_foretell 17 = .ok (.iload_n 1, 1) := by decide +kernel
theorem dX12_foretell_18 : decode cX12_foretell 18 = .ok (.aload_n 0, 1) := by decide +kernel
theorem dX12_foretell_19 : decode cX12_foretell 19 = .ok (.getfield 36, 3) := by decide +kernel
theorem dX12_foretell_22 : decode cX12_foretell 22 = .ok (.iload_n 2, 1) := by decide +kernel
theorem dX12_foretell_23 : decode cX12_foretell 23 = .ok (.baload, 1) := by decide +kernel
theorem dX12_foretell_24 : decode cX12_foretell 24 = .ok (.invokevirtual 319, 3) := by decide +kernel
theorem dX12_foretell_27 : decode cX12_foretell 27 = .ok (.istore_n 3, 1) := by decide +kernel
theorem dX12_foretell_28 : decode cX12_foretell 28 = .ok (.iload_n 3, 1) := by decide +kernel
theorem dX12_foretell_29 : decode cX12_foretell 29 = .ok (.ifCond .ge 5, 3) := by decide +kernel
theorem dX12_foretell_32 : decode cX12_foretell 32 = .ok (.iload_n 3, 1) := by decide +kernel
theorem dX12_foretell_33 : decode cX12_foretell 33 = .ok (.ireturn, 1) := by decide +kernel
theorem dX12_foretell_34 : decode cX12_foretell 34 = .ok (.aload_n 0, 1) := by decide +kernel
theorem dX12_foretell_35 : decode cX12_foretell 35 = .ok (.aload_n 0, 1) := by decide +kernel
theorem dX12_foretell_36 : decode cX12_foretell 36 = .ok (.invokevirtual 322, 3) := by decide +kernel
theorem dX12_foretell_39 : decode cX12_foretell 39 = .ok (.iload_n 1, 1) := by decide +kernel
theorem dX12_foretell_40 : decode cX12_foretell 40 = .ok (.iload_n 2, 1) := by decide +kernel
theorem dX12_foretell_41 : decode cX12_foretell 41 = .ok (.invokevirtual 316, 3) := by decide +kernel
theorem dX12_foretell_44 : decode cX12_foretell 44 = .ok (.aload_n 0, 1) := by decide +kernel
theorem dX12_foretell_45 : decode cX12_foretell 45 = .ok (.invokevirtual 263, 3) := by decide +kernel
theorem dX12_foretell_48 : decode cX12_foretell 48 = .ok (.aload_n 0, 1) := by decide +kernel
theorem dX12_foretell_49 : decode cX12_foretell 49 = .ok (.aload_n 0, 1) := by decide +kernel
theorem dX12_foretell_50 : decode cX12_foretell 50 = .ok (.invokevirtual 247, 3) := by decide +kernel
theorem dX12_foretell_53 : decode cX12_foretell 53 = .ok (.aload_n 0, 1) := by decide +kernel
theorem dX12_foretell_54 : decode cX12_foretell 54 = .ok (.invokevirtual 241, 3) := by decide +kernel
theorem dX12_foretell_57 : decode cX12_foretell 57 = .ok (.invokevirtual 108, 3) := by decide +kernel
theorem dX12_foretell_60 : decode cX12_foretell 60 = .ok (.ireturn, 1) := by decide +kernel
theorem dX12_counted_0 : decode cX12_counted 0 = .ok (.iconst 0, 1) := by decide +kernel
theorem dX12_counted_1 : decode cX12_counted 1 = .ok (.istore_n 2, 1) := by decide +kernel
theorem dX12_counted_2 : decode cX12_counted 2 = .ok (.iconst 0, 1) := by decide +kernel
theorem dX12_counted_3 : decode cX12_counted 3 = .ok (.istore_n 3, 1) := by decide +kernel
theorem dX12_counted_4 : decode cX12_counted 4 = .ok (.iload_n 3, 1) := by decide +kernel
theorem dX12_counted_5 : decode cX12_counted 5 = .ok (.iconst 4, 1) := by decide +kernel
theorem dX12_counted_6 : decode cX12_counted 6 = .ok (.if_icmp .ge 77, 3) := by decide +kernel
theorem dX12_counted_9 : decode cX12_counted 9 = .ok (.iload_n 2, 1) := by decide +kernel
theorem dX12_counted_10 : decode cX12_counted 10 = .ok (.iload_n 1, 1) := by decide +kernel
theorem dX12_counted_11 : decode cX12_counted 11 = .ok (.ifCond .ne 12, 3) := by decide +kernel
theorem dX12_counted_14 : decode cX12_counted 14 = .ok (.aload_n 0, 1) := by decide +kernel
theorem dX12_counted_15 : decode cX12_counted 15 = .ok (.getfield 29, 3) := by decide +kernel
theorem dX12_counted_18 : decode cX12_counted 18 = .ok (.iload_n 3, 1) := by decide +kernel
theorem dX12_counted_19 : decode cX12_counted 19 = .ok (.baload, 1) := by decide +kernel
theorem dX12_counted_20 : decode cX12_counted 20 = .ok (.ifCond .ne 50, 3) := by decide +kernel
theorem dX12_counted_23 : decode cX12_counted 23 = .ok (.iload_n 1, 1) := by decide +kernel
theorem dX12_counted_24 : decode cX12_counted 24 = .ok (.iconst 1, 1) := by decide +kernel
theorem dX12_counted_25 : decode cX12_counted 25 = .ok (.if_icmp .ne 12, 3) := by decide +kernel
theorem dX12_counted_28 : decode cX12_counted 28 = .ok (.aload_n 0, 1) := by decide +kernel
theorem dX12_counted_29 : decode cX12_counted 29 = .ok (.getfield 36, 3) := by decide +kernel
theorem dX12_counted_32 : decode cX12_counted 32 = .ok (.iload_n 3, 1) := by decide +kernel
theorem dX12_counted_33 : decode cX12_counted 33 = .ok (.baload, 1) := by decide +kernel
theorem dX12_counted_34 : decode cX12_counted 34 = .ok (.ifCond .ne 36, 3) := by decide +kernel
theorem dX12_counted_37 : decode cX12_counted 37 = .ok (.iload_n 1, 1) := by decide +kernel
theorem dX12_counted_38 : decode cX12_counted 38 = .ok (.iconst 5, 1) := by decide +kernel
theorem dX12_counted_39 : decode cX12_counted 39 = .ok (.if_icmp .ne 16, 3) := by decide +kernel
theorem dX12_counted_42 : decode cX12_counted 42 = .ok (.iload_n 3, 1) := by decide +kernel
theorem dX12_counted_43 : decode cX12_counted 43 = .ok (.ifCond .le 12, 3) := by decide +kernel
theorem dX12_counted_46 : decode cX12_counted 46 = .ok (.aload_n 0, 1) := by decide +kernel
theorem dX12_counted_47 : decode cX12_counted 47 = .ok (.getfield 51, 3) := by decide +kernel
theorem dX12_counted_50 : decode cX12_counted 50 = .ok (.iload_n 3, 1) := by decide +kernel
theorem dX12_counted_51 : decode cX12_counted 51 = .ok (.baload, 1) := by decide +kernel
theorem dX12_counted_52 : decode cX12_counted 52 = .ok (.ifCond .ne 18, 3) := by decide +kernel
theorem dX12_counted_55 : decode cX12_counted 55 = .ok (.iload_n 1, 1) := by decide +kernel
theorem dX12_counted_56 : decode cX12_counted 56 = .ok (.bipush 8, 2) := by decide +kernel
theorem dX12_counted_58 : decode cX12_counted 58 = .ok (.if_icmp .ne 16, 3) := by decide +kernel
theorem dX12_counted_61 : decode cX12_counted 61 = .ok (.aload_n 0, 1) := by decide +kernel
theorem dX12_counted_62 : decode cX12_counted 62 = .ok (.getfield 22, 3) := by decide +kernel
theorem dX12_counted_65 : decode cX12_counted 65 = .ok (.iload_n 3, 1) := by decide +kernel
theorem dX12_counted_66 : decode cX12_counted 66 = .ok (.iaload, 1) := by decide +kernel
theorem dX12_counted_67 : decode cX12_counted 67 = .ok (.ifCond .lt 7, 3) := by decide +kernel
theorem dX12_counted_70 : decode cX12_counted 70 = .ok (.iconst 1, 1) := by decide +kernel
theorem dX12_counted_71 : decode cX12_counted 71 = .ok (.goto 4, 3) := by decide +kernel
theorem dX12_counted_74 : decode cX12_counted 74 = .ok (.iconst 0, 1) := by decide +kernel
theorem dX12_counted_75 : decode cX12_counted 75 = .ok (.iadd, 1) := by decide +kernel
theorem dX12_counted_76 : decode cX12_counted 76 = .ok (.istore_n 2, 1) := by decide +kernel
theorem dX12_counted_77 : decode cX12_counted 77 = .ok (.iinc 3 1, 3) := by decide +kernel
theorem dX12_counted_80 : decode cX12_counted 80 = .ok (.goto (-76), 3) := by decide +kernel
theorem dX12_counted_83 : decode cX12_counted 83 = .ok (.iconst 0, 1) := by decide +kernel
theorem dX12_counted_84 : decode cX12_counted 84 = .ok (.istore_n 3, 1) := by decide +kernel
theorem dX12_counted_85 : decode cX12_counted 85 = .ok (.iload_n 3, 1) := by decide +kernel
theorem dX12_counted_86 : decode cX12_counted 86 = .ok (.bipush 6, 2) := by decide +kernel
theorem dX12_counted_88 : decode cX12_counted 88 = .ok (.if_icmp .ge 32, 3) := by decide +kernel
theorem dX12_counted_91 : decode cX12_counted 91 = .ok (.iload_n 2, 1) := by decide +kernel
theorem dX12_counted_92 : decode cX12_counted 92 = .ok (.iload_n 1, 1) := by decide +kernel
theorem dX12_counted_93 : decode cX12_counted 93 = .ok (.bipush 7, 2) := by decide +kernel
theorem dX12_counted_95 : decode cX12_counted 95 = .ok (.if_icmp .ne 16, 3) := by decide +kernel
theorem dX12_counted_98 : decode cX12_counted 98 = .ok (.aload_n 0, 1) := by decide +kernel
theorem dX12_counted_99 : decode cX12_counted 99 = .ok (.getfield 13, 3) := by decide +kernel
theorem dX12_counted_102 : decode cX12_counted 102 = .ok (.iload_n 3, 1) := by decide +kernel
theorem dX12_counted_103 : decode cX12_counted 103 = .ok (.iaload, 1) := by decide +kernel
theorem dX12_counted_104 : decode cX12_counted 104 = .ok (.ifCond .lt 7, 3) := by decide +kernel
theorem dX12_counted_107 : decode cX12_counted 107 = .ok (.iconst 1, 1) := by decide +kernel
theorem dX12_counted_108 : decode cX12_counted 108 = .ok (.goto 4, 3) := by decide +kernel
theorem dX12_counted_111 : decode cX12_counted 111 = .ok (.iconst 0, 1) := by decide +kernel
theorem dX12_counted_112 : decode cX12_counted 112 = .ok (.iadd, 1) := by decide +kernel
theorem dX12_counted_113 : decode cX12_counted 113 = .ok (.istore_n 2, 1) := by decide +kernel
theorem dX12_counted_114 : decode cX12_counted 114 = .ok (.iinc 3 1, 3) := by decide +kernel
theorem dX12_counted_117 : decode cX12_counted 117 = .ok (.goto (-32), 3) := by decide +kernel
theorem dX12_counted_120 : decode cX12_counted 120 = .ok (.aload_n 0, 1) := by decide +kernel
theorem dX12_counted_121 : decode cX12_counted 121 = .ok (.iconst 0, 1) := by decide +kernel
theorem dX12_counted_122 : decode cX12_counted 122 = .ok (.invokevirtual 174, 3) := by decide +kernel
theorem dX12_counted_125 : decode cX12_counted 125 = .ok (.aload_n 0, 1) := by decide +kernel
theorem dX12_counted_126 : decode cX12_counted 126 = .ok (.getfield 51, 3) := by decide +kernel
theorem dX12_counted_129 : decode cX12_counted 129 = .ok (.iconst 0, 1) := by decide +kernel
theorem dX12_counted_130 : decode cX12_counted 130 = .ok (.baload, 1) := by decide +kernel
theorem dX12_counted_131 : decode cX12_counted 131 = .ok (.ifCond .eq 86, 3) := by decide +kernel
theorem dX12_counted_134 : decode cX12_counted 134 = .ok (.iload_n 2, 1) := by decide +kernel
theorem dX12_counted_135 : decode cX12_counted 135 = .ok (.iload_n 1, 1) := by decide +kernel
theorem dX12_counted_136 : decode cX12_counted 136 = .ok (.iconst 2, 1) := by decide +kernel
theorem dX12_counted_137 : decode cX12_counted 137 = .ok (.if_icmp .ne 12, 3) := by decide +kernel
theorem dX12_counted_140 : decode cX12_counted 140 = .ok (.aload_n 0, 1) := by decide +kernel
theorem dX12_counted_141 : decode cX12_counted 141 = .ok (.bipush 38, 2) := by decide +kernel
theorem dX12_counted_143 : decode cX12_counted 143 = .ok (.invokevirtual 160, 3) := by decide +kernel
theorem dX12_counted_146 : decode cX12_counted 146 = .ok (.goto 18, 3) := by decide +kernel
theorem dX12_counted_149 : decode cX12_counted 149 = .ok (.iload_n 1, 1) := by decide +kernel
theorem dX12_counted_150 : decode cX12_counted 150 = .ok (.iconst 3, 1) := by decide +kernel
theorem dX12_counted_151 : decode cX12_counted 151 = .ok (.if_icmp .ne 12, 3) := by decide +kernel
theorem dX12_counted_154 : decode cX12_counted 154 = .ok (.aload_n 0, 1) := by decide +kernel
theorem dX12_counted_155 : decode cX12_counted 155 = .ok (.bipush 40, 2) := by decide +kernel
theorem dX12_counted_157 : decode cX12_counted 157 = .ok (.invokevirtual 160, 3) := by decide +kernel
theorem dX12_counted_160 : decode cX12_counted 160 = .ok (.goto 4, 3) := by decide +kernel
theorem dX12_counted_163 : decode cX12_counted 163 = .ok (.iconst 0, 1) := by decide +kernel
theorem dX12_counted_164 : decode cX12_counted 164 = .ok (.iadd, 1) := by decide +kernel
theorem dX12_counted_165 : decode cX12_counted 165 = .ok (.istore_n 2, 1) := by decide +kernel
theorem dX12_counted_166 : decode cX12_counted 166 = .ok (.iconst 0, 1) := by decide +kernel
theorem dX12_counted_167 : decode cX12_counted 167 = .ok (.istore_n 3, 1) := by decide +kernel
theorem dX12_counted_168 : decode cX12_counted 168 = .ok (.iload_n 3, 1) := by decide +kernel
theorem dX12_counted_169 : decode cX12_counted 169 = .ok (.aload_n 0, 1) := by decide +kernel
theorem dX12_counted_170 : decode cX12_counted 170 = .ok (.bipush 40, 2) := by decide +kernel
theorem dX12_counted_172 : decode cX12_counted 172 = .ok (.invokevirtual 160, 3) := by decide +kernel
theorem dX12_counted_175 : decode cX12_counted 175 = .ok (.if_icmp .ge 42, 3) := by decide +kernel
theorem dX12_counted_178 : decode cX12_counted 178 = .ok (.iload_n 2, 1) := by decide +kernel
theorem dX12_counted_179 : decode cX12_counted 179 = .ok (.iload_n 1, 1) := by decide +kernel
theorem dX12_counted_180 : decode cX12_counted 180 = .ok (.iconst 4, 1) := by decide +kernel
theorem dX12_counted_181 : decode cX12_counted 181 = .ok (.if_icmp .ne 27, 3) := by decide +kernel
theorem dX12_counted_184 : decode cX12_counted 184 = .ok (.aload_n 0, 1) := by decide +kernel
theorem dX12_counted_185 : decode cX12_counted 185 = .ok (.iload_n 3, 1) := by decide +kernel
theorem dX12_counted_186 : decode cX12_counted 186 = .ok (.iconst 0, 1) := by decide +kernel
theorem dX12_counted_187 : decode cX12_counted 187 = .ok (.invokevirtual 235, 3) := by decide +kernel
theorem dX12_counted_190 : decode cX12_counted 190 = .ok (.iconst 4, 1) := by decide +kernel
theorem dX12_counted_191 : decode cX12_counted 191 = .ok (.if_icmp .eq 13, 3) := by decide +kernel
theorem dX12_counted_194 : decode cX12_counted 194 = .ok (.aload_n 0, 1) := by decide +kernel
theorem dX12_counted_195 : decode cX12_counted 195 = .ok (.iload_n 3, 1) := by decide +kernel
theorem dX12_counted_196 : decode cX12_counted 196 = .ok (.iconst 0, 1) := by decide +kernel
theorem dX12_counted_197 : decode cX12_counted 197 = .ok (.invokevirtual 235, 3) := by decide +kernel
theorem dX12_counted_200 : decode cX12_counted 200 = .ok (.iconst 5, 1) := by decide +kernel
theorem dX12_counted_201 : decode cX12_counted 201 = .ok (.if_icmp .ne 7, 3) := by decide +kernel
theorem dX12_counted_204 : decode cX12_counted 204 = .ok (.iconst 1, 1) := by decide +kernel
theorem dX12_counted_205 : decode cX12_counted 205 = .ok (.goto 4, 3) := by decide +kernel
theorem dX12_counted_208 : decode cX12_counted 208 = .ok (.iconst 0, 1) := by decide +kernel
theorem dX12_counted_209 : decode cX12_counted 209 = .ok (.iadd, 1) := by decide +kernel
theorem dX12_counted_210 : decode cX12_counted 210 = .ok (.istore_n 2, 1) := by decide +kernel
theorem dX12_counted_211 : decode cX12_counted 211 = .ok (.iinc 3 1, 3) := by decide +kernel
theorem dX12_counted_214 : decode cX12_counted 214 = .ok (.goto (-46), 3) := by decide +kernel
theorem dX12_counted_217 : decode cX12_counted 217 = .ok (.iload_n 1, 1) := by decide +kernel
theorem dX12_counted_218 : decode cX12_counted 218 = .ok (.bipush 6, 2) := by decide +kernel
theorem dX12_counted_220 : decode cX12_counted 220 = .ok (.if_icmp .ne 10, 3) := by decide +kernel
theorem dX12_counted_223 : decode cX12_counted 223 = .ok (.aload_n 0, 1) := by decide +kernel
theorem dX12_counted_224 : decode cX12_counted 224 = .ok (.getfield 310, 3) := by decide +kernel
theorem dX12_counted_227 : decode cX12_counted 227 = .ok (.goto 4, 3) := by decide +kernel
theorem dX12_counted_230 : decode cX12_counted 230 = .ok (.iload_n 2, 1) := by decide +kernel
theorem dX12_counted_231 : decode cX12_counted 231 = .ok (.ireturn, 1) := by decide +kernel
theorem dX12_count_0 : decode cX12_count 0 = .ok (.iload_n 1, 1) := by decide +kernel
theorem dX12_count_1 : decode cX12_count 1 = .ok (.iconst 0, 1) := by decide +kernel
theorem dX12_count_2 : decode cX12_count 2 = .ok (.bipush 8, 2) := by decide +kernel
theorem dX12_count_4 : decode cX12_count 4 = .ok (.invokestatic 86, 3) := by decide +kernel
theorem dX12_count_7 : decode cX12_count 7 = .ok (.ifCond .eq 11, 3) := by decide +kernel
theorem dX12_count_10 : decode cX12_count 10 = .ok (.aload_n 0, 1) := by decide +kernel
theorem dX12_count_11 : decode cX12_count 11 = .ok (.iload_n 1, 1) := by decide +kernel
theorem dX12_count_12 : decode cX12_count 12 = .ok (.invokevirtual 325, 3) := by decide +kernel
theorem dX12_count_15 : decode cX12_count 15 = .ok (.goto 4, 3) := by decide +kernel
theorem dX12_count_18 : decode cX12_count 18 = .ok (.iconst (-1), 1) := by decide +kernel
theorem dX12_count_19 : decode cX12_count 19 = .ok (.ireturn, 1) := by decide +kernel
theorem dX12_mix_0 : decode cX12_mix 0 = .ok (.aload_n 0, 1) := by decide +kernel
theorem dX12_mix_1 : decode cX12_mix 1 = .ok (.ldc2_w 328, 3) := by decide +kernel
theorem dX12_mix_4 : decode cX12_mix 4 = .ok (.aload_n 0, 1) := by decide +kernel
theorem dX12_mix_5 : decode cX12_mix 5 = .ok (.getfield 330, 3) := by decide +kernel
theorem dX12_mix_8 : decode cX12_mix 8 = .ok (.lmul, 1) := by decide +kernel
theorem dX12_mix_9 : decode cX12_mix 9 = .ok (.lload_n 1, 1) := by decide +kernel
theorem dX12_mix_10 : decode cX12_mix 10 = .ok (.ladd, 1) := by decide +kernel
theorem dX12_mix_11 : decode cX12_mix 11 = .ok (.putfield 330, 3) := by decide +kernel
theorem dX12_mix_14 : decode cX12_mix 14 = .ok (.return_, 1) := by decide +kernel
theorem dX12_mixBooks_0 : decode cX12_mixBooks 0 = .ok (.iconst 0, 1) := by decide +kernel
theorem dX12_mixBooks_1 : decode cX12_mixBooks 1 = .ok (.istore_n 1, 1) := by decide +kernel
theorem dX12_mixBooks_2 : decode cX12_mixBooks 2 = .ok (.iload_n 1, 1) := by decide +kernel
theorem dX12_mixBooks_3 : decode cX12_mixBooks 3 = .ok (.iconst 4, 1) := by decide +kernel
theorem dX12_mixBooks_4 : decode cX12_mixBooks 4 = .ok (.if_icmp .ge 62, 3) := by decide +kernel
theorem dX12_mixBooks_7 : decode cX12_mixBooks 7 = .ok (.aload_n 0, 1) := by decide +kernel
theorem dX12_mixBooks_8 : decode cX12_mixBooks 8 = .ok (.getfield 29, 3) := by decide +kernel
theorem dX12_mixBooks_11 : decode cX12_mixBooks 11 = .ok (.iload_n 1, 1) := by decide +kernel
theorem dX12_mixBooks_12 : decode cX12_mixBooks 12 = .ok (.baload, 1) := by decide +kernel
theorem dX12_mixBooks_13 : decode cX12_mixBooks 13 = .ok (.ifCond .ne 10, 3) := by decide +kernel
theorem dX12_mixBooks_16 : decode cX12_mixBooks 16 = .ok (.aload_n 0, 1) := by decide +kernel
theorem dX12_mixBooks_17 : decode cX12_mixBooks 17 = .ok (.ldc2_w 333, 3) := by decide +kernel
theorem dX12_mixBooks_20 : decode cX12_mixBooks 20 = .ok (.invokevirtual 335, 3) := by decide +kernel
theorem dX12_mixBooks_23 : decode cX12_mixBooks 23 = .ok (.iconst 0, 1) := by decide +kernel
theorem dX12_mixBooks_24 : decode cX12_mixBooks 24 = .ok (.istore_n 2, 1) := by decide +kernel
theorem dX12_mixBooks_25 : decode cX12_mixBooks 25 = .ok (.iload_n 2, 1) := by decide +kernel
theorem dX12_mixBooks_26 : decode cX12_mixBooks 26 = .ok (.iconst 5, 1) := by decide +kernel
theorem dX12_mixBooks_27 : decode cX12_mixBooks 27 = .ok (.if_icmp .ge 33, 3) := by decide +kernel
theorem dX12_mixBooks_30 : decode cX12_mixBooks 30 = .ok (.aload_n 0, 1) := by decide +kernel
theorem dX12_mixBooks_31 : decode cX12_mixBooks 31 = .ok (.getfield 29, 3) := by decide +kernel
theorem dX12_mixBooks_34 : decode cX12_mixBooks 34 = .ok (.iload_n 1, 1) := by decide +kernel
theorem dX12_mixBooks_35 : decode cX12_mixBooks 35 = .ok (.baload, 1) := by decide +kernel
theorem dX12_mixBooks_36 : decode cX12_mixBooks 36 = .ok (.ifCond .eq 24, 3) := by decide +kernel
theorem dX12_mixBooks_39 : decode cX12_mixBooks 39 = .ok (.aload_n 0, 1) := by decide +kernel
theorem dX12_mixBooks_40 : decode cX12_mixBooks 40 = .ok (.aload_n 0, 1) := by decide +kernel
theorem dX12_mixBooks_41 : decode cX12_mixBooks 41 = .ok (.getfield 33, 3) := by decide +kernel
theorem dX12_mixBooks_44 : decode cX12_mixBooks 44 = .ok (.iconst 5, 1) := by decide +kernel
theorem dX12_mixBooks_45 : decode cX12_mixBooks 45 = .ok (.iload_n 1, 1) := by decide +kernel
theorem dX12_mixBooks_46 : decode cX12_mixBooks 46 = .ok (.imul, 1) := by decide +kernel
theorem dX12_mixBooks_47 : decode cX12_mixBooks 47 = .ok (.iload_n 2, 1) := by decide +kernel
theorem dX12_mixBooks_48 : decode cX12_mixBooks 48 = .ok (.iadd, 1) := by decide +kernel
theorem dX12_mixBooks_49 : decode cX12_mixBooks 49 = .ok (.iaload, 1) := by decide +kernel
theorem dX12_mixBooks_50 : decode cX12_mixBooks 50 = .ok (.i2l, 1) := by decide +kernel
theorem dX12_mixBooks_51 : decode cX12_mixBooks 51 = .ok (.invokevirtual 335, 3) := by decide +kernel
theorem dX12_mixBooks_54 : decode cX12_mixBooks 54 = .ok (.iinc 2 1, 3) := by decide +kernel
theorem dX12_mixBooks_57 : decode cX12_mixBooks 57 = .ok (.goto (-32), 3) := by decide +kernel
theorem dX12_mixBooks_60 : decode cX12_mixBooks 60 = .ok (.iinc 1 1, 3) := by decide +kernel
theorem dX12_mixBooks_63 : decode cX12_mixBooks 63 = .ok (.goto (-61), 3) := by decide +kernel
theorem dX12_mixBooks_66 : decode cX12_mixBooks 66 = .ok (.iconst 0, 1) := by decide +kernel
theorem dX12_mixBooks_67 : decode cX12_mixBooks 67 = .ok (.istore_n 1, 1) := by decide +kernel
theorem dX12_mixBooks_68 : decode cX12_mixBooks 68 = .ok (.iload_n 1, 1) := by decide +kernel
theorem dX12_mixBooks_69 : decode cX12_mixBooks 69 = .ok (.iconst 4, 1) := by decide +kernel
theorem dX12_mixBooks_70 : decode cX12_mixBooks 70 = .ok (.if_icmp .ge 81, 3) := by decide +kernel
theorem dX12_mixBooks_73 : decode cX12_mixBooks 73 = .ok (.aload_n 0, 1) := by decide +kernel
theorem dX12_mixBooks_74 : decode cX12_mixBooks 74 = .ok (.getfield 36, 3) := by decide +kernel
theorem dX12_mixBooks_77 : decode cX12_mixBooks 77 = .ok (.iload_n 1, 1) := by decide +kernel
theorem dX12_mixBooks_78 : decode cX12_mixBooks 78 = .ok (.baload, 1) := by decide +kernel
theorem dX12_mixBooks_79 : decode cX12_mixBooks 79 = .ok (.ifCond .ne 10, 3) := by decide +kernel
theorem dX12_mixBooks_82 : decode cX12_mixBooks 82 = .ok (.aload_n 0, 1) := by decide +kernel
theorem dX12_mixBooks_83 : decode cX12_mixBooks 83 = .ok (.ldc2_w 333, 3) := by decide +kernel
theorem dX12_mixBooks_86 : decode cX12_mixBooks 86 = .ok (.invokevirtual 335, 3) := by decide +kernel
theorem dX12_mixBooks_89 : decode cX12_mixBooks 89 = .ok (.iconst 0, 1) := by decide +kernel
theorem dX12_mixBooks_90 : decode cX12_mixBooks 90 = .ok (.istore_n 2, 1) := by decide +kernel
theorem dX12_mixBooks_91 : decode cX12_mixBooks 91 = .ok (.iload_n 2, 1) := by decide +kernel
theorem dX12_mixBooks_92 : decode cX12_mixBooks 92 = .ok (.aload_n 0, 1) := by decide +kernel
theorem dX12_mixBooks_93 : decode cX12_mixBooks 93 = .ok (.getfield 39, 3) := by decide +kernel
theorem dX12_mixBooks_96 : decode cX12_mixBooks 96 = .ok (.iload_n 1, 1) := by decide +kernel
theorem dX12_mixBooks_97 : decode cX12_mixBooks 97 = .ok (.iaload, 1) := by decide +kernel
theorem dX12_mixBooks_98 : decode cX12_mixBooks 98 = .ok (.if_icmp .ge 47, 3) := by decide +kernel
theorem dX12_mixBooks_101 : decode cX12_mixBooks 101 = .ok (.aload_n 0, 1) := by decide +kernel
theorem dX12_mixBooks_102 : decode cX12_mixBooks 102 = .ok (.getfield 36, 3) := by decide +kernel
theorem dX12_mixBooks_105 : decode cX12_mixBooks 105 = .ok (.iload_n 1, 1) := by decide +kernel
theorem dX12_mixBooks_106 : decode cX12_mixBooks 106 = .ok (.baload, 1) := by decide +kernel
theorem dX12_mixBooks_107 : decode cX12_mixBooks 107 = .ok (.ifCond .eq 38, 3) := by decide +kernel
theorem dX12_mixBooks_110 : decode cX12_mixBooks 110 = .ok (.aload_n 0, 1) := by decide +kernel
theorem dX12_mixBooks_111 : decode cX12_mixBooks 111 = .ok (.aload_n 0, 1) := by decide +kernel
theorem dX12_mixBooks_112 : decode cX12_mixBooks 112 = .ok (.getfield 42, 3) := by decide +kernel
theorem dX12_mixBooks_115 : decode cX12_mixBooks 115 = .ok (.bipush 30, 2) := by decide +kernel
theorem dX12_mixBooks_117 : decode cX12_mixBooks 117 = .ok (.iload_n 1, 1) := by decide +kernel
theorem dX12_mixBooks_118 : decode cX12_mixBooks 118 = .ok (.imul, 1) := by decide +kernel
theorem dX12_mixBooks_119 : decode cX12_mixBooks 119 = .ok (.iconst 3, 1) := by decide +kernel
theorem dX12_mixBooks_120 : decode cX12_mixBooks 120 = .ok (.iload_n 2, 1) := by decide +kernel
theorem dX12_mixBooks_121 : decode cX12_mixBooks 121 = .ok (.imul, 1) := by decide +kernel
theorem dX12_mixBooks_122 : decode cX12_mixBooks 122 = .ok (.iadd, 1) := by decide +kernel
theorem dX12_mixBooks_123 : decode cX12_mixBooks 123 = .ok (.iaload, 1) := by decide +kernel
theorem dX12_mixBooks_124 : decode cX12_mixBooks 124 = .ok (.i2l, 1) := by decide +kernel
theorem dX12_mixBooks_125 : decode cX12_mixBooks 125 = .ok (.invokevirtual 335, 3) := by decide +kernel
theorem dX12_mixBooks_128 : decode cX12_mixBooks 128 = .ok (.aload_n 0, 1) := by decide +kernel
theorem dX12_mixBooks_129 : decode cX12_mixBooks 129 = .ok (.aload_n 0, 1) := by decide +kernel
theorem dX12_mixBooks_130 : decode cX12_mixBooks 130 = .ok (.iload_n 1, 1) := by decide +kernel
theorem dX12_mixBooks_131 : decode cX12_mixBooks 131 = .ok (.iload_n 2, 1) := by decide +kernel
theorem dX12_mixBooks_132 : decode cX12_mixBooks 132 = .ok (.invokevirtual 154, 3) := by decide +kernel
theorem dX12_mixBooks_135 : decode cX12_mixBooks 135 = .ok (.i2l, 1) := by decide +kernel
theorem dX12_mixBooks_136 : decode cX12_mixBooks 136 = .ok (.invokevirtual 335, 3) := by decide +kernel
theorem dX12_mixBooks_139 : decode cX12_mixBooks 139 = .ok (.iinc 2 1, 3) := by decide +kernel
theorem dX12_mixBooks_142 : decode cX12_mixBooks 142 = .ok (.goto (-51), 3) := by decide +kernel
theorem dX12_mixBooks_145 : decode cX12_mixBooks 145 = .ok (.iinc 1 1, 3) := by decide +kernel
theorem dX12_mixBooks_148 : decode cX12_mixBooks 148 = .ok (.goto (-80), 3) := by decide +kernel
theorem dX12_mixBooks_151 : decode cX12_mixBooks 151 = .ok (.return_, 1) := by decide +kernel
theorem dX12_mixLoaf_0 : decode cX12_mixLoaf 0 = .ok (.aload_n 0, 1) := by decide +kernel
theorem dX12_mixLoaf_1 : decode cX12_mixLoaf 1 = .ok (.iconst 0, 1) := by decide +kernel
theorem dX12_mixLoaf_2 : decode cX12_mixLoaf 2 = .ok (.invokevirtual 174, 3) := by decide +kernel
theorem dX12_mixLoaf_5 : decode cX12_mixLoaf 5 = .ok (.aload_n 0, 1) := by decide +kernel
theorem dX12_mixLoaf_6 : decode cX12_mixLoaf 6 = .ok (.getfield 51, 3) := by decide +kernel
theorem dX12_mixLoaf_9 : decode cX12_mixLoaf 9 = .ok (.iconst 0, 1) := by decide +kernel
theorem dX12_mixLoaf_10 : decode cX12_mixLoaf 10 = .ok (.baload, 1) := by decide +kernel
theorem dX12_mixLoaf_11 : decode cX12_mixLoaf 11 = .ok (.ifCond .eq 75, 3) := by decide +kernel
theorem dX12_mixLoaf_14 : decode cX12_mixLoaf 14 = .ok (.iconst 0, 1) := by decide +kernel
theorem dX12_mixLoaf_15 : decode cX12_mixLoaf 15 = .ok (.istore_n 1, 1) := by decide +kernel
theorem dX12_mixLoaf_16 : decode cX12_mixLoaf 16 = .ok (.iload_n 1, 1) := by decide +kernel
theorem dX12_mixLoaf_17 : decode cX12_mixLoaf 17 = .ok (.bipush 120, 2) := by decide +kernel
theorem dX12_mixLoaf_19 : decode cX12_mixLoaf 19 = .ok (.if_icmp .ge 22, 3) := by decide +kernel
theorem dX12_mixLoaf_22 : decode cX12_mixLoaf 22 = .ok (.aload_n 0, 1) := by decide +kernel
theorem dX12_mixLoaf_23 : decode cX12_mixLoaf 23 = .ok (.aload_n 0, 1) := by decide +kernel
theorem dX12_mixLoaf_24 : decode cX12_mixLoaf 24 = .ok (.bipush 41, 2) := by decide +kernel
theorem dX12_mixLoaf_26 : decode cX12_mixLoaf 26 = .ok (.iload_n 1, 1) := by decide +kernel
theorem dX12_mixLoaf_27 : decode cX12_mixLoaf 27 = .ok (.iadd, 1) := by decide +kernel
theorem dX12_mixLoaf_28 : decode cX12_mixLoaf 28 = .ok (.invokevirtual 160, 3) := by decide +kernel
theorem dX12_mixLoaf_31 : decode cX12_mixLoaf 31 = .ok (.i2l, 1) := by decide +kernel
theorem dX12_mixLoaf_32 : decode cX12_mixLoaf 32 = .ok (.invokevirtual 335, 3) := by decide +kernel
theorem dX12_mixLoaf_35 : decode cX12_mixLoaf 35 = .ok (.iinc 1 1, 3) := by decide +kernel
theorem dX12_mixLoaf_38 : decode cX12_mixLoaf 38 = .ok (.goto (-22), 3) := by decide +kernel
theorem dX12_mixLoaf_41 : decode cX12_mixLoaf 41 = .ok (.iconst 0, 1) := by decide +kernel
theorem dX12_mixLoaf_42 : decode cX12_mixLoaf 42 = .ok (.istore_n 1, 1) := by decide +kernel
theorem dX12_mixLoaf_43 : decode cX12_mixLoaf 43 = .ok (.iload_n 1, 1) := by decide +kernel
theorem dX12_mixLoaf_44 : decode cX12_mixLoaf 44 = .ok (.aload_n 0, 1) := by decide +kernel
theorem dX12_mixLoaf_45 : decode cX12_mixLoaf 45 = .ok (.bipush 40, 2) := by decide +kernel
theorem dX12_mixLoaf_47 : decode cX12_mixLoaf 47 = .ok (.invokevirtual 160, 3) := by decide +kernel
theorem dX12_mixLoaf_50 : decode cX12_mixLoaf 50 = .ok (.if_icmp .ge 33, 3) := by decide +kernel
theorem dX12_mixLoaf_53 : decode cX12_mixLoaf 53 = .ok (.iconst 0, 1) := by decide +kernel
theorem dX12_mixLoaf_54 : decode cX12_mixLoaf 54 = .ok (.istore_n 2, 1) := by decide +kernel
theorem dX12_mixLoaf_55 : decode cX12_mixLoaf 55 = .ok (.iload_n 2, 1) := by decide +kernel
theorem dX12_mixLoaf_56 : decode cX12_mixLoaf 56 = .ok (.iconst 4, 1) := by decide +kernel
theorem dX12_mixLoaf_57 : decode cX12_mixLoaf 57 = .ok (.if_icmp .ge 20, 3) := by decide +kernel
theorem dX12_mixLoaf_60 : decode cX12_mixLoaf 60 = .ok (.aload_n 0, 1) := by decide +kernel
theorem dX12_mixLoaf_61 : decode cX12_mixLoaf 61 = .ok (.aload_n 0, 1) := by decide +kernel
theorem dX12_mixLoaf_62 : decode cX12_mixLoaf 62 = .ok (.iload_n 1, 1) := by decide +kernel
theorem dX12_mixLoaf_63 : decode cX12_mixLoaf 63 = .ok (.iload_n 2, 1) := by decide +kernel
theorem dX12_mixLoaf_64 : decode cX12_mixLoaf 64 = .ok (.invokevirtual 235, 3) := by decide +kernel
theorem dX12_mixLoaf_67 : decode cX12_mixLoaf 67 = .ok (.i2l, 1) := by decide +kernel
theorem dX12_mixLoaf_68 : decode cX12_mixLoaf 68 = .ok (.invokevirtual 335, 3) := by decide +kernel
theorem dX12_mixLoaf_71 : decode cX12_mixLoaf 71 = .ok (.iinc 2 1, 3) := by decide +kernel
theorem dX12_mixLoaf_74 : decode cX12_mixLoaf 74 = .ok (.goto (-19), 3) := by decide +kernel
theorem dX12_mixLoaf_77 : decode cX12_mixLoaf 77 = .ok (.iinc 1 1, 3) := by decide +kernel
theorem dX12_mixLoaf_80 : decode cX12_mixLoaf 80 = .ok (.goto (-37), 3) := by decide +kernel
theorem dX12_mixLoaf_83 : decode cX12_mixLoaf 83 = .ok (.goto 10, 3) := by decide +kernel
theorem dX12_mixLoaf_86 : decode cX12_mixLoaf 86 = .ok (.aload_n 0, 1) := by decide +kernel
theorem dX12_mixLoaf_87 : decode cX12_mixLoaf 87 = .ok (.ldc2_w 333, 3) := by decide +kernel
theorem dX12_mixLoaf_90 : decode cX12_mixLoaf 90 = .ok (.invokevirtual 335, 3) := by decide +kernel
theorem dX12_mixLoaf_93 : decode cX12_mixLoaf 93 = .ok (.iconst 0, 1) := by decide +kernel
theorem dX12_mixLoaf_94 : decode cX12_mixLoaf 94 = .ok (.istore_n 1, 1) := by decide +kernel
theorem dX12_mixLoaf_95 : decode cX12_mixLoaf 95 = .ok (.iload_n 1, 1) := by decide +kernel
theorem dX12_mixLoaf_96 : decode cX12_mixLoaf 96 = .ok (.iconst 2, 1) := by decide +kernel
theorem dX12_mixLoaf_97 : decode cX12_mixLoaf 97 = .ok (.aload_n 0, 1) := by decide +kernel
theorem dX12_mixLoaf_98 : decode cX12_mixLoaf 98 = .ok (.getfield 310, 3) := by decide +kernel
theorem dX12_mixLoaf_101 : decode cX12_mixLoaf 101 = .ok (.imul, 1) := by decide +kernel
theorem dX12_mixLoaf_102 : decode cX12_mixLoaf 102 = .ok (.if_icmp .ge 20, 3) := by decide +kernel
theorem dX12_mixLoaf_105 : decode cX12_mixLoaf 105 = .ok (.aload_n 0, 1) := by decide +kernel
theorem dX12_mixLoaf_106 : decode cX12_mixLoaf 106 = .ok (.aload_n 0, 1) := by decide +kernel
theorem dX12_mixLoaf_107 : decode cX12_mixLoaf 107 = .ok (.getfield 69, 3) := by decide +kernel
theorem dX12_mixLoaf_110 : decode cX12_mixLoaf 110 = .ok (.iload_n 1, 1) := by decide +kernel
theorem dX12_mixLoaf_111 : decode cX12_mixLoaf 111 = .ok (.iaload, 1) := by decide +kernel
theorem dX12_mixLoaf_112 : decode cX12_mixLoaf 112 = .ok (.i2l, 1) := by decide +kernel
theorem dX12_mixLoaf_113 : decode cX12_mixLoaf 113 = .ok (.invokevirtual 335, 3) := by decide +kernel
theorem dX12_mixLoaf_116 : decode cX12_mixLoaf 116 = .ok (.iinc 1 1, 3) := by decide +kernel
theorem dX12_mixLoaf_119 : decode cX12_mixLoaf 119 = .ok (.goto (-24), 3) := by decide +kernel
theorem dX12_mixLoaf_122 : decode cX12_mixLoaf 122 = .ok (.return_, 1) := by decide +kernel
theorem dX12_digest_0 : decode cX12_digest 0 = .ok (.aload_n 0, 1) := by decide +kernel
theorem dX12_digest_1 : decode cX12_digest 1 = .ok (.ldc2_w 339, 3) := by decide +kernel
theorem dX12_digest_4 : decode cX12_digest 4 = .ok (.putfield 330, 3) := by decide +kernel
theorem dX12_digest_7 : decode cX12_digest 7 = .ok (.iconst 0, 1) := by decide +kernel
theorem dX12_digest_8 : decode cX12_digest 8 = .ok (.istore_n 1, 1) := by decide +kernel
theorem dX12_digest_9 : decode cX12_digest 9 = .ok (.iload_n 1, 1) := by decide +kernel
theorem dX12_digest_10 : decode cX12_digest 10 = .ok (.bipush 9, 2) := by decide +kernel
theorem dX12_digest_12 : decode cX12_digest 12 = .ok (.if_icmp .ge 19, 3) := by decide +kernel
theorem dX12_digest_15 : decode cX12_digest 15 = .ok (.aload_n 0, 1) := by decide +kernel
theorem dX12_digest_16 : decode cX12_digest 16 = .ok (.aload_n 0, 1) := by decide +kernel
theorem dX12_digest_17 : decode cX12_digest 17 = .ok (.iload_n 1, 1) := by decide +kernel
theorem dX12_digest_18 : decode cX12_digest 18 = .ok (.invokevirtual 325, 3) := by decide +kernel
theorem dX12_digest_21 : decode cX12_digest 21 = .ok (.i2l, 1) := by decide +kernel
theorem dX12_digest_22 : decode cX12_digest 22 = .ok (.invokevirtual 335, 3) := by decide +kernel
theorem dX12_digest_25 : decode cX12_digest 25 = .ok (.iinc 1 1, 3) := by decide +kernel
theorem dX12_digest_28 : decode cX12_digest 28 = .ok (.goto (-19), 3) := by decide +kernel
theorem dX12_digest_31 : decode cX12_digest 31 = .ok (.aload_n 0, 1) := by decide +kernel
theorem dX12_digest_32 : decode cX12_digest 32 = .ok (.invokevirtual 341, 3) := by decide +kernel
theorem dX12_digest_35 : decode cX12_digest 35 = .ok (.aload_n 0, 1) := by decide +kernel
theorem dX12_digest_36 : decode cX12_digest 36 = .ok (.invokevirtual 344, 3) := by decide +kernel
theorem dX12_digest_39 : decode cX12_digest 39 = .ok (.iconst 0, 1) := by decide +kernel
theorem dX12_digest_40 : decode cX12_digest 40 = .ok (.istore_n 1, 1) := by decide +kernel
theorem dX12_digest_41 : decode cX12_digest 41 = .ok (.iload_n 1, 1) := by decide +kernel
theorem dX12_digest_42 : decode cX12_digest 42 = .ok (.bipush 6, 2) := by decide +kernel
theorem dX12_digest_44 : decode cX12_digest 44 = .ok (.if_icmp .ge 49, 3) := by decide +kernel
theorem dX12_digest_47 : decode cX12_digest 47 = .ok (.aload_n 0, 1) := by decide +kernel
theorem dX12_digest_48 : decode cX12_digest 48 = .ok (.aload_n 0, 1) := by decide +kernel
theorem dX12_digest_49 : decode cX12_digest 49 = .ok (.getfield 13, 3) := by decide +kernel
theorem dX12_digest_52 : decode cX12_digest 52 = .ok (.iload_n 1, 1) := by decide +kernel
theorem dX12_digest_53 : decode cX12_digest 53 = .ok (.iaload, 1) := by decide +kernel
theorem dX12_digest_54 : decode cX12_digest 54 = .ok (.i2l, 1) := by decide +kernel
theorem dX12_digest_55 : decode cX12_digest 55 = .ok (.invokevirtual 335, 3) := by decide +kernel
theorem dX12_digest_58 : decode cX12_digest 58 = .ok (.iconst 0, 1) := by decide +kernel
theorem dX12_digest_59 : decode cX12_digest 59 = .ok (.istore_n 2, 1) := by decide +kernel
theorem dX12_digest_60 : decode cX12_digest 60 = .ok (.iload_n 2, 1) := by decide +kernel
theorem dX12_digest_61 : decode cX12_digest 61 = .ok (.aload_n 0, 1) := by decide +kernel
theorem dX12_digest_62 : decode cX12_digest 62 = .ok (.getfield 13, 3) := by decide +kernel
theorem dX12_digest_65 : decode cX12_digest 65 = .ok (.iload_n 1, 1) := by decide +kernel
theorem dX12_digest_66 : decode cX12_digest 66 = .ok (.iaload, 1) := by decide +kernel
theorem dX12_digest_67 : decode cX12_digest 67 = .ok (.if_icmp .ge 20, 3) := by decide +kernel
theorem dX12_digest_70 : decode cX12_digest 70 = .ok (.aload_n 0, 1) := by decide +kernel
theorem dX12_digest_71 : decode cX12_digest 71 = .ok (.aload_n 0, 1) := by decide +kernel
theorem dX12_digest_72 : decode cX12_digest 72 = .ok (.iload_n 1, 1) := by decide +kernel
theorem dX12_digest_73 : decode cX12_digest 73 = .ok (.iload_n 2, 1) := by decide +kernel
theorem dX12_digest_74 : decode cX12_digest 74 = .ok (.invokevirtual 104, 3) := by decide +kernel
theorem dX12_digest_77 : decode cX12_digest 77 = .ok (.i2l, 1) := by decide +kernel
theorem dX12_digest_78 : decode cX12_digest 78 = .ok (.invokevirtual 335, 3) := by decide +kernel
theorem dX12_digest_81 : decode cX12_digest 81 = .ok (.iinc 2 1, 3) := by decide +kernel
theorem dX12_digest_84 : decode cX12_digest 84 = .ok (.goto (-24), 3) := by decide +kernel
theorem dX12_digest_87 : decode cX12_digest 87 = .ok (.iinc 1 1, 3) := by decide +kernel
theorem dX12_digest_90 : decode cX12_digest 90 = .ok (.goto (-49), 3) := by decide +kernel
theorem dX12_digest_93 : decode cX12_digest 93 = .ok (.iconst 0, 1) := by decide +kernel
theorem dX12_digest_94 : decode cX12_digest 94 = .ok (.istore_n 1, 1) := by decide +kernel
theorem dX12_digest_95 : decode cX12_digest 95 = .ok (.iload_n 1, 1) := by decide +kernel
theorem dX12_digest_96 : decode cX12_digest 96 = .ok (.iconst 4, 1) := by decide +kernel
theorem dX12_digest_97 : decode cX12_digest 97 = .ok (.if_icmp .ge 49, 3) := by decide +kernel
theorem dX12_digest_100 : decode cX12_digest 100 = .ok (.aload_n 0, 1) := by decide +kernel
