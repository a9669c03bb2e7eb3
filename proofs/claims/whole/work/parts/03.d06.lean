theorem dX12_turn_32 : decode cX12_turn 32 = .ok (.aload_n 0, 1) := by decide +kernel
theorem dX12_turn_33 : decode cX12_turn 33 = .ok (.bipush 39, 2) := by decide +kernel
theorem dX12_turn_35 : decode cX12_turn 35 = .ok (.iload_n 1, 1) := by decide +kernel
theorem dX12_turn_36 : decode cX12_turn 36 = .ok (.ifCond .eq 7, 3) := by decide +kernel
theorem dX12_turn_39 : decode cX12_turn 39 = .ok (.iconst 1, 1) := by decide +kernel
theorem dX12_turn_40 : decode cX12_turn 40 = .ok (.goto 9, 3) := by decide +kernel
theorem dX12_turn_43 : decode cX12_turn 43 = .ok (.aload_n 0, 1) := by decide +kernel
theorem dX12_turn_44 : decode cX12_turn 44 = .ok (.bipush 39, 2) := by decide +kernel
theorem dX12_turn_46 : decode cX12_turn 46 = .ok (.invokevirtual 160, 3) := by decide +kernel
theorem dX12_turn_49 : decode cX12_turn 49 = .ok (.invokevirtual 163, 3) := by decide +kernel
theorem dX12_turn_52 : decode cX12_turn 52 = .ok (.aload_n 0, 1) := by decide +kernel
theorem dX12_turn_53 : decode cX12_turn 53 = .ok (.bipush 38, 2) := by decide +kernel
theorem dX12_turn_55 : decode cX12_turn 55 = .ok (.aload_n 0, 1) := by decide +kernel
theorem dX12_turn_56 : decode cX12_turn 56 = .ok (.bipush 38, 2) := by decide +kernel
theorem dX12_turn_58 : decode cX12_turn 58 = .ok (.invokevirtual 160, 3) := by decide +kernel
theorem dX12_turn_61 : decode cX12_turn 61 = .ok (.iconst 1, 1) := by decide +kernel
theorem dX12_turn_62 : decode cX12_turn 62 = .ok (.iadd, 1) := by decide +kernel
theorem dX12_turn_63 : decode cX12_turn 63 = .ok (.invokevirtual 163, 3) := by decide +kernel
theorem dX12_turn_66 : decode cX12_turn 66 = .ok (.return_, 1) := by decide +kernel
theorem dX12_atOnce_0 : decode cX12_atOnce 0 = .ok (.iconst 0, 1) := by decide +kernel
theorem dX12_atOnce_1 : decode cX12_atOnce 1 = .ok (.istore_n 2, 1) := by decide +kernel
theorem dX12_atOnce_2 : decode cX12_atOnce 2 = .ok (.iload_n 2, 1) := by decide +kernel
theorem dX12_atOnce_3 : decode cX12_atOnce 3 = .ok (.bipush 24, 2) := by decide +kernel
theorem dX12_atOnce_5 : decode cX12_atOnce 5 = .ok (.if_icmp .ge 135, 3) := by decide +kernel
theorem dX12_atOnce_8 : decode cX12_atOnce 8 = .ok (.aload_n 0, 1) := by decide +kernel
theorem dX12_atOnce_9 : decode cX12_atOnce 9 = .ok (.iload_n 2, 1) := by decide +kernel
theorem dX12_atOnce_10 : decode cX12_atOnce 10 = .ok (.iconst 0, 1) := by decide +kernel
theorem dX12_atOnce_11 : decode cX12_atOnce 11 = .ok (.invokevirtual 191, 3) := by decide +kernel
theorem dX12_atOnce_14 : decode cX12_atOnce 14 = .ok (.istore_n 3, 1) := by decide +kernel
theorem dX12_atOnce_15 : decode cX12_atOnce 15 = .ok (.iload_n 1, 1) := by decide +kernel
theorem dX12_atOnce_16 : decode cX12_atOnce 16 = .ok (.iconst 3, 1) := by decide +kernel
theorem dX12_atOnce_17 : decode cX12_atOnce 17 = .ok (.if_icmp .ne 35, 3) := by decide +kernel
theorem dX12_atOnce_20 : decode cX12_atOnce 20 = .ok (.aload_n 0, 1) := by decide +kernel
theorem dX12_atOnce_21 : decode cX12_atOnce 21 = .ok (.iload_n 2, 1) := by decide +kernel
theorem dX12_atOnce_22 : decode cX12_atOnce 22 = .ok (.iconst 1, 1) := by decide +kernel
theorem dX12_atOnce_23 : decode cX12_atOnce 23 = .ok (.bipush 99, 2) := by decide +kernel
theorem dX12_atOnce_25 : decode cX12_atOnce 25 = .ok (.aload_n 0, 1) := by decide +kernel
theorem dX12_atOnce_26 : decode cX12_atOnce 26 = .ok (.iload_n 2, 1) := by decide +kernel
theorem dX12_atOnce_27 : decode cX12_atOnce 27 = .ok (.iconst 1, 1) := by decide +kernel
theorem dX12_atOnce_28 : decode cX12_atOnce 28 = .ok (.invokevirtual 191, 3) := by decide +kernel
theorem dX12_atOnce_31 : decode cX12_atOnce 31 = .ok (.bipush 10, 2) := by decide +kernel
theorem dX12_atOnce_33 : decode cX12_atOnce 33 = .ok (.iadd, 1) := by decide +kernel
theorem dX12_atOnce_34 : decode cX12_atOnce 34 = .ok (.invokestatic 200, 3) := by decide +kernel
theorem dX12_atOnce_37 : decode cX12_atOnce 37 = .ok (.invokevirtual 167, 3) := by decide +kernel
theorem dX12_atOnce_40 : decode cX12_atOnce 40 = .ok (.aload_n 0, 1) := by decide +kernel
theorem dX12_atOnce_41 : decode cX12_atOnce 41 = .ok (.iload_n 2, 1) := by decide +kernel
theorem dX12_atOnce_42 : decode cX12_atOnce 42 = .ok (.iconst 0, 1) := by decide +kernel
theorem dX12_atOnce_43 : decode cX12_atOnce 43 = .ok (.iload_n 3, 1) := by decide +kernel
theorem dX12_atOnce_44 : decode cX12_atOnce 44 = .ok (.iconst 2, 1) := by decide +kernel
theorem dX12_atOnce_45 : decode cX12_atOnce 45 = .ok (.idiv, 1) := by decide +kernel
theorem dX12_atOnce_46 : decode cX12_atOnce 46 = .ok (.invokevirtual 167, 3) := by decide +kernel
theorem dX12_atOnce_49 : decode cX12_atOnce 49 = .ok (.goto 85, 3) := by decide +kernel
theorem dX12_atOnce_52 : decode cX12_atOnce 52 = .ok (.iload_n 1, 1) := by decide +kernel
theorem dX12_atOnce_53 : decode cX12_atOnce 53 = .ok (.iconst 5, 1) := by decide +kernel
theorem dX12_atOnce_54 : decode cX12_atOnce 54 = .ok (.if_icmp .ne 41, 3) := by decide +kernel
theorem dX12_atOnce_57 : decode cX12_atOnce 57 = .ok (.aload_n 0, 1) := by decide +kernel
theorem dX12_atOnce_58 : decode cX12_atOnce 58 = .ok (.iload_n 2, 1) := by decide +kernel
theorem dX12_atOnce_59 : decode cX12_atOnce 59 = .ok (.iconst 2, 1) := by decide +kernel
theorem dX12_atOnce_60 : decode cX12_atOnce 60 = .ok (.iload_n 2, 1) := by decide +kernel
theorem dX12_atOnce_61 : decode cX12_atOnce 61 = .ok (.invokestatic 194, 3) := by decide +kernel
theorem dX12_atOnce_64 : decode cX12_atOnce 64 = .ok (.ifCond .eq 19, 3) := by decide +kernel
theorem dX12_atOnce_67 : decode cX12_atOnce 67 = .ok (.iconst 0, 1) := by decide +kernel
theorem dX12_atOnce_68 : decode cX12_atOnce 68 = .ok (.aload_n 0, 1) := by decide +kernel
theorem dX12_atOnce_69 : decode cX12_atOnce 69 = .ok (.iload_n 2, 1) := by decide +kernel
theorem dX12_atOnce_70 : decode cX12_atOnce 70 = .ok (.iconst 2, 1) := by decide +kernel
theorem dX12_atOnce_71 : decode cX12_atOnce 71 = .ok (.invokevirtual 191, 3) := by decide +kernel
theorem dX12_atOnce_74 : decode cX12_atOnce 74 = .ok (.bipush 20, 2) := by decide +kernel
theorem dX12_atOnce_76 : decode cX12_atOnce 76 = .ok (.isub, 1) := by decide +kernel
theorem dX12_atOnce_77 : decode cX12_atOnce 77 = .ok (.invokestatic 197, 3) := by decide +kernel
theorem dX12_atOnce_80 : decode cX12_atOnce 80 = .ok (.goto 9, 3) := by decide +kernel
theorem dX12_atOnce_83 : decode cX12_atOnce 83 = .ok (.aload_n 0, 1) := by decide +kernel
theorem dX12_atOnce_84 : decode cX12_atOnce 84 = .ok (.iload_n 2, 1) := by decide +kernel
theorem dX12_atOnce_85 : decode cX12_atOnce 85 = .ok (.iconst 2, 1) := by decide +kernel
theorem dX12_atOnce_86 : decode cX12_atOnce 86 = .ok (.invokevirtual 191, 3) := by decide +kernel
theorem dX12_atOnce_89 : decode cX12_atOnce 89 = .ok (.invokevirtual 167, 3) := by decide +kernel
theorem dX12_atOnce_92 : decode cX12_atOnce 92 = .ok (.goto 42, 3) := by decide +kernel
theorem dX12_atOnce_95 : decode cX12_atOnce 95 = .ok (.aload_n 0, 1) := by decide +kernel
theorem dX12_atOnce_96 : decode cX12_atOnce 96 = .ok (.iload_n 2, 1) := by decide +kernel
theorem dX12_atOnce_97 : decode cX12_atOnce 97 = .ok (.iconst 4, 1) := by decide +kernel
theorem dX12_atOnce_98 : decode cX12_atOnce 98 = .ok (.invokevirtual 191, 3) := by decide +kernel
theorem dX12_atOnce_101 : decode cX12_atOnce 101 = .ok (.ifCond .ne 22, 3) := by decide +kernel
theorem dX12_atOnce_104 : decode cX12_atOnce 104 = .ok (.iload_n 3, 1) := by decide +kernel
theorem dX12_atOnce_105 : decode cX12_atOnce 105 = .ok (.aload_n 0, 1) := by decide +kernel
theorem dX12_atOnce_106 : decode cX12_atOnce 106 = .ok (.iload_n 2, 1) := by decide +kernel
theorem dX12_atOnce_107 : decode cX12_atOnce 107 = .ok (.iconst 1, 1) := by decide +kernel
theorem dX12_atOnce_108 : decode cX12_atOnce 108 = .ok (.invokevirtual 191, 3) := by decide +kernel
theorem dX12_atOnce_111 : decode cX12_atOnce 111 = .ok (.if_icmp .le 12, 3) := by decide +kernel
theorem dX12_atOnce_114 : decode cX12_atOnce 114 = .ok (.aload_n 0, 1) := by decide +kernel
theorem dX12_atOnce_115 : decode cX12_atOnce 115 = .ok (.iload_n 2, 1) := by decide +kernel
theorem dX12_atOnce_116 : decode cX12_atOnce 116 = .ok (.iconst 3, 1) := by decide +kernel
theorem dX12_atOnce_117 : decode cX12_atOnce 117 = .ok (.invokevirtual 203, 3) := by decide +kernel
theorem dX12_atOnce_120 : decode cX12_atOnce 120 = .ok (.goto 14, 3) := by decide +kernel
theorem dX12_atOnce_123 : decode cX12_atOnce 123 = .ok (.aload_n 0, 1) := by decide +kernel
theorem dX12_atOnce_124 : decode cX12_atOnce 124 = .ok (.iload_n 2, 1) := by decide +kernel
theorem dX12_atOnce_125 : decode cX12_atOnce 125 = .ok (.iconst 0, 1) := by decide +kernel
theorem dX12_atOnce_126 : decode cX12_atOnce 126 = .ok (.iload_n 3, 1) := by decide +kernel
theorem dX12_atOnce_127 : decode cX12_atOnce 127 = .ok (.iload_n 3, 1) := by decide +kernel
theorem dX12_atOnce_128 : decode cX12_atOnce 128 = .ok (.iconst 4, 1) := by decide +kernel
theorem dX12_atOnce_129 : decode cX12_atOnce 129 = .ok (.idiv, 1) := by decide +kernel
theorem dX12_atOnce_130 : decode cX12_atOnce 130 = .ok (.isub, 1) := by decide +kernel
theorem dX12_atOnce_131 : decode cX12_atOnce 131 = .ok (.invokevirtual 167, 3) := by decide +kernel
theorem dX12_atOnce_134 : decode cX12_atOnce 134 = .ok (.iinc 2 1, 3) := by decide +kernel
theorem dX12_atOnce_137 : decode cX12_atOnce 137 = .ok (.goto (-135), 3) := by decide +kernel
theorem dX12_atOnce_140 : decode cX12_atOnce 140 = .ok (.return_, 1) := by decide +kernel
theorem dX12_next_0 : decode cX12_next 0 = .ok (.aload_n 0, 1) := by decide +kernel
theorem dX12_next_1 : decode cX12_next 1 = .ok (.bipush 36, 2) := by decide +kernel
theorem dX12_next_3 : decode cX12_next 3 = .ok (.invokevirtual 160, 3) := by decide +kernel
theorem dX12_next_6 : decode cX12_next 6 = .ok (.aload_n 0, 1) := by decide +kernel
theorem dX12_next_7 : decode cX12_next 7 = .ok (.iconst 5, 1) := by decide +kernel
theorem dX12_next_8 : decode cX12_next 8 = .ok (.invokevirtual 160, 3) := by decide +kernel
theorem dX12_next_11 : decode cX12_next 11 = .ok (.if_icmp .ge 50, 3) := by decide +kernel
theorem dX12_next_14 : decode cX12_next 14 = .ok (.aload_n 0, 1) := by decide +kernel
theorem dX12_next_15 : decode cX12_next 15 = .ok (.aload_n 0, 1) := by decide +kernel
theorem dX12_next_16 : decode cX12_next 16 = .ok (.bipush 36, 2) := by decide +kernel
theorem dX12_next_18 : decode cX12_next 18 = .ok (.invokevirtual 160, 3) := by decide +kernel
theorem dX12_next_21 : decode cX12_next 21 = .ok (.iconst 0, 1) := by decide +kernel
theorem dX12_next_22 : decode cX12_next 22 = .ok (.invokevirtual 171, 3) := by decide +kernel
theorem dX12_next_25 : decode cX12_next 25 = .ok (.iconst 2, 1) := by decide +kernel
theorem dX12_next_26 : decode cX12_next 26 = .ok (.if_icmp .le 35, 3) := by decide +kernel
theorem dX12_next_29 : decode cX12_next 29 = .ok (.aload_n 0, 1) := by decide +kernel
theorem dX12_next_30 : decode cX12_next 30 = .ok (.aload_n 0, 1) := by decide +kernel
theorem dX12_next_31 : decode cX12_next 31 = .ok (.aload_n 0, 1) := by decide +kernel
theorem dX12_next_32 : decode cX12_next 32 = .ok (.bipush 36, 2) := by decide +kernel
theorem dX12_next_34 : decode cX12_next 34 = .ok (.invokevirtual 160, 3) := by decide +kernel
theorem dX12_next_37 : decode cX12_next 37 = .ok (.iconst 0, 1) := by decide +kernel
theorem dX12_next_38 : decode cX12_next 38 = .ok (.invokevirtual 171, 3) := by decide +kernel
theorem dX12_next_41 : decode cX12_next 41 = .ok (.invokevirtual 219, 3) := by decide +kernel
theorem dX12_next_44 : decode cX12_next 44 = .ok (.aload_n 0, 1) := by decide +kernel
theorem dX12_next_45 : decode cX12_next 45 = .ok (.bipush 36, 2) := by decide +kernel
theorem dX12_next_47 : decode cX12_next 47 = .ok (.aload_n 0, 1) := by decide +kernel
theorem dX12_next_48 : decode cX12_next 48 = .ok (.bipush 36, 2) := by decide +kernel
theorem dX12_next_50 : decode cX12_next 50 = .ok (.invokevirtual 160, 3) := by decide +kernel
theorem dX12_next_53 : decode cX12_next 53 = .ok (.iconst 1, 1) := by decide +kernel
theorem dX12_next_54 : decode cX12_next 54 = .ok (.iadd, 1) := by decide +kernel
theorem dX12_next_55 : decode cX12_next 55 = .ok (.invokevirtual 163, 3) := by decide +kernel
theorem dX12_next_58 : decode cX12_next 58 = .ok (.goto (-58), 3) := by decide +kernel
theorem dX12_next_61 : decode cX12_next 61 = .ok (.aload_n 0, 1) := by decide +kernel
theorem dX12_next_62 : decode cX12_next 62 = .ok (.bipush 36, 2) := by decide +kernel
theorem dX12_next_64 : decode cX12_next 64 = .ok (.invokevirtual 160, 3) := by decide +kernel
theorem dX12_next_67 : decode cX12_next 67 = .ok (.aload_n 0, 1) := by decide +kernel
theorem dX12_next_68 : decode cX12_next 68 = .ok (.iconst 5, 1) := by decide +kernel
theorem dX12_next_69 : decode cX12_next 69 = .ok (.invokevirtual 160, 3) := by decide +kernel
theorem dX12_next_72 : decode cX12_next 72 = .ok (.if_icmp .ne 12, 3) := by decide +kernel
theorem dX12_next_75 : decode cX12_next 75 = .ok (.aload_n 0, 1) := by decide +kernel
theorem dX12_next_76 : decode cX12_next 76 = .ok (.iconst 0, 1) := by decide +kernel
theorem dX12_next_77 : decode cX12_next 77 = .ok (.iconst 2, 1) := by decide +kernel
theorem dX12_next_78 : decode cX12_next 78 = .ok (.invokevirtual 222, 3) := by decide +kernel
theorem dX12_next_81 : decode cX12_next 81 = .ok (.goto 93, 3) := by decide +kernel
theorem dX12_next_84 : decode cX12_next 84 = .ok (.aload_n 0, 1) := by decide +kernel
theorem dX12_next_85 : decode cX12_next 85 = .ok (.aload_n 0, 1) := by decide +kernel
theorem dX12_next_86 : decode cX12_next 86 = .ok (.aload_n 0, 1) := by decide +kernel
theorem dX12_next_87 : decode cX12_next 87 = .ok (.bipush 36, 2) := by decide +kernel
theorem dX12_next_89 : decode cX12_next 89 = .ok (.invokevirtual 160, 3) := by decide +kernel
theorem dX12_next_92 : decode cX12_next 92 = .ok (.iconst 0, 1) := by decide +kernel
theorem dX12_next_93 : decode cX12_next 93 = .ok (.invokevirtual 171, 3) := by decide +kernel
theorem dX12_next_96 : decode cX12_next 96 = .ok (.iconst 2, 1) := by decide +kernel
theorem dX12_next_97 : decode cX12_next 97 = .ok (.if_icmp .ne 7, 3) := by decide +kernel
theorem dX12_next_100 : decode cX12_next 100 = .ok (.iconst 1, 1) := by decide +kernel
theorem dX12_next_101 : decode cX12_next 101 = .ok (.goto 4, 3) := by decide +kernel
theorem dX12_next_104 : decode cX12_next 104 = .ok (.iconst 0, 1) := by decide +kernel
theorem dX12_next_105 : decode cX12_next 105 = .ok (.aload_n 0, 1) := by decide +kernel
theorem dX12_next_106 : decode cX12_next 106 = .ok (.aload_n 0, 1) := by decide +kernel
theorem dX12_next_107 : decode cX12_next 107 = .ok (.bipush 36, 2) := by decide +kernel
theorem dX12_next_109 : decode cX12_next 109 = .ok (.invokevirtual 160, 3) := by decide +kernel
theorem dX12_next_112 : decode cX12_next 112 = .ok (.iconst 1, 1) := by decide +kernel
theorem dX12_next_113 : decode cX12_next 113 = .ok (.invokevirtual 171, 3) := by decide +kernel
theorem dX12_next_116 : decode cX12_next 116 = .ok (.invokevirtual 222, 3) := by decide +kernel
theorem dX12_next_119 : decode cX12_next 119 = .ok (.aload_n 0, 1) := by decide +kernel
theorem dX12_next_120 : decode cX12_next 120 = .ok (.bipush 37, 2) := by decide +kernel
theorem dX12_next_122 : decode cX12_next 122 = .ok (.aload_n 0, 1) := by decide +kernel
theorem dX12_next_123 : decode cX12_next 123 = .ok (.bipush 37, 2) := by decide +kernel
theorem dX12_next_125 : decode cX12_next 125 = .ok (.invokevirtual 160, 3) := by decide +kernel
theorem dX12_next_128 : decode cX12_next 128 = .ok (.iconst 1, 1) := by decide +kernel
theorem dX12_next_129 : decode cX12_next 129 = .ok (.iadd, 1) := by decide +kernel
theorem dX12_next_130 : decode cX12_next 130 = .ok (.invokevirtual 163, 3) := by decide +kernel
theorem dX12_next_133 : decode cX12_next 133 = .ok (.aload_n 0, 1) := by decide +kernel
theorem dX12_next_134 : decode cX12_next 134 = .ok (.bipush 37, 2) := by decide +kernel
theorem dX12_next_136 : decode cX12_next 136 = .ok (.invokevirtual 160, 3) := by decide +kernel
theorem dX12_next_139 : decode cX12_next 139 = .ok (.aload_n 0, 1) := by decide +kernel
theorem dX12_next_140 : decode cX12_next 140 = .ok (.aload_n 0, 1) := by decide +kernel
theorem dX12_next_141 : decode cX12_next 141 = .ok (.bipush 36, 2) := by decide +kernel
theorem dX12_next_143 : decode cX12_next 143 = .ok (.invokevirtual 160, 3) := by decide +kernel
theorem dX12_next_146 : decode cX12_next 146 = .ok (.iconst 2, 1) := by decide +kernel
theorem dX12_next_147 : decode cX12_next 147 = .ok (.invokevirtual 171, 3) := by decide +kernel
theorem dX12_next_150 : decode cX12_next 150 = .ok (.if_icmp .ne 24, 3) := by decide +kernel
theorem dX12_next_153 : decode cX12_next 153 = .ok (.aload_n 0, 1) := by decide +kernel
theorem dX12_next_154 : decode cX12_next 154 = .ok (.bipush 37, 2) := by decide +kernel
theorem dX12_next_156 : decode cX12_next 156 = .ok (.iconst 0, 1) := by decide +kernel
theorem dX12_next_157 : decode cX12_next 157 = .ok (.invokevirtual 163, 3) := by decide +kernel
theorem dX12_next_160 : decode cX12_next 160 = .ok (.aload_n 0, 1) := by decide +kernel
theorem dX12_next_161 : decode cX12_next 161 = .ok (.bipush 36, 2) := by decide +kernel
theorem dX12_next_163 : decode cX12_next 163 = .ok (.aload_n 0, 1) := by decide +kernel
theorem dX12_next_164 : decode cX12_next 164 = .ok (.bipush 36, 2) := by decide +kernel
theorem dX12_next_166 : decode cX12_next 166 = .ok (.invokevirtual 160, 3) := by decide +kernel
theorem dX12_next_169 : decode cX12_next 169 = .ok (.iconst 1, 1) := by decide +kernel
theorem dX12_next_170 : decode cX12_next 170 = .ok (.iadd, 1) := by decide +kernel
theorem dX12_next_171 : decode cX12_next 171 = .ok (.invokevirtual 163, 3) := by decide +kernel
theorem dX12_next_174 : decode cX12_next 174 = .ok (.return_, 1) := by decide +kernel
theorem dX12_goes_0 : decode cX12_goes 0 = .ok (.iconst 0, 1) := by decide +kernel
theorem dX12_goes_1 : decode cX12_goes 1 = .ok (.istore_n 2, 1) := by decide +kernel
theorem dX12_goes_2 : decode cX12_goes 2 = .ok (.iload_n 2, 1) := by decide +kernel
theorem dX12_goes_3 : decode cX12_goes 3 = .ok (.iload_n 1, 1) := by decide +kernel
theorem dX12_goes_4 : decode cX12_goes 4 = .ok (.if_icmp .ge 13, 3) := by decide +kernel
theorem dX12_goes_7 : decode cX12_goes 7 = .ok (.aload_n 0, 1) := by decide +kernel
theorem dX12_goes_8 : decode cX12_goes 8 = .ok (.invokevirtual 226, 3) := by decide +kernel
theorem dX12_goes_11 : decode cX12_goes 11 = .ok (.iinc 2 1, 3) := by decide +kernel
theorem dX12_goes_14 : decode cX12_goes 14 = .ok (.goto (-12), 3) := by decide +kernel
theorem dX12_goes_17 : decode cX12_goes 17 = .ok (.return_, 1) := by decide +kernel
theorem dX12_go_0 : decode cX12_go 0 = .ok (.iload_n 1, 1) := by decide +kernel
theorem dX12_go_1 : decode cX12_go 1 = .ok (.iconst 0, 1) := by decide +kernel
theorem dX12_go_2 : decode cX12_go 2 = .ok (.bipush 99, 2) := by decide +kernel
theorem dX12_go_4 : decode cX12_go 4 = .ok (.invokestatic 86, 3) := by decide +kernel
theorem dX12_go_7 : decode cX12_go 7 = .ok (.ifCond .ne 5, 3) := by decide +kernel
theorem dX12_go_10 : decode cX12_go 10 = .ok (.iconst (-1), 1) := by decide +kernel
theorem dX12_go_11 : decode cX12_go 11 = .ok (.ireturn, 1) := by decide +kernel
theorem dX12_go_12 : decode cX12_go 12 = .ok (.aload_n 0, 1) := by decide +kernel
theorem dX12_go_13 : decode cX12_go 13 = .ok (.getfield 51, 3) := by decide +kernel
theorem dX12_go_16 : decode cX12_go 16 = .ok (.iconst 0, 1) := by decide +kernel
theorem dX12_go_17 : decode cX12_go 17 = .ok (.baload, 1) := by decide +kernel
theorem dX12_go_18 : decode cX12_go 18 = .ok (.ifCond .ne 6, 3) := by decide +kernel
theorem dX12_go_21 : decode cX12_go 21 = .ok (.bipush (-4), 2) := by decide +kernel
theorem dX12_go_23 : decode cX12_go 23 = .ok (.ireturn, 1) := by decide +kernel
theorem dX12_go_24 : decode cX12_go 24 = .ok (.aload_n 0, 1) := by decide +kernel
theorem dX12_go_25 : decode cX12_go 25 = .ok (.iconst 0, 1) := by decide +kernel
theorem dX12_go_26 : decode cX12_go 26 = .ok (.invokevirtual 174, 3) := by decide +kernel
theorem dX12_go_29 : decode cX12_go 29 = .ok (.aload_n 0, 1) := by decide +kernel
theorem dX12_go_30 : decode cX12_go 30 = .ok (.bipush 38, 2) := by decide +kernel
theorem dX12_go_32 : decode cX12_go 32 = .ok (.invokevirtual 160, 3) := by decide +kernel
theorem dX12_go_35 : decode cX12_go 35 = .ok (.iload_n 1, 1) := by decide +kernel
theorem dX12_go_36 : decode cX12_go 36 = .ok (.iadd, 1) := by decide +kernel
theorem dX12_go_37 : decode cX12_go 37 = .ok (.bipush 99, 2) := by decide +kernel
theorem dX12_go_39 : decode cX12_go 39 = .ok (.if_icmp .le 6, 3) := by decide +kernel
theorem dX12_go_42 : decode cX12_go 42 = .ok (.bipush (-6), 2) := by decide +kernel
theorem dX12_go_44 : decode cX12_go 44 = .ok (.ireturn, 1) := by decide +kernel
theorem dX12_go_45 : decode cX12_go 45 = .ok (.aload_n 0, 1) := by decide +kernel
theorem dX12_go_46 : decode cX12_go 46 = .ok (.iload_n 1, 1) := by decide +kernel
theorem dX12_go_47 : decode cX12_go 47 = .ok (.invokevirtual 229, 3) := by decide +kernel
theorem dX12_go_50 : decode cX12_go 50 = .ok (.aload_n 0, 1) := by decide +kernel
theorem dX12_go_51 : decode cX12_go 51 = .ok (.bipush 38, 2) := by decide +kernel
theorem dX12_go_53 : decode cX12_go 53 = .ok (.invokevirtual 160, 3) := by decide +kernel
theorem dX12_go_56 : decode cX12_go 56 = .ok (.ireturn, 1) := by decide +kernel
theorem dX12_cell_0 : decode cX12_cell 0 = .ok (.iload_n 1, 1) := by decide +kernel
theorem dX12_cell_1 : decode cX12_cell 1 = .ok (.iconst 0, 1) := by decide +kernel
theorem dX12_cell_2 : decode cX12_cell 2 = .ok (.bipush 23, 2) := by decide +kernel
theorem dX12_cell_4 : decode cX12_cell 4 = .ok (.invokestatic 86, 3) := by decide +kernel
theorem dX12_cell_7 : decode cX12_cell 7 = .ok (.ifCond .eq 12, 3) := by decide +kernel
theorem dX12_cell_10 : decode cX12_cell 10 = .ok (.iload_n 2, 1) := by decide +kernel
theorem dX12_cell_11 : decode cX12_cell 11 = .ok (.iconst 0, 1) := by decide +kernel
theorem dX12_cell_12 : decode cX12_cell 12 = .ok (.iconst 4, 1) := by decide +kernel
theorem dX12_cell_13 : decode cX12_cell 13 = .ok (.invokestatic 86, 3) := by decide +kernel
theorem dX12_cell_16 : decode cX12_cell 16 = .ok (.ifCond .ne 5, 3) := by decide +kernel
theorem dX12_cell_19 : decode cX12_cell 19 = .ok (.iconst (-1), 1) := by decide +kernel
theorem dX12_cell_20 : decode cX12_cell 20 = .ok (.ireturn, 1) := by decide +kernel
theorem dX12_cell_21 : decode cX12_cell 21 = .ok (.aload_n 0, 1) := by decide +kernel
theorem dX12_cell_22 : decode cX12_cell 22 = .ok (.getfield 51, 3) := by decide +kernel
theorem dX12_cell_25 : decode cX12_cell 25 = .ok (.iconst 0, 1) := by decide +kernel
theorem dX12_cell_26 : decode cX12_cell 26 = .ok (.baload, 1) := by decide +kernel
theorem dX12_cell_27 : decode cX12_cell 27 = .ok (.ifCond .ne 6, 3) := by decide +kernel
theorem dX12_cell_30 : decode cX12_cell 30 = .ok (.bipush (-4), 2) := by decide +kernel
theorem dX12_cell_32 : decode cX12_cell 32 = .ok (.ireturn, 1) := by decide +kernel
theorem dX12_cell_33 : decode cX12_cell 33 = .ok (.aload_n 0, 1) := by decide +kernel
theorem dX12_cell_34 : decode cX12_cell 34 = .ok (.iconst 0, 1) := by decide +kernel
theorem dX12_cell_35 : decode cX12_cell 35 = .ok (.invokevirtual 174, 3) := by decide +kernel
theorem dX12_cell_38 : decode cX12_cell 38 = .ok (.aload_n 0, 1) := by decide +kernel
theorem dX12_cell_39 : decode cX12_cell 39 = .ok (.aload_n 0, 1) := by decide +kernel
theorem dX12_cell_40 : decode cX12_cell 40 = .ok (.iload_n 1, 1) := by decide +kernel
theorem dX12_cell_41 : decode cX12_cell 41 = .ok (.iload_n 2, 1) := by decide +kernel
theorem dX12_cell_42 : decode cX12_cell 42 = .ok (.invokevirtual 191, 3) := by decide +kernel
theorem dX12_cell_45 : decode cX12_cell 45 = .ok (.iconst 1, 1) := by decide +kernel
theorem dX12_cell_46 : decode cX12_cell 46 = .ok (.invokevirtual 108, 3) := by decide +kernel
theorem dX12_cell_49 : decode cX12_cell 49 = .ok (.ireturn, 1) := by decide +kernel
theorem dX12_isFall_0 : decode cX12_isFall 0 = .ok (.aload_n 0, 1) := by decide +kernel
theorem dX12_isFall_1 : decode cX12_isFall 1 = .ok (.iconst 0, 1) := by decide +kernel
theorem dX12_isFall_2 : decode cX12_isFall 2 = .ok (.invokevirtual 174, 3) := by decide +kernel
theorem dX12_isFall_5 : decode cX12_isFall 5 = .ok (.aload_n 0, 1) := by decide +kernel
theorem dX12_isFall_6 : decode cX12_isFall 6 = .ok (.getfield 51, 3) := by decide +kernel
theorem dX12_isFall_9 : decode cX12_isFall 9 = .ok (.iconst 0, 1) := by decide +kernel
theorem dX12_isFall_10 : decode cX12_isFall 10 = .ok (.baload, 1) := by decide +kernel
theorem dX12_isFall_11 : decode cX12_isFall 11 = .ok (.ifCond .eq 23, 3) := by decide +kernel
theorem dX12_isFall_14 : decode cX12_isFall 14 = .ok (.iload_n 1, 1) := by decide +kernel
theorem dX12_isFall_15 : decode cX12_isFall 15 = .ok (.iconst 0, 1) := by decide +kernel
theorem dX12_isFall_16 : decode cX12_isFall 16 = .ok (.aload_n 0, 1) := by decide +kernel
theorem dX12_isFall_17 : decode cX12_isFall 17 = .ok (.bipush 40, 2) := by decide +kernel
theorem dX12_isFall_19 : decode cX12_isFall 19 = .ok (.invokevirtual 160, 3) := by decide +kernel
theorem dX12_isFall_22 : decode cX12_isFall 22 = .ok (.iconst 1, 1) := by decide +kernel
theorem dX12_isFall_23 : decode cX12_isFall 23 = .ok (.isub, 1) := by decide +kernel
theorem dX12_isFall_24 : decode cX12_isFall 24 = .ok (.invokestatic 86, 3) := by decide +kernel
theorem dX12_isFall_27 : decode cX12_isFall 27 = .ok (.ifCond .eq 7, 3) := by decide +kernel
theorem dX12_isFall_30 : decode cX12_isFall 30 = .ok (.iconst 1, 1) := by decide +kernel
theorem dX12_isFall_31 : decode cX12_isFall 31 = .ok (.goto 4, 3) := by decide +kernel
theorem dX12_isFall_34 : decode cX12_isFall 34 = .ok (.iconst 0, 1) := by decide +kernel
theorem dX12_isFall_35 : decode cX12_isFall 35 = .ok (.ireturn, 1) := by decide +kernel
theorem dX12_f_0 : decode cX12_f 0 = .ok (.aload_n 0, 1) := by decide +kernel
theorem dX12_f_1 : decode cX12_f 1 = .ok (.sipush 161, 3) := by decide +kernel
theorem dX12_f_4 : decode cX12_f 4 = .ok (.bipush 7, 2) := by decide +kernel
theorem dX12_f_6 : decode cX12_f 6 = .ok (.iload_n 1, 1) := by decide +kernel
theorem dX12_f_7 : decode cX12_f 7 = .ok (.imul, 1) := by decide +kernel
theorem dX12_f_8 : decode cX12_f 8 = .ok (.iadd, 1) := by decide +kernel
theorem dX12_f_9 : decode cX12_f 9 = .ok (.iload_n 2, 1) := by decide +kernel
theorem dX12_f_10 : decode cX12_f 10 = .ok (.iadd, 1) := by decide +kernel
theorem dX12_f_11 : decode cX12_f 11 = .ok (.invokevirtual 160, 3) := by decide +kernel
theorem dX12_f_14 : decode cX12_f 14 = .ok (.ireturn, 1) := by decide +kernel
theorem dX12_fall_0 : decode cX12_fall 0 = .ok (.aload_n 0, 1) := by decide +kernel
theorem dX12_fall_1 : decode cX12_fall 1 = .ok (.iload_n 1, 1) := by decide +kernel
theorem dX12_fall_2 : decode cX12_fall 2 = .ok (.invokevirtual 232, 3) := by decide +kernel
theorem dX12_fall_5 : decode cX12_fall 5 = .ok (.ifCond .eq 26, 3) := by decide +kernel
theorem dX12_fall_8 : decode cX12_fall 8 = .ok (.iload_n 2, 1) := by decide +kernel
theorem dX12_fall_9 : decode cX12_fall 9 = .ok (.iconst 0, 1) := by decide +kernel
theorem dX12_fall_10 : decode cX12_fall 10 = .ok (.iconst 3, 1) := by decide +kernel
theorem dX12_fall_11 : decode cX12_fall 11 = .ok (.invokestatic 86, 3) := by decide +kernel
theorem dX12_fall_14 : decode cX12_fall 14 = .ok (.ifCond .eq 17, 3) := by decide +kernel
theorem dX12_fall_17 : decode cX12_fall 17 = .ok (.aload_n 0, 1) := by decide +kernel
theorem dX12_fall_18 : decode cX12_fall 18 = .ok (.aload_n 0, 1) := by decide +kernel
theorem dX12_fall_19 : decode cX12_fall 19 = .ok (.iload_n 1, 1) := by decide +kernel
theorem dX12_fall_20 : decode cX12_fall 20 = .ok (.iload_n 2, 1) := by decide +kernel
theorem dX12_fall_21 : decode cX12_fall 21 = .ok (.invokevirtual 235, 3) := by decide +kernel
theorem dX12_fall_24 : decode cX12_fall 24 = .ok (.iconst 1, 1) := by decide +kernel
theorem dX12_fall_25 : decode cX12_fall 25 = .ok (.invokevirtual 108, 3) := by decide +kernel
theorem dX12_fall_28 : decode cX12_fall 28 = .ok (.goto 4, 3) := by decide +kernel
theorem dX12_fall_31 : decode cX12_fall 31 = .ok (.iconst (-1), 1) := by decide +kernel
theorem dX12_fall_32 : decode cX12_fall 32 = .ok (.ireturn, 1) := by decide +kernel
theorem dX12_mark_0 : decode cX12_mark 0 = .ok (.aload_n 0, 1) := by decide +kernel
theorem dX12_mark_1 : decode cX12_mark 1 = .ok (.iload_n 1, 1) := by decide +kernel
theorem dX12_mark_2 : decode cX12_mark 2 = .ok (.invokevirtual 232, 3) := by decide +kernel
theorem dX12_mark_5 : decode cX12_mark 5 = .ok (.ifCond .eq 13, 3) := by decide +kernel
theorem dX12_mark_8 : decode cX12_mark 8 = .ok (.iload_n 2, 1) := by decide +kernel
theorem dX12_mark_9 : decode cX12_mark 9 = .ok (.iconst 1, 1) := by decide +kernel
theorem dX12_mark_10 : decode cX12_mark 10 = .ok (.bipush 6, 2) := by decide +kernel
theorem dX12_mark_12 : decode cX12_mark 12 = .ok (.invokestatic 86, 3) := by decide +kernel
theorem dX12_mark_15 : decode cX12_mark 15 = .ok (.ifCond .ne 5, 3) := by decide +kernel
theorem dX12_mark_18 : decode cX12_mark 18 = .ok (.iconst (-1), 1) := by decide +kernel
theorem dX12_mark_19 : decode cX12_mark 19 = .ok (.ireturn, 1) := by decide +kernel
theorem dX12_mark_20 : decode cX12_mark 20 = .ok (.aload_n 0, 1) := by decide +kernel
theorem dX12_mark_21 : decode cX12_mark 21 = .ok (.iload_n 1, 1) := by decide +kernel
theorem dX12_mark_22 : decode cX12_mark 22 = .ok (.iconst 0, 1) := by decide +kernel
theorem dX12_mark_23 : decode cX12_mark 23 = .ok (.invokevirtual 235, 3) := by decide +kernel
theorem dX12_mark_26 : decode cX12_mark 26 = .ok (.istore_n 3, 1) := by decide +kernel
theorem dX12_mark_27 : decode cX12_mark 27 = .ok (.iload_n 3, 1) := by decide +kernel
theorem dX12_mark_28 : decode cX12_mark 28 = .ok (.iload_n 2, 1) := by decide +kernel
theorem dX12_mark_29 : decode cX12_mark 29 = .ok (.if_icmp .eq 24, 3) := by decide +kernel
theorem dX12_mark_32 : decode cX12_mark 32 = .ok (.iload_n 2, 1) := by decide +kernel
theorem dX12_mark_33 : decode cX12_mark 33 = .ok (.iconst 1, 1) := by decide +kernel
theorem dX12_mark_34 : decode cX12_mark 34 = .ok (.if_icmp .ne 9, 3) := by decide +kernel
theorem dX12_mark_37 : decode cX12_mark 37 = .ok (.iload_n 3, 1) := by decide +kernel
theorem dX12_mark_38 : decode cX12_mark 38 = .ok (.bipush 6, 2) := by decide +kernel
theorem dX12_mark_40 : decode cX12_mark 40 = .ok (.if_icmp .eq 13, 3) := by decide +kernel
theorem dX12_mark_43 : decode cX12_mark 43 = .ok (.iload_n 2, 1) := by decide +kernel
theorem dX12_mark_44 : decode cX12_mark 44 = .ok (.iconst 4, 1) := by decide +kernel
theorem dX12_mark_45 : decode cX12_mark 45 = .ok (.if_icmp .ne 12, 3) := by decide +kernel
theorem dX12_mark_48 : decode cX12_mark 48 = .ok (.iload_n 3, 1) := by decide +kernel
theorem dX12_mark_49 : decode cX12_mark 49 = .ok (.iconst 5, 1) := by decide +kernel
theorem dX12_mark_50 : decode cX12_mark 50 = .ok (.if_icmp .ne 7, 3) := by decide +kernel
theorem dX12_mark_53 : decode cX12_mark 53 = .ok (.iconst 1, 1) := by decide +kernel
theorem dX12_mark_54 : decode cX12_mark 54 = .ok (.goto 4, 3) := by decide +kernel
theorem dX12_mark_57 : decode cX12_mark 57 = .ok (.iconst 0, 1) := by decide +kernel
theorem dX12_mark_58 : decode cX12_mark 58 = .ok (.istore 4, 2) := by decide +kernel
theorem dX12_mark_60 : decode cX12_mark 60 = .ok (.iload 4, 2) := by decide +kernel
theorem dX12_mark_62 : decode cX12_mark 62 = .ok (.ifCond .ne 9, 3) := by decide +kernel
theorem dX12_mark_65 : decode cX12_mark 65 = .ok (.aload_n 0, 1) := by decide +kernel
theorem dX12_mark_66 : decode cX12_mark 66 = .ok (.iconst 3, 1) := by decide +kernel
theorem dX12_mark_67 : decode cX12_mark 67 = .ok (.invokevirtual 100, 3) := by decide +kernel
theorem dX12_mark_70 : decode cX12_mark 70 = .ok (.ireturn, 1) := by decide +kernel
theorem dX12_mark_71 : decode cX12_mark 71 = .ok (.iload_n 2, 1) := by decide +kernel
theorem dX12_mark_72 : decode cX12_mark 72 = .ok (.tableswitch 81 1 5 #[36, 43, 50, 64, 75], 36) := by decide +kernel
theorem dX12_mark_108 : decode cX12_mark 108 = .ok (.aload_n 0, 1) := by decide +kernel
theorem dX12_mark_109 : decode cX12_mark 109 = .ok (.iload_n 1, 1) := by decide +kernel
theorem dX12_mark_110 : decode cX12_mark 110 = .ok (.iconst 4, 1) := by decide +kernel
theorem dX12_mark_111 : decode cX12_mark 111 = .ok (.invokevirtual 235, 3) := by decide +kernel
theorem dX12_mark_114 : decode cX12_mark 114 = .ok (.ireturn, 1) := by decide +kernel
theorem dX12_mark_115 : decode cX12_mark 115 = .ok (.aload_n 0, 1) := by decide +kernel
theorem dX12_mark_116 : decode cX12_mark 116 = .ok (.iload_n 1, 1) := by decide +kernel
theorem dX12_mark_117 : decode cX12_mark 117 = .ok (.iconst 5, 1) := by decide +kernel
theorem dX12_mark_118 : decode cX12_mark 118 = .ok (.invokevirtual 235, 3) := by decide +kernel
theorem dX12_mark_121 : decode cX12_mark 121 = .ok (.ireturn, 1) := by decide +kernel
theorem dX12_mark_122 : decode cX12_mark 122 = .ok (.aload_n 0, 1) := by decide +kernel
theorem dX12_mark_123 : decode cX12_mark 123 = .ok (.iload_n 1, 1) := by decide +kernel
theorem dX12_mark_124 : decode cX12_mark 124 = .ok (.iconst 2, 1) := by decide +kernel
theorem dX12_mark_125 : decode cX12_mark 125 = .ok (.invokevirtual 235, 3) := by decide +kernel
theorem dX12_mark_128 : decode cX12_mark 128 = .ok (.aload_n 0, 1) := by decide +kernel
theorem dX12_mark_129 : decode cX12_mark 129 = .ok (.iload_n 1, 1) := by decide +kernel
theorem dX12_mark_130 : decode cX12_mark 130 = .ok (.iconst 4, 1) := by decide +kernel
theorem dX12_mark_131 : decode cX12_mark 131 = .ok (.invokevirtual 235, 3) := by decide +kernel
theorem dX12_mark_134 : decode cX12_mark 134 = .ok (.isub, 1) := by decide +kernel
theorem dX12_mark_135 : decode cX12_mark 135 = .ok (.ireturn, 1) := by decide +kernel
theorem dX12_mark_136 : decode cX12_mark 136 = .ok (.bipush 50, 2) := by decide +kernel
theorem dX12_mark_138 : decode cX12_mark 138 = .ok (.aload_n 0, 1) := by decide +kernel
theorem dX12_mark_139 : decode cX12_mark 139 = .ok (.iload_n 1, 1) := by decide +kernel
theorem dX12_mark_140 : decode cX12_mark 140 = .ok (.bipush 6, 2) := by decide +kernel
theorem dX12_mark_142 : decode cX12_mark 142 = .ok (.invokevirtual 235, 3) := by decide +kernel
theorem dX12_mark_145 : decode cX12_mark 145 = .ok (.isub, 1) := by decide +kernel
theorem dX12_mark_146 : decode cX12_mark 146 = .ok (.ireturn, 1) := by decide +kernel
theorem dX12_mark_147 : decode cX12_mark 147 = .ok (.aload_n 0, 1) := by decide +kernel
theorem dX12_mark_148 : decode cX12_mark 148 = .ok (.iconst 2, 1) := by decide +kernel
theorem dX12_mark_149 : decode cX12_mark 149 = .ok (.invokevirtual 160, 3) := by decide +kernel
theorem dX12_mark_152 : decode cX12_mark 152 = .ok (.ireturn, 1) := by decide +kernel
theorem dX12_mark_153 : decode cX12_mark 153 = .ok (.aload_n 0, 1) := by decide +kernel
theorem dX12_mark_154 : decode cX12_mark 154 = .ok (.iload_n 1, 1) := by decide +kernel
theorem dX12_mark_155 : decode cX12_mark 155 = .ok (.iconst 1, 1) := by decide +kernel
theorem dX12_mark_156 : decode cX12_mark 156 = .ok (.invokevirtual 235, 3) := by decide +kernel
theorem dX12_mark_159 : decode cX12_mark 159 = .ok (.iconst 2, 1) := by decide +kernel
theorem dX12_mark_160 : decode cX12_mark 160 = .ok (.idiv, 1) := by decide +kernel
theorem dX12_mark_161 : decode cX12_mark 161 = .ok (.ireturn, 1) := by decide +kernel
theorem dX12_keep_0 : decode cX12_keep 0 = .ok (.iload_n 1, 1) := by decide +kernel
theorem dX12_keep_1 : decode cX12_keep 1 = .ok (.iconst 0, 1) := by decide +kernel
theorem dX12_keep_2 : decode cX12_keep 2 = .ok (.iconst 2, 1) := by decide +kernel
theorem dX12_keep_3 : decode cX12_keep 3 = .ok (.invokestatic 86, 3) := by decide +kernel
theorem dX12_keep_6 : decode cX12_keep 6 = .ok (.ifCond .ne 5, 3) := by decide +kernel
theorem dX12_keep_9 : decode cX12_keep 9 = .ok (.iconst (-1), 1) := by decide +kernel
theorem dX12_keep_10 : decode cX12_keep 10 = .ok (.ireturn, 1) := by decide +kernel
theorem dX12_keep_11 : decode cX12_keep 11 = .ok (.aload_n 0, 1) := by decide +kernel
theorem dX12_keep_12 : decode cX12_keep 12 = .ok (.getfield 51, 3) := by decide +kernel
theorem dX12_keep_15 : decode cX12_keep 15 = .ok (.iconst 0, 1) := by decide +kernel
theorem dX12_keep_16 : decode cX12_keep 16 = .ok (.baload, 1) := by decide +kernel
theorem dX12_keep_17 : decode cX12_keep 17 = .ok (.ifCond .ne 6, 3) := by decide +kernel
theorem dX12_keep_20 : decode cX12_keep 20 = .ok (.bipush (-4), 2) := by decide +kernel
theorem dX12_keep_22 : decode cX12_keep 22 = .ok (.ireturn, 1) := by decide +kernel
theorem dX12_keep_23 : decode cX12_keep 23 = .ok (.aload_n 0, 1) := by decide +kernel
theorem dX12_keep_24 : decode cX12_keep 24 = .ok (.iconst 0, 1) := by decide +kernel
theorem dX12_keep_25 : decode cX12_keep 25 = .ok (.iconst 1, 1) := by decide +kernel
theorem dX12_keep_26 : decode cX12_keep 26 = .ok (.iload_n 1, 1) := by decide +kernel
theorem dX12_keep_27 : decode cX12_keep 27 = .ok (.iadd, 1) := by decide +kernel
theorem dX12_keep_28 : decode cX12_keep 28 = .ok (.invokevirtual 238, 3) := by decide +kernel
theorem dX12_keep_31 : decode cX12_keep 31 = .ok (.aload_n 0, 1) := by decide +kernel
theorem dX12_keep_32 : decode cX12_keep 32 = .ok (.getfield 51, 3) := by decide +kernel
theorem dX12_keep_35 : decode cX12_keep 35 = .ok (.iconst 1, 1) := by decide +kernel
theorem dX12_keep_36 : decode cX12_keep 36 = .ok (.iload_n 1, 1) := by decide +kernel
theorem dX12_keep_37 : decode cX12_keep 37 = .ok (.iadd, 1) := by decide +kernel
theorem dX12_keep_38 : decode cX12_keep 38 = .ok (.iconst 1, 1) := by decide +kernel
theorem dX12_keep_39 : decode cX12_keep 39 = .ok (.bastore, 1) := by decide +kernel
theorem dX12_keep_40 : decode cX12_keep 40 = .ok (.aload_n 0, 1) := by decide +kernel
theorem dX12_keep_41 : decode cX12_keep 41 = .ok (.iconst 0, 1) := by decide +kernel
theorem dX12_keep_42 : decode cX12_keep 42 = .ok (.invokevirtual 174, 3) := by decide +kernel
theorem dX12_keep_45 : decode cX12_keep 45 = .ok (.aload_n 0, 1) := by decide +kernel
theorem dX12_keep_46 : decode cX12_keep 46 = .ok (.bipush 38, 2) := by decide +kernel
theorem dX12_keep_48 : decode cX12_keep 48 = .ok (.invokevirtual 160, 3) := by decide +kernel
theorem dX12_keep_51 : decode cX12_keep 51 = .ok (.ireturn, 1) := by decide +kernel
theorem dX12_on_0 : decode cX12_on 0 = .ok (.iload_n 1, 1) := by decide +kernel
theorem dX12_on_1 : decode cX12_on 1 = .ok (.iconst 0, 1) := by decide +kernel
theorem dX12_on_2 : decode cX12_on 2 = .ok (.iconst 2, 1) := by decide +kernel
theorem dX12_on_3 : decode cX12_on 3 = .ok (.invokestatic 86, 3) := by decide +kernel
theorem dX12_on_6 : decode cX12_on 6 = .ok (.ifCond .ne 5, 3) := by decide +kernel
theorem dX12_on_9 : decode cX12_on 9 = .ok (.iconst (-1), 1) := by decide +kernel
theorem dX12_on_10 : decode cX12_on 10 = .ok (.ireturn, 1) := by decide +kernel
theorem dX12_on_11 : decode cX12_on 11 = .ok (.aload_n 0, 1) := by decide +kernel
theorem dX12_on_12 : decode cX12_on 12 = .ok (.getfield 51, 3) := by decide +kernel
theorem dX12_on_15 : decode cX12_on 15 = .ok (.iconst 1, 1) := by decide +kernel
theorem dX12_on_16 : decode cX12_on 16 = .ok (.iload_n 1, 1) := by decide +kernel
theorem dX12_on_17 : decode cX12_on 17 = .ok (.iadd, 1) := by decide +kernel
theorem dX12_on_18 : decode cX12_on 18 = .ok (.baload, 1) := by decide +kernel
theorem dX12_on_19 : decode cX12_on 19 = .ok (.ifCond .ne 9, 3) := by decide +kernel
theorem dX12_on_22 : decode cX12_on 22 = .ok (.aload_n 0, 1) := by decide +kernel
theorem dX12_on_23 : decode cX12_on 23 = .ok (.iconst 1, 1) := by decide +kernel
theorem dX12_on_24 : decode cX12_on 24 = .ok (.invokevirtual 100, 3) := by decide +kernel
theorem dX12_on_27 : decode cX12_on 27 = .ok (.ireturn, 1) := by decide +kernel
theorem dX12_on_28 : decode cX12_on 28 = .ok (.aload_n 0, 1) := by decide +kernel
theorem dX12_on_29 : decode cX12_on 29 = .ok (.iconst 1, 1) := by decide +kernel
theorem dX12_on_30 : decode cX12_on 30 = .ok (.iload_n 1, 1) := by decide +kernel
theorem dX12_on_31 : decode cX12_on 31 = .ok (.iadd, 1) := by decide +kernel
theorem dX12_on_32 : decode cX12_on 32 = .ok (.iconst 0, 1) := by decide +kernel
theorem dX12_on_33 : decode cX12_on 33 = .ok (.invokevirtual 238, 3) := by decide +kernel
theorem dX12_on_36 : decode cX12_on 36 = .ok (.aload_n 0, 1) := by decide +kernel
theorem dX12_on_37 : decode cX12_on 37 = .ok (.getfield 51, 3) := by decide +kernel
theorem dX12_on_40 : decode cX12_on 40 = .ok (.iconst 0, 1) := by decide +kernel
theorem dX12_on_41 : decode cX12_on 41 = .ok (.iconst 1, 1) := by decide +kernel
theorem dX12_on_42 : decode cX12_on 42 = .ok (.bastore, 1) := by decide +kernel
theorem dX12_on_43 : decode cX12_on 43 = .ok (.aload_n 0, 1) := by decide +kernel
theorem dX12_on_44 : decode cX12_on 44 = .ok (.iconst 0, 1) := by decide +kernel
theorem dX12_on_45 : decode cX12_on 45 = .ok (.invokevirtual 174, 3) := by decide +kernel
theorem dX12_on_48 : decode cX12_on 48 = .ok (.aload_n 0, 1) := by decide +kernel
theorem dX12_on_49 : decode cX12_on 49 = .ok (.bipush 38, 2) := by decide +kernel
theorem dX12_on_51 : decode cX12_on 51 = .ok (.invokevirtual 160, 3) := by decide +kernel
theorem dX12_on_54 : decode cX12_on 54 = .ok (.ireturn, 1) := by decide +kernel
theorem dX12_heightNow_0 : decode cX12_heightNow 0 = .ok (.iconst 0, 1) := by decide +kernel
theorem dX12_heightNow_1 : decode cX12_heightNow 1 = .ok (.istore_n 1, 1) := by decide +kernel
theorem dX12_heightNow_2 : decode cX12_heightNow 2 = .ok (.iconst 0, 1) := by decide +kernel
theorem dX12_heightNow_3 : decode cX12_heightNow 3 = .ok (.istore_n 2, 1) := by decide +kernel
theorem dX12_heightNow_4 : decode cX12_heightNow 4 = .ok (.iload_n 2, 1) := by decide +kernel
theorem dX12_heightNow_5 : decode cX12_heightNow 5 = .ok (.bipush 12, 2) := by decide +kernel
theorem dX12_heightNow_7 : decode cX12_heightNow 7 = .ok (.if_icmp .ge 59, 3) := by decide +kernel
theorem dX12_heightNow_10 : decode cX12_heightNow 10 = .ok (.iload_n 1, 1) := by decide +kernel
theorem dX12_heightNow_11 : decode cX12_heightNow 11 = .ok (.bipush 10, 2) := by decide +kernel
theorem dX12_heightNow_13 : decode cX12_heightNow 13 = .ok (.aload_n 0, 1) := by decide +kernel
theorem dX12_heightNow_14 : decode cX12_heightNow 14 = .ok (.iconst 2, 1) := by decide +kernel
theorem dX12_heightNow_15 : decode cX12_heightNow 15 = .ok (.iload_n 2, 1) := by decide +kernel
theorem dX12_heightNow_16 : decode cX12_heightNow 16 = .ok (.imul, 1) := by decide +kernel
theorem dX12_heightNow_17 : decode cX12_heightNow 17 = .ok (.iconst 0, 1) := by decide +kernel
theorem dX12_heightNow_18 : decode cX12_heightNow 18 = .ok (.invokevirtual 191, 3) := by decide +kernel
theorem dX12_heightNow_21 : decode cX12_heightNow 21 = .ok (.aload_n 0, 1) := by decide +kernel
theorem dX12_heightNow_22 : decode cX12_heightNow 22 = .ok (.iconst 2, 1) := by decide +kernel
theorem dX12_heightNow_23 : decode cX12_heightNow 23 = .ok (.iload_n 2, 1) := by decide +kernel
theorem dX12_heightNow_24 : decode cX12_heightNow 24 = .ok (.imul, 1) := by decide +kernel
theorem dX12_heightNow_25 : decode cX12_heightNow 25 = .ok (.iconst 1, 1) := by decide +kernel
theorem dX12_heightNow_26 : decode cX12_heightNow 26 = .ok (.iadd, 1) := by decide +kernel
theorem dX12_heightNow_27 : decode cX12_heightNow 27 = .ok (.iconst 0, 1) := by decide +kernel
theorem dX12_heightNow_28 : decode cX12_heightNow 28 = .ok (.invokevirtual 191, 3) := by decide +kernel
theorem dX12_heightNow_31 : decode cX12_heightNow 31 = .ok (.iadd, 1) := by decide +kernel
theorem dX12_heightNow_32 : decode cX12_heightNow 32 = .ok (.bipush 20, 2) := by decide +kernel
theorem dX12_heightNow_34 : decode cX12_heightNow 34 = .ok (.idiv, 1) := by decide +kernel
theorem dX12_heightNow_35 : decode cX12_heightNow 35 = .ok (.iadd, 1) := by decide +kernel
theorem dX12_heightNow_36 : decode cX12_heightNow 36 = .ok (.iconst 3, 1) := by decide +kernel
theorem dX12_heightNow_37 : decode cX12_heightNow 37 = .ok (.aload_n 0, 1) := by decide +kernel
theorem dX12_heightNow_38 : decode cX12_heightNow 38 = .ok (.iconst 2, 1) := by decide +kernel
theorem dX12_heightNow_39 : decode cX12_heightNow 39 = .ok (.iload_n 2, 1) := by decide +kernel
theorem dX12_heightNow_40 : decode cX12_heightNow 40 = .ok (.imul, 1) := by decide +kernel
theorem dX12_heightNow_41 : decode cX12_heightNow 41 = .ok (.iconst 4, 1) := by decide +kernel
theorem dX12_heightNow_42 : decode cX12_heightNow 42 = .ok (.invokevirtual 191, 3) := by decide +kernel
theorem dX12_heightNow_45 : decode cX12_heightNow 45 = .ok (.aload_n 0, 1) := by decide +kernel
theorem dX12_heightNow_46 : decode cX12_heightNow 46 = .ok (.iconst 2, 1) := by decide +kernel
theorem dX12_heightNow_47 : decode cX12_heightNow 47 = .ok (.iload_n 2, 1) := by decide +kernel
theorem dX12_heightNow_48 : decode cX12_heightNow 48 = .ok (.imul, 1) := by decide +kernel
theorem dX12_heightNow_49 : decode cX12_heightNow 49 = .ok (.iconst 1, 1) := by decide +kernel
theorem dX12_heightNow_50 : decode cX12_heightNow 50 = .ok (.iadd, 1) := by decide +kernel
theorem dX12_heightNow_51 : decode cX12_heightNow 51 = .ok (.iconst 4, 1) := by decide +kernel
theorem dX12_heightNow_52 : decode cX12_heightNow 52 = .ok (.invokevirtual 191, 3) := by decide +kernel
theorem dX12_heightNow_55 : decode cX12_heightNow 55 = .ok (.iadd, 1) := by decide +kernel
theorem dX12_heightNow_56 : decode cX12_heightNow 56 = .ok (.imul, 1) := by decide +kernel
theorem dX12_heightNow_57 : decode cX12_heightNow 57 = .ok (.isub, 1) := by decide +kernel
theorem dX12_heightNow_58 : decode cX12_heightNow 58 = .ok (.iadd, 1) := by decide +kernel
theorem dX12_heightNow_59 : decode cX12_heightNow 59 = .ok (.istore_n 1, 1) := by decide +kernel
theorem dX12_heightNow_60 : decode cX12_heightNow 60 = .ok (.iinc 2 1, 3) := by decide +kernel
theorem dX12_heightNow_63 : decode cX12_heightNow 63 = .ok (.goto (-59), 3) := by decide +kernel
theorem dX12_heightNow_66 : decode cX12_heightNow 66 = .ok (.iload_n 1, 1) := by decide +kernel
theorem dX12_heightNow_67 : decode cX12_heightNow 67 = .ok (.ireturn, 1) := by decide +kernel
theorem dX12_tornMany_0 : decode cX12_tornMany 0 = .ok (.iconst 0, 1) := by decide +kernel
theorem dX12_tornMany_1 : decode cX12_tornMany 1 = .ok (.istore_n 1, 1) := by decide +kernel
theorem dX12_tornMany_2 : decode cX12_tornMany 2 = .ok (.iconst 0, 1) := by decide +kernel
theorem dX12_tornMany_3 : decode cX12_tornMany 3 = .ok (.istore_n 2, 1) := by decide +kernel
theorem dX12_tornMany_4 : decode cX12_tornMany 4 = .ok (.iload_n 2, 1) := by decide +kernel
theorem dX12_tornMany_5 : decode cX12_tornMany 5 = .ok (.bipush 24, 2) := by decide +kernel
theorem dX12_tornMany_7 : decode cX12_tornMany 7 = .ok (.if_icmp .ge 18, 3) := by decide +kernel
theorem dX12_tornMany_10 : decode cX12_tornMany 10 = .ok (.iload_n 1, 1) := by decide +kernel
theorem dX12_tornMany_11 : decode cX12_tornMany 11 = .ok (.aload_n 0, 1) := by decide +kernel
theorem dX12_tornMany_12 : decode cX12_tornMany 12 = .ok (.iload_n 2, 1) := by decide +kernel
theorem dX12_tornMany_13 : decode cX12_tornMany 13 = .ok (.iconst 4, 1) := by decide +kernel
theorem dX12_tornMany_14 : decode cX12_tornMany 14 = .ok (.invokevirtual 191, 3) := by decide +kernel
theorem dX12_tornMany_17 : decode cX12_tornMany 17 = .ok (.iadd, 1) := by decide +kernel
theorem dX12_tornMany_18 : decode cX12_tornMany 18 = .ok (.istore_n 1, 1) := by decide +kernel
theorem dX12_tornMany_19 : decode cX12_tornMany 19 = .ok (.iinc 2 1, 3) := by decide +kernel
theorem dX12_tornMany_22 : decode cX12_tornMany 22 = .ok (.goto (-18), 3) := by decide +kernel
theorem dX12_tornMany_25 : decode cX12_tornMany 25 = .ok (.iload_n 1, 1) := by decide +kernel
theorem dX12_tornMany_26 : decode cX12_tornMany 26 = .ok (.ireturn, 1) := by decide +kernel
theorem dX12_worthNow_0 : decode cX12_worthNow 0 = .ok (.iconst 0, 1) := by decide +kernel
theorem dX12_worthNow_1 : decode cX12_worthNow 1 = .ok (.istore_n 1, 1) := by decide +kernel
theorem dX12_worthNow_2 : decode cX12_worthNow 2 = .ok (.iconst 0, 1) := by decide +kernel
theorem dX12_worthNow_3 : decode cX12_worthNow 3 = .ok (.istore_n 2, 1) := by decide +kernel
theorem dX12_worthNow_4 : decode cX12_worthNow 4 = .ok (.iload_n 2, 1) := by decide +kernel
theorem dX12_worthNow_5 : decode cX12_worthNow 5 = .ok (.bipush 24, 2) := by decide +kernel
theorem dX12_worthNow_7 : decode cX12_worthNow 7 = .ok (.if_icmp .ge 37, 3) := by decide +kernel
theorem dX12_worthNow_10 : decode cX12_worthNow 10 = .ok (.iload_n 1, 1) := by decide +kernel
theorem dX12_worthNow_11 : decode cX12_worthNow 11 = .ok (.aload_n 0, 1) := by decide +kernel
theorem dX12_worthNow_12 : decode cX12_worthNow 12 = .ok (.iload_n 2, 1) := by decide +kernel
theorem dX12_worthNow_13 : decode cX12_worthNow 13 = .ok (.iconst 4, 1) := by decide +kernel
theorem dX12_worthNow_14 : decode cX12_worthNow 14 = .ok (.invokevirtual 191, 3) := by decide +kernel
theorem dX12_worthNow_17 : decode cX12_worthNow 17 = .ok (.ifCond .ne 18, 3) := by decide +kernel
theorem dX12_worthNow_20 : decode cX12_worthNow 20 = .ok (.aload_n 0, 1) := by decide +kernel
theorem dX12_worthNow_21 : decode cX12_worthNow 21 = .ok (.iload_n 2, 1) := by decide +kernel
theorem dX12_worthNow_22 : decode cX12_worthNow 22 = .ok (.iconst 3, 1) := by decide +kernel
theorem dX12_worthNow_23 : decode cX12_worthNow 23 = .ok (.invokevirtual 191, 3) := by decide +kernel
theorem dX12_worthNow_26 : decode cX12_worthNow 26 = .ok (.bipush 50, 2) := by decide +kernel
theorem dX12_worthNow_28 : decode cX12_worthNow 28 = .ok (.if_icmp .lt 7, 3) := by decide +kernel
theorem dX12_worthNow_31 : decode cX12_worthNow 31 = .ok (.iconst 1, 1) := by decide +kernel
theorem dX12_worthNow_32 : decode cX12_worthNow 32 = .ok (.goto 4, 3) := by decide +kernel
theorem dX12_worthNow_35 : decode cX12_worthNow 35 = .ok (.iconst 0, 1) := by decide +kernel
theorem dX12_worthNow_36 : decode cX12_worthNow 36 = .ok (.iadd, 1) := by decide +kernel
theorem dX12_worthNow_37 : decode cX12_worthNow 37 = .ok (.istore_n 1, 1) := by decide +kernel
theorem dX12_worthNow_38 : decode cX12_worthNow 38 = .ok (.iinc 2 1, 3) := by decide +kernel
theorem dX12_worthNow_41 : decode cX12_worthNow 41 = .ok (.goto (-37), 3) := by decide +kernel
theorem dX12_worthNow_44 : decode cX12_worthNow 44 = .ok (.iconst 0, 1) := by decide +kernel
theorem dX12_worthNow_45 : decode cX12_worthNow 45 = .ok (.aload_n 0, 1) := by decide +kernel
theorem dX12_worthNow_46 : decode cX12_worthNow 46 = .ok (.invokevirtual 241, 3) := by decide +kernel
theorem dX12_worthNow_49 : decode cX12_worthNow 49 = .ok (.iload_n 1, 1) := by decide +kernel
theorem dX12_worthNow_50 : decode cX12_worthNow 50 = .ok (.iadd, 1) := by decide +kernel
theorem dX12_worthNow_51 : decode cX12_worthNow 51 = .ok (.iconst 5, 1) := by decide +kernel
theorem dX12_worthNow_52 : decode cX12_worthNow 52 = .ok (.aload_n 0, 1) := by decide +kernel
theorem dX12_worthNow_53 : decode cX12_worthNow 53 = .ok (.invokevirtual 244, 3) := by decide +kernel
theorem dX12_worthNow_56 : decode cX12_worthNow 56 = .ok (.imul, 1) := by decide +kernel
theorem dX12_worthNow_57 : decode cX12_worthNow 57 = .ok (.isub, 1) := by decide +kernel
theorem dX12_worthNow_58 : decode cX12_worthNow 58 = .ok (.invokestatic 197, 3) := by decide +kernel
theorem dX12_worthNow_61 : decode cX12_worthNow 61 = .ok (.ireturn, 1) := by decide +kernel
theorem dX12_height_0 : decode cX12_height 0 = .ok (.aload_n 0, 1) := by decide +kernel
theorem dX12_height_1 : decode cX12_height 1 = .ok (.getfield 51, 3) := by decide +kernel
theorem dX12_height_4 : decode cX12_height 4 = .ok (.iconst 0, 1) := by decide +kernel
theorem dX12_height_5 : decode cX12_height 5 = .ok (.baload, 1) := by decide +kernel
theorem dX12_height_6 : decode cX12_height 6 = .ok (.ifCond .ne 6, 3) := by decide +kernel
theorem dX12_height_9 : decode cX12_height 9 = .ok (.bipush (-4), 2) := by decide +kernel
theorem dX12_height_11 : decode cX12_height 11 = .ok (.ireturn, 1) := by decide +kernel
theorem dX12_height_12 : decode cX12_height 12 = .ok (.aload_n 0, 1) := by decide +kernel
theorem dX12_height_13 : decode cX12_height 13 = .ok (.iconst 0, 1) := by decide +kernel
theorem dX12_height_14 : decode cX12_height 14 = .ok (.invokevirtual 174, 3) := by decide +kernel
theorem dX12_height_17 : decode cX12_height 17 = .ok (.aload_n 0, 1) := by decide +kernel
theorem dX12_height_18 : decode cX12_height 18 = .ok (.aload_n 0, 1) := by decide +kernel
theorem dX12_height_19 : decode cX12_height 19 = .ok (.invokevirtual 247, 3) := by decide +kernel
theorem dX12_height_22 : decode cX12_height 22 = .ok (.aload_n 0, 1) := by decide +kernel
theorem dX12_height_23 : decode cX12_height 23 = .ok (.invokevirtual 241, 3) := by decide +kernel
theorem dX12_height_26 : decode cX12_height 26 = .ok (.invokevirtual 108, 3) := by decide +kernel
theorem dX12_height_29 : decode cX12_height 29 = .ok (.ireturn, 1) := by decide +kernel
theorem dX12_holes_0 : decode cX12_holes 0 = .ok (.aload_n 0, 1) := by decide +kernel
theorem dX12_holes_1 : decode cX12_holes 1 = .ok (.getfield 51, 3) := by decide +kernel
theorem dX12_holes_4 : decode cX12_holes 4 = .ok (.iconst 0, 1) := by decide +kernel
theorem dX12_holes_5 : decode cX12_holes 5 = .ok (.baload, 1) := by decide +kernel
theorem dX12_holes_6 : decode cX12_holes 6 = .ok (.ifCond .ne 6, 3) := by decide +kernel
theorem dX12_holes_9 : decode cX12_holes 9 = .ok (.bipush (-4), 2) := by decide +kernel
theorem dX12_holes_11 : decode cX12_holes 11 = .ok (.ireturn, 1) := by decide +kernel
theorem dX12_holes_12 : decode cX12_holes 12 = .ok (.aload_n 0, 1) := by decide +kernel
theorem dX12_holes_13 : decode cX12_holes 13 = .ok (.iconst 0, 1) := by decide +kernel
theorem dX12_holes_14 : decode cX12_holes 14 = .ok (.invokevirtual 174, 3) := by decide +kernel
theorem dX12_holes_17 : decode cX12_holes 17 = .ok (.iconst 0, 1) := by decide +kernel
theorem dX12_holes_18 : decode cX12_holes 18 = .ok (.istore_n 1, 1) := by decide +kernel
theorem dX12_holes_19 : decode cX12_holes 19 = .ok (.iload_n 1, 1) := by decide +kernel
theorem dX12_holes_20 : decode cX12_holes 20 = .ok (.bipush 24, 2) := by decide +kernel
theorem dX12_holes_22 : decode cX12_holes 22 = .ok (.if_icmp .ge 31, 3) := by decide +kernel
theorem dX12_holes_25 : decode cX12_holes 25 = .ok (.aload_n 0, 1) := by decide +kernel
theorem dX12_holes_26 : decode cX12_holes 26 = .ok (.getfield 60, 3) := by decide +kernel
theorem dX12_holes_29 : decode cX12_holes 29 = .ok (.iload_n 1, 1) := by decide +kernel
theorem dX12_holes_30 : decode cX12_holes 30 = .ok (.aload_n 0, 1) := by decide +kernel
theorem dX12_holes_31 : decode cX12_holes 31 = .ok (.iload_n 1, 1) := by decide +kernel
theorem dX12_holes_32 : decode cX12_holes 32 = .ok (.iconst 4, 1) := by decide +kernel
theorem dX12_holes_33 : decode cX12_holes 33 = .ok (.invokevirtual 191, 3) := by decide +kernel
theorem dX12_holes_36 : decode cX12_holes 36 = .ok (.iconst 1, 1) := by decide +kernel
theorem dX12_holes_37 : decode cX12_holes 37 = .ok (.if_icmp .ne 7, 3) := by decide +kernel
theorem dX12_holes_40 : decode cX12_holes 40 = .ok (.iload_n 1, 1) := by decide +kernel
theorem dX12_holes_41 : decode cX12_holes 41 = .ok (.goto 5, 3) := by decide +kernel
theorem dX12_holes_44 : decode cX12_holes 44 = .ok (.bipush (-9), 2) := by decide +kernel
theorem dX12_holes_46 : decode cX12_holes 46 = .ok (.iastore, 1) := by decide +kernel
theorem dX12_holes_47 : decode cX12_holes 47 = .ok (.iinc 1 1, 3) := by decide +kernel
theorem dX12_holes_50 : decode cX12_holes 50 = .ok (.goto (-31), 3) := by decide +kernel
theorem dX12_holes_53 : decode cX12_holes 53 = .ok (.iconst 1, 1) := by decide +kernel
theorem dX12_holes_54 : decode cX12_holes 54 = .ok (.istore_n 1, 1) := by decide +kernel
theorem dX12_holes_55 : decode cX12_holes 55 = .ok (.iload_n 1, 1) := by decide +kernel
theorem dX12_holes_56 : decode cX12_holes 56 = .ok (.ifCond .eq 70, 3) := by decide +kernel
theorem dX12_holes_59 : decode cX12_holes 59 = .ok (.iconst 0, 1) := by decide +kernel
theorem dX12_holes_60 : decode cX12_holes 60 = .ok (.istore_n 1, 1) := by decide +kernel
theorem dX12_holes_61 : decode cX12_holes 61 = .ok (.iconst 0, 1) := by decide +kernel
theorem dX12_holes_62 : decode cX12_holes 62 = .ok (.istore_n 2, 1) := by decide +kernel
theorem dX12_holes_63 : decode cX12_holes 63 = .ok (.iload_n 2, 1) := by decide +kernel
theorem dX12_holes_64 : decode cX12_holes 64 = .ok (.bipush 24, 2) := by decide +kernel
theorem dX12_holes_66 : decode cX12_holes 66 = .ok (.if_icmp .ge 57, 3) := by decide +kernel
theorem dX12_holes_69 : decode cX12_holes 69 = .ok (.aload_n 0, 1) := by decide +kernel
theorem dX12_holes_70 : decode cX12_holes 70 = .ok (.iload_n 2, 1) := by decide +kernel
theorem dX12_holes_71 : decode cX12_holes 71 = .ok (.iload_n 2, 1) := by decide +kernel
theorem dX12_holes_72 : decode cX12_holes 72 = .ok (.iconst 2, 1) := by decide +kernel
theorem dX12_holes_73 : decode cX12_holes 73 = .ok (.iadd, 1) := by decide +kernel
theorem dX12_holes_74 : decode cX12_holes 74 = .ok (.invokevirtual 250, 3) := by decide +kernel
theorem dX12_holes_77 : decode cX12_holes 77 = .ok (.ifCond .ne 7, 3) := by decide +kernel
theorem dX12_holes_80 : decode cX12_holes 80 = .ok (.iload_n 1, 1) := by decide +kernel
theorem dX12_holes_81 : decode cX12_holes 81 = .ok (.ifCond .eq 7, 3) := by decide +kernel
theorem dX12_holes_84 : decode cX12_holes 84 = .ok (.iconst 1, 1) := by decide +kernel
theorem dX12_holes_85 : decode cX12_holes 85 = .ok (.goto 4, 3) := by decide +kernel
theorem dX12_holes_88 : decode cX12_holes 88 = .ok (.iconst 0, 1) := by decide +kernel
theorem dX12_holes_89 : decode cX12_holes 89 = .ok (.istore_n 1, 1) := by decide +kernel
theorem dX12_holes_90 : decode cX12_holes 90 = .ok (.iload_n 2, 1) := by decide +kernel
theorem dX12_holes_91 : decode cX12_holes 91 = .ok (.iconst 2, 1) := by decide +kernel
theorem dX12_holes_92 : decode cX12_holes 92 = .ok (.irem, 1) := by decide +kernel
theorem dX12_holes_93 : decode cX12_holes 93 = .ok (.ifCond .ne 14, 3) := by decide +kernel
theorem dX12_holes_96 : decode cX12_holes 96 = .ok (.aload_n 0, 1) := by decide +kernel
theorem dX12_holes_97 : decode cX12_holes 97 = .ok (.iload_n 2, 1) := by decide +kernel
theorem dX12_holes_98 : decode cX12_holes 98 = .ok (.iload_n 2, 1) := by decide +kernel
theorem dX12_holes_99 : decode cX12_holes 99 = .ok (.iconst 1, 1) := by decide +kernel
theorem dX12_holes_100 : decode cX12_holes 100 = .ok (.iadd, 1) := by decide +kernel
theorem dX12_holes_101 : decode cX12_holes 101 = .ok (.invokevirtual 250, 3) := by decide +kernel
theorem dX12_holes_104 : decode cX12_holes 104 = .ok (.ifCond .ne 7, 3) := by decide +kernel
theorem dX12_holes_107 : decode cX12_holes 107 = .ok (.iload_n 1, 1) := by decide +kernel
theorem dX12_holes_108 : decode cX12_holes 108 = .ok (.ifCond .eq 7, 3) := by decide +kernel
theorem dX12_holes_111 : decode cX12_holes 111 = .ok (.iconst 1, 1) := by decide +kernel
theorem dX12_holes_112 : decode cX12_holes 112 = .ok (.goto 4, 3) := by decide +kernel
theorem dX12_holes_115 : decode cX12_holes 115 = .ok (.iconst 0, 1) := by decide +kernel
theorem dX12_holes_116 : decode cX12_holes 116 = .ok (.istore_n 1, 1) := by decide +kernel
theorem dX12_holes_117 : decode cX12_holes 117 = .ok (.iinc 2 1, 3) := by decide +kernel
theorem dX12_holes_120 : decode cX12_holes 120 = .ok (.goto (-57), 3) := by decide +kernel
theorem dX12_holes_123 : decode cX12_holes 123 = .ok (.goto (-68), 3) := by decide +kernel
theorem dX12_holes_126 : decode cX12_holes 126 = .ok (.iconst 0, 1) := by decide +kernel
theorem dX12_holes_127 : decode cX12_holes 127 = .ok (.istore_n 2, 1) := by decide +kernel
theorem dX12_holes_128 : decode cX12_holes 128 = .ok (.iconst 0, 1) := by decide +kernel
theorem dX12_holes_129 : decode cX12_holes 129 = .ok (.istore_n 3, 1) := by decide +kernel
theorem dX12_holes_130 : decode cX12_holes 130 = .ok (.iconst 0, 1) := by decide +kernel
theorem dX12_holes_131 : decode cX12_holes 131 = .ok (.istore 4, 2) := by decide +kernel
theorem dX12_holes_133 : decode cX12_holes 133 = .ok (.iload 4, 2) := by decide +kernel
theorem dX12_holes_135 : decode cX12_holes 135 = .ok (.bipush 24, 2) := by decide +kernel
theorem dX12_holes_137 : decode cX12_holes 137 = .ok (.if_icmp .ge 70, 3) := by decide +kernel
theorem dX12_holes_140 : decode cX12_holes 140 = .ok (.iconst 0, 1) := by decide +kernel
theorem dX12_holes_141 : decode cX12_holes 141 = .ok (.istore 5, 2) := by decide +kernel
theorem dX12_holes_143 : decode cX12_holes 143 = .ok (.iconst 0, 1) := by decide +kernel
theorem dX12_holes_144 : decode cX12_holes 144 = .ok (.istore 6, 2) := by decide +kernel
theorem dX12_holes_146 : decode cX12_holes 146 = .ok (.iload 6, 2) := by decide +kernel
theorem dX12_holes_148 : decode cX12_holes 148 = .ok (.bipush 24, 2) := by decide +kernel
theorem dX12_holes_150 : decode cX12_holes 150 = .ok (.if_icmp .ge 31, 3) := by decide +kernel
theorem dX12_holes_153 : decode cX12_holes 153 = .ok (.iload 5, 2) := by decide +kernel
theorem dX12_holes_155 : decode cX12_holes 155 = .ok (.aload_n 0, 1) := by decide +kernel
theorem dX12_holes_156 : decode cX12_holes 156 = .ok (.getfield 60, 3) := by decide +kernel
theorem dX12_holes_159 : decode cX12_holes 159 = .ok (.iload 6, 2) := by decide +kernel
theorem dX12_holes_161 : decode cX12_holes 161 = .ok (.iaload, 1) := by decide +kernel
theorem dX12_holes_162 : decode cX12_holes 162 = .ok (.iload 4, 2) := by decide +kernel
theorem dX12_holes_164 : decode cX12_holes 164 = .ok (.if_icmp .ne 7, 3) := by decide +kernel
theorem dX12_holes_167 : decode cX12_holes 167 = .ok (.iconst 1, 1) := by decide +kernel
theorem dX12_holes_168 : decode cX12_holes 168 = .ok (.goto 4, 3) := by decide +kernel
theorem dX12_holes_171 : decode cX12_holes 171 = .ok (.iconst 0, 1) := by decide +kernel
theorem dX12_holes_172 : decode cX12_holes 172 = .ok (.iadd, 1) := by decide +kernel
theorem dX12_holes_173 : decode cX12_holes 173 = .ok (.istore 5, 2) := by decide +kernel
theorem dX12_holes_175 : decode cX12_holes 175 = .ok (.iinc 6 1, 3) := by decide +kernel
theorem dX12_holes_178 : decode cX12_holes 178 = .ok (.goto (-32), 3) := by decide +kernel
theorem dX12_holes_181 : decode cX12_holes 181 = .ok (.iload_n 2, 1) := by decide +kernel
theorem dX12_holes_182 : decode cX12_holes 182 = .ok (.iload 5, 2) := by decide +kernel
theorem dX12_holes_184 : decode cX12_holes 184 = .ok (.ifCond .le 7, 3) := by decide +kernel
theorem dX12_holes_187 : decode cX12_holes 187 = .ok (.iconst 1, 1) := by decide +kernel
theorem dX12_holes_188 : decode cX12_holes 188 = .ok (.goto 4, 3) := by decide +kernel
theorem dX12_holes_191 : decode cX12_holes 191 = .ok (.iconst 0, 1) := by decide +kernel
theorem dX12_holes_192 : decode cX12_holes 192 = .ok (.iadd, 1) := by decide +kernel
theorem dX12_holes_193 : decode cX12_holes 193 = .ok (.istore_n 2, 1) := by decide +kernel
theorem dX12_holes_194 : decode cX12_holes 194 = .ok (.iload_n 3, 1) := by decide +kernel
theorem dX12_holes_195 : decode cX12_holes 195 = .ok (.iload 5, 2) := by decide +kernel
theorem dX12_holes_197 : decode cX12_holes 197 = .ok (.invokestatic 197, 3) := by decide +kernel
theorem dX12_holes_200 : decode cX12_holes 200 = .ok (.istore_n 3, 1) := by decide +kernel
theorem dX12_holes_201 : decode cX12_holes 201 = .ok (.iinc 4 1, 3) := by decide +kernel
theorem dX12_holes_204 : decode cX12_holes 204 = .ok (.goto (-71), 3) := by decide +kernel
theorem dX12_holes_207 : decode cX12_holes 207 = .ok (.aload_n 0, 1) := by decide +kernel
theorem dX12_holes_208 : decode cX12_holes 208 = .ok (.iload_n 3, 1) := by decide +kernel
theorem dX12_holes_209 : decode cX12_holes 209 = .ok (.iload_n 2, 1) := by decide +kernel
theorem dX12_holes_210 : decode cX12_holes 210 = .ok (.invokevirtual 108, 3) := by decide +kernel
theorem dX12_holes_213 : decode cX12_holes 213 = .ok (.ireturn, 1) := by decide +kernel
theorem dX12_joins_0 : decode cX12_joins 0 = .ok (.iload_n 2, 1) := by decide +kernel
theorem dX12_joins_1 : decode cX12_joins 1 = .ok (.bipush 24, 2) := by decide +kernel
theorem dX12_joins_3 : decode cX12_joins 3 = .ok (.if_icmp .ge 40, 3) := by decide +kernel
theorem dX12_joins_6 : decode cX12_joins 6 = .ok (.aload_n 0, 1) := by decide +kernel
theorem dX12_joins_7 : decode cX12_joins 7 = .ok (.getfield 60, 3) := by decide +kernel
theorem dX12_joins_10 : decode cX12_joins 10 = .ok (.iload_n 1, 1) := by decide +kernel
theorem dX12_joins_11 : decode cX12_joins 11 = .ok (.iaload, 1) := by decide +kernel
theorem dX12_joins_12 : decode cX12_joins 12 = .ok (.bipush (-9), 2) := by decide +kernel
theorem dX12_joins_14 : decode cX12_joins 14 = .ok (.if_icmp .eq 29, 3) := by decide +kernel
theorem dX12_joins_17 : decode cX12_joins 17 = .ok (.aload_n 0, 1) := by decide +kernel
theorem dX12_joins_18 : decode cX12_joins 18 = .ok (.getfield 60, 3) := by decide +kernel
theorem dX12_joins_21 : decode cX12_joins 21 = .ok (.iload_n 2, 1) := by decide +kernel
theorem dX12_joins_22 : decode cX12_joins 22 = .ok (.iaload, 1) := by decide +kernel
theorem dX12_joins_23 : decode cX12_joins 23 = .ok (.bipush (-9), 2) := by decide +kernel
theorem dX12_joins_25 : decode cX12_joins 25 = .ok (.if_icmp .eq 18, 3) := by decide +kernel
theorem dX12_joins_28 : decode cX12_joins 28 = .ok (.aload_n 0, 1) := by decide +kernel
theorem dX12_joins_29 : decode cX12_joins 29 = .ok (.getfield 60, 3) := by decide +kernel
theorem dX12_joins_32 : decode cX12_joins 32 = .ok (.iload_n 1, 1) := by decide +kernel
theorem dX12_joins_33 : decode cX12_joins 33 = .ok (.iaload, 1) := by decide +kernel
theorem dX12_joins_34 : decode cX12_joins 34 = .ok (.aload_n 0, 1) := by decide +kernel
theorem dX12_joins_35 : decode cX12_joins 35 = .ok (.getfield 60, 3) := by decide +kernel
theorem dX12_joins_38 : decode cX12_joins 38 = .ok (.iload_n 2, 1) := by decide +kernel
theorem dX12_joins_39 : decode cX12_joins 39 = .ok (.iaload, 1) := by decide +kernel
theorem dX12_joins_40 : decode cX12_joins 40 = .ok (.if_icmp .ne 5, 3) := by decide +kernel
theorem dX12_joins_43 : decode cX12_joins 43 = .ok (.iconst 0, 1) := by decide +kernel
theorem dX12_joins_44 : decode cX12_joins 44 = .ok (.ireturn, 1) := by decide +kernel
theorem dX12_joins_45 : decode cX12_joins 45 = .ok (.aload_n 0, 1) := by decide +kernel
theorem dX12_joins_46 : decode cX12_joins 46 = .ok (.getfield 60, 3) := by decide +kernel
theorem dX12_joins_49 : decode cX12_joins 49 = .ok (.iload_n 1, 1) := by decide +kernel
theorem dX12_joins_50 : decode cX12_joins 50 = .ok (.iaload, 1) := by decide +kernel
theorem dX12_joins_51 : decode cX12_joins 51 = .ok (.aload_n 0, 1) := by decide +kernel
theorem dX12_joins_52 : decode cX12_joins 52 = .ok (.getfield 60, 3) := by decide +kernel
theorem dX12_joins_55 : decode cX12_joins 55 = .ok (.iload_n 2, 1) := by decide +kernel
theorem dX12_joins_56 : decode cX12_joins 56 = .ok (.iaload, 1) := by decide +kernel
theorem dX12_joins_57 : decode cX12_joins 57 = .ok (.invokestatic 200, 3) := by decide +kernel
theorem dX12_joins_60 : decode cX12_joins 60 = .ok (.istore_n 3, 1) := by decide +kernel
theorem dX12_joins_61 : decode cX12_joins 61 = .ok (.aload_n 0, 1) := by decide +kernel
theorem dX12_joins_62 : decode cX12_joins 62 = .ok (.getfield 60, 3) := by decide +kernel
theorem dX12_joins_65 : decode cX12_joins 65 = .ok (.iload_n 1, 1) := by decide +kernel
theorem dX12_joins_66 : decode cX12_joins 66 = .ok (.iload_n 3, 1) := by decide +kernel
theorem dX12_joins_67 : decode cX12_joins 67 = .ok (.iastore, 1) := by decide +kernel
theorem dX12_joins_68 : decode cX12_joins 68 = .ok (.aload_n 0, 1) := by decide +kernel
theorem dX12_joins_69 : decode cX12_joins 69 = .ok (.getfield 60, 3) := by decide +kernel
theorem dX12_joins_72 : decode cX12_joins 72 = .ok (.iload_n 2, 1) := by decide +kernel
theorem dX12_joins_73 : decode cX12_joins 73 = .ok (.iload_n 3, 1) := by decide +kernel
theorem dX12_joins_74 : decode cX12_joins 74 = .ok (.iastore, 1) := by decide +kernel
theorem dX12_joins_75 : decode cX12_joins 75 = .ok (.iconst 1, 1) := by decide +kernel
theorem dX12_joins_76 : decode cX12_joins 76 = .ok (.ireturn, 1) := by decide +kernel
theorem dX12_cutOf_0 : decode cX12_cutOf 0 = .ok (.aload_n 0, 1) := by decide +kernel
theorem dX12_cutOf_1 : decode cX12_cutOf 1 = .ok (.iload_n 1, 1) := by decide +kernel
theorem dX12_cutOf_2 : decode cX12_cutOf 2 = .ok (.iconst 4, 1) := by decide +kernel
theorem dX12_cutOf_3 : decode cX12_cutOf 3 = .ok (.invokevirtual 191, 3) := by decide +kernel
theorem dX12_cutOf_6 : decode cX12_cutOf 6 = .ok (.iconst 1, 1) := by decide +kernel
theorem dX12_cutOf_7 : decode cX12_cutOf 7 = .ok (.if_icmp .ne 7, 3) := by decide +kernel
theorem dX12_cutOf_10 : decode cX12_cutOf 10 = .ok (.iconst 1, 1) := by decide +kernel
theorem dX12_cutOf_11 : decode cX12_cutOf 11 = .ok (.goto 19, 3) := by decide +kernel
theorem dX12_cutOf_14 : decode cX12_cutOf 14 = .ok (.aload_n 0, 1) := by decide +kernel
theorem dX12_cutOf_15 : decode cX12_cutOf 15 = .ok (.iload_n 1, 1) := by decide +kernel
theorem dX12_cutOf_16 : decode cX12_cutOf 16 = .ok (.iconst 3, 1) := by decide +kernel
theorem dX12_cutOf_17 : decode cX12_cutOf 17 = .ok (.invokevirtual 191, 3) := by decide +kernel
theorem dX12_cutOf_20 : decode cX12_cutOf 20 = .ok (.bipush 50, 2) := by decide +kernel
theorem dX12_cutOf_22 : decode cX12_cutOf 22 = .ok (.if_icmp .ge 7, 3) := by decide +kernel
theorem dX12_cutOf_25 : decode cX12_cutOf 25 = .ok (.iconst 2, 1) := by decide +kernel
theorem dX12_cutOf_26 : decode cX12_cutOf 26 = .ok (.goto 4, 3) := by decide +kernel
theorem dX12_cutOf_29 : decode cX12_cutOf 29 = .ok (.iconst 0, 1) := by decide +kernel
theorem dX12_cutOf_30 : decode cX12_cutOf 30 = .ok (.ireturn, 1) := by decide +kernel
theorem dX12_cut_0 : decode cX12_cut 0 = .ok (.iload_n 1, 1) := by decide +kernel
theorem dX12_cut_1 : decode cX12_cut 1 = .ok (.invokestatic 96, 3) := by decide +kernel
theorem dX12_cut_4 : decode cX12_cut 4 = .ok (.ifCond .ne 5, 3) := by decide +kernel
theorem dX12_cut_7 : decode cX12_cut 7 = .ok (.iconst (-1), 1) := by decide +kernel
theorem dX12_cut_8 : decode cX12_cut 8 = .ok (.ireturn, 1) := by decide +kernel
theorem dX12_cut_9 : decode cX12_cut 9 = .ok (.aload_n 0, 1) := by decide +kernel
theorem dX12_cut_10 : decode cX12_cut 10 = .ok (.getfield 51, 3) := by decide +kernel
theorem dX12_cut_13 : decode cX12_cut 13 = .ok (.iconst 0, 1) := by decide +kernel
theorem dX12_cut_14 : decode cX12_cut 14 = .ok (.baload, 1) := by decide +kernel
theorem dX12_cut_15 : decode cX12_cut 15 = .ok (.ifCond .ne 6, 3) := by decide +kernel
theorem dX12_cut_18 : decode cX12_cut 18 = .ok (.bipush (-4), 2) := by decide +kernel
theorem dX12_cut_20 : decode cX12_cut 20 = .ok (.ireturn, 1) := by decide +kernel
theorem dX12_cut_21 : decode cX12_cut 21 = .ok (.aload_n 0, 1) := by decide +kernel
theorem dX12_cut_22 : decode cX12_cut 22 = .ok (.iconst 0, 1) := by decide +kernel
theorem dX12_cut_23 : decode cX12_cut 23 = .ok (.invokevirtual 174, 3) := by decide +kernel
theorem dX12_cut_26 : decode cX12_cut 26 = .ok (.aload_n 0, 1) := by decide +kernel
theorem dX12_cut_27 : decode cX12_cut 27 = .ok (.getfield 13, 3) := by decide +kernel
theorem dX12_cut_30 : decode cX12_cut 30 = .ok (.iload_n 1, 1) := by decide +kernel
theorem dX12_cut_31 : decode cX12_cut 31 = .ok (.bipush 24, 2) := by decide +kernel
theorem dX12_cut_33 : decode cX12_cut 33 = .ok (.iastore, 1) := by decide +kernel
theorem dX12_cut_34 : decode cX12_cut 34 = .ok (.iconst 0, 1) := by decide +kernel
theorem dX12_cut_35 : decode cX12_cut 35 = .ok (.istore_n 2, 1) := by decide +kernel
theorem dX12_cut_36 : decode cX12_cut 36 = .ok (.iload_n 2, 1) := by decide +kernel
theorem dX12_cut_37 : decode cX12_cut 37 = .ok (.bipush 40, 2) := by decide +kernel
theorem dX12_cut_39 : decode cX12_cut 39 = .ok (.if_icmp .ge 35, 3) := by decide +kernel
theorem dX12_cut_42 : decode cX12_cut 42 = .ok (.aload_n 0, 1) := by decide +kernel
theorem dX12_cut_43 : decode cX12_cut 43 = .ok (.getfield 16, 3) := by decide +kernel
theorem dX12_cut_46 : decode cX12_cut 46 = .ok (.bipush 40, 2) := by decide +kernel
theorem dX12_cut_48 : decode cX12_cut 48 = .ok (.iload_n 1, 1) := by decide +kernel
theorem dX12_cut_49 : decode cX12_cut 49 = .ok (.imul, 1) := by decide +kernel
theorem dX12_cut_50 : decode cX12_cut 50 = .ok (.iload_n 2, 1) := by decide +kernel
theorem dX12_cut_51 : decode cX12_cut 51 = .ok (.iadd, 1) := by decide +kernel
theorem dX12_cut_52 : decode cX12_cut 52 = .ok (.iload_n 2, 1) := by decide +kernel
theorem dX12_cut_53 : decode cX12_cut 53 = .ok (.bipush 24, 2) := by decide +kernel
theorem dX12_cut_55 : decode cX12_cut 55 = .ok (.if_icmp .ge 11, 3) := by decide +kernel
theorem dX12_cut_58 : decode cX12_cut 58 = .ok (.aload_n 0, 1) := by decide +kernel
theorem dX12_cut_59 : decode cX12_cut 59 = .ok (.iload_n 2, 1) := by decide +kernel
theorem dX12_cut_60 : decode cX12_cut 60 = .ok (.invokevirtual 253, 3) := by decide +kernel
theorem dX12_cut_63 : decode cX12_cut 63 = .ok (.goto 4, 3) := by decide +kernel
theorem dX12_cut_66 : decode cX12_cut 66 = .ok (.iconst 0, 1) := by decide +kernel
theorem dX12_cut_67 : decode cX12_cut 67 = .ok (.iastore, 1) := by decide +kernel
theorem dX12_cut_68 : decode cX12_cut 68 = .ok (.iinc 2 1, 3) := by decide +kernel
theorem dX12_cut_71 : decode cX12_cut 71 = .ok (.goto (-35), 3) := by decide +kernel
theorem dX12_cut_74 : decode cX12_cut 74 = .ok (.aload_n 0, 1) := by decide +kernel
theorem dX12_cut_75 : decode cX12_cut 75 = .ok (.invokevirtual 244, 3) := by decide +kernel
theorem dX12_cut_78 : decode cX12_cut 78 = .ok (.ireturn, 1) := by decide +kernel
theorem dX12_rests_0 : decode cX12_rests 0 = .ok (.iload_n 1, 1) := by decide +kernel
theorem dX12_rests_1 : decode cX12_rests 1 = .ok (.iconst 0, 1) := by decide +kernel
theorem dX12_rests_2 : decode cX12_rests 2 = .ok (.bipush 9, 2) := by decide +kernel
theorem dX12_rests_4 : decode cX12_rests 4 = .ok (.invokestatic 86, 3) := by decide +kernel
theorem dX12_rests_7 : decode cX12_rests 7 = .ok (.ifCond .ne 5, 3) := by decide +kernel
theorem dX12_rests_10 : decode cX12_rests 10 = .ok (.iconst (-1), 1) := by decide +kernel
theorem dX12_rests_11 : decode cX12_rests 11 = .ok (.ireturn, 1) := by decide +kernel
theorem dX12_rests_12 : decode cX12_rests 12 = .ok (.aload_n 0, 1) := by decide +kernel
theorem dX12_rests_13 : decode cX12_rests 13 = .ok (.getfield 51, 3) := by decide +kernel
theorem dX12_rests_16 : decode cX12_rests 16 = .ok (.iconst 0, 1) := by decide +kernel
theorem dX12_rests_17 : decode cX12_rests 17 = .ok (.baload, 1) := by decide +kernel
theorem dX12_rests_18 : decode cX12_rests 18 = .ok (.ifCond .ne 6, 3) := by decide +kernel
theorem dX12_rests_21 : decode cX12_rests 21 = .ok (.bipush (-4), 2) := by decide +kernel
theorem dX12_rests_23 : decode cX12_rests 23 = .ok (.ireturn, 1) := by decide +kernel
theorem dX12_rests_24 : decode cX12_rests 24 = .ok (.aload_n 0, 1) := by decide +kernel
theorem dX12_rests_25 : decode cX12_rests 25 = .ok (.iconst 0, 1) := by decide +kernel
theorem dX12_rests_26 : decode cX12_rests 26 = .ok (.iconst 4, 1) := by decide +kernel
theorem dX12_rests_27 : decode cX12_rests 27 = .ok (.invokevirtual 238, 3) := by decide +kernel
theorem dX12_rests_30 : decode cX12_rests 30 = .ok (.aload_n 0, 1) := by decide +kernel
theorem dX12_rests_31 : decode cX12_rests 31 = .ok (.iconst 4, 1) := by decide +kernel
theorem dX12_rests_32 : decode cX12_rests 32 = .ok (.invokevirtual 174, 3) := by decide +kernel
theorem dX12_rests_35 : decode cX12_rests 35 = .ok (.aload_n 0, 1) := by decide +kernel
theorem dX12_rests_36 : decode cX12_rests 36 = .ok (.bipush 40, 2) := by decide +kernel
theorem dX12_rests_38 : decode cX12_rests 38 = .ok (.invokevirtual 160, 3) := by decide +kernel
theorem dX12_rests_41 : decode cX12_rests 41 = .ok (.istore_n 2, 1) := by decide +kernel
theorem dX12_rests_42 : decode cX12_rests 42 = .ok (.iconst 0, 1) := by decide +kernel
theorem dX12_rests_43 : decode cX12_rests 43 = .ok (.istore_n 3, 1) := by decide +kernel
theorem dX12_rests_44 : decode cX12_rests 44 = .ok (.iload_n 3, 1) := by decide +kernel
theorem dX12_rests_45 : decode cX12_rests 45 = .ok (.bipush 60, 2) := by decide +kernel
theorem dX12_rests_47 : decode cX12_rests 47 = .ok (.if_icmp .ge 27, 3) := by decide +kernel
theorem dX12_rests_50 : decode cX12_rests 50 = .ok (.aload_n 0, 1) := by decide +kernel
theorem dX12_rests_51 : decode cX12_rests 51 = .ok (.iconst 0, 1) := by decide +kernel
theorem dX12_rests_52 : decode cX12_rests 52 = .ok (.iload_n 1, 1) := by decide +kernel
theorem dX12_rests_53 : decode cX12_rests 53 = .ok (.invokevirtual 222, 3) := by decide +kernel
theorem dX12_rests_56 : decode cX12_rests 56 = .ok (.aload_n 0, 1) := by decide +kernel
theorem dX12_rests_57 : decode cX12_rests 57 = .ok (.bipush 40, 2) := by decide +kernel
theorem dX12_rests_59 : decode cX12_rests 59 = .ok (.invokevirtual 160, 3) := by decide +kernel
theorem dX12_rests_62 : decode cX12_rests 62 = .ok (.iload_n 2, 1) := by decide +kernel
theorem dX12_rests_63 : decode cX12_rests 63 = .ok (.if_icmp .le 5, 3) := by decide +kernel
theorem dX12_rests_66 : decode cX12_rests 66 = .ok (.iload_n 3, 1) := by decide +kernel
theorem dX12_rests_67 : decode cX12_rests 67 = .ok (.ireturn, 1) := by decide +kernel
theorem dX12_rests_68 : decode cX12_rests 68 = .ok (.iinc 3 1, 3) := by decide +kernel
theorem dX12_rests_71 : decode cX12_rests 71 = .ok (.goto (-27), 3) := by decide +kernel
theorem dX12_rests_74 : decode cX12_rests 74 = .ok (.bipush 60, 2) := by decide +kernel
theorem dX12_rests_76 : decode cX12_rests 76 = .ok (.ireturn, 1) := by decide +kernel
theorem dX12_bakes_0 : decode cX12_bakes 0 = .ok (.aload_n 0, 1) := by decide +kernel
theorem dX12_bakes_1 : decode cX12_bakes 1 = .ok (.invokevirtual 184, 3) := by decide +kernel
theorem dX12_bakes_4 : decode cX12_bakes 4 = .ok (.aload_n 0, 1) := by decide +kernel
theorem dX12_bakes_5 : decode cX12_bakes 5 = .ok (.aload_n 0, 1) := by decide +kernel
theorem dX12_bakes_6 : decode cX12_bakes 6 = .ok (.invokevirtual 187, 3) := by decide +kernel
theorem dX12_bakes_9 : decode cX12_bakes 9 = .ok (.bipush 6, 2) := by decide +kernel
theorem dX12_bakes_11 : decode cX12_bakes 11 = .ok (.iadd, 1) := by decide +kernel
theorem dX12_bakes_12 : decode cX12_bakes 12 = .ok (.invokevirtual 229, 3) := by decide +kernel
theorem dX12_bakes_15 : decode cX12_bakes 15 = .ok (.return_, 1) := by decide +kernel
theorem dX12_layBoth_0 : decode cX12_layBoth 0 = .ok (.aload_n 0, 1) := by decide +kernel
theorem dX12_layBoth_1 : decode cX12_layBoth 1 = .ok (.iconst 4, 1) := by decide +kernel
theorem dX12_layBoth_2 : decode cX12_layBoth 2 = .ok (.invokevirtual 174, 3) := by decide +kernel
theorem dX12_layBoth_5 : decode cX12_layBoth 5 = .ok (.aload_n 0, 1) := by decide +kernel
theorem dX12_layBoth_6 : decode cX12_layBoth 6 = .ok (.iload_n 1, 1) := by decide +kernel
theorem dX12_layBoth_7 : decode cX12_layBoth 7 = .ok (.invokevirtual 178, 3) := by decide +kernel
theorem dX12_layBoth_10 : decode cX12_layBoth 10 = .ok (.aload_n 0, 1) := by decide +kernel
theorem dX12_layBoth_11 : decode cX12_layBoth 11 = .ok (.iload_n 2, 1) := by decide +kernel
theorem dX12_layBoth_12 : decode cX12_layBoth 12 = .ok (.invokevirtual 181, 3) := by decide +kernel
theorem dX12_layBoth_15 : decode cX12_layBoth 15 = .ok (.return_, 1) := by decide +kernel
theorem dX12_layOwn_0 : decode cX12_layOwn 0 = .ok (.aload_n 0, 1) := by decide +kernel
theorem dX12_layOwn_1 : decode cX12_layOwn 1 = .ok (.iconst 0, 1) := by decide +kernel
theorem dX12_layOwn_2 : decode cX12_layOwn 2 = .ok (.iconst 4, 1) := by decide +kernel
theorem dX12_layOwn_3 : decode cX12_layOwn 3 = .ok (.invokevirtual 238, 3) := by decide +kernel
theorem dX12_layOwn_6 : decode cX12_layOwn 6 = .ok (.aload_n 0, 1) := by decide +kernel
theorem dX12_layOwn_7 : decode cX12_layOwn 7 = .ok (.iconst 4, 1) := by decide +kernel
theorem dX12_layOwn_8 : decode cX12_layOwn 8 = .ok (.invokevirtual 174, 3) := by decide +kernel
theorem dX12_layOwn_11 : decode cX12_layOwn 11 = .ok (.return_, 1) := by decide +kernel
theorem dX12_needCut_0 : decode cX12_needCut 0 = .ok (.aload_n 0, 1) := by decide +kernel
theorem dX12_needCut_1 : decode cX12_needCut 1 = .ok (.getfield 13, 3) := by decide +kernel
theorem dX12_needCut_4 : decode cX12_needCut 4 = .ok (.iload_n 1, 1) := by decide +kernel
theorem dX12_needCut_5 : decode cX12_needCut 5 = .ok (.iaload, 1) := by decide +kernel
theorem dX12_needCut_6 : decode cX12_needCut 6 = .ok (.ifCond .lt 7, 3) := by decide +kernel
theorem dX12_needCut_9 : decode cX12_needCut 9 = .ok (.iload_n 2, 1) := by decide +kernel
theorem dX12_needCut_10 : decode cX12_needCut 10 = .ok (.ifCond .ne 9, 3) := by decide +kernel
theorem dX12_needCut_13 : decode cX12_needCut 13 = .ok (.aload_n 0, 1) := by decide +kernel
theorem dX12_needCut_14 : decode cX12_needCut 14 = .ok (.iconst 1, 1) := by decide +kernel
theorem dX12_needCut_15 : decode cX12_needCut 15 = .ok (.invokevirtual 100, 3) := by decide +kernel
theorem dX12_needCut_18 : decode cX12_needCut 18 = .ok (.ireturn, 1) := by decide +kernel
theorem dX12_needCut_19 : decode cX12_needCut 19 = .ok (.aload_n 0, 1) := by decide +kernel
theorem dX12_needCut_20 : decode cX12_needCut 20 = .ok (.getfield 13, 3) := by decide +kernel
theorem dX12_needCut_23 : decode cX12_needCut 23 = .ok (.iload_n 1, 1) := by decide +kernel
theorem dX12_needCut_24 : decode cX12_needCut 24 = .ok (.iaload, 1) := by decide +kernel
theorem dX12_needCut_25 : decode cX12_needCut 25 = .ok (.bipush 24, 2) := by decide +kernel
theorem dX12_needCut_27 : decode cX12_needCut 27 = .ok (.if_icmp .eq 9, 3) := by decide +kernel
theorem dX12_needCut_30 : decode cX12_needCut 30 = .ok (.aload_n 0, 1) := by decide +kernel
theorem dX12_needCut_31 : decode cX12_needCut 31 = .ok (.iconst 5, 1) := by decide +kernel
theorem dX12_needCut_32 : decode cX12_needCut 32 = .ok (.invokevirtual 100, 3) := by decide +kernel
theorem dX12_needCut_35 : decode cX12_needCut 35 = .ok (.ireturn, 1) := by decide +kernel
theorem dX12_needCut_36 : decode cX12_needCut 36 = .ok (.iconst 1, 1) := by decide +kernel
theorem dX12_needCut_37 : decode cX12_needCut 37 = .ok (.istore_n 3, 1) := by decide +kernel
theorem dX12_needCut_38 : decode cX12_needCut 38 = .ok (.iconst 0, 1) := by decide +kernel
theorem dX12_needCut_39 : decode cX12_needCut 39 = .ok (.istore 4, 2) := by decide +kernel
theorem dX12_needCut_41 : decode cX12_needCut 41 = .ok (.iload 4, 2) := by decide +kernel
theorem dX12_needCut_43 : decode cX12_needCut 43 = .ok (.bipush 24, 2) := by decide +kernel
theorem dX12_needCut_45 : decode cX12_needCut 45 = .ok (.if_icmp .ge 34, 3) := by decide +kernel
theorem dX12_needCut_48 : decode cX12_needCut 48 = .ok (.iload_n 3, 1) := by decide +kernel
theorem dX12_needCut_49 : decode cX12_needCut 49 = .ok (.ifCond .eq 22, 3) := by decide +kernel
theorem dX12_needCut_52 : decode cX12_needCut 52 = .ok (.aload_n 0, 1) := by decide +kernel
theorem dX12_needCut_53 : decode cX12_needCut 53 = .ok (.iload_n 1, 1) := by decide +kernel
theorem dX12_needCut_54 : decode cX12_needCut 54 = .ok (.iload 4, 2) := by decide +kernel
theorem dX12_needCut_56 : decode cX12_needCut 56 = .ok (.invokevirtual 104, 3) := by decide +kernel
theorem dX12_needCut_59 : decode cX12_needCut 59 = .ok (.iconst 0, 1) := by decide +kernel
theorem dX12_needCut_60 : decode cX12_needCut 60 = .ok (.iconst 2, 1) := by decide +kernel
theorem dX12_needCut_61 : decode cX12_needCut 61 = .ok (.invokestatic 86, 3) := by decide +kernel
theorem dX12_needCut_64 : decode cX12_needCut 64 = .ok (.ifCond .eq 7, 3) := by decide +kernel
theorem dX12_needCut_67 : decode cX12_needCut 67 = .ok (.iconst 1, 1) := by decide +kernel
theorem dX12_needCut_68 : decode cX12_needCut 68 = .ok (.goto 4, 3) := by decide +kernel
theorem dX12_needCut_71 : decode cX12_needCut 71 = .ok (.iconst 0, 1) := by decide +kernel
theorem dX12_needCut_72 : decode cX12_needCut 72 = .ok (.istore_n 3, 1) := by decide +kernel
theorem dX12_needCut_73 : decode cX12_needCut 73 = .ok (.iinc 4 1, 3) := by decide +kernel
theorem dX12_needCut_76 : decode cX12_needCut 76 = .ok (.goto (-35), 3) := by decide +kernel
theorem dX12_needCut_79 : decode cX12_needCut 79 = .ok (.iload_n 3, 1) := by decide +kernel
theorem dX12_needCut_80 : decode cX12_needCut 80 = .ok (.ifCond .eq 7, 3) := by decide +kernel
theorem dX12_needCut_83 : decode cX12_needCut 83 = .ok (.iconst 0, 1) := by decide +kernel
theorem dX12_needCut_84 : decode cX12_needCut 84 = .ok (.goto 8, 3) := by decide +kernel
theorem dX12_needCut_87 : decode cX12_needCut 87 = .ok (.aload_n 0, 1) := by decide +kernel
theorem dX12_needCut_88 : decode cX12_needCut 88 = .ok (.iconst 3, 1) := by decide +kernel
theorem dX12_needCut_89 : decode cX12_needCut 89 = .ok (.invokevirtual 100, 3) := by decide +kernel
theorem dX12_needCut_92 : decode cX12_needCut 92 = .ok (.ireturn, 1) := by decide +kernel
theorem dX12_unlike_0 : decode cX12_unlike 0 = .ok (.iconst 0, 1) := by decide +kernel
theorem dX12_unlike_1 : decode cX12_unlike 1 = .ok (.istore_n 2, 1) := by decide +kernel
theorem dX12_unlike_2 : decode cX12_unlike 2 = .ok (.iconst 0, 1) := by decide +kernel
theorem dX12_unlike_3 : decode cX12_unlike 3 = .ok (.istore_n 3, 1) := by decide +kernel
theorem dX12_unlike_4 : decode cX12_unlike 4 = .ok (.iload_n 3, 1) := by decide +kernel
theorem dX12_unlike_5 : decode cX12_unlike 5 = .ok (.bipush 24, 2) := by decide +kernel
theorem dX12_unlike_7 : decode cX12_unlike 7 = .ok (.if_icmp .ge 31, 3) := by decide +kernel
theorem dX12_unlike_10 : decode cX12_unlike 10 = .ok (.iload_n 2, 1) := by decide +kernel
theorem dX12_unlike_11 : decode cX12_unlike 11 = .ok (.aload_n 0, 1) := by decide +kernel
theorem dX12_unlike_12 : decode cX12_unlike 12 = .ok (.iload_n 3, 1) := by decide +kernel
theorem dX12_unlike_13 : decode cX12_unlike 13 = .ok (.invokevirtual 253, 3) := by decide +kernel
theorem dX12_unlike_16 : decode cX12_unlike 16 = .ok (.aload_n 0, 1) := by decide +kernel
theorem dX12_unlike_17 : decode cX12_unlike 17 = .ok (.iload_n 1, 1) := by decide +kernel
theorem dX12_unlike_18 : decode cX12_unlike 18 = .ok (.iload_n 3, 1) := by decide +kernel
theorem dX12_unlike_19 : decode cX12_unlike 19 = .ok (.invokevirtual 104, 3) := by decide +kernel
theorem dX12_unlike_22 : decode cX12_unlike 22 = .ok (.if_icmp .eq 7, 3) := by decide +kernel
theorem dX12_unlike_25 : decode cX12_unlike 25 = .ok (.iconst 1, 1) := by decide +kernel
theorem dX12_unlike_26 : decode cX12_unlike 26 = .ok (.goto 4, 3) := by decide +kernel
theorem dX12_unlike_29 : decode cX12_unlike 29 = .ok (.iconst 0, 1) := by decide +kernel
theorem dX12_unlike_30 : decode cX12_unlike 30 = .ok (.iadd, 1) := by decide +kernel
theorem dX12_unlike_31 : decode cX12_unlike 31 = .ok (.istore_n 2, 1) := by decide +kernel
theorem dX12_unlike_32 : decode cX12_unlike 32 = .ok (.iinc 3 1, 3) := by decide +kernel
theorem dX12_unlike_35 : decode cX12_unlike 35 = .ok (.goto (-31), 3) := by decide +kernel
theorem dX12_unlike_38 : decode cX12_unlike 38 = .ok (.iload_n 2, 1) := by decide +kernel
theorem dX12_unlike_39 : decode cX12_unlike 39 = .ok (.ireturn, 1) := by decide +kernel
theorem dX12_needPairs_0 : decode cX12_needPairs 0 = .ok (.iconst 0, 1) := by decide +kernel
theorem dX12_needPairs_1 : decode cX12_needPairs 1 = .ok (.istore_n 2, 1) := by decide +kernel
theorem dX12_needPairs_2 : decode cX12_needPairs 2 = .ok (.iconst 0, 1) := by decide +kernel
theorem dX12_needPairs_3 : decode cX12_needPairs 3 = .ok (.istore_n 3, 1) := by decide +kernel
theorem dX12_needPairs_4 : decode cX12_needPairs 4 = .ok (.iconst 0, 1) := by decide +kernel
theorem dX12_needPairs_5 : decode cX12_needPairs 5 = .ok (.istore 4, 2) := by decide +kernel
theorem dX12_needPairs_7 : decode cX12_needPairs 7 = .ok (.iload 4, 2) := by decide +kernel
theorem dX12_needPairs_9 : decode cX12_needPairs 9 = .ok (.iconst 4, 1) := by decide +kernel
theorem dX12_needPairs_10 : decode cX12_needPairs 10 = .ok (.if_icmp .ge 49, 3) := by decide +kernel
theorem dX12_needPairs_13 : decode cX12_needPairs 13 = .ok (.iload_n 2, 1) := by decide +kernel
theorem dX12_needPairs_14 : decode cX12_needPairs 14 = .ok (.ifCond .ne 13, 3) := by decide +kernel
theorem dX12_needPairs_17 : decode cX12_needPairs 17 = .ok (.aload_n 0, 1) := by decide +kernel
theorem dX12_needPairs_18 : decode cX12_needPairs 18 = .ok (.getfield 29, 3) := by decide +kernel
theorem dX12_needPairs_21 : decode cX12_needPairs 21 = .ok (.iload 4, 2) := by decide +kernel
theorem dX12_needPairs_23 : decode cX12_needPairs 23 = .ok (.baload, 1) := by decide +kernel
theorem dX12_needPairs_24 : decode cX12_needPairs 24 = .ok (.ifCond .eq 7, 3) := by decide +kernel
theorem dX12_needPairs_27 : decode cX12_needPairs 27 = .ok (.iconst 1, 1) := by decide +kernel
theorem dX12_needPairs_28 : decode cX12_needPairs 28 = .ok (.goto 4, 3) := by decide +kernel
theorem dX12_needPairs_31 : decode cX12_needPairs 31 = .ok (.iconst 0, 1) := by decide +kernel
theorem dX12_needPairs_32 : decode cX12_needPairs 32 = .ok (.istore_n 2, 1) := by decide +kernel
theorem dX12_needPairs_33 : decode cX12_needPairs 33 = .ok (.iload_n 3, 1) := by decide +kernel
theorem dX12_needPairs_34 : decode cX12_needPairs 34 = .ok (.ifCond .ne 13, 3) := by decide +kernel
theorem dX12_needPairs_37 : decode cX12_needPairs 37 = .ok (.aload_n 0, 1) := by decide +kernel
theorem dX12_needPairs_38 : decode cX12_needPairs 38 = .ok (.getfield 36, 3) := by decide +kernel
theorem dX12_needPairs_41 : decode cX12_needPairs 41 = .ok (.iload 4, 2) := by decide +kernel
theorem dX12_needPairs_43 : decode cX12_needPairs 43 = .ok (.baload, 1) := by decide +kernel
theorem dX12_needPairs_44 : decode cX12_needPairs 44 = .ok (.ifCond .eq 7, 3) := by decide +kernel
theorem dX12_needPairs_47 : decode cX12_needPairs 47 = .ok (.iconst 1, 1) := by decide +kernel
theorem dX12_needPairs_48 : decode cX12_needPairs 48 = .ok (.goto 4, 3) := by decide +kernel
theorem dX12_needPairs_51 : decode cX12_needPairs 51 = .ok (.iconst 0, 1) := by decide +kernel
theorem dX12_needPairs_52 : decode cX12_needPairs 52 = .ok (.istore_n 3, 1) := by decide +kernel
theorem dX12_needPairs_53 : decode cX12_needPairs 53 = .ok (.iinc 4 1, 3) := by decide +kernel
theorem dX12_needPairs_56 : decode cX12_needPairs 56 = .ok (.goto (-49), 3) := by decide +kernel
theorem dX12_needPairs_59 : decode cX12_needPairs 59 = .ok (.aload_n 0, 1) := by decide +kernel
theorem dX12_needPairs_60 : decode cX12_needPairs 60 = .ok (.iload_n 1, 1) := by decide +kernel
theorem dX12_needPairs_61 : decode cX12_needPairs 61 = .ok (.iload_n 2, 1) := by decide +kernel
theorem dX12_needPairs_62 : decode cX12_needPairs 62 = .ok (.ifCond .eq 11, 3) := by decide +kernel
theorem dX12_needPairs_65 : decode cX12_needPairs 65 = .ok (.iload_n 3, 1) := by decide +kernel
theorem dX12_needPairs_66 : decode cX12_needPairs 66 = .ok (.ifCond .eq 7, 3) := by decide +kernel
theorem dX12_needPairs_69 : decode cX12_needPairs 69 = .ok (.iconst 1, 1) := by decide +kernel
theorem dX12_needPairs_70 : decode cX12_needPairs 70 = .ok (.goto 4, 3) := by decide +kernel
theorem dX12_needPairs_73 : decode cX12_needPairs 73 = .ok (.iconst 0, 1) := by decide +kernel
theorem dX12_needPairs_74 : decode cX12_needPairs 74 = .ok (.invokevirtual 256, 3) := by decide +kernel
theorem dX12_needPairs_77 : decode cX12_needPairs 77 = .ok (.istore 4, 2) := by decide +kernel
theorem dX12_needPairs_79 : decode cX12_needPairs 79 = .ok (.iload 4, 2) := by decide +kernel
theorem dX12_needPairs_81 : decode cX12_needPairs 81 = .ok (.ifCond .ge 6, 3) := by decide +kernel
theorem dX12_needPairs_84 : decode cX12_needPairs 84 = .ok (.iload 4, 2) := by decide +kernel
theorem dX12_needPairs_86 : decode cX12_needPairs 86 = .ok (.ireturn, 1) := by decide +kernel
theorem dX12_needPairs_87 : decode cX12_needPairs 87 = .ok (.iconst 0, 1) := by decide +kernel
theorem dX12_needPairs_88 : decode cX12_needPairs 88 = .ok (.istore 5, 2) := by decide +kernel
theorem dX12_needPairs_90 : decode cX12_needPairs 90 = .ok (.iload 5, 2) := by decide +kernel
theorem dX12_needPairs_92 : decode cX12_needPairs 92 = .ok (.bipush 16, 2) := by decide +kernel
theorem dX12_needPairs_94 : decode cX12_needPairs 94 = .ok (.if_icmp .ge 69, 3) := by decide +kernel
theorem dX12_needPairs_97 : decode cX12_needPairs 97 = .ok (.aload_n 0, 1) := by decide +kernel
theorem dX12_needPairs_98 : decode cX12_needPairs 98 = .ok (.getfield 63, 3) := by decide +kernel
theorem dX12_needPairs_101 : decode cX12_needPairs 101 = .ok (.iload 5, 2) := by decide +kernel
theorem dX12_needPairs_103 : decode cX12_needPairs 103 = .ok (.iconst (-1), 1) := by decide +kernel
theorem dX12_needPairs_104 : decode cX12_needPairs 104 = .ok (.iastore, 1) := by decide +kernel
theorem dX12_needPairs_105 : decode cX12_needPairs 105 = .ok (.aload_n 0, 1) := by decide +kernel
theorem dX12_needPairs_106 : decode cX12_needPairs 106 = .ok (.getfield 29, 3) := by decide +kernel
theorem dX12_needPairs_109 : decode cX12_needPairs 109 = .ok (.iload 5, 2) := by decide +kernel
theorem dX12_needPairs_111 : decode cX12_needPairs 111 = .ok (.iconst 4, 1) := by decide +kernel
theorem dX12_needPairs_112 : decode cX12_needPairs 112 = .ok (.idiv, 1) := by decide +kernel
theorem dX12_needPairs_113 : decode cX12_needPairs 113 = .ok (.baload, 1) := by decide +kernel
theorem dX12_needPairs_114 : decode cX12_needPairs 114 = .ok (.ifCond .eq 43, 3) := by decide +kernel
theorem dX12_needPairs_117 : decode cX12_needPairs 117 = .ok (.aload_n 0, 1) := by decide +kernel
theorem dX12_needPairs_118 : decode cX12_needPairs 118 = .ok (.getfield 36, 3) := by decide +kernel
theorem dX12_needPairs_121 : decode cX12_needPairs 121 = .ok (.iload 5, 2) := by decide +kernel
theorem dX12_needPairs_123 : decode cX12_needPairs 123 = .ok (.iconst 4, 1) := by decide +kernel
theorem dX12_needPairs_124 : decode cX12_needPairs 124 = .ok (.irem, 1) := by decide +kernel
theorem dX12_needPairs_125 : decode cX12_needPairs 125 = .ok (.baload, 1) := by decide +kernel
theorem dX12_needPairs_126 : decode cX12_needPairs 126 = .ok (.ifCond .eq 31, 3) := by decide +kernel
theorem dX12_needPairs_129 : decode cX12_needPairs 129 = .ok (.aload_n 0, 1) := by decide +kernel
theorem dX12_needPairs_130 : decode cX12_needPairs 130 = .ok (.iload 5, 2) := by decide +kernel
theorem dX12_needPairs_132 : decode cX12_needPairs 132 = .ok (.iconst 4, 1) := by decide +kernel
theorem dX12_needPairs_133 : decode cX12_needPairs 133 = .ok (.idiv, 1) := by decide +kernel
theorem dX12_needPairs_134 : decode cX12_needPairs 134 = .ok (.iload 5, 2) := by decide +kernel
theorem dX12_needPairs_136 : decode cX12_needPairs 136 = .ok (.iconst 4, 1) := by decide +kernel
theorem dX12_needPairs_137 : decode cX12_needPairs 137 = .ok (.irem, 1) := by decide +kernel
theorem dX12_needPairs_138 : decode cX12_needPairs 138 = .ok (.invokevirtual 260, 3) := by decide +kernel
theorem dX12_needPairs_141 : decode cX12_needPairs 141 = .ok (.aload_n 0, 1) := by decide +kernel
theorem dX12_needPairs_142 : decode cX12_needPairs 142 = .ok (.invokevirtual 263, 3) := by decide +kernel
theorem dX12_needPairs_145 : decode cX12_needPairs 145 = .ok (.aload_n 0, 1) := by decide +kernel
theorem dX12_needPairs_146 : decode cX12_needPairs 146 = .ok (.getfield 63, 3) := by decide +kernel
theorem dX12_needPairs_149 : decode cX12_needPairs 149 = .ok (.iload 5, 2) := by decide +kernel
theorem dX12_needPairs_151 : decode cX12_needPairs 151 = .ok (.aload_n 0, 1) := by decide +kernel
theorem dX12_needPairs_152 : decode cX12_needPairs 152 = .ok (.iload_n 1, 1) := by decide +kernel
theorem dX12_needPairs_153 : decode cX12_needPairs 153 = .ok (.invokevirtual 266, 3) := by decide +kernel
theorem dX12_needPairs_156 : decode cX12_needPairs 156 = .ok (.iastore, 1) := by decide +kernel
theorem dX12_needPairs_157 : decode cX12_needPairs 157 = .ok (.iinc 5 1, 3) := by decide +kernel
theorem dX12_needPairs_160 : decode cX12_needPairs 160 = .ok (.goto (-70), 3) := by decide +kernel
theorem dX12_needPairs_163 : decode cX12_needPairs 163 = .ok (.iconst 0, 1) := by decide +kernel
theorem dX12_needPairs_164 : decode cX12_needPairs 164 = .ok (.ireturn, 1) := by decide +kernel
theorem dX12_leastPair_0 : decode cX12_leastPair 0 = .ok (.bipush (-9), 2) := by decide +kernel
theorem dX12_leastPair_2 : decode cX12_leastPair 2 = .ok (.istore_n 1, 1) := by decide +kernel
theorem dX12_leastPair_3 : decode cX12_leastPair 3 = .ok (.iconst 0, 1) := by decide +kernel
theorem dX12_leastPair_4 : decode cX12_leastPair 4 = .ok (.istore_n 2, 1) := by decide +kernel
theorem dX12_leastPair_5 : decode cX12_leastPair 5 = .ok (.iload_n 2, 1) := by decide +kernel
theorem dX12_leastPair_6 : decode cX12_leastPair 6 = .ok (.bipush 16, 2) := by decide +kernel
theorem dX12_leastPair_8 : decode cX12_leastPair 8 = .ok (.if_icmp .ge 45, 3) := by decide +kernel
theorem dX12_leastPair_11 : decode cX12_leastPair 11 = .ok (.aload_n 0, 1) := by decide +kernel
theorem dX12_leastPair_12 : decode cX12_leastPair 12 = .ok (.getfield 63, 3) := by decide +kernel
theorem dX12_leastPair_15 : decode cX12_leastPair 15 = .ok (.iload_n 2, 1) := by decide +kernel
theorem dX12_leastPair_16 : decode cX12_leastPair 16 = .ok (.iaload, 1) := by decide +kernel
theorem dX12_leastPair_17 : decode cX12_leastPair 17 = .ok (.ifCond .lt 28, 3) := by decide +kernel
theorem dX12_leastPair_20 : decode cX12_leastPair 20 = .ok (.iload_n 1, 1) := by decide +kernel
theorem dX12_leastPair_21 : decode cX12_leastPair 21 = .ok (.bipush (-9), 2) := by decide +kernel
theorem dX12_leastPair_23 : decode cX12_leastPair 23 = .ok (.if_icmp .eq 18, 3) := by decide +kernel
theorem dX12_leastPair_26 : decode cX12_leastPair 26 = .ok (.aload_n 0, 1) := by decide +kernel
theorem dX12_leastPair_27 : decode cX12_leastPair 27 = .ok (.getfield 63, 3) := by decide +kernel
theorem dX12_leastPair_30 : decode cX12_leastPair 30 = .ok (.iload_n 2, 1) := by decide +kernel
theorem dX12_leastPair_31 : decode cX12_leastPair 31 = .ok (.iaload, 1) := by decide +kernel
theorem dX12_leastPair_32 : decode cX12_leastPair 32 = .ok (.aload_n 0, 1) := by decide +kernel
theorem dX12_leastPair_33 : decode cX12_leastPair 33 = .ok (.getfield 63, 3) := by decide +kernel
theorem dX12_leastPair_36 : decode cX12_leastPair 36 = .ok (.iload_n 1, 1) := by decide +kernel
theorem dX12_leastPair_37 : decode cX12_leastPair 37 = .ok (.iaload, 1) := by decide +kernel
theorem dX12_leastPair_38 : decode cX12_leastPair 38 = .ok (.if_icmp .ge 7, 3) := by decide +kernel
theorem dX12_leastPair_41 : decode cX12_leastPair 41 = .ok (.iload_n 2, 1) := by decide +kernel
theorem dX12_leastPair_42 : decode cX12_leastPair 42 = .ok (.goto 4, 3) := by decide +kernel
theorem dX12_leastPair_45 : decode cX12_leastPair 45 = .ok (.iload_n 1, 1) := by decide +kernel
theorem dX12_leastPair_46 : decode cX12_leastPair 46 = .ok (.istore_n 1, 1) := by decide +kernel
theorem dX12_leastPair_47 : decode cX12_leastPair 47 = .ok (.iinc 2 1, 3) := by decide +kernel
theorem dX12_leastPair_50 : decode cX12_leastPair 50 = .ok (.goto (-45), 3) := by decide +kernel
theorem dX12_leastPair_53 : decode cX12_leastPair 53 = .ok (.iload_n 1, 1) := by decide +kernel
theorem dX12_leastPair_54 : decode cX12_leastPair 54 = .ok (.ireturn, 1) := by decide +kernel
theorem dX12_why_0 : decode cX12_why 0 = .ok (.iload_n 1, 1) := by decide +kernel
theorem dX12_why_1 : decode cX12_why 1 = .ok (.invokestatic 96, 3) := by decide +kernel
theorem dX12_why_4 : decode cX12_why 4 = .ok (.ifCond .ne 5, 3) := by decide +kernel
theorem dX12_why_7 : decode cX12_why 7 = .ok (.iconst (-1), 1) := by decide +kernel
theorem dX12_why_8 : decode cX12_why 8 = .ok (.ireturn, 1) := by decide +kernel
theorem dX12_why_9 : decode cX12_why 9 = .ok (.aload_n 0, 1) := by decide +kernel
theorem dX12_why_10 : decode cX12_why 10 = .ok (.iload_n 1, 1) := by decide +kernel
theorem dX12_why_11 : decode cX12_why 11 = .ok (.invokevirtual 269, 3) := by decide +kernel
theorem dX12_why_14 : decode cX12_why 14 = .ok (.istore_n 2, 1) := by decide +kernel
theorem dX12_why_15 : decode cX12_why 15 = .ok (.iload_n 2, 1) := by decide +kernel
theorem dX12_why_16 : decode cX12_why 16 = .ok (.ifCond .ge 5, 3) := by decide +kernel
theorem dX12_why_19 : decode cX12_why 19 = .ok (.iload_n 2, 1) := by decide +kernel
theorem dX12_why_20 : decode cX12_why 20 = .ok (.ireturn, 1) := by decide +kernel
theorem dX12_why_21 : decode cX12_why 21 = .ok (.aload_n 0, 1) := by decide +kernel
theorem dX12_why_22 : decode cX12_why 22 = .ok (.invokevirtual 272, 3) := by decide +kernel
theorem dX12_why_25 : decode cX12_why 25 = .ok (.istore_n 3, 1) := by decide +kernel
theorem dX12_why_26 : decode cX12_why 26 = .ok (.aload_n 0, 1) := by decide +kernel
theorem dX12_why_27 : decode cX12_why 27 = .ok (.aload_n 0, 1) := by decide +kernel
theorem dX12_why_28 : decode cX12_why 28 = .ok (.getfield 63, 3) := by decide +kernel
theorem dX12_why_31 : decode cX12_why 31 = .ok (.iload_n 3, 1) := by decide +kernel
theorem dX12_why_32 : decode cX12_why 32 = .ok (.iaload, 1) := by decide +kernel
theorem dX12_why_33 : decode cX12_why 33 = .ok (.bipush 10, 2) := by decide +kernel
theorem dX12_why_35 : decode cX12_why 35 = .ok (.iload_n 3, 1) := by decide +kernel
theorem dX12_why_36 : decode cX12_why 36 = .ok (.iconst 4, 1) := by decide +kernel
theorem dX12_why_37 : decode cX12_why 37 = .ok (.idiv, 1) := by decide +kernel
theorem dX12_why_38 : decode cX12_why 38 = .ok (.imul, 1) := by decide +kernel
theorem dX12_why_39 : decode cX12_why 39 = .ok (.iload_n 3, 1) := by decide +kernel
theorem dX12_why_40 : decode cX12_why 40 = .ok (.iconst 4, 1) := by decide +kernel
theorem dX12_why_41 : decode cX12_why 41 = .ok (.irem, 1) := by decide +kernel
theorem dX12_why_42 : decode cX12_why 42 = .ok (.iadd, 1) := by decide +kernel
theorem dX12_why_43 : decode cX12_why 43 = .ok (.invokevirtual 108, 3) := by decide +kernel
theorem dX12_why_46 : decode cX12_why 46 = .ok (.ireturn, 1) := by decide +kernel
theorem dX12_odds_0 : decode cX12_odds 0 = .ok (.iload_n 1, 1) := by decide +kernel
theorem dX12_odds_1 : decode cX12_odds 1 = .ok (.invokestatic 96, 3) := by decide +kernel
theorem dX12_odds_4 : decode cX12_odds 4 = .ok (.ifCond .eq 10, 3) := by decide +kernel
theorem dX12_odds_7 : decode cX12_odds 7 = .ok (.iload_n 2, 1) := by decide +kernel
theorem dX12_odds_8 : decode cX12_odds 8 = .ok (.invokestatic 151, 3) := by decide +kernel
theorem dX12_odds_11 : decode cX12_odds 11 = .ok (.ifCond .ne 5, 3) := by decide +kernel
theorem dX12_odds_14 : decode cX12_odds 14 = .ok (.iconst (-1), 1) := by decide +kernel
theorem dX12_odds_15 : decode cX12_odds 15 = .ok (.ireturn, 1) := by decide +kernel
theorem dX12_odds_16 : decode cX12_odds 16 = .ok (.aload_n 0, 1) := by decide +kernel
theorem dX12_odds_17 : decode cX12_odds 17 = .ok (.iload_n 1, 1) := by decide +kernel
theorem dX12_odds_18 : decode cX12_odds 18 = .ok (.invokevirtual 269, 3) := by decide +kernel
theorem dX12_odds_21 : decode cX12_odds 21 = .ok (.istore_n 3, 1) := by decide +kernel
theorem dX12_odds_22 : decode cX12_odds 22 = .ok (.iload_n 3, 1) := by decide +kernel
theorem dX12_odds_23 : decode cX12_odds 23 = .ok (.ifCond .ge 5, 3) := by decide +kernel
theorem dX12_odds_26 : decode cX12_odds 26 = .ok (.iload_n 3, 1) := by decide +kernel
theorem dX12_odds_27 : decode cX12_odds 27 = .ok (.ireturn, 1) := by decide +kernel
theorem dX12_odds_28 : decode cX12_odds 28 = .ok (.iconst 0, 1) := by decide +kernel
theorem dX12_odds_29 : decode cX12_odds 29 = .ok (.istore 4, 2) := by decide +kernel
theorem dX12_odds_31 : decode cX12_odds 31 = .ok (.iconst 0, 1) := by decide +kernel
theorem dX12_odds_32 : decode cX12_odds 32 = .ok (.istore 5, 2) := by decide +kernel
theorem dX12_odds_34 : decode cX12_odds 34 = .ok (.iconst 0, 1) := by decide +kernel
theorem dX12_odds_35 : decode cX12_odds 35 = .ok (.istore 6, 2) := by decide +kernel
theorem dX12_odds_37 : decode cX12_odds 37 = .ok (.iload 6, 2) := by decide +kernel
theorem dX12_odds_39 : decode cX12_odds 39 = .ok (.bipush 16, 2) := by decide +kernel
theorem dX12_odds_41 : decode cX12_odds 41 = .ok (.if_icmp .ge 83, 3) := by decide +kernel
theorem dX12_odds_44 : decode cX12_odds 44 = .ok (.aload_n 0, 1) := by decide +kernel
theorem dX12_odds_45 : decode cX12_odds 45 = .ok (.getfield 63, 3) := by decide +kernel
theorem dX12_odds_48 : decode cX12_odds 48 = .ok (.iload 6, 2) := by decide +kernel
theorem dX12_odds_50 : decode cX12_odds 50 = .ok (.iaload, 1) := by decide +kernel
theorem dX12_odds_51 : decode cX12_odds 51 = .ok (.ifCond .lt 26, 3) := by decide +kernel
theorem dX12_odds_54 : decode cX12_odds 54 = .ok (.aload_n 0, 1) := by decide +kernel
theorem dX12_odds_55 : decode cX12_odds 55 = .ok (.getfield 63, 3) := by decide +kernel
theorem dX12_odds_58 : decode cX12_odds 58 = .ok (.iload 6, 2) := by decide +kernel
theorem dX12_odds_60 : decode cX12_odds 60 = .ok (.iaload, 1) := by decide +kernel
theorem dX12_odds_61 : decode cX12_odds 61 = .ok (.aload_n 0, 1) := by decide +kernel
theorem dX12_odds_62 : decode cX12_odds 62 = .ok (.getfield 63, 3) := by decide +kernel
theorem dX12_odds_65 : decode cX12_odds 65 = .ok (.aload_n 0, 1) := by decide +kernel
theorem dX12_odds_66 : decode cX12_odds 66 = .ok (.invokevirtual 272, 3) := by decide +kernel
theorem dX12_odds_69 : decode cX12_odds 69 = .ok (.iaload, 1) := by decide +kernel
theorem dX12_odds_70 : decode cX12_odds 70 = .ok (.if_icmp .ne 7, 3) := by decide +kernel
theorem dX12_odds_73 : decode cX12_odds 73 = .ok (.iconst 1, 1) := by decide +kernel
theorem dX12_odds_74 : decode cX12_odds 74 = .ok (.goto 4, 3) := by decide +kernel
theorem dX12_odds_77 : decode cX12_odds 77 = .ok (.iconst 0, 1) := by decide +kernel
theorem dX12_odds_78 : decode cX12_odds 78 = .ok (.istore 7, 2) := by decide +kernel
theorem dX12_odds_80 : decode cX12_odds 80 = .ok (.iload 4, 2) := by decide +kernel
theorem dX12_odds_82 : decode cX12_odds 82 = .ok (.iload 7, 2) := by decide +kernel
theorem dX12_odds_84 : decode cX12_odds 84 = .ok (.ifCond .eq 7, 3) := by decide +kernel
theorem dX12_odds_87 : decode cX12_odds 87 = .ok (.iconst 1, 1) := by decide +kernel
theorem dX12_odds_88 : decode cX12_odds 88 = .ok (.goto 4, 3) := by decide +kernel
theorem dX12_odds_91 : decode cX12_odds 91 = .ok (.iconst 0, 1) := by decide +kernel
theorem dX12_odds_92 : decode cX12_odds 92 = .ok (.iadd, 1) := by decide +kernel
theorem dX12_odds_93 : decode cX12_odds 93 = .ok (.istore 4, 2) := by decide +kernel
theorem dX12_odds_95 : decode cX12_odds 95 = .ok (.iload 5, 2) := by decide +kernel
theorem dX12_odds_97 : decode cX12_odds 97 = .ok (.iload 7, 2) := by decide +kernel
theorem dX12_odds_99 : decode cX12_odds 99 = .ok (.ifCond .eq 15, 3) := by decide +kernel
theorem dX12_odds_102 : decode cX12_odds 102 = .ok (.iload 6, 2) := by decide +kernel
theorem dX12_odds_104 : decode cX12_odds 104 = .ok (.iconst 4, 1) := by decide +kernel
theorem dX12_odds_105 : decode cX12_odds 105 = .ok (.idiv, 1) := by decide +kernel
theorem dX12_odds_106 : decode cX12_odds 106 = .ok (.iload_n 2, 1) := by decide +kernel
theorem dX12_odds_107 : decode cX12_odds 107 = .ok (.if_icmp .ne 7, 3) := by decide +kernel
theorem dX12_odds_110 : decode cX12_odds 110 = .ok (.iconst 1, 1) := by decide +kernel
theorem dX12_odds_111 : decode cX12_odds 111 = .ok (.goto 4, 3) := by decide +kernel
theorem dX12_odds_114 : decode cX12_odds 114 = .ok (.iconst 0, 1) := by decide +kernel
theorem dX12_odds_115 : decode cX12_odds 115 = .ok (.iadd, 1) := by decide +kernel
theorem dX12_odds_116 : decode cX12_odds 116 = .ok (.istore 5, 2) := by decide +kernel
theorem dX12_odds_118 : decode cX12_odds 118 = .ok (.iinc 6 1, 3) := by decide +kernel
theorem dX12_odds_121 : decode cX12_odds 121 = .ok (.goto (-84), 3) := by decide +kernel
theorem dX12_odds_124 : decode cX12_odds 124 = .ok (.aload_n 0, 1) := by decide +kernel
theorem dX12_odds_125 : decode cX12_odds 125 = .ok (.iload 5, 2) := by decide +kernel
theorem dX12_odds_127 : decode cX12_odds 127 = .ok (.i2l, 1) := by decide +kernel
theorem dX12_odds_128 : decode cX12_odds 128 = .ok (.iload 4, 2) := by decide +kernel
theorem dX12_odds_130 : decode cX12_odds 130 = .ok (.i2l, 1) := by decide +kernel
theorem dX12_odds_131 : decode cX12_odds 131 = .ok (.iload 4, 2) := by decide +kernel
theorem dX12_odds_133 : decode cX12_odds 133 = .ok (.invokevirtual 275, 3) := by decide +kernel
theorem dX12_odds_136 : decode cX12_odds 136 = .ok (.ireturn, 1) := by decide +kernel
theorem dX12_needBoth_0 : decode cX12_needBoth 0 = .ok (.iload_n 1, 1) := by decide +kernel
theorem dX12_needBoth_1 : decode cX12_needBoth 1 = .ok (.invokestatic 151, 3) := by decide +kernel
theorem dX12_needBoth_4 : decode cX12_needBoth 4 = .ok (.ifCond .eq 17, 3) := by decide +kernel
theorem dX12_needBoth_7 : decode cX12_needBoth 7 = .ok (.iload_n 2, 1) := by decide +kernel
theorem dX12_needBoth_8 : decode cX12_needBoth 8 = .ok (.invokestatic 151, 3) := by decide +kernel
theorem dX12_needBoth_11 : decode cX12_needBoth 11 = .ok (.ifCond .eq 10, 3) := by decide +kernel
theorem dX12_needBoth_14 : decode cX12_needBoth 14 = .ok (.iload_n 3, 1) := by decide +kernel
theorem dX12_needBoth_15 : decode cX12_needBoth 15 = .ok (.invokestatic 96, 3) := by decide +kernel
theorem dX12_needBoth_18 : decode cX12_needBoth 18 = .ok (.ifCond .ne 5, 3) := by decide +kernel
theorem dX12_needBoth_21 : decode cX12_needBoth 21 = .ok (.iconst (-1), 1) := by decide +kernel
theorem dX12_needBoth_22 : decode cX12_needBoth 22 = .ok (.ireturn, 1) := by decide +kernel
theorem dX12_needBoth_23 : decode cX12_needBoth 23 = .ok (.aload_n 0, 1) := by decide +kernel
theorem dX12_needBoth_24 : decode cX12_needBoth 24 = .ok (.iload_n 3, 1) := by decide +kernel
theorem dX12_needBoth_25 : decode cX12_needBoth 25 = .ok (.aload_n 0, 1) := by decide +kernel
theorem dX12_needBoth_26 : decode cX12_needBoth 26 = .ok (.getfield 29, 3) := by decide +kernel
theorem dX12_needBoth_29 : decode cX12_needBoth 29 = .ok (.iload_n 1, 1) := by decide +kernel
theorem dX12_needBoth_30 : decode cX12_needBoth 30 = .ok (.baload, 1) := by decide +kernel
theorem dX12_needBoth_31 : decode cX12_needBoth 31 = .ok (.ifCond .eq 16, 3) := by decide +kernel
theorem dX12_needBoth_34 : decode cX12_needBoth 34 = .ok (.aload_n 0, 1) := by decide +kernel
theorem dX12_needBoth_35 : decode cX12_needBoth 35 = .ok (.getfield 36, 3) := by decide +kernel
theorem dX12_needBoth_38 : decode cX12_needBoth 38 = .ok (.iload_n 2, 1) := by decide +kernel
theorem dX12_needBoth_39 : decode cX12_needBoth 39 = .ok (.baload, 1) := by decide +kernel
theorem dX12_needBoth_40 : decode cX12_needBoth 40 = .ok (.ifCond .eq 7, 3) := by decide +kernel
theorem dX12_needBoth_43 : decode cX12_needBoth 43 = .ok (.iconst 1, 1) := by decide +kernel
theorem dX12_needBoth_44 : decode cX12_needBoth 44 = .ok (.goto 4, 3) := by decide +kernel
theorem dX12_needBoth_47 : decode cX12_needBoth 47 = .ok (.iconst 0, 1) := by decide +kernel
theorem dX12_needBoth_48 : decode cX12_needBoth 48 = .ok (.invokevirtual 256, 3) := by decide +kernel
theorem dX12_needBoth_51 : decode cX12_needBoth 51 = .ok (.ireturn, 1) := by decide +kernel
theorem dX12_sprout_0 : decode cX12_sprout 0 = .ok (.aload_n 0, 1) := by decide +kernel
theorem dX12_sprout_1 : decode cX12_sprout 1 = .ok (.iload_n 1, 1) := by decide +kernel
theorem dX12_sprout_2 : decode cX12_sprout 2 = .ok (.iload_n 2, 1) := by decide +kernel
theorem dX12_sprout_3 : decode cX12_sprout 3 = .ok (.iload_n 3, 1) := by decide +kernel
theorem dX12_sprout_4 : decode cX12_sprout 4 = .ok (.invokevirtual 279, 3) := by decide +kernel
theorem dX12_sprout_7 : decode cX12_sprout 7 = .ok (.istore 4, 2) := by decide +kernel
theorem dX12_sprout_9 : decode cX12_sprout 9 = .ok (.iload 4, 2) := by decide +kernel
theorem dX12_sprout_11 : decode cX12_sprout 11 = .ok (.ifCond .ge 6, 3) := by decide +kernel
theorem dX12_sprout_14 : decode cX12_sprout 14 = .ok (.iload 4, 2) := by decide +kernel
theorem dX12_sprout_16 : decode cX12_sprout 16 = .ok (.ireturn, 1) := by decide +kernel
theorem dX12_sprout_17 : decode cX12_sprout 17 = .ok (.bipush (-9), 2) := by decide +kernel
theorem dX12_sprout_19 : decode cX12_sprout 19 = .ok (.istore 5, 2) := by decide +kernel
theorem dX12_sprout_21 : decode cX12_sprout 21 = .ok (.iconst 0, 1) := by decide +kernel
theorem dX12_sprout_22 : decode cX12_sprout 22 = .ok (.istore 6, 2) := by decide +kernel
theorem dX12_sprout_24 : decode cX12_sprout 24 = .ok (.iconst 0, 1) := by decide +kernel
theorem dX12_sprout_25 : decode cX12_sprout 25 = .ok (.istore 7, 2) := by decide +kernel
theorem dX12_sprout_27 : decode cX12_sprout 27 = .ok (.iload 7, 2) := by decide +kernel
theorem dX12_sprout_29 : decode cX12_sprout 29 = .ok (.bipush 9, 2) := by decide +kernel
theorem dX12_sprout_31 : decode cX12_sprout 31 = .ok (.if_icmp .gt 55, 3) := by decide +kernel
theorem dX12_sprout_34 : decode cX12_sprout 34 = .ok (.aload_n 0, 1) := by decide +kernel
theorem dX12_sprout_35 : decode cX12_sprout 35 = .ok (.iload_n 1, 1) := by decide +kernel
theorem dX12_sprout_36 : decode cX12_sprout 36 = .ok (.iload_n 2, 1) := by decide +kernel
theorem dX12_sprout_37 : decode cX12_sprout 37 = .ok (.invokevirtual 260, 3) := by decide +kernel
theorem dX12_sprout_40 : decode cX12_sprout 40 = .ok (.aload_n 0, 1) := by decide +kernel
theorem dX12_sprout_41 : decode cX12_sprout 41 = .ok (.iconst 2, 1) := by decide +kernel
theorem dX12_sprout_42 : decode cX12_sprout 42 = .ok (.iload 7, 2) := by decide +kernel
theorem dX12_sprout_44 : decode cX12_sprout 44 = .ok (.invokevirtual 163, 3) := by decide +kernel
theorem dX12_sprout_47 : decode cX12_sprout 47 = .ok (.aload_n 0, 1) := by decide +kernel
theorem dX12_sprout_48 : decode cX12_sprout 48 = .ok (.invokevirtual 263, 3) := by decide +kernel
theorem dX12_sprout_51 : decode cX12_sprout 51 = .ok (.aload_n 0, 1) := by decide +kernel
theorem dX12_sprout_52 : decode cX12_sprout 52 = .ok (.iload_n 3, 1) := by decide +kernel
theorem dX12_sprout_53 : decode cX12_sprout 53 = .ok (.invokevirtual 266, 3) := by decide +kernel
theorem dX12_sprout_56 : decode cX12_sprout 56 = .ok (.istore 8, 2) := by decide +kernel
theorem dX12_sprout_58 : decode cX12_sprout 58 = .ok (.iload 5, 2) := by decide +kernel
theorem dX12_sprout_60 : decode cX12_sprout 60 = .ok (.bipush (-9), 2) := by decide +kernel
theorem dX12_sprout_62 : decode cX12_sprout 62 = .ok (.if_icmp .eq 10, 3) := by decide +kernel
theorem dX12_sprout_65 : decode cX12_sprout 65 = .ok (.iload 8, 2) := by decide +kernel
theorem dX12_sprout_67 : decode cX12_sprout 67 = .ok (.iload 6, 2) := by decide +kernel
theorem dX12_sprout_69 : decode cX12_sprout 69 = .ok (.if_icmp .ge 11, 3) := by decide +kernel
theorem dX12_sprout_72 : decode cX12_sprout 72 = .ok (.iload 7, 2) := by decide +kernel
theorem dX12_sprout_74 : decode cX12_sprout 74 = .ok (.istore 5, 2) := by decide +kernel
theorem dX12_sprout_76 : decode cX12_sprout 76 = .ok (.iload 8, 2) := by decide +kernel
theorem dX12_sprout_78 : decode cX12_sprout 78 = .ok (.istore 6, 2) := by decide +kernel
theorem dX12_sprout_80 : decode cX12_sprout 80 = .ok (.iinc 7 1, 3) := by decide +kernel
theorem dX12_sprout_83 : decode cX12_sprout 83 = .ok (.goto (-56), 3) := by decide +kernel
theorem dX12_sprout_86 : decode cX12_sprout 86 = .ok (.aload_n 0, 1) := by decide +kernel
theorem dX12_sprout_87 : decode cX12_sprout 87 = .ok (.iload 6, 2) := by decide +kernel
theorem dX12_sprout_89 : decode cX12_sprout 89 = .ok (.iload 5, 2) := by decide +kernel
theorem dX12_sprout_91 : decode cX12_sprout 91 = .ok (.invokevirtual 108, 3) := by decide +kernel
theorem dX12_sprout_94 : decode cX12_sprout 94 = .ok (.ireturn, 1) := by decide +kernel
theorem dX12_shiftOvens_0 : decode cX12_shiftOvens 0 = .ok (.iconst 0, 1) := by decide +kernel
theorem dX12_shiftOvens_1 : decode cX12_shiftOvens 1 = .ok (.istore_n 2, 1) := by decide +kernel
theorem dX12_shiftOvens_2 : decode cX12_shiftOvens 2 = .ok (.iload_n 2, 1) := by decide +kernel
theorem dX12_shiftOvens_3 : decode cX12_shiftOvens 3 = .ok (.aload_n 0, 1) := by decide +kernel
theorem dX12_shiftOvens_4 : decode cX12_shiftOvens 4 = .ok (.iconst 5, 1) := by decide +kernel
theorem dX12_shiftOvens_5 : decode cX12_shiftOvens 5 = .ok (.invokevirtual 160, 3) := by decide +kernel
theorem dX12_shiftOvens_8 : decode cX12_shiftOvens 8 = .ok (.if_icmp .ge 48, 3) := by decide +kernel
theorem dX12_shiftOvens_11 : decode cX12_shiftOvens 11 = .ok (.aload_n 0, 1) := by decide +kernel
theorem dX12_shiftOvens_12 : decode cX12_shiftOvens 12 = .ok (.iload_n 2, 1) := by decide +kernel
theorem dX12_shiftOvens_13 : decode cX12_shiftOvens 13 = .ok (.iconst 0, 1) := by decide +kernel
theorem dX12_shiftOvens_14 : decode cX12_shiftOvens 14 = .ok (.invokevirtual 171, 3) := by decide +kernel
theorem dX12_shiftOvens_17 : decode cX12_shiftOvens 17 = .ok (.iconst 2, 1) := by decide +kernel
theorem dX12_shiftOvens_18 : decode cX12_shiftOvens 18 = .ok (.if_icmp .ne 32, 3) := by decide +kernel
theorem dX12_shiftOvens_21 : decode cX12_shiftOvens 21 = .ok (.aload_n 0, 1) := by decide +kernel
theorem dX12_shiftOvens_22 : decode cX12_shiftOvens 22 = .ok (.bipush 6, 2) := by decide +kernel
theorem dX12_shiftOvens_24 : decode cX12_shiftOvens 24 = .ok (.iconst 3, 1) := by decide +kernel
theorem dX12_shiftOvens_25 : decode cX12_shiftOvens 25 = .ok (.iload_n 2, 1) := by decide +kernel
theorem dX12_shiftOvens_26 : decode cX12_shiftOvens 26 = .ok (.imul, 1) := by decide +kernel
theorem dX12_shiftOvens_27 : decode cX12_shiftOvens 27 = .ok (.iadd, 1) := by decide +kernel
theorem dX12_shiftOvens_28 : decode cX12_shiftOvens 28 = .ok (.iconst 1, 1) := by decide +kernel
theorem dX12_shiftOvens_29 : decode cX12_shiftOvens 29 = .ok (.iadd, 1) := by decide +kernel
theorem dX12_shiftOvens_30 : decode cX12_shiftOvens 30 = .ok (.iconst 0, 1) := by decide +kernel
theorem dX12_shiftOvens_31 : decode cX12_shiftOvens 31 = .ok (.bipush 9, 2) := by decide +kernel
theorem dX12_shiftOvens_33 : decode cX12_shiftOvens 33 = .ok (.aload_n 0, 1) := by decide +kernel
theorem dX12_shiftOvens_34 : decode cX12_shiftOvens 34 = .ok (.iload_n 2, 1) := by decide +kernel
theorem dX12_shiftOvens_35 : decode cX12_shiftOvens 35 = .ok (.iconst 1, 1) := by decide +kernel
theorem dX12_shiftOvens_36 : decode cX12_shiftOvens 36 = .ok (.invokevirtual 171, 3) := by decide +kernel
theorem dX12_shiftOvens_39 : decode cX12_shiftOvens 39 = .ok (.iload_n 1, 1) := by decide +kernel
theorem dX12_shiftOvens_40 : decode cX12_shiftOvens 40 = .ok (.iadd, 1) := by decide +kernel
theorem dX12_shiftOvens_41 : decode cX12_shiftOvens 41 = .ok (.invokestatic 200, 3) := by decide +kernel
theorem dX12_shiftOvens_44 : decode cX12_shiftOvens 44 = .ok (.invokestatic 197, 3) := by decide +kernel
theorem dX12_shiftOvens_47 : decode cX12_shiftOvens 47 = .ok (.invokevirtual 163, 3) := by decide +kernel
theorem dX12_shiftOvens_50 : decode cX12_shiftOvens 50 = .ok (.iinc 2 1, 3) := by decide +kernel
theorem dX12_shiftOvens_53 : decode cX12_shiftOvens 53 = .ok (.goto (-51), 3) := by decide +kernel
theorem dX12_shiftOvens_56 : decode cX12_shiftOvens 56 = .ok (.return_, 1) := by decide +kernel
theorem dX12_rack_0 : decode cX12_rack 0 = .ok (.aload_n 0, 1) := by decide +kernel
theorem dX12_rack_1 : decode cX12_rack 1 = .ok (.iload_n 1, 1) := by decide +kernel
theorem dX12_rack_2 : decode cX12_rack 2 = .ok (.iload_n 2, 1) := by decide +kernel
theorem dX12_rack_3 : decode cX12_rack 3 = .ok (.iload_n 3, 1) := by decide +kernel
theorem dX12_rack_4 : decode cX12_rack 4 = .ok (.invokevirtual 279, 3) := by decide +kernel
theorem dX12_rack_7 : decode cX12_rack 7 = .ok (.istore 4, 2) := by decide +kernel
theorem dX12_rack_9 : decode cX12_rack 9 = .ok (.iload 4, 2) := by decide +kernel
theorem dX12_rack_11 : decode cX12_rack 11 = .ok (.ifCond .ge 6, 3) := by decide +kernel
theorem dX12_rack_14 : decode cX12_rack 14 = .ok (.iload 4, 2) := by decide +kernel
theorem dX12_rack_16 : decode cX12_rack 16 = .ok (.ireturn, 1) := by decide +kernel
theorem dX12_rack_17 : decode cX12_rack 17 = .ok (.bipush (-9), 2) := by decide +kernel
theorem dX12_rack_19 : decode cX12_rack 19 = .ok (.istore 5, 2) := by decide +kernel
theorem dX12_rack_21 : decode cX12_rack 21 = .ok (.iconst 0, 1) := by decide +kernel
theorem dX12_rack_22 : decode cX12_rack 22 = .ok (.istore 6, 2) := by decide +kernel
theorem dX12_rack_24 : decode cX12_rack 24 = .ok (.iconst 0, 1) := by decide +kernel
theorem dX12_rack_25 : decode cX12_rack 25 = .ok (.istore 7, 2) := by decide +kernel
theorem dX12_rack_27 : decode cX12_rack 27 = .ok (.iload 7, 2) := by decide +kernel
theorem dX12_rack_29 : decode cX12_rack 29 = .ok (.iconst 5, 1) := by decide +kernel
theorem dX12_rack_30 : decode cX12_rack 30 = .ok (.if_icmp .ge 80, 3) := by decide +kernel
theorem dX12_rack_33 : decode cX12_rack 33 = .ok (.iload 7, 2) := by decide +kernel
theorem dX12_rack_35 : decode cX12_rack 35 = .ok (.iconst 2, 1) := by decide +kernel
theorem dX12_rack_36 : decode cX12_rack 36 = .ok (.irem, 1) := by decide +kernel
theorem dX12_rack_37 : decode cX12_rack 37 = .ok (.iconst 1, 1) := by decide +kernel
theorem dX12_rack_38 : decode cX12_rack 38 = .ok (.if_icmp .ne 13, 3) := by decide +kernel
theorem dX12_rack_41 : decode cX12_rack 41 = .ok (.iload 7, 2) := by decide +kernel
theorem dX12_rack_43 : decode cX12_rack 43 = .ok (.iconst 1, 1) := by decide +kernel
theorem dX12_rack_44 : decode cX12_rack 44 = .ok (.iadd, 1) := by decide +kernel
theorem dX12_rack_45 : decode cX12_rack 45 = .ok (.ineg, 1) := by decide +kernel
theorem dX12_rack_46 : decode cX12_rack 46 = .ok (.iconst 2, 1) := by decide +kernel
theorem dX12_rack_47 : decode cX12_rack 47 = .ok (.idiv, 1) := by decide +kernel
theorem dX12_rack_48 : decode cX12_rack 48 = .ok (.goto 7, 3) := by decide +kernel
theorem dX12_rack_51 : decode cX12_rack 51 = .ok (.iload 7, 2) := by decide +kernel
theorem dX12_rack_53 : decode cX12_rack 53 = .ok (.iconst 2, 1) := by decide +kernel
theorem dX12_rack_54 : decode cX12_rack 54 = .ok (.idiv, 1) := by decide +kernel
theorem dX12_rack_55 : decode cX12_rack 55 = .ok (.istore 8, 2) := by decide +kernel
theorem dX12_rack_57 : decode cX12_rack 57 = .ok (.aload_n 0, 1) := by decide +kernel
theorem dX12_rack_58 : decode cX12_rack 58 = .ok (.iload_n 1, 1) := by decide +kernel
theorem dX12_rack_59 : decode cX12_rack 59 = .ok (.iload_n 2, 1) := by decide +kernel
theorem dX12_rack_60 : decode cX12_rack 60 = .ok (.invokevirtual 260, 3) := by decide +kernel
theorem dX12_rack_63 : decode cX12_rack 63 = .ok (.aload_n 0, 1) := by decide +kernel
theorem dX12_rack_64 : decode cX12_rack 64 = .ok (.iload 8, 2) := by decide +kernel
theorem dX12_rack_66 : decode cX12_rack 66 = .ok (.invokevirtual 283, 3) := by decide +kernel
theorem dX12_rack_69 : decode cX12_rack 69 = .ok (.aload_n 0, 1) := by decide +kernel
theorem dX12_rack_70 : decode cX12_rack 70 = .ok (.invokevirtual 263, 3) := by decide +kernel
theorem dX12_rack_73 : decode cX12_rack 73 = .ok (.aload_n 0, 1) := by decide +kernel
theorem dX12_rack_74 : decode cX12_rack 74 = .ok (.iload_n 3, 1) := by decide +kernel
theorem dX12_rack_75 : decode cX12_rack 75 = .ok (.invokevirtual 266, 3) := by decide +kernel
theorem dX12_rack_78 : decode cX12_rack 78 = .ok (.istore 9, 2) := by decide +kernel
theorem dX12_rack_80 : decode cX12_rack 80 = .ok (.iload 5, 2) := by decide +kernel
theorem dX12_rack_82 : decode cX12_rack 82 = .ok (.bipush (-9), 2) := by decide +kernel
theorem dX12_rack_84 : decode cX12_rack 84 = .ok (.if_icmp .eq 10, 3) := by decide +kernel
theorem dX12_rack_87 : decode cX12_rack 87 = .ok (.iload 9, 2) := by decide +kernel
theorem dX12_rack_89 : decode cX12_rack 89 = .ok (.iload 6, 2) := by decide +kernel
theorem dX12_rack_91 : decode cX12_rack 91 = .ok (.if_icmp .ge 13, 3) := by decide +kernel
theorem dX12_rack_94 : decode cX12_rack 94 = .ok (.iload 8, 2) := by decide +kernel
theorem dX12_rack_96 : decode cX12_rack 96 = .ok (.iconst 5, 1) := by decide +kernel
theorem dX12_rack_97 : decode cX12_rack 97 = .ok (.iadd, 1) := by decide +kernel
theorem dX12_rack_98 : decode cX12_rack 98 = .ok (.istore 5, 2) := by decide +kernel
theorem dX12_rack_100 : decode cX12_rack 100 = .ok (.iload 9, 2) := by decide +kernel
theorem dX12_rack_102 : decode cX12_rack 102 = .ok (.istore 6, 2) := by decide +kernel
theorem dX12_rack_104 : decode cX12_rack 104 = .ok (.iinc 7 1, 3) := by decide +kernel
theorem dX12_rack_107 : decode cX12_rack 107 = .ok (.goto (-80), 3) := by decide +kernel
theorem dX12_rack_110 : decode cX12_rack 110 = .ok (.aload_n 0, 1) := by decide +kernel
theorem dX12_rack_111 : decode cX12_rack 111 = .ok (.iload 6, 2) := by decide +kernel
theorem dX12_rack_113 : decode cX12_rack 113 = .ok (.iload 5, 2) := by decide +kernel
theorem dX12_rack_115 : decode cX12_rack 115 = .ok (.invokevirtual 108, 3) := by decide +kernel
theorem dX12_rack_118 : decode cX12_rack 118 = .ok (.ireturn, 1) := by decide +kernel
theorem dX12_keepDoing_0 : decode cX12_keepDoing 0 = .ok (.iconst 0, 1) := by decide +kernel
theorem dX12_keepDoing_1 : decode cX12_keepDoing 1 = .ok (.istore_n 1, 1) := by decide +kernel
theorem dX12_keepDoing_2 : decode cX12_keepDoing 2 = .ok (.iload_n 1, 1) := by decide +kernel
theorem dX12_keepDoing_3 : decode cX12_keepDoing 3 = .ok (.bipush 31, 2) := by decide +kernel
theorem dX12_keepDoing_5 : decode cX12_keepDoing 5 = .ok (.if_icmp .ge 22, 3) := by decide +kernel
theorem dX12_keepDoing_8 : decode cX12_keepDoing 8 = .ok (.aload_n 0, 1) := by decide +kernel
theorem dX12_keepDoing_9 : decode cX12_keepDoing 9 = .ok (.getfield 66, 3) := by decide +kernel
theorem dX12_keepDoing_12 : decode cX12_keepDoing 12 = .ok (.iload_n 1, 1) := by decide +kernel
theorem dX12_keepDoing_13 : decode cX12_keepDoing 13 = .ok (.aload_n 0, 1) := by decide +kernel
theorem dX12_keepDoing_14 : decode cX12_keepDoing 14 = .ok (.iconst 5, 1) := by decide +kernel
theorem dX12_keepDoing_15 : decode cX12_keepDoing 15 = .ok (.iload_n 1, 1) := by decide +kernel
theorem dX12_keepDoing_16 : decode cX12_keepDoing 16 = .ok (.iadd, 1) := by decide +kernel
theorem dX12_keepDoing_17 : decode cX12_keepDoing 17 = .ok (.invokevirtual 160, 3) := by decide +kernel
theorem dX12_keepDoing_20 : decode cX12_keepDoing 20 = .ok (.iastore, 1) := by decide +kernel
theorem dX12_keepDoing_21 : decode cX12_keepDoing 21 = .ok (.iinc 1 1, 3) := by decide +kernel
theorem dX12_keepDoing_24 : decode cX12_keepDoing 24 = .ok (.goto (-22), 3) := by decide +kernel
theorem dX12_keepDoing_27 : decode cX12_keepDoing 27 = .ok (.return_, 1) := by decide +kernel
theorem dX12_backDoing_0 : decode cX12_backDoing 0 = .ok (.iconst 0, 1) := by decide +kernel
theorem dX12_backDoing_1 : decode cX12_backDoing 1 = .ok (.istore_n 1, 1) := by decide +kernel
theorem dX12_backDoing_2 : decode cX12_backDoing 2 = .ok (.iload_n 1, 1) := by decide +kernel
theorem dX12_backDoing_3 : decode cX12_backDoing 3 = .ok (.bipush 31, 2) := by decide +kernel
theorem dX12_backDoing_5 : decode cX12_backDoing 5 = .ok (.if_icmp .ge 22, 3) := by decide +kernel
theorem dX12_backDoing_8 : decode cX12_backDoing 8 = .ok (.aload_n 0, 1) := by decide +kernel
theorem dX12_backDoing_9 : decode cX12_backDoing 9 = .ok (.iconst 5, 1) := by decide +kernel
theorem dX12_backDoing_10 : decode cX12_backDoing 10 = .ok (.iload_n 1, 1) := by decide +kernel
theorem dX12_backDoing_11 : decode cX12_backDoing 11 = .ok (.iadd, 1) := by decide +kernel
theorem dX12_backDoing_12 : decode cX12_backDoing 12 = .ok (.aload_n 0, 1) := by decide +kernel
theorem dX12_backDoing_13 : decode cX12_backDoing 13 = .ok (.getfield 66, 3) := by decide +kernel
theorem dX12_backDoing_16 : decode cX12_backDoing 16 = .ok (.iload_n 1, 1) := by decide +kernel
theorem dX12_backDoing_17 : decode cX12_backDoing 17 = .ok (.iaload, 1) := by decide +kernel
theorem dX12_backDoing_18 : decode cX12_backDoing 18 = .ok (.invokevirtual 163, 3) := by decide +kernel
theorem dX12_backDoing_21 : decode cX12_backDoing 21 = .ok (.iinc 1 1, 3) := by decide +kernel
theorem dX12_backDoing_24 : decode cX12_backDoing 24 = .ok (.goto (-22), 3) := by decide +kernel
theorem dX12_backDoing_27 : decode cX12_backDoing 27 = .ok (.return_, 1) := by decide +kernel
theorem dX12_canChange_0 : decode cX12_canChange 0 = .ok (.iload_n 1, 1) := by decide +kernel
theorem dX12_canChange_1 : decode cX12_canChange 1 = .ok (.bipush 10, 2) := by decide +kernel
theorem dX12_canChange_3 : decode cX12_canChange 3 = .ok (.idiv, 1) := by decide +kernel
theorem dX12_canChange_4 : decode cX12_canChange 4 = .ok (.istore_n 2, 1) := by decide +kernel
theorem dX12_canChange_5 : decode cX12_canChange 5 = .ok (.iload_n 1, 1) := by decide +kernel
theorem dX12_canChange_6 : decode cX12_canChange 6 = .ok (.bipush 10, 2) := by decide +kernel
theorem dX12_canChange_8 : decode cX12_canChange 8 = .ok (.irem, 1) := by decide +kernel
theorem dX12_canChange_9 : decode cX12_canChange 9 = .ok (.istore_n 3, 1) := by decide +kernel
theorem dX12_canChange_10 : decode cX12_canChange 10 = .ok (.iload_n 2, 1) := by decide +kernel
theorem dX12_canChange_11 : decode cX12_canChange 11 = .ok (.aload_n 0, 1) := by decide +kernel
theorem dX12_canChange_12 : decode cX12_canChange 12 = .ok (.iconst 5, 1) := by decide +kernel
theorem dX12_canChange_13 : decode cX12_canChange 13 = .ok (.invokevirtual 160, 3) := by decide +kernel
theorem dX12_canChange_16 : decode cX12_canChange 16 = .ok (.if_icmp .ge 8, 3) := by decide +kernel
theorem dX12_canChange_19 : decode cX12_canChange 19 = .ok (.iload_n 3, 1) := by decide +kernel
theorem dX12_canChange_20 : decode cX12_canChange 20 = .ok (.iconst 4, 1) := by decide +kernel
theorem dX12_canChange_21 : decode cX12_canChange 21 = .ok (.if_icmp .le 5, 3) := by decide +kernel
theorem dX12_canChange_24 : decode cX12_canChange 24 = .ok (.iconst 0, 1) := by decide +kernel
theorem dX12_canChange_25 : decode cX12_canChange 25 = .ok (.ireturn, 1) := by decide +kernel
theorem dX12_canChange_26 : decode cX12_canChange 26 = .ok (.aload_n 0, 1) := by decide +kernel
theorem dX12_canChange_27 : decode cX12_canChange 27 = .ok (.iload_n 2, 1) := by decide +kernel
theorem dX12_canChange_28 : decode cX12_canChange 28 = .ok (.iconst 0, 1) := by decide +kernel
theorem dX12_canChange_29 : decode cX12_canChange 29 = .ok (.invokevirtual 171, 3) := by decide +kernel
theorem dX12_canChange_32 : decode cX12_canChange 32 = .ok (.iconst 2, 1) := by decide +kernel
theorem dX12_canChange_33 : decode cX12_canChange 33 = .ok (.if_icmp .gt 7, 3) := by decide +kernel
theorem dX12_canChange_36 : decode cX12_canChange 36 = .ok (.iconst 1, 1) := by decide +kernel
theorem dX12_canChange_37 : decode cX12_canChange 37 = .ok (.goto 4, 3) := by decide +kernel
theorem dX12_canChange_40 : decode cX12_canChange 40 = .ok (.iconst 0, 1) := by decide +kernel
theorem dX12_canChange_41 : decode cX12_canChange 41 = .ok (.istore 4, 2) := by decide +kernel
theorem dX12_canChange_43 : decode cX12_canChange 43 = .ok (.iload_n 3, 1) := by decide +kernel
theorem dX12_canChange_44 : decode cX12_canChange 44 = .ok (.iconst 4, 1) := by decide +kernel
theorem dX12_canChange_45 : decode cX12_canChange 45 = .ok (.if_icmp .ne 24, 3) := by decide +kernel
theorem dX12_canChange_48 : decode cX12_canChange 48 = .ok (.iload 4, 2) := by decide +kernel
theorem dX12_canChange_50 : decode cX12_canChange 50 = .ok (.ifCond .ne 8, 3) := by decide +kernel
theorem dX12_canChange_53 : decode cX12_canChange 53 = .ok (.aload_n 0, 1) := by decide +kernel
theorem dX12_canChange_54 : decode cX12_canChange 54 = .ok (.iload_n 2, 1) := by decide +kernel
theorem dX12_canChange_55 : decode cX12_canChange 55 = .ok (.invokevirtual 286, 3) := by decide +kernel
theorem dX12_canChange_58 : decode cX12_canChange 58 = .ok (.iload 4, 2) := by decide +kernel
theorem dX12_canChange_60 : decode cX12_canChange 60 = .ok (.ifCond .ne 7, 3) := by decide +kernel
theorem dX12_canChange_63 : decode cX12_canChange 63 = .ok (.iconst 1, 1) := by decide +kernel
theorem dX12_canChange_64 : decode cX12_canChange 64 = .ok (.goto 4, 3) := by decide +kernel
theorem dX12_canChange_67 : decode cX12_canChange 67 = .ok (.iconst 0, 1) := by decide +kernel
theorem dX12_canChange_68 : decode cX12_canChange 68 = .ok (.ireturn, 1) := by decide +kernel
theorem dX12_canChange_69 : decode cX12_canChange 69 = .ok (.aload_n 0, 1) := by decide +kernel
theorem dX12_canChange_70 : decode cX12_canChange 70 = .ok (.iload_n 2, 1) := by decide +kernel
theorem dX12_canChange_71 : decode cX12_canChange 71 = .ok (.iconst 1, 1) := by decide +kernel
theorem dX12_canChange_72 : decode cX12_canChange 72 = .ok (.invokevirtual 171, 3) := by decide +kernel
theorem dX12_canChange_75 : decode cX12_canChange 75 = .ok (.iload_n 3, 1) := by decide +kernel
theorem dX12_canChange_76 : decode cX12_canChange 76 = .ok (.ifCond .ne 7, 3) := by decide +kernel
theorem dX12_canChange_79 : decode cX12_canChange 79 = .ok (.iconst (-1), 1) := by decide +kernel
theorem dX12_canChange_80 : decode cX12_canChange 80 = .ok (.goto 13, 3) := by decide +kernel
theorem dX12_canChange_83 : decode cX12_canChange 83 = .ok (.iload_n 3, 1) := by decide +kernel
theorem dX12_canChange_84 : decode cX12_canChange 84 = .ok (.iconst 1, 1) := by decide +kernel
theorem dX12_canChange_85 : decode cX12_canChange 85 = .ok (.if_icmp .ne 7, 3) := by decide +kernel
theorem dX12_canChange_88 : decode cX12_canChange 88 = .ok (.iconst 1, 1) := by decide +kernel
theorem dX12_canChange_89 : decode cX12_canChange 89 = .ok (.goto 4, 3) := by decide +kernel
theorem dX12_canChange_92 : decode cX12_canChange 92 = .ok (.iconst 0, 1) := by decide +kernel
theorem dX12_canChange_93 : decode cX12_canChange 93 = .ok (.iadd, 1) := by decide +kernel
theorem dX12_canChange_94 : decode cX12_canChange 94 = .ok (.istore 5, 2) := by decide +kernel
theorem dX12_canChange_96 : decode cX12_canChange 96 = .ok (.aload_n 0, 1) := by decide +kernel
theorem dX12_canChange_97 : decode cX12_canChange 97 = .ok (.iload_n 2, 1) := by decide +kernel
theorem dX12_canChange_98 : decode cX12_canChange 98 = .ok (.iconst 2, 1) := by decide +kernel
theorem dX12_canChange_99 : decode cX12_canChange 99 = .ok (.invokevirtual 171, 3) := by decide +kernel
theorem dX12_canChange_102 : decode cX12_canChange 102 = .ok (.iload_n 3, 1) := by decide +kernel
theorem dX12_canChange_103 : decode cX12_canChange 103 = .ok (.iconst 2, 1) := by decide +kernel
theorem dX12_canChange_104 : decode cX12_canChange 104 = .ok (.if_icmp .ne 7, 3) := by decide +kernel
theorem dX12_canChange_107 : decode cX12_canChange 107 = .ok (.iconst (-1), 1) := by decide +kernel
theorem dX12_canChange_108 : decode cX12_canChange 108 = .ok (.goto 13, 3) := by decide +kernel
theorem dX12_canChange_111 : decode cX12_canChange 111 = .ok (.iload_n 3, 1) := by decide +kernel
theorem dX12_canChange_112 : decode cX12_canChange 112 = .ok (.iconst 3, 1) := by decide +kernel
theorem dX12_canChange_113 : decode cX12_canChange 113 = .ok (.if_icmp .ne 7, 3) := by decide +kernel
theorem dX12_canChange_116 : decode cX12_canChange 116 = .ok (.iconst 1, 1) := by decide +kernel
theorem dX12_canChange_117 : decode cX12_canChange 117 = .ok (.goto 4, 3) := by decide +kernel
theorem dX12_canChange_120 : decode cX12_canChange 120 = .ok (.iconst 0, 1) := by decide +kernel
theorem dX12_canChange_121 : decode cX12_canChange 121 = .ok (.iadd, 1) := by decide +kernel
