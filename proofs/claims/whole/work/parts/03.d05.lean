theorem dX12_copy_55 : decode cX12_copy 55 = .ok (.iload 4, 2) := by decide +kernel
theorem dX12_copy_57 : decode cX12_copy 57 = .ok (.ifCond .lt 38, 3) := by decide +kernel
theorem dX12_copy_60 : decode cX12_copy 60 = .ok (.iload_n 2, 1) := by decide +kernel
theorem dX12_copy_61 : decode cX12_copy 61 = .ok (.i2l, 1) := by decide +kernel
theorem dX12_copy_62 : decode cX12_copy 62 = .ok (.iload 5, 2) := by decide +kernel
theorem dX12_copy_64 : decode cX12_copy 64 = .ok (.i2l, 1) := by decide +kernel
theorem dX12_copy_65 : decode cX12_copy 65 = .ok (.ladd, 1) := by decide +kernel
theorem dX12_copy_66 : decode cX12_copy 66 = .ok (.aload_n 0, 1) := by decide +kernel
theorem dX12_copy_67 : decode cX12_copy 67 = .ok (.getfield 13, 3) := by decide +kernel
theorem dX12_copy_70 : decode cX12_copy 70 = .ok (.iload_n 1, 1) := by decide +kernel
theorem dX12_copy_71 : decode cX12_copy 71 = .ok (.iaload, 1) := by decide +kernel
theorem dX12_copy_72 : decode cX12_copy 72 = .ok (.i2l, 1) := by decide +kernel
theorem dX12_copy_73 : decode cX12_copy 73 = .ok (.lcmp, 1) := by decide +kernel
theorem dX12_copy_74 : decode cX12_copy 74 = .ok (.ifCond .gt 21, 3) := by decide +kernel
theorem dX12_copy_77 : decode cX12_copy 77 = .ok (.iload 4, 2) := by decide +kernel
theorem dX12_copy_79 : decode cX12_copy 79 = .ok (.i2l, 1) := by decide +kernel
theorem dX12_copy_80 : decode cX12_copy 80 = .ok (.iload 5, 2) := by decide +kernel
theorem dX12_copy_82 : decode cX12_copy 82 = .ok (.i2l, 1) := by decide +kernel
theorem dX12_copy_83 : decode cX12_copy 83 = .ok (.ladd, 1) := by decide +kernel
theorem dX12_copy_84 : decode cX12_copy 84 = .ok (.aload_n 0, 1) := by decide +kernel
theorem dX12_copy_85 : decode cX12_copy 85 = .ok (.getfield 13, 3) := by decide +kernel
theorem dX12_copy_88 : decode cX12_copy 88 = .ok (.iload_n 3, 1) := by decide +kernel
theorem dX12_copy_89 : decode cX12_copy 89 = .ok (.iaload, 1) := by decide +kernel
theorem dX12_copy_90 : decode cX12_copy 90 = .ok (.i2l, 1) := by decide +kernel
theorem dX12_copy_91 : decode cX12_copy 91 = .ok (.lcmp, 1) := by decide +kernel
theorem dX12_copy_92 : decode cX12_copy 92 = .ok (.ifCond .le 9, 3) := by decide +kernel
theorem dX12_copy_95 : decode cX12_copy 95 = .ok (.aload_n 0, 1) := by decide +kernel
theorem dX12_copy_96 : decode cX12_copy 96 = .ok (.iconst 2, 1) := by decide +kernel
theorem dX12_copy_97 : decode cX12_copy 97 = .ok (.invokevirtual 100, 3) := by decide +kernel
theorem dX12_copy_100 : decode cX12_copy 100 = .ok (.ireturn, 1) := by decide +kernel
theorem dX12_copy_101 : decode cX12_copy 101 = .ok (.iconst 0, 1) := by decide +kernel
theorem dX12_copy_102 : decode cX12_copy 102 = .ok (.istore 6, 2) := by decide +kernel
theorem dX12_copy_104 : decode cX12_copy 104 = .ok (.iload 6, 2) := by decide +kernel
theorem dX12_copy_106 : decode cX12_copy 106 = .ok (.iload 5, 2) := by decide +kernel
theorem dX12_copy_108 : decode cX12_copy 108 = .ok (.if_icmp .ge 25, 3) := by decide +kernel
theorem dX12_copy_111 : decode cX12_copy 111 = .ok (.aload_n 0, 1) := by decide +kernel
theorem dX12_copy_112 : decode cX12_copy 112 = .ok (.getfield 19, 3) := by decide +kernel
theorem dX12_copy_115 : decode cX12_copy 115 = .ok (.iload 6, 2) := by decide +kernel
theorem dX12_copy_117 : decode cX12_copy 117 = .ok (.aload_n 0, 1) := by decide +kernel
theorem dX12_copy_118 : decode cX12_copy 118 = .ok (.iload_n 1, 1) := by decide +kernel
theorem dX12_copy_119 : decode cX12_copy 119 = .ok (.iload_n 2, 1) := by decide +kernel
theorem dX12_copy_120 : decode cX12_copy 120 = .ok (.iload 6, 2) := by decide +kernel
theorem dX12_copy_122 : decode cX12_copy 122 = .ok (.iadd, 1) := by decide +kernel
theorem dX12_copy_123 : decode cX12_copy 123 = .ok (.invokevirtual 104, 3) := by decide +kernel
theorem dX12_copy_126 : decode cX12_copy 126 = .ok (.iastore, 1) := by decide +kernel
theorem dX12_copy_127 : decode cX12_copy 127 = .ok (.iinc 6 1, 3) := by decide +kernel
theorem dX12_copy_130 : decode cX12_copy 130 = .ok (.goto (-26), 3) := by decide +kernel
theorem dX12_copy_133 : decode cX12_copy 133 = .ok (.iconst 0, 1) := by decide +kernel
theorem dX12_copy_134 : decode cX12_copy 134 = .ok (.istore 6, 2) := by decide +kernel
theorem dX12_copy_136 : decode cX12_copy 136 = .ok (.iload 6, 2) := by decide +kernel
theorem dX12_copy_138 : decode cX12_copy 138 = .ok (.iload 5, 2) := by decide +kernel
theorem dX12_copy_140 : decode cX12_copy 140 = .ok (.if_icmp .ge 31, 3) := by decide +kernel
theorem dX12_copy_143 : decode cX12_copy 143 = .ok (.aload_n 0, 1) := by decide +kernel
theorem dX12_copy_144 : decode cX12_copy 144 = .ok (.getfield 16, 3) := by decide +kernel
theorem dX12_copy_147 : decode cX12_copy 147 = .ok (.bipush 40, 2) := by decide +kernel
theorem dX12_copy_149 : decode cX12_copy 149 = .ok (.iload_n 3, 1) := by decide +kernel
theorem dX12_copy_150 : decode cX12_copy 150 = .ok (.imul, 1) := by decide +kernel
theorem dX12_copy_151 : decode cX12_copy 151 = .ok (.iload 4, 2) := by decide +kernel
theorem dX12_copy_153 : decode cX12_copy 153 = .ok (.iadd, 1) := by decide +kernel
theorem dX12_copy_154 : decode cX12_copy 154 = .ok (.iload 6, 2) := by decide +kernel
theorem dX12_copy_156 : decode cX12_copy 156 = .ok (.iadd, 1) := by decide +kernel
theorem dX12_copy_157 : decode cX12_copy 157 = .ok (.aload_n 0, 1) := by decide +kernel
theorem dX12_copy_158 : decode cX12_copy 158 = .ok (.getfield 19, 3) := by decide +kernel
theorem dX12_copy_161 : decode cX12_copy 161 = .ok (.iload 6, 2) := by decide +kernel
theorem dX12_copy_163 : decode cX12_copy 163 = .ok (.iaload, 1) := by decide +kernel
theorem dX12_copy_164 : decode cX12_copy 164 = .ok (.iastore, 1) := by decide +kernel
theorem dX12_copy_165 : decode cX12_copy 165 = .ok (.iinc 6 1, 3) := by decide +kernel
theorem dX12_copy_168 : decode cX12_copy 168 = .ok (.goto (-32), 3) := by decide +kernel
theorem dX12_copy_171 : decode cX12_copy 171 = .ok (.iconst 1, 1) := by decide +kernel
theorem dX12_copy_172 : decode cX12_copy 172 = .ok (.ireturn, 1) := by decide +kernel
theorem dX12_mean_0 : decode cX12_mean 0 = .ok (.iload_n 1, 1) := by decide +kernel
theorem dX12_mean_1 : decode cX12_mean 1 = .ok (.invokestatic 96, 3) := by decide +kernel
theorem dX12_mean_4 : decode cX12_mean 4 = .ok (.ifCond .ne 5, 3) := by decide +kernel
theorem dX12_mean_7 : decode cX12_mean 7 = .ok (.iconst (-1), 1) := by decide +kernel
theorem dX12_mean_8 : decode cX12_mean 8 = .ok (.ireturn, 1) := by decide +kernel
theorem dX12_mean_9 : decode cX12_mean 9 = .ok (.aload_n 0, 1) := by decide +kernel
theorem dX12_mean_10 : decode cX12_mean 10 = .ok (.getfield 13, 3) := by decide +kernel
theorem dX12_mean_13 : decode cX12_mean 13 = .ok (.iload_n 1, 1) := by decide +kernel
theorem dX12_mean_14 : decode cX12_mean 14 = .ok (.iaload, 1) := by decide +kernel
theorem dX12_mean_15 : decode cX12_mean 15 = .ok (.ifCond .ge 9, 3) := by decide +kernel
theorem dX12_mean_18 : decode cX12_mean 18 = .ok (.aload_n 0, 1) := by decide +kernel
theorem dX12_mean_19 : decode cX12_mean 19 = .ok (.iconst 1, 1) := by decide +kernel
theorem dX12_mean_20 : decode cX12_mean 20 = .ok (.invokevirtual 100, 3) := by decide +kernel
theorem dX12_mean_23 : decode cX12_mean 23 = .ok (.ireturn, 1) := by decide +kernel
theorem dX12_mean_24 : decode cX12_mean 24 = .ok (.aload_n 0, 1) := by decide +kernel
theorem dX12_mean_25 : decode cX12_mean 25 = .ok (.getfield 13, 3) := by decide +kernel
theorem dX12_mean_28 : decode cX12_mean 28 = .ok (.iload_n 1, 1) := by decide +kernel
theorem dX12_mean_29 : decode cX12_mean 29 = .ok (.iaload, 1) := by decide +kernel
theorem dX12_mean_30 : decode cX12_mean 30 = .ok (.ifCond .ne 9, 3) := by decide +kernel
theorem dX12_mean_33 : decode cX12_mean 33 = .ok (.aload_n 0, 1) := by decide +kernel
theorem dX12_mean_34 : decode cX12_mean 34 = .ok (.iconst 4, 1) := by decide +kernel
theorem dX12_mean_35 : decode cX12_mean 35 = .ok (.invokevirtual 100, 3) := by decide +kernel
theorem dX12_mean_38 : decode cX12_mean 38 = .ok (.ireturn, 1) := by decide +kernel
theorem dX12_mean_39 : decode cX12_mean 39 = .ok (.lconst 0, 1) := by decide +kernel
theorem dX12_mean_40 : decode cX12_mean 40 = .ok (.lstore_n 2, 1) := by decide +kernel
theorem dX12_mean_41 : decode cX12_mean 41 = .ok (.iconst 0, 1) := by decide +kernel
theorem dX12_mean_42 : decode cX12_mean 42 = .ok (.istore 4, 2) := by decide +kernel
theorem dX12_mean_44 : decode cX12_mean 44 = .ok (.iload 4, 2) := by decide +kernel
theorem dX12_mean_46 : decode cX12_mean 46 = .ok (.aload_n 0, 1) := by decide +kernel
theorem dX12_mean_47 : decode cX12_mean 47 = .ok (.getfield 13, 3) := by decide +kernel
theorem dX12_mean_50 : decode cX12_mean 50 = .ok (.iload_n 1, 1) := by decide +kernel
theorem dX12_mean_51 : decode cX12_mean 51 = .ok (.iaload, 1) := by decide +kernel
theorem dX12_mean_52 : decode cX12_mean 52 = .ok (.if_icmp .ge 20, 3) := by decide +kernel
theorem dX12_mean_55 : decode cX12_mean 55 = .ok (.lload_n 2, 1) := by decide +kernel
theorem dX12_mean_56 : decode cX12_mean 56 = .ok (.aload_n 0, 1) := by decide +kernel
theorem dX12_mean_57 : decode cX12_mean 57 = .ok (.iload_n 1, 1) := by decide +kernel
theorem dX12_mean_58 : decode cX12_mean 58 = .ok (.iload 4, 2) := by decide +kernel
theorem dX12_mean_60 : decode cX12_mean 60 = .ok (.invokevirtual 104, 3) := by decide +kernel
theorem dX12_mean_63 : decode cX12_mean 63 = .ok (.i2l, 1) := by decide +kernel
theorem dX12_mean_64 : decode cX12_mean 64 = .ok (.ladd, 1) := by decide +kernel
theorem dX12_mean_65 : decode cX12_mean 65 = .ok (.lstore_n 2, 1) := by decide +kernel
theorem dX12_mean_66 : decode cX12_mean 66 = .ok (.iinc 4 1, 3) := by decide +kernel
theorem dX12_mean_69 : decode cX12_mean 69 = .ok (.goto (-25), 3) := by decide +kernel
theorem dX12_mean_72 : decode cX12_mean 72 = .ok (.aload_n 0, 1) := by decide +kernel
theorem dX12_mean_73 : decode cX12_mean 73 = .ok (.lload_n 2, 1) := by decide +kernel
theorem dX12_mean_74 : decode cX12_mean 74 = .ok (.aload_n 0, 1) := by decide +kernel
theorem dX12_mean_75 : decode cX12_mean 75 = .ok (.getfield 13, 3) := by decide +kernel
theorem dX12_mean_78 : decode cX12_mean 78 = .ok (.iload_n 1, 1) := by decide +kernel
theorem dX12_mean_79 : decode cX12_mean 79 = .ok (.iaload, 1) := by decide +kernel
theorem dX12_mean_80 : decode cX12_mean 80 = .ok (.i2l, 1) := by decide +kernel
theorem dX12_mean_81 : decode cX12_mean 81 = .ok (.ldiv, 1) := by decide +kernel
theorem dX12_mean_82 : decode cX12_mean 82 = .ok (.l2i, 1) := by decide +kernel
theorem dX12_mean_83 : decode cX12_mean 83 = .ok (.iconst 1, 1) := by decide +kernel
theorem dX12_mean_84 : decode cX12_mean 84 = .ok (.invokevirtual 108, 3) := by decide +kernel
theorem dX12_mean_87 : decode cX12_mean 87 = .ok (.ireturn, 1) := by decide +kernel
theorem dX12_isText_0 : decode cX12_isText 0 = .ok (.iload_n 0, 1) := by decide +kernel
theorem dX12_isText_1 : decode cX12_isText 1 = .ok (.iconst 0, 1) := by decide +kernel
theorem dX12_isText_2 : decode cX12_isText 2 = .ok (.iconst 3, 1) := by decide +kernel
theorem dX12_isText_3 : decode cX12_isText 3 = .ok (.invokestatic 86, 3) := by decide +kernel
theorem dX12_isText_6 : decode cX12_isText 6 = .ok (.ireturn, 1) := by decide +kernel
theorem dX12_text_0 : decode cX12_text 0 = .ok (.iload_n 1, 1) := by decide +kernel
theorem dX12_text_1 : decode cX12_text 1 = .ok (.invokestatic 111, 3) := by decide +kernel
theorem dX12_text_4 : decode cX12_text 4 = .ok (.ifCond .eq 9, 3) := by decide +kernel
theorem dX12_text_7 : decode cX12_text 7 = .ok (.iload_n 2, 1) := by decide +kernel
theorem dX12_text_8 : decode cX12_text 8 = .ok (.bipush 80, 2) := by decide +kernel
theorem dX12_text_10 : decode cX12_text 10 = .ok (.if_icmp .le 5, 3) := by decide +kernel
theorem dX12_text_13 : decode cX12_text 13 = .ok (.iconst (-1), 1) := by decide +kernel
theorem dX12_text_14 : decode cX12_text 14 = .ok (.ireturn, 1) := by decide +kernel
theorem dX12_text_15 : decode cX12_text 15 = .ok (.iload_n 2, 1) := by decide +kernel
theorem dX12_text_16 : decode cX12_text 16 = .ok (.ifCond .ge 9, 3) := by decide +kernel
theorem dX12_text_19 : decode cX12_text 19 = .ok (.aload_n 0, 1) := by decide +kernel
theorem dX12_text_20 : decode cX12_text 20 = .ok (.iconst 5, 1) := by decide +kernel
theorem dX12_text_21 : decode cX12_text 21 = .ok (.invokevirtual 100, 3) := by decide +kernel
theorem dX12_text_24 : decode cX12_text 24 = .ok (.ireturn, 1) := by decide +kernel
theorem dX12_text_25 : decode cX12_text 25 = .ok (.aload_n 0, 1) := by decide +kernel
theorem dX12_text_26 : decode cX12_text 26 = .ok (.getfield 22, 3) := by decide +kernel
theorem dX12_text_29 : decode cX12_text 29 = .ok (.iload_n 1, 1) := by decide +kernel
theorem dX12_text_30 : decode cX12_text 30 = .ok (.iload_n 2, 1) := by decide +kernel
theorem dX12_text_31 : decode cX12_text 31 = .ok (.iastore, 1) := by decide +kernel
theorem dX12_text_32 : decode cX12_text 32 = .ok (.iconst 0, 1) := by decide +kernel
theorem dX12_text_33 : decode cX12_text 33 = .ok (.istore_n 3, 1) := by decide +kernel
theorem dX12_text_34 : decode cX12_text 34 = .ok (.iload_n 3, 1) := by decide +kernel
theorem dX12_text_35 : decode cX12_text 35 = .ok (.bipush 80, 2) := by decide +kernel
theorem dX12_text_37 : decode cX12_text 37 = .ok (.if_icmp .ge 22, 3) := by decide +kernel
theorem dX12_text_40 : decode cX12_text 40 = .ok (.aload_n 0, 1) := by decide +kernel
theorem dX12_text_41 : decode cX12_text 41 = .ok (.getfield 25, 3) := by decide +kernel
theorem dX12_text_44 : decode cX12_text 44 = .ok (.bipush 80, 2) := by decide +kernel
theorem dX12_text_46 : decode cX12_text 46 = .ok (.iload_n 1, 1) := by decide +kernel
theorem dX12_text_47 : decode cX12_text 47 = .ok (.imul, 1) := by decide +kernel
theorem dX12_text_48 : decode cX12_text 48 = .ok (.iload_n 3, 1) := by decide +kernel
theorem dX12_text_49 : decode cX12_text 49 = .ok (.iadd, 1) := by decide +kernel
theorem dX12_text_50 : decode cX12_text 50 = .ok (.bipush 32, 2) := by decide +kernel
theorem dX12_text_52 : decode cX12_text 52 = .ok (.bastore, 1) := by decide +kernel
theorem dX12_text_53 : decode cX12_text 53 = .ok (.iinc 3 1, 3) := by decide +kernel
theorem dX12_text_56 : decode cX12_text 56 = .ok (.goto (-22), 3) := by decide +kernel
theorem dX12_text_59 : decode cX12_text 59 = .ok (.iload_n 2, 1) := by decide +kernel
theorem dX12_text_60 : decode cX12_text 60 = .ok (.ireturn, 1) := by decide +kernel
theorem dX12_put_0 : decode cX12_put 0 = .ok (.iload_n 1, 1) := by decide +kernel
theorem dX12_put_1 : decode cX12_put 1 = .ok (.invokestatic 111, 3) := by decide +kernel
theorem dX12_put_4 : decode cX12_put 4 = .ok (.ifCond .ne 5, 3) := by decide +kernel
theorem dX12_put_7 : decode cX12_put 7 = .ok (.iconst (-1), 1) := by decide +kernel
theorem dX12_put_8 : decode cX12_put 8 = .ok (.ireturn, 1) := by decide +kernel
theorem dX12_put_9 : decode cX12_put 9 = .ok (.aload_n 0, 1) := by decide +kernel
theorem dX12_put_10 : decode cX12_put 10 = .ok (.getfield 22, 3) := by decide +kernel
theorem dX12_put_13 : decode cX12_put 13 = .ok (.iload_n 1, 1) := by decide +kernel
theorem dX12_put_14 : decode cX12_put 14 = .ok (.iaload, 1) := by decide +kernel
theorem dX12_put_15 : decode cX12_put 15 = .ok (.ifCond .ge 9, 3) := by decide +kernel
theorem dX12_put_18 : decode cX12_put 18 = .ok (.aload_n 0, 1) := by decide +kernel
theorem dX12_put_19 : decode cX12_put 19 = .ok (.iconst 1, 1) := by decide +kernel
theorem dX12_put_20 : decode cX12_put 20 = .ok (.invokevirtual 100, 3) := by decide +kernel
theorem dX12_put_23 : decode cX12_put 23 = .ok (.ireturn, 1) := by decide +kernel
theorem dX12_put_24 : decode cX12_put 24 = .ok (.iload_n 2, 1) := by decide +kernel
theorem dX12_put_25 : decode cX12_put 25 = .ok (.iconst 0, 1) := by decide +kernel
theorem dX12_put_26 : decode cX12_put 26 = .ok (.aload_n 0, 1) := by decide +kernel
theorem dX12_put_27 : decode cX12_put 27 = .ok (.getfield 22, 3) := by decide +kernel
theorem dX12_put_30 : decode cX12_put 30 = .ok (.iload_n 1, 1) := by decide +kernel
theorem dX12_put_31 : decode cX12_put 31 = .ok (.iaload, 1) := by decide +kernel
theorem dX12_put_32 : decode cX12_put 32 = .ok (.iconst 1, 1) := by decide +kernel
theorem dX12_put_33 : decode cX12_put 33 = .ok (.isub, 1) := by decide +kernel
theorem dX12_put_34 : decode cX12_put 34 = .ok (.invokestatic 86, 3) := by decide +kernel
theorem dX12_put_37 : decode cX12_put 37 = .ok (.ifCond .ne 9, 3) := by decide +kernel
theorem dX12_put_40 : decode cX12_put 40 = .ok (.aload_n 0, 1) := by decide +kernel
theorem dX12_put_41 : decode cX12_put 41 = .ok (.iconst 2, 1) := by decide +kernel
theorem dX12_put_42 : decode cX12_put 42 = .ok (.invokevirtual 100, 3) := by decide +kernel
theorem dX12_put_45 : decode cX12_put 45 = .ok (.ireturn, 1) := by decide +kernel
theorem dX12_put_46 : decode cX12_put 46 = .ok (.aload_n 0, 1) := by decide +kernel
theorem dX12_put_47 : decode cX12_put 47 = .ok (.getfield 25, 3) := by decide +kernel
theorem dX12_put_50 : decode cX12_put 50 = .ok (.bipush 80, 2) := by decide +kernel
theorem dX12_put_52 : decode cX12_put 52 = .ok (.iload_n 1, 1) := by decide +kernel
theorem dX12_put_53 : decode cX12_put 53 = .ok (.imul, 1) := by decide +kernel
theorem dX12_put_54 : decode cX12_put 54 = .ok (.iload_n 2, 1) := by decide +kernel
theorem dX12_put_55 : decode cX12_put 55 = .ok (.iadd, 1) := by decide +kernel
theorem dX12_put_56 : decode cX12_put 56 = .ok (.baload, 1) := by decide +kernel
theorem dX12_put_57 : decode cX12_put 57 = .ok (.istore 4, 2) := by decide +kernel
theorem dX12_put_59 : decode cX12_put 59 = .ok (.aload_n 0, 1) := by decide +kernel
theorem dX12_put_60 : decode cX12_put 60 = .ok (.getfield 25, 3) := by decide +kernel
theorem dX12_put_63 : decode cX12_put 63 = .ok (.bipush 80, 2) := by decide +kernel
theorem dX12_put_65 : decode cX12_put 65 = .ok (.iload_n 1, 1) := by decide +kernel
theorem dX12_put_66 : decode cX12_put 66 = .ok (.imul, 1) := by decide +kernel
theorem dX12_put_67 : decode cX12_put 67 = .ok (.iload_n 2, 1) := by decide +kernel
theorem dX12_put_68 : decode cX12_put 68 = .ok (.iadd, 1) := by decide +kernel
theorem dX12_put_69 : decode cX12_put 69 = .ok (.iload_n 3, 1) := by decide +kernel
theorem dX12_put_70 : decode cX12_put 70 = .ok (.i2b, 1) := by decide +kernel
theorem dX12_put_71 : decode cX12_put 71 = .ok (.bastore, 1) := by decide +kernel
theorem dX12_put_72 : decode cX12_put 72 = .ok (.sipush 1000, 3) := by decide +kernel
theorem dX12_put_75 : decode cX12_put 75 = .ok (.iload 4, 2) := by decide +kernel
theorem dX12_put_77 : decode cX12_put 77 = .ok (.iadd, 1) := by decide +kernel
theorem dX12_put_78 : decode cX12_put 78 = .ok (.ireturn, 1) := by decide +kernel
theorem dX12_byteAt_0 : decode cX12_byteAt 0 = .ok (.iload_n 2, 1) := by decide +kernel
theorem dX12_byteAt_1 : decode cX12_byteAt 1 = .ok (.aload_n 0, 1) := by decide +kernel
theorem dX12_byteAt_2 : decode cX12_byteAt 2 = .ok (.getfield 22, 3) := by decide +kernel
theorem dX12_byteAt_5 : decode cX12_byteAt 5 = .ok (.iload_n 1, 1) := by decide +kernel
theorem dX12_byteAt_6 : decode cX12_byteAt 6 = .ok (.iaload, 1) := by decide +kernel
theorem dX12_byteAt_7 : decode cX12_byteAt 7 = .ok (.if_icmp .ge 17, 3) := by decide +kernel
theorem dX12_byteAt_10 : decode cX12_byteAt 10 = .ok (.aload_n 0, 1) := by decide +kernel
theorem dX12_byteAt_11 : decode cX12_byteAt 11 = .ok (.getfield 25, 3) := by decide +kernel
theorem dX12_byteAt_14 : decode cX12_byteAt 14 = .ok (.bipush 80, 2) := by decide +kernel
theorem dX12_byteAt_16 : decode cX12_byteAt 16 = .ok (.iload_n 1, 1) := by decide +kernel
theorem dX12_byteAt_17 : decode cX12_byteAt 17 = .ok (.imul, 1) := by decide +kernel
theorem dX12_byteAt_18 : decode cX12_byteAt 18 = .ok (.iload_n 2, 1) := by decide +kernel
theorem dX12_byteAt_19 : decode cX12_byteAt 19 = .ok (.iadd, 1) := by decide +kernel
theorem dX12_byteAt_20 : decode cX12_byteAt 20 = .ok (.baload, 1) := by decide +kernel
theorem dX12_byteAt_21 : decode cX12_byteAt 21 = .ok (.goto 4, 3) := by decide +kernel
theorem dX12_byteAt_24 : decode cX12_byteAt 24 = .ok (.iconst 0, 1) := by decide +kernel
theorem dX12_byteAt_25 : decode cX12_byteAt 25 = .ok (.ireturn, 1) := by decide +kernel
theorem dX12_sign_0 : decode cX12_sign 0 = .ok (.aload_n 0, 1) := by decide +kernel
theorem dX12_sign_1 : decode cX12_sign 1 = .ok (.iload_n 1, 1) := by decide +kernel
theorem dX12_sign_2 : decode cX12_sign 2 = .ok (.aload_n 0, 1) := by decide +kernel
theorem dX12_sign_3 : decode cX12_sign 3 = .ok (.getfield 114, 3) := by decide +kernel
theorem dX12_sign_6 : decode cX12_sign 6 = .ok (.invokevirtual 117, 3) := by decide +kernel
theorem dX12_sign_9 : decode cX12_sign 9 = .ok (.iload_n 2, 1) := by decide +kernel
theorem dX12_sign_10 : decode cX12_sign 10 = .ok (.if_icmp .ne 7, 3) := by decide +kernel
theorem dX12_sign_13 : decode cX12_sign 13 = .ok (.iconst 1, 1) := by decide +kernel
theorem dX12_sign_14 : decode cX12_sign 14 = .ok (.goto 4, 3) := by decide +kernel
theorem dX12_sign_17 : decode cX12_sign 17 = .ok (.iconst 0, 1) := by decide +kernel
theorem dX12_sign_18 : decode cX12_sign 18 = .ok (.istore_n 3, 1) := by decide +kernel
theorem dX12_sign_19 : decode cX12_sign 19 = .ok (.aload_n 0, 1) := by decide +kernel
theorem dX12_sign_20 : decode cX12_sign 20 = .ok (.dup, 1) := by decide +kernel
theorem dX12_sign_21 : decode cX12_sign 21 = .ok (.getfield 114, 3) := by decide +kernel
theorem dX12_sign_24 : decode cX12_sign 24 = .ok (.iload_n 3, 1) := by decide +kernel
theorem dX12_sign_25 : decode cX12_sign 25 = .ok (.ifCond .eq 7, 3) := by decide +kernel
theorem dX12_sign_28 : decode cX12_sign 28 = .ok (.iconst 1, 1) := by decide +kernel
theorem dX12_sign_29 : decode cX12_sign 29 = .ok (.goto 4, 3) := by decide +kernel
theorem dX12_sign_32 : decode cX12_sign 32 = .ok (.iconst 0, 1) := by decide +kernel
theorem dX12_sign_33 : decode cX12_sign 33 = .ok (.iadd, 1) := by decide +kernel
theorem dX12_sign_34 : decode cX12_sign 34 = .ok (.putfield 114, 3) := by decide +kernel
theorem dX12_sign_37 : decode cX12_sign 37 = .ok (.iload_n 3, 1) := by decide +kernel
theorem dX12_sign_38 : decode cX12_sign 38 = .ok (.ireturn, 1) := by decide +kernel
theorem dX12_number_0 : decode cX12_number 0 = .ok (.iconst 0, 1) := by decide +kernel
theorem dX12_number_1 : decode cX12_number 1 = .ok (.istore 4, 2) := by decide +kernel
theorem dX12_number_3 : decode cX12_number 3 = .ok (.iconst 0, 1) := by decide +kernel
theorem dX12_number_4 : decode cX12_number 4 = .ok (.istore 5, 2) := by decide +kernel
theorem dX12_number_6 : decode cX12_number 6 = .ok (.iload 4, 2) := by decide +kernel
theorem dX12_number_8 : decode cX12_number 8 = .ok (.iconst 2, 1) := by decide +kernel
theorem dX12_number_9 : decode cX12_number 9 = .ok (.if_icmp .ge 58, 3) := by decide +kernel
theorem dX12_number_12 : decode cX12_number 12 = .ok (.aload_n 0, 1) := by decide +kernel
theorem dX12_number_13 : decode cX12_number 13 = .ok (.iload_n 1, 1) := by decide +kernel
theorem dX12_number_14 : decode cX12_number 14 = .ok (.aload_n 0, 1) := by decide +kernel
theorem dX12_number_15 : decode cX12_number 15 = .ok (.getfield 114, 3) := by decide +kernel
theorem dX12_number_18 : decode cX12_number 18 = .ok (.invokevirtual 117, 3) := by decide +kernel
theorem dX12_number_21 : decode cX12_number 21 = .ok (.bipush 48, 2) := by decide +kernel
theorem dX12_number_23 : decode cX12_number 23 = .ok (.bipush 57, 2) := by decide +kernel
theorem dX12_number_25 : decode cX12_number 25 = .ok (.invokestatic 86, 3) := by decide +kernel
theorem dX12_number_28 : decode cX12_number 28 = .ok (.ifCond .eq 39, 3) := by decide +kernel
theorem dX12_number_31 : decode cX12_number 31 = .ok (.bipush 10, 2) := by decide +kernel
theorem dX12_number_33 : decode cX12_number 33 = .ok (.iload 5, 2) := by decide +kernel
theorem dX12_number_35 : decode cX12_number 35 = .ok (.imul, 1) := by decide +kernel
theorem dX12_number_36 : decode cX12_number 36 = .ok (.aload_n 0, 1) := by decide +kernel
theorem dX12_number_37 : decode cX12_number 37 = .ok (.iload_n 1, 1) := by decide +kernel
theorem dX12_number_38 : decode cX12_number 38 = .ok (.aload_n 0, 1) := by decide +kernel
theorem dX12_number_39 : decode cX12_number 39 = .ok (.getfield 114, 3) := by decide +kernel
theorem dX12_number_42 : decode cX12_number 42 = .ok (.invokevirtual 117, 3) := by decide +kernel
theorem dX12_number_45 : decode cX12_number 45 = .ok (.iadd, 1) := by decide +kernel
theorem dX12_number_46 : decode cX12_number 46 = .ok (.bipush 48, 2) := by decide +kernel
theorem dX12_number_48 : decode cX12_number 48 = .ok (.isub, 1) := by decide +kernel
theorem dX12_number_49 : decode cX12_number 49 = .ok (.istore 5, 2) := by decide +kernel
theorem dX12_number_51 : decode cX12_number 51 = .ok (.aload_n 0, 1) := by decide +kernel
theorem dX12_number_52 : decode cX12_number 52 = .ok (.dup, 1) := by decide +kernel
theorem dX12_number_53 : decode cX12_number 53 = .ok (.getfield 114, 3) := by decide +kernel
theorem dX12_number_56 : decode cX12_number 56 = .ok (.iconst 1, 1) := by decide +kernel
theorem dX12_number_57 : decode cX12_number 57 = .ok (.iadd, 1) := by decide +kernel
theorem dX12_number_58 : decode cX12_number 58 = .ok (.putfield 114, 3) := by decide +kernel
theorem dX12_number_61 : decode cX12_number 61 = .ok (.iinc 4 1, 3) := by decide +kernel
theorem dX12_number_64 : decode cX12_number 64 = .ok (.goto (-58), 3) := by decide +kernel
theorem dX12_number_67 : decode cX12_number 67 = .ok (.aload_n 0, 1) := by decide +kernel
theorem dX12_number_68 : decode cX12_number 68 = .ok (.iload 5, 2) := by decide +kernel
theorem dX12_number_70 : decode cX12_number 70 = .ok (.putfield 120, 3) := by decide +kernel
theorem dX12_number_73 : decode cX12_number 73 = .ok (.iload 4, 2) := by decide +kernel
theorem dX12_number_75 : decode cX12_number 75 = .ok (.ifCond .le 17, 3) := by decide +kernel
theorem dX12_number_78 : decode cX12_number 78 = .ok (.iload 5, 2) := by decide +kernel
theorem dX12_number_80 : decode cX12_number 80 = .ok (.iload_n 2, 1) := by decide +kernel
theorem dX12_number_81 : decode cX12_number 81 = .ok (.iload_n 3, 1) := by decide +kernel
theorem dX12_number_82 : decode cX12_number 82 = .ok (.invokestatic 86, 3) := by decide +kernel
theorem dX12_number_85 : decode cX12_number 85 = .ok (.ifCond .eq 7, 3) := by decide +kernel
theorem dX12_number_88 : decode cX12_number 88 = .ok (.iconst 1, 1) := by decide +kernel
theorem dX12_number_89 : decode cX12_number 89 = .ok (.goto 4, 3) := by decide +kernel
theorem dX12_number_92 : decode cX12_number 92 = .ok (.iconst 0, 1) := by decide +kernel
theorem dX12_number_93 : decode cX12_number 93 = .ok (.ireturn, 1) := by decide +kernel
theorem dX12_itemOf_0 : decode cX12_itemOf 0 = .ok (.iload_n 0, 1) := by decide +kernel
theorem dX12_itemOf_1 : decode cX12_itemOf 1 = .ok (.bipush 121, 2) := by decide +kernel
theorem dX12_itemOf_3 : decode cX12_itemOf 3 = .ok (.if_icmp .ne 7, 3) := by decide +kernel
theorem dX12_itemOf_6 : decode cX12_itemOf 6 = .ok (.iconst 0, 1) := by decide +kernel
theorem dX12_itemOf_7 : decode cX12_itemOf 7 = .ok (.goto 45, 3) := by decide +kernel
theorem dX12_itemOf_10 : decode cX12_itemOf 10 = .ok (.iload_n 0, 1) := by decide +kernel
theorem dX12_itemOf_11 : decode cX12_itemOf 11 = .ok (.bipush 115, 2) := by decide +kernel
theorem dX12_itemOf_13 : decode cX12_itemOf 13 = .ok (.if_icmp .ne 7, 3) := by decide +kernel
theorem dX12_itemOf_16 : decode cX12_itemOf 16 = .ok (.iconst 1, 1) := by decide +kernel
theorem dX12_itemOf_17 : decode cX12_itemOf 17 = .ok (.goto 35, 3) := by decide +kernel
theorem dX12_itemOf_20 : decode cX12_itemOf 20 = .ok (.iload_n 0, 1) := by decide +kernel
theorem dX12_itemOf_21 : decode cX12_itemOf 21 = .ok (.bipush 101, 2) := by decide +kernel
theorem dX12_itemOf_23 : decode cX12_itemOf 23 = .ok (.if_icmp .ne 7, 3) := by decide +kernel
theorem dX12_itemOf_26 : decode cX12_itemOf 26 = .ok (.iconst 2, 1) := by decide +kernel
theorem dX12_itemOf_27 : decode cX12_itemOf 27 = .ok (.goto 25, 3) := by decide +kernel
theorem dX12_itemOf_30 : decode cX12_itemOf 30 = .ok (.iload_n 0, 1) := by decide +kernel
theorem dX12_itemOf_31 : decode cX12_itemOf 31 = .ok (.bipush 119, 2) := by decide +kernel
theorem dX12_itemOf_33 : decode cX12_itemOf 33 = .ok (.if_icmp .ne 7, 3) := by decide +kernel
theorem dX12_itemOf_36 : decode cX12_itemOf 36 = .ok (.iconst 3, 1) := by decide +kernel
theorem dX12_itemOf_37 : decode cX12_itemOf 37 = .ok (.goto 15, 3) := by decide +kernel
theorem dX12_itemOf_40 : decode cX12_itemOf 40 = .ok (.iload_n 0, 1) := by decide +kernel
theorem dX12_itemOf_41 : decode cX12_itemOf 41 = .ok (.bipush 116, 2) := by decide +kernel
theorem dX12_itemOf_43 : decode cX12_itemOf 43 = .ok (.if_icmp .ne 7, 3) := by decide +kernel
theorem dX12_itemOf_46 : decode cX12_itemOf 46 = .ok (.iconst 4, 1) := by decide +kernel
theorem dX12_itemOf_47 : decode cX12_itemOf 47 = .ok (.goto 5, 3) := by decide +kernel
theorem dX12_itemOf_50 : decode cX12_itemOf 50 = .ok (.bipush (-9), 2) := by decide +kernel
theorem dX12_itemOf_52 : decode cX12_itemOf 52 = .ok (.ireturn, 1) := by decide +kernel
theorem dX12_flourFault_0 : decode cX12_flourFault 0 = .ok (.aload_n 0, 1) := by decide +kernel
theorem dX12_flourFault_1 : decode cX12_flourFault 1 = .ok (.iconst 0, 1) := by decide +kernel
theorem dX12_flourFault_2 : decode cX12_flourFault 2 = .ok (.putfield 114, 3) := by decide +kernel
theorem dX12_flourFault_5 : decode cX12_flourFault 5 = .ok (.aload_n 0, 1) := by decide +kernel
theorem dX12_flourFault_6 : decode cX12_flourFault 6 = .ok (.iconst 0, 1) := by decide +kernel
theorem dX12_flourFault_7 : decode cX12_flourFault 7 = .ok (.putfield 123, 3) := by decide +kernel
theorem dX12_flourFault_10 : decode cX12_flourFault 10 = .ok (.aload_n 0, 1) := by decide +kernel
theorem dX12_flourFault_11 : decode cX12_flourFault 11 = .ok (.getfield 45, 3) := by decide +kernel
theorem dX12_flourFault_14 : decode cX12_flourFault 14 = .ok (.iconst 0, 1) := by decide +kernel
theorem dX12_flourFault_15 : decode cX12_flourFault 15 = .ok (.iconst 3, 1) := by decide +kernel
theorem dX12_flourFault_16 : decode cX12_flourFault 16 = .ok (.iastore, 1) := by decide +kernel
theorem dX12_flourFault_17 : decode cX12_flourFault 17 = .ok (.aload_n 0, 1) := by decide +kernel
theorem dX12_flourFault_18 : decode cX12_flourFault 18 = .ok (.getfield 45, 3) := by decide +kernel
theorem dX12_flourFault_21 : decode cX12_flourFault 21 = .ok (.iconst 1, 1) := by decide +kernel
theorem dX12_flourFault_22 : decode cX12_flourFault 22 = .ok (.bipush 40, 2) := by decide +kernel
theorem dX12_flourFault_24 : decode cX12_flourFault 24 = .ok (.iastore, 1) := by decide +kernel
theorem dX12_flourFault_25 : decode cX12_flourFault 25 = .ok (.aload_n 0, 1) := by decide +kernel
theorem dX12_flourFault_26 : decode cX12_flourFault 26 = .ok (.getfield 45, 3) := by decide +kernel
theorem dX12_flourFault_29 : decode cX12_flourFault 29 = .ok (.iconst 2, 1) := by decide +kernel
theorem dX12_flourFault_30 : decode cX12_flourFault 30 = .ok (.iconst 1, 1) := by decide +kernel
theorem dX12_flourFault_31 : decode cX12_flourFault 31 = .ok (.iastore, 1) := by decide +kernel
theorem dX12_flourFault_32 : decode cX12_flourFault 32 = .ok (.aload_n 0, 1) := by decide +kernel
theorem dX12_flourFault_33 : decode cX12_flourFault 33 = .ok (.getfield 45, 3) := by decide +kernel
theorem dX12_flourFault_36 : decode cX12_flourFault 36 = .ok (.iconst 3, 1) := by decide +kernel
theorem dX12_flourFault_37 : decode cX12_flourFault 37 = .ok (.iconst 4, 1) := by decide +kernel
theorem dX12_flourFault_38 : decode cX12_flourFault 38 = .ok (.iastore, 1) := by decide +kernel
theorem dX12_flourFault_39 : decode cX12_flourFault 39 = .ok (.aload_n 0, 1) := by decide +kernel
theorem dX12_flourFault_40 : decode cX12_flourFault 40 = .ok (.getfield 45, 3) := by decide +kernel
theorem dX12_flourFault_43 : decode cX12_flourFault 43 = .ok (.iconst 4, 1) := by decide +kernel
theorem dX12_flourFault_44 : decode cX12_flourFault 44 = .ok (.iconst 2, 1) := by decide +kernel
theorem dX12_flourFault_45 : decode cX12_flourFault 45 = .ok (.iastore, 1) := by decide +kernel
theorem dX12_flourFault_46 : decode cX12_flourFault 46 = .ok (.aload_n 0, 1) := by decide +kernel
theorem dX12_flourFault_47 : decode cX12_flourFault 47 = .ok (.getfield 114, 3) := by decide +kernel
theorem dX12_flourFault_50 : decode cX12_flourFault 50 = .ok (.aload_n 0, 1) := by decide +kernel
theorem dX12_flourFault_51 : decode cX12_flourFault 51 = .ok (.getfield 22, 3) := by decide +kernel
theorem dX12_flourFault_54 : decode cX12_flourFault 54 = .ok (.iload_n 1, 1) := by decide +kernel
theorem dX12_flourFault_55 : decode cX12_flourFault 55 = .ok (.iaload, 1) := by decide +kernel
theorem dX12_flourFault_56 : decode cX12_flourFault 56 = .ok (.if_icmp .ge 131, 3) := by decide +kernel
theorem dX12_flourFault_59 : decode cX12_flourFault 59 = .ok (.aload_n 0, 1) := by decide +kernel
theorem dX12_flourFault_60 : decode cX12_flourFault 60 = .ok (.iload_n 1, 1) := by decide +kernel
theorem dX12_flourFault_61 : decode cX12_flourFault 61 = .ok (.aload_n 0, 1) := by decide +kernel
theorem dX12_flourFault_62 : decode cX12_flourFault 62 = .ok (.getfield 114, 3) := by decide +kernel
theorem dX12_flourFault_65 : decode cX12_flourFault 65 = .ok (.invokevirtual 117, 3) := by decide +kernel
theorem dX12_flourFault_68 : decode cX12_flourFault 68 = .ok (.invokestatic 126, 3) := by decide +kernel
theorem dX12_flourFault_71 : decode cX12_flourFault 71 = .ok (.istore_n 2, 1) := by decide +kernel
theorem dX12_flourFault_72 : decode cX12_flourFault 72 = .ok (.aload_n 0, 1) := by decide +kernel
theorem dX12_flourFault_73 : decode cX12_flourFault 73 = .ok (.iload_n 1, 1) := by decide +kernel
theorem dX12_flourFault_74 : decode cX12_flourFault 74 = .ok (.aload_n 0, 1) := by decide +kernel
theorem dX12_flourFault_75 : decode cX12_flourFault 75 = .ok (.getfield 114, 3) := by decide +kernel
theorem dX12_flourFault_78 : decode cX12_flourFault 78 = .ok (.invokevirtual 117, 3) := by decide +kernel
theorem dX12_flourFault_81 : decode cX12_flourFault 81 = .ok (.bipush 32, 2) := by decide +kernel
theorem dX12_flourFault_83 : decode cX12_flourFault 83 = .ok (.if_icmp .ne 16, 3) := by decide +kernel
theorem dX12_flourFault_86 : decode cX12_flourFault 86 = .ok (.aload_n 0, 1) := by decide +kernel
theorem dX12_flourFault_87 : decode cX12_flourFault 87 = .ok (.dup, 1) := by decide +kernel
theorem dX12_flourFault_88 : decode cX12_flourFault 88 = .ok (.getfield 114, 3) := by decide +kernel
theorem dX12_flourFault_91 : decode cX12_flourFault 91 = .ok (.iconst 1, 1) := by decide +kernel
theorem dX12_flourFault_92 : decode cX12_flourFault 92 = .ok (.iadd, 1) := by decide +kernel
theorem dX12_flourFault_93 : decode cX12_flourFault 93 = .ok (.putfield 114, 3) := by decide +kernel
theorem dX12_flourFault_96 : decode cX12_flourFault 96 = .ok (.goto 88, 3) := by decide +kernel
theorem dX12_flourFault_99 : decode cX12_flourFault 99 = .ok (.iload_n 2, 1) := by decide +kernel
theorem dX12_flourFault_100 : decode cX12_flourFault 100 = .ok (.bipush (-9), 2) := by decide +kernel
theorem dX12_flourFault_102 : decode cX12_flourFault 102 = .ok (.if_icmp .ne 8, 3) := by decide +kernel
theorem dX12_flourFault_105 : decode cX12_flourFault 105 = .ok (.aload_n 0, 1) := by decide +kernel
theorem dX12_flourFault_106 : decode cX12_flourFault 106 = .ok (.getfield 114, 3) := by decide +kernel
theorem dX12_flourFault_109 : decode cX12_flourFault 109 = .ok (.ireturn, 1) := by decide +kernel
theorem dX12_flourFault_110 : decode cX12_flourFault 110 = .ok (.aload_n 0, 1) := by decide +kernel
theorem dX12_flourFault_111 : decode cX12_flourFault 111 = .ok (.dup, 1) := by decide +kernel
theorem dX12_flourFault_112 : decode cX12_flourFault 112 = .ok (.getfield 114, 3) := by decide +kernel
theorem dX12_flourFault_115 : decode cX12_flourFault 115 = .ok (.iconst 1, 1) := by decide +kernel
theorem dX12_flourFault_116 : decode cX12_flourFault 116 = .ok (.iadd, 1) := by decide +kernel
theorem dX12_flourFault_117 : decode cX12_flourFault 117 = .ok (.putfield 114, 3) := by decide +kernel
theorem dX12_flourFault_120 : decode cX12_flourFault 120 = .ok (.aload_n 0, 1) := by decide +kernel
theorem dX12_flourFault_121 : decode cX12_flourFault 121 = .ok (.iload_n 1, 1) := by decide +kernel
theorem dX12_flourFault_122 : decode cX12_flourFault 122 = .ok (.iload_n 2, 1) := by decide +kernel
theorem dX12_flourFault_123 : decode cX12_flourFault 123 = .ok (.ifCond .ne 7, 3) := by decide +kernel
theorem dX12_flourFault_126 : decode cX12_flourFault 126 = .ok (.iconst 1, 1) := by decide +kernel
theorem dX12_flourFault_127 : decode cX12_flourFault 127 = .ok (.goto 14, 3) := by decide +kernel
theorem dX12_flourFault_130 : decode cX12_flourFault 130 = .ok (.iload_n 2, 1) := by decide +kernel
theorem dX12_flourFault_131 : decode cX12_flourFault 131 = .ok (.iconst 1, 1) := by decide +kernel
theorem dX12_flourFault_132 : decode cX12_flourFault 132 = .ok (.if_icmp .ne 8, 3) := by decide +kernel
theorem dX12_flourFault_135 : decode cX12_flourFault 135 = .ok (.bipush 10, 2) := by decide +kernel
theorem dX12_flourFault_137 : decode cX12_flourFault 137 = .ok (.goto 4, 3) := by decide +kernel
theorem dX12_flourFault_140 : decode cX12_flourFault 140 = .ok (.iconst 0, 1) := by decide +kernel
theorem dX12_flourFault_141 : decode cX12_flourFault 141 = .ok (.iload_n 2, 1) := by decide +kernel
theorem dX12_flourFault_142 : decode cX12_flourFault 142 = .ok (.iconst 1, 1) := by decide +kernel
theorem dX12_flourFault_143 : decode cX12_flourFault 143 = .ok (.if_icmp .ne 8, 3) := by decide +kernel
theorem dX12_flourFault_146 : decode cX12_flourFault 146 = .ok (.bipush 99, 2) := by decide +kernel
theorem dX12_flourFault_148 : decode cX12_flourFault 148 = .ok (.goto 5, 3) := by decide +kernel
theorem dX12_flourFault_151 : decode cX12_flourFault 151 = .ok (.bipush 9, 2) := by decide +kernel
theorem dX12_flourFault_153 : decode cX12_flourFault 153 = .ok (.invokevirtual 129, 3) := by decide +kernel
theorem dX12_flourFault_156 : decode cX12_flourFault 156 = .ok (.ifCond .ne 8, 3) := by decide +kernel
theorem dX12_flourFault_159 : decode cX12_flourFault 159 = .ok (.aload_n 0, 1) := by decide +kernel
theorem dX12_flourFault_160 : decode cX12_flourFault 160 = .ok (.getfield 114, 3) := by decide +kernel
theorem dX12_flourFault_163 : decode cX12_flourFault 163 = .ok (.ireturn, 1) := by decide +kernel
theorem dX12_flourFault_164 : decode cX12_flourFault 164 = .ok (.aload_n 0, 1) := by decide +kernel
theorem dX12_flourFault_165 : decode cX12_flourFault 165 = .ok (.getfield 45, 3) := by decide +kernel
theorem dX12_flourFault_168 : decode cX12_flourFault 168 = .ok (.iload_n 2, 1) := by decide +kernel
theorem dX12_flourFault_169 : decode cX12_flourFault 169 = .ok (.aload_n 0, 1) := by decide +kernel
theorem dX12_flourFault_170 : decode cX12_flourFault 170 = .ok (.getfield 120, 3) := by decide +kernel
theorem dX12_flourFault_173 : decode cX12_flourFault 173 = .ok (.iastore, 1) := by decide +kernel
theorem dX12_flourFault_174 : decode cX12_flourFault 174 = .ok (.aload_n 0, 1) := by decide +kernel
theorem dX12_flourFault_175 : decode cX12_flourFault 175 = .ok (.dup, 1) := by decide +kernel
theorem dX12_flourFault_176 : decode cX12_flourFault 176 = .ok (.getfield 123, 3) := by decide +kernel
theorem dX12_flourFault_179 : decode cX12_flourFault 179 = .ok (.iconst 1, 1) := by decide +kernel
theorem dX12_flourFault_180 : decode cX12_flourFault 180 = .ok (.iadd, 1) := by decide +kernel
theorem dX12_flourFault_181 : decode cX12_flourFault 181 = .ok (.putfield 123, 3) := by decide +kernel
theorem dX12_flourFault_184 : decode cX12_flourFault 184 = .ok (.goto (-138), 3) := by decide +kernel
theorem dX12_flourFault_187 : decode cX12_flourFault 187 = .ok (.bipush (-9), 2) := by decide +kernel
theorem dX12_flourFault_189 : decode cX12_flourFault 189 = .ok (.ireturn, 1) := by decide +kernel
theorem dX12_stepOf_0 : decode cX12_stepOf 0 = .ok (.iload_n 0, 1) := by decide +kernel
theorem dX12_stepOf_1 : decode cX12_stepOf 1 = .ok (.bipush 114, 2) := by decide +kernel
theorem dX12_stepOf_3 : decode cX12_stepOf 3 = .ok (.if_icmp .ne 7, 3) := by decide +kernel
theorem dX12_stepOf_6 : decode cX12_stepOf 6 = .ok (.iconst 1, 1) := by decide +kernel
theorem dX12_stepOf_7 : decode cX12_stepOf 7 = .ok (.goto 45, 3) := by decide +kernel
theorem dX12_stepOf_10 : decode cX12_stepOf 10 = .ok (.iload_n 0, 1) := by decide +kernel
theorem dX12_stepOf_11 : decode cX12_stepOf 11 = .ok (.bipush 111, 2) := by decide +kernel
theorem dX12_stepOf_13 : decode cX12_stepOf 13 = .ok (.if_icmp .ne 7, 3) := by decide +kernel
theorem dX12_stepOf_16 : decode cX12_stepOf 16 = .ok (.iconst 2, 1) := by decide +kernel
theorem dX12_stepOf_17 : decode cX12_stepOf 17 = .ok (.goto 35, 3) := by decide +kernel
theorem dX12_stepOf_20 : decode cX12_stepOf 20 = .ok (.iload_n 0, 1) := by decide +kernel
theorem dX12_stepOf_21 : decode cX12_stepOf 21 = .ok (.bipush 107, 2) := by decide +kernel
theorem dX12_stepOf_23 : decode cX12_stepOf 23 = .ok (.if_icmp .ne 7, 3) := by decide +kernel
theorem dX12_stepOf_26 : decode cX12_stepOf 26 = .ok (.iconst 3, 1) := by decide +kernel
theorem dX12_stepOf_27 : decode cX12_stepOf 27 = .ok (.goto 25, 3) := by decide +kernel
theorem dX12_stepOf_30 : decode cX12_stepOf 30 = .ok (.iload_n 0, 1) := by decide +kernel
theorem dX12_stepOf_31 : decode cX12_stepOf 31 = .ok (.bipush 120, 2) := by decide +kernel
theorem dX12_stepOf_33 : decode cX12_stepOf 33 = .ok (.if_icmp .ne 7, 3) := by decide +kernel
theorem dX12_stepOf_36 : decode cX12_stepOf 36 = .ok (.iconst 4, 1) := by decide +kernel
theorem dX12_stepOf_37 : decode cX12_stepOf 37 = .ok (.goto 15, 3) := by decide +kernel
theorem dX12_stepOf_40 : decode cX12_stepOf 40 = .ok (.iload_n 0, 1) := by decide +kernel
theorem dX12_stepOf_41 : decode cX12_stepOf 41 = .ok (.bipush 100, 2) := by decide +kernel
theorem dX12_stepOf_43 : decode cX12_stepOf 43 = .ok (.if_icmp .ne 7, 3) := by decide +kernel
theorem dX12_stepOf_46 : decode cX12_stepOf 46 = .ok (.iconst 5, 1) := by decide +kernel
theorem dX12_stepOf_47 : decode cX12_stepOf 47 = .ok (.goto 5, 3) := by decide +kernel
theorem dX12_stepOf_50 : decode cX12_stepOf 50 = .ok (.bipush (-9), 2) := by decide +kernel
theorem dX12_stepOf_52 : decode cX12_stepOf 52 = .ok (.ireturn, 1) := by decide +kernel
theorem dX12_readsStep_0 : decode cX12_readsStep 0 = .ok (.aload_n 0, 1) := by decide +kernel
theorem dX12_readsStep_1 : decode cX12_readsStep 1 = .ok (.iload_n 1, 1) := by decide +kernel
theorem dX12_readsStep_2 : decode cX12_readsStep 2 = .ok (.aload_n 0, 1) := by decide +kernel
theorem dX12_readsStep_3 : decode cX12_readsStep 3 = .ok (.getfield 114, 3) := by decide +kernel
theorem dX12_readsStep_6 : decode cX12_readsStep 6 = .ok (.invokevirtual 117, 3) := by decide +kernel
theorem dX12_readsStep_9 : decode cX12_readsStep 9 = .ok (.invokestatic 132, 3) := by decide +kernel
theorem dX12_readsStep_12 : decode cX12_readsStep 12 = .ok (.istore_n 2, 1) := by decide +kernel
theorem dX12_readsStep_13 : decode cX12_readsStep 13 = .ok (.iload_n 2, 1) := by decide +kernel
theorem dX12_readsStep_14 : decode cX12_readsStep 14 = .ok (.bipush (-9), 2) := by decide +kernel
theorem dX12_readsStep_16 : decode cX12_readsStep 16 = .ok (.if_icmp .eq 12, 3) := by decide +kernel
theorem dX12_readsStep_19 : decode cX12_readsStep 19 = .ok (.aload_n 0, 1) := by decide +kernel
theorem dX12_readsStep_20 : decode cX12_readsStep 20 = .ok (.getfield 123, 3) := by decide +kernel
theorem dX12_readsStep_23 : decode cX12_readsStep 23 = .ok (.bipush 10, 2) := by decide +kernel
theorem dX12_readsStep_25 : decode cX12_readsStep 25 = .ok (.if_icmp .ne 5, 3) := by decide +kernel
theorem dX12_readsStep_28 : decode cX12_readsStep 28 = .ok (.iconst 0, 1) := by decide +kernel
theorem dX12_readsStep_29 : decode cX12_readsStep 29 = .ok (.ireturn, 1) := by decide +kernel
theorem dX12_readsStep_30 : decode cX12_readsStep 30 = .ok (.aload_n 0, 1) := by decide +kernel
theorem dX12_readsStep_31 : decode cX12_readsStep 31 = .ok (.dup, 1) := by decide +kernel
theorem dX12_readsStep_32 : decode cX12_readsStep 32 = .ok (.getfield 114, 3) := by decide +kernel
theorem dX12_readsStep_35 : decode cX12_readsStep 35 = .ok (.iconst 1, 1) := by decide +kernel
theorem dX12_readsStep_36 : decode cX12_readsStep 36 = .ok (.iadd, 1) := by decide +kernel
theorem dX12_readsStep_37 : decode cX12_readsStep 37 = .ok (.putfield 114, 3) := by decide +kernel
theorem dX12_readsStep_40 : decode cX12_readsStep 40 = .ok (.iconst 0, 1) := by decide +kernel
theorem dX12_readsStep_41 : decode cX12_readsStep 41 = .ok (.istore_n 3, 1) := by decide +kernel
theorem dX12_readsStep_42 : decode cX12_readsStep 42 = .ok (.iconst 0, 1) := by decide +kernel
theorem dX12_readsStep_43 : decode cX12_readsStep 43 = .ok (.istore 4, 2) := by decide +kernel
theorem dX12_readsStep_45 : decode cX12_readsStep 45 = .ok (.iload_n 2, 1) := by decide +kernel
theorem dX12_readsStep_46 : decode cX12_readsStep 46 = .ok (.iconst 2, 1) := by decide +kernel
theorem dX12_readsStep_47 : decode cX12_readsStep 47 = .ok (.if_icmp .gt 81, 3) := by decide +kernel
theorem dX12_readsStep_50 : decode cX12_readsStep 50 = .ok (.aload_n 0, 1) := by decide +kernel
theorem dX12_readsStep_51 : decode cX12_readsStep 51 = .ok (.iload_n 1, 1) := by decide +kernel
theorem dX12_readsStep_52 : decode cX12_readsStep 52 = .ok (.aload_n 0, 1) := by decide +kernel
theorem dX12_readsStep_53 : decode cX12_readsStep 53 = .ok (.getfield 114, 3) := by decide +kernel
theorem dX12_readsStep_56 : decode cX12_readsStep 56 = .ok (.invokevirtual 117, 3) := by decide +kernel
theorem dX12_readsStep_59 : decode cX12_readsStep 59 = .ok (.bipush 48, 2) := by decide +kernel
theorem dX12_readsStep_61 : decode cX12_readsStep 61 = .ok (.isub, 1) := by decide +kernel
theorem dX12_readsStep_62 : decode cX12_readsStep 62 = .ok (.istore_n 3, 1) := by decide +kernel
theorem dX12_readsStep_63 : decode cX12_readsStep 63 = .ok (.iload_n 3, 1) := by decide +kernel
theorem dX12_readsStep_64 : decode cX12_readsStep 64 = .ok (.iconst 0, 1) := by decide +kernel
theorem dX12_readsStep_65 : decode cX12_readsStep 65 = .ok (.bipush 9, 2) := by decide +kernel
theorem dX12_readsStep_67 : decode cX12_readsStep 67 = .ok (.invokestatic 86, 3) := by decide +kernel
theorem dX12_readsStep_70 : decode cX12_readsStep 70 = .ok (.ifCond .ne 5, 3) := by decide +kernel
theorem dX12_readsStep_73 : decode cX12_readsStep 73 = .ok (.iconst 0, 1) := by decide +kernel
theorem dX12_readsStep_74 : decode cX12_readsStep 74 = .ok (.ireturn, 1) := by decide +kernel
theorem dX12_readsStep_75 : decode cX12_readsStep 75 = .ok (.aload_n 0, 1) := by decide +kernel
theorem dX12_readsStep_76 : decode cX12_readsStep 76 = .ok (.dup, 1) := by decide +kernel
theorem dX12_readsStep_77 : decode cX12_readsStep 77 = .ok (.getfield 114, 3) := by decide +kernel
theorem dX12_readsStep_80 : decode cX12_readsStep 80 = .ok (.iconst 1, 1) := by decide +kernel
theorem dX12_readsStep_81 : decode cX12_readsStep 81 = .ok (.iadd, 1) := by decide +kernel
theorem dX12_readsStep_82 : decode cX12_readsStep 82 = .ok (.putfield 114, 3) := by decide +kernel
theorem dX12_readsStep_85 : decode cX12_readsStep 85 = .ok (.aload_n 0, 1) := by decide +kernel
theorem dX12_readsStep_86 : decode cX12_readsStep 86 = .ok (.iload_n 1, 1) := by decide +kernel
theorem dX12_readsStep_87 : decode cX12_readsStep 87 = .ok (.bipush 58, 2) := by decide +kernel
theorem dX12_readsStep_89 : decode cX12_readsStep 89 = .ok (.invokevirtual 135, 3) := by decide +kernel
theorem dX12_readsStep_92 : decode cX12_readsStep 92 = .ok (.ifCond .eq 28, 3) := by decide +kernel
theorem dX12_readsStep_95 : decode cX12_readsStep 95 = .ok (.aload_n 0, 1) := by decide +kernel
theorem dX12_readsStep_96 : decode cX12_readsStep 96 = .ok (.iload_n 1, 1) := by decide +kernel
theorem dX12_readsStep_97 : decode cX12_readsStep 97 = .ok (.iconst 1, 1) := by decide +kernel
theorem dX12_readsStep_98 : decode cX12_readsStep 98 = .ok (.bipush 30, 2) := by decide +kernel
theorem dX12_readsStep_100 : decode cX12_readsStep 100 = .ok (.invokevirtual 129, 3) := by decide +kernel
theorem dX12_readsStep_103 : decode cX12_readsStep 103 = .ok (.ifCond .eq 17, 3) := by decide +kernel
theorem dX12_readsStep_106 : decode cX12_readsStep 106 = .ok (.aload_n 0, 1) := by decide +kernel
theorem dX12_readsStep_107 : decode cX12_readsStep 107 = .ok (.getfield 139, 3) := by decide +kernel
theorem dX12_readsStep_110 : decode cX12_readsStep 110 = .ok (.aload_n 0, 1) := by decide +kernel
theorem dX12_readsStep_111 : decode cX12_readsStep 111 = .ok (.getfield 120, 3) := by decide +kernel
theorem dX12_readsStep_114 : decode cX12_readsStep 114 = .ok (.iadd, 1) := by decide +kernel
theorem dX12_readsStep_115 : decode cX12_readsStep 115 = .ok (.bipush 90, 2) := by decide +kernel
theorem dX12_readsStep_117 : decode cX12_readsStep 117 = .ok (.if_icmp .le 5, 3) := by decide +kernel
theorem dX12_readsStep_120 : decode cX12_readsStep 120 = .ok (.iconst 0, 1) := by decide +kernel
theorem dX12_readsStep_121 : decode cX12_readsStep 121 = .ok (.ireturn, 1) := by decide +kernel
theorem dX12_readsStep_122 : decode cX12_readsStep 122 = .ok (.aload_n 0, 1) := by decide +kernel
theorem dX12_readsStep_123 : decode cX12_readsStep 123 = .ok (.getfield 120, 3) := by decide +kernel
theorem dX12_readsStep_126 : decode cX12_readsStep 126 = .ok (.istore 4, 2) := by decide +kernel
theorem dX12_readsStep_128 : decode cX12_readsStep 128 = .ok (.aload_n 0, 1) := by decide +kernel
theorem dX12_readsStep_129 : decode cX12_readsStep 129 = .ok (.getfield 48, 3) := by decide +kernel
theorem dX12_readsStep_132 : decode cX12_readsStep 132 = .ok (.iconst 3, 1) := by decide +kernel
theorem dX12_readsStep_133 : decode cX12_readsStep 133 = .ok (.aload_n 0, 1) := by decide +kernel
theorem dX12_readsStep_134 : decode cX12_readsStep 134 = .ok (.getfield 123, 3) := by decide +kernel
theorem dX12_readsStep_137 : decode cX12_readsStep 137 = .ok (.imul, 1) := by decide +kernel
theorem dX12_readsStep_138 : decode cX12_readsStep 138 = .ok (.iload_n 2, 1) := by decide +kernel
theorem dX12_readsStep_139 : decode cX12_readsStep 139 = .ok (.iastore, 1) := by decide +kernel
theorem dX12_readsStep_140 : decode cX12_readsStep 140 = .ok (.aload_n 0, 1) := by decide +kernel
theorem dX12_readsStep_141 : decode cX12_readsStep 141 = .ok (.getfield 48, 3) := by decide +kernel
theorem dX12_readsStep_144 : decode cX12_readsStep 144 = .ok (.iconst 3, 1) := by decide +kernel
theorem dX12_readsStep_145 : decode cX12_readsStep 145 = .ok (.aload_n 0, 1) := by decide +kernel
theorem dX12_readsStep_146 : decode cX12_readsStep 146 = .ok (.getfield 123, 3) := by decide +kernel
theorem dX12_readsStep_149 : decode cX12_readsStep 149 = .ok (.imul, 1) := by decide +kernel
theorem dX12_readsStep_150 : decode cX12_readsStep 150 = .ok (.iconst 1, 1) := by decide +kernel
theorem dX12_readsStep_151 : decode cX12_readsStep 151 = .ok (.iadd, 1) := by decide +kernel
theorem dX12_readsStep_152 : decode cX12_readsStep 152 = .ok (.iload_n 3, 1) := by decide +kernel
theorem dX12_readsStep_153 : decode cX12_readsStep 153 = .ok (.iastore, 1) := by decide +kernel
theorem dX12_readsStep_154 : decode cX12_readsStep 154 = .ok (.aload_n 0, 1) := by decide +kernel
theorem dX12_readsStep_155 : decode cX12_readsStep 155 = .ok (.getfield 48, 3) := by decide +kernel
theorem dX12_readsStep_158 : decode cX12_readsStep 158 = .ok (.iconst 3, 1) := by decide +kernel
theorem dX12_readsStep_159 : decode cX12_readsStep 159 = .ok (.aload_n 0, 1) := by decide +kernel
theorem dX12_readsStep_160 : decode cX12_readsStep 160 = .ok (.getfield 123, 3) := by decide +kernel
theorem dX12_readsStep_163 : decode cX12_readsStep 163 = .ok (.imul, 1) := by decide +kernel
theorem dX12_readsStep_164 : decode cX12_readsStep 164 = .ok (.iconst 2, 1) := by decide +kernel
theorem dX12_readsStep_165 : decode cX12_readsStep 165 = .ok (.iadd, 1) := by decide +kernel
theorem dX12_readsStep_166 : decode cX12_readsStep 166 = .ok (.iload 4, 2) := by decide +kernel
theorem dX12_readsStep_168 : decode cX12_readsStep 168 = .ok (.iastore, 1) := by decide +kernel
theorem dX12_readsStep_169 : decode cX12_readsStep 169 = .ok (.aload_n 0, 1) := by decide +kernel
theorem dX12_readsStep_170 : decode cX12_readsStep 170 = .ok (.dup, 1) := by decide +kernel
theorem dX12_readsStep_171 : decode cX12_readsStep 171 = .ok (.getfield 139, 3) := by decide +kernel
theorem dX12_readsStep_174 : decode cX12_readsStep 174 = .ok (.iload 4, 2) := by decide +kernel
theorem dX12_readsStep_176 : decode cX12_readsStep 176 = .ok (.iadd, 1) := by decide +kernel
theorem dX12_readsStep_177 : decode cX12_readsStep 177 = .ok (.putfield 139, 3) := by decide +kernel
theorem dX12_readsStep_180 : decode cX12_readsStep 180 = .ok (.aload_n 0, 1) := by decide +kernel
theorem dX12_readsStep_181 : decode cX12_readsStep 181 = .ok (.dup, 1) := by decide +kernel
theorem dX12_readsStep_182 : decode cX12_readsStep 182 = .ok (.getfield 123, 3) := by decide +kernel
theorem dX12_readsStep_185 : decode cX12_readsStep 185 = .ok (.iconst 1, 1) := by decide +kernel
theorem dX12_readsStep_186 : decode cX12_readsStep 186 = .ok (.iadd, 1) := by decide +kernel
theorem dX12_readsStep_187 : decode cX12_readsStep 187 = .ok (.putfield 123, 3) := by decide +kernel
theorem dX12_readsStep_190 : decode cX12_readsStep 190 = .ok (.iconst 1, 1) := by decide +kernel
theorem dX12_readsStep_191 : decode cX12_readsStep 191 = .ok (.ireturn, 1) := by decide +kernel
theorem dX12_doingFault_0 : decode cX12_doingFault 0 = .ok (.aload_n 0, 1) := by decide +kernel
theorem dX12_doingFault_1 : decode cX12_doingFault 1 = .ok (.iconst 0, 1) := by decide +kernel
theorem dX12_doingFault_2 : decode cX12_doingFault 2 = .ok (.putfield 114, 3) := by decide +kernel
theorem dX12_doingFault_5 : decode cX12_doingFault 5 = .ok (.aload_n 0, 1) := by decide +kernel
theorem dX12_doingFault_6 : decode cX12_doingFault 6 = .ok (.iconst 0, 1) := by decide +kernel
theorem dX12_doingFault_7 : decode cX12_doingFault 7 = .ok (.putfield 123, 3) := by decide +kernel
theorem dX12_doingFault_10 : decode cX12_doingFault 10 = .ok (.aload_n 0, 1) := by decide +kernel
theorem dX12_doingFault_11 : decode cX12_doingFault 11 = .ok (.iconst 0, 1) := by decide +kernel
theorem dX12_doingFault_12 : decode cX12_doingFault 12 = .ok (.putfield 139, 3) := by decide +kernel
theorem dX12_doingFault_15 : decode cX12_doingFault 15 = .ok (.aload_n 0, 1) := by decide +kernel
theorem dX12_doingFault_16 : decode cX12_doingFault 16 = .ok (.getfield 114, 3) := by decide +kernel
theorem dX12_doingFault_19 : decode cX12_doingFault 19 = .ok (.aload_n 0, 1) := by decide +kernel
theorem dX12_doingFault_20 : decode cX12_doingFault 20 = .ok (.getfield 22, 3) := by decide +kernel
theorem dX12_doingFault_23 : decode cX12_doingFault 23 = .ok (.iload_n 1, 1) := by decide +kernel
theorem dX12_doingFault_24 : decode cX12_doingFault 24 = .ok (.iaload, 1) := by decide +kernel
theorem dX12_doingFault_25 : decode cX12_doingFault 25 = .ok (.if_icmp .ge 43, 3) := by decide +kernel
theorem dX12_doingFault_28 : decode cX12_doingFault 28 = .ok (.aload_n 0, 1) := by decide +kernel
theorem dX12_doingFault_29 : decode cX12_doingFault 29 = .ok (.iload_n 1, 1) := by decide +kernel
theorem dX12_doingFault_30 : decode cX12_doingFault 30 = .ok (.aload_n 0, 1) := by decide +kernel
theorem dX12_doingFault_31 : decode cX12_doingFault 31 = .ok (.getfield 114, 3) := by decide +kernel
theorem dX12_doingFault_34 : decode cX12_doingFault 34 = .ok (.invokevirtual 117, 3) := by decide +kernel
theorem dX12_doingFault_37 : decode cX12_doingFault 37 = .ok (.bipush 32, 2) := by decide +kernel
theorem dX12_doingFault_39 : decode cX12_doingFault 39 = .ok (.if_icmp .ne 16, 3) := by decide +kernel
theorem dX12_doingFault_42 : decode cX12_doingFault 42 = .ok (.aload_n 0, 1) := by decide +kernel
theorem dX12_doingFault_43 : decode cX12_doingFault 43 = .ok (.dup, 1) := by decide +kernel
theorem dX12_doingFault_44 : decode cX12_doingFault 44 = .ok (.getfield 114, 3) := by decide +kernel
theorem dX12_doingFault_47 : decode cX12_doingFault 47 = .ok (.iconst 1, 1) := by decide +kernel
theorem dX12_doingFault_48 : decode cX12_doingFault 48 = .ok (.iadd, 1) := by decide +kernel
theorem dX12_doingFault_49 : decode cX12_doingFault 49 = .ok (.putfield 114, 3) := by decide +kernel
theorem dX12_doingFault_52 : decode cX12_doingFault 52 = .ok (.goto (-37), 3) := by decide +kernel
theorem dX12_doingFault_55 : decode cX12_doingFault 55 = .ok (.aload_n 0, 1) := by decide +kernel
theorem dX12_doingFault_56 : decode cX12_doingFault 56 = .ok (.iload_n 1, 1) := by decide +kernel
theorem dX12_doingFault_57 : decode cX12_doingFault 57 = .ok (.invokevirtual 142, 3) := by decide +kernel
theorem dX12_doingFault_60 : decode cX12_doingFault 60 = .ok (.ifCond .ne (-45), 3) := by decide +kernel
theorem dX12_doingFault_63 : decode cX12_doingFault 63 = .ok (.aload_n 0, 1) := by decide +kernel
theorem dX12_doingFault_64 : decode cX12_doingFault 64 = .ok (.getfield 114, 3) := by decide +kernel
theorem dX12_doingFault_67 : decode cX12_doingFault 67 = .ok (.ireturn, 1) := by decide +kernel
theorem dX12_doingFault_68 : decode cX12_doingFault 68 = .ok (.bipush (-9), 2) := by decide +kernel
theorem dX12_doingFault_70 : decode cX12_doingFault 70 = .ok (.ireturn, 1) := by decide +kernel
theorem dX12_fault_0 : decode cX12_fault 0 = .ok (.iload_n 1, 1) := by decide +kernel
theorem dX12_fault_1 : decode cX12_fault 1 = .ok (.invokestatic 111, 3) := by decide +kernel
theorem dX12_fault_4 : decode cX12_fault 4 = .ok (.ifCond .ne 5, 3) := by decide +kernel
theorem dX12_fault_7 : decode cX12_fault 7 = .ok (.iconst (-1), 1) := by decide +kernel
theorem dX12_fault_8 : decode cX12_fault 8 = .ok (.ireturn, 1) := by decide +kernel
theorem dX12_fault_9 : decode cX12_fault 9 = .ok (.aload_n 0, 1) := by decide +kernel
theorem dX12_fault_10 : decode cX12_fault 10 = .ok (.getfield 22, 3) := by decide +kernel
theorem dX12_fault_13 : decode cX12_fault 13 = .ok (.iload_n 1, 1) := by decide +kernel
theorem dX12_fault_14 : decode cX12_fault 14 = .ok (.iaload, 1) := by decide +kernel
theorem dX12_fault_15 : decode cX12_fault 15 = .ok (.ifCond .ge 11, 3) := by decide +kernel
theorem dX12_fault_18 : decode cX12_fault 18 = .ok (.aload_n 0, 1) := by decide +kernel
theorem dX12_fault_19 : decode cX12_fault 19 = .ok (.iconst 1, 1) := by decide +kernel
theorem dX12_fault_20 : decode cX12_fault 20 = .ok (.invokevirtual 100, 3) := by decide +kernel
theorem dX12_fault_23 : decode cX12_fault 23 = .ok (.goto 20, 3) := by decide +kernel
theorem dX12_fault_26 : decode cX12_fault 26 = .ok (.iload_n 2, 1) := by decide +kernel
theorem dX12_fault_27 : decode cX12_fault 27 = .ok (.ifCond .eq 11, 3) := by decide +kernel
theorem dX12_fault_30 : decode cX12_fault 30 = .ok (.aload_n 0, 1) := by decide +kernel
theorem dX12_fault_31 : decode cX12_fault 31 = .ok (.iload_n 1, 1) := by decide +kernel
theorem dX12_fault_32 : decode cX12_fault 32 = .ok (.invokevirtual 145, 3) := by decide +kernel
theorem dX12_fault_35 : decode cX12_fault 35 = .ok (.goto 8, 3) := by decide +kernel
theorem dX12_fault_38 : decode cX12_fault 38 = .ok (.aload_n 0, 1) := by decide +kernel
theorem dX12_fault_39 : decode cX12_fault 39 = .ok (.iload_n 1, 1) := by decide +kernel
theorem dX12_fault_40 : decode cX12_fault 40 = .ok (.invokevirtual 148, 3) := by decide +kernel
theorem dX12_fault_43 : decode cX12_fault 43 = .ok (.ireturn, 1) := by decide +kernel
theorem dX12_isPlace_0 : decode cX12_isPlace 0 = .ok (.iload_n 0, 1) := by decide +kernel
theorem dX12_isPlace_1 : decode cX12_isPlace 1 = .ok (.iconst 0, 1) := by decide +kernel
theorem dX12_isPlace_2 : decode cX12_isPlace 2 = .ok (.iconst 3, 1) := by decide +kernel
theorem dX12_isPlace_3 : decode cX12_isPlace 3 = .ok (.invokestatic 86, 3) := by decide +kernel
theorem dX12_isPlace_6 : decode cX12_isPlace 6 = .ok (.ireturn, 1) := by decide +kernel
theorem dX12_flour_0 : decode cX12_flour 0 = .ok (.iload_n 1, 1) := by decide +kernel
theorem dX12_flour_1 : decode cX12_flour 1 = .ok (.invokestatic 151, 3) := by decide +kernel
theorem dX12_flour_4 : decode cX12_flour 4 = .ok (.ifCond .eq 10, 3) := by decide +kernel
theorem dX12_flour_7 : decode cX12_flour 7 = .ok (.iload_n 2, 1) := by decide +kernel
theorem dX12_flour_8 : decode cX12_flour 8 = .ok (.invokestatic 111, 3) := by decide +kernel
theorem dX12_flour_11 : decode cX12_flour 11 = .ok (.ifCond .ne 5, 3) := by decide +kernel
theorem dX12_flour_14 : decode cX12_flour 14 = .ok (.iconst (-1), 1) := by decide +kernel
theorem dX12_flour_15 : decode cX12_flour 15 = .ok (.ireturn, 1) := by decide +kernel
theorem dX12_flour_16 : decode cX12_flour 16 = .ok (.aload_n 0, 1) := by decide +kernel
theorem dX12_flour_17 : decode cX12_flour 17 = .ok (.getfield 22, 3) := by decide +kernel
theorem dX12_flour_20 : decode cX12_flour 20 = .ok (.iload_n 2, 1) := by decide +kernel
theorem dX12_flour_21 : decode cX12_flour 21 = .ok (.iaload, 1) := by decide +kernel
theorem dX12_flour_22 : decode cX12_flour 22 = .ok (.ifCond .ge 9, 3) := by decide +kernel
theorem dX12_flour_25 : decode cX12_flour 25 = .ok (.aload_n 0, 1) := by decide +kernel
theorem dX12_flour_26 : decode cX12_flour 26 = .ok (.iconst 1, 1) := by decide +kernel
theorem dX12_flour_27 : decode cX12_flour 27 = .ok (.invokevirtual 100, 3) := by decide +kernel
theorem dX12_flour_30 : decode cX12_flour 30 = .ok (.ireturn, 1) := by decide +kernel
theorem dX12_flour_31 : decode cX12_flour 31 = .ok (.aload_n 0, 1) := by decide +kernel
theorem dX12_flour_32 : decode cX12_flour 32 = .ok (.iload_n 2, 1) := by decide +kernel
theorem dX12_flour_33 : decode cX12_flour 33 = .ok (.invokevirtual 148, 3) := by decide +kernel
theorem dX12_flour_36 : decode cX12_flour 36 = .ok (.bipush (-9), 2) := by decide +kernel
theorem dX12_flour_38 : decode cX12_flour 38 = .ok (.if_icmp .eq 6, 3) := by decide +kernel
theorem dX12_flour_41 : decode cX12_flour 41 = .ok (.bipush (-4), 2) := by decide +kernel
theorem dX12_flour_43 : decode cX12_flour 43 = .ok (.ireturn, 1) := by decide +kernel
theorem dX12_flour_44 : decode cX12_flour 44 = .ok (.iconst 0, 1) := by decide +kernel
theorem dX12_flour_45 : decode cX12_flour 45 = .ok (.istore_n 3, 1) := by decide +kernel
theorem dX12_flour_46 : decode cX12_flour 46 = .ok (.iload_n 3, 1) := by decide +kernel
theorem dX12_flour_47 : decode cX12_flour 47 = .ok (.iconst 5, 1) := by decide +kernel
theorem dX12_flour_48 : decode cX12_flour 48 = .ok (.if_icmp .ge 25, 3) := by decide +kernel
theorem dX12_flour_51 : decode cX12_flour 51 = .ok (.aload_n 0, 1) := by decide +kernel
theorem dX12_flour_52 : decode cX12_flour 52 = .ok (.getfield 33, 3) := by decide +kernel
theorem dX12_flour_55 : decode cX12_flour 55 = .ok (.iconst 5, 1) := by decide +kernel
theorem dX12_flour_56 : decode cX12_flour 56 = .ok (.iload_n 1, 1) := by decide +kernel
theorem dX12_flour_57 : decode cX12_flour 57 = .ok (.imul, 1) := by decide +kernel
theorem dX12_flour_58 : decode cX12_flour 58 = .ok (.iload_n 3, 1) := by decide +kernel
theorem dX12_flour_59 : decode cX12_flour 59 = .ok (.iadd, 1) := by decide +kernel
theorem dX12_flour_60 : decode cX12_flour 60 = .ok (.aload_n 0, 1) := by decide +kernel
theorem dX12_flour_61 : decode cX12_flour 61 = .ok (.getfield 45, 3) := by decide +kernel
theorem dX12_flour_64 : decode cX12_flour 64 = .ok (.iload_n 3, 1) := by decide +kernel
theorem dX12_flour_65 : decode cX12_flour 65 = .ok (.iaload, 1) := by decide +kernel
theorem dX12_flour_66 : decode cX12_flour 66 = .ok (.iastore, 1) := by decide +kernel
theorem dX12_flour_67 : decode cX12_flour 67 = .ok (.iinc 3 1, 3) := by decide +kernel
theorem dX12_flour_70 : decode cX12_flour 70 = .ok (.goto (-24), 3) := by decide +kernel
theorem dX12_flour_73 : decode cX12_flour 73 = .ok (.aload_n 0, 1) := by decide +kernel
theorem dX12_flour_74 : decode cX12_flour 74 = .ok (.getfield 29, 3) := by decide +kernel
theorem dX12_flour_77 : decode cX12_flour 77 = .ok (.iload_n 1, 1) := by decide +kernel
theorem dX12_flour_78 : decode cX12_flour 78 = .ok (.iconst 1, 1) := by decide +kernel
theorem dX12_flour_79 : decode cX12_flour 79 = .ok (.bastore, 1) := by decide +kernel
theorem dX12_flour_80 : decode cX12_flour 80 = .ok (.aload_n 0, 1) := by decide +kernel
theorem dX12_flour_81 : decode cX12_flour 81 = .ok (.getfield 123, 3) := by decide +kernel
theorem dX12_flour_84 : decode cX12_flour 84 = .ok (.ireturn, 1) := by decide +kernel
theorem dX12_doing_0 : decode cX12_doing 0 = .ok (.iload_n 1, 1) := by decide +kernel
theorem dX12_doing_1 : decode cX12_doing 1 = .ok (.invokestatic 151, 3) := by decide +kernel
theorem dX12_doing_4 : decode cX12_doing 4 = .ok (.ifCond .eq 10, 3) := by decide +kernel
theorem dX12_doing_7 : decode cX12_doing 7 = .ok (.iload_n 2, 1) := by decide +kernel
theorem dX12_doing_8 : decode cX12_doing 8 = .ok (.invokestatic 111, 3) := by decide +kernel
theorem dX12_doing_11 : decode cX12_doing 11 = .ok (.ifCond .ne 5, 3) := by decide +kernel
theorem dX12_doing_14 : decode cX12_doing 14 = .ok (.iconst (-1), 1) := by decide +kernel
theorem dX12_doing_15 : decode cX12_doing 15 = .ok (.ireturn, 1) := by decide +kernel
theorem dX12_doing_16 : decode cX12_doing 16 = .ok (.aload_n 0, 1) := by decide +kernel
theorem dX12_doing_17 : decode cX12_doing 17 = .ok (.getfield 22, 3) := by decide +kernel
theorem dX12_doing_20 : decode cX12_doing 20 = .ok (.iload_n 2, 1) := by decide +kernel
theorem dX12_doing_21 : decode cX12_doing 21 = .ok (.iaload, 1) := by decide +kernel
theorem dX12_doing_22 : decode cX12_doing 22 = .ok (.ifCond .ge 9, 3) := by decide +kernel
theorem dX12_doing_25 : decode cX12_doing 25 = .ok (.aload_n 0, 1) := by decide +kernel
theorem dX12_doing_26 : decode cX12_doing 26 = .ok (.iconst 1, 1) := by decide +kernel
theorem dX12_doing_27 : decode cX12_doing 27 = .ok (.invokevirtual 100, 3) := by decide +kernel
theorem dX12_doing_30 : decode cX12_doing 30 = .ok (.ireturn, 1) := by decide +kernel
theorem dX12_doing_31 : decode cX12_doing 31 = .ok (.aload_n 0, 1) := by decide +kernel
theorem dX12_doing_32 : decode cX12_doing 32 = .ok (.iload_n 2, 1) := by decide +kernel
theorem dX12_doing_33 : decode cX12_doing 33 = .ok (.invokevirtual 145, 3) := by decide +kernel
theorem dX12_doing_36 : decode cX12_doing 36 = .ok (.bipush (-9), 2) := by decide +kernel
theorem dX12_doing_38 : decode cX12_doing 38 = .ok (.if_icmp .eq 6, 3) := by decide +kernel
theorem dX12_doing_41 : decode cX12_doing 41 = .ok (.bipush (-4), 2) := by decide +kernel
theorem dX12_doing_43 : decode cX12_doing 43 = .ok (.ireturn, 1) := by decide +kernel
theorem dX12_doing_44 : decode cX12_doing 44 = .ok (.iconst 0, 1) := by decide +kernel
theorem dX12_doing_45 : decode cX12_doing 45 = .ok (.istore_n 3, 1) := by decide +kernel
theorem dX12_doing_46 : decode cX12_doing 46 = .ok (.iload_n 3, 1) := by decide +kernel
theorem dX12_doing_47 : decode cX12_doing 47 = .ok (.bipush 30, 2) := by decide +kernel
theorem dX12_doing_49 : decode cX12_doing 49 = .ok (.if_icmp .ge 26, 3) := by decide +kernel
theorem dX12_doing_52 : decode cX12_doing 52 = .ok (.aload_n 0, 1) := by decide +kernel
theorem dX12_doing_53 : decode cX12_doing 53 = .ok (.getfield 42, 3) := by decide +kernel
theorem dX12_doing_56 : decode cX12_doing 56 = .ok (.bipush 30, 2) := by decide +kernel
theorem dX12_doing_58 : decode cX12_doing 58 = .ok (.iload_n 1, 1) := by decide +kernel
theorem dX12_doing_59 : decode cX12_doing 59 = .ok (.imul, 1) := by decide +kernel
theorem dX12_doing_60 : decode cX12_doing 60 = .ok (.iload_n 3, 1) := by decide +kernel
theorem dX12_doing_61 : decode cX12_doing 61 = .ok (.iadd, 1) := by decide +kernel
theorem dX12_doing_62 : decode cX12_doing 62 = .ok (.aload_n 0, 1) := by decide +kernel
theorem dX12_doing_63 : decode cX12_doing 63 = .ok (.getfield 48, 3) := by decide +kernel
theorem dX12_doing_66 : decode cX12_doing 66 = .ok (.iload_n 3, 1) := by decide +kernel
theorem dX12_doing_67 : decode cX12_doing 67 = .ok (.iaload, 1) := by decide +kernel
theorem dX12_doing_68 : decode cX12_doing 68 = .ok (.iastore, 1) := by decide +kernel
theorem dX12_doing_69 : decode cX12_doing 69 = .ok (.iinc 3 1, 3) := by decide +kernel
theorem dX12_doing_72 : decode cX12_doing 72 = .ok (.goto (-26), 3) := by decide +kernel
theorem dX12_doing_75 : decode cX12_doing 75 = .ok (.aload_n 0, 1) := by decide +kernel
theorem dX12_doing_76 : decode cX12_doing 76 = .ok (.getfield 39, 3) := by decide +kernel
theorem dX12_doing_79 : decode cX12_doing 79 = .ok (.iload_n 1, 1) := by decide +kernel
theorem dX12_doing_80 : decode cX12_doing 80 = .ok (.aload_n 0, 1) := by decide +kernel
theorem dX12_doing_81 : decode cX12_doing 81 = .ok (.getfield 123, 3) := by decide +kernel
theorem dX12_doing_84 : decode cX12_doing 84 = .ok (.iastore, 1) := by decide +kernel
theorem dX12_doing_85 : decode cX12_doing 85 = .ok (.aload_n 0, 1) := by decide +kernel
theorem dX12_doing_86 : decode cX12_doing 86 = .ok (.getfield 36, 3) := by decide +kernel
theorem dX12_doing_89 : decode cX12_doing 89 = .ok (.iload_n 1, 1) := by decide +kernel
theorem dX12_doing_90 : decode cX12_doing 90 = .ok (.iconst 1, 1) := by decide +kernel
theorem dX12_doing_91 : decode cX12_doing 91 = .ok (.bastore, 1) := by decide +kernel
theorem dX12_doing_92 : decode cX12_doing 92 = .ok (.aload_n 0, 1) := by decide +kernel
theorem dX12_doing_93 : decode cX12_doing 93 = .ok (.getfield 123, 3) := by decide +kernel
theorem dX12_doing_96 : decode cX12_doing 96 = .ok (.ireturn, 1) := by decide +kernel
theorem dX12_about_0 : decode cX12_about 0 = .ok (.iload_n 1, 1) := by decide +kernel
theorem dX12_about_1 : decode cX12_about 1 = .ok (.invokestatic 151, 3) := by decide +kernel
theorem dX12_about_4 : decode cX12_about 4 = .ok (.ifCond .eq 12, 3) := by decide +kernel
theorem dX12_about_7 : decode cX12_about 7 = .ok (.iload_n 2, 1) := by decide +kernel
theorem dX12_about_8 : decode cX12_about 8 = .ok (.iconst 0, 1) := by decide +kernel
theorem dX12_about_9 : decode cX12_about 9 = .ok (.iconst 4, 1) := by decide +kernel
theorem dX12_about_10 : decode cX12_about 10 = .ok (.invokestatic 86, 3) := by decide +kernel
theorem dX12_about_13 : decode cX12_about 13 = .ok (.ifCond .ne 5, 3) := by decide +kernel
theorem dX12_about_16 : decode cX12_about 16 = .ok (.iconst (-1), 1) := by decide +kernel
theorem dX12_about_17 : decode cX12_about 17 = .ok (.ireturn, 1) := by decide +kernel
theorem dX12_about_18 : decode cX12_about 18 = .ok (.aload_n 0, 1) := by decide +kernel
theorem dX12_about_19 : decode cX12_about 19 = .ok (.getfield 29, 3) := by decide +kernel
theorem dX12_about_22 : decode cX12_about 22 = .ok (.iload_n 1, 1) := by decide +kernel
theorem dX12_about_23 : decode cX12_about 23 = .ok (.baload, 1) := by decide +kernel
theorem dX12_about_24 : decode cX12_about 24 = .ok (.ifCond .eq 21, 3) := by decide +kernel
theorem dX12_about_27 : decode cX12_about 27 = .ok (.aload_n 0, 1) := by decide +kernel
theorem dX12_about_28 : decode cX12_about 28 = .ok (.aload_n 0, 1) := by decide +kernel
theorem dX12_about_29 : decode cX12_about 29 = .ok (.getfield 33, 3) := by decide +kernel
theorem dX12_about_32 : decode cX12_about 32 = .ok (.iconst 5, 1) := by decide +kernel
theorem dX12_about_33 : decode cX12_about 33 = .ok (.iload_n 1, 1) := by decide +kernel
theorem dX12_about_34 : decode cX12_about 34 = .ok (.imul, 1) := by decide +kernel
theorem dX12_about_35 : decode cX12_about 35 = .ok (.iload_n 2, 1) := by decide +kernel
theorem dX12_about_36 : decode cX12_about 36 = .ok (.iadd, 1) := by decide +kernel
theorem dX12_about_37 : decode cX12_about 37 = .ok (.iaload, 1) := by decide +kernel
theorem dX12_about_38 : decode cX12_about 38 = .ok (.iconst 1, 1) := by decide +kernel
theorem dX12_about_39 : decode cX12_about 39 = .ok (.invokevirtual 108, 3) := by decide +kernel
theorem dX12_about_42 : decode cX12_about 42 = .ok (.goto 8, 3) := by decide +kernel
theorem dX12_about_45 : decode cX12_about 45 = .ok (.aload_n 0, 1) := by decide +kernel
theorem dX12_about_46 : decode cX12_about 46 = .ok (.iconst 1, 1) := by decide +kernel
theorem dX12_about_47 : decode cX12_about 47 = .ok (.invokevirtual 100, 3) := by decide +kernel
theorem dX12_about_50 : decode cX12_about 50 = .ok (.ireturn, 1) := by decide +kernel
theorem dX12_stepTells_0 : decode cX12_stepTells 0 = .ok (.bipush 100, 2) := by decide +kernel
theorem dX12_stepTells_2 : decode cX12_stepTells 2 = .ok (.aload_n 0, 1) := by decide +kernel
theorem dX12_stepTells_3 : decode cX12_stepTells 3 = .ok (.getfield 42, 3) := by decide +kernel
theorem dX12_stepTells_6 : decode cX12_stepTells 6 = .ok (.bipush 30, 2) := by decide +kernel
theorem dX12_stepTells_8 : decode cX12_stepTells 8 = .ok (.iload_n 1, 1) := by decide +kernel
theorem dX12_stepTells_9 : decode cX12_stepTells 9 = .ok (.imul, 1) := by decide +kernel
theorem dX12_stepTells_10 : decode cX12_stepTells 10 = .ok (.iconst 3, 1) := by decide +kernel
theorem dX12_stepTells_11 : decode cX12_stepTells 11 = .ok (.iload_n 2, 1) := by decide +kernel
theorem dX12_stepTells_12 : decode cX12_stepTells 12 = .ok (.imul, 1) := by decide +kernel
theorem dX12_stepTells_13 : decode cX12_stepTells 13 = .ok (.iadd, 1) := by decide +kernel
theorem dX12_stepTells_14 : decode cX12_stepTells 14 = .ok (.iconst 1, 1) := by decide +kernel
theorem dX12_stepTells_15 : decode cX12_stepTells 15 = .ok (.iadd, 1) := by decide +kernel
theorem dX12_stepTells_16 : decode cX12_stepTells 16 = .ok (.iaload, 1) := by decide +kernel
theorem dX12_stepTells_17 : decode cX12_stepTells 17 = .ok (.imul, 1) := by decide +kernel
theorem dX12_stepTells_18 : decode cX12_stepTells 18 = .ok (.aload_n 0, 1) := by decide +kernel
theorem dX12_stepTells_19 : decode cX12_stepTells 19 = .ok (.getfield 42, 3) := by decide +kernel
theorem dX12_stepTells_22 : decode cX12_stepTells 22 = .ok (.bipush 30, 2) := by decide +kernel
theorem dX12_stepTells_24 : decode cX12_stepTells 24 = .ok (.iload_n 1, 1) := by decide +kernel
theorem dX12_stepTells_25 : decode cX12_stepTells 25 = .ok (.imul, 1) := by decide +kernel
theorem dX12_stepTells_26 : decode cX12_stepTells 26 = .ok (.iconst 3, 1) := by decide +kernel
theorem dX12_stepTells_27 : decode cX12_stepTells 27 = .ok (.iload_n 2, 1) := by decide +kernel
theorem dX12_stepTells_28 : decode cX12_stepTells 28 = .ok (.imul, 1) := by decide +kernel
theorem dX12_stepTells_29 : decode cX12_stepTells 29 = .ok (.iadd, 1) := by decide +kernel
theorem dX12_stepTells_30 : decode cX12_stepTells 30 = .ok (.iconst 2, 1) := by decide +kernel
theorem dX12_stepTells_31 : decode cX12_stepTells 31 = .ok (.iadd, 1) := by decide +kernel
theorem dX12_stepTells_32 : decode cX12_stepTells 32 = .ok (.iaload, 1) := by decide +kernel
theorem dX12_stepTells_33 : decode cX12_stepTells 33 = .ok (.iadd, 1) := by decide +kernel
theorem dX12_stepTells_34 : decode cX12_stepTells 34 = .ok (.ireturn, 1) := by decide +kernel
theorem dX12_step_0 : decode cX12_step 0 = .ok (.iload_n 1, 1) := by decide +kernel
theorem dX12_step_1 : decode cX12_step 1 = .ok (.invokestatic 151, 3) := by decide +kernel
theorem dX12_step_4 : decode cX12_step 4 = .ok (.ifCond .ne 5, 3) := by decide +kernel
theorem dX12_step_7 : decode cX12_step 7 = .ok (.iconst (-1), 1) := by decide +kernel
theorem dX12_step_8 : decode cX12_step 8 = .ok (.ireturn, 1) := by decide +kernel
theorem dX12_step_9 : decode cX12_step 9 = .ok (.aload_n 0, 1) := by decide +kernel
theorem dX12_step_10 : decode cX12_step 10 = .ok (.getfield 36, 3) := by decide +kernel
theorem dX12_step_13 : decode cX12_step 13 = .ok (.iload_n 1, 1) := by decide +kernel
theorem dX12_step_14 : decode cX12_step 14 = .ok (.baload, 1) := by decide +kernel
theorem dX12_step_15 : decode cX12_step 15 = .ok (.ifCond .ne 9, 3) := by decide +kernel
theorem dX12_step_18 : decode cX12_step 18 = .ok (.aload_n 0, 1) := by decide +kernel
theorem dX12_step_19 : decode cX12_step 19 = .ok (.iconst 1, 1) := by decide +kernel
theorem dX12_step_20 : decode cX12_step 20 = .ok (.invokevirtual 100, 3) := by decide +kernel
theorem dX12_step_23 : decode cX12_step 23 = .ok (.ireturn, 1) := by decide +kernel
theorem dX12_step_24 : decode cX12_step 24 = .ok (.iload_n 2, 1) := by decide +kernel
theorem dX12_step_25 : decode cX12_step 25 = .ok (.iconst 0, 1) := by decide +kernel
theorem dX12_step_26 : decode cX12_step 26 = .ok (.aload_n 0, 1) := by decide +kernel
theorem dX12_step_27 : decode cX12_step 27 = .ok (.getfield 39, 3) := by decide +kernel
theorem dX12_step_30 : decode cX12_step 30 = .ok (.iload_n 1, 1) := by decide +kernel
theorem dX12_step_31 : decode cX12_step 31 = .ok (.iaload, 1) := by decide +kernel
theorem dX12_step_32 : decode cX12_step 32 = .ok (.iconst 1, 1) := by decide +kernel
theorem dX12_step_33 : decode cX12_step 33 = .ok (.isub, 1) := by decide +kernel
theorem dX12_step_34 : decode cX12_step 34 = .ok (.invokestatic 86, 3) := by decide +kernel
theorem dX12_step_37 : decode cX12_step 37 = .ok (.ifCond .eq 29, 3) := by decide +kernel
theorem dX12_step_40 : decode cX12_step 40 = .ok (.aload_n 0, 1) := by decide +kernel
theorem dX12_step_41 : decode cX12_step 41 = .ok (.aload_n 0, 1) := by decide +kernel
theorem dX12_step_42 : decode cX12_step 42 = .ok (.iload_n 1, 1) := by decide +kernel
theorem dX12_step_43 : decode cX12_step 43 = .ok (.iload_n 2, 1) := by decide +kernel
theorem dX12_step_44 : decode cX12_step 44 = .ok (.invokevirtual 154, 3) := by decide +kernel
theorem dX12_step_47 : decode cX12_step 47 = .ok (.aload_n 0, 1) := by decide +kernel
theorem dX12_step_48 : decode cX12_step 48 = .ok (.getfield 42, 3) := by decide +kernel
theorem dX12_step_51 : decode cX12_step 51 = .ok (.bipush 30, 2) := by decide +kernel
theorem dX12_step_53 : decode cX12_step 53 = .ok (.iload_n 1, 1) := by decide +kernel
theorem dX12_step_54 : decode cX12_step 54 = .ok (.imul, 1) := by decide +kernel
theorem dX12_step_55 : decode cX12_step 55 = .ok (.iconst 3, 1) := by decide +kernel
theorem dX12_step_56 : decode cX12_step 56 = .ok (.iload_n 2, 1) := by decide +kernel
theorem dX12_step_57 : decode cX12_step 57 = .ok (.imul, 1) := by decide +kernel
theorem dX12_step_58 : decode cX12_step 58 = .ok (.iadd, 1) := by decide +kernel
theorem dX12_step_59 : decode cX12_step 59 = .ok (.iaload, 1) := by decide +kernel
theorem dX12_step_60 : decode cX12_step 60 = .ok (.invokevirtual 108, 3) := by decide +kernel
theorem dX12_step_63 : decode cX12_step 63 = .ok (.goto 8, 3) := by decide +kernel
theorem dX12_step_66 : decode cX12_step 66 = .ok (.aload_n 0, 1) := by decide +kernel
theorem dX12_step_67 : decode cX12_step 67 = .ok (.iconst 2, 1) := by decide +kernel
theorem dX12_step_68 : decode cX12_step 68 = .ok (.invokevirtual 100, 3) := by decide +kernel
theorem dX12_step_71 : decode cX12_step 71 = .ok (.ireturn, 1) := by decide +kernel
theorem dX12_v_0 : decode cX12_v 0 = .ok (.aload_n 0, 1) := by decide +kernel
theorem dX12_v_1 : decode cX12_v 1 = .ok (.getfield 54, 3) := by decide +kernel
theorem dX12_v_4 : decode cX12_v 4 = .ok (.aload_n 0, 1) := by decide +kernel
theorem dX12_v_5 : decode cX12_v 5 = .ok (.getfield 157, 3) := by decide +kernel
theorem dX12_v_8 : decode cX12_v 8 = .ok (.iload_n 1, 1) := by decide +kernel
theorem dX12_v_9 : decode cX12_v 9 = .ok (.iadd, 1) := by decide +kernel
theorem dX12_v_10 : decode cX12_v 10 = .ok (.iaload, 1) := by decide +kernel
theorem dX12_v_11 : decode cX12_v 11 = .ok (.ireturn, 1) := by decide +kernel
theorem dX12_put__0 : decode cX12_put_ 0 = .ok (.aload_n 0, 1) := by decide +kernel
theorem dX12_put__1 : decode cX12_put_ 1 = .ok (.getfield 54, 3) := by decide +kernel
theorem dX12_put__4 : decode cX12_put_ 4 = .ok (.aload_n 0, 1) := by decide +kernel
theorem dX12_put__5 : decode cX12_put_ 5 = .ok (.getfield 157, 3) := by decide +kernel
theorem dX12_put__8 : decode cX12_put_ 8 = .ok (.iload_n 1, 1) := by decide +kernel
theorem dX12_put__9 : decode cX12_put_ 9 = .ok (.iadd, 1) := by decide +kernel
theorem dX12_put__10 : decode cX12_put_ 10 = .ok (.iload_n 2, 1) := by decide +kernel
theorem dX12_put__11 : decode cX12_put_ 11 = .ok (.iastore, 1) := by decide +kernel
theorem dX12_put__12 : decode cX12_put_ 12 = .ok (.return_, 1) := by decide +kernel
theorem dX12_look_0 : decode cX12_look 0 = .ok (.aload_n 0, 1) := by decide +kernel
theorem dX12_look_1 : decode cX12_look 1 = .ok (.sipush 329, 3) := by decide +kernel
theorem dX12_look_4 : decode cX12_look 4 = .ok (.iload_n 1, 1) := by decide +kernel
theorem dX12_look_5 : decode cX12_look 5 = .ok (.imul, 1) := by decide +kernel
theorem dX12_look_6 : decode cX12_look 6 = .ok (.putfield 157, 3) := by decide +kernel
theorem dX12_look_9 : decode cX12_look 9 = .ok (.return_, 1) := by decide +kernel
theorem dX12_copyLoaf_0 : decode cX12_copyLoaf 0 = .ok (.iconst 0, 1) := by decide +kernel
theorem dX12_copyLoaf_1 : decode cX12_copyLoaf 1 = .ok (.istore_n 3, 1) := by decide +kernel
theorem dX12_copyLoaf_2 : decode cX12_copyLoaf 2 = .ok (.iload_n 3, 1) := by decide +kernel
theorem dX12_copyLoaf_3 : decode cX12_copyLoaf 3 = .ok (.sipush 329, 3) := by decide +kernel
theorem dX12_copyLoaf_6 : decode cX12_copyLoaf 6 = .ok (.if_icmp .ge 33, 3) := by decide +kernel
theorem dX12_copyLoaf_9 : decode cX12_copyLoaf 9 = .ok (.aload_n 0, 1) := by decide +kernel
theorem dX12_copyLoaf_10 : decode cX12_copyLoaf 10 = .ok (.getfield 54, 3) := by decide +kernel
theorem dX12_copyLoaf_13 : decode cX12_copyLoaf 13 = .ok (.sipush 329, 3) := by decide +kernel
theorem dX12_copyLoaf_16 : decode cX12_copyLoaf 16 = .ok (.iload_n 2, 1) := by decide +kernel
theorem dX12_copyLoaf_17 : decode cX12_copyLoaf 17 = .ok (.imul, 1) := by decide +kernel
theorem dX12_copyLoaf_18 : decode cX12_copyLoaf 18 = .ok (.iload_n 3, 1) := by decide +kernel
theorem dX12_copyLoaf_19 : decode cX12_copyLoaf 19 = .ok (.iadd, 1) := by decide +kernel
theorem dX12_copyLoaf_20 : decode cX12_copyLoaf 20 = .ok (.aload_n 0, 1) := by decide +kernel
theorem dX12_copyLoaf_21 : decode cX12_copyLoaf 21 = .ok (.getfield 54, 3) := by decide +kernel
theorem dX12_copyLoaf_24 : decode cX12_copyLoaf 24 = .ok (.sipush 329, 3) := by decide +kernel
theorem dX12_copyLoaf_27 : decode cX12_copyLoaf 27 = .ok (.iload_n 1, 1) := by decide +kernel
theorem dX12_copyLoaf_28 : decode cX12_copyLoaf 28 = .ok (.imul, 1) := by decide +kernel
theorem dX12_copyLoaf_29 : decode cX12_copyLoaf 29 = .ok (.iload_n 3, 1) := by decide +kernel
theorem dX12_copyLoaf_30 : decode cX12_copyLoaf 30 = .ok (.iadd, 1) := by decide +kernel
theorem dX12_copyLoaf_31 : decode cX12_copyLoaf 31 = .ok (.iaload, 1) := by decide +kernel
theorem dX12_copyLoaf_32 : decode cX12_copyLoaf 32 = .ok (.iastore, 1) := by decide +kernel
theorem dX12_copyLoaf_33 : decode cX12_copyLoaf 33 = .ok (.iinc 3 1, 3) := by decide +kernel
theorem dX12_copyLoaf_36 : decode cX12_copyLoaf 36 = .ok (.goto (-34), 3) := by decide +kernel
theorem dX12_copyLoaf_39 : decode cX12_copyLoaf 39 = .ok (.return_, 1) := by decide +kernel
theorem dX12_c_0 : decode cX12_c 0 = .ok (.aload_n 0, 1) := by decide +kernel
theorem dX12_c_1 : decode cX12_c 1 = .ok (.bipush 41, 2) := by decide +kernel
theorem dX12_c_3 : decode cX12_c 3 = .ok (.iconst 5, 1) := by decide +kernel
theorem dX12_c_4 : decode cX12_c 4 = .ok (.iload_n 1, 1) := by decide +kernel
theorem dX12_c_5 : decode cX12_c 5 = .ok (.imul, 1) := by decide +kernel
theorem dX12_c_6 : decode cX12_c 6 = .ok (.iadd, 1) := by decide +kernel
theorem dX12_c_7 : decode cX12_c 7 = .ok (.iload_n 2, 1) := by decide +kernel
theorem dX12_c_8 : decode cX12_c 8 = .ok (.iadd, 1) := by decide +kernel
theorem dX12_c_9 : decode cX12_c 9 = .ok (.invokevirtual 160, 3) := by decide +kernel
theorem dX12_c_12 : decode cX12_c 12 = .ok (.ireturn, 1) := by decide +kernel
theorem dX12_putCell_0 : decode cX12_putCell 0 = .ok (.aload_n 0, 1) := by decide +kernel
theorem dX12_putCell_1 : decode cX12_putCell 1 = .ok (.bipush 41, 2) := by decide +kernel
theorem dX12_putCell_3 : decode cX12_putCell 3 = .ok (.iconst 5, 1) := by decide +kernel
theorem dX12_putCell_4 : decode cX12_putCell 4 = .ok (.iload_n 1, 1) := by decide +kernel
theorem dX12_putCell_5 : decode cX12_putCell 5 = .ok (.imul, 1) := by decide +kernel
theorem dX12_putCell_6 : decode cX12_putCell 6 = .ok (.iadd, 1) := by decide +kernel
theorem dX12_putCell_7 : decode cX12_putCell 7 = .ok (.iload_n 2, 1) := by decide +kernel
theorem dX12_putCell_8 : decode cX12_putCell 8 = .ok (.iadd, 1) := by decide +kernel
theorem dX12_putCell_9 : decode cX12_putCell 9 = .ok (.iload_n 3, 1) := by decide +kernel
theorem dX12_putCell_10 : decode cX12_putCell 10 = .ok (.invokevirtual 163, 3) := by decide +kernel
theorem dX12_putCell_13 : decode cX12_putCell 13 = .ok (.return_, 1) := by decide +kernel
theorem dX12_s_0 : decode cX12_s 0 = .ok (.aload_n 0, 1) := by decide +kernel
theorem dX12_s_1 : decode cX12_s 1 = .ok (.bipush 6, 2) := by decide +kernel
theorem dX12_s_3 : decode cX12_s 3 = .ok (.iconst 3, 1) := by decide +kernel
theorem dX12_s_4 : decode cX12_s 4 = .ok (.iload_n 1, 1) := by decide +kernel
theorem dX12_s_5 : decode cX12_s 5 = .ok (.imul, 1) := by decide +kernel
theorem dX12_s_6 : decode cX12_s 6 = .ok (.iadd, 1) := by decide +kernel
theorem dX12_s_7 : decode cX12_s 7 = .ok (.iload_n 2, 1) := by decide +kernel
theorem dX12_s_8 : decode cX12_s 8 = .ok (.iadd, 1) := by decide +kernel
theorem dX12_s_9 : decode cX12_s 9 = .ok (.invokevirtual 160, 3) := by decide +kernel
theorem dX12_s_12 : decode cX12_s 12 = .ok (.ireturn, 1) := by decide +kernel
theorem dX12_layFlour_0 : decode cX12_layFlour 0 = .ok (.iconst 0, 1) := by decide +kernel
theorem dX12_layFlour_1 : decode cX12_layFlour 1 = .ok (.istore_n 2, 1) := by decide +kernel
theorem dX12_layFlour_2 : decode cX12_layFlour 2 = .ok (.iload_n 2, 1) := by decide +kernel
theorem dX12_layFlour_3 : decode cX12_layFlour 3 = .ok (.iconst 5, 1) := by decide +kernel
theorem dX12_layFlour_4 : decode cX12_layFlour 4 = .ok (.if_icmp .ge 24, 3) := by decide +kernel
theorem dX12_layFlour_7 : decode cX12_layFlour 7 = .ok (.aload_n 0, 1) := by decide +kernel
theorem dX12_layFlour_8 : decode cX12_layFlour 8 = .ok (.iload_n 2, 1) := by decide +kernel
theorem dX12_layFlour_9 : decode cX12_layFlour 9 = .ok (.aload_n 0, 1) := by decide +kernel
theorem dX12_layFlour_10 : decode cX12_layFlour 10 = .ok (.getfield 33, 3) := by decide +kernel
theorem dX12_layFlour_13 : decode cX12_layFlour 13 = .ok (.iconst 5, 1) := by decide +kernel
theorem dX12_layFlour_14 : decode cX12_layFlour 14 = .ok (.iload_n 1, 1) := by decide +kernel
theorem dX12_layFlour_15 : decode cX12_layFlour 15 = .ok (.imul, 1) := by decide +kernel
theorem dX12_layFlour_16 : decode cX12_layFlour 16 = .ok (.iload_n 2, 1) := by decide +kernel
theorem dX12_layFlour_17 : decode cX12_layFlour 17 = .ok (.iadd, 1) := by decide +kernel
theorem dX12_layFlour_18 : decode cX12_layFlour 18 = .ok (.iaload, 1) := by decide +kernel
theorem dX12_layFlour_19 : decode cX12_layFlour 19 = .ok (.invokevirtual 163, 3) := by decide +kernel
theorem dX12_layFlour_22 : decode cX12_layFlour 22 = .ok (.iinc 2 1, 3) := by decide +kernel
theorem dX12_layFlour_25 : decode cX12_layFlour 25 = .ok (.goto (-23), 3) := by decide +kernel
theorem dX12_layFlour_28 : decode cX12_layFlour 28 = .ok (.return_, 1) := by decide +kernel
theorem dX12_layDoing_0 : decode cX12_layDoing 0 = .ok (.aload_n 0, 1) := by decide +kernel
theorem dX12_layDoing_1 : decode cX12_layDoing 1 = .ok (.iconst 5, 1) := by decide +kernel
theorem dX12_layDoing_2 : decode cX12_layDoing 2 = .ok (.aload_n 0, 1) := by decide +kernel
theorem dX12_layDoing_3 : decode cX12_layDoing 3 = .ok (.getfield 39, 3) := by decide +kernel
theorem dX12_layDoing_6 : decode cX12_layDoing 6 = .ok (.iload_n 1, 1) := by decide +kernel
theorem dX12_layDoing_7 : decode cX12_layDoing 7 = .ok (.iaload, 1) := by decide +kernel
theorem dX12_layDoing_8 : decode cX12_layDoing 8 = .ok (.invokevirtual 163, 3) := by decide +kernel
theorem dX12_layDoing_11 : decode cX12_layDoing 11 = .ok (.iconst 0, 1) := by decide +kernel
theorem dX12_layDoing_12 : decode cX12_layDoing 12 = .ok (.istore_n 2, 1) := by decide +kernel
theorem dX12_layDoing_13 : decode cX12_layDoing 13 = .ok (.iload_n 2, 1) := by decide +kernel
theorem dX12_layDoing_14 : decode cX12_layDoing 14 = .ok (.bipush 30, 2) := by decide +kernel
theorem dX12_layDoing_16 : decode cX12_layDoing 16 = .ok (.if_icmp .ge 28, 3) := by decide +kernel
theorem dX12_layDoing_19 : decode cX12_layDoing 19 = .ok (.aload_n 0, 1) := by decide +kernel
theorem dX12_layDoing_20 : decode cX12_layDoing 20 = .ok (.bipush 6, 2) := by decide +kernel
theorem dX12_layDoing_22 : decode cX12_layDoing 22 = .ok (.iload_n 2, 1) := by decide +kernel
theorem dX12_layDoing_23 : decode cX12_layDoing 23 = .ok (.iadd, 1) := by decide +kernel
theorem dX12_layDoing_24 : decode cX12_layDoing 24 = .ok (.aload_n 0, 1) := by decide +kernel
theorem dX12_layDoing_25 : decode cX12_layDoing 25 = .ok (.getfield 42, 3) := by decide +kernel
theorem dX12_layDoing_28 : decode cX12_layDoing 28 = .ok (.bipush 30, 2) := by decide +kernel
theorem dX12_layDoing_30 : decode cX12_layDoing 30 = .ok (.iload_n 1, 1) := by decide +kernel
theorem dX12_layDoing_31 : decode cX12_layDoing 31 = .ok (.imul, 1) := by decide +kernel
theorem dX12_layDoing_32 : decode cX12_layDoing 32 = .ok (.iload_n 2, 1) := by decide +kernel
theorem dX12_layDoing_33 : decode cX12_layDoing 33 = .ok (.iadd, 1) := by decide +kernel
theorem dX12_layDoing_34 : decode cX12_layDoing 34 = .ok (.iaload, 1) := by decide +kernel
theorem dX12_layDoing_35 : decode cX12_layDoing 35 = .ok (.invokevirtual 163, 3) := by decide +kernel
theorem dX12_layDoing_38 : decode cX12_layDoing 38 = .ok (.iinc 2 1, 3) := by decide +kernel
theorem dX12_layDoing_41 : decode cX12_layDoing 41 = .ok (.goto (-28), 3) := by decide +kernel
theorem dX12_layDoing_44 : decode cX12_layDoing 44 = .ok (.return_, 1) := by decide +kernel
theorem dX12_begins_0 : decode cX12_begins 0 = .ok (.bipush 36, 2) := by decide +kernel
theorem dX12_begins_2 : decode cX12_begins 2 = .ok (.istore_n 1, 1) := by decide +kernel
theorem dX12_begins_3 : decode cX12_begins 3 = .ok (.iload_n 1, 1) := by decide +kernel
theorem dX12_begins_4 : decode cX12_begins 4 = .ok (.sipush 329, 3) := by decide +kernel
theorem dX12_begins_7 : decode cX12_begins 7 = .ok (.if_icmp .ge 15, 3) := by decide +kernel
theorem dX12_begins_10 : decode cX12_begins 10 = .ok (.aload_n 0, 1) := by decide +kernel
theorem dX12_begins_11 : decode cX12_begins 11 = .ok (.iload_n 1, 1) := by decide +kernel
theorem dX12_begins_12 : decode cX12_begins 12 = .ok (.iconst 0, 1) := by decide +kernel
theorem dX12_begins_13 : decode cX12_begins 13 = .ok (.invokevirtual 163, 3) := by decide +kernel
theorem dX12_begins_16 : decode cX12_begins 16 = .ok (.iinc 1 1, 3) := by decide +kernel
theorem dX12_begins_19 : decode cX12_begins 19 = .ok (.goto (-16), 3) := by decide +kernel
theorem dX12_begins_22 : decode cX12_begins 22 = .ok (.iconst 0, 1) := by decide +kernel
theorem dX12_begins_23 : decode cX12_begins 23 = .ok (.istore_n 1, 1) := by decide +kernel
theorem dX12_begins_24 : decode cX12_begins 24 = .ok (.iload_n 1, 1) := by decide +kernel
theorem dX12_begins_25 : decode cX12_begins 25 = .ok (.bipush 24, 2) := by decide +kernel
theorem dX12_begins_27 : decode cX12_begins 27 = .ok (.if_icmp .ge 28, 3) := by decide +kernel
theorem dX12_begins_30 : decode cX12_begins 30 = .ok (.aload_n 0, 1) := by decide +kernel
theorem dX12_begins_31 : decode cX12_begins 31 = .ok (.iload_n 1, 1) := by decide +kernel
theorem dX12_begins_32 : decode cX12_begins 32 = .ok (.iconst 1, 1) := by decide +kernel
theorem dX12_begins_33 : decode cX12_begins 33 = .ok (.aload_n 0, 1) := by decide +kernel
theorem dX12_begins_34 : decode cX12_begins 34 = .ok (.iconst 1, 1) := by decide +kernel
theorem dX12_begins_35 : decode cX12_begins 35 = .ok (.invokevirtual 160, 3) := by decide +kernel
theorem dX12_begins_38 : decode cX12_begins 38 = .ok (.invokevirtual 167, 3) := by decide +kernel
theorem dX12_begins_41 : decode cX12_begins 41 = .ok (.aload_n 0, 1) := by decide +kernel
theorem dX12_begins_42 : decode cX12_begins 42 = .ok (.iload_n 1, 1) := by decide +kernel
theorem dX12_begins_43 : decode cX12_begins 43 = .ok (.iconst 2, 1) := by decide +kernel
theorem dX12_begins_44 : decode cX12_begins 44 = .ok (.bipush 20, 2) := by decide +kernel
theorem dX12_begins_46 : decode cX12_begins 46 = .ok (.invokevirtual 167, 3) := by decide +kernel
theorem dX12_begins_49 : decode cX12_begins 49 = .ok (.iinc 1 1, 3) := by decide +kernel
theorem dX12_begins_52 : decode cX12_begins 52 = .ok (.goto (-28), 3) := by decide +kernel
theorem dX12_begins_55 : decode cX12_begins 55 = .ok (.return_, 1) := by decide +kernel
theorem dX12_turnsAll_0 : decode cX12_turnsAll 0 = .ok (.iconst 0, 1) := by decide +kernel
theorem dX12_turnsAll_1 : decode cX12_turnsAll 1 = .ok (.istore_n 1, 1) := by decide +kernel
theorem dX12_turnsAll_2 : decode cX12_turnsAll 2 = .ok (.iconst 0, 1) := by decide +kernel
theorem dX12_turnsAll_3 : decode cX12_turnsAll 3 = .ok (.istore_n 2, 1) := by decide +kernel
theorem dX12_turnsAll_4 : decode cX12_turnsAll 4 = .ok (.iload_n 2, 1) := by decide +kernel
theorem dX12_turnsAll_5 : decode cX12_turnsAll 5 = .ok (.aload_n 0, 1) := by decide +kernel
theorem dX12_turnsAll_6 : decode cX12_turnsAll 6 = .ok (.iconst 5, 1) := by decide +kernel
theorem dX12_turnsAll_7 : decode cX12_turnsAll 7 = .ok (.invokevirtual 160, 3) := by decide +kernel
theorem dX12_turnsAll_10 : decode cX12_turnsAll 10 = .ok (.if_icmp .ge 18, 3) := by decide +kernel
theorem dX12_turnsAll_13 : decode cX12_turnsAll 13 = .ok (.iload_n 1, 1) := by decide +kernel
theorem dX12_turnsAll_14 : decode cX12_turnsAll 14 = .ok (.aload_n 0, 1) := by decide +kernel
theorem dX12_turnsAll_15 : decode cX12_turnsAll 15 = .ok (.iload_n 2, 1) := by decide +kernel
theorem dX12_turnsAll_16 : decode cX12_turnsAll 16 = .ok (.iconst 2, 1) := by decide +kernel
theorem dX12_turnsAll_17 : decode cX12_turnsAll 17 = .ok (.invokevirtual 171, 3) := by decide +kernel
theorem dX12_turnsAll_20 : decode cX12_turnsAll 20 = .ok (.iadd, 1) := by decide +kernel
theorem dX12_turnsAll_21 : decode cX12_turnsAll 21 = .ok (.istore_n 1, 1) := by decide +kernel
theorem dX12_turnsAll_22 : decode cX12_turnsAll 22 = .ok (.iinc 2 1, 3) := by decide +kernel
theorem dX12_turnsAll_25 : decode cX12_turnsAll 25 = .ok (.goto (-21), 3) := by decide +kernel
theorem dX12_turnsAll_28 : decode cX12_turnsAll 28 = .ok (.iload_n 1, 1) := by decide +kernel
theorem dX12_turnsAll_29 : decode cX12_turnsAll 29 = .ok (.ireturn, 1) := by decide +kernel
theorem dX12_loaf_0 : decode cX12_loaf 0 = .ok (.iload_n 1, 1) := by decide +kernel
theorem dX12_loaf_1 : decode cX12_loaf 1 = .ok (.invokestatic 151, 3) := by decide +kernel
theorem dX12_loaf_4 : decode cX12_loaf 4 = .ok (.ifCond .eq 10, 3) := by decide +kernel
theorem dX12_loaf_7 : decode cX12_loaf 7 = .ok (.iload_n 2, 1) := by decide +kernel
theorem dX12_loaf_8 : decode cX12_loaf 8 = .ok (.invokestatic 151, 3) := by decide +kernel
theorem dX12_loaf_11 : decode cX12_loaf 11 = .ok (.ifCond .ne 5, 3) := by decide +kernel
theorem dX12_loaf_14 : decode cX12_loaf 14 = .ok (.iconst (-1), 1) := by decide +kernel
theorem dX12_loaf_15 : decode cX12_loaf 15 = .ok (.ireturn, 1) := by decide +kernel
theorem dX12_loaf_16 : decode cX12_loaf 16 = .ok (.aload_n 0, 1) := by decide +kernel
theorem dX12_loaf_17 : decode cX12_loaf 17 = .ok (.getfield 29, 3) := by decide +kernel
theorem dX12_loaf_20 : decode cX12_loaf 20 = .ok (.iload_n 1, 1) := by decide +kernel
theorem dX12_loaf_21 : decode cX12_loaf 21 = .ok (.baload, 1) := by decide +kernel
theorem dX12_loaf_22 : decode cX12_loaf 22 = .ok (.ifCond .eq 12, 3) := by decide +kernel
theorem dX12_loaf_25 : decode cX12_loaf 25 = .ok (.aload_n 0, 1) := by decide +kernel
theorem dX12_loaf_26 : decode cX12_loaf 26 = .ok (.getfield 36, 3) := by decide +kernel
theorem dX12_loaf_29 : decode cX12_loaf 29 = .ok (.iload_n 2, 1) := by decide +kernel
theorem dX12_loaf_30 : decode cX12_loaf 30 = .ok (.baload, 1) := by decide +kernel
theorem dX12_loaf_31 : decode cX12_loaf 31 = .ok (.ifCond .ne 9, 3) := by decide +kernel
theorem dX12_loaf_34 : decode cX12_loaf 34 = .ok (.aload_n 0, 1) := by decide +kernel
theorem dX12_loaf_35 : decode cX12_loaf 35 = .ok (.iconst 1, 1) := by decide +kernel
theorem dX12_loaf_36 : decode cX12_loaf 36 = .ok (.invokevirtual 100, 3) := by decide +kernel
theorem dX12_loaf_39 : decode cX12_loaf 39 = .ok (.ireturn, 1) := by decide +kernel
theorem dX12_loaf_40 : decode cX12_loaf 40 = .ok (.aload_n 0, 1) := by decide +kernel
theorem dX12_loaf_41 : decode cX12_loaf 41 = .ok (.iconst 0, 1) := by decide +kernel
theorem dX12_loaf_42 : decode cX12_loaf 42 = .ok (.invokevirtual 174, 3) := by decide +kernel
theorem dX12_loaf_45 : decode cX12_loaf 45 = .ok (.aload_n 0, 1) := by decide +kernel
theorem dX12_loaf_46 : decode cX12_loaf 46 = .ok (.iload_n 1, 1) := by decide +kernel
theorem dX12_loaf_47 : decode cX12_loaf 47 = .ok (.invokevirtual 178, 3) := by decide +kernel
theorem dX12_loaf_50 : decode cX12_loaf 50 = .ok (.aload_n 0, 1) := by decide +kernel
theorem dX12_loaf_51 : decode cX12_loaf 51 = .ok (.iload_n 2, 1) := by decide +kernel
theorem dX12_loaf_52 : decode cX12_loaf 52 = .ok (.invokevirtual 181, 3) := by decide +kernel
theorem dX12_loaf_55 : decode cX12_loaf 55 = .ok (.aload_n 0, 1) := by decide +kernel
theorem dX12_loaf_56 : decode cX12_loaf 56 = .ok (.invokevirtual 184, 3) := by decide +kernel
theorem dX12_loaf_59 : decode cX12_loaf 59 = .ok (.aload_n 0, 1) := by decide +kernel
theorem dX12_loaf_60 : decode cX12_loaf 60 = .ok (.getfield 51, 3) := by decide +kernel
theorem dX12_loaf_63 : decode cX12_loaf 63 = .ok (.iconst 0, 1) := by decide +kernel
theorem dX12_loaf_64 : decode cX12_loaf 64 = .ok (.iconst 1, 1) := by decide +kernel
theorem dX12_loaf_65 : decode cX12_loaf 65 = .ok (.bastore, 1) := by decide +kernel
theorem dX12_loaf_66 : decode cX12_loaf 66 = .ok (.aload_n 0, 1) := by decide +kernel
theorem dX12_loaf_67 : decode cX12_loaf 67 = .ok (.invokevirtual 187, 3) := by decide +kernel
theorem dX12_loaf_70 : decode cX12_loaf 70 = .ok (.ireturn, 1) := by decide +kernel
theorem dX12_isOuter_0 : decode cX12_isOuter 0 = .ok (.iload_n 0, 1) := by decide +kernel
theorem dX12_isOuter_1 : decode cX12_isOuter 1 = .ok (.iconst 2, 1) := by decide +kernel
theorem dX12_isOuter_2 : decode cX12_isOuter 2 = .ok (.irem, 1) := by decide +kernel
theorem dX12_isOuter_3 : decode cX12_isOuter 3 = .ok (.ifCond .eq 17, 3) := by decide +kernel
theorem dX12_isOuter_6 : decode cX12_isOuter 6 = .ok (.iload_n 0, 1) := by decide +kernel
theorem dX12_isOuter_7 : decode cX12_isOuter 7 = .ok (.iconst 2, 1) := by decide +kernel
theorem dX12_isOuter_8 : decode cX12_isOuter 8 = .ok (.idiv, 1) := by decide +kernel
theorem dX12_isOuter_9 : decode cX12_isOuter 9 = .ok (.ifCond .eq 11, 3) := by decide +kernel
theorem dX12_isOuter_12 : decode cX12_isOuter 12 = .ok (.iload_n 0, 1) := by decide +kernel
theorem dX12_isOuter_13 : decode cX12_isOuter 13 = .ok (.iconst 2, 1) := by decide +kernel
theorem dX12_isOuter_14 : decode cX12_isOuter 14 = .ok (.idiv, 1) := by decide +kernel
theorem dX12_isOuter_15 : decode cX12_isOuter 15 = .ok (.bipush 11, 2) := by decide +kernel
theorem dX12_isOuter_17 : decode cX12_isOuter 17 = .ok (.if_icmp .ne 7, 3) := by decide +kernel
theorem dX12_isOuter_20 : decode cX12_isOuter 20 = .ok (.iconst 1, 1) := by decide +kernel
theorem dX12_isOuter_21 : decode cX12_isOuter 21 = .ok (.goto 4, 3) := by decide +kernel
theorem dX12_isOuter_24 : decode cX12_isOuter 24 = .ok (.iconst 0, 1) := by decide +kernel
theorem dX12_isOuter_25 : decode cX12_isOuter 25 = .ok (.ireturn, 1) := by decide +kernel
theorem dX12_warms_0 : decode cX12_warms 0 = .ok (.iconst 0, 1) := by decide +kernel
theorem dX12_warms_1 : decode cX12_warms 1 = .ok (.istore_n 2, 1) := by decide +kernel
theorem dX12_warms_2 : decode cX12_warms 2 = .ok (.iload_n 2, 1) := by decide +kernel
theorem dX12_warms_3 : decode cX12_warms 3 = .ok (.bipush 24, 2) := by decide +kernel
theorem dX12_warms_5 : decode cX12_warms 5 = .ok (.if_icmp .ge 86, 3) := by decide +kernel
theorem dX12_warms_8 : decode cX12_warms 8 = .ok (.aload_n 0, 1) := by decide +kernel
theorem dX12_warms_9 : decode cX12_warms 9 = .ok (.iload_n 2, 1) := by decide +kernel
theorem dX12_warms_10 : decode cX12_warms 10 = .ok (.iconst 2, 1) := by decide +kernel
theorem dX12_warms_11 : decode cX12_warms 11 = .ok (.invokevirtual 191, 3) := by decide +kernel
theorem dX12_warms_14 : decode cX12_warms 14 = .ok (.istore_n 3, 1) := by decide +kernel
theorem dX12_warms_15 : decode cX12_warms 15 = .ok (.iload_n 2, 1) := by decide +kernel
theorem dX12_warms_16 : decode cX12_warms 16 = .ok (.invokestatic 194, 3) := by decide +kernel
theorem dX12_warms_19 : decode cX12_warms 19 = .ok (.ifCond .eq 22, 3) := by decide +kernel
theorem dX12_warms_22 : decode cX12_warms 22 = .ok (.aload_n 0, 1) := by decide +kernel
theorem dX12_warms_23 : decode cX12_warms 23 = .ok (.getfield 57, 3) := by decide +kernel
theorem dX12_warms_26 : decode cX12_warms 26 = .ok (.iload_n 2, 1) := by decide +kernel
theorem dX12_warms_27 : decode cX12_warms 27 = .ok (.iload_n 3, 1) := by decide +kernel
theorem dX12_warms_28 : decode cX12_warms 28 = .ok (.bipush 10, 2) := by decide +kernel
theorem dX12_warms_30 : decode cX12_warms 30 = .ok (.iload_n 1, 1) := by decide +kernel
theorem dX12_warms_31 : decode cX12_warms 31 = .ok (.imul, 1) := by decide +kernel
theorem dX12_warms_32 : decode cX12_warms 32 = .ok (.iload_n 3, 1) := by decide +kernel
theorem dX12_warms_33 : decode cX12_warms 33 = .ok (.isub, 1) := by decide +kernel
theorem dX12_warms_34 : decode cX12_warms 34 = .ok (.iconst 2, 1) := by decide +kernel
theorem dX12_warms_35 : decode cX12_warms 35 = .ok (.idiv, 1) := by decide +kernel
theorem dX12_warms_36 : decode cX12_warms 36 = .ok (.iadd, 1) := by decide +kernel
theorem dX12_warms_37 : decode cX12_warms 37 = .ok (.iastore, 1) := by decide +kernel
theorem dX12_warms_38 : decode cX12_warms 38 = .ok (.goto 47, 3) := by decide +kernel
theorem dX12_warms_41 : decode cX12_warms 41 = .ok (.aload_n 0, 1) := by decide +kernel
theorem dX12_warms_42 : decode cX12_warms 42 = .ok (.iload_n 2, 1) := by decide +kernel
theorem dX12_warms_43 : decode cX12_warms 43 = .ok (.iconst 2, 1) := by decide +kernel
theorem dX12_warms_44 : decode cX12_warms 44 = .ok (.isub, 1) := by decide +kernel
theorem dX12_warms_45 : decode cX12_warms 45 = .ok (.iconst 2, 1) := by decide +kernel
theorem dX12_warms_46 : decode cX12_warms 46 = .ok (.invokevirtual 191, 3) := by decide +kernel
theorem dX12_warms_49 : decode cX12_warms 49 = .ok (.aload_n 0, 1) := by decide +kernel
theorem dX12_warms_50 : decode cX12_warms 50 = .ok (.iload_n 2, 1) := by decide +kernel
theorem dX12_warms_51 : decode cX12_warms 51 = .ok (.iconst 2, 1) := by decide +kernel
theorem dX12_warms_52 : decode cX12_warms 52 = .ok (.iadd, 1) := by decide +kernel
theorem dX12_warms_53 : decode cX12_warms 53 = .ok (.iconst 2, 1) := by decide +kernel
theorem dX12_warms_54 : decode cX12_warms 54 = .ok (.invokevirtual 191, 3) := by decide +kernel
theorem dX12_warms_57 : decode cX12_warms 57 = .ok (.iadd, 1) := by decide +kernel
theorem dX12_warms_58 : decode cX12_warms 58 = .ok (.aload_n 0, 1) := by decide +kernel
theorem dX12_warms_59 : decode cX12_warms 59 = .ok (.iload_n 2, 1) := by decide +kernel
theorem dX12_warms_60 : decode cX12_warms 60 = .ok (.iconst 1, 1) := by decide +kernel
theorem dX12_warms_61 : decode cX12_warms 61 = .ok (.isub, 1) := by decide +kernel
theorem dX12_warms_62 : decode cX12_warms 62 = .ok (.iconst 2, 1) := by decide +kernel
theorem dX12_warms_63 : decode cX12_warms 63 = .ok (.invokevirtual 191, 3) := by decide +kernel
theorem dX12_warms_66 : decode cX12_warms 66 = .ok (.iadd, 1) := by decide +kernel
theorem dX12_warms_67 : decode cX12_warms 67 = .ok (.iconst 3, 1) := by decide +kernel
theorem dX12_warms_68 : decode cX12_warms 68 = .ok (.iload_n 3, 1) := by decide +kernel
theorem dX12_warms_69 : decode cX12_warms 69 = .ok (.imul, 1) := by decide +kernel
theorem dX12_warms_70 : decode cX12_warms 70 = .ok (.isub, 1) := by decide +kernel
theorem dX12_warms_71 : decode cX12_warms 71 = .ok (.istore 4, 2) := by decide +kernel
theorem dX12_warms_73 : decode cX12_warms 73 = .ok (.aload_n 0, 1) := by decide +kernel
theorem dX12_warms_74 : decode cX12_warms 74 = .ok (.getfield 57, 3) := by decide +kernel
theorem dX12_warms_77 : decode cX12_warms 77 = .ok (.iload_n 2, 1) := by decide +kernel
theorem dX12_warms_78 : decode cX12_warms 78 = .ok (.iload_n 3, 1) := by decide +kernel
theorem dX12_warms_79 : decode cX12_warms 79 = .ok (.iload 4, 2) := by decide +kernel
theorem dX12_warms_81 : decode cX12_warms 81 = .ok (.iconst 4, 1) := by decide +kernel
theorem dX12_warms_82 : decode cX12_warms 82 = .ok (.idiv, 1) := by decide +kernel
theorem dX12_warms_83 : decode cX12_warms 83 = .ok (.iadd, 1) := by decide +kernel
theorem dX12_warms_84 : decode cX12_warms 84 = .ok (.iastore, 1) := by decide +kernel
theorem dX12_warms_85 : decode cX12_warms 85 = .ok (.iinc 2 1, 3) := by decide +kernel
theorem dX12_warms_88 : decode cX12_warms 88 = .ok (.goto (-86), 3) := by decide +kernel
theorem dX12_warms_91 : decode cX12_warms 91 = .ok (.iconst 0, 1) := by decide +kernel
theorem dX12_warms_92 : decode cX12_warms 92 = .ok (.istore_n 2, 1) := by decide +kernel
theorem dX12_warms_93 : decode cX12_warms 93 = .ok (.iload_n 2, 1) := by decide +kernel
theorem dX12_warms_94 : decode cX12_warms 94 = .ok (.bipush 24, 2) := by decide +kernel
theorem dX12_warms_96 : decode cX12_warms 96 = .ok (.if_icmp .ge 21, 3) := by decide +kernel
theorem dX12_warms_99 : decode cX12_warms 99 = .ok (.aload_n 0, 1) := by decide +kernel
theorem dX12_warms_100 : decode cX12_warms 100 = .ok (.iload_n 2, 1) := by decide +kernel
theorem dX12_warms_101 : decode cX12_warms 101 = .ok (.iconst 2, 1) := by decide +kernel
theorem dX12_warms_102 : decode cX12_warms 102 = .ok (.aload_n 0, 1) := by decide +kernel
theorem dX12_warms_103 : decode cX12_warms 103 = .ok (.getfield 57, 3) := by decide +kernel
theorem dX12_warms_106 : decode cX12_warms 106 = .ok (.iload_n 2, 1) := by decide +kernel
theorem dX12_warms_107 : decode cX12_warms 107 = .ok (.iaload, 1) := by decide +kernel
theorem dX12_warms_108 : decode cX12_warms 108 = .ok (.invokevirtual 167, 3) := by decide +kernel
theorem dX12_warms_111 : decode cX12_warms 111 = .ok (.iinc 2 1, 3) := by decide +kernel
theorem dX12_warms_114 : decode cX12_warms 114 = .ok (.goto (-21), 3) := by decide +kernel
theorem dX12_warms_117 : decode cX12_warms 117 = .ok (.return_, 1) := by decide +kernel
theorem dX12_grows_0 : decode cX12_grows 0 = .ok (.iconst 0, 1) := by decide +kernel
theorem dX12_grows_1 : decode cX12_grows 1 = .ok (.istore_n 1, 1) := by decide +kernel
theorem dX12_grows_2 : decode cX12_grows 2 = .ok (.iload_n 1, 1) := by decide +kernel
theorem dX12_grows_3 : decode cX12_grows 3 = .ok (.bipush 24, 2) := by decide +kernel
theorem dX12_grows_5 : decode cX12_grows 5 = .ok (.if_icmp .ge 153, 3) := by decide +kernel
theorem dX12_grows_8 : decode cX12_grows 8 = .ok (.aload_n 0, 1) := by decide +kernel
theorem dX12_grows_9 : decode cX12_grows 9 = .ok (.iload_n 1, 1) := by decide +kernel
theorem dX12_grows_10 : decode cX12_grows 10 = .ok (.iconst 2, 1) := by decide +kernel
theorem dX12_grows_11 : decode cX12_grows 11 = .ok (.invokevirtual 191, 3) := by decide +kernel
theorem dX12_grows_14 : decode cX12_grows 14 = .ok (.istore_n 2, 1) := by decide +kernel
theorem dX12_grows_15 : decode cX12_grows 15 = .ok (.aload_n 0, 1) := by decide +kernel
theorem dX12_grows_16 : decode cX12_grows 16 = .ok (.iload_n 1, 1) := by decide +kernel
theorem dX12_grows_17 : decode cX12_grows 17 = .ok (.iconst 4, 1) := by decide +kernel
theorem dX12_grows_18 : decode cX12_grows 18 = .ok (.invokevirtual 191, 3) := by decide +kernel
theorem dX12_grows_21 : decode cX12_grows 21 = .ok (.ifCond .ne 44, 3) := by decide +kernel
theorem dX12_grows_24 : decode cX12_grows 24 = .ok (.iload_n 2, 1) := by decide +kernel
theorem dX12_grows_25 : decode cX12_grows 25 = .ok (.bipush 55, 2) := by decide +kernel
theorem dX12_grows_27 : decode cX12_grows 27 = .ok (.if_icmp .gt 38, 3) := by decide +kernel
theorem dX12_grows_30 : decode cX12_grows 30 = .ok (.aload_n 0, 1) := by decide +kernel
theorem dX12_grows_31 : decode cX12_grows 31 = .ok (.iload_n 1, 1) := by decide +kernel
theorem dX12_grows_32 : decode cX12_grows 32 = .ok (.iconst 0, 1) := by decide +kernel
theorem dX12_grows_33 : decode cX12_grows 33 = .ok (.aload_n 0, 1) := by decide +kernel
theorem dX12_grows_34 : decode cX12_grows 34 = .ok (.iload_n 1, 1) := by decide +kernel
theorem dX12_grows_35 : decode cX12_grows 35 = .ok (.iconst 0, 1) := by decide +kernel
theorem dX12_grows_36 : decode cX12_grows 36 = .ok (.invokevirtual 191, 3) := by decide +kernel
theorem dX12_grows_39 : decode cX12_grows 39 = .ok (.aload_n 0, 1) := by decide +kernel
theorem dX12_grows_40 : decode cX12_grows 40 = .ok (.iconst 0, 1) := by decide +kernel
theorem dX12_grows_41 : decode cX12_grows 41 = .ok (.invokevirtual 160, 3) := by decide +kernel
theorem dX12_grows_44 : decode cX12_grows 44 = .ok (.iload_n 2, 1) := by decide +kernel
theorem dX12_grows_45 : decode cX12_grows 45 = .ok (.bipush 10, 2) := by decide +kernel
theorem dX12_grows_47 : decode cX12_grows 47 = .ok (.idiv, 1) := by decide +kernel
theorem dX12_grows_48 : decode cX12_grows 48 = .ok (.imul, 1) := by decide +kernel
theorem dX12_grows_49 : decode cX12_grows 49 = .ok (.bipush 10, 2) := by decide +kernel
theorem dX12_grows_51 : decode cX12_grows 51 = .ok (.aload_n 0, 1) := by decide +kernel
theorem dX12_grows_52 : decode cX12_grows 52 = .ok (.iconst 4, 1) := by decide +kernel
theorem dX12_grows_53 : decode cX12_grows 53 = .ok (.invokevirtual 160, 3) := by decide +kernel
theorem dX12_grows_56 : decode cX12_grows 56 = .ok (.isub, 1) := by decide +kernel
theorem dX12_grows_57 : decode cX12_grows 57 = .ok (.imul, 1) := by decide +kernel
theorem dX12_grows_58 : decode cX12_grows 58 = .ok (.bipush 20, 2) := by decide +kernel
theorem dX12_grows_60 : decode cX12_grows 60 = .ok (.idiv, 1) := by decide +kernel
theorem dX12_grows_61 : decode cX12_grows 61 = .ok (.iadd, 1) := by decide +kernel
theorem dX12_grows_62 : decode cX12_grows 62 = .ok (.invokevirtual 167, 3) := by decide +kernel
theorem dX12_grows_65 : decode cX12_grows 65 = .ok (.iload_n 2, 1) := by decide +kernel
theorem dX12_grows_66 : decode cX12_grows 66 = .ok (.bipush 60, 2) := by decide +kernel
theorem dX12_grows_68 : decode cX12_grows 68 = .ok (.if_icmp .lt 37, 3) := by decide +kernel
theorem dX12_grows_71 : decode cX12_grows 71 = .ok (.aload_n 0, 1) := by decide +kernel
theorem dX12_grows_72 : decode cX12_grows 72 = .ok (.iload_n 1, 1) := by decide +kernel
theorem dX12_grows_73 : decode cX12_grows 73 = .ok (.iconst 3, 1) := by decide +kernel
theorem dX12_grows_74 : decode cX12_grows 74 = .ok (.bipush 99, 2) := by decide +kernel
theorem dX12_grows_76 : decode cX12_grows 76 = .ok (.aload_n 0, 1) := by decide +kernel
theorem dX12_grows_77 : decode cX12_grows 77 = .ok (.iload_n 1, 1) := by decide +kernel
theorem dX12_grows_78 : decode cX12_grows 78 = .ok (.iconst 3, 1) := by decide +kernel
theorem dX12_grows_79 : decode cX12_grows 79 = .ok (.invokevirtual 191, 3) := by decide +kernel
theorem dX12_grows_82 : decode cX12_grows 82 = .ok (.iconst 0, 1) := by decide +kernel
theorem dX12_grows_83 : decode cX12_grows 83 = .ok (.iload_n 2, 1) := by decide +kernel
theorem dX12_grows_84 : decode cX12_grows 84 = .ok (.bipush 50, 2) := by decide +kernel
theorem dX12_grows_86 : decode cX12_grows 86 = .ok (.isub, 1) := by decide +kernel
theorem dX12_grows_87 : decode cX12_grows 87 = .ok (.iconst 5, 1) := by decide +kernel
theorem dX12_grows_88 : decode cX12_grows 88 = .ok (.idiv, 1) := by decide +kernel
theorem dX12_grows_89 : decode cX12_grows 89 = .ok (.aload_n 0, 1) := by decide +kernel
theorem dX12_grows_90 : decode cX12_grows 90 = .ok (.iconst 2, 1) := by decide +kernel
theorem dX12_grows_91 : decode cX12_grows 91 = .ok (.invokevirtual 160, 3) := by decide +kernel
theorem dX12_grows_94 : decode cX12_grows 94 = .ok (.isub, 1) := by decide +kernel
theorem dX12_grows_95 : decode cX12_grows 95 = .ok (.invokestatic 197, 3) := by decide +kernel
theorem dX12_grows_98 : decode cX12_grows 98 = .ok (.iadd, 1) := by decide +kernel
theorem dX12_grows_99 : decode cX12_grows 99 = .ok (.invokestatic 200, 3) := by decide +kernel
theorem dX12_grows_102 : decode cX12_grows 102 = .ok (.invokevirtual 167, 3) := by decide +kernel
theorem dX12_grows_105 : decode cX12_grows 105 = .ok (.iload_n 2, 1) := by decide +kernel
theorem dX12_grows_106 : decode cX12_grows 106 = .ok (.bipush 20, 2) := by decide +kernel
theorem dX12_grows_108 : decode cX12_grows 108 = .ok (.if_icmp .lt 44, 3) := by decide +kernel
theorem dX12_grows_111 : decode cX12_grows 111 = .ok (.aload_n 0, 1) := by decide +kernel
theorem dX12_grows_112 : decode cX12_grows 112 = .ok (.iload_n 1, 1) := by decide +kernel
theorem dX12_grows_113 : decode cX12_grows 113 = .ok (.iconst 3, 1) := by decide +kernel
theorem dX12_grows_114 : decode cX12_grows 114 = .ok (.invokevirtual 191, 3) := by decide +kernel
theorem dX12_grows_117 : decode cX12_grows 117 = .ok (.bipush 50, 2) := by decide +kernel
theorem dX12_grows_119 : decode cX12_grows 119 = .ok (.if_icmp .ge 33, 3) := by decide +kernel
theorem dX12_grows_122 : decode cX12_grows 122 = .ok (.aload_n 0, 1) := by decide +kernel
theorem dX12_grows_123 : decode cX12_grows 123 = .ok (.iload_n 1, 1) := by decide +kernel
theorem dX12_grows_124 : decode cX12_grows 124 = .ok (.iconst 1, 1) := by decide +kernel
theorem dX12_grows_125 : decode cX12_grows 125 = .ok (.iconst 0, 1) := by decide +kernel
theorem dX12_grows_126 : decode cX12_grows 126 = .ok (.aload_n 0, 1) := by decide +kernel
theorem dX12_grows_127 : decode cX12_grows 127 = .ok (.iload_n 1, 1) := by decide +kernel
theorem dX12_grows_128 : decode cX12_grows 128 = .ok (.iconst 1, 1) := by decide +kernel
theorem dX12_grows_129 : decode cX12_grows 129 = .ok (.invokevirtual 191, 3) := by decide +kernel
theorem dX12_grows_132 : decode cX12_grows 132 = .ok (.aload_n 0, 1) := by decide +kernel
theorem dX12_grows_133 : decode cX12_grows 133 = .ok (.iconst 4, 1) := by decide +kernel
theorem dX12_grows_134 : decode cX12_grows 134 = .ok (.invokevirtual 160, 3) := by decide +kernel
theorem dX12_grows_137 : decode cX12_grows 137 = .ok (.ifCond .ne 7, 3) := by decide +kernel
theorem dX12_grows_140 : decode cX12_grows 140 = .ok (.iconst 2, 1) := by decide +kernel
theorem dX12_grows_141 : decode cX12_grows 141 = .ok (.goto 4, 3) := by decide +kernel
theorem dX12_grows_144 : decode cX12_grows 144 = .ok (.iconst 1, 1) := by decide +kernel
theorem dX12_grows_145 : decode cX12_grows 145 = .ok (.isub, 1) := by decide +kernel
theorem dX12_grows_146 : decode cX12_grows 146 = .ok (.invokestatic 197, 3) := by decide +kernel
theorem dX12_grows_149 : decode cX12_grows 149 = .ok (.invokevirtual 167, 3) := by decide +kernel
theorem dX12_grows_152 : decode cX12_grows 152 = .ok (.iinc 1 1, 3) := by decide +kernel
theorem dX12_grows_155 : decode cX12_grows 155 = .ok (.goto (-153), 3) := by decide +kernel
theorem dX12_grows_158 : decode cX12_grows 158 = .ok (.return_, 1) := by decide +kernel
theorem dX12_tears_0 : decode cX12_tears 0 = .ok (.sipush 161, 3) := by decide +kernel
theorem dX12_tears_3 : decode cX12_tears 3 = .ok (.bipush 7, 2) := by decide +kernel
theorem dX12_tears_5 : decode cX12_tears 5 = .ok (.aload_n 0, 1) := by decide +kernel
theorem dX12_tears_6 : decode cX12_tears 6 = .ok (.bipush 40, 2) := by decide +kernel
theorem dX12_tears_8 : decode cX12_tears 8 = .ok (.invokevirtual 160, 3) := by decide +kernel
theorem dX12_tears_11 : decode cX12_tears 11 = .ok (.imul, 1) := by decide +kernel
theorem dX12_tears_12 : decode cX12_tears 12 = .ok (.iadd, 1) := by decide +kernel
theorem dX12_tears_13 : decode cX12_tears 13 = .ok (.istore_n 3, 1) := by decide +kernel
theorem dX12_tears_14 : decode cX12_tears 14 = .ok (.aload_n 0, 1) := by decide +kernel
theorem dX12_tears_15 : decode cX12_tears 15 = .ok (.iload_n 1, 1) := by decide +kernel
theorem dX12_tears_16 : decode cX12_tears 16 = .ok (.iconst 0, 1) := by decide +kernel
theorem dX12_tears_17 : decode cX12_tears 17 = .ok (.invokevirtual 191, 3) := by decide +kernel
theorem dX12_tears_20 : decode cX12_tears 20 = .ok (.istore 4, 2) := by decide +kernel
theorem dX12_tears_22 : decode cX12_tears 22 = .ok (.aload_n 0, 1) := by decide +kernel
theorem dX12_tears_23 : decode cX12_tears 23 = .ok (.iload_n 3, 1) := by decide +kernel
theorem dX12_tears_24 : decode cX12_tears 24 = .ok (.iload_n 2, 1) := by decide +kernel
theorem dX12_tears_25 : decode cX12_tears 25 = .ok (.invokevirtual 163, 3) := by decide +kernel
theorem dX12_tears_28 : decode cX12_tears 28 = .ok (.aload_n 0, 1) := by decide +kernel
theorem dX12_tears_29 : decode cX12_tears 29 = .ok (.iload_n 3, 1) := by decide +kernel
theorem dX12_tears_30 : decode cX12_tears 30 = .ok (.iconst 1, 1) := by decide +kernel
theorem dX12_tears_31 : decode cX12_tears 31 = .ok (.iadd, 1) := by decide +kernel
theorem dX12_tears_32 : decode cX12_tears 32 = .ok (.iload_n 1, 1) := by decide +kernel
theorem dX12_tears_33 : decode cX12_tears 33 = .ok (.invokevirtual 163, 3) := by decide +kernel
theorem dX12_tears_36 : decode cX12_tears 36 = .ok (.aload_n 0, 1) := by decide +kernel
theorem dX12_tears_37 : decode cX12_tears 37 = .ok (.iload_n 3, 1) := by decide +kernel
theorem dX12_tears_38 : decode cX12_tears 38 = .ok (.iconst 2, 1) := by decide +kernel
theorem dX12_tears_39 : decode cX12_tears 39 = .ok (.iadd, 1) := by decide +kernel
theorem dX12_tears_40 : decode cX12_tears 40 = .ok (.iload 4, 2) := by decide +kernel
theorem dX12_tears_42 : decode cX12_tears 42 = .ok (.invokevirtual 163, 3) := by decide +kernel
theorem dX12_tears_45 : decode cX12_tears 45 = .ok (.aload_n 0, 1) := by decide +kernel
theorem dX12_tears_46 : decode cX12_tears 46 = .ok (.iload_n 3, 1) := by decide +kernel
theorem dX12_tears_47 : decode cX12_tears 47 = .ok (.iconst 3, 1) := by decide +kernel
theorem dX12_tears_48 : decode cX12_tears 48 = .ok (.iadd, 1) := by decide +kernel
theorem dX12_tears_49 : decode cX12_tears 49 = .ok (.aload_n 0, 1) := by decide +kernel
theorem dX12_tears_50 : decode cX12_tears 50 = .ok (.bipush 38, 2) := by decide +kernel
theorem dX12_tears_52 : decode cX12_tears 52 = .ok (.invokevirtual 160, 3) := by decide +kernel
theorem dX12_tears_55 : decode cX12_tears 55 = .ok (.invokevirtual 163, 3) := by decide +kernel
theorem dX12_tears_58 : decode cX12_tears 58 = .ok (.aload_n 0, 1) := by decide +kernel
theorem dX12_tears_59 : decode cX12_tears 59 = .ok (.iload_n 3, 1) := by decide +kernel
theorem dX12_tears_60 : decode cX12_tears 60 = .ok (.iconst 4, 1) := by decide +kernel
theorem dX12_tears_61 : decode cX12_tears 61 = .ok (.iadd, 1) := by decide +kernel
theorem dX12_tears_62 : decode cX12_tears 62 = .ok (.aload_n 0, 1) := by decide +kernel
theorem dX12_tears_63 : decode cX12_tears 63 = .ok (.iload_n 1, 1) := by decide +kernel
theorem dX12_tears_64 : decode cX12_tears 64 = .ok (.iconst 1, 1) := by decide +kernel
theorem dX12_tears_65 : decode cX12_tears 65 = .ok (.invokevirtual 191, 3) := by decide +kernel
theorem dX12_tears_68 : decode cX12_tears 68 = .ok (.invokevirtual 163, 3) := by decide +kernel
theorem dX12_tears_71 : decode cX12_tears 71 = .ok (.aload_n 0, 1) := by decide +kernel
theorem dX12_tears_72 : decode cX12_tears 72 = .ok (.iload_n 3, 1) := by decide +kernel
theorem dX12_tears_73 : decode cX12_tears 73 = .ok (.iconst 5, 1) := by decide +kernel
theorem dX12_tears_74 : decode cX12_tears 74 = .ok (.iadd, 1) := by decide +kernel
theorem dX12_tears_75 : decode cX12_tears 75 = .ok (.aload_n 0, 1) := by decide +kernel
theorem dX12_tears_76 : decode cX12_tears 76 = .ok (.iload_n 1, 1) := by decide +kernel
theorem dX12_tears_77 : decode cX12_tears 77 = .ok (.iconst 2, 1) := by decide +kernel
theorem dX12_tears_78 : decode cX12_tears 78 = .ok (.invokevirtual 191, 3) := by decide +kernel
theorem dX12_tears_81 : decode cX12_tears 81 = .ok (.invokevirtual 163, 3) := by decide +kernel
theorem dX12_tears_84 : decode cX12_tears 84 = .ok (.aload_n 0, 1) := by decide +kernel
theorem dX12_tears_85 : decode cX12_tears 85 = .ok (.iload_n 3, 1) := by decide +kernel
theorem dX12_tears_86 : decode cX12_tears 86 = .ok (.bipush 6, 2) := by decide +kernel
theorem dX12_tears_88 : decode cX12_tears 88 = .ok (.iadd, 1) := by decide +kernel
theorem dX12_tears_89 : decode cX12_tears 89 = .ok (.aload_n 0, 1) := by decide +kernel
theorem dX12_tears_90 : decode cX12_tears 90 = .ok (.iload_n 1, 1) := by decide +kernel
theorem dX12_tears_91 : decode cX12_tears 91 = .ok (.iconst 3, 1) := by decide +kernel
theorem dX12_tears_92 : decode cX12_tears 92 = .ok (.invokevirtual 191, 3) := by decide +kernel
theorem dX12_tears_95 : decode cX12_tears 95 = .ok (.invokevirtual 163, 3) := by decide +kernel
theorem dX12_tears_98 : decode cX12_tears 98 = .ok (.aload_n 0, 1) := by decide +kernel
theorem dX12_tears_99 : decode cX12_tears 99 = .ok (.bipush 40, 2) := by decide +kernel
theorem dX12_tears_101 : decode cX12_tears 101 = .ok (.aload_n 0, 1) := by decide +kernel
theorem dX12_tears_102 : decode cX12_tears 102 = .ok (.bipush 40, 2) := by decide +kernel
theorem dX12_tears_104 : decode cX12_tears 104 = .ok (.invokevirtual 160, 3) := by decide +kernel
theorem dX12_tears_107 : decode cX12_tears 107 = .ok (.iconst 1, 1) := by decide +kernel
theorem dX12_tears_108 : decode cX12_tears 108 = .ok (.iadd, 1) := by decide +kernel
theorem dX12_tears_109 : decode cX12_tears 109 = .ok (.invokevirtual 163, 3) := by decide +kernel
theorem dX12_tears_112 : decode cX12_tears 112 = .ok (.iload_n 1, 1) := by decide +kernel
theorem dX12_tears_113 : decode cX12_tears 113 = .ok (.iconst 2, 1) := by decide +kernel
theorem dX12_tears_114 : decode cX12_tears 114 = .ok (.iadd, 1) := by decide +kernel
theorem dX12_tears_115 : decode cX12_tears 115 = .ok (.bipush 24, 2) := by decide +kernel
theorem dX12_tears_117 : decode cX12_tears 117 = .ok (.if_icmp .ge 35, 3) := by decide +kernel
theorem dX12_tears_120 : decode cX12_tears 120 = .ok (.aload_n 0, 1) := by decide +kernel
theorem dX12_tears_121 : decode cX12_tears 121 = .ok (.iload_n 1, 1) := by decide +kernel
theorem dX12_tears_122 : decode cX12_tears 122 = .ok (.iconst 2, 1) := by decide +kernel
theorem dX12_tears_123 : decode cX12_tears 123 = .ok (.iadd, 1) := by decide +kernel
theorem dX12_tears_124 : decode cX12_tears 124 = .ok (.iconst 4, 1) := by decide +kernel
theorem dX12_tears_125 : decode cX12_tears 125 = .ok (.invokevirtual 191, 3) := by decide +kernel
theorem dX12_tears_128 : decode cX12_tears 128 = .ok (.ifCond .ne 24, 3) := by decide +kernel
theorem dX12_tears_131 : decode cX12_tears 131 = .ok (.aload_n 0, 1) := by decide +kernel
theorem dX12_tears_132 : decode cX12_tears 132 = .ok (.iload_n 1, 1) := by decide +kernel
theorem dX12_tears_133 : decode cX12_tears 133 = .ok (.iconst 2, 1) := by decide +kernel
theorem dX12_tears_134 : decode cX12_tears 134 = .ok (.iadd, 1) := by decide +kernel
theorem dX12_tears_135 : decode cX12_tears 135 = .ok (.iconst 0, 1) := by decide +kernel
theorem dX12_tears_136 : decode cX12_tears 136 = .ok (.aload_n 0, 1) := by decide +kernel
theorem dX12_tears_137 : decode cX12_tears 137 = .ok (.iload_n 1, 1) := by decide +kernel
theorem dX12_tears_138 : decode cX12_tears 138 = .ok (.iconst 2, 1) := by decide +kernel
theorem dX12_tears_139 : decode cX12_tears 139 = .ok (.iadd, 1) := by decide +kernel
theorem dX12_tears_140 : decode cX12_tears 140 = .ok (.iconst 0, 1) := by decide +kernel
theorem dX12_tears_141 : decode cX12_tears 141 = .ok (.invokevirtual 191, 3) := by decide +kernel
theorem dX12_tears_144 : decode cX12_tears 144 = .ok (.iload 4, 2) := by decide +kernel
theorem dX12_tears_146 : decode cX12_tears 146 = .ok (.iconst 2, 1) := by decide +kernel
theorem dX12_tears_147 : decode cX12_tears 147 = .ok (.idiv, 1) := by decide +kernel
theorem dX12_tears_148 : decode cX12_tears 148 = .ok (.iadd, 1) := by decide +kernel
theorem dX12_tears_149 : decode cX12_tears 149 = .ok (.invokevirtual 167, 3) := by decide +kernel
theorem dX12_tears_152 : decode cX12_tears 152 = .ok (.aload_n 0, 1) := by decide +kernel
theorem dX12_tears_153 : decode cX12_tears 153 = .ok (.iload_n 1, 1) := by decide +kernel
theorem dX12_tears_154 : decode cX12_tears 154 = .ok (.iconst 0, 1) := by decide +kernel
theorem dX12_tears_155 : decode cX12_tears 155 = .ok (.iconst 0, 1) := by decide +kernel
theorem dX12_tears_156 : decode cX12_tears 156 = .ok (.invokevirtual 167, 3) := by decide +kernel
theorem dX12_tears_159 : decode cX12_tears 159 = .ok (.aload_n 0, 1) := by decide +kernel
theorem dX12_tears_160 : decode cX12_tears 160 = .ok (.iload_n 1, 1) := by decide +kernel
theorem dX12_tears_161 : decode cX12_tears 161 = .ok (.iconst 4, 1) := by decide +kernel
theorem dX12_tears_162 : decode cX12_tears 162 = .ok (.iconst 1, 1) := by decide +kernel
theorem dX12_tears_163 : decode cX12_tears 163 = .ok (.invokevirtual 167, 3) := by decide +kernel
theorem dX12_tears_166 : decode cX12_tears 166 = .ok (.return_, 1) := by decide +kernel
theorem dX12_bursts_0 : decode cX12_bursts 0 = .ok (.iconst 0, 1) := by decide +kernel
theorem dX12_bursts_1 : decode cX12_bursts 1 = .ok (.istore_n 2, 1) := by decide +kernel
theorem dX12_bursts_2 : decode cX12_bursts 2 = .ok (.iload_n 2, 1) := by decide +kernel
theorem dX12_bursts_3 : decode cX12_bursts 3 = .ok (.bipush 24, 2) := by decide +kernel
theorem dX12_bursts_5 : decode cX12_bursts 5 = .ok (.if_icmp .ge 87, 3) := by decide +kernel
theorem dX12_bursts_8 : decode cX12_bursts 8 = .ok (.aload_n 0, 1) := by decide +kernel
theorem dX12_bursts_9 : decode cX12_bursts 9 = .ok (.iload_n 2, 1) := by decide +kernel
theorem dX12_bursts_10 : decode cX12_bursts 10 = .ok (.iconst 1, 1) := by decide +kernel
theorem dX12_bursts_11 : decode cX12_bursts 11 = .ok (.invokevirtual 191, 3) := by decide +kernel
theorem dX12_bursts_14 : decode cX12_bursts 14 = .ok (.istore_n 3, 1) := by decide +kernel
theorem dX12_bursts_15 : decode cX12_bursts 15 = .ok (.aload_n 0, 1) := by decide +kernel
theorem dX12_bursts_16 : decode cX12_bursts 16 = .ok (.iload_n 2, 1) := by decide +kernel
theorem dX12_bursts_17 : decode cX12_bursts 17 = .ok (.iconst 4, 1) := by decide +kernel
theorem dX12_bursts_18 : decode cX12_bursts 18 = .ok (.invokevirtual 191, 3) := by decide +kernel
theorem dX12_bursts_21 : decode cX12_bursts 21 = .ok (.ifCond .ne 65, 3) := by decide +kernel
theorem dX12_bursts_24 : decode cX12_bursts 24 = .ok (.aload_n 0, 1) := by decide +kernel
theorem dX12_bursts_25 : decode cX12_bursts 25 = .ok (.iload_n 2, 1) := by decide +kernel
theorem dX12_bursts_26 : decode cX12_bursts 26 = .ok (.iconst 0, 1) := by decide +kernel
theorem dX12_bursts_27 : decode cX12_bursts 27 = .ok (.invokevirtual 191, 3) := by decide +kernel
theorem dX12_bursts_30 : decode cX12_bursts 30 = .ok (.iconst 2, 1) := by decide +kernel
theorem dX12_bursts_31 : decode cX12_bursts 31 = .ok (.iload_n 3, 1) := by decide +kernel
theorem dX12_bursts_32 : decode cX12_bursts 32 = .ok (.imul, 1) := by decide +kernel
theorem dX12_bursts_33 : decode cX12_bursts 33 = .ok (.aload_n 0, 1) := by decide +kernel
theorem dX12_bursts_34 : decode cX12_bursts 34 = .ok (.iload_n 2, 1) := by decide +kernel
theorem dX12_bursts_35 : decode cX12_bursts 35 = .ok (.iconst 3, 1) := by decide +kernel
theorem dX12_bursts_36 : decode cX12_bursts 36 = .ok (.invokevirtual 191, 3) := by decide +kernel
theorem dX12_bursts_39 : decode cX12_bursts 39 = .ok (.iadd, 1) := by decide +kernel
theorem dX12_bursts_40 : decode cX12_bursts 40 = .ok (.aload_n 0, 1) := by decide +kernel
theorem dX12_bursts_41 : decode cX12_bursts 41 = .ok (.iconst 3, 1) := by decide +kernel
theorem dX12_bursts_42 : decode cX12_bursts 42 = .ok (.invokevirtual 160, 3) := by decide +kernel
theorem dX12_bursts_45 : decode cX12_bursts 45 = .ok (.iadd, 1) := by decide +kernel
theorem dX12_bursts_46 : decode cX12_bursts 46 = .ok (.if_icmp .le 40, 3) := by decide +kernel
theorem dX12_bursts_49 : decode cX12_bursts 49 = .ok (.aload_n 0, 1) := by decide +kernel
theorem dX12_bursts_50 : decode cX12_bursts 50 = .ok (.iload_n 2, 1) := by decide +kernel
theorem dX12_bursts_51 : decode cX12_bursts 51 = .ok (.iload_n 3, 1) := by decide +kernel
theorem dX12_bursts_52 : decode cX12_bursts 52 = .ok (.bipush 10, 2) := by decide +kernel
theorem dX12_bursts_54 : decode cX12_bursts 54 = .ok (.if_icmp .ge 20, 3) := by decide +kernel
theorem dX12_bursts_57 : decode cX12_bursts 57 = .ok (.aload_n 0, 1) := by decide +kernel
theorem dX12_bursts_58 : decode cX12_bursts 58 = .ok (.iconst 4, 1) := by decide +kernel
theorem dX12_bursts_59 : decode cX12_bursts 59 = .ok (.invokevirtual 160, 3) := by decide +kernel
theorem dX12_bursts_62 : decode cX12_bursts 62 = .ok (.ifCond .ne 8, 3) := by decide +kernel
theorem dX12_bursts_65 : decode cX12_bursts 65 = .ok (.bipush 6, 2) := by decide +kernel
theorem dX12_bursts_67 : decode cX12_bursts 67 = .ok (.goto 16, 3) := by decide +kernel
theorem dX12_bursts_70 : decode cX12_bursts 70 = .ok (.iconst 1, 1) := by decide +kernel
theorem dX12_bursts_71 : decode cX12_bursts 71 = .ok (.goto 12, 3) := by decide +kernel
theorem dX12_bursts_74 : decode cX12_bursts 74 = .ok (.iload_n 1, 1) := by decide +kernel
theorem dX12_bursts_75 : decode cX12_bursts 75 = .ok (.ifCond .eq 7, 3) := by decide +kernel
theorem dX12_bursts_78 : decode cX12_bursts 78 = .ok (.iconst 2, 1) := by decide +kernel
theorem dX12_bursts_79 : decode cX12_bursts 79 = .ok (.goto 4, 3) := by decide +kernel
theorem dX12_bursts_82 : decode cX12_bursts 82 = .ok (.iconst 0, 1) := by decide +kernel
theorem dX12_bursts_83 : decode cX12_bursts 83 = .ok (.invokevirtual 203, 3) := by decide +kernel
theorem dX12_bursts_86 : decode cX12_bursts 86 = .ok (.iinc 2 1, 3) := by decide +kernel
theorem dX12_bursts_89 : decode cX12_bursts 89 = .ok (.goto (-87), 3) := by decide +kernel
theorem dX12_bursts_92 : decode cX12_bursts 92 = .ok (.return_, 1) := by decide +kernel
theorem dX12_sinks_0 : decode cX12_sinks 0 = .ok (.iconst 0, 1) := by decide +kernel
theorem dX12_sinks_1 : decode cX12_sinks 1 = .ok (.istore_n 1, 1) := by decide +kernel
theorem dX12_sinks_2 : decode cX12_sinks 2 = .ok (.iload_n 1, 1) := by decide +kernel
theorem dX12_sinks_3 : decode cX12_sinks 3 = .ok (.bipush 24, 2) := by decide +kernel
theorem dX12_sinks_5 : decode cX12_sinks 5 = .ok (.if_icmp .ge 70, 3) := by decide +kernel
theorem dX12_sinks_8 : decode cX12_sinks 8 = .ok (.aload_n 0, 1) := by decide +kernel
theorem dX12_sinks_9 : decode cX12_sinks 9 = .ok (.iload_n 1, 1) := by decide +kernel
theorem dX12_sinks_10 : decode cX12_sinks 10 = .ok (.iconst 4, 1) := by decide +kernel
theorem dX12_sinks_11 : decode cX12_sinks 11 = .ok (.invokevirtual 191, 3) := by decide +kernel
theorem dX12_sinks_14 : decode cX12_sinks 14 = .ok (.ifCond .ne 55, 3) := by decide +kernel
theorem dX12_sinks_17 : decode cX12_sinks 17 = .ok (.aload_n 0, 1) := by decide +kernel
theorem dX12_sinks_18 : decode cX12_sinks 18 = .ok (.iload_n 1, 1) := by decide +kernel
theorem dX12_sinks_19 : decode cX12_sinks 19 = .ok (.iconst 2, 1) := by decide +kernel
theorem dX12_sinks_20 : decode cX12_sinks 20 = .ok (.invokevirtual 191, 3) := by decide +kernel
theorem dX12_sinks_23 : decode cX12_sinks 23 = .ok (.bipush 60, 2) := by decide +kernel
theorem dX12_sinks_25 : decode cX12_sinks 25 = .ok (.if_icmp .ge 44, 3) := by decide +kernel
theorem dX12_sinks_28 : decode cX12_sinks 28 = .ok (.aload_n 0, 1) := by decide +kernel
theorem dX12_sinks_29 : decode cX12_sinks 29 = .ok (.iload_n 1, 1) := by decide +kernel
theorem dX12_sinks_30 : decode cX12_sinks 30 = .ok (.iconst 3, 1) := by decide +kernel
theorem dX12_sinks_31 : decode cX12_sinks 31 = .ok (.invokevirtual 191, 3) := by decide +kernel
theorem dX12_sinks_34 : decode cX12_sinks 34 = .ok (.bipush 50, 2) := by decide +kernel
theorem dX12_sinks_36 : decode cX12_sinks 36 = .ok (.if_icmp .ge 33, 3) := by decide +kernel
theorem dX12_sinks_39 : decode cX12_sinks 39 = .ok (.aload_n 0, 1) := by decide +kernel
theorem dX12_sinks_40 : decode cX12_sinks 40 = .ok (.iload_n 1, 1) := by decide +kernel
theorem dX12_sinks_41 : decode cX12_sinks 41 = .ok (.iconst 0, 1) := by decide +kernel
theorem dX12_sinks_42 : decode cX12_sinks 42 = .ok (.invokevirtual 191, 3) := by decide +kernel
theorem dX12_sinks_45 : decode cX12_sinks 45 = .ok (.bipush 40, 2) := by decide +kernel
theorem dX12_sinks_47 : decode cX12_sinks 47 = .ok (.if_icmp .le 22, 3) := by decide +kernel
theorem dX12_sinks_50 : decode cX12_sinks 50 = .ok (.aload_n 0, 1) := by decide +kernel
theorem dX12_sinks_51 : decode cX12_sinks 51 = .ok (.iload_n 1, 1) := by decide +kernel
theorem dX12_sinks_52 : decode cX12_sinks 52 = .ok (.aload_n 0, 1) := by decide +kernel
theorem dX12_sinks_53 : decode cX12_sinks 53 = .ok (.iconst 2, 1) := by decide +kernel
theorem dX12_sinks_54 : decode cX12_sinks 54 = .ok (.invokevirtual 160, 3) := by decide +kernel
theorem dX12_sinks_57 : decode cX12_sinks 57 = .ok (.iconst 5, 1) := by decide +kernel
theorem dX12_sinks_58 : decode cX12_sinks 58 = .ok (.if_icmp .lt 7, 3) := by decide +kernel
theorem dX12_sinks_61 : decode cX12_sinks 61 = .ok (.iconst 5, 1) := by decide +kernel
theorem dX12_sinks_62 : decode cX12_sinks 62 = .ok (.goto 4, 3) := by decide +kernel
theorem dX12_sinks_65 : decode cX12_sinks 65 = .ok (.iconst 4, 1) := by decide +kernel
theorem dX12_sinks_66 : decode cX12_sinks 66 = .ok (.invokevirtual 203, 3) := by decide +kernel
theorem dX12_sinks_69 : decode cX12_sinks 69 = .ok (.iinc 1 1, 3) := by decide +kernel
theorem dX12_sinks_72 : decode cX12_sinks 72 = .ok (.goto (-70), 3) := by decide +kernel
theorem dX12_sinks_75 : decode cX12_sinks 75 = .ok (.return_, 1) := by decide +kernel
theorem dX12_turn_0 : decode cX12_turn 0 = .ok (.aload_n 0, 1) := by decide +kernel
theorem dX12_turn_1 : decode cX12_turn 1 = .ok (.iload_n 2, 1) := by decide +kernel
theorem dX12_turn_2 : decode cX12_turn 2 = .ok (.invokevirtual 206, 3) := by decide +kernel
theorem dX12_turn_5 : decode cX12_turn 5 = .ok (.aload_n 0, 1) := by decide +kernel
theorem dX12_turn_6 : decode cX12_turn 6 = .ok (.invokevirtual 209, 3) := by decide +kernel
theorem dX12_turn_9 : decode cX12_turn 9 = .ok (.aload_n 0, 1) := by decide +kernel
theorem dX12_turn_10 : decode cX12_turn 10 = .ok (.iload_n 1, 1) := by decide +kernel
theorem dX12_turn_11 : decode cX12_turn 11 = .ok (.invokevirtual 212, 3) := by decide +kernel
theorem dX12_turn_14 : decode cX12_turn 14 = .ok (.iload_n 1, 1) := by decide +kernel
theorem dX12_turn_15 : decode cX12_turn 15 = .ok (.ifCond .ne 17, 3) := by decide +kernel
theorem dX12_turn_18 : decode cX12_turn 18 = .ok (.aload_n 0, 1) := by decide +kernel
theorem dX12_turn_19 : decode cX12_turn 19 = .ok (.bipush 39, 2) := by decide +kernel
theorem dX12_turn_21 : decode cX12_turn 21 = .ok (.invokevirtual 160, 3) := by decide +kernel
theorem dX12_turn_24 : decode cX12_turn 24 = .ok (.iconst 1, 1) := by decide +kernel
theorem dX12_turn_25 : decode cX12_turn 25 = .ok (.if_icmp .ne 7, 3) := by decide +kernel
theorem dX12_turn_28 : decode cX12_turn 28 = .ok (.aload_n 0, 1) := by decide +kernel
theorem dX12_turn_29 : decode cX12_turn 29 = .ok (.invokevirtual 216, 3) := by decide +kernel
