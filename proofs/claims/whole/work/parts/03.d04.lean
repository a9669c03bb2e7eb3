theorem dX11_told_55 : decode cX11_told 55 = .ok (.ireturn, 1) := by decide +kernel
theorem dX11_law_0 : decode cX11_law 0 = .ok (.iload_n 1, 1) := by decide +kernel
theorem dX11_law_1 : decode cX11_law 1 = .ok (.invokestatic 160, 3) := by decide +kernel
theorem dX11_law_4 : decode cX11_law 4 = .ok (.ifCond .ne 5, 3) := by decide +kernel
theorem dX11_law_7 : decode cX11_law 7 = .ok (.iconst (-1), 1) := by decide +kernel
theorem dX11_law_8 : decode cX11_law 8 = .ok (.ireturn, 1) := by decide +kernel
theorem dX11_law_9 : decode cX11_law 9 = .ok (.aload_n 0, 1) := by decide +kernel
theorem dX11_law_10 : decode cX11_law 10 = .ok (.iload_n 1, 1) := by decide +kernel
theorem dX11_law_11 : decode cX11_law 11 = .ok (.invokevirtual 364, 3) := by decide +kernel
theorem dX11_law_14 : decode cX11_law 14 = .ok (.istore_n 2, 1) := by decide +kernel
theorem dX11_law_15 : decode cX11_law 15 = .ok (.iload_n 2, 1) := by decide +kernel
theorem dX11_law_16 : decode cX11_law 16 = .ok (.ifCond .eq 9, 3) := by decide +kernel
theorem dX11_law_19 : decode cX11_law 19 = .ok (.aload_n 0, 1) := by decide +kernel
theorem dX11_law_20 : decode cX11_law 20 = .ok (.iload_n 2, 1) := by decide +kernel
theorem dX11_law_21 : decode cX11_law 21 = .ok (.invokevirtual 105, 3) := by decide +kernel
theorem dX11_law_24 : decode cX11_law 24 = .ok (.ireturn, 1) := by decide +kernel
theorem dX11_law_25 : decode cX11_law 25 = .ok (.aload_n 0, 1) := by decide +kernel
theorem dX11_law_26 : decode cX11_law 26 = .ok (.iload_n 1, 1) := by decide +kernel
theorem dX11_law_27 : decode cX11_law 27 = .ok (.invokevirtual 367, 3) := by decide +kernel
theorem dX11_law_30 : decode cX11_law 30 = .ok (.istore_n 3, 1) := by decide +kernel
theorem dX11_law_31 : decode cX11_law 31 = .ok (.aload_n 0, 1) := by decide +kernel
theorem dX11_law_32 : decode cX11_law 32 = .ok (.aload_n 0, 1) := by decide +kernel
theorem dX11_law_33 : decode cX11_law 33 = .ok (.getfield 85, 3) := by decide +kernel
theorem dX11_law_36 : decode cX11_law 36 = .ok (.iload_n 3, 1) := by decide +kernel
theorem dX11_law_37 : decode cX11_law 37 = .ok (.iaload, 1) := by decide +kernel
theorem dX11_law_38 : decode cX11_law 38 = .ok (.putfield 194, 3) := by decide +kernel
theorem dX11_law_41 : decode cX11_law 41 = .ok (.bipush 100, 2) := by decide +kernel
theorem dX11_law_43 : decode cX11_law 43 = .ok (.iload_n 3, 1) := by decide +kernel
theorem dX11_law_44 : decode cX11_law 44 = .ok (.invokestatic 370, 3) := by decide +kernel
theorem dX11_law_47 : decode cX11_law 47 = .ok (.imul, 1) := by decide +kernel
theorem dX11_law_48 : decode cX11_law 48 = .ok (.iload_n 3, 1) := by decide +kernel
theorem dX11_law_49 : decode cX11_law 49 = .ok (.invokestatic 373, 3) := by decide +kernel
theorem dX11_law_52 : decode cX11_law 52 = .ok (.iadd, 1) := by decide +kernel
theorem dX11_law_53 : decode cX11_law 53 = .ok (.ireturn, 1) := by decide +kernel
theorem dX11_spans_0 : decode cX11_spans 0 = .ok (.iload_n 1, 1) := by decide +kernel
theorem dX11_spans_1 : decode cX11_spans 1 = .ok (.invokestatic 160, 3) := by decide +kernel
theorem dX11_spans_4 : decode cX11_spans 4 = .ok (.ifCond .eq 21, 3) := by decide +kernel
theorem dX11_spans_7 : decode cX11_spans 7 = .ok (.iload_n 2, 1) := by decide +kernel
theorem dX11_spans_8 : decode cX11_spans 8 = .ok (.ifCond .lt 17, 3) := by decide +kernel
theorem dX11_spans_11 : decode cX11_spans 11 = .ok (.iload_n 2, 1) := by decide +kernel
theorem dX11_spans_12 : decode cX11_spans 12 = .ok (.sipush 999, 3) := by decide +kernel
theorem dX11_spans_15 : decode cX11_spans 15 = .ok (.if_icmp .gt 10, 3) := by decide +kernel
theorem dX11_spans_18 : decode cX11_spans 18 = .ok (.iload_n 3, 1) := by decide +kernel
theorem dX11_spans_19 : decode cX11_spans 19 = .ok (.invokestatic 173, 3) := by decide +kernel
theorem dX11_spans_22 : decode cX11_spans 22 = .ok (.ifCond .ne 5, 3) := by decide +kernel
theorem dX11_spans_25 : decode cX11_spans 25 = .ok (.iconst (-1), 1) := by decide +kernel
theorem dX11_spans_26 : decode cX11_spans 26 = .ok (.ireturn, 1) := by decide +kernel
theorem dX11_spans_27 : decode cX11_spans 27 = .ok (.aload_n 0, 1) := by decide +kernel
theorem dX11_spans_28 : decode cX11_spans 28 = .ok (.getfield 29, 3) := by decide +kernel
theorem dX11_spans_31 : decode cX11_spans 31 = .ok (.iload_n 3, 1) := by decide +kernel
theorem dX11_spans_32 : decode cX11_spans 32 = .ok (.aaload, 1) := by decide +kernel
theorem dX11_spans_33 : decode cX11_spans 33 = .ok (.getfield 190, 3) := by decide +kernel
theorem dX11_spans_36 : decode cX11_spans 36 = .ok (.ifCond .eq 11, 3) := by decide +kernel
theorem dX11_spans_39 : decode cX11_spans 39 = .ok (.aload_n 0, 1) := by decide +kernel
theorem dX11_spans_40 : decode cX11_spans 40 = .ok (.iload_n 1, 1) := by decide +kernel
theorem dX11_spans_41 : decode cX11_spans 41 = .ok (.invokevirtual 364, 3) := by decide +kernel
theorem dX11_spans_44 : decode cX11_spans 44 = .ok (.goto 4, 3) := by decide +kernel
theorem dX11_spans_47 : decode cX11_spans 47 = .ok (.iconst 1, 1) := by decide +kernel
theorem dX11_spans_48 : decode cX11_spans 48 = .ok (.istore 5, 2) := by decide +kernel
theorem dX11_spans_50 : decode cX11_spans 50 = .ok (.iload 5, 2) := by decide +kernel
theorem dX11_spans_52 : decode cX11_spans 52 = .ok (.ifCond .eq 10, 3) := by decide +kernel
theorem dX11_spans_55 : decode cX11_spans 55 = .ok (.aload_n 0, 1) := by decide +kernel
theorem dX11_spans_56 : decode cX11_spans 56 = .ok (.iload 5, 2) := by decide +kernel
theorem dX11_spans_58 : decode cX11_spans 58 = .ok (.invokevirtual 105, 3) := by decide +kernel
theorem dX11_spans_61 : decode cX11_spans 61 = .ok (.ireturn, 1) := by decide +kernel
theorem dX11_spans_62 : decode cX11_spans 62 = .ok (.aload_n 0, 1) := by decide +kernel
theorem dX11_spans_63 : decode cX11_spans 63 = .ok (.getfield 85, 3) := by decide +kernel
theorem dX11_spans_66 : decode cX11_spans 66 = .ok (.aload_n 0, 1) := by decide +kernel
theorem dX11_spans_67 : decode cX11_spans 67 = .ok (.iload_n 1, 1) := by decide +kernel
theorem dX11_spans_68 : decode cX11_spans 68 = .ok (.invokevirtual 367, 3) := by decide +kernel
theorem dX11_spans_71 : decode cX11_spans 71 = .ok (.iaload, 1) := by decide +kernel
theorem dX11_spans_72 : decode cX11_spans 72 = .ok (.iload_n 2, 1) := by decide +kernel
theorem dX11_spans_73 : decode cX11_spans 73 = .ok (.iadd, 1) := by decide +kernel
theorem dX11_spans_74 : decode cX11_spans 74 = .ok (.istore 6, 2) := by decide +kernel
theorem dX11_spans_76 : decode cX11_spans 76 = .ok (.iconst 0, 1) := by decide +kernel
theorem dX11_spans_77 : decode cX11_spans 77 = .ok (.istore 7, 2) := by decide +kernel
theorem dX11_spans_79 : decode cX11_spans 79 = .ok (.iconst 0, 1) := by decide +kernel
theorem dX11_spans_80 : decode cX11_spans 80 = .ok (.istore 8, 2) := by decide +kernel
theorem dX11_spans_82 : decode cX11_spans 82 = .ok (.iconst 0, 1) := by decide +kernel
theorem dX11_spans_83 : decode cX11_spans 83 = .ok (.istore 9, 2) := by decide +kernel
theorem dX11_spans_85 : decode cX11_spans 85 = .ok (.iload 9, 2) := by decide +kernel
theorem dX11_spans_87 : decode cX11_spans 87 = .ok (.bipush 81, 2) := by decide +kernel
theorem dX11_spans_89 : decode cX11_spans 89 = .ok (.if_icmp .ge 87, 3) := by decide +kernel
theorem dX11_spans_92 : decode cX11_spans 92 = .ok (.aload_n 0, 1) := by decide +kernel
theorem dX11_spans_93 : decode cX11_spans 93 = .ok (.getfield 85, 3) := by decide +kernel
theorem dX11_spans_96 : decode cX11_spans 96 = .ok (.iload 9, 2) := by decide +kernel
theorem dX11_spans_98 : decode cX11_spans 98 = .ok (.iaload, 1) := by decide +kernel
theorem dX11_spans_99 : decode cX11_spans 99 = .ok (.iload 6, 2) := by decide +kernel
theorem dX11_spans_101 : decode cX11_spans 101 = .ok (.if_icmp .le 6, 3) := by decide +kernel
theorem dX11_spans_104 : decode cX11_spans 104 = .ok (.goto 66, 3) := by decide +kernel
theorem dX11_spans_107 : decode cX11_spans 107 = .ok (.aload_n 0, 1) := by decide +kernel
theorem dX11_spans_108 : decode cX11_spans 108 = .ok (.iload_n 1, 1) := by decide +kernel
theorem dX11_spans_109 : decode cX11_spans 109 = .ok (.iload 9, 2) := by decide +kernel
theorem dX11_spans_111 : decode cX11_spans 111 = .ok (.invokevirtual 376, 3) := by decide +kernel
theorem dX11_spans_114 : decode cX11_spans 114 = .ok (.aload_n 0, 1) := by decide +kernel
theorem dX11_spans_115 : decode cX11_spans 115 = .ok (.getfield 61, 3) := by decide +kernel
theorem dX11_spans_118 : decode cX11_spans 118 = .ok (.aload_n 0, 1) := by decide +kernel
theorem dX11_spans_119 : decode cX11_spans 119 = .ok (.getfield 73, 3) := by decide +kernel
theorem dX11_spans_122 : decode cX11_spans 122 = .ok (.aload_n 0, 1) := by decide +kernel
theorem dX11_spans_123 : decode cX11_spans 123 = .ok (.getfield 29, 3) := by decide +kernel
theorem dX11_spans_126 : decode cX11_spans 126 = .ok (.iload_n 3, 1) := by decide +kernel
theorem dX11_spans_127 : decode cX11_spans 127 = .ok (.aaload, 1) := by decide +kernel
theorem dX11_spans_128 : decode cX11_spans 128 = .ok (.invokevirtual 303, 3) := by decide +kernel
theorem dX11_spans_131 : decode cX11_spans 131 = .ok (.invokevirtual 258, 3) := by decide +kernel
theorem dX11_spans_134 : decode cX11_spans 134 = .ok (.istore 10, 2) := by decide +kernel
theorem dX11_spans_136 : decode cX11_spans 136 = .ok (.iload 7, 2) := by decide +kernel
theorem dX11_spans_138 : decode cX11_spans 138 = .ok (.ifCond .eq 25, 3) := by decide +kernel
theorem dX11_spans_141 : decode cX11_spans 141 = .ok (.iload 4, 2) := by decide +kernel
theorem dX11_spans_143 : decode cX11_spans 143 = .ok (.ifCond .eq 13, 3) := by decide +kernel
theorem dX11_spans_146 : decode cX11_spans 146 = .ok (.iload 10, 2) := by decide +kernel
theorem dX11_spans_148 : decode cX11_spans 148 = .ok (.iload 8, 2) := by decide +kernel
theorem dX11_spans_150 : decode cX11_spans 150 = .ok (.if_icmp .le 17, 3) := by decide +kernel
theorem dX11_spans_153 : decode cX11_spans 153 = .ok (.goto 10, 3) := by decide +kernel
theorem dX11_spans_156 : decode cX11_spans 156 = .ok (.iload 10, 2) := by decide +kernel
theorem dX11_spans_158 : decode cX11_spans 158 = .ok (.iload 8, 2) := by decide +kernel
theorem dX11_spans_160 : decode cX11_spans 160 = .ok (.if_icmp .ge 7, 3) := by decide +kernel
theorem dX11_spans_163 : decode cX11_spans 163 = .ok (.iload 10, 2) := by decide +kernel
theorem dX11_spans_165 : decode cX11_spans 165 = .ok (.istore 8, 2) := by decide +kernel
theorem dX11_spans_167 : decode cX11_spans 167 = .ok (.iinc 7 1, 3) := by decide +kernel
theorem dX11_spans_170 : decode cX11_spans 170 = .ok (.iinc 9 1, 3) := by decide +kernel
theorem dX11_spans_173 : decode cX11_spans 173 = .ok (.goto (-88), 3) := by decide +kernel
theorem dX11_spans_176 : decode cX11_spans 176 = .ok (.aload_n 0, 1) := by decide +kernel
theorem dX11_spans_177 : decode cX11_spans 177 = .ok (.iload 8, 2) := by decide +kernel
theorem dX11_spans_179 : decode cX11_spans 179 = .ok (.putfield 194, 3) := by decide +kernel
theorem dX11_spans_182 : decode cX11_spans 182 = .ok (.iload 7, 2) := by decide +kernel
theorem dX11_spans_184 : decode cX11_spans 184 = .ok (.ireturn, 1) := by decide +kernel
theorem dX11_foretell_0 : decode cX11_foretell 0 = .ok (.iload_n 1, 1) := by decide +kernel
theorem dX11_foretell_1 : decode cX11_foretell 1 = .ok (.invokestatic 160, 3) := by decide +kernel
theorem dX11_foretell_4 : decode cX11_foretell 4 = .ok (.ifCond .eq 10, 3) := by decide +kernel
theorem dX11_foretell_7 : decode cX11_foretell 7 = .ok (.iload_n 2, 1) := by decide +kernel
theorem dX11_foretell_8 : decode cX11_foretell 8 = .ok (.invokestatic 173, 3) := by decide +kernel
theorem dX11_foretell_11 : decode cX11_foretell 11 = .ok (.ifCond .ne 5, 3) := by decide +kernel
theorem dX11_foretell_14 : decode cX11_foretell 14 = .ok (.iconst (-1), 1) := by decide +kernel
theorem dX11_foretell_15 : decode cX11_foretell 15 = .ok (.ireturn, 1) := by decide +kernel
theorem dX11_foretell_16 : decode cX11_foretell 16 = .ok (.aload_n 0, 1) := by decide +kernel
theorem dX11_foretell_17 : decode cX11_foretell 17 = .ok (.getfield 29, 3) := by decide +kernel
theorem dX11_foretell_20 : decode cX11_foretell 20 = .ok (.iload_n 2, 1) := by decide +kernel
theorem dX11_foretell_21 : decode cX11_foretell 21 = .ok (.aaload, 1) := by decide +kernel
theorem dX11_foretell_22 : decode cX11_foretell 22 = .ok (.getfield 190, 3) := by decide +kernel
theorem dX11_foretell_25 : decode cX11_foretell 25 = .ok (.ifCond .eq 11, 3) := by decide +kernel
theorem dX11_foretell_28 : decode cX11_foretell 28 = .ok (.aload_n 0, 1) := by decide +kernel
theorem dX11_foretell_29 : decode cX11_foretell 29 = .ok (.iload_n 1, 1) := by decide +kernel
theorem dX11_foretell_30 : decode cX11_foretell 30 = .ok (.invokevirtual 364, 3) := by decide +kernel
theorem dX11_foretell_33 : decode cX11_foretell 33 = .ok (.goto 4, 3) := by decide +kernel
theorem dX11_foretell_36 : decode cX11_foretell 36 = .ok (.iconst 1, 1) := by decide +kernel
theorem dX11_foretell_37 : decode cX11_foretell 37 = .ok (.istore_n 3, 1) := by decide +kernel
theorem dX11_foretell_38 : decode cX11_foretell 38 = .ok (.iload_n 3, 1) := by decide +kernel
theorem dX11_foretell_39 : decode cX11_foretell 39 = .ok (.ifCond .eq 9, 3) := by decide +kernel
theorem dX11_foretell_42 : decode cX11_foretell 42 = .ok (.aload_n 0, 1) := by decide +kernel
theorem dX11_foretell_43 : decode cX11_foretell 43 = .ok (.iload_n 3, 1) := by decide +kernel
theorem dX11_foretell_44 : decode cX11_foretell 44 = .ok (.invokevirtual 105, 3) := by decide +kernel
theorem dX11_foretell_47 : decode cX11_foretell 47 = .ok (.ireturn, 1) := by decide +kernel
theorem dX11_foretell_48 : decode cX11_foretell 48 = .ok (.aload_n 0, 1) := by decide +kernel
theorem dX11_foretell_49 : decode cX11_foretell 49 = .ok (.iload_n 1, 1) := by decide +kernel
theorem dX11_foretell_50 : decode cX11_foretell 50 = .ok (.aload_n 0, 1) := by decide +kernel
theorem dX11_foretell_51 : decode cX11_foretell 51 = .ok (.iload_n 1, 1) := by decide +kernel
theorem dX11_foretell_52 : decode cX11_foretell 52 = .ok (.invokevirtual 367, 3) := by decide +kernel
theorem dX11_foretell_55 : decode cX11_foretell 55 = .ok (.invokevirtual 376, 3) := by decide +kernel
theorem dX11_foretell_58 : decode cX11_foretell 58 = .ok (.aload_n 0, 1) := by decide +kernel
theorem dX11_foretell_59 : decode cX11_foretell 59 = .ok (.getfield 61, 3) := by decide +kernel
theorem dX11_foretell_62 : decode cX11_foretell 62 = .ok (.aload_n 0, 1) := by decide +kernel
theorem dX11_foretell_63 : decode cX11_foretell 63 = .ok (.getfield 73, 3) := by decide +kernel
theorem dX11_foretell_66 : decode cX11_foretell 66 = .ok (.aload_n 0, 1) := by decide +kernel
theorem dX11_foretell_67 : decode cX11_foretell 67 = .ok (.getfield 29, 3) := by decide +kernel
theorem dX11_foretell_70 : decode cX11_foretell 70 = .ok (.iload_n 2, 1) := by decide +kernel
theorem dX11_foretell_71 : decode cX11_foretell 71 = .ok (.aaload, 1) := by decide +kernel
theorem dX11_foretell_72 : decode cX11_foretell 72 = .ok (.invokevirtual 303, 3) := by decide +kernel
theorem dX11_foretell_75 : decode cX11_foretell 75 = .ok (.astore 4, 2) := by decide +kernel
theorem dX11_foretell_77 : decode cX11_foretell 77 = .ok (.aload_n 0, 1) := by decide +kernel
theorem dX11_foretell_78 : decode cX11_foretell 78 = .ok (.aload 4, 2) := by decide +kernel
theorem dX11_foretell_80 : decode cX11_foretell 80 = .ok (.invokevirtual 255, 3) := by decide +kernel
theorem dX11_foretell_83 : decode cX11_foretell 83 = .ok (.putfield 194, 3) := by decide +kernel
theorem dX11_foretell_86 : decode cX11_foretell 86 = .ok (.aload 4, 2) := by decide +kernel
theorem dX11_foretell_88 : decode cX11_foretell 88 = .ok (.invokevirtual 258, 3) := by decide +kernel
theorem dX11_foretell_91 : decode cX11_foretell 91 = .ok (.ireturn, 1) := by decide +kernel
theorem dX11_asked_0 : decode cX11_asked 0 = .ok (.aload_n 0, 1) := by decide +kernel
theorem dX11_asked_1 : decode cX11_asked 1 = .ok (.getfield 194, 3) := by decide +kernel
theorem dX11_asked_4 : decode cX11_asked 4 = .ok (.ireturn, 1) := by decide +kernel
theorem dX11_upper_0 : decode cX11_upper 0 = .ok (.aload_n 0, 1) := by decide +kernel
theorem dX11_upper_1 : decode cX11_upper 1 = .ok (.getfield 379, 3) := by decide +kernel
theorem dX11_upper_4 : decode cX11_upper 4 = .ok (.lreturn, 1) := by decide +kernel
theorem dX11_lower_0 : decode cX11_lower 0 = .ok (.aload_n 0, 1) := by decide +kernel
theorem dX11_lower_1 : decode cX11_lower 1 = .ok (.getfield 95, 3) := by decide +kernel
theorem dX11_lower_4 : decode cX11_lower 4 = .ok (.lreturn, 1) := by decide +kernel
theorem dX11_count_0 : decode cX11_count 0 = .ok (.iload_n 1, 1) := by decide +kernel
theorem dX11_count_1 : decode cX11_count 1 = .ok (.tableswitch 132 0 8 #[51, 58, 65, 78, 91, 101, 108, 118, 125], 51) := by decide +kernel
theorem dX11_count_52 : decode cX11_count 52 = .ok (.aload_n 0, 1) := by decide +kernel
theorem dX11_count_53 : decode cX11_count 53 = .ok (.invokevirtual 332, 3) := by decide +kernel
theorem dX11_count_56 : decode cX11_count 56 = .ok (.goto 78, 3) := by decide +kernel
theorem dX11_count_59 : decode cX11_count 59 = .ok (.aload_n 0, 1) := by decide +kernel
theorem dX11_count_60 : decode cX11_count 60 = .ok (.invokevirtual 382, 3) := by decide +kernel
theorem dX11_count_63 : decode cX11_count 63 = .ok (.goto 71, 3) := by decide +kernel
theorem dX11_count_66 : decode cX11_count 66 = .ok (.aload_n 0, 1) := by decide +kernel
theorem dX11_count_67 : decode cX11_count 67 = .ok (.getfield 40, 3) := by decide +kernel
theorem dX11_count_70 : decode cX11_count 70 = .ok (.getfield 212, 3) := by decide +kernel
theorem dX11_count_73 : decode cX11_count 73 = .ok (.getfield 216, 3) := by decide +kernel
theorem dX11_count_76 : decode cX11_count 76 = .ok (.goto 58, 3) := by decide +kernel
theorem dX11_count_79 : decode cX11_count 79 = .ok (.aload_n 0, 1) := by decide +kernel
theorem dX11_count_80 : decode cX11_count 80 = .ok (.getfield 40, 3) := by decide +kernel
theorem dX11_count_83 : decode cX11_count 83 = .ok (.getfield 212, 3) := by decide +kernel
theorem dX11_count_86 : decode cX11_count 86 = .ok (.getfield 273, 3) := by decide +kernel
theorem dX11_count_89 : decode cX11_count 89 = .ok (.goto 45, 3) := by decide +kernel
theorem dX11_count_92 : decode cX11_count 92 = .ok (.aload_n 0, 1) := by decide +kernel
theorem dX11_count_93 : decode cX11_count 93 = .ok (.getfield 40, 3) := by decide +kernel
theorem dX11_count_96 : decode cX11_count 96 = .ok (.invokevirtual 385, 3) := by decide +kernel
theorem dX11_count_99 : decode cX11_count 99 = .ok (.goto 35, 3) := by decide +kernel
theorem dX11_count_102 : decode cX11_count 102 = .ok (.aload_n 0, 1) := by decide +kernel
theorem dX11_count_103 : decode cX11_count 103 = .ok (.invokevirtual 388, 3) := by decide +kernel
theorem dX11_count_106 : decode cX11_count 106 = .ok (.goto 28, 3) := by decide +kernel
theorem dX11_count_109 : decode cX11_count 109 = .ok (.aload_n 0, 1) := by decide +kernel
theorem dX11_count_110 : decode cX11_count 110 = .ok (.getfield 47, 3) := by decide +kernel
theorem dX11_count_113 : decode cX11_count 113 = .ok (.getfield 355, 3) := by decide +kernel
theorem dX11_count_116 : decode cX11_count 116 = .ok (.goto 18, 3) := by decide +kernel
theorem dX11_count_119 : decode cX11_count 119 = .ok (.aload_n 0, 1) := by decide +kernel
theorem dX11_count_120 : decode cX11_count 120 = .ok (.invokevirtual 391, 3) := by decide +kernel
theorem dX11_count_123 : decode cX11_count 123 = .ok (.goto 11, 3) := by decide +kernel
theorem dX11_count_126 : decode cX11_count 126 = .ok (.aload_n 0, 1) := by decide +kernel
theorem dX11_count_127 : decode cX11_count 127 = .ok (.invokevirtual 394, 3) := by decide +kernel
theorem dX11_count_130 : decode cX11_count 130 = .ok (.goto 4, 3) := by decide +kernel
theorem dX11_count_133 : decode cX11_count 133 = .ok (.iconst (-1), 1) := by decide +kernel
theorem dX11_count_134 : decode cX11_count 134 = .ok (.ireturn, 1) := by decide +kernel
theorem dX11_finding_0 : decode cX11_finding 0 = .ok (.aload_n 0, 1) := by decide +kernel
theorem dX11_finding_1 : decode cX11_finding 1 = .ok (.getfield 397, 3) := by decide +kernel
theorem dX11_finding_4 : decode cX11_finding 4 = .ok (.ireturn, 1) := by decide +kernel
theorem dX11_findings_0 : decode cX11_findings 0 = .ok (.iload_n 1, 1) := by decide +kernel
theorem dX11_findings_1 : decode cX11_findings 1 = .ok (.iconst 1, 1) := by decide +kernel
theorem dX11_findings_2 : decode cX11_findings 2 = .ok (.if_icmp .lt 8, 3) := by decide +kernel
theorem dX11_findings_5 : decode cX11_findings 5 = .ok (.iload_n 1, 1) := by decide +kernel
theorem dX11_findings_6 : decode cX11_findings 6 = .ok (.iconst 5, 1) := by decide +kernel
theorem dX11_findings_7 : decode cX11_findings 7 = .ok (.if_icmp .le 7, 3) := by decide +kernel
theorem dX11_findings_10 : decode cX11_findings 10 = .ok (.iconst (-1), 1) := by decide +kernel
theorem dX11_findings_11 : decode cX11_findings 11 = .ok (.goto 9, 3) := by decide +kernel
theorem dX11_findings_14 : decode cX11_findings 14 = .ok (.aload_n 0, 1) := by decide +kernel
theorem dX11_findings_15 : decode cX11_findings 15 = .ok (.getfield 92, 3) := by decide +kernel
theorem dX11_findings_18 : decode cX11_findings 18 = .ok (.iload_n 1, 1) := by decide +kernel
theorem dX11_findings_19 : decode cX11_findings 19 = .ok (.iaload, 1) := by decide +kernel
theorem dX11_findings_20 : decode cX11_findings 20 = .ok (.ireturn, 1) := by decide +kernel
theorem dX11_digest_0 : decode cX11_digest 0 = .ok (.ldc2_w 400, 3) := by decide +kernel
theorem dX11_digest_3 : decode cX11_digest 3 = .ok (.lstore_n 1, 1) := by decide +kernel
theorem dX11_digest_4 : decode cX11_digest 4 = .ok (.iconst 0, 1) := by decide +kernel
theorem dX11_digest_5 : decode cX11_digest 5 = .ok (.istore_n 3, 1) := by decide +kernel
theorem dX11_digest_6 : decode cX11_digest 6 = .ok (.iload_n 3, 1) := by decide +kernel
theorem dX11_digest_7 : decode cX11_digest 7 = .ok (.bipush 9, 2) := by decide +kernel
theorem dX11_digest_9 : decode cX11_digest 9 = .ok (.if_icmp .ge 22, 3) := by decide +kernel
theorem dX11_digest_12 : decode cX11_digest 12 = .ok (.ldc2_w 402, 3) := by decide +kernel
theorem dX11_digest_15 : decode cX11_digest 15 = .ok (.lload_n 1, 1) := by decide +kernel
theorem dX11_digest_16 : decode cX11_digest 16 = .ok (.lmul, 1) := by decide +kernel
theorem dX11_digest_17 : decode cX11_digest 17 = .ok (.aload_n 0, 1) := by decide +kernel
theorem dX11_digest_18 : decode cX11_digest 18 = .ok (.iload_n 3, 1) := by decide +kernel
theorem dX11_digest_19 : decode cX11_digest 19 = .ok (.invokevirtual 404, 3) := by decide +kernel
theorem dX11_digest_22 : decode cX11_digest 22 = .ok (.i2l, 1) := by decide +kernel
theorem dX11_digest_23 : decode cX11_digest 23 = .ok (.ladd, 1) := by decide +kernel
theorem dX11_digest_24 : decode cX11_digest 24 = .ok (.lstore_n 1, 1) := by decide +kernel
theorem dX11_digest_25 : decode cX11_digest 25 = .ok (.iinc 3 1, 3) := by decide +kernel
theorem dX11_digest_28 : decode cX11_digest 28 = .ok (.goto (-22), 3) := by decide +kernel
theorem dX11_digest_31 : decode cX11_digest 31 = .ok (.aload_n 0, 1) := by decide +kernel
theorem dX11_digest_32 : decode cX11_digest 32 = .ok (.lload_n 1, 1) := by decide +kernel
theorem dX11_digest_33 : decode cX11_digest 33 = .ok (.invokevirtual 407, 3) := by decide +kernel
theorem dX11_digest_36 : decode cX11_digest 36 = .ok (.lstore_n 1, 1) := by decide +kernel
theorem dX11_digest_37 : decode cX11_digest 37 = .ok (.aload_n 0, 1) := by decide +kernel
theorem dX11_digest_38 : decode cX11_digest 38 = .ok (.lload_n 1, 1) := by decide +kernel
theorem dX11_digest_39 : decode cX11_digest 39 = .ok (.invokevirtual 411, 3) := by decide +kernel
theorem dX11_digest_42 : decode cX11_digest 42 = .ok (.lstore_n 1, 1) := by decide +kernel
theorem dX11_digest_43 : decode cX11_digest 43 = .ok (.aload_n 0, 1) := by decide +kernel
theorem dX11_digest_44 : decode cX11_digest 44 = .ok (.lload_n 1, 1) := by decide +kernel
theorem dX11_digest_45 : decode cX11_digest 45 = .ok (.invokevirtual 414, 3) := by decide +kernel
theorem dX11_digest_48 : decode cX11_digest 48 = .ok (.lstore_n 1, 1) := by decide +kernel
theorem dX11_digest_49 : decode cX11_digest 49 = .ok (.iconst 0, 1) := by decide +kernel
theorem dX11_digest_50 : decode cX11_digest 50 = .ok (.istore_n 3, 1) := by decide +kernel
theorem dX11_digest_51 : decode cX11_digest 51 = .ok (.iload_n 3, 1) := by decide +kernel
theorem dX11_digest_52 : decode cX11_digest 52 = .ok (.aload_n 0, 1) := by decide +kernel
theorem dX11_digest_53 : decode cX11_digest 53 = .ok (.getfield 47, 3) := by decide +kernel
theorem dX11_digest_56 : decode cX11_digest 56 = .ok (.getfield 355, 3) := by decide +kernel
theorem dX11_digest_59 : decode cX11_digest 59 = .ok (.if_icmp .ge 43, 3) := by decide +kernel
theorem dX11_digest_62 : decode cX11_digest 62 = .ok (.ldc2_w 402, 3) := by decide +kernel
theorem dX11_digest_65 : decode cX11_digest 65 = .ok (.lload_n 1, 1) := by decide +kernel
theorem dX11_digest_66 : decode cX11_digest 66 = .ok (.lmul, 1) := by decide +kernel
theorem dX11_digest_67 : decode cX11_digest 67 = .ok (.aload_n 0, 1) := by decide +kernel
theorem dX11_digest_68 : decode cX11_digest 68 = .ok (.getfield 47, 3) := by decide +kernel
theorem dX11_digest_71 : decode cX11_digest 71 = .ok (.getfield 359, 3) := by decide +kernel
theorem dX11_digest_74 : decode cX11_digest 74 = .ok (.iload_n 3, 1) := by decide +kernel
theorem dX11_digest_75 : decode cX11_digest 75 = .ok (.iaload, 1) := by decide +kernel
theorem dX11_digest_76 : decode cX11_digest 76 = .ok (.i2l, 1) := by decide +kernel
theorem dX11_digest_77 : decode cX11_digest 77 = .ok (.ladd, 1) := by decide +kernel
theorem dX11_digest_78 : decode cX11_digest 78 = .ok (.lstore_n 1, 1) := by decide +kernel
theorem dX11_digest_79 : decode cX11_digest 79 = .ok (.ldc2_w 402, 3) := by decide +kernel
theorem dX11_digest_82 : decode cX11_digest 82 = .ok (.lload_n 1, 1) := by decide +kernel
theorem dX11_digest_83 : decode cX11_digest 83 = .ok (.lmul, 1) := by decide +kernel
theorem dX11_digest_84 : decode cX11_digest 84 = .ok (.aload_n 0, 1) := by decide +kernel
theorem dX11_digest_85 : decode cX11_digest 85 = .ok (.getfield 47, 3) := by decide +kernel
theorem dX11_digest_88 : decode cX11_digest 88 = .ok (.getfield 361, 3) := by decide +kernel
theorem dX11_digest_91 : decode cX11_digest 91 = .ok (.iload_n 3, 1) := by decide +kernel
theorem dX11_digest_92 : decode cX11_digest 92 = .ok (.iaload, 1) := by decide +kernel
theorem dX11_digest_93 : decode cX11_digest 93 = .ok (.i2l, 1) := by decide +kernel
theorem dX11_digest_94 : decode cX11_digest 94 = .ok (.ladd, 1) := by decide +kernel
theorem dX11_digest_95 : decode cX11_digest 95 = .ok (.lstore_n 1, 1) := by decide +kernel
theorem dX11_digest_96 : decode cX11_digest 96 = .ok (.iinc 3 1, 3) := by decide +kernel
theorem dX11_digest_99 : decode cX11_digest 99 = .ok (.goto (-48), 3) := by decide +kernel
theorem dX11_digest_102 : decode cX11_digest 102 = .ok (.aload_n 0, 1) := by decide +kernel
theorem dX11_digest_103 : decode cX11_digest 103 = .ok (.lload_n 1, 1) := by decide +kernel
theorem dX11_digest_104 : decode cX11_digest 104 = .ok (.invokevirtual 417, 3) := by decide +kernel
theorem dX11_digest_107 : decode cX11_digest 107 = .ok (.lstore_n 1, 1) := by decide +kernel
theorem dX11_digest_108 : decode cX11_digest 108 = .ok (.aload_n 0, 1) := by decide +kernel
theorem dX11_digest_109 : decode cX11_digest 109 = .ok (.lload_n 1, 1) := by decide +kernel
theorem dX11_digest_110 : decode cX11_digest 110 = .ok (.invokevirtual 420, 3) := by decide +kernel
theorem dX11_digest_113 : decode cX11_digest 113 = .ok (.lreturn, 1) := by decide +kernel
theorem dX11_isRow_0 : decode cX11_isRow 0 = .ok (.iload_n 0, 1) := by decide +kernel
theorem dX11_isRow_1 : decode cX11_isRow 1 = .ok (.ifCond .lt 13, 3) := by decide +kernel
theorem dX11_isRow_4 : decode cX11_isRow 4 = .ok (.iload_n 0, 1) := by decide +kernel
theorem dX11_isRow_5 : decode cX11_isRow 5 = .ok (.bipush 6, 2) := by decide +kernel
theorem dX11_isRow_7 : decode cX11_isRow 7 = .ok (.if_icmp .ge 7, 3) := by decide +kernel
theorem dX11_isRow_10 : decode cX11_isRow 10 = .ok (.iconst 1, 1) := by decide +kernel
theorem dX11_isRow_11 : decode cX11_isRow 11 = .ok (.goto 4, 3) := by decide +kernel
theorem dX11_isRow_14 : decode cX11_isRow 14 = .ok (.iconst 0, 1) := by decide +kernel
theorem dX11_isRow_15 : decode cX11_isRow 15 = .ok (.ireturn, 1) := by decide +kernel
theorem dX11_isText_0 : decode cX11_isText 0 = .ok (.iload_n 0, 1) := by decide +kernel
theorem dX11_isText_1 : decode cX11_isText 1 = .ok (.ifCond .lt 12, 3) := by decide +kernel
theorem dX11_isText_4 : decode cX11_isText 4 = .ok (.iload_n 0, 1) := by decide +kernel
theorem dX11_isText_5 : decode cX11_isText 5 = .ok (.iconst 4, 1) := by decide +kernel
theorem dX11_isText_6 : decode cX11_isText 6 = .ok (.if_icmp .ge 7, 3) := by decide +kernel
theorem dX11_isText_9 : decode cX11_isText 9 = .ok (.iconst 1, 1) := by decide +kernel
theorem dX11_isText_10 : decode cX11_isText 10 = .ok (.goto 4, 3) := by decide +kernel
theorem dX11_isText_13 : decode cX11_isText 13 = .ok (.iconst 0, 1) := by decide +kernel
theorem dX11_isText_14 : decode cX11_isText 14 = .ok (.ireturn, 1) := by decide +kernel
theorem dX11_isFlour_0 : decode cX11_isFlour 0 = .ok (.iload_n 0, 1) := by decide +kernel
theorem dX11_isFlour_1 : decode cX11_isFlour 1 = .ok (.ifCond .lt 12, 3) := by decide +kernel
theorem dX11_isFlour_4 : decode cX11_isFlour 4 = .ok (.iload_n 0, 1) := by decide +kernel
theorem dX11_isFlour_5 : decode cX11_isFlour 5 = .ok (.iconst 4, 1) := by decide +kernel
theorem dX11_isFlour_6 : decode cX11_isFlour 6 = .ok (.if_icmp .ge 7, 3) := by decide +kernel
theorem dX11_isFlour_9 : decode cX11_isFlour 9 = .ok (.iconst 1, 1) := by decide +kernel
theorem dX11_isFlour_10 : decode cX11_isFlour 10 = .ok (.goto 4, 3) := by decide +kernel
theorem dX11_isFlour_13 : decode cX11_isFlour 13 = .ok (.iconst 0, 1) := by decide +kernel
theorem dX11_isFlour_14 : decode cX11_isFlour 14 = .ok (.ireturn, 1) := by decide +kernel
theorem dX11_isDoing_0 : decode cX11_isDoing 0 = .ok (.iload_n 0, 1) := by decide +kernel
theorem dX11_isDoing_1 : decode cX11_isDoing 1 = .ok (.ifCond .lt 12, 3) := by decide +kernel
theorem dX11_isDoing_4 : decode cX11_isDoing 4 = .ok (.iload_n 0, 1) := by decide +kernel
theorem dX11_isDoing_5 : decode cX11_isDoing 5 = .ok (.iconst 4, 1) := by decide +kernel
theorem dX11_isDoing_6 : decode cX11_isDoing 6 = .ok (.if_icmp .ge 7, 3) := by decide +kernel
theorem dX11_isDoing_9 : decode cX11_isDoing 9 = .ok (.iconst 1, 1) := by decide +kernel
theorem dX11_isDoing_10 : decode cX11_isDoing 10 = .ok (.goto 4, 3) := by decide +kernel
theorem dX11_isDoing_13 : decode cX11_isDoing 13 = .ok (.iconst 0, 1) := by decide +kernel
theorem dX11_isDoing_14 : decode cX11_isDoing 14 = .ok (.ireturn, 1) := by decide +kernel
theorem dX11_isPlace_0 : decode cX11_isPlace 0 = .ok (.iload_n 0, 1) := by decide +kernel
theorem dX11_isPlace_1 : decode cX11_isPlace 1 = .ok (.ifCond .lt 12, 3) := by decide +kernel
theorem dX11_isPlace_4 : decode cX11_isPlace 4 = .ok (.iload_n 0, 1) := by decide +kernel
theorem dX11_isPlace_5 : decode cX11_isPlace 5 = .ok (.iconst 3, 1) := by decide +kernel
theorem dX11_isPlace_6 : decode cX11_isPlace 6 = .ok (.if_icmp .ge 7, 3) := by decide +kernel
theorem dX11_isPlace_9 : decode cX11_isPlace 9 = .ok (.iconst 1, 1) := by decide +kernel
theorem dX11_isPlace_10 : decode cX11_isPlace 10 = .ok (.goto 4, 3) := by decide +kernel
theorem dX11_isPlace_13 : decode cX11_isPlace 13 = .ok (.iconst 0, 1) := by decide +kernel
theorem dX11_isPlace_14 : decode cX11_isPlace 14 = .ok (.ireturn, 1) := by decide +kernel
theorem dX11_isWarmth_0 : decode cX11_isWarmth 0 = .ok (.iload_n 0, 1) := by decide +kernel
theorem dX11_isWarmth_1 : decode cX11_isWarmth 1 = .ok (.ifCond .lt 13, 3) := by decide +kernel
theorem dX11_isWarmth_4 : decode cX11_isWarmth 4 = .ok (.iload_n 0, 1) := by decide +kernel
theorem dX11_isWarmth_5 : decode cX11_isWarmth 5 = .ok (.bipush 9, 2) := by decide +kernel
theorem dX11_isWarmth_7 : decode cX11_isWarmth 7 = .ok (.if_icmp .gt 7, 3) := by decide +kernel
theorem dX11_isWarmth_10 : decode cX11_isWarmth 10 = .ok (.iconst 1, 1) := by decide +kernel
theorem dX11_isWarmth_11 : decode cX11_isWarmth 11 = .ok (.goto 4, 3) := by decide +kernel
theorem dX11_isWarmth_14 : decode cX11_isWarmth 14 = .ok (.iconst 0, 1) := by decide +kernel
theorem dX11_isWarmth_15 : decode cX11_isWarmth 15 = .ok (.ireturn, 1) := by decide +kernel
theorem dX11_isFall_0 : decode cX11_isFall 0 = .ok (.iload_n 1, 1) := by decide +kernel
theorem dX11_isFall_1 : decode cX11_isFall 1 = .ok (.ifCond .lt 21, 3) := by decide +kernel
theorem dX11_isFall_4 : decode cX11_isFall 4 = .ok (.iload_n 1, 1) := by decide +kernel
theorem dX11_isFall_5 : decode cX11_isFall 5 = .ok (.aload_n 0, 1) := by decide +kernel
theorem dX11_isFall_6 : decode cX11_isFall 6 = .ok (.getfield 40, 3) := by decide +kernel
theorem dX11_isFall_9 : decode cX11_isFall 9 = .ok (.getfield 212, 3) := by decide +kernel
theorem dX11_isFall_12 : decode cX11_isFall 12 = .ok (.getfield 273, 3) := by decide +kernel
theorem dX11_isFall_15 : decode cX11_isFall 15 = .ok (.if_icmp .ge 7, 3) := by decide +kernel
theorem dX11_isFall_18 : decode cX11_isFall 18 = .ok (.iconst 1, 1) := by decide +kernel
theorem dX11_isFall_19 : decode cX11_isFall 19 = .ok (.goto 4, 3) := by decide +kernel
theorem dX11_isFall_22 : decode cX11_isFall 22 = .ok (.iconst 0, 1) := by decide +kernel
theorem dX11_isFall_23 : decode cX11_isFall 23 = .ok (.ireturn, 1) := by decide +kernel
theorem dX11_tell_0 : decode cX11_tell 0 = .ok (.aload_n 0, 1) := by decide +kernel
theorem dX11_tell_1 : decode cX11_tell 1 = .ok (.iload_n 1, 1) := by decide +kernel
theorem dX11_tell_2 : decode cX11_tell 2 = .ok (.putfield 194, 3) := by decide +kernel
theorem dX11_tell_5 : decode cX11_tell 5 = .ok (.iconst 1, 1) := by decide +kernel
theorem dX11_tell_6 : decode cX11_tell 6 = .ok (.ireturn, 1) := by decide +kernel
theorem dX11_tellFraction_0 : decode cX11_tellFraction 0 = .ok (.iconst 1, 1) := by decide +kernel
theorem dX11_tellFraction_1 : decode cX11_tellFraction 1 = .ok (.istore_n 3, 1) := by decide +kernel
theorem dX11_tellFraction_2 : decode cX11_tellFraction 2 = .ok (.iconst 2, 1) := by decide +kernel
theorem dX11_tellFraction_3 : decode cX11_tellFraction 3 = .ok (.istore 4, 2) := by decide +kernel
theorem dX11_tellFraction_5 : decode cX11_tellFraction 5 = .ok (.iload 4, 2) := by decide +kernel
theorem dX11_tellFraction_7 : decode cX11_tellFraction 7 = .ok (.iload_n 2, 1) := by decide +kernel
theorem dX11_tellFraction_8 : decode cX11_tellFraction 8 = .ok (.if_icmp .gt 26, 3) := by decide +kernel
theorem dX11_tellFraction_11 : decode cX11_tellFraction 11 = .ok (.iload_n 1, 1) := by decide +kernel
theorem dX11_tellFraction_12 : decode cX11_tellFraction 12 = .ok (.iload 4, 2) := by decide +kernel
theorem dX11_tellFraction_14 : decode cX11_tellFraction 14 = .ok (.irem, 1) := by decide +kernel
theorem dX11_tellFraction_15 : decode cX11_tellFraction 15 = .ok (.ifCond .ne 13, 3) := by decide +kernel
theorem dX11_tellFraction_18 : decode cX11_tellFraction 18 = .ok (.iload_n 2, 1) := by decide +kernel
theorem dX11_tellFraction_19 : decode cX11_tellFraction 19 = .ok (.iload 4, 2) := by decide +kernel
theorem dX11_tellFraction_21 : decode cX11_tellFraction 21 = .ok (.irem, 1) := by decide +kernel
theorem dX11_tellFraction_22 : decode cX11_tellFraction 22 = .ok (.ifCond .ne 6, 3) := by decide +kernel
theorem dX11_tellFraction_25 : decode cX11_tellFraction 25 = .ok (.iload 4, 2) := by decide +kernel
theorem dX11_tellFraction_27 : decode cX11_tellFraction 27 = .ok (.istore_n 3, 1) := by decide +kernel
theorem dX11_tellFraction_28 : decode cX11_tellFraction 28 = .ok (.iinc 4 1, 3) := by decide +kernel
theorem dX11_tellFraction_31 : decode cX11_tellFraction 31 = .ok (.goto (-26), 3) := by decide +kernel
theorem dX11_tellFraction_34 : decode cX11_tellFraction 34 = .ok (.aload_n 0, 1) := by decide +kernel
theorem dX11_tellFraction_35 : decode cX11_tellFraction 35 = .ok (.iload_n 1, 1) := by decide +kernel
theorem dX11_tellFraction_36 : decode cX11_tellFraction 36 = .ok (.iload_n 3, 1) := by decide +kernel
theorem dX11_tellFraction_37 : decode cX11_tellFraction 37 = .ok (.idiv, 1) := by decide +kernel
theorem dX11_tellFraction_38 : decode cX11_tellFraction 38 = .ok (.i2l, 1) := by decide +kernel
theorem dX11_tellFraction_39 : decode cX11_tellFraction 39 = .ok (.putfield 379, 3) := by decide +kernel
theorem dX11_tellFraction_42 : decode cX11_tellFraction 42 = .ok (.aload_n 0, 1) := by decide +kernel
theorem dX11_tellFraction_43 : decode cX11_tellFraction 43 = .ok (.iload_n 2, 1) := by decide +kernel
theorem dX11_tellFraction_44 : decode cX11_tellFraction 44 = .ok (.iload_n 3, 1) := by decide +kernel
theorem dX11_tellFraction_45 : decode cX11_tellFraction 45 = .ok (.idiv, 1) := by decide +kernel
theorem dX11_tellFraction_46 : decode cX11_tellFraction 46 = .ok (.i2l, 1) := by decide +kernel
theorem dX11_tellFraction_47 : decode cX11_tellFraction 47 = .ok (.putfield 95, 3) := by decide +kernel
theorem dX11_tellFraction_50 : decode cX11_tellFraction 50 = .ok (.return_, 1) := by decide +kernel
theorem dX11_found_0 : decode cX11_found 0 = .ok (.aload_n 0, 1) := by decide +kernel
theorem dX11_found_1 : decode cX11_found 1 = .ok (.iload_n 1, 1) := by decide +kernel
theorem dX11_found_2 : decode cX11_found 2 = .ok (.putfield 397, 3) := by decide +kernel
theorem dX11_found_5 : decode cX11_found 5 = .ok (.iload_n 1, 1) := by decide +kernel
theorem dX11_found_6 : decode cX11_found 6 = .ok (.iconst 1, 1) := by decide +kernel
theorem dX11_found_7 : decode cX11_found 7 = .ok (.if_icmp .lt 18, 3) := by decide +kernel
theorem dX11_found_10 : decode cX11_found 10 = .ok (.iload_n 1, 1) := by decide +kernel
theorem dX11_found_11 : decode cX11_found 11 = .ok (.iconst 5, 1) := by decide +kernel
theorem dX11_found_12 : decode cX11_found 12 = .ok (.if_icmp .gt 13, 3) := by decide +kernel
theorem dX11_found_15 : decode cX11_found 15 = .ok (.aload_n 0, 1) := by decide +kernel
theorem dX11_found_16 : decode cX11_found 16 = .ok (.getfield 92, 3) := by decide +kernel
theorem dX11_found_19 : decode cX11_found 19 = .ok (.iload_n 1, 1) := by decide +kernel
theorem dX11_found_20 : decode cX11_found 20 = .ok (.dup2, 1) := by decide +kernel
theorem dX11_found_21 : decode cX11_found 21 = .ok (.iaload, 1) := by decide +kernel
theorem dX11_found_22 : decode cX11_found 22 = .ok (.iconst 1, 1) := by decide +kernel
theorem dX11_found_23 : decode cX11_found 23 = .ok (.iadd, 1) := by decide +kernel
theorem dX11_found_24 : decode cX11_found 24 = .ok (.iastore, 1) := by decide +kernel
theorem dX11_found_25 : decode cX11_found 25 = .ok (.bipush (-3), 2) := by decide +kernel
theorem dX11_found_27 : decode cX11_found 27 = .ok (.ireturn, 1) := by decide +kernel
theorem dX11_lackOfPlace_0 : decode cX11_lackOfPlace 0 = .ok (.aload_n 0, 1) := by decide +kernel
theorem dX11_lackOfPlace_1 : decode cX11_lackOfPlace 1 = .ok (.getfield 11, 3) := by decide +kernel
theorem dX11_lackOfPlace_4 : decode cX11_lackOfPlace 4 = .ok (.iload_n 1, 1) := by decide +kernel
theorem dX11_lackOfPlace_5 : decode cX11_lackOfPlace 5 = .ok (.aaload, 1) := by decide +kernel
theorem dX11_lackOfPlace_6 : decode cX11_lackOfPlace 6 = .ok (.invokevirtual 123, 3) := by decide +kernel
theorem dX11_lackOfPlace_9 : decode cX11_lackOfPlace 9 = .ok (.ifCond .ne 5, 3) := by decide +kernel
theorem dX11_lackOfPlace_12 : decode cX11_lackOfPlace 12 = .ok (.iconst 1, 1) := by decide +kernel
theorem dX11_lackOfPlace_13 : decode cX11_lackOfPlace 13 = .ok (.ireturn, 1) := by decide +kernel
theorem dX11_lackOfPlace_14 : decode cX11_lackOfPlace 14 = .ok (.aload_n 0, 1) := by decide +kernel
theorem dX11_lackOfPlace_15 : decode cX11_lackOfPlace 15 = .ok (.getfield 11, 3) := by decide +kernel
theorem dX11_lackOfPlace_18 : decode cX11_lackOfPlace 18 = .ok (.iload_n 1, 1) := by decide +kernel
theorem dX11_lackOfPlace_19 : decode cX11_lackOfPlace 19 = .ok (.aaload, 1) := by decide +kernel
theorem dX11_lackOfPlace_20 : decode cX11_lackOfPlace 20 = .ok (.iload_n 2, 1) := by decide +kernel
theorem dX11_lackOfPlace_21 : decode cX11_lackOfPlace 21 = .ok (.invokevirtual 423, 3) := by decide +kernel
theorem dX11_lackOfPlace_24 : decode cX11_lackOfPlace 24 = .ok (.ifCond .eq 7, 3) := by decide +kernel
theorem dX11_lackOfPlace_27 : decode cX11_lackOfPlace 27 = .ok (.iconst 0, 1) := by decide +kernel
theorem dX11_lackOfPlace_28 : decode cX11_lackOfPlace 28 = .ok (.goto 4, 3) := by decide +kernel
theorem dX11_lackOfPlace_31 : decode cX11_lackOfPlace 31 = .ok (.iconst 2, 1) := by decide +kernel
theorem dX11_lackOfPlace_32 : decode cX11_lackOfPlace 32 = .ok (.ireturn, 1) := by decide +kernel
theorem dX11_lackOfPairs_0 : decode cX11_lackOfPairs 0 = .ok (.aload_n 0, 1) := by decide +kernel
theorem dX11_lackOfPairs_1 : decode cX11_lackOfPairs 1 = .ok (.invokevirtual 332, 3) := by decide +kernel
theorem dX11_lackOfPairs_4 : decode cX11_lackOfPairs 4 = .ok (.ifCond .eq 10, 3) := by decide +kernel
theorem dX11_lackOfPairs_7 : decode cX11_lackOfPairs 7 = .ok (.aload_n 0, 1) := by decide +kernel
theorem dX11_lackOfPairs_8 : decode cX11_lackOfPairs 8 = .ok (.invokevirtual 382, 3) := by decide +kernel
theorem dX11_lackOfPairs_11 : decode cX11_lackOfPairs 11 = .ok (.ifCond .ne 7, 3) := by decide +kernel
theorem dX11_lackOfPairs_14 : decode cX11_lackOfPairs 14 = .ok (.iconst 1, 1) := by decide +kernel
theorem dX11_lackOfPairs_15 : decode cX11_lackOfPairs 15 = .ok (.goto 8, 3) := by decide +kernel
theorem dX11_lackOfPairs_18 : decode cX11_lackOfPairs 18 = .ok (.aload_n 0, 1) := by decide +kernel
theorem dX11_lackOfPairs_19 : decode cX11_lackOfPairs 19 = .ok (.iload_n 1, 1) := by decide +kernel
theorem dX11_lackOfPairs_20 : decode cX11_lackOfPairs 20 = .ok (.invokevirtual 424, 3) := by decide +kernel
theorem dX11_lackOfPairs_23 : decode cX11_lackOfPairs 23 = .ok (.ireturn, 1) := by decide +kernel
theorem dX11_lackOfPairAndCut_0 : decode cX11_lackOfPairAndCut 0 = .ok (.aload_n 0, 1) := by decide +kernel
theorem dX11_lackOfPairAndCut_1 : decode cX11_lackOfPairAndCut 1 = .ok (.getfield 23, 3) := by decide +kernel
theorem dX11_lackOfPairAndCut_4 : decode cX11_lackOfPairAndCut 4 = .ok (.iload_n 1, 1) := by decide +kernel
theorem dX11_lackOfPairAndCut_5 : decode cX11_lackOfPairAndCut 5 = .ok (.aaload, 1) := by decide +kernel
theorem dX11_lackOfPairAndCut_6 : decode cX11_lackOfPairAndCut 6 = .ok (.getfield 183, 3) := by decide +kernel
theorem dX11_lackOfPairAndCut_9 : decode cX11_lackOfPairAndCut 9 = .ok (.ifCond .eq 15, 3) := by decide +kernel
theorem dX11_lackOfPairAndCut_12 : decode cX11_lackOfPairAndCut 12 = .ok (.aload_n 0, 1) := by decide +kernel
theorem dX11_lackOfPairAndCut_13 : decode cX11_lackOfPairAndCut 13 = .ok (.getfield 29, 3) := by decide +kernel
theorem dX11_lackOfPairAndCut_16 : decode cX11_lackOfPairAndCut 16 = .ok (.iload_n 2, 1) := by decide +kernel
theorem dX11_lackOfPairAndCut_17 : decode cX11_lackOfPairAndCut 17 = .ok (.aaload, 1) := by decide +kernel
theorem dX11_lackOfPairAndCut_18 : decode cX11_lackOfPairAndCut 18 = .ok (.getfield 190, 3) := by decide +kernel
theorem dX11_lackOfPairAndCut_21 : decode cX11_lackOfPairAndCut 21 = .ok (.ifCond .ne 7, 3) := by decide +kernel
theorem dX11_lackOfPairAndCut_24 : decode cX11_lackOfPairAndCut 24 = .ok (.iconst 1, 1) := by decide +kernel
theorem dX11_lackOfPairAndCut_25 : decode cX11_lackOfPairAndCut 25 = .ok (.goto 8, 3) := by decide +kernel
theorem dX11_lackOfPairAndCut_28 : decode cX11_lackOfPairAndCut 28 = .ok (.aload_n 0, 1) := by decide +kernel
theorem dX11_lackOfPairAndCut_29 : decode cX11_lackOfPairAndCut 29 = .ok (.iload_n 3, 1) := by decide +kernel
theorem dX11_lackOfPairAndCut_30 : decode cX11_lackOfPairAndCut 30 = .ok (.invokevirtual 424, 3) := by decide +kernel
theorem dX11_lackOfPairAndCut_33 : decode cX11_lackOfPairAndCut 33 = .ok (.ireturn, 1) := by decide +kernel
theorem dX11_lackOfCut_0 : decode cX11_lackOfCut 0 = .ok (.aload_n 0, 1) := by decide +kernel
theorem dX11_lackOfCut_1 : decode cX11_lackOfCut 1 = .ok (.getfield 11, 3) := by decide +kernel
theorem dX11_lackOfCut_4 : decode cX11_lackOfCut 4 = .ok (.iload_n 1, 1) := by decide +kernel
theorem dX11_lackOfCut_5 : decode cX11_lackOfCut 5 = .ok (.aaload, 1) := by decide +kernel
theorem dX11_lackOfCut_6 : decode cX11_lackOfCut 6 = .ok (.invokevirtual 123, 3) := by decide +kernel
theorem dX11_lackOfCut_9 : decode cX11_lackOfCut 9 = .ok (.ifCond .ne 5, 3) := by decide +kernel
theorem dX11_lackOfCut_12 : decode cX11_lackOfCut 12 = .ok (.iconst 1, 1) := by decide +kernel
theorem dX11_lackOfCut_13 : decode cX11_lackOfCut 13 = .ok (.ireturn, 1) := by decide +kernel
theorem dX11_lackOfCut_14 : decode cX11_lackOfCut 14 = .ok (.aload_n 0, 1) := by decide +kernel
theorem dX11_lackOfCut_15 : decode cX11_lackOfCut 15 = .ok (.getfield 11, 3) := by decide +kernel
theorem dX11_lackOfCut_18 : decode cX11_lackOfCut 18 = .ok (.iload_n 1, 1) := by decide +kernel
theorem dX11_lackOfCut_19 : decode cX11_lackOfCut 19 = .ok (.aaload, 1) := by decide +kernel
theorem dX11_lackOfCut_20 : decode cX11_lackOfCut 20 = .ok (.getfield 127, 3) := by decide +kernel
theorem dX11_lackOfCut_23 : decode cX11_lackOfCut 23 = .ok (.bipush 24, 2) := by decide +kernel
theorem dX11_lackOfCut_25 : decode cX11_lackOfCut 25 = .ok (.if_icmp .eq 5, 3) := by decide +kernel
theorem dX11_lackOfCut_28 : decode cX11_lackOfCut 28 = .ok (.iconst 5, 1) := by decide +kernel
theorem dX11_lackOfCut_29 : decode cX11_lackOfCut 29 = .ok (.ireturn, 1) := by decide +kernel
theorem dX11_lackOfCut_30 : decode cX11_lackOfCut 30 = .ok (.iconst 0, 1) := by decide +kernel
theorem dX11_lackOfCut_31 : decode cX11_lackOfCut 31 = .ok (.istore_n 2, 1) := by decide +kernel
theorem dX11_lackOfCut_32 : decode cX11_lackOfCut 32 = .ok (.iload_n 2, 1) := by decide +kernel
theorem dX11_lackOfCut_33 : decode cX11_lackOfCut 33 = .ok (.bipush 24, 2) := by decide +kernel
theorem dX11_lackOfCut_35 : decode cX11_lackOfCut 35 = .ok (.if_icmp .ge 40, 3) := by decide +kernel
theorem dX11_lackOfCut_38 : decode cX11_lackOfCut 38 = .ok (.aload_n 0, 1) := by decide +kernel
theorem dX11_lackOfCut_39 : decode cX11_lackOfCut 39 = .ok (.getfield 11, 3) := by decide +kernel
theorem dX11_lackOfCut_42 : decode cX11_lackOfCut 42 = .ok (.iload_n 1, 1) := by decide +kernel
theorem dX11_lackOfCut_43 : decode cX11_lackOfCut 43 = .ok (.aaload, 1) := by decide +kernel
theorem dX11_lackOfCut_44 : decode cX11_lackOfCut 44 = .ok (.getfield 117, 3) := by decide +kernel
theorem dX11_lackOfCut_47 : decode cX11_lackOfCut 47 = .ok (.iload_n 2, 1) := by decide +kernel
theorem dX11_lackOfCut_48 : decode cX11_lackOfCut 48 = .ok (.iaload, 1) := by decide +kernel
theorem dX11_lackOfCut_49 : decode cX11_lackOfCut 49 = .ok (.ifCond .lt 18, 3) := by decide +kernel
theorem dX11_lackOfCut_52 : decode cX11_lackOfCut 52 = .ok (.aload_n 0, 1) := by decide +kernel
theorem dX11_lackOfCut_53 : decode cX11_lackOfCut 53 = .ok (.getfield 11, 3) := by decide +kernel
theorem dX11_lackOfCut_56 : decode cX11_lackOfCut 56 = .ok (.iload_n 1, 1) := by decide +kernel
theorem dX11_lackOfCut_57 : decode cX11_lackOfCut 57 = .ok (.aaload, 1) := by decide +kernel
theorem dX11_lackOfCut_58 : decode cX11_lackOfCut 58 = .ok (.getfield 117, 3) := by decide +kernel
theorem dX11_lackOfCut_61 : decode cX11_lackOfCut 61 = .ok (.iload_n 2, 1) := by decide +kernel
theorem dX11_lackOfCut_62 : decode cX11_lackOfCut 62 = .ok (.iaload, 1) := by decide +kernel
theorem dX11_lackOfCut_63 : decode cX11_lackOfCut 63 = .ok (.iconst 2, 1) := by decide +kernel
theorem dX11_lackOfCut_64 : decode cX11_lackOfCut 64 = .ok (.if_icmp .le 5, 3) := by decide +kernel
theorem dX11_lackOfCut_67 : decode cX11_lackOfCut 67 = .ok (.iconst 3, 1) := by decide +kernel
theorem dX11_lackOfCut_68 : decode cX11_lackOfCut 68 = .ok (.ireturn, 1) := by decide +kernel
theorem dX11_lackOfCut_69 : decode cX11_lackOfCut 69 = .ok (.iinc 2 1, 3) := by decide +kernel
theorem dX11_lackOfCut_72 : decode cX11_lackOfCut 72 = .ok (.goto (-40), 3) := by decide +kernel
theorem dX11_lackOfCut_75 : decode cX11_lackOfCut 75 = .ok (.iconst 0, 1) := by decide +kernel
theorem dX11_lackOfCut_76 : decode cX11_lackOfCut 76 = .ok (.ireturn, 1) := by decide +kernel
theorem dX11_lackOfLaw_0 : decode cX11_lackOfLaw 0 = .ok (.aload_n 0, 1) := by decide +kernel
theorem dX11_lackOfLaw_1 : decode cX11_lackOfLaw 1 = .ok (.getfield 23, 3) := by decide +kernel
theorem dX11_lackOfLaw_4 : decode cX11_lackOfLaw 4 = .ok (.iload_n 1, 1) := by decide +kernel
theorem dX11_lackOfLaw_5 : decode cX11_lackOfLaw 5 = .ok (.aaload, 1) := by decide +kernel
theorem dX11_lackOfLaw_6 : decode cX11_lackOfLaw 6 = .ok (.getfield 183, 3) := by decide +kernel
theorem dX11_lackOfLaw_9 : decode cX11_lackOfLaw 9 = .ok (.ifCond .ne 5, 3) := by decide +kernel
theorem dX11_lackOfLaw_12 : decode cX11_lackOfLaw 12 = .ok (.iconst 1, 1) := by decide +kernel
theorem dX11_lackOfLaw_13 : decode cX11_lackOfLaw 13 = .ok (.ireturn, 1) := by decide +kernel
theorem dX11_lackOfLaw_14 : decode cX11_lackOfLaw 14 = .ok (.aload_n 0, 1) := by decide +kernel
theorem dX11_lackOfLaw_15 : decode cX11_lackOfLaw 15 = .ok (.getfield 47, 3) := by decide +kernel
theorem dX11_lackOfLaw_18 : decode cX11_lackOfLaw 18 = .ok (.getfield 355, 3) := by decide +kernel
theorem dX11_lackOfLaw_21 : decode cX11_lackOfLaw 21 = .ok (.ifCond .ne 5, 3) := by decide +kernel
theorem dX11_lackOfLaw_24 : decode cX11_lackOfLaw 24 = .ok (.iconst 4, 1) := by decide +kernel
theorem dX11_lackOfLaw_25 : decode cX11_lackOfLaw 25 = .ok (.ireturn, 1) := by decide +kernel
theorem dX11_lackOfLaw_26 : decode cX11_lackOfLaw 26 = .ok (.iconst 0, 1) := by decide +kernel
theorem dX11_lackOfLaw_27 : decode cX11_lackOfLaw 27 = .ok (.istore_n 2, 1) := by decide +kernel
theorem dX11_lackOfLaw_28 : decode cX11_lackOfLaw 28 = .ok (.iload_n 2, 1) := by decide +kernel
theorem dX11_lackOfLaw_29 : decode cX11_lackOfLaw 29 = .ok (.aload_n 0, 1) := by decide +kernel
theorem dX11_lackOfLaw_30 : decode cX11_lackOfLaw 30 = .ok (.getfield 47, 3) := by decide +kernel
theorem dX11_lackOfLaw_33 : decode cX11_lackOfLaw 33 = .ok (.getfield 355, 3) := by decide +kernel
theorem dX11_lackOfLaw_36 : decode cX11_lackOfLaw 36 = .ok (.if_icmp .ge 31, 3) := by decide +kernel
theorem dX11_lackOfLaw_39 : decode cX11_lackOfLaw 39 = .ok (.aload_n 0, 1) := by decide +kernel
theorem dX11_lackOfLaw_40 : decode cX11_lackOfLaw 40 = .ok (.getfield 29, 3) := by decide +kernel
theorem dX11_lackOfLaw_43 : decode cX11_lackOfLaw 43 = .ok (.aload_n 0, 1) := by decide +kernel
theorem dX11_lackOfLaw_44 : decode cX11_lackOfLaw 44 = .ok (.getfield 47, 3) := by decide +kernel
theorem dX11_lackOfLaw_47 : decode cX11_lackOfLaw 47 = .ok (.getfield 359, 3) := by decide +kernel
theorem dX11_lackOfLaw_50 : decode cX11_lackOfLaw 50 = .ok (.iload_n 2, 1) := by decide +kernel
theorem dX11_lackOfLaw_51 : decode cX11_lackOfLaw 51 = .ok (.iaload, 1) := by decide +kernel
theorem dX11_lackOfLaw_52 : decode cX11_lackOfLaw 52 = .ok (.aaload, 1) := by decide +kernel
theorem dX11_lackOfLaw_53 : decode cX11_lackOfLaw 53 = .ok (.getfield 190, 3) := by decide +kernel
theorem dX11_lackOfLaw_56 : decode cX11_lackOfLaw 56 = .ok (.ifCond .ne 5, 3) := by decide +kernel
theorem dX11_lackOfLaw_59 : decode cX11_lackOfLaw 59 = .ok (.iconst 1, 1) := by decide +kernel
theorem dX11_lackOfLaw_60 : decode cX11_lackOfLaw 60 = .ok (.ireturn, 1) := by decide +kernel
theorem dX11_lackOfLaw_61 : decode cX11_lackOfLaw 61 = .ok (.iinc 2 1, 3) := by decide +kernel
theorem dX11_lackOfLaw_64 : decode cX11_lackOfLaw 64 = .ok (.goto (-36), 3) := by decide +kernel
theorem dX11_lackOfLaw_67 : decode cX11_lackOfLaw 67 = .ok (.iconst 0, 1) := by decide +kernel
theorem dX11_lackOfLaw_68 : decode cX11_lackOfLaw 68 = .ok (.ireturn, 1) := by decide +kernel
theorem dX11_unlikeOfPair_0 : decode cX11_unlikeOfPair 0 = .ok (.aload_n 0, 1) := by decide +kernel
theorem dX11_unlikeOfPair_1 : decode cX11_unlikeOfPair 1 = .ok (.getfield 23, 3) := by decide +kernel
theorem dX11_unlikeOfPair_4 : decode cX11_unlikeOfPair 4 = .ok (.iload_n 1, 1) := by decide +kernel
theorem dX11_unlikeOfPair_5 : decode cX11_unlikeOfPair 5 = .ok (.iconst 4, 1) := by decide +kernel
theorem dX11_unlikeOfPair_6 : decode cX11_unlikeOfPair 6 = .ok (.idiv, 1) := by decide +kernel
theorem dX11_unlikeOfPair_7 : decode cX11_unlikeOfPair 7 = .ok (.aaload, 1) := by decide +kernel
theorem dX11_unlikeOfPair_8 : decode cX11_unlikeOfPair 8 = .ok (.astore_n 3, 1) := by decide +kernel
theorem dX11_unlikeOfPair_9 : decode cX11_unlikeOfPair 9 = .ok (.aload_n 0, 1) := by decide +kernel
theorem dX11_unlikeOfPair_10 : decode cX11_unlikeOfPair 10 = .ok (.getfield 29, 3) := by decide +kernel
theorem dX11_unlikeOfPair_13 : decode cX11_unlikeOfPair 13 = .ok (.iload_n 1, 1) := by decide +kernel
theorem dX11_unlikeOfPair_14 : decode cX11_unlikeOfPair 14 = .ok (.iconst 4, 1) := by decide +kernel
theorem dX11_unlikeOfPair_15 : decode cX11_unlikeOfPair 15 = .ok (.irem, 1) := by decide +kernel
theorem dX11_unlikeOfPair_16 : decode cX11_unlikeOfPair 16 = .ok (.aaload, 1) := by decide +kernel
theorem dX11_unlikeOfPair_17 : decode cX11_unlikeOfPair 17 = .ok (.astore 4, 2) := by decide +kernel
theorem dX11_unlikeOfPair_19 : decode cX11_unlikeOfPair 19 = .ok (.aload_n 3, 1) := by decide +kernel
theorem dX11_unlikeOfPair_20 : decode cX11_unlikeOfPair 20 = .ok (.getfield 183, 3) := by decide +kernel
theorem dX11_unlikeOfPair_23 : decode cX11_unlikeOfPair 23 = .ok (.ifCond .eq 11, 3) := by decide +kernel
theorem dX11_unlikeOfPair_26 : decode cX11_unlikeOfPair 26 = .ok (.aload 4, 2) := by decide +kernel
theorem dX11_unlikeOfPair_28 : decode cX11_unlikeOfPair 28 = .ok (.getfield 190, 3) := by decide +kernel
theorem dX11_unlikeOfPair_31 : decode cX11_unlikeOfPair 31 = .ok (.ifCond .ne 6, 3) := by decide +kernel
theorem dX11_unlikeOfPair_34 : decode cX11_unlikeOfPair 34 = .ok (.bipush 25, 2) := by decide +kernel
theorem dX11_unlikeOfPair_36 : decode cX11_unlikeOfPair 36 = .ok (.ireturn, 1) := by decide +kernel
theorem dX11_unlikeOfPair_37 : decode cX11_unlikeOfPair 37 = .ok (.aload_n 0, 1) := by decide +kernel
theorem dX11_unlikeOfPair_38 : decode cX11_unlikeOfPair 38 = .ok (.getfield 61, 3) := by decide +kernel
theorem dX11_unlikeOfPair_41 : decode cX11_unlikeOfPair 41 = .ok (.aload_n 3, 1) := by decide +kernel
theorem dX11_unlikeOfPair_42 : decode cX11_unlikeOfPair 42 = .ok (.aload 4, 2) := by decide +kernel
theorem dX11_unlikeOfPair_44 : decode cX11_unlikeOfPair 44 = .ok (.invokevirtual 303, 3) := by decide +kernel
theorem dX11_unlikeOfPair_47 : decode cX11_unlikeOfPair 47 = .ok (.aload_n 0, 1) := by decide +kernel
theorem dX11_unlikeOfPair_48 : decode cX11_unlikeOfPair 48 = .ok (.getfield 11, 3) := by decide +kernel
theorem dX11_unlikeOfPair_51 : decode cX11_unlikeOfPair 51 = .ok (.iload_n 2, 1) := by decide +kernel
theorem dX11_unlikeOfPair_52 : decode cX11_unlikeOfPair 52 = .ok (.aaload, 1) := by decide +kernel
theorem dX11_unlikeOfPair_53 : decode cX11_unlikeOfPair 53 = .ok (.invokevirtual 307, 3) := by decide +kernel
theorem dX11_unlikeOfPair_56 : decode cX11_unlikeOfPair 56 = .ok (.ireturn, 1) := by decide +kernel
theorem dX11_yeastOfLaw_0 : decode cX11_yeastOfLaw 0 = .ok (.iconst 1, 1) := by decide +kernel
theorem dX11_yeastOfLaw_1 : decode cX11_yeastOfLaw 1 = .ok (.iload_n 0, 1) := by decide +kernel
theorem dX11_yeastOfLaw_2 : decode cX11_yeastOfLaw 2 = .ok (.bipush 9, 2) := by decide +kernel
theorem dX11_yeastOfLaw_4 : decode cX11_yeastOfLaw 4 = .ok (.idiv, 1) := by decide +kernel
theorem dX11_yeastOfLaw_5 : decode cX11_yeastOfLaw 5 = .ok (.iadd, 1) := by decide +kernel
theorem dX11_yeastOfLaw_6 : decode cX11_yeastOfLaw 6 = .ok (.ireturn, 1) := by decide +kernel
theorem dX11_strongOfLaw_0 : decode cX11_strongOfLaw 0 = .ok (.bipush 10, 2) := by decide +kernel
theorem dX11_strongOfLaw_2 : decode cX11_strongOfLaw 2 = .ok (.iconst 1, 1) := by decide +kernel
theorem dX11_strongOfLaw_3 : decode cX11_strongOfLaw 3 = .ok (.iload_n 0, 1) := by decide +kernel
theorem dX11_strongOfLaw_4 : decode cX11_strongOfLaw 4 = .ok (.bipush 9, 2) := by decide +kernel
theorem dX11_strongOfLaw_6 : decode cX11_strongOfLaw 6 = .ok (.irem, 1) := by decide +kernel
theorem dX11_strongOfLaw_7 : decode cX11_strongOfLaw 7 = .ok (.iadd, 1) := by decide +kernel
theorem dX11_strongOfLaw_8 : decode cX11_strongOfLaw 8 = .ok (.imul, 1) := by decide +kernel
theorem dX11_strongOfLaw_9 : decode cX11_strongOfLaw 9 = .ok (.ireturn, 1) := by decide +kernel
theorem dX11_takeLaw_0 : decode cX11_takeLaw 0 = .ok (.aload_n 0, 1) := by decide +kernel
theorem dX11_takeLaw_1 : decode cX11_takeLaw 1 = .ok (.getfield 73, 3) := by decide +kernel
theorem dX11_takeLaw_4 : decode cX11_takeLaw 4 = .ok (.aload_n 0, 1) := by decide +kernel
theorem dX11_takeLaw_5 : decode cX11_takeLaw 5 = .ok (.getfield 23, 3) := by decide +kernel
theorem dX11_takeLaw_8 : decode cX11_takeLaw 8 = .ok (.iload_n 1, 1) := by decide +kernel
theorem dX11_takeLaw_9 : decode cX11_takeLaw 9 = .ok (.aaload, 1) := by decide +kernel
theorem dX11_takeLaw_10 : decode cX11_takeLaw 10 = .ok (.invokevirtual 166, 3) := by decide +kernel
theorem dX11_takeLaw_13 : decode cX11_takeLaw 13 = .ok (.aload_n 0, 1) := by decide +kernel
theorem dX11_takeLaw_14 : decode cX11_takeLaw 14 = .ok (.getfield 73, 3) := by decide +kernel
theorem dX11_takeLaw_17 : decode cX11_takeLaw 17 = .ok (.getfield 187, 3) := by decide +kernel
theorem dX11_takeLaw_20 : decode cX11_takeLaw 20 = .ok (.iconst 0, 1) := by decide +kernel
theorem dX11_takeLaw_21 : decode cX11_takeLaw 21 = .ok (.iload_n 2, 1) := by decide +kernel
theorem dX11_takeLaw_22 : decode cX11_takeLaw 22 = .ok (.invokestatic 370, 3) := by decide +kernel
theorem dX11_takeLaw_25 : decode cX11_takeLaw 25 = .ok (.iastore, 1) := by decide +kernel
theorem dX11_takeLaw_26 : decode cX11_takeLaw 26 = .ok (.aload_n 0, 1) := by decide +kernel
theorem dX11_takeLaw_27 : decode cX11_takeLaw 27 = .ok (.getfield 73, 3) := by decide +kernel
theorem dX11_takeLaw_30 : decode cX11_takeLaw 30 = .ok (.getfield 187, 3) := by decide +kernel
theorem dX11_takeLaw_33 : decode cX11_takeLaw 33 = .ok (.iconst 1, 1) := by decide +kernel
theorem dX11_takeLaw_34 : decode cX11_takeLaw 34 = .ok (.iload_n 2, 1) := by decide +kernel
theorem dX11_takeLaw_35 : decode cX11_takeLaw 35 = .ok (.invokestatic 373, 3) := by decide +kernel
theorem dX11_takeLaw_38 : decode cX11_takeLaw 38 = .ok (.iastore, 1) := by decide +kernel
theorem dX11_takeLaw_39 : decode cX11_takeLaw 39 = .ok (.return_, 1) := by decide +kernel
theorem dX11_bestLaw_0 : decode cX11_bestLaw 0 = .ok (.iconst 0, 1) := by decide +kernel
theorem dX11_bestLaw_1 : decode cX11_bestLaw 1 = .ok (.istore_n 2, 1) := by decide +kernel
theorem dX11_bestLaw_2 : decode cX11_bestLaw 2 = .ok (.iconst 0, 1) := by decide +kernel
theorem dX11_bestLaw_3 : decode cX11_bestLaw 3 = .ok (.istore_n 3, 1) := by decide +kernel
theorem dX11_bestLaw_4 : decode cX11_bestLaw 4 = .ok (.iload_n 3, 1) := by decide +kernel
theorem dX11_bestLaw_5 : decode cX11_bestLaw 5 = .ok (.bipush 81, 2) := by decide +kernel
theorem dX11_bestLaw_7 : decode cX11_bestLaw 7 = .ok (.if_icmp .ge 145, 3) := by decide +kernel
theorem dX11_bestLaw_10 : decode cX11_bestLaw 10 = .ok (.aload_n 0, 1) := by decide +kernel
theorem dX11_bestLaw_11 : decode cX11_bestLaw 11 = .ok (.iload_n 1, 1) := by decide +kernel
theorem dX11_bestLaw_12 : decode cX11_bestLaw 12 = .ok (.iload_n 3, 1) := by decide +kernel
theorem dX11_bestLaw_13 : decode cX11_bestLaw 13 = .ok (.invokevirtual 376, 3) := by decide +kernel
theorem dX11_bestLaw_16 : decode cX11_bestLaw 16 = .ok (.aload_n 0, 1) := by decide +kernel
theorem dX11_bestLaw_17 : decode cX11_bestLaw 17 = .ok (.getfield 89, 3) := by decide +kernel
theorem dX11_bestLaw_20 : decode cX11_bestLaw 20 = .ok (.iconst (-1), 1) := by decide +kernel
theorem dX11_bestLaw_21 : decode cX11_bestLaw 21 = .ok (.invokestatic 427, 3) := by decide +kernel
theorem dX11_bestLaw_24 : decode cX11_bestLaw 24 = .ok (.iconst 0, 1) := by decide +kernel
theorem dX11_bestLaw_25 : decode cX11_bestLaw 25 = .ok (.istore 4, 2) := by decide +kernel
theorem dX11_bestLaw_27 : decode cX11_bestLaw 27 = .ok (.iconst 0, 1) := by decide +kernel
theorem dX11_bestLaw_28 : decode cX11_bestLaw 28 = .ok (.istore 5, 2) := by decide +kernel
theorem dX11_bestLaw_30 : decode cX11_bestLaw 30 = .ok (.iload 5, 2) := by decide +kernel
theorem dX11_bestLaw_32 : decode cX11_bestLaw 32 = .ok (.aload_n 0, 1) := by decide +kernel
theorem dX11_bestLaw_33 : decode cX11_bestLaw 33 = .ok (.getfield 47, 3) := by decide +kernel
theorem dX11_bestLaw_36 : decode cX11_bestLaw 36 = .ok (.getfield 355, 3) := by decide +kernel
theorem dX11_bestLaw_39 : decode cX11_bestLaw 39 = .ok (.if_icmp .ge 86, 3) := by decide +kernel
theorem dX11_bestLaw_42 : decode cX11_bestLaw 42 = .ok (.aload_n 0, 1) := by decide +kernel
theorem dX11_bestLaw_43 : decode cX11_bestLaw 43 = .ok (.getfield 47, 3) := by decide +kernel
theorem dX11_bestLaw_46 : decode cX11_bestLaw 46 = .ok (.getfield 359, 3) := by decide +kernel
theorem dX11_bestLaw_49 : decode cX11_bestLaw 49 = .ok (.iload 5, 2) := by decide +kernel
theorem dX11_bestLaw_51 : decode cX11_bestLaw 51 = .ok (.iaload, 1) := by decide +kernel
theorem dX11_bestLaw_52 : decode cX11_bestLaw 52 = .ok (.istore 6, 2) := by decide +kernel
theorem dX11_bestLaw_54 : decode cX11_bestLaw 54 = .ok (.aload_n 0, 1) := by decide +kernel
theorem dX11_bestLaw_55 : decode cX11_bestLaw 55 = .ok (.getfield 89, 3) := by decide +kernel
theorem dX11_bestLaw_58 : decode cX11_bestLaw 58 = .ok (.iload 6, 2) := by decide +kernel
theorem dX11_bestLaw_60 : decode cX11_bestLaw 60 = .ok (.iaload, 1) := by decide +kernel
theorem dX11_bestLaw_61 : decode cX11_bestLaw 61 = .ok (.iconst (-1), 1) := by decide +kernel
theorem dX11_bestLaw_62 : decode cX11_bestLaw 62 = .ok (.if_icmp .ne 31, 3) := by decide +kernel
theorem dX11_bestLaw_65 : decode cX11_bestLaw 65 = .ok (.aload_n 0, 1) := by decide +kernel
theorem dX11_bestLaw_66 : decode cX11_bestLaw 66 = .ok (.getfield 89, 3) := by decide +kernel
theorem dX11_bestLaw_69 : decode cX11_bestLaw 69 = .ok (.iload 6, 2) := by decide +kernel
theorem dX11_bestLaw_71 : decode cX11_bestLaw 71 = .ok (.aload_n 0, 1) := by decide +kernel
theorem dX11_bestLaw_72 : decode cX11_bestLaw 72 = .ok (.getfield 61, 3) := by decide +kernel
theorem dX11_bestLaw_75 : decode cX11_bestLaw 75 = .ok (.aload_n 0, 1) := by decide +kernel
theorem dX11_bestLaw_76 : decode cX11_bestLaw 76 = .ok (.getfield 73, 3) := by decide +kernel
theorem dX11_bestLaw_79 : decode cX11_bestLaw 79 = .ok (.aload_n 0, 1) := by decide +kernel
theorem dX11_bestLaw_80 : decode cX11_bestLaw 80 = .ok (.getfield 29, 3) := by decide +kernel
theorem dX11_bestLaw_83 : decode cX11_bestLaw 83 = .ok (.iload 6, 2) := by decide +kernel
theorem dX11_bestLaw_85 : decode cX11_bestLaw 85 = .ok (.aaload, 1) := by decide +kernel
theorem dX11_bestLaw_86 : decode cX11_bestLaw 86 = .ok (.invokevirtual 303, 3) := by decide +kernel
theorem dX11_bestLaw_89 : decode cX11_bestLaw 89 = .ok (.invokevirtual 258, 3) := by decide +kernel
theorem dX11_bestLaw_92 : decode cX11_bestLaw 92 = .ok (.iastore, 1) := by decide +kernel
theorem dX11_bestLaw_93 : decode cX11_bestLaw 93 = .ok (.iload 4, 2) := by decide +kernel
theorem dX11_bestLaw_95 : decode cX11_bestLaw 95 = .ok (.aload_n 0, 1) := by decide +kernel
theorem dX11_bestLaw_96 : decode cX11_bestLaw 96 = .ok (.getfield 89, 3) := by decide +kernel
theorem dX11_bestLaw_99 : decode cX11_bestLaw 99 = .ok (.iload 6, 2) := by decide +kernel
theorem dX11_bestLaw_101 : decode cX11_bestLaw 101 = .ok (.iaload, 1) := by decide +kernel
theorem dX11_bestLaw_102 : decode cX11_bestLaw 102 = .ok (.aload_n 0, 1) := by decide +kernel
theorem dX11_bestLaw_103 : decode cX11_bestLaw 103 = .ok (.getfield 47, 3) := by decide +kernel
theorem dX11_bestLaw_106 : decode cX11_bestLaw 106 = .ok (.getfield 361, 3) := by decide +kernel
theorem dX11_bestLaw_109 : decode cX11_bestLaw 109 = .ok (.iload 5, 2) := by decide +kernel
theorem dX11_bestLaw_111 : decode cX11_bestLaw 111 = .ok (.iaload, 1) := by decide +kernel
theorem dX11_bestLaw_112 : decode cX11_bestLaw 112 = .ok (.isub, 1) := by decide +kernel
theorem dX11_bestLaw_113 : decode cX11_bestLaw 113 = .ok (.invokestatic 344, 3) := by decide +kernel
theorem dX11_bestLaw_116 : decode cX11_bestLaw 116 = .ok (.iadd, 1) := by decide +kernel
theorem dX11_bestLaw_117 : decode cX11_bestLaw 117 = .ok (.istore 4, 2) := by decide +kernel
theorem dX11_bestLaw_119 : decode cX11_bestLaw 119 = .ok (.iinc 5 1, 3) := by decide +kernel
theorem dX11_bestLaw_122 : decode cX11_bestLaw 122 = .ok (.goto (-92), 3) := by decide +kernel
theorem dX11_bestLaw_125 : decode cX11_bestLaw 125 = .ok (.aload_n 0, 1) := by decide +kernel
theorem dX11_bestLaw_126 : decode cX11_bestLaw 126 = .ok (.getfield 85, 3) := by decide +kernel
theorem dX11_bestLaw_129 : decode cX11_bestLaw 129 = .ok (.iload_n 3, 1) := by decide +kernel
theorem dX11_bestLaw_130 : decode cX11_bestLaw 130 = .ok (.iload 4, 2) := by decide +kernel
theorem dX11_bestLaw_132 : decode cX11_bestLaw 132 = .ok (.iastore, 1) := by decide +kernel
theorem dX11_bestLaw_133 : decode cX11_bestLaw 133 = .ok (.iload 4, 2) := by decide +kernel
theorem dX11_bestLaw_135 : decode cX11_bestLaw 135 = .ok (.aload_n 0, 1) := by decide +kernel
theorem dX11_bestLaw_136 : decode cX11_bestLaw 136 = .ok (.getfield 85, 3) := by decide +kernel
theorem dX11_bestLaw_139 : decode cX11_bestLaw 139 = .ok (.iload_n 2, 1) := by decide +kernel
theorem dX11_bestLaw_140 : decode cX11_bestLaw 140 = .ok (.iaload, 1) := by decide +kernel
theorem dX11_bestLaw_141 : decode cX11_bestLaw 141 = .ok (.if_icmp .ge 5, 3) := by decide +kernel
theorem dX11_bestLaw_144 : decode cX11_bestLaw 144 = .ok (.iload_n 3, 1) := by decide +kernel
theorem dX11_bestLaw_145 : decode cX11_bestLaw 145 = .ok (.istore_n 2, 1) := by decide +kernel
theorem dX11_bestLaw_146 : decode cX11_bestLaw 146 = .ok (.iinc 3 1, 3) := by decide +kernel
theorem dX11_bestLaw_149 : decode cX11_bestLaw 149 = .ok (.goto (-145), 3) := by decide +kernel
theorem dX11_bestLaw_152 : decode cX11_bestLaw 152 = .ok (.iload_n 2, 1) := by decide +kernel
theorem dX11_bestLaw_153 : decode cX11_bestLaw 153 = .ok (.ireturn, 1) := by decide +kernel
theorem dX11_countFlours_0 : decode cX11_countFlours 0 = .ok (.iconst 0, 1) := by decide +kernel
theorem dX11_countFlours_1 : decode cX11_countFlours 1 = .ok (.istore_n 1, 1) := by decide +kernel
theorem dX11_countFlours_2 : decode cX11_countFlours 2 = .ok (.iconst 0, 1) := by decide +kernel
theorem dX11_countFlours_3 : decode cX11_countFlours 3 = .ok (.istore_n 2, 1) := by decide +kernel
theorem dX11_countFlours_4 : decode cX11_countFlours 4 = .ok (.iload_n 2, 1) := by decide +kernel
theorem dX11_countFlours_5 : decode cX11_countFlours 5 = .ok (.iconst 4, 1) := by decide +kernel
theorem dX11_countFlours_6 : decode cX11_countFlours 6 = .ok (.if_icmp .ge 29, 3) := by decide +kernel
theorem dX11_countFlours_9 : decode cX11_countFlours 9 = .ok (.iload_n 1, 1) := by decide +kernel
theorem dX11_countFlours_10 : decode cX11_countFlours 10 = .ok (.aload_n 0, 1) := by decide +kernel
theorem dX11_countFlours_11 : decode cX11_countFlours 11 = .ok (.getfield 23, 3) := by decide +kernel
theorem dX11_countFlours_14 : decode cX11_countFlours 14 = .ok (.iload_n 2, 1) := by decide +kernel
theorem dX11_countFlours_15 : decode cX11_countFlours 15 = .ok (.aaload, 1) := by decide +kernel
theorem dX11_countFlours_16 : decode cX11_countFlours 16 = .ok (.getfield 183, 3) := by decide +kernel
theorem dX11_countFlours_19 : decode cX11_countFlours 19 = .ok (.ifCond .eq 7, 3) := by decide +kernel
theorem dX11_countFlours_22 : decode cX11_countFlours 22 = .ok (.iconst 1, 1) := by decide +kernel
theorem dX11_countFlours_23 : decode cX11_countFlours 23 = .ok (.goto 4, 3) := by decide +kernel
theorem dX11_countFlours_26 : decode cX11_countFlours 26 = .ok (.iconst 0, 1) := by decide +kernel
theorem dX11_countFlours_27 : decode cX11_countFlours 27 = .ok (.iadd, 1) := by decide +kernel
theorem dX11_countFlours_28 : decode cX11_countFlours 28 = .ok (.istore_n 1, 1) := by decide +kernel
theorem dX11_countFlours_29 : decode cX11_countFlours 29 = .ok (.iinc 2 1, 3) := by decide +kernel
theorem dX11_countFlours_32 : decode cX11_countFlours 32 = .ok (.goto (-28), 3) := by decide +kernel
theorem dX11_countFlours_35 : decode cX11_countFlours 35 = .ok (.iload_n 1, 1) := by decide +kernel
theorem dX11_countFlours_36 : decode cX11_countFlours 36 = .ok (.ireturn, 1) := by decide +kernel
theorem dX11_countDoings_0 : decode cX11_countDoings 0 = .ok (.iconst 0, 1) := by decide +kernel
theorem dX11_countDoings_1 : decode cX11_countDoings 1 = .ok (.istore_n 1, 1) := by decide +kernel
theorem dX11_countDoings_2 : decode cX11_countDoings 2 = .ok (.iconst 0, 1) := by decide +kernel
theorem dX11_countDoings_3 : decode cX11_countDoings 3 = .ok (.istore_n 2, 1) := by decide +kernel
theorem dX11_countDoings_4 : decode cX11_countDoings 4 = .ok (.iload_n 2, 1) := by decide +kernel
theorem dX11_countDoings_5 : decode cX11_countDoings 5 = .ok (.iconst 4, 1) := by decide +kernel
theorem dX11_countDoings_6 : decode cX11_countDoings 6 = .ok (.if_icmp .ge 29, 3) := by decide +kernel
theorem dX11_countDoings_9 : decode cX11_countDoings 9 = .ok (.iload_n 1, 1) := by decide +kernel
theorem dX11_countDoings_10 : decode cX11_countDoings 10 = .ok (.aload_n 0, 1) := by decide +kernel
theorem dX11_countDoings_11 : decode cX11_countDoings 11 = .ok (.getfield 29, 3) := by decide +kernel
theorem dX11_countDoings_14 : decode cX11_countDoings 14 = .ok (.iload_n 2, 1) := by decide +kernel
theorem dX11_countDoings_15 : decode cX11_countDoings 15 = .ok (.aaload, 1) := by decide +kernel
theorem dX11_countDoings_16 : decode cX11_countDoings 16 = .ok (.getfield 190, 3) := by decide +kernel
theorem dX11_countDoings_19 : decode cX11_countDoings 19 = .ok (.ifCond .eq 7, 3) := by decide +kernel
theorem dX11_countDoings_22 : decode cX11_countDoings 22 = .ok (.iconst 1, 1) := by decide +kernel
theorem dX11_countDoings_23 : decode cX11_countDoings 23 = .ok (.goto 4, 3) := by decide +kernel
theorem dX11_countDoings_26 : decode cX11_countDoings 26 = .ok (.iconst 0, 1) := by decide +kernel
theorem dX11_countDoings_27 : decode cX11_countDoings 27 = .ok (.iadd, 1) := by decide +kernel
theorem dX11_countDoings_28 : decode cX11_countDoings 28 = .ok (.istore_n 1, 1) := by decide +kernel
theorem dX11_countDoings_29 : decode cX11_countDoings 29 = .ok (.iinc 2 1, 3) := by decide +kernel
theorem dX11_countDoings_32 : decode cX11_countDoings 32 = .ok (.goto (-28), 3) := by decide +kernel
theorem dX11_countDoings_35 : decode cX11_countDoings 35 = .ok (.iload_n 1, 1) := by decide +kernel
theorem dX11_countDoings_36 : decode cX11_countDoings 36 = .ok (.ireturn, 1) := by decide +kernel
theorem dX11_countKept_0 : decode cX11_countKept 0 = .ok (.iconst 0, 1) := by decide +kernel
theorem dX11_countKept_1 : decode cX11_countKept 1 = .ok (.istore_n 1, 1) := by decide +kernel
theorem dX11_countKept_2 : decode cX11_countKept 2 = .ok (.iconst 0, 1) := by decide +kernel
theorem dX11_countKept_3 : decode cX11_countKept 3 = .ok (.istore_n 2, 1) := by decide +kernel
theorem dX11_countKept_4 : decode cX11_countKept 4 = .ok (.iload_n 2, 1) := by decide +kernel
theorem dX11_countKept_5 : decode cX11_countKept 5 = .ok (.iconst 3, 1) := by decide +kernel
theorem dX11_countKept_6 : decode cX11_countKept 6 = .ok (.if_icmp .ge 29, 3) := by decide +kernel
theorem dX11_countKept_9 : decode cX11_countKept 9 = .ok (.iload_n 1, 1) := by decide +kernel
theorem dX11_countKept_10 : decode cX11_countKept 10 = .ok (.aload_n 0, 1) := by decide +kernel
theorem dX11_countKept_11 : decode cX11_countKept 11 = .ok (.getfield 35, 3) := by decide +kernel
theorem dX11_countKept_14 : decode cX11_countKept 14 = .ok (.iload_n 2, 1) := by decide +kernel
theorem dX11_countKept_15 : decode cX11_countKept 15 = .ok (.aaload, 1) := by decide +kernel
theorem dX11_countKept_16 : decode cX11_countKept 16 = .ok (.getfield 211, 3) := by decide +kernel
theorem dX11_countKept_19 : decode cX11_countKept 19 = .ok (.ifCond .eq 7, 3) := by decide +kernel
theorem dX11_countKept_22 : decode cX11_countKept 22 = .ok (.iconst 1, 1) := by decide +kernel
theorem dX11_countKept_23 : decode cX11_countKept 23 = .ok (.goto 4, 3) := by decide +kernel
theorem dX11_countKept_26 : decode cX11_countKept 26 = .ok (.iconst 0, 1) := by decide +kernel
theorem dX11_countKept_27 : decode cX11_countKept 27 = .ok (.iadd, 1) := by decide +kernel
theorem dX11_countKept_28 : decode cX11_countKept 28 = .ok (.istore_n 1, 1) := by decide +kernel
theorem dX11_countKept_29 : decode cX11_countKept 29 = .ok (.iinc 2 1, 3) := by decide +kernel
theorem dX11_countKept_32 : decode cX11_countKept 32 = .ok (.goto (-28), 3) := by decide +kernel
theorem dX11_countKept_35 : decode cX11_countKept 35 = .ok (.iload_n 1, 1) := by decide +kernel
theorem dX11_countKept_36 : decode cX11_countKept 36 = .ok (.ireturn, 1) := by decide +kernel
theorem dX11_countRows_0 : decode cX11_countRows 0 = .ok (.iconst 0, 1) := by decide +kernel
theorem dX11_countRows_1 : decode cX11_countRows 1 = .ok (.istore_n 1, 1) := by decide +kernel
theorem dX11_countRows_2 : decode cX11_countRows 2 = .ok (.iconst 0, 1) := by decide +kernel
theorem dX11_countRows_3 : decode cX11_countRows 3 = .ok (.istore_n 2, 1) := by decide +kernel
theorem dX11_countRows_4 : decode cX11_countRows 4 = .ok (.iload_n 2, 1) := by decide +kernel
theorem dX11_countRows_5 : decode cX11_countRows 5 = .ok (.bipush 6, 2) := by decide +kernel
theorem dX11_countRows_7 : decode cX11_countRows 7 = .ok (.if_icmp .ge 29, 3) := by decide +kernel
theorem dX11_countRows_10 : decode cX11_countRows 10 = .ok (.iload_n 1, 1) := by decide +kernel
theorem dX11_countRows_11 : decode cX11_countRows 11 = .ok (.aload_n 0, 1) := by decide +kernel
theorem dX11_countRows_12 : decode cX11_countRows 12 = .ok (.getfield 11, 3) := by decide +kernel
theorem dX11_countRows_15 : decode cX11_countRows 15 = .ok (.iload_n 2, 1) := by decide +kernel
theorem dX11_countRows_16 : decode cX11_countRows 16 = .ok (.aaload, 1) := by decide +kernel
theorem dX11_countRows_17 : decode cX11_countRows 17 = .ok (.invokevirtual 123, 3) := by decide +kernel
theorem dX11_countRows_20 : decode cX11_countRows 20 = .ok (.ifCond .eq 7, 3) := by decide +kernel
theorem dX11_countRows_23 : decode cX11_countRows 23 = .ok (.iconst 1, 1) := by decide +kernel
theorem dX11_countRows_24 : decode cX11_countRows 24 = .ok (.goto 4, 3) := by decide +kernel
theorem dX11_countRows_27 : decode cX11_countRows 27 = .ok (.iconst 0, 1) := by decide +kernel
theorem dX11_countRows_28 : decode cX11_countRows 28 = .ok (.iadd, 1) := by decide +kernel
theorem dX11_countRows_29 : decode cX11_countRows 29 = .ok (.istore_n 1, 1) := by decide +kernel
theorem dX11_countRows_30 : decode cX11_countRows 30 = .ok (.iinc 2 1, 3) := by decide +kernel
theorem dX11_countRows_33 : decode cX11_countRows 33 = .ok (.goto (-29), 3) := by decide +kernel
theorem dX11_countRows_36 : decode cX11_countRows 36 = .ok (.iload_n 1, 1) := by decide +kernel
theorem dX11_countRows_37 : decode cX11_countRows 37 = .ok (.ireturn, 1) := by decide +kernel
theorem dX11_countTexts_0 : decode cX11_countTexts 0 = .ok (.iconst 0, 1) := by decide +kernel
theorem dX11_countTexts_1 : decode cX11_countTexts 1 = .ok (.istore_n 1, 1) := by decide +kernel
theorem dX11_countTexts_2 : decode cX11_countTexts 2 = .ok (.iconst 0, 1) := by decide +kernel
theorem dX11_countTexts_3 : decode cX11_countTexts 3 = .ok (.istore_n 2, 1) := by decide +kernel
theorem dX11_countTexts_4 : decode cX11_countTexts 4 = .ok (.iload_n 2, 1) := by decide +kernel
theorem dX11_countTexts_5 : decode cX11_countTexts 5 = .ok (.iconst 4, 1) := by decide +kernel
theorem dX11_countTexts_6 : decode cX11_countTexts 6 = .ok (.if_icmp .ge 29, 3) := by decide +kernel
theorem dX11_countTexts_9 : decode cX11_countTexts 9 = .ok (.iload_n 1, 1) := by decide +kernel
theorem dX11_countTexts_10 : decode cX11_countTexts 10 = .ok (.aload_n 0, 1) := by decide +kernel
theorem dX11_countTexts_11 : decode cX11_countTexts 11 = .ok (.getfield 17, 3) := by decide +kernel
theorem dX11_countTexts_14 : decode cX11_countTexts 14 = .ok (.iload_n 2, 1) := by decide +kernel
theorem dX11_countTexts_15 : decode cX11_countTexts 15 = .ok (.aaload, 1) := by decide +kernel
theorem dX11_countTexts_16 : decode cX11_countTexts 16 = .ok (.invokevirtual 145, 3) := by decide +kernel
theorem dX11_countTexts_19 : decode cX11_countTexts 19 = .ok (.ifCond .eq 7, 3) := by decide +kernel
theorem dX11_countTexts_22 : decode cX11_countTexts 22 = .ok (.iconst 1, 1) := by decide +kernel
theorem dX11_countTexts_23 : decode cX11_countTexts 23 = .ok (.goto 4, 3) := by decide +kernel
theorem dX11_countTexts_26 : decode cX11_countTexts 26 = .ok (.iconst 0, 1) := by decide +kernel
theorem dX11_countTexts_27 : decode cX11_countTexts 27 = .ok (.iadd, 1) := by decide +kernel
theorem dX11_countTexts_28 : decode cX11_countTexts 28 = .ok (.istore_n 1, 1) := by decide +kernel
theorem dX11_countTexts_29 : decode cX11_countTexts 29 = .ok (.iinc 2 1, 3) := by decide +kernel
theorem dX11_countTexts_32 : decode cX11_countTexts 32 = .ok (.goto (-28), 3) := by decide +kernel
theorem dX11_countTexts_35 : decode cX11_countTexts 35 = .ok (.iload_n 1, 1) := by decide +kernel
theorem dX11_countTexts_36 : decode cX11_countTexts 36 = .ok (.ireturn, 1) := by decide +kernel
theorem dX11_digestFlours_0 : decode cX11_digestFlours 0 = .ok (.lload_n 1, 1) := by decide +kernel
theorem dX11_digestFlours_1 : decode cX11_digestFlours 1 = .ok (.lstore_n 3, 1) := by decide +kernel
theorem dX11_digestFlours_2 : decode cX11_digestFlours 2 = .ok (.iconst 0, 1) := by decide +kernel
theorem dX11_digestFlours_3 : decode cX11_digestFlours 3 = .ok (.istore 5, 2) := by decide +kernel
theorem dX11_digestFlours_5 : decode cX11_digestFlours 5 = .ok (.iload 5, 2) := by decide +kernel
theorem dX11_digestFlours_7 : decode cX11_digestFlours 7 = .ok (.iconst 4, 1) := by decide +kernel
theorem dX11_digestFlours_8 : decode cX11_digestFlours 8 = .ok (.if_icmp .ge 71, 3) := by decide +kernel
theorem dX11_digestFlours_11 : decode cX11_digestFlours 11 = .ok (.aload_n 0, 1) := by decide +kernel
theorem dX11_digestFlours_12 : decode cX11_digestFlours 12 = .ok (.getfield 23, 3) := by decide +kernel
theorem dX11_digestFlours_15 : decode cX11_digestFlours 15 = .ok (.iload 5, 2) := by decide +kernel
theorem dX11_digestFlours_17 : decode cX11_digestFlours 17 = .ok (.aaload, 1) := by decide +kernel
theorem dX11_digestFlours_18 : decode cX11_digestFlours 18 = .ok (.getfield 183, 3) := by decide +kernel
theorem dX11_digestFlours_21 : decode cX11_digestFlours 21 = .ok (.ifCond .ne 16, 3) := by decide +kernel
theorem dX11_digestFlours_24 : decode cX11_digestFlours 24 = .ok (.ldc2_w 402, 3) := by decide +kernel
theorem dX11_digestFlours_27 : decode cX11_digestFlours 27 = .ok (.lload_n 3, 1) := by decide +kernel
theorem dX11_digestFlours_28 : decode cX11_digestFlours 28 = .ok (.lmul, 1) := by decide +kernel
theorem dX11_digestFlours_29 : decode cX11_digestFlours 29 = .ok (.ldc2_w 433, 3) := by decide +kernel
theorem dX11_digestFlours_32 : decode cX11_digestFlours 32 = .ok (.ladd, 1) := by decide +kernel
theorem dX11_digestFlours_33 : decode cX11_digestFlours 33 = .ok (.lstore_n 3, 1) := by decide +kernel
theorem dX11_digestFlours_34 : decode cX11_digestFlours 34 = .ok (.goto 39, 3) := by decide +kernel
theorem dX11_digestFlours_37 : decode cX11_digestFlours 37 = .ok (.iconst 0, 1) := by decide +kernel
theorem dX11_digestFlours_38 : decode cX11_digestFlours 38 = .ok (.istore 6, 2) := by decide +kernel
theorem dX11_digestFlours_40 : decode cX11_digestFlours 40 = .ok (.iload 6, 2) := by decide +kernel
theorem dX11_digestFlours_42 : decode cX11_digestFlours 42 = .ok (.iconst 5, 1) := by decide +kernel
theorem dX11_digestFlours_43 : decode cX11_digestFlours 43 = .ok (.if_icmp .ge 30, 3) := by decide +kernel
theorem dX11_digestFlours_46 : decode cX11_digestFlours 46 = .ok (.ldc2_w 402, 3) := by decide +kernel
theorem dX11_digestFlours_49 : decode cX11_digestFlours 49 = .ok (.lload_n 3, 1) := by decide +kernel
theorem dX11_digestFlours_50 : decode cX11_digestFlours 50 = .ok (.lmul, 1) := by decide +kernel
theorem dX11_digestFlours_51 : decode cX11_digestFlours 51 = .ok (.aload_n 0, 1) := by decide +kernel
theorem dX11_digestFlours_52 : decode cX11_digestFlours 52 = .ok (.getfield 23, 3) := by decide +kernel
theorem dX11_digestFlours_55 : decode cX11_digestFlours 55 = .ok (.iload 5, 2) := by decide +kernel
theorem dX11_digestFlours_57 : decode cX11_digestFlours 57 = .ok (.aaload, 1) := by decide +kernel
theorem dX11_digestFlours_58 : decode cX11_digestFlours 58 = .ok (.getfield 187, 3) := by decide +kernel
theorem dX11_digestFlours_61 : decode cX11_digestFlours 61 = .ok (.iload 6, 2) := by decide +kernel
theorem dX11_digestFlours_63 : decode cX11_digestFlours 63 = .ok (.iaload, 1) := by decide +kernel
theorem dX11_digestFlours_64 : decode cX11_digestFlours 64 = .ok (.i2l, 1) := by decide +kernel
theorem dX11_digestFlours_65 : decode cX11_digestFlours 65 = .ok (.ladd, 1) := by decide +kernel
theorem dX11_digestFlours_66 : decode cX11_digestFlours 66 = .ok (.lstore_n 3, 1) := by decide +kernel
theorem dX11_digestFlours_67 : decode cX11_digestFlours 67 = .ok (.iinc 6 1, 3) := by decide +kernel
theorem dX11_digestFlours_70 : decode cX11_digestFlours 70 = .ok (.goto (-30), 3) := by decide +kernel
theorem dX11_digestFlours_73 : decode cX11_digestFlours 73 = .ok (.iinc 5 1, 3) := by decide +kernel
theorem dX11_digestFlours_76 : decode cX11_digestFlours 76 = .ok (.goto (-71), 3) := by decide +kernel
theorem dX11_digestFlours_79 : decode cX11_digestFlours 79 = .ok (.lload_n 3, 1) := by decide +kernel
theorem dX11_digestFlours_80 : decode cX11_digestFlours 80 = .ok (.lreturn, 1) := by decide +kernel
theorem dX11_digestDoings_0 : decode cX11_digestDoings 0 = .ok (.lload_n 1, 1) := by decide +kernel
theorem dX11_digestDoings_1 : decode cX11_digestDoings 1 = .ok (.lstore_n 3, 1) := by decide +kernel
theorem dX11_digestDoings_2 : decode cX11_digestDoings 2 = .ok (.iconst 0, 1) := by decide +kernel
theorem dX11_digestDoings_3 : decode cX11_digestDoings 3 = .ok (.istore 5, 2) := by decide +kernel
theorem dX11_digestDoings_5 : decode cX11_digestDoings 5 = .ok (.iload 5, 2) := by decide +kernel
theorem dX11_digestDoings_7 : decode cX11_digestDoings 7 = .ok (.iconst 4, 1) := by decide +kernel
theorem dX11_digestDoings_8 : decode cX11_digestDoings 8 = .ok (.if_icmp .ge 100, 3) := by decide +kernel
theorem dX11_digestDoings_11 : decode cX11_digestDoings 11 = .ok (.aload_n 0, 1) := by decide +kernel
theorem dX11_digestDoings_12 : decode cX11_digestDoings 12 = .ok (.getfield 29, 3) := by decide +kernel
theorem dX11_digestDoings_15 : decode cX11_digestDoings 15 = .ok (.iload 5, 2) := by decide +kernel
theorem dX11_digestDoings_17 : decode cX11_digestDoings 17 = .ok (.aaload, 1) := by decide +kernel
theorem dX11_digestDoings_18 : decode cX11_digestDoings 18 = .ok (.getfield 190, 3) := by decide +kernel
theorem dX11_digestDoings_21 : decode cX11_digestDoings 21 = .ok (.ifCond .ne 16, 3) := by decide +kernel
theorem dX11_digestDoings_24 : decode cX11_digestDoings 24 = .ok (.ldc2_w 402, 3) := by decide +kernel
theorem dX11_digestDoings_27 : decode cX11_digestDoings 27 = .ok (.lload_n 3, 1) := by decide +kernel
theorem dX11_digestDoings_28 : decode cX11_digestDoings 28 = .ok (.lmul, 1) := by decide +kernel
theorem dX11_digestDoings_29 : decode cX11_digestDoings 29 = .ok (.ldc2_w 433, 3) := by decide +kernel
theorem dX11_digestDoings_32 : decode cX11_digestDoings 32 = .ok (.ladd, 1) := by decide +kernel
theorem dX11_digestDoings_33 : decode cX11_digestDoings 33 = .ok (.lstore_n 3, 1) := by decide +kernel
theorem dX11_digestDoings_34 : decode cX11_digestDoings 34 = .ok (.goto 68, 3) := by decide +kernel
theorem dX11_digestDoings_37 : decode cX11_digestDoings 37 = .ok (.iconst 0, 1) := by decide +kernel
theorem dX11_digestDoings_38 : decode cX11_digestDoings 38 = .ok (.istore 6, 2) := by decide +kernel
theorem dX11_digestDoings_40 : decode cX11_digestDoings 40 = .ok (.iload 6, 2) := by decide +kernel
theorem dX11_digestDoings_42 : decode cX11_digestDoings 42 = .ok (.aload_n 0, 1) := by decide +kernel
theorem dX11_digestDoings_43 : decode cX11_digestDoings 43 = .ok (.getfield 29, 3) := by decide +kernel
theorem dX11_digestDoings_46 : decode cX11_digestDoings 46 = .ok (.iload 5, 2) := by decide +kernel
theorem dX11_digestDoings_48 : decode cX11_digestDoings 48 = .ok (.aaload, 1) := by decide +kernel
theorem dX11_digestDoings_49 : decode cX11_digestDoings 49 = .ok (.getfield 182, 3) := by decide +kernel
theorem dX11_digestDoings_52 : decode cX11_digestDoings 52 = .ok (.if_icmp .ge 50, 3) := by decide +kernel
theorem dX11_digestDoings_55 : decode cX11_digestDoings 55 = .ok (.ldc2_w 402, 3) := by decide +kernel
theorem dX11_digestDoings_58 : decode cX11_digestDoings 58 = .ok (.lload_n 3, 1) := by decide +kernel
theorem dX11_digestDoings_59 : decode cX11_digestDoings 59 = .ok (.lmul, 1) := by decide +kernel
theorem dX11_digestDoings_60 : decode cX11_digestDoings 60 = .ok (.aload_n 0, 1) := by decide +kernel
theorem dX11_digestDoings_61 : decode cX11_digestDoings 61 = .ok (.getfield 29, 3) := by decide +kernel
theorem dX11_digestDoings_64 : decode cX11_digestDoings 64 = .ok (.iload 5, 2) := by decide +kernel
theorem dX11_digestDoings_66 : decode cX11_digestDoings 66 = .ok (.aaload, 1) := by decide +kernel
theorem dX11_digestDoings_67 : decode cX11_digestDoings 67 = .ok (.getfield 197, 3) := by decide +kernel
theorem dX11_digestDoings_70 : decode cX11_digestDoings 70 = .ok (.iload 6, 2) := by decide +kernel
theorem dX11_digestDoings_72 : decode cX11_digestDoings 72 = .ok (.iaload, 1) := by decide +kernel
theorem dX11_digestDoings_73 : decode cX11_digestDoings 73 = .ok (.i2l, 1) := by decide +kernel
theorem dX11_digestDoings_74 : decode cX11_digestDoings 74 = .ok (.ladd, 1) := by decide +kernel
theorem dX11_digestDoings_75 : decode cX11_digestDoings 75 = .ok (.lstore_n 3, 1) := by decide +kernel
theorem dX11_digestDoings_76 : decode cX11_digestDoings 76 = .ok (.ldc2_w 402, 3) := by decide +kernel
theorem dX11_digestDoings_79 : decode cX11_digestDoings 79 = .ok (.lload_n 3, 1) := by decide +kernel
theorem dX11_digestDoings_80 : decode cX11_digestDoings 80 = .ok (.lmul, 1) := by decide +kernel
theorem dX11_digestDoings_81 : decode cX11_digestDoings 81 = .ok (.aload_n 0, 1) := by decide +kernel
theorem dX11_digestDoings_82 : decode cX11_digestDoings 82 = .ok (.getfield 29, 3) := by decide +kernel
theorem dX11_digestDoings_85 : decode cX11_digestDoings 85 = .ok (.iload 5, 2) := by decide +kernel
theorem dX11_digestDoings_87 : decode cX11_digestDoings 87 = .ok (.aaload, 1) := by decide +kernel
theorem dX11_digestDoings_88 : decode cX11_digestDoings 88 = .ok (.iload 6, 2) := by decide +kernel
theorem dX11_digestDoings_90 : decode cX11_digestDoings 90 = .ok (.invokevirtual 191, 3) := by decide +kernel
theorem dX11_digestDoings_93 : decode cX11_digestDoings 93 = .ok (.i2l, 1) := by decide +kernel
theorem dX11_digestDoings_94 : decode cX11_digestDoings 94 = .ok (.ladd, 1) := by decide +kernel
theorem dX11_digestDoings_95 : decode cX11_digestDoings 95 = .ok (.lstore_n 3, 1) := by decide +kernel
theorem dX11_digestDoings_96 : decode cX11_digestDoings 96 = .ok (.iinc 6 1, 3) := by decide +kernel
theorem dX11_digestDoings_99 : decode cX11_digestDoings 99 = .ok (.goto (-59), 3) := by decide +kernel
theorem dX11_digestDoings_102 : decode cX11_digestDoings 102 = .ok (.iinc 5 1, 3) := by decide +kernel
theorem dX11_digestDoings_105 : decode cX11_digestDoings 105 = .ok (.goto (-100), 3) := by decide +kernel
theorem dX11_digestDoings_108 : decode cX11_digestDoings 108 = .ok (.lload_n 3, 1) := by decide +kernel
theorem dX11_digestDoings_109 : decode cX11_digestDoings 109 = .ok (.lreturn, 1) := by decide +kernel
theorem dX11_digestLoaf_0 : decode cX11_digestLoaf 0 = .ok (.aload_n 0, 1) := by decide +kernel
theorem dX11_digestLoaf_1 : decode cX11_digestLoaf 1 = .ok (.getfield 40, 3) := by decide +kernel
theorem dX11_digestLoaf_4 : decode cX11_digestLoaf 4 = .ok (.getfield 211, 3) := by decide +kernel
theorem dX11_digestLoaf_7 : decode cX11_digestLoaf 7 = .ok (.ifCond .ne 13, 3) := by decide +kernel
theorem dX11_digestLoaf_10 : decode cX11_digestLoaf 10 = .ok (.ldc2_w 402, 3) := by decide +kernel
theorem dX11_digestLoaf_13 : decode cX11_digestLoaf 13 = .ok (.lload_n 1, 1) := by decide +kernel
theorem dX11_digestLoaf_14 : decode cX11_digestLoaf 14 = .ok (.lmul, 1) := by decide +kernel
theorem dX11_digestLoaf_15 : decode cX11_digestLoaf 15 = .ok (.ldc2_w 433, 3) := by decide +kernel
theorem dX11_digestLoaf_18 : decode cX11_digestLoaf 18 = .ok (.ladd, 1) := by decide +kernel
theorem dX11_digestLoaf_19 : decode cX11_digestLoaf 19 = .ok (.lreturn, 1) := by decide +kernel
theorem dX11_digestLoaf_20 : decode cX11_digestLoaf 20 = .ok (.lload_n 1, 1) := by decide +kernel
theorem dX11_digestLoaf_21 : decode cX11_digestLoaf 21 = .ok (.lstore_n 3, 1) := by decide +kernel
theorem dX11_digestLoaf_22 : decode cX11_digestLoaf 22 = .ok (.iconst 0, 1) := by decide +kernel
theorem dX11_digestLoaf_23 : decode cX11_digestLoaf 23 = .ok (.istore 5, 2) := by decide +kernel
theorem dX11_digestLoaf_25 : decode cX11_digestLoaf 25 = .ok (.iload 5, 2) := by decide +kernel
theorem dX11_digestLoaf_27 : decode cX11_digestLoaf 27 = .ok (.bipush 24, 2) := by decide +kernel
theorem dX11_digestLoaf_29 : decode cX11_digestLoaf 29 = .ok (.if_icmp .ge 46, 3) := by decide +kernel
theorem dX11_digestLoaf_32 : decode cX11_digestLoaf 32 = .ok (.iconst 0, 1) := by decide +kernel
theorem dX11_digestLoaf_33 : decode cX11_digestLoaf 33 = .ok (.istore 6, 2) := by decide +kernel
theorem dX11_digestLoaf_35 : decode cX11_digestLoaf 35 = .ok (.iload 6, 2) := by decide +kernel
theorem dX11_digestLoaf_37 : decode cX11_digestLoaf 37 = .ok (.iconst 5, 1) := by decide +kernel
theorem dX11_digestLoaf_38 : decode cX11_digestLoaf 38 = .ok (.if_icmp .ge 31, 3) := by decide +kernel
theorem dX11_digestLoaf_41 : decode cX11_digestLoaf 41 = .ok (.ldc2_w 402, 3) := by decide +kernel
theorem dX11_digestLoaf_44 : decode cX11_digestLoaf 44 = .ok (.lload_n 3, 1) := by decide +kernel
theorem dX11_digestLoaf_45 : decode cX11_digestLoaf 45 = .ok (.lmul, 1) := by decide +kernel
theorem dX11_digestLoaf_46 : decode cX11_digestLoaf 46 = .ok (.aload_n 0, 1) := by decide +kernel
theorem dX11_digestLoaf_47 : decode cX11_digestLoaf 47 = .ok (.getfield 40, 3) := by decide +kernel
theorem dX11_digestLoaf_50 : decode cX11_digestLoaf 50 = .ok (.getfield 212, 3) := by decide +kernel
theorem dX11_digestLoaf_53 : decode cX11_digestLoaf 53 = .ok (.iload 5, 2) := by decide +kernel
theorem dX11_digestLoaf_55 : decode cX11_digestLoaf 55 = .ok (.iload 6, 2) := by decide +kernel
theorem dX11_digestLoaf_57 : decode cX11_digestLoaf 57 = .ok (.invokevirtual 224, 3) := by decide +kernel
theorem dX11_digestLoaf_60 : decode cX11_digestLoaf 60 = .ok (.i2l, 1) := by decide +kernel
theorem dX11_digestLoaf_61 : decode cX11_digestLoaf 61 = .ok (.ladd, 1) := by decide +kernel
theorem dX11_digestLoaf_62 : decode cX11_digestLoaf 62 = .ok (.lstore_n 3, 1) := by decide +kernel
theorem dX11_digestLoaf_63 : decode cX11_digestLoaf 63 = .ok (.iinc 6 1, 3) := by decide +kernel
theorem dX11_digestLoaf_66 : decode cX11_digestLoaf 66 = .ok (.goto (-31), 3) := by decide +kernel
theorem dX11_digestLoaf_69 : decode cX11_digestLoaf 69 = .ok (.iinc 5 1, 3) := by decide +kernel
theorem dX11_digestLoaf_72 : decode cX11_digestLoaf 72 = .ok (.goto (-47), 3) := by decide +kernel
theorem dX11_digestLoaf_75 : decode cX11_digestLoaf 75 = .ok (.iconst 0, 1) := by decide +kernel
theorem dX11_digestLoaf_76 : decode cX11_digestLoaf 76 = .ok (.istore 5, 2) := by decide +kernel
theorem dX11_digestLoaf_78 : decode cX11_digestLoaf 78 = .ok (.iload 5, 2) := by decide +kernel
theorem dX11_digestLoaf_80 : decode cX11_digestLoaf 80 = .ok (.aload_n 0, 1) := by decide +kernel
theorem dX11_digestLoaf_81 : decode cX11_digestLoaf 81 = .ok (.getfield 40, 3) := by decide +kernel
theorem dX11_digestLoaf_84 : decode cX11_digestLoaf 84 = .ok (.getfield 212, 3) := by decide +kernel
theorem dX11_digestLoaf_87 : decode cX11_digestLoaf 87 = .ok (.getfield 273, 3) := by decide +kernel
theorem dX11_digestLoaf_90 : decode cX11_digestLoaf 90 = .ok (.if_icmp .ge 46, 3) := by decide +kernel
theorem dX11_digestLoaf_93 : decode cX11_digestLoaf 93 = .ok (.iconst 0, 1) := by decide +kernel
theorem dX11_digestLoaf_94 : decode cX11_digestLoaf 94 = .ok (.istore 6, 2) := by decide +kernel
theorem dX11_digestLoaf_96 : decode cX11_digestLoaf 96 = .ok (.iload 6, 2) := by decide +kernel
theorem dX11_digestLoaf_98 : decode cX11_digestLoaf 98 = .ok (.iconst 4, 1) := by decide +kernel
theorem dX11_digestLoaf_99 : decode cX11_digestLoaf 99 = .ok (.if_icmp .ge 31, 3) := by decide +kernel
theorem dX11_digestLoaf_102 : decode cX11_digestLoaf 102 = .ok (.ldc2_w 402, 3) := by decide +kernel
theorem dX11_digestLoaf_105 : decode cX11_digestLoaf 105 = .ok (.lload_n 3, 1) := by decide +kernel
theorem dX11_digestLoaf_106 : decode cX11_digestLoaf 106 = .ok (.lmul, 1) := by decide +kernel
theorem dX11_digestLoaf_107 : decode cX11_digestLoaf 107 = .ok (.aload_n 0, 1) := by decide +kernel
theorem dX11_digestLoaf_108 : decode cX11_digestLoaf 108 = .ok (.getfield 40, 3) := by decide +kernel
theorem dX11_digestLoaf_111 : decode cX11_digestLoaf 111 = .ok (.getfield 230, 3) := by decide +kernel
theorem dX11_digestLoaf_114 : decode cX11_digestLoaf 114 = .ok (.iload 5, 2) := by decide +kernel
theorem dX11_digestLoaf_116 : decode cX11_digestLoaf 116 = .ok (.iload 6, 2) := by decide +kernel
theorem dX11_digestLoaf_118 : decode cX11_digestLoaf 118 = .ok (.invokevirtual 234, 3) := by decide +kernel
theorem dX11_digestLoaf_121 : decode cX11_digestLoaf 121 = .ok (.i2l, 1) := by decide +kernel
theorem dX11_digestLoaf_122 : decode cX11_digestLoaf 122 = .ok (.ladd, 1) := by decide +kernel
theorem dX11_digestLoaf_123 : decode cX11_digestLoaf 123 = .ok (.lstore_n 3, 1) := by decide +kernel
theorem dX11_digestLoaf_124 : decode cX11_digestLoaf 124 = .ok (.iinc 6 1, 3) := by decide +kernel
theorem dX11_digestLoaf_127 : decode cX11_digestLoaf 127 = .ok (.goto (-31), 3) := by decide +kernel
theorem dX11_digestLoaf_130 : decode cX11_digestLoaf 130 = .ok (.iinc 5 1, 3) := by decide +kernel
theorem dX11_digestLoaf_133 : decode cX11_digestLoaf 133 = .ok (.goto (-55), 3) := by decide +kernel
theorem dX11_digestLoaf_136 : decode cX11_digestLoaf 136 = .ok (.lload_n 3, 1) := by decide +kernel
theorem dX11_digestLoaf_137 : decode cX11_digestLoaf 137 = .ok (.lreturn, 1) := by decide +kernel
theorem dX11_digestRows_0 : decode cX11_digestRows 0 = .ok (.lload_n 1, 1) := by decide +kernel
theorem dX11_digestRows_1 : decode cX11_digestRows 1 = .ok (.lstore_n 3, 1) := by decide +kernel
theorem dX11_digestRows_2 : decode cX11_digestRows 2 = .ok (.iconst 0, 1) := by decide +kernel
theorem dX11_digestRows_3 : decode cX11_digestRows 3 = .ok (.istore 5, 2) := by decide +kernel
theorem dX11_digestRows_5 : decode cX11_digestRows 5 = .ok (.iload 5, 2) := by decide +kernel
theorem dX11_digestRows_7 : decode cX11_digestRows 7 = .ok (.bipush 6, 2) := by decide +kernel
theorem dX11_digestRows_9 : decode cX11_digestRows 9 = .ok (.if_icmp .ge 72, 3) := by decide +kernel
theorem dX11_digestRows_12 : decode cX11_digestRows 12 = .ok (.ldc2_w 402, 3) := by decide +kernel
theorem dX11_digestRows_15 : decode cX11_digestRows 15 = .ok (.lload_n 3, 1) := by decide +kernel
theorem dX11_digestRows_16 : decode cX11_digestRows 16 = .ok (.lmul, 1) := by decide +kernel
theorem dX11_digestRows_17 : decode cX11_digestRows 17 = .ok (.aload_n 0, 1) := by decide +kernel
theorem dX11_digestRows_18 : decode cX11_digestRows 18 = .ok (.getfield 11, 3) := by decide +kernel
theorem dX11_digestRows_21 : decode cX11_digestRows 21 = .ok (.iload 5, 2) := by decide +kernel
theorem dX11_digestRows_23 : decode cX11_digestRows 23 = .ok (.aaload, 1) := by decide +kernel
theorem dX11_digestRows_24 : decode cX11_digestRows 24 = .ok (.getfield 127, 3) := by decide +kernel
theorem dX11_digestRows_27 : decode cX11_digestRows 27 = .ok (.i2l, 1) := by decide +kernel
theorem dX11_digestRows_28 : decode cX11_digestRows 28 = .ok (.ladd, 1) := by decide +kernel
theorem dX11_digestRows_29 : decode cX11_digestRows 29 = .ok (.lstore_n 3, 1) := by decide +kernel
theorem dX11_digestRows_30 : decode cX11_digestRows 30 = .ok (.iconst 0, 1) := by decide +kernel
theorem dX11_digestRows_31 : decode cX11_digestRows 31 = .ok (.istore 6, 2) := by decide +kernel
theorem dX11_digestRows_33 : decode cX11_digestRows 33 = .ok (.iload 6, 2) := by decide +kernel
theorem dX11_digestRows_35 : decode cX11_digestRows 35 = .ok (.aload_n 0, 1) := by decide +kernel
theorem dX11_digestRows_36 : decode cX11_digestRows 36 = .ok (.getfield 11, 3) := by decide +kernel
theorem dX11_digestRows_39 : decode cX11_digestRows 39 = .ok (.iload 5, 2) := by decide +kernel
theorem dX11_digestRows_41 : decode cX11_digestRows 41 = .ok (.aaload, 1) := by decide +kernel
theorem dX11_digestRows_42 : decode cX11_digestRows 42 = .ok (.getfield 127, 3) := by decide +kernel
theorem dX11_digestRows_45 : decode cX11_digestRows 45 = .ok (.if_icmp .ge 30, 3) := by decide +kernel
theorem dX11_digestRows_48 : decode cX11_digestRows 48 = .ok (.ldc2_w 402, 3) := by decide +kernel
theorem dX11_digestRows_51 : decode cX11_digestRows 51 = .ok (.lload_n 3, 1) := by decide +kernel
theorem dX11_digestRows_52 : decode cX11_digestRows 52 = .ok (.lmul, 1) := by decide +kernel
theorem dX11_digestRows_53 : decode cX11_digestRows 53 = .ok (.aload_n 0, 1) := by decide +kernel
theorem dX11_digestRows_54 : decode cX11_digestRows 54 = .ok (.getfield 11, 3) := by decide +kernel
theorem dX11_digestRows_57 : decode cX11_digestRows 57 = .ok (.iload 5, 2) := by decide +kernel
theorem dX11_digestRows_59 : decode cX11_digestRows 59 = .ok (.aaload, 1) := by decide +kernel
theorem dX11_digestRows_60 : decode cX11_digestRows 60 = .ok (.getfield 117, 3) := by decide +kernel
theorem dX11_digestRows_63 : decode cX11_digestRows 63 = .ok (.iload 6, 2) := by decide +kernel
theorem dX11_digestRows_65 : decode cX11_digestRows 65 = .ok (.iaload, 1) := by decide +kernel
theorem dX11_digestRows_66 : decode cX11_digestRows 66 = .ok (.i2l, 1) := by decide +kernel
theorem dX11_digestRows_67 : decode cX11_digestRows 67 = .ok (.ladd, 1) := by decide +kernel
theorem dX11_digestRows_68 : decode cX11_digestRows 68 = .ok (.lstore_n 3, 1) := by decide +kernel
theorem dX11_digestRows_69 : decode cX11_digestRows 69 = .ok (.iinc 6 1, 3) := by decide +kernel
theorem dX11_digestRows_72 : decode cX11_digestRows 72 = .ok (.goto (-39), 3) := by decide +kernel
theorem dX11_digestRows_75 : decode cX11_digestRows 75 = .ok (.iinc 5 1, 3) := by decide +kernel
theorem dX11_digestRows_78 : decode cX11_digestRows 78 = .ok (.goto (-73), 3) := by decide +kernel
theorem dX11_digestRows_81 : decode cX11_digestRows 81 = .ok (.lload_n 3, 1) := by decide +kernel
theorem dX11_digestRows_82 : decode cX11_digestRows 82 = .ok (.lreturn, 1) := by decide +kernel
theorem dX11_digestTexts_0 : decode cX11_digestTexts 0 = .ok (.lload_n 1, 1) := by decide +kernel
theorem dX11_digestTexts_1 : decode cX11_digestTexts 1 = .ok (.lstore_n 3, 1) := by decide +kernel
theorem dX11_digestTexts_2 : decode cX11_digestTexts 2 = .ok (.iconst 0, 1) := by decide +kernel
theorem dX11_digestTexts_3 : decode cX11_digestTexts 3 = .ok (.istore 5, 2) := by decide +kernel
theorem dX11_digestTexts_5 : decode cX11_digestTexts 5 = .ok (.iload 5, 2) := by decide +kernel
theorem dX11_digestTexts_7 : decode cX11_digestTexts 7 = .ok (.iconst 4, 1) := by decide +kernel
theorem dX11_digestTexts_8 : decode cX11_digestTexts 8 = .ok (.if_icmp .ge 72, 3) := by decide +kernel
theorem dX11_digestTexts_11 : decode cX11_digestTexts 11 = .ok (.ldc2_w 402, 3) := by decide +kernel
theorem dX11_digestTexts_14 : decode cX11_digestTexts 14 = .ok (.lload_n 3, 1) := by decide +kernel
theorem dX11_digestTexts_15 : decode cX11_digestTexts 15 = .ok (.lmul, 1) := by decide +kernel
theorem dX11_digestTexts_16 : decode cX11_digestTexts 16 = .ok (.aload_n 0, 1) := by decide +kernel
theorem dX11_digestTexts_17 : decode cX11_digestTexts 17 = .ok (.getfield 17, 3) := by decide +kernel
theorem dX11_digestTexts_20 : decode cX11_digestTexts 20 = .ok (.iload 5, 2) := by decide +kernel
theorem dX11_digestTexts_22 : decode cX11_digestTexts 22 = .ok (.aaload, 1) := by decide +kernel
theorem dX11_digestTexts_23 : decode cX11_digestTexts 23 = .ok (.getfield 435, 3) := by decide +kernel
theorem dX11_digestTexts_26 : decode cX11_digestTexts 26 = .ok (.i2l, 1) := by decide +kernel
theorem dX11_digestTexts_27 : decode cX11_digestTexts 27 = .ok (.ladd, 1) := by decide +kernel
theorem dX11_digestTexts_28 : decode cX11_digestTexts 28 = .ok (.lstore_n 3, 1) := by decide +kernel
theorem dX11_digestTexts_29 : decode cX11_digestTexts 29 = .ok (.iconst 0, 1) := by decide +kernel
theorem dX11_digestTexts_30 : decode cX11_digestTexts 30 = .ok (.istore 6, 2) := by decide +kernel
theorem dX11_digestTexts_32 : decode cX11_digestTexts 32 = .ok (.iload 6, 2) := by decide +kernel
theorem dX11_digestTexts_34 : decode cX11_digestTexts 34 = .ok (.aload_n 0, 1) := by decide +kernel
theorem dX11_digestTexts_35 : decode cX11_digestTexts 35 = .ok (.getfield 17, 3) := by decide +kernel
theorem dX11_digestTexts_38 : decode cX11_digestTexts 38 = .ok (.iload 5, 2) := by decide +kernel
theorem dX11_digestTexts_40 : decode cX11_digestTexts 40 = .ok (.aaload, 1) := by decide +kernel
theorem dX11_digestTexts_41 : decode cX11_digestTexts 41 = .ok (.getfield 435, 3) := by decide +kernel
theorem dX11_digestTexts_44 : decode cX11_digestTexts 44 = .ok (.if_icmp .ge 30, 3) := by decide +kernel
theorem dX11_digestTexts_47 : decode cX11_digestTexts 47 = .ok (.ldc2_w 402, 3) := by decide +kernel
theorem dX11_digestTexts_50 : decode cX11_digestTexts 50 = .ok (.lload_n 3, 1) := by decide +kernel
theorem dX11_digestTexts_51 : decode cX11_digestTexts 51 = .ok (.lmul, 1) := by decide +kernel
theorem dX11_digestTexts_52 : decode cX11_digestTexts 52 = .ok (.aload_n 0, 1) := by decide +kernel
theorem dX11_digestTexts_53 : decode cX11_digestTexts 53 = .ok (.getfield 17, 3) := by decide +kernel
theorem dX11_digestTexts_56 : decode cX11_digestTexts 56 = .ok (.iload 5, 2) := by decide +kernel
theorem dX11_digestTexts_58 : decode cX11_digestTexts 58 = .ok (.aaload, 1) := by decide +kernel
theorem dX11_digestTexts_59 : decode cX11_digestTexts 59 = .ok (.getfield 149, 3) := by decide +kernel
theorem dX11_digestTexts_62 : decode cX11_digestTexts 62 = .ok (.iload 6, 2) := by decide +kernel
theorem dX11_digestTexts_64 : decode cX11_digestTexts 64 = .ok (.baload, 1) := by decide +kernel
theorem dX11_digestTexts_65 : decode cX11_digestTexts 65 = .ok (.i2l, 1) := by decide +kernel
theorem dX11_digestTexts_66 : decode cX11_digestTexts 66 = .ok (.ladd, 1) := by decide +kernel
theorem dX11_digestTexts_67 : decode cX11_digestTexts 67 = .ok (.lstore_n 3, 1) := by decide +kernel
theorem dX11_digestTexts_68 : decode cX11_digestTexts 68 = .ok (.iinc 6 1, 3) := by decide +kernel
theorem dX11_digestTexts_71 : decode cX11_digestTexts 71 = .ok (.goto (-39), 3) := by decide +kernel
theorem dX11_digestTexts_74 : decode cX11_digestTexts 74 = .ok (.iinc 5 1, 3) := by decide +kernel
theorem dX11_digestTexts_77 : decode cX11_digestTexts 77 = .ok (.goto (-72), 3) := by decide +kernel
theorem dX11_digestTexts_80 : decode cX11_digestTexts 80 = .ok (.lload_n 3, 1) := by decide +kernel
theorem dX11_digestTexts_81 : decode cX11_digestTexts 81 = .ok (.lreturn, 1) := by decide +kernel
theorem dX12_init_0 : decode cX12_init 0 = .ok (.aload_n 0, 1) := by decide +kernel
theorem dX12_init_1 : decode cX12_init 1 = .ok (.invokespecial 1, 3) := by decide +kernel
theorem dX12_init_4 : decode cX12_init 4 = .ok (.aload_n 0, 1) := by decide +kernel
theorem dX12_init_5 : decode cX12_init 5 = .ok (.bipush 6, 2) := by decide +kernel
theorem dX12_init_7 : decode cX12_init 7 = .ok (.newarray .int, 2) := by decide +kernel
theorem dX12_init_9 : decode cX12_init 9 = .ok (.putfield 7, 3) := by decide +kernel
theorem dX12_init_12 : decode cX12_init 12 = .ok (.aload_n 0, 1) := by decide +kernel
theorem dX12_init_13 : decode cX12_init 13 = .ok (.bipush 6, 2) := by decide +kernel
theorem dX12_init_15 : decode cX12_init 15 = .ok (.newarray .int, 2) := by decide +kernel
theorem dX12_init_17 : decode cX12_init 17 = .ok (.putfield 13, 3) := by decide +kernel
theorem dX12_init_20 : decode cX12_init 20 = .ok (.aload_n 0, 1) := by decide +kernel
theorem dX12_init_21 : decode cX12_init 21 = .ok (.sipush 240, 3) := by decide +kernel
theorem dX12_init_24 : decode cX12_init 24 = .ok (.newarray .int, 2) := by decide +kernel
theorem dX12_init_26 : decode cX12_init 26 = .ok (.putfield 16, 3) := by decide +kernel
theorem dX12_init_29 : decode cX12_init 29 = .ok (.aload_n 0, 1) := by decide +kernel
theorem dX12_init_30 : decode cX12_init 30 = .ok (.bipush 40, 2) := by decide +kernel
theorem dX12_init_32 : decode cX12_init 32 = .ok (.newarray .int, 2) := by decide +kernel
theorem dX12_init_34 : decode cX12_init 34 = .ok (.putfield 19, 3) := by decide +kernel
theorem dX12_init_37 : decode cX12_init 37 = .ok (.aload_n 0, 1) := by decide +kernel
theorem dX12_init_38 : decode cX12_init 38 = .ok (.iconst 4, 1) := by decide +kernel
theorem dX12_init_39 : decode cX12_init 39 = .ok (.newarray .int, 2) := by decide +kernel
theorem dX12_init_41 : decode cX12_init 41 = .ok (.putfield 22, 3) := by decide +kernel
theorem dX12_init_44 : decode cX12_init 44 = .ok (.aload_n 0, 1) := by decide +kernel
theorem dX12_init_45 : decode cX12_init 45 = .ok (.sipush 320, 3) := by decide +kernel
theorem dX12_init_48 : decode cX12_init 48 = .ok (.newarray .byte, 2) := by decide +kernel
theorem dX12_init_50 : decode cX12_init 50 = .ok (.putfield 25, 3) := by decide +kernel
theorem dX12_init_53 : decode cX12_init 53 = .ok (.aload_n 0, 1) := by decide +kernel
theorem dX12_init_54 : decode cX12_init 54 = .ok (.iconst 4, 1) := by decide +kernel
theorem dX12_init_55 : decode cX12_init 55 = .ok (.newarray .boolean, 2) := by decide +kernel
theorem dX12_init_57 : decode cX12_init 57 = .ok (.putfield 29, 3) := by decide +kernel
theorem dX12_init_60 : decode cX12_init 60 = .ok (.aload_n 0, 1) := by decide +kernel
theorem dX12_init_61 : decode cX12_init 61 = .ok (.bipush 20, 2) := by decide +kernel
theorem dX12_init_63 : decode cX12_init 63 = .ok (.newarray .int, 2) := by decide +kernel
theorem dX12_init_65 : decode cX12_init 65 = .ok (.putfield 33, 3) := by decide +kernel
theorem dX12_init_68 : decode cX12_init 68 = .ok (.aload_n 0, 1) := by decide +kernel
theorem dX12_init_69 : decode cX12_init 69 = .ok (.iconst 4, 1) := by decide +kernel
theorem dX12_init_70 : decode cX12_init 70 = .ok (.newarray .boolean, 2) := by decide +kernel
theorem dX12_init_72 : decode cX12_init 72 = .ok (.putfield 36, 3) := by decide +kernel
theorem dX12_init_75 : decode cX12_init 75 = .ok (.aload_n 0, 1) := by decide +kernel
theorem dX12_init_76 : decode cX12_init 76 = .ok (.iconst 4, 1) := by decide +kernel
theorem dX12_init_77 : decode cX12_init 77 = .ok (.newarray .int, 2) := by decide +kernel
theorem dX12_init_79 : decode cX12_init 79 = .ok (.putfield 39, 3) := by decide +kernel
theorem dX12_init_82 : decode cX12_init 82 = .ok (.aload_n 0, 1) := by decide +kernel
theorem dX12_init_83 : decode cX12_init 83 = .ok (.bipush 120, 2) := by decide +kernel
theorem dX12_init_85 : decode cX12_init 85 = .ok (.newarray .int, 2) := by decide +kernel
theorem dX12_init_87 : decode cX12_init 87 = .ok (.putfield 42, 3) := by decide +kernel
theorem dX12_init_90 : decode cX12_init 90 = .ok (.aload_n 0, 1) := by decide +kernel
theorem dX12_init_91 : decode cX12_init 91 = .ok (.iconst 5, 1) := by decide +kernel
theorem dX12_init_92 : decode cX12_init 92 = .ok (.newarray .int, 2) := by decide +kernel
theorem dX12_init_94 : decode cX12_init 94 = .ok (.putfield 45, 3) := by decide +kernel
theorem dX12_init_97 : decode cX12_init 97 = .ok (.aload_n 0, 1) := by decide +kernel
theorem dX12_init_98 : decode cX12_init 98 = .ok (.bipush 30, 2) := by decide +kernel
theorem dX12_init_100 : decode cX12_init 100 = .ok (.newarray .int, 2) := by decide +kernel
theorem dX12_init_102 : decode cX12_init 102 = .ok (.putfield 48, 3) := by decide +kernel
theorem dX12_init_105 : decode cX12_init 105 = .ok (.aload_n 0, 1) := by decide +kernel
theorem dX12_init_106 : decode cX12_init 106 = .ok (.iconst 4, 1) := by decide +kernel
theorem dX12_init_107 : decode cX12_init 107 = .ok (.newarray .boolean, 2) := by decide +kernel
theorem dX12_init_109 : decode cX12_init 109 = .ok (.putfield 51, 3) := by decide +kernel
theorem dX12_init_112 : decode cX12_init 112 = .ok (.aload_n 0, 1) := by decide +kernel
theorem dX12_init_113 : decode cX12_init 113 = .ok (.sipush 1645, 3) := by decide +kernel
theorem dX12_init_116 : decode cX12_init 116 = .ok (.newarray .int, 2) := by decide +kernel
theorem dX12_init_118 : decode cX12_init 118 = .ok (.putfield 54, 3) := by decide +kernel
theorem dX12_init_121 : decode cX12_init 121 = .ok (.aload_n 0, 1) := by decide +kernel
theorem dX12_init_122 : decode cX12_init 122 = .ok (.bipush 24, 2) := by decide +kernel
theorem dX12_init_124 : decode cX12_init 124 = .ok (.newarray .int, 2) := by decide +kernel
theorem dX12_init_126 : decode cX12_init 126 = .ok (.putfield 57, 3) := by decide +kernel
theorem dX12_init_129 : decode cX12_init 129 = .ok (.aload_n 0, 1) := by decide +kernel
theorem dX12_init_130 : decode cX12_init 130 = .ok (.bipush 24, 2) := by decide +kernel
theorem dX12_init_132 : decode cX12_init 132 = .ok (.newarray .int, 2) := by decide +kernel
theorem dX12_init_134 : decode cX12_init 134 = .ok (.putfield 60, 3) := by decide +kernel
theorem dX12_init_137 : decode cX12_init 137 = .ok (.aload_n 0, 1) := by decide +kernel
theorem dX12_init_138 : decode cX12_init 138 = .ok (.bipush 16, 2) := by decide +kernel
theorem dX12_init_140 : decode cX12_init 140 = .ok (.newarray .int, 2) := by decide +kernel
theorem dX12_init_142 : decode cX12_init 142 = .ok (.putfield 63, 3) := by decide +kernel
theorem dX12_init_145 : decode cX12_init 145 = .ok (.aload_n 0, 1) := by decide +kernel
theorem dX12_init_146 : decode cX12_init 146 = .ok (.bipush 31, 2) := by decide +kernel
theorem dX12_init_148 : decode cX12_init 148 = .ok (.newarray .int, 2) := by decide +kernel
theorem dX12_init_150 : decode cX12_init 150 = .ok (.putfield 66, 3) := by decide +kernel
theorem dX12_init_153 : decode cX12_init 153 = .ok (.aload_n 0, 1) := by decide +kernel
theorem dX12_init_154 : decode cX12_init 154 = .ok (.bipush 24, 2) := by decide +kernel
theorem dX12_init_156 : decode cX12_init 156 = .ok (.newarray .int, 2) := by decide +kernel
theorem dX12_init_158 : decode cX12_init 158 = .ok (.putfield 69, 3) := by decide +kernel
theorem dX12_init_161 : decode cX12_init 161 = .ok (.aload_n 0, 1) := by decide +kernel
theorem dX12_init_162 : decode cX12_init 162 = .ok (.bipush 81, 2) := by decide +kernel
theorem dX12_init_164 : decode cX12_init 164 = .ok (.newarray .int, 2) := by decide +kernel
theorem dX12_init_166 : decode cX12_init 166 = .ok (.putfield 72, 3) := by decide +kernel
theorem dX12_init_169 : decode cX12_init 169 = .ok (.aload_n 0, 1) := by decide +kernel
theorem dX12_init_170 : decode cX12_init 170 = .ok (.iconst 4, 1) := by decide +kernel
theorem dX12_init_171 : decode cX12_init 171 = .ok (.newarray .int, 2) := by decide +kernel
theorem dX12_init_173 : decode cX12_init 173 = .ok (.putfield 75, 3) := by decide +kernel
theorem dX12_init_176 : decode cX12_init 176 = .ok (.aload_n 0, 1) := by decide +kernel
theorem dX12_init_177 : decode cX12_init 177 = .ok (.lconst 1, 1) := by decide +kernel
theorem dX12_init_178 : decode cX12_init 178 = .ok (.putfield 78, 3) := by decide +kernel
theorem dX12_init_181 : decode cX12_init 181 = .ok (.iconst 0, 1) := by decide +kernel
theorem dX12_init_182 : decode cX12_init 182 = .ok (.istore_n 1, 1) := by decide +kernel
theorem dX12_init_183 : decode cX12_init 183 = .ok (.iload_n 1, 1) := by decide +kernel
theorem dX12_init_184 : decode cX12_init 184 = .ok (.bipush 6, 2) := by decide +kernel
theorem dX12_init_186 : decode cX12_init 186 = .ok (.if_icmp .ge 16, 3) := by decide +kernel
theorem dX12_init_189 : decode cX12_init 189 = .ok (.aload_n 0, 1) := by decide +kernel
theorem dX12_init_190 : decode cX12_init 190 = .ok (.getfield 13, 3) := by decide +kernel
theorem dX12_init_193 : decode cX12_init 193 = .ok (.iload_n 1, 1) := by decide +kernel
theorem dX12_init_194 : decode cX12_init 194 = .ok (.iconst (-1), 1) := by decide +kernel
theorem dX12_init_195 : decode cX12_init 195 = .ok (.iastore, 1) := by decide +kernel
theorem dX12_init_196 : decode cX12_init 196 = .ok (.iinc 1 1, 3) := by decide +kernel
theorem dX12_init_199 : decode cX12_init 199 = .ok (.goto (-16), 3) := by decide +kernel
theorem dX12_init_202 : decode cX12_init 202 = .ok (.iconst 0, 1) := by decide +kernel
theorem dX12_init_203 : decode cX12_init 203 = .ok (.istore_n 1, 1) := by decide +kernel
theorem dX12_init_204 : decode cX12_init 204 = .ok (.iload_n 1, 1) := by decide +kernel
theorem dX12_init_205 : decode cX12_init 205 = .ok (.iconst 4, 1) := by decide +kernel
theorem dX12_init_206 : decode cX12_init 206 = .ok (.if_icmp .ge 16, 3) := by decide +kernel
theorem dX12_init_209 : decode cX12_init 209 = .ok (.aload_n 0, 1) := by decide +kernel
theorem dX12_init_210 : decode cX12_init 210 = .ok (.getfield 22, 3) := by decide +kernel
theorem dX12_init_213 : decode cX12_init 213 = .ok (.iload_n 1, 1) := by decide +kernel
theorem dX12_init_214 : decode cX12_init 214 = .ok (.iconst (-1), 1) := by decide +kernel
theorem dX12_init_215 : decode cX12_init 215 = .ok (.iastore, 1) := by decide +kernel
theorem dX12_init_216 : decode cX12_init 216 = .ok (.iinc 1 1, 3) := by decide +kernel
theorem dX12_init_219 : decode cX12_init 219 = .ok (.goto (-15), 3) := by decide +kernel
theorem dX12_init_222 : decode cX12_init 222 = .ok (.return_, 1) := by decide +kernel
theorem dX12_in_0 : decode cX12_in 0 = .ok (.iload_n 0, 1) := by decide +kernel
theorem dX12_in_1 : decode cX12_in 1 = .ok (.iload_n 1, 1) := by decide +kernel
theorem dX12_in_2 : decode cX12_in 2 = .ok (.if_icmp .lt 12, 3) := by decide +kernel
theorem dX12_in_5 : decode cX12_in 5 = .ok (.iload_n 0, 1) := by decide +kernel
theorem dX12_in_6 : decode cX12_in 6 = .ok (.iload_n 2, 1) := by decide +kernel
theorem dX12_in_7 : decode cX12_in 7 = .ok (.if_icmp .gt 7, 3) := by decide +kernel
theorem dX12_in_10 : decode cX12_in 10 = .ok (.iconst 1, 1) := by decide +kernel
theorem dX12_in_11 : decode cX12_in 11 = .ok (.goto 4, 3) := by decide +kernel
theorem dX12_in_14 : decode cX12_in 14 = .ok (.iconst 0, 1) := by decide +kernel
theorem dX12_in_15 : decode cX12_in 15 = .ok (.ireturn, 1) := by decide +kernel
theorem dX12_lesser_0 : decode cX12_lesser 0 = .ok (.iload_n 0, 1) := by decide +kernel
theorem dX12_lesser_1 : decode cX12_lesser 1 = .ok (.iload_n 1, 1) := by decide +kernel
theorem dX12_lesser_2 : decode cX12_lesser 2 = .ok (.if_icmp .ge 7, 3) := by decide +kernel
theorem dX12_lesser_5 : decode cX12_lesser 5 = .ok (.iload_n 0, 1) := by decide +kernel
theorem dX12_lesser_6 : decode cX12_lesser 6 = .ok (.goto 4, 3) := by decide +kernel
theorem dX12_lesser_9 : decode cX12_lesser 9 = .ok (.iload_n 1, 1) := by decide +kernel
theorem dX12_lesser_10 : decode cX12_lesser 10 = .ok (.ireturn, 1) := by decide +kernel
theorem dX12_greater_0 : decode cX12_greater 0 = .ok (.iload_n 0, 1) := by decide +kernel
theorem dX12_greater_1 : decode cX12_greater 1 = .ok (.iload_n 1, 1) := by decide +kernel
theorem dX12_greater_2 : decode cX12_greater 2 = .ok (.if_icmp .le 7, 3) := by decide +kernel
theorem dX12_greater_5 : decode cX12_greater 5 = .ok (.iload_n 0, 1) := by decide +kernel
theorem dX12_greater_6 : decode cX12_greater 6 = .ok (.goto 4, 3) := by decide +kernel
theorem dX12_greater_9 : decode cX12_greater 9 = .ok (.iload_n 1, 1) := by decide +kernel
theorem dX12_greater_10 : decode cX12_greater 10 = .ok (.ireturn, 1) := by decide +kernel
theorem dX12_off_0 : decode cX12_off 0 = .ok (.iload_n 0, 1) := by decide +kernel
theorem dX12_off_1 : decode cX12_off 1 = .ok (.iload_n 1, 1) := by decide +kernel
theorem dX12_off_2 : decode cX12_off 2 = .ok (.if_icmp .ge 9, 3) := by decide +kernel
theorem dX12_off_5 : decode cX12_off 5 = .ok (.iload_n 1, 1) := by decide +kernel
theorem dX12_off_6 : decode cX12_off 6 = .ok (.iload_n 0, 1) := by decide +kernel
theorem dX12_off_7 : decode cX12_off 7 = .ok (.isub, 1) := by decide +kernel
theorem dX12_off_8 : decode cX12_off 8 = .ok (.goto 6, 3) := by decide +kernel
theorem dX12_off_11 : decode cX12_off 11 = .ok (.iload_n 0, 1) := by decide +kernel
theorem dX12_off_12 : decode cX12_off 12 = .ok (.iload_n 1, 1) := by decide +kernel
theorem dX12_off_13 : decode cX12_off 13 = .ok (.isub, 1) := by decide +kernel
theorem dX12_off_14 : decode cX12_off 14 = .ok (.ireturn, 1) := by decide +kernel
theorem dX12_meets_0 : decode cX12_meets 0 = .ok (.aload_n 0, 1) := by decide +kernel
theorem dX12_meets_1 : decode cX12_meets 1 = .ok (.iload_n 1, 1) := by decide +kernel
theorem dX12_meets_2 : decode cX12_meets 2 = .ok (.putfield 82, 3) := by decide +kernel
theorem dX12_meets_5 : decode cX12_meets 5 = .ok (.aload_n 0, 1) := by decide +kernel
theorem dX12_meets_6 : decode cX12_meets 6 = .ok (.getfield 7, 3) := by decide +kernel
theorem dX12_meets_9 : decode cX12_meets 9 = .ok (.iload_n 1, 1) := by decide +kernel
theorem dX12_meets_10 : decode cX12_meets 10 = .ok (.dup2, 1) := by decide +kernel
theorem dX12_meets_11 : decode cX12_meets 11 = .ok (.iaload, 1) := by decide +kernel
theorem dX12_meets_12 : decode cX12_meets 12 = .ok (.iconst 1, 1) := by decide +kernel
theorem dX12_meets_13 : decode cX12_meets 13 = .ok (.iadd, 1) := by decide +kernel
theorem dX12_meets_14 : decode cX12_meets 14 = .ok (.iastore, 1) := by decide +kernel
theorem dX12_meets_15 : decode cX12_meets 15 = .ok (.bipush (-3), 2) := by decide +kernel
theorem dX12_meets_17 : decode cX12_meets 17 = .ok (.ireturn, 1) := by decide +kernel
theorem dX12_finding_0 : decode cX12_finding 0 = .ok (.aload_n 0, 1) := by decide +kernel
theorem dX12_finding_1 : decode cX12_finding 1 = .ok (.getfield 82, 3) := by decide +kernel
theorem dX12_finding_4 : decode cX12_finding 4 = .ok (.ireturn, 1) := by decide +kernel
theorem dX12_findings_0 : decode cX12_findings 0 = .ok (.iload_n 1, 1) := by decide +kernel
theorem dX12_findings_1 : decode cX12_findings 1 = .ok (.iconst 1, 1) := by decide +kernel
theorem dX12_findings_2 : decode cX12_findings 2 = .ok (.iconst 5, 1) := by decide +kernel
theorem dX12_findings_3 : decode cX12_findings 3 = .ok (.invokestatic 86, 3) := by decide +kernel
theorem dX12_findings_6 : decode cX12_findings 6 = .ok (.ifCond .eq 12, 3) := by decide +kernel
theorem dX12_findings_9 : decode cX12_findings 9 = .ok (.aload_n 0, 1) := by decide +kernel
theorem dX12_findings_10 : decode cX12_findings 10 = .ok (.getfield 7, 3) := by decide +kernel
theorem dX12_findings_13 : decode cX12_findings 13 = .ok (.iload_n 1, 1) := by decide +kernel
theorem dX12_findings_14 : decode cX12_findings 14 = .ok (.iaload, 1) := by decide +kernel
theorem dX12_findings_15 : decode cX12_findings 15 = .ok (.goto 4, 3) := by decide +kernel
theorem dX12_findings_18 : decode cX12_findings 18 = .ok (.iconst (-1), 1) := by decide +kernel
theorem dX12_findings_19 : decode cX12_findings 19 = .ok (.ireturn, 1) := by decide +kernel
theorem dX12_tells_0 : decode cX12_tells 0 = .ok (.aload_n 0, 1) := by decide +kernel
theorem dX12_tells_1 : decode cX12_tells 1 = .ok (.iload_n 1, 1) := by decide +kernel
theorem dX12_tells_2 : decode cX12_tells 2 = .ok (.putfield 90, 3) := by decide +kernel
theorem dX12_tells_5 : decode cX12_tells 5 = .ok (.iload_n 2, 1) := by decide +kernel
theorem dX12_tells_6 : decode cX12_tells 6 = .ok (.ireturn, 1) := by decide +kernel
theorem dX12_asked_0 : decode cX12_asked 0 = .ok (.aload_n 0, 1) := by decide +kernel
theorem dX12_asked_1 : decode cX12_asked 1 = .ok (.getfield 90, 3) := by decide +kernel
theorem dX12_asked_4 : decode cX12_asked 4 = .ok (.ireturn, 1) := by decide +kernel
theorem dX12_fraction_0 : decode cX12_fraction 0 = .ok (.lload_n 1, 1) := by decide +kernel
theorem dX12_fraction_1 : decode cX12_fraction 1 = .ok (.lstore 6, 2) := by decide +kernel
theorem dX12_fraction_3 : decode cX12_fraction 3 = .ok (.lload_n 3, 1) := by decide +kernel
theorem dX12_fraction_4 : decode cX12_fraction 4 = .ok (.lstore 8, 2) := by decide +kernel
theorem dX12_fraction_6 : decode cX12_fraction 6 = .ok (.lload 8, 2) := by decide +kernel
theorem dX12_fraction_8 : decode cX12_fraction 8 = .ok (.lconst 0, 1) := by decide +kernel
theorem dX12_fraction_9 : decode cX12_fraction 9 = .ok (.lcmp, 1) := by decide +kernel
theorem dX12_fraction_10 : decode cX12_fraction 10 = .ok (.ifCond .eq 21, 3) := by decide +kernel
theorem dX12_fraction_13 : decode cX12_fraction 13 = .ok (.lload 6, 2) := by decide +kernel
theorem dX12_fraction_15 : decode cX12_fraction 15 = .ok (.lload 8, 2) := by decide +kernel
theorem dX12_fraction_17 : decode cX12_fraction 17 = .ok (.lrem, 1) := by decide +kernel
theorem dX12_fraction_18 : decode cX12_fraction 18 = .ok (.lstore 10, 2) := by decide +kernel
theorem dX12_fraction_20 : decode cX12_fraction 20 = .ok (.lload 8, 2) := by decide +kernel
theorem dX12_fraction_22 : decode cX12_fraction 22 = .ok (.lstore 6, 2) := by decide +kernel
theorem dX12_fraction_24 : decode cX12_fraction 24 = .ok (.lload 10, 2) := by decide +kernel
theorem dX12_fraction_26 : decode cX12_fraction 26 = .ok (.lstore 8, 2) := by decide +kernel
theorem dX12_fraction_28 : decode cX12_fraction 28 = .ok (.goto (-22), 3) := by decide +kernel
theorem dX12_fraction_31 : decode cX12_fraction 31 = .ok (.aload_n 0, 1) := by decide +kernel
theorem dX12_fraction_32 : decode cX12_fraction 32 = .ok (.lload_n 1, 1) := by decide +kernel
theorem dX12_fraction_33 : decode cX12_fraction 33 = .ok (.lload 6, 2) := by decide +kernel
theorem dX12_fraction_35 : decode cX12_fraction 35 = .ok (.ldiv, 1) := by decide +kernel
theorem dX12_fraction_36 : decode cX12_fraction 36 = .ok (.putfield 93, 3) := by decide +kernel
theorem dX12_fraction_39 : decode cX12_fraction 39 = .ok (.aload_n 0, 1) := by decide +kernel
theorem dX12_fraction_40 : decode cX12_fraction 40 = .ok (.lload_n 3, 1) := by decide +kernel
theorem dX12_fraction_41 : decode cX12_fraction 41 = .ok (.lload 6, 2) := by decide +kernel
theorem dX12_fraction_43 : decode cX12_fraction 43 = .ok (.ldiv, 1) := by decide +kernel
theorem dX12_fraction_44 : decode cX12_fraction 44 = .ok (.putfield 78, 3) := by decide +kernel
theorem dX12_fraction_47 : decode cX12_fraction 47 = .ok (.iload 5, 2) := by decide +kernel
theorem dX12_fraction_49 : decode cX12_fraction 49 = .ok (.ireturn, 1) := by decide +kernel
theorem dX12_upper_0 : decode cX12_upper 0 = .ok (.aload_n 0, 1) := by decide +kernel
theorem dX12_upper_1 : decode cX12_upper 1 = .ok (.getfield 93, 3) := by decide +kernel
theorem dX12_upper_4 : decode cX12_upper 4 = .ok (.lreturn, 1) := by decide +kernel
theorem dX12_lower_0 : decode cX12_lower 0 = .ok (.aload_n 0, 1) := by decide +kernel
theorem dX12_lower_1 : decode cX12_lower 1 = .ok (.getfield 78, 3) := by decide +kernel
theorem dX12_lower_4 : decode cX12_lower 4 = .ok (.lreturn, 1) := by decide +kernel
theorem dX12_isRow_0 : decode cX12_isRow 0 = .ok (.iload_n 0, 1) := by decide +kernel
theorem dX12_isRow_1 : decode cX12_isRow 1 = .ok (.iconst 0, 1) := by decide +kernel
theorem dX12_isRow_2 : decode cX12_isRow 2 = .ok (.iconst 5, 1) := by decide +kernel
theorem dX12_isRow_3 : decode cX12_isRow 3 = .ok (.invokestatic 86, 3) := by decide +kernel
theorem dX12_isRow_6 : decode cX12_isRow 6 = .ok (.ireturn, 1) := by decide +kernel
theorem dX12_rowAt_0 : decode cX12_rowAt 0 = .ok (.aload_n 0, 1) := by decide +kernel
theorem dX12_rowAt_1 : decode cX12_rowAt 1 = .ok (.getfield 16, 3) := by decide +kernel
theorem dX12_rowAt_4 : decode cX12_rowAt 4 = .ok (.bipush 40, 2) := by decide +kernel
theorem dX12_rowAt_6 : decode cX12_rowAt 6 = .ok (.iload_n 1, 1) := by decide +kernel
theorem dX12_rowAt_7 : decode cX12_rowAt 7 = .ok (.imul, 1) := by decide +kernel
theorem dX12_rowAt_8 : decode cX12_rowAt 8 = .ok (.iload_n 2, 1) := by decide +kernel
theorem dX12_rowAt_9 : decode cX12_rowAt 9 = .ok (.iadd, 1) := by decide +kernel
theorem dX12_rowAt_10 : decode cX12_rowAt 10 = .ok (.iaload, 1) := by decide +kernel
theorem dX12_rowAt_11 : decode cX12_rowAt 11 = .ok (.ireturn, 1) := by decide +kernel
theorem dX12_row_0 : decode cX12_row 0 = .ok (.iload_n 1, 1) := by decide +kernel
theorem dX12_row_1 : decode cX12_row 1 = .ok (.invokestatic 96, 3) := by decide +kernel
theorem dX12_row_4 : decode cX12_row 4 = .ok (.ifCond .eq 9, 3) := by decide +kernel
theorem dX12_row_7 : decode cX12_row 7 = .ok (.iload_n 2, 1) := by decide +kernel
theorem dX12_row_8 : decode cX12_row 8 = .ok (.bipush 40, 2) := by decide +kernel
theorem dX12_row_10 : decode cX12_row 10 = .ok (.if_icmp .le 5, 3) := by decide +kernel
theorem dX12_row_13 : decode cX12_row 13 = .ok (.iconst (-1), 1) := by decide +kernel
theorem dX12_row_14 : decode cX12_row 14 = .ok (.ireturn, 1) := by decide +kernel
theorem dX12_row_15 : decode cX12_row 15 = .ok (.iload_n 2, 1) := by decide +kernel
theorem dX12_row_16 : decode cX12_row 16 = .ok (.ifCond .ge 9, 3) := by decide +kernel
theorem dX12_row_19 : decode cX12_row 19 = .ok (.aload_n 0, 1) := by decide +kernel
theorem dX12_row_20 : decode cX12_row 20 = .ok (.iconst 5, 1) := by decide +kernel
theorem dX12_row_21 : decode cX12_row 21 = .ok (.invokevirtual 100, 3) := by decide +kernel
theorem dX12_row_24 : decode cX12_row 24 = .ok (.ireturn, 1) := by decide +kernel
theorem dX12_row_25 : decode cX12_row 25 = .ok (.aload_n 0, 1) := by decide +kernel
theorem dX12_row_26 : decode cX12_row 26 = .ok (.getfield 13, 3) := by decide +kernel
theorem dX12_row_29 : decode cX12_row 29 = .ok (.iload_n 1, 1) := by decide +kernel
theorem dX12_row_30 : decode cX12_row 30 = .ok (.iload_n 2, 1) := by decide +kernel
theorem dX12_row_31 : decode cX12_row 31 = .ok (.iastore, 1) := by decide +kernel
theorem dX12_row_32 : decode cX12_row 32 = .ok (.iconst 0, 1) := by decide +kernel
theorem dX12_row_33 : decode cX12_row 33 = .ok (.istore_n 3, 1) := by decide +kernel
theorem dX12_row_34 : decode cX12_row 34 = .ok (.iload_n 3, 1) := by decide +kernel
theorem dX12_row_35 : decode cX12_row 35 = .ok (.bipush 40, 2) := by decide +kernel
theorem dX12_row_37 : decode cX12_row 37 = .ok (.if_icmp .ge 21, 3) := by decide +kernel
theorem dX12_row_40 : decode cX12_row 40 = .ok (.aload_n 0, 1) := by decide +kernel
theorem dX12_row_41 : decode cX12_row 41 = .ok (.getfield 16, 3) := by decide +kernel
theorem dX12_row_44 : decode cX12_row 44 = .ok (.bipush 40, 2) := by decide +kernel
theorem dX12_row_46 : decode cX12_row 46 = .ok (.iload_n 1, 1) := by decide +kernel
theorem dX12_row_47 : decode cX12_row 47 = .ok (.imul, 1) := by decide +kernel
theorem dX12_row_48 : decode cX12_row 48 = .ok (.iload_n 3, 1) := by decide +kernel
theorem dX12_row_49 : decode cX12_row 49 = .ok (.iadd, 1) := by decide +kernel
theorem dX12_row_50 : decode cX12_row 50 = .ok (.iconst 0, 1) := by decide +kernel
theorem dX12_row_51 : decode cX12_row 51 = .ok (.iastore, 1) := by decide +kernel
theorem dX12_row_52 : decode cX12_row 52 = .ok (.iinc 3 1, 3) := by decide +kernel
theorem dX12_row_55 : decode cX12_row 55 = .ok (.goto (-21), 3) := by decide +kernel
theorem dX12_row_58 : decode cX12_row 58 = .ok (.iload_n 2, 1) := by decide +kernel
theorem dX12_row_59 : decode cX12_row 59 = .ok (.ireturn, 1) := by decide +kernel
theorem dX12_lay_0 : decode cX12_lay 0 = .ok (.iload_n 1, 1) := by decide +kernel
theorem dX12_lay_1 : decode cX12_lay 1 = .ok (.invokestatic 96, 3) := by decide +kernel
theorem dX12_lay_4 : decode cX12_lay 4 = .ok (.ifCond .ne 5, 3) := by decide +kernel
theorem dX12_lay_7 : decode cX12_lay 7 = .ok (.iconst (-1), 1) := by decide +kernel
theorem dX12_lay_8 : decode cX12_lay 8 = .ok (.ireturn, 1) := by decide +kernel
theorem dX12_lay_9 : decode cX12_lay 9 = .ok (.aload_n 0, 1) := by decide +kernel
theorem dX12_lay_10 : decode cX12_lay 10 = .ok (.getfield 13, 3) := by decide +kernel
theorem dX12_lay_13 : decode cX12_lay 13 = .ok (.iload_n 1, 1) := by decide +kernel
theorem dX12_lay_14 : decode cX12_lay 14 = .ok (.iaload, 1) := by decide +kernel
theorem dX12_lay_15 : decode cX12_lay 15 = .ok (.ifCond .ge 9, 3) := by decide +kernel
theorem dX12_lay_18 : decode cX12_lay 18 = .ok (.aload_n 0, 1) := by decide +kernel
theorem dX12_lay_19 : decode cX12_lay 19 = .ok (.iconst 1, 1) := by decide +kernel
theorem dX12_lay_20 : decode cX12_lay 20 = .ok (.invokevirtual 100, 3) := by decide +kernel
theorem dX12_lay_23 : decode cX12_lay 23 = .ok (.ireturn, 1) := by decide +kernel
theorem dX12_lay_24 : decode cX12_lay 24 = .ok (.iload_n 2, 1) := by decide +kernel
theorem dX12_lay_25 : decode cX12_lay 25 = .ok (.iconst 0, 1) := by decide +kernel
theorem dX12_lay_26 : decode cX12_lay 26 = .ok (.aload_n 0, 1) := by decide +kernel
theorem dX12_lay_27 : decode cX12_lay 27 = .ok (.getfield 13, 3) := by decide +kernel
theorem dX12_lay_30 : decode cX12_lay 30 = .ok (.iload_n 1, 1) := by decide +kernel
theorem dX12_lay_31 : decode cX12_lay 31 = .ok (.iaload, 1) := by decide +kernel
theorem dX12_lay_32 : decode cX12_lay 32 = .ok (.iconst 1, 1) := by decide +kernel
theorem dX12_lay_33 : decode cX12_lay 33 = .ok (.isub, 1) := by decide +kernel
theorem dX12_lay_34 : decode cX12_lay 34 = .ok (.invokestatic 86, 3) := by decide +kernel
theorem dX12_lay_37 : decode cX12_lay 37 = .ok (.ifCond .ne 9, 3) := by decide +kernel
theorem dX12_lay_40 : decode cX12_lay 40 = .ok (.aload_n 0, 1) := by decide +kernel
theorem dX12_lay_41 : decode cX12_lay 41 = .ok (.iconst 2, 1) := by decide +kernel
theorem dX12_lay_42 : decode cX12_lay 42 = .ok (.invokevirtual 100, 3) := by decide +kernel
theorem dX12_lay_45 : decode cX12_lay 45 = .ok (.ireturn, 1) := by decide +kernel
theorem dX12_lay_46 : decode cX12_lay 46 = .ok (.aload_n 0, 1) := by decide +kernel
theorem dX12_lay_47 : decode cX12_lay 47 = .ok (.iload_n 1, 1) := by decide +kernel
theorem dX12_lay_48 : decode cX12_lay 48 = .ok (.iload_n 2, 1) := by decide +kernel
theorem dX12_lay_49 : decode cX12_lay 49 = .ok (.invokevirtual 104, 3) := by decide +kernel
theorem dX12_lay_52 : decode cX12_lay 52 = .ok (.istore 4, 2) := by decide +kernel
theorem dX12_lay_54 : decode cX12_lay 54 = .ok (.aload_n 0, 1) := by decide +kernel
theorem dX12_lay_55 : decode cX12_lay 55 = .ok (.getfield 16, 3) := by decide +kernel
theorem dX12_lay_58 : decode cX12_lay 58 = .ok (.bipush 40, 2) := by decide +kernel
theorem dX12_lay_60 : decode cX12_lay 60 = .ok (.iload_n 1, 1) := by decide +kernel
theorem dX12_lay_61 : decode cX12_lay 61 = .ok (.imul, 1) := by decide +kernel
theorem dX12_lay_62 : decode cX12_lay 62 = .ok (.iload_n 2, 1) := by decide +kernel
theorem dX12_lay_63 : decode cX12_lay 63 = .ok (.iadd, 1) := by decide +kernel
theorem dX12_lay_64 : decode cX12_lay 64 = .ok (.iload_n 3, 1) := by decide +kernel
theorem dX12_lay_65 : decode cX12_lay 65 = .ok (.iastore, 1) := by decide +kernel
theorem dX12_lay_66 : decode cX12_lay 66 = .ok (.aload_n 0, 1) := by decide +kernel
theorem dX12_lay_67 : decode cX12_lay 67 = .ok (.iload 4, 2) := by decide +kernel
theorem dX12_lay_69 : decode cX12_lay 69 = .ok (.iconst 1, 1) := by decide +kernel
theorem dX12_lay_70 : decode cX12_lay 70 = .ok (.invokevirtual 108, 3) := by decide +kernel
theorem dX12_lay_73 : decode cX12_lay 73 = .ok (.ireturn, 1) := by decide +kernel
theorem dX12_at_0 : decode cX12_at 0 = .ok (.iload_n 1, 1) := by decide +kernel
theorem dX12_at_1 : decode cX12_at 1 = .ok (.invokestatic 96, 3) := by decide +kernel
theorem dX12_at_4 : decode cX12_at 4 = .ok (.ifCond .ne 5, 3) := by decide +kernel
theorem dX12_at_7 : decode cX12_at 7 = .ok (.iconst (-1), 1) := by decide +kernel
theorem dX12_at_8 : decode cX12_at 8 = .ok (.ireturn, 1) := by decide +kernel
theorem dX12_at_9 : decode cX12_at 9 = .ok (.aload_n 0, 1) := by decide +kernel
theorem dX12_at_10 : decode cX12_at 10 = .ok (.getfield 13, 3) := by decide +kernel
theorem dX12_at_13 : decode cX12_at 13 = .ok (.iload_n 1, 1) := by decide +kernel
theorem dX12_at_14 : decode cX12_at 14 = .ok (.iaload, 1) := by decide +kernel
theorem dX12_at_15 : decode cX12_at 15 = .ok (.ifCond .ge 9, 3) := by decide +kernel
theorem dX12_at_18 : decode cX12_at 18 = .ok (.aload_n 0, 1) := by decide +kernel
theorem dX12_at_19 : decode cX12_at 19 = .ok (.iconst 1, 1) := by decide +kernel
theorem dX12_at_20 : decode cX12_at 20 = .ok (.invokevirtual 100, 3) := by decide +kernel
theorem dX12_at_23 : decode cX12_at 23 = .ok (.ireturn, 1) := by decide +kernel
theorem dX12_at_24 : decode cX12_at 24 = .ok (.iload_n 2, 1) := by decide +kernel
theorem dX12_at_25 : decode cX12_at 25 = .ok (.iconst 0, 1) := by decide +kernel
theorem dX12_at_26 : decode cX12_at 26 = .ok (.aload_n 0, 1) := by decide +kernel
theorem dX12_at_27 : decode cX12_at 27 = .ok (.getfield 13, 3) := by decide +kernel
theorem dX12_at_30 : decode cX12_at 30 = .ok (.iload_n 1, 1) := by decide +kernel
theorem dX12_at_31 : decode cX12_at 31 = .ok (.iaload, 1) := by decide +kernel
theorem dX12_at_32 : decode cX12_at 32 = .ok (.iconst 1, 1) := by decide +kernel
theorem dX12_at_33 : decode cX12_at 33 = .ok (.isub, 1) := by decide +kernel
theorem dX12_at_34 : decode cX12_at 34 = .ok (.invokestatic 86, 3) := by decide +kernel
theorem dX12_at_37 : decode cX12_at 37 = .ok (.ifCond .eq 17, 3) := by decide +kernel
theorem dX12_at_40 : decode cX12_at 40 = .ok (.aload_n 0, 1) := by decide +kernel
theorem dX12_at_41 : decode cX12_at 41 = .ok (.aload_n 0, 1) := by decide +kernel
theorem dX12_at_42 : decode cX12_at 42 = .ok (.iload_n 1, 1) := by decide +kernel
theorem dX12_at_43 : decode cX12_at 43 = .ok (.iload_n 2, 1) := by decide +kernel
theorem dX12_at_44 : decode cX12_at 44 = .ok (.invokevirtual 104, 3) := by decide +kernel
theorem dX12_at_47 : decode cX12_at 47 = .ok (.iconst 1, 1) := by decide +kernel
theorem dX12_at_48 : decode cX12_at 48 = .ok (.invokevirtual 108, 3) := by decide +kernel
theorem dX12_at_51 : decode cX12_at 51 = .ok (.goto 8, 3) := by decide +kernel
theorem dX12_at_54 : decode cX12_at 54 = .ok (.aload_n 0, 1) := by decide +kernel
theorem dX12_at_55 : decode cX12_at 55 = .ok (.iconst 2, 1) := by decide +kernel
theorem dX12_at_56 : decode cX12_at 56 = .ok (.invokevirtual 100, 3) := by decide +kernel
theorem dX12_at_59 : decode cX12_at 59 = .ok (.ireturn, 1) := by decide +kernel
theorem dX12_tear_0 : decode cX12_tear 0 = .ok (.iload_n 1, 1) := by decide +kernel
theorem dX12_tear_1 : decode cX12_tear 1 = .ok (.invokestatic 96, 3) := by decide +kernel
theorem dX12_tear_4 : decode cX12_tear 4 = .ok (.ifCond .ne 5, 3) := by decide +kernel
theorem dX12_tear_7 : decode cX12_tear 7 = .ok (.iconst (-1), 1) := by decide +kernel
theorem dX12_tear_8 : decode cX12_tear 8 = .ok (.ireturn, 1) := by decide +kernel
theorem dX12_tear_9 : decode cX12_tear 9 = .ok (.aload_n 0, 1) := by decide +kernel
theorem dX12_tear_10 : decode cX12_tear 10 = .ok (.getfield 13, 3) := by decide +kernel
theorem dX12_tear_13 : decode cX12_tear 13 = .ok (.iload_n 1, 1) := by decide +kernel
theorem dX12_tear_14 : decode cX12_tear 14 = .ok (.iaload, 1) := by decide +kernel
theorem dX12_tear_15 : decode cX12_tear 15 = .ok (.ifCond .ge 9, 3) := by decide +kernel
theorem dX12_tear_18 : decode cX12_tear 18 = .ok (.aload_n 0, 1) := by decide +kernel
theorem dX12_tear_19 : decode cX12_tear 19 = .ok (.iconst 1, 1) := by decide +kernel
theorem dX12_tear_20 : decode cX12_tear 20 = .ok (.invokevirtual 100, 3) := by decide +kernel
theorem dX12_tear_23 : decode cX12_tear 23 = .ok (.ireturn, 1) := by decide +kernel
theorem dX12_tear_24 : decode cX12_tear 24 = .ok (.aload_n 0, 1) := by decide +kernel
theorem dX12_tear_25 : decode cX12_tear 25 = .ok (.getfield 13, 3) := by decide +kernel
theorem dX12_tear_28 : decode cX12_tear 28 = .ok (.iload_n 1, 1) := by decide +kernel
theorem dX12_tear_29 : decode cX12_tear 29 = .ok (.iconst (-1), 1) := by decide +kernel
theorem dX12_tear_30 : decode cX12_tear 30 = .ok (.iastore, 1) := by decide +kernel
theorem dX12_tear_31 : decode cX12_tear 31 = .ok (.iconst 1, 1) := by decide +kernel
theorem dX12_tear_32 : decode cX12_tear 32 = .ok (.ireturn, 1) := by decide +kernel
theorem dX12_copy_0 : decode cX12_copy 0 = .ok (.iload_n 1, 1) := by decide +kernel
theorem dX12_copy_1 : decode cX12_copy 1 = .ok (.invokestatic 96, 3) := by decide +kernel
theorem dX12_copy_4 : decode cX12_copy 4 = .ok (.ifCond .eq 10, 3) := by decide +kernel
theorem dX12_copy_7 : decode cX12_copy 7 = .ok (.iload_n 3, 1) := by decide +kernel
theorem dX12_copy_8 : decode cX12_copy 8 = .ok (.invokestatic 96, 3) := by decide +kernel
theorem dX12_copy_11 : decode cX12_copy 11 = .ok (.ifCond .ne 5, 3) := by decide +kernel
theorem dX12_copy_14 : decode cX12_copy 14 = .ok (.iconst (-1), 1) := by decide +kernel
theorem dX12_copy_15 : decode cX12_copy 15 = .ok (.ireturn, 1) := by decide +kernel
theorem dX12_copy_16 : decode cX12_copy 16 = .ok (.iload 5, 2) := by decide +kernel
theorem dX12_copy_18 : decode cX12_copy 18 = .ok (.ifCond .ge 9, 3) := by decide +kernel
theorem dX12_copy_21 : decode cX12_copy 21 = .ok (.aload_n 0, 1) := by decide +kernel
theorem dX12_copy_22 : decode cX12_copy 22 = .ok (.iconst 5, 1) := by decide +kernel
theorem dX12_copy_23 : decode cX12_copy 23 = .ok (.invokevirtual 100, 3) := by decide +kernel
theorem dX12_copy_26 : decode cX12_copy 26 = .ok (.ireturn, 1) := by decide +kernel
theorem dX12_copy_27 : decode cX12_copy 27 = .ok (.aload_n 0, 1) := by decide +kernel
theorem dX12_copy_28 : decode cX12_copy 28 = .ok (.getfield 13, 3) := by decide +kernel
theorem dX12_copy_31 : decode cX12_copy 31 = .ok (.iload_n 1, 1) := by decide +kernel
theorem dX12_copy_32 : decode cX12_copy 32 = .ok (.iaload, 1) := by decide +kernel
theorem dX12_copy_33 : decode cX12_copy 33 = .ok (.ifCond .lt 12, 3) := by decide +kernel
theorem dX12_copy_36 : decode cX12_copy 36 = .ok (.aload_n 0, 1) := by decide +kernel
theorem dX12_copy_37 : decode cX12_copy 37 = .ok (.getfield 13, 3) := by decide +kernel
theorem dX12_copy_40 : decode cX12_copy 40 = .ok (.iload_n 3, 1) := by decide +kernel
theorem dX12_copy_41 : decode cX12_copy 41 = .ok (.iaload, 1) := by decide +kernel
theorem dX12_copy_42 : decode cX12_copy 42 = .ok (.ifCond .ge 9, 3) := by decide +kernel
theorem dX12_copy_45 : decode cX12_copy 45 = .ok (.aload_n 0, 1) := by decide +kernel
theorem dX12_copy_46 : decode cX12_copy 46 = .ok (.iconst 1, 1) := by decide +kernel
theorem dX12_copy_47 : decode cX12_copy 47 = .ok (.invokevirtual 100, 3) := by decide +kernel
theorem dX12_copy_50 : decode cX12_copy 50 = .ok (.ireturn, 1) := by decide +kernel
theorem dX12_copy_51 : decode cX12_copy 51 = .ok (.iload_n 2, 1) := by decide +kernel
theorem dX12_copy_52 : decode cX12_copy 52 = .ok (.ifCond .lt 43, 3) := by decide +kernel
