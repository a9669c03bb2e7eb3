theorem dX0_init_0 : decode cX0_init 0 = .ok (.aload_n 0, 1) := by decide +kernel
theorem dX0_init_1 : decode cX0_init 1 = .ok (.invokespecial 3, 3) := by decide +kernel
theorem dX0_init_4 : decode cX0_init 4 = .ok (.aload_n 0, 1) := by decide +kernel
theorem dX0_init_5 : decode cX0_init 5 = .ok (.new 9, 3) := by decide +kernel
theorem dX0_init_8 : decode cX0_init 8 = .ok (.dup, 1) := by decide +kernel
theorem dX0_init_9 : decode cX0_init 9 = .ok (.invokespecial 11, 3) := by decide +kernel
theorem dX0_init_12 : decode cX0_init 12 = .ok (.putfield 12, 3) := by decide +kernel
theorem dX0_init_15 : decode cX0_init 15 = .ok (.aload_n 0, 1) := by decide +kernel
theorem dX0_init_16 : decode cX0_init 16 = .ok (.bipush 11, 2) := by decide +kernel
theorem dX0_init_18 : decode cX0_init 18 = .ok (.anewarray 18, 3) := by decide +kernel
theorem dX0_init_21 : decode cX0_init 21 = .ok (.putfield 20, 3) := by decide +kernel
theorem dX0_init_24 : decode cX0_init 24 = .ok (.iconst 0, 1) := by decide +kernel
theorem dX0_init_25 : decode cX0_init 25 = .ok (.istore_n 1, 1) := by decide +kernel
theorem dX0_init_26 : decode cX0_init 26 = .ok (.iload_n 1, 1) := by decide +kernel
theorem dX0_init_27 : decode cX0_init 27 = .ok (.bipush 10, 2) := by decide +kernel
theorem dX0_init_29 : decode cX0_init 29 = .ok (.if_icmp .gt 22, 3) := by decide +kernel
theorem dX0_init_32 : decode cX0_init 32 = .ok (.aload_n 0, 1) := by decide +kernel
theorem dX0_init_33 : decode cX0_init 33 = .ok (.getfield 20, 3) := by decide +kernel
theorem dX0_init_36 : decode cX0_init 36 = .ok (.iload_n 1, 1) := by decide +kernel
theorem dX0_init_37 : decode cX0_init 37 = .ok (.new 18, 3) := by decide +kernel
theorem dX0_init_40 : decode cX0_init 40 = .ok (.dup, 1) := by decide +kernel
theorem dX0_init_41 : decode cX0_init 41 = .ok (.invokespecial 24, 3) := by decide +kernel
theorem dX0_init_44 : decode cX0_init 44 = .ok (.aastore, 1) := by decide +kernel
theorem dX0_init_45 : decode cX0_init 45 = .ok (.iinc 1 1, 3) := by decide +kernel
theorem dX0_init_48 : decode cX0_init 48 = .ok (.goto (-22), 3) := by decide +kernel
theorem dX0_init_51 : decode cX0_init 51 = .ok (.return_, 1) := by decide +kernel
theorem dX0_bake_0 : decode cX0_bake 0 = .ok (.aload_n 0, 1) := by decide +kernel
theorem dX0_bake_1 : decode cX0_bake 1 = .ok (.aload_n 1, 1) := by decide +kernel
theorem dX0_bake_2 : decode cX0_bake 2 = .ok (.aload_n 2, 1) := by decide +kernel
theorem dX0_bake_3 : decode cX0_bake 3 = .ok (.invokevirtual 25, 3) := by decide +kernel
theorem dX0_bake_6 : decode cX0_bake 6 = .ok (.istore_n 3, 1) := by decide +kernel
theorem dX0_bake_7 : decode cX0_bake 7 = .ok (.aload_n 0, 1) := by decide +kernel
theorem dX0_bake_8 : decode cX0_bake 8 = .ok (.getfield 12, 3) := by decide +kernel
theorem dX0_bake_11 : decode cX0_bake 11 = .ok (.aload_n 1, 1) := by decide +kernel
theorem dX0_bake_12 : decode cX0_bake 12 = .ok (.aload_n 2, 1) := by decide +kernel
theorem dX0_bake_13 : decode cX0_bake 13 = .ok (.invokevirtual 29, 3) := by decide +kernel
theorem dX0_bake_16 : decode cX0_bake 16 = .ok (.iload_n 3, 1) := by decide +kernel
theorem dX0_bake_17 : decode cX0_bake 17 = .ok (.ifCond .le 19, 3) := by decide +kernel
theorem dX0_bake_20 : decode cX0_bake 20 = .ok (.aload_n 0, 1) := by decide +kernel
theorem dX0_bake_21 : decode cX0_bake 21 = .ok (.getfield 12, 3) := by decide +kernel
theorem dX0_bake_24 : decode cX0_bake 24 = .ok (.getfield 33, 3) := by decide +kernel
theorem dX0_bake_27 : decode cX0_bake 27 = .ok (.aload_n 0, 1) := by decide +kernel
theorem dX0_bake_28 : decode cX0_bake 28 = .ok (.getfield 20, 3) := by decide +kernel
theorem dX0_bake_31 : decode cX0_bake 31 = .ok (.iload_n 3, 1) := by decide +kernel
theorem dX0_bake_32 : decode cX0_bake 32 = .ok (.aaload, 1) := by decide +kernel
theorem dX0_bake_33 : decode cX0_bake 33 = .ok (.invokevirtual 37, 3) := by decide +kernel
theorem dX0_bake_36 : decode cX0_bake 36 = .ok (.aload_n 0, 1) := by decide +kernel
theorem dX0_bake_37 : decode cX0_bake 37 = .ok (.iload_n 3, 1) := by decide +kernel
theorem dX0_bake_38 : decode cX0_bake 38 = .ok (.putfield 41, 3) := by decide +kernel
theorem dX0_bake_41 : decode cX0_bake 41 = .ok (.iload_n 3, 1) := by decide +kernel
theorem dX0_bake_42 : decode cX0_bake 42 = .ok (.istore 4, 2) := by decide +kernel
theorem dX0_bake_44 : decode cX0_bake 44 = .ok (.iload 4, 2) := by decide +kernel
theorem dX0_bake_46 : decode cX0_bake 46 = .ok (.aload_n 2, 1) := by decide +kernel
theorem dX0_bake_47 : decode cX0_bake 47 = .ok (.getfield 45, 3) := by decide +kernel
theorem dX0_bake_50 : decode cX0_bake 50 = .ok (.if_icmp .ge 37, 3) := by decide +kernel
theorem dX0_bake_53 : decode cX0_bake 53 = .ok (.aload_n 0, 1) := by decide +kernel
theorem dX0_bake_54 : decode cX0_bake 54 = .ok (.getfield 12, 3) := by decide +kernel
theorem dX0_bake_57 : decode cX0_bake 57 = .ok (.getfield 33, 3) := by decide +kernel
theorem dX0_bake_60 : decode cX0_bake 60 = .ok (.invokevirtual 50, 3) := by decide +kernel
theorem dX0_bake_63 : decode cX0_bake 63 = .ok (.ifCond .ne 24, 3) := by decide +kernel
theorem dX0_bake_66 : decode cX0_bake 66 = .ok (.aload_n 0, 1) := by decide +kernel
theorem dX0_bake_67 : decode cX0_bake 67 = .ok (.iload 4, 2) := by decide +kernel
theorem dX0_bake_69 : decode cX0_bake 69 = .ok (.invokevirtual 54, 3) := by decide +kernel
theorem dX0_bake_72 : decode cX0_bake 72 = .ok (.aload_n 0, 1) := by decide +kernel
theorem dX0_bake_73 : decode cX0_bake 73 = .ok (.getfield 12, 3) := by decide +kernel
theorem dX0_bake_76 : decode cX0_bake 76 = .ok (.iload 4, 2) := by decide +kernel
theorem dX0_bake_78 : decode cX0_bake 78 = .ok (.invokevirtual 58, 3) := by decide +kernel
theorem dX0_bake_81 : decode cX0_bake 81 = .ok (.iinc 4 1, 3) := by decide +kernel
theorem dX0_bake_84 : decode cX0_bake 84 = .ok (.goto (-40), 3) := by decide +kernel
theorem dX0_bake_87 : decode cX0_bake 87 = .ok (.aload_n 0, 1) := by decide +kernel
theorem dX0_bake_88 : decode cX0_bake 88 = .ok (.getfield 12, 3) := by decide +kernel
theorem dX0_bake_91 : decode cX0_bake 91 = .ok (.getfield 33, 3) := by decide +kernel
theorem dX0_bake_94 : decode cX0_bake 94 = .ok (.invokevirtual 50, 3) := by decide +kernel
theorem dX0_bake_97 : decode cX0_bake 97 = .ok (.ifCond .ne 11, 3) := by decide +kernel
theorem dX0_bake_100 : decode cX0_bake 100 = .ok (.aload_n 0, 1) := by decide +kernel
theorem dX0_bake_101 : decode cX0_bake 101 = .ok (.aload_n 2, 1) := by decide +kernel
theorem dX0_bake_102 : decode cX0_bake 102 = .ok (.getfield 45, 3) := by decide +kernel
theorem dX0_bake_105 : decode cX0_bake 105 = .ok (.invokevirtual 54, 3) := by decide +kernel
theorem dX0_bake_108 : decode cX0_bake 108 = .ok (.iconst 0, 1) := by decide +kernel
theorem dX0_bake_109 : decode cX0_bake 109 = .ok (.istore 4, 2) := by decide +kernel
theorem dX0_bake_111 : decode cX0_bake 111 = .ok (.iload 4, 2) := by decide +kernel
theorem dX0_bake_113 : decode cX0_bake 113 = .ok (.bipush 6, 2) := by decide +kernel
theorem dX0_bake_115 : decode cX0_bake 115 = .ok (.if_icmp .ge 31, 3) := by decide +kernel
theorem dX0_bake_118 : decode cX0_bake 118 = .ok (.aload_n 0, 1) := by decide +kernel
theorem dX0_bake_119 : decode cX0_bake 119 = .ok (.getfield 12, 3) := by decide +kernel
theorem dX0_bake_122 : decode cX0_bake 122 = .ok (.getfield 33, 3) := by decide +kernel
theorem dX0_bake_125 : decode cX0_bake 125 = .ok (.invokevirtual 50, 3) := by decide +kernel
theorem dX0_bake_128 : decode cX0_bake 128 = .ok (.ifCond .ne 18, 3) := by decide +kernel
theorem dX0_bake_131 : decode cX0_bake 131 = .ok (.aload_n 0, 1) := by decide +kernel
theorem dX0_bake_132 : decode cX0_bake 132 = .ok (.getfield 12, 3) := by decide +kernel
theorem dX0_bake_135 : decode cX0_bake 135 = .ok (.iconst 2, 1) := by decide +kernel
theorem dX0_bake_136 : decode cX0_bake 136 = .ok (.iconst 0, 1) := by decide +kernel
theorem dX0_bake_137 : decode cX0_bake 137 = .ok (.invokevirtual 61, 3) := by decide +kernel
theorem dX0_bake_140 : decode cX0_bake 140 = .ok (.iinc 4 1, 3) := by decide +kernel
theorem dX0_bake_143 : decode cX0_bake 143 = .ok (.goto (-32), 3) := by decide +kernel
theorem dX0_bake_146 : decode cX0_bake 146 = .ok (.aload_n 0, 1) := by decide +kernel
theorem dX0_bake_147 : decode cX0_bake 147 = .ok (.getfield 12, 3) := by decide +kernel
theorem dX0_bake_150 : decode cX0_bake 150 = .ok (.getfield 33, 3) := by decide +kernel
theorem dX0_bake_153 : decode cX0_bake 153 = .ok (.areturn, 1) := by decide +kernel
theorem dX0_rememberAhead_0 : decode cX0_rememberAhead 0 = .ok (.aload_n 0, 1) := by decide +kernel
theorem dX0_rememberAhead_1 : decode cX0_rememberAhead 1 = .ok (.getfield 20, 3) := by decide +kernel
theorem dX0_rememberAhead_4 : decode cX0_rememberAhead 4 = .ok (.iload_n 1, 1) := by decide +kernel
theorem dX0_rememberAhead_5 : decode cX0_rememberAhead 5 = .ok (.aaload, 1) := by decide +kernel
theorem dX0_rememberAhead_6 : decode cX0_rememberAhead 6 = .ok (.aload_n 0, 1) := by decide +kernel
theorem dX0_rememberAhead_7 : decode cX0_rememberAhead 7 = .ok (.getfield 12, 3) := by decide +kernel
theorem dX0_rememberAhead_10 : decode cX0_rememberAhead 10 = .ok (.getfield 33, 3) := by decide +kernel
theorem dX0_rememberAhead_13 : decode cX0_rememberAhead 13 = .ok (.invokevirtual 37, 3) := by decide +kernel
theorem dX0_rememberAhead_16 : decode cX0_rememberAhead 16 = .ok (.aload_n 0, 1) := by decide +kernel
theorem dX0_rememberAhead_17 : decode cX0_rememberAhead 17 = .ok (.iload_n 1, 1) := by decide +kernel
theorem dX0_rememberAhead_18 : decode cX0_rememberAhead 18 = .ok (.iconst 1, 1) := by decide +kernel
theorem dX0_rememberAhead_19 : decode cX0_rememberAhead 19 = .ok (.iadd, 1) := by decide +kernel
theorem dX0_rememberAhead_20 : decode cX0_rememberAhead 20 = .ok (.putfield 41, 3) := by decide +kernel
theorem dX0_rememberAhead_23 : decode cX0_rememberAhead 23 = .ok (.return_, 1) := by decide +kernel
theorem dX0_stepsKnown_0 : decode cX0_stepsKnown 0 = .ok (.aload_n 0, 1) := by decide +kernel
theorem dX0_stepsKnown_1 : decode cX0_stepsKnown 1 = .ok (.getfield 41, 3) := by decide +kernel
theorem dX0_stepsKnown_4 : decode cX0_stepsKnown 4 = .ok (.ifCond .eq 17, 3) := by decide +kernel
theorem dX0_stepsKnown_7 : decode cX0_stepsKnown 7 = .ok (.aload_n 0, 1) := by decide +kernel
theorem dX0_stepsKnown_8 : decode cX0_stepsKnown 8 = .ok (.getfield 12, 3) := by decide +kernel
theorem dX0_stepsKnown_11 : decode cX0_stepsKnown 11 = .ok (.getfield 65, 3) := by decide +kernel
theorem dX0_stepsKnown_14 : decode cX0_stepsKnown 14 = .ok (.aload_n 1, 1) := by decide +kernel
theorem dX0_stepsKnown_15 : decode cX0_stepsKnown 15 = .ok (.invokevirtual 69, 3) := by decide +kernel
theorem dX0_stepsKnown_18 : decode cX0_stepsKnown 18 = .ok (.ifCond .ne 5, 3) := by decide +kernel
theorem dX0_stepsKnown_21 : decode cX0_stepsKnown 21 = .ok (.iconst 0, 1) := by decide +kernel
theorem dX0_stepsKnown_22 : decode cX0_stepsKnown 22 = .ok (.ireturn, 1) := by decide +kernel
theorem dX0_stepsKnown_23 : decode cX0_stepsKnown 23 = .ok (.aload_n 0, 1) := by decide +kernel
theorem dX0_stepsKnown_24 : decode cX0_stepsKnown 24 = .ok (.getfield 41, 3) := by decide +kernel
theorem dX0_stepsKnown_27 : decode cX0_stepsKnown 27 = .ok (.iconst 1, 1) := by decide +kernel
theorem dX0_stepsKnown_28 : decode cX0_stepsKnown 28 = .ok (.isub, 1) := by decide +kernel
theorem dX0_stepsKnown_29 : decode cX0_stepsKnown 29 = .ok (.aload_n 0, 1) := by decide +kernel
theorem dX0_stepsKnown_30 : decode cX0_stepsKnown 30 = .ok (.getfield 12, 3) := by decide +kernel
theorem dX0_stepsKnown_33 : decode cX0_stepsKnown 33 = .ok (.getfield 75, 3) := by decide +kernel
theorem dX0_stepsKnown_36 : decode cX0_stepsKnown 36 = .ok (.aload_n 2, 1) := by decide +kernel
theorem dX0_stepsKnown_37 : decode cX0_stepsKnown 37 = .ok (.invokevirtual 79, 3) := by decide +kernel
theorem dX0_stepsKnown_40 : decode cX0_stepsKnown 40 = .ok (.invokestatic 83, 3) := by decide +kernel
theorem dX0_stepsKnown_43 : decode cX0_stepsKnown 43 = .ok (.ireturn, 1) := by decide +kernel
theorem dX0_restsOf_0 : decode cX0_restsOf 0 = .ok (.aload_n 0, 1) := by decide +kernel
theorem dX0_restsOf_1 : decode cX0_restsOf 1 = .ok (.iconst 0, 1) := by decide +kernel
theorem dX0_restsOf_2 : decode cX0_restsOf 2 = .ok (.putfield 41, 3) := by decide +kernel
theorem dX0_restsOf_5 : decode cX0_restsOf 5 = .ok (.aload_n 0, 1) := by decide +kernel
theorem dX0_restsOf_6 : decode cX0_restsOf 6 = .ok (.getfield 12, 3) := by decide +kernel
theorem dX0_restsOf_9 : decode cX0_restsOf 9 = .ok (.aload_n 1, 1) := by decide +kernel
theorem dX0_restsOf_10 : decode cX0_restsOf 10 = .ok (.invokevirtual 89, 3) := by decide +kernel
theorem dX0_restsOf_13 : decode cX0_restsOf 13 = .ok (.aload_n 0, 1) := by decide +kernel
theorem dX0_restsOf_14 : decode cX0_restsOf 14 = .ok (.getfield 12, 3) := by decide +kernel
theorem dX0_restsOf_17 : decode cX0_restsOf 17 = .ok (.getfield 33, 3) := by decide +kernel
theorem dX0_restsOf_20 : decode cX0_restsOf 20 = .ok (.getfield 92, 3) := by decide +kernel
theorem dX0_restsOf_23 : decode cX0_restsOf 23 = .ok (.istore_n 3, 1) := by decide +kernel
theorem dX0_restsOf_24 : decode cX0_restsOf 24 = .ok (.iconst 0, 1) := by decide +kernel
theorem dX0_restsOf_25 : decode cX0_restsOf 25 = .ok (.istore 4, 2) := by decide +kernel
theorem dX0_restsOf_27 : decode cX0_restsOf 27 = .ok (.iload 4, 2) := by decide +kernel
theorem dX0_restsOf_29 : decode cX0_restsOf 29 = .ok (.bipush 60, 2) := by decide +kernel
theorem dX0_restsOf_31 : decode cX0_restsOf 31 = .ok (.if_icmp .ge 35, 3) := by decide +kernel
theorem dX0_restsOf_34 : decode cX0_restsOf 34 = .ok (.aload_n 0, 1) := by decide +kernel
theorem dX0_restsOf_35 : decode cX0_restsOf 35 = .ok (.getfield 12, 3) := by decide +kernel
theorem dX0_restsOf_38 : decode cX0_restsOf 38 = .ok (.iload_n 2, 1) := by decide +kernel
theorem dX0_restsOf_39 : decode cX0_restsOf 39 = .ok (.iconst 0, 1) := by decide +kernel
theorem dX0_restsOf_40 : decode cX0_restsOf 40 = .ok (.invokevirtual 61, 3) := by decide +kernel
theorem dX0_restsOf_43 : decode cX0_restsOf 43 = .ok (.aload_n 0, 1) := by decide +kernel
theorem dX0_restsOf_44 : decode cX0_restsOf 44 = .ok (.getfield 12, 3) := by decide +kernel
theorem dX0_restsOf_47 : decode cX0_restsOf 47 = .ok (.getfield 33, 3) := by decide +kernel
theorem dX0_restsOf_50 : decode cX0_restsOf 50 = .ok (.getfield 92, 3) := by decide +kernel
theorem dX0_restsOf_53 : decode cX0_restsOf 53 = .ok (.iload_n 3, 1) := by decide +kernel
theorem dX0_restsOf_54 : decode cX0_restsOf 54 = .ok (.if_icmp .eq 6, 3) := by decide +kernel
theorem dX0_restsOf_57 : decode cX0_restsOf 57 = .ok (.iload 4, 2) := by decide +kernel
theorem dX0_restsOf_59 : decode cX0_restsOf 59 = .ok (.ireturn, 1) := by decide +kernel
theorem dX0_restsOf_60 : decode cX0_restsOf 60 = .ok (.iinc 4 1, 3) := by decide +kernel
theorem dX0_restsOf_63 : decode cX0_restsOf 63 = .ok (.goto (-36), 3) := by decide +kernel
theorem dX0_restsOf_66 : decode cX0_restsOf 66 = .ok (.bipush 60, 2) := by decide +kernel
theorem dX0_restsOf_68 : decode cX0_restsOf 68 = .ok (.ireturn, 1) := by decide +kernel
theorem dX1_init_0 : decode cX1_init 0 = .ok (.aload_n 0, 1) := by decide +kernel
theorem dX1_init_1 : decode cX1_init 1 = .ok (.invokespecial 3, 3) := by decide +kernel
theorem dX1_init_4 : decode cX1_init 4 = .ok (.aload_n 0, 1) := by decide +kernel
theorem dX1_init_5 : decode cX1_init 5 = .ok (.bipush 10, 2) := by decide +kernel
theorem dX1_init_7 : decode cX1_init 7 = .ok (.newarray .int, 2) := by decide +kernel
theorem dX1_init_9 : decode cX1_init 9 = .ok (.putfield 9, 3) := by decide +kernel
theorem dX1_init_12 : decode cX1_init 12 = .ok (.aload_n 0, 1) := by decide +kernel
theorem dX1_init_13 : decode cX1_init 13 = .ok (.bipush 10, 2) := by decide +kernel
theorem dX1_init_15 : decode cX1_init 15 = .ok (.newarray .int, 2) := by decide +kernel
theorem dX1_init_17 : decode cX1_init 17 = .ok (.putfield 15, 3) := by decide +kernel
theorem dX1_init_20 : decode cX1_init 20 = .ok (.aload_n 0, 1) := by decide +kernel
theorem dX1_init_21 : decode cX1_init 21 = .ok (.bipush 10, 2) := by decide +kernel
theorem dX1_init_23 : decode cX1_init 23 = .ok (.newarray .int, 2) := by decide +kernel
theorem dX1_init_25 : decode cX1_init 25 = .ok (.putfield 18, 3) := by decide +kernel
theorem dX1_init_28 : decode cX1_init 28 = .ok (.return_, 1) := by decide +kernel
theorem dX1_add_0 : decode cX1_add 0 = .ok (.aload_n 0, 1) := by decide +kernel
theorem dX1_add_1 : decode cX1_add 1 = .ok (.getfield 21, 3) := by decide +kernel
theorem dX1_add_4 : decode cX1_add 4 = .ok (.bipush 10, 2) := by decide +kernel
theorem dX1_add_6 : decode cX1_add 6 = .ok (.if_icmp .lt 5, 3) := by decide +kernel
theorem dX1_add_9 : decode cX1_add 9 = .ok (.iconst 0, 1) := by decide +kernel
theorem dX1_add_10 : decode cX1_add 10 = .ok (.ireturn, 1) := by decide +kernel
theorem dX1_add_11 : decode cX1_add 11 = .ok (.aload_n 0, 1) := by decide +kernel
theorem dX1_add_12 : decode cX1_add 12 = .ok (.getfield 9, 3) := by decide +kernel
theorem dX1_add_15 : decode cX1_add 15 = .ok (.aload_n 0, 1) := by decide +kernel
theorem dX1_add_16 : decode cX1_add 16 = .ok (.getfield 21, 3) := by decide +kernel
theorem dX1_add_19 : decode cX1_add 19 = .ok (.iload_n 1, 1) := by decide +kernel
theorem dX1_add_20 : decode cX1_add 20 = .ok (.iastore, 1) := by decide +kernel
theorem dX1_add_21 : decode cX1_add 21 = .ok (.aload_n 0, 1) := by decide +kernel
theorem dX1_add_22 : decode cX1_add 22 = .ok (.getfield 15, 3) := by decide +kernel
theorem dX1_add_25 : decode cX1_add 25 = .ok (.aload_n 0, 1) := by decide +kernel
theorem dX1_add_26 : decode cX1_add 26 = .ok (.getfield 21, 3) := by decide +kernel
theorem dX1_add_29 : decode cX1_add 29 = .ok (.iload_n 2, 1) := by decide +kernel
theorem dX1_add_30 : decode cX1_add 30 = .ok (.iastore, 1) := by decide +kernel
theorem dX1_add_31 : decode cX1_add 31 = .ok (.aload_n 0, 1) := by decide +kernel
theorem dX1_add_32 : decode cX1_add 32 = .ok (.getfield 18, 3) := by decide +kernel
theorem dX1_add_35 : decode cX1_add 35 = .ok (.aload_n 0, 1) := by decide +kernel
theorem dX1_add_36 : decode cX1_add 36 = .ok (.getfield 21, 3) := by decide +kernel
theorem dX1_add_39 : decode cX1_add 39 = .ok (.iload_n 3, 1) := by decide +kernel
theorem dX1_add_40 : decode cX1_add 40 = .ok (.iastore, 1) := by decide +kernel
theorem dX1_add_41 : decode cX1_add 41 = .ok (.aload_n 0, 1) := by decide +kernel
theorem dX1_add_42 : decode cX1_add 42 = .ok (.dup, 1) := by decide +kernel
theorem dX1_add_43 : decode cX1_add 43 = .ok (.getfield 21, 3) := by decide +kernel
theorem dX1_add_46 : decode cX1_add 46 = .ok (.iconst 1, 1) := by decide +kernel
theorem dX1_add_47 : decode cX1_add 47 = .ok (.iadd, 1) := by decide +kernel
theorem dX1_add_48 : decode cX1_add 48 = .ok (.putfield 21, 3) := by decide +kernel
theorem dX1_add_51 : decode cX1_add 51 = .ok (.iconst 1, 1) := by decide +kernel
theorem dX1_add_52 : decode cX1_add 52 = .ok (.ireturn, 1) := by decide +kernel
theorem dX1_take_0 : decode cX1_take 0 = .ok (.aload_n 1, 1) := by decide +kernel
theorem dX1_take_1 : decode cX1_take 1 = .ok (.getfield 9, 3) := by decide +kernel
theorem dX1_take_4 : decode cX1_take 4 = .ok (.iconst 0, 1) := by decide +kernel
theorem dX1_take_5 : decode cX1_take 5 = .ok (.aload_n 0, 1) := by decide +kernel
theorem dX1_take_6 : decode cX1_take 6 = .ok (.getfield 9, 3) := by decide +kernel
theorem dX1_take_9 : decode cX1_take 9 = .ok (.iconst 0, 1) := by decide +kernel
theorem dX1_take_10 : decode cX1_take 10 = .ok (.aload_n 1, 1) := by decide +kernel
theorem dX1_take_11 : decode cX1_take 11 = .ok (.getfield 21, 3) := by decide +kernel
theorem dX1_take_14 : decode cX1_take 14 = .ok (.invokestatic 25, 3) := by decide +kernel
theorem dX1_take_17 : decode cX1_take 17 = .ok (.aload_n 1, 1) := by decide +kernel
theorem dX1_take_18 : decode cX1_take 18 = .ok (.getfield 15, 3) := by decide +kernel
theorem dX1_take_21 : decode cX1_take 21 = .ok (.iconst 0, 1) := by decide +kernel
theorem dX1_take_22 : decode cX1_take 22 = .ok (.aload_n 0, 1) := by decide +kernel
theorem dX1_take_23 : decode cX1_take 23 = .ok (.getfield 15, 3) := by decide +kernel
theorem dX1_take_26 : decode cX1_take 26 = .ok (.iconst 0, 1) := by decide +kernel
theorem dX1_take_27 : decode cX1_take 27 = .ok (.aload_n 1, 1) := by decide +kernel
theorem dX1_take_28 : decode cX1_take 28 = .ok (.getfield 21, 3) := by decide +kernel
theorem dX1_take_31 : decode cX1_take 31 = .ok (.invokestatic 25, 3) := by decide +kernel
theorem dX1_take_34 : decode cX1_take 34 = .ok (.aload_n 1, 1) := by decide +kernel
theorem dX1_take_35 : decode cX1_take 35 = .ok (.getfield 18, 3) := by decide +kernel
theorem dX1_take_38 : decode cX1_take 38 = .ok (.iconst 0, 1) := by decide +kernel
theorem dX1_take_39 : decode cX1_take 39 = .ok (.aload_n 0, 1) := by decide +kernel
theorem dX1_take_40 : decode cX1_take 40 = .ok (.getfield 18, 3) := by decide +kernel
theorem dX1_take_43 : decode cX1_take 43 = .ok (.iconst 0, 1) := by decide +kernel
theorem dX1_take_44 : decode cX1_take 44 = .ok (.aload_n 1, 1) := by decide +kernel
theorem dX1_take_45 : decode cX1_take 45 = .ok (.getfield 21, 3) := by decide +kernel
theorem dX1_take_48 : decode cX1_take 48 = .ok (.invokestatic 25, 3) := by decide +kernel
theorem dX1_take_51 : decode cX1_take 51 = .ok (.aload_n 0, 1) := by decide +kernel
theorem dX1_take_52 : decode cX1_take 52 = .ok (.aload_n 1, 1) := by decide +kernel
theorem dX1_take_53 : decode cX1_take 53 = .ok (.getfield 21, 3) := by decide +kernel
theorem dX1_take_56 : decode cX1_take 56 = .ok (.putfield 21, 3) := by decide +kernel
theorem dX1_take_59 : decode cX1_take 59 = .ok (.aload_n 0, 1) := by decide +kernel
theorem dX1_take_60 : decode cX1_take 60 = .ok (.aload_n 1, 1) := by decide +kernel
theorem dX1_take_61 : decode cX1_take 61 = .ok (.getfield 31, 3) := by decide +kernel
theorem dX1_take_64 : decode cX1_take 64 = .ok (.putfield 31, 3) := by decide +kernel
theorem dX1_take_67 : decode cX1_take 67 = .ok (.return_, 1) := by decide +kernel
theorem dX1_turnsInAll_0 : decode cX1_turnsInAll 0 = .ok (.iconst 0, 1) := by decide +kernel
theorem dX1_turnsInAll_1 : decode cX1_turnsInAll 1 = .ok (.istore_n 1, 1) := by decide +kernel
theorem dX1_turnsInAll_2 : decode cX1_turnsInAll 2 = .ok (.iconst 0, 1) := by decide +kernel
theorem dX1_turnsInAll_3 : decode cX1_turnsInAll 3 = .ok (.istore_n 2, 1) := by decide +kernel
theorem dX1_turnsInAll_4 : decode cX1_turnsInAll 4 = .ok (.iload_n 2, 1) := by decide +kernel
theorem dX1_turnsInAll_5 : decode cX1_turnsInAll 5 = .ok (.aload_n 0, 1) := by decide +kernel
theorem dX1_turnsInAll_6 : decode cX1_turnsInAll 6 = .ok (.getfield 21, 3) := by decide +kernel
theorem dX1_turnsInAll_9 : decode cX1_turnsInAll 9 = .ok (.if_icmp .ge 18, 3) := by decide +kernel
theorem dX1_turnsInAll_12 : decode cX1_turnsInAll 12 = .ok (.iload_n 1, 1) := by decide +kernel
theorem dX1_turnsInAll_13 : decode cX1_turnsInAll 13 = .ok (.aload_n 0, 1) := by decide +kernel
theorem dX1_turnsInAll_14 : decode cX1_turnsInAll 14 = .ok (.getfield 18, 3) := by decide +kernel
theorem dX1_turnsInAll_17 : decode cX1_turnsInAll 17 = .ok (.iload_n 2, 1) := by decide +kernel
theorem dX1_turnsInAll_18 : decode cX1_turnsInAll 18 = .ok (.iaload, 1) := by decide +kernel
theorem dX1_turnsInAll_19 : decode cX1_turnsInAll 19 = .ok (.iadd, 1) := by decide +kernel
theorem dX1_turnsInAll_20 : decode cX1_turnsInAll 20 = .ok (.istore_n 1, 1) := by decide +kernel
theorem dX1_turnsInAll_21 : decode cX1_turnsInAll 21 = .ok (.iinc 2 1, 3) := by decide +kernel
theorem dX1_turnsInAll_24 : decode cX1_turnsInAll 24 = .ok (.goto (-20), 3) := by decide +kernel
theorem dX1_turnsInAll_27 : decode cX1_turnsInAll 27 = .ok (.iload_n 1, 1) := by decide +kernel
theorem dX1_turnsInAll_28 : decode cX1_turnsInAll 28 = .ok (.ireturn, 1) := by decide +kernel
theorem dX1_warmthAndTurns_0 : decode cX1_warmthAndTurns 0 = .ok (.bipush 100, 2) := by decide +kernel
theorem dX1_warmthAndTurns_2 : decode cX1_warmthAndTurns 2 = .ok (.aload_n 0, 1) := by decide +kernel
theorem dX1_warmthAndTurns_3 : decode cX1_warmthAndTurns 3 = .ok (.getfield 15, 3) := by decide +kernel
theorem dX1_warmthAndTurns_6 : decode cX1_warmthAndTurns 6 = .ok (.iload_n 1, 1) := by decide +kernel
theorem dX1_warmthAndTurns_7 : decode cX1_warmthAndTurns 7 = .ok (.iaload, 1) := by decide +kernel
theorem dX1_warmthAndTurns_8 : decode cX1_warmthAndTurns 8 = .ok (.imul, 1) := by decide +kernel
theorem dX1_warmthAndTurns_9 : decode cX1_warmthAndTurns 9 = .ok (.aload_n 0, 1) := by decide +kernel
theorem dX1_warmthAndTurns_10 : decode cX1_warmthAndTurns 10 = .ok (.getfield 18, 3) := by decide +kernel
theorem dX1_warmthAndTurns_13 : decode cX1_warmthAndTurns 13 = .ok (.iload_n 1, 1) := by decide +kernel
theorem dX1_warmthAndTurns_14 : decode cX1_warmthAndTurns 14 = .ok (.iaload, 1) := by decide +kernel
theorem dX1_warmthAndTurns_15 : decode cX1_warmthAndTurns 15 = .ok (.iadd, 1) := by decide +kernel
theorem dX1_warmthAndTurns_16 : decode cX1_warmthAndTurns 16 = .ok (.ireturn, 1) := by decide +kernel
theorem dX1_lasts_0 : decode cX1_lasts 0 = .ok (.aload_n 0, 1) := by decide +kernel
theorem dX1_lasts_1 : decode cX1_lasts 1 = .ok (.getfield 9, 3) := by decide +kernel
theorem dX1_lasts_4 : decode cX1_lasts 4 = .ok (.iload_n 1, 1) := by decide +kernel
theorem dX1_lasts_5 : decode cX1_lasts 5 = .ok (.iaload, 1) := by decide +kernel
theorem dX1_lasts_6 : decode cX1_lasts 6 = .ok (.iconst 1, 1) := by decide +kernel
theorem dX1_lasts_7 : decode cX1_lasts 7 = .ok (.if_icmp .eq 13, 3) := by decide +kernel
theorem dX1_lasts_10 : decode cX1_lasts 10 = .ok (.aload_n 0, 1) := by decide +kernel
theorem dX1_lasts_11 : decode cX1_lasts 11 = .ok (.getfield 9, 3) := by decide +kernel
theorem dX1_lasts_14 : decode cX1_lasts 14 = .ok (.iload_n 1, 1) := by decide +kernel
theorem dX1_lasts_15 : decode cX1_lasts 15 = .ok (.iaload, 1) := by decide +kernel
theorem dX1_lasts_16 : decode cX1_lasts 16 = .ok (.iconst 2, 1) := by decide +kernel
theorem dX1_lasts_17 : decode cX1_lasts 17 = .ok (.if_icmp .ne 7, 3) := by decide +kernel
theorem dX1_lasts_20 : decode cX1_lasts 20 = .ok (.iconst 1, 1) := by decide +kernel
theorem dX1_lasts_21 : decode cX1_lasts 21 = .ok (.goto 4, 3) := by decide +kernel
theorem dX1_lasts_24 : decode cX1_lasts 24 = .ok (.iconst 0, 1) := by decide +kernel
theorem dX1_lasts_25 : decode cX1_lasts 25 = .ok (.ireturn, 1) := by decide +kernel
theorem dX1_mayLast_0 : decode cX1_mayLast 0 = .ok (.iload_n 2, 1) := by decide +kernel
theorem dX1_mayLast_1 : decode cX1_mayLast 1 = .ok (.iconst 1, 1) := by decide +kernel
theorem dX1_mayLast_2 : decode cX1_mayLast 2 = .ok (.if_icmp .lt 31, 3) := by decide +kernel
theorem dX1_mayLast_5 : decode cX1_mayLast 5 = .ok (.iload_n 2, 1) := by decide +kernel
theorem dX1_mayLast_6 : decode cX1_mayLast 6 = .ok (.bipush 30, 2) := by decide +kernel
theorem dX1_mayLast_8 : decode cX1_mayLast 8 = .ok (.if_icmp .gt 25, 3) := by decide +kernel
theorem dX1_mayLast_11 : decode cX1_mayLast 11 = .ok (.aload_n 0, 1) := by decide +kernel
theorem dX1_mayLast_12 : decode cX1_mayLast 12 = .ok (.invokevirtual 35, 3) := by decide +kernel
theorem dX1_mayLast_15 : decode cX1_mayLast 15 = .ok (.aload_n 0, 1) := by decide +kernel
theorem dX1_mayLast_16 : decode cX1_mayLast 16 = .ok (.getfield 18, 3) := by decide +kernel
theorem dX1_mayLast_19 : decode cX1_mayLast 19 = .ok (.iload_n 1, 1) := by decide +kernel
theorem dX1_mayLast_20 : decode cX1_mayLast 20 = .ok (.iaload, 1) := by decide +kernel
theorem dX1_mayLast_21 : decode cX1_mayLast 21 = .ok (.isub, 1) := by decide +kernel
theorem dX1_mayLast_22 : decode cX1_mayLast 22 = .ok (.iload_n 2, 1) := by decide +kernel
theorem dX1_mayLast_23 : decode cX1_mayLast 23 = .ok (.iadd, 1) := by decide +kernel
theorem dX1_mayLast_24 : decode cX1_mayLast 24 = .ok (.bipush 90, 2) := by decide +kernel
theorem dX1_mayLast_26 : decode cX1_mayLast 26 = .ok (.if_icmp .gt 7, 3) := by decide +kernel
theorem dX1_mayLast_29 : decode cX1_mayLast 29 = .ok (.iconst 1, 1) := by decide +kernel
theorem dX1_mayLast_30 : decode cX1_mayLast 30 = .ok (.goto 4, 3) := by decide +kernel
theorem dX1_mayLast_33 : decode cX1_mayLast 33 = .ok (.iconst 0, 1) := by decide +kernel
theorem dX1_mayLast_34 : decode cX1_mayLast 34 = .ok (.ireturn, 1) := by decide +kernel
theorem dX1_firstRest_0 : decode cX1_firstRest 0 = .ok (.iconst 0, 1) := by decide +kernel
theorem dX1_firstRest_1 : decode cX1_firstRest 1 = .ok (.istore_n 1, 1) := by decide +kernel
theorem dX1_firstRest_2 : decode cX1_firstRest 2 = .ok (.iload_n 1, 1) := by decide +kernel
theorem dX1_firstRest_3 : decode cX1_firstRest 3 = .ok (.aload_n 0, 1) := by decide +kernel
theorem dX1_firstRest_4 : decode cX1_firstRest 4 = .ok (.getfield 21, 3) := by decide +kernel
theorem dX1_firstRest_7 : decode cX1_firstRest 7 = .ok (.if_icmp .ge 21, 3) := by decide +kernel
theorem dX1_firstRest_10 : decode cX1_firstRest 10 = .ok (.aload_n 0, 1) := by decide +kernel
theorem dX1_firstRest_11 : decode cX1_firstRest 11 = .ok (.getfield 9, 3) := by decide +kernel
theorem dX1_firstRest_14 : decode cX1_firstRest 14 = .ok (.iload_n 1, 1) := by decide +kernel
theorem dX1_firstRest_15 : decode cX1_firstRest 15 = .ok (.iaload, 1) := by decide +kernel
theorem dX1_firstRest_16 : decode cX1_firstRest 16 = .ok (.iconst 1, 1) := by decide +kernel
theorem dX1_firstRest_17 : decode cX1_firstRest 17 = .ok (.if_icmp .ne 5, 3) := by decide +kernel
theorem dX1_firstRest_20 : decode cX1_firstRest 20 = .ok (.iload_n 1, 1) := by decide +kernel
theorem dX1_firstRest_21 : decode cX1_firstRest 21 = .ok (.ireturn, 1) := by decide +kernel
theorem dX1_firstRest_22 : decode cX1_firstRest 22 = .ok (.iinc 1 1, 3) := by decide +kernel
theorem dX1_firstRest_25 : decode cX1_firstRest 25 = .ok (.goto (-23), 3) := by decide +kernel
theorem dX1_firstRest_28 : decode cX1_firstRest 28 = .ok (.bipush (-9), 2) := by decide +kernel
theorem dX1_firstRest_30 : decode cX1_firstRest 30 = .ok (.ireturn, 1) := by decide +kernel
theorem dX1_lastOven_0 : decode cX1_lastOven 0 = .ok (.aload_n 0, 1) := by decide +kernel
theorem dX1_lastOven_1 : decode cX1_lastOven 1 = .ok (.getfield 21, 3) := by decide +kernel
theorem dX1_lastOven_4 : decode cX1_lastOven 4 = .ok (.iconst 1, 1) := by decide +kernel
theorem dX1_lastOven_5 : decode cX1_lastOven 5 = .ok (.isub, 1) := by decide +kernel
theorem dX1_lastOven_6 : decode cX1_lastOven 6 = .ok (.istore_n 1, 1) := by decide +kernel
theorem dX1_lastOven_7 : decode cX1_lastOven 7 = .ok (.iload_n 1, 1) := by decide +kernel
theorem dX1_lastOven_8 : decode cX1_lastOven 8 = .ok (.ifCond .lt 21, 3) := by decide +kernel
theorem dX1_lastOven_11 : decode cX1_lastOven 11 = .ok (.aload_n 0, 1) := by decide +kernel
theorem dX1_lastOven_12 : decode cX1_lastOven 12 = .ok (.getfield 9, 3) := by decide +kernel
theorem dX1_lastOven_15 : decode cX1_lastOven 15 = .ok (.iload_n 1, 1) := by decide +kernel
theorem dX1_lastOven_16 : decode cX1_lastOven 16 = .ok (.iaload, 1) := by decide +kernel
theorem dX1_lastOven_17 : decode cX1_lastOven 17 = .ok (.iconst 2, 1) := by decide +kernel
theorem dX1_lastOven_18 : decode cX1_lastOven 18 = .ok (.if_icmp .ne 5, 3) := by decide +kernel
theorem dX1_lastOven_21 : decode cX1_lastOven 21 = .ok (.iload_n 1, 1) := by decide +kernel
theorem dX1_lastOven_22 : decode cX1_lastOven 22 = .ok (.ireturn, 1) := by decide +kernel
theorem dX1_lastOven_23 : decode cX1_lastOven 23 = .ok (.iinc 1 (-1), 3) := by decide +kernel
theorem dX1_lastOven_26 : decode cX1_lastOven 26 = .ok (.goto (-19), 3) := by decide +kernel
theorem dX1_lastOven_29 : decode cX1_lastOven 29 = .ok (.bipush (-9), 2) := by decide +kernel
theorem dX1_lastOven_31 : decode cX1_lastOven 31 = .ok (.ireturn, 1) := by decide +kernel
theorem dX1_warmRests_0 : decode cX1_warmRests 0 = .ok (.iconst 0, 1) := by decide +kernel
theorem dX1_warmRests_1 : decode cX1_warmRests 1 = .ok (.istore_n 2, 1) := by decide +kernel
theorem dX1_warmRests_2 : decode cX1_warmRests 2 = .ok (.iload_n 2, 1) := by decide +kernel
theorem dX1_warmRests_3 : decode cX1_warmRests 3 = .ok (.aload_n 0, 1) := by decide +kernel
theorem dX1_warmRests_4 : decode cX1_warmRests 4 = .ok (.getfield 21, 3) := by decide +kernel
theorem dX1_warmRests_7 : decode cX1_warmRests 7 = .ok (.if_icmp .ge 26, 3) := by decide +kernel
theorem dX1_warmRests_10 : decode cX1_warmRests 10 = .ok (.aload_n 0, 1) := by decide +kernel
theorem dX1_warmRests_11 : decode cX1_warmRests 11 = .ok (.getfield 9, 3) := by decide +kernel
theorem dX1_warmRests_14 : decode cX1_warmRests 14 = .ok (.iload_n 2, 1) := by decide +kernel
theorem dX1_warmRests_15 : decode cX1_warmRests 15 = .ok (.iaload, 1) := by decide +kernel
theorem dX1_warmRests_16 : decode cX1_warmRests 16 = .ok (.iconst 1, 1) := by decide +kernel
theorem dX1_warmRests_17 : decode cX1_warmRests 17 = .ok (.if_icmp .ne 10, 3) := by decide +kernel
theorem dX1_warmRests_20 : decode cX1_warmRests 20 = .ok (.aload_n 0, 1) := by decide +kernel
theorem dX1_warmRests_21 : decode cX1_warmRests 21 = .ok (.getfield 15, 3) := by decide +kernel
theorem dX1_warmRests_24 : decode cX1_warmRests 24 = .ok (.iload_n 2, 1) := by decide +kernel
theorem dX1_warmRests_25 : decode cX1_warmRests 25 = .ok (.iload_n 1, 1) := by decide +kernel
theorem dX1_warmRests_26 : decode cX1_warmRests 26 = .ok (.iastore, 1) := by decide +kernel
theorem dX1_warmRests_27 : decode cX1_warmRests 27 = .ok (.iinc 2 1, 3) := by decide +kernel
theorem dX1_warmRests_30 : decode cX1_warmRests 30 = .ok (.goto (-28), 3) := by decide +kernel
theorem dX1_warmRests_33 : decode cX1_warmRests 33 = .ok (.return_, 1) := by decide +kernel
theorem dX1_shiftOvens_0 : decode cX1_shiftOvens 0 = .ok (.iconst 0, 1) := by decide +kernel
theorem dX1_shiftOvens_1 : decode cX1_shiftOvens 1 = .ok (.istore_n 2, 1) := by decide +kernel
theorem dX1_shiftOvens_2 : decode cX1_shiftOvens 2 = .ok (.iload_n 2, 1) := by decide +kernel
theorem dX1_shiftOvens_3 : decode cX1_shiftOvens 3 = .ok (.aload_n 0, 1) := by decide +kernel
theorem dX1_shiftOvens_4 : decode cX1_shiftOvens 4 = .ok (.getfield 21, 3) := by decide +kernel
theorem dX1_shiftOvens_7 : decode cX1_shiftOvens 7 = .ok (.if_icmp .ge 42, 3) := by decide +kernel
theorem dX1_shiftOvens_10 : decode cX1_shiftOvens 10 = .ok (.aload_n 0, 1) := by decide +kernel
theorem dX1_shiftOvens_11 : decode cX1_shiftOvens 11 = .ok (.getfield 9, 3) := by decide +kernel
theorem dX1_shiftOvens_14 : decode cX1_shiftOvens 14 = .ok (.iload_n 2, 1) := by decide +kernel
theorem dX1_shiftOvens_15 : decode cX1_shiftOvens 15 = .ok (.iaload, 1) := by decide +kernel
theorem dX1_shiftOvens_16 : decode cX1_shiftOvens 16 = .ok (.iconst 2, 1) := by decide +kernel
theorem dX1_shiftOvens_17 : decode cX1_shiftOvens 17 = .ok (.if_icmp .ne 26, 3) := by decide +kernel
theorem dX1_shiftOvens_20 : decode cX1_shiftOvens 20 = .ok (.aload_n 0, 1) := by decide +kernel
theorem dX1_shiftOvens_21 : decode cX1_shiftOvens 21 = .ok (.getfield 15, 3) := by decide +kernel
theorem dX1_shiftOvens_24 : decode cX1_shiftOvens 24 = .ok (.iload_n 2, 1) := by decide +kernel
theorem dX1_shiftOvens_25 : decode cX1_shiftOvens 25 = .ok (.iconst 0, 1) := by decide +kernel
theorem dX1_shiftOvens_26 : decode cX1_shiftOvens 26 = .ok (.bipush 9, 2) := by decide +kernel
theorem dX1_shiftOvens_28 : decode cX1_shiftOvens 28 = .ok (.aload_n 0, 1) := by decide +kernel
theorem dX1_shiftOvens_29 : decode cX1_shiftOvens 29 = .ok (.getfield 15, 3) := by decide +kernel
theorem dX1_shiftOvens_32 : decode cX1_shiftOvens 32 = .ok (.iload_n 2, 1) := by decide +kernel
theorem dX1_shiftOvens_33 : decode cX1_shiftOvens 33 = .ok (.iaload, 1) := by decide +kernel
theorem dX1_shiftOvens_34 : decode cX1_shiftOvens 34 = .ok (.iload_n 1, 1) := by decide +kernel
theorem dX1_shiftOvens_35 : decode cX1_shiftOvens 35 = .ok (.iadd, 1) := by decide +kernel
theorem dX1_shiftOvens_36 : decode cX1_shiftOvens 36 = .ok (.invokestatic 39, 3) := by decide +kernel
theorem dX1_shiftOvens_39 : decode cX1_shiftOvens 39 = .ok (.invokestatic 45, 3) := by decide +kernel
theorem dX1_shiftOvens_42 : decode cX1_shiftOvens 42 = .ok (.iastore, 1) := by decide +kernel
theorem dX1_shiftOvens_43 : decode cX1_shiftOvens 43 = .ok (.iinc 2 1, 3) := by decide +kernel
theorem dX1_shiftOvens_46 : decode cX1_shiftOvens 46 = .ok (.goto (-44), 3) := by decide +kernel
theorem dX1_shiftOvens_49 : decode cX1_shiftOvens 49 = .ok (.return_, 1) := by decide +kernel
theorem dX1_allows_0 : decode cX1_allows 0 = .ok (.iload_n 1, 1) := by decide +kernel
theorem dX1_allows_1 : decode cX1_allows 1 = .ok (.bipush 10, 2) := by decide +kernel
theorem dX1_allows_3 : decode cX1_allows 3 = .ok (.idiv, 1) := by decide +kernel
theorem dX1_allows_4 : decode cX1_allows 4 = .ok (.istore_n 2, 1) := by decide +kernel
theorem dX1_allows_5 : decode cX1_allows 5 = .ok (.iload_n 1, 1) := by decide +kernel
theorem dX1_allows_6 : decode cX1_allows 6 = .ok (.ifCond .lt 11, 3) := by decide +kernel
theorem dX1_allows_9 : decode cX1_allows 9 = .ok (.iload_n 2, 1) := by decide +kernel
theorem dX1_allows_10 : decode cX1_allows 10 = .ok (.aload_n 0, 1) := by decide +kernel
theorem dX1_allows_11 : decode cX1_allows 11 = .ok (.getfield 21, 3) := by decide +kernel
theorem dX1_allows_14 : decode cX1_allows 14 = .ok (.if_icmp .lt 5, 3) := by decide +kernel
theorem dX1_allows_17 : decode cX1_allows 17 = .ok (.iconst 0, 1) := by decide +kernel
theorem dX1_allows_18 : decode cX1_allows 18 = .ok (.ireturn, 1) := by decide +kernel
theorem dX1_allows_19 : decode cX1_allows 19 = .ok (.iload_n 1, 1) := by decide +kernel
theorem dX1_allows_20 : decode cX1_allows 20 = .ok (.bipush 10, 2) := by decide +kernel
theorem dX1_allows_22 : decode cX1_allows 22 = .ok (.irem, 1) := by decide +kernel
theorem dX1_allows_23 : decode cX1_allows 23 = .ok (.tableswitch 165 0 4 #[33, 58, 85, 117, 149], 33) := by decide +kernel
theorem dX1_allows_56 : decode cX1_allows 56 = .ok (.aload_n 0, 1) := by decide +kernel
theorem dX1_allows_57 : decode cX1_allows 57 = .ok (.iload_n 2, 1) := by decide +kernel
theorem dX1_allows_58 : decode cX1_allows 58 = .ok (.invokevirtual 48, 3) := by decide +kernel
theorem dX1_allows_61 : decode cX1_allows 61 = .ok (.ifCond .eq 16, 3) := by decide +kernel
theorem dX1_allows_64 : decode cX1_allows 64 = .ok (.aload_n 0, 1) := by decide +kernel
theorem dX1_allows_65 : decode cX1_allows 65 = .ok (.getfield 15, 3) := by decide +kernel
theorem dX1_allows_68 : decode cX1_allows 68 = .ok (.iload_n 2, 1) := by decide +kernel
theorem dX1_allows_69 : decode cX1_allows 69 = .ok (.iaload, 1) := by decide +kernel
theorem dX1_allows_70 : decode cX1_allows 70 = .ok (.ifCond .le 7, 3) := by decide +kernel
theorem dX1_allows_73 : decode cX1_allows 73 = .ok (.iconst 1, 1) := by decide +kernel
theorem dX1_allows_74 : decode cX1_allows 74 = .ok (.goto 115, 3) := by decide +kernel
theorem dX1_allows_77 : decode cX1_allows 77 = .ok (.iconst 0, 1) := by decide +kernel
theorem dX1_allows_78 : decode cX1_allows 78 = .ok (.goto 111, 3) := by decide +kernel
theorem dX1_allows_81 : decode cX1_allows 81 = .ok (.aload_n 0, 1) := by decide +kernel
theorem dX1_allows_82 : decode cX1_allows 82 = .ok (.iload_n 2, 1) := by decide +kernel
theorem dX1_allows_83 : decode cX1_allows 83 = .ok (.invokevirtual 48, 3) := by decide +kernel
theorem dX1_allows_86 : decode cX1_allows 86 = .ok (.ifCond .eq 18, 3) := by decide +kernel
theorem dX1_allows_89 : decode cX1_allows 89 = .ok (.aload_n 0, 1) := by decide +kernel
theorem dX1_allows_90 : decode cX1_allows 90 = .ok (.getfield 15, 3) := by decide +kernel
theorem dX1_allows_93 : decode cX1_allows 93 = .ok (.iload_n 2, 1) := by decide +kernel
theorem dX1_allows_94 : decode cX1_allows 94 = .ok (.iaload, 1) := by decide +kernel
theorem dX1_allows_95 : decode cX1_allows 95 = .ok (.bipush 9, 2) := by decide +kernel
theorem dX1_allows_97 : decode cX1_allows 97 = .ok (.if_icmp .ge 7, 3) := by decide +kernel
theorem dX1_allows_100 : decode cX1_allows 100 = .ok (.iconst 1, 1) := by decide +kernel
theorem dX1_allows_101 : decode cX1_allows 101 = .ok (.goto 88, 3) := by decide +kernel
theorem dX1_allows_104 : decode cX1_allows 104 = .ok (.iconst 0, 1) := by decide +kernel
theorem dX1_allows_105 : decode cX1_allows 105 = .ok (.goto 84, 3) := by decide +kernel
theorem dX1_allows_108 : decode cX1_allows 108 = .ok (.aload_n 0, 1) := by decide +kernel
theorem dX1_allows_109 : decode cX1_allows 109 = .ok (.iload_n 2, 1) := by decide +kernel
theorem dX1_allows_110 : decode cX1_allows 110 = .ok (.invokevirtual 48, 3) := by decide +kernel
theorem dX1_allows_113 : decode cX1_allows 113 = .ok (.ifCond .eq 23, 3) := by decide +kernel
theorem dX1_allows_116 : decode cX1_allows 116 = .ok (.aload_n 0, 1) := by decide +kernel
theorem dX1_allows_117 : decode cX1_allows 117 = .ok (.iload_n 2, 1) := by decide +kernel
theorem dX1_allows_118 : decode cX1_allows 118 = .ok (.aload_n 0, 1) := by decide +kernel
theorem dX1_allows_119 : decode cX1_allows 119 = .ok (.getfield 18, 3) := by decide +kernel
theorem dX1_allows_122 : decode cX1_allows 122 = .ok (.iload_n 2, 1) := by decide +kernel
theorem dX1_allows_123 : decode cX1_allows 123 = .ok (.iaload, 1) := by decide +kernel
theorem dX1_allows_124 : decode cX1_allows 124 = .ok (.iconst 1, 1) := by decide +kernel
theorem dX1_allows_125 : decode cX1_allows 125 = .ok (.isub, 1) := by decide +kernel
theorem dX1_allows_126 : decode cX1_allows 126 = .ok (.invokevirtual 52, 3) := by decide +kernel
theorem dX1_allows_129 : decode cX1_allows 129 = .ok (.ifCond .eq 7, 3) := by decide +kernel
theorem dX1_allows_132 : decode cX1_allows 132 = .ok (.iconst 1, 1) := by decide +kernel
theorem dX1_allows_133 : decode cX1_allows 133 = .ok (.goto 56, 3) := by decide +kernel
theorem dX1_allows_136 : decode cX1_allows 136 = .ok (.iconst 0, 1) := by decide +kernel
theorem dX1_allows_137 : decode cX1_allows 137 = .ok (.goto 52, 3) := by decide +kernel
theorem dX1_allows_140 : decode cX1_allows 140 = .ok (.aload_n 0, 1) := by decide +kernel
theorem dX1_allows_141 : decode cX1_allows 141 = .ok (.iload_n 2, 1) := by decide +kernel
theorem dX1_allows_142 : decode cX1_allows 142 = .ok (.invokevirtual 48, 3) := by decide +kernel
theorem dX1_allows_145 : decode cX1_allows 145 = .ok (.ifCond .eq 23, 3) := by decide +kernel
theorem dX1_allows_148 : decode cX1_allows 148 = .ok (.aload_n 0, 1) := by decide +kernel
theorem dX1_allows_149 : decode cX1_allows 149 = .ok (.iload_n 2, 1) := by decide +kernel
theorem dX1_allows_150 : decode cX1_allows 150 = .ok (.aload_n 0, 1) := by decide +kernel
theorem dX1_allows_151 : decode cX1_allows 151 = .ok (.getfield 18, 3) := by decide +kernel
theorem dX1_allows_154 : decode cX1_allows 154 = .ok (.iload_n 2, 1) := by decide +kernel
theorem dX1_allows_155 : decode cX1_allows 155 = .ok (.iaload, 1) := by decide +kernel
theorem dX1_allows_156 : decode cX1_allows 156 = .ok (.iconst 1, 1) := by decide +kernel
theorem dX1_allows_157 : decode cX1_allows 157 = .ok (.iadd, 1) := by decide +kernel
theorem dX1_allows_158 : decode cX1_allows 158 = .ok (.invokevirtual 52, 3) := by decide +kernel
theorem dX1_allows_161 : decode cX1_allows 161 = .ok (.ifCond .eq 7, 3) := by decide +kernel
theorem dX1_allows_164 : decode cX1_allows 164 = .ok (.iconst 1, 1) := by decide +kernel
theorem dX1_allows_165 : decode cX1_allows 165 = .ok (.goto 24, 3) := by decide +kernel
theorem dX1_allows_168 : decode cX1_allows 168 = .ok (.iconst 0, 1) := by decide +kernel
theorem dX1_allows_169 : decode cX1_allows 169 = .ok (.goto 20, 3) := by decide +kernel
theorem dX1_allows_172 : decode cX1_allows 172 = .ok (.aload_n 0, 1) := by decide +kernel
theorem dX1_allows_173 : decode cX1_allows 173 = .ok (.iload_n 2, 1) := by decide +kernel
theorem dX1_allows_174 : decode cX1_allows 174 = .ok (.invokevirtual 48, 3) := by decide +kernel
theorem dX1_allows_177 : decode cX1_allows 177 = .ok (.ifCond .ne 7, 3) := by decide +kernel
theorem dX1_allows_180 : decode cX1_allows 180 = .ok (.iconst 1, 1) := by decide +kernel
theorem dX1_allows_181 : decode cX1_allows 181 = .ok (.goto 8, 3) := by decide +kernel
theorem dX1_allows_184 : decode cX1_allows 184 = .ok (.iconst 0, 1) := by decide +kernel
theorem dX1_allows_185 : decode cX1_allows 185 = .ok (.goto 4, 3) := by decide +kernel
theorem dX1_allows_188 : decode cX1_allows 188 = .ok (.iconst 0, 1) := by decide +kernel
theorem dX1_allows_189 : decode cX1_allows 189 = .ok (.ireturn, 1) := by decide +kernel
theorem dX1_changeBy_0 : decode cX1_changeBy 0 = .ok (.aload_n 0, 1) := by decide +kernel
theorem dX1_changeBy_1 : decode cX1_changeBy 1 = .ok (.iload_n 1, 1) := by decide +kernel
theorem dX1_changeBy_2 : decode cX1_changeBy 2 = .ok (.invokevirtual 56, 3) := by decide +kernel
theorem dX1_changeBy_5 : decode cX1_changeBy 5 = .ok (.ifCond .ne 4, 3) := by decide +kernel
theorem dX1_changeBy_8 : decode cX1_changeBy 8 = .ok (.return_, 1) := by decide +kernel
theorem dX1_changeBy_9 : decode cX1_changeBy 9 = .ok (.iload_n 1, 1) := by decide +kernel
theorem dX1_changeBy_10 : decode cX1_changeBy 10 = .ok (.bipush 10, 2) := by decide +kernel
theorem dX1_changeBy_12 : decode cX1_changeBy 12 = .ok (.idiv, 1) := by decide +kernel
theorem dX1_changeBy_13 : decode cX1_changeBy 13 = .ok (.istore_n 2, 1) := by decide +kernel
theorem dX1_changeBy_14 : decode cX1_changeBy 14 = .ok (.iload_n 1, 1) := by decide +kernel
theorem dX1_changeBy_15 : decode cX1_changeBy 15 = .ok (.bipush 10, 2) := by decide +kernel
theorem dX1_changeBy_17 : decode cX1_changeBy 17 = .ok (.irem, 1) := by decide +kernel
theorem dX1_changeBy_18 : decode cX1_changeBy 18 = .ok (.tableswitch 82 0 3 #[30, 43, 56, 69], 30) := by decide +kernel
theorem dX1_changeBy_48 : decode cX1_changeBy 48 = .ok (.aload_n 0, 1) := by decide +kernel
theorem dX1_changeBy_49 : decode cX1_changeBy 49 = .ok (.getfield 15, 3) := by decide +kernel
theorem dX1_changeBy_52 : decode cX1_changeBy 52 = .ok (.iload_n 2, 1) := by decide +kernel
theorem dX1_changeBy_53 : decode cX1_changeBy 53 = .ok (.dup2, 1) := by decide +kernel
theorem dX1_changeBy_54 : decode cX1_changeBy 54 = .ok (.iaload, 1) := by decide +kernel
theorem dX1_changeBy_55 : decode cX1_changeBy 55 = .ok (.iconst 1, 1) := by decide +kernel
theorem dX1_changeBy_56 : decode cX1_changeBy 56 = .ok (.isub, 1) := by decide +kernel
theorem dX1_changeBy_57 : decode cX1_changeBy 57 = .ok (.iastore, 1) := by decide +kernel
theorem dX1_changeBy_58 : decode cX1_changeBy 58 = .ok (.goto 47, 3) := by decide +kernel
theorem dX1_changeBy_61 : decode cX1_changeBy 61 = .ok (.aload_n 0, 1) := by decide +kernel
theorem dX1_changeBy_62 : decode cX1_changeBy 62 = .ok (.getfield 15, 3) := by decide +kernel
theorem dX1_changeBy_65 : decode cX1_changeBy 65 = .ok (.iload_n 2, 1) := by decide +kernel
theorem dX1_changeBy_66 : decode cX1_changeBy 66 = .ok (.dup2, 1) := by decide +kernel
theorem dX1_changeBy_67 : decode cX1_changeBy 67 = .ok (.iaload, 1) := by decide +kernel
theorem dX1_changeBy_68 : decode cX1_changeBy 68 = .ok (.iconst 1, 1) := by decide +kernel
theorem dX1_changeBy_69 : decode cX1_changeBy 69 = .ok (.iadd, 1) := by decide +kernel
theorem dX1_changeBy_70 : decode cX1_changeBy 70 = .ok (.iastore, 1) := by decide +kernel
theorem dX1_changeBy_71 : decode cX1_changeBy 71 = .ok (.goto 34, 3) := by decide +kernel
theorem dX1_changeBy_74 : decode cX1_changeBy 74 = .ok (.aload_n 0, 1) := by decide +kernel
theorem dX1_changeBy_75 : decode cX1_changeBy 75 = .ok (.getfield 18, 3) := by decide +kernel
theorem dX1_changeBy_78 : decode cX1_changeBy 78 = .ok (.iload_n 2, 1) := by decide +kernel
theorem dX1_changeBy_79 : decode cX1_changeBy 79 = .ok (.dup2, 1) := by decide +kernel
theorem dX1_changeBy_80 : decode cX1_changeBy 80 = .ok (.iaload, 1) := by decide +kernel
theorem dX1_changeBy_81 : decode cX1_changeBy 81 = .ok (.iconst 1, 1) := by decide +kernel
theorem dX1_changeBy_82 : decode cX1_changeBy 82 = .ok (.isub, 1) := by decide +kernel
theorem dX1_changeBy_83 : decode cX1_changeBy 83 = .ok (.iastore, 1) := by decide +kernel
theorem dX1_changeBy_84 : decode cX1_changeBy 84 = .ok (.goto 21, 3) := by decide +kernel
theorem dX1_changeBy_87 : decode cX1_changeBy 87 = .ok (.aload_n 0, 1) := by decide +kernel
theorem dX1_changeBy_88 : decode cX1_changeBy 88 = .ok (.getfield 18, 3) := by decide +kernel
theorem dX1_changeBy_91 : decode cX1_changeBy 91 = .ok (.iload_n 2, 1) := by decide +kernel
theorem dX1_changeBy_92 : decode cX1_changeBy 92 = .ok (.dup2, 1) := by decide +kernel
theorem dX1_changeBy_93 : decode cX1_changeBy 93 = .ok (.iaload, 1) := by decide +kernel
theorem dX1_changeBy_94 : decode cX1_changeBy 94 = .ok (.iconst 1, 1) := by decide +kernel
theorem dX1_changeBy_95 : decode cX1_changeBy 95 = .ok (.iadd, 1) := by decide +kernel
theorem dX1_changeBy_96 : decode cX1_changeBy 96 = .ok (.iastore, 1) := by decide +kernel
theorem dX1_changeBy_97 : decode cX1_changeBy 97 = .ok (.goto 8, 3) := by decide +kernel
theorem dX1_changeBy_100 : decode cX1_changeBy 100 = .ok (.aload_n 0, 1) := by decide +kernel
theorem dX1_changeBy_101 : decode cX1_changeBy 101 = .ok (.iload_n 2, 1) := by decide +kernel
theorem dX1_changeBy_102 : decode cX1_changeBy 102 = .ok (.invokevirtual 59, 3) := by decide +kernel
theorem dX1_changeBy_105 : decode cX1_changeBy 105 = .ok (.return_, 1) := by decide +kernel
theorem dX1_leaveOut_0 : decode cX1_leaveOut 0 = .ok (.iload_n 1, 1) := by decide +kernel
theorem dX1_leaveOut_1 : decode cX1_leaveOut 1 = .ok (.istore_n 2, 1) := by decide +kernel
theorem dX1_leaveOut_2 : decode cX1_leaveOut 2 = .ok (.iload_n 2, 1) := by decide +kernel
theorem dX1_leaveOut_3 : decode cX1_leaveOut 3 = .ok (.aload_n 0, 1) := by decide +kernel
theorem dX1_leaveOut_4 : decode cX1_leaveOut 4 = .ok (.getfield 21, 3) := by decide +kernel
theorem dX1_leaveOut_7 : decode cX1_leaveOut 7 = .ok (.iconst 1, 1) := by decide +kernel
theorem dX1_leaveOut_8 : decode cX1_leaveOut 8 = .ok (.isub, 1) := by decide +kernel
theorem dX1_leaveOut_9 : decode cX1_leaveOut 9 = .ok (.if_icmp .ge 51, 3) := by decide +kernel
theorem dX1_leaveOut_12 : decode cX1_leaveOut 12 = .ok (.aload_n 0, 1) := by decide +kernel
theorem dX1_leaveOut_13 : decode cX1_leaveOut 13 = .ok (.getfield 9, 3) := by decide +kernel
theorem dX1_leaveOut_16 : decode cX1_leaveOut 16 = .ok (.iload_n 2, 1) := by decide +kernel
theorem dX1_leaveOut_17 : decode cX1_leaveOut 17 = .ok (.aload_n 0, 1) := by decide +kernel
theorem dX1_leaveOut_18 : decode cX1_leaveOut 18 = .ok (.getfield 9, 3) := by decide +kernel
theorem dX1_leaveOut_21 : decode cX1_leaveOut 21 = .ok (.iload_n 2, 1) := by decide +kernel
theorem dX1_leaveOut_22 : decode cX1_leaveOut 22 = .ok (.iconst 1, 1) := by decide +kernel
theorem dX1_leaveOut_23 : decode cX1_leaveOut 23 = .ok (.iadd, 1) := by decide +kernel
theorem dX1_leaveOut_24 : decode cX1_leaveOut 24 = .ok (.iaload, 1) := by decide +kernel
theorem dX1_leaveOut_25 : decode cX1_leaveOut 25 = .ok (.iastore, 1) := by decide +kernel
theorem dX1_leaveOut_26 : decode cX1_leaveOut 26 = .ok (.aload_n 0, 1) := by decide +kernel
theorem dX1_leaveOut_27 : decode cX1_leaveOut 27 = .ok (.getfield 15, 3) := by decide +kernel
theorem dX1_leaveOut_30 : decode cX1_leaveOut 30 = .ok (.iload_n 2, 1) := by decide +kernel
theorem dX1_leaveOut_31 : decode cX1_leaveOut 31 = .ok (.aload_n 0, 1) := by decide +kernel
theorem dX1_leaveOut_32 : decode cX1_leaveOut 32 = .ok (.getfield 15, 3) := by decide +kernel
theorem dX1_leaveOut_35 : decode cX1_leaveOut 35 = .ok (.iload_n 2, 1) := by decide +kernel
theorem dX1_leaveOut_36 : decode cX1_leaveOut 36 = .ok (.iconst 1, 1) := by decide +kernel
theorem dX1_leaveOut_37 : decode cX1_leaveOut 37 = .ok (.iadd, 1) := by decide +kernel
theorem dX1_leaveOut_38 : decode cX1_leaveOut 38 = .ok (.iaload, 1) := by decide +kernel
theorem dX1_leaveOut_39 : decode cX1_leaveOut 39 = .ok (.iastore, 1) := by decide +kernel
theorem dX1_leaveOut_40 : decode cX1_leaveOut 40 = .ok (.aload_n 0, 1) := by decide +kernel
theorem dX1_leaveOut_41 : decode cX1_leaveOut 41 = .ok (.getfield 18, 3) := by decide +kernel
theorem dX1_leaveOut_44 : decode cX1_leaveOut 44 = .ok (.iload_n 2, 1) := by decide +kernel
theorem dX1_leaveOut_45 : decode cX1_leaveOut 45 = .ok (.aload_n 0, 1) := by decide +kernel
theorem dX1_leaveOut_46 : decode cX1_leaveOut 46 = .ok (.getfield 18, 3) := by decide +kernel
theorem dX1_leaveOut_49 : decode cX1_leaveOut 49 = .ok (.iload_n 2, 1) := by decide +kernel
theorem dX1_leaveOut_50 : decode cX1_leaveOut 50 = .ok (.iconst 1, 1) := by decide +kernel
theorem dX1_leaveOut_51 : decode cX1_leaveOut 51 = .ok (.iadd, 1) := by decide +kernel
theorem dX1_leaveOut_52 : decode cX1_leaveOut 52 = .ok (.iaload, 1) := by decide +kernel
theorem dX1_leaveOut_53 : decode cX1_leaveOut 53 = .ok (.iastore, 1) := by decide +kernel
theorem dX1_leaveOut_54 : decode cX1_leaveOut 54 = .ok (.iinc 2 1, 3) := by decide +kernel
theorem dX1_leaveOut_57 : decode cX1_leaveOut 57 = .ok (.goto (-55), 3) := by decide +kernel
theorem dX1_leaveOut_60 : decode cX1_leaveOut 60 = .ok (.aload_n 0, 1) := by decide +kernel
theorem dX1_leaveOut_61 : decode cX1_leaveOut 61 = .ok (.dup, 1) := by decide +kernel
theorem dX1_leaveOut_62 : decode cX1_leaveOut 62 = .ok (.getfield 21, 3) := by decide +kernel
theorem dX1_leaveOut_65 : decode cX1_leaveOut 65 = .ok (.iconst 1, 1) := by decide +kernel
theorem dX1_leaveOut_66 : decode cX1_leaveOut 66 = .ok (.isub, 1) := by decide +kernel
theorem dX1_leaveOut_67 : decode cX1_leaveOut 67 = .ok (.putfield 21, 3) := by decide +kernel
theorem dX1_leaveOut_70 : decode cX1_leaveOut 70 = .ok (.return_, 1) := by decide +kernel
theorem dX1_sharedSteps_0 : decode cX1_sharedSteps 0 = .ok (.aload_n 0, 1) := by decide +kernel
theorem dX1_sharedSteps_1 : decode cX1_sharedSteps 1 = .ok (.getfield 21, 3) := by decide +kernel
theorem dX1_sharedSteps_4 : decode cX1_sharedSteps 4 = .ok (.aload_n 1, 1) := by decide +kernel
theorem dX1_sharedSteps_5 : decode cX1_sharedSteps 5 = .ok (.getfield 21, 3) := by decide +kernel
theorem dX1_sharedSteps_8 : decode cX1_sharedSteps 8 = .ok (.invokestatic 39, 3) := by decide +kernel
theorem dX1_sharedSteps_11 : decode cX1_sharedSteps 11 = .ok (.istore_n 2, 1) := by decide +kernel
theorem dX1_sharedSteps_12 : decode cX1_sharedSteps 12 = .ok (.iconst 0, 1) := by decide +kernel
theorem dX1_sharedSteps_13 : decode cX1_sharedSteps 13 = .ok (.istore_n 3, 1) := by decide +kernel
theorem dX1_sharedSteps_14 : decode cX1_sharedSteps 14 = .ok (.iload_n 3, 1) := by decide +kernel
theorem dX1_sharedSteps_15 : decode cX1_sharedSteps 15 = .ok (.iload_n 2, 1) := by decide +kernel
theorem dX1_sharedSteps_16 : decode cX1_sharedSteps 16 = .ok (.if_icmp .ge 56, 3) := by decide +kernel
theorem dX1_sharedSteps_19 : decode cX1_sharedSteps 19 = .ok (.aload_n 0, 1) := by decide +kernel
theorem dX1_sharedSteps_20 : decode cX1_sharedSteps 20 = .ok (.getfield 9, 3) := by decide +kernel
theorem dX1_sharedSteps_23 : decode cX1_sharedSteps 23 = .ok (.iload_n 3, 1) := by decide +kernel
theorem dX1_sharedSteps_24 : decode cX1_sharedSteps 24 = .ok (.iaload, 1) := by decide +kernel
theorem dX1_sharedSteps_25 : decode cX1_sharedSteps 25 = .ok (.aload_n 1, 1) := by decide +kernel
theorem dX1_sharedSteps_26 : decode cX1_sharedSteps 26 = .ok (.getfield 9, 3) := by decide +kernel
theorem dX1_sharedSteps_29 : decode cX1_sharedSteps 29 = .ok (.iload_n 3, 1) := by decide +kernel
theorem dX1_sharedSteps_30 : decode cX1_sharedSteps 30 = .ok (.iaload, 1) := by decide +kernel
theorem dX1_sharedSteps_31 : decode cX1_sharedSteps 31 = .ok (.if_icmp .ne 33, 3) := by decide +kernel
theorem dX1_sharedSteps_34 : decode cX1_sharedSteps 34 = .ok (.aload_n 0, 1) := by decide +kernel
theorem dX1_sharedSteps_35 : decode cX1_sharedSteps 35 = .ok (.getfield 15, 3) := by decide +kernel
theorem dX1_sharedSteps_38 : decode cX1_sharedSteps 38 = .ok (.iload_n 3, 1) := by decide +kernel
theorem dX1_sharedSteps_39 : decode cX1_sharedSteps 39 = .ok (.iaload, 1) := by decide +kernel
theorem dX1_sharedSteps_40 : decode cX1_sharedSteps 40 = .ok (.aload_n 1, 1) := by decide +kernel
theorem dX1_sharedSteps_41 : decode cX1_sharedSteps 41 = .ok (.getfield 15, 3) := by decide +kernel
theorem dX1_sharedSteps_44 : decode cX1_sharedSteps 44 = .ok (.iload_n 3, 1) := by decide +kernel
theorem dX1_sharedSteps_45 : decode cX1_sharedSteps 45 = .ok (.iaload, 1) := by decide +kernel
theorem dX1_sharedSteps_46 : decode cX1_sharedSteps 46 = .ok (.if_icmp .ne 18, 3) := by decide +kernel
theorem dX1_sharedSteps_49 : decode cX1_sharedSteps 49 = .ok (.aload_n 0, 1) := by decide +kernel
theorem dX1_sharedSteps_50 : decode cX1_sharedSteps 50 = .ok (.getfield 18, 3) := by decide +kernel
theorem dX1_sharedSteps_53 : decode cX1_sharedSteps 53 = .ok (.iload_n 3, 1) := by decide +kernel
theorem dX1_sharedSteps_54 : decode cX1_sharedSteps 54 = .ok (.iaload, 1) := by decide +kernel
theorem dX1_sharedSteps_55 : decode cX1_sharedSteps 55 = .ok (.aload_n 1, 1) := by decide +kernel
theorem dX1_sharedSteps_56 : decode cX1_sharedSteps 56 = .ok (.getfield 18, 3) := by decide +kernel
theorem dX1_sharedSteps_59 : decode cX1_sharedSteps 59 = .ok (.iload_n 3, 1) := by decide +kernel
theorem dX1_sharedSteps_60 : decode cX1_sharedSteps 60 = .ok (.iaload, 1) := by decide +kernel
theorem dX1_sharedSteps_61 : decode cX1_sharedSteps 61 = .ok (.if_icmp .eq 5, 3) := by decide +kernel
theorem dX1_sharedSteps_64 : decode cX1_sharedSteps 64 = .ok (.iload_n 3, 1) := by decide +kernel
theorem dX1_sharedSteps_65 : decode cX1_sharedSteps 65 = .ok (.ireturn, 1) := by decide +kernel
theorem dX1_sharedSteps_66 : decode cX1_sharedSteps 66 = .ok (.iinc 3 1, 3) := by decide +kernel
theorem dX1_sharedSteps_69 : decode cX1_sharedSteps 69 = .ok (.goto (-55), 3) := by decide +kernel
theorem dX1_sharedSteps_72 : decode cX1_sharedSteps 72 = .ok (.iload_n 2, 1) := by decide +kernel
theorem dX1_sharedSteps_73 : decode cX1_sharedSteps 73 = .ok (.ireturn, 1) := by decide +kernel
theorem dX2_init_0 : decode cX2_init 0 = .ok (.aload_n 0, 1) := by decide +kernel
theorem dX2_init_1 : decode cX2_init 1 = .ok (.invokespecial 3, 3) := by decide +kernel
theorem dX2_init_4 : decode cX2_init 4 = .ok (.aload_n 0, 1) := by decide +kernel
theorem dX2_init_5 : decode cX2_init 5 = .ok (.bipush 24, 2) := by decide +kernel
theorem dX2_init_7 : decode cX2_init 7 = .ok (.newarray .int, 2) := by decide +kernel
theorem dX2_init_9 : decode cX2_init 9 = .ok (.putfield 9, 3) := by decide +kernel
theorem dX2_init_12 : decode cX2_init 12 = .ok (.aload_n 0, 1) := by decide +kernel
theorem dX2_init_13 : decode cX2_init 13 = .ok (.bipush 24, 2) := by decide +kernel
theorem dX2_init_15 : decode cX2_init 15 = .ok (.newarray .int, 2) := by decide +kernel
theorem dX2_init_17 : decode cX2_init 17 = .ok (.putfield 15, 3) := by decide +kernel
theorem dX2_init_20 : decode cX2_init 20 = .ok (.aload_n 0, 1) := by decide +kernel
theorem dX2_init_21 : decode cX2_init 21 = .ok (.bipush 24, 2) := by decide +kernel
theorem dX2_init_23 : decode cX2_init 23 = .ok (.newarray .int, 2) := by decide +kernel
theorem dX2_init_25 : decode cX2_init 25 = .ok (.putfield 18, 3) := by decide +kernel
theorem dX2_init_28 : decode cX2_init 28 = .ok (.aload_n 0, 1) := by decide +kernel
theorem dX2_init_29 : decode cX2_init 29 = .ok (.bipush 24, 2) := by decide +kernel
theorem dX2_init_31 : decode cX2_init 31 = .ok (.newarray .int, 2) := by decide +kernel
theorem dX2_init_33 : decode cX2_init 33 = .ok (.putfield 21, 3) := by decide +kernel
theorem dX2_init_36 : decode cX2_init 36 = .ok (.aload_n 0, 1) := by decide +kernel
theorem dX2_init_37 : decode cX2_init 37 = .ok (.bipush 24, 2) := by decide +kernel
theorem dX2_init_39 : decode cX2_init 39 = .ok (.newarray .int, 2) := by decide +kernel
theorem dX2_init_41 : decode cX2_init 41 = .ok (.putfield 24, 3) := by decide +kernel
theorem dX2_init_44 : decode cX2_init 44 = .ok (.return_, 1) := by decide +kernel
theorem dX2_start_0 : decode cX2_start 0 = .ok (.iconst 0, 1) := by decide +kernel
theorem dX2_start_1 : decode cX2_start 1 = .ok (.istore_n 2, 1) := by decide +kernel
theorem dX2_start_2 : decode cX2_start 2 = .ok (.iload_n 2, 1) := by decide +kernel
theorem dX2_start_3 : decode cX2_start 3 = .ok (.bipush 24, 2) := by decide +kernel
theorem dX2_start_5 : decode cX2_start 5 = .ok (.if_icmp .ge 45, 3) := by decide +kernel
theorem dX2_start_8 : decode cX2_start 8 = .ok (.aload_n 0, 1) := by decide +kernel
theorem dX2_start_9 : decode cX2_start 9 = .ok (.getfield 9, 3) := by decide +kernel
theorem dX2_start_12 : decode cX2_start 12 = .ok (.iload_n 2, 1) := by decide +kernel
theorem dX2_start_13 : decode cX2_start 13 = .ok (.iconst 0, 1) := by decide +kernel
theorem dX2_start_14 : decode cX2_start 14 = .ok (.iastore, 1) := by decide +kernel
theorem dX2_start_15 : decode cX2_start 15 = .ok (.aload_n 0, 1) := by decide +kernel
theorem dX2_start_16 : decode cX2_start 16 = .ok (.getfield 15, 3) := by decide +kernel
theorem dX2_start_19 : decode cX2_start 19 = .ok (.iload_n 2, 1) := by decide +kernel
theorem dX2_start_20 : decode cX2_start 20 = .ok (.iload_n 1, 1) := by decide +kernel
theorem dX2_start_21 : decode cX2_start 21 = .ok (.iastore, 1) := by decide +kernel
theorem dX2_start_22 : decode cX2_start 22 = .ok (.aload_n 0, 1) := by decide +kernel
theorem dX2_start_23 : decode cX2_start 23 = .ok (.getfield 18, 3) := by decide +kernel
theorem dX2_start_26 : decode cX2_start 26 = .ok (.iload_n 2, 1) := by decide +kernel
theorem dX2_start_27 : decode cX2_start 27 = .ok (.bipush 20, 2) := by decide +kernel
theorem dX2_start_29 : decode cX2_start 29 = .ok (.iastore, 1) := by decide +kernel
theorem dX2_start_30 : decode cX2_start 30 = .ok (.aload_n 0, 1) := by decide +kernel
theorem dX2_start_31 : decode cX2_start 31 = .ok (.getfield 21, 3) := by decide +kernel
theorem dX2_start_34 : decode cX2_start 34 = .ok (.iload_n 2, 1) := by decide +kernel
theorem dX2_start_35 : decode cX2_start 35 = .ok (.iconst 0, 1) := by decide +kernel
theorem dX2_start_36 : decode cX2_start 36 = .ok (.iastore, 1) := by decide +kernel
theorem dX2_start_37 : decode cX2_start 37 = .ok (.aload_n 0, 1) := by decide +kernel
theorem dX2_start_38 : decode cX2_start 38 = .ok (.getfield 24, 3) := by decide +kernel
theorem dX2_start_41 : decode cX2_start 41 = .ok (.iload_n 2, 1) := by decide +kernel
theorem dX2_start_42 : decode cX2_start 42 = .ok (.iconst 0, 1) := by decide +kernel
theorem dX2_start_43 : decode cX2_start 43 = .ok (.iastore, 1) := by decide +kernel
theorem dX2_start_44 : decode cX2_start 44 = .ok (.iinc 2 1, 3) := by decide +kernel
theorem dX2_start_47 : decode cX2_start 47 = .ok (.goto (-45), 3) := by decide +kernel
theorem dX2_start_50 : decode cX2_start 50 = .ok (.aload_n 0, 1) := by decide +kernel
theorem dX2_start_51 : decode cX2_start 51 = .ok (.iconst 0, 1) := by decide +kernel
theorem dX2_start_52 : decode cX2_start 52 = .ok (.putfield 27, 3) := by decide +kernel
theorem dX2_start_55 : decode cX2_start 55 = .ok (.aload_n 0, 1) := by decide +kernel
theorem dX2_start_56 : decode cX2_start 56 = .ok (.iconst 0, 1) := by decide +kernel
theorem dX2_start_57 : decode cX2_start 57 = .ok (.putfield 31, 3) := by decide +kernel
theorem dX2_start_60 : decode cX2_start 60 = .ok (.aload_n 0, 1) := by decide +kernel
theorem dX2_start_61 : decode cX2_start 61 = .ok (.iconst 0, 1) := by decide +kernel
theorem dX2_start_62 : decode cX2_start 62 = .ok (.putfield 34, 3) := by decide +kernel
theorem dX2_start_65 : decode cX2_start 65 = .ok (.aload_n 0, 1) := by decide +kernel
theorem dX2_start_66 : decode cX2_start 66 = .ok (.iconst 0, 1) := by decide +kernel
theorem dX2_start_67 : decode cX2_start 67 = .ok (.putfield 37, 3) := by decide +kernel
theorem dX2_start_70 : decode cX2_start 70 = .ok (.aload_n 0, 1) := by decide +kernel
theorem dX2_start_71 : decode cX2_start 71 = .ok (.iconst 0, 1) := by decide +kernel
theorem dX2_start_72 : decode cX2_start 72 = .ok (.putfield 40, 3) := by decide +kernel
theorem dX2_start_75 : decode cX2_start 75 = .ok (.return_, 1) := by decide +kernel
theorem dX2_take_0 : decode cX2_take 0 = .ok (.aload_n 1, 1) := by decide +kernel
theorem dX2_take_1 : decode cX2_take 1 = .ok (.getfield 9, 3) := by decide +kernel
theorem dX2_take_4 : decode cX2_take 4 = .ok (.iconst 0, 1) := by decide +kernel
theorem dX2_take_5 : decode cX2_take 5 = .ok (.aload_n 0, 1) := by decide +kernel
theorem dX2_take_6 : decode cX2_take 6 = .ok (.getfield 9, 3) := by decide +kernel
theorem dX2_take_9 : decode cX2_take 9 = .ok (.iconst 0, 1) := by decide +kernel
theorem dX2_take_10 : decode cX2_take 10 = .ok (.bipush 24, 2) := by decide +kernel
theorem dX2_take_12 : decode cX2_take 12 = .ok (.invokestatic 44, 3) := by decide +kernel
theorem dX2_take_15 : decode cX2_take 15 = .ok (.aload_n 1, 1) := by decide +kernel
theorem dX2_take_16 : decode cX2_take 16 = .ok (.getfield 15, 3) := by decide +kernel
theorem dX2_take_19 : decode cX2_take 19 = .ok (.iconst 0, 1) := by decide +kernel
theorem dX2_take_20 : decode cX2_take 20 = .ok (.aload_n 0, 1) := by decide +kernel
theorem dX2_take_21 : decode cX2_take 21 = .ok (.getfield 15, 3) := by decide +kernel
theorem dX2_take_24 : decode cX2_take 24 = .ok (.iconst 0, 1) := by decide +kernel
theorem dX2_take_25 : decode cX2_take 25 = .ok (.bipush 24, 2) := by decide +kernel
theorem dX2_take_27 : decode cX2_take 27 = .ok (.invokestatic 44, 3) := by decide +kernel
theorem dX2_take_30 : decode cX2_take 30 = .ok (.aload_n 1, 1) := by decide +kernel
theorem dX2_take_31 : decode cX2_take 31 = .ok (.getfield 18, 3) := by decide +kernel
theorem dX2_take_34 : decode cX2_take 34 = .ok (.iconst 0, 1) := by decide +kernel
theorem dX2_take_35 : decode cX2_take 35 = .ok (.aload_n 0, 1) := by decide +kernel
theorem dX2_take_36 : decode cX2_take 36 = .ok (.getfield 18, 3) := by decide +kernel
theorem dX2_take_39 : decode cX2_take 39 = .ok (.iconst 0, 1) := by decide +kernel
theorem dX2_take_40 : decode cX2_take 40 = .ok (.bipush 24, 2) := by decide +kernel
theorem dX2_take_42 : decode cX2_take 42 = .ok (.invokestatic 44, 3) := by decide +kernel
theorem dX2_take_45 : decode cX2_take 45 = .ok (.aload_n 1, 1) := by decide +kernel
theorem dX2_take_46 : decode cX2_take 46 = .ok (.getfield 21, 3) := by decide +kernel
theorem dX2_take_49 : decode cX2_take 49 = .ok (.iconst 0, 1) := by decide +kernel
theorem dX2_take_50 : decode cX2_take 50 = .ok (.aload_n 0, 1) := by decide +kernel
theorem dX2_take_51 : decode cX2_take 51 = .ok (.getfield 21, 3) := by decide +kernel
theorem dX2_take_54 : decode cX2_take 54 = .ok (.iconst 0, 1) := by decide +kernel
theorem dX2_take_55 : decode cX2_take 55 = .ok (.bipush 24, 2) := by decide +kernel
theorem dX2_take_57 : decode cX2_take 57 = .ok (.invokestatic 44, 3) := by decide +kernel
theorem dX2_take_60 : decode cX2_take 60 = .ok (.aload_n 1, 1) := by decide +kernel
theorem dX2_take_61 : decode cX2_take 61 = .ok (.getfield 24, 3) := by decide +kernel
theorem dX2_take_64 : decode cX2_take 64 = .ok (.iconst 0, 1) := by decide +kernel
theorem dX2_take_65 : decode cX2_take 65 = .ok (.aload_n 0, 1) := by decide +kernel
theorem dX2_take_66 : decode cX2_take 66 = .ok (.getfield 24, 3) := by decide +kernel
theorem dX2_take_69 : decode cX2_take 69 = .ok (.iconst 0, 1) := by decide +kernel
theorem dX2_take_70 : decode cX2_take 70 = .ok (.bipush 24, 2) := by decide +kernel
theorem dX2_take_72 : decode cX2_take 72 = .ok (.invokestatic 44, 3) := by decide +kernel
theorem dX2_take_75 : decode cX2_take 75 = .ok (.aload_n 0, 1) := by decide +kernel
theorem dX2_take_76 : decode cX2_take 76 = .ok (.aload_n 1, 1) := by decide +kernel
theorem dX2_take_77 : decode cX2_take 77 = .ok (.getfield 27, 3) := by decide +kernel
theorem dX2_take_80 : decode cX2_take 80 = .ok (.putfield 27, 3) := by decide +kernel
theorem dX2_take_83 : decode cX2_take 83 = .ok (.aload_n 0, 1) := by decide +kernel
theorem dX2_take_84 : decode cX2_take 84 = .ok (.aload_n 1, 1) := by decide +kernel
theorem dX2_take_85 : decode cX2_take 85 = .ok (.getfield 31, 3) := by decide +kernel
theorem dX2_take_88 : decode cX2_take 88 = .ok (.putfield 31, 3) := by decide +kernel
theorem dX2_take_91 : decode cX2_take 91 = .ok (.aload_n 0, 1) := by decide +kernel
theorem dX2_take_92 : decode cX2_take 92 = .ok (.aload_n 1, 1) := by decide +kernel
theorem dX2_take_93 : decode cX2_take 93 = .ok (.getfield 34, 3) := by decide +kernel
theorem dX2_take_96 : decode cX2_take 96 = .ok (.putfield 34, 3) := by decide +kernel
theorem dX2_take_99 : decode cX2_take 99 = .ok (.aload_n 0, 1) := by decide +kernel
theorem dX2_take_100 : decode cX2_take 100 = .ok (.aload_n 1, 1) := by decide +kernel
theorem dX2_take_101 : decode cX2_take 101 = .ok (.getfield 37, 3) := by decide +kernel
theorem dX2_take_104 : decode cX2_take 104 = .ok (.putfield 37, 3) := by decide +kernel
theorem dX2_take_107 : decode cX2_take 107 = .ok (.aload_n 0, 1) := by decide +kernel
theorem dX2_take_108 : decode cX2_take 108 = .ok (.aload_n 1, 1) := by decide +kernel
theorem dX2_take_109 : decode cX2_take 109 = .ok (.getfield 40, 3) := by decide +kernel
theorem dX2_take_112 : decode cX2_take 112 = .ok (.putfield 40, 3) := by decide +kernel
theorem dX2_take_115 : decode cX2_take 115 = .ok (.return_, 1) := by decide +kernel
theorem dX2_isAllTorn_0 : decode cX2_isAllTorn 0 = .ok (.aload_n 0, 1) := by decide +kernel
theorem dX2_isAllTorn_1 : decode cX2_isAllTorn 1 = .ok (.getfield 27, 3) := by decide +kernel
theorem dX2_isAllTorn_4 : decode cX2_isAllTorn 4 = .ok (.bipush 24, 2) := by decide +kernel
theorem dX2_isAllTorn_6 : decode cX2_isAllTorn 6 = .ok (.if_icmp .lt 7, 3) := by decide +kernel
theorem dX2_isAllTorn_9 : decode cX2_isAllTorn 9 = .ok (.iconst 1, 1) := by decide +kernel
theorem dX2_isAllTorn_10 : decode cX2_isAllTorn 10 = .ok (.goto 4, 3) := by decide +kernel
theorem dX2_isAllTorn_13 : decode cX2_isAllTorn 13 = .ok (.iconst 0, 1) := by decide +kernel
theorem dX2_isAllTorn_14 : decode cX2_isAllTorn 14 = .ok (.ireturn, 1) := by decide +kernel
theorem dX2_factOf_0 : decode cX2_factOf 0 = .ok (.iload_n 2, 1) := by decide +kernel
theorem dX2_factOf_1 : decode cX2_factOf 1 = .ok (.tableswitch 67 0 3 #[31, 40, 49, 58], 31) := by decide +kernel
theorem dX2_factOf_32 : decode cX2_factOf 32 = .ok (.aload_n 0, 1) := by decide +kernel
theorem dX2_factOf_33 : decode cX2_factOf 33 = .ok (.getfield 9, 3) := by decide +kernel
theorem dX2_factOf_36 : decode cX2_factOf 36 = .ok (.iload_n 1, 1) := by decide +kernel
theorem dX2_factOf_37 : decode cX2_factOf 37 = .ok (.iaload, 1) := by decide +kernel
theorem dX2_factOf_38 : decode cX2_factOf 38 = .ok (.goto 36, 3) := by decide +kernel
theorem dX2_factOf_41 : decode cX2_factOf 41 = .ok (.aload_n 0, 1) := by decide +kernel
theorem dX2_factOf_42 : decode cX2_factOf 42 = .ok (.getfield 15, 3) := by decide +kernel
theorem dX2_factOf_45 : decode cX2_factOf 45 = .ok (.iload_n 1, 1) := by decide +kernel
theorem dX2_factOf_46 : decode cX2_factOf 46 = .ok (.iaload, 1) := by decide +kernel
theorem dX2_factOf_47 : decode cX2_factOf 47 = .ok (.goto 27, 3) := by decide +kernel
theorem dX2_factOf_50 : decode cX2_factOf 50 = .ok (.aload_n 0, 1) := by decide +kernel
theorem dX2_factOf_51 : decode cX2_factOf 51 = .ok (.getfield 18, 3) := by decide +kernel
theorem dX2_factOf_54 : decode cX2_factOf 54 = .ok (.iload_n 1, 1) := by decide +kernel
theorem dX2_factOf_55 : decode cX2_factOf 55 = .ok (.iaload, 1) := by decide +kernel
theorem dX2_factOf_56 : decode cX2_factOf 56 = .ok (.goto 18, 3) := by decide +kernel
theorem dX2_factOf_59 : decode cX2_factOf 59 = .ok (.aload_n 0, 1) := by decide +kernel
theorem dX2_factOf_60 : decode cX2_factOf 60 = .ok (.getfield 21, 3) := by decide +kernel
theorem dX2_factOf_63 : decode cX2_factOf 63 = .ok (.iload_n 1, 1) := by decide +kernel
theorem dX2_factOf_64 : decode cX2_factOf 64 = .ok (.iaload, 1) := by decide +kernel
theorem dX2_factOf_65 : decode cX2_factOf 65 = .ok (.goto 9, 3) := by decide +kernel
theorem dX2_factOf_68 : decode cX2_factOf 68 = .ok (.aload_n 0, 1) := by decide +kernel
theorem dX2_factOf_69 : decode cX2_factOf 69 = .ok (.getfield 24, 3) := by decide +kernel
theorem dX2_factOf_72 : decode cX2_factOf 72 = .ok (.iload_n 1, 1) := by decide +kernel
theorem dX2_factOf_73 : decode cX2_factOf 73 = .ok (.iaload, 1) := by decide +kernel
theorem dX2_factOf_74 : decode cX2_factOf 74 = .ok (.ireturn, 1) := by decide +kernel
theorem dX2_heightNow_0 : decode cX2_heightNow 0 = .ok (.iconst 0, 1) := by decide +kernel
theorem dX2_heightNow_1 : decode cX2_heightNow 1 = .ok (.istore_n 1, 1) := by decide +kernel
theorem dX2_heightNow_2 : decode cX2_heightNow 2 = .ok (.iconst 0, 1) := by decide +kernel
theorem dX2_heightNow_3 : decode cX2_heightNow 3 = .ok (.istore_n 2, 1) := by decide +kernel
theorem dX2_heightNow_4 : decode cX2_heightNow 4 = .ok (.iload_n 2, 1) := by decide +kernel
theorem dX2_heightNow_5 : decode cX2_heightNow 5 = .ok (.bipush 24, 2) := by decide +kernel
theorem dX2_heightNow_7 : decode cX2_heightNow 7 = .ok (.if_icmp .ge 51, 3) := by decide +kernel
theorem dX2_heightNow_10 : decode cX2_heightNow 10 = .ok (.iload_n 1, 1) := by decide +kernel
theorem dX2_heightNow_11 : decode cX2_heightNow 11 = .ok (.bipush 10, 2) := by decide +kernel
theorem dX2_heightNow_13 : decode cX2_heightNow 13 = .ok (.aload_n 0, 1) := by decide +kernel
theorem dX2_heightNow_14 : decode cX2_heightNow 14 = .ok (.getfield 9, 3) := by decide +kernel
theorem dX2_heightNow_17 : decode cX2_heightNow 17 = .ok (.iload_n 2, 1) := by decide +kernel
theorem dX2_heightNow_18 : decode cX2_heightNow 18 = .ok (.iaload, 1) := by decide +kernel
theorem dX2_heightNow_19 : decode cX2_heightNow 19 = .ok (.aload_n 0, 1) := by decide +kernel
theorem dX2_heightNow_20 : decode cX2_heightNow 20 = .ok (.getfield 9, 3) := by decide +kernel
theorem dX2_heightNow_23 : decode cX2_heightNow 23 = .ok (.iload_n 2, 1) := by decide +kernel
theorem dX2_heightNow_24 : decode cX2_heightNow 24 = .ok (.iconst 1, 1) := by decide +kernel
theorem dX2_heightNow_25 : decode cX2_heightNow 25 = .ok (.iadd, 1) := by decide +kernel
theorem dX2_heightNow_26 : decode cX2_heightNow 26 = .ok (.iaload, 1) := by decide +kernel
theorem dX2_heightNow_27 : decode cX2_heightNow 27 = .ok (.iadd, 1) := by decide +kernel
theorem dX2_heightNow_28 : decode cX2_heightNow 28 = .ok (.bipush 20, 2) := by decide +kernel
theorem dX2_heightNow_30 : decode cX2_heightNow 30 = .ok (.idiv, 1) := by decide +kernel
theorem dX2_heightNow_31 : decode cX2_heightNow 31 = .ok (.iadd, 1) := by decide +kernel
theorem dX2_heightNow_32 : decode cX2_heightNow 32 = .ok (.iconst 3, 1) := by decide +kernel
theorem dX2_heightNow_33 : decode cX2_heightNow 33 = .ok (.aload_n 0, 1) := by decide +kernel
theorem dX2_heightNow_34 : decode cX2_heightNow 34 = .ok (.getfield 24, 3) := by decide +kernel
theorem dX2_heightNow_37 : decode cX2_heightNow 37 = .ok (.iload_n 2, 1) := by decide +kernel
theorem dX2_heightNow_38 : decode cX2_heightNow 38 = .ok (.iaload, 1) := by decide +kernel
theorem dX2_heightNow_39 : decode cX2_heightNow 39 = .ok (.aload_n 0, 1) := by decide +kernel
theorem dX2_heightNow_40 : decode cX2_heightNow 40 = .ok (.getfield 24, 3) := by decide +kernel
theorem dX2_heightNow_43 : decode cX2_heightNow 43 = .ok (.iload_n 2, 1) := by decide +kernel
theorem dX2_heightNow_44 : decode cX2_heightNow 44 = .ok (.iconst 1, 1) := by decide +kernel
theorem dX2_heightNow_45 : decode cX2_heightNow 45 = .ok (.iadd, 1) := by decide +kernel
theorem dX2_heightNow_46 : decode cX2_heightNow 46 = .ok (.iaload, 1) := by decide +kernel
theorem dX2_heightNow_47 : decode cX2_heightNow 47 = .ok (.iadd, 1) := by decide +kernel
theorem dX2_heightNow_48 : decode cX2_heightNow 48 = .ok (.imul, 1) := by decide +kernel
theorem dX2_heightNow_49 : decode cX2_heightNow 49 = .ok (.isub, 1) := by decide +kernel
theorem dX2_heightNow_50 : decode cX2_heightNow 50 = .ok (.iadd, 1) := by decide +kernel
theorem dX2_heightNow_51 : decode cX2_heightNow 51 = .ok (.istore_n 1, 1) := by decide +kernel
theorem dX2_heightNow_52 : decode cX2_heightNow 52 = .ok (.iinc 2 2, 3) := by decide +kernel
theorem dX2_heightNow_55 : decode cX2_heightNow 55 = .ok (.goto (-51), 3) := by decide +kernel
theorem dX2_heightNow_58 : decode cX2_heightNow 58 = .ok (.iload_n 1, 1) := by decide +kernel
theorem dX2_heightNow_59 : decode cX2_heightNow 59 = .ok (.ireturn, 1) := by decide +kernel
theorem dX2_worthNow_0 : decode cX2_worthNow 0 = .ok (.iconst 0, 1) := by decide +kernel
theorem dX2_worthNow_1 : decode cX2_worthNow 1 = .ok (.istore_n 1, 1) := by decide +kernel
theorem dX2_worthNow_2 : decode cX2_worthNow 2 = .ok (.iconst 0, 1) := by decide +kernel
theorem dX2_worthNow_3 : decode cX2_worthNow 3 = .ok (.istore_n 2, 1) := by decide +kernel
theorem dX2_worthNow_4 : decode cX2_worthNow 4 = .ok (.iload_n 2, 1) := by decide +kernel
theorem dX2_worthNow_5 : decode cX2_worthNow 5 = .ok (.bipush 24, 2) := by decide +kernel
theorem dX2_worthNow_7 : decode cX2_worthNow 7 = .ok (.if_icmp .ge 37, 3) := by decide +kernel
theorem dX2_worthNow_10 : decode cX2_worthNow 10 = .ok (.iload_n 1, 1) := by decide +kernel
theorem dX2_worthNow_11 : decode cX2_worthNow 11 = .ok (.aload_n 0, 1) := by decide +kernel
theorem dX2_worthNow_12 : decode cX2_worthNow 12 = .ok (.getfield 24, 3) := by decide +kernel
theorem dX2_worthNow_15 : decode cX2_worthNow 15 = .ok (.iload_n 2, 1) := by decide +kernel
theorem dX2_worthNow_16 : decode cX2_worthNow 16 = .ok (.iaload, 1) := by decide +kernel
theorem dX2_worthNow_17 : decode cX2_worthNow 17 = .ok (.ifCond .ne 18, 3) := by decide +kernel
theorem dX2_worthNow_20 : decode cX2_worthNow 20 = .ok (.aload_n 0, 1) := by decide +kernel
theorem dX2_worthNow_21 : decode cX2_worthNow 21 = .ok (.getfield 21, 3) := by decide +kernel
theorem dX2_worthNow_24 : decode cX2_worthNow 24 = .ok (.iload_n 2, 1) := by decide +kernel
theorem dX2_worthNow_25 : decode cX2_worthNow 25 = .ok (.iaload, 1) := by decide +kernel
theorem dX2_worthNow_26 : decode cX2_worthNow 26 = .ok (.bipush 50, 2) := by decide +kernel
theorem dX2_worthNow_28 : decode cX2_worthNow 28 = .ok (.if_icmp .lt 7, 3) := by decide +kernel
theorem dX2_worthNow_31 : decode cX2_worthNow 31 = .ok (.iconst 1, 1) := by decide +kernel
theorem dX2_worthNow_32 : decode cX2_worthNow 32 = .ok (.goto 4, 3) := by decide +kernel
theorem dX2_worthNow_35 : decode cX2_worthNow 35 = .ok (.iconst 0, 1) := by decide +kernel
theorem dX2_worthNow_36 : decode cX2_worthNow 36 = .ok (.iadd, 1) := by decide +kernel
theorem dX2_worthNow_37 : decode cX2_worthNow 37 = .ok (.istore_n 1, 1) := by decide +kernel
theorem dX2_worthNow_38 : decode cX2_worthNow 38 = .ok (.iinc 2 1, 3) := by decide +kernel
theorem dX2_worthNow_41 : decode cX2_worthNow 41 = .ok (.goto (-37), 3) := by decide +kernel
theorem dX2_worthNow_44 : decode cX2_worthNow 44 = .ok (.iconst 0, 1) := by decide +kernel
theorem dX2_worthNow_45 : decode cX2_worthNow 45 = .ok (.aload_n 0, 1) := by decide +kernel
theorem dX2_worthNow_46 : decode cX2_worthNow 46 = .ok (.invokevirtual 50, 3) := by decide +kernel
theorem dX2_worthNow_49 : decode cX2_worthNow 49 = .ok (.iload_n 1, 1) := by decide +kernel
theorem dX2_worthNow_50 : decode cX2_worthNow 50 = .ok (.iadd, 1) := by decide +kernel
theorem dX2_worthNow_51 : decode cX2_worthNow 51 = .ok (.iconst 5, 1) := by decide +kernel
theorem dX2_worthNow_52 : decode cX2_worthNow 52 = .ok (.aload_n 0, 1) := by decide +kernel
theorem dX2_worthNow_53 : decode cX2_worthNow 53 = .ok (.getfield 27, 3) := by decide +kernel
theorem dX2_worthNow_56 : decode cX2_worthNow 56 = .ok (.imul, 1) := by decide +kernel
theorem dX2_worthNow_57 : decode cX2_worthNow 57 = .ok (.isub, 1) := by decide +kernel
theorem dX2_worthNow_58 : decode cX2_worthNow 58 = .ok (.invokestatic 54, 3) := by decide +kernel
theorem dX2_worthNow_61 : decode cX2_worthNow 61 = .ok (.ireturn, 1) := by decide +kernel
theorem dX2_lookOf_0 : decode cX2_lookOf 0 = .ok (.aload_n 0, 1) := by decide +kernel
theorem dX2_lookOf_1 : decode cX2_lookOf 1 = .ok (.getfield 24, 3) := by decide +kernel
theorem dX2_lookOf_4 : decode cX2_lookOf 4 = .ok (.iload_n 1, 1) := by decide +kernel
theorem dX2_lookOf_5 : decode cX2_lookOf 5 = .ok (.iaload, 1) := by decide +kernel
theorem dX2_lookOf_6 : decode cX2_lookOf 6 = .ok (.ifCond .eq 5, 3) := by decide +kernel
theorem dX2_lookOf_9 : decode cX2_lookOf 9 = .ok (.iconst 1, 1) := by decide +kernel
theorem dX2_lookOf_10 : decode cX2_lookOf 10 = .ok (.ireturn, 1) := by decide +kernel
theorem dX2_lookOf_11 : decode cX2_lookOf 11 = .ok (.aload_n 0, 1) := by decide +kernel
theorem dX2_lookOf_12 : decode cX2_lookOf 12 = .ok (.getfield 21, 3) := by decide +kernel
theorem dX2_lookOf_15 : decode cX2_lookOf 15 = .ok (.iload_n 1, 1) := by decide +kernel
theorem dX2_lookOf_16 : decode cX2_lookOf 16 = .ok (.iaload, 1) := by decide +kernel
theorem dX2_lookOf_17 : decode cX2_lookOf 17 = .ok (.bipush 50, 2) := by decide +kernel
theorem dX2_lookOf_19 : decode cX2_lookOf 19 = .ok (.if_icmp .ge 7, 3) := by decide +kernel
theorem dX2_lookOf_22 : decode cX2_lookOf 22 = .ok (.iconst 2, 1) := by decide +kernel
theorem dX2_lookOf_23 : decode cX2_lookOf 23 = .ok (.goto 4, 3) := by decide +kernel
theorem dX2_lookOf_26 : decode cX2_lookOf 26 = .ok (.iconst 0, 1) := by decide +kernel
theorem dX2_lookOf_27 : decode cX2_lookOf 27 = .ok (.ireturn, 1) := by decide +kernel
theorem dX2_spoiledCells_0 : decode cX2_spoiledCells 0 = .ok (.iconst 0, 1) := by decide +kernel
theorem dX2_spoiledCells_1 : decode cX2_spoiledCells 1 = .ok (.istore_n 1, 1) := by decide +kernel
theorem dX2_spoiledCells_2 : decode cX2_spoiledCells 2 = .ok (.iconst 0, 1) := by decide +kernel
theorem dX2_spoiledCells_3 : decode cX2_spoiledCells 3 = .ok (.istore_n 2, 1) := by decide +kernel
theorem dX2_spoiledCells_4 : decode cX2_spoiledCells 4 = .ok (.iload_n 2, 1) := by decide +kernel
theorem dX2_spoiledCells_5 : decode cX2_spoiledCells 5 = .ok (.bipush 24, 2) := by decide +kernel
theorem dX2_spoiledCells_7 : decode cX2_spoiledCells 7 = .ok (.if_icmp .ge 25, 3) := by decide +kernel
theorem dX2_spoiledCells_10 : decode cX2_spoiledCells 10 = .ok (.iload_n 1, 1) := by decide +kernel
theorem dX2_spoiledCells_11 : decode cX2_spoiledCells 11 = .ok (.aload_n 0, 1) := by decide +kernel
theorem dX2_spoiledCells_12 : decode cX2_spoiledCells 12 = .ok (.iload_n 2, 1) := by decide +kernel
theorem dX2_spoiledCells_13 : decode cX2_spoiledCells 13 = .ok (.invokevirtual 60, 3) := by decide +kernel
theorem dX2_spoiledCells_16 : decode cX2_spoiledCells 16 = .ok (.ifCond .eq 7, 3) := by decide +kernel
theorem dX2_spoiledCells_19 : decode cX2_spoiledCells 19 = .ok (.iconst 1, 1) := by decide +kernel
theorem dX2_spoiledCells_20 : decode cX2_spoiledCells 20 = .ok (.goto 4, 3) := by decide +kernel
theorem dX2_spoiledCells_23 : decode cX2_spoiledCells 23 = .ok (.iconst 0, 1) := by decide +kernel
theorem dX2_spoiledCells_24 : decode cX2_spoiledCells 24 = .ok (.iadd, 1) := by decide +kernel
theorem dX2_spoiledCells_25 : decode cX2_spoiledCells 25 = .ok (.istore_n 1, 1) := by decide +kernel
theorem dX2_spoiledCells_26 : decode cX2_spoiledCells 26 = .ok (.iinc 2 1, 3) := by decide +kernel
theorem dX2_spoiledCells_29 : decode cX2_spoiledCells 29 = .ok (.goto (-25), 3) := by decide +kernel
theorem dX2_spoiledCells_32 : decode cX2_spoiledCells 32 = .ok (.iload_n 1, 1) := by decide +kernel
theorem dX2_spoiledCells_33 : decode cX2_spoiledCells 33 = .ok (.ireturn, 1) := by decide +kernel
theorem dX2_unlikeTo_0 : decode cX2_unlikeTo 0 = .ok (.iconst 0, 1) := by decide +kernel
theorem dX2_unlikeTo_1 : decode cX2_unlikeTo 1 = .ok (.istore_n 2, 1) := by decide +kernel
theorem dX2_unlikeTo_2 : decode cX2_unlikeTo 2 = .ok (.iconst 0, 1) := by decide +kernel
theorem dX2_unlikeTo_3 : decode cX2_unlikeTo 3 = .ok (.istore_n 3, 1) := by decide +kernel
theorem dX2_unlikeTo_4 : decode cX2_unlikeTo 4 = .ok (.iload_n 3, 1) := by decide +kernel
theorem dX2_unlikeTo_5 : decode cX2_unlikeTo 5 = .ok (.bipush 24, 2) := by decide +kernel
theorem dX2_unlikeTo_7 : decode cX2_unlikeTo 7 = .ok (.if_icmp .ge 31, 3) := by decide +kernel
theorem dX2_unlikeTo_10 : decode cX2_unlikeTo 10 = .ok (.iload_n 2, 1) := by decide +kernel
theorem dX2_unlikeTo_11 : decode cX2_unlikeTo 11 = .ok (.aload_n 0, 1) := by decide +kernel
theorem dX2_unlikeTo_12 : decode cX2_unlikeTo 12 = .ok (.iload_n 3, 1) := by decide +kernel
theorem dX2_unlikeTo_13 : decode cX2_unlikeTo 13 = .ok (.invokevirtual 60, 3) := by decide +kernel
theorem dX2_unlikeTo_16 : decode cX2_unlikeTo 16 = .ok (.aload_n 1, 1) := by decide +kernel
theorem dX2_unlikeTo_17 : decode cX2_unlikeTo 17 = .ok (.getfield 64, 3) := by decide +kernel
theorem dX2_unlikeTo_20 : decode cX2_unlikeTo 20 = .ok (.iload_n 3, 1) := by decide +kernel
theorem dX2_unlikeTo_21 : decode cX2_unlikeTo 21 = .ok (.iaload, 1) := by decide +kernel
theorem dX2_unlikeTo_22 : decode cX2_unlikeTo 22 = .ok (.if_icmp .eq 7, 3) := by decide +kernel
theorem dX2_unlikeTo_25 : decode cX2_unlikeTo 25 = .ok (.iconst 1, 1) := by decide +kernel
theorem dX2_unlikeTo_26 : decode cX2_unlikeTo 26 = .ok (.goto 4, 3) := by decide +kernel
theorem dX2_unlikeTo_29 : decode cX2_unlikeTo 29 = .ok (.iconst 0, 1) := by decide +kernel
theorem dX2_unlikeTo_30 : decode cX2_unlikeTo 30 = .ok (.iadd, 1) := by decide +kernel
theorem dX2_unlikeTo_31 : decode cX2_unlikeTo 31 = .ok (.istore_n 2, 1) := by decide +kernel
theorem dX2_unlikeTo_32 : decode cX2_unlikeTo 32 = .ok (.iinc 3 1, 3) := by decide +kernel
theorem dX2_unlikeTo_35 : decode cX2_unlikeTo 35 = .ok (.goto (-31), 3) := by decide +kernel
theorem dX2_unlikeTo_38 : decode cX2_unlikeTo 38 = .ok (.iload_n 2, 1) := by decide +kernel
theorem dX2_unlikeTo_39 : decode cX2_unlikeTo 39 = .ok (.ireturn, 1) := by decide +kernel
theorem dX2_warmBy_0 : decode cX2_warmBy 0 = .ok (.aload_n 0, 1) := by decide +kernel
theorem dX2_warmBy_1 : decode cX2_warmBy 1 = .ok (.getfield 18, 3) := by decide +kernel
theorem dX2_warmBy_4 : decode cX2_warmBy 4 = .ok (.iconst 1, 1) := by decide +kernel
theorem dX2_warmBy_5 : decode cX2_warmBy 5 = .ok (.iaload, 1) := by decide +kernel
theorem dX2_warmBy_6 : decode cX2_warmBy 6 = .ok (.istore_n 2, 1) := by decide +kernel
theorem dX2_warmBy_7 : decode cX2_warmBy 7 = .ok (.iconst 0, 1) := by decide +kernel
theorem dX2_warmBy_8 : decode cX2_warmBy 8 = .ok (.istore_n 3, 1) := by decide +kernel
theorem dX2_warmBy_9 : decode cX2_warmBy 9 = .ok (.iload_n 3, 1) := by decide +kernel
theorem dX2_warmBy_10 : decode cX2_warmBy 10 = .ok (.bipush 24, 2) := by decide +kernel
theorem dX2_warmBy_12 : decode cX2_warmBy 12 = .ok (.if_icmp .ge 109, 3) := by decide +kernel
theorem dX2_warmBy_15 : decode cX2_warmBy 15 = .ok (.iload_n 3, 1) := by decide +kernel
theorem dX2_warmBy_16 : decode cX2_warmBy 16 = .ok (.iconst 1, 1) := by decide +kernel
theorem dX2_warmBy_17 : decode cX2_warmBy 17 = .ok (.iadd, 1) := by decide +kernel
theorem dX2_warmBy_18 : decode cX2_warmBy 18 = .ok (.istore 4, 2) := by decide +kernel
theorem dX2_warmBy_20 : decode cX2_warmBy 20 = .ok (.aload_n 0, 1) := by decide +kernel
theorem dX2_warmBy_21 : decode cX2_warmBy 21 = .ok (.getfield 18, 3) := by decide +kernel
theorem dX2_warmBy_24 : decode cX2_warmBy 24 = .ok (.iload 4, 2) := by decide +kernel
theorem dX2_warmBy_26 : decode cX2_warmBy 26 = .ok (.iaload, 1) := by decide +kernel
theorem dX2_warmBy_27 : decode cX2_warmBy 27 = .ok (.istore 5, 2) := by decide +kernel
theorem dX2_warmBy_29 : decode cX2_warmBy 29 = .ok (.iload_n 3, 1) := by decide +kernel
theorem dX2_warmBy_30 : decode cX2_warmBy 30 = .ok (.ifCond .eq 9, 3) := by decide +kernel
theorem dX2_warmBy_33 : decode cX2_warmBy 33 = .ok (.iload_n 3, 1) := by decide +kernel
theorem dX2_warmBy_34 : decode cX2_warmBy 34 = .ok (.bipush 22, 2) := by decide +kernel
theorem dX2_warmBy_36 : decode cX2_warmBy 36 = .ok (.if_icmp .ne 22, 3) := by decide +kernel
theorem dX2_warmBy_39 : decode cX2_warmBy 39 = .ok (.aload_n 0, 1) := by decide +kernel
theorem dX2_warmBy_40 : decode cX2_warmBy 40 = .ok (.getfield 18, 3) := by decide +kernel
theorem dX2_warmBy_43 : decode cX2_warmBy 43 = .ok (.iload 4, 2) := by decide +kernel
theorem dX2_warmBy_45 : decode cX2_warmBy 45 = .ok (.iload 5, 2) := by decide +kernel
theorem dX2_warmBy_47 : decode cX2_warmBy 47 = .ok (.iload_n 1, 1) := by decide +kernel
theorem dX2_warmBy_48 : decode cX2_warmBy 48 = .ok (.iload 5, 2) := by decide +kernel
theorem dX2_warmBy_50 : decode cX2_warmBy 50 = .ok (.isub, 1) := by decide +kernel
theorem dX2_warmBy_51 : decode cX2_warmBy 51 = .ok (.iconst 2, 1) := by decide +kernel
theorem dX2_warmBy_52 : decode cX2_warmBy 52 = .ok (.idiv, 1) := by decide +kernel
theorem dX2_warmBy_53 : decode cX2_warmBy 53 = .ok (.iadd, 1) := by decide +kernel
theorem dX2_warmBy_54 : decode cX2_warmBy 54 = .ok (.iastore, 1) := by decide +kernel
theorem dX2_warmBy_55 : decode cX2_warmBy 55 = .ok (.goto 38, 3) := by decide +kernel
theorem dX2_warmBy_58 : decode cX2_warmBy 58 = .ok (.aload_n 0, 1) := by decide +kernel
theorem dX2_warmBy_59 : decode cX2_warmBy 59 = .ok (.getfield 18, 3) := by decide +kernel
theorem dX2_warmBy_62 : decode cX2_warmBy 62 = .ok (.iload 4, 2) := by decide +kernel
theorem dX2_warmBy_64 : decode cX2_warmBy 64 = .ok (.iload 5, 2) := by decide +kernel
theorem dX2_warmBy_66 : decode cX2_warmBy 66 = .ok (.iload_n 2, 1) := by decide +kernel
theorem dX2_warmBy_67 : decode cX2_warmBy 67 = .ok (.aload_n 0, 1) := by decide +kernel
theorem dX2_warmBy_68 : decode cX2_warmBy 68 = .ok (.getfield 18, 3) := by decide +kernel
theorem dX2_warmBy_71 : decode cX2_warmBy 71 = .ok (.iload 4, 2) := by decide +kernel
theorem dX2_warmBy_73 : decode cX2_warmBy 73 = .ok (.iconst 2, 1) := by decide +kernel
theorem dX2_warmBy_74 : decode cX2_warmBy 74 = .ok (.iadd, 1) := by decide +kernel
theorem dX2_warmBy_75 : decode cX2_warmBy 75 = .ok (.iaload, 1) := by decide +kernel
theorem dX2_warmBy_76 : decode cX2_warmBy 76 = .ok (.iadd, 1) := by decide +kernel
theorem dX2_warmBy_77 : decode cX2_warmBy 77 = .ok (.aload_n 0, 1) := by decide +kernel
theorem dX2_warmBy_78 : decode cX2_warmBy 78 = .ok (.getfield 18, 3) := by decide +kernel
theorem dX2_warmBy_81 : decode cX2_warmBy 81 = .ok (.iload_n 3, 1) := by decide +kernel
theorem dX2_warmBy_82 : decode cX2_warmBy 82 = .ok (.iaload, 1) := by decide +kernel
theorem dX2_warmBy_83 : decode cX2_warmBy 83 = .ok (.iadd, 1) := by decide +kernel
theorem dX2_warmBy_84 : decode cX2_warmBy 84 = .ok (.iconst 3, 1) := by decide +kernel
theorem dX2_warmBy_85 : decode cX2_warmBy 85 = .ok (.iload 5, 2) := by decide +kernel
theorem dX2_warmBy_87 : decode cX2_warmBy 87 = .ok (.imul, 1) := by decide +kernel
theorem dX2_warmBy_88 : decode cX2_warmBy 88 = .ok (.isub, 1) := by decide +kernel
theorem dX2_warmBy_89 : decode cX2_warmBy 89 = .ok (.iconst 4, 1) := by decide +kernel
theorem dX2_warmBy_90 : decode cX2_warmBy 90 = .ok (.idiv, 1) := by decide +kernel
theorem dX2_warmBy_91 : decode cX2_warmBy 91 = .ok (.iadd, 1) := by decide +kernel
theorem dX2_warmBy_92 : decode cX2_warmBy 92 = .ok (.iastore, 1) := by decide +kernel
theorem dX2_warmBy_93 : decode cX2_warmBy 93 = .ok (.aload_n 0, 1) := by decide +kernel
theorem dX2_warmBy_94 : decode cX2_warmBy 94 = .ok (.getfield 18, 3) := by decide +kernel
theorem dX2_warmBy_97 : decode cX2_warmBy 97 = .ok (.iload_n 3, 1) := by decide +kernel
theorem dX2_warmBy_98 : decode cX2_warmBy 98 = .ok (.dup2, 1) := by decide +kernel
theorem dX2_warmBy_99 : decode cX2_warmBy 99 = .ok (.iaload, 1) := by decide +kernel
theorem dX2_warmBy_100 : decode cX2_warmBy 100 = .ok (.iload_n 1, 1) := by decide +kernel
theorem dX2_warmBy_101 : decode cX2_warmBy 101 = .ok (.aload_n 0, 1) := by decide +kernel
theorem dX2_warmBy_102 : decode cX2_warmBy 102 = .ok (.getfield 18, 3) := by decide +kernel
theorem dX2_warmBy_105 : decode cX2_warmBy 105 = .ok (.iload_n 3, 1) := by decide +kernel
theorem dX2_warmBy_106 : decode cX2_warmBy 106 = .ok (.iaload, 1) := by decide +kernel
theorem dX2_warmBy_107 : decode cX2_warmBy 107 = .ok (.isub, 1) := by decide +kernel
theorem dX2_warmBy_108 : decode cX2_warmBy 108 = .ok (.iconst 2, 1) := by decide +kernel
theorem dX2_warmBy_109 : decode cX2_warmBy 109 = .ok (.idiv, 1) := by decide +kernel
theorem dX2_warmBy_110 : decode cX2_warmBy 110 = .ok (.iadd, 1) := by decide +kernel
theorem dX2_warmBy_111 : decode cX2_warmBy 111 = .ok (.iastore, 1) := by decide +kernel
theorem dX2_warmBy_112 : decode cX2_warmBy 112 = .ok (.iload 5, 2) := by decide +kernel
theorem dX2_warmBy_114 : decode cX2_warmBy 114 = .ok (.istore_n 2, 1) := by decide +kernel
theorem dX2_warmBy_115 : decode cX2_warmBy 115 = .ok (.iinc 3 2, 3) := by decide +kernel
theorem dX2_warmBy_118 : decode cX2_warmBy 118 = .ok (.goto (-109), 3) := by decide +kernel
theorem dX2_warmBy_121 : decode cX2_warmBy 121 = .ok (.return_, 1) := by decide +kernel
theorem dX2_ripen_0 : decode cX2_ripen 0 = .ok (.aload_n 1, 1) := by decide +kernel
theorem dX2_ripen_1 : decode cX2_ripen 1 = .ok (.getfield 69, 3) := by decide +kernel
theorem dX2_ripen_4 : decode cX2_ripen 4 = .ok (.iconst 0, 1) := by decide +kernel
theorem dX2_ripen_5 : decode cX2_ripen 5 = .ok (.iaload, 1) := by decide +kernel
theorem dX2_ripen_6 : decode cX2_ripen 6 = .ok (.bipush 10, 2) := by decide +kernel
theorem dX2_ripen_8 : decode cX2_ripen 8 = .ok (.aload_n 1, 1) := by decide +kernel
theorem dX2_ripen_9 : decode cX2_ripen 9 = .ok (.getfield 69, 3) := by decide +kernel
theorem dX2_ripen_12 : decode cX2_ripen 12 = .ok (.iconst 4, 1) := by decide +kernel
theorem dX2_ripen_13 : decode cX2_ripen 13 = .ok (.iaload, 1) := by decide +kernel
theorem dX2_ripen_14 : decode cX2_ripen 14 = .ok (.isub, 1) := by decide +kernel
theorem dX2_ripen_15 : decode cX2_ripen 15 = .ok (.imul, 1) := by decide +kernel
theorem dX2_ripen_16 : decode cX2_ripen 16 = .ok (.istore_n 2, 1) := by decide +kernel
theorem dX2_ripen_17 : decode cX2_ripen 17 = .ok (.aload_n 1, 1) := by decide +kernel
theorem dX2_ripen_18 : decode cX2_ripen 18 = .ok (.getfield 69, 3) := by decide +kernel
theorem dX2_ripen_21 : decode cX2_ripen 21 = .ok (.iconst 2, 1) := by decide +kernel
theorem dX2_ripen_22 : decode cX2_ripen 22 = .ok (.iaload, 1) := by decide +kernel
theorem dX2_ripen_23 : decode cX2_ripen 23 = .ok (.istore_n 3, 1) := by decide +kernel
theorem dX2_ripen_24 : decode cX2_ripen 24 = .ok (.aload_n 1, 1) := by decide +kernel
theorem dX2_ripen_25 : decode cX2_ripen 25 = .ok (.getfield 69, 3) := by decide +kernel
theorem dX2_ripen_28 : decode cX2_ripen 28 = .ok (.iconst 4, 1) := by decide +kernel
theorem dX2_ripen_29 : decode cX2_ripen 29 = .ok (.iaload, 1) := by decide +kernel
theorem dX2_ripen_30 : decode cX2_ripen 30 = .ok (.ifCond .ne 7, 3) := by decide +kernel
theorem dX2_ripen_33 : decode cX2_ripen 33 = .ok (.iconst 2, 1) := by decide +kernel
theorem dX2_ripen_34 : decode cX2_ripen 34 = .ok (.goto 4, 3) := by decide +kernel
theorem dX2_ripen_37 : decode cX2_ripen 37 = .ok (.iconst 1, 1) := by decide +kernel
theorem dX2_ripen_38 : decode cX2_ripen 38 = .ok (.istore 4, 2) := by decide +kernel
theorem dX2_ripen_40 : decode cX2_ripen 40 = .ok (.iconst 0, 1) := by decide +kernel
theorem dX2_ripen_41 : decode cX2_ripen 41 = .ok (.istore 5, 2) := by decide +kernel
theorem dX2_ripen_43 : decode cX2_ripen 43 = .ok (.iload 5, 2) := by decide +kernel
theorem dX2_ripen_45 : decode cX2_ripen 45 = .ok (.bipush 24, 2) := by decide +kernel
theorem dX2_ripen_47 : decode cX2_ripen 47 = .ok (.if_icmp .ge 156, 3) := by decide +kernel
theorem dX2_ripen_50 : decode cX2_ripen 50 = .ok (.aload_n 0, 1) := by decide +kernel
theorem dX2_ripen_51 : decode cX2_ripen 51 = .ok (.getfield 18, 3) := by decide +kernel
theorem dX2_ripen_54 : decode cX2_ripen 54 = .ok (.iload 5, 2) := by decide +kernel
theorem dX2_ripen_56 : decode cX2_ripen 56 = .ok (.iaload, 1) := by decide +kernel
theorem dX2_ripen_57 : decode cX2_ripen 57 = .ok (.istore 6, 2) := by decide +kernel
theorem dX2_ripen_59 : decode cX2_ripen 59 = .ok (.iload 6, 2) := by decide +kernel
theorem dX2_ripen_61 : decode cX2_ripen 61 = .ok (.bipush 55, 2) := by decide +kernel
theorem dX2_ripen_63 : decode cX2_ripen 63 = .ok (.if_icmp .gt 33, 3) := by decide +kernel
theorem dX2_ripen_66 : decode cX2_ripen 66 = .ok (.aload_n 0, 1) := by decide +kernel
theorem dX2_ripen_67 : decode cX2_ripen 67 = .ok (.getfield 24, 3) := by decide +kernel
theorem dX2_ripen_70 : decode cX2_ripen 70 = .ok (.iload 5, 2) := by decide +kernel
theorem dX2_ripen_72 : decode cX2_ripen 72 = .ok (.iaload, 1) := by decide +kernel
theorem dX2_ripen_73 : decode cX2_ripen 73 = .ok (.ifCond .ne 23, 3) := by decide +kernel
theorem dX2_ripen_76 : decode cX2_ripen 76 = .ok (.aload_n 0, 1) := by decide +kernel
theorem dX2_ripen_77 : decode cX2_ripen 77 = .ok (.getfield 9, 3) := by decide +kernel
theorem dX2_ripen_80 : decode cX2_ripen 80 = .ok (.iload 5, 2) := by decide +kernel
theorem dX2_ripen_82 : decode cX2_ripen 82 = .ok (.dup2, 1) := by decide +kernel
theorem dX2_ripen_83 : decode cX2_ripen 83 = .ok (.iaload, 1) := by decide +kernel
theorem dX2_ripen_84 : decode cX2_ripen 84 = .ok (.iload_n 2, 1) := by decide +kernel
theorem dX2_ripen_85 : decode cX2_ripen 85 = .ok (.iload 6, 2) := by decide +kernel
theorem dX2_ripen_87 : decode cX2_ripen 87 = .ok (.bipush 10, 2) := by decide +kernel
theorem dX2_ripen_89 : decode cX2_ripen 89 = .ok (.idiv, 1) := by decide +kernel
theorem dX2_ripen_90 : decode cX2_ripen 90 = .ok (.imul, 1) := by decide +kernel
theorem dX2_ripen_91 : decode cX2_ripen 91 = .ok (.bipush 20, 2) := by decide +kernel
theorem dX2_ripen_93 : decode cX2_ripen 93 = .ok (.idiv, 1) := by decide +kernel
theorem dX2_ripen_94 : decode cX2_ripen 94 = .ok (.iadd, 1) := by decide +kernel
theorem dX2_ripen_95 : decode cX2_ripen 95 = .ok (.iastore, 1) := by decide +kernel
theorem dX2_ripen_96 : decode cX2_ripen 96 = .ok (.iload 6, 2) := by decide +kernel
theorem dX2_ripen_98 : decode cX2_ripen 98 = .ok (.bipush 60, 2) := by decide +kernel
theorem dX2_ripen_100 : decode cX2_ripen 100 = .ok (.if_icmp .lt 15, 3) := by decide +kernel
theorem dX2_ripen_103 : decode cX2_ripen 103 = .ok (.iload 6, 2) := by decide +kernel
theorem dX2_ripen_105 : decode cX2_ripen 105 = .ok (.bipush 50, 2) := by decide +kernel
theorem dX2_ripen_107 : decode cX2_ripen 107 = .ok (.isub, 1) := by decide +kernel
theorem dX2_ripen_108 : decode cX2_ripen 108 = .ok (.iconst 5, 1) := by decide +kernel
theorem dX2_ripen_109 : decode cX2_ripen 109 = .ok (.idiv, 1) := by decide +kernel
theorem dX2_ripen_110 : decode cX2_ripen 110 = .ok (.iload_n 3, 1) := by decide +kernel
theorem dX2_ripen_111 : decode cX2_ripen 111 = .ok (.isub, 1) := by decide +kernel
theorem dX2_ripen_112 : decode cX2_ripen 112 = .ok (.goto 4, 3) := by decide +kernel
theorem dX2_ripen_115 : decode cX2_ripen 115 = .ok (.iconst 0, 1) := by decide +kernel
theorem dX2_ripen_116 : decode cX2_ripen 116 = .ok (.istore 7, 2) := by decide +kernel
theorem dX2_ripen_118 : decode cX2_ripen 118 = .ok (.iload 7, 2) := by decide +kernel
theorem dX2_ripen_120 : decode cX2_ripen 120 = .ok (.ifCond .le 25, 3) := by decide +kernel
theorem dX2_ripen_123 : decode cX2_ripen 123 = .ok (.aload_n 0, 1) := by decide +kernel
theorem dX2_ripen_124 : decode cX2_ripen 124 = .ok (.getfield 21, 3) := by decide +kernel
theorem dX2_ripen_127 : decode cX2_ripen 127 = .ok (.iload 5, 2) := by decide +kernel
theorem dX2_ripen_129 : decode cX2_ripen 129 = .ok (.bipush 99, 2) := by decide +kernel
theorem dX2_ripen_131 : decode cX2_ripen 131 = .ok (.aload_n 0, 1) := by decide +kernel
theorem dX2_ripen_132 : decode cX2_ripen 132 = .ok (.getfield 21, 3) := by decide +kernel
theorem dX2_ripen_135 : decode cX2_ripen 135 = .ok (.iload 5, 2) := by decide +kernel
theorem dX2_ripen_137 : decode cX2_ripen 137 = .ok (.iaload, 1) := by decide +kernel
theorem dX2_ripen_138 : decode cX2_ripen 138 = .ok (.iload 7, 2) := by decide +kernel
theorem dX2_ripen_140 : decode cX2_ripen 140 = .ok (.iadd, 1) := by decide +kernel
theorem dX2_ripen_141 : decode cX2_ripen 141 = .ok (.invokestatic 74, 3) := by decide +kernel
theorem dX2_ripen_144 : decode cX2_ripen 144 = .ok (.iastore, 1) := by decide +kernel
theorem dX2_ripen_145 : decode cX2_ripen 145 = .ok (.iload 6, 2) := by decide +kernel
theorem dX2_ripen_147 : decode cX2_ripen 147 = .ok (.bipush 20, 2) := by decide +kernel
theorem dX2_ripen_149 : decode cX2_ripen 149 = .ok (.if_icmp .lt 48, 3) := by decide +kernel
theorem dX2_ripen_152 : decode cX2_ripen 152 = .ok (.aload_n 0, 1) := by decide +kernel
theorem dX2_ripen_153 : decode cX2_ripen 153 = .ok (.getfield 21, 3) := by decide +kernel
theorem dX2_ripen_156 : decode cX2_ripen 156 = .ok (.iload 5, 2) := by decide +kernel
theorem dX2_ripen_158 : decode cX2_ripen 158 = .ok (.iaload, 1) := by decide +kernel
theorem dX2_ripen_159 : decode cX2_ripen 159 = .ok (.bipush 50, 2) := by decide +kernel
theorem dX2_ripen_161 : decode cX2_ripen 161 = .ok (.if_icmp .ge 36, 3) := by decide +kernel
theorem dX2_ripen_164 : decode cX2_ripen 164 = .ok (.aload_n 0, 1) := by decide +kernel
theorem dX2_ripen_165 : decode cX2_ripen 165 = .ok (.getfield 15, 3) := by decide +kernel
theorem dX2_ripen_168 : decode cX2_ripen 168 = .ok (.iload 5, 2) := by decide +kernel
theorem dX2_ripen_170 : decode cX2_ripen 170 = .ok (.aload_n 0, 1) := by decide +kernel
theorem dX2_ripen_171 : decode cX2_ripen 171 = .ok (.getfield 15, 3) := by decide +kernel
theorem dX2_ripen_174 : decode cX2_ripen 174 = .ok (.iload 5, 2) := by decide +kernel
theorem dX2_ripen_176 : decode cX2_ripen 176 = .ok (.iaload, 1) := by decide +kernel
theorem dX2_ripen_177 : decode cX2_ripen 177 = .ok (.iload 4, 2) := by decide +kernel
theorem dX2_ripen_179 : decode cX2_ripen 179 = .ok (.if_icmp .le 16, 3) := by decide +kernel
theorem dX2_ripen_182 : decode cX2_ripen 182 = .ok (.aload_n 0, 1) := by decide +kernel
theorem dX2_ripen_183 : decode cX2_ripen 183 = .ok (.getfield 15, 3) := by decide +kernel
theorem dX2_ripen_186 : decode cX2_ripen 186 = .ok (.iload 5, 2) := by decide +kernel
theorem dX2_ripen_188 : decode cX2_ripen 188 = .ok (.iaload, 1) := by decide +kernel
theorem dX2_ripen_189 : decode cX2_ripen 189 = .ok (.iload 4, 2) := by decide +kernel
theorem dX2_ripen_191 : decode cX2_ripen 191 = .ok (.isub, 1) := by decide +kernel
theorem dX2_ripen_192 : decode cX2_ripen 192 = .ok (.goto 4, 3) := by decide +kernel
theorem dX2_ripen_195 : decode cX2_ripen 195 = .ok (.iconst 0, 1) := by decide +kernel
theorem dX2_ripen_196 : decode cX2_ripen 196 = .ok (.iastore, 1) := by decide +kernel
theorem dX2_ripen_197 : decode cX2_ripen 197 = .ok (.iinc 5 1, 3) := by decide +kernel
theorem dX2_ripen_200 : decode cX2_ripen 200 = .ok (.goto (-157), 3) := by decide +kernel
theorem dX2_ripen_203 : decode cX2_ripen 203 = .ok (.return_, 1) := by decide +kernel
theorem dX2_knead_0 : decode cX2_knead 0 = .ok (.iconst 0, 1) := by decide +kernel
theorem dX2_knead_1 : decode cX2_knead 1 = .ok (.istore_n 1, 1) := by decide +kernel
theorem dX2_knead_2 : decode cX2_knead 2 = .ok (.iload_n 1, 1) := by decide +kernel
theorem dX2_knead_3 : decode cX2_knead 3 = .ok (.bipush 24, 2) := by decide +kernel
theorem dX2_knead_5 : decode cX2_knead 5 = .ok (.if_icmp .ge 39, 3) := by decide +kernel
theorem dX2_knead_8 : decode cX2_knead 8 = .ok (.aload_n 0, 1) := by decide +kernel
theorem dX2_knead_9 : decode cX2_knead 9 = .ok (.getfield 15, 3) := by decide +kernel
theorem dX2_knead_12 : decode cX2_knead 12 = .ok (.iload_n 1, 1) := by decide +kernel
theorem dX2_knead_13 : decode cX2_knead 13 = .ok (.bipush 99, 2) := by decide +kernel
theorem dX2_knead_15 : decode cX2_knead 15 = .ok (.aload_n 0, 1) := by decide +kernel
theorem dX2_knead_16 : decode cX2_knead 16 = .ok (.getfield 15, 3) := by decide +kernel
theorem dX2_knead_19 : decode cX2_knead 19 = .ok (.iload_n 1, 1) := by decide +kernel
theorem dX2_knead_20 : decode cX2_knead 20 = .ok (.iaload, 1) := by decide +kernel
theorem dX2_knead_21 : decode cX2_knead 21 = .ok (.bipush 10, 2) := by decide +kernel
theorem dX2_knead_23 : decode cX2_knead 23 = .ok (.iadd, 1) := by decide +kernel
theorem dX2_knead_24 : decode cX2_knead 24 = .ok (.invokestatic 74, 3) := by decide +kernel
theorem dX2_knead_27 : decode cX2_knead 27 = .ok (.iastore, 1) := by decide +kernel
theorem dX2_knead_28 : decode cX2_knead 28 = .ok (.aload_n 0, 1) := by decide +kernel
theorem dX2_knead_29 : decode cX2_knead 29 = .ok (.getfield 9, 3) := by decide +kernel
theorem dX2_knead_32 : decode cX2_knead 32 = .ok (.iload_n 1, 1) := by decide +kernel
theorem dX2_knead_33 : decode cX2_knead 33 = .ok (.dup2, 1) := by decide +kernel
theorem dX2_knead_34 : decode cX2_knead 34 = .ok (.iaload, 1) := by decide +kernel
theorem dX2_knead_35 : decode cX2_knead 35 = .ok (.iconst 2, 1) := by decide +kernel
theorem dX2_knead_36 : decode cX2_knead 36 = .ok (.idiv, 1) := by decide +kernel
theorem dX2_knead_37 : decode cX2_knead 37 = .ok (.iastore, 1) := by decide +kernel
theorem dX2_knead_38 : decode cX2_knead 38 = .ok (.iinc 1 1, 3) := by decide +kernel
theorem dX2_knead_41 : decode cX2_knead 41 = .ok (.goto (-39), 3) := by decide +kernel
theorem dX2_knead_44 : decode cX2_knead 44 = .ok (.return_, 1) := by decide +kernel
theorem dX2_openDoor_0 : decode cX2_openDoor 0 = .ok (.iconst 0, 1) := by decide +kernel
theorem dX2_openDoor_1 : decode cX2_openDoor 1 = .ok (.istore_n 1, 1) := by decide +kernel
theorem dX2_openDoor_2 : decode cX2_openDoor 2 = .ok (.iload_n 1, 1) := by decide +kernel
theorem dX2_openDoor_3 : decode cX2_openDoor 3 = .ok (.bipush 24, 2) := by decide +kernel
theorem dX2_openDoor_5 : decode cX2_openDoor 5 = .ok (.if_icmp .ge 45, 3) := by decide +kernel
theorem dX2_openDoor_8 : decode cX2_openDoor 8 = .ok (.iload_n 1, 1) := by decide +kernel
theorem dX2_openDoor_9 : decode cX2_openDoor 9 = .ok (.iconst 2, 1) := by decide +kernel
theorem dX2_openDoor_10 : decode cX2_openDoor 10 = .ok (.irem, 1) := by decide +kernel
theorem dX2_openDoor_11 : decode cX2_openDoor 11 = .ok (.ifCond .eq 14, 3) := by decide +kernel
theorem dX2_openDoor_14 : decode cX2_openDoor 14 = .ok (.iload_n 1, 1) := by decide +kernel
theorem dX2_openDoor_15 : decode cX2_openDoor 15 = .ok (.iconst 2, 1) := by decide +kernel
theorem dX2_openDoor_16 : decode cX2_openDoor 16 = .ok (.if_icmp .lt 9, 3) := by decide +kernel
theorem dX2_openDoor_19 : decode cX2_openDoor 19 = .ok (.iload_n 1, 1) := by decide +kernel
theorem dX2_openDoor_20 : decode cX2_openDoor 20 = .ok (.bipush 22, 2) := by decide +kernel
theorem dX2_openDoor_22 : decode cX2_openDoor 22 = .ok (.if_icmp .lt 22, 3) := by decide +kernel
theorem dX2_openDoor_25 : decode cX2_openDoor 25 = .ok (.aload_n 0, 1) := by decide +kernel
theorem dX2_openDoor_26 : decode cX2_openDoor 26 = .ok (.getfield 18, 3) := by decide +kernel
theorem dX2_openDoor_29 : decode cX2_openDoor 29 = .ok (.iload_n 1, 1) := by decide +kernel
theorem dX2_openDoor_30 : decode cX2_openDoor 30 = .ok (.iconst 0, 1) := by decide +kernel
theorem dX2_openDoor_31 : decode cX2_openDoor 31 = .ok (.aload_n 0, 1) := by decide +kernel
theorem dX2_openDoor_32 : decode cX2_openDoor 32 = .ok (.getfield 18, 3) := by decide +kernel
theorem dX2_openDoor_35 : decode cX2_openDoor 35 = .ok (.iload_n 1, 1) := by decide +kernel
theorem dX2_openDoor_36 : decode cX2_openDoor 36 = .ok (.iaload, 1) := by decide +kernel
theorem dX2_openDoor_37 : decode cX2_openDoor 37 = .ok (.bipush 20, 2) := by decide +kernel
theorem dX2_openDoor_39 : decode cX2_openDoor 39 = .ok (.isub, 1) := by decide +kernel
theorem dX2_openDoor_40 : decode cX2_openDoor 40 = .ok (.invokestatic 54, 3) := by decide +kernel
theorem dX2_openDoor_43 : decode cX2_openDoor 43 = .ok (.iastore, 1) := by decide +kernel
theorem dX2_openDoor_44 : decode cX2_openDoor 44 = .ok (.iinc 1 1, 3) := by decide +kernel
theorem dX2_openDoor_47 : decode cX2_openDoor 47 = .ok (.goto (-45), 3) := by decide +kernel
theorem dX2_openDoor_50 : decode cX2_openDoor 50 = .ok (.return_, 1) := by decide +kernel
theorem dX2_tearOpen_0 : decode cX2_tearOpen 0 = .ok (.iload_n 1, 1) := by decide +kernel
theorem dX2_tearOpen_1 : decode cX2_tearOpen 1 = .ok (.iconst 2, 1) := by decide +kernel
theorem dX2_tearOpen_2 : decode cX2_tearOpen 2 = .ok (.iadd, 1) := by decide +kernel
theorem dX2_tearOpen_3 : decode cX2_tearOpen 3 = .ok (.istore_n 2, 1) := by decide +kernel
theorem dX2_tearOpen_4 : decode cX2_tearOpen 4 = .ok (.iload_n 2, 1) := by decide +kernel
theorem dX2_tearOpen_5 : decode cX2_tearOpen 5 = .ok (.bipush 24, 2) := by decide +kernel
theorem dX2_tearOpen_7 : decode cX2_tearOpen 7 = .ok (.if_icmp .ge 29, 3) := by decide +kernel
theorem dX2_tearOpen_10 : decode cX2_tearOpen 10 = .ok (.aload_n 0, 1) := by decide +kernel
theorem dX2_tearOpen_11 : decode cX2_tearOpen 11 = .ok (.getfield 24, 3) := by decide +kernel
theorem dX2_tearOpen_14 : decode cX2_tearOpen 14 = .ok (.iload_n 2, 1) := by decide +kernel
theorem dX2_tearOpen_15 : decode cX2_tearOpen 15 = .ok (.iaload, 1) := by decide +kernel
theorem dX2_tearOpen_16 : decode cX2_tearOpen 16 = .ok (.ifCond .ne 20, 3) := by decide +kernel
theorem dX2_tearOpen_19 : decode cX2_tearOpen 19 = .ok (.aload_n 0, 1) := by decide +kernel
theorem dX2_tearOpen_20 : decode cX2_tearOpen 20 = .ok (.getfield 9, 3) := by decide +kernel
theorem dX2_tearOpen_23 : decode cX2_tearOpen 23 = .ok (.iload_n 2, 1) := by decide +kernel
theorem dX2_tearOpen_24 : decode cX2_tearOpen 24 = .ok (.dup2, 1) := by decide +kernel
theorem dX2_tearOpen_25 : decode cX2_tearOpen 25 = .ok (.iaload, 1) := by decide +kernel
theorem dX2_tearOpen_26 : decode cX2_tearOpen 26 = .ok (.aload_n 0, 1) := by decide +kernel
theorem dX2_tearOpen_27 : decode cX2_tearOpen 27 = .ok (.getfield 9, 3) := by decide +kernel
theorem dX2_tearOpen_30 : decode cX2_tearOpen 30 = .ok (.iload_n 1, 1) := by decide +kernel
theorem dX2_tearOpen_31 : decode cX2_tearOpen 31 = .ok (.iaload, 1) := by decide +kernel
theorem dX2_tearOpen_32 : decode cX2_tearOpen 32 = .ok (.iconst 2, 1) := by decide +kernel
theorem dX2_tearOpen_33 : decode cX2_tearOpen 33 = .ok (.idiv, 1) := by decide +kernel
theorem dX2_tearOpen_34 : decode cX2_tearOpen 34 = .ok (.iadd, 1) := by decide +kernel
theorem dX2_tearOpen_35 : decode cX2_tearOpen 35 = .ok (.iastore, 1) := by decide +kernel
theorem dX2_tearOpen_36 : decode cX2_tearOpen 36 = .ok (.aload_n 0, 1) := by decide +kernel
theorem dX2_tearOpen_37 : decode cX2_tearOpen 37 = .ok (.getfield 9, 3) := by decide +kernel
theorem dX2_tearOpen_40 : decode cX2_tearOpen 40 = .ok (.iload_n 1, 1) := by decide +kernel
theorem dX2_tearOpen_41 : decode cX2_tearOpen 41 = .ok (.iconst 0, 1) := by decide +kernel
theorem dX2_tearOpen_42 : decode cX2_tearOpen 42 = .ok (.iastore, 1) := by decide +kernel
theorem dX2_tearOpen_43 : decode cX2_tearOpen 43 = .ok (.aload_n 0, 1) := by decide +kernel
theorem dX2_tearOpen_44 : decode cX2_tearOpen 44 = .ok (.getfield 24, 3) := by decide +kernel
theorem dX2_tearOpen_47 : decode cX2_tearOpen 47 = .ok (.iload_n 1, 1) := by decide +kernel
theorem dX2_tearOpen_48 : decode cX2_tearOpen 48 = .ok (.iconst 1, 1) := by decide +kernel
theorem dX2_tearOpen_49 : decode cX2_tearOpen 49 = .ok (.iastore, 1) := by decide +kernel
theorem dX2_tearOpen_50 : decode cX2_tearOpen 50 = .ok (.aload_n 0, 1) := by decide +kernel
theorem dX2_tearOpen_51 : decode cX2_tearOpen 51 = .ok (.dup, 1) := by decide +kernel
theorem dX2_tearOpen_52 : decode cX2_tearOpen 52 = .ok (.getfield 27, 3) := by decide +kernel
theorem dX2_tearOpen_55 : decode cX2_tearOpen 55 = .ok (.iconst 1, 1) := by decide +kernel
theorem dX2_tearOpen_56 : decode cX2_tearOpen 56 = .ok (.iadd, 1) := by decide +kernel
theorem dX2_tearOpen_57 : decode cX2_tearOpen 57 = .ok (.putfield 27, 3) := by decide +kernel
theorem dX2_tearOpen_60 : decode cX2_tearOpen 60 = .ok (.return_, 1) := by decide +kernel
theorem dX3_init_0 : decode cX3_init 0 = .ok (.aload_n 0, 1) := by decide +kernel
theorem dX3_init_1 : decode cX3_init 1 = .ok (.invokespecial 3, 3) := by decide +kernel
theorem dX3_init_4 : decode cX3_init 4 = .ok (.aload_n 0, 1) := by decide +kernel
theorem dX3_init_5 : decode cX3_init 5 = .ok (.bipush 24, 2) := by decide +kernel
theorem dX3_init_7 : decode cX3_init 7 = .ok (.newarray .int, 2) := by decide +kernel
theorem dX3_init_9 : decode cX3_init 9 = .ok (.putfield 9, 3) := by decide +kernel
theorem dX3_init_12 : decode cX3_init 12 = .ok (.aload_n 0, 1) := by decide +kernel
theorem dX3_init_13 : decode cX3_init 13 = .ok (.bipush 24, 2) := by decide +kernel
theorem dX3_init_15 : decode cX3_init 15 = .ok (.newarray .int, 2) := by decide +kernel
theorem dX3_init_17 : decode cX3_init 17 = .ok (.putfield 15, 3) := by decide +kernel
theorem dX3_init_20 : decode cX3_init 20 = .ok (.aload_n 0, 1) := by decide +kernel
theorem dX3_init_21 : decode cX3_init 21 = .ok (.bipush 24, 2) := by decide +kernel
theorem dX3_init_23 : decode cX3_init 23 = .ok (.newarray .int, 2) := by decide +kernel
theorem dX3_init_25 : decode cX3_init 25 = .ok (.putfield 18, 3) := by decide +kernel
theorem dX3_init_28 : decode cX3_init 28 = .ok (.aload_n 0, 1) := by decide +kernel
theorem dX3_init_29 : decode cX3_init 29 = .ok (.bipush 24, 2) := by decide +kernel
theorem dX3_init_31 : decode cX3_init 31 = .ok (.newarray .int, 2) := by decide +kernel
theorem dX3_init_33 : decode cX3_init 33 = .ok (.putfield 21, 3) := by decide +kernel
theorem dX3_init_36 : decode cX3_init 36 = .ok (.aload_n 0, 1) := by decide +kernel
theorem dX3_init_37 : decode cX3_init 37 = .ok (.bipush 24, 2) := by decide +kernel
theorem dX3_init_39 : decode cX3_init 39 = .ok (.newarray .int, 2) := by decide +kernel
theorem dX3_init_41 : decode cX3_init 41 = .ok (.putfield 24, 3) := by decide +kernel
theorem dX3_init_44 : decode cX3_init 44 = .ok (.return_, 1) := by decide +kernel
theorem dX3_take_0 : decode cX3_take 0 = .ok (.aload_n 1, 1) := by decide +kernel
theorem dX3_take_1 : decode cX3_take 1 = .ok (.getfield 9, 3) := by decide +kernel
theorem dX3_take_4 : decode cX3_take 4 = .ok (.iconst 0, 1) := by decide +kernel
theorem dX3_take_5 : decode cX3_take 5 = .ok (.aload_n 0, 1) := by decide +kernel
theorem dX3_take_6 : decode cX3_take 6 = .ok (.getfield 9, 3) := by decide +kernel
theorem dX3_take_9 : decode cX3_take 9 = .ok (.iconst 0, 1) := by decide +kernel
theorem dX3_take_10 : decode cX3_take 10 = .ok (.bipush 24, 2) := by decide +kernel
theorem dX3_take_12 : decode cX3_take 12 = .ok (.invokestatic 27, 3) := by decide +kernel
theorem dX3_take_15 : decode cX3_take 15 = .ok (.aload_n 1, 1) := by decide +kernel
theorem dX3_take_16 : decode cX3_take 16 = .ok (.getfield 15, 3) := by decide +kernel
theorem dX3_take_19 : decode cX3_take 19 = .ok (.iconst 0, 1) := by decide +kernel
theorem dX3_take_20 : decode cX3_take 20 = .ok (.aload_n 0, 1) := by decide +kernel
theorem dX3_take_21 : decode cX3_take 21 = .ok (.getfield 15, 3) := by decide +kernel
theorem dX3_take_24 : decode cX3_take 24 = .ok (.iconst 0, 1) := by decide +kernel
theorem dX3_take_25 : decode cX3_take 25 = .ok (.bipush 24, 2) := by decide +kernel
theorem dX3_take_27 : decode cX3_take 27 = .ok (.invokestatic 27, 3) := by decide +kernel
theorem dX3_take_30 : decode cX3_take 30 = .ok (.aload_n 1, 1) := by decide +kernel
theorem dX3_take_31 : decode cX3_take 31 = .ok (.getfield 18, 3) := by decide +kernel
theorem dX3_take_34 : decode cX3_take 34 = .ok (.iconst 0, 1) := by decide +kernel
theorem dX3_take_35 : decode cX3_take 35 = .ok (.aload_n 0, 1) := by decide +kernel
theorem dX3_take_36 : decode cX3_take 36 = .ok (.getfield 18, 3) := by decide +kernel
theorem dX3_take_39 : decode cX3_take 39 = .ok (.iconst 0, 1) := by decide +kernel
theorem dX3_take_40 : decode cX3_take 40 = .ok (.bipush 24, 2) := by decide +kernel
theorem dX3_take_42 : decode cX3_take 42 = .ok (.invokestatic 27, 3) := by decide +kernel
theorem dX3_take_45 : decode cX3_take 45 = .ok (.aload_n 1, 1) := by decide +kernel
theorem dX3_take_46 : decode cX3_take 46 = .ok (.getfield 21, 3) := by decide +kernel
theorem dX3_take_49 : decode cX3_take 49 = .ok (.iconst 0, 1) := by decide +kernel
theorem dX3_take_50 : decode cX3_take 50 = .ok (.aload_n 0, 1) := by decide +kernel
theorem dX3_take_51 : decode cX3_take 51 = .ok (.getfield 21, 3) := by decide +kernel
theorem dX3_take_54 : decode cX3_take 54 = .ok (.iconst 0, 1) := by decide +kernel
theorem dX3_take_55 : decode cX3_take 55 = .ok (.bipush 24, 2) := by decide +kernel
theorem dX3_take_57 : decode cX3_take 57 = .ok (.invokestatic 27, 3) := by decide +kernel
theorem dX3_take_60 : decode cX3_take 60 = .ok (.aload_n 1, 1) := by decide +kernel
theorem dX3_take_61 : decode cX3_take 61 = .ok (.getfield 24, 3) := by decide +kernel
theorem dX3_take_64 : decode cX3_take 64 = .ok (.iconst 0, 1) := by decide +kernel
theorem dX3_take_65 : decode cX3_take 65 = .ok (.aload_n 0, 1) := by decide +kernel
theorem dX3_take_66 : decode cX3_take 66 = .ok (.getfield 24, 3) := by decide +kernel
theorem dX3_take_69 : decode cX3_take 69 = .ok (.iconst 0, 1) := by decide +kernel
theorem dX3_take_70 : decode cX3_take 70 = .ok (.bipush 24, 2) := by decide +kernel
theorem dX3_take_72 : decode cX3_take 72 = .ok (.invokestatic 27, 3) := by decide +kernel
theorem dX3_take_75 : decode cX3_take 75 = .ok (.return_, 1) := by decide +kernel
theorem dX3_note_0 : decode cX3_note 0 = .ok (.aload_n 1, 1) := by decide +kernel
theorem dX3_note_1 : decode cX3_note 1 = .ok (.getfield 33, 3) := by decide +kernel
theorem dX3_note_4 : decode cX3_note 4 = .ok (.istore 5, 2) := by decide +kernel
theorem dX3_note_6 : decode cX3_note 6 = .ok (.iload 5, 2) := by decide +kernel
theorem dX3_note_8 : decode cX3_note 8 = .ok (.bipush 24, 2) := by decide +kernel
theorem dX3_note_10 : decode cX3_note 10 = .ok (.if_icmp .lt 4, 3) := by decide +kernel
theorem dX3_note_13 : decode cX3_note 13 = .ok (.return_, 1) := by decide +kernel
theorem dX3_note_14 : decode cX3_note 14 = .ok (.aload_n 0, 1) := by decide +kernel
theorem dX3_note_15 : decode cX3_note 15 = .ok (.getfield 9, 3) := by decide +kernel
theorem dX3_note_18 : decode cX3_note 18 = .ok (.iload 5, 2) := by decide +kernel
theorem dX3_note_20 : decode cX3_note 20 = .ok (.iload_n 3, 1) := by decide +kernel
theorem dX3_note_21 : decode cX3_note 21 = .ok (.iastore, 1) := by decide +kernel
theorem dX3_note_22 : decode cX3_note 22 = .ok (.aload_n 0, 1) := by decide +kernel
theorem dX3_note_23 : decode cX3_note 23 = .ok (.getfield 15, 3) := by decide +kernel
theorem dX3_note_26 : decode cX3_note 26 = .ok (.iload 5, 2) := by decide +kernel
theorem dX3_note_28 : decode cX3_note 28 = .ok (.iload_n 2, 1) := by decide +kernel
theorem dX3_note_29 : decode cX3_note 29 = .ok (.iastore, 1) := by decide +kernel
theorem dX3_note_30 : decode cX3_note 30 = .ok (.aload_n 0, 1) := by decide +kernel
theorem dX3_note_31 : decode cX3_note 31 = .ok (.getfield 18, 3) := by decide +kernel
theorem dX3_note_34 : decode cX3_note 34 = .ok (.iload 5, 2) := by decide +kernel
theorem dX3_note_36 : decode cX3_note 36 = .ok (.aload_n 1, 1) := by decide +kernel
theorem dX3_note_37 : decode cX3_note 37 = .ok (.getfield 39, 3) := by decide +kernel
theorem dX3_note_40 : decode cX3_note 40 = .ok (.iload_n 2, 1) := by decide +kernel
theorem dX3_note_41 : decode cX3_note 41 = .ok (.iaload, 1) := by decide +kernel
theorem dX3_note_42 : decode cX3_note 42 = .ok (.iastore, 1) := by decide +kernel
theorem dX3_note_43 : decode cX3_note 43 = .ok (.aload_n 0, 1) := by decide +kernel
theorem dX3_note_44 : decode cX3_note 44 = .ok (.getfield 21, 3) := by decide +kernel
theorem dX3_note_47 : decode cX3_note 47 = .ok (.iload 5, 2) := by decide +kernel
theorem dX3_note_49 : decode cX3_note 49 = .ok (.aload_n 1, 1) := by decide +kernel
theorem dX3_note_50 : decode cX3_note 50 = .ok (.getfield 42, 3) := by decide +kernel
theorem dX3_note_53 : decode cX3_note 53 = .ok (.iastore, 1) := by decide +kernel
theorem dX3_note_54 : decode cX3_note 54 = .ok (.aload_n 0, 1) := by decide +kernel
theorem dX3_note_55 : decode cX3_note 55 = .ok (.getfield 24, 3) := by decide +kernel
theorem dX3_note_58 : decode cX3_note 58 = .ok (.iload 5, 2) := by decide +kernel
theorem dX3_note_60 : decode cX3_note 60 = .ok (.iload 4, 2) := by decide +kernel
theorem dX3_note_62 : decode cX3_note 62 = .ok (.iastore, 1) := by decide +kernel
theorem dX3_note_63 : decode cX3_note 63 = .ok (.return_, 1) := by decide +kernel
theorem dX3_factOf_0 : decode cX3_factOf 0 = .ok (.iload_n 2, 1) := by decide +kernel
theorem dX3_factOf_1 : decode cX3_factOf 1 = .ok (.tableswitch 54 0 2 #[27, 36, 45], 27) := by decide +kernel
theorem dX3_factOf_28 : decode cX3_factOf 28 = .ok (.aload_n 0, 1) := by decide +kernel
theorem dX3_factOf_29 : decode cX3_factOf 29 = .ok (.getfield 9, 3) := by decide +kernel
theorem dX3_factOf_32 : decode cX3_factOf 32 = .ok (.iload_n 1, 1) := by decide +kernel
theorem dX3_factOf_33 : decode cX3_factOf 33 = .ok (.iaload, 1) := by decide +kernel
theorem dX3_factOf_34 : decode cX3_factOf 34 = .ok (.goto 27, 3) := by decide +kernel
theorem dX3_factOf_37 : decode cX3_factOf 37 = .ok (.aload_n 0, 1) := by decide +kernel
theorem dX3_factOf_38 : decode cX3_factOf 38 = .ok (.getfield 15, 3) := by decide +kernel
theorem dX3_factOf_41 : decode cX3_factOf 41 = .ok (.iload_n 1, 1) := by decide +kernel
theorem dX3_factOf_42 : decode cX3_factOf 42 = .ok (.iaload, 1) := by decide +kernel
theorem dX3_factOf_43 : decode cX3_factOf 43 = .ok (.goto 18, 3) := by decide +kernel
theorem dX3_factOf_46 : decode cX3_factOf 46 = .ok (.aload_n 0, 1) := by decide +kernel
theorem dX3_factOf_47 : decode cX3_factOf 47 = .ok (.getfield 18, 3) := by decide +kernel
theorem dX3_factOf_50 : decode cX3_factOf 50 = .ok (.iload_n 1, 1) := by decide +kernel
theorem dX3_factOf_51 : decode cX3_factOf 51 = .ok (.iaload, 1) := by decide +kernel
theorem dX3_factOf_52 : decode cX3_factOf 52 = .ok (.goto 9, 3) := by decide +kernel
theorem dX3_factOf_55 : decode cX3_factOf 55 = .ok (.aload_n 0, 1) := by decide +kernel
theorem dX3_factOf_56 : decode cX3_factOf 56 = .ok (.getfield 21, 3) := by decide +kernel
theorem dX3_factOf_59 : decode cX3_factOf 59 = .ok (.iload_n 1, 1) := by decide +kernel
theorem dX3_factOf_60 : decode cX3_factOf 60 = .ok (.iaload, 1) := by decide +kernel
theorem dX3_factOf_61 : decode cX3_factOf 61 = .ok (.ireturn, 1) := by decide +kernel
theorem dX3_isOfKind_0 : decode cX3_isOfKind 0 = .ok (.aload_n 0, 1) := by decide +kernel
theorem dX3_isOfKind_1 : decode cX3_isOfKind 1 = .ok (.getfield 9, 3) := by decide +kernel
theorem dX3_isOfKind_4 : decode cX3_isOfKind 4 = .ok (.iload_n 1, 1) := by decide +kernel
theorem dX3_isOfKind_5 : decode cX3_isOfKind 5 = .ok (.iaload, 1) := by decide +kernel
theorem dX3_isOfKind_6 : decode cX3_isOfKind 6 = .ok (.istore_n 3, 1) := by decide +kernel
theorem dX3_isOfKind_7 : decode cX3_isOfKind 7 = .ok (.iload_n 3, 1) := by decide +kernel
theorem dX3_isOfKind_8 : decode cX3_isOfKind 8 = .ok (.iload_n 2, 1) := by decide +kernel
theorem dX3_isOfKind_9 : decode cX3_isOfKind 9 = .ok (.if_icmp .eq 24, 3) := by decide +kernel
theorem dX3_isOfKind_12 : decode cX3_isOfKind 12 = .ok (.iload_n 3, 1) := by decide +kernel
theorem dX3_isOfKind_13 : decode cX3_isOfKind 13 = .ok (.bipush 6, 2) := by decide +kernel
theorem dX3_isOfKind_15 : decode cX3_isOfKind 15 = .ok (.if_icmp .ne 8, 3) := by decide +kernel
theorem dX3_isOfKind_18 : decode cX3_isOfKind 18 = .ok (.iload_n 2, 1) := by decide +kernel
theorem dX3_isOfKind_19 : decode cX3_isOfKind 19 = .ok (.iconst 1, 1) := by decide +kernel
theorem dX3_isOfKind_20 : decode cX3_isOfKind 20 = .ok (.if_icmp .eq 13, 3) := by decide +kernel
theorem dX3_isOfKind_23 : decode cX3_isOfKind 23 = .ok (.iload_n 3, 1) := by decide +kernel
theorem dX3_isOfKind_24 : decode cX3_isOfKind 24 = .ok (.iconst 5, 1) := by decide +kernel
theorem dX3_isOfKind_25 : decode cX3_isOfKind 25 = .ok (.if_icmp .ne 12, 3) := by decide +kernel
theorem dX3_isOfKind_28 : decode cX3_isOfKind 28 = .ok (.iload_n 2, 1) := by decide +kernel
theorem dX3_isOfKind_29 : decode cX3_isOfKind 29 = .ok (.iconst 4, 1) := by decide +kernel
theorem dX3_isOfKind_30 : decode cX3_isOfKind 30 = .ok (.if_icmp .ne 7, 3) := by decide +kernel
theorem dX3_isOfKind_33 : decode cX3_isOfKind 33 = .ok (.iconst 1, 1) := by decide +kernel
theorem dX3_isOfKind_34 : decode cX3_isOfKind 34 = .ok (.goto 4, 3) := by decide +kernel
theorem dX3_isOfKind_37 : decode cX3_isOfKind 37 = .ok (.iconst 0, 1) := by decide +kernel
theorem dX3_isOfKind_38 : decode cX3_isOfKind 38 = .ok (.ireturn, 1) := by decide +kernel
theorem dX4_init_0 : decode cX4_init 0 = .ok (.aload_n 0, 1) := by decide +kernel
theorem dX4_init_1 : decode cX4_init 1 = .ok (.invokespecial 3, 3) := by decide +kernel
theorem dX4_init_4 : decode cX4_init 4 = .ok (.aload_n 0, 1) := by decide +kernel
theorem dX4_init_5 : decode cX4_init 5 = .ok (.iconst 5, 1) := by decide +kernel
theorem dX4_init_6 : decode cX4_init 6 = .ok (.newarray .int, 2) := by decide +kernel
theorem dX4_init_8 : decode cX4_init 8 = .ok (.putfield 9, 3) := by decide +kernel
theorem dX4_init_11 : decode cX4_init 11 = .ok (.return_, 1) := by decide +kernel
theorem dX4_beUsual_0 : decode cX4_beUsual 0 = .ok (.iconst 0, 1) := by decide +kernel
theorem dX4_beUsual_1 : decode cX4_beUsual 1 = .ok (.istore_n 1, 1) := by decide +kernel
theorem dX4_beUsual_2 : decode cX4_beUsual 2 = .ok (.iload_n 1, 1) := by decide +kernel
theorem dX4_beUsual_3 : decode cX4_beUsual 3 = .ok (.iconst 5, 1) := by decide +kernel
theorem dX4_beUsual_4 : decode cX4_beUsual 4 = .ok (.if_icmp .ge 20, 3) := by decide +kernel
theorem dX4_beUsual_7 : decode cX4_beUsual 7 = .ok (.aload_n 0, 1) := by decide +kernel
theorem dX4_beUsual_8 : decode cX4_beUsual 8 = .ok (.getfield 9, 3) := by decide +kernel
theorem dX4_beUsual_11 : decode cX4_beUsual 11 = .ok (.iload_n 1, 1) := by decide +kernel
theorem dX4_beUsual_12 : decode cX4_beUsual 12 = .ok (.getstatic 15, 3) := by decide +kernel
theorem dX4_beUsual_15 : decode cX4_beUsual 15 = .ok (.iload_n 1, 1) := by decide +kernel
theorem dX4_beUsual_16 : decode cX4_beUsual 16 = .ok (.iaload, 1) := by decide +kernel
theorem dX4_beUsual_17 : decode cX4_beUsual 17 = .ok (.iastore, 1) := by decide +kernel
theorem dX4_beUsual_18 : decode cX4_beUsual 18 = .ok (.iinc 1 1, 3) := by decide +kernel
theorem dX4_beUsual_21 : decode cX4_beUsual 21 = .ok (.goto (-19), 3) := by decide +kernel
theorem dX4_beUsual_24 : decode cX4_beUsual 24 = .ok (.return_, 1) := by decide +kernel
theorem dX4_take_0 : decode cX4_take 0 = .ok (.aload_n 1, 1) := by decide +kernel
theorem dX4_take_1 : decode cX4_take 1 = .ok (.getfield 9, 3) := by decide +kernel
theorem dX4_take_4 : decode cX4_take 4 = .ok (.iconst 0, 1) := by decide +kernel
theorem dX4_take_5 : decode cX4_take 5 = .ok (.aload_n 0, 1) := by decide +kernel
theorem dX4_take_6 : decode cX4_take 6 = .ok (.getfield 9, 3) := by decide +kernel
theorem dX4_take_9 : decode cX4_take 9 = .ok (.iconst 0, 1) := by decide +kernel
theorem dX4_take_10 : decode cX4_take 10 = .ok (.iconst 5, 1) := by decide +kernel
theorem dX4_take_11 : decode cX4_take 11 = .ok (.invokestatic 18, 3) := by decide +kernel
theorem dX4_take_14 : decode cX4_take 14 = .ok (.aload_n 0, 1) := by decide +kernel
theorem dX4_take_15 : decode cX4_take 15 = .ok (.aload_n 1, 1) := by decide +kernel
theorem dX4_take_16 : decode cX4_take 16 = .ok (.getfield 24, 3) := by decide +kernel
theorem dX4_take_19 : decode cX4_take 19 = .ok (.putfield 24, 3) := by decide +kernel
theorem dX4_take_22 : decode cX4_take 22 = .ok (.return_, 1) := by decide +kernel
theorem dX4_isLike_0 : decode cX4_isLike 0 = .ok (.iconst 0, 1) := by decide +kernel
theorem dX4_isLike_1 : decode cX4_isLike 1 = .ok (.istore_n 2, 1) := by decide +kernel
theorem dX4_isLike_2 : decode cX4_isLike 2 = .ok (.iload_n 2, 1) := by decide +kernel
theorem dX4_isLike_3 : decode cX4_isLike 3 = .ok (.iconst 5, 1) := by decide +kernel
theorem dX4_isLike_4 : decode cX4_isLike 4 = .ok (.if_icmp .ge 26, 3) := by decide +kernel
theorem dX4_isLike_7 : decode cX4_isLike 7 = .ok (.aload_n 0, 1) := by decide +kernel
theorem dX4_isLike_8 : decode cX4_isLike 8 = .ok (.getfield 9, 3) := by decide +kernel
theorem dX4_isLike_11 : decode cX4_isLike 11 = .ok (.iload_n 2, 1) := by decide +kernel
theorem dX4_isLike_12 : decode cX4_isLike 12 = .ok (.iaload, 1) := by decide +kernel
theorem dX4_isLike_13 : decode cX4_isLike 13 = .ok (.aload_n 1, 1) := by decide +kernel
theorem dX4_isLike_14 : decode cX4_isLike 14 = .ok (.getfield 9, 3) := by decide +kernel
theorem dX4_isLike_17 : decode cX4_isLike 17 = .ok (.iload_n 2, 1) := by decide +kernel
theorem dX4_isLike_18 : decode cX4_isLike 18 = .ok (.iaload, 1) := by decide +kernel
theorem dX4_isLike_19 : decode cX4_isLike 19 = .ok (.if_icmp .eq 5, 3) := by decide +kernel
theorem dX4_isLike_22 : decode cX4_isLike 22 = .ok (.iconst 0, 1) := by decide +kernel
theorem dX4_isLike_23 : decode cX4_isLike 23 = .ok (.ireturn, 1) := by decide +kernel
theorem dX4_isLike_24 : decode cX4_isLike 24 = .ok (.iinc 2 1, 3) := by decide +kernel
theorem dX4_isLike_27 : decode cX4_isLike 27 = .ok (.goto (-25), 3) := by decide +kernel
theorem dX4_isLike_30 : decode cX4_isLike 30 = .ok (.iconst 1, 1) := by decide +kernel
theorem dX4_isLike_31 : decode cX4_isLike 31 = .ok (.ireturn, 1) := by decide +kernel
theorem dX5_init_0 : decode cX5_init 0 = .ok (.aload_n 0, 1) := by decide +kernel
theorem dX5_init_1 : decode cX5_init 1 = .ok (.invokespecial 3, 3) := by decide +kernel
theorem dX5_init_4 : decode cX5_init 4 = .ok (.aload_n 0, 1) := by decide +kernel
theorem dX5_init_5 : decode cX5_init 5 = .ok (.bipush 24, 2) := by decide +kernel
theorem dX5_init_7 : decode cX5_init 7 = .ok (.newarray .boolean, 2) := by decide +kernel
theorem dX5_init_9 : decode cX5_init 9 = .ok (.putfield 9, 3) := by decide +kernel
theorem dX5_init_12 : decode cX5_init 12 = .ok (.aload_n 0, 1) := by decide +kernel
theorem dX5_init_13 : decode cX5_init 13 = .ok (.bipush 24, 2) := by decide +kernel
theorem dX5_init_15 : decode cX5_init 15 = .ok (.newarray .int, 2) := by decide +kernel
theorem dX5_init_17 : decode cX5_init 17 = .ok (.putfield 15, 3) := by decide +kernel
theorem dX5_init_20 : decode cX5_init 20 = .ok (.return_, 1) := by decide +kernel
theorem dX5_search_0 : decode cX5_search 0 = .ok (.aload_n 0, 1) := by decide +kernel
theorem dX5_search_1 : decode cX5_search 1 = .ok (.iconst 0, 1) := by decide +kernel
theorem dX5_search_2 : decode cX5_search 2 = .ok (.putfield 19, 3) := by decide +kernel
theorem dX5_search_5 : decode cX5_search 5 = .ok (.aload_n 0, 1) := by decide +kernel
theorem dX5_search_6 : decode cX5_search 6 = .ok (.iconst 0, 1) := by decide +kernel
theorem dX5_search_7 : decode cX5_search 7 = .ok (.putfield 23, 3) := by decide +kernel
theorem dX5_search_10 : decode cX5_search 10 = .ok (.iconst 0, 1) := by decide +kernel
theorem dX5_search_11 : decode cX5_search 11 = .ok (.istore_n 2, 1) := by decide +kernel
theorem dX5_search_12 : decode cX5_search 12 = .ok (.iload_n 2, 1) := by decide +kernel
theorem dX5_search_13 : decode cX5_search 13 = .ok (.bipush 24, 2) := by decide +kernel
theorem dX5_search_15 : decode cX5_search 15 = .ok (.if_icmp .ge 29, 3) := by decide +kernel
theorem dX5_search_18 : decode cX5_search 18 = .ok (.aload_n 0, 1) := by decide +kernel
theorem dX5_search_19 : decode cX5_search 19 = .ok (.getfield 9, 3) := by decide +kernel
theorem dX5_search_22 : decode cX5_search 22 = .ok (.iload_n 2, 1) := by decide +kernel
theorem dX5_search_23 : decode cX5_search 23 = .ok (.aload_n 1, 1) := by decide +kernel
theorem dX5_search_24 : decode cX5_search 24 = .ok (.getfield 26, 3) := by decide +kernel
theorem dX5_search_27 : decode cX5_search 27 = .ok (.iload_n 2, 1) := by decide +kernel
theorem dX5_search_28 : decode cX5_search 28 = .ok (.iaload, 1) := by decide +kernel
theorem dX5_search_29 : decode cX5_search 29 = .ok (.ifCond .ne 7, 3) := by decide +kernel
theorem dX5_search_32 : decode cX5_search 32 = .ok (.iconst 1, 1) := by decide +kernel
theorem dX5_search_33 : decode cX5_search 33 = .ok (.goto 4, 3) := by decide +kernel
theorem dX5_search_36 : decode cX5_search 36 = .ok (.iconst 0, 1) := by decide +kernel
theorem dX5_search_37 : decode cX5_search 37 = .ok (.bastore, 1) := by decide +kernel
theorem dX5_search_38 : decode cX5_search 38 = .ok (.iinc 2 1, 3) := by decide +kernel
theorem dX5_search_41 : decode cX5_search 41 = .ok (.goto (-29), 3) := by decide +kernel
theorem dX5_search_44 : decode cX5_search 44 = .ok (.iconst 0, 1) := by decide +kernel
theorem dX5_search_45 : decode cX5_search 45 = .ok (.istore_n 2, 1) := by decide +kernel
theorem dX5_search_46 : decode cX5_search 46 = .ok (.iload_n 2, 1) := by decide +kernel
theorem dX5_search_47 : decode cX5_search 47 = .ok (.bipush 24, 2) := by decide +kernel
theorem dX5_search_49 : decode cX5_search 49 = .ok (.if_icmp .ge 44, 3) := by decide +kernel
theorem dX5_search_52 : decode cX5_search 52 = .ok (.aload_n 0, 1) := by decide +kernel
theorem dX5_search_53 : decode cX5_search 53 = .ok (.getfield 9, 3) := by decide +kernel
theorem dX5_search_56 : decode cX5_search 56 = .ok (.iload_n 2, 1) := by decide +kernel
theorem dX5_search_57 : decode cX5_search 57 = .ok (.baload, 1) := by decide +kernel
theorem dX5_search_58 : decode cX5_search 58 = .ok (.ifCond .ne 29, 3) := by decide +kernel
theorem dX5_search_61 : decode cX5_search 61 = .ok (.aload_n 0, 1) := by decide +kernel
theorem dX5_search_62 : decode cX5_search 62 = .ok (.dup, 1) := by decide +kernel
theorem dX5_search_63 : decode cX5_search 63 = .ok (.getfield 19, 3) := by decide +kernel
theorem dX5_search_66 : decode cX5_search 66 = .ok (.iconst 1, 1) := by decide +kernel
theorem dX5_search_67 : decode cX5_search 67 = .ok (.iadd, 1) := by decide +kernel
theorem dX5_search_68 : decode cX5_search 68 = .ok (.putfield 19, 3) := by decide +kernel
