theorem dX5_search_71 : decode cX5_search 71 = .ok (.aload_n 0, 1) := by decide +kernel
theorem dX5_search_72 : decode cX5_search 72 = .ok (.aload_n 0, 1) := by decide +kernel
theorem dX5_search_73 : decode cX5_search 73 = .ok (.getfield 23, 3) := by decide +kernel
theorem dX5_search_76 : decode cX5_search 76 = .ok (.aload_n 0, 1) := by decide +kernel
theorem dX5_search_77 : decode cX5_search 77 = .ok (.iload_n 2, 1) := by decide +kernel
theorem dX5_search_78 : decode cX5_search 78 = .ok (.invokevirtual 31, 3) := by decide +kernel
theorem dX5_search_81 : decode cX5_search 81 = .ok (.invokestatic 35, 3) := by decide +kernel
theorem dX5_search_84 : decode cX5_search 84 = .ok (.putfield 23, 3) := by decide +kernel
theorem dX5_search_87 : decode cX5_search 87 = .ok (.iinc 2 1, 3) := by decide +kernel
theorem dX5_search_90 : decode cX5_search 90 = .ok (.goto (-44), 3) := by decide +kernel
theorem dX5_search_93 : decode cX5_search 93 = .ok (.return_, 1) := by decide +kernel
theorem dX5_sizeFrom_0 : decode cX5_sizeFrom 0 = .ok (.aload_n 0, 1) := by decide +kernel
theorem dX5_sizeFrom_1 : decode cX5_sizeFrom 1 = .ok (.iconst 0, 1) := by decide +kernel
theorem dX5_sizeFrom_2 : decode cX5_sizeFrom 2 = .ok (.putfield 41, 3) := by decide +kernel
theorem dX5_sizeFrom_5 : decode cX5_sizeFrom 5 = .ok (.aload_n 0, 1) := by decide +kernel
theorem dX5_sizeFrom_6 : decode cX5_sizeFrom 6 = .ok (.iload_n 1, 1) := by decide +kernel
theorem dX5_sizeFrom_7 : decode cX5_sizeFrom 7 = .ok (.invokevirtual 44, 3) := by decide +kernel
theorem dX5_sizeFrom_10 : decode cX5_sizeFrom 10 = .ok (.iconst 0, 1) := by decide +kernel
theorem dX5_sizeFrom_11 : decode cX5_sizeFrom 11 = .ok (.istore_n 2, 1) := by decide +kernel
theorem dX5_sizeFrom_12 : decode cX5_sizeFrom 12 = .ok (.iload_n 2, 1) := by decide +kernel
theorem dX5_sizeFrom_13 : decode cX5_sizeFrom 13 = .ok (.aload_n 0, 1) := by decide +kernel
theorem dX5_sizeFrom_14 : decode cX5_sizeFrom 14 = .ok (.getfield 41, 3) := by decide +kernel
theorem dX5_sizeFrom_17 : decode cX5_sizeFrom 17 = .ok (.if_icmp .ge 55, 3) := by decide +kernel
theorem dX5_sizeFrom_20 : decode cX5_sizeFrom 20 = .ok (.iload_n 2, 1) := by decide +kernel
theorem dX5_sizeFrom_21 : decode cX5_sizeFrom 21 = .ok (.bipush 24, 2) := by decide +kernel
theorem dX5_sizeFrom_23 : decode cX5_sizeFrom 23 = .ok (.if_icmp .ge 49, 3) := by decide +kernel
theorem dX5_sizeFrom_26 : decode cX5_sizeFrom 26 = .ok (.aload_n 0, 1) := by decide +kernel
theorem dX5_sizeFrom_27 : decode cX5_sizeFrom 27 = .ok (.getfield 15, 3) := by decide +kernel
theorem dX5_sizeFrom_30 : decode cX5_sizeFrom 30 = .ok (.iload_n 2, 1) := by decide +kernel
theorem dX5_sizeFrom_31 : decode cX5_sizeFrom 31 = .ok (.iaload, 1) := by decide +kernel
theorem dX5_sizeFrom_32 : decode cX5_sizeFrom 32 = .ok (.istore_n 3, 1) := by decide +kernel
theorem dX5_sizeFrom_33 : decode cX5_sizeFrom 33 = .ok (.aload_n 0, 1) := by decide +kernel
theorem dX5_sizeFrom_34 : decode cX5_sizeFrom 34 = .ok (.iload_n 3, 1) := by decide +kernel
theorem dX5_sizeFrom_35 : decode cX5_sizeFrom 35 = .ok (.iconst 2, 1) := by decide +kernel
theorem dX5_sizeFrom_36 : decode cX5_sizeFrom 36 = .ok (.isub, 1) := by decide +kernel
theorem dX5_sizeFrom_37 : decode cX5_sizeFrom 37 = .ok (.invokevirtual 44, 3) := by decide +kernel
theorem dX5_sizeFrom_40 : decode cX5_sizeFrom 40 = .ok (.aload_n 0, 1) := by decide +kernel
theorem dX5_sizeFrom_41 : decode cX5_sizeFrom 41 = .ok (.iload_n 3, 1) := by decide +kernel
theorem dX5_sizeFrom_42 : decode cX5_sizeFrom 42 = .ok (.iconst 2, 1) := by decide +kernel
theorem dX5_sizeFrom_43 : decode cX5_sizeFrom 43 = .ok (.iadd, 1) := by decide +kernel
theorem dX5_sizeFrom_44 : decode cX5_sizeFrom 44 = .ok (.invokevirtual 44, 3) := by decide +kernel
theorem dX5_sizeFrom_47 : decode cX5_sizeFrom 47 = .ok (.aload_n 0, 1) := by decide +kernel
theorem dX5_sizeFrom_48 : decode cX5_sizeFrom 48 = .ok (.iload_n 3, 1) := by decide +kernel
theorem dX5_sizeFrom_49 : decode cX5_sizeFrom 49 = .ok (.iconst 2, 1) := by decide +kernel
theorem dX5_sizeFrom_50 : decode cX5_sizeFrom 50 = .ok (.irem, 1) := by decide +kernel
theorem dX5_sizeFrom_51 : decode cX5_sizeFrom 51 = .ok (.ifCond .ne 9, 3) := by decide +kernel
theorem dX5_sizeFrom_54 : decode cX5_sizeFrom 54 = .ok (.iload_n 3, 1) := by decide +kernel
theorem dX5_sizeFrom_55 : decode cX5_sizeFrom 55 = .ok (.iconst 1, 1) := by decide +kernel
theorem dX5_sizeFrom_56 : decode cX5_sizeFrom 56 = .ok (.iadd, 1) := by decide +kernel
theorem dX5_sizeFrom_57 : decode cX5_sizeFrom 57 = .ok (.goto 6, 3) := by decide +kernel
theorem dX5_sizeFrom_60 : decode cX5_sizeFrom 60 = .ok (.iload_n 3, 1) := by decide +kernel
theorem dX5_sizeFrom_61 : decode cX5_sizeFrom 61 = .ok (.iconst 1, 1) := by decide +kernel
theorem dX5_sizeFrom_62 : decode cX5_sizeFrom 62 = .ok (.isub, 1) := by decide +kernel
theorem dX5_sizeFrom_63 : decode cX5_sizeFrom 63 = .ok (.invokevirtual 44, 3) := by decide +kernel
theorem dX5_sizeFrom_66 : decode cX5_sizeFrom 66 = .ok (.iinc 2 1, 3) := by decide +kernel
theorem dX5_sizeFrom_69 : decode cX5_sizeFrom 69 = .ok (.goto (-57), 3) := by decide +kernel
theorem dX5_sizeFrom_72 : decode cX5_sizeFrom 72 = .ok (.aload_n 0, 1) := by decide +kernel
theorem dX5_sizeFrom_73 : decode cX5_sizeFrom 73 = .ok (.getfield 41, 3) := by decide +kernel
theorem dX5_sizeFrom_76 : decode cX5_sizeFrom 76 = .ok (.ireturn, 1) := by decide +kernel
theorem dX5_awaitCell_0 : decode cX5_awaitCell 0 = .ok (.iload_n 1, 1) := by decide +kernel
theorem dX5_awaitCell_1 : decode cX5_awaitCell 1 = .ok (.ifCond .lt 27, 3) := by decide +kernel
theorem dX5_awaitCell_4 : decode cX5_awaitCell 4 = .ok (.iload_n 1, 1) := by decide +kernel
theorem dX5_awaitCell_5 : decode cX5_awaitCell 5 = .ok (.bipush 24, 2) := by decide +kernel
theorem dX5_awaitCell_7 : decode cX5_awaitCell 7 = .ok (.if_icmp .ge 21, 3) := by decide +kernel
theorem dX5_awaitCell_10 : decode cX5_awaitCell 10 = .ok (.aload_n 0, 1) := by decide +kernel
theorem dX5_awaitCell_11 : decode cX5_awaitCell 11 = .ok (.getfield 41, 3) := by decide +kernel
theorem dX5_awaitCell_14 : decode cX5_awaitCell 14 = .ok (.bipush 24, 2) := by decide +kernel
theorem dX5_awaitCell_16 : decode cX5_awaitCell 16 = .ok (.if_icmp .ge 12, 3) := by decide +kernel
theorem dX5_awaitCell_19 : decode cX5_awaitCell 19 = .ok (.aload_n 0, 1) := by decide +kernel
theorem dX5_awaitCell_20 : decode cX5_awaitCell 20 = .ok (.getfield 9, 3) := by decide +kernel
theorem dX5_awaitCell_23 : decode cX5_awaitCell 23 = .ok (.iload_n 1, 1) := by decide +kernel
theorem dX5_awaitCell_24 : decode cX5_awaitCell 24 = .ok (.baload, 1) := by decide +kernel
theorem dX5_awaitCell_25 : decode cX5_awaitCell 25 = .ok (.ifCond .eq 4, 3) := by decide +kernel
theorem dX5_awaitCell_28 : decode cX5_awaitCell 28 = .ok (.return_, 1) := by decide +kernel
theorem dX5_awaitCell_29 : decode cX5_awaitCell 29 = .ok (.aload_n 0, 1) := by decide +kernel
theorem dX5_awaitCell_30 : decode cX5_awaitCell 30 = .ok (.getfield 9, 3) := by decide +kernel
theorem dX5_awaitCell_33 : decode cX5_awaitCell 33 = .ok (.iload_n 1, 1) := by decide +kernel
theorem dX5_awaitCell_34 : decode cX5_awaitCell 34 = .ok (.iconst 1, 1) := by decide +kernel
theorem dX5_awaitCell_35 : decode cX5_awaitCell 35 = .ok (.bastore, 1) := by decide +kernel
theorem dX5_awaitCell_36 : decode cX5_awaitCell 36 = .ok (.aload_n 0, 1) := by decide +kernel
theorem dX5_awaitCell_37 : decode cX5_awaitCell 37 = .ok (.getfield 15, 3) := by decide +kernel
theorem dX5_awaitCell_40 : decode cX5_awaitCell 40 = .ok (.aload_n 0, 1) := by decide +kernel
theorem dX5_awaitCell_41 : decode cX5_awaitCell 41 = .ok (.getfield 41, 3) := by decide +kernel
theorem dX5_awaitCell_44 : decode cX5_awaitCell 44 = .ok (.iload_n 1, 1) := by decide +kernel
theorem dX5_awaitCell_45 : decode cX5_awaitCell 45 = .ok (.iastore, 1) := by decide +kernel
theorem dX5_awaitCell_46 : decode cX5_awaitCell 46 = .ok (.aload_n 0, 1) := by decide +kernel
theorem dX5_awaitCell_47 : decode cX5_awaitCell 47 = .ok (.dup, 1) := by decide +kernel
theorem dX5_awaitCell_48 : decode cX5_awaitCell 48 = .ok (.getfield 41, 3) := by decide +kernel
theorem dX5_awaitCell_51 : decode cX5_awaitCell 51 = .ok (.iconst 1, 1) := by decide +kernel
theorem dX5_awaitCell_52 : decode cX5_awaitCell 52 = .ok (.iadd, 1) := by decide +kernel
theorem dX5_awaitCell_53 : decode cX5_awaitCell 53 = .ok (.putfield 41, 3) := by decide +kernel
theorem dX5_awaitCell_56 : decode cX5_awaitCell 56 = .ok (.return_, 1) := by decide +kernel
theorem dX6_init_0 : decode cX6_init 0 = .ok (.aload_n 0, 1) := by decide +kernel
theorem dX6_init_1 : decode cX6_init 1 = .ok (.invokespecial 3, 3) := by decide +kernel
theorem dX6_init_4 : decode cX6_init 4 = .ok (.aload_n 0, 1) := by decide +kernel
theorem dX6_init_5 : decode cX6_init 5 = .ok (.new 9, 3) := by decide +kernel
theorem dX6_init_8 : decode cX6_init 8 = .ok (.dup, 1) := by decide +kernel
theorem dX6_init_9 : decode cX6_init 9 = .ok (.invokespecial 11, 3) := by decide +kernel
theorem dX6_init_12 : decode cX6_init 12 = .ok (.putfield 12, 3) := by decide +kernel
theorem dX6_init_15 : decode cX6_init 15 = .ok (.aload_n 0, 1) := by decide +kernel
theorem dX6_init_16 : decode cX6_init 16 = .ok (.new 18, 3) := by decide +kernel
theorem dX6_init_19 : decode cX6_init 19 = .ok (.dup, 1) := by decide +kernel
theorem dX6_init_20 : decode cX6_init 20 = .ok (.invokespecial 20, 3) := by decide +kernel
theorem dX6_init_23 : decode cX6_init 23 = .ok (.putfield 21, 3) := by decide +kernel
theorem dX6_init_26 : decode cX6_init 26 = .ok (.aload_n 0, 1) := by decide +kernel
theorem dX6_init_27 : decode cX6_init 27 = .ok (.new 25, 3) := by decide +kernel
theorem dX6_init_30 : decode cX6_init 30 = .ok (.dup, 1) := by decide +kernel
theorem dX6_init_31 : decode cX6_init 31 = .ok (.invokespecial 27, 3) := by decide +kernel
theorem dX6_init_34 : decode cX6_init 34 = .ok (.putfield 28, 3) := by decide +kernel
theorem dX6_init_37 : decode cX6_init 37 = .ok (.aload_n 0, 1) := by decide +kernel
theorem dX6_init_38 : decode cX6_init 38 = .ok (.new 32, 3) := by decide +kernel
theorem dX6_init_41 : decode cX6_init 41 = .ok (.dup, 1) := by decide +kernel
theorem dX6_init_42 : decode cX6_init 42 = .ok (.invokespecial 34, 3) := by decide +kernel
theorem dX6_init_45 : decode cX6_init 45 = .ok (.putfield 35, 3) := by decide +kernel
theorem dX6_init_48 : decode cX6_init 48 = .ok (.return_, 1) := by decide +kernel
theorem dX6_start_0 : decode cX6_start 0 = .ok (.aload_n 0, 1) := by decide +kernel
theorem dX6_start_1 : decode cX6_start 1 = .ok (.getfield 12, 3) := by decide +kernel
theorem dX6_start_4 : decode cX6_start 4 = .ok (.aload_n 1, 1) := by decide +kernel
theorem dX6_start_5 : decode cX6_start 5 = .ok (.invokevirtual 39, 3) := by decide +kernel
theorem dX6_start_8 : decode cX6_start 8 = .ok (.aload_n 0, 1) := by decide +kernel
theorem dX6_start_9 : decode cX6_start 9 = .ok (.getfield 21, 3) := by decide +kernel
theorem dX6_start_12 : decode cX6_start 12 = .ok (.aload_n 2, 1) := by decide +kernel
theorem dX6_start_13 : decode cX6_start 13 = .ok (.invokevirtual 43, 3) := by decide +kernel
theorem dX6_start_16 : decode cX6_start 16 = .ok (.aload_n 0, 1) := by decide +kernel
theorem dX6_start_17 : decode cX6_start 17 = .ok (.getfield 28, 3) := by decide +kernel
theorem dX6_start_20 : decode cX6_start 20 = .ok (.aload_n 0, 1) := by decide +kernel
theorem dX6_start_21 : decode cX6_start 21 = .ok (.getfield 12, 3) := by decide +kernel
theorem dX6_start_24 : decode cX6_start 24 = .ok (.getfield 46, 3) := by decide +kernel
theorem dX6_start_27 : decode cX6_start 27 = .ok (.iconst 1, 1) := by decide +kernel
theorem dX6_start_28 : decode cX6_start 28 = .ok (.iaload, 1) := by decide +kernel
theorem dX6_start_29 : decode cX6_start 29 = .ok (.invokevirtual 50, 3) := by decide +kernel
theorem dX6_start_32 : decode cX6_start 32 = .ok (.aload_n 0, 1) := by decide +kernel
theorem dX6_start_33 : decode cX6_start 33 = .ok (.iconst 1, 1) := by decide +kernel
theorem dX6_start_34 : decode cX6_start 34 = .ok (.putfield 54, 3) := by decide +kernel
theorem dX6_start_37 : decode cX6_start 37 = .ok (.return_, 1) := by decide +kernel
theorem dX6_take_0 : decode cX6_take 0 = .ok (.aload_n 0, 1) := by decide +kernel
theorem dX6_take_1 : decode cX6_take 1 = .ok (.getfield 12, 3) := by decide +kernel
theorem dX6_take_4 : decode cX6_take 4 = .ok (.aload_n 1, 1) := by decide +kernel
theorem dX6_take_5 : decode cX6_take 5 = .ok (.getfield 12, 3) := by decide +kernel
theorem dX6_take_8 : decode cX6_take 8 = .ok (.invokevirtual 39, 3) := by decide +kernel
theorem dX6_take_11 : decode cX6_take 11 = .ok (.aload_n 0, 1) := by decide +kernel
theorem dX6_take_12 : decode cX6_take 12 = .ok (.getfield 21, 3) := by decide +kernel
theorem dX6_take_15 : decode cX6_take 15 = .ok (.aload_n 1, 1) := by decide +kernel
theorem dX6_take_16 : decode cX6_take 16 = .ok (.getfield 21, 3) := by decide +kernel
theorem dX6_take_19 : decode cX6_take 19 = .ok (.invokevirtual 43, 3) := by decide +kernel
theorem dX6_take_22 : decode cX6_take 22 = .ok (.aload_n 0, 1) := by decide +kernel
theorem dX6_take_23 : decode cX6_take 23 = .ok (.getfield 28, 3) := by decide +kernel
theorem dX6_take_26 : decode cX6_take 26 = .ok (.aload_n 1, 1) := by decide +kernel
theorem dX6_take_27 : decode cX6_take 27 = .ok (.getfield 28, 3) := by decide +kernel
theorem dX6_take_30 : decode cX6_take 30 = .ok (.invokevirtual 58, 3) := by decide +kernel
theorem dX6_take_33 : decode cX6_take 33 = .ok (.aload_n 0, 1) := by decide +kernel
theorem dX6_take_34 : decode cX6_take 34 = .ok (.getfield 35, 3) := by decide +kernel
theorem dX6_take_37 : decode cX6_take 37 = .ok (.aload_n 1, 1) := by decide +kernel
theorem dX6_take_38 : decode cX6_take 38 = .ok (.getfield 35, 3) := by decide +kernel
theorem dX6_take_41 : decode cX6_take 41 = .ok (.invokevirtual 61, 3) := by decide +kernel
theorem dX6_take_44 : decode cX6_take 44 = .ok (.aload_n 0, 1) := by decide +kernel
theorem dX6_take_45 : decode cX6_take 45 = .ok (.aload_n 1, 1) := by decide +kernel
theorem dX6_take_46 : decode cX6_take 46 = .ok (.getfield 54, 3) := by decide +kernel
theorem dX6_take_49 : decode cX6_take 49 = .ok (.putfield 54, 3) := by decide +kernel
theorem dX6_take_52 : decode cX6_take 52 = .ok (.return_, 1) := by decide +kernel
theorem dX6_countUndone_0 : decode cX6_countUndone 0 = .ok (.iconst 0, 1) := by decide +kernel
theorem dX6_countUndone_1 : decode cX6_countUndone 1 = .ok (.istore_n 1, 1) := by decide +kernel
theorem dX6_countUndone_2 : decode cX6_countUndone 2 = .ok (.iconst 0, 1) := by decide +kernel
theorem dX6_countUndone_3 : decode cX6_countUndone 3 = .ok (.istore_n 2, 1) := by decide +kernel
theorem dX6_countUndone_4 : decode cX6_countUndone 4 = .ok (.iload_n 2, 1) := by decide +kernel
theorem dX6_countUndone_5 : decode cX6_countUndone 5 = .ok (.aload_n 0, 1) := by decide +kernel
theorem dX6_countUndone_6 : decode cX6_countUndone 6 = .ok (.getfield 28, 3) := by decide +kernel
theorem dX6_countUndone_9 : decode cX6_countUndone 9 = .ok (.getfield 64, 3) := by decide +kernel
theorem dX6_countUndone_12 : decode cX6_countUndone 12 = .ok (.if_icmp .ge 29, 3) := by decide +kernel
theorem dX6_countUndone_15 : decode cX6_countUndone 15 = .ok (.iload_n 1, 1) := by decide +kernel
theorem dX6_countUndone_16 : decode cX6_countUndone 16 = .ok (.aload_n 0, 1) := by decide +kernel
theorem dX6_countUndone_17 : decode cX6_countUndone 17 = .ok (.getfield 35, 3) := by decide +kernel
theorem dX6_countUndone_20 : decode cX6_countUndone 20 = .ok (.iload_n 2, 1) := by decide +kernel
theorem dX6_countUndone_21 : decode cX6_countUndone 21 = .ok (.iconst 4, 1) := by decide +kernel
theorem dX6_countUndone_22 : decode cX6_countUndone 22 = .ok (.invokevirtual 68, 3) := by decide +kernel
theorem dX6_countUndone_25 : decode cX6_countUndone 25 = .ok (.ifCond .eq 7, 3) := by decide +kernel
theorem dX6_countUndone_28 : decode cX6_countUndone 28 = .ok (.iconst 1, 1) := by decide +kernel
theorem dX6_countUndone_29 : decode cX6_countUndone 29 = .ok (.goto 4, 3) := by decide +kernel
theorem dX6_countUndone_32 : decode cX6_countUndone 32 = .ok (.iconst 0, 1) := by decide +kernel
theorem dX6_countUndone_33 : decode cX6_countUndone 33 = .ok (.iadd, 1) := by decide +kernel
theorem dX6_countUndone_34 : decode cX6_countUndone 34 = .ok (.istore_n 1, 1) := by decide +kernel
theorem dX6_countUndone_35 : decode cX6_countUndone 35 = .ok (.iinc 2 1, 3) := by decide +kernel
theorem dX6_countUndone_38 : decode cX6_countUndone 38 = .ok (.goto (-34), 3) := by decide +kernel
theorem dX6_countUndone_41 : decode cX6_countUndone 41 = .ok (.iload_n 1, 1) := by decide +kernel
theorem dX6_countUndone_42 : decode cX6_countUndone 42 = .ok (.ireturn, 1) := by decide +kernel
theorem dX6_passTurn_0 : decode cX6_passTurn 0 = .ok (.aload_n 0, 1) := by decide +kernel
theorem dX6_passTurn_1 : decode cX6_passTurn 1 = .ok (.getfield 28, 3) := by decide +kernel
theorem dX6_passTurn_4 : decode cX6_passTurn 4 = .ok (.getfield 72, 3) := by decide +kernel
theorem dX6_passTurn_7 : decode cX6_passTurn 7 = .ok (.istore_n 1, 1) := by decide +kernel
theorem dX6_passTurn_8 : decode cX6_passTurn 8 = .ok (.iload_n 1, 1) := by decide +kernel
theorem dX6_passTurn_9 : decode cX6_passTurn 9 = .ok (.aload_n 0, 1) := by decide +kernel
theorem dX6_passTurn_10 : decode cX6_passTurn 10 = .ok (.getfield 21, 3) := by decide +kernel
theorem dX6_passTurn_13 : decode cX6_passTurn 13 = .ok (.getfield 75, 3) := by decide +kernel
theorem dX6_passTurn_16 : decode cX6_passTurn 16 = .ok (.if_icmp .ge 43, 3) := by decide +kernel
theorem dX6_passTurn_19 : decode cX6_passTurn 19 = .ok (.aload_n 0, 1) := by decide +kernel
theorem dX6_passTurn_20 : decode cX6_passTurn 20 = .ok (.getfield 21, 3) := by decide +kernel
theorem dX6_passTurn_23 : decode cX6_passTurn 23 = .ok (.iload_n 1, 1) := by decide +kernel
theorem dX6_passTurn_24 : decode cX6_passTurn 24 = .ok (.invokevirtual 78, 3) := by decide +kernel
theorem dX6_passTurn_27 : decode cX6_passTurn 27 = .ok (.ifCond .ne 32, 3) := by decide +kernel
theorem dX6_passTurn_30 : decode cX6_passTurn 30 = .ok (.aload_n 0, 1) := by decide +kernel
theorem dX6_passTurn_31 : decode cX6_passTurn 31 = .ok (.aload_n 0, 1) := by decide +kernel
theorem dX6_passTurn_32 : decode cX6_passTurn 32 = .ok (.getfield 21, 3) := by decide +kernel
theorem dX6_passTurn_35 : decode cX6_passTurn 35 = .ok (.getfield 82, 3) := by decide +kernel
theorem dX6_passTurn_38 : decode cX6_passTurn 38 = .ok (.iload_n 1, 1) := by decide +kernel
theorem dX6_passTurn_39 : decode cX6_passTurn 39 = .ok (.iaload, 1) := by decide +kernel
theorem dX6_passTurn_40 : decode cX6_passTurn 40 = .ok (.invokevirtual 85, 3) := by decide +kernel
theorem dX6_passTurn_43 : decode cX6_passTurn 43 = .ok (.aload_n 0, 1) := by decide +kernel
theorem dX6_passTurn_44 : decode cX6_passTurn 44 = .ok (.getfield 28, 3) := by decide +kernel
theorem dX6_passTurn_47 : decode cX6_passTurn 47 = .ok (.iload_n 1, 1) := by decide +kernel
theorem dX6_passTurn_48 : decode cX6_passTurn 48 = .ok (.iconst 1, 1) := by decide +kernel
theorem dX6_passTurn_49 : decode cX6_passTurn 49 = .ok (.iadd, 1) := by decide +kernel
theorem dX6_passTurn_50 : decode cX6_passTurn 50 = .ok (.putfield 72, 3) := by decide +kernel
theorem dX6_passTurn_53 : decode cX6_passTurn 53 = .ok (.iinc 1 1, 3) := by decide +kernel
theorem dX6_passTurn_56 : decode cX6_passTurn 56 = .ok (.goto (-48), 3) := by decide +kernel
theorem dX6_passTurn_59 : decode cX6_passTurn 59 = .ok (.aload_n 0, 1) := by decide +kernel
theorem dX6_passTurn_60 : decode cX6_passTurn 60 = .ok (.getfield 28, 3) := by decide +kernel
theorem dX6_passTurn_63 : decode cX6_passTurn 63 = .ok (.getfield 72, 3) := by decide +kernel
theorem dX6_passTurn_66 : decode cX6_passTurn 66 = .ok (.istore_n 1, 1) := by decide +kernel
theorem dX6_passTurn_67 : decode cX6_passTurn 67 = .ok (.iload_n 1, 1) := by decide +kernel
theorem dX6_passTurn_68 : decode cX6_passTurn 68 = .ok (.aload_n 0, 1) := by decide +kernel
theorem dX6_passTurn_69 : decode cX6_passTurn 69 = .ok (.getfield 21, 3) := by decide +kernel
theorem dX6_passTurn_72 : decode cX6_passTurn 72 = .ok (.getfield 75, 3) := by decide +kernel
theorem dX6_passTurn_75 : decode cX6_passTurn 75 = .ok (.if_icmp .lt 10, 3) := by decide +kernel
theorem dX6_passTurn_78 : decode cX6_passTurn 78 = .ok (.aload_n 0, 1) := by decide +kernel
theorem dX6_passTurn_79 : decode cX6_passTurn 79 = .ok (.iconst 2, 1) := by decide +kernel
theorem dX6_passTurn_80 : decode cX6_passTurn 80 = .ok (.iconst 0, 1) := by decide +kernel
theorem dX6_passTurn_81 : decode cX6_passTurn 81 = .ok (.invokevirtual 88, 3) := by decide +kernel
theorem dX6_passTurn_84 : decode cX6_passTurn 84 = .ok (.return_, 1) := by decide +kernel
theorem dX6_passTurn_85 : decode cX6_passTurn 85 = .ok (.aload_n 0, 1) := by decide +kernel
theorem dX6_passTurn_86 : decode cX6_passTurn 86 = .ok (.aload_n 0, 1) := by decide +kernel
theorem dX6_passTurn_87 : decode cX6_passTurn 87 = .ok (.getfield 21, 3) := by decide +kernel
theorem dX6_passTurn_90 : decode cX6_passTurn 90 = .ok (.getfield 92, 3) := by decide +kernel
theorem dX6_passTurn_93 : decode cX6_passTurn 93 = .ok (.iload_n 1, 1) := by decide +kernel
theorem dX6_passTurn_94 : decode cX6_passTurn 94 = .ok (.iaload, 1) := by decide +kernel
theorem dX6_passTurn_95 : decode cX6_passTurn 95 = .ok (.aload_n 0, 1) := by decide +kernel
theorem dX6_passTurn_96 : decode cX6_passTurn 96 = .ok (.getfield 21, 3) := by decide +kernel
theorem dX6_passTurn_99 : decode cX6_passTurn 99 = .ok (.getfield 82, 3) := by decide +kernel
theorem dX6_passTurn_102 : decode cX6_passTurn 102 = .ok (.iload_n 1, 1) := by decide +kernel
theorem dX6_passTurn_103 : decode cX6_passTurn 103 = .ok (.iaload, 1) := by decide +kernel
theorem dX6_passTurn_104 : decode cX6_passTurn 104 = .ok (.iconst 2, 1) := by decide +kernel
theorem dX6_passTurn_105 : decode cX6_passTurn 105 = .ok (.if_icmp .ne 7, 3) := by decide +kernel
theorem dX6_passTurn_108 : decode cX6_passTurn 108 = .ok (.iconst 1, 1) := by decide +kernel
theorem dX6_passTurn_109 : decode cX6_passTurn 109 = .ok (.goto 4, 3) := by decide +kernel
theorem dX6_passTurn_112 : decode cX6_passTurn 112 = .ok (.iconst 0, 1) := by decide +kernel
theorem dX6_passTurn_113 : decode cX6_passTurn 113 = .ok (.invokevirtual 88, 3) := by decide +kernel
theorem dX6_passTurn_116 : decode cX6_passTurn 116 = .ok (.aload_n 0, 1) := by decide +kernel
theorem dX6_passTurn_117 : decode cX6_passTurn 117 = .ok (.getfield 28, 3) := by decide +kernel
theorem dX6_passTurn_120 : decode cX6_passTurn 120 = .ok (.dup, 1) := by decide +kernel
theorem dX6_passTurn_121 : decode cX6_passTurn 121 = .ok (.getfield 95, 3) := by decide +kernel
theorem dX6_passTurn_124 : decode cX6_passTurn 124 = .ok (.iconst 1, 1) := by decide +kernel
theorem dX6_passTurn_125 : decode cX6_passTurn 125 = .ok (.iadd, 1) := by decide +kernel
theorem dX6_passTurn_126 : decode cX6_passTurn 126 = .ok (.putfield 95, 3) := by decide +kernel
theorem dX6_passTurn_129 : decode cX6_passTurn 129 = .ok (.aload_n 0, 1) := by decide +kernel
theorem dX6_passTurn_130 : decode cX6_passTurn 130 = .ok (.getfield 28, 3) := by decide +kernel
theorem dX6_passTurn_133 : decode cX6_passTurn 133 = .ok (.getfield 95, 3) := by decide +kernel
theorem dX6_passTurn_136 : decode cX6_passTurn 136 = .ok (.aload_n 0, 1) := by decide +kernel
theorem dX6_passTurn_137 : decode cX6_passTurn 137 = .ok (.getfield 21, 3) := by decide +kernel
theorem dX6_passTurn_140 : decode cX6_passTurn 140 = .ok (.getfield 98, 3) := by decide +kernel
theorem dX6_passTurn_143 : decode cX6_passTurn 143 = .ok (.iload_n 1, 1) := by decide +kernel
theorem dX6_passTurn_144 : decode cX6_passTurn 144 = .ok (.iaload, 1) := by decide +kernel
theorem dX6_passTurn_145 : decode cX6_passTurn 145 = .ok (.if_icmp .lt 21, 3) := by decide +kernel
theorem dX6_passTurn_148 : decode cX6_passTurn 148 = .ok (.aload_n 0, 1) := by decide +kernel
theorem dX6_passTurn_149 : decode cX6_passTurn 149 = .ok (.getfield 28, 3) := by decide +kernel
theorem dX6_passTurn_152 : decode cX6_passTurn 152 = .ok (.iload_n 1, 1) := by decide +kernel
theorem dX6_passTurn_153 : decode cX6_passTurn 153 = .ok (.iconst 1, 1) := by decide +kernel
theorem dX6_passTurn_154 : decode cX6_passTurn 154 = .ok (.iadd, 1) := by decide +kernel
theorem dX6_passTurn_155 : decode cX6_passTurn 155 = .ok (.putfield 72, 3) := by decide +kernel
theorem dX6_passTurn_158 : decode cX6_passTurn 158 = .ok (.aload_n 0, 1) := by decide +kernel
theorem dX6_passTurn_159 : decode cX6_passTurn 159 = .ok (.getfield 28, 3) := by decide +kernel
theorem dX6_passTurn_162 : decode cX6_passTurn 162 = .ok (.iconst 0, 1) := by decide +kernel
theorem dX6_passTurn_163 : decode cX6_passTurn 163 = .ok (.putfield 95, 3) := by decide +kernel
theorem dX6_passTurn_166 : decode cX6_passTurn 166 = .ok (.return_, 1) := by decide +kernel
theorem dX6_passStep_0 : decode cX6_passStep 0 = .ok (.aload_n 0, 1) := by decide +kernel
theorem dX6_passStep_1 : decode cX6_passStep 1 = .ok (.getfield 21, 3) := by decide +kernel
theorem dX6_passStep_4 : decode cX6_passStep 4 = .ok (.iload_n 1, 1) := by decide +kernel
theorem dX6_passStep_5 : decode cX6_passStep 5 = .ok (.invokevirtual 78, 3) := by decide +kernel
theorem dX6_passStep_8 : decode cX6_passStep 8 = .ok (.ifCond .ne 17, 3) := by decide +kernel
theorem dX6_passStep_11 : decode cX6_passStep 11 = .ok (.aload_n 0, 1) := by decide +kernel
theorem dX6_passStep_12 : decode cX6_passStep 12 = .ok (.aload_n 0, 1) := by decide +kernel
theorem dX6_passStep_13 : decode cX6_passStep 13 = .ok (.getfield 21, 3) := by decide +kernel
theorem dX6_passStep_16 : decode cX6_passStep 16 = .ok (.getfield 82, 3) := by decide +kernel
theorem dX6_passStep_19 : decode cX6_passStep 19 = .ok (.iload_n 1, 1) := by decide +kernel
theorem dX6_passStep_20 : decode cX6_passStep 20 = .ok (.iaload, 1) := by decide +kernel
theorem dX6_passStep_21 : decode cX6_passStep 21 = .ok (.invokevirtual 85, 3) := by decide +kernel
theorem dX6_passStep_24 : decode cX6_passStep 24 = .ok (.return_, 1) := by decide +kernel
theorem dX6_passStep_25 : decode cX6_passStep 25 = .ok (.iconst 0, 1) := by decide +kernel
theorem dX6_passStep_26 : decode cX6_passStep 26 = .ok (.istore_n 2, 1) := by decide +kernel
theorem dX6_passStep_27 : decode cX6_passStep 27 = .ok (.iload_n 2, 1) := by decide +kernel
theorem dX6_passStep_28 : decode cX6_passStep 28 = .ok (.aload_n 0, 1) := by decide +kernel
theorem dX6_passStep_29 : decode cX6_passStep 29 = .ok (.getfield 21, 3) := by decide +kernel
theorem dX6_passStep_32 : decode cX6_passStep 32 = .ok (.getfield 98, 3) := by decide +kernel
theorem dX6_passStep_35 : decode cX6_passStep 35 = .ok (.iload_n 1, 1) := by decide +kernel
theorem dX6_passStep_36 : decode cX6_passStep 36 = .ok (.iaload, 1) := by decide +kernel
theorem dX6_passStep_37 : decode cX6_passStep 37 = .ok (.if_icmp .ge 50, 3) := by decide +kernel
theorem dX6_passStep_40 : decode cX6_passStep 40 = .ok (.aload_n 0, 1) := by decide +kernel
theorem dX6_passStep_41 : decode cX6_passStep 41 = .ok (.getfield 28, 3) := by decide +kernel
theorem dX6_passStep_44 : decode cX6_passStep 44 = .ok (.invokevirtual 101, 3) := by decide +kernel
theorem dX6_passStep_47 : decode cX6_passStep 47 = .ok (.ifCond .ne 40, 3) := by decide +kernel
theorem dX6_passStep_50 : decode cX6_passStep 50 = .ok (.aload_n 0, 1) := by decide +kernel
theorem dX6_passStep_51 : decode cX6_passStep 51 = .ok (.aload_n 0, 1) := by decide +kernel
theorem dX6_passStep_52 : decode cX6_passStep 52 = .ok (.getfield 21, 3) := by decide +kernel
theorem dX6_passStep_55 : decode cX6_passStep 55 = .ok (.getfield 92, 3) := by decide +kernel
theorem dX6_passStep_58 : decode cX6_passStep 58 = .ok (.iload_n 1, 1) := by decide +kernel
theorem dX6_passStep_59 : decode cX6_passStep 59 = .ok (.iaload, 1) := by decide +kernel
theorem dX6_passStep_60 : decode cX6_passStep 60 = .ok (.aload_n 0, 1) := by decide +kernel
theorem dX6_passStep_61 : decode cX6_passStep 61 = .ok (.getfield 21, 3) := by decide +kernel
theorem dX6_passStep_64 : decode cX6_passStep 64 = .ok (.getfield 82, 3) := by decide +kernel
theorem dX6_passStep_67 : decode cX6_passStep 67 = .ok (.iload_n 1, 1) := by decide +kernel
theorem dX6_passStep_68 : decode cX6_passStep 68 = .ok (.iaload, 1) := by decide +kernel
theorem dX6_passStep_69 : decode cX6_passStep 69 = .ok (.iconst 2, 1) := by decide +kernel
theorem dX6_passStep_70 : decode cX6_passStep 70 = .ok (.if_icmp .ne 7, 3) := by decide +kernel
theorem dX6_passStep_73 : decode cX6_passStep 73 = .ok (.iconst 1, 1) := by decide +kernel
theorem dX6_passStep_74 : decode cX6_passStep 74 = .ok (.goto 4, 3) := by decide +kernel
theorem dX6_passStep_77 : decode cX6_passStep 77 = .ok (.iconst 0, 1) := by decide +kernel
theorem dX6_passStep_78 : decode cX6_passStep 78 = .ok (.invokevirtual 88, 3) := by decide +kernel
theorem dX6_passStep_81 : decode cX6_passStep 81 = .ok (.iinc 2 1, 3) := by decide +kernel
theorem dX6_passStep_84 : decode cX6_passStep 84 = .ok (.goto (-57), 3) := by decide +kernel
theorem dX6_passStep_87 : decode cX6_passStep 87 = .ok (.return_, 1) := by decide +kernel
theorem dX6_turnBy_0 : decode cX6_turnBy 0 = .ok (.aload_n 0, 1) := by decide +kernel
theorem dX6_turnBy_1 : decode cX6_turnBy 1 = .ok (.getfield 28, 3) := by decide +kernel
theorem dX6_turnBy_4 : decode cX6_turnBy 4 = .ok (.bipush 10, 2) := by decide +kernel
theorem dX6_turnBy_6 : decode cX6_turnBy 6 = .ok (.iload_n 1, 1) := by decide +kernel
theorem dX6_turnBy_7 : decode cX6_turnBy 7 = .ok (.imul, 1) := by decide +kernel
theorem dX6_turnBy_8 : decode cX6_turnBy 8 = .ok (.invokevirtual 105, 3) := by decide +kernel
theorem dX6_turnBy_11 : decode cX6_turnBy 11 = .ok (.aload_n 0, 1) := by decide +kernel
theorem dX6_turnBy_12 : decode cX6_turnBy 12 = .ok (.getfield 28, 3) := by decide +kernel
theorem dX6_turnBy_15 : decode cX6_turnBy 15 = .ok (.aload_n 0, 1) := by decide +kernel
theorem dX6_turnBy_16 : decode cX6_turnBy 16 = .ok (.getfield 12, 3) := by decide +kernel
theorem dX6_turnBy_19 : decode cX6_turnBy 19 = .ok (.invokevirtual 108, 3) := by decide +kernel
theorem dX6_turnBy_22 : decode cX6_turnBy 22 = .ok (.aload_n 0, 1) := by decide +kernel
theorem dX6_turnBy_23 : decode cX6_turnBy 23 = .ok (.iload_n 2, 1) := by decide +kernel
theorem dX6_turnBy_24 : decode cX6_turnBy 24 = .ok (.invokevirtual 111, 3) := by decide +kernel
theorem dX6_turnBy_27 : decode cX6_turnBy 27 = .ok (.iload_n 2, 1) := by decide +kernel
theorem dX6_turnBy_28 : decode cX6_turnBy 28 = .ok (.ifCond .eq 14, 3) := by decide +kernel
theorem dX6_turnBy_31 : decode cX6_turnBy 31 = .ok (.aload_n 0, 1) := by decide +kernel
theorem dX6_turnBy_32 : decode cX6_turnBy 32 = .ok (.getfield 28, 3) := by decide +kernel
theorem dX6_turnBy_35 : decode cX6_turnBy 35 = .ok (.iconst 1, 1) := by decide +kernel
theorem dX6_turnBy_36 : decode cX6_turnBy 36 = .ok (.putfield 115, 3) := by decide +kernel
theorem dX6_turnBy_39 : decode cX6_turnBy 39 = .ok (.goto 17, 3) := by decide +kernel
theorem dX6_turnBy_42 : decode cX6_turnBy 42 = .ok (.aload_n 0, 1) := by decide +kernel
theorem dX6_turnBy_43 : decode cX6_turnBy 43 = .ok (.getfield 28, 3) := by decide +kernel
theorem dX6_turnBy_46 : decode cX6_turnBy 46 = .ok (.getfield 115, 3) := by decide +kernel
theorem dX6_turnBy_49 : decode cX6_turnBy 49 = .ok (.ifCond .eq 7, 3) := by decide +kernel
theorem dX6_turnBy_52 : decode cX6_turnBy 52 = .ok (.aload_n 0, 1) := by decide +kernel
theorem dX6_turnBy_53 : decode cX6_turnBy 53 = .ok (.invokevirtual 118, 3) := by decide +kernel
theorem dX6_turnBy_56 : decode cX6_turnBy 56 = .ok (.aload_n 0, 1) := by decide +kernel
theorem dX6_turnBy_57 : decode cX6_turnBy 57 = .ok (.getfield 28, 3) := by decide +kernel
theorem dX6_turnBy_60 : decode cX6_turnBy 60 = .ok (.dup, 1) := by decide +kernel
theorem dX6_turnBy_61 : decode cX6_turnBy 61 = .ok (.getfield 121, 3) := by decide +kernel
theorem dX6_turnBy_64 : decode cX6_turnBy 64 = .ok (.iconst 1, 1) := by decide +kernel
theorem dX6_turnBy_65 : decode cX6_turnBy 65 = .ok (.iadd, 1) := by decide +kernel
theorem dX6_turnBy_66 : decode cX6_turnBy 66 = .ok (.putfield 121, 3) := by decide +kernel
theorem dX6_turnBy_69 : decode cX6_turnBy 69 = .ok (.return_, 1) := by decide +kernel
theorem dX6_handle_0 : decode cX6_handle 0 = .ok (.iload_n 1, 1) := by decide +kernel
theorem dX6_handle_1 : decode cX6_handle 1 = .ok (.iconst 3, 1) := by decide +kernel
theorem dX6_handle_2 : decode cX6_handle 2 = .ok (.if_icmp .ne 13, 3) := by decide +kernel
theorem dX6_handle_5 : decode cX6_handle 5 = .ok (.aload_n 0, 1) := by decide +kernel
theorem dX6_handle_6 : decode cX6_handle 6 = .ok (.getfield 28, 3) := by decide +kernel
theorem dX6_handle_9 : decode cX6_handle 9 = .ok (.invokevirtual 124, 3) := by decide +kernel
theorem dX6_handle_12 : decode cX6_handle 12 = .ok (.goto 27, 3) := by decide +kernel
theorem dX6_handle_15 : decode cX6_handle 15 = .ok (.iload_n 1, 1) := by decide +kernel
theorem dX6_handle_16 : decode cX6_handle 16 = .ok (.iconst 4, 1) := by decide +kernel
theorem dX6_handle_17 : decode cX6_handle 17 = .ok (.if_icmp .ne 10, 3) := by decide +kernel
theorem dX6_handle_20 : decode cX6_handle 20 = .ok (.aload_n 0, 1) := by decide +kernel
theorem dX6_handle_21 : decode cX6_handle 21 = .ok (.invokevirtual 127, 3) := by decide +kernel
theorem dX6_handle_24 : decode cX6_handle 24 = .ok (.goto 15, 3) := by decide +kernel
theorem dX6_handle_27 : decode cX6_handle 27 = .ok (.iload_n 1, 1) := by decide +kernel
theorem dX6_handle_28 : decode cX6_handle 28 = .ok (.iconst 5, 1) := by decide +kernel
theorem dX6_handle_29 : decode cX6_handle 29 = .ok (.if_icmp .ne 10, 3) := by decide +kernel
theorem dX6_handle_32 : decode cX6_handle 32 = .ok (.aload_n 0, 1) := by decide +kernel
theorem dX6_handle_33 : decode cX6_handle 33 = .ok (.getfield 28, 3) := by decide +kernel
theorem dX6_handle_36 : decode cX6_handle 36 = .ok (.invokevirtual 130, 3) := by decide +kernel
theorem dX6_handle_39 : decode cX6_handle 39 = .ok (.return_, 1) := by decide +kernel
theorem dX6_tearOverfull_0 : decode cX6_tearOverfull 0 = .ok (.aload_n 0, 1) := by decide +kernel
theorem dX6_tearOverfull_1 : decode cX6_tearOverfull 1 = .ok (.getfield 12, 3) := by decide +kernel
theorem dX6_tearOverfull_4 : decode cX6_tearOverfull 4 = .ok (.getfield 46, 3) := by decide +kernel
theorem dX6_tearOverfull_7 : decode cX6_tearOverfull 7 = .ok (.iconst 3, 1) := by decide +kernel
theorem dX6_tearOverfull_8 : decode cX6_tearOverfull 8 = .ok (.iaload, 1) := by decide +kernel
theorem dX6_tearOverfull_9 : decode cX6_tearOverfull 9 = .ok (.istore_n 2, 1) := by decide +kernel
theorem dX6_tearOverfull_10 : decode cX6_tearOverfull 10 = .ok (.aload_n 0, 1) := by decide +kernel
theorem dX6_tearOverfull_11 : decode cX6_tearOverfull 11 = .ok (.getfield 28, 3) := by decide +kernel
theorem dX6_tearOverfull_14 : decode cX6_tearOverfull 14 = .ok (.getfield 133, 3) := by decide +kernel
theorem dX6_tearOverfull_17 : decode cX6_tearOverfull 17 = .ok (.astore_n 3, 1) := by decide +kernel
theorem dX6_tearOverfull_18 : decode cX6_tearOverfull 18 = .ok (.aload_n 0, 1) := by decide +kernel
theorem dX6_tearOverfull_19 : decode cX6_tearOverfull 19 = .ok (.getfield 28, 3) := by decide +kernel
theorem dX6_tearOverfull_22 : decode cX6_tearOverfull 22 = .ok (.getfield 136, 3) := by decide +kernel
theorem dX6_tearOverfull_25 : decode cX6_tearOverfull 25 = .ok (.astore 4, 2) := by decide +kernel
theorem dX6_tearOverfull_27 : decode cX6_tearOverfull 27 = .ok (.aload_n 0, 1) := by decide +kernel
theorem dX6_tearOverfull_28 : decode cX6_tearOverfull 28 = .ok (.getfield 28, 3) := by decide +kernel
theorem dX6_tearOverfull_31 : decode cX6_tearOverfull 31 = .ok (.getfield 139, 3) := by decide +kernel
theorem dX6_tearOverfull_34 : decode cX6_tearOverfull 34 = .ok (.astore 5, 2) := by decide +kernel
theorem dX6_tearOverfull_36 : decode cX6_tearOverfull 36 = .ok (.iconst 0, 1) := by decide +kernel
theorem dX6_tearOverfull_37 : decode cX6_tearOverfull 37 = .ok (.istore 6, 2) := by decide +kernel
theorem dX6_tearOverfull_39 : decode cX6_tearOverfull 39 = .ok (.iload 6, 2) := by decide +kernel
theorem dX6_tearOverfull_41 : decode cX6_tearOverfull 41 = .ok (.bipush 24, 2) := by decide +kernel
theorem dX6_tearOverfull_43 : decode cX6_tearOverfull 43 = .ok (.if_icmp .ge 114, 3) := by decide +kernel
theorem dX6_tearOverfull_46 : decode cX6_tearOverfull 46 = .ok (.aload_n 3, 1) := by decide +kernel
theorem dX6_tearOverfull_47 : decode cX6_tearOverfull 47 = .ok (.iload 6, 2) := by decide +kernel
theorem dX6_tearOverfull_49 : decode cX6_tearOverfull 49 = .ok (.iaload, 1) := by decide +kernel
theorem dX6_tearOverfull_50 : decode cX6_tearOverfull 50 = .ok (.iconst 2, 1) := by decide +kernel
theorem dX6_tearOverfull_51 : decode cX6_tearOverfull 51 = .ok (.aload 4, 2) := by decide +kernel
theorem dX6_tearOverfull_53 : decode cX6_tearOverfull 53 = .ok (.iload 6, 2) := by decide +kernel
theorem dX6_tearOverfull_55 : decode cX6_tearOverfull 55 = .ok (.iaload, 1) := by decide +kernel
theorem dX6_tearOverfull_56 : decode cX6_tearOverfull 56 = .ok (.imul, 1) := by decide +kernel
theorem dX6_tearOverfull_57 : decode cX6_tearOverfull 57 = .ok (.aload 5, 2) := by decide +kernel
theorem dX6_tearOverfull_59 : decode cX6_tearOverfull 59 = .ok (.iload 6, 2) := by decide +kernel
theorem dX6_tearOverfull_61 : decode cX6_tearOverfull 61 = .ok (.iaload, 1) := by decide +kernel
theorem dX6_tearOverfull_62 : decode cX6_tearOverfull 62 = .ok (.iadd, 1) := by decide +kernel
theorem dX6_tearOverfull_63 : decode cX6_tearOverfull 63 = .ok (.iload_n 2, 1) := by decide +kernel
theorem dX6_tearOverfull_64 : decode cX6_tearOverfull 64 = .ok (.iadd, 1) := by decide +kernel
theorem dX6_tearOverfull_65 : decode cX6_tearOverfull 65 = .ok (.if_icmp .le 86, 3) := by decide +kernel
theorem dX6_tearOverfull_68 : decode cX6_tearOverfull 68 = .ok (.aload_n 0, 1) := by decide +kernel
theorem dX6_tearOverfull_69 : decode cX6_tearOverfull 69 = .ok (.getfield 28, 3) := by decide +kernel
theorem dX6_tearOverfull_72 : decode cX6_tearOverfull 72 = .ok (.getfield 142, 3) := by decide +kernel
theorem dX6_tearOverfull_75 : decode cX6_tearOverfull 75 = .ok (.iload 6, 2) := by decide +kernel
theorem dX6_tearOverfull_77 : decode cX6_tearOverfull 77 = .ok (.iaload, 1) := by decide +kernel
theorem dX6_tearOverfull_78 : decode cX6_tearOverfull 78 = .ok (.ifCond .eq 6, 3) := by decide +kernel
theorem dX6_tearOverfull_81 : decode cX6_tearOverfull 81 = .ok (.goto 70, 3) := by decide +kernel
theorem dX6_tearOverfull_84 : decode cX6_tearOverfull 84 = .ok (.aload 4, 2) := by decide +kernel
theorem dX6_tearOverfull_86 : decode cX6_tearOverfull 86 = .ok (.iload 6, 2) := by decide +kernel
theorem dX6_tearOverfull_88 : decode cX6_tearOverfull 88 = .ok (.iaload, 1) := by decide +kernel
theorem dX6_tearOverfull_89 : decode cX6_tearOverfull 89 = .ok (.bipush 10, 2) := by decide +kernel
theorem dX6_tearOverfull_91 : decode cX6_tearOverfull 91 = .ok (.if_icmp .ge 35, 3) := by decide +kernel
theorem dX6_tearOverfull_94 : decode cX6_tearOverfull 94 = .ok (.aload_n 0, 1) := by decide +kernel
theorem dX6_tearOverfull_95 : decode cX6_tearOverfull 95 = .ok (.iload 6, 2) := by decide +kernel
theorem dX6_tearOverfull_97 : decode cX6_tearOverfull 97 = .ok (.aload_n 0, 1) := by decide +kernel
theorem dX6_tearOverfull_98 : decode cX6_tearOverfull 98 = .ok (.getfield 12, 3) := by decide +kernel
theorem dX6_tearOverfull_101 : decode cX6_tearOverfull 101 = .ok (.getfield 46, 3) := by decide +kernel
theorem dX6_tearOverfull_104 : decode cX6_tearOverfull 104 = .ok (.iconst 4, 1) := by decide +kernel
theorem dX6_tearOverfull_105 : decode cX6_tearOverfull 105 = .ok (.iaload, 1) := by decide +kernel
theorem dX6_tearOverfull_106 : decode cX6_tearOverfull 106 = .ok (.ifCond .ne 8, 3) := by decide +kernel
theorem dX6_tearOverfull_109 : decode cX6_tearOverfull 109 = .ok (.bipush 6, 2) := by decide +kernel
theorem dX6_tearOverfull_111 : decode cX6_tearOverfull 111 = .ok (.goto 4, 3) := by decide +kernel
theorem dX6_tearOverfull_114 : decode cX6_tearOverfull 114 = .ok (.iconst 1, 1) := by decide +kernel
theorem dX6_tearOverfull_115 : decode cX6_tearOverfull 115 = .ok (.aload 4, 2) := by decide +kernel
theorem dX6_tearOverfull_117 : decode cX6_tearOverfull 117 = .ok (.iload 6, 2) := by decide +kernel
theorem dX6_tearOverfull_119 : decode cX6_tearOverfull 119 = .ok (.iaload, 1) := by decide +kernel
theorem dX6_tearOverfull_120 : decode cX6_tearOverfull 120 = .ok (.invokevirtual 145, 3) := by decide +kernel
theorem dX6_tearOverfull_123 : decode cX6_tearOverfull 123 = .ok (.goto 28, 3) := by decide +kernel
theorem dX6_tearOverfull_126 : decode cX6_tearOverfull 126 = .ok (.aload_n 0, 1) := by decide +kernel
theorem dX6_tearOverfull_127 : decode cX6_tearOverfull 127 = .ok (.iload 6, 2) := by decide +kernel
theorem dX6_tearOverfull_129 : decode cX6_tearOverfull 129 = .ok (.iload_n 1, 1) := by decide +kernel
theorem dX6_tearOverfull_130 : decode cX6_tearOverfull 130 = .ok (.ifCond .eq 7, 3) := by decide +kernel
theorem dX6_tearOverfull_133 : decode cX6_tearOverfull 133 = .ok (.iconst 2, 1) := by decide +kernel
theorem dX6_tearOverfull_134 : decode cX6_tearOverfull 134 = .ok (.goto 4, 3) := by decide +kernel
theorem dX6_tearOverfull_137 : decode cX6_tearOverfull 137 = .ok (.iconst 0, 1) := by decide +kernel
theorem dX6_tearOverfull_138 : decode cX6_tearOverfull 138 = .ok (.aload_n 0, 1) := by decide +kernel
theorem dX6_tearOverfull_139 : decode cX6_tearOverfull 139 = .ok (.getfield 28, 3) := by decide +kernel
theorem dX6_tearOverfull_142 : decode cX6_tearOverfull 142 = .ok (.getfield 149, 3) := by decide +kernel
theorem dX6_tearOverfull_145 : decode cX6_tearOverfull 145 = .ok (.iload 6, 2) := by decide +kernel
theorem dX6_tearOverfull_147 : decode cX6_tearOverfull 147 = .ok (.iaload, 1) := by decide +kernel
theorem dX6_tearOverfull_148 : decode cX6_tearOverfull 148 = .ok (.invokevirtual 145, 3) := by decide +kernel
theorem dX6_tearOverfull_151 : decode cX6_tearOverfull 151 = .ok (.iinc 6 1, 3) := by decide +kernel
theorem dX6_tearOverfull_154 : decode cX6_tearOverfull 154 = .ok (.goto (-115), 3) := by decide +kernel
theorem dX6_tearOverfull_157 : decode cX6_tearOverfull 157 = .ok (.return_, 1) := by decide +kernel
theorem dX6_tearUndone_0 : decode cX6_tearUndone 0 = .ok (.aload_n 0, 1) := by decide +kernel
theorem dX6_tearUndone_1 : decode cX6_tearUndone 1 = .ok (.getfield 12, 3) := by decide +kernel
theorem dX6_tearUndone_4 : decode cX6_tearUndone 4 = .ok (.getfield 46, 3) := by decide +kernel
theorem dX6_tearUndone_7 : decode cX6_tearUndone 7 = .ok (.iconst 2, 1) := by decide +kernel
theorem dX6_tearUndone_8 : decode cX6_tearUndone 8 = .ok (.iaload, 1) := by decide +kernel
theorem dX6_tearUndone_9 : decode cX6_tearUndone 9 = .ok (.iconst 5, 1) := by decide +kernel
theorem dX6_tearUndone_10 : decode cX6_tearUndone 10 = .ok (.if_icmp .lt 7, 3) := by decide +kernel
theorem dX6_tearUndone_13 : decode cX6_tearUndone 13 = .ok (.iconst 5, 1) := by decide +kernel
theorem dX6_tearUndone_14 : decode cX6_tearUndone 14 = .ok (.goto 4, 3) := by decide +kernel
theorem dX6_tearUndone_17 : decode cX6_tearUndone 17 = .ok (.iconst 4, 1) := by decide +kernel
theorem dX6_tearUndone_18 : decode cX6_tearUndone 18 = .ok (.istore_n 1, 1) := by decide +kernel
theorem dX6_tearUndone_19 : decode cX6_tearUndone 19 = .ok (.iconst 0, 1) := by decide +kernel
theorem dX6_tearUndone_20 : decode cX6_tearUndone 20 = .ok (.istore_n 2, 1) := by decide +kernel
theorem dX6_tearUndone_21 : decode cX6_tearUndone 21 = .ok (.iload_n 2, 1) := by decide +kernel
theorem dX6_tearUndone_22 : decode cX6_tearUndone 22 = .ok (.bipush 24, 2) := by decide +kernel
theorem dX6_tearUndone_24 : decode cX6_tearUndone 24 = .ok (.if_icmp .ge 81, 3) := by decide +kernel
theorem dX6_tearUndone_27 : decode cX6_tearUndone 27 = .ok (.aload_n 0, 1) := by decide +kernel
theorem dX6_tearUndone_28 : decode cX6_tearUndone 28 = .ok (.getfield 28, 3) := by decide +kernel
theorem dX6_tearUndone_31 : decode cX6_tearUndone 31 = .ok (.getfield 142, 3) := by decide +kernel
theorem dX6_tearUndone_34 : decode cX6_tearUndone 34 = .ok (.iload_n 2, 1) := by decide +kernel
theorem dX6_tearUndone_35 : decode cX6_tearUndone 35 = .ok (.iaload, 1) := by decide +kernel
theorem dX6_tearUndone_36 : decode cX6_tearUndone 36 = .ok (.ifCond .ne 63, 3) := by decide +kernel
theorem dX6_tearUndone_39 : decode cX6_tearUndone 39 = .ok (.aload_n 0, 1) := by decide +kernel
theorem dX6_tearUndone_40 : decode cX6_tearUndone 40 = .ok (.getfield 28, 3) := by decide +kernel
theorem dX6_tearUndone_43 : decode cX6_tearUndone 43 = .ok (.getfield 149, 3) := by decide +kernel
theorem dX6_tearUndone_46 : decode cX6_tearUndone 46 = .ok (.iload_n 2, 1) := by decide +kernel
theorem dX6_tearUndone_47 : decode cX6_tearUndone 47 = .ok (.iaload, 1) := by decide +kernel
theorem dX6_tearUndone_48 : decode cX6_tearUndone 48 = .ok (.bipush 60, 2) := by decide +kernel
theorem dX6_tearUndone_50 : decode cX6_tearUndone 50 = .ok (.if_icmp .ge 49, 3) := by decide +kernel
theorem dX6_tearUndone_53 : decode cX6_tearUndone 53 = .ok (.aload_n 0, 1) := by decide +kernel
theorem dX6_tearUndone_54 : decode cX6_tearUndone 54 = .ok (.getfield 28, 3) := by decide +kernel
theorem dX6_tearUndone_57 : decode cX6_tearUndone 57 = .ok (.getfield 139, 3) := by decide +kernel
theorem dX6_tearUndone_60 : decode cX6_tearUndone 60 = .ok (.iload_n 2, 1) := by decide +kernel
theorem dX6_tearUndone_61 : decode cX6_tearUndone 61 = .ok (.iaload, 1) := by decide +kernel
theorem dX6_tearUndone_62 : decode cX6_tearUndone 62 = .ok (.bipush 50, 2) := by decide +kernel
theorem dX6_tearUndone_64 : decode cX6_tearUndone 64 = .ok (.if_icmp .ge 35, 3) := by decide +kernel
theorem dX6_tearUndone_67 : decode cX6_tearUndone 67 = .ok (.aload_n 0, 1) := by decide +kernel
theorem dX6_tearUndone_68 : decode cX6_tearUndone 68 = .ok (.getfield 28, 3) := by decide +kernel
theorem dX6_tearUndone_71 : decode cX6_tearUndone 71 = .ok (.getfield 133, 3) := by decide +kernel
theorem dX6_tearUndone_74 : decode cX6_tearUndone 74 = .ok (.iload_n 2, 1) := by decide +kernel
theorem dX6_tearUndone_75 : decode cX6_tearUndone 75 = .ok (.iaload, 1) := by decide +kernel
theorem dX6_tearUndone_76 : decode cX6_tearUndone 76 = .ok (.bipush 40, 2) := by decide +kernel
theorem dX6_tearUndone_78 : decode cX6_tearUndone 78 = .ok (.if_icmp .le 21, 3) := by decide +kernel
theorem dX6_tearUndone_81 : decode cX6_tearUndone 81 = .ok (.aload_n 0, 1) := by decide +kernel
theorem dX6_tearUndone_82 : decode cX6_tearUndone 82 = .ok (.iload_n 2, 1) := by decide +kernel
theorem dX6_tearUndone_83 : decode cX6_tearUndone 83 = .ok (.iload_n 1, 1) := by decide +kernel
theorem dX6_tearUndone_84 : decode cX6_tearUndone 84 = .ok (.bipush 50, 2) := by decide +kernel
theorem dX6_tearUndone_86 : decode cX6_tearUndone 86 = .ok (.aload_n 0, 1) := by decide +kernel
theorem dX6_tearUndone_87 : decode cX6_tearUndone 87 = .ok (.getfield 28, 3) := by decide +kernel
theorem dX6_tearUndone_90 : decode cX6_tearUndone 90 = .ok (.getfield 139, 3) := by decide +kernel
theorem dX6_tearUndone_93 : decode cX6_tearUndone 93 = .ok (.iload_n 2, 1) := by decide +kernel
theorem dX6_tearUndone_94 : decode cX6_tearUndone 94 = .ok (.iaload, 1) := by decide +kernel
theorem dX6_tearUndone_95 : decode cX6_tearUndone 95 = .ok (.isub, 1) := by decide +kernel
theorem dX6_tearUndone_96 : decode cX6_tearUndone 96 = .ok (.invokevirtual 145, 3) := by decide +kernel
theorem dX6_tearUndone_99 : decode cX6_tearUndone 99 = .ok (.iinc 2 1, 3) := by decide +kernel
theorem dX6_tearUndone_102 : decode cX6_tearUndone 102 = .ok (.goto (-81), 3) := by decide +kernel
theorem dX6_tearUndone_105 : decode cX6_tearUndone 105 = .ok (.return_, 1) := by decide +kernel
theorem dX6_knockDown_0 : decode cX6_knockDown 0 = .ok (.iconst 0, 1) := by decide +kernel
theorem dX6_knockDown_1 : decode cX6_knockDown 1 = .ok (.istore_n 1, 1) := by decide +kernel
theorem dX6_knockDown_2 : decode cX6_knockDown 2 = .ok (.iload_n 1, 1) := by decide +kernel
theorem dX6_knockDown_3 : decode cX6_knockDown 3 = .ok (.bipush 24, 2) := by decide +kernel
theorem dX6_knockDown_5 : decode cX6_knockDown 5 = .ok (.if_icmp .ge 81, 3) := by decide +kernel
theorem dX6_knockDown_8 : decode cX6_knockDown 8 = .ok (.aload_n 0, 1) := by decide +kernel
theorem dX6_knockDown_9 : decode cX6_knockDown 9 = .ok (.getfield 28, 3) := by decide +kernel
theorem dX6_knockDown_12 : decode cX6_knockDown 12 = .ok (.getfield 142, 3) := by decide +kernel
theorem dX6_knockDown_15 : decode cX6_knockDown 15 = .ok (.iload_n 1, 1) := by decide +kernel
theorem dX6_knockDown_16 : decode cX6_knockDown 16 = .ok (.iaload, 1) := by decide +kernel
theorem dX6_knockDown_17 : decode cX6_knockDown 17 = .ok (.ifCond .eq 6, 3) := by decide +kernel
theorem dX6_knockDown_20 : decode cX6_knockDown 20 = .ok (.goto 60, 3) := by decide +kernel
theorem dX6_knockDown_23 : decode cX6_knockDown 23 = .ok (.aload_n 0, 1) := by decide +kernel
theorem dX6_knockDown_24 : decode cX6_knockDown 24 = .ok (.getfield 28, 3) := by decide +kernel
theorem dX6_knockDown_27 : decode cX6_knockDown 27 = .ok (.getfield 133, 3) := by decide +kernel
theorem dX6_knockDown_30 : decode cX6_knockDown 30 = .ok (.iload_n 1, 1) := by decide +kernel
theorem dX6_knockDown_31 : decode cX6_knockDown 31 = .ok (.iaload, 1) := by decide +kernel
theorem dX6_knockDown_32 : decode cX6_knockDown 32 = .ok (.aload_n 0, 1) := by decide +kernel
theorem dX6_knockDown_33 : decode cX6_knockDown 33 = .ok (.getfield 28, 3) := by decide +kernel
theorem dX6_knockDown_36 : decode cX6_knockDown 36 = .ok (.getfield 136, 3) := by decide +kernel
theorem dX6_knockDown_39 : decode cX6_knockDown 39 = .ok (.iload_n 1, 1) := by decide +kernel
theorem dX6_knockDown_40 : decode cX6_knockDown 40 = .ok (.iaload, 1) := by decide +kernel
theorem dX6_knockDown_41 : decode cX6_knockDown 41 = .ok (.isub, 1) := by decide +kernel
theorem dX6_knockDown_42 : decode cX6_knockDown 42 = .ok (.istore_n 2, 1) := by decide +kernel
theorem dX6_knockDown_43 : decode cX6_knockDown 43 = .ok (.iload_n 2, 1) := by decide +kernel
theorem dX6_knockDown_44 : decode cX6_knockDown 44 = .ok (.ifCond .le 13, 3) := by decide +kernel
theorem dX6_knockDown_47 : decode cX6_knockDown 47 = .ok (.aload_n 0, 1) := by decide +kernel
theorem dX6_knockDown_48 : decode cX6_knockDown 48 = .ok (.iload_n 1, 1) := by decide +kernel
theorem dX6_knockDown_49 : decode cX6_knockDown 49 = .ok (.iconst 3, 1) := by decide +kernel
theorem dX6_knockDown_50 : decode cX6_knockDown 50 = .ok (.iload_n 2, 1) := by decide +kernel
theorem dX6_knockDown_51 : decode cX6_knockDown 51 = .ok (.invokevirtual 145, 3) := by decide +kernel
theorem dX6_knockDown_54 : decode cX6_knockDown 54 = .ok (.goto 26, 3) := by decide +kernel
theorem dX6_knockDown_57 : decode cX6_knockDown 57 = .ok (.aload_n 0, 1) := by decide +kernel
theorem dX6_knockDown_58 : decode cX6_knockDown 58 = .ok (.getfield 28, 3) := by decide +kernel
theorem dX6_knockDown_61 : decode cX6_knockDown 61 = .ok (.getfield 133, 3) := by decide +kernel
theorem dX6_knockDown_64 : decode cX6_knockDown 64 = .ok (.iload_n 1, 1) := by decide +kernel
theorem dX6_knockDown_65 : decode cX6_knockDown 65 = .ok (.dup2, 1) := by decide +kernel
theorem dX6_knockDown_66 : decode cX6_knockDown 66 = .ok (.iaload, 1) := by decide +kernel
theorem dX6_knockDown_67 : decode cX6_knockDown 67 = .ok (.aload_n 0, 1) := by decide +kernel
theorem dX6_knockDown_68 : decode cX6_knockDown 68 = .ok (.getfield 28, 3) := by decide +kernel
theorem dX6_knockDown_71 : decode cX6_knockDown 71 = .ok (.getfield 133, 3) := by decide +kernel
theorem dX6_knockDown_74 : decode cX6_knockDown 74 = .ok (.iload_n 1, 1) := by decide +kernel
theorem dX6_knockDown_75 : decode cX6_knockDown 75 = .ok (.iaload, 1) := by decide +kernel
theorem dX6_knockDown_76 : decode cX6_knockDown 76 = .ok (.iconst 4, 1) := by decide +kernel
theorem dX6_knockDown_77 : decode cX6_knockDown 77 = .ok (.idiv, 1) := by decide +kernel
theorem dX6_knockDown_78 : decode cX6_knockDown 78 = .ok (.isub, 1) := by decide +kernel
theorem dX6_knockDown_79 : decode cX6_knockDown 79 = .ok (.iastore, 1) := by decide +kernel
theorem dX6_knockDown_80 : decode cX6_knockDown 80 = .ok (.iinc 1 1, 3) := by decide +kernel
theorem dX6_knockDown_83 : decode cX6_knockDown 83 = .ok (.goto (-81), 3) := by decide +kernel
theorem dX6_knockDown_86 : decode cX6_knockDown 86 = .ok (.return_, 1) := by decide +kernel
theorem dX6_tearAs_0 : decode cX6_tearAs 0 = .ok (.aload_n 0, 1) := by decide +kernel
theorem dX6_tearAs_1 : decode cX6_tearAs 1 = .ok (.getfield 35, 3) := by decide +kernel
theorem dX6_tearAs_4 : decode cX6_tearAs 4 = .ok (.aload_n 0, 1) := by decide +kernel
theorem dX6_tearAs_5 : decode cX6_tearAs 5 = .ok (.getfield 28, 3) := by decide +kernel
theorem dX6_tearAs_8 : decode cX6_tearAs 8 = .ok (.iload_n 1, 1) := by decide +kernel
theorem dX6_tearAs_9 : decode cX6_tearAs 9 = .ok (.iload_n 2, 1) := by decide +kernel
theorem dX6_tearAs_10 : decode cX6_tearAs 10 = .ok (.iload_n 3, 1) := by decide +kernel
theorem dX6_tearAs_11 : decode cX6_tearAs 11 = .ok (.invokevirtual 152, 3) := by decide +kernel
theorem dX6_tearAs_14 : decode cX6_tearAs 14 = .ok (.aload_n 0, 1) := by decide +kernel
theorem dX6_tearAs_15 : decode cX6_tearAs 15 = .ok (.getfield 28, 3) := by decide +kernel
theorem dX6_tearAs_18 : decode cX6_tearAs 18 = .ok (.iload_n 1, 1) := by decide +kernel
theorem dX6_tearAs_19 : decode cX6_tearAs 19 = .ok (.invokevirtual 156, 3) := by decide +kernel
theorem dX6_tearAs_22 : decode cX6_tearAs 22 = .ok (.return_, 1) := by decide +kernel
theorem dX7_init_0 : decode cX7_init 0 = .ok (.aload_n 0, 1) := by decide +kernel
theorem dX7_init_1 : decode cX7_init 1 = .ok (.invokespecial 3, 3) := by decide +kernel
theorem dX7_init_4 : decode cX7_init 4 = .ok (.aload_n 0, 1) := by decide +kernel
theorem dX7_init_5 : decode cX7_init 5 = .ok (.new 9, 3) := by decide +kernel
theorem dX7_init_8 : decode cX7_init 8 = .ok (.dup, 1) := by decide +kernel
theorem dX7_init_9 : decode cX7_init 9 = .ok (.invokespecial 11, 3) := by decide +kernel
theorem dX7_init_12 : decode cX7_init 12 = .ok (.putfield 12, 3) := by decide +kernel
theorem dX7_init_15 : decode cX7_init 15 = .ok (.aload_n 0, 1) := by decide +kernel
theorem dX7_init_16 : decode cX7_init 16 = .ok (.new 18, 3) := by decide +kernel
theorem dX7_init_19 : decode cX7_init 19 = .ok (.dup, 1) := by decide +kernel
theorem dX7_init_20 : decode cX7_init 20 = .ok (.invokespecial 20, 3) := by decide +kernel
theorem dX7_init_23 : decode cX7_init 23 = .ok (.putfield 21, 3) := by decide +kernel
theorem dX7_init_26 : decode cX7_init 26 = .ok (.return_, 1) := by decide +kernel
theorem dX7_readFlour_0 : decode cX7_readFlour 0 = .ok (.aload_n 0, 1) := by decide +kernel
theorem dX7_readFlour_1 : decode cX7_readFlour 1 = .ok (.getfield 12, 3) := by decide +kernel
theorem dX7_readFlour_4 : decode cX7_readFlour 4 = .ok (.invokevirtual 25, 3) := by decide +kernel
theorem dX7_readFlour_7 : decode cX7_readFlour 7 = .ok (.aload_n 0, 1) := by decide +kernel
theorem dX7_readFlour_8 : decode cX7_readFlour 8 = .ok (.iconst 0, 1) := by decide +kernel
theorem dX7_readFlour_9 : decode cX7_readFlour 9 = .ok (.putfield 28, 3) := by decide +kernel
theorem dX7_readFlour_12 : decode cX7_readFlour 12 = .ok (.aload_n 0, 1) := by decide +kernel
theorem dX7_readFlour_13 : decode cX7_readFlour 13 = .ok (.iconst 0, 1) := by decide +kernel
theorem dX7_readFlour_14 : decode cX7_readFlour 14 = .ok (.putfield 32, 3) := by decide +kernel
theorem dX7_readFlour_17 : decode cX7_readFlour 17 = .ok (.iconst 0, 1) := by decide +kernel
theorem dX7_readFlour_18 : decode cX7_readFlour 18 = .ok (.istore_n 2, 1) := by decide +kernel
theorem dX7_readFlour_19 : decode cX7_readFlour 19 = .ok (.iload_n 2, 1) := by decide +kernel
theorem dX7_readFlour_20 : decode cX7_readFlour 20 = .ok (.bipush 80, 2) := by decide +kernel
theorem dX7_readFlour_22 : decode cX7_readFlour 22 = .ok (.if_icmp .ge 59, 3) := by decide +kernel
theorem dX7_readFlour_25 : decode cX7_readFlour 25 = .ok (.aload_n 0, 1) := by decide +kernel
theorem dX7_readFlour_26 : decode cX7_readFlour 26 = .ok (.getfield 32, 3) := by decide +kernel
theorem dX7_readFlour_29 : decode cX7_readFlour 29 = .ok (.aload_n 1, 1) := by decide +kernel
theorem dX7_readFlour_30 : decode cX7_readFlour 30 = .ok (.getfield 35, 3) := by decide +kernel
theorem dX7_readFlour_33 : decode cX7_readFlour 33 = .ok (.if_icmp .ge 48, 3) := by decide +kernel
theorem dX7_readFlour_36 : decode cX7_readFlour 36 = .ok (.aload_n 1, 1) := by decide +kernel
theorem dX7_readFlour_37 : decode cX7_readFlour 37 = .ok (.aload_n 0, 1) := by decide +kernel
theorem dX7_readFlour_38 : decode cX7_readFlour 38 = .ok (.getfield 32, 3) := by decide +kernel
theorem dX7_readFlour_41 : decode cX7_readFlour 41 = .ok (.invokevirtual 40, 3) := by decide +kernel
theorem dX7_readFlour_44 : decode cX7_readFlour 44 = .ok (.bipush 32, 2) := by decide +kernel
theorem dX7_readFlour_46 : decode cX7_readFlour 46 = .ok (.if_icmp .ne 16, 3) := by decide +kernel
theorem dX7_readFlour_49 : decode cX7_readFlour 49 = .ok (.aload_n 0, 1) := by decide +kernel
theorem dX7_readFlour_50 : decode cX7_readFlour 50 = .ok (.dup, 1) := by decide +kernel
theorem dX7_readFlour_51 : decode cX7_readFlour 51 = .ok (.getfield 32, 3) := by decide +kernel
theorem dX7_readFlour_54 : decode cX7_readFlour 54 = .ok (.iconst 1, 1) := by decide +kernel
theorem dX7_readFlour_55 : decode cX7_readFlour 55 = .ok (.iadd, 1) := by decide +kernel
theorem dX7_readFlour_56 : decode cX7_readFlour 56 = .ok (.putfield 32, 3) := by decide +kernel
theorem dX7_readFlour_59 : decode cX7_readFlour 59 = .ok (.goto 16, 3) := by decide +kernel
theorem dX7_readFlour_62 : decode cX7_readFlour 62 = .ok (.aload_n 0, 1) := by decide +kernel
theorem dX7_readFlour_63 : decode cX7_readFlour 63 = .ok (.aload_n 1, 1) := by decide +kernel
theorem dX7_readFlour_64 : decode cX7_readFlour 64 = .ok (.invokevirtual 44, 3) := by decide +kernel
theorem dX7_readFlour_67 : decode cX7_readFlour 67 = .ok (.ifCond .ne 8, 3) := by decide +kernel
theorem dX7_readFlour_70 : decode cX7_readFlour 70 = .ok (.aload_n 0, 1) := by decide +kernel
theorem dX7_readFlour_71 : decode cX7_readFlour 71 = .ok (.getfield 32, 3) := by decide +kernel
theorem dX7_readFlour_74 : decode cX7_readFlour 74 = .ok (.ireturn, 1) := by decide +kernel
theorem dX7_readFlour_75 : decode cX7_readFlour 75 = .ok (.iinc 2 1, 3) := by decide +kernel
theorem dX7_readFlour_78 : decode cX7_readFlour 78 = .ok (.goto (-59), 3) := by decide +kernel
theorem dX7_readFlour_81 : decode cX7_readFlour 81 = .ok (.aload_n 0, 1) := by decide +kernel
theorem dX7_readFlour_82 : decode cX7_readFlour 82 = .ok (.getfield 12, 3) := by decide +kernel
theorem dX7_readFlour_85 : decode cX7_readFlour 85 = .ok (.iconst 1, 1) := by decide +kernel
theorem dX7_readFlour_86 : decode cX7_readFlour 86 = .ok (.putfield 48, 3) := by decide +kernel
theorem dX7_readFlour_89 : decode cX7_readFlour 89 = .ok (.bipush (-9), 2) := by decide +kernel
theorem dX7_readFlour_91 : decode cX7_readFlour 91 = .ok (.ireturn, 1) := by decide +kernel
theorem dX7_readDoing_0 : decode cX7_readDoing 0 = .ok (.aload_n 0, 1) := by decide +kernel
theorem dX7_readDoing_1 : decode cX7_readDoing 1 = .ok (.getfield 21, 3) := by decide +kernel
theorem dX7_readDoing_4 : decode cX7_readDoing 4 = .ok (.iconst 0, 1) := by decide +kernel
theorem dX7_readDoing_5 : decode cX7_readDoing 5 = .ok (.putfield 52, 3) := by decide +kernel
theorem dX7_readDoing_8 : decode cX7_readDoing 8 = .ok (.aload_n 0, 1) := by decide +kernel
theorem dX7_readDoing_9 : decode cX7_readDoing 9 = .ok (.iconst 0, 1) := by decide +kernel
theorem dX7_readDoing_10 : decode cX7_readDoing 10 = .ok (.putfield 32, 3) := by decide +kernel
theorem dX7_readDoing_13 : decode cX7_readDoing 13 = .ok (.iconst 0, 1) := by decide +kernel
theorem dX7_readDoing_14 : decode cX7_readDoing 14 = .ok (.istore_n 2, 1) := by decide +kernel
theorem dX7_readDoing_15 : decode cX7_readDoing 15 = .ok (.iload_n 2, 1) := by decide +kernel
theorem dX7_readDoing_16 : decode cX7_readDoing 16 = .ok (.bipush 80, 2) := by decide +kernel
theorem dX7_readDoing_18 : decode cX7_readDoing 18 = .ok (.if_icmp .ge 59, 3) := by decide +kernel
theorem dX7_readDoing_21 : decode cX7_readDoing 21 = .ok (.aload_n 0, 1) := by decide +kernel
theorem dX7_readDoing_22 : decode cX7_readDoing 22 = .ok (.getfield 32, 3) := by decide +kernel
theorem dX7_readDoing_25 : decode cX7_readDoing 25 = .ok (.aload_n 1, 1) := by decide +kernel
theorem dX7_readDoing_26 : decode cX7_readDoing 26 = .ok (.getfield 35, 3) := by decide +kernel
theorem dX7_readDoing_29 : decode cX7_readDoing 29 = .ok (.if_icmp .ge 48, 3) := by decide +kernel
theorem dX7_readDoing_32 : decode cX7_readDoing 32 = .ok (.aload_n 1, 1) := by decide +kernel
theorem dX7_readDoing_33 : decode cX7_readDoing 33 = .ok (.aload_n 0, 1) := by decide +kernel
theorem dX7_readDoing_34 : decode cX7_readDoing 34 = .ok (.getfield 32, 3) := by decide +kernel
theorem dX7_readDoing_37 : decode cX7_readDoing 37 = .ok (.invokevirtual 40, 3) := by decide +kernel
theorem dX7_readDoing_40 : decode cX7_readDoing 40 = .ok (.bipush 32, 2) := by decide +kernel
theorem dX7_readDoing_42 : decode cX7_readDoing 42 = .ok (.if_icmp .ne 16, 3) := by decide +kernel
theorem dX7_readDoing_45 : decode cX7_readDoing 45 = .ok (.aload_n 0, 1) := by decide +kernel
theorem dX7_readDoing_46 : decode cX7_readDoing 46 = .ok (.dup, 1) := by decide +kernel
theorem dX7_readDoing_47 : decode cX7_readDoing 47 = .ok (.getfield 32, 3) := by decide +kernel
theorem dX7_readDoing_50 : decode cX7_readDoing 50 = .ok (.iconst 1, 1) := by decide +kernel
theorem dX7_readDoing_51 : decode cX7_readDoing 51 = .ok (.iadd, 1) := by decide +kernel
theorem dX7_readDoing_52 : decode cX7_readDoing 52 = .ok (.putfield 32, 3) := by decide +kernel
theorem dX7_readDoing_55 : decode cX7_readDoing 55 = .ok (.goto 16, 3) := by decide +kernel
theorem dX7_readDoing_58 : decode cX7_readDoing 58 = .ok (.aload_n 0, 1) := by decide +kernel
theorem dX7_readDoing_59 : decode cX7_readDoing 59 = .ok (.aload_n 1, 1) := by decide +kernel
theorem dX7_readDoing_60 : decode cX7_readDoing 60 = .ok (.invokevirtual 53, 3) := by decide +kernel
theorem dX7_readDoing_63 : decode cX7_readDoing 63 = .ok (.ifCond .ne 8, 3) := by decide +kernel
theorem dX7_readDoing_66 : decode cX7_readDoing 66 = .ok (.aload_n 0, 1) := by decide +kernel
theorem dX7_readDoing_67 : decode cX7_readDoing 67 = .ok (.getfield 32, 3) := by decide +kernel
theorem dX7_readDoing_70 : decode cX7_readDoing 70 = .ok (.ireturn, 1) := by decide +kernel
theorem dX7_readDoing_71 : decode cX7_readDoing 71 = .ok (.iinc 2 1, 3) := by decide +kernel
theorem dX7_readDoing_74 : decode cX7_readDoing 74 = .ok (.goto (-59), 3) := by decide +kernel
theorem dX7_readDoing_77 : decode cX7_readDoing 77 = .ok (.aload_n 0, 1) := by decide +kernel
theorem dX7_readDoing_78 : decode cX7_readDoing 78 = .ok (.getfield 21, 3) := by decide +kernel
theorem dX7_readDoing_81 : decode cX7_readDoing 81 = .ok (.iconst 1, 1) := by decide +kernel
theorem dX7_readDoing_82 : decode cX7_readDoing 82 = .ok (.putfield 56, 3) := by decide +kernel
theorem dX7_readDoing_85 : decode cX7_readDoing 85 = .ok (.bipush (-9), 2) := by decide +kernel
theorem dX7_readDoing_87 : decode cX7_readDoing 87 = .ok (.ireturn, 1) := by decide +kernel
theorem dX7_readItem_0 : decode cX7_readItem 0 = .ok (.aload_n 1, 1) := by decide +kernel
theorem dX7_readItem_1 : decode cX7_readItem 1 = .ok (.aload_n 0, 1) := by decide +kernel
theorem dX7_readItem_2 : decode cX7_readItem 2 = .ok (.getfield 32, 3) := by decide +kernel
theorem dX7_readItem_5 : decode cX7_readItem 5 = .ok (.invokevirtual 40, 3) := by decide +kernel
theorem dX7_readItem_8 : decode cX7_readItem 8 = .ok (.getstatic 57, 3) := by decide +kernel
theorem dX7_readItem_11 : decode cX7_readItem 11 = .ok (.invokestatic 61, 3) := by decide +kernel
theorem dX7_readItem_14 : decode cX7_readItem 14 = .ok (.istore_n 2, 1) := by decide +kernel
theorem dX7_readItem_15 : decode cX7_readItem 15 = .ok (.iload_n 2, 1) := by decide +kernel
theorem dX7_readItem_16 : decode cX7_readItem 16 = .ok (.ifCond .ge 5, 3) := by decide +kernel
theorem dX7_readItem_19 : decode cX7_readItem 19 = .ok (.iconst 0, 1) := by decide +kernel
theorem dX7_readItem_20 : decode cX7_readItem 20 = .ok (.ireturn, 1) := by decide +kernel
theorem dX7_readItem_21 : decode cX7_readItem 21 = .ok (.aload_n 0, 1) := by decide +kernel
theorem dX7_readItem_22 : decode cX7_readItem 22 = .ok (.dup, 1) := by decide +kernel
theorem dX7_readItem_23 : decode cX7_readItem 23 = .ok (.getfield 32, 3) := by decide +kernel
theorem dX7_readItem_26 : decode cX7_readItem 26 = .ok (.iconst 1, 1) := by decide +kernel
theorem dX7_readItem_27 : decode cX7_readItem 27 = .ok (.iadd, 1) := by decide +kernel
theorem dX7_readItem_28 : decode cX7_readItem 28 = .ok (.putfield 32, 3) := by decide +kernel
theorem dX7_readItem_31 : decode cX7_readItem 31 = .ok (.aload_n 1, 1) := by decide +kernel
theorem dX7_readItem_32 : decode cX7_readItem 32 = .ok (.aload_n 0, 1) := by decide +kernel
theorem dX7_readItem_33 : decode cX7_readItem 33 = .ok (.getfield 32, 3) := by decide +kernel
theorem dX7_readItem_36 : decode cX7_readItem 36 = .ok (.invokevirtual 65, 3) := by decide +kernel
theorem dX7_readItem_39 : decode cX7_readItem 39 = .ok (.istore_n 3, 1) := by decide +kernel
theorem dX7_readItem_40 : decode cX7_readItem 40 = .ok (.aload_n 1, 1) := by decide +kernel
theorem dX7_readItem_41 : decode cX7_readItem 41 = .ok (.aload_n 0, 1) := by decide +kernel
theorem dX7_readItem_42 : decode cX7_readItem 42 = .ok (.getfield 32, 3) := by decide +kernel
theorem dX7_readItem_45 : decode cX7_readItem 45 = .ok (.iload_n 3, 1) := by decide +kernel
theorem dX7_readItem_46 : decode cX7_readItem 46 = .ok (.invokevirtual 68, 3) := by decide +kernel
theorem dX7_readItem_49 : decode cX7_readItem 49 = .ok (.istore 4, 2) := by decide +kernel
theorem dX7_readItem_51 : decode cX7_readItem 51 = .ok (.aload_n 0, 1) := by decide +kernel
theorem dX7_readItem_52 : decode cX7_readItem 52 = .ok (.dup, 1) := by decide +kernel
theorem dX7_readItem_53 : decode cX7_readItem 53 = .ok (.getfield 32, 3) := by decide +kernel
theorem dX7_readItem_56 : decode cX7_readItem 56 = .ok (.iload_n 3, 1) := by decide +kernel
theorem dX7_readItem_57 : decode cX7_readItem 57 = .ok (.iadd, 1) := by decide +kernel
theorem dX7_readItem_58 : decode cX7_readItem 58 = .ok (.putfield 32, 3) := by decide +kernel
theorem dX7_readItem_61 : decode cX7_readItem 61 = .ok (.iload_n 3, 1) := by decide +kernel
theorem dX7_readItem_62 : decode cX7_readItem 62 = .ok (.ifCond .eq 23, 3) := by decide +kernel
theorem dX7_readItem_65 : decode cX7_readItem 65 = .ok (.iload 4, 2) := by decide +kernel
theorem dX7_readItem_67 : decode cX7_readItem 67 = .ok (.getstatic 72, 3) := by decide +kernel
theorem dX7_readItem_70 : decode cX7_readItem 70 = .ok (.iload_n 2, 1) := by decide +kernel
theorem dX7_readItem_71 : decode cX7_readItem 71 = .ok (.iaload, 1) := by decide +kernel
theorem dX7_readItem_72 : decode cX7_readItem 72 = .ok (.if_icmp .lt 13, 3) := by decide +kernel
theorem dX7_readItem_75 : decode cX7_readItem 75 = .ok (.iload 4, 2) := by decide +kernel
theorem dX7_readItem_77 : decode cX7_readItem 77 = .ok (.getstatic 75, 3) := by decide +kernel
theorem dX7_readItem_80 : decode cX7_readItem 80 = .ok (.iload_n 2, 1) := by decide +kernel
theorem dX7_readItem_81 : decode cX7_readItem 81 = .ok (.iaload, 1) := by decide +kernel
theorem dX7_readItem_82 : decode cX7_readItem 82 = .ok (.if_icmp .le 5, 3) := by decide +kernel
theorem dX7_readItem_85 : decode cX7_readItem 85 = .ok (.iconst 0, 1) := by decide +kernel
theorem dX7_readItem_86 : decode cX7_readItem 86 = .ok (.ireturn, 1) := by decide +kernel
theorem dX7_readItem_87 : decode cX7_readItem 87 = .ok (.aload_n 0, 1) := by decide +kernel
theorem dX7_readItem_88 : decode cX7_readItem 88 = .ok (.getfield 12, 3) := by decide +kernel
theorem dX7_readItem_91 : decode cX7_readItem 91 = .ok (.getfield 78, 3) := by decide +kernel
theorem dX7_readItem_94 : decode cX7_readItem 94 = .ok (.iload_n 2, 1) := by decide +kernel
theorem dX7_readItem_95 : decode cX7_readItem 95 = .ok (.iload 4, 2) := by decide +kernel
theorem dX7_readItem_97 : decode cX7_readItem 97 = .ok (.iastore, 1) := by decide +kernel
theorem dX7_readItem_98 : decode cX7_readItem 98 = .ok (.aload_n 0, 1) := by decide +kernel
theorem dX7_readItem_99 : decode cX7_readItem 99 = .ok (.dup, 1) := by decide +kernel
theorem dX7_readItem_100 : decode cX7_readItem 100 = .ok (.getfield 28, 3) := by decide +kernel
theorem dX7_readItem_103 : decode cX7_readItem 103 = .ok (.iconst 1, 1) := by decide +kernel
theorem dX7_readItem_104 : decode cX7_readItem 104 = .ok (.iadd, 1) := by decide +kernel
theorem dX7_readItem_105 : decode cX7_readItem 105 = .ok (.putfield 28, 3) := by decide +kernel
theorem dX7_readItem_108 : decode cX7_readItem 108 = .ok (.iconst 1, 1) := by decide +kernel
theorem dX7_readItem_109 : decode cX7_readItem 109 = .ok (.ireturn, 1) := by decide +kernel
theorem dX7_readStep_0 : decode cX7_readStep 0 = .ok (.iconst 1, 1) := by decide +kernel
theorem dX7_readStep_1 : decode cX7_readStep 1 = .ok (.aload_n 1, 1) := by decide +kernel
theorem dX7_readStep_2 : decode cX7_readStep 2 = .ok (.aload_n 0, 1) := by decide +kernel
theorem dX7_readStep_3 : decode cX7_readStep 3 = .ok (.getfield 32, 3) := by decide +kernel
theorem dX7_readStep_6 : decode cX7_readStep 6 = .ok (.invokevirtual 40, 3) := by decide +kernel
theorem dX7_readStep_9 : decode cX7_readStep 9 = .ok (.getstatic 81, 3) := by decide +kernel
theorem dX7_readStep_12 : decode cX7_readStep 12 = .ok (.invokestatic 61, 3) := by decide +kernel
theorem dX7_readStep_15 : decode cX7_readStep 15 = .ok (.iadd, 1) := by decide +kernel
theorem dX7_readStep_16 : decode cX7_readStep 16 = .ok (.istore_n 2, 1) := by decide +kernel
theorem dX7_readStep_17 : decode cX7_readStep 17 = .ok (.iload_n 2, 1) := by decide +kernel
theorem dX7_readStep_18 : decode cX7_readStep 18 = .ok (.iconst 1, 1) := by decide +kernel
theorem dX7_readStep_19 : decode cX7_readStep 19 = .ok (.if_icmp .lt 15, 3) := by decide +kernel
theorem dX7_readStep_22 : decode cX7_readStep 22 = .ok (.aload_n 0, 1) := by decide +kernel
theorem dX7_readStep_23 : decode cX7_readStep 23 = .ok (.getfield 21, 3) := by decide +kernel
theorem dX7_readStep_26 : decode cX7_readStep 26 = .ok (.getfield 52, 3) := by decide +kernel
theorem dX7_readStep_29 : decode cX7_readStep 29 = .ok (.bipush 10, 2) := by decide +kernel
theorem dX7_readStep_31 : decode cX7_readStep 31 = .ok (.if_icmp .lt 5, 3) := by decide +kernel
theorem dX7_readStep_34 : decode cX7_readStep 34 = .ok (.iconst 0, 1) := by decide +kernel
theorem dX7_readStep_35 : decode cX7_readStep 35 = .ok (.ireturn, 1) := by decide +kernel
theorem dX7_readStep_36 : decode cX7_readStep 36 = .ok (.aload_n 0, 1) := by decide +kernel
theorem dX7_readStep_37 : decode cX7_readStep 37 = .ok (.dup, 1) := by decide +kernel
theorem dX7_readStep_38 : decode cX7_readStep 38 = .ok (.getfield 32, 3) := by decide +kernel
theorem dX7_readStep_41 : decode cX7_readStep 41 = .ok (.iconst 1, 1) := by decide +kernel
theorem dX7_readStep_42 : decode cX7_readStep 42 = .ok (.iadd, 1) := by decide +kernel
theorem dX7_readStep_43 : decode cX7_readStep 43 = .ok (.putfield 32, 3) := by decide +kernel
theorem dX7_readStep_46 : decode cX7_readStep 46 = .ok (.iload_n 2, 1) := by decide +kernel
theorem dX7_readStep_47 : decode cX7_readStep 47 = .ok (.iconst 1, 1) := by decide +kernel
theorem dX7_readStep_48 : decode cX7_readStep 48 = .ok (.if_icmp .eq 8, 3) := by decide +kernel
theorem dX7_readStep_51 : decode cX7_readStep 51 = .ok (.iload_n 2, 1) := by decide +kernel
theorem dX7_readStep_52 : decode cX7_readStep 52 = .ok (.iconst 2, 1) := by decide +kernel
theorem dX7_readStep_53 : decode cX7_readStep 53 = .ok (.if_icmp .ne 12, 3) := by decide +kernel
theorem dX7_readStep_56 : decode cX7_readStep 56 = .ok (.aload_n 0, 1) := by decide +kernel
theorem dX7_readStep_57 : decode cX7_readStep 57 = .ok (.aload_n 1, 1) := by decide +kernel
theorem dX7_readStep_58 : decode cX7_readStep 58 = .ok (.iload_n 2, 1) := by decide +kernel
theorem dX7_readStep_59 : decode cX7_readStep 59 = .ok (.invokevirtual 84, 3) := by decide +kernel
theorem dX7_readStep_62 : decode cX7_readStep 62 = .ok (.goto 13, 3) := by decide +kernel
theorem dX7_readStep_65 : decode cX7_readStep 65 = .ok (.aload_n 0, 1) := by decide +kernel
theorem dX7_readStep_66 : decode cX7_readStep 66 = .ok (.getfield 21, 3) := by decide +kernel
theorem dX7_readStep_69 : decode cX7_readStep 69 = .ok (.iload_n 2, 1) := by decide +kernel
theorem dX7_readStep_70 : decode cX7_readStep 70 = .ok (.iconst 0, 1) := by decide +kernel
theorem dX7_readStep_71 : decode cX7_readStep 71 = .ok (.iconst 0, 1) := by decide +kernel
theorem dX7_readStep_72 : decode cX7_readStep 72 = .ok (.invokevirtual 88, 3) := by decide +kernel
theorem dX7_readStep_75 : decode cX7_readStep 75 = .ok (.ireturn, 1) := by decide +kernel
theorem dX7_readLasting_0 : decode cX7_readLasting 0 = .ok (.aload_n 1, 1) := by decide +kernel
theorem dX7_readLasting_1 : decode cX7_readLasting 1 = .ok (.aload_n 0, 1) := by decide +kernel
theorem dX7_readLasting_2 : decode cX7_readLasting 2 = .ok (.getfield 32, 3) := by decide +kernel
theorem dX7_readLasting_5 : decode cX7_readLasting 5 = .ok (.invokevirtual 92, 3) := by decide +kernel
theorem dX7_readLasting_8 : decode cX7_readLasting 8 = .ok (.ifCond .ne 5, 3) := by decide +kernel
theorem dX7_readLasting_11 : decode cX7_readLasting 11 = .ok (.iconst 0, 1) := by decide +kernel
theorem dX7_readLasting_12 : decode cX7_readLasting 12 = .ok (.ireturn, 1) := by decide +kernel
theorem dX7_readLasting_13 : decode cX7_readLasting 13 = .ok (.aload_n 1, 1) := by decide +kernel
theorem dX7_readLasting_14 : decode cX7_readLasting 14 = .ok (.aload_n 0, 1) := by decide +kernel
theorem dX7_readLasting_15 : decode cX7_readLasting 15 = .ok (.getfield 32, 3) := by decide +kernel
theorem dX7_readLasting_18 : decode cX7_readLasting 18 = .ok (.iconst 1, 1) := by decide +kernel
theorem dX7_readLasting_19 : decode cX7_readLasting 19 = .ok (.invokevirtual 68, 3) := by decide +kernel
theorem dX7_readLasting_22 : decode cX7_readLasting 22 = .ok (.istore_n 3, 1) := by decide +kernel
theorem dX7_readLasting_23 : decode cX7_readLasting 23 = .ok (.aload_n 0, 1) := by decide +kernel
theorem dX7_readLasting_24 : decode cX7_readLasting 24 = .ok (.dup, 1) := by decide +kernel
theorem dX7_readLasting_25 : decode cX7_readLasting 25 = .ok (.getfield 32, 3) := by decide +kernel
theorem dX7_readLasting_28 : decode cX7_readLasting 28 = .ok (.iconst 1, 1) := by decide +kernel
theorem dX7_readLasting_29 : decode cX7_readLasting 29 = .ok (.iadd, 1) := by decide +kernel
theorem dX7_readLasting_30 : decode cX7_readLasting 30 = .ok (.putfield 32, 3) := by decide +kernel
theorem dX7_readLasting_33 : decode cX7_readLasting 33 = .ok (.aload_n 1, 1) := by decide +kernel
theorem dX7_readLasting_34 : decode cX7_readLasting 34 = .ok (.aload_n 0, 1) := by decide +kernel
theorem dX7_readLasting_35 : decode cX7_readLasting 35 = .ok (.getfield 32, 3) := by decide +kernel
theorem dX7_readLasting_38 : decode cX7_readLasting 38 = .ok (.invokevirtual 40, 3) := by decide +kernel
theorem dX7_readLasting_41 : decode cX7_readLasting 41 = .ok (.bipush 58, 2) := by decide +kernel
theorem dX7_readLasting_43 : decode cX7_readLasting 43 = .ok (.if_icmp .eq 5, 3) := by decide +kernel
theorem dX7_readLasting_46 : decode cX7_readLasting 46 = .ok (.iconst 0, 1) := by decide +kernel
theorem dX7_readLasting_47 : decode cX7_readLasting 47 = .ok (.ireturn, 1) := by decide +kernel
theorem dX7_readLasting_48 : decode cX7_readLasting 48 = .ok (.aload_n 0, 1) := by decide +kernel
theorem dX7_readLasting_49 : decode cX7_readLasting 49 = .ok (.dup, 1) := by decide +kernel
theorem dX7_readLasting_50 : decode cX7_readLasting 50 = .ok (.getfield 32, 3) := by decide +kernel
theorem dX7_readLasting_53 : decode cX7_readLasting 53 = .ok (.iconst 1, 1) := by decide +kernel
theorem dX7_readLasting_54 : decode cX7_readLasting 54 = .ok (.iadd, 1) := by decide +kernel
theorem dX7_readLasting_55 : decode cX7_readLasting 55 = .ok (.putfield 32, 3) := by decide +kernel
theorem dX7_readLasting_58 : decode cX7_readLasting 58 = .ok (.aload_n 1, 1) := by decide +kernel
theorem dX7_readLasting_59 : decode cX7_readLasting 59 = .ok (.aload_n 0, 1) := by decide +kernel
theorem dX7_readLasting_60 : decode cX7_readLasting 60 = .ok (.getfield 32, 3) := by decide +kernel
theorem dX7_readLasting_63 : decode cX7_readLasting 63 = .ok (.invokevirtual 65, 3) := by decide +kernel
theorem dX7_readLasting_66 : decode cX7_readLasting 66 = .ok (.istore 4, 2) := by decide +kernel
theorem dX7_readLasting_68 : decode cX7_readLasting 68 = .ok (.aload_n 1, 1) := by decide +kernel
theorem dX7_readLasting_69 : decode cX7_readLasting 69 = .ok (.aload_n 0, 1) := by decide +kernel
theorem dX7_readLasting_70 : decode cX7_readLasting 70 = .ok (.getfield 32, 3) := by decide +kernel
theorem dX7_readLasting_73 : decode cX7_readLasting 73 = .ok (.iload 4, 2) := by decide +kernel
theorem dX7_readLasting_75 : decode cX7_readLasting 75 = .ok (.invokevirtual 68, 3) := by decide +kernel
theorem dX7_readLasting_78 : decode cX7_readLasting 78 = .ok (.istore 5, 2) := by decide +kernel
theorem dX7_readLasting_80 : decode cX7_readLasting 80 = .ok (.aload_n 0, 1) := by decide +kernel
theorem dX7_readLasting_81 : decode cX7_readLasting 81 = .ok (.dup, 1) := by decide +kernel
theorem dX7_readLasting_82 : decode cX7_readLasting 82 = .ok (.getfield 32, 3) := by decide +kernel
theorem dX7_readLasting_85 : decode cX7_readLasting 85 = .ok (.iload 4, 2) := by decide +kernel
theorem dX7_readLasting_87 : decode cX7_readLasting 87 = .ok (.iadd, 1) := by decide +kernel
theorem dX7_readLasting_88 : decode cX7_readLasting 88 = .ok (.putfield 32, 3) := by decide +kernel
theorem dX7_readLasting_91 : decode cX7_readLasting 91 = .ok (.iload 5, 2) := by decide +kernel
theorem dX7_readLasting_93 : decode cX7_readLasting 93 = .ok (.iconst 1, 1) := by decide +kernel
theorem dX7_readLasting_94 : decode cX7_readLasting 94 = .ok (.if_icmp .lt 25, 3) := by decide +kernel
theorem dX7_readLasting_97 : decode cX7_readLasting 97 = .ok (.iload 5, 2) := by decide +kernel
theorem dX7_readLasting_99 : decode cX7_readLasting 99 = .ok (.bipush 30, 2) := by decide +kernel
theorem dX7_readLasting_101 : decode cX7_readLasting 101 = .ok (.if_icmp .gt 18, 3) := by decide +kernel
theorem dX7_readLasting_104 : decode cX7_readLasting 104 = .ok (.aload_n 0, 1) := by decide +kernel
theorem dX7_readLasting_105 : decode cX7_readLasting 105 = .ok (.getfield 21, 3) := by decide +kernel
theorem dX7_readLasting_108 : decode cX7_readLasting 108 = .ok (.invokevirtual 96, 3) := by decide +kernel
theorem dX7_readLasting_111 : decode cX7_readLasting 111 = .ok (.iload 5, 2) := by decide +kernel
theorem dX7_readLasting_113 : decode cX7_readLasting 113 = .ok (.iadd, 1) := by decide +kernel
theorem dX7_readLasting_114 : decode cX7_readLasting 114 = .ok (.bipush 90, 2) := by decide +kernel
theorem dX7_readLasting_116 : decode cX7_readLasting 116 = .ok (.if_icmp .le 5, 3) := by decide +kernel
theorem dX7_readLasting_119 : decode cX7_readLasting 119 = .ok (.iconst 0, 1) := by decide +kernel
theorem dX7_readLasting_120 : decode cX7_readLasting 120 = .ok (.ireturn, 1) := by decide +kernel
theorem dX7_readLasting_121 : decode cX7_readLasting 121 = .ok (.aload_n 0, 1) := by decide +kernel
theorem dX7_readLasting_122 : decode cX7_readLasting 122 = .ok (.getfield 21, 3) := by decide +kernel
theorem dX7_readLasting_125 : decode cX7_readLasting 125 = .ok (.iload_n 2, 1) := by decide +kernel
theorem dX7_readLasting_126 : decode cX7_readLasting 126 = .ok (.iload_n 3, 1) := by decide +kernel
theorem dX7_readLasting_127 : decode cX7_readLasting 127 = .ok (.iload 5, 2) := by decide +kernel
theorem dX7_readLasting_129 : decode cX7_readLasting 129 = .ok (.invokevirtual 88, 3) := by decide +kernel
theorem dX7_readLasting_132 : decode cX7_readLasting 132 = .ok (.ireturn, 1) := by decide +kernel
theorem dX7_indexOf_0 : decode cX7_indexOf 0 = .ok (.iconst 0, 1) := by decide +kernel
theorem dX7_indexOf_1 : decode cX7_indexOf 1 = .ok (.istore_n 2, 1) := by decide +kernel
theorem dX7_indexOf_2 : decode cX7_indexOf 2 = .ok (.iload_n 2, 1) := by decide +kernel
theorem dX7_indexOf_3 : decode cX7_indexOf 3 = .ok (.aload_n 1, 1) := by decide +kernel
theorem dX7_indexOf_4 : decode cX7_indexOf 4 = .ok (.arraylength, 1) := by decide +kernel
theorem dX7_indexOf_5 : decode cX7_indexOf 5 = .ok (.if_icmp .ge 18, 3) := by decide +kernel
theorem dX7_indexOf_8 : decode cX7_indexOf 8 = .ok (.aload_n 1, 1) := by decide +kernel
theorem dX7_indexOf_9 : decode cX7_indexOf 9 = .ok (.iload_n 2, 1) := by decide +kernel
theorem dX7_indexOf_10 : decode cX7_indexOf 10 = .ok (.iaload, 1) := by decide +kernel
theorem dX7_indexOf_11 : decode cX7_indexOf 11 = .ok (.iload_n 0, 1) := by decide +kernel
theorem dX7_indexOf_12 : decode cX7_indexOf 12 = .ok (.if_icmp .ne 5, 3) := by decide +kernel
theorem dX7_indexOf_15 : decode cX7_indexOf 15 = .ok (.iload_n 2, 1) := by decide +kernel
theorem dX7_indexOf_16 : decode cX7_indexOf 16 = .ok (.ireturn, 1) := by decide +kernel
theorem dX7_indexOf_17 : decode cX7_indexOf 17 = .ok (.iinc 2 1, 3) := by decide +kernel
theorem dX7_indexOf_20 : decode cX7_indexOf 20 = .ok (.goto (-18), 3) := by decide +kernel
theorem dX7_indexOf_23 : decode cX7_indexOf 23 = .ok (.iconst (-1), 1) := by decide +kernel
theorem dX7_indexOf_24 : decode cX7_indexOf 24 = .ok (.ireturn, 1) := by decide +kernel
theorem dX8_init_0 : decode cX8_init 0 = .ok (.aload_n 0, 1) := by decide +kernel
theorem dX8_init_1 : decode cX8_init 1 = .ok (.invokespecial 3, 3) := by decide +kernel
theorem dX8_init_4 : decode cX8_init 4 = .ok (.aload_n 0, 1) := by decide +kernel
theorem dX8_init_5 : decode cX8_init 5 = .ok (.bipush 40, 2) := by decide +kernel
theorem dX8_init_7 : decode cX8_init 7 = .ok (.newarray .int, 2) := by decide +kernel
theorem dX8_init_9 : decode cX8_init 9 = .ok (.putfield 9, 3) := by decide +kernel
theorem dX8_init_12 : decode cX8_init 12 = .ok (.aload_n 0, 1) := by decide +kernel
theorem dX8_init_13 : decode cX8_init 13 = .ok (.iconst (-1), 1) := by decide +kernel
theorem dX8_init_14 : decode cX8_init 14 = .ok (.putfield 15, 3) := by decide +kernel
theorem dX8_init_17 : decode cX8_init 17 = .ok (.return_, 1) := by decide +kernel
theorem dX8_isThere_0 : decode cX8_isThere 0 = .ok (.aload_n 0, 1) := by decide +kernel
theorem dX8_isThere_1 : decode cX8_isThere 1 = .ok (.getfield 15, 3) := by decide +kernel
theorem dX8_isThere_4 : decode cX8_isThere 4 = .ok (.iconst (-1), 1) := by decide +kernel
theorem dX8_isThere_5 : decode cX8_isThere 5 = .ok (.if_icmp .eq 7, 3) := by decide +kernel
theorem dX8_isThere_8 : decode cX8_isThere 8 = .ok (.iconst 1, 1) := by decide +kernel
theorem dX8_isThere_9 : decode cX8_isThere 9 = .ok (.goto 4, 3) := by decide +kernel
theorem dX8_isThere_12 : decode cX8_isThere 12 = .ok (.iconst 0, 1) := by decide +kernel
theorem dX8_isThere_13 : decode cX8_isThere 13 = .ok (.ireturn, 1) := by decide +kernel
theorem dX8_has_0 : decode cX8_has 0 = .ok (.iload_n 1, 1) := by decide +kernel
theorem dX8_has_1 : decode cX8_has 1 = .ok (.ifCond .lt 15, 3) := by decide +kernel
theorem dX8_has_4 : decode cX8_has 4 = .ok (.iload_n 1, 1) := by decide +kernel
theorem dX8_has_5 : decode cX8_has 5 = .ok (.aload_n 0, 1) := by decide +kernel
theorem dX8_has_6 : decode cX8_has 6 = .ok (.getfield 15, 3) := by decide +kernel
theorem dX8_has_9 : decode cX8_has 9 = .ok (.if_icmp .ge 7, 3) := by decide +kernel
theorem dX8_has_12 : decode cX8_has 12 = .ok (.iconst 1, 1) := by decide +kernel
theorem dX8_has_13 : decode cX8_has 13 = .ok (.goto 4, 3) := by decide +kernel
theorem dX8_has_16 : decode cX8_has 16 = .ok (.iconst 0, 1) := by decide +kernel
theorem dX8_has_17 : decode cX8_has 17 = .ok (.ireturn, 1) := by decide +kernel
theorem dX8_hasSpan_0 : decode cX8_hasSpan 0 = .ok (.iload_n 1, 1) := by decide +kernel
theorem dX8_hasSpan_1 : decode cX8_hasSpan 1 = .ok (.ifCond .lt 29, 3) := by decide +kernel
theorem dX8_hasSpan_4 : decode cX8_hasSpan 4 = .ok (.iload_n 2, 1) := by decide +kernel
theorem dX8_hasSpan_5 : decode cX8_hasSpan 5 = .ok (.ifCond .lt 25, 3) := by decide +kernel
theorem dX8_hasSpan_8 : decode cX8_hasSpan 8 = .ok (.iload_n 2, 1) := by decide +kernel
theorem dX8_hasSpan_9 : decode cX8_hasSpan 9 = .ok (.aload_n 0, 1) := by decide +kernel
theorem dX8_hasSpan_10 : decode cX8_hasSpan 10 = .ok (.getfield 15, 3) := by decide +kernel
theorem dX8_hasSpan_13 : decode cX8_hasSpan 13 = .ok (.if_icmp .gt 17, 3) := by decide +kernel
theorem dX8_hasSpan_16 : decode cX8_hasSpan 16 = .ok (.iload_n 1, 1) := by decide +kernel
theorem dX8_hasSpan_17 : decode cX8_hasSpan 17 = .ok (.aload_n 0, 1) := by decide +kernel
theorem dX8_hasSpan_18 : decode cX8_hasSpan 18 = .ok (.getfield 15, 3) := by decide +kernel
theorem dX8_hasSpan_21 : decode cX8_hasSpan 21 = .ok (.iload_n 2, 1) := by decide +kernel
theorem dX8_hasSpan_22 : decode cX8_hasSpan 22 = .ok (.isub, 1) := by decide +kernel
theorem dX8_hasSpan_23 : decode cX8_hasSpan 23 = .ok (.if_icmp .gt 7, 3) := by decide +kernel
theorem dX8_hasSpan_26 : decode cX8_hasSpan 26 = .ok (.iconst 1, 1) := by decide +kernel
theorem dX8_hasSpan_27 : decode cX8_hasSpan 27 = .ok (.goto 4, 3) := by decide +kernel
theorem dX8_hasSpan_30 : decode cX8_hasSpan 30 = .ok (.iconst 0, 1) := by decide +kernel
theorem dX8_hasSpan_31 : decode cX8_hasSpan 31 = .ok (.ireturn, 1) := by decide +kernel
theorem dX8_renew_0 : decode cX8_renew 0 = .ok (.aload_n 0, 1) := by decide +kernel
theorem dX8_renew_1 : decode cX8_renew 1 = .ok (.iconst 0, 1) := by decide +kernel
theorem dX8_renew_2 : decode cX8_renew 2 = .ok (.iload_n 1, 1) := by decide +kernel
theorem dX8_renew_3 : decode cX8_renew 3 = .ok (.bipush 40, 2) := by decide +kernel
theorem dX8_renew_5 : decode cX8_renew 5 = .ok (.invokestatic 19, 3) := by decide +kernel
theorem dX8_renew_8 : decode cX8_renew 8 = .ok (.invokestatic 25, 3) := by decide +kernel
theorem dX8_renew_11 : decode cX8_renew 11 = .ok (.putfield 15, 3) := by decide +kernel
theorem dX8_renew_14 : decode cX8_renew 14 = .ok (.iconst 0, 1) := by decide +kernel
theorem dX8_renew_15 : decode cX8_renew 15 = .ok (.istore_n 2, 1) := by decide +kernel
theorem dX8_renew_16 : decode cX8_renew 16 = .ok (.iload_n 2, 1) := by decide +kernel
theorem dX8_renew_17 : decode cX8_renew 17 = .ok (.aload_n 0, 1) := by decide +kernel
theorem dX8_renew_18 : decode cX8_renew 18 = .ok (.getfield 15, 3) := by decide +kernel
theorem dX8_renew_21 : decode cX8_renew 21 = .ok (.if_icmp .ge 16, 3) := by decide +kernel
theorem dX8_renew_24 : decode cX8_renew 24 = .ok (.aload_n 0, 1) := by decide +kernel
theorem dX8_renew_25 : decode cX8_renew 25 = .ok (.getfield 9, 3) := by decide +kernel
theorem dX8_renew_28 : decode cX8_renew 28 = .ok (.iload_n 2, 1) := by decide +kernel
theorem dX8_renew_29 : decode cX8_renew 29 = .ok (.iconst 0, 1) := by decide +kernel
theorem dX8_renew_30 : decode cX8_renew 30 = .ok (.iastore, 1) := by decide +kernel
theorem dX8_renew_31 : decode cX8_renew 31 = .ok (.iinc 2 1, 3) := by decide +kernel
theorem dX8_renew_34 : decode cX8_renew 34 = .ok (.goto (-18), 3) := by decide +kernel
theorem dX8_renew_37 : decode cX8_renew 37 = .ok (.return_, 1) := by decide +kernel
theorem dX9_init_0 : decode cX9_init 0 = .ok (.aload_n 0, 1) := by decide +kernel
theorem dX9_init_1 : decode cX9_init 1 = .ok (.invokespecial 3, 3) := by decide +kernel
theorem dX9_init_4 : decode cX9_init 4 = .ok (.aload_n 0, 1) := by decide +kernel
theorem dX9_init_5 : decode cX9_init 5 = .ok (.bipush 12, 2) := by decide +kernel
theorem dX9_init_7 : decode cX9_init 7 = .ok (.newarray .int, 2) := by decide +kernel
theorem dX9_init_9 : decode cX9_init 9 = .ok (.putfield 9, 3) := by decide +kernel
theorem dX9_init_12 : decode cX9_init 12 = .ok (.aload_n 0, 1) := by decide +kernel
theorem dX9_init_13 : decode cX9_init 13 = .ok (.bipush 12, 2) := by decide +kernel
theorem dX9_init_15 : decode cX9_init 15 = .ok (.newarray .int, 2) := by decide +kernel
theorem dX9_init_17 : decode cX9_init 17 = .ok (.putfield 15, 3) := by decide +kernel
theorem dX9_init_20 : decode cX9_init 20 = .ok (.return_, 1) := by decide +kernel
theorem dX9_add_0 : decode cX9_add 0 = .ok (.aload_n 0, 1) := by decide +kernel
theorem dX9_add_1 : decode cX9_add 1 = .ok (.getfield 18, 3) := by decide +kernel
theorem dX9_add_4 : decode cX9_add 4 = .ok (.bipush 12, 2) := by decide +kernel
theorem dX9_add_6 : decode cX9_add 6 = .ok (.if_icmp .lt 4, 3) := by decide +kernel
theorem dX9_add_9 : decode cX9_add 9 = .ok (.return_, 1) := by decide +kernel
theorem dX9_add_10 : decode cX9_add 10 = .ok (.aload_n 0, 1) := by decide +kernel
theorem dX9_add_11 : decode cX9_add 11 = .ok (.getfield 9, 3) := by decide +kernel
theorem dX9_add_14 : decode cX9_add 14 = .ok (.aload_n 0, 1) := by decide +kernel
theorem dX9_add_15 : decode cX9_add 15 = .ok (.getfield 18, 3) := by decide +kernel
theorem dX9_add_18 : decode cX9_add 18 = .ok (.iload_n 1, 1) := by decide +kernel
theorem dX9_add_19 : decode cX9_add 19 = .ok (.iastore, 1) := by decide +kernel
theorem dX9_add_20 : decode cX9_add 20 = .ok (.aload_n 0, 1) := by decide +kernel
theorem dX9_add_21 : decode cX9_add 21 = .ok (.getfield 15, 3) := by decide +kernel
theorem dX9_add_24 : decode cX9_add 24 = .ok (.aload_n 0, 1) := by decide +kernel
theorem dX9_add_25 : decode cX9_add 25 = .ok (.getfield 18, 3) := by decide +kernel
theorem dX9_add_28 : decode cX9_add 28 = .ok (.iload_n 2, 1) := by decide +kernel
theorem dX9_add_29 : decode cX9_add 29 = .ok (.iastore, 1) := by decide +kernel
theorem dX9_add_30 : decode cX9_add 30 = .ok (.aload_n 0, 1) := by decide +kernel
theorem dX9_add_31 : decode cX9_add 31 = .ok (.dup, 1) := by decide +kernel
theorem dX9_add_32 : decode cX9_add 32 = .ok (.getfield 18, 3) := by decide +kernel
theorem dX9_add_35 : decode cX9_add 35 = .ok (.iconst 1, 1) := by decide +kernel
theorem dX9_add_36 : decode cX9_add 36 = .ok (.iadd, 1) := by decide +kernel
theorem dX9_add_37 : decode cX9_add 37 = .ok (.putfield 18, 3) := by decide +kernel
theorem dX9_add_40 : decode cX9_add 40 = .ok (.return_, 1) := by decide +kernel
theorem dX10_init_0 : decode cX10_init 0 = .ok (.aload_n 0, 1) := by decide +kernel
theorem dX10_init_1 : decode cX10_init 1 = .ok (.invokespecial 3, 3) := by decide +kernel
theorem dX10_init_4 : decode cX10_init 4 = .ok (.aload_n 0, 1) := by decide +kernel
theorem dX10_init_5 : decode cX10_init 5 = .ok (.bipush 80, 2) := by decide +kernel
theorem dX10_init_7 : decode cX10_init 7 = .ok (.newarray .byte, 2) := by decide +kernel
theorem dX10_init_9 : decode cX10_init 9 = .ok (.putfield 9, 3) := by decide +kernel
theorem dX10_init_12 : decode cX10_init 12 = .ok (.aload_n 0, 1) := by decide +kernel
theorem dX10_init_13 : decode cX10_init 13 = .ok (.iconst (-1), 1) := by decide +kernel
theorem dX10_init_14 : decode cX10_init 14 = .ok (.putfield 15, 3) := by decide +kernel
theorem dX10_init_17 : decode cX10_init 17 = .ok (.return_, 1) := by decide +kernel
theorem dX10_isThere_0 : decode cX10_isThere 0 = .ok (.aload_n 0, 1) := by decide +kernel
theorem dX10_isThere_1 : decode cX10_isThere 1 = .ok (.getfield 15, 3) := by decide +kernel
theorem dX10_isThere_4 : decode cX10_isThere 4 = .ok (.iconst (-1), 1) := by decide +kernel
theorem dX10_isThere_5 : decode cX10_isThere 5 = .ok (.if_icmp .eq 7, 3) := by decide +kernel
theorem dX10_isThere_8 : decode cX10_isThere 8 = .ok (.iconst 1, 1) := by decide +kernel
theorem dX10_isThere_9 : decode cX10_isThere 9 = .ok (.goto 4, 3) := by decide +kernel
theorem dX10_isThere_12 : decode cX10_isThere 12 = .ok (.iconst 0, 1) := by decide +kernel
theorem dX10_isThere_13 : decode cX10_isThere 13 = .ok (.ireturn, 1) := by decide +kernel
theorem dX10_has_0 : decode cX10_has 0 = .ok (.iload_n 1, 1) := by decide +kernel
theorem dX10_has_1 : decode cX10_has 1 = .ok (.ifCond .lt 15, 3) := by decide +kernel
theorem dX10_has_4 : decode cX10_has 4 = .ok (.iload_n 1, 1) := by decide +kernel
theorem dX10_has_5 : decode cX10_has 5 = .ok (.aload_n 0, 1) := by decide +kernel
theorem dX10_has_6 : decode cX10_has 6 = .ok (.getfield 15, 3) := by decide +kernel
theorem dX10_has_9 : decode cX10_has 9 = .ok (.if_icmp .ge 7, 3) := by decide +kernel
theorem dX10_has_12 : decode cX10_has 12 = .ok (.iconst 1, 1) := by decide +kernel
theorem dX10_has_13 : decode cX10_has 13 = .ok (.goto 4, 3) := by decide +kernel
theorem dX10_has_16 : decode cX10_has 16 = .ok (.iconst 0, 1) := by decide +kernel
theorem dX10_has_17 : decode cX10_has 17 = .ok (.ireturn, 1) := by decide +kernel
theorem dX10_renew_0 : decode cX10_renew 0 = .ok (.aload_n 0, 1) := by decide +kernel
theorem dX10_renew_1 : decode cX10_renew 1 = .ok (.iconst 0, 1) := by decide +kernel
theorem dX10_renew_2 : decode cX10_renew 2 = .ok (.iload_n 1, 1) := by decide +kernel
theorem dX10_renew_3 : decode cX10_renew 3 = .ok (.bipush 80, 2) := by decide +kernel
theorem dX10_renew_5 : decode cX10_renew 5 = .ok (.invokestatic 19, 3) := by decide +kernel
theorem dX10_renew_8 : decode cX10_renew 8 = .ok (.invokestatic 25, 3) := by decide +kernel
theorem dX10_renew_11 : decode cX10_renew 11 = .ok (.putfield 15, 3) := by decide +kernel
theorem dX10_renew_14 : decode cX10_renew 14 = .ok (.iconst 0, 1) := by decide +kernel
theorem dX10_renew_15 : decode cX10_renew 15 = .ok (.istore_n 2, 1) := by decide +kernel
theorem dX10_renew_16 : decode cX10_renew 16 = .ok (.iload_n 2, 1) := by decide +kernel
theorem dX10_renew_17 : decode cX10_renew 17 = .ok (.aload_n 0, 1) := by decide +kernel
theorem dX10_renew_18 : decode cX10_renew 18 = .ok (.getfield 15, 3) := by decide +kernel
theorem dX10_renew_21 : decode cX10_renew 21 = .ok (.if_icmp .ge 17, 3) := by decide +kernel
theorem dX10_renew_24 : decode cX10_renew 24 = .ok (.aload_n 0, 1) := by decide +kernel
theorem dX10_renew_25 : decode cX10_renew 25 = .ok (.getfield 9, 3) := by decide +kernel
theorem dX10_renew_28 : decode cX10_renew 28 = .ok (.iload_n 2, 1) := by decide +kernel
theorem dX10_renew_29 : decode cX10_renew 29 = .ok (.bipush 32, 2) := by decide +kernel
theorem dX10_renew_31 : decode cX10_renew 31 = .ok (.bastore, 1) := by decide +kernel
theorem dX10_renew_32 : decode cX10_renew 32 = .ok (.iinc 2 1, 3) := by decide +kernel
theorem dX10_renew_35 : decode cX10_renew 35 = .ok (.goto (-19), 3) := by decide +kernel
theorem dX10_renew_38 : decode cX10_renew 38 = .ok (.return_, 1) := by decide +kernel
theorem dX10_signAt_0 : decode cX10_signAt 0 = .ok (.iload_n 1, 1) := by decide +kernel
theorem dX10_signAt_1 : decode cX10_signAt 1 = .ok (.ifCond .lt 20, 3) := by decide +kernel
theorem dX10_signAt_4 : decode cX10_signAt 4 = .ok (.iload_n 1, 1) := by decide +kernel
theorem dX10_signAt_5 : decode cX10_signAt 5 = .ok (.aload_n 0, 1) := by decide +kernel
theorem dX10_signAt_6 : decode cX10_signAt 6 = .ok (.getfield 15, 3) := by decide +kernel
theorem dX10_signAt_9 : decode cX10_signAt 9 = .ok (.if_icmp .ge 12, 3) := by decide +kernel
theorem dX10_signAt_12 : decode cX10_signAt 12 = .ok (.aload_n 0, 1) := by decide +kernel
theorem dX10_signAt_13 : decode cX10_signAt 13 = .ok (.getfield 9, 3) := by decide +kernel
theorem dX10_signAt_16 : decode cX10_signAt 16 = .ok (.iload_n 1, 1) := by decide +kernel
theorem dX10_signAt_17 : decode cX10_signAt 17 = .ok (.baload, 1) := by decide +kernel
theorem dX10_signAt_18 : decode cX10_signAt 18 = .ok (.goto 6, 3) := by decide +kernel
theorem dX10_signAt_21 : decode cX10_signAt 21 = .ok (.sipush 1000, 3) := by decide +kernel
theorem dX10_signAt_24 : decode cX10_signAt 24 = .ok (.ireturn, 1) := by decide +kernel
theorem dX10_isFigure_0 : decode cX10_isFigure 0 = .ok (.aload_n 0, 1) := by decide +kernel
theorem dX10_isFigure_1 : decode cX10_isFigure 1 = .ok (.iload_n 1, 1) := by decide +kernel
theorem dX10_isFigure_2 : decode cX10_isFigure 2 = .ok (.invokevirtual 28, 3) := by decide +kernel
theorem dX10_isFigure_5 : decode cX10_isFigure 5 = .ok (.istore_n 2, 1) := by decide +kernel
theorem dX10_isFigure_6 : decode cX10_isFigure 6 = .ok (.iload_n 2, 1) := by decide +kernel
theorem dX10_isFigure_7 : decode cX10_isFigure 7 = .ok (.bipush 48, 2) := by decide +kernel
theorem dX10_isFigure_9 : decode cX10_isFigure 9 = .ok (.if_icmp .lt 13, 3) := by decide +kernel
theorem dX10_isFigure_12 : decode cX10_isFigure 12 = .ok (.iload_n 2, 1) := by decide +kernel
theorem dX10_isFigure_13 : decode cX10_isFigure 13 = .ok (.bipush 57, 2) := by decide +kernel
theorem dX10_isFigure_15 : decode cX10_isFigure 15 = .ok (.if_icmp .gt 7, 3) := by decide +kernel
theorem dX10_isFigure_18 : decode cX10_isFigure 18 = .ok (.iconst 1, 1) := by decide +kernel
theorem dX10_isFigure_19 : decode cX10_isFigure 19 = .ok (.goto 4, 3) := by decide +kernel
theorem dX10_isFigure_22 : decode cX10_isFigure 22 = .ok (.iconst 0, 1) := by decide +kernel
theorem dX10_isFigure_23 : decode cX10_isFigure 23 = .ok (.ireturn, 1) := by decide +kernel
theorem dX10_figuresFrom_0 : decode cX10_figuresFrom 0 = .ok (.aload_n 0, 1) := by decide +kernel
theorem dX10_figuresFrom_1 : decode cX10_figuresFrom 1 = .ok (.iload_n 1, 1) := by decide +kernel
theorem dX10_figuresFrom_2 : decode cX10_figuresFrom 2 = .ok (.invokevirtual 32, 3) := by decide +kernel
theorem dX10_figuresFrom_5 : decode cX10_figuresFrom 5 = .ok (.ifCond .ne 5, 3) := by decide +kernel
theorem dX10_figuresFrom_8 : decode cX10_figuresFrom 8 = .ok (.iconst 0, 1) := by decide +kernel
theorem dX10_figuresFrom_9 : decode cX10_figuresFrom 9 = .ok (.ireturn, 1) := by decide +kernel
theorem dX10_figuresFrom_10 : decode cX10_figuresFrom 10 = .ok (.aload_n 0, 1) := by decide +kernel
theorem dX10_figuresFrom_11 : decode cX10_figuresFrom 11 = .ok (.iload_n 1, 1) := by decide +kernel
theorem dX10_figuresFrom_12 : decode cX10_figuresFrom 12 = .ok (.iconst 1, 1) := by decide +kernel
theorem dX10_figuresFrom_13 : decode cX10_figuresFrom 13 = .ok (.iadd, 1) := by decide +kernel
theorem dX10_figuresFrom_14 : decode cX10_figuresFrom 14 = .ok (.invokevirtual 32, 3) := by decide +kernel
theorem dX10_figuresFrom_17 : decode cX10_figuresFrom 17 = .ok (.ifCond .eq 7, 3) := by decide +kernel
theorem dX10_figuresFrom_20 : decode cX10_figuresFrom 20 = .ok (.iconst 2, 1) := by decide +kernel
theorem dX10_figuresFrom_21 : decode cX10_figuresFrom 21 = .ok (.goto 4, 3) := by decide +kernel
theorem dX10_figuresFrom_24 : decode cX10_figuresFrom 24 = .ok (.iconst 1, 1) := by decide +kernel
theorem dX10_figuresFrom_25 : decode cX10_figuresFrom 25 = .ok (.ireturn, 1) := by decide +kernel
theorem dX10_numberFrom_0 : decode cX10_numberFrom 0 = .ok (.iconst 0, 1) := by decide +kernel
theorem dX10_numberFrom_1 : decode cX10_numberFrom 1 = .ok (.istore_n 3, 1) := by decide +kernel
theorem dX10_numberFrom_2 : decode cX10_numberFrom 2 = .ok (.iconst 0, 1) := by decide +kernel
theorem dX10_numberFrom_3 : decode cX10_numberFrom 3 = .ok (.istore 4, 2) := by decide +kernel
theorem dX10_numberFrom_5 : decode cX10_numberFrom 5 = .ok (.iload 4, 2) := by decide +kernel
theorem dX10_numberFrom_7 : decode cX10_numberFrom 7 = .ok (.iload_n 2, 1) := by decide +kernel
theorem dX10_numberFrom_8 : decode cX10_numberFrom 8 = .ok (.if_icmp .ge 26, 3) := by decide +kernel
theorem dX10_numberFrom_11 : decode cX10_numberFrom 11 = .ok (.bipush 10, 2) := by decide +kernel
theorem dX10_numberFrom_13 : decode cX10_numberFrom 13 = .ok (.iload_n 3, 1) := by decide +kernel
theorem dX10_numberFrom_14 : decode cX10_numberFrom 14 = .ok (.imul, 1) := by decide +kernel
theorem dX10_numberFrom_15 : decode cX10_numberFrom 15 = .ok (.aload_n 0, 1) := by decide +kernel
theorem dX10_numberFrom_16 : decode cX10_numberFrom 16 = .ok (.iload_n 1, 1) := by decide +kernel
theorem dX10_numberFrom_17 : decode cX10_numberFrom 17 = .ok (.iload 4, 2) := by decide +kernel
theorem dX10_numberFrom_19 : decode cX10_numberFrom 19 = .ok (.iadd, 1) := by decide +kernel
theorem dX10_numberFrom_20 : decode cX10_numberFrom 20 = .ok (.invokevirtual 28, 3) := by decide +kernel
theorem dX10_numberFrom_23 : decode cX10_numberFrom 23 = .ok (.iadd, 1) := by decide +kernel
theorem dX10_numberFrom_24 : decode cX10_numberFrom 24 = .ok (.bipush 48, 2) := by decide +kernel
theorem dX10_numberFrom_26 : decode cX10_numberFrom 26 = .ok (.isub, 1) := by decide +kernel
theorem dX10_numberFrom_27 : decode cX10_numberFrom 27 = .ok (.istore_n 3, 1) := by decide +kernel
theorem dX10_numberFrom_28 : decode cX10_numberFrom 28 = .ok (.iinc 4 1, 3) := by decide +kernel
theorem dX10_numberFrom_31 : decode cX10_numberFrom 31 = .ok (.goto (-26), 3) := by decide +kernel
theorem dX10_numberFrom_34 : decode cX10_numberFrom 34 = .ok (.iload_n 3, 1) := by decide +kernel
theorem dX10_numberFrom_35 : decode cX10_numberFrom 35 = .ok (.ireturn, 1) := by decide +kernel
theorem dX11_init_0 : decode cX11_init 0 = .ok (.aload_n 0, 1) := by decide +kernel
theorem dX11_init_1 : decode cX11_init 1 = .ok (.invokespecial 1, 3) := by decide +kernel
theorem dX11_init_4 : decode cX11_init 4 = .ok (.aload_n 0, 1) := by decide +kernel
theorem dX11_init_5 : decode cX11_init 5 = .ok (.bipush 6, 2) := by decide +kernel
theorem dX11_init_7 : decode cX11_init 7 = .ok (.anewarray 9, 3) := by decide +kernel
theorem dX11_init_10 : decode cX11_init 10 = .ok (.putfield 11, 3) := by decide +kernel
theorem dX11_init_13 : decode cX11_init 13 = .ok (.aload_n 0, 1) := by decide +kernel
theorem dX11_init_14 : decode cX11_init 14 = .ok (.iconst 4, 1) := by decide +kernel
theorem dX11_init_15 : decode cX11_init 15 = .ok (.anewarray 15, 3) := by decide +kernel
theorem dX11_init_18 : decode cX11_init 18 = .ok (.putfield 17, 3) := by decide +kernel
theorem dX11_init_21 : decode cX11_init 21 = .ok (.aload_n 0, 1) := by decide +kernel
theorem dX11_init_22 : decode cX11_init 22 = .ok (.iconst 4, 1) := by decide +kernel
theorem dX11_init_23 : decode cX11_init 23 = .ok (.anewarray 21, 3) := by decide +kernel
theorem dX11_init_26 : decode cX11_init 26 = .ok (.putfield 23, 3) := by decide +kernel
theorem dX11_init_29 : decode cX11_init 29 = .ok (.aload_n 0, 1) := by decide +kernel
theorem dX11_init_30 : decode cX11_init 30 = .ok (.iconst 4, 1) := by decide +kernel
theorem dX11_init_31 : decode cX11_init 31 = .ok (.anewarray 27, 3) := by decide +kernel
theorem dX11_init_34 : decode cX11_init 34 = .ok (.putfield 29, 3) := by decide +kernel
theorem dX11_init_37 : decode cX11_init 37 = .ok (.aload_n 0, 1) := by decide +kernel
theorem dX11_init_38 : decode cX11_init 38 = .ok (.iconst 3, 1) := by decide +kernel
theorem dX11_init_39 : decode cX11_init 39 = .ok (.anewarray 33, 3) := by decide +kernel
theorem dX11_init_42 : decode cX11_init 42 = .ok (.putfield 35, 3) := by decide +kernel
theorem dX11_init_45 : decode cX11_init 45 = .ok (.aload_n 0, 1) := by decide +kernel
theorem dX11_init_46 : decode cX11_init 46 = .ok (.new 33, 3) := by decide +kernel
theorem dX11_init_49 : decode cX11_init 49 = .ok (.dup, 1) := by decide +kernel
theorem dX11_init_50 : decode cX11_init 50 = .ok (.invokespecial 39, 3) := by decide +kernel
theorem dX11_init_53 : decode cX11_init 53 = .ok (.putfield 40, 3) := by decide +kernel
theorem dX11_init_56 : decode cX11_init 56 = .ok (.aload_n 0, 1) := by decide +kernel
theorem dX11_init_57 : decode cX11_init 57 = .ok (.new 44, 3) := by decide +kernel
theorem dX11_init_60 : decode cX11_init 60 = .ok (.dup, 1) := by decide +kernel
theorem dX11_init_61 : decode cX11_init 61 = .ok (.invokespecial 46, 3) := by decide +kernel
theorem dX11_init_64 : decode cX11_init 64 = .ok (.putfield 47, 3) := by decide +kernel
theorem dX11_init_67 : decode cX11_init 67 = .ok (.aload_n 0, 1) := by decide +kernel
theorem dX11_init_68 : decode cX11_init 68 = .ok (.new 51, 3) := by decide +kernel
theorem dX11_init_71 : decode cX11_init 71 = .ok (.dup, 1) := by decide +kernel
theorem dX11_init_72 : decode cX11_init 72 = .ok (.invokespecial 53, 3) := by decide +kernel
theorem dX11_init_75 : decode cX11_init 75 = .ok (.putfield 54, 3) := by decide +kernel
theorem dX11_init_78 : decode cX11_init 78 = .ok (.aload_n 0, 1) := by decide +kernel
theorem dX11_init_79 : decode cX11_init 79 = .ok (.new 58, 3) := by decide +kernel
theorem dX11_init_82 : decode cX11_init 82 = .ok (.dup, 1) := by decide +kernel
theorem dX11_init_83 : decode cX11_init 83 = .ok (.invokespecial 60, 3) := by decide +kernel
theorem dX11_init_86 : decode cX11_init 86 = .ok (.putfield 61, 3) := by decide +kernel
theorem dX11_init_89 : decode cX11_init 89 = .ok (.aload_n 0, 1) := by decide +kernel
theorem dX11_init_90 : decode cX11_init 90 = .ok (.new 65, 3) := by decide +kernel
theorem dX11_init_93 : decode cX11_init 93 = .ok (.dup, 1) := by decide +kernel
theorem dX11_init_94 : decode cX11_init 94 = .ok (.invokespecial 67, 3) := by decide +kernel
theorem dX11_init_97 : decode cX11_init 97 = .ok (.putfield 68, 3) := by decide +kernel
theorem dX11_init_100 : decode cX11_init 100 = .ok (.aload_n 0, 1) := by decide +kernel
theorem dX11_init_101 : decode cX11_init 101 = .ok (.new 21, 3) := by decide +kernel
theorem dX11_init_104 : decode cX11_init 104 = .ok (.dup, 1) := by decide +kernel
theorem dX11_init_105 : decode cX11_init 105 = .ok (.invokespecial 72, 3) := by decide +kernel
theorem dX11_init_108 : decode cX11_init 108 = .ok (.putfield 73, 3) := by decide +kernel
theorem dX11_init_111 : decode cX11_init 111 = .ok (.aload_n 0, 1) := by decide +kernel
theorem dX11_init_112 : decode cX11_init 112 = .ok (.new 27, 3) := by decide +kernel
theorem dX11_init_115 : decode cX11_init 115 = .ok (.dup, 1) := by decide +kernel
theorem dX11_init_116 : decode cX11_init 116 = .ok (.invokespecial 77, 3) := by decide +kernel
theorem dX11_init_119 : decode cX11_init 119 = .ok (.putfield 78, 3) := by decide +kernel
theorem dX11_init_122 : decode cX11_init 122 = .ok (.aload_n 0, 1) := by decide +kernel
theorem dX11_init_123 : decode cX11_init 123 = .ok (.new 27, 3) := by decide +kernel
theorem dX11_init_126 : decode cX11_init 126 = .ok (.dup, 1) := by decide +kernel
theorem dX11_init_127 : decode cX11_init 127 = .ok (.invokespecial 77, 3) := by decide +kernel
theorem dX11_init_130 : decode cX11_init 130 = .ok (.putfield 82, 3) := by decide +kernel
theorem dX11_init_133 : decode cX11_init 133 = .ok (.aload_n 0, 1) := by decide +kernel
theorem dX11_init_134 : decode cX11_init 134 = .ok (.bipush 81, 2) := by decide +kernel
theorem dX11_init_136 : decode cX11_init 136 = .ok (.newarray .int, 2) := by decide +kernel
theorem dX11_init_138 : decode cX11_init 138 = .ok (.putfield 85, 3) := by decide +kernel
theorem dX11_init_141 : decode cX11_init 141 = .ok (.aload_n 0, 1) := by decide +kernel
theorem dX11_init_142 : decode cX11_init 142 = .ok (.iconst 4, 1) := by decide +kernel
theorem dX11_init_143 : decode cX11_init 143 = .ok (.newarray .int, 2) := by decide +kernel
theorem dX11_init_145 : decode cX11_init 145 = .ok (.putfield 89, 3) := by decide +kernel
theorem dX11_init_148 : decode cX11_init 148 = .ok (.aload_n 0, 1) := by decide +kernel
theorem dX11_init_149 : decode cX11_init 149 = .ok (.bipush 6, 2) := by decide +kernel
theorem dX11_init_151 : decode cX11_init 151 = .ok (.newarray .int, 2) := by decide +kernel
theorem dX11_init_153 : decode cX11_init 153 = .ok (.putfield 92, 3) := by decide +kernel
theorem dX11_init_156 : decode cX11_init 156 = .ok (.aload_n 0, 1) := by decide +kernel
theorem dX11_init_157 : decode cX11_init 157 = .ok (.lconst 1, 1) := by decide +kernel
theorem dX11_init_158 : decode cX11_init 158 = .ok (.putfield 95, 3) := by decide +kernel
theorem dX11_init_161 : decode cX11_init 161 = .ok (.iconst 0, 1) := by decide +kernel
theorem dX11_init_162 : decode cX11_init 162 = .ok (.istore_n 1, 1) := by decide +kernel
theorem dX11_init_163 : decode cX11_init 163 = .ok (.iload_n 1, 1) := by decide +kernel
theorem dX11_init_164 : decode cX11_init 164 = .ok (.bipush 6, 2) := by decide +kernel
theorem dX11_init_166 : decode cX11_init 166 = .ok (.if_icmp .ge 22, 3) := by decide +kernel
theorem dX11_init_169 : decode cX11_init 169 = .ok (.aload_n 0, 1) := by decide +kernel
theorem dX11_init_170 : decode cX11_init 170 = .ok (.getfield 11, 3) := by decide +kernel
theorem dX11_init_173 : decode cX11_init 173 = .ok (.iload_n 1, 1) := by decide +kernel
theorem dX11_init_174 : decode cX11_init 174 = .ok (.new 9, 3) := by decide +kernel
theorem dX11_init_177 : decode cX11_init 177 = .ok (.dup, 1) := by decide +kernel
theorem dX11_init_178 : decode cX11_init 178 = .ok (.invokespecial 99, 3) := by decide +kernel
theorem dX11_init_181 : decode cX11_init 181 = .ok (.aastore, 1) := by decide +kernel
theorem dX11_init_182 : decode cX11_init 182 = .ok (.iinc 1 1, 3) := by decide +kernel
theorem dX11_init_185 : decode cX11_init 185 = .ok (.goto (-22), 3) := by decide +kernel
theorem dX11_init_188 : decode cX11_init 188 = .ok (.iconst 0, 1) := by decide +kernel
theorem dX11_init_189 : decode cX11_init 189 = .ok (.istore_n 1, 1) := by decide +kernel
theorem dX11_init_190 : decode cX11_init 190 = .ok (.iload_n 1, 1) := by decide +kernel
theorem dX11_init_191 : decode cX11_init 191 = .ok (.iconst 4, 1) := by decide +kernel
theorem dX11_init_192 : decode cX11_init 192 = .ok (.if_icmp .ge 22, 3) := by decide +kernel
theorem dX11_init_195 : decode cX11_init 195 = .ok (.aload_n 0, 1) := by decide +kernel
theorem dX11_init_196 : decode cX11_init 196 = .ok (.getfield 17, 3) := by decide +kernel
theorem dX11_init_199 : decode cX11_init 199 = .ok (.iload_n 1, 1) := by decide +kernel
theorem dX11_init_200 : decode cX11_init 200 = .ok (.new 15, 3) := by decide +kernel
theorem dX11_init_203 : decode cX11_init 203 = .ok (.dup, 1) := by decide +kernel
theorem dX11_init_204 : decode cX11_init 204 = .ok (.invokespecial 100, 3) := by decide +kernel
theorem dX11_init_207 : decode cX11_init 207 = .ok (.aastore, 1) := by decide +kernel
theorem dX11_init_208 : decode cX11_init 208 = .ok (.iinc 1 1, 3) := by decide +kernel
theorem dX11_init_211 : decode cX11_init 211 = .ok (.goto (-21), 3) := by decide +kernel
theorem dX11_init_214 : decode cX11_init 214 = .ok (.iconst 0, 1) := by decide +kernel
theorem dX11_init_215 : decode cX11_init 215 = .ok (.istore_n 1, 1) := by decide +kernel
theorem dX11_init_216 : decode cX11_init 216 = .ok (.iload_n 1, 1) := by decide +kernel
theorem dX11_init_217 : decode cX11_init 217 = .ok (.iconst 4, 1) := by decide +kernel
theorem dX11_init_218 : decode cX11_init 218 = .ok (.if_icmp .ge 22, 3) := by decide +kernel
theorem dX11_init_221 : decode cX11_init 221 = .ok (.aload_n 0, 1) := by decide +kernel
theorem dX11_init_222 : decode cX11_init 222 = .ok (.getfield 23, 3) := by decide +kernel
theorem dX11_init_225 : decode cX11_init 225 = .ok (.iload_n 1, 1) := by decide +kernel
theorem dX11_init_226 : decode cX11_init 226 = .ok (.new 21, 3) := by decide +kernel
theorem dX11_init_229 : decode cX11_init 229 = .ok (.dup, 1) := by decide +kernel
theorem dX11_init_230 : decode cX11_init 230 = .ok (.invokespecial 72, 3) := by decide +kernel
theorem dX11_init_233 : decode cX11_init 233 = .ok (.aastore, 1) := by decide +kernel
theorem dX11_init_234 : decode cX11_init 234 = .ok (.iinc 1 1, 3) := by decide +kernel
theorem dX11_init_237 : decode cX11_init 237 = .ok (.goto (-21), 3) := by decide +kernel
theorem dX11_init_240 : decode cX11_init 240 = .ok (.iconst 0, 1) := by decide +kernel
theorem dX11_init_241 : decode cX11_init 241 = .ok (.istore_n 1, 1) := by decide +kernel
theorem dX11_init_242 : decode cX11_init 242 = .ok (.iload_n 1, 1) := by decide +kernel
theorem dX11_init_243 : decode cX11_init 243 = .ok (.iconst 4, 1) := by decide +kernel
theorem dX11_init_244 : decode cX11_init 244 = .ok (.if_icmp .ge 22, 3) := by decide +kernel
theorem dX11_init_247 : decode cX11_init 247 = .ok (.aload_n 0, 1) := by decide +kernel
theorem dX11_init_248 : decode cX11_init 248 = .ok (.getfield 29, 3) := by decide +kernel
theorem dX11_init_251 : decode cX11_init 251 = .ok (.iload_n 1, 1) := by decide +kernel
theorem dX11_init_252 : decode cX11_init 252 = .ok (.new 27, 3) := by decide +kernel
theorem dX11_init_255 : decode cX11_init 255 = .ok (.dup, 1) := by decide +kernel
theorem dX11_init_256 : decode cX11_init 256 = .ok (.invokespecial 77, 3) := by decide +kernel
theorem dX11_init_259 : decode cX11_init 259 = .ok (.aastore, 1) := by decide +kernel
theorem dX11_init_260 : decode cX11_init 260 = .ok (.iinc 1 1, 3) := by decide +kernel
theorem dX11_init_263 : decode cX11_init 263 = .ok (.goto (-21), 3) := by decide +kernel
theorem dX11_init_266 : decode cX11_init 266 = .ok (.iconst 0, 1) := by decide +kernel
theorem dX11_init_267 : decode cX11_init 267 = .ok (.istore_n 1, 1) := by decide +kernel
theorem dX11_init_268 : decode cX11_init 268 = .ok (.iload_n 1, 1) := by decide +kernel
theorem dX11_init_269 : decode cX11_init 269 = .ok (.iconst 3, 1) := by decide +kernel
theorem dX11_init_270 : decode cX11_init 270 = .ok (.if_icmp .ge 22, 3) := by decide +kernel
theorem dX11_init_273 : decode cX11_init 273 = .ok (.aload_n 0, 1) := by decide +kernel
theorem dX11_init_274 : decode cX11_init 274 = .ok (.getfield 35, 3) := by decide +kernel
theorem dX11_init_277 : decode cX11_init 277 = .ok (.iload_n 1, 1) := by decide +kernel
theorem dX11_init_278 : decode cX11_init 278 = .ok (.new 33, 3) := by decide +kernel
theorem dX11_init_281 : decode cX11_init 281 = .ok (.dup, 1) := by decide +kernel
theorem dX11_init_282 : decode cX11_init 282 = .ok (.invokespecial 39, 3) := by decide +kernel
theorem dX11_init_285 : decode cX11_init 285 = .ok (.aastore, 1) := by decide +kernel
theorem dX11_init_286 : decode cX11_init 286 = .ok (.iinc 1 1, 3) := by decide +kernel
theorem dX11_init_289 : decode cX11_init 289 = .ok (.goto (-21), 3) := by decide +kernel
theorem dX11_init_292 : decode cX11_init 292 = .ok (.return_, 1) := by decide +kernel
theorem dX11_row_0 : decode cX11_row 0 = .ok (.iload_n 1, 1) := by decide +kernel
theorem dX11_row_1 : decode cX11_row 1 = .ok (.invokestatic 101, 3) := by decide +kernel
theorem dX11_row_4 : decode cX11_row 4 = .ok (.ifCond .eq 9, 3) := by decide +kernel
theorem dX11_row_7 : decode cX11_row 7 = .ok (.iload_n 2, 1) := by decide +kernel
theorem dX11_row_8 : decode cX11_row 8 = .ok (.bipush 40, 2) := by decide +kernel
theorem dX11_row_10 : decode cX11_row 10 = .ok (.if_icmp .le 5, 3) := by decide +kernel
theorem dX11_row_13 : decode cX11_row 13 = .ok (.iconst (-1), 1) := by decide +kernel
theorem dX11_row_14 : decode cX11_row 14 = .ok (.ireturn, 1) := by decide +kernel
theorem dX11_row_15 : decode cX11_row 15 = .ok (.iload_n 2, 1) := by decide +kernel
theorem dX11_row_16 : decode cX11_row 16 = .ok (.ifCond .ge 9, 3) := by decide +kernel
theorem dX11_row_19 : decode cX11_row 19 = .ok (.aload_n 0, 1) := by decide +kernel
theorem dX11_row_20 : decode cX11_row 20 = .ok (.iconst 5, 1) := by decide +kernel
theorem dX11_row_21 : decode cX11_row 21 = .ok (.invokevirtual 105, 3) := by decide +kernel
theorem dX11_row_24 : decode cX11_row 24 = .ok (.ireturn, 1) := by decide +kernel
theorem dX11_row_25 : decode cX11_row 25 = .ok (.aload_n 0, 1) := by decide +kernel
theorem dX11_row_26 : decode cX11_row 26 = .ok (.getfield 11, 3) := by decide +kernel
theorem dX11_row_29 : decode cX11_row 29 = .ok (.iload_n 1, 1) := by decide +kernel
theorem dX11_row_30 : decode cX11_row 30 = .ok (.aaload, 1) := by decide +kernel
theorem dX11_row_31 : decode cX11_row 31 = .ok (.iload_n 2, 1) := by decide +kernel
theorem dX11_row_32 : decode cX11_row 32 = .ok (.invokevirtual 109, 3) := by decide +kernel
theorem dX11_row_35 : decode cX11_row 35 = .ok (.iload_n 2, 1) := by decide +kernel
theorem dX11_row_36 : decode cX11_row 36 = .ok (.ireturn, 1) := by decide +kernel
theorem dX11_lay_0 : decode cX11_lay 0 = .ok (.iload_n 1, 1) := by decide +kernel
theorem dX11_lay_1 : decode cX11_lay 1 = .ok (.invokestatic 101, 3) := by decide +kernel
theorem dX11_lay_4 : decode cX11_lay 4 = .ok (.ifCond .ne 5, 3) := by decide +kernel
theorem dX11_lay_7 : decode cX11_lay 7 = .ok (.iconst (-1), 1) := by decide +kernel
theorem dX11_lay_8 : decode cX11_lay 8 = .ok (.ireturn, 1) := by decide +kernel
theorem dX11_lay_9 : decode cX11_lay 9 = .ok (.aload_n 0, 1) := by decide +kernel
theorem dX11_lay_10 : decode cX11_lay 10 = .ok (.iload_n 1, 1) := by decide +kernel
theorem dX11_lay_11 : decode cX11_lay 11 = .ok (.iload_n 2, 1) := by decide +kernel
theorem dX11_lay_12 : decode cX11_lay 12 = .ok (.invokevirtual 113, 3) := by decide +kernel
theorem dX11_lay_15 : decode cX11_lay 15 = .ok (.istore 4, 2) := by decide +kernel
theorem dX11_lay_17 : decode cX11_lay 17 = .ok (.iload 4, 2) := by decide +kernel
theorem dX11_lay_19 : decode cX11_lay 19 = .ok (.ifCond .eq 10, 3) := by decide +kernel
theorem dX11_lay_22 : decode cX11_lay 22 = .ok (.aload_n 0, 1) := by decide +kernel
theorem dX11_lay_23 : decode cX11_lay 23 = .ok (.iload 4, 2) := by decide +kernel
theorem dX11_lay_25 : decode cX11_lay 25 = .ok (.invokevirtual 105, 3) := by decide +kernel
theorem dX11_lay_28 : decode cX11_lay 28 = .ok (.ireturn, 1) := by decide +kernel
theorem dX11_lay_29 : decode cX11_lay 29 = .ok (.aload_n 0, 1) := by decide +kernel
theorem dX11_lay_30 : decode cX11_lay 30 = .ok (.getfield 11, 3) := by decide +kernel
theorem dX11_lay_33 : decode cX11_lay 33 = .ok (.iload_n 1, 1) := by decide +kernel
theorem dX11_lay_34 : decode cX11_lay 34 = .ok (.aaload, 1) := by decide +kernel
theorem dX11_lay_35 : decode cX11_lay 35 = .ok (.getfield 117, 3) := by decide +kernel
theorem dX11_lay_38 : decode cX11_lay 38 = .ok (.iload_n 2, 1) := by decide +kernel
theorem dX11_lay_39 : decode cX11_lay 39 = .ok (.iaload, 1) := by decide +kernel
theorem dX11_lay_40 : decode cX11_lay 40 = .ok (.istore 5, 2) := by decide +kernel
theorem dX11_lay_42 : decode cX11_lay 42 = .ok (.aload_n 0, 1) := by decide +kernel
theorem dX11_lay_43 : decode cX11_lay 43 = .ok (.getfield 11, 3) := by decide +kernel
theorem dX11_lay_46 : decode cX11_lay 46 = .ok (.iload_n 1, 1) := by decide +kernel
theorem dX11_lay_47 : decode cX11_lay 47 = .ok (.aaload, 1) := by decide +kernel
theorem dX11_lay_48 : decode cX11_lay 48 = .ok (.getfield 117, 3) := by decide +kernel
theorem dX11_lay_51 : decode cX11_lay 51 = .ok (.iload_n 2, 1) := by decide +kernel
theorem dX11_lay_52 : decode cX11_lay 52 = .ok (.iload_n 3, 1) := by decide +kernel
theorem dX11_lay_53 : decode cX11_lay 53 = .ok (.iastore, 1) := by decide +kernel
theorem dX11_lay_54 : decode cX11_lay 54 = .ok (.aload_n 0, 1) := by decide +kernel
theorem dX11_lay_55 : decode cX11_lay 55 = .ok (.iload 5, 2) := by decide +kernel
theorem dX11_lay_57 : decode cX11_lay 57 = .ok (.invokevirtual 120, 3) := by decide +kernel
theorem dX11_lay_60 : decode cX11_lay 60 = .ok (.ireturn, 1) := by decide +kernel
theorem dX11_at_0 : decode cX11_at 0 = .ok (.iload_n 1, 1) := by decide +kernel
theorem dX11_at_1 : decode cX11_at 1 = .ok (.invokestatic 101, 3) := by decide +kernel
theorem dX11_at_4 : decode cX11_at 4 = .ok (.ifCond .ne 5, 3) := by decide +kernel
theorem dX11_at_7 : decode cX11_at 7 = .ok (.iconst (-1), 1) := by decide +kernel
theorem dX11_at_8 : decode cX11_at 8 = .ok (.ireturn, 1) := by decide +kernel
theorem dX11_at_9 : decode cX11_at 9 = .ok (.aload_n 0, 1) := by decide +kernel
theorem dX11_at_10 : decode cX11_at 10 = .ok (.iload_n 1, 1) := by decide +kernel
theorem dX11_at_11 : decode cX11_at 11 = .ok (.iload_n 2, 1) := by decide +kernel
theorem dX11_at_12 : decode cX11_at 12 = .ok (.invokevirtual 113, 3) := by decide +kernel
theorem dX11_at_15 : decode cX11_at 15 = .ok (.istore_n 3, 1) := by decide +kernel
theorem dX11_at_16 : decode cX11_at 16 = .ok (.iload_n 3, 1) := by decide +kernel
theorem dX11_at_17 : decode cX11_at 17 = .ok (.ifCond .eq 11, 3) := by decide +kernel
theorem dX11_at_20 : decode cX11_at 20 = .ok (.aload_n 0, 1) := by decide +kernel
theorem dX11_at_21 : decode cX11_at 21 = .ok (.iload_n 3, 1) := by decide +kernel
theorem dX11_at_22 : decode cX11_at 22 = .ok (.invokevirtual 105, 3) := by decide +kernel
theorem dX11_at_25 : decode cX11_at 25 = .ok (.goto 18, 3) := by decide +kernel
theorem dX11_at_28 : decode cX11_at 28 = .ok (.aload_n 0, 1) := by decide +kernel
theorem dX11_at_29 : decode cX11_at 29 = .ok (.aload_n 0, 1) := by decide +kernel
theorem dX11_at_30 : decode cX11_at 30 = .ok (.getfield 11, 3) := by decide +kernel
theorem dX11_at_33 : decode cX11_at 33 = .ok (.iload_n 1, 1) := by decide +kernel
theorem dX11_at_34 : decode cX11_at 34 = .ok (.aaload, 1) := by decide +kernel
theorem dX11_at_35 : decode cX11_at 35 = .ok (.getfield 117, 3) := by decide +kernel
theorem dX11_at_38 : decode cX11_at 38 = .ok (.iload_n 2, 1) := by decide +kernel
theorem dX11_at_39 : decode cX11_at 39 = .ok (.iaload, 1) := by decide +kernel
theorem dX11_at_40 : decode cX11_at 40 = .ok (.invokevirtual 120, 3) := by decide +kernel
theorem dX11_at_43 : decode cX11_at 43 = .ok (.ireturn, 1) := by decide +kernel
theorem dX11_tear_0 : decode cX11_tear 0 = .ok (.iload_n 1, 1) := by decide +kernel
theorem dX11_tear_1 : decode cX11_tear 1 = .ok (.invokestatic 101, 3) := by decide +kernel
theorem dX11_tear_4 : decode cX11_tear 4 = .ok (.ifCond .ne 5, 3) := by decide +kernel
theorem dX11_tear_7 : decode cX11_tear 7 = .ok (.iconst (-1), 1) := by decide +kernel
theorem dX11_tear_8 : decode cX11_tear 8 = .ok (.ireturn, 1) := by decide +kernel
theorem dX11_tear_9 : decode cX11_tear 9 = .ok (.aload_n 0, 1) := by decide +kernel
theorem dX11_tear_10 : decode cX11_tear 10 = .ok (.getfield 11, 3) := by decide +kernel
theorem dX11_tear_13 : decode cX11_tear 13 = .ok (.iload_n 1, 1) := by decide +kernel
theorem dX11_tear_14 : decode cX11_tear 14 = .ok (.aaload, 1) := by decide +kernel
theorem dX11_tear_15 : decode cX11_tear 15 = .ok (.invokevirtual 123, 3) := by decide +kernel
theorem dX11_tear_18 : decode cX11_tear 18 = .ok (.ifCond .ne 9, 3) := by decide +kernel
theorem dX11_tear_21 : decode cX11_tear 21 = .ok (.aload_n 0, 1) := by decide +kernel
theorem dX11_tear_22 : decode cX11_tear 22 = .ok (.iconst 1, 1) := by decide +kernel
theorem dX11_tear_23 : decode cX11_tear 23 = .ok (.invokevirtual 105, 3) := by decide +kernel
theorem dX11_tear_26 : decode cX11_tear 26 = .ok (.ireturn, 1) := by decide +kernel
theorem dX11_tear_27 : decode cX11_tear 27 = .ok (.aload_n 0, 1) := by decide +kernel
theorem dX11_tear_28 : decode cX11_tear 28 = .ok (.getfield 11, 3) := by decide +kernel
theorem dX11_tear_31 : decode cX11_tear 31 = .ok (.iload_n 1, 1) := by decide +kernel
theorem dX11_tear_32 : decode cX11_tear 32 = .ok (.aaload, 1) := by decide +kernel
theorem dX11_tear_33 : decode cX11_tear 33 = .ok (.iconst (-1), 1) := by decide +kernel
theorem dX11_tear_34 : decode cX11_tear 34 = .ok (.putfield 127, 3) := by decide +kernel
theorem dX11_tear_37 : decode cX11_tear 37 = .ok (.iconst 1, 1) := by decide +kernel
theorem dX11_tear_38 : decode cX11_tear 38 = .ok (.ireturn, 1) := by decide +kernel
theorem dX11_copy_0 : decode cX11_copy 0 = .ok (.iload_n 1, 1) := by decide +kernel
theorem dX11_copy_1 : decode cX11_copy 1 = .ok (.invokestatic 101, 3) := by decide +kernel
theorem dX11_copy_4 : decode cX11_copy 4 = .ok (.ifCond .eq 10, 3) := by decide +kernel
theorem dX11_copy_7 : decode cX11_copy 7 = .ok (.iload_n 3, 1) := by decide +kernel
theorem dX11_copy_8 : decode cX11_copy 8 = .ok (.invokestatic 101, 3) := by decide +kernel
theorem dX11_copy_11 : decode cX11_copy 11 = .ok (.ifCond .ne 5, 3) := by decide +kernel
theorem dX11_copy_14 : decode cX11_copy 14 = .ok (.iconst (-1), 1) := by decide +kernel
theorem dX11_copy_15 : decode cX11_copy 15 = .ok (.ireturn, 1) := by decide +kernel
theorem dX11_copy_16 : decode cX11_copy 16 = .ok (.iload 5, 2) := by decide +kernel
theorem dX11_copy_18 : decode cX11_copy 18 = .ok (.ifCond .ge 9, 3) := by decide +kernel
theorem dX11_copy_21 : decode cX11_copy 21 = .ok (.aload_n 0, 1) := by decide +kernel
theorem dX11_copy_22 : decode cX11_copy 22 = .ok (.iconst 5, 1) := by decide +kernel
theorem dX11_copy_23 : decode cX11_copy 23 = .ok (.invokevirtual 105, 3) := by decide +kernel
theorem dX11_copy_26 : decode cX11_copy 26 = .ok (.ireturn, 1) := by decide +kernel
theorem dX11_copy_27 : decode cX11_copy 27 = .ok (.aload_n 0, 1) := by decide +kernel
theorem dX11_copy_28 : decode cX11_copy 28 = .ok (.getfield 11, 3) := by decide +kernel
theorem dX11_copy_31 : decode cX11_copy 31 = .ok (.iload_n 1, 1) := by decide +kernel
theorem dX11_copy_32 : decode cX11_copy 32 = .ok (.aaload, 1) := by decide +kernel
theorem dX11_copy_33 : decode cX11_copy 33 = .ok (.invokevirtual 123, 3) := by decide +kernel
theorem dX11_copy_36 : decode cX11_copy 36 = .ok (.ifCond .eq 15, 3) := by decide +kernel
theorem dX11_copy_39 : decode cX11_copy 39 = .ok (.aload_n 0, 1) := by decide +kernel
theorem dX11_copy_40 : decode cX11_copy 40 = .ok (.getfield 11, 3) := by decide +kernel
theorem dX11_copy_43 : decode cX11_copy 43 = .ok (.iload_n 3, 1) := by decide +kernel
theorem dX11_copy_44 : decode cX11_copy 44 = .ok (.aaload, 1) := by decide +kernel
theorem dX11_copy_45 : decode cX11_copy 45 = .ok (.invokevirtual 123, 3) := by decide +kernel
theorem dX11_copy_48 : decode cX11_copy 48 = .ok (.ifCond .ne 9, 3) := by decide +kernel
theorem dX11_copy_51 : decode cX11_copy 51 = .ok (.aload_n 0, 1) := by decide +kernel
theorem dX11_copy_52 : decode cX11_copy 52 = .ok (.iconst 1, 1) := by decide +kernel
theorem dX11_copy_53 : decode cX11_copy 53 = .ok (.invokevirtual 105, 3) := by decide +kernel
theorem dX11_copy_56 : decode cX11_copy 56 = .ok (.ireturn, 1) := by decide +kernel
theorem dX11_copy_57 : decode cX11_copy 57 = .ok (.aload_n 0, 1) := by decide +kernel
theorem dX11_copy_58 : decode cX11_copy 58 = .ok (.getfield 11, 3) := by decide +kernel
theorem dX11_copy_61 : decode cX11_copy 61 = .ok (.iload_n 1, 1) := by decide +kernel
theorem dX11_copy_62 : decode cX11_copy 62 = .ok (.aaload, 1) := by decide +kernel
theorem dX11_copy_63 : decode cX11_copy 63 = .ok (.iload_n 2, 1) := by decide +kernel
theorem dX11_copy_64 : decode cX11_copy 64 = .ok (.iload 5, 2) := by decide +kernel
theorem dX11_copy_66 : decode cX11_copy 66 = .ok (.invokevirtual 131, 3) := by decide +kernel
theorem dX11_copy_69 : decode cX11_copy 69 = .ok (.ifCond .eq 19, 3) := by decide +kernel
theorem dX11_copy_72 : decode cX11_copy 72 = .ok (.aload_n 0, 1) := by decide +kernel
theorem dX11_copy_73 : decode cX11_copy 73 = .ok (.getfield 11, 3) := by decide +kernel
theorem dX11_copy_76 : decode cX11_copy 76 = .ok (.iload_n 3, 1) := by decide +kernel
theorem dX11_copy_77 : decode cX11_copy 77 = .ok (.aaload, 1) := by decide +kernel
theorem dX11_copy_78 : decode cX11_copy 78 = .ok (.iload 4, 2) := by decide +kernel
theorem dX11_copy_80 : decode cX11_copy 80 = .ok (.iload 5, 2) := by decide +kernel
theorem dX11_copy_82 : decode cX11_copy 82 = .ok (.invokevirtual 131, 3) := by decide +kernel
theorem dX11_copy_85 : decode cX11_copy 85 = .ok (.ifCond .ne 9, 3) := by decide +kernel
theorem dX11_copy_88 : decode cX11_copy 88 = .ok (.aload_n 0, 1) := by decide +kernel
theorem dX11_copy_89 : decode cX11_copy 89 = .ok (.iconst 2, 1) := by decide +kernel
theorem dX11_copy_90 : decode cX11_copy 90 = .ok (.invokevirtual 105, 3) := by decide +kernel
theorem dX11_copy_93 : decode cX11_copy 93 = .ok (.ireturn, 1) := by decide +kernel
theorem dX11_copy_94 : decode cX11_copy 94 = .ok (.aload_n 0, 1) := by decide +kernel
theorem dX11_copy_95 : decode cX11_copy 95 = .ok (.getfield 11, 3) := by decide +kernel
theorem dX11_copy_98 : decode cX11_copy 98 = .ok (.iload_n 1, 1) := by decide +kernel
theorem dX11_copy_99 : decode cX11_copy 99 = .ok (.aaload, 1) := by decide +kernel
theorem dX11_copy_100 : decode cX11_copy 100 = .ok (.getfield 117, 3) := by decide +kernel
theorem dX11_copy_103 : decode cX11_copy 103 = .ok (.iload_n 2, 1) := by decide +kernel
theorem dX11_copy_104 : decode cX11_copy 104 = .ok (.aload_n 0, 1) := by decide +kernel
theorem dX11_copy_105 : decode cX11_copy 105 = .ok (.getfield 11, 3) := by decide +kernel
theorem dX11_copy_108 : decode cX11_copy 108 = .ok (.iload_n 3, 1) := by decide +kernel
theorem dX11_copy_109 : decode cX11_copy 109 = .ok (.aaload, 1) := by decide +kernel
theorem dX11_copy_110 : decode cX11_copy 110 = .ok (.getfield 117, 3) := by decide +kernel
theorem dX11_copy_113 : decode cX11_copy 113 = .ok (.iload 4, 2) := by decide +kernel
theorem dX11_copy_115 : decode cX11_copy 115 = .ok (.iload 5, 2) := by decide +kernel
theorem dX11_copy_117 : decode cX11_copy 117 = .ok (.invokestatic 135, 3) := by decide +kernel
theorem dX11_copy_120 : decode cX11_copy 120 = .ok (.iconst 1, 1) := by decide +kernel
theorem dX11_copy_121 : decode cX11_copy 121 = .ok (.ireturn, 1) := by decide +kernel
theorem dX11_mean_0 : decode cX11_mean 0 = .ok (.iload_n 1, 1) := by decide +kernel
theorem dX11_mean_1 : decode cX11_mean 1 = .ok (.invokestatic 101, 3) := by decide +kernel
theorem dX11_mean_4 : decode cX11_mean 4 = .ok (.ifCond .ne 5, 3) := by decide +kernel
theorem dX11_mean_7 : decode cX11_mean 7 = .ok (.iconst (-1), 1) := by decide +kernel
theorem dX11_mean_8 : decode cX11_mean 8 = .ok (.ireturn, 1) := by decide +kernel
theorem dX11_mean_9 : decode cX11_mean 9 = .ok (.aload_n 0, 1) := by decide +kernel
theorem dX11_mean_10 : decode cX11_mean 10 = .ok (.getfield 11, 3) := by decide +kernel
theorem dX11_mean_13 : decode cX11_mean 13 = .ok (.iload_n 1, 1) := by decide +kernel
theorem dX11_mean_14 : decode cX11_mean 14 = .ok (.aaload, 1) := by decide +kernel
theorem dX11_mean_15 : decode cX11_mean 15 = .ok (.invokevirtual 123, 3) := by decide +kernel
theorem dX11_mean_18 : decode cX11_mean 18 = .ok (.ifCond .ne 9, 3) := by decide +kernel
theorem dX11_mean_21 : decode cX11_mean 21 = .ok (.aload_n 0, 1) := by decide +kernel
theorem dX11_mean_22 : decode cX11_mean 22 = .ok (.iconst 1, 1) := by decide +kernel
theorem dX11_mean_23 : decode cX11_mean 23 = .ok (.invokevirtual 105, 3) := by decide +kernel
theorem dX11_mean_26 : decode cX11_mean 26 = .ok (.ireturn, 1) := by decide +kernel
theorem dX11_mean_27 : decode cX11_mean 27 = .ok (.aload_n 0, 1) := by decide +kernel
theorem dX11_mean_28 : decode cX11_mean 28 = .ok (.getfield 11, 3) := by decide +kernel
theorem dX11_mean_31 : decode cX11_mean 31 = .ok (.iload_n 1, 1) := by decide +kernel
theorem dX11_mean_32 : decode cX11_mean 32 = .ok (.aaload, 1) := by decide +kernel
theorem dX11_mean_33 : decode cX11_mean 33 = .ok (.getfield 127, 3) := by decide +kernel
theorem dX11_mean_36 : decode cX11_mean 36 = .ok (.istore_n 2, 1) := by decide +kernel
theorem dX11_mean_37 : decode cX11_mean 37 = .ok (.iload_n 2, 1) := by decide +kernel
theorem dX11_mean_38 : decode cX11_mean 38 = .ok (.ifCond .ne 9, 3) := by decide +kernel
theorem dX11_mean_41 : decode cX11_mean 41 = .ok (.aload_n 0, 1) := by decide +kernel
theorem dX11_mean_42 : decode cX11_mean 42 = .ok (.iconst 4, 1) := by decide +kernel
theorem dX11_mean_43 : decode cX11_mean 43 = .ok (.invokevirtual 105, 3) := by decide +kernel
theorem dX11_mean_46 : decode cX11_mean 46 = .ok (.ireturn, 1) := by decide +kernel
theorem dX11_mean_47 : decode cX11_mean 47 = .ok (.lconst 0, 1) := by decide +kernel
theorem dX11_mean_48 : decode cX11_mean 48 = .ok (.lstore_n 3, 1) := by decide +kernel
theorem dX11_mean_49 : decode cX11_mean 49 = .ok (.iconst 0, 1) := by decide +kernel
theorem dX11_mean_50 : decode cX11_mean 50 = .ok (.istore 5, 2) := by decide +kernel
theorem dX11_mean_52 : decode cX11_mean 52 = .ok (.iload 5, 2) := by decide +kernel
theorem dX11_mean_54 : decode cX11_mean 54 = .ok (.iload_n 2, 1) := by decide +kernel
theorem dX11_mean_55 : decode cX11_mean 55 = .ok (.if_icmp .ge 25, 3) := by decide +kernel
theorem dX11_mean_58 : decode cX11_mean 58 = .ok (.lload_n 3, 1) := by decide +kernel
theorem dX11_mean_59 : decode cX11_mean 59 = .ok (.aload_n 0, 1) := by decide +kernel
theorem dX11_mean_60 : decode cX11_mean 60 = .ok (.getfield 11, 3) := by decide +kernel
theorem dX11_mean_63 : decode cX11_mean 63 = .ok (.iload_n 1, 1) := by decide +kernel
theorem dX11_mean_64 : decode cX11_mean 64 = .ok (.aaload, 1) := by decide +kernel
theorem dX11_mean_65 : decode cX11_mean 65 = .ok (.getfield 117, 3) := by decide +kernel
theorem dX11_mean_68 : decode cX11_mean 68 = .ok (.iload 5, 2) := by decide +kernel
theorem dX11_mean_70 : decode cX11_mean 70 = .ok (.iaload, 1) := by decide +kernel
theorem dX11_mean_71 : decode cX11_mean 71 = .ok (.i2l, 1) := by decide +kernel
theorem dX11_mean_72 : decode cX11_mean 72 = .ok (.ladd, 1) := by decide +kernel
theorem dX11_mean_73 : decode cX11_mean 73 = .ok (.lstore_n 3, 1) := by decide +kernel
theorem dX11_mean_74 : decode cX11_mean 74 = .ok (.iinc 5 1, 3) := by decide +kernel
theorem dX11_mean_77 : decode cX11_mean 77 = .ok (.goto (-25), 3) := by decide +kernel
theorem dX11_mean_80 : decode cX11_mean 80 = .ok (.aload_n 0, 1) := by decide +kernel
theorem dX11_mean_81 : decode cX11_mean 81 = .ok (.lload_n 3, 1) := by decide +kernel
theorem dX11_mean_82 : decode cX11_mean 82 = .ok (.iload_n 2, 1) := by decide +kernel
theorem dX11_mean_83 : decode cX11_mean 83 = .ok (.i2l, 1) := by decide +kernel
theorem dX11_mean_84 : decode cX11_mean 84 = .ok (.ldiv, 1) := by decide +kernel
theorem dX11_mean_85 : decode cX11_mean 85 = .ok (.l2i, 1) := by decide +kernel
theorem dX11_mean_86 : decode cX11_mean 86 = .ok (.invokevirtual 120, 3) := by decide +kernel
theorem dX11_mean_89 : decode cX11_mean 89 = .ok (.ireturn, 1) := by decide +kernel
theorem dX11_text_0 : decode cX11_text 0 = .ok (.iload_n 1, 1) := by decide +kernel
theorem dX11_text_1 : decode cX11_text 1 = .ok (.invokestatic 141, 3) := by decide +kernel
theorem dX11_text_4 : decode cX11_text 4 = .ok (.ifCond .eq 9, 3) := by decide +kernel
theorem dX11_text_7 : decode cX11_text 7 = .ok (.iload_n 2, 1) := by decide +kernel
theorem dX11_text_8 : decode cX11_text 8 = .ok (.bipush 80, 2) := by decide +kernel
theorem dX11_text_10 : decode cX11_text 10 = .ok (.if_icmp .le 5, 3) := by decide +kernel
theorem dX11_text_13 : decode cX11_text 13 = .ok (.iconst (-1), 1) := by decide +kernel
theorem dX11_text_14 : decode cX11_text 14 = .ok (.ireturn, 1) := by decide +kernel
theorem dX11_text_15 : decode cX11_text 15 = .ok (.iload_n 2, 1) := by decide +kernel
theorem dX11_text_16 : decode cX11_text 16 = .ok (.ifCond .ge 9, 3) := by decide +kernel
theorem dX11_text_19 : decode cX11_text 19 = .ok (.aload_n 0, 1) := by decide +kernel
theorem dX11_text_20 : decode cX11_text 20 = .ok (.iconst 5, 1) := by decide +kernel
theorem dX11_text_21 : decode cX11_text 21 = .ok (.invokevirtual 105, 3) := by decide +kernel
theorem dX11_text_24 : decode cX11_text 24 = .ok (.ireturn, 1) := by decide +kernel
theorem dX11_text_25 : decode cX11_text 25 = .ok (.aload_n 0, 1) := by decide +kernel
theorem dX11_text_26 : decode cX11_text 26 = .ok (.getfield 17, 3) := by decide +kernel
theorem dX11_text_29 : decode cX11_text 29 = .ok (.iload_n 1, 1) := by decide +kernel
theorem dX11_text_30 : decode cX11_text 30 = .ok (.aaload, 1) := by decide +kernel
theorem dX11_text_31 : decode cX11_text 31 = .ok (.iload_n 2, 1) := by decide +kernel
theorem dX11_text_32 : decode cX11_text 32 = .ok (.invokevirtual 144, 3) := by decide +kernel
theorem dX11_text_35 : decode cX11_text 35 = .ok (.iload_n 2, 1) := by decide +kernel
theorem dX11_text_36 : decode cX11_text 36 = .ok (.ireturn, 1) := by decide +kernel
theorem dX11_put_0 : decode cX11_put 0 = .ok (.iload_n 1, 1) := by decide +kernel
theorem dX11_put_1 : decode cX11_put 1 = .ok (.invokestatic 141, 3) := by decide +kernel
theorem dX11_put_4 : decode cX11_put 4 = .ok (.ifCond .ne 5, 3) := by decide +kernel
theorem dX11_put_7 : decode cX11_put 7 = .ok (.iconst (-1), 1) := by decide +kernel
theorem dX11_put_8 : decode cX11_put 8 = .ok (.ireturn, 1) := by decide +kernel
theorem dX11_put_9 : decode cX11_put 9 = .ok (.aload_n 0, 1) := by decide +kernel
theorem dX11_put_10 : decode cX11_put 10 = .ok (.getfield 17, 3) := by decide +kernel
theorem dX11_put_13 : decode cX11_put 13 = .ok (.iload_n 1, 1) := by decide +kernel
theorem dX11_put_14 : decode cX11_put 14 = .ok (.aaload, 1) := by decide +kernel
theorem dX11_put_15 : decode cX11_put 15 = .ok (.invokevirtual 145, 3) := by decide +kernel
theorem dX11_put_18 : decode cX11_put 18 = .ok (.ifCond .ne 9, 3) := by decide +kernel
