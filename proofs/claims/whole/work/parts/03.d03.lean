theorem dX11_put_21 : decode cX11_put 21 = .ok (.aload_n 0, 1) := by decide +kernel
theorem dX11_put_22 : decode cX11_put 22 = .ok (.iconst 1, 1) := by decide +kernel
theorem dX11_put_23 : decode cX11_put 23 = .ok (.invokevirtual 105, 3) := by decide +kernel
theorem dX11_put_26 : decode cX11_put 26 = .ok (.ireturn, 1) := by decide +kernel
theorem dX11_put_27 : decode cX11_put 27 = .ok (.aload_n 0, 1) := by decide +kernel
theorem dX11_put_28 : decode cX11_put 28 = .ok (.getfield 17, 3) := by decide +kernel
theorem dX11_put_31 : decode cX11_put 31 = .ok (.iload_n 1, 1) := by decide +kernel
theorem dX11_put_32 : decode cX11_put 32 = .ok (.aaload, 1) := by decide +kernel
theorem dX11_put_33 : decode cX11_put 33 = .ok (.iload_n 2, 1) := by decide +kernel
theorem dX11_put_34 : decode cX11_put 34 = .ok (.invokevirtual 146, 3) := by decide +kernel
theorem dX11_put_37 : decode cX11_put 37 = .ok (.ifCond .ne 9, 3) := by decide +kernel
theorem dX11_put_40 : decode cX11_put 40 = .ok (.aload_n 0, 1) := by decide +kernel
theorem dX11_put_41 : decode cX11_put 41 = .ok (.iconst 2, 1) := by decide +kernel
theorem dX11_put_42 : decode cX11_put 42 = .ok (.invokevirtual 105, 3) := by decide +kernel
theorem dX11_put_45 : decode cX11_put 45 = .ok (.ireturn, 1) := by decide +kernel
theorem dX11_put_46 : decode cX11_put 46 = .ok (.aload_n 0, 1) := by decide +kernel
theorem dX11_put_47 : decode cX11_put 47 = .ok (.getfield 17, 3) := by decide +kernel
theorem dX11_put_50 : decode cX11_put 50 = .ok (.iload_n 1, 1) := by decide +kernel
theorem dX11_put_51 : decode cX11_put 51 = .ok (.aaload, 1) := by decide +kernel
theorem dX11_put_52 : decode cX11_put 52 = .ok (.getfield 149, 3) := by decide +kernel
theorem dX11_put_55 : decode cX11_put 55 = .ok (.iload_n 2, 1) := by decide +kernel
theorem dX11_put_56 : decode cX11_put 56 = .ok (.baload, 1) := by decide +kernel
theorem dX11_put_57 : decode cX11_put 57 = .ok (.istore 4, 2) := by decide +kernel
theorem dX11_put_59 : decode cX11_put 59 = .ok (.aload_n 0, 1) := by decide +kernel
theorem dX11_put_60 : decode cX11_put 60 = .ok (.getfield 17, 3) := by decide +kernel
theorem dX11_put_63 : decode cX11_put 63 = .ok (.iload_n 1, 1) := by decide +kernel
theorem dX11_put_64 : decode cX11_put 64 = .ok (.aaload, 1) := by decide +kernel
theorem dX11_put_65 : decode cX11_put 65 = .ok (.getfield 149, 3) := by decide +kernel
theorem dX11_put_68 : decode cX11_put 68 = .ok (.iload_n 2, 1) := by decide +kernel
theorem dX11_put_69 : decode cX11_put 69 = .ok (.iload_n 3, 1) := by decide +kernel
theorem dX11_put_70 : decode cX11_put 70 = .ok (.i2b, 1) := by decide +kernel
theorem dX11_put_71 : decode cX11_put 71 = .ok (.bastore, 1) := by decide +kernel
theorem dX11_put_72 : decode cX11_put 72 = .ok (.iload 4, 2) := by decide +kernel
theorem dX11_put_74 : decode cX11_put 74 = .ok (.sipush 1000, 3) := by decide +kernel
theorem dX11_put_77 : decode cX11_put 77 = .ok (.iadd, 1) := by decide +kernel
theorem dX11_put_78 : decode cX11_put 78 = .ok (.ireturn, 1) := by decide +kernel
theorem dX11_fault_0 : decode cX11_fault 0 = .ok (.iload_n 1, 1) := by decide +kernel
theorem dX11_fault_1 : decode cX11_fault 1 = .ok (.invokestatic 141, 3) := by decide +kernel
theorem dX11_fault_4 : decode cX11_fault 4 = .ok (.ifCond .ne 5, 3) := by decide +kernel
theorem dX11_fault_7 : decode cX11_fault 7 = .ok (.iconst (-1), 1) := by decide +kernel
theorem dX11_fault_8 : decode cX11_fault 8 = .ok (.ireturn, 1) := by decide +kernel
theorem dX11_fault_9 : decode cX11_fault 9 = .ok (.aload_n 0, 1) := by decide +kernel
theorem dX11_fault_10 : decode cX11_fault 10 = .ok (.getfield 17, 3) := by decide +kernel
theorem dX11_fault_13 : decode cX11_fault 13 = .ok (.iload_n 1, 1) := by decide +kernel
theorem dX11_fault_14 : decode cX11_fault 14 = .ok (.aaload, 1) := by decide +kernel
theorem dX11_fault_15 : decode cX11_fault 15 = .ok (.invokevirtual 145, 3) := by decide +kernel
theorem dX11_fault_18 : decode cX11_fault 18 = .ok (.ifCond .ne 9, 3) := by decide +kernel
theorem dX11_fault_21 : decode cX11_fault 21 = .ok (.aload_n 0, 1) := by decide +kernel
theorem dX11_fault_22 : decode cX11_fault 22 = .ok (.iconst 1, 1) := by decide +kernel
theorem dX11_fault_23 : decode cX11_fault 23 = .ok (.invokevirtual 105, 3) := by decide +kernel
theorem dX11_fault_26 : decode cX11_fault 26 = .ok (.ireturn, 1) := by decide +kernel
theorem dX11_fault_27 : decode cX11_fault 27 = .ok (.iload_n 2, 1) := by decide +kernel
theorem dX11_fault_28 : decode cX11_fault 28 = .ok (.ifCond .eq 19, 3) := by decide +kernel
theorem dX11_fault_31 : decode cX11_fault 31 = .ok (.aload_n 0, 1) := by decide +kernel
theorem dX11_fault_32 : decode cX11_fault 32 = .ok (.getfield 54, 3) := by decide +kernel
theorem dX11_fault_35 : decode cX11_fault 35 = .ok (.aload_n 0, 1) := by decide +kernel
theorem dX11_fault_36 : decode cX11_fault 36 = .ok (.getfield 17, 3) := by decide +kernel
theorem dX11_fault_39 : decode cX11_fault 39 = .ok (.iload_n 1, 1) := by decide +kernel
theorem dX11_fault_40 : decode cX11_fault 40 = .ok (.aaload, 1) := by decide +kernel
theorem dX11_fault_41 : decode cX11_fault 41 = .ok (.invokevirtual 153, 3) := by decide +kernel
theorem dX11_fault_44 : decode cX11_fault 44 = .ok (.goto 16, 3) := by decide +kernel
theorem dX11_fault_47 : decode cX11_fault 47 = .ok (.aload_n 0, 1) := by decide +kernel
theorem dX11_fault_48 : decode cX11_fault 48 = .ok (.getfield 54, 3) := by decide +kernel
theorem dX11_fault_51 : decode cX11_fault 51 = .ok (.aload_n 0, 1) := by decide +kernel
theorem dX11_fault_52 : decode cX11_fault 52 = .ok (.getfield 17, 3) := by decide +kernel
theorem dX11_fault_55 : decode cX11_fault 55 = .ok (.iload_n 1, 1) := by decide +kernel
theorem dX11_fault_56 : decode cX11_fault 56 = .ok (.aaload, 1) := by decide +kernel
theorem dX11_fault_57 : decode cX11_fault 57 = .ok (.invokevirtual 157, 3) := by decide +kernel
theorem dX11_fault_60 : decode cX11_fault 60 = .ok (.ireturn, 1) := by decide +kernel
theorem dX11_flour_0 : decode cX11_flour 0 = .ok (.iload_n 1, 1) := by decide +kernel
theorem dX11_flour_1 : decode cX11_flour 1 = .ok (.invokestatic 160, 3) := by decide +kernel
theorem dX11_flour_4 : decode cX11_flour 4 = .ok (.ifCond .eq 10, 3) := by decide +kernel
theorem dX11_flour_7 : decode cX11_flour 7 = .ok (.iload_n 2, 1) := by decide +kernel
theorem dX11_flour_8 : decode cX11_flour 8 = .ok (.invokestatic 141, 3) := by decide +kernel
theorem dX11_flour_11 : decode cX11_flour 11 = .ok (.ifCond .ne 5, 3) := by decide +kernel
theorem dX11_flour_14 : decode cX11_flour 14 = .ok (.iconst (-1), 1) := by decide +kernel
theorem dX11_flour_15 : decode cX11_flour 15 = .ok (.ireturn, 1) := by decide +kernel
theorem dX11_flour_16 : decode cX11_flour 16 = .ok (.aload_n 0, 1) := by decide +kernel
theorem dX11_flour_17 : decode cX11_flour 17 = .ok (.getfield 17, 3) := by decide +kernel
theorem dX11_flour_20 : decode cX11_flour 20 = .ok (.iload_n 2, 1) := by decide +kernel
theorem dX11_flour_21 : decode cX11_flour 21 = .ok (.aaload, 1) := by decide +kernel
theorem dX11_flour_22 : decode cX11_flour 22 = .ok (.invokevirtual 145, 3) := by decide +kernel
theorem dX11_flour_25 : decode cX11_flour 25 = .ok (.ifCond .ne 9, 3) := by decide +kernel
theorem dX11_flour_28 : decode cX11_flour 28 = .ok (.aload_n 0, 1) := by decide +kernel
theorem dX11_flour_29 : decode cX11_flour 29 = .ok (.iconst 1, 1) := by decide +kernel
theorem dX11_flour_30 : decode cX11_flour 30 = .ok (.invokevirtual 105, 3) := by decide +kernel
theorem dX11_flour_33 : decode cX11_flour 33 = .ok (.ireturn, 1) := by decide +kernel
theorem dX11_flour_34 : decode cX11_flour 34 = .ok (.aload_n 0, 1) := by decide +kernel
theorem dX11_flour_35 : decode cX11_flour 35 = .ok (.getfield 54, 3) := by decide +kernel
theorem dX11_flour_38 : decode cX11_flour 38 = .ok (.aload_n 0, 1) := by decide +kernel
theorem dX11_flour_39 : decode cX11_flour 39 = .ok (.getfield 17, 3) := by decide +kernel
theorem dX11_flour_42 : decode cX11_flour 42 = .ok (.iload_n 2, 1) := by decide +kernel
theorem dX11_flour_43 : decode cX11_flour 43 = .ok (.aaload, 1) := by decide +kernel
theorem dX11_flour_44 : decode cX11_flour 44 = .ok (.invokevirtual 157, 3) := by decide +kernel
theorem dX11_flour_47 : decode cX11_flour 47 = .ok (.bipush (-9), 2) := by decide +kernel
theorem dX11_flour_49 : decode cX11_flour 49 = .ok (.if_icmp .eq 6, 3) := by decide +kernel
theorem dX11_flour_52 : decode cX11_flour 52 = .ok (.bipush (-4), 2) := by decide +kernel
theorem dX11_flour_54 : decode cX11_flour 54 = .ok (.ireturn, 1) := by decide +kernel
theorem dX11_flour_55 : decode cX11_flour 55 = .ok (.aload_n 0, 1) := by decide +kernel
theorem dX11_flour_56 : decode cX11_flour 56 = .ok (.getfield 23, 3) := by decide +kernel
theorem dX11_flour_59 : decode cX11_flour 59 = .ok (.iload_n 1, 1) := by decide +kernel
theorem dX11_flour_60 : decode cX11_flour 60 = .ok (.aaload, 1) := by decide +kernel
theorem dX11_flour_61 : decode cX11_flour 61 = .ok (.aload_n 0, 1) := by decide +kernel
theorem dX11_flour_62 : decode cX11_flour 62 = .ok (.getfield 54, 3) := by decide +kernel
theorem dX11_flour_65 : decode cX11_flour 65 = .ok (.getfield 163, 3) := by decide +kernel
theorem dX11_flour_68 : decode cX11_flour 68 = .ok (.invokevirtual 166, 3) := by decide +kernel
theorem dX11_flour_71 : decode cX11_flour 71 = .ok (.aload_n 0, 1) := by decide +kernel
theorem dX11_flour_72 : decode cX11_flour 72 = .ok (.getfield 54, 3) := by decide +kernel
theorem dX11_flour_75 : decode cX11_flour 75 = .ok (.getfield 170, 3) := by decide +kernel
theorem dX11_flour_78 : decode cX11_flour 78 = .ok (.ireturn, 1) := by decide +kernel
theorem dX11_doing_0 : decode cX11_doing 0 = .ok (.iload_n 1, 1) := by decide +kernel
theorem dX11_doing_1 : decode cX11_doing 1 = .ok (.invokestatic 173, 3) := by decide +kernel
theorem dX11_doing_4 : decode cX11_doing 4 = .ok (.ifCond .eq 10, 3) := by decide +kernel
theorem dX11_doing_7 : decode cX11_doing 7 = .ok (.iload_n 2, 1) := by decide +kernel
theorem dX11_doing_8 : decode cX11_doing 8 = .ok (.invokestatic 141, 3) := by decide +kernel
theorem dX11_doing_11 : decode cX11_doing 11 = .ok (.ifCond .ne 5, 3) := by decide +kernel
theorem dX11_doing_14 : decode cX11_doing 14 = .ok (.iconst (-1), 1) := by decide +kernel
theorem dX11_doing_15 : decode cX11_doing 15 = .ok (.ireturn, 1) := by decide +kernel
theorem dX11_doing_16 : decode cX11_doing 16 = .ok (.aload_n 0, 1) := by decide +kernel
theorem dX11_doing_17 : decode cX11_doing 17 = .ok (.getfield 17, 3) := by decide +kernel
theorem dX11_doing_20 : decode cX11_doing 20 = .ok (.iload_n 2, 1) := by decide +kernel
theorem dX11_doing_21 : decode cX11_doing 21 = .ok (.aaload, 1) := by decide +kernel
theorem dX11_doing_22 : decode cX11_doing 22 = .ok (.invokevirtual 145, 3) := by decide +kernel
theorem dX11_doing_25 : decode cX11_doing 25 = .ok (.ifCond .ne 9, 3) := by decide +kernel
theorem dX11_doing_28 : decode cX11_doing 28 = .ok (.aload_n 0, 1) := by decide +kernel
theorem dX11_doing_29 : decode cX11_doing 29 = .ok (.iconst 1, 1) := by decide +kernel
theorem dX11_doing_30 : decode cX11_doing 30 = .ok (.invokevirtual 105, 3) := by decide +kernel
theorem dX11_doing_33 : decode cX11_doing 33 = .ok (.ireturn, 1) := by decide +kernel
theorem dX11_doing_34 : decode cX11_doing 34 = .ok (.aload_n 0, 1) := by decide +kernel
theorem dX11_doing_35 : decode cX11_doing 35 = .ok (.getfield 54, 3) := by decide +kernel
theorem dX11_doing_38 : decode cX11_doing 38 = .ok (.aload_n 0, 1) := by decide +kernel
theorem dX11_doing_39 : decode cX11_doing 39 = .ok (.getfield 17, 3) := by decide +kernel
theorem dX11_doing_42 : decode cX11_doing 42 = .ok (.iload_n 2, 1) := by decide +kernel
theorem dX11_doing_43 : decode cX11_doing 43 = .ok (.aaload, 1) := by decide +kernel
theorem dX11_doing_44 : decode cX11_doing 44 = .ok (.invokevirtual 153, 3) := by decide +kernel
theorem dX11_doing_47 : decode cX11_doing 47 = .ok (.bipush (-9), 2) := by decide +kernel
theorem dX11_doing_49 : decode cX11_doing 49 = .ok (.if_icmp .eq 6, 3) := by decide +kernel
theorem dX11_doing_52 : decode cX11_doing 52 = .ok (.bipush (-4), 2) := by decide +kernel
theorem dX11_doing_54 : decode cX11_doing 54 = .ok (.ireturn, 1) := by decide +kernel
theorem dX11_doing_55 : decode cX11_doing 55 = .ok (.aload_n 0, 1) := by decide +kernel
theorem dX11_doing_56 : decode cX11_doing 56 = .ok (.getfield 29, 3) := by decide +kernel
theorem dX11_doing_59 : decode cX11_doing 59 = .ok (.iload_n 1, 1) := by decide +kernel
theorem dX11_doing_60 : decode cX11_doing 60 = .ok (.aaload, 1) := by decide +kernel
theorem dX11_doing_61 : decode cX11_doing 61 = .ok (.aload_n 0, 1) := by decide +kernel
theorem dX11_doing_62 : decode cX11_doing 62 = .ok (.getfield 54, 3) := by decide +kernel
theorem dX11_doing_65 : decode cX11_doing 65 = .ok (.getfield 176, 3) := by decide +kernel
theorem dX11_doing_68 : decode cX11_doing 68 = .ok (.invokevirtual 179, 3) := by decide +kernel
theorem dX11_doing_71 : decode cX11_doing 71 = .ok (.aload_n 0, 1) := by decide +kernel
theorem dX11_doing_72 : decode cX11_doing 72 = .ok (.getfield 29, 3) := by decide +kernel
theorem dX11_doing_75 : decode cX11_doing 75 = .ok (.iload_n 1, 1) := by decide +kernel
theorem dX11_doing_76 : decode cX11_doing 76 = .ok (.aaload, 1) := by decide +kernel
theorem dX11_doing_77 : decode cX11_doing 77 = .ok (.getfield 182, 3) := by decide +kernel
theorem dX11_doing_80 : decode cX11_doing 80 = .ok (.ireturn, 1) := by decide +kernel
theorem dX11_about_0 : decode cX11_about 0 = .ok (.iload_n 1, 1) := by decide +kernel
theorem dX11_about_1 : decode cX11_about 1 = .ok (.invokestatic 160, 3) := by decide +kernel
theorem dX11_about_4 : decode cX11_about 4 = .ok (.ifCond .eq 12, 3) := by decide +kernel
theorem dX11_about_7 : decode cX11_about 7 = .ok (.iload_n 2, 1) := by decide +kernel
theorem dX11_about_8 : decode cX11_about 8 = .ok (.ifCond .lt 8, 3) := by decide +kernel
theorem dX11_about_11 : decode cX11_about 11 = .ok (.iload_n 2, 1) := by decide +kernel
theorem dX11_about_12 : decode cX11_about 12 = .ok (.iconst 5, 1) := by decide +kernel
theorem dX11_about_13 : decode cX11_about 13 = .ok (.if_icmp .lt 5, 3) := by decide +kernel
theorem dX11_about_16 : decode cX11_about 16 = .ok (.iconst (-1), 1) := by decide +kernel
theorem dX11_about_17 : decode cX11_about 17 = .ok (.ireturn, 1) := by decide +kernel
theorem dX11_about_18 : decode cX11_about 18 = .ok (.aload_n 0, 1) := by decide +kernel
theorem dX11_about_19 : decode cX11_about 19 = .ok (.getfield 23, 3) := by decide +kernel
theorem dX11_about_22 : decode cX11_about 22 = .ok (.iload_n 1, 1) := by decide +kernel
theorem dX11_about_23 : decode cX11_about 23 = .ok (.aaload, 1) := by decide +kernel
theorem dX11_about_24 : decode cX11_about 24 = .ok (.getfield 183, 3) := by decide +kernel
theorem dX11_about_27 : decode cX11_about 27 = .ok (.ifCond .eq 21, 3) := by decide +kernel
theorem dX11_about_30 : decode cX11_about 30 = .ok (.aload_n 0, 1) := by decide +kernel
theorem dX11_about_31 : decode cX11_about 31 = .ok (.aload_n 0, 1) := by decide +kernel
theorem dX11_about_32 : decode cX11_about 32 = .ok (.getfield 23, 3) := by decide +kernel
theorem dX11_about_35 : decode cX11_about 35 = .ok (.iload_n 1, 1) := by decide +kernel
theorem dX11_about_36 : decode cX11_about 36 = .ok (.aaload, 1) := by decide +kernel
theorem dX11_about_37 : decode cX11_about 37 = .ok (.getfield 187, 3) := by decide +kernel
theorem dX11_about_40 : decode cX11_about 40 = .ok (.iload_n 2, 1) := by decide +kernel
theorem dX11_about_41 : decode cX11_about 41 = .ok (.iaload, 1) := by decide +kernel
theorem dX11_about_42 : decode cX11_about 42 = .ok (.invokevirtual 120, 3) := by decide +kernel
theorem dX11_about_45 : decode cX11_about 45 = .ok (.goto 8, 3) := by decide +kernel
theorem dX11_about_48 : decode cX11_about 48 = .ok (.aload_n 0, 1) := by decide +kernel
theorem dX11_about_49 : decode cX11_about 49 = .ok (.iconst 1, 1) := by decide +kernel
theorem dX11_about_50 : decode cX11_about 50 = .ok (.invokevirtual 105, 3) := by decide +kernel
theorem dX11_about_53 : decode cX11_about 53 = .ok (.ireturn, 1) := by decide +kernel
theorem dX11_step_0 : decode cX11_step 0 = .ok (.iload_n 1, 1) := by decide +kernel
theorem dX11_step_1 : decode cX11_step 1 = .ok (.invokestatic 173, 3) := by decide +kernel
theorem dX11_step_4 : decode cX11_step 4 = .ok (.ifCond .ne 5, 3) := by decide +kernel
theorem dX11_step_7 : decode cX11_step 7 = .ok (.iconst (-1), 1) := by decide +kernel
theorem dX11_step_8 : decode cX11_step 8 = .ok (.ireturn, 1) := by decide +kernel
theorem dX11_step_9 : decode cX11_step 9 = .ok (.aload_n 0, 1) := by decide +kernel
theorem dX11_step_10 : decode cX11_step 10 = .ok (.getfield 29, 3) := by decide +kernel
theorem dX11_step_13 : decode cX11_step 13 = .ok (.iload_n 1, 1) := by decide +kernel
theorem dX11_step_14 : decode cX11_step 14 = .ok (.aaload, 1) := by decide +kernel
theorem dX11_step_15 : decode cX11_step 15 = .ok (.getfield 190, 3) := by decide +kernel
theorem dX11_step_18 : decode cX11_step 18 = .ok (.ifCond .ne 9, 3) := by decide +kernel
theorem dX11_step_21 : decode cX11_step 21 = .ok (.aload_n 0, 1) := by decide +kernel
theorem dX11_step_22 : decode cX11_step 22 = .ok (.iconst 1, 1) := by decide +kernel
theorem dX11_step_23 : decode cX11_step 23 = .ok (.invokevirtual 105, 3) := by decide +kernel
theorem dX11_step_26 : decode cX11_step 26 = .ok (.ireturn, 1) := by decide +kernel
theorem dX11_step_27 : decode cX11_step 27 = .ok (.iload_n 2, 1) := by decide +kernel
theorem dX11_step_28 : decode cX11_step 28 = .ok (.ifCond .lt 16, 3) := by decide +kernel
theorem dX11_step_31 : decode cX11_step 31 = .ok (.iload_n 2, 1) := by decide +kernel
theorem dX11_step_32 : decode cX11_step 32 = .ok (.aload_n 0, 1) := by decide +kernel
theorem dX11_step_33 : decode cX11_step 33 = .ok (.getfield 29, 3) := by decide +kernel
theorem dX11_step_36 : decode cX11_step 36 = .ok (.iload_n 1, 1) := by decide +kernel
theorem dX11_step_37 : decode cX11_step 37 = .ok (.aaload, 1) := by decide +kernel
theorem dX11_step_38 : decode cX11_step 38 = .ok (.getfield 182, 3) := by decide +kernel
theorem dX11_step_41 : decode cX11_step 41 = .ok (.if_icmp .lt 9, 3) := by decide +kernel
theorem dX11_step_44 : decode cX11_step 44 = .ok (.aload_n 0, 1) := by decide +kernel
theorem dX11_step_45 : decode cX11_step 45 = .ok (.iconst 2, 1) := by decide +kernel
theorem dX11_step_46 : decode cX11_step 46 = .ok (.invokevirtual 105, 3) := by decide +kernel
theorem dX11_step_49 : decode cX11_step 49 = .ok (.ireturn, 1) := by decide +kernel
theorem dX11_step_50 : decode cX11_step 50 = .ok (.aload_n 0, 1) := by decide +kernel
theorem dX11_step_51 : decode cX11_step 51 = .ok (.aload_n 0, 1) := by decide +kernel
theorem dX11_step_52 : decode cX11_step 52 = .ok (.getfield 29, 3) := by decide +kernel
theorem dX11_step_55 : decode cX11_step 55 = .ok (.iload_n 1, 1) := by decide +kernel
theorem dX11_step_56 : decode cX11_step 56 = .ok (.aaload, 1) := by decide +kernel
theorem dX11_step_57 : decode cX11_step 57 = .ok (.iload_n 2, 1) := by decide +kernel
theorem dX11_step_58 : decode cX11_step 58 = .ok (.invokevirtual 191, 3) := by decide +kernel
theorem dX11_step_61 : decode cX11_step 61 = .ok (.putfield 194, 3) := by decide +kernel
theorem dX11_step_64 : decode cX11_step 64 = .ok (.aload_n 0, 1) := by decide +kernel
theorem dX11_step_65 : decode cX11_step 65 = .ok (.getfield 29, 3) := by decide +kernel
theorem dX11_step_68 : decode cX11_step 68 = .ok (.iload_n 1, 1) := by decide +kernel
theorem dX11_step_69 : decode cX11_step 69 = .ok (.aaload, 1) := by decide +kernel
theorem dX11_step_70 : decode cX11_step 70 = .ok (.getfield 197, 3) := by decide +kernel
theorem dX11_step_73 : decode cX11_step 73 = .ok (.iload_n 2, 1) := by decide +kernel
theorem dX11_step_74 : decode cX11_step 74 = .ok (.iaload, 1) := by decide +kernel
theorem dX11_step_75 : decode cX11_step 75 = .ok (.ireturn, 1) := by decide +kernel
theorem dX11_loaf_0 : decode cX11_loaf 0 = .ok (.iload_n 1, 1) := by decide +kernel
theorem dX11_loaf_1 : decode cX11_loaf 1 = .ok (.invokestatic 160, 3) := by decide +kernel
theorem dX11_loaf_4 : decode cX11_loaf 4 = .ok (.ifCond .eq 10, 3) := by decide +kernel
theorem dX11_loaf_7 : decode cX11_loaf 7 = .ok (.iload_n 2, 1) := by decide +kernel
theorem dX11_loaf_8 : decode cX11_loaf 8 = .ok (.invokestatic 173, 3) := by decide +kernel
theorem dX11_loaf_11 : decode cX11_loaf 11 = .ok (.ifCond .ne 5, 3) := by decide +kernel
theorem dX11_loaf_14 : decode cX11_loaf 14 = .ok (.iconst (-1), 1) := by decide +kernel
theorem dX11_loaf_15 : decode cX11_loaf 15 = .ok (.ireturn, 1) := by decide +kernel
theorem dX11_loaf_16 : decode cX11_loaf 16 = .ok (.aload_n 0, 1) := by decide +kernel
theorem dX11_loaf_17 : decode cX11_loaf 17 = .ok (.getfield 23, 3) := by decide +kernel
theorem dX11_loaf_20 : decode cX11_loaf 20 = .ok (.iload_n 1, 1) := by decide +kernel
theorem dX11_loaf_21 : decode cX11_loaf 21 = .ok (.aaload, 1) := by decide +kernel
theorem dX11_loaf_22 : decode cX11_loaf 22 = .ok (.getfield 183, 3) := by decide +kernel
theorem dX11_loaf_25 : decode cX11_loaf 25 = .ok (.ifCond .eq 15, 3) := by decide +kernel
theorem dX11_loaf_28 : decode cX11_loaf 28 = .ok (.aload_n 0, 1) := by decide +kernel
theorem dX11_loaf_29 : decode cX11_loaf 29 = .ok (.getfield 29, 3) := by decide +kernel
theorem dX11_loaf_32 : decode cX11_loaf 32 = .ok (.iload_n 2, 1) := by decide +kernel
theorem dX11_loaf_33 : decode cX11_loaf 33 = .ok (.aaload, 1) := by decide +kernel
theorem dX11_loaf_34 : decode cX11_loaf 34 = .ok (.getfield 190, 3) := by decide +kernel
theorem dX11_loaf_37 : decode cX11_loaf 37 = .ok (.ifCond .ne 9, 3) := by decide +kernel
theorem dX11_loaf_40 : decode cX11_loaf 40 = .ok (.aload_n 0, 1) := by decide +kernel
theorem dX11_loaf_41 : decode cX11_loaf 41 = .ok (.iconst 1, 1) := by decide +kernel
theorem dX11_loaf_42 : decode cX11_loaf 42 = .ok (.invokevirtual 105, 3) := by decide +kernel
theorem dX11_loaf_45 : decode cX11_loaf 45 = .ok (.ireturn, 1) := by decide +kernel
theorem dX11_loaf_46 : decode cX11_loaf 46 = .ok (.aload_n 0, 1) := by decide +kernel
theorem dX11_loaf_47 : decode cX11_loaf 47 = .ok (.getfield 40, 3) := by decide +kernel
theorem dX11_loaf_50 : decode cX11_loaf 50 = .ok (.aload_n 0, 1) := by decide +kernel
theorem dX11_loaf_51 : decode cX11_loaf 51 = .ok (.getfield 23, 3) := by decide +kernel
theorem dX11_loaf_54 : decode cX11_loaf 54 = .ok (.iload_n 1, 1) := by decide +kernel
theorem dX11_loaf_55 : decode cX11_loaf 55 = .ok (.aaload, 1) := by decide +kernel
theorem dX11_loaf_56 : decode cX11_loaf 56 = .ok (.aload_n 0, 1) := by decide +kernel
theorem dX11_loaf_57 : decode cX11_loaf 57 = .ok (.getfield 29, 3) := by decide +kernel
theorem dX11_loaf_60 : decode cX11_loaf 60 = .ok (.iload_n 2, 1) := by decide +kernel
theorem dX11_loaf_61 : decode cX11_loaf 61 = .ok (.aaload, 1) := by decide +kernel
theorem dX11_loaf_62 : decode cX11_loaf 62 = .ok (.invokevirtual 200, 3) := by decide +kernel
theorem dX11_loaf_65 : decode cX11_loaf 65 = .ok (.aload_n 0, 1) := by decide +kernel
theorem dX11_loaf_66 : decode cX11_loaf 66 = .ok (.getfield 40, 3) := by decide +kernel
theorem dX11_loaf_69 : decode cX11_loaf 69 = .ok (.getfield 204, 3) := by decide +kernel
theorem dX11_loaf_72 : decode cX11_loaf 72 = .ok (.invokevirtual 207, 3) := by decide +kernel
theorem dX11_loaf_75 : decode cX11_loaf 75 = .ok (.ireturn, 1) := by decide +kernel
theorem dX11_go_0 : decode cX11_go 0 = .ok (.iload_n 1, 1) := by decide +kernel
theorem dX11_go_1 : decode cX11_go 1 = .ok (.ifCond .lt 9, 3) := by decide +kernel
theorem dX11_go_4 : decode cX11_go 4 = .ok (.iload_n 1, 1) := by decide +kernel
theorem dX11_go_5 : decode cX11_go 5 = .ok (.bipush 99, 2) := by decide +kernel
theorem dX11_go_7 : decode cX11_go 7 = .ok (.if_icmp .le 5, 3) := by decide +kernel
theorem dX11_go_10 : decode cX11_go 10 = .ok (.iconst (-1), 1) := by decide +kernel
theorem dX11_go_11 : decode cX11_go 11 = .ok (.ireturn, 1) := by decide +kernel
theorem dX11_go_12 : decode cX11_go 12 = .ok (.aload_n 0, 1) := by decide +kernel
theorem dX11_go_13 : decode cX11_go 13 = .ok (.getfield 40, 3) := by decide +kernel
theorem dX11_go_16 : decode cX11_go 16 = .ok (.getfield 211, 3) := by decide +kernel
theorem dX11_go_19 : decode cX11_go 19 = .ok (.ifCond .ne 6, 3) := by decide +kernel
theorem dX11_go_22 : decode cX11_go 22 = .ok (.bipush (-4), 2) := by decide +kernel
theorem dX11_go_24 : decode cX11_go 24 = .ok (.ireturn, 1) := by decide +kernel
theorem dX11_go_25 : decode cX11_go 25 = .ok (.aload_n 0, 1) := by decide +kernel
theorem dX11_go_26 : decode cX11_go 26 = .ok (.getfield 40, 3) := by decide +kernel
theorem dX11_go_29 : decode cX11_go 29 = .ok (.getfield 212, 3) := by decide +kernel
theorem dX11_go_32 : decode cX11_go 32 = .ok (.getfield 216, 3) := by decide +kernel
theorem dX11_go_35 : decode cX11_go 35 = .ok (.iload_n 1, 1) := by decide +kernel
theorem dX11_go_36 : decode cX11_go 36 = .ok (.iadd, 1) := by decide +kernel
theorem dX11_go_37 : decode cX11_go 37 = .ok (.bipush 99, 2) := by decide +kernel
theorem dX11_go_39 : decode cX11_go 39 = .ok (.if_icmp .le 6, 3) := by decide +kernel
theorem dX11_go_42 : decode cX11_go 42 = .ok (.bipush (-6), 2) := by decide +kernel
theorem dX11_go_44 : decode cX11_go 44 = .ok (.ireturn, 1) := by decide +kernel
theorem dX11_go_45 : decode cX11_go 45 = .ok (.iconst 0, 1) := by decide +kernel
theorem dX11_go_46 : decode cX11_go 46 = .ok (.istore_n 2, 1) := by decide +kernel
theorem dX11_go_47 : decode cX11_go 47 = .ok (.iload_n 2, 1) := by decide +kernel
theorem dX11_go_48 : decode cX11_go 48 = .ok (.iload_n 1, 1) := by decide +kernel
theorem dX11_go_49 : decode cX11_go 49 = .ok (.if_icmp .ge 16, 3) := by decide +kernel
theorem dX11_go_52 : decode cX11_go 52 = .ok (.aload_n 0, 1) := by decide +kernel
theorem dX11_go_53 : decode cX11_go 53 = .ok (.getfield 40, 3) := by decide +kernel
theorem dX11_go_56 : decode cX11_go 56 = .ok (.invokevirtual 221, 3) := by decide +kernel
theorem dX11_go_59 : decode cX11_go 59 = .ok (.iinc 2 1, 3) := by decide +kernel
theorem dX11_go_62 : decode cX11_go 62 = .ok (.goto (-15), 3) := by decide +kernel
theorem dX11_go_65 : decode cX11_go 65 = .ok (.aload_n 0, 1) := by decide +kernel
theorem dX11_go_66 : decode cX11_go 66 = .ok (.getfield 40, 3) := by decide +kernel
theorem dX11_go_69 : decode cX11_go 69 = .ok (.getfield 212, 3) := by decide +kernel
theorem dX11_go_72 : decode cX11_go 72 = .ok (.getfield 216, 3) := by decide +kernel
theorem dX11_go_75 : decode cX11_go 75 = .ok (.ireturn, 1) := by decide +kernel
theorem dX11_cell_0 : decode cX11_cell 0 = .ok (.iload_n 1, 1) := by decide +kernel
theorem dX11_cell_1 : decode cX11_cell 1 = .ok (.ifCond .lt 18, 3) := by decide +kernel
theorem dX11_cell_4 : decode cX11_cell 4 = .ok (.iload_n 1, 1) := by decide +kernel
theorem dX11_cell_5 : decode cX11_cell 5 = .ok (.bipush 24, 2) := by decide +kernel
theorem dX11_cell_7 : decode cX11_cell 7 = .ok (.if_icmp .ge 12, 3) := by decide +kernel
theorem dX11_cell_10 : decode cX11_cell 10 = .ok (.iload_n 2, 1) := by decide +kernel
theorem dX11_cell_11 : decode cX11_cell 11 = .ok (.ifCond .lt 8, 3) := by decide +kernel
theorem dX11_cell_14 : decode cX11_cell 14 = .ok (.iload_n 2, 1) := by decide +kernel
theorem dX11_cell_15 : decode cX11_cell 15 = .ok (.iconst 5, 1) := by decide +kernel
theorem dX11_cell_16 : decode cX11_cell 16 = .ok (.if_icmp .lt 5, 3) := by decide +kernel
theorem dX11_cell_19 : decode cX11_cell 19 = .ok (.iconst (-1), 1) := by decide +kernel
theorem dX11_cell_20 : decode cX11_cell 20 = .ok (.ireturn, 1) := by decide +kernel
theorem dX11_cell_21 : decode cX11_cell 21 = .ok (.aload_n 0, 1) := by decide +kernel
theorem dX11_cell_22 : decode cX11_cell 22 = .ok (.getfield 40, 3) := by decide +kernel
theorem dX11_cell_25 : decode cX11_cell 25 = .ok (.getfield 211, 3) := by decide +kernel
theorem dX11_cell_28 : decode cX11_cell 28 = .ok (.ifCond .eq 22, 3) := by decide +kernel
theorem dX11_cell_31 : decode cX11_cell 31 = .ok (.aload_n 0, 1) := by decide +kernel
theorem dX11_cell_32 : decode cX11_cell 32 = .ok (.aload_n 0, 1) := by decide +kernel
theorem dX11_cell_33 : decode cX11_cell 33 = .ok (.getfield 40, 3) := by decide +kernel
theorem dX11_cell_36 : decode cX11_cell 36 = .ok (.getfield 212, 3) := by decide +kernel
theorem dX11_cell_39 : decode cX11_cell 39 = .ok (.iload_n 1, 1) := by decide +kernel
theorem dX11_cell_40 : decode cX11_cell 40 = .ok (.iload_n 2, 1) := by decide +kernel
theorem dX11_cell_41 : decode cX11_cell 41 = .ok (.invokevirtual 224, 3) := by decide +kernel
theorem dX11_cell_44 : decode cX11_cell 44 = .ok (.invokevirtual 120, 3) := by decide +kernel
theorem dX11_cell_47 : decode cX11_cell 47 = .ok (.goto 5, 3) := by decide +kernel
theorem dX11_cell_50 : decode cX11_cell 50 = .ok (.bipush (-4), 2) := by decide +kernel
theorem dX11_cell_52 : decode cX11_cell 52 = .ok (.ireturn, 1) := by decide +kernel
theorem dX11_fall_0 : decode cX11_fall 0 = .ok (.aload_n 0, 1) := by decide +kernel
theorem dX11_fall_1 : decode cX11_fall 1 = .ok (.iload_n 1, 1) := by decide +kernel
theorem dX11_fall_2 : decode cX11_fall 2 = .ok (.invokevirtual 227, 3) := by decide +kernel
theorem dX11_fall_5 : decode cX11_fall 5 = .ok (.ifCond .eq 12, 3) := by decide +kernel
theorem dX11_fall_8 : decode cX11_fall 8 = .ok (.iload_n 2, 1) := by decide +kernel
theorem dX11_fall_9 : decode cX11_fall 9 = .ok (.ifCond .lt 8, 3) := by decide +kernel
theorem dX11_fall_12 : decode cX11_fall 12 = .ok (.iload_n 2, 1) := by decide +kernel
theorem dX11_fall_13 : decode cX11_fall 13 = .ok (.iconst 4, 1) := by decide +kernel
theorem dX11_fall_14 : decode cX11_fall 14 = .ok (.if_icmp .lt 5, 3) := by decide +kernel
theorem dX11_fall_17 : decode cX11_fall 17 = .ok (.iconst (-1), 1) := by decide +kernel
theorem dX11_fall_18 : decode cX11_fall 18 = .ok (.ireturn, 1) := by decide +kernel
theorem dX11_fall_19 : decode cX11_fall 19 = .ok (.aload_n 0, 1) := by decide +kernel
theorem dX11_fall_20 : decode cX11_fall 20 = .ok (.aload_n 0, 1) := by decide +kernel
theorem dX11_fall_21 : decode cX11_fall 21 = .ok (.getfield 40, 3) := by decide +kernel
theorem dX11_fall_24 : decode cX11_fall 24 = .ok (.getfield 230, 3) := by decide +kernel
theorem dX11_fall_27 : decode cX11_fall 27 = .ok (.iload_n 1, 1) := by decide +kernel
theorem dX11_fall_28 : decode cX11_fall 28 = .ok (.iload_n 2, 1) := by decide +kernel
theorem dX11_fall_29 : decode cX11_fall 29 = .ok (.invokevirtual 234, 3) := by decide +kernel
theorem dX11_fall_32 : decode cX11_fall 32 = .ok (.invokevirtual 120, 3) := by decide +kernel
theorem dX11_fall_35 : decode cX11_fall 35 = .ok (.ireturn, 1) := by decide +kernel
theorem dX11_mark_0 : decode cX11_mark 0 = .ok (.aload_n 0, 1) := by decide +kernel
theorem dX11_mark_1 : decode cX11_mark 1 = .ok (.iload_n 1, 1) := by decide +kernel
theorem dX11_mark_2 : decode cX11_mark 2 = .ok (.invokevirtual 227, 3) := by decide +kernel
theorem dX11_mark_5 : decode cX11_mark 5 = .ok (.ifCond .eq 13, 3) := by decide +kernel
theorem dX11_mark_8 : decode cX11_mark 8 = .ok (.iload_n 2, 1) := by decide +kernel
theorem dX11_mark_9 : decode cX11_mark 9 = .ok (.ifCond .le 9, 3) := by decide +kernel
theorem dX11_mark_12 : decode cX11_mark 12 = .ok (.iload_n 2, 1) := by decide +kernel
theorem dX11_mark_13 : decode cX11_mark 13 = .ok (.bipush 6, 2) := by decide +kernel
theorem dX11_mark_15 : decode cX11_mark 15 = .ok (.if_icmp .le 5, 3) := by decide +kernel
theorem dX11_mark_18 : decode cX11_mark 18 = .ok (.iconst (-1), 1) := by decide +kernel
theorem dX11_mark_19 : decode cX11_mark 19 = .ok (.ireturn, 1) := by decide +kernel
theorem dX11_mark_20 : decode cX11_mark 20 = .ok (.aload_n 0, 1) := by decide +kernel
theorem dX11_mark_21 : decode cX11_mark 21 = .ok (.getfield 40, 3) := by decide +kernel
theorem dX11_mark_24 : decode cX11_mark 24 = .ok (.getfield 230, 3) := by decide +kernel
theorem dX11_mark_27 : decode cX11_mark 27 = .ok (.iload_n 1, 1) := by decide +kernel
theorem dX11_mark_28 : decode cX11_mark 28 = .ok (.iload_n 2, 1) := by decide +kernel
theorem dX11_mark_29 : decode cX11_mark 29 = .ok (.invokevirtual 237, 3) := by decide +kernel
theorem dX11_mark_32 : decode cX11_mark 32 = .ok (.ifCond .ne 9, 3) := by decide +kernel
theorem dX11_mark_35 : decode cX11_mark 35 = .ok (.aload_n 0, 1) := by decide +kernel
theorem dX11_mark_36 : decode cX11_mark 36 = .ok (.iconst 3, 1) := by decide +kernel
theorem dX11_mark_37 : decode cX11_mark 37 = .ok (.invokevirtual 105, 3) := by decide +kernel
theorem dX11_mark_40 : decode cX11_mark 40 = .ok (.ireturn, 1) := by decide +kernel
theorem dX11_mark_41 : decode cX11_mark 41 = .ok (.iload_n 2, 1) := by decide +kernel
theorem dX11_mark_42 : decode cX11_mark 42 = .ok (.iconst 5, 1) := by decide +kernel
theorem dX11_mark_43 : decode cX11_mark 43 = .ok (.if_icmp .ne 16, 3) := by decide +kernel
theorem dX11_mark_46 : decode cX11_mark 46 = .ok (.aload_n 0, 1) := by decide +kernel
theorem dX11_mark_47 : decode cX11_mark 47 = .ok (.getfield 40, 3) := by decide +kernel
theorem dX11_mark_50 : decode cX11_mark 50 = .ok (.getfield 240, 3) := by decide +kernel
theorem dX11_mark_53 : decode cX11_mark 53 = .ok (.getfield 187, 3) := by decide +kernel
theorem dX11_mark_56 : decode cX11_mark 56 = .ok (.iconst 2, 1) := by decide +kernel
theorem dX11_mark_57 : decode cX11_mark 57 = .ok (.iaload, 1) := by decide +kernel
theorem dX11_mark_58 : decode cX11_mark 58 = .ok (.ireturn, 1) := by decide +kernel
theorem dX11_mark_59 : decode cX11_mark 59 = .ok (.iload_n 2, 1) := by decide +kernel
theorem dX11_mark_60 : decode cX11_mark 60 = .ok (.bipush 6, 2) := by decide +kernel
theorem dX11_mark_62 : decode cX11_mark 62 = .ok (.if_icmp .ne 20, 3) := by decide +kernel
theorem dX11_mark_65 : decode cX11_mark 65 = .ok (.aload_n 0, 1) := by decide +kernel
theorem dX11_mark_66 : decode cX11_mark 66 = .ok (.getfield 40, 3) := by decide +kernel
theorem dX11_mark_69 : decode cX11_mark 69 = .ok (.getfield 230, 3) := by decide +kernel
theorem dX11_mark_72 : decode cX11_mark 72 = .ok (.getfield 243, 3) := by decide +kernel
theorem dX11_mark_75 : decode cX11_mark 75 = .ok (.iload_n 1, 1) := by decide +kernel
theorem dX11_mark_76 : decode cX11_mark 76 = .ok (.iaload, 1) := by decide +kernel
theorem dX11_mark_77 : decode cX11_mark 77 = .ok (.iconst 2, 1) := by decide +kernel
theorem dX11_mark_78 : decode cX11_mark 78 = .ok (.idiv, 1) := by decide +kernel
theorem dX11_mark_79 : decode cX11_mark 79 = .ok (.goto 15, 3) := by decide +kernel
theorem dX11_mark_82 : decode cX11_mark 82 = .ok (.aload_n 0, 1) := by decide +kernel
theorem dX11_mark_83 : decode cX11_mark 83 = .ok (.getfield 40, 3) := by decide +kernel
theorem dX11_mark_86 : decode cX11_mark 86 = .ok (.getfield 230, 3) := by decide +kernel
theorem dX11_mark_89 : decode cX11_mark 89 = .ok (.getfield 246, 3) := by decide +kernel
theorem dX11_mark_92 : decode cX11_mark 92 = .ok (.iload_n 1, 1) := by decide +kernel
theorem dX11_mark_93 : decode cX11_mark 93 = .ok (.iaload, 1) := by decide +kernel
theorem dX11_mark_94 : decode cX11_mark 94 = .ok (.ireturn, 1) := by decide +kernel
theorem dX11_keep_0 : decode cX11_keep 0 = .ok (.iload_n 1, 1) := by decide +kernel
theorem dX11_keep_1 : decode cX11_keep 1 = .ok (.invokestatic 249, 3) := by decide +kernel
theorem dX11_keep_4 : decode cX11_keep 4 = .ok (.ifCond .ne 5, 3) := by decide +kernel
theorem dX11_keep_7 : decode cX11_keep 7 = .ok (.iconst (-1), 1) := by decide +kernel
theorem dX11_keep_8 : decode cX11_keep 8 = .ok (.ireturn, 1) := by decide +kernel
theorem dX11_keep_9 : decode cX11_keep 9 = .ok (.aload_n 0, 1) := by decide +kernel
theorem dX11_keep_10 : decode cX11_keep 10 = .ok (.getfield 40, 3) := by decide +kernel
theorem dX11_keep_13 : decode cX11_keep 13 = .ok (.getfield 211, 3) := by decide +kernel
theorem dX11_keep_16 : decode cX11_keep 16 = .ok (.ifCond .ne 6, 3) := by decide +kernel
theorem dX11_keep_19 : decode cX11_keep 19 = .ok (.bipush (-4), 2) := by decide +kernel
theorem dX11_keep_21 : decode cX11_keep 21 = .ok (.ireturn, 1) := by decide +kernel
theorem dX11_keep_22 : decode cX11_keep 22 = .ok (.aload_n 0, 1) := by decide +kernel
theorem dX11_keep_23 : decode cX11_keep 23 = .ok (.getfield 35, 3) := by decide +kernel
theorem dX11_keep_26 : decode cX11_keep 26 = .ok (.iload_n 1, 1) := by decide +kernel
theorem dX11_keep_27 : decode cX11_keep 27 = .ok (.aaload, 1) := by decide +kernel
theorem dX11_keep_28 : decode cX11_keep 28 = .ok (.aload_n 0, 1) := by decide +kernel
theorem dX11_keep_29 : decode cX11_keep 29 = .ok (.getfield 40, 3) := by decide +kernel
theorem dX11_keep_32 : decode cX11_keep 32 = .ok (.invokevirtual 252, 3) := by decide +kernel
theorem dX11_keep_35 : decode cX11_keep 35 = .ok (.aload_n 0, 1) := by decide +kernel
theorem dX11_keep_36 : decode cX11_keep 36 = .ok (.getfield 40, 3) := by decide +kernel
theorem dX11_keep_39 : decode cX11_keep 39 = .ok (.getfield 212, 3) := by decide +kernel
theorem dX11_keep_42 : decode cX11_keep 42 = .ok (.getfield 216, 3) := by decide +kernel
theorem dX11_keep_45 : decode cX11_keep 45 = .ok (.ireturn, 1) := by decide +kernel
theorem dX11_on_0 : decode cX11_on 0 = .ok (.iload_n 1, 1) := by decide +kernel
theorem dX11_on_1 : decode cX11_on 1 = .ok (.invokestatic 249, 3) := by decide +kernel
theorem dX11_on_4 : decode cX11_on 4 = .ok (.ifCond .ne 5, 3) := by decide +kernel
theorem dX11_on_7 : decode cX11_on 7 = .ok (.iconst (-1), 1) := by decide +kernel
theorem dX11_on_8 : decode cX11_on 8 = .ok (.ireturn, 1) := by decide +kernel
theorem dX11_on_9 : decode cX11_on 9 = .ok (.aload_n 0, 1) := by decide +kernel
theorem dX11_on_10 : decode cX11_on 10 = .ok (.getfield 35, 3) := by decide +kernel
theorem dX11_on_13 : decode cX11_on 13 = .ok (.iload_n 1, 1) := by decide +kernel
theorem dX11_on_14 : decode cX11_on 14 = .ok (.aaload, 1) := by decide +kernel
theorem dX11_on_15 : decode cX11_on 15 = .ok (.getfield 211, 3) := by decide +kernel
theorem dX11_on_18 : decode cX11_on 18 = .ok (.ifCond .ne 9, 3) := by decide +kernel
theorem dX11_on_21 : decode cX11_on 21 = .ok (.aload_n 0, 1) := by decide +kernel
theorem dX11_on_22 : decode cX11_on 22 = .ok (.iconst 1, 1) := by decide +kernel
theorem dX11_on_23 : decode cX11_on 23 = .ok (.invokevirtual 105, 3) := by decide +kernel
theorem dX11_on_26 : decode cX11_on 26 = .ok (.ireturn, 1) := by decide +kernel
theorem dX11_on_27 : decode cX11_on 27 = .ok (.aload_n 0, 1) := by decide +kernel
theorem dX11_on_28 : decode cX11_on 28 = .ok (.getfield 40, 3) := by decide +kernel
theorem dX11_on_31 : decode cX11_on 31 = .ok (.aload_n 0, 1) := by decide +kernel
theorem dX11_on_32 : decode cX11_on 32 = .ok (.getfield 35, 3) := by decide +kernel
theorem dX11_on_35 : decode cX11_on 35 = .ok (.iload_n 1, 1) := by decide +kernel
theorem dX11_on_36 : decode cX11_on 36 = .ok (.aaload, 1) := by decide +kernel
theorem dX11_on_37 : decode cX11_on 37 = .ok (.invokevirtual 252, 3) := by decide +kernel
theorem dX11_on_40 : decode cX11_on 40 = .ok (.aload_n 0, 1) := by decide +kernel
theorem dX11_on_41 : decode cX11_on 41 = .ok (.getfield 40, 3) := by decide +kernel
theorem dX11_on_44 : decode cX11_on 44 = .ok (.getfield 212, 3) := by decide +kernel
theorem dX11_on_47 : decode cX11_on 47 = .ok (.getfield 216, 3) := by decide +kernel
theorem dX11_on_50 : decode cX11_on 50 = .ok (.ireturn, 1) := by decide +kernel
theorem dX11_height_0 : decode cX11_height 0 = .ok (.aload_n 0, 1) := by decide +kernel
theorem dX11_height_1 : decode cX11_height 1 = .ok (.getfield 40, 3) := by decide +kernel
theorem dX11_height_4 : decode cX11_height 4 = .ok (.getfield 211, 3) := by decide +kernel
theorem dX11_height_7 : decode cX11_height 7 = .ok (.ifCond .ne 6, 3) := by decide +kernel
theorem dX11_height_10 : decode cX11_height 10 = .ok (.bipush (-4), 2) := by decide +kernel
theorem dX11_height_12 : decode cX11_height 12 = .ok (.ireturn, 1) := by decide +kernel
theorem dX11_height_13 : decode cX11_height 13 = .ok (.aload_n 0, 1) := by decide +kernel
theorem dX11_height_14 : decode cX11_height 14 = .ok (.aload_n 0, 1) := by decide +kernel
theorem dX11_height_15 : decode cX11_height 15 = .ok (.getfield 40, 3) := by decide +kernel
theorem dX11_height_18 : decode cX11_height 18 = .ok (.getfield 212, 3) := by decide +kernel
theorem dX11_height_21 : decode cX11_height 21 = .ok (.invokevirtual 255, 3) := by decide +kernel
theorem dX11_height_24 : decode cX11_height 24 = .ok (.putfield 194, 3) := by decide +kernel
theorem dX11_height_27 : decode cX11_height 27 = .ok (.aload_n 0, 1) := by decide +kernel
theorem dX11_height_28 : decode cX11_height 28 = .ok (.getfield 40, 3) := by decide +kernel
theorem dX11_height_31 : decode cX11_height 31 = .ok (.getfield 212, 3) := by decide +kernel
theorem dX11_height_34 : decode cX11_height 34 = .ok (.invokevirtual 258, 3) := by decide +kernel
theorem dX11_height_37 : decode cX11_height 37 = .ok (.ireturn, 1) := by decide +kernel
theorem dX11_holes_0 : decode cX11_holes 0 = .ok (.aload_n 0, 1) := by decide +kernel
theorem dX11_holes_1 : decode cX11_holes 1 = .ok (.getfield 40, 3) := by decide +kernel
theorem dX11_holes_4 : decode cX11_holes 4 = .ok (.getfield 211, 3) := by decide +kernel
theorem dX11_holes_7 : decode cX11_holes 7 = .ok (.ifCond .ne 6, 3) := by decide +kernel
theorem dX11_holes_10 : decode cX11_holes 10 = .ok (.bipush (-4), 2) := by decide +kernel
theorem dX11_holes_12 : decode cX11_holes 12 = .ok (.ireturn, 1) := by decide +kernel
theorem dX11_holes_13 : decode cX11_holes 13 = .ok (.aload_n 0, 1) := by decide +kernel
theorem dX11_holes_14 : decode cX11_holes 14 = .ok (.getfield 68, 3) := by decide +kernel
theorem dX11_holes_17 : decode cX11_holes 17 = .ok (.aload_n 0, 1) := by decide +kernel
theorem dX11_holes_18 : decode cX11_holes 18 = .ok (.getfield 40, 3) := by decide +kernel
theorem dX11_holes_21 : decode cX11_holes 21 = .ok (.getfield 212, 3) := by decide +kernel
theorem dX11_holes_24 : decode cX11_holes 24 = .ok (.invokevirtual 261, 3) := by decide +kernel
theorem dX11_holes_27 : decode cX11_holes 27 = .ok (.aload_n 0, 1) := by decide +kernel
theorem dX11_holes_28 : decode cX11_holes 28 = .ok (.aload_n 0, 1) := by decide +kernel
theorem dX11_holes_29 : decode cX11_holes 29 = .ok (.getfield 68, 3) := by decide +kernel
theorem dX11_holes_32 : decode cX11_holes 32 = .ok (.getfield 265, 3) := by decide +kernel
theorem dX11_holes_35 : decode cX11_holes 35 = .ok (.putfield 194, 3) := by decide +kernel
theorem dX11_holes_38 : decode cX11_holes 38 = .ok (.aload_n 0, 1) := by decide +kernel
theorem dX11_holes_39 : decode cX11_holes 39 = .ok (.getfield 68, 3) := by decide +kernel
theorem dX11_holes_42 : decode cX11_holes 42 = .ok (.getfield 268, 3) := by decide +kernel
theorem dX11_holes_45 : decode cX11_holes 45 = .ok (.ireturn, 1) := by decide +kernel
theorem dX11_cut_0 : decode cX11_cut 0 = .ok (.iload_n 1, 1) := by decide +kernel
theorem dX11_cut_1 : decode cX11_cut 1 = .ok (.invokestatic 101, 3) := by decide +kernel
theorem dX11_cut_4 : decode cX11_cut 4 = .ok (.ifCond .ne 5, 3) := by decide +kernel
theorem dX11_cut_7 : decode cX11_cut 7 = .ok (.iconst (-1), 1) := by decide +kernel
theorem dX11_cut_8 : decode cX11_cut 8 = .ok (.ireturn, 1) := by decide +kernel
theorem dX11_cut_9 : decode cX11_cut 9 = .ok (.aload_n 0, 1) := by decide +kernel
theorem dX11_cut_10 : decode cX11_cut 10 = .ok (.getfield 40, 3) := by decide +kernel
theorem dX11_cut_13 : decode cX11_cut 13 = .ok (.getfield 211, 3) := by decide +kernel
theorem dX11_cut_16 : decode cX11_cut 16 = .ok (.ifCond .ne 6, 3) := by decide +kernel
theorem dX11_cut_19 : decode cX11_cut 19 = .ok (.bipush (-4), 2) := by decide +kernel
theorem dX11_cut_21 : decode cX11_cut 21 = .ok (.ireturn, 1) := by decide +kernel
theorem dX11_cut_22 : decode cX11_cut 22 = .ok (.aload_n 0, 1) := by decide +kernel
theorem dX11_cut_23 : decode cX11_cut 23 = .ok (.getfield 11, 3) := by decide +kernel
theorem dX11_cut_26 : decode cX11_cut 26 = .ok (.iload_n 1, 1) := by decide +kernel
theorem dX11_cut_27 : decode cX11_cut 27 = .ok (.aaload, 1) := by decide +kernel
theorem dX11_cut_28 : decode cX11_cut 28 = .ok (.bipush 24, 2) := by decide +kernel
theorem dX11_cut_30 : decode cX11_cut 30 = .ok (.invokevirtual 109, 3) := by decide +kernel
theorem dX11_cut_33 : decode cX11_cut 33 = .ok (.iconst 0, 1) := by decide +kernel
theorem dX11_cut_34 : decode cX11_cut 34 = .ok (.istore_n 2, 1) := by decide +kernel
theorem dX11_cut_35 : decode cX11_cut 35 = .ok (.iload_n 2, 1) := by decide +kernel
theorem dX11_cut_36 : decode cX11_cut 36 = .ok (.bipush 24, 2) := by decide +kernel
theorem dX11_cut_38 : decode cX11_cut 38 = .ok (.if_icmp .ge 31, 3) := by decide +kernel
theorem dX11_cut_41 : decode cX11_cut 41 = .ok (.aload_n 0, 1) := by decide +kernel
theorem dX11_cut_42 : decode cX11_cut 42 = .ok (.getfield 11, 3) := by decide +kernel
theorem dX11_cut_45 : decode cX11_cut 45 = .ok (.iload_n 1, 1) := by decide +kernel
theorem dX11_cut_46 : decode cX11_cut 46 = .ok (.aaload, 1) := by decide +kernel
theorem dX11_cut_47 : decode cX11_cut 47 = .ok (.getfield 117, 3) := by decide +kernel
theorem dX11_cut_50 : decode cX11_cut 50 = .ok (.iload_n 2, 1) := by decide +kernel
theorem dX11_cut_51 : decode cX11_cut 51 = .ok (.aload_n 0, 1) := by decide +kernel
theorem dX11_cut_52 : decode cX11_cut 52 = .ok (.getfield 40, 3) := by decide +kernel
theorem dX11_cut_55 : decode cX11_cut 55 = .ok (.getfield 212, 3) := by decide +kernel
theorem dX11_cut_58 : decode cX11_cut 58 = .ok (.iload_n 2, 1) := by decide +kernel
theorem dX11_cut_59 : decode cX11_cut 59 = .ok (.invokevirtual 270, 3) := by decide +kernel
theorem dX11_cut_62 : decode cX11_cut 62 = .ok (.iastore, 1) := by decide +kernel
theorem dX11_cut_63 : decode cX11_cut 63 = .ok (.iinc 2 1, 3) := by decide +kernel
theorem dX11_cut_66 : decode cX11_cut 66 = .ok (.goto (-31), 3) := by decide +kernel
theorem dX11_cut_69 : decode cX11_cut 69 = .ok (.aload_n 0, 1) := by decide +kernel
theorem dX11_cut_70 : decode cX11_cut 70 = .ok (.getfield 40, 3) := by decide +kernel
theorem dX11_cut_73 : decode cX11_cut 73 = .ok (.getfield 212, 3) := by decide +kernel
theorem dX11_cut_76 : decode cX11_cut 76 = .ok (.getfield 273, 3) := by decide +kernel
theorem dX11_cut_79 : decode cX11_cut 79 = .ok (.ireturn, 1) := by decide +kernel
theorem dX11_rests_0 : decode cX11_rests 0 = .ok (.iload_n 1, 1) := by decide +kernel
theorem dX11_rests_1 : decode cX11_rests 1 = .ok (.invokestatic 276, 3) := by decide +kernel
theorem dX11_rests_4 : decode cX11_rests 4 = .ok (.ifCond .ne 5, 3) := by decide +kernel
theorem dX11_rests_7 : decode cX11_rests 7 = .ok (.iconst (-1), 1) := by decide +kernel
theorem dX11_rests_8 : decode cX11_rests 8 = .ok (.ireturn, 1) := by decide +kernel
theorem dX11_rests_9 : decode cX11_rests 9 = .ok (.aload_n 0, 1) := by decide +kernel
theorem dX11_rests_10 : decode cX11_rests 10 = .ok (.getfield 40, 3) := by decide +kernel
theorem dX11_rests_13 : decode cX11_rests 13 = .ok (.getfield 211, 3) := by decide +kernel
theorem dX11_rests_16 : decode cX11_rests 16 = .ok (.ifCond .eq 18, 3) := by decide +kernel
theorem dX11_rests_19 : decode cX11_rests 19 = .ok (.aload_n 0, 1) := by decide +kernel
theorem dX11_rests_20 : decode cX11_rests 20 = .ok (.getfield 61, 3) := by decide +kernel
theorem dX11_rests_23 : decode cX11_rests 23 = .ok (.aload_n 0, 1) := by decide +kernel
theorem dX11_rests_24 : decode cX11_rests 24 = .ok (.getfield 40, 3) := by decide +kernel
theorem dX11_rests_27 : decode cX11_rests 27 = .ok (.iload_n 1, 1) := by decide +kernel
theorem dX11_rests_28 : decode cX11_rests 28 = .ok (.invokevirtual 279, 3) := by decide +kernel
theorem dX11_rests_31 : decode cX11_rests 31 = .ok (.goto 5, 3) := by decide +kernel
theorem dX11_rests_34 : decode cX11_rests 34 = .ok (.bipush (-4), 2) := by decide +kernel
theorem dX11_rests_36 : decode cX11_rests 36 = .ok (.ireturn, 1) := by decide +kernel
theorem dX11_why_0 : decode cX11_why 0 = .ok (.iload_n 1, 1) := by decide +kernel
theorem dX11_why_1 : decode cX11_why 1 = .ok (.invokestatic 101, 3) := by decide +kernel
theorem dX11_why_4 : decode cX11_why 4 = .ok (.ifCond .ne 5, 3) := by decide +kernel
theorem dX11_why_7 : decode cX11_why 7 = .ok (.iconst (-1), 1) := by decide +kernel
theorem dX11_why_8 : decode cX11_why 8 = .ok (.ireturn, 1) := by decide +kernel
theorem dX11_why_9 : decode cX11_why 9 = .ok (.aload_n 0, 1) := by decide +kernel
theorem dX11_why_10 : decode cX11_why 10 = .ok (.iload_n 1, 1) := by decide +kernel
theorem dX11_why_11 : decode cX11_why 11 = .ok (.invokevirtual 283, 3) := by decide +kernel
theorem dX11_why_14 : decode cX11_why 14 = .ok (.istore_n 2, 1) := by decide +kernel
theorem dX11_why_15 : decode cX11_why 15 = .ok (.iload_n 2, 1) := by decide +kernel
theorem dX11_why_16 : decode cX11_why 16 = .ok (.ifCond .eq 9, 3) := by decide +kernel
theorem dX11_why_19 : decode cX11_why 19 = .ok (.aload_n 0, 1) := by decide +kernel
theorem dX11_why_20 : decode cX11_why 20 = .ok (.iload_n 2, 1) := by decide +kernel
theorem dX11_why_21 : decode cX11_why 21 = .ok (.invokevirtual 105, 3) := by decide +kernel
theorem dX11_why_24 : decode cX11_why 24 = .ok (.ireturn, 1) := by decide +kernel
theorem dX11_why_25 : decode cX11_why 25 = .ok (.bipush (-9), 2) := by decide +kernel
theorem dX11_why_27 : decode cX11_why 27 = .ok (.istore_n 3, 1) := by decide +kernel
theorem dX11_why_28 : decode cX11_why 28 = .ok (.bipush 25, 2) := by decide +kernel
theorem dX11_why_30 : decode cX11_why 30 = .ok (.istore 4, 2) := by decide +kernel
theorem dX11_why_32 : decode cX11_why 32 = .ok (.iconst 0, 1) := by decide +kernel
theorem dX11_why_33 : decode cX11_why 33 = .ok (.istore 5, 2) := by decide +kernel
theorem dX11_why_35 : decode cX11_why 35 = .ok (.iload 5, 2) := by decide +kernel
theorem dX11_why_37 : decode cX11_why 37 = .ok (.bipush 16, 2) := by decide +kernel
theorem dX11_why_39 : decode cX11_why 39 = .ok (.if_icmp .ge 42, 3) := by decide +kernel
theorem dX11_why_42 : decode cX11_why 42 = .ok (.aload_n 0, 1) := by decide +kernel
theorem dX11_why_43 : decode cX11_why 43 = .ok (.iload 5, 2) := by decide +kernel
theorem dX11_why_45 : decode cX11_why 45 = .ok (.iload_n 1, 1) := by decide +kernel
theorem dX11_why_46 : decode cX11_why 46 = .ok (.invokevirtual 286, 3) := by decide +kernel
theorem dX11_why_49 : decode cX11_why 49 = .ok (.istore 6, 2) := by decide +kernel
theorem dX11_why_51 : decode cX11_why 51 = .ok (.iload 6, 2) := by decide +kernel
theorem dX11_why_53 : decode cX11_why 53 = .ok (.iload 4, 2) := by decide +kernel
theorem dX11_why_55 : decode cX11_why 55 = .ok (.if_icmp .ge 20, 3) := by decide +kernel
theorem dX11_why_58 : decode cX11_why 58 = .ok (.iload 6, 2) := by decide +kernel
theorem dX11_why_60 : decode cX11_why 60 = .ok (.istore 4, 2) := by decide +kernel
theorem dX11_why_62 : decode cX11_why 62 = .ok (.bipush 10, 2) := by decide +kernel
theorem dX11_why_64 : decode cX11_why 64 = .ok (.iload 5, 2) := by decide +kernel
theorem dX11_why_66 : decode cX11_why 66 = .ok (.iconst 4, 1) := by decide +kernel
theorem dX11_why_67 : decode cX11_why 67 = .ok (.idiv, 1) := by decide +kernel
theorem dX11_why_68 : decode cX11_why 68 = .ok (.imul, 1) := by decide +kernel
theorem dX11_why_69 : decode cX11_why 69 = .ok (.iload 5, 2) := by decide +kernel
theorem dX11_why_71 : decode cX11_why 71 = .ok (.iconst 4, 1) := by decide +kernel
theorem dX11_why_72 : decode cX11_why 72 = .ok (.irem, 1) := by decide +kernel
theorem dX11_why_73 : decode cX11_why 73 = .ok (.iadd, 1) := by decide +kernel
theorem dX11_why_74 : decode cX11_why 74 = .ok (.istore_n 3, 1) := by decide +kernel
theorem dX11_why_75 : decode cX11_why 75 = .ok (.iinc 5 1, 3) := by decide +kernel
theorem dX11_why_78 : decode cX11_why 78 = .ok (.goto (-43), 3) := by decide +kernel
theorem dX11_why_81 : decode cX11_why 81 = .ok (.aload_n 0, 1) := by decide +kernel
theorem dX11_why_82 : decode cX11_why 82 = .ok (.iload 4, 2) := by decide +kernel
theorem dX11_why_84 : decode cX11_why 84 = .ok (.putfield 194, 3) := by decide +kernel
theorem dX11_why_87 : decode cX11_why 87 = .ok (.iload_n 3, 1) := by decide +kernel
theorem dX11_why_88 : decode cX11_why 88 = .ok (.ireturn, 1) := by decide +kernel
theorem dX11_odds_0 : decode cX11_odds 0 = .ok (.iload_n 1, 1) := by decide +kernel
theorem dX11_odds_1 : decode cX11_odds 1 = .ok (.invokestatic 101, 3) := by decide +kernel
theorem dX11_odds_4 : decode cX11_odds 4 = .ok (.ifCond .eq 10, 3) := by decide +kernel
theorem dX11_odds_7 : decode cX11_odds 7 = .ok (.iload_n 2, 1) := by decide +kernel
theorem dX11_odds_8 : decode cX11_odds 8 = .ok (.invokestatic 160, 3) := by decide +kernel
theorem dX11_odds_11 : decode cX11_odds 11 = .ok (.ifCond .ne 5, 3) := by decide +kernel
theorem dX11_odds_14 : decode cX11_odds 14 = .ok (.iconst (-1), 1) := by decide +kernel
theorem dX11_odds_15 : decode cX11_odds 15 = .ok (.ireturn, 1) := by decide +kernel
theorem dX11_odds_16 : decode cX11_odds 16 = .ok (.aload_n 0, 1) := by decide +kernel
theorem dX11_odds_17 : decode cX11_odds 17 = .ok (.iload_n 1, 1) := by decide +kernel
theorem dX11_odds_18 : decode cX11_odds 18 = .ok (.invokevirtual 283, 3) := by decide +kernel
theorem dX11_odds_21 : decode cX11_odds 21 = .ok (.istore_n 3, 1) := by decide +kernel
theorem dX11_odds_22 : decode cX11_odds 22 = .ok (.iload_n 3, 1) := by decide +kernel
theorem dX11_odds_23 : decode cX11_odds 23 = .ok (.ifCond .eq 9, 3) := by decide +kernel
theorem dX11_odds_26 : decode cX11_odds 26 = .ok (.aload_n 0, 1) := by decide +kernel
theorem dX11_odds_27 : decode cX11_odds 27 = .ok (.iload_n 3, 1) := by decide +kernel
theorem dX11_odds_28 : decode cX11_odds 28 = .ok (.invokevirtual 105, 3) := by decide +kernel
theorem dX11_odds_31 : decode cX11_odds 31 = .ok (.ireturn, 1) := by decide +kernel
theorem dX11_odds_32 : decode cX11_odds 32 = .ok (.bipush 25, 2) := by decide +kernel
theorem dX11_odds_34 : decode cX11_odds 34 = .ok (.istore 4, 2) := by decide +kernel
theorem dX11_odds_36 : decode cX11_odds 36 = .ok (.iconst 0, 1) := by decide +kernel
theorem dX11_odds_37 : decode cX11_odds 37 = .ok (.istore 5, 2) := by decide +kernel
theorem dX11_odds_39 : decode cX11_odds 39 = .ok (.iconst 0, 1) := by decide +kernel
theorem dX11_odds_40 : decode cX11_odds 40 = .ok (.istore 6, 2) := by decide +kernel
theorem dX11_odds_42 : decode cX11_odds 42 = .ok (.iconst 0, 1) := by decide +kernel
theorem dX11_odds_43 : decode cX11_odds 43 = .ok (.istore 7, 2) := by decide +kernel
theorem dX11_odds_45 : decode cX11_odds 45 = .ok (.iload 7, 2) := by decide +kernel
theorem dX11_odds_47 : decode cX11_odds 47 = .ok (.bipush 16, 2) := by decide +kernel
theorem dX11_odds_49 : decode cX11_odds 49 = .ok (.if_icmp .ge 70, 3) := by decide +kernel
theorem dX11_odds_52 : decode cX11_odds 52 = .ok (.aload_n 0, 1) := by decide +kernel
theorem dX11_odds_53 : decode cX11_odds 53 = .ok (.iload 7, 2) := by decide +kernel
theorem dX11_odds_55 : decode cX11_odds 55 = .ok (.iload_n 1, 1) := by decide +kernel
theorem dX11_odds_56 : decode cX11_odds 56 = .ok (.invokevirtual 286, 3) := by decide +kernel
theorem dX11_odds_59 : decode cX11_odds 59 = .ok (.istore 8, 2) := by decide +kernel
theorem dX11_odds_61 : decode cX11_odds 61 = .ok (.iload 8, 2) := by decide +kernel
theorem dX11_odds_63 : decode cX11_odds 63 = .ok (.iload 4, 2) := by decide +kernel
theorem dX11_odds_65 : decode cX11_odds 65 = .ok (.if_icmp .ge 13, 3) := by decide +kernel
theorem dX11_odds_68 : decode cX11_odds 68 = .ok (.iload 8, 2) := by decide +kernel
theorem dX11_odds_70 : decode cX11_odds 70 = .ok (.istore 4, 2) := by decide +kernel
theorem dX11_odds_72 : decode cX11_odds 72 = .ok (.iconst 0, 1) := by decide +kernel
theorem dX11_odds_73 : decode cX11_odds 73 = .ok (.istore 5, 2) := by decide +kernel
theorem dX11_odds_75 : decode cX11_odds 75 = .ok (.iconst 0, 1) := by decide +kernel
theorem dX11_odds_76 : decode cX11_odds 76 = .ok (.istore 6, 2) := by decide +kernel
theorem dX11_odds_78 : decode cX11_odds 78 = .ok (.iload 8, 2) := by decide +kernel
theorem dX11_odds_80 : decode cX11_odds 80 = .ok (.iload 4, 2) := by decide +kernel
theorem dX11_odds_82 : decode cX11_odds 82 = .ok (.if_icmp .ne 31, 3) := by decide +kernel
theorem dX11_odds_85 : decode cX11_odds 85 = .ok (.iload 8, 2) := by decide +kernel
theorem dX11_odds_87 : decode cX11_odds 87 = .ok (.bipush 24, 2) := by decide +kernel
theorem dX11_odds_89 : decode cX11_odds 89 = .ok (.if_icmp .gt 24, 3) := by decide +kernel
theorem dX11_odds_92 : decode cX11_odds 92 = .ok (.iinc 5 1, 3) := by decide +kernel
theorem dX11_odds_95 : decode cX11_odds 95 = .ok (.iload 6, 2) := by decide +kernel
theorem dX11_odds_97 : decode cX11_odds 97 = .ok (.iload 7, 2) := by decide +kernel
theorem dX11_odds_99 : decode cX11_odds 99 = .ok (.iconst 4, 1) := by decide +kernel
theorem dX11_odds_100 : decode cX11_odds 100 = .ok (.idiv, 1) := by decide +kernel
theorem dX11_odds_101 : decode cX11_odds 101 = .ok (.iload_n 2, 1) := by decide +kernel
theorem dX11_odds_102 : decode cX11_odds 102 = .ok (.if_icmp .ne 7, 3) := by decide +kernel
theorem dX11_odds_105 : decode cX11_odds 105 = .ok (.iconst 1, 1) := by decide +kernel
theorem dX11_odds_106 : decode cX11_odds 106 = .ok (.goto 4, 3) := by decide +kernel
theorem dX11_odds_109 : decode cX11_odds 109 = .ok (.iconst 0, 1) := by decide +kernel
theorem dX11_odds_110 : decode cX11_odds 110 = .ok (.iadd, 1) := by decide +kernel
theorem dX11_odds_111 : decode cX11_odds 111 = .ok (.istore 6, 2) := by decide +kernel
theorem dX11_odds_113 : decode cX11_odds 113 = .ok (.iinc 7 1, 3) := by decide +kernel
theorem dX11_odds_116 : decode cX11_odds 116 = .ok (.goto (-71), 3) := by decide +kernel
theorem dX11_odds_119 : decode cX11_odds 119 = .ok (.aload_n 0, 1) := by decide +kernel
theorem dX11_odds_120 : decode cX11_odds 120 = .ok (.iload 6, 2) := by decide +kernel
theorem dX11_odds_122 : decode cX11_odds 122 = .ok (.iload 5, 2) := by decide +kernel
theorem dX11_odds_124 : decode cX11_odds 124 = .ok (.invokevirtual 289, 3) := by decide +kernel
theorem dX11_odds_127 : decode cX11_odds 127 = .ok (.iload 5, 2) := by decide +kernel
theorem dX11_odds_129 : decode cX11_odds 129 = .ok (.ireturn, 1) := by decide +kernel
theorem dX11_sprout_0 : decode cX11_sprout 0 = .ok (.iload_n 1, 1) := by decide +kernel
theorem dX11_sprout_1 : decode cX11_sprout 1 = .ok (.invokestatic 160, 3) := by decide +kernel
theorem dX11_sprout_4 : decode cX11_sprout 4 = .ok (.ifCond .eq 17, 3) := by decide +kernel
theorem dX11_sprout_7 : decode cX11_sprout 7 = .ok (.iload_n 2, 1) := by decide +kernel
theorem dX11_sprout_8 : decode cX11_sprout 8 = .ok (.invokestatic 173, 3) := by decide +kernel
theorem dX11_sprout_11 : decode cX11_sprout 11 = .ok (.ifCond .eq 10, 3) := by decide +kernel
theorem dX11_sprout_14 : decode cX11_sprout 14 = .ok (.iload_n 3, 1) := by decide +kernel
theorem dX11_sprout_15 : decode cX11_sprout 15 = .ok (.invokestatic 101, 3) := by decide +kernel
theorem dX11_sprout_18 : decode cX11_sprout 18 = .ok (.ifCond .ne 5, 3) := by decide +kernel
theorem dX11_sprout_21 : decode cX11_sprout 21 = .ok (.iconst (-1), 1) := by decide +kernel
theorem dX11_sprout_22 : decode cX11_sprout 22 = .ok (.ireturn, 1) := by decide +kernel
theorem dX11_sprout_23 : decode cX11_sprout 23 = .ok (.aload_n 0, 1) := by decide +kernel
theorem dX11_sprout_24 : decode cX11_sprout 24 = .ok (.iload_n 1, 1) := by decide +kernel
theorem dX11_sprout_25 : decode cX11_sprout 25 = .ok (.iload_n 2, 1) := by decide +kernel
theorem dX11_sprout_26 : decode cX11_sprout 26 = .ok (.iload_n 3, 1) := by decide +kernel
theorem dX11_sprout_27 : decode cX11_sprout 27 = .ok (.invokevirtual 293, 3) := by decide +kernel
theorem dX11_sprout_30 : decode cX11_sprout 30 = .ok (.istore 4, 2) := by decide +kernel
theorem dX11_sprout_32 : decode cX11_sprout 32 = .ok (.iload 4, 2) := by decide +kernel
theorem dX11_sprout_34 : decode cX11_sprout 34 = .ok (.ifCond .eq 10, 3) := by decide +kernel
theorem dX11_sprout_37 : decode cX11_sprout 37 = .ok (.aload_n 0, 1) := by decide +kernel
theorem dX11_sprout_38 : decode cX11_sprout 38 = .ok (.iload 4, 2) := by decide +kernel
theorem dX11_sprout_40 : decode cX11_sprout 40 = .ok (.invokevirtual 105, 3) := by decide +kernel
theorem dX11_sprout_43 : decode cX11_sprout 43 = .ok (.ireturn, 1) := by decide +kernel
theorem dX11_sprout_44 : decode cX11_sprout 44 = .ok (.bipush (-9), 2) := by decide +kernel
theorem dX11_sprout_46 : decode cX11_sprout 46 = .ok (.istore 5, 2) := by decide +kernel
theorem dX11_sprout_48 : decode cX11_sprout 48 = .ok (.bipush 25, 2) := by decide +kernel
theorem dX11_sprout_50 : decode cX11_sprout 50 = .ok (.istore 6, 2) := by decide +kernel
theorem dX11_sprout_52 : decode cX11_sprout 52 = .ok (.aload_n 0, 1) := by decide +kernel
theorem dX11_sprout_53 : decode cX11_sprout 53 = .ok (.getfield 73, 3) := by decide +kernel
theorem dX11_sprout_56 : decode cX11_sprout 56 = .ok (.aload_n 0, 1) := by decide +kernel
theorem dX11_sprout_57 : decode cX11_sprout 57 = .ok (.getfield 23, 3) := by decide +kernel
theorem dX11_sprout_60 : decode cX11_sprout 60 = .ok (.iload_n 1, 1) := by decide +kernel
theorem dX11_sprout_61 : decode cX11_sprout 61 = .ok (.aaload, 1) := by decide +kernel
theorem dX11_sprout_62 : decode cX11_sprout 62 = .ok (.invokevirtual 166, 3) := by decide +kernel
theorem dX11_sprout_65 : decode cX11_sprout 65 = .ok (.getstatic 297, 3) := by decide +kernel
theorem dX11_sprout_68 : decode cX11_sprout 68 = .ok (.iconst 2, 1) := by decide +kernel
theorem dX11_sprout_69 : decode cX11_sprout 69 = .ok (.iaload, 1) := by decide +kernel
theorem dX11_sprout_70 : decode cX11_sprout 70 = .ok (.istore 7, 2) := by decide +kernel
theorem dX11_sprout_72 : decode cX11_sprout 72 = .ok (.iload 7, 2) := by decide +kernel
theorem dX11_sprout_74 : decode cX11_sprout 74 = .ok (.getstatic 300, 3) := by decide +kernel
theorem dX11_sprout_77 : decode cX11_sprout 77 = .ok (.iconst 2, 1) := by decide +kernel
theorem dX11_sprout_78 : decode cX11_sprout 78 = .ok (.iaload, 1) := by decide +kernel
theorem dX11_sprout_79 : decode cX11_sprout 79 = .ok (.if_icmp .gt 63, 3) := by decide +kernel
theorem dX11_sprout_82 : decode cX11_sprout 82 = .ok (.aload_n 0, 1) := by decide +kernel
theorem dX11_sprout_83 : decode cX11_sprout 83 = .ok (.getfield 73, 3) := by decide +kernel
theorem dX11_sprout_86 : decode cX11_sprout 86 = .ok (.getfield 187, 3) := by decide +kernel
theorem dX11_sprout_89 : decode cX11_sprout 89 = .ok (.iconst 2, 1) := by decide +kernel
theorem dX11_sprout_90 : decode cX11_sprout 90 = .ok (.iload 7, 2) := by decide +kernel
theorem dX11_sprout_92 : decode cX11_sprout 92 = .ok (.iastore, 1) := by decide +kernel
theorem dX11_sprout_93 : decode cX11_sprout 93 = .ok (.aload_n 0, 1) := by decide +kernel
theorem dX11_sprout_94 : decode cX11_sprout 94 = .ok (.getfield 61, 3) := by decide +kernel
theorem dX11_sprout_97 : decode cX11_sprout 97 = .ok (.aload_n 0, 1) := by decide +kernel
theorem dX11_sprout_98 : decode cX11_sprout 98 = .ok (.getfield 73, 3) := by decide +kernel
theorem dX11_sprout_101 : decode cX11_sprout 101 = .ok (.aload_n 0, 1) := by decide +kernel
theorem dX11_sprout_102 : decode cX11_sprout 102 = .ok (.getfield 29, 3) := by decide +kernel
theorem dX11_sprout_105 : decode cX11_sprout 105 = .ok (.iload_n 2, 1) := by decide +kernel
theorem dX11_sprout_106 : decode cX11_sprout 106 = .ok (.aaload, 1) := by decide +kernel
theorem dX11_sprout_107 : decode cX11_sprout 107 = .ok (.invokevirtual 303, 3) := by decide +kernel
theorem dX11_sprout_110 : decode cX11_sprout 110 = .ok (.aload_n 0, 1) := by decide +kernel
theorem dX11_sprout_111 : decode cX11_sprout 111 = .ok (.getfield 11, 3) := by decide +kernel
theorem dX11_sprout_114 : decode cX11_sprout 114 = .ok (.iload_n 3, 1) := by decide +kernel
theorem dX11_sprout_115 : decode cX11_sprout 115 = .ok (.aaload, 1) := by decide +kernel
theorem dX11_sprout_116 : decode cX11_sprout 116 = .ok (.invokevirtual 307, 3) := by decide +kernel
theorem dX11_sprout_119 : decode cX11_sprout 119 = .ok (.istore 8, 2) := by decide +kernel
theorem dX11_sprout_121 : decode cX11_sprout 121 = .ok (.iload 8, 2) := by decide +kernel
theorem dX11_sprout_123 : decode cX11_sprout 123 = .ok (.iload 6, 2) := by decide +kernel
theorem dX11_sprout_125 : decode cX11_sprout 125 = .ok (.if_icmp .ge 11, 3) := by decide +kernel
theorem dX11_sprout_128 : decode cX11_sprout 128 = .ok (.iload 8, 2) := by decide +kernel
theorem dX11_sprout_130 : decode cX11_sprout 130 = .ok (.istore 6, 2) := by decide +kernel
theorem dX11_sprout_132 : decode cX11_sprout 132 = .ok (.iload 7, 2) := by decide +kernel
theorem dX11_sprout_134 : decode cX11_sprout 134 = .ok (.istore 5, 2) := by decide +kernel
theorem dX11_sprout_136 : decode cX11_sprout 136 = .ok (.iinc 7 1, 3) := by decide +kernel
theorem dX11_sprout_139 : decode cX11_sprout 139 = .ok (.goto (-67), 3) := by decide +kernel
theorem dX11_sprout_142 : decode cX11_sprout 142 = .ok (.aload_n 0, 1) := by decide +kernel
theorem dX11_sprout_143 : decode cX11_sprout 143 = .ok (.iload 6, 2) := by decide +kernel
theorem dX11_sprout_145 : decode cX11_sprout 145 = .ok (.putfield 194, 3) := by decide +kernel
theorem dX11_sprout_148 : decode cX11_sprout 148 = .ok (.iload 5, 2) := by decide +kernel
theorem dX11_sprout_150 : decode cX11_sprout 150 = .ok (.ireturn, 1) := by decide +kernel
theorem dX11_rack_0 : decode cX11_rack 0 = .ok (.iload_n 1, 1) := by decide +kernel
theorem dX11_rack_1 : decode cX11_rack 1 = .ok (.invokestatic 160, 3) := by decide +kernel
theorem dX11_rack_4 : decode cX11_rack 4 = .ok (.ifCond .eq 17, 3) := by decide +kernel
theorem dX11_rack_7 : decode cX11_rack 7 = .ok (.iload_n 2, 1) := by decide +kernel
theorem dX11_rack_8 : decode cX11_rack 8 = .ok (.invokestatic 173, 3) := by decide +kernel
theorem dX11_rack_11 : decode cX11_rack 11 = .ok (.ifCond .eq 10, 3) := by decide +kernel
theorem dX11_rack_14 : decode cX11_rack 14 = .ok (.iload_n 3, 1) := by decide +kernel
theorem dX11_rack_15 : decode cX11_rack 15 = .ok (.invokestatic 101, 3) := by decide +kernel
theorem dX11_rack_18 : decode cX11_rack 18 = .ok (.ifCond .ne 5, 3) := by decide +kernel
theorem dX11_rack_21 : decode cX11_rack 21 = .ok (.iconst (-1), 1) := by decide +kernel
theorem dX11_rack_22 : decode cX11_rack 22 = .ok (.ireturn, 1) := by decide +kernel
theorem dX11_rack_23 : decode cX11_rack 23 = .ok (.aload_n 0, 1) := by decide +kernel
theorem dX11_rack_24 : decode cX11_rack 24 = .ok (.iload_n 1, 1) := by decide +kernel
theorem dX11_rack_25 : decode cX11_rack 25 = .ok (.iload_n 2, 1) := by decide +kernel
theorem dX11_rack_26 : decode cX11_rack 26 = .ok (.iload_n 3, 1) := by decide +kernel
theorem dX11_rack_27 : decode cX11_rack 27 = .ok (.invokevirtual 293, 3) := by decide +kernel
theorem dX11_rack_30 : decode cX11_rack 30 = .ok (.istore 4, 2) := by decide +kernel
theorem dX11_rack_32 : decode cX11_rack 32 = .ok (.iload 4, 2) := by decide +kernel
theorem dX11_rack_34 : decode cX11_rack 34 = .ok (.ifCond .eq 10, 3) := by decide +kernel
theorem dX11_rack_37 : decode cX11_rack 37 = .ok (.aload_n 0, 1) := by decide +kernel
theorem dX11_rack_38 : decode cX11_rack 38 = .ok (.iload 4, 2) := by decide +kernel
theorem dX11_rack_40 : decode cX11_rack 40 = .ok (.invokevirtual 105, 3) := by decide +kernel
theorem dX11_rack_43 : decode cX11_rack 43 = .ok (.ireturn, 1) := by decide +kernel
theorem dX11_rack_44 : decode cX11_rack 44 = .ok (.iconst 0, 1) := by decide +kernel
theorem dX11_rack_45 : decode cX11_rack 45 = .ok (.istore 5, 2) := by decide +kernel
theorem dX11_rack_47 : decode cX11_rack 47 = .ok (.bipush 25, 2) := by decide +kernel
theorem dX11_rack_49 : decode cX11_rack 49 = .ok (.istore 6, 2) := by decide +kernel
theorem dX11_rack_51 : decode cX11_rack 51 = .ok (.iconst 0, 1) := by decide +kernel
theorem dX11_rack_52 : decode cX11_rack 52 = .ok (.istore 7, 2) := by decide +kernel
theorem dX11_rack_54 : decode cX11_rack 54 = .ok (.iload 7, 2) := by decide +kernel
theorem dX11_rack_56 : decode cX11_rack 56 = .ok (.iconst 5, 1) := by decide +kernel
theorem dX11_rack_57 : decode cX11_rack 57 = .ok (.if_icmp .ge 82, 3) := by decide +kernel
theorem dX11_rack_60 : decode cX11_rack 60 = .ok (.aload_n 0, 1) := by decide +kernel
theorem dX11_rack_61 : decode cX11_rack 61 = .ok (.getfield 78, 3) := by decide +kernel
theorem dX11_rack_64 : decode cX11_rack 64 = .ok (.aload_n 0, 1) := by decide +kernel
theorem dX11_rack_65 : decode cX11_rack 65 = .ok (.getfield 29, 3) := by decide +kernel
theorem dX11_rack_68 : decode cX11_rack 68 = .ok (.iload_n 2, 1) := by decide +kernel
theorem dX11_rack_69 : decode cX11_rack 69 = .ok (.aaload, 1) := by decide +kernel
theorem dX11_rack_70 : decode cX11_rack 70 = .ok (.invokevirtual 179, 3) := by decide +kernel
theorem dX11_rack_73 : decode cX11_rack 73 = .ok (.aload_n 0, 1) := by decide +kernel
theorem dX11_rack_74 : decode cX11_rack 74 = .ok (.getfield 78, 3) := by decide +kernel
theorem dX11_rack_77 : decode cX11_rack 77 = .ok (.getstatic 311, 3) := by decide +kernel
theorem dX11_rack_80 : decode cX11_rack 80 = .ok (.iload 7, 2) := by decide +kernel
theorem dX11_rack_82 : decode cX11_rack 82 = .ok (.iaload, 1) := by decide +kernel
theorem dX11_rack_83 : decode cX11_rack 83 = .ok (.invokevirtual 314, 3) := by decide +kernel
theorem dX11_rack_86 : decode cX11_rack 86 = .ok (.aload_n 0, 1) := by decide +kernel
theorem dX11_rack_87 : decode cX11_rack 87 = .ok (.getfield 61, 3) := by decide +kernel
theorem dX11_rack_90 : decode cX11_rack 90 = .ok (.aload_n 0, 1) := by decide +kernel
theorem dX11_rack_91 : decode cX11_rack 91 = .ok (.getfield 23, 3) := by decide +kernel
theorem dX11_rack_94 : decode cX11_rack 94 = .ok (.iload_n 1, 1) := by decide +kernel
theorem dX11_rack_95 : decode cX11_rack 95 = .ok (.aaload, 1) := by decide +kernel
theorem dX11_rack_96 : decode cX11_rack 96 = .ok (.aload_n 0, 1) := by decide +kernel
theorem dX11_rack_97 : decode cX11_rack 97 = .ok (.getfield 78, 3) := by decide +kernel
theorem dX11_rack_100 : decode cX11_rack 100 = .ok (.invokevirtual 303, 3) := by decide +kernel
theorem dX11_rack_103 : decode cX11_rack 103 = .ok (.aload_n 0, 1) := by decide +kernel
theorem dX11_rack_104 : decode cX11_rack 104 = .ok (.getfield 11, 3) := by decide +kernel
theorem dX11_rack_107 : decode cX11_rack 107 = .ok (.iload_n 3, 1) := by decide +kernel
theorem dX11_rack_108 : decode cX11_rack 108 = .ok (.aaload, 1) := by decide +kernel
theorem dX11_rack_109 : decode cX11_rack 109 = .ok (.invokevirtual 307, 3) := by decide +kernel
theorem dX11_rack_112 : decode cX11_rack 112 = .ok (.istore 8, 2) := by decide +kernel
theorem dX11_rack_114 : decode cX11_rack 114 = .ok (.iload 8, 2) := by decide +kernel
theorem dX11_rack_116 : decode cX11_rack 116 = .ok (.iload 6, 2) := by decide +kernel
theorem dX11_rack_118 : decode cX11_rack 118 = .ok (.if_icmp .ge 15, 3) := by decide +kernel
theorem dX11_rack_121 : decode cX11_rack 121 = .ok (.iload 8, 2) := by decide +kernel
theorem dX11_rack_123 : decode cX11_rack 123 = .ok (.istore 6, 2) := by decide +kernel
theorem dX11_rack_125 : decode cX11_rack 125 = .ok (.getstatic 311, 3) := by decide +kernel
theorem dX11_rack_128 : decode cX11_rack 128 = .ok (.iload 7, 2) := by decide +kernel
theorem dX11_rack_130 : decode cX11_rack 130 = .ok (.iaload, 1) := by decide +kernel
theorem dX11_rack_131 : decode cX11_rack 131 = .ok (.istore 5, 2) := by decide +kernel
theorem dX11_rack_133 : decode cX11_rack 133 = .ok (.iinc 7 1, 3) := by decide +kernel
theorem dX11_rack_136 : decode cX11_rack 136 = .ok (.goto (-82), 3) := by decide +kernel
theorem dX11_rack_139 : decode cX11_rack 139 = .ok (.aload_n 0, 1) := by decide +kernel
theorem dX11_rack_140 : decode cX11_rack 140 = .ok (.iload 6, 2) := by decide +kernel
theorem dX11_rack_142 : decode cX11_rack 142 = .ok (.putfield 194, 3) := by decide +kernel
theorem dX11_rack_145 : decode cX11_rack 145 = .ok (.iload 5, 2) := by decide +kernel
theorem dX11_rack_147 : decode cX11_rack 147 = .ok (.iconst 5, 1) := by decide +kernel
theorem dX11_rack_148 : decode cX11_rack 148 = .ok (.iadd, 1) := by decide +kernel
theorem dX11_rack_149 : decode cX11_rack 149 = .ok (.ireturn, 1) := by decide +kernel
theorem dX11_change_0 : decode cX11_change 0 = .ok (.aload_n 0, 1) := by decide +kernel
theorem dX11_change_1 : decode cX11_change 1 = .ok (.getfield 40, 3) := by decide +kernel
theorem dX11_change_4 : decode cX11_change 4 = .ok (.getfield 211, 3) := by decide +kernel
theorem dX11_change_7 : decode cX11_change 7 = .ok (.ifCond .ne 6, 3) := by decide +kernel
theorem dX11_change_10 : decode cX11_change 10 = .ok (.bipush (-4), 2) := by decide +kernel
theorem dX11_change_12 : decode cX11_change 12 = .ok (.ireturn, 1) := by decide +kernel
theorem dX11_change_13 : decode cX11_change 13 = .ok (.bipush (-9), 2) := by decide +kernel
theorem dX11_change_15 : decode cX11_change 15 = .ok (.istore_n 1, 1) := by decide +kernel
theorem dX11_change_16 : decode cX11_change 16 = .ok (.iconst (-1), 1) := by decide +kernel
theorem dX11_change_17 : decode cX11_change 17 = .ok (.istore_n 2, 1) := by decide +kernel
theorem dX11_change_18 : decode cX11_change 18 = .ok (.iconst 0, 1) := by decide +kernel
theorem dX11_change_19 : decode cX11_change 19 = .ok (.istore_n 3, 1) := by decide +kernel
theorem dX11_change_20 : decode cX11_change 20 = .ok (.iload_n 3, 1) := by decide +kernel
theorem dX11_change_21 : decode cX11_change 21 = .ok (.bipush 10, 2) := by decide +kernel
theorem dX11_change_23 : decode cX11_change 23 = .ok (.aload_n 0, 1) := by decide +kernel
theorem dX11_change_24 : decode cX11_change 24 = .ok (.getfield 40, 3) := by decide +kernel
theorem dX11_change_27 : decode cX11_change 27 = .ok (.getfield 204, 3) := by decide +kernel
theorem dX11_change_30 : decode cX11_change 30 = .ok (.getfield 182, 3) := by decide +kernel
theorem dX11_change_33 : decode cX11_change 33 = .ok (.imul, 1) := by decide +kernel
theorem dX11_change_34 : decode cX11_change 34 = .ok (.if_icmp .ge 82, 3) := by decide +kernel
theorem dX11_change_37 : decode cX11_change 37 = .ok (.aload_n 0, 1) := by decide +kernel
theorem dX11_change_38 : decode cX11_change 38 = .ok (.getfield 40, 3) := by decide +kernel
theorem dX11_change_41 : decode cX11_change 41 = .ok (.getfield 204, 3) := by decide +kernel
theorem dX11_change_44 : decode cX11_change 44 = .ok (.iload_n 3, 1) := by decide +kernel
theorem dX11_change_45 : decode cX11_change 45 = .ok (.invokevirtual 317, 3) := by decide +kernel
theorem dX11_change_48 : decode cX11_change 48 = .ok (.ifCond .ne 6, 3) := by decide +kernel
theorem dX11_change_51 : decode cX11_change 51 = .ok (.goto 59, 3) := by decide +kernel
theorem dX11_change_54 : decode cX11_change 54 = .ok (.aload_n 0, 1) := by decide +kernel
theorem dX11_change_55 : decode cX11_change 55 = .ok (.getfield 78, 3) := by decide +kernel
theorem dX11_change_58 : decode cX11_change 58 = .ok (.aload_n 0, 1) := by decide +kernel
theorem dX11_change_59 : decode cX11_change 59 = .ok (.getfield 40, 3) := by decide +kernel
theorem dX11_change_62 : decode cX11_change 62 = .ok (.getfield 204, 3) := by decide +kernel
theorem dX11_change_65 : decode cX11_change 65 = .ok (.invokevirtual 179, 3) := by decide +kernel
theorem dX11_change_68 : decode cX11_change 68 = .ok (.aload_n 0, 1) := by decide +kernel
theorem dX11_change_69 : decode cX11_change 69 = .ok (.getfield 78, 3) := by decide +kernel
theorem dX11_change_72 : decode cX11_change 72 = .ok (.iload_n 3, 1) := by decide +kernel
theorem dX11_change_73 : decode cX11_change 73 = .ok (.invokevirtual 320, 3) := by decide +kernel
theorem dX11_change_76 : decode cX11_change 76 = .ok (.aload_n 0, 1) := by decide +kernel
theorem dX11_change_77 : decode cX11_change 77 = .ok (.getfield 61, 3) := by decide +kernel
theorem dX11_change_80 : decode cX11_change 80 = .ok (.aload_n 0, 1) := by decide +kernel
theorem dX11_change_81 : decode cX11_change 81 = .ok (.getfield 40, 3) := by decide +kernel
theorem dX11_change_84 : decode cX11_change 84 = .ok (.getfield 240, 3) := by decide +kernel
theorem dX11_change_87 : decode cX11_change 87 = .ok (.aload_n 0, 1) := by decide +kernel
theorem dX11_change_88 : decode cX11_change 88 = .ok (.getfield 78, 3) := by decide +kernel
theorem dX11_change_91 : decode cX11_change 91 = .ok (.invokevirtual 303, 3) := by decide +kernel
theorem dX11_change_94 : decode cX11_change 94 = .ok (.invokevirtual 255, 3) := by decide +kernel
theorem dX11_change_97 : decode cX11_change 97 = .ok (.istore 4, 2) := by decide +kernel
theorem dX11_change_99 : decode cX11_change 99 = .ok (.iload 4, 2) := by decide +kernel
theorem dX11_change_101 : decode cX11_change 101 = .ok (.iload_n 2, 1) := by decide +kernel
theorem dX11_change_102 : decode cX11_change 102 = .ok (.if_icmp .le 8, 3) := by decide +kernel
theorem dX11_change_105 : decode cX11_change 105 = .ok (.iload 4, 2) := by decide +kernel
theorem dX11_change_107 : decode cX11_change 107 = .ok (.istore_n 2, 1) := by decide +kernel
theorem dX11_change_108 : decode cX11_change 108 = .ok (.iload_n 3, 1) := by decide +kernel
theorem dX11_change_109 : decode cX11_change 109 = .ok (.istore_n 1, 1) := by decide +kernel
theorem dX11_change_110 : decode cX11_change 110 = .ok (.iinc 3 1, 3) := by decide +kernel
theorem dX11_change_113 : decode cX11_change 113 = .ok (.goto (-93), 3) := by decide +kernel
theorem dX11_change_116 : decode cX11_change 116 = .ok (.iload_n 1, 1) := by decide +kernel
theorem dX11_change_117 : decode cX11_change 117 = .ok (.bipush (-9), 2) := by decide +kernel
theorem dX11_change_119 : decode cX11_change 119 = .ok (.if_icmp .eq 8, 3) := by decide +kernel
theorem dX11_change_122 : decode cX11_change 122 = .ok (.aload_n 0, 1) := by decide +kernel
theorem dX11_change_123 : decode cX11_change 123 = .ok (.iload_n 2, 1) := by decide +kernel
theorem dX11_change_124 : decode cX11_change 124 = .ok (.putfield 194, 3) := by decide +kernel
theorem dX11_change_127 : decode cX11_change 127 = .ok (.iload_n 1, 1) := by decide +kernel
theorem dX11_change_128 : decode cX11_change 128 = .ok (.ireturn, 1) := by decide +kernel
theorem dX11_changes_0 : decode cX11_changes 0 = .ok (.aload_n 0, 1) := by decide +kernel
theorem dX11_changes_1 : decode cX11_changes 1 = .ok (.getfield 40, 3) := by decide +kernel
theorem dX11_changes_4 : decode cX11_changes 4 = .ok (.getfield 211, 3) := by decide +kernel
theorem dX11_changes_7 : decode cX11_changes 7 = .ok (.ifCond .ne 6, 3) := by decide +kernel
theorem dX11_changes_10 : decode cX11_changes 10 = .ok (.bipush (-4), 2) := by decide +kernel
theorem dX11_changes_12 : decode cX11_changes 12 = .ok (.ireturn, 1) := by decide +kernel
theorem dX11_changes_13 : decode cX11_changes 13 = .ok (.bipush (-9), 2) := by decide +kernel
theorem dX11_changes_15 : decode cX11_changes 15 = .ok (.istore_n 1, 1) := by decide +kernel
theorem dX11_changes_16 : decode cX11_changes 16 = .ok (.iconst (-1), 1) := by decide +kernel
theorem dX11_changes_17 : decode cX11_changes 17 = .ok (.istore_n 2, 1) := by decide +kernel
theorem dX11_changes_18 : decode cX11_changes 18 = .ok (.iconst 0, 1) := by decide +kernel
theorem dX11_changes_19 : decode cX11_changes 19 = .ok (.istore_n 3, 1) := by decide +kernel
theorem dX11_changes_20 : decode cX11_changes 20 = .ok (.iload_n 3, 1) := by decide +kernel
theorem dX11_changes_21 : decode cX11_changes 21 = .ok (.bipush 10, 2) := by decide +kernel
theorem dX11_changes_23 : decode cX11_changes 23 = .ok (.aload_n 0, 1) := by decide +kernel
theorem dX11_changes_24 : decode cX11_changes 24 = .ok (.getfield 40, 3) := by decide +kernel
theorem dX11_changes_27 : decode cX11_changes 27 = .ok (.getfield 204, 3) := by decide +kernel
theorem dX11_changes_30 : decode cX11_changes 30 = .ok (.getfield 182, 3) := by decide +kernel
theorem dX11_changes_33 : decode cX11_changes 33 = .ok (.imul, 1) := by decide +kernel
theorem dX11_changes_34 : decode cX11_changes 34 = .ok (.if_icmp .ge 147, 3) := by decide +kernel
theorem dX11_changes_37 : decode cX11_changes 37 = .ok (.aload_n 0, 1) := by decide +kernel
theorem dX11_changes_38 : decode cX11_changes 38 = .ok (.getfield 40, 3) := by decide +kernel
theorem dX11_changes_41 : decode cX11_changes 41 = .ok (.getfield 204, 3) := by decide +kernel
theorem dX11_changes_44 : decode cX11_changes 44 = .ok (.iload_n 3, 1) := by decide +kernel
theorem dX11_changes_45 : decode cX11_changes 45 = .ok (.invokevirtual 317, 3) := by decide +kernel
theorem dX11_changes_48 : decode cX11_changes 48 = .ok (.ifCond .ne 6, 3) := by decide +kernel
theorem dX11_changes_51 : decode cX11_changes 51 = .ok (.goto 124, 3) := by decide +kernel
theorem dX11_changes_54 : decode cX11_changes 54 = .ok (.aload_n 0, 1) := by decide +kernel
theorem dX11_changes_55 : decode cX11_changes 55 = .ok (.getfield 82, 3) := by decide +kernel
theorem dX11_changes_58 : decode cX11_changes 58 = .ok (.aload_n 0, 1) := by decide +kernel
theorem dX11_changes_59 : decode cX11_changes 59 = .ok (.getfield 40, 3) := by decide +kernel
theorem dX11_changes_62 : decode cX11_changes 62 = .ok (.getfield 204, 3) := by decide +kernel
theorem dX11_changes_65 : decode cX11_changes 65 = .ok (.invokevirtual 179, 3) := by decide +kernel
theorem dX11_changes_68 : decode cX11_changes 68 = .ok (.aload_n 0, 1) := by decide +kernel
theorem dX11_changes_69 : decode cX11_changes 69 = .ok (.getfield 82, 3) := by decide +kernel
theorem dX11_changes_72 : decode cX11_changes 72 = .ok (.iload_n 3, 1) := by decide +kernel
theorem dX11_changes_73 : decode cX11_changes 73 = .ok (.invokevirtual 320, 3) := by decide +kernel
theorem dX11_changes_76 : decode cX11_changes 76 = .ok (.iconst 0, 1) := by decide +kernel
theorem dX11_changes_77 : decode cX11_changes 77 = .ok (.istore 4, 2) := by decide +kernel
theorem dX11_changes_79 : decode cX11_changes 79 = .ok (.iload 4, 2) := by decide +kernel
theorem dX11_changes_81 : decode cX11_changes 81 = .ok (.bipush 10, 2) := by decide +kernel
theorem dX11_changes_83 : decode cX11_changes 83 = .ok (.aload_n 0, 1) := by decide +kernel
theorem dX11_changes_84 : decode cX11_changes 84 = .ok (.getfield 82, 3) := by decide +kernel
theorem dX11_changes_87 : decode cX11_changes 87 = .ok (.getfield 182, 3) := by decide +kernel
theorem dX11_changes_90 : decode cX11_changes 90 = .ok (.imul, 1) := by decide +kernel
theorem dX11_changes_91 : decode cX11_changes 91 = .ok (.if_icmp .ge 84, 3) := by decide +kernel
theorem dX11_changes_94 : decode cX11_changes 94 = .ok (.aload_n 0, 1) := by decide +kernel
theorem dX11_changes_95 : decode cX11_changes 95 = .ok (.getfield 82, 3) := by decide +kernel
theorem dX11_changes_98 : decode cX11_changes 98 = .ok (.iload 4, 2) := by decide +kernel
theorem dX11_changes_100 : decode cX11_changes 100 = .ok (.invokevirtual 317, 3) := by decide +kernel
theorem dX11_changes_103 : decode cX11_changes 103 = .ok (.ifCond .ne 6, 3) := by decide +kernel
theorem dX11_changes_106 : decode cX11_changes 106 = .ok (.goto 63, 3) := by decide +kernel
theorem dX11_changes_109 : decode cX11_changes 109 = .ok (.aload_n 0, 1) := by decide +kernel
theorem dX11_changes_110 : decode cX11_changes 110 = .ok (.getfield 78, 3) := by decide +kernel
theorem dX11_changes_113 : decode cX11_changes 113 = .ok (.aload_n 0, 1) := by decide +kernel
theorem dX11_changes_114 : decode cX11_changes 114 = .ok (.getfield 82, 3) := by decide +kernel
theorem dX11_changes_117 : decode cX11_changes 117 = .ok (.invokevirtual 179, 3) := by decide +kernel
theorem dX11_changes_120 : decode cX11_changes 120 = .ok (.aload_n 0, 1) := by decide +kernel
theorem dX11_changes_121 : decode cX11_changes 121 = .ok (.getfield 78, 3) := by decide +kernel
theorem dX11_changes_124 : decode cX11_changes 124 = .ok (.iload 4, 2) := by decide +kernel
theorem dX11_changes_126 : decode cX11_changes 126 = .ok (.invokevirtual 320, 3) := by decide +kernel
theorem dX11_changes_129 : decode cX11_changes 129 = .ok (.aload_n 0, 1) := by decide +kernel
theorem dX11_changes_130 : decode cX11_changes 130 = .ok (.getfield 61, 3) := by decide +kernel
theorem dX11_changes_133 : decode cX11_changes 133 = .ok (.aload_n 0, 1) := by decide +kernel
theorem dX11_changes_134 : decode cX11_changes 134 = .ok (.getfield 40, 3) := by decide +kernel
theorem dX11_changes_137 : decode cX11_changes 137 = .ok (.getfield 240, 3) := by decide +kernel
theorem dX11_changes_140 : decode cX11_changes 140 = .ok (.aload_n 0, 1) := by decide +kernel
theorem dX11_changes_141 : decode cX11_changes 141 = .ok (.getfield 78, 3) := by decide +kernel
theorem dX11_changes_144 : decode cX11_changes 144 = .ok (.invokevirtual 303, 3) := by decide +kernel
theorem dX11_changes_147 : decode cX11_changes 147 = .ok (.invokevirtual 255, 3) := by decide +kernel
theorem dX11_changes_150 : decode cX11_changes 150 = .ok (.istore 5, 2) := by decide +kernel
theorem dX11_changes_152 : decode cX11_changes 152 = .ok (.iload 5, 2) := by decide +kernel
theorem dX11_changes_154 : decode cX11_changes 154 = .ok (.iload_n 2, 1) := by decide +kernel
theorem dX11_changes_155 : decode cX11_changes 155 = .ok (.if_icmp .le 14, 3) := by decide +kernel
theorem dX11_changes_158 : decode cX11_changes 158 = .ok (.iload 5, 2) := by decide +kernel
theorem dX11_changes_160 : decode cX11_changes 160 = .ok (.istore_n 2, 1) := by decide +kernel
theorem dX11_changes_161 : decode cX11_changes 161 = .ok (.bipush 100, 2) := by decide +kernel
theorem dX11_changes_163 : decode cX11_changes 163 = .ok (.iload_n 3, 1) := by decide +kernel
theorem dX11_changes_164 : decode cX11_changes 164 = .ok (.imul, 1) := by decide +kernel
theorem dX11_changes_165 : decode cX11_changes 165 = .ok (.iload 4, 2) := by decide +kernel
theorem dX11_changes_167 : decode cX11_changes 167 = .ok (.iadd, 1) := by decide +kernel
theorem dX11_changes_168 : decode cX11_changes 168 = .ok (.istore_n 1, 1) := by decide +kernel
theorem dX11_changes_169 : decode cX11_changes 169 = .ok (.iinc 4 1, 3) := by decide +kernel
theorem dX11_changes_172 : decode cX11_changes 172 = .ok (.goto (-93), 3) := by decide +kernel
theorem dX11_changes_175 : decode cX11_changes 175 = .ok (.iinc 3 1, 3) := by decide +kernel
theorem dX11_changes_178 : decode cX11_changes 178 = .ok (.goto (-158), 3) := by decide +kernel
theorem dX11_changes_181 : decode cX11_changes 181 = .ok (.iload_n 1, 1) := by decide +kernel
theorem dX11_changes_182 : decode cX11_changes 182 = .ok (.bipush (-9), 2) := by decide +kernel
theorem dX11_changes_184 : decode cX11_changes 184 = .ok (.if_icmp .eq 8, 3) := by decide +kernel
theorem dX11_changes_187 : decode cX11_changes 187 = .ok (.aload_n 0, 1) := by decide +kernel
theorem dX11_changes_188 : decode cX11_changes 188 = .ok (.iload_n 2, 1) := by decide +kernel
theorem dX11_changes_189 : decode cX11_changes 189 = .ok (.putfield 194, 3) := by decide +kernel
theorem dX11_changes_192 : decode cX11_changes 192 = .ok (.iload_n 1, 1) := by decide +kernel
theorem dX11_changes_193 : decode cX11_changes 193 = .ok (.ireturn, 1) := by decide +kernel
theorem dX11_wide_0 : decode cX11_wide 0 = .ok (.iload_n 1, 1) := by decide +kernel
theorem dX11_wide_1 : decode cX11_wide 1 = .ok (.ifCond .lt 9, 3) := by decide +kernel
theorem dX11_wide_4 : decode cX11_wide 4 = .ok (.iload_n 1, 1) := by decide +kernel
theorem dX11_wide_5 : decode cX11_wide 5 = .ok (.bipush 10, 2) := by decide +kernel
theorem dX11_wide_7 : decode cX11_wide 7 = .ok (.if_icmp .lt 5, 3) := by decide +kernel
theorem dX11_wide_10 : decode cX11_wide 10 = .ok (.iconst (-1), 1) := by decide +kernel
theorem dX11_wide_11 : decode cX11_wide 11 = .ok (.ireturn, 1) := by decide +kernel
theorem dX11_wide_12 : decode cX11_wide 12 = .ok (.aload_n 0, 1) := by decide +kernel
theorem dX11_wide_13 : decode cX11_wide 13 = .ok (.getfield 40, 3) := by decide +kernel
theorem dX11_wide_16 : decode cX11_wide 16 = .ok (.getfield 211, 3) := by decide +kernel
theorem dX11_wide_19 : decode cX11_wide 19 = .ok (.ifCond .ne 6, 3) := by decide +kernel
theorem dX11_wide_22 : decode cX11_wide 22 = .ok (.bipush (-4), 2) := by decide +kernel
theorem dX11_wide_24 : decode cX11_wide 24 = .ok (.ireturn, 1) := by decide +kernel
theorem dX11_wide_25 : decode cX11_wide 25 = .ok (.iload_n 1, 1) := by decide +kernel
theorem dX11_wide_26 : decode cX11_wide 26 = .ok (.aload_n 0, 1) := by decide +kernel
theorem dX11_wide_27 : decode cX11_wide 27 = .ok (.getfield 40, 3) := by decide +kernel
theorem dX11_wide_30 : decode cX11_wide 30 = .ok (.getfield 204, 3) := by decide +kernel
theorem dX11_wide_33 : decode cX11_wide 33 = .ok (.getfield 182, 3) := by decide +kernel
theorem dX11_wide_36 : decode cX11_wide 36 = .ok (.if_icmp .lt 5, 3) := by decide +kernel
theorem dX11_wide_39 : decode cX11_wide 39 = .ok (.iconst (-1), 1) := by decide +kernel
theorem dX11_wide_40 : decode cX11_wide 40 = .ok (.ireturn, 1) := by decide +kernel
theorem dX11_wide_41 : decode cX11_wide 41 = .ok (.aload_n 0, 1) := by decide +kernel
theorem dX11_wide_42 : decode cX11_wide 42 = .ok (.getfield 40, 3) := by decide +kernel
theorem dX11_wide_45 : decode cX11_wide 45 = .ok (.getfield 204, 3) := by decide +kernel
theorem dX11_wide_48 : decode cX11_wide 48 = .ok (.iload_n 1, 1) := by decide +kernel
theorem dX11_wide_49 : decode cX11_wide 49 = .ok (.invokevirtual 323, 3) := by decide +kernel
theorem dX11_wide_52 : decode cX11_wide 52 = .ok (.ifCond .ne 9, 3) := by decide +kernel
theorem dX11_wide_55 : decode cX11_wide 55 = .ok (.aload_n 0, 1) := by decide +kernel
theorem dX11_wide_56 : decode cX11_wide 56 = .ok (.iconst 3, 1) := by decide +kernel
theorem dX11_wide_57 : decode cX11_wide 57 = .ok (.invokevirtual 105, 3) := by decide +kernel
theorem dX11_wide_60 : decode cX11_wide 60 = .ok (.ireturn, 1) := by decide +kernel
theorem dX11_wide_61 : decode cX11_wide 61 = .ok (.bipush (-9), 2) := by decide +kernel
theorem dX11_wide_63 : decode cX11_wide 63 = .ok (.istore_n 2, 1) := by decide +kernel
theorem dX11_wide_64 : decode cX11_wide 64 = .ok (.bipush (-9), 2) := by decide +kernel
theorem dX11_wide_66 : decode cX11_wide 66 = .ok (.istore_n 3, 1) := by decide +kernel
theorem dX11_wide_67 : decode cX11_wide 67 = .ok (.aload_n 0, 1) := by decide +kernel
theorem dX11_wide_68 : decode cX11_wide 68 = .ok (.getfield 78, 3) := by decide +kernel
theorem dX11_wide_71 : decode cX11_wide 71 = .ok (.aload_n 0, 1) := by decide +kernel
theorem dX11_wide_72 : decode cX11_wide 72 = .ok (.getfield 40, 3) := by decide +kernel
theorem dX11_wide_75 : decode cX11_wide 75 = .ok (.getfield 204, 3) := by decide +kernel
theorem dX11_wide_78 : decode cX11_wide 78 = .ok (.invokevirtual 179, 3) := by decide +kernel
theorem dX11_wide_81 : decode cX11_wide 81 = .ok (.iconst 1, 1) := by decide +kernel
theorem dX11_wide_82 : decode cX11_wide 82 = .ok (.istore 4, 2) := by decide +kernel
theorem dX11_wide_84 : decode cX11_wide 84 = .ok (.iload 4, 2) := by decide +kernel
theorem dX11_wide_86 : decode cX11_wide 86 = .ok (.bipush 30, 2) := by decide +kernel
theorem dX11_wide_88 : decode cX11_wide 88 = .ok (.if_icmp .gt 79, 3) := by decide +kernel
theorem dX11_wide_91 : decode cX11_wide 91 = .ok (.aload_n 0, 1) := by decide +kernel
theorem dX11_wide_92 : decode cX11_wide 92 = .ok (.getfield 40, 3) := by decide +kernel
theorem dX11_wide_95 : decode cX11_wide 95 = .ok (.getfield 204, 3) := by decide +kernel
theorem dX11_wide_98 : decode cX11_wide 98 = .ok (.iload_n 1, 1) := by decide +kernel
theorem dX11_wide_99 : decode cX11_wide 99 = .ok (.iload 4, 2) := by decide +kernel
theorem dX11_wide_101 : decode cX11_wide 101 = .ok (.invokevirtual 326, 3) := by decide +kernel
theorem dX11_wide_104 : decode cX11_wide 104 = .ok (.ifCond .ne 6, 3) := by decide +kernel
theorem dX11_wide_107 : decode cX11_wide 107 = .ok (.goto 54, 3) := by decide +kernel
theorem dX11_wide_110 : decode cX11_wide 110 = .ok (.aload_n 0, 1) := by decide +kernel
theorem dX11_wide_111 : decode cX11_wide 111 = .ok (.getfield 78, 3) := by decide +kernel
theorem dX11_wide_114 : decode cX11_wide 114 = .ok (.getfield 329, 3) := by decide +kernel
theorem dX11_wide_117 : decode cX11_wide 117 = .ok (.iload_n 1, 1) := by decide +kernel
theorem dX11_wide_118 : decode cX11_wide 118 = .ok (.iload 4, 2) := by decide +kernel
theorem dX11_wide_120 : decode cX11_wide 120 = .ok (.iastore, 1) := by decide +kernel
theorem dX11_wide_121 : decode cX11_wide 121 = .ok (.aload_n 0, 1) := by decide +kernel
theorem dX11_wide_122 : decode cX11_wide 122 = .ok (.getfield 61, 3) := by decide +kernel
theorem dX11_wide_125 : decode cX11_wide 125 = .ok (.aload_n 0, 1) := by decide +kernel
theorem dX11_wide_126 : decode cX11_wide 126 = .ok (.getfield 40, 3) := by decide +kernel
theorem dX11_wide_129 : decode cX11_wide 129 = .ok (.getfield 240, 3) := by decide +kernel
theorem dX11_wide_132 : decode cX11_wide 132 = .ok (.aload_n 0, 1) := by decide +kernel
theorem dX11_wide_133 : decode cX11_wide 133 = .ok (.getfield 78, 3) := by decide +kernel
theorem dX11_wide_136 : decode cX11_wide 136 = .ok (.invokevirtual 303, 3) := by decide +kernel
theorem dX11_wide_139 : decode cX11_wide 139 = .ok (.getfield 273, 3) := by decide +kernel
theorem dX11_wide_142 : decode cX11_wide 142 = .ok (.ifCond .ne 19, 3) := by decide +kernel
theorem dX11_wide_145 : decode cX11_wide 145 = .ok (.iload_n 2, 1) := by decide +kernel
theorem dX11_wide_146 : decode cX11_wide 146 = .ok (.bipush (-9), 2) := by decide +kernel
theorem dX11_wide_148 : decode cX11_wide 148 = .ok (.if_icmp .ne 8, 3) := by decide +kernel
theorem dX11_wide_151 : decode cX11_wide 151 = .ok (.iload 4, 2) := by decide +kernel
theorem dX11_wide_153 : decode cX11_wide 153 = .ok (.goto 4, 3) := by decide +kernel
theorem dX11_wide_156 : decode cX11_wide 156 = .ok (.iload_n 2, 1) := by decide +kernel
theorem dX11_wide_157 : decode cX11_wide 157 = .ok (.istore_n 2, 1) := by decide +kernel
theorem dX11_wide_158 : decode cX11_wide 158 = .ok (.iload 4, 2) := by decide +kernel
theorem dX11_wide_160 : decode cX11_wide 160 = .ok (.istore_n 3, 1) := by decide +kernel
theorem dX11_wide_161 : decode cX11_wide 161 = .ok (.iinc 4 1, 3) := by decide +kernel
theorem dX11_wide_164 : decode cX11_wide 164 = .ok (.goto (-80), 3) := by decide +kernel
theorem dX11_wide_167 : decode cX11_wide 167 = .ok (.iload_n 2, 1) := by decide +kernel
theorem dX11_wide_168 : decode cX11_wide 168 = .ok (.bipush (-9), 2) := by decide +kernel
theorem dX11_wide_170 : decode cX11_wide 170 = .ok (.if_icmp .eq 8, 3) := by decide +kernel
theorem dX11_wide_173 : decode cX11_wide 173 = .ok (.aload_n 0, 1) := by decide +kernel
theorem dX11_wide_174 : decode cX11_wide 174 = .ok (.iload_n 3, 1) := by decide +kernel
theorem dX11_wide_175 : decode cX11_wide 175 = .ok (.putfield 194, 3) := by decide +kernel
theorem dX11_wide_178 : decode cX11_wide 178 = .ok (.iload_n 2, 1) := by decide +kernel
theorem dX11_wide_179 : decode cX11_wide 179 = .ok (.ireturn, 1) := by decide +kernel
theorem dX11_flours_0 : decode cX11_flours 0 = .ok (.iload_n 1, 1) := by decide +kernel
theorem dX11_flours_1 : decode cX11_flours 1 = .ok (.invokestatic 173, 3) := by decide +kernel
theorem dX11_flours_4 : decode cX11_flours 4 = .ok (.ifCond .ne 5, 3) := by decide +kernel
theorem dX11_flours_7 : decode cX11_flours 7 = .ok (.iconst (-1), 1) := by decide +kernel
theorem dX11_flours_8 : decode cX11_flours 8 = .ok (.ireturn, 1) := by decide +kernel
theorem dX11_flours_9 : decode cX11_flours 9 = .ok (.aload_n 0, 1) := by decide +kernel
theorem dX11_flours_10 : decode cX11_flours 10 = .ok (.getfield 29, 3) := by decide +kernel
theorem dX11_flours_13 : decode cX11_flours 13 = .ok (.iload_n 1, 1) := by decide +kernel
theorem dX11_flours_14 : decode cX11_flours 14 = .ok (.aaload, 1) := by decide +kernel
theorem dX11_flours_15 : decode cX11_flours 15 = .ok (.getfield 190, 3) := by decide +kernel
theorem dX11_flours_18 : decode cX11_flours 18 = .ok (.ifCond .eq 10, 3) := by decide +kernel
theorem dX11_flours_21 : decode cX11_flours 21 = .ok (.aload_n 0, 1) := by decide +kernel
theorem dX11_flours_22 : decode cX11_flours 22 = .ok (.invokevirtual 332, 3) := by decide +kernel
theorem dX11_flours_25 : decode cX11_flours 25 = .ok (.ifCond .ne 9, 3) := by decide +kernel
theorem dX11_flours_28 : decode cX11_flours 28 = .ok (.aload_n 0, 1) := by decide +kernel
theorem dX11_flours_29 : decode cX11_flours 29 = .ok (.iconst 1, 1) := by decide +kernel
theorem dX11_flours_30 : decode cX11_flours 30 = .ok (.invokevirtual 105, 3) := by decide +kernel
theorem dX11_flours_33 : decode cX11_flours 33 = .ok (.ireturn, 1) := by decide +kernel
theorem dX11_flours_34 : decode cX11_flours 34 = .ok (.iconst 0, 1) := by decide +kernel
theorem dX11_flours_35 : decode cX11_flours 35 = .ok (.istore_n 2, 1) := by decide +kernel
theorem dX11_flours_36 : decode cX11_flours 36 = .ok (.iconst 0, 1) := by decide +kernel
theorem dX11_flours_37 : decode cX11_flours 37 = .ok (.istore_n 3, 1) := by decide +kernel
theorem dX11_flours_38 : decode cX11_flours 38 = .ok (.iconst (-1), 1) := by decide +kernel
theorem dX11_flours_39 : decode cX11_flours 39 = .ok (.istore 4, 2) := by decide +kernel
theorem dX11_flours_41 : decode cX11_flours 41 = .ok (.iconst 0, 1) := by decide +kernel
theorem dX11_flours_42 : decode cX11_flours 42 = .ok (.istore 5, 2) := by decide +kernel
theorem dX11_flours_44 : decode cX11_flours 44 = .ok (.iload 5, 2) := by decide +kernel
theorem dX11_flours_46 : decode cX11_flours 46 = .ok (.iconst 4, 1) := by decide +kernel
theorem dX11_flours_47 : decode cX11_flours 47 = .ok (.if_icmp .ge 104, 3) := by decide +kernel
theorem dX11_flours_50 : decode cX11_flours 50 = .ok (.aload_n 0, 1) := by decide +kernel
theorem dX11_flours_51 : decode cX11_flours 51 = .ok (.getfield 23, 3) := by decide +kernel
theorem dX11_flours_54 : decode cX11_flours 54 = .ok (.iload 5, 2) := by decide +kernel
theorem dX11_flours_56 : decode cX11_flours 56 = .ok (.aaload, 1) := by decide +kernel
theorem dX11_flours_57 : decode cX11_flours 57 = .ok (.getfield 183, 3) := by decide +kernel
theorem dX11_flours_60 : decode cX11_flours 60 = .ok (.ifCond .ne 6, 3) := by decide +kernel
theorem dX11_flours_63 : decode cX11_flours 63 = .ok (.goto 82, 3) := by decide +kernel
theorem dX11_flours_66 : decode cX11_flours 66 = .ok (.aload_n 0, 1) := by decide +kernel
theorem dX11_flours_67 : decode cX11_flours 67 = .ok (.getfield 61, 3) := by decide +kernel
theorem dX11_flours_70 : decode cX11_flours 70 = .ok (.aload_n 0, 1) := by decide +kernel
theorem dX11_flours_71 : decode cX11_flours 71 = .ok (.getfield 23, 3) := by decide +kernel
theorem dX11_flours_74 : decode cX11_flours 74 = .ok (.iload 5, 2) := by decide +kernel
theorem dX11_flours_76 : decode cX11_flours 76 = .ok (.aaload, 1) := by decide +kernel
theorem dX11_flours_77 : decode cX11_flours 77 = .ok (.aload_n 0, 1) := by decide +kernel
theorem dX11_flours_78 : decode cX11_flours 78 = .ok (.getfield 29, 3) := by decide +kernel
theorem dX11_flours_81 : decode cX11_flours 81 = .ok (.iload_n 1, 1) := by decide +kernel
theorem dX11_flours_82 : decode cX11_flours 82 = .ok (.aaload, 1) := by decide +kernel
theorem dX11_flours_83 : decode cX11_flours 83 = .ok (.invokevirtual 303, 3) := by decide +kernel
theorem dX11_flours_86 : decode cX11_flours 86 = .ok (.astore 6, 2) := by decide +kernel
theorem dX11_flours_88 : decode cX11_flours 88 = .ok (.aload 6, 2) := by decide +kernel
theorem dX11_flours_90 : decode cX11_flours 90 = .ok (.invokevirtual 255, 3) := by decide +kernel
theorem dX11_flours_93 : decode cX11_flours 93 = .ok (.istore 7, 2) := by decide +kernel
theorem dX11_flours_95 : decode cX11_flours 95 = .ok (.iload_n 2, 1) := by decide +kernel
theorem dX11_flours_96 : decode cX11_flours 96 = .ok (.aload 6, 2) := by decide +kernel
theorem dX11_flours_98 : decode cX11_flours 98 = .ok (.getfield 273, 3) := by decide +kernel
theorem dX11_flours_101 : decode cX11_flours 101 = .ok (.ifCond .ne 10, 3) := by decide +kernel
theorem dX11_flours_104 : decode cX11_flours 104 = .ok (.iconst 1, 1) := by decide +kernel
theorem dX11_flours_105 : decode cX11_flours 105 = .ok (.iload 5, 2) := by decide +kernel
theorem dX11_flours_107 : decode cX11_flours 107 = .ok (.ishl, 1) := by decide +kernel
theorem dX11_flours_108 : decode cX11_flours 108 = .ok (.goto 4, 3) := by decide +kernel
theorem dX11_flours_111 : decode cX11_flours 111 = .ok (.iconst 0, 1) := by decide +kernel
theorem dX11_flours_112 : decode cX11_flours 112 = .ok (.ior, 1) := by decide +kernel
theorem dX11_flours_113 : decode cX11_flours 113 = .ok (.istore_n 2, 1) := by decide +kernel
theorem dX11_flours_114 : decode cX11_flours 114 = .ok (.iload 7, 2) := by decide +kernel
theorem dX11_flours_116 : decode cX11_flours 116 = .ok (.iload 4, 2) := by decide +kernel
theorem dX11_flours_118 : decode cX11_flours 118 = .ok (.if_icmp .le 9, 3) := by decide +kernel
theorem dX11_flours_121 : decode cX11_flours 121 = .ok (.iload 7, 2) := by decide +kernel
theorem dX11_flours_123 : decode cX11_flours 123 = .ok (.istore 4, 2) := by decide +kernel
theorem dX11_flours_125 : decode cX11_flours 125 = .ok (.iconst 0, 1) := by decide +kernel
theorem dX11_flours_126 : decode cX11_flours 126 = .ok (.istore_n 3, 1) := by decide +kernel
theorem dX11_flours_127 : decode cX11_flours 127 = .ok (.iload_n 3, 1) := by decide +kernel
theorem dX11_flours_128 : decode cX11_flours 128 = .ok (.iload 7, 2) := by decide +kernel
theorem dX11_flours_130 : decode cX11_flours 130 = .ok (.iload 4, 2) := by decide +kernel
theorem dX11_flours_132 : decode cX11_flours 132 = .ok (.if_icmp .ne 10, 3) := by decide +kernel
theorem dX11_flours_135 : decode cX11_flours 135 = .ok (.iconst 1, 1) := by decide +kernel
theorem dX11_flours_136 : decode cX11_flours 136 = .ok (.iload 5, 2) := by decide +kernel
theorem dX11_flours_138 : decode cX11_flours 138 = .ok (.ishl, 1) := by decide +kernel
theorem dX11_flours_139 : decode cX11_flours 139 = .ok (.goto 4, 3) := by decide +kernel
theorem dX11_flours_142 : decode cX11_flours 142 = .ok (.iconst 0, 1) := by decide +kernel
theorem dX11_flours_143 : decode cX11_flours 143 = .ok (.ior, 1) := by decide +kernel
theorem dX11_flours_144 : decode cX11_flours 144 = .ok (.istore_n 3, 1) := by decide +kernel
theorem dX11_flours_145 : decode cX11_flours 145 = .ok (.iinc 5 1, 3) := by decide +kernel
theorem dX11_flours_148 : decode cX11_flours 148 = .ok (.goto (-104), 3) := by decide +kernel
theorem dX11_flours_151 : decode cX11_flours 151 = .ok (.aload_n 0, 1) := by decide +kernel
theorem dX11_flours_152 : decode cX11_flours 152 = .ok (.iload_n 3, 1) := by decide +kernel
theorem dX11_flours_153 : decode cX11_flours 153 = .ok (.putfield 194, 3) := by decide +kernel
theorem dX11_flours_156 : decode cX11_flours 156 = .ok (.iload_n 2, 1) := by decide +kernel
theorem dX11_flours_157 : decode cX11_flours 157 = .ok (.ireturn, 1) := by decide +kernel
theorem dX11_begin_0 : decode cX11_begin 0 = .ok (.iload_n 1, 1) := by decide +kernel
theorem dX11_begin_1 : decode cX11_begin 1 = .ok (.invokestatic 276, 3) := by decide +kernel
theorem dX11_begin_4 : decode cX11_begin 4 = .ok (.ifCond .ne 5, 3) := by decide +kernel
theorem dX11_begin_7 : decode cX11_begin 7 = .ok (.iconst (-1), 1) := by decide +kernel
theorem dX11_begin_8 : decode cX11_begin 8 = .ok (.ireturn, 1) := by decide +kernel
theorem dX11_begin_9 : decode cX11_begin 9 = .ok (.aload_n 0, 1) := by decide +kernel
theorem dX11_begin_10 : decode cX11_begin 10 = .ok (.getfield 40, 3) := by decide +kernel
theorem dX11_begin_13 : decode cX11_begin 13 = .ok (.getfield 211, 3) := by decide +kernel
theorem dX11_begin_16 : decode cX11_begin 16 = .ok (.ifCond .ne 6, 3) := by decide +kernel
theorem dX11_begin_19 : decode cX11_begin 19 = .ok (.bipush (-4), 2) := by decide +kernel
theorem dX11_begin_21 : decode cX11_begin 21 = .ok (.ireturn, 1) := by decide +kernel
theorem dX11_begin_22 : decode cX11_begin 22 = .ok (.aload_n 0, 1) := by decide +kernel
theorem dX11_begin_23 : decode cX11_begin 23 = .ok (.getfield 40, 3) := by decide +kernel
theorem dX11_begin_26 : decode cX11_begin 26 = .ok (.getfield 204, 3) := by decide +kernel
theorem dX11_begin_29 : decode cX11_begin 29 = .ok (.invokevirtual 335, 3) := by decide +kernel
theorem dX11_begin_32 : decode cX11_begin 32 = .ok (.istore_n 2, 1) := by decide +kernel
theorem dX11_begin_33 : decode cX11_begin 33 = .ok (.iload_n 2, 1) := by decide +kernel
theorem dX11_begin_34 : decode cX11_begin 34 = .ok (.bipush (-9), 2) := by decide +kernel
theorem dX11_begin_36 : decode cX11_begin 36 = .ok (.if_icmp .ne 9, 3) := by decide +kernel
theorem dX11_begin_39 : decode cX11_begin 39 = .ok (.aload_n 0, 1) := by decide +kernel
theorem dX11_begin_40 : decode cX11_begin 40 = .ok (.iconst 3, 1) := by decide +kernel
theorem dX11_begin_41 : decode cX11_begin 41 = .ok (.invokevirtual 105, 3) := by decide +kernel
theorem dX11_begin_44 : decode cX11_begin 44 = .ok (.ireturn, 1) := by decide +kernel
theorem dX11_begin_45 : decode cX11_begin 45 = .ok (.bipush (-9), 2) := by decide +kernel
theorem dX11_begin_47 : decode cX11_begin 47 = .ok (.istore_n 3, 1) := by decide +kernel
theorem dX11_begin_48 : decode cX11_begin 48 = .ok (.iconst (-1), 1) := by decide +kernel
theorem dX11_begin_49 : decode cX11_begin 49 = .ok (.istore 4, 2) := by decide +kernel
theorem dX11_begin_51 : decode cX11_begin 51 = .ok (.aload_n 0, 1) := by decide +kernel
theorem dX11_begin_52 : decode cX11_begin 52 = .ok (.getfield 78, 3) := by decide +kernel
theorem dX11_begin_55 : decode cX11_begin 55 = .ok (.aload_n 0, 1) := by decide +kernel
theorem dX11_begin_56 : decode cX11_begin 56 = .ok (.getfield 40, 3) := by decide +kernel
theorem dX11_begin_59 : decode cX11_begin 59 = .ok (.getfield 204, 3) := by decide +kernel
theorem dX11_begin_62 : decode cX11_begin 62 = .ok (.invokevirtual 179, 3) := by decide +kernel
theorem dX11_begin_65 : decode cX11_begin 65 = .ok (.aload_n 0, 1) := by decide +kernel
theorem dX11_begin_66 : decode cX11_begin 66 = .ok (.getfield 78, 3) := by decide +kernel
theorem dX11_begin_69 : decode cX11_begin 69 = .ok (.iload_n 1, 1) := by decide +kernel
theorem dX11_begin_70 : decode cX11_begin 70 = .ok (.invokevirtual 338, 3) := by decide +kernel
theorem dX11_begin_73 : decode cX11_begin 73 = .ok (.iconst 1, 1) := by decide +kernel
theorem dX11_begin_74 : decode cX11_begin 74 = .ok (.istore 5, 2) := by decide +kernel
theorem dX11_begin_76 : decode cX11_begin 76 = .ok (.iload 5, 2) := by decide +kernel
theorem dX11_begin_78 : decode cX11_begin 78 = .ok (.bipush 30, 2) := by decide +kernel
theorem dX11_begin_80 : decode cX11_begin 80 = .ok (.if_icmp .gt 76, 3) := by decide +kernel
theorem dX11_begin_83 : decode cX11_begin 83 = .ok (.aload_n 0, 1) := by decide +kernel
theorem dX11_begin_84 : decode cX11_begin 84 = .ok (.getfield 40, 3) := by decide +kernel
theorem dX11_begin_87 : decode cX11_begin 87 = .ok (.getfield 204, 3) := by decide +kernel
theorem dX11_begin_90 : decode cX11_begin 90 = .ok (.iload_n 2, 1) := by decide +kernel
theorem dX11_begin_91 : decode cX11_begin 91 = .ok (.iload 5, 2) := by decide +kernel
theorem dX11_begin_93 : decode cX11_begin 93 = .ok (.invokevirtual 326, 3) := by decide +kernel
theorem dX11_begin_96 : decode cX11_begin 96 = .ok (.ifCond .ne 6, 3) := by decide +kernel
theorem dX11_begin_99 : decode cX11_begin 99 = .ok (.goto 51, 3) := by decide +kernel
theorem dX11_begin_102 : decode cX11_begin 102 = .ok (.aload_n 0, 1) := by decide +kernel
theorem dX11_begin_103 : decode cX11_begin 103 = .ok (.getfield 78, 3) := by decide +kernel
theorem dX11_begin_106 : decode cX11_begin 106 = .ok (.getfield 329, 3) := by decide +kernel
theorem dX11_begin_109 : decode cX11_begin 109 = .ok (.iload_n 2, 1) := by decide +kernel
theorem dX11_begin_110 : decode cX11_begin 110 = .ok (.iload 5, 2) := by decide +kernel
theorem dX11_begin_112 : decode cX11_begin 112 = .ok (.iastore, 1) := by decide +kernel
theorem dX11_begin_113 : decode cX11_begin 113 = .ok (.aload_n 0, 1) := by decide +kernel
theorem dX11_begin_114 : decode cX11_begin 114 = .ok (.getfield 61, 3) := by decide +kernel
theorem dX11_begin_117 : decode cX11_begin 117 = .ok (.aload_n 0, 1) := by decide +kernel
theorem dX11_begin_118 : decode cX11_begin 118 = .ok (.getfield 40, 3) := by decide +kernel
theorem dX11_begin_121 : decode cX11_begin 121 = .ok (.getfield 240, 3) := by decide +kernel
theorem dX11_begin_124 : decode cX11_begin 124 = .ok (.aload_n 0, 1) := by decide +kernel
theorem dX11_begin_125 : decode cX11_begin 125 = .ok (.getfield 78, 3) := by decide +kernel
theorem dX11_begin_128 : decode cX11_begin 128 = .ok (.invokevirtual 303, 3) := by decide +kernel
theorem dX11_begin_131 : decode cX11_begin 131 = .ok (.invokevirtual 255, 3) := by decide +kernel
theorem dX11_begin_134 : decode cX11_begin 134 = .ok (.istore 6, 2) := by decide +kernel
theorem dX11_begin_136 : decode cX11_begin 136 = .ok (.iload 6, 2) := by decide +kernel
theorem dX11_begin_138 : decode cX11_begin 138 = .ok (.iload 4, 2) := by decide +kernel
theorem dX11_begin_140 : decode cX11_begin 140 = .ok (.if_icmp .le 10, 3) := by decide +kernel
theorem dX11_begin_143 : decode cX11_begin 143 = .ok (.iload 6, 2) := by decide +kernel
theorem dX11_begin_145 : decode cX11_begin 145 = .ok (.istore 4, 2) := by decide +kernel
theorem dX11_begin_147 : decode cX11_begin 147 = .ok (.iload 5, 2) := by decide +kernel
theorem dX11_begin_149 : decode cX11_begin 149 = .ok (.istore_n 3, 1) := by decide +kernel
theorem dX11_begin_150 : decode cX11_begin 150 = .ok (.iinc 5 1, 3) := by decide +kernel
theorem dX11_begin_153 : decode cX11_begin 153 = .ok (.goto (-77), 3) := by decide +kernel
theorem dX11_begin_156 : decode cX11_begin 156 = .ok (.aload_n 0, 1) := by decide +kernel
theorem dX11_begin_157 : decode cX11_begin 157 = .ok (.aload_n 0, 1) := by decide +kernel
theorem dX11_begin_158 : decode cX11_begin 158 = .ok (.getfield 40, 3) := by decide +kernel
theorem dX11_begin_161 : decode cX11_begin 161 = .ok (.getfield 204, 3) := by decide +kernel
theorem dX11_begin_164 : decode cX11_begin 164 = .ok (.invokevirtual 207, 3) := by decide +kernel
theorem dX11_begin_167 : decode cX11_begin 167 = .ok (.aload_n 0, 1) := by decide +kernel
theorem dX11_begin_168 : decode cX11_begin 168 = .ok (.getfield 40, 3) := by decide +kernel
theorem dX11_begin_171 : decode cX11_begin 171 = .ok (.getfield 204, 3) := by decide +kernel
theorem dX11_begin_174 : decode cX11_begin 174 = .ok (.getfield 329, 3) := by decide +kernel
theorem dX11_begin_177 : decode cX11_begin 177 = .ok (.iload_n 2, 1) := by decide +kernel
theorem dX11_begin_178 : decode cX11_begin 178 = .ok (.iaload, 1) := by decide +kernel
theorem dX11_begin_179 : decode cX11_begin 179 = .ok (.isub, 1) := by decide +kernel
theorem dX11_begin_180 : decode cX11_begin 180 = .ok (.iload_n 3, 1) := by decide +kernel
theorem dX11_begin_181 : decode cX11_begin 181 = .ok (.iadd, 1) := by decide +kernel
theorem dX11_begin_182 : decode cX11_begin 182 = .ok (.putfield 194, 3) := by decide +kernel
theorem dX11_begin_185 : decode cX11_begin 185 = .ok (.iload_n 3, 1) := by decide +kernel
theorem dX11_begin_186 : decode cX11_begin 186 = .ok (.ireturn, 1) := by decide +kernel
theorem dX11_oven_0 : decode cX11_oven 0 = .ok (.iload_n 1, 1) := by decide +kernel
theorem dX11_oven_1 : decode cX11_oven 1 = .ok (.bipush (-2), 2) := by decide +kernel
theorem dX11_oven_3 : decode cX11_oven 3 = .ok (.if_icmp .lt 8, 3) := by decide +kernel
theorem dX11_oven_6 : decode cX11_oven 6 = .ok (.iload_n 1, 1) := by decide +kernel
theorem dX11_oven_7 : decode cX11_oven 7 = .ok (.iconst 2, 1) := by decide +kernel
theorem dX11_oven_8 : decode cX11_oven 8 = .ok (.if_icmp .le 5, 3) := by decide +kernel
theorem dX11_oven_11 : decode cX11_oven 11 = .ok (.iconst (-1), 1) := by decide +kernel
theorem dX11_oven_12 : decode cX11_oven 12 = .ok (.ireturn, 1) := by decide +kernel
theorem dX11_oven_13 : decode cX11_oven 13 = .ok (.aload_n 0, 1) := by decide +kernel
theorem dX11_oven_14 : decode cX11_oven 14 = .ok (.getfield 40, 3) := by decide +kernel
theorem dX11_oven_17 : decode cX11_oven 17 = .ok (.getfield 211, 3) := by decide +kernel
theorem dX11_oven_20 : decode cX11_oven 20 = .ok (.ifCond .ne 6, 3) := by decide +kernel
theorem dX11_oven_23 : decode cX11_oven 23 = .ok (.bipush (-4), 2) := by decide +kernel
theorem dX11_oven_25 : decode cX11_oven 25 = .ok (.ireturn, 1) := by decide +kernel
theorem dX11_oven_26 : decode cX11_oven 26 = .ok (.aload_n 0, 1) := by decide +kernel
theorem dX11_oven_27 : decode cX11_oven 27 = .ok (.getfield 40, 3) := by decide +kernel
theorem dX11_oven_30 : decode cX11_oven 30 = .ok (.getfield 204, 3) := by decide +kernel
theorem dX11_oven_33 : decode cX11_oven 33 = .ok (.invokevirtual 341, 3) := by decide +kernel
theorem dX11_oven_36 : decode cX11_oven 36 = .ok (.istore_n 2, 1) := by decide +kernel
theorem dX11_oven_37 : decode cX11_oven 37 = .ok (.iload_n 2, 1) := by decide +kernel
theorem dX11_oven_38 : decode cX11_oven 38 = .ok (.bipush (-9), 2) := by decide +kernel
theorem dX11_oven_40 : decode cX11_oven 40 = .ok (.if_icmp .ne 9, 3) := by decide +kernel
theorem dX11_oven_43 : decode cX11_oven 43 = .ok (.aload_n 0, 1) := by decide +kernel
theorem dX11_oven_44 : decode cX11_oven 44 = .ok (.iconst 3, 1) := by decide +kernel
theorem dX11_oven_45 : decode cX11_oven 45 = .ok (.invokevirtual 105, 3) := by decide +kernel
theorem dX11_oven_48 : decode cX11_oven 48 = .ok (.ireturn, 1) := by decide +kernel
theorem dX11_oven_49 : decode cX11_oven 49 = .ok (.aload_n 0, 1) := by decide +kernel
theorem dX11_oven_50 : decode cX11_oven 50 = .ok (.getfield 61, 3) := by decide +kernel
theorem dX11_oven_53 : decode cX11_oven 53 = .ok (.aload_n 0, 1) := by decide +kernel
theorem dX11_oven_54 : decode cX11_oven 54 = .ok (.getfield 40, 3) := by decide +kernel
theorem dX11_oven_57 : decode cX11_oven 57 = .ok (.getfield 240, 3) := by decide +kernel
theorem dX11_oven_60 : decode cX11_oven 60 = .ok (.aload_n 0, 1) := by decide +kernel
theorem dX11_oven_61 : decode cX11_oven 61 = .ok (.getfield 40, 3) := by decide +kernel
theorem dX11_oven_64 : decode cX11_oven 64 = .ok (.getfield 204, 3) := by decide +kernel
theorem dX11_oven_67 : decode cX11_oven 67 = .ok (.invokevirtual 303, 3) := by decide +kernel
theorem dX11_oven_70 : decode cX11_oven 70 = .ok (.invokevirtual 255, 3) := by decide +kernel
theorem dX11_oven_73 : decode cX11_oven 73 = .ok (.istore_n 3, 1) := by decide +kernel
theorem dX11_oven_74 : decode cX11_oven 74 = .ok (.bipush (-9), 2) := by decide +kernel
theorem dX11_oven_76 : decode cX11_oven 76 = .ok (.istore 4, 2) := by decide +kernel
theorem dX11_oven_78 : decode cX11_oven 78 = .ok (.iconst 0, 1) := by decide +kernel
theorem dX11_oven_79 : decode cX11_oven 79 = .ok (.istore 5, 2) := by decide +kernel
theorem dX11_oven_81 : decode cX11_oven 81 = .ok (.aload_n 0, 1) := by decide +kernel
theorem dX11_oven_82 : decode cX11_oven 82 = .ok (.getfield 78, 3) := by decide +kernel
theorem dX11_oven_85 : decode cX11_oven 85 = .ok (.aload_n 0, 1) := by decide +kernel
theorem dX11_oven_86 : decode cX11_oven 86 = .ok (.getfield 40, 3) := by decide +kernel
theorem dX11_oven_89 : decode cX11_oven 89 = .ok (.getfield 204, 3) := by decide +kernel
theorem dX11_oven_92 : decode cX11_oven 92 = .ok (.invokevirtual 179, 3) := by decide +kernel
theorem dX11_oven_95 : decode cX11_oven 95 = .ok (.aload_n 0, 1) := by decide +kernel
theorem dX11_oven_96 : decode cX11_oven 96 = .ok (.getfield 78, 3) := by decide +kernel
theorem dX11_oven_99 : decode cX11_oven 99 = .ok (.iload_n 1, 1) := by decide +kernel
theorem dX11_oven_100 : decode cX11_oven 100 = .ok (.invokevirtual 314, 3) := by decide +kernel
theorem dX11_oven_103 : decode cX11_oven 103 = .ok (.iconst 1, 1) := by decide +kernel
theorem dX11_oven_104 : decode cX11_oven 104 = .ok (.istore 6, 2) := by decide +kernel
theorem dX11_oven_106 : decode cX11_oven 106 = .ok (.iload 6, 2) := by decide +kernel
theorem dX11_oven_108 : decode cX11_oven 108 = .ok (.bipush 30, 2) := by decide +kernel
theorem dX11_oven_110 : decode cX11_oven 110 = .ok (.if_icmp .gt 89, 3) := by decide +kernel
theorem dX11_oven_113 : decode cX11_oven 113 = .ok (.aload_n 0, 1) := by decide +kernel
theorem dX11_oven_114 : decode cX11_oven 114 = .ok (.getfield 40, 3) := by decide +kernel
theorem dX11_oven_117 : decode cX11_oven 117 = .ok (.getfield 204, 3) := by decide +kernel
theorem dX11_oven_120 : decode cX11_oven 120 = .ok (.iload_n 2, 1) := by decide +kernel
theorem dX11_oven_121 : decode cX11_oven 121 = .ok (.iload 6, 2) := by decide +kernel
theorem dX11_oven_123 : decode cX11_oven 123 = .ok (.invokevirtual 326, 3) := by decide +kernel
theorem dX11_oven_126 : decode cX11_oven 126 = .ok (.ifCond .ne 6, 3) := by decide +kernel
theorem dX11_oven_129 : decode cX11_oven 129 = .ok (.goto 64, 3) := by decide +kernel
theorem dX11_oven_132 : decode cX11_oven 132 = .ok (.aload_n 0, 1) := by decide +kernel
theorem dX11_oven_133 : decode cX11_oven 133 = .ok (.getfield 78, 3) := by decide +kernel
theorem dX11_oven_136 : decode cX11_oven 136 = .ok (.getfield 329, 3) := by decide +kernel
theorem dX11_oven_139 : decode cX11_oven 139 = .ok (.iload_n 2, 1) := by decide +kernel
theorem dX11_oven_140 : decode cX11_oven 140 = .ok (.iload 6, 2) := by decide +kernel
theorem dX11_oven_142 : decode cX11_oven 142 = .ok (.iastore, 1) := by decide +kernel
theorem dX11_oven_143 : decode cX11_oven 143 = .ok (.aload_n 0, 1) := by decide +kernel
theorem dX11_oven_144 : decode cX11_oven 144 = .ok (.getfield 61, 3) := by decide +kernel
theorem dX11_oven_147 : decode cX11_oven 147 = .ok (.aload_n 0, 1) := by decide +kernel
theorem dX11_oven_148 : decode cX11_oven 148 = .ok (.getfield 40, 3) := by decide +kernel
theorem dX11_oven_151 : decode cX11_oven 151 = .ok (.getfield 240, 3) := by decide +kernel
theorem dX11_oven_154 : decode cX11_oven 154 = .ok (.aload_n 0, 1) := by decide +kernel
theorem dX11_oven_155 : decode cX11_oven 155 = .ok (.getfield 78, 3) := by decide +kernel
theorem dX11_oven_158 : decode cX11_oven 158 = .ok (.invokevirtual 303, 3) := by decide +kernel
theorem dX11_oven_161 : decode cX11_oven 161 = .ok (.invokevirtual 255, 3) := by decide +kernel
theorem dX11_oven_164 : decode cX11_oven 164 = .ok (.iload_n 3, 1) := by decide +kernel
theorem dX11_oven_165 : decode cX11_oven 165 = .ok (.isub, 1) := by decide +kernel
theorem dX11_oven_166 : decode cX11_oven 166 = .ok (.invokestatic 344, 3) := by decide +kernel
theorem dX11_oven_169 : decode cX11_oven 169 = .ok (.istore 7, 2) := by decide +kernel
theorem dX11_oven_171 : decode cX11_oven 171 = .ok (.iload 4, 2) := by decide +kernel
theorem dX11_oven_173 : decode cX11_oven 173 = .ok (.bipush (-9), 2) := by decide +kernel
theorem dX11_oven_175 : decode cX11_oven 175 = .ok (.if_icmp .eq 10, 3) := by decide +kernel
theorem dX11_oven_178 : decode cX11_oven 178 = .ok (.iload 7, 2) := by decide +kernel
theorem dX11_oven_180 : decode cX11_oven 180 = .ok (.iload 5, 2) := by decide +kernel
theorem dX11_oven_182 : decode cX11_oven 182 = .ok (.if_icmp .ge 11, 3) := by decide +kernel
theorem dX11_oven_185 : decode cX11_oven 185 = .ok (.iload 7, 2) := by decide +kernel
theorem dX11_oven_187 : decode cX11_oven 187 = .ok (.istore 5, 2) := by decide +kernel
theorem dX11_oven_189 : decode cX11_oven 189 = .ok (.iload 6, 2) := by decide +kernel
theorem dX11_oven_191 : decode cX11_oven 191 = .ok (.istore 4, 2) := by decide +kernel
theorem dX11_oven_193 : decode cX11_oven 193 = .ok (.iinc 6 1, 3) := by decide +kernel
theorem dX11_oven_196 : decode cX11_oven 196 = .ok (.goto (-90), 3) := by decide +kernel
theorem dX11_oven_199 : decode cX11_oven 199 = .ok (.aload_n 0, 1) := by decide +kernel
theorem dX11_oven_200 : decode cX11_oven 200 = .ok (.iload 5, 2) := by decide +kernel
theorem dX11_oven_202 : decode cX11_oven 202 = .ok (.putfield 194, 3) := by decide +kernel
theorem dX11_oven_205 : decode cX11_oven 205 = .ok (.iload 4, 2) := by decide +kernel
theorem dX11_oven_207 : decode cX11_oven 207 = .ok (.ireturn, 1) := by decide +kernel
theorem dX11_even_0 : decode cX11_even 0 = .ok (.aload_n 0, 1) := by decide +kernel
theorem dX11_even_1 : decode cX11_even 1 = .ok (.getfield 40, 3) := by decide +kernel
theorem dX11_even_4 : decode cX11_even 4 = .ok (.getfield 211, 3) := by decide +kernel
theorem dX11_even_7 : decode cX11_even 7 = .ok (.ifCond .ne 6, 3) := by decide +kernel
theorem dX11_even_10 : decode cX11_even 10 = .ok (.bipush (-4), 2) := by decide +kernel
theorem dX11_even_12 : decode cX11_even 12 = .ok (.ireturn, 1) := by decide +kernel
theorem dX11_even_13 : decode cX11_even 13 = .ok (.aload_n 0, 1) := by decide +kernel
theorem dX11_even_14 : decode cX11_even 14 = .ok (.getfield 40, 3) := by decide +kernel
theorem dX11_even_17 : decode cX11_even 17 = .ok (.getfield 204, 3) := by decide +kernel
theorem dX11_even_20 : decode cX11_even 20 = .ok (.invokevirtual 335, 3) := by decide +kernel
theorem dX11_even_23 : decode cX11_even 23 = .ok (.istore_n 1, 1) := by decide +kernel
theorem dX11_even_24 : decode cX11_even 24 = .ok (.iload_n 1, 1) := by decide +kernel
theorem dX11_even_25 : decode cX11_even 25 = .ok (.bipush (-9), 2) := by decide +kernel
theorem dX11_even_27 : decode cX11_even 27 = .ok (.if_icmp .ne 9, 3) := by decide +kernel
theorem dX11_even_30 : decode cX11_even 30 = .ok (.aload_n 0, 1) := by decide +kernel
theorem dX11_even_31 : decode cX11_even 31 = .ok (.iconst 3, 1) := by decide +kernel
theorem dX11_even_32 : decode cX11_even 32 = .ok (.invokevirtual 105, 3) := by decide +kernel
theorem dX11_even_35 : decode cX11_even 35 = .ok (.ireturn, 1) := by decide +kernel
theorem dX11_even_36 : decode cX11_even 36 = .ok (.bipush (-9), 2) := by decide +kernel
theorem dX11_even_38 : decode cX11_even 38 = .ok (.istore_n 2, 1) := by decide +kernel
theorem dX11_even_39 : decode cX11_even 39 = .ok (.bipush 25, 2) := by decide +kernel
theorem dX11_even_41 : decode cX11_even 41 = .ok (.istore_n 3, 1) := by decide +kernel
theorem dX11_even_42 : decode cX11_even 42 = .ok (.aload_n 0, 1) := by decide +kernel
theorem dX11_even_43 : decode cX11_even 43 = .ok (.getfield 78, 3) := by decide +kernel
theorem dX11_even_46 : decode cX11_even 46 = .ok (.aload_n 0, 1) := by decide +kernel
theorem dX11_even_47 : decode cX11_even 47 = .ok (.getfield 40, 3) := by decide +kernel
theorem dX11_even_50 : decode cX11_even 50 = .ok (.getfield 204, 3) := by decide +kernel
theorem dX11_even_53 : decode cX11_even 53 = .ok (.invokevirtual 179, 3) := by decide +kernel
theorem dX11_even_56 : decode cX11_even 56 = .ok (.iconst 0, 1) := by decide +kernel
theorem dX11_even_57 : decode cX11_even 57 = .ok (.istore 4, 2) := by decide +kernel
theorem dX11_even_59 : decode cX11_even 59 = .ok (.iload 4, 2) := by decide +kernel
theorem dX11_even_61 : decode cX11_even 61 = .ok (.bipush 9, 2) := by decide +kernel
theorem dX11_even_63 : decode cX11_even 63 = .ok (.if_icmp .gt 107, 3) := by decide +kernel
theorem dX11_even_66 : decode cX11_even 66 = .ok (.aload_n 0, 1) := by decide +kernel
theorem dX11_even_67 : decode cX11_even 67 = .ok (.getfield 78, 3) := by decide +kernel
theorem dX11_even_70 : decode cX11_even 70 = .ok (.getfield 349, 3) := by decide +kernel
theorem dX11_even_73 : decode cX11_even 73 = .ok (.iload_n 1, 1) := by decide +kernel
theorem dX11_even_74 : decode cX11_even 74 = .ok (.iload 4, 2) := by decide +kernel
theorem dX11_even_76 : decode cX11_even 76 = .ok (.iastore, 1) := by decide +kernel
theorem dX11_even_77 : decode cX11_even 77 = .ok (.iconst 5, 1) := by decide +kernel
theorem dX11_even_78 : decode cX11_even 78 = .ok (.istore 5, 2) := by decide +kernel
theorem dX11_even_80 : decode cX11_even 80 = .ok (.iload 5, 2) := by decide +kernel
theorem dX11_even_82 : decode cX11_even 82 = .ok (.bipush 30, 2) := by decide +kernel
theorem dX11_even_84 : decode cX11_even 84 = .ok (.if_icmp .gt 80, 3) := by decide +kernel
theorem dX11_even_87 : decode cX11_even 87 = .ok (.aload_n 0, 1) := by decide +kernel
theorem dX11_even_88 : decode cX11_even 88 = .ok (.getfield 40, 3) := by decide +kernel
theorem dX11_even_91 : decode cX11_even 91 = .ok (.getfield 204, 3) := by decide +kernel
theorem dX11_even_94 : decode cX11_even 94 = .ok (.iload_n 1, 1) := by decide +kernel
theorem dX11_even_95 : decode cX11_even 95 = .ok (.iload 5, 2) := by decide +kernel
theorem dX11_even_97 : decode cX11_even 97 = .ok (.invokevirtual 326, 3) := by decide +kernel
theorem dX11_even_100 : decode cX11_even 100 = .ok (.ifCond .ne 6, 3) := by decide +kernel
theorem dX11_even_103 : decode cX11_even 103 = .ok (.goto 55, 3) := by decide +kernel
theorem dX11_even_106 : decode cX11_even 106 = .ok (.aload_n 0, 1) := by decide +kernel
theorem dX11_even_107 : decode cX11_even 107 = .ok (.getfield 78, 3) := by decide +kernel
theorem dX11_even_110 : decode cX11_even 110 = .ok (.getfield 329, 3) := by decide +kernel
theorem dX11_even_113 : decode cX11_even 113 = .ok (.iload_n 1, 1) := by decide +kernel
theorem dX11_even_114 : decode cX11_even 114 = .ok (.iload 5, 2) := by decide +kernel
theorem dX11_even_116 : decode cX11_even 116 = .ok (.iastore, 1) := by decide +kernel
theorem dX11_even_117 : decode cX11_even 117 = .ok (.aload_n 0, 1) := by decide +kernel
theorem dX11_even_118 : decode cX11_even 118 = .ok (.getfield 61, 3) := by decide +kernel
theorem dX11_even_121 : decode cX11_even 121 = .ok (.aload_n 0, 1) := by decide +kernel
theorem dX11_even_122 : decode cX11_even 122 = .ok (.getfield 40, 3) := by decide +kernel
theorem dX11_even_125 : decode cX11_even 125 = .ok (.getfield 240, 3) := by decide +kernel
theorem dX11_even_128 : decode cX11_even 128 = .ok (.aload_n 0, 1) := by decide +kernel
theorem dX11_even_129 : decode cX11_even 129 = .ok (.getfield 78, 3) := by decide +kernel
theorem dX11_even_132 : decode cX11_even 132 = .ok (.invokevirtual 303, 3) := by decide +kernel
theorem dX11_even_135 : decode cX11_even 135 = .ok (.invokevirtual 352, 3) := by decide +kernel
theorem dX11_even_138 : decode cX11_even 138 = .ok (.istore 6, 2) := by decide +kernel
theorem dX11_even_140 : decode cX11_even 140 = .ok (.iload 6, 2) := by decide +kernel
theorem dX11_even_142 : decode cX11_even 142 = .ok (.iload_n 3, 1) := by decide +kernel
theorem dX11_even_143 : decode cX11_even 143 = .ok (.if_icmp .ge 15, 3) := by decide +kernel
theorem dX11_even_146 : decode cX11_even 146 = .ok (.iload 6, 2) := by decide +kernel
theorem dX11_even_148 : decode cX11_even 148 = .ok (.istore_n 3, 1) := by decide +kernel
theorem dX11_even_149 : decode cX11_even 149 = .ok (.bipush 100, 2) := by decide +kernel
theorem dX11_even_151 : decode cX11_even 151 = .ok (.iload 4, 2) := by decide +kernel
theorem dX11_even_153 : decode cX11_even 153 = .ok (.imul, 1) := by decide +kernel
theorem dX11_even_154 : decode cX11_even 154 = .ok (.iload 5, 2) := by decide +kernel
theorem dX11_even_156 : decode cX11_even 156 = .ok (.iadd, 1) := by decide +kernel
theorem dX11_even_157 : decode cX11_even 157 = .ok (.istore_n 2, 1) := by decide +kernel
theorem dX11_even_158 : decode cX11_even 158 = .ok (.iinc 5 5, 3) := by decide +kernel
theorem dX11_even_161 : decode cX11_even 161 = .ok (.goto (-81), 3) := by decide +kernel
theorem dX11_even_164 : decode cX11_even 164 = .ok (.iinc 4 1, 3) := by decide +kernel
theorem dX11_even_167 : decode cX11_even 167 = .ok (.goto (-108), 3) := by decide +kernel
theorem dX11_even_170 : decode cX11_even 170 = .ok (.iload_n 2, 1) := by decide +kernel
theorem dX11_even_171 : decode cX11_even 171 = .ok (.bipush (-9), 2) := by decide +kernel
theorem dX11_even_173 : decode cX11_even 173 = .ok (.if_icmp .eq 8, 3) := by decide +kernel
theorem dX11_even_176 : decode cX11_even 176 = .ok (.aload_n 0, 1) := by decide +kernel
theorem dX11_even_177 : decode cX11_even 177 = .ok (.iload_n 3, 1) := by decide +kernel
theorem dX11_even_178 : decode cX11_even 178 = .ok (.putfield 194, 3) := by decide +kernel
theorem dX11_even_181 : decode cX11_even 181 = .ok (.iload_n 2, 1) := by decide +kernel
theorem dX11_even_182 : decode cX11_even 182 = .ok (.ireturn, 1) := by decide +kernel
theorem dX11_slip_0 : decode cX11_slip 0 = .ok (.iload_n 1, 1) := by decide +kernel
theorem dX11_slip_1 : decode cX11_slip 1 = .ok (.invokestatic 173, 3) := by decide +kernel
theorem dX11_slip_4 : decode cX11_slip 4 = .ok (.ifCond .eq 14, 3) := by decide +kernel
theorem dX11_slip_7 : decode cX11_slip 7 = .ok (.iload_n 2, 1) := by decide +kernel
theorem dX11_slip_8 : decode cX11_slip 8 = .ok (.ifCond .lt 10, 3) := by decide +kernel
theorem dX11_slip_11 : decode cX11_slip 11 = .ok (.iload_n 2, 1) := by decide +kernel
theorem dX11_slip_12 : decode cX11_slip 12 = .ok (.sipush 999, 3) := by decide +kernel
theorem dX11_slip_15 : decode cX11_slip 15 = .ok (.if_icmp .le 5, 3) := by decide +kernel
theorem dX11_slip_18 : decode cX11_slip 18 = .ok (.iconst (-1), 1) := by decide +kernel
theorem dX11_slip_19 : decode cX11_slip 19 = .ok (.ireturn, 1) := by decide +kernel
theorem dX11_slip_20 : decode cX11_slip 20 = .ok (.aload_n 0, 1) := by decide +kernel
theorem dX11_slip_21 : decode cX11_slip 21 = .ok (.getfield 47, 3) := by decide +kernel
theorem dX11_slip_24 : decode cX11_slip 24 = .ok (.getfield 355, 3) := by decide +kernel
theorem dX11_slip_27 : decode cX11_slip 27 = .ok (.bipush 12, 2) := by decide +kernel
theorem dX11_slip_29 : decode cX11_slip 29 = .ok (.if_icmp .lt 6, 3) := by decide +kernel
theorem dX11_slip_32 : decode cX11_slip 32 = .ok (.bipush (-2), 2) := by decide +kernel
theorem dX11_slip_34 : decode cX11_slip 34 = .ok (.ireturn, 1) := by decide +kernel
theorem dX11_slip_35 : decode cX11_slip 35 = .ok (.aload_n 0, 1) := by decide +kernel
theorem dX11_slip_36 : decode cX11_slip 36 = .ok (.getfield 47, 3) := by decide +kernel
theorem dX11_slip_39 : decode cX11_slip 39 = .ok (.iload_n 1, 1) := by decide +kernel
theorem dX11_slip_40 : decode cX11_slip 40 = .ok (.iload_n 2, 1) := by decide +kernel
theorem dX11_slip_41 : decode cX11_slip 41 = .ok (.invokevirtual 356, 3) := by decide +kernel
theorem dX11_slip_44 : decode cX11_slip 44 = .ok (.aload_n 0, 1) := by decide +kernel
theorem dX11_slip_45 : decode cX11_slip 45 = .ok (.getfield 47, 3) := by decide +kernel
theorem dX11_slip_48 : decode cX11_slip 48 = .ok (.getfield 355, 3) := by decide +kernel
theorem dX11_slip_51 : decode cX11_slip 51 = .ok (.iconst 1, 1) := by decide +kernel
theorem dX11_slip_52 : decode cX11_slip 52 = .ok (.isub, 1) := by decide +kernel
theorem dX11_slip_53 : decode cX11_slip 53 = .ok (.ireturn, 1) := by decide +kernel
theorem dX11_told_0 : decode cX11_told 0 = .ok (.iload_n 1, 1) := by decide +kernel
theorem dX11_told_1 : decode cX11_told 1 = .ok (.ifCond .lt 23, 3) := by decide +kernel
theorem dX11_told_4 : decode cX11_told 4 = .ok (.iload_n 1, 1) := by decide +kernel
theorem dX11_told_5 : decode cX11_told 5 = .ok (.aload_n 0, 1) := by decide +kernel
theorem dX11_told_6 : decode cX11_told 6 = .ok (.getfield 47, 3) := by decide +kernel
theorem dX11_told_9 : decode cX11_told 9 = .ok (.getfield 355, 3) := by decide +kernel
theorem dX11_told_12 : decode cX11_told 12 = .ok (.if_icmp .ge 12, 3) := by decide +kernel
theorem dX11_told_15 : decode cX11_told 15 = .ok (.iload_n 2, 1) := by decide +kernel
theorem dX11_told_16 : decode cX11_told 16 = .ok (.ifCond .lt 8, 3) := by decide +kernel
theorem dX11_told_19 : decode cX11_told 19 = .ok (.iload_n 2, 1) := by decide +kernel
theorem dX11_told_20 : decode cX11_told 20 = .ok (.iconst 1, 1) := by decide +kernel
theorem dX11_told_21 : decode cX11_told 21 = .ok (.if_icmp .le 5, 3) := by decide +kernel
theorem dX11_told_24 : decode cX11_told 24 = .ok (.iconst (-1), 1) := by decide +kernel
theorem dX11_told_25 : decode cX11_told 25 = .ok (.ireturn, 1) := by decide +kernel
theorem dX11_told_26 : decode cX11_told 26 = .ok (.aload_n 0, 1) := by decide +kernel
theorem dX11_told_27 : decode cX11_told 27 = .ok (.iload_n 2, 1) := by decide +kernel
theorem dX11_told_28 : decode cX11_told 28 = .ok (.ifCond .ne 15, 3) := by decide +kernel
theorem dX11_told_31 : decode cX11_told 31 = .ok (.aload_n 0, 1) := by decide +kernel
theorem dX11_told_32 : decode cX11_told 32 = .ok (.getfield 47, 3) := by decide +kernel
theorem dX11_told_35 : decode cX11_told 35 = .ok (.getfield 359, 3) := by decide +kernel
theorem dX11_told_38 : decode cX11_told 38 = .ok (.iload_n 1, 1) := by decide +kernel
theorem dX11_told_39 : decode cX11_told 39 = .ok (.iaload, 1) := by decide +kernel
theorem dX11_told_40 : decode cX11_told 40 = .ok (.goto 12, 3) := by decide +kernel
theorem dX11_told_43 : decode cX11_told 43 = .ok (.aload_n 0, 1) := by decide +kernel
theorem dX11_told_44 : decode cX11_told 44 = .ok (.getfield 47, 3) := by decide +kernel
theorem dX11_told_47 : decode cX11_told 47 = .ok (.getfield 361, 3) := by decide +kernel
theorem dX11_told_50 : decode cX11_told 50 = .ok (.iload_n 1, 1) := by decide +kernel
theorem dX11_told_51 : decode cX11_told 51 = .ok (.iaload, 1) := by decide +kernel
theorem dX11_told_52 : decode cX11_told 52 = .ok (.invokevirtual 120, 3) := by decide +kernel
