theorem dX2_lookAt_95 : decode cX2_lookAt 95 = .ok (.putfield 123, 3) := by decide +kernel
theorem dX2_lookAt_98 : decode cX2_lookAt 98 = .ok (.goto 14, 3) := by decide +kernel
theorem dX2_lookAt_101 : decode cX2_lookAt 101 = .ok (.aload_n 0, 1) := by decide +kernel
theorem dX2_lookAt_102 : decode cX2_lookAt 102 = .ok (.getfield 21, 3) := by decide +kernel
theorem dX2_lookAt_105 : decode cX2_lookAt 105 = .ok (.iload_n 2, 1) := by decide +kernel
theorem dX2_lookAt_106 : decode cX2_lookAt 106 = .ok (.invokestatic 120, 3) := by decide +kernel
theorem dX2_lookAt_109 : decode cX2_lookAt 109 = .ok (.invokevirtual 126, 3) := by decide +kernel
theorem dX2_lookAt_112 : decode cX2_lookAt 112 = .ok (.return_, 1) := by decide +kernel
theorem dX2_writeAll_0 : decode cX2_writeAll 0 = .ok (.iconst 0, 1) := by decide +kernel
theorem dX2_writeAll_1 : decode cX2_writeAll 1 = .ok (.istore_n 1, 1) := by decide +kernel
theorem dX2_writeAll_2 : decode cX2_writeAll 2 = .ok (.iconst 0, 1) := by decide +kernel
theorem dX2_writeAll_3 : decode cX2_writeAll 3 = .ok (.istore_n 2, 1) := by decide +kernel
theorem dX2_writeAll_4 : decode cX2_writeAll 4 = .ok (.iload_n 2, 1) := by decide +kernel
theorem dX2_writeAll_5 : decode cX2_writeAll 5 = .ok (.bipush 30, 2) := by decide +kernel
theorem dX2_writeAll_7 : decode cX2_writeAll 7 = .ok (.if_icmp .ge 65, 3) := by decide +kernel
theorem dX2_writeAll_10 : decode cX2_writeAll 10 = .ok (.aload_n 0, 1) := by decide +kernel
theorem dX2_writeAll_11 : decode cX2_writeAll 11 = .ok (.invokevirtual 81, 3) := by decide +kernel
theorem dX2_writeAll_14 : decode cX2_writeAll 14 = .ok (.istore_n 3, 1) := by decide +kernel
theorem dX2_writeAll_15 : decode cX2_writeAll 15 = .ok (.iload_n 3, 1) := by decide +kernel
theorem dX2_writeAll_16 : decode cX2_writeAll 16 = .ok (.iconst (-1), 1) := by decide +kernel
theorem dX2_writeAll_17 : decode cX2_writeAll 17 = .ok (.if_icmp .ne 6, 3) := by decide +kernel
theorem dX2_writeAll_20 : decode cX2_writeAll 20 = .ok (.goto 52, 3) := by decide +kernel
theorem dX2_writeAll_23 : decode cX2_writeAll 23 = .ok (.iload_n 3, 1) := by decide +kernel
theorem dX2_writeAll_24 : decode cX2_writeAll 24 = .ok (.aload_n 0, 1) := by decide +kernel
theorem dX2_writeAll_25 : decode cX2_writeAll 25 = .ok (.getfield 21, 3) := by decide +kernel
theorem dX2_writeAll_28 : decode cX2_writeAll 28 = .ok (.getfield 71, 3) := by decide +kernel
theorem dX2_writeAll_31 : decode cX2_writeAll 31 = .ok (.if_icmp .eq 30, 3) := by decide +kernel
theorem dX2_writeAll_34 : decode cX2_writeAll 34 = .ok (.aload_n 0, 1) := by decide +kernel
theorem dX2_writeAll_35 : decode cX2_writeAll 35 = .ok (.getfield 21, 3) := by decide +kernel
theorem dX2_writeAll_38 : decode cX2_writeAll 38 = .ok (.getfield 39, 3) := by decide +kernel
theorem dX2_writeAll_41 : decode cX2_writeAll 41 = .ok (.iload_n 3, 1) := by decide +kernel
theorem dX2_writeAll_42 : decode cX2_writeAll 42 = .ok (.invokevirtual 43, 3) := by decide +kernel
theorem dX2_writeAll_45 : decode cX2_writeAll 45 = .ok (.aload_n 0, 1) := by decide +kernel
theorem dX2_writeAll_46 : decode cX2_writeAll 46 = .ok (.getfield 28, 3) := by decide +kernel
theorem dX2_writeAll_49 : decode cX2_writeAll 49 = .ok (.getfield 129, 3) := by decide +kernel
theorem dX2_writeAll_52 : decode cX2_writeAll 52 = .ok (.iconst (-1), 1) := by decide +kernel
theorem dX2_writeAll_53 : decode cX2_writeAll 53 = .ok (.ixor, 1) := by decide +kernel
theorem dX2_writeAll_54 : decode cX2_writeAll 54 = .ok (.iand, 1) := by decide +kernel
theorem dX2_writeAll_55 : decode cX2_writeAll 55 = .ok (.ifCond .eq 6, 3) := by decide +kernel
theorem dX2_writeAll_58 : decode cX2_writeAll 58 = .ok (.iinc 1 1, 3) := by decide +kernel
theorem dX2_writeAll_61 : decode cX2_writeAll 61 = .ok (.aload_n 0, 1) := by decide +kernel
theorem dX2_writeAll_62 : decode cX2_writeAll 62 = .ok (.invokevirtual 132, 3) := by decide +kernel
theorem dX2_writeAll_65 : decode cX2_writeAll 65 = .ok (.pop, 1) := by decide +kernel
theorem dX2_writeAll_66 : decode cX2_writeAll 66 = .ok (.iinc 2 1, 3) := by decide +kernel
theorem dX2_writeAll_69 : decode cX2_writeAll 69 = .ok (.goto (-65), 3) := by decide +kernel
theorem dX2_writeAll_72 : decode cX2_writeAll 72 = .ok (.iload_n 1, 1) := by decide +kernel
theorem dX2_writeAll_73 : decode cX2_writeAll 73 = .ok (.ireturn, 1) := by decide +kernel
theorem dX2_answer_0 : decode cX2_answer 0 = .ok (.aload_n 0, 1) := by decide +kernel
theorem dX2_answer_1 : decode cX2_answer 1 = .ok (.getfield 35, 3) := by decide +kernel
theorem dX2_answer_4 : decode cX2_answer 4 = .ok (.getfield 135, 3) := by decide +kernel
theorem dX2_answer_7 : decode cX2_answer 7 = .ok (.iload_n 1, 1) := by decide +kernel
theorem dX2_answer_8 : decode cX2_answer 8 = .ok (.invokevirtual 138, 3) := by decide +kernel
theorem dX2_answer_11 : decode cX2_answer 11 = .ok (.aload_n 0, 1) := by decide +kernel
theorem dX2_answer_12 : decode cX2_answer 12 = .ok (.getfield 21, 3) := by decide +kernel
theorem dX2_answer_15 : decode cX2_answer 15 = .ok (.iload_n 1, 1) := by decide +kernel
theorem dX2_answer_16 : decode cX2_answer 16 = .ok (.invokevirtual 104, 3) := by decide +kernel
theorem dX2_answer_19 : decode cX2_answer 19 = .ok (.istore_n 2, 1) := by decide +kernel
theorem dX2_answer_20 : decode cX2_answer 20 = .ok (.iload_n 2, 1) := by decide +kernel
theorem dX2_answer_21 : decode cX2_answer 21 = .ok (.iconst (-1), 1) := by decide +kernel
theorem dX2_answer_22 : decode cX2_answer 22 = .ok (.if_icmp .eq 43, 3) := by decide +kernel
theorem dX2_answer_25 : decode cX2_answer 25 = .ok (.aload_n 0, 1) := by decide +kernel
theorem dX2_answer_26 : decode cX2_answer 26 = .ok (.getfield 21, 3) := by decide +kernel
theorem dX2_answer_29 : decode cX2_answer 29 = .ok (.iload_n 2, 1) := by decide +kernel
theorem dX2_answer_30 : decode cX2_answer 30 = .ok (.invokevirtual 117, 3) := by decide +kernel
theorem dX2_answer_33 : decode cX2_answer 33 = .ok (.istore_n 3, 1) := by decide +kernel
theorem dX2_answer_34 : decode cX2_answer 34 = .ok (.aload_n 0, 1) := by decide +kernel
theorem dX2_answer_35 : decode cX2_answer 35 = .ok (.getfield 21, 3) := by decide +kernel
theorem dX2_answer_38 : decode cX2_answer 38 = .ok (.iload_n 2, 1) := by decide +kernel
theorem dX2_answer_39 : decode cX2_answer 39 = .ok (.invokevirtual 88, 3) := by decide +kernel
theorem dX2_answer_42 : decode cX2_answer 42 = .ok (.aload_n 0, 1) := by decide +kernel
theorem dX2_answer_43 : decode cX2_answer 43 = .ok (.getfield 35, 3) := by decide +kernel
theorem dX2_answer_46 : decode cX2_answer 46 = .ok (.dup, 1) := by decide +kernel
theorem dX2_answer_47 : decode cX2_answer 47 = .ok (.getfield 141, 3) := by decide +kernel
theorem dX2_answer_50 : decode cX2_answer 50 = .ok (.iconst 1, 1) := by decide +kernel
theorem dX2_answer_51 : decode cX2_answer 51 = .ok (.iadd, 1) := by decide +kernel
theorem dX2_answer_52 : decode cX2_answer 52 = .ok (.putfield 141, 3) := by decide +kernel
theorem dX2_answer_55 : decode cX2_answer 55 = .ok (.iload_n 3, 1) := by decide +kernel
theorem dX2_answer_56 : decode cX2_answer 56 = .ok (.ifCond .eq 7, 3) := by decide +kernel
theorem dX2_answer_59 : decode cX2_answer 59 = .ok (.iconst 0, 1) := by decide +kernel
theorem dX2_answer_60 : decode cX2_answer 60 = .ok (.goto 4, 3) := by decide +kernel
theorem dX2_answer_63 : decode cX2_answer 63 = .ok (.iconst 1, 1) := by decide +kernel
theorem dX2_answer_64 : decode cX2_answer 64 = .ok (.ireturn, 1) := by decide +kernel
theorem dX2_answer_65 : decode cX2_answer 65 = .ok (.aload_n 0, 1) := by decide +kernel
theorem dX2_answer_66 : decode cX2_answer 66 = .ok (.getfield 28, 3) := by decide +kernel
theorem dX2_answer_69 : decode cX2_answer 69 = .ok (.iload_n 1, 1) := by decide +kernel
theorem dX2_answer_70 : decode cX2_answer 70 = .ok (.invokevirtual 107, 3) := by decide +kernel
theorem dX2_answer_73 : decode cX2_answer 73 = .ok (.ifCond .eq 18, 3) := by decide +kernel
theorem dX2_answer_76 : decode cX2_answer 76 = .ok (.aload_n 0, 1) := by decide +kernel
theorem dX2_answer_77 : decode cX2_answer 77 = .ok (.getfield 35, 3) := by decide +kernel
theorem dX2_answer_80 : decode cX2_answer 80 = .ok (.dup, 1) := by decide +kernel
theorem dX2_answer_81 : decode cX2_answer 81 = .ok (.getfield 144, 3) := by decide +kernel
theorem dX2_answer_84 : decode cX2_answer 84 = .ok (.iconst 1, 1) := by decide +kernel
theorem dX2_answer_85 : decode cX2_answer 85 = .ok (.iadd, 1) := by decide +kernel
theorem dX2_answer_86 : decode cX2_answer 86 = .ok (.putfield 144, 3) := by decide +kernel
theorem dX2_answer_89 : decode cX2_answer 89 = .ok (.iconst 2, 1) := by decide +kernel
theorem dX2_answer_90 : decode cX2_answer 90 = .ok (.ireturn, 1) := by decide +kernel
theorem dX2_answer_91 : decode cX2_answer 91 = .ok (.aload_n 0, 1) := by decide +kernel
theorem dX2_answer_92 : decode cX2_answer 92 = .ok (.getfield 35, 3) := by decide +kernel
theorem dX2_answer_95 : decode cX2_answer 95 = .ok (.dup, 1) := by decide +kernel
theorem dX2_answer_96 : decode cX2_answer 96 = .ok (.getfield 147, 3) := by decide +kernel
theorem dX2_answer_99 : decode cX2_answer 99 = .ok (.iconst 1, 1) := by decide +kernel
theorem dX2_answer_100 : decode cX2_answer 100 = .ok (.iadd, 1) := by decide +kernel
theorem dX2_answer_101 : decode cX2_answer 101 = .ok (.putfield 147, 3) := by decide +kernel
theorem dX2_answer_104 : decode cX2_answer 104 = .ok (.iconst 3, 1) := by decide +kernel
theorem dX2_answer_105 : decode cX2_answer 105 = .ok (.ireturn, 1) := by decide +kernel
theorem dX2_stepsGone_0 : decode cX2_stepsGone 0 = .ok (.aload_n 0, 1) := by decide +kernel
theorem dX2_stepsGone_1 : decode cX2_stepsGone 1 = .ok (.getfield 12, 3) := by decide +kernel
theorem dX2_stepsGone_4 : decode cX2_stepsGone 4 = .ok (.getfield 49, 3) := by decide +kernel
theorem dX2_stepsGone_7 : decode cX2_stepsGone 7 = .ok (.aload_n 0, 1) := by decide +kernel
theorem dX2_stepsGone_8 : decode cX2_stepsGone 8 = .ok (.getfield 21, 3) := by decide +kernel
theorem dX2_stepsGone_11 : decode cX2_stepsGone 11 = .ok (.invokevirtual 150, 3) := by decide +kernel
theorem dX2_stepsGone_14 : decode cX2_stepsGone 14 = .ok (.aload_n 0, 1) := by decide +kernel
theorem dX2_stepsGone_15 : decode cX2_stepsGone 15 = .ok (.getfield 28, 3) := by decide +kernel
theorem dX2_stepsGone_18 : decode cX2_stepsGone 18 = .ok (.getfield 129, 3) := by decide +kernel
theorem dX2_stepsGone_21 : decode cX2_stepsGone 21 = .ok (.ior, 1) := by decide +kernel
theorem dX2_stepsGone_22 : decode cX2_stepsGone 22 = .ok (.invokestatic 153, 3) := by decide +kernel
theorem dX2_stepsGone_25 : decode cX2_stepsGone 25 = .ok (.isub, 1) := by decide +kernel
theorem dX2_stepsGone_26 : decode cX2_stepsGone 26 = .ok (.ireturn, 1) := by decide +kernel
theorem dX2_copyFrom_0 : decode cX2_copyFrom 0 = .ok (.aload_n 0, 1) := by decide +kernel
theorem dX2_copyFrom_1 : decode cX2_copyFrom 1 = .ok (.getfield 12, 3) := by decide +kernel
theorem dX2_copyFrom_4 : decode cX2_copyFrom 4 = .ok (.aload_n 1, 1) := by decide +kernel
theorem dX2_copyFrom_5 : decode cX2_copyFrom 5 = .ok (.getfield 12, 3) := by decide +kernel
theorem dX2_copyFrom_8 : decode cX2_copyFrom 8 = .ok (.invokevirtual 158, 3) := by decide +kernel
theorem dX2_copyFrom_11 : decode cX2_copyFrom 11 = .ok (.aload_n 0, 1) := by decide +kernel
theorem dX2_copyFrom_12 : decode cX2_copyFrom 12 = .ok (.getfield 21, 3) := by decide +kernel
theorem dX2_copyFrom_15 : decode cX2_copyFrom 15 = .ok (.aload_n 1, 1) := by decide +kernel
theorem dX2_copyFrom_16 : decode cX2_copyFrom 16 = .ok (.getfield 21, 3) := by decide +kernel
theorem dX2_copyFrom_19 : decode cX2_copyFrom 19 = .ok (.invokevirtual 162, 3) := by decide +kernel
theorem dX2_copyFrom_22 : decode cX2_copyFrom 22 = .ok (.aload_n 0, 1) := by decide +kernel
theorem dX2_copyFrom_23 : decode cX2_copyFrom 23 = .ok (.getfield 28, 3) := by decide +kernel
theorem dX2_copyFrom_26 : decode cX2_copyFrom 26 = .ok (.aload_n 1, 1) := by decide +kernel
theorem dX2_copyFrom_27 : decode cX2_copyFrom 27 = .ok (.getfield 28, 3) := by decide +kernel
theorem dX2_copyFrom_30 : decode cX2_copyFrom 30 = .ok (.invokevirtual 165, 3) := by decide +kernel
theorem dX2_copyFrom_33 : decode cX2_copyFrom 33 = .ok (.aload_n 0, 1) := by decide +kernel
theorem dX2_copyFrom_34 : decode cX2_copyFrom 34 = .ok (.getfield 35, 3) := by decide +kernel
theorem dX2_copyFrom_37 : decode cX2_copyFrom 37 = .ok (.aload_n 1, 1) := by decide +kernel
theorem dX2_copyFrom_38 : decode cX2_copyFrom 38 = .ok (.getfield 35, 3) := by decide +kernel
theorem dX2_copyFrom_41 : decode cX2_copyFrom 41 = .ok (.invokevirtual 168, 3) := by decide +kernel
theorem dX2_copyFrom_44 : decode cX2_copyFrom 44 = .ok (.return_, 1) := by decide +kernel
theorem dX3_init_0 : decode cX3_init 0 = .ok (.aload_n 0, 1) := by decide +kernel
theorem dX3_init_1 : decode cX3_init 1 = .ok (.invokespecial 3, 3) := by decide +kernel
theorem dX3_init_4 : decode cX3_init 4 = .ok (.aload_n 0, 1) := by decide +kernel
theorem dX3_init_5 : decode cX3_init 5 = .ok (.new 9, 3) := by decide +kernel
theorem dX3_init_8 : decode cX3_init 8 = .ok (.dup, 1) := by decide +kernel
theorem dX3_init_9 : decode cX3_init 9 = .ok (.bipush 40, 2) := by decide +kernel
theorem dX3_init_11 : decode cX3_init 11 = .ok (.invokespecial 11, 3) := by decide +kernel
theorem dX3_init_14 : decode cX3_init 14 = .ok (.putfield 14, 3) := by decide +kernel
theorem dX3_init_17 : decode cX3_init 17 = .ok (.aload_n 0, 1) := by decide +kernel
theorem dX3_init_18 : decode cX3_init 18 = .ok (.new 9, 3) := by decide +kernel
theorem dX3_init_21 : decode cX3_init 21 = .ok (.dup, 1) := by decide +kernel
theorem dX3_init_22 : decode cX3_init 22 = .ok (.bipush 40, 2) := by decide +kernel
theorem dX3_init_24 : decode cX3_init 24 = .ok (.invokespecial 11, 3) := by decide +kernel
theorem dX3_init_27 : decode cX3_init 27 = .ok (.putfield 20, 3) := by decide +kernel
theorem dX3_init_30 : decode cX3_init 30 = .ok (.return_, 1) := by decide +kernel
theorem dX3_show_0 : decode cX3_show 0 = .ok (.aload_n 0, 1) := by decide +kernel
theorem dX3_show_1 : decode cX3_show 1 = .ok (.getfield 23, 3) := by decide +kernel
theorem dX3_show_4 : decode cX3_show 4 = .ok (.iload_n 1, 1) := by decide +kernel
theorem dX3_show_5 : decode cX3_show 5 = .ok (.invokestatic 27, 3) := by decide +kernel
theorem dX3_show_8 : decode cX3_show 8 = .ok (.iand, 1) := by decide +kernel
theorem dX3_show_9 : decode cX3_show 9 = .ok (.ifCond .eq 7, 3) := by decide +kernel
theorem dX3_show_12 : decode cX3_show 12 = .ok (.iconst 1, 1) := by decide +kernel
theorem dX3_show_13 : decode cX3_show 13 = .ok (.goto 4, 3) := by decide +kernel
theorem dX3_show_16 : decode cX3_show 16 = .ok (.iconst 0, 1) := by decide +kernel
theorem dX3_show_17 : decode cX3_show 17 = .ok (.ireturn, 1) := by decide +kernel
theorem dX3_take_0 : decode cX3_take 0 = .ok (.aload_n 0, 1) := by decide +kernel
theorem dX3_take_1 : decode cX3_take 1 = .ok (.getfield 31, 3) := by decide +kernel
theorem dX3_take_4 : decode cX3_take 4 = .ok (.bipush 40, 2) := by decide +kernel
theorem dX3_take_6 : decode cX3_take 6 = .ok (.if_icmp .ge 47, 3) := by decide +kernel
theorem dX3_take_9 : decode cX3_take 9 = .ok (.aload_n 0, 1) := by decide +kernel
theorem dX3_take_10 : decode cX3_take 10 = .ok (.getfield 14, 3) := by decide +kernel
theorem dX3_take_13 : decode cX3_take 13 = .ok (.aload_n 0, 1) := by decide +kernel
theorem dX3_take_14 : decode cX3_take 14 = .ok (.getfield 31, 3) := by decide +kernel
theorem dX3_take_17 : decode cX3_take 17 = .ok (.iload_n 1, 1) := by decide +kernel
theorem dX3_take_18 : decode cX3_take 18 = .ok (.invokevirtual 34, 3) := by decide +kernel
theorem dX3_take_21 : decode cX3_take 21 = .ok (.aload_n 0, 1) := by decide +kernel
theorem dX3_take_22 : decode cX3_take 22 = .ok (.getfield 20, 3) := by decide +kernel
theorem dX3_take_25 : decode cX3_take 25 = .ok (.aload_n 0, 1) := by decide +kernel
theorem dX3_take_26 : decode cX3_take 26 = .ok (.getfield 31, 3) := by decide +kernel
theorem dX3_take_29 : decode cX3_take 29 = .ok (.iload_n 2, 1) := by decide +kernel
theorem dX3_take_30 : decode cX3_take 30 = .ok (.invokevirtual 34, 3) := by decide +kernel
theorem dX3_take_33 : decode cX3_take 33 = .ok (.aload_n 0, 1) := by decide +kernel
theorem dX3_take_34 : decode cX3_take 34 = .ok (.dup, 1) := by decide +kernel
theorem dX3_take_35 : decode cX3_take 35 = .ok (.getfield 31, 3) := by decide +kernel
theorem dX3_take_38 : decode cX3_take 38 = .ok (.iconst 1, 1) := by decide +kernel
theorem dX3_take_39 : decode cX3_take 39 = .ok (.iadd, 1) := by decide +kernel
theorem dX3_take_40 : decode cX3_take 40 = .ok (.putfield 31, 3) := by decide +kernel
theorem dX3_take_43 : decode cX3_take 43 = .ok (.aload_n 0, 1) := by decide +kernel
theorem dX3_take_44 : decode cX3_take 44 = .ok (.dup, 1) := by decide +kernel
theorem dX3_take_45 : decode cX3_take 45 = .ok (.getfield 23, 3) := by decide +kernel
theorem dX3_take_48 : decode cX3_take 48 = .ok (.iload_n 2, 1) := by decide +kernel
theorem dX3_take_49 : decode cX3_take 49 = .ok (.ior, 1) := by decide +kernel
theorem dX3_take_50 : decode cX3_take 50 = .ok (.putfield 23, 3) := by decide +kernel
theorem dX3_take_53 : decode cX3_take 53 = .ok (.return_, 1) := by decide +kernel
theorem dX3_copyFrom_0 : decode cX3_copyFrom 0 = .ok (.aload_n 0, 1) := by decide +kernel
theorem dX3_copyFrom_1 : decode cX3_copyFrom 1 = .ok (.getfield 14, 3) := by decide +kernel
theorem dX3_copyFrom_4 : decode cX3_copyFrom 4 = .ok (.aload_n 1, 1) := by decide +kernel
theorem dX3_copyFrom_5 : decode cX3_copyFrom 5 = .ok (.getfield 14, 3) := by decide +kernel
theorem dX3_copyFrom_8 : decode cX3_copyFrom 8 = .ok (.invokevirtual 38, 3) := by decide +kernel
theorem dX3_copyFrom_11 : decode cX3_copyFrom 11 = .ok (.aload_n 0, 1) := by decide +kernel
theorem dX3_copyFrom_12 : decode cX3_copyFrom 12 = .ok (.getfield 20, 3) := by decide +kernel
theorem dX3_copyFrom_15 : decode cX3_copyFrom 15 = .ok (.aload_n 1, 1) := by decide +kernel
theorem dX3_copyFrom_16 : decode cX3_copyFrom 16 = .ok (.getfield 20, 3) := by decide +kernel
theorem dX3_copyFrom_19 : decode cX3_copyFrom 19 = .ok (.invokevirtual 38, 3) := by decide +kernel
theorem dX3_copyFrom_22 : decode cX3_copyFrom 22 = .ok (.aload_n 0, 1) := by decide +kernel
theorem dX3_copyFrom_23 : decode cX3_copyFrom 23 = .ok (.aload_n 1, 1) := by decide +kernel
theorem dX3_copyFrom_24 : decode cX3_copyFrom 24 = .ok (.getfield 31, 3) := by decide +kernel
theorem dX3_copyFrom_27 : decode cX3_copyFrom 27 = .ok (.putfield 31, 3) := by decide +kernel
theorem dX3_copyFrom_30 : decode cX3_copyFrom 30 = .ok (.aload_n 0, 1) := by decide +kernel
theorem dX3_copyFrom_31 : decode cX3_copyFrom 31 = .ok (.aload_n 1, 1) := by decide +kernel
theorem dX3_copyFrom_32 : decode cX3_copyFrom 32 = .ok (.getfield 23, 3) := by decide +kernel
theorem dX3_copyFrom_35 : decode cX3_copyFrom 35 = .ok (.putfield 23, 3) := by decide +kernel
theorem dX3_copyFrom_38 : decode cX3_copyFrom 38 = .ok (.return_, 1) := by decide +kernel
theorem dX4_init_0 : decode cX4_init 0 = .ok (.aload_n 0, 1) := by decide +kernel
theorem dX4_init_1 : decode cX4_init 1 = .ok (.invokespecial 3, 3) := by decide +kernel
theorem dX4_init_4 : decode cX4_init 4 = .ok (.aload_n 0, 1) := by decide +kernel
theorem dX4_init_5 : decode cX4_init 5 = .ok (.new 9, 3) := by decide +kernel
theorem dX4_init_8 : decode cX4_init 8 = .ok (.dup, 1) := by decide +kernel
theorem dX4_init_9 : decode cX4_init 9 = .ok (.bipush 30, 2) := by decide +kernel
theorem dX4_init_11 : decode cX4_init 11 = .ok (.invokespecial 11, 3) := by decide +kernel
theorem dX4_init_14 : decode cX4_init 14 = .ok (.putfield 14, 3) := by decide +kernel
theorem dX4_init_17 : decode cX4_init 17 = .ok (.aload_n 0, 1) := by decide +kernel
theorem dX4_init_18 : decode cX4_init 18 = .ok (.new 9, 3) := by decide +kernel
theorem dX4_init_21 : decode cX4_init 21 = .ok (.dup, 1) := by decide +kernel
theorem dX4_init_22 : decode cX4_init 22 = .ok (.bipush 30, 2) := by decide +kernel
theorem dX4_init_24 : decode cX4_init 24 = .ok (.invokespecial 11, 3) := by decide +kernel
theorem dX4_init_27 : decode cX4_init 27 = .ok (.putfield 20, 3) := by decide +kernel
theorem dX4_init_30 : decode cX4_init 30 = .ok (.aload_n 0, 1) := by decide +kernel
theorem dX4_init_31 : decode cX4_init 31 = .ok (.bipush 60, 2) := by decide +kernel
theorem dX4_init_33 : decode cX4_init 33 = .ok (.newarray .char, 2) := by decide +kernel
theorem dX4_init_35 : decode cX4_init 35 = .ok (.putfield 23, 3) := by decide +kernel
theorem dX4_init_38 : decode cX4_init 38 = .ok (.return_, 1) := by decide +kernel
theorem dX5_init_0 : decode cX5_init 0 = .ok (.aload_n 0, 1) := by decide +kernel
theorem dX5_init_1 : decode cX5_init 1 = .ok (.invokespecial 1, 3) := by decide +kernel
theorem dX5_init_4 : decode cX5_init 4 = .ok (.aload_n 0, 1) := by decide +kernel
theorem dX5_init_5 : decode cX5_init 5 = .ok (.iload_n 1, 1) := by decide +kernel
theorem dX5_init_6 : decode cX5_init 6 = .ok (.iconst 0, 1) := by decide +kernel
theorem dX5_init_7 : decode cX5_init 7 = .ok (.invokestatic 7, 3) := by decide +kernel
theorem dX5_init_10 : decode cX5_init 10 = .ok (.newarray .int, 2) := by decide +kernel
theorem dX5_init_12 : decode cX5_init 12 = .ok (.putfield 13, 3) := by decide +kernel
theorem dX5_init_15 : decode cX5_init 15 = .ok (.return_, 1) := by decide +kernel
theorem dX5_at_0 : decode cX5_at 0 = .ok (.iload_n 1, 1) := by decide +kernel
theorem dX5_at_1 : decode cX5_at 1 = .ok (.ifCond .lt 21, 3) := by decide +kernel
theorem dX5_at_4 : decode cX5_at 4 = .ok (.iload_n 1, 1) := by decide +kernel
theorem dX5_at_5 : decode cX5_at 5 = .ok (.aload_n 0, 1) := by decide +kernel
theorem dX5_at_6 : decode cX5_at 6 = .ok (.getfield 13, 3) := by decide +kernel
theorem dX5_at_9 : decode cX5_at 9 = .ok (.arraylength, 1) := by decide +kernel
theorem dX5_at_10 : decode cX5_at 10 = .ok (.if_icmp .ge 12, 3) := by decide +kernel
theorem dX5_at_13 : decode cX5_at 13 = .ok (.aload_n 0, 1) := by decide +kernel
theorem dX5_at_14 : decode cX5_at 14 = .ok (.getfield 13, 3) := by decide +kernel
theorem dX5_at_17 : decode cX5_at 17 = .ok (.iload_n 1, 1) := by decide +kernel
theorem dX5_at_18 : decode cX5_at 18 = .ok (.iaload, 1) := by decide +kernel
theorem dX5_at_19 : decode cX5_at 19 = .ok (.goto 4, 3) := by decide +kernel
theorem dX5_at_22 : decode cX5_at 22 = .ok (.iconst 0, 1) := by decide +kernel
theorem dX5_at_23 : decode cX5_at 23 = .ok (.ireturn, 1) := by decide +kernel
theorem dX5_put_0 : decode cX5_put 0 = .ok (.iload_n 1, 1) := by decide +kernel
theorem dX5_put_1 : decode cX5_put 1 = .ok (.ifCond .lt 19, 3) := by decide +kernel
theorem dX5_put_4 : decode cX5_put 4 = .ok (.iload_n 1, 1) := by decide +kernel
theorem dX5_put_5 : decode cX5_put 5 = .ok (.aload_n 0, 1) := by decide +kernel
theorem dX5_put_6 : decode cX5_put 6 = .ok (.getfield 13, 3) := by decide +kernel
theorem dX5_put_9 : decode cX5_put 9 = .ok (.arraylength, 1) := by decide +kernel
theorem dX5_put_10 : decode cX5_put 10 = .ok (.if_icmp .ge 10, 3) := by decide +kernel
theorem dX5_put_13 : decode cX5_put 13 = .ok (.aload_n 0, 1) := by decide +kernel
theorem dX5_put_14 : decode cX5_put 14 = .ok (.getfield 13, 3) := by decide +kernel
theorem dX5_put_17 : decode cX5_put 17 = .ok (.iload_n 1, 1) := by decide +kernel
theorem dX5_put_18 : decode cX5_put 18 = .ok (.iload_n 2, 1) := by decide +kernel
theorem dX5_put_19 : decode cX5_put 19 = .ok (.iastore, 1) := by decide +kernel
theorem dX5_put_20 : decode cX5_put 20 = .ok (.return_, 1) := by decide +kernel
theorem dX5_raise_0 : decode cX5_raise 0 = .ok (.aload_n 0, 1) := by decide +kernel
theorem dX5_raise_1 : decode cX5_raise 1 = .ok (.iload_n 1, 1) := by decide +kernel
theorem dX5_raise_2 : decode cX5_raise 2 = .ok (.aload_n 0, 1) := by decide +kernel
theorem dX5_raise_3 : decode cX5_raise 3 = .ok (.iload_n 1, 1) := by decide +kernel
theorem dX5_raise_4 : decode cX5_raise 4 = .ok (.invokevirtual 19, 3) := by decide +kernel
theorem dX5_raise_7 : decode cX5_raise 7 = .ok (.iconst 1, 1) := by decide +kernel
theorem dX5_raise_8 : decode cX5_raise 8 = .ok (.iadd, 1) := by decide +kernel
theorem dX5_raise_9 : decode cX5_raise 9 = .ok (.invokevirtual 23, 3) := by decide +kernel
theorem dX5_raise_12 : decode cX5_raise 12 = .ok (.return_, 1) := by decide +kernel
theorem dX5_copyFrom_0 : decode cX5_copyFrom 0 = .ok (.aload_n 1, 1) := by decide +kernel
theorem dX5_copyFrom_1 : decode cX5_copyFrom 1 = .ok (.getfield 13, 3) := by decide +kernel
theorem dX5_copyFrom_4 : decode cX5_copyFrom 4 = .ok (.iconst 0, 1) := by decide +kernel
theorem dX5_copyFrom_5 : decode cX5_copyFrom 5 = .ok (.aload_n 0, 1) := by decide +kernel
theorem dX5_copyFrom_6 : decode cX5_copyFrom 6 = .ok (.getfield 13, 3) := by decide +kernel
theorem dX5_copyFrom_9 : decode cX5_copyFrom 9 = .ok (.iconst 0, 1) := by decide +kernel
theorem dX5_copyFrom_10 : decode cX5_copyFrom 10 = .ok (.aload_n 0, 1) := by decide +kernel
theorem dX5_copyFrom_11 : decode cX5_copyFrom 11 = .ok (.getfield 13, 3) := by decide +kernel
theorem dX5_copyFrom_14 : decode cX5_copyFrom 14 = .ok (.arraylength, 1) := by decide +kernel
theorem dX5_copyFrom_15 : decode cX5_copyFrom 15 = .ok (.aload_n 1, 1) := by decide +kernel
theorem dX5_copyFrom_16 : decode cX5_copyFrom 16 = .ok (.getfield 13, 3) := by decide +kernel
theorem dX5_copyFrom_19 : decode cX5_copyFrom 19 = .ok (.arraylength, 1) := by decide +kernel
theorem dX5_copyFrom_20 : decode cX5_copyFrom 20 = .ok (.invokestatic 27, 3) := by decide +kernel
theorem dX5_copyFrom_23 : decode cX5_copyFrom 23 = .ok (.invokestatic 30, 3) := by decide +kernel
theorem dX5_copyFrom_26 : decode cX5_copyFrom 26 = .ok (.return_, 1) := by decide +kernel
theorem dX6_init_0 : decode cX6_init 0 = .ok (.aload_n 0, 1) := by decide +kernel
theorem dX6_init_1 : decode cX6_init 1 = .ok (.invokespecial 3, 3) := by decide +kernel
theorem dX6_init_4 : decode cX6_init 4 = .ok (.aload_n 0, 1) := by decide +kernel
theorem dX6_init_5 : decode cX6_init 5 = .ok (.new 9, 3) := by decide +kernel
theorem dX6_init_8 : decode cX6_init 8 = .ok (.dup, 1) := by decide +kernel
theorem dX6_init_9 : decode cX6_init 9 = .ok (.bipush 30, 2) := by decide +kernel
theorem dX6_init_11 : decode cX6_init 11 = .ok (.invokespecial 11, 3) := by decide +kernel
theorem dX6_init_14 : decode cX6_init 14 = .ok (.putfield 14, 3) := by decide +kernel
theorem dX6_init_17 : decode cX6_init 17 = .ok (.aload_n 0, 1) := by decide +kernel
theorem dX6_init_18 : decode cX6_init 18 = .ok (.new 9, 3) := by decide +kernel
theorem dX6_init_21 : decode cX6_init 21 = .ok (.dup, 1) := by decide +kernel
theorem dX6_init_22 : decode cX6_init 22 = .ok (.bipush 30, 2) := by decide +kernel
theorem dX6_init_24 : decode cX6_init 24 = .ok (.invokespecial 11, 3) := by decide +kernel
theorem dX6_init_27 : decode cX6_init 27 = .ok (.putfield 20, 3) := by decide +kernel
theorem dX6_init_30 : decode cX6_init 30 = .ok (.return_, 1) := by decide +kernel
theorem dX6_has_0 : decode cX6_has 0 = .ok (.iload_n 1, 1) := by decide +kernel
theorem dX6_has_1 : decode cX6_has 1 = .ok (.ifCond .lt 15, 3) := by decide +kernel
theorem dX6_has_4 : decode cX6_has 4 = .ok (.iload_n 1, 1) := by decide +kernel
theorem dX6_has_5 : decode cX6_has 5 = .ok (.aload_n 0, 1) := by decide +kernel
theorem dX6_has_6 : decode cX6_has 6 = .ok (.getfield 23, 3) := by decide +kernel
theorem dX6_has_9 : decode cX6_has 9 = .ok (.if_icmp .ge 7, 3) := by decide +kernel
theorem dX6_has_12 : decode cX6_has 12 = .ok (.iconst 1, 1) := by decide +kernel
theorem dX6_has_13 : decode cX6_has 13 = .ok (.goto 4, 3) := by decide +kernel
theorem dX6_has_16 : decode cX6_has 16 = .ok (.iconst 0, 1) := by decide +kernel
theorem dX6_has_17 : decode cX6_has 17 = .ok (.ireturn, 1) := by decide +kernel
theorem dX6_add_0 : decode cX6_add 0 = .ok (.aload_n 0, 1) := by decide +kernel
theorem dX6_add_1 : decode cX6_add 1 = .ok (.getfield 23, 3) := by decide +kernel
theorem dX6_add_4 : decode cX6_add 4 = .ok (.bipush 30, 2) := by decide +kernel
theorem dX6_add_6 : decode cX6_add 6 = .ok (.if_icmp .ge 37, 3) := by decide +kernel
theorem dX6_add_9 : decode cX6_add 9 = .ok (.aload_n 0, 1) := by decide +kernel
theorem dX6_add_10 : decode cX6_add 10 = .ok (.getfield 14, 3) := by decide +kernel
theorem dX6_add_13 : decode cX6_add 13 = .ok (.aload_n 0, 1) := by decide +kernel
theorem dX6_add_14 : decode cX6_add 14 = .ok (.getfield 23, 3) := by decide +kernel
theorem dX6_add_17 : decode cX6_add 17 = .ok (.iload_n 1, 1) := by decide +kernel
theorem dX6_add_18 : decode cX6_add 18 = .ok (.invokevirtual 27, 3) := by decide +kernel
theorem dX6_add_21 : decode cX6_add 21 = .ok (.aload_n 0, 1) := by decide +kernel
theorem dX6_add_22 : decode cX6_add 22 = .ok (.getfield 20, 3) := by decide +kernel
theorem dX6_add_25 : decode cX6_add 25 = .ok (.aload_n 0, 1) := by decide +kernel
theorem dX6_add_26 : decode cX6_add 26 = .ok (.getfield 23, 3) := by decide +kernel
theorem dX6_add_29 : decode cX6_add 29 = .ok (.iload_n 2, 1) := by decide +kernel
theorem dX6_add_30 : decode cX6_add 30 = .ok (.invokevirtual 27, 3) := by decide +kernel
theorem dX6_add_33 : decode cX6_add 33 = .ok (.aload_n 0, 1) := by decide +kernel
theorem dX6_add_34 : decode cX6_add 34 = .ok (.dup, 1) := by decide +kernel
theorem dX6_add_35 : decode cX6_add 35 = .ok (.getfield 23, 3) := by decide +kernel
theorem dX6_add_38 : decode cX6_add 38 = .ok (.iconst 1, 1) := by decide +kernel
theorem dX6_add_39 : decode cX6_add 39 = .ok (.iadd, 1) := by decide +kernel
theorem dX6_add_40 : decode cX6_add 40 = .ok (.putfield 23, 3) := by decide +kernel
theorem dX6_add_43 : decode cX6_add 43 = .ok (.return_, 1) := by decide +kernel
theorem dX6_timesNeeded_0 : decode cX6_timesNeeded 0 = .ok (.iconst 0, 1) := by decide +kernel
theorem dX6_timesNeeded_1 : decode cX6_timesNeeded 1 = .ok (.istore_n 2, 1) := by decide +kernel
theorem dX6_timesNeeded_2 : decode cX6_timesNeeded 2 = .ok (.iload_n 1, 1) := by decide +kernel
theorem dX6_timesNeeded_3 : decode cX6_timesNeeded 3 = .ok (.iconst 1, 1) := by decide +kernel
theorem dX6_timesNeeded_4 : decode cX6_timesNeeded 4 = .ok (.iadd, 1) := by decide +kernel
theorem dX6_timesNeeded_5 : decode cX6_timesNeeded 5 = .ok (.istore_n 3, 1) := by decide +kernel
theorem dX6_timesNeeded_6 : decode cX6_timesNeeded 6 = .ok (.iload_n 3, 1) := by decide +kernel
theorem dX6_timesNeeded_7 : decode cX6_timesNeeded 7 = .ok (.aload_n 0, 1) := by decide +kernel
theorem dX6_timesNeeded_8 : decode cX6_timesNeeded 8 = .ok (.getfield 31, 3) := by decide +kernel
theorem dX6_timesNeeded_11 : decode cX6_timesNeeded 11 = .ok (.if_icmp .ge 28, 3) := by decide +kernel
theorem dX6_timesNeeded_14 : decode cX6_timesNeeded 14 = .ok (.aload_n 0, 1) := by decide +kernel
theorem dX6_timesNeeded_15 : decode cX6_timesNeeded 15 = .ok (.getfield 20, 3) := by decide +kernel
theorem dX6_timesNeeded_18 : decode cX6_timesNeeded 18 = .ok (.iload_n 3, 1) := by decide +kernel
theorem dX6_timesNeeded_19 : decode cX6_timesNeeded 19 = .ok (.invokevirtual 34, 3) := by decide +kernel
theorem dX6_timesNeeded_22 : decode cX6_timesNeeded 22 = .ok (.iload_n 1, 1) := by decide +kernel
theorem dX6_timesNeeded_23 : decode cX6_timesNeeded 23 = .ok (.invokestatic 38, 3) := by decide +kernel
theorem dX6_timesNeeded_26 : decode cX6_timesNeeded 26 = .ok (.iand, 1) := by decide +kernel
theorem dX6_timesNeeded_27 : decode cX6_timesNeeded 27 = .ok (.ifCond .eq 6, 3) := by decide +kernel
theorem dX6_timesNeeded_30 : decode cX6_timesNeeded 30 = .ok (.iinc 2 1, 3) := by decide +kernel
theorem dX6_timesNeeded_33 : decode cX6_timesNeeded 33 = .ok (.iinc 3 1, 3) := by decide +kernel
theorem dX6_timesNeeded_36 : decode cX6_timesNeeded 36 = .ok (.goto (-30), 3) := by decide +kernel
theorem dX6_timesNeeded_39 : decode cX6_timesNeeded 39 = .ok (.iload_n 2, 1) := by decide +kernel
theorem dX6_timesNeeded_40 : decode cX6_timesNeeded 40 = .ok (.ireturn, 1) := by decide +kernel
theorem dX6_copyFrom_0 : decode cX6_copyFrom 0 = .ok (.aload_n 0, 1) := by decide +kernel
theorem dX6_copyFrom_1 : decode cX6_copyFrom 1 = .ok (.getfield 14, 3) := by decide +kernel
theorem dX6_copyFrom_4 : decode cX6_copyFrom 4 = .ok (.aload_n 1, 1) := by decide +kernel
theorem dX6_copyFrom_5 : decode cX6_copyFrom 5 = .ok (.getfield 14, 3) := by decide +kernel
theorem dX6_copyFrom_8 : decode cX6_copyFrom 8 = .ok (.invokevirtual 41, 3) := by decide +kernel
theorem dX6_copyFrom_11 : decode cX6_copyFrom 11 = .ok (.aload_n 0, 1) := by decide +kernel
theorem dX6_copyFrom_12 : decode cX6_copyFrom 12 = .ok (.getfield 20, 3) := by decide +kernel
theorem dX6_copyFrom_15 : decode cX6_copyFrom 15 = .ok (.aload_n 1, 1) := by decide +kernel
theorem dX6_copyFrom_16 : decode cX6_copyFrom 16 = .ok (.getfield 20, 3) := by decide +kernel
theorem dX6_copyFrom_19 : decode cX6_copyFrom 19 = .ok (.invokevirtual 41, 3) := by decide +kernel
theorem dX6_copyFrom_22 : decode cX6_copyFrom 22 = .ok (.aload_n 0, 1) := by decide +kernel
theorem dX6_copyFrom_23 : decode cX6_copyFrom 23 = .ok (.aload_n 1, 1) := by decide +kernel
theorem dX6_copyFrom_24 : decode cX6_copyFrom 24 = .ok (.getfield 23, 3) := by decide +kernel
theorem dX6_copyFrom_27 : decode cX6_copyFrom 27 = .ok (.putfield 23, 3) := by decide +kernel
theorem dX6_copyFrom_30 : decode cX6_copyFrom 30 = .ok (.aload_n 0, 1) := by decide +kernel
theorem dX6_copyFrom_31 : decode cX6_copyFrom 31 = .ok (.aload_n 1, 1) := by decide +kernel
theorem dX6_copyFrom_32 : decode cX6_copyFrom 32 = .ok (.getfield 31, 3) := by decide +kernel
theorem dX6_copyFrom_35 : decode cX6_copyFrom 35 = .ok (.putfield 31, 3) := by decide +kernel
theorem dX6_copyFrom_38 : decode cX6_copyFrom 38 = .ok (.return_, 1) := by decide +kernel
theorem dX7_init_0 : decode cX7_init 0 = .ok (.aload_n 0, 1) := by decide +kernel
theorem dX7_init_1 : decode cX7_init 1 = .ok (.invokespecial 3, 3) := by decide +kernel
theorem dX7_init_4 : decode cX7_init 4 = .ok (.aload_n 0, 1) := by decide +kernel
theorem dX7_init_5 : decode cX7_init 5 = .ok (.new 9, 3) := by decide +kernel
theorem dX7_init_8 : decode cX7_init 8 = .ok (.dup, 1) := by decide +kernel
theorem dX7_init_9 : decode cX7_init 9 = .ok (.bipush 30, 2) := by decide +kernel
theorem dX7_init_11 : decode cX7_init 11 = .ok (.invokespecial 11, 3) := by decide +kernel
theorem dX7_init_14 : decode cX7_init 14 = .ok (.putfield 14, 3) := by decide +kernel
theorem dX7_init_17 : decode cX7_init 17 = .ok (.return_, 1) := by decide +kernel
theorem dX7_copyFrom_0 : decode cX7_copyFrom 0 = .ok (.aload_n 0, 1) := by decide +kernel
theorem dX7_copyFrom_1 : decode cX7_copyFrom 1 = .ok (.getfield 14, 3) := by decide +kernel
theorem dX7_copyFrom_4 : decode cX7_copyFrom 4 = .ok (.aload_n 1, 1) := by decide +kernel
theorem dX7_copyFrom_5 : decode cX7_copyFrom 5 = .ok (.getfield 14, 3) := by decide +kernel
theorem dX7_copyFrom_8 : decode cX7_copyFrom 8 = .ok (.invokevirtual 20, 3) := by decide +kernel
theorem dX7_copyFrom_11 : decode cX7_copyFrom 11 = .ok (.aload_n 0, 1) := by decide +kernel
theorem dX7_copyFrom_12 : decode cX7_copyFrom 12 = .ok (.aload_n 1, 1) := by decide +kernel
theorem dX7_copyFrom_13 : decode cX7_copyFrom 13 = .ok (.getfield 24, 3) := by decide +kernel
theorem dX7_copyFrom_16 : decode cX7_copyFrom 16 = .ok (.putfield 24, 3) := by decide +kernel
theorem dX7_copyFrom_19 : decode cX7_copyFrom 19 = .ok (.aload_n 0, 1) := by decide +kernel
theorem dX7_copyFrom_20 : decode cX7_copyFrom 20 = .ok (.aload_n 1, 1) := by decide +kernel
theorem dX7_copyFrom_21 : decode cX7_copyFrom 21 = .ok (.getfield 28, 3) := by decide +kernel
theorem dX7_copyFrom_24 : decode cX7_copyFrom 24 = .ok (.putfield 28, 3) := by decide +kernel
theorem dX7_copyFrom_27 : decode cX7_copyFrom 27 = .ok (.aload_n 0, 1) := by decide +kernel
theorem dX7_copyFrom_28 : decode cX7_copyFrom 28 = .ok (.aload_n 1, 1) := by decide +kernel
theorem dX7_copyFrom_29 : decode cX7_copyFrom 29 = .ok (.getfield 31, 3) := by decide +kernel
theorem dX7_copyFrom_32 : decode cX7_copyFrom 32 = .ok (.putfield 31, 3) := by decide +kernel
theorem dX7_copyFrom_35 : decode cX7_copyFrom 35 = .ok (.aload_n 0, 1) := by decide +kernel
theorem dX7_copyFrom_36 : decode cX7_copyFrom 36 = .ok (.aload_n 1, 1) := by decide +kernel
theorem dX7_copyFrom_37 : decode cX7_copyFrom 37 = .ok (.getfield 34, 3) := by decide +kernel
theorem dX7_copyFrom_40 : decode cX7_copyFrom 40 = .ok (.putfield 34, 3) := by decide +kernel
theorem dX7_copyFrom_43 : decode cX7_copyFrom 43 = .ok (.aload_n 0, 1) := by decide +kernel
theorem dX7_copyFrom_44 : decode cX7_copyFrom 44 = .ok (.aload_n 1, 1) := by decide +kernel
theorem dX7_copyFrom_45 : decode cX7_copyFrom 45 = .ok (.getfield 37, 3) := by decide +kernel
theorem dX7_copyFrom_48 : decode cX7_copyFrom 48 = .ok (.putfield 37, 3) := by decide +kernel
theorem dX7_copyFrom_51 : decode cX7_copyFrom 51 = .ok (.aload_n 0, 1) := by decide +kernel
theorem dX7_copyFrom_52 : decode cX7_copyFrom 52 = .ok (.aload_n 1, 1) := by decide +kernel
theorem dX7_copyFrom_53 : decode cX7_copyFrom 53 = .ok (.getfield 40, 3) := by decide +kernel
theorem dX7_copyFrom_56 : decode cX7_copyFrom 56 = .ok (.putfield 40, 3) := by decide +kernel
theorem dX7_copyFrom_59 : decode cX7_copyFrom 59 = .ok (.return_, 1) := by decide +kernel
theorem dX8_init_0 : decode cX8_init 0 = .ok (.aload_n 0, 1) := by decide +kernel
theorem dX8_init_1 : decode cX8_init 1 = .ok (.invokespecial 1, 3) := by decide +kernel
theorem dX8_init_4 : decode cX8_init 4 = .ok (.aload_n 0, 1) := by decide +kernel
theorem dX8_init_5 : decode cX8_init 5 = .ok (.new 7, 3) := by decide +kernel
theorem dX8_init_8 : decode cX8_init 8 = .ok (.dup, 1) := by decide +kernel
theorem dX8_init_9 : decode cX8_init 9 = .ok (.invokespecial 9, 3) := by decide +kernel
theorem dX8_init_12 : decode cX8_init 12 = .ok (.putfield 10, 3) := by decide +kernel
theorem dX8_init_15 : decode cX8_init 15 = .ok (.aload_n 0, 1) := by decide +kernel
theorem dX8_init_16 : decode cX8_init 16 = .ok (.new 7, 3) := by decide +kernel
theorem dX8_init_19 : decode cX8_init 19 = .ok (.dup, 1) := by decide +kernel
theorem dX8_init_20 : decode cX8_init 20 = .ok (.invokespecial 9, 3) := by decide +kernel
theorem dX8_init_23 : decode cX8_init 23 = .ok (.putfield 16, 3) := by decide +kernel
theorem dX8_init_26 : decode cX8_init 26 = .ok (.aload_n 0, 1) := by decide +kernel
theorem dX8_init_27 : decode cX8_init 27 = .ok (.new 7, 3) := by decide +kernel
theorem dX8_init_30 : decode cX8_init 30 = .ok (.dup, 1) := by decide +kernel
theorem dX8_init_31 : decode cX8_init 31 = .ok (.invokespecial 9, 3) := by decide +kernel
theorem dX8_init_34 : decode cX8_init 34 = .ok (.putfield 19, 3) := by decide +kernel
theorem dX8_init_37 : decode cX8_init 37 = .ok (.aload_n 0, 1) := by decide +kernel
theorem dX8_init_38 : decode cX8_init 38 = .ok (.new 22, 3) := by decide +kernel
theorem dX8_init_41 : decode cX8_init 41 = .ok (.dup, 1) := by decide +kernel
theorem dX8_init_42 : decode cX8_init 42 = .ok (.invokespecial 24, 3) := by decide +kernel
theorem dX8_init_45 : decode cX8_init 45 = .ok (.putfield 25, 3) := by decide +kernel
theorem dX8_init_48 : decode cX8_init 48 = .ok (.aload_n 0, 1) := by decide +kernel
theorem dX8_init_49 : decode cX8_init 49 = .ok (.new 29, 3) := by decide +kernel
theorem dX8_init_52 : decode cX8_init 52 = .ok (.dup, 1) := by decide +kernel
theorem dX8_init_53 : decode cX8_init 53 = .ok (.invokespecial 31, 3) := by decide +kernel
theorem dX8_init_56 : decode cX8_init 56 = .ok (.putfield 32, 3) := by decide +kernel
theorem dX8_init_59 : decode cX8_init 59 = .ok (.aload_n 0, 1) := by decide +kernel
theorem dX8_init_60 : decode cX8_init 60 = .ok (.iconst 0, 1) := by decide +kernel
theorem dX8_init_61 : decode cX8_init 61 = .ok (.putfield 36, 3) := by decide +kernel
theorem dX8_init_64 : decode cX8_init 64 = .ok (.return_, 1) := by decide +kernel
theorem dX8_setRoom_0 : decode cX8_setRoom 0 = .ok (.iload_n 1, 1) := by decide +kernel
theorem dX8_setRoom_1 : decode cX8_setRoom 1 = .ok (.iconst 4, 1) := by decide +kernel
theorem dX8_setRoom_2 : decode cX8_setRoom 2 = .ok (.if_icmp .lt 9, 3) := by decide +kernel
theorem dX8_setRoom_5 : decode cX8_setRoom 5 = .ok (.iload_n 1, 1) := by decide +kernel
theorem dX8_setRoom_6 : decode cX8_setRoom 6 = .ok (.bipush 20, 2) := by decide +kernel
theorem dX8_setRoom_8 : decode cX8_setRoom 8 = .ok (.if_icmp .le 6, 3) := by decide +kernel
theorem dX8_setRoom_11 : decode cX8_setRoom 11 = .ok (.bipush (-2), 2) := by decide +kernel
theorem dX8_setRoom_13 : decode cX8_setRoom 13 = .ok (.ireturn, 1) := by decide +kernel
theorem dX8_setRoom_14 : decode cX8_setRoom 14 = .ok (.aload_n 0, 1) := by decide +kernel
theorem dX8_setRoom_15 : decode cX8_setRoom 15 = .ok (.getfield 10, 3) := by decide +kernel
theorem dX8_setRoom_18 : decode cX8_setRoom 18 = .ok (.invokevirtual 40, 3) := by decide +kernel
theorem dX8_setRoom_21 : decode cX8_setRoom 21 = .ok (.iload_n 1, 1) := by decide +kernel
theorem dX8_setRoom_22 : decode cX8_setRoom 22 = .ok (.if_icmp .le 6, 3) := by decide +kernel
theorem dX8_setRoom_25 : decode cX8_setRoom 25 = .ok (.bipush (-4), 2) := by decide +kernel
theorem dX8_setRoom_27 : decode cX8_setRoom 27 = .ok (.ireturn, 1) := by decide +kernel
theorem dX8_setRoom_28 : decode cX8_setRoom 28 = .ok (.aload_n 0, 1) := by decide +kernel
theorem dX8_setRoom_29 : decode cX8_setRoom 29 = .ok (.getfield 10, 3) := by decide +kernel
theorem dX8_setRoom_32 : decode cX8_setRoom 32 = .ok (.getfield 44, 3) := by decide +kernel
theorem dX8_setRoom_35 : decode cX8_setRoom 35 = .ok (.getfield 48, 3) := by decide +kernel
theorem dX8_setRoom_38 : decode cX8_setRoom 38 = .ok (.istore_n 2, 1) := by decide +kernel
theorem dX8_setRoom_39 : decode cX8_setRoom 39 = .ok (.iload_n 2, 1) := by decide +kernel
theorem dX8_setRoom_40 : decode cX8_setRoom 40 = .ok (.iload_n 1, 1) := by decide +kernel
theorem dX8_setRoom_41 : decode cX8_setRoom 41 = .ok (.if_icmp .ne 6, 3) := by decide +kernel
theorem dX8_setRoom_44 : decode cX8_setRoom 44 = .ok (.bipush (-5), 2) := by decide +kernel
theorem dX8_setRoom_46 : decode cX8_setRoom 46 = .ok (.ireturn, 1) := by decide +kernel
theorem dX8_setRoom_47 : decode cX8_setRoom 47 = .ok (.aload_n 0, 1) := by decide +kernel
theorem dX8_setRoom_48 : decode cX8_setRoom 48 = .ok (.getfield 25, 3) := by decide +kernel
theorem dX8_setRoom_51 : decode cX8_setRoom 51 = .ok (.aload_n 0, 1) := by decide +kernel
theorem dX8_setRoom_52 : decode cX8_setRoom 52 = .ok (.getfield 10, 3) := by decide +kernel
theorem dX8_setRoom_55 : decode cX8_setRoom 55 = .ok (.invokevirtual 54, 3) := by decide +kernel
theorem dX8_setRoom_58 : decode cX8_setRoom 58 = .ok (.aload_n 0, 1) := by decide +kernel
theorem dX8_setRoom_59 : decode cX8_setRoom 59 = .ok (.getfield 10, 3) := by decide +kernel
theorem dX8_setRoom_62 : decode cX8_setRoom 62 = .ok (.getfield 44, 3) := by decide +kernel
theorem dX8_setRoom_65 : decode cX8_setRoom 65 = .ok (.iload_n 1, 1) := by decide +kernel
theorem dX8_setRoom_66 : decode cX8_setRoom 66 = .ok (.putfield 48, 3) := by decide +kernel
theorem dX8_setRoom_69 : decode cX8_setRoom 69 = .ok (.iload_n 2, 1) := by decide +kernel
theorem dX8_setRoom_70 : decode cX8_setRoom 70 = .ok (.ireturn, 1) := by decide +kernel
theorem dX8_plan_0 : decode cX8_plan 0 = .ok (.aload_n 0, 1) := by decide +kernel
theorem dX8_plan_1 : decode cX8_plan 1 = .ok (.getfield 10, 3) := by decide +kernel
theorem dX8_plan_4 : decode cX8_plan 4 = .ok (.getfield 58, 3) := by decide +kernel
theorem dX8_plan_7 : decode cX8_plan 7 = .ok (.getfield 62, 3) := by decide +kernel
theorem dX8_plan_10 : decode cX8_plan 10 = .ok (.istore_n 3, 1) := by decide +kernel
theorem dX8_plan_11 : decode cX8_plan 11 = .ok (.iload_n 1, 1) := by decide +kernel
theorem dX8_plan_12 : decode cX8_plan 12 = .ok (.iconst 1, 1) := by decide +kernel
theorem dX8_plan_13 : decode cX8_plan 13 = .ok (.if_icmp .lt 14, 3) := by decide +kernel
theorem dX8_plan_16 : decode cX8_plan 16 = .ok (.iload_n 1, 1) := by decide +kernel
theorem dX8_plan_17 : decode cX8_plan 17 = .ok (.iconst 4, 1) := by decide +kernel
theorem dX8_plan_18 : decode cX8_plan 18 = .ok (.if_icmp .gt 9, 3) := by decide +kernel
theorem dX8_plan_21 : decode cX8_plan 21 = .ok (.iload_n 2, 1) := by decide +kernel
theorem dX8_plan_22 : decode cX8_plan 22 = .ok (.iload_n 3, 1) := by decide +kernel
theorem dX8_plan_23 : decode cX8_plan 23 = .ok (.iushr, 1) := by decide +kernel
theorem dX8_plan_24 : decode cX8_plan 24 = .ok (.ifCond .eq 6, 3) := by decide +kernel
theorem dX8_plan_27 : decode cX8_plan 27 = .ok (.bipush (-2), 2) := by decide +kernel
theorem dX8_plan_29 : decode cX8_plan 29 = .ok (.ireturn, 1) := by decide +kernel
theorem dX8_plan_30 : decode cX8_plan 30 = .ok (.iload_n 3, 1) := by decide +kernel
theorem dX8_plan_31 : decode cX8_plan 31 = .ok (.bipush 30, 2) := by decide +kernel
theorem dX8_plan_33 : decode cX8_plan 33 = .ok (.if_icmp .lt 6, 3) := by decide +kernel
theorem dX8_plan_36 : decode cX8_plan 36 = .ok (.bipush (-3), 2) := by decide +kernel
theorem dX8_plan_38 : decode cX8_plan 38 = .ok (.ireturn, 1) := by decide +kernel
theorem dX8_plan_39 : decode cX8_plan 39 = .ok (.aload_n 0, 1) := by decide +kernel
theorem dX8_plan_40 : decode cX8_plan 40 = .ok (.getfield 25, 3) := by decide +kernel
theorem dX8_plan_43 : decode cX8_plan 43 = .ok (.aload_n 0, 1) := by decide +kernel
theorem dX8_plan_44 : decode cX8_plan 44 = .ok (.getfield 10, 3) := by decide +kernel
theorem dX8_plan_47 : decode cX8_plan 47 = .ok (.invokevirtual 54, 3) := by decide +kernel
theorem dX8_plan_50 : decode cX8_plan 50 = .ok (.aload_n 0, 1) := by decide +kernel
theorem dX8_plan_51 : decode cX8_plan 51 = .ok (.getfield 10, 3) := by decide +kernel
theorem dX8_plan_54 : decode cX8_plan 54 = .ok (.getfield 58, 3) := by decide +kernel
theorem dX8_plan_57 : decode cX8_plan 57 = .ok (.iload_n 1, 1) := by decide +kernel
theorem dX8_plan_58 : decode cX8_plan 58 = .ok (.iload_n 2, 1) := by decide +kernel
theorem dX8_plan_59 : decode cX8_plan 59 = .ok (.invokevirtual 67, 3) := by decide +kernel
theorem dX8_plan_62 : decode cX8_plan 62 = .ok (.iload_n 3, 1) := by decide +kernel
theorem dX8_plan_63 : decode cX8_plan 63 = .ok (.ireturn, 1) := by decide +kernel
theorem dX8_write_0 : decode cX8_write 0 = .ok (.aload_n 0, 1) := by decide +kernel
theorem dX8_write_1 : decode cX8_write 1 = .ok (.getfield 10, 3) := by decide +kernel
theorem dX8_write_4 : decode cX8_write 4 = .ok (.invokevirtual 90, 3) := by decide +kernel
theorem dX8_write_7 : decode cX8_write 7 = .ok (.iconst (-1), 1) := by decide +kernel
theorem dX8_write_8 : decode cX8_write 8 = .ok (.if_icmp .ne 6, 3) := by decide +kernel
theorem dX8_write_11 : decode cX8_write 11 = .ok (.bipush (-4), 2) := by decide +kernel
theorem dX8_write_13 : decode cX8_write 13 = .ok (.ireturn, 1) := by decide +kernel
theorem dX8_write_14 : decode cX8_write 14 = .ok (.aload_n 0, 1) := by decide +kernel
theorem dX8_write_15 : decode cX8_write 15 = .ok (.getfield 25, 3) := by decide +kernel
theorem dX8_write_18 : decode cX8_write 18 = .ok (.aload_n 0, 1) := by decide +kernel
theorem dX8_write_19 : decode cX8_write 19 = .ok (.getfield 10, 3) := by decide +kernel
