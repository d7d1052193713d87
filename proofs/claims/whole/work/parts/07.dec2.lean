theorem dX4_read_74 : decode cX4_read 74 = .ok (.ireturn, 1) := by decide +kernel
theorem dX4_read_75 : decode cX4_read 75 = .ok (.aload_n 0, 1) := by decide +kernel
theorem dX4_read_76 : decode cX4_read 76 = .ok (.invokevirtual 44, 3) := by decide +kernel
theorem dX4_read_79 : decode cX4_read 79 = .ok (.iconst (-1), 1) := by decide +kernel
theorem dX4_read_80 : decode cX4_read 80 = .ok (.ireturn, 1) := by decide +kernel
theorem dX4_takes_0 : decode cX4_takes 0 = .ok (.aload_n 0, 1) := by decide +kernel
theorem dX4_takes_1 : decode cX4_takes 1 = .ok (.getfield 37, 3) := by decide +kernel
theorem dX4_takes_4 : decode cX4_takes 4 = .ok (.ifCond .ne 9, 3) := by decide +kernel
theorem dX4_takes_7 : decode cX4_takes 7 = .ok (.aload_n 0, 1) := by decide +kernel
theorem dX4_takes_8 : decode cX4_takes 8 = .ok (.iload_n 1, 1) := by decide +kernel
theorem dX4_takes_9 : decode cX4_takes 9 = .ok (.invokevirtual 47, 3) := by decide +kernel
theorem dX4_takes_12 : decode cX4_takes 12 = .ok (.ireturn, 1) := by decide +kernel
theorem dX4_takes_13 : decode cX4_takes 13 = .ok (.aload_n 0, 1) := by decide +kernel
theorem dX4_takes_14 : decode cX4_takes 14 = .ok (.getfield 37, 3) := by decide +kernel
theorem dX4_takes_17 : decode cX4_takes 17 = .ok (.iconst 2, 1) := by decide +kernel
theorem dX4_takes_18 : decode cX4_takes 18 = .ok (.if_icmp .ne 9, 3) := by decide +kernel
theorem dX4_takes_21 : decode cX4_takes 21 = .ok (.aload_n 0, 1) := by decide +kernel
theorem dX4_takes_22 : decode cX4_takes 22 = .ok (.iload_n 1, 1) := by decide +kernel
theorem dX4_takes_23 : decode cX4_takes 23 = .ok (.invokevirtual 50, 3) := by decide +kernel
theorem dX4_takes_26 : decode cX4_takes 26 = .ok (.ireturn, 1) := by decide +kernel
theorem dX4_takes_27 : decode cX4_takes 27 = .ok (.aload_n 0, 1) := by decide +kernel
theorem dX4_takes_28 : decode cX4_takes 28 = .ok (.getfield 37, 3) := by decide +kernel
theorem dX4_takes_31 : decode cX4_takes 31 = .ok (.iconst 3, 1) := by decide +kernel
theorem dX4_takes_32 : decode cX4_takes 32 = .ok (.if_icmp .ne 16, 3) := by decide +kernel
theorem dX4_takes_35 : decode cX4_takes 35 = .ok (.iload_n 1, 1) := by decide +kernel
theorem dX4_takes_36 : decode cX4_takes 36 = .ok (.invokestatic 53, 3) := by decide +kernel
theorem dX4_takes_39 : decode cX4_takes 39 = .ok (.ifCond .eq 9, 3) := by decide +kernel
theorem dX4_takes_42 : decode cX4_takes 42 = .ok (.aload_n 0, 1) := by decide +kernel
theorem dX4_takes_43 : decode cX4_takes 43 = .ok (.iload_n 1, 1) := by decide +kernel
theorem dX4_takes_44 : decode cX4_takes 44 = .ok (.invokevirtual 56, 3) := by decide +kernel
theorem dX4_takes_47 : decode cX4_takes 47 = .ok (.ireturn, 1) := by decide +kernel
theorem dX4_takes_48 : decode cX4_takes 48 = .ok (.aload_n 0, 1) := by decide +kernel
theorem dX4_takes_49 : decode cX4_takes 49 = .ok (.iload_n 1, 1) := by decide +kernel
theorem dX4_takes_50 : decode cX4_takes 50 = .ok (.invokevirtual 59, 3) := by decide +kernel
theorem dX4_takes_53 : decode cX4_takes 53 = .ok (.ireturn, 1) := by decide +kernel
theorem dX4_takesLines_0 : decode cX4_takesLines 0 = .ok (.iload_n 1, 1) := by decide +kernel
theorem dX4_takesLines_1 : decode cX4_takesLines 1 = .ok (.bipush 48, 2) := by decide +kernel
theorem dX4_takesLines_3 : decode cX4_takesLines 3 = .ok (.isub, 1) := by decide +kernel
theorem dX4_takesLines_4 : decode cX4_takesLines 4 = .ok (.istore_n 2, 1) := by decide +kernel
theorem dX4_takesLines_5 : decode cX4_takesLines 5 = .ok (.iload_n 2, 1) := by decide +kernel
theorem dX4_takesLines_6 : decode cX4_takesLines 6 = .ok (.iconst 1, 1) := by decide +kernel
theorem dX4_takesLines_7 : decode cX4_takesLines 7 = .ok (.if_icmp .lt 8, 3) := by decide +kernel
theorem dX4_takesLines_10 : decode cX4_takesLines 10 = .ok (.iload_n 2, 1) := by decide +kernel
theorem dX4_takesLines_11 : decode cX4_takesLines 11 = .ok (.iconst 4, 1) := by decide +kernel
theorem dX4_takesLines_12 : decode cX4_takesLines 12 = .ok (.if_icmp .le 5, 3) := by decide +kernel
theorem dX4_takesLines_15 : decode cX4_takesLines 15 = .ok (.iconst 0, 1) := by decide +kernel
theorem dX4_takesLines_16 : decode cX4_takesLines 16 = .ok (.ireturn, 1) := by decide +kernel
theorem dX4_takesLines_17 : decode cX4_takesLines 17 = .ok (.aload_n 0, 1) := by decide +kernel
theorem dX4_takesLines_18 : decode cX4_takesLines 18 = .ok (.getfield 14, 3) := by decide +kernel
theorem dX4_takesLines_21 : decode cX4_takesLines 21 = .ok (.aload_n 0, 1) := by decide +kernel
theorem dX4_takesLines_22 : decode cX4_takesLines 22 = .ok (.getfield 34, 3) := by decide +kernel
theorem dX4_takesLines_25 : decode cX4_takesLines 25 = .ok (.iload_n 2, 1) := by decide +kernel
theorem dX4_takesLines_26 : decode cX4_takesLines 26 = .ok (.invokevirtual 62, 3) := by decide +kernel
theorem dX4_takesLines_29 : decode cX4_takesLines 29 = .ok (.aload_n 0, 1) := by decide +kernel
theorem dX4_takesLines_30 : decode cX4_takesLines 30 = .ok (.getfield 20, 3) := by decide +kernel
theorem dX4_takesLines_33 : decode cX4_takesLines 33 = .ok (.aload_n 0, 1) := by decide +kernel
theorem dX4_takesLines_34 : decode cX4_takesLines 34 = .ok (.getfield 34, 3) := by decide +kernel
theorem dX4_takesLines_37 : decode cX4_takesLines 37 = .ok (.iconst 0, 1) := by decide +kernel
theorem dX4_takesLines_38 : decode cX4_takesLines 38 = .ok (.invokevirtual 62, 3) := by decide +kernel
theorem dX4_takesLines_41 : decode cX4_takesLines 41 = .ok (.aload_n 0, 1) := by decide +kernel
theorem dX4_takesLines_42 : decode cX4_takesLines 42 = .ok (.dup, 1) := by decide +kernel
theorem dX4_takesLines_43 : decode cX4_takesLines 43 = .ok (.getfield 34, 3) := by decide +kernel
theorem dX4_takesLines_46 : decode cX4_takesLines 46 = .ok (.iconst 1, 1) := by decide +kernel
theorem dX4_takesLines_47 : decode cX4_takesLines 47 = .ok (.iadd, 1) := by decide +kernel
theorem dX4_takesLines_48 : decode cX4_takesLines 48 = .ok (.putfield 34, 3) := by decide +kernel
theorem dX4_takesLines_51 : decode cX4_takesLines 51 = .ok (.aload_n 0, 1) := by decide +kernel
theorem dX4_takesLines_52 : decode cX4_takesLines 52 = .ok (.iconst 1, 1) := by decide +kernel
theorem dX4_takesLines_53 : decode cX4_takesLines 53 = .ok (.putfield 37, 3) := by decide +kernel
theorem dX4_takesLines_56 : decode cX4_takesLines 56 = .ok (.iconst 1, 1) := by decide +kernel
theorem dX4_takesLines_57 : decode cX4_takesLines 57 = .ok (.ireturn, 1) := by decide +kernel
theorem dX4_takesFirstDigit_0 : decode cX4_takesFirstDigit 0 = .ok (.iload_n 1, 1) := by decide +kernel
theorem dX4_takesFirstDigit_1 : decode cX4_takesFirstDigit 1 = .ok (.bipush 48, 2) := by decide +kernel
theorem dX4_takesFirstDigit_3 : decode cX4_takesFirstDigit 3 = .ok (.isub, 1) := by decide +kernel
theorem dX4_takesFirstDigit_4 : decode cX4_takesFirstDigit 4 = .ok (.istore_n 2, 1) := by decide +kernel
theorem dX4_takesFirstDigit_5 : decode cX4_takesFirstDigit 5 = .ok (.iload_n 1, 1) := by decide +kernel
theorem dX4_takesFirstDigit_6 : decode cX4_takesFirstDigit 6 = .ok (.invokestatic 53, 3) := by decide +kernel
theorem dX4_takesFirstDigit_9 : decode cX4_takesFirstDigit 9 = .ok (.ifCond .eq 11, 3) := by decide +kernel
theorem dX4_takesFirstDigit_12 : decode cX4_takesFirstDigit 12 = .ok (.iload_n 2, 1) := by decide +kernel
theorem dX4_takesFirstDigit_13 : decode cX4_takesFirstDigit 13 = .ok (.aload_n 0, 1) := by decide +kernel
theorem dX4_takesFirstDigit_14 : decode cX4_takesFirstDigit 14 = .ok (.invokevirtual 66, 3) := by decide +kernel
theorem dX4_takesFirstDigit_17 : decode cX4_takesFirstDigit 17 = .ok (.if_icmp .lt 5, 3) := by decide +kernel
theorem dX4_takesFirstDigit_20 : decode cX4_takesFirstDigit 20 = .ok (.iconst 0, 1) := by decide +kernel
theorem dX4_takesFirstDigit_21 : decode cX4_takesFirstDigit 21 = .ok (.ireturn, 1) := by decide +kernel
theorem dX4_takesFirstDigit_22 : decode cX4_takesFirstDigit 22 = .ok (.aload_n 0, 1) := by decide +kernel
theorem dX4_takesFirstDigit_23 : decode cX4_takesFirstDigit 23 = .ok (.iload_n 2, 1) := by decide +kernel
theorem dX4_takesFirstDigit_24 : decode cX4_takesFirstDigit 24 = .ok (.putfield 70, 3) := by decide +kernel
theorem dX4_takesFirstDigit_27 : decode cX4_takesFirstDigit 27 = .ok (.aload_n 0, 1) := by decide +kernel
theorem dX4_takesFirstDigit_28 : decode cX4_takesFirstDigit 28 = .ok (.iload_n 2, 1) := by decide +kernel
theorem dX4_takesFirstDigit_29 : decode cX4_takesFirstDigit 29 = .ok (.ifCond .ne 7, 3) := by decide +kernel
theorem dX4_takesFirstDigit_32 : decode cX4_takesFirstDigit 32 = .ok (.iconst 4, 1) := by decide +kernel
theorem dX4_takesFirstDigit_33 : decode cX4_takesFirstDigit 33 = .ok (.goto 4, 3) := by decide +kernel
theorem dX4_takesFirstDigit_36 : decode cX4_takesFirstDigit 36 = .ok (.iconst 3, 1) := by decide +kernel
theorem dX4_takesFirstDigit_37 : decode cX4_takesFirstDigit 37 = .ok (.putfield 37, 3) := by decide +kernel
theorem dX4_takesFirstDigit_40 : decode cX4_takesFirstDigit 40 = .ok (.iconst 1, 1) := by decide +kernel
theorem dX4_takesFirstDigit_41 : decode cX4_takesFirstDigit 41 = .ok (.ireturn, 1) := by decide +kernel
theorem dX4_takesSecondDigit_0 : decode cX4_takesSecondDigit 0 = .ok (.bipush 10, 2) := by decide +kernel
theorem dX4_takesSecondDigit_2 : decode cX4_takesSecondDigit 2 = .ok (.aload_n 0, 1) := by decide +kernel
theorem dX4_takesSecondDigit_3 : decode cX4_takesSecondDigit 3 = .ok (.getfield 70, 3) := by decide +kernel
theorem dX4_takesSecondDigit_6 : decode cX4_takesSecondDigit 6 = .ok (.imul, 1) := by decide +kernel
theorem dX4_takesSecondDigit_7 : decode cX4_takesSecondDigit 7 = .ok (.iload_n 1, 1) := by decide +kernel
theorem dX4_takesSecondDigit_8 : decode cX4_takesSecondDigit 8 = .ok (.bipush 48, 2) := by decide +kernel
theorem dX4_takesSecondDigit_10 : decode cX4_takesSecondDigit 10 = .ok (.isub, 1) := by decide +kernel
theorem dX4_takesSecondDigit_11 : decode cX4_takesSecondDigit 11 = .ok (.iadd, 1) := by decide +kernel
theorem dX4_takesSecondDigit_12 : decode cX4_takesSecondDigit 12 = .ok (.istore_n 2, 1) := by decide +kernel
theorem dX4_takesSecondDigit_13 : decode cX4_takesSecondDigit 13 = .ok (.iload_n 2, 1) := by decide +kernel
theorem dX4_takesSecondDigit_14 : decode cX4_takesSecondDigit 14 = .ok (.aload_n 0, 1) := by decide +kernel
theorem dX4_takesSecondDigit_15 : decode cX4_takesSecondDigit 15 = .ok (.invokevirtual 66, 3) := by decide +kernel
theorem dX4_takesSecondDigit_18 : decode cX4_takesSecondDigit 18 = .ok (.if_icmp .lt 5, 3) := by decide +kernel
theorem dX4_takesSecondDigit_21 : decode cX4_takesSecondDigit 21 = .ok (.iconst 0, 1) := by decide +kernel
theorem dX4_takesSecondDigit_22 : decode cX4_takesSecondDigit 22 = .ok (.ireturn, 1) := by decide +kernel
theorem dX4_takesSecondDigit_23 : decode cX4_takesSecondDigit 23 = .ok (.aload_n 0, 1) := by decide +kernel
theorem dX4_takesSecondDigit_24 : decode cX4_takesSecondDigit 24 = .ok (.iload_n 2, 1) := by decide +kernel
theorem dX4_takesSecondDigit_25 : decode cX4_takesSecondDigit 25 = .ok (.putfield 70, 3) := by decide +kernel
theorem dX4_takesSecondDigit_28 : decode cX4_takesSecondDigit 28 = .ok (.aload_n 0, 1) := by decide +kernel
theorem dX4_takesSecondDigit_29 : decode cX4_takesSecondDigit 29 = .ok (.iconst 4, 1) := by decide +kernel
theorem dX4_takesSecondDigit_30 : decode cX4_takesSecondDigit 30 = .ok (.putfield 37, 3) := by decide +kernel
theorem dX4_takesSecondDigit_33 : decode cX4_takesSecondDigit 33 = .ok (.iconst 1, 1) := by decide +kernel
theorem dX4_takesSecondDigit_34 : decode cX4_takesSecondDigit 34 = .ok (.ireturn, 1) := by decide +kernel
theorem dX4_takesMark_0 : decode cX4_takesMark 0 = .ok (.aload_n 0, 1) := by decide +kernel
theorem dX4_takesMark_1 : decode cX4_takesMark 1 = .ok (.getfield 37, 3) := by decide +kernel
theorem dX4_takesMark_4 : decode cX4_takesMark 4 = .ok (.iconst 1, 1) := by decide +kernel
theorem dX4_takesMark_5 : decode cX4_takesMark 5 = .ok (.if_icmp .ne 8, 3) := by decide +kernel
theorem dX4_takesMark_8 : decode cX4_takesMark 8 = .ok (.bipush 60, 2) := by decide +kernel
theorem dX4_takesMark_10 : decode cX4_takesMark 10 = .ok (.goto 5, 3) := by decide +kernel
theorem dX4_takesMark_13 : decode cX4_takesMark 13 = .ok (.bipush 44, 2) := by decide +kernel
theorem dX4_takesMark_15 : decode cX4_takesMark 15 = .ok (.istore_n 2, 1) := by decide +kernel
theorem dX4_takesMark_16 : decode cX4_takesMark 16 = .ok (.iload_n 1, 1) := by decide +kernel
theorem dX4_takesMark_17 : decode cX4_takesMark 17 = .ok (.bipush 59, 2) := by decide +kernel
theorem dX4_takesMark_19 : decode cX4_takesMark 19 = .ok (.if_icmp .eq 10, 3) := by decide +kernel
theorem dX4_takesMark_22 : decode cX4_takesMark 22 = .ok (.iload_n 1, 1) := by decide +kernel
theorem dX4_takesMark_23 : decode cX4_takesMark 23 = .ok (.iload_n 2, 1) := by decide +kernel
theorem dX4_takesMark_24 : decode cX4_takesMark 24 = .ok (.if_icmp .eq 5, 3) := by decide +kernel
theorem dX4_takesMark_27 : decode cX4_takesMark 27 = .ok (.iconst 0, 1) := by decide +kernel
theorem dX4_takesMark_28 : decode cX4_takesMark 28 = .ok (.ireturn, 1) := by decide +kernel
theorem dX4_takesMark_29 : decode cX4_takesMark 29 = .ok (.aload_n 0, 1) := by decide +kernel
theorem dX4_takesMark_30 : decode cX4_takesMark 30 = .ok (.invokevirtual 44, 3) := by decide +kernel
theorem dX4_takesMark_33 : decode cX4_takesMark 33 = .ok (.aload_n 0, 1) := by decide +kernel
theorem dX4_takesMark_34 : decode cX4_takesMark 34 = .ok (.iload_n 1, 1) := by decide +kernel
theorem dX4_takesMark_35 : decode cX4_takesMark 35 = .ok (.bipush 59, 2) := by decide +kernel
theorem dX4_takesMark_37 : decode cX4_takesMark 37 = .ok (.if_icmp .ne 7, 3) := by decide +kernel
theorem dX4_takesMark_40 : decode cX4_takesMark 40 = .ok (.iconst 0, 1) := by decide +kernel
theorem dX4_takesMark_41 : decode cX4_takesMark 41 = .ok (.goto 4, 3) := by decide +kernel
theorem dX4_takesMark_44 : decode cX4_takesMark 44 = .ok (.iconst 2, 1) := by decide +kernel
theorem dX4_takesMark_45 : decode cX4_takesMark 45 = .ok (.putfield 37, 3) := by decide +kernel
theorem dX4_takesMark_48 : decode cX4_takesMark 48 = .ok (.iconst 1, 1) := by decide +kernel
theorem dX4_takesMark_49 : decode cX4_takesMark 49 = .ok (.ireturn, 1) := by decide +kernel
theorem dX4_endNumber_0 : decode cX4_endNumber 0 = .ok (.aload_n 0, 1) := by decide +kernel
theorem dX4_endNumber_1 : decode cX4_endNumber 1 = .ok (.getfield 37, 3) := by decide +kernel
theorem dX4_endNumber_4 : decode cX4_endNumber 4 = .ok (.iconst 3, 1) := by decide +kernel
theorem dX4_endNumber_5 : decode cX4_endNumber 5 = .ok (.if_icmp .eq 11, 3) := by decide +kernel
theorem dX4_endNumber_8 : decode cX4_endNumber 8 = .ok (.aload_n 0, 1) := by decide +kernel
theorem dX4_endNumber_9 : decode cX4_endNumber 9 = .ok (.getfield 37, 3) := by decide +kernel
theorem dX4_endNumber_12 : decode cX4_endNumber 12 = .ok (.iconst 4, 1) := by decide +kernel
theorem dX4_endNumber_13 : decode cX4_endNumber 13 = .ok (.if_icmp .ne 34, 3) := by decide +kernel
theorem dX4_endNumber_16 : decode cX4_endNumber 16 = .ok (.aload_n 0, 1) := by decide +kernel
theorem dX4_endNumber_17 : decode cX4_endNumber 17 = .ok (.getfield 34, 3) := by decide +kernel
theorem dX4_endNumber_20 : decode cX4_endNumber 20 = .ok (.iconst 1, 1) := by decide +kernel
theorem dX4_endNumber_21 : decode cX4_endNumber 21 = .ok (.isub, 1) := by decide +kernel
theorem dX4_endNumber_22 : decode cX4_endNumber 22 = .ok (.istore_n 1, 1) := by decide +kernel
theorem dX4_endNumber_23 : decode cX4_endNumber 23 = .ok (.aload_n 0, 1) := by decide +kernel
theorem dX4_endNumber_24 : decode cX4_endNumber 24 = .ok (.getfield 20, 3) := by decide +kernel
theorem dX4_endNumber_27 : decode cX4_endNumber 27 = .ok (.iload_n 1, 1) := by decide +kernel
theorem dX4_endNumber_28 : decode cX4_endNumber 28 = .ok (.aload_n 0, 1) := by decide +kernel
theorem dX4_endNumber_29 : decode cX4_endNumber 29 = .ok (.getfield 20, 3) := by decide +kernel
theorem dX4_endNumber_32 : decode cX4_endNumber 32 = .ok (.iload_n 1, 1) := by decide +kernel
theorem dX4_endNumber_33 : decode cX4_endNumber 33 = .ok (.invokevirtual 73, 3) := by decide +kernel
theorem dX4_endNumber_36 : decode cX4_endNumber 36 = .ok (.aload_n 0, 1) := by decide +kernel
theorem dX4_endNumber_37 : decode cX4_endNumber 37 = .ok (.getfield 70, 3) := by decide +kernel
theorem dX4_endNumber_40 : decode cX4_endNumber 40 = .ok (.invokestatic 77, 3) := by decide +kernel
theorem dX4_endNumber_43 : decode cX4_endNumber 43 = .ok (.ior, 1) := by decide +kernel
theorem dX4_endNumber_44 : decode cX4_endNumber 44 = .ok (.invokevirtual 62, 3) := by decide +kernel
theorem dX4_endNumber_47 : decode cX4_endNumber 47 = .ok (.return_, 1) := by decide +kernel
theorem dX4_currentStep_0 : decode cX4_currentStep 0 = .ok (.aload_n 0, 1) := by decide +kernel
theorem dX4_currentStep_1 : decode cX4_currentStep 1 = .ok (.getfield 31, 3) := by decide +kernel
theorem dX4_currentStep_4 : decode cX4_currentStep 4 = .ok (.aload_n 0, 1) := by decide +kernel
theorem dX4_currentStep_5 : decode cX4_currentStep 5 = .ok (.getfield 34, 3) := by decide +kernel
theorem dX4_currentStep_8 : decode cX4_currentStep 8 = .ok (.iadd, 1) := by decide +kernel
theorem dX4_currentStep_9 : decode cX4_currentStep 9 = .ok (.iconst 1, 1) := by decide +kernel
theorem dX4_currentStep_10 : decode cX4_currentStep 10 = .ok (.isub, 1) := by decide +kernel
theorem dX4_currentStep_11 : decode cX4_currentStep 11 = .ok (.ireturn, 1) := by decide +kernel
theorem dX4_isDigit_0 : decode cX4_isDigit 0 = .ok (.iload_n 0, 1) := by decide +kernel
theorem dX4_isDigit_1 : decode cX4_isDigit 1 = .ok (.bipush 48, 2) := by decide +kernel
theorem dX4_isDigit_3 : decode cX4_isDigit 3 = .ok (.if_icmp .lt 13, 3) := by decide +kernel
theorem dX4_isDigit_6 : decode cX4_isDigit 6 = .ok (.iload_n 0, 1) := by decide +kernel
theorem dX4_isDigit_7 : decode cX4_isDigit 7 = .ok (.bipush 57, 2) := by decide +kernel
theorem dX4_isDigit_9 : decode cX4_isDigit 9 = .ok (.if_icmp .gt 7, 3) := by decide +kernel
theorem dX4_isDigit_12 : decode cX4_isDigit 12 = .ok (.iconst 1, 1) := by decide +kernel
theorem dX4_isDigit_13 : decode cX4_isDigit 13 = .ok (.goto 4, 3) := by decide +kernel
theorem dX4_isDigit_16 : decode cX4_isDigit 16 = .ok (.iconst 0, 1) := by decide +kernel
theorem dX4_isDigit_17 : decode cX4_isDigit 17 = .ok (.ireturn, 1) := by decide +kernel
theorem dX5_init_0 : decode cX5_init 0 = .ok (.aload_n 0, 1) := by decide +kernel
theorem dX5_init_1 : decode cX5_init 1 = .ok (.invokespecial 1, 3) := by decide +kernel
theorem dX5_init_4 : decode cX5_init 4 = .ok (.aload_n 0, 1) := by decide +kernel
theorem dX5_init_5 : decode cX5_init 5 = .ok (.iload_n 1, 1) := by decide +kernel
theorem dX5_init_6 : decode cX5_init 6 = .ok (.iconst 0, 1) := by decide +kernel
theorem dX5_init_7 : decode cX5_init 7 = .ok (.invokestatic 7, 3) := by decide +kernel
theorem dX5_init_10 : decode cX5_init 10 = .ok (.newarray .int, 2) := by decide +kernel
theorem dX5_init_12 : decode cX5_init 12 = .ok (.putfield 13, 3) := by decide +kernel
theorem dX5_init_15 : decode cX5_init 15 = .ok (.return_, 1) := by decide +kernel
theorem dX5_at_0 : decode cX5_at 0 = .ok (.iload_n 1, 1) := by decide +kernel
theorem dX5_at_1 : decode cX5_at 1 = .ok (.ifCond .lt 21, 3) := by decide +kernel
theorem dX5_at_4 : decode cX5_at 4 = .ok (.iload_n 1, 1) := by decide +kernel
theorem dX5_at_5 : decode cX5_at 5 = .ok (.aload_n 0, 1) := by decide +kernel
theorem dX5_at_6 : decode cX5_at 6 = .ok (.getfield 13, 3) := by decide +kernel
theorem dX5_at_9 : decode cX5_at 9 = .ok (.arraylength, 1) := by decide +kernel
theorem dX5_at_10 : decode cX5_at 10 = .ok (.if_icmp .ge 12, 3) := by decide +kernel
theorem dX5_at_13 : decode cX5_at 13 = .ok (.aload_n 0, 1) := by decide +kernel
theorem dX5_at_14 : decode cX5_at 14 = .ok (.getfield 13, 3) := by decide +kernel
theorem dX5_at_17 : decode cX5_at 17 = .ok (.iload_n 1, 1) := by decide +kernel
theorem dX5_at_18 : decode cX5_at 18 = .ok (.iaload, 1) := by decide +kernel
theorem dX5_at_19 : decode cX5_at 19 = .ok (.goto 4, 3) := by decide +kernel
theorem dX5_at_22 : decode cX5_at 22 = .ok (.iconst 0, 1) := by decide +kernel
theorem dX5_at_23 : decode cX5_at 23 = .ok (.ireturn, 1) := by decide +kernel
theorem dX5_put_0 : decode cX5_put 0 = .ok (.iload_n 1, 1) := by decide +kernel
theorem dX5_put_1 : decode cX5_put 1 = .ok (.ifCond .lt 19, 3) := by decide +kernel
theorem dX5_put_4 : decode cX5_put 4 = .ok (.iload_n 1, 1) := by decide +kernel
theorem dX5_put_5 : decode cX5_put 5 = .ok (.aload_n 0, 1) := by decide +kernel
theorem dX5_put_6 : decode cX5_put 6 = .ok (.getfield 13, 3) := by decide +kernel
theorem dX5_put_9 : decode cX5_put 9 = .ok (.arraylength, 1) := by decide +kernel
theorem dX5_put_10 : decode cX5_put 10 = .ok (.if_icmp .ge 10, 3) := by decide +kernel
theorem dX5_put_13 : decode cX5_put 13 = .ok (.aload_n 0, 1) := by decide +kernel
theorem dX5_put_14 : decode cX5_put 14 = .ok (.getfield 13, 3) := by decide +kernel
theorem dX5_put_17 : decode cX5_put 17 = .ok (.iload_n 1, 1) := by decide +kernel
theorem dX5_put_18 : decode cX5_put 18 = .ok (.iload_n 2, 1) := by decide +kernel
theorem dX5_put_19 : decode cX5_put 19 = .ok (.iastore, 1) := by decide +kernel
theorem dX5_put_20 : decode cX5_put 20 = .ok (.return_, 1) := by decide +kernel
theorem dX5_raise_0 : decode cX5_raise 0 = .ok (.aload_n 0, 1) := by decide +kernel
theorem dX5_raise_1 : decode cX5_raise 1 = .ok (.iload_n 1, 1) := by decide +kernel
theorem dX5_raise_2 : decode cX5_raise 2 = .ok (.aload_n 0, 1) := by decide +kernel
theorem dX5_raise_3 : decode cX5_raise 3 = .ok (.iload_n 1, 1) := by decide +kernel
theorem dX5_raise_4 : decode cX5_raise 4 = .ok (.invokevirtual 19, 3) := by decide +kernel
theorem dX5_raise_7 : decode cX5_raise 7 = .ok (.iconst 1, 1) := by decide +kernel
theorem dX5_raise_8 : decode cX5_raise 8 = .ok (.iadd, 1) := by decide +kernel
theorem dX5_raise_9 : decode cX5_raise 9 = .ok (.invokevirtual 23, 3) := by decide +kernel
theorem dX5_raise_12 : decode cX5_raise 12 = .ok (.return_, 1) := by decide +kernel
theorem dX5_copyFrom_0 : decode cX5_copyFrom 0 = .ok (.aload_n 1, 1) := by decide +kernel
theorem dX5_copyFrom_1 : decode cX5_copyFrom 1 = .ok (.getfield 13, 3) := by decide +kernel
theorem dX5_copyFrom_4 : decode cX5_copyFrom 4 = .ok (.iconst 0, 1) := by decide +kernel
theorem dX5_copyFrom_5 : decode cX5_copyFrom 5 = .ok (.aload_n 0, 1) := by decide +kernel
theorem dX5_copyFrom_6 : decode cX5_copyFrom 6 = .ok (.getfield 13, 3) := by decide +kernel
theorem dX5_copyFrom_9 : decode cX5_copyFrom 9 = .ok (.iconst 0, 1) := by decide +kernel
theorem dX5_copyFrom_10 : decode cX5_copyFrom 10 = .ok (.aload_n 0, 1) := by decide +kernel
theorem dX5_copyFrom_11 : decode cX5_copyFrom 11 = .ok (.getfield 13, 3) := by decide +kernel
theorem dX5_copyFrom_14 : decode cX5_copyFrom 14 = .ok (.arraylength, 1) := by decide +kernel
theorem dX5_copyFrom_15 : decode cX5_copyFrom 15 = .ok (.aload_n 1, 1) := by decide +kernel
theorem dX5_copyFrom_16 : decode cX5_copyFrom 16 = .ok (.getfield 13, 3) := by decide +kernel
theorem dX5_copyFrom_19 : decode cX5_copyFrom 19 = .ok (.arraylength, 1) := by decide +kernel
theorem dX5_copyFrom_20 : decode cX5_copyFrom 20 = .ok (.invokestatic 27, 3) := by decide +kernel
theorem dX5_copyFrom_23 : decode cX5_copyFrom 23 = .ok (.invokestatic 30, 3) := by decide +kernel
theorem dX5_copyFrom_26 : decode cX5_copyFrom 26 = .ok (.return_, 1) := by decide +kernel
theorem dX6_init_0 : decode cX6_init 0 = .ok (.aload_n 0, 1) := by decide +kernel
theorem dX6_init_1 : decode cX6_init 1 = .ok (.invokespecial 3, 3) := by decide +kernel
theorem dX6_init_4 : decode cX6_init 4 = .ok (.aload_n 0, 1) := by decide +kernel
theorem dX6_init_5 : decode cX6_init 5 = .ok (.new 9, 3) := by decide +kernel
theorem dX6_init_8 : decode cX6_init 8 = .ok (.dup, 1) := by decide +kernel
theorem dX6_init_9 : decode cX6_init 9 = .ok (.bipush 30, 2) := by decide +kernel
theorem dX6_init_11 : decode cX6_init 11 = .ok (.invokespecial 11, 3) := by decide +kernel
theorem dX6_init_14 : decode cX6_init 14 = .ok (.putfield 14, 3) := by decide +kernel
theorem dX6_init_17 : decode cX6_init 17 = .ok (.aload_n 0, 1) := by decide +kernel
theorem dX6_init_18 : decode cX6_init 18 = .ok (.new 9, 3) := by decide +kernel
theorem dX6_init_21 : decode cX6_init 21 = .ok (.dup, 1) := by decide +kernel
theorem dX6_init_22 : decode cX6_init 22 = .ok (.bipush 30, 2) := by decide +kernel
theorem dX6_init_24 : decode cX6_init 24 = .ok (.invokespecial 11, 3) := by decide +kernel
theorem dX6_init_27 : decode cX6_init 27 = .ok (.putfield 20, 3) := by decide +kernel
theorem dX6_init_30 : decode cX6_init 30 = .ok (.return_, 1) := by decide +kernel
theorem dX6_has_0 : decode cX6_has 0 = .ok (.iload_n 1, 1) := by decide +kernel
theorem dX6_has_1 : decode cX6_has 1 = .ok (.ifCond .lt 15, 3) := by decide +kernel
theorem dX6_has_4 : decode cX6_has 4 = .ok (.iload_n 1, 1) := by decide +kernel
theorem dX6_has_5 : decode cX6_has 5 = .ok (.aload_n 0, 1) := by decide +kernel
theorem dX6_has_6 : decode cX6_has 6 = .ok (.getfield 23, 3) := by decide +kernel
theorem dX6_has_9 : decode cX6_has 9 = .ok (.if_icmp .ge 7, 3) := by decide +kernel
theorem dX6_has_12 : decode cX6_has 12 = .ok (.iconst 1, 1) := by decide +kernel
theorem dX6_has_13 : decode cX6_has 13 = .ok (.goto 4, 3) := by decide +kernel
theorem dX6_has_16 : decode cX6_has 16 = .ok (.iconst 0, 1) := by decide +kernel
theorem dX6_has_17 : decode cX6_has 17 = .ok (.ireturn, 1) := by decide +kernel
theorem dX6_add_0 : decode cX6_add 0 = .ok (.aload_n 0, 1) := by decide +kernel
theorem dX6_add_1 : decode cX6_add 1 = .ok (.getfield 23, 3) := by decide +kernel
theorem dX6_add_4 : decode cX6_add 4 = .ok (.bipush 30, 2) := by decide +kernel
theorem dX6_add_6 : decode cX6_add 6 = .ok (.if_icmp .ge 37, 3) := by decide +kernel
theorem dX6_add_9 : decode cX6_add 9 = .ok (.aload_n 0, 1) := by decide +kernel
theorem dX6_add_10 : decode cX6_add 10 = .ok (.getfield 14, 3) := by decide +kernel
theorem dX6_add_13 : decode cX6_add 13 = .ok (.aload_n 0, 1) := by decide +kernel
theorem dX6_add_14 : decode cX6_add 14 = .ok (.getfield 23, 3) := by decide +kernel
theorem dX6_add_17 : decode cX6_add 17 = .ok (.iload_n 1, 1) := by decide +kernel
theorem dX6_add_18 : decode cX6_add 18 = .ok (.invokevirtual 27, 3) := by decide +kernel
theorem dX6_add_21 : decode cX6_add 21 = .ok (.aload_n 0, 1) := by decide +kernel
theorem dX6_add_22 : decode cX6_add 22 = .ok (.getfield 20, 3) := by decide +kernel
theorem dX6_add_25 : decode cX6_add 25 = .ok (.aload_n 0, 1) := by decide +kernel
theorem dX6_add_26 : decode cX6_add 26 = .ok (.getfield 23, 3) := by decide +kernel
theorem dX6_add_29 : decode cX6_add 29 = .ok (.iload_n 2, 1) := by decide +kernel
theorem dX6_add_30 : decode cX6_add 30 = .ok (.invokevirtual 27, 3) := by decide +kernel
theorem dX6_add_33 : decode cX6_add 33 = .ok (.aload_n 0, 1) := by decide +kernel
theorem dX6_add_34 : decode cX6_add 34 = .ok (.dup, 1) := by decide +kernel
theorem dX6_add_35 : decode cX6_add 35 = .ok (.getfield 23, 3) := by decide +kernel
theorem dX6_add_38 : decode cX6_add 38 = .ok (.iconst 1, 1) := by decide +kernel
theorem dX6_add_39 : decode cX6_add 39 = .ok (.iadd, 1) := by decide +kernel
theorem dX6_add_40 : decode cX6_add 40 = .ok (.putfield 23, 3) := by decide +kernel
theorem dX6_add_43 : decode cX6_add 43 = .ok (.return_, 1) := by decide +kernel
theorem dX6_timesNeeded_0 : decode cX6_timesNeeded 0 = .ok (.iconst 0, 1) := by decide +kernel
theorem dX6_timesNeeded_1 : decode cX6_timesNeeded 1 = .ok (.istore_n 2, 1) := by decide +kernel
theorem dX6_timesNeeded_2 : decode cX6_timesNeeded 2 = .ok (.iload_n 1, 1) := by decide +kernel
theorem dX6_timesNeeded_3 : decode cX6_timesNeeded 3 = .ok (.iconst 1, 1) := by decide +kernel
theorem dX6_timesNeeded_4 : decode cX6_timesNeeded 4 = .ok (.iadd, 1) := by decide +kernel
theorem dX6_timesNeeded_5 : decode cX6_timesNeeded 5 = .ok (.istore_n 3, 1) := by decide +kernel
theorem dX6_timesNeeded_6 : decode cX6_timesNeeded 6 = .ok (.iload_n 3, 1) := by decide +kernel
theorem dX6_timesNeeded_7 : decode cX6_timesNeeded 7 = .ok (.aload_n 0, 1) := by decide +kernel
theorem dX6_timesNeeded_8 : decode cX6_timesNeeded 8 = .ok (.getfield 31, 3) := by decide +kernel
theorem dX6_timesNeeded_11 : decode cX6_timesNeeded 11 = .ok (.if_icmp .ge 28, 3) := by decide +kernel
theorem dX6_timesNeeded_14 : decode cX6_timesNeeded 14 = .ok (.aload_n 0, 1) := by decide +kernel
theorem dX6_timesNeeded_15 : decode cX6_timesNeeded 15 = .ok (.getfield 20, 3) := by decide +kernel
theorem dX6_timesNeeded_18 : decode cX6_timesNeeded 18 = .ok (.iload_n 3, 1) := by decide +kernel
theorem dX6_timesNeeded_19 : decode cX6_timesNeeded 19 = .ok (.invokevirtual 34, 3) := by decide +kernel
theorem dX6_timesNeeded_22 : decode cX6_timesNeeded 22 = .ok (.iload_n 1, 1) := by decide +kernel
theorem dX6_timesNeeded_23 : decode cX6_timesNeeded 23 = .ok (.invokestatic 38, 3) := by decide +kernel
theorem dX6_timesNeeded_26 : decode cX6_timesNeeded 26 = .ok (.iand, 1) := by decide +kernel
theorem dX6_timesNeeded_27 : decode cX6_timesNeeded 27 = .ok (.ifCond .eq 6, 3) := by decide +kernel
theorem dX6_timesNeeded_30 : decode cX6_timesNeeded 30 = .ok (.iinc 2 1, 3) := by decide +kernel
theorem dX6_timesNeeded_33 : decode cX6_timesNeeded 33 = .ok (.iinc 3 1, 3) := by decide +kernel
theorem dX6_timesNeeded_36 : decode cX6_timesNeeded 36 = .ok (.goto (-30), 3) := by decide +kernel
theorem dX6_timesNeeded_39 : decode cX6_timesNeeded 39 = .ok (.iload_n 2, 1) := by decide +kernel
theorem dX6_timesNeeded_40 : decode cX6_timesNeeded 40 = .ok (.ireturn, 1) := by decide +kernel
theorem dX6_copyFrom_0 : decode cX6_copyFrom 0 = .ok (.aload_n 0, 1) := by decide +kernel
theorem dX6_copyFrom_1 : decode cX6_copyFrom 1 = .ok (.getfield 14, 3) := by decide +kernel
theorem dX6_copyFrom_4 : decode cX6_copyFrom 4 = .ok (.aload_n 1, 1) := by decide +kernel
theorem dX6_copyFrom_5 : decode cX6_copyFrom 5 = .ok (.getfield 14, 3) := by decide +kernel
theorem dX6_copyFrom_8 : decode cX6_copyFrom 8 = .ok (.invokevirtual 41, 3) := by decide +kernel
theorem dX6_copyFrom_11 : decode cX6_copyFrom 11 = .ok (.aload_n 0, 1) := by decide +kernel
theorem dX6_copyFrom_12 : decode cX6_copyFrom 12 = .ok (.getfield 20, 3) := by decide +kernel
theorem dX6_copyFrom_15 : decode cX6_copyFrom 15 = .ok (.aload_n 1, 1) := by decide +kernel
theorem dX6_copyFrom_16 : decode cX6_copyFrom 16 = .ok (.getfield 20, 3) := by decide +kernel
theorem dX6_copyFrom_19 : decode cX6_copyFrom 19 = .ok (.invokevirtual 41, 3) := by decide +kernel
theorem dX6_copyFrom_22 : decode cX6_copyFrom 22 = .ok (.aload_n 0, 1) := by decide +kernel
theorem dX6_copyFrom_23 : decode cX6_copyFrom 23 = .ok (.aload_n 1, 1) := by decide +kernel
theorem dX6_copyFrom_24 : decode cX6_copyFrom 24 = .ok (.getfield 23, 3) := by decide +kernel
theorem dX6_copyFrom_27 : decode cX6_copyFrom 27 = .ok (.putfield 23, 3) := by decide +kernel
theorem dX6_copyFrom_30 : decode cX6_copyFrom 30 = .ok (.aload_n 0, 1) := by decide +kernel
theorem dX6_copyFrom_31 : decode cX6_copyFrom 31 = .ok (.aload_n 1, 1) := by decide +kernel
theorem dX6_copyFrom_32 : decode cX6_copyFrom 32 = .ok (.getfield 31, 3) := by decide +kernel
theorem dX6_copyFrom_35 : decode cX6_copyFrom 35 = .ok (.putfield 31, 3) := by decide +kernel
theorem dX6_copyFrom_38 : decode cX6_copyFrom 38 = .ok (.return_, 1) := by decide +kernel
theorem dX7_init_0 : decode cX7_init 0 = .ok (.aload_n 0, 1) := by decide +kernel
theorem dX7_init_1 : decode cX7_init 1 = .ok (.invokespecial 3, 3) := by decide +kernel
theorem dX7_init_4 : decode cX7_init 4 = .ok (.aload_n 0, 1) := by decide +kernel
theorem dX7_init_5 : decode cX7_init 5 = .ok (.new 9, 3) := by decide +kernel
theorem dX7_init_8 : decode cX7_init 8 = .ok (.dup, 1) := by decide +kernel
theorem dX7_init_9 : decode cX7_init 9 = .ok (.bipush 30, 2) := by decide +kernel
theorem dX7_init_11 : decode cX7_init 11 = .ok (.invokespecial 11, 3) := by decide +kernel
theorem dX7_init_14 : decode cX7_init 14 = .ok (.putfield 14, 3) := by decide +kernel
theorem dX7_init_17 : decode cX7_init 17 = .ok (.return_, 1) := by decide +kernel
theorem dX7_copyFrom_0 : decode cX7_copyFrom 0 = .ok (.aload_n 0, 1) := by decide +kernel
theorem dX7_copyFrom_1 : decode cX7_copyFrom 1 = .ok (.getfield 14, 3) := by decide +kernel
theorem dX7_copyFrom_4 : decode cX7_copyFrom 4 = .ok (.aload_n 1, 1) := by decide +kernel
theorem dX7_copyFrom_5 : decode cX7_copyFrom 5 = .ok (.getfield 14, 3) := by decide +kernel
theorem dX7_copyFrom_8 : decode cX7_copyFrom 8 = .ok (.invokevirtual 20, 3) := by decide +kernel
theorem dX7_copyFrom_11 : decode cX7_copyFrom 11 = .ok (.aload_n 0, 1) := by decide +kernel
theorem dX7_copyFrom_12 : decode cX7_copyFrom 12 = .ok (.aload_n 1, 1) := by decide +kernel
theorem dX7_copyFrom_13 : decode cX7_copyFrom 13 = .ok (.getfield 24, 3) := by decide +kernel
theorem dX7_copyFrom_16 : decode cX7_copyFrom 16 = .ok (.putfield 24, 3) := by decide +kernel
theorem dX7_copyFrom_19 : decode cX7_copyFrom 19 = .ok (.aload_n 0, 1) := by decide +kernel
theorem dX7_copyFrom_20 : decode cX7_copyFrom 20 = .ok (.aload_n 1, 1) := by decide +kernel
theorem dX7_copyFrom_21 : decode cX7_copyFrom 21 = .ok (.getfield 28, 3) := by decide +kernel
theorem dX7_copyFrom_24 : decode cX7_copyFrom 24 = .ok (.putfield 28, 3) := by decide +kernel
theorem dX7_copyFrom_27 : decode cX7_copyFrom 27 = .ok (.aload_n 0, 1) := by decide +kernel
theorem dX7_copyFrom_28 : decode cX7_copyFrom 28 = .ok (.aload_n 1, 1) := by decide +kernel
theorem dX7_copyFrom_29 : decode cX7_copyFrom 29 = .ok (.getfield 31, 3) := by decide +kernel
theorem dX7_copyFrom_32 : decode cX7_copyFrom 32 = .ok (.putfield 31, 3) := by decide +kernel
theorem dX7_copyFrom_35 : decode cX7_copyFrom 35 = .ok (.aload_n 0, 1) := by decide +kernel
theorem dX7_copyFrom_36 : decode cX7_copyFrom 36 = .ok (.aload_n 1, 1) := by decide +kernel
theorem dX7_copyFrom_37 : decode cX7_copyFrom 37 = .ok (.getfield 34, 3) := by decide +kernel
theorem dX7_copyFrom_40 : decode cX7_copyFrom 40 = .ok (.putfield 34, 3) := by decide +kernel
theorem dX7_copyFrom_43 : decode cX7_copyFrom 43 = .ok (.aload_n 0, 1) := by decide +kernel
theorem dX7_copyFrom_44 : decode cX7_copyFrom 44 = .ok (.aload_n 1, 1) := by decide +kernel
theorem dX7_copyFrom_45 : decode cX7_copyFrom 45 = .ok (.getfield 37, 3) := by decide +kernel
theorem dX7_copyFrom_48 : decode cX7_copyFrom 48 = .ok (.putfield 37, 3) := by decide +kernel
theorem dX7_copyFrom_51 : decode cX7_copyFrom 51 = .ok (.aload_n 0, 1) := by decide +kernel
theorem dX7_copyFrom_52 : decode cX7_copyFrom 52 = .ok (.aload_n 1, 1) := by decide +kernel
theorem dX7_copyFrom_53 : decode cX7_copyFrom 53 = .ok (.getfield 40, 3) := by decide +kernel
theorem dX7_copyFrom_56 : decode cX7_copyFrom 56 = .ok (.putfield 40, 3) := by decide +kernel
theorem dX7_copyFrom_59 : decode cX7_copyFrom 59 = .ok (.return_, 1) := by decide +kernel
theorem dX8_init_0 : decode cX8_init 0 = .ok (.aload_n 0, 1) := by decide +kernel
theorem dX8_init_1 : decode cX8_init 1 = .ok (.invokespecial 1, 3) := by decide +kernel
theorem dX8_init_4 : decode cX8_init 4 = .ok (.aload_n 0, 1) := by decide +kernel
theorem dX8_init_5 : decode cX8_init 5 = .ok (.new 7, 3) := by decide +kernel
theorem dX8_init_8 : decode cX8_init 8 = .ok (.dup, 1) := by decide +kernel
theorem dX8_init_9 : decode cX8_init 9 = .ok (.invokespecial 9, 3) := by decide +kernel
theorem dX8_init_12 : decode cX8_init 12 = .ok (.putfield 10, 3) := by decide +kernel
theorem dX8_init_15 : decode cX8_init 15 = .ok (.aload_n 0, 1) := by decide +kernel
theorem dX8_init_16 : decode cX8_init 16 = .ok (.new 7, 3) := by decide +kernel
theorem dX8_init_19 : decode cX8_init 19 = .ok (.dup, 1) := by decide +kernel
theorem dX8_init_20 : decode cX8_init 20 = .ok (.invokespecial 9, 3) := by decide +kernel
theorem dX8_init_23 : decode cX8_init 23 = .ok (.putfield 16, 3) := by decide +kernel
theorem dX8_init_26 : decode cX8_init 26 = .ok (.aload_n 0, 1) := by decide +kernel
theorem dX8_init_27 : decode cX8_init 27 = .ok (.new 7, 3) := by decide +kernel
theorem dX8_init_30 : decode cX8_init 30 = .ok (.dup, 1) := by decide +kernel
theorem dX8_init_31 : decode cX8_init 31 = .ok (.invokespecial 9, 3) := by decide +kernel
theorem dX8_init_34 : decode cX8_init 34 = .ok (.putfield 19, 3) := by decide +kernel
theorem dX8_init_37 : decode cX8_init 37 = .ok (.aload_n 0, 1) := by decide +kernel
theorem dX8_init_38 : decode cX8_init 38 = .ok (.new 22, 3) := by decide +kernel
theorem dX8_init_41 : decode cX8_init 41 = .ok (.dup, 1) := by decide +kernel
theorem dX8_init_42 : decode cX8_init 42 = .ok (.invokespecial 24, 3) := by decide +kernel
theorem dX8_init_45 : decode cX8_init 45 = .ok (.putfield 25, 3) := by decide +kernel
theorem dX8_init_48 : decode cX8_init 48 = .ok (.aload_n 0, 1) := by decide +kernel
theorem dX8_init_49 : decode cX8_init 49 = .ok (.new 29, 3) := by decide +kernel
theorem dX8_init_52 : decode cX8_init 52 = .ok (.dup, 1) := by decide +kernel
theorem dX8_init_53 : decode cX8_init 53 = .ok (.invokespecial 31, 3) := by decide +kernel
theorem dX8_init_56 : decode cX8_init 56 = .ok (.putfield 32, 3) := by decide +kernel
theorem dX8_init_59 : decode cX8_init 59 = .ok (.aload_n 0, 1) := by decide +kernel
theorem dX8_init_60 : decode cX8_init 60 = .ok (.iconst 0, 1) := by decide +kernel
theorem dX8_init_61 : decode cX8_init 61 = .ok (.putfield 36, 3) := by decide +kernel
theorem dX8_init_64 : decode cX8_init 64 = .ok (.return_, 1) := by decide +kernel
theorem dX8_setRoom_0 : decode cX8_setRoom 0 = .ok (.iload_n 1, 1) := by decide +kernel
theorem dX8_setRoom_1 : decode cX8_setRoom 1 = .ok (.iconst 4, 1) := by decide +kernel
theorem dX8_setRoom_2 : decode cX8_setRoom 2 = .ok (.if_icmp .lt 9, 3) := by decide +kernel
theorem dX8_setRoom_5 : decode cX8_setRoom 5 = .ok (.iload_n 1, 1) := by decide +kernel
theorem dX8_setRoom_6 : decode cX8_setRoom 6 = .ok (.bipush 20, 2) := by decide +kernel
theorem dX8_setRoom_8 : decode cX8_setRoom 8 = .ok (.if_icmp .le 6, 3) := by decide +kernel
theorem dX8_setRoom_11 : decode cX8_setRoom 11 = .ok (.bipush (-2), 2) := by decide +kernel
theorem dX8_setRoom_13 : decode cX8_setRoom 13 = .ok (.ireturn, 1) := by decide +kernel
theorem dX8_setRoom_14 : decode cX8_setRoom 14 = .ok (.aload_n 0, 1) := by decide +kernel
theorem dX8_setRoom_15 : decode cX8_setRoom 15 = .ok (.getfield 10, 3) := by decide +kernel
theorem dX8_setRoom_18 : decode cX8_setRoom 18 = .ok (.invokevirtual 40, 3) := by decide +kernel
theorem dX8_setRoom_21 : decode cX8_setRoom 21 = .ok (.iload_n 1, 1) := by decide +kernel
theorem dX8_setRoom_22 : decode cX8_setRoom 22 = .ok (.if_icmp .le 6, 3) := by decide +kernel
theorem dX8_setRoom_25 : decode cX8_setRoom 25 = .ok (.bipush (-4), 2) := by decide +kernel
theorem dX8_setRoom_27 : decode cX8_setRoom 27 = .ok (.ireturn, 1) := by decide +kernel
theorem dX8_setRoom_28 : decode cX8_setRoom 28 = .ok (.aload_n 0, 1) := by decide +kernel
theorem dX8_setRoom_29 : decode cX8_setRoom 29 = .ok (.getfield 10, 3) := by decide +kernel
theorem dX8_setRoom_32 : decode cX8_setRoom 32 = .ok (.getfield 44, 3) := by decide +kernel
theorem dX8_setRoom_35 : decode cX8_setRoom 35 = .ok (.getfield 48, 3) := by decide +kernel
theorem dX8_setRoom_38 : decode cX8_setRoom 38 = .ok (.istore_n 2, 1) := by decide +kernel
theorem dX8_setRoom_39 : decode cX8_setRoom 39 = .ok (.iload_n 2, 1) := by decide +kernel
theorem dX8_setRoom_40 : decode cX8_setRoom 40 = .ok (.iload_n 1, 1) := by decide +kernel
theorem dX8_setRoom_41 : decode cX8_setRoom 41 = .ok (.if_icmp .ne 6, 3) := by decide +kernel
theorem dX8_setRoom_44 : decode cX8_setRoom 44 = .ok (.bipush (-5), 2) := by decide +kernel
theorem dX8_setRoom_46 : decode cX8_setRoom 46 = .ok (.ireturn, 1) := by decide +kernel
theorem dX8_setRoom_47 : decode cX8_setRoom 47 = .ok (.aload_n 0, 1) := by decide +kernel
theorem dX8_setRoom_48 : decode cX8_setRoom 48 = .ok (.getfield 25, 3) := by decide +kernel
theorem dX8_setRoom_51 : decode cX8_setRoom 51 = .ok (.aload_n 0, 1) := by decide +kernel
theorem dX8_setRoom_52 : decode cX8_setRoom 52 = .ok (.getfield 10, 3) := by decide +kernel
theorem dX8_setRoom_55 : decode cX8_setRoom 55 = .ok (.invokevirtual 54, 3) := by decide +kernel
theorem dX8_setRoom_58 : decode cX8_setRoom 58 = .ok (.aload_n 0, 1) := by decide +kernel
theorem dX8_setRoom_59 : decode cX8_setRoom 59 = .ok (.getfield 10, 3) := by decide +kernel
theorem dX8_setRoom_62 : decode cX8_setRoom 62 = .ok (.getfield 44, 3) := by decide +kernel
theorem dX8_setRoom_65 : decode cX8_setRoom 65 = .ok (.iload_n 1, 1) := by decide +kernel
theorem dX8_setRoom_66 : decode cX8_setRoom 66 = .ok (.putfield 48, 3) := by decide +kernel
theorem dX8_setRoom_69 : decode cX8_setRoom 69 = .ok (.iload_n 2, 1) := by decide +kernel
theorem dX8_setRoom_70 : decode cX8_setRoom 70 = .ok (.ireturn, 1) := by decide +kernel
theorem dX8_plan_0 : decode cX8_plan 0 = .ok (.aload_n 0, 1) := by decide +kernel
theorem dX8_plan_1 : decode cX8_plan 1 = .ok (.getfield 10, 3) := by decide +kernel
theorem dX8_plan_4 : decode cX8_plan 4 = .ok (.getfield 58, 3) := by decide +kernel
theorem dX8_plan_7 : decode cX8_plan 7 = .ok (.getfield 62, 3) := by decide +kernel
theorem dX8_plan_10 : decode cX8_plan 10 = .ok (.istore_n 3, 1) := by decide +kernel
theorem dX8_plan_11 : decode cX8_plan 11 = .ok (.iload_n 1, 1) := by decide +kernel
theorem dX8_plan_12 : decode cX8_plan 12 = .ok (.iconst 1, 1) := by decide +kernel
theorem dX8_plan_13 : decode cX8_plan 13 = .ok (.if_icmp .lt 14, 3) := by decide +kernel
theorem dX8_plan_16 : decode cX8_plan 16 = .ok (.iload_n 1, 1) := by decide +kernel
theorem dX8_plan_17 : decode cX8_plan 17 = .ok (.iconst 4, 1) := by decide +kernel
theorem dX8_plan_18 : decode cX8_plan 18 = .ok (.if_icmp .gt 9, 3) := by decide +kernel
theorem dX8_plan_21 : decode cX8_plan 21 = .ok (.iload_n 2, 1) := by decide +kernel
theorem dX8_plan_22 : decode cX8_plan 22 = .ok (.iload_n 3, 1) := by decide +kernel
theorem dX8_plan_23 : decode cX8_plan 23 = .ok (.iushr, 1) := by decide +kernel
theorem dX8_plan_24 : decode cX8_plan 24 = .ok (.ifCond .eq 6, 3) := by decide +kernel
theorem dX8_plan_27 : decode cX8_plan 27 = .ok (.bipush (-2), 2) := by decide +kernel
theorem dX8_plan_29 : decode cX8_plan 29 = .ok (.ireturn, 1) := by decide +kernel
theorem dX8_plan_30 : decode cX8_plan 30 = .ok (.iload_n 3, 1) := by decide +kernel
theorem dX8_plan_31 : decode cX8_plan 31 = .ok (.bipush 30, 2) := by decide +kernel
theorem dX8_plan_33 : decode cX8_plan 33 = .ok (.if_icmp .lt 6, 3) := by decide +kernel
theorem dX8_plan_36 : decode cX8_plan 36 = .ok (.bipush (-3), 2) := by decide +kernel
theorem dX8_plan_38 : decode cX8_plan 38 = .ok (.ireturn, 1) := by decide +kernel
theorem dX8_plan_39 : decode cX8_plan 39 = .ok (.aload_n 0, 1) := by decide +kernel
theorem dX8_plan_40 : decode cX8_plan 40 = .ok (.getfield 25, 3) := by decide +kernel
theorem dX8_plan_43 : decode cX8_plan 43 = .ok (.aload_n 0, 1) := by decide +kernel
theorem dX8_plan_44 : decode cX8_plan 44 = .ok (.getfield 10, 3) := by decide +kernel
theorem dX8_plan_47 : decode cX8_plan 47 = .ok (.invokevirtual 54, 3) := by decide +kernel
theorem dX8_plan_50 : decode cX8_plan 50 = .ok (.aload_n 0, 1) := by decide +kernel
theorem dX8_plan_51 : decode cX8_plan 51 = .ok (.getfield 10, 3) := by decide +kernel
theorem dX8_plan_54 : decode cX8_plan 54 = .ok (.getfield 58, 3) := by decide +kernel
theorem dX8_plan_57 : decode cX8_plan 57 = .ok (.iload_n 1, 1) := by decide +kernel
theorem dX8_plan_58 : decode cX8_plan 58 = .ok (.iload_n 2, 1) := by decide +kernel
theorem dX8_plan_59 : decode cX8_plan 59 = .ok (.invokevirtual 67, 3) := by decide +kernel
theorem dX8_plan_62 : decode cX8_plan 62 = .ok (.iload_n 3, 1) := by decide +kernel
theorem dX8_plan_63 : decode cX8_plan 63 = .ok (.ireturn, 1) := by decide +kernel
theorem dX8_readPlan_0 : decode cX8_readPlan 0 = .ok (.aload_n 0, 1) := by decide +kernel
theorem dX8_readPlan_1 : decode cX8_readPlan 1 = .ok (.getfield 32, 3) := by decide +kernel
theorem dX8_readPlan_4 : decode cX8_readPlan 4 = .ok (.aload_n 0, 1) := by decide +kernel
theorem dX8_readPlan_5 : decode cX8_readPlan 5 = .ok (.getfield 10, 3) := by decide +kernel
theorem dX8_readPlan_8 : decode cX8_readPlan 8 = .ok (.getfield 58, 3) := by decide +kernel
theorem dX8_readPlan_11 : decode cX8_readPlan 11 = .ok (.getfield 62, 3) := by decide +kernel
theorem dX8_readPlan_14 : decode cX8_readPlan 14 = .ok (.invokevirtual 71, 3) := by decide +kernel
theorem dX8_readPlan_17 : decode cX8_readPlan 17 = .ok (.istore_n 1, 1) := by decide +kernel
theorem dX8_readPlan_18 : decode cX8_readPlan 18 = .ok (.iload_n 1, 1) := by decide +kernel
theorem dX8_readPlan_19 : decode cX8_readPlan 19 = .ok (.iconst (-1), 1) := by decide +kernel
theorem dX8_readPlan_20 : decode cX8_readPlan 20 = .ok (.if_icmp .eq 8, 3) := by decide +kernel
theorem dX8_readPlan_23 : decode cX8_readPlan 23 = .ok (.bipush (-100), 2) := by decide +kernel
theorem dX8_readPlan_25 : decode cX8_readPlan 25 = .ok (.iload_n 1, 1) := by decide +kernel
theorem dX8_readPlan_26 : decode cX8_readPlan 26 = .ok (.isub, 1) := by decide +kernel
theorem dX8_readPlan_27 : decode cX8_readPlan 27 = .ok (.ireturn, 1) := by decide +kernel
theorem dX8_readPlan_28 : decode cX8_readPlan 28 = .ok (.aload_n 0, 1) := by decide +kernel
theorem dX8_readPlan_29 : decode cX8_readPlan 29 = .ok (.getfield 10, 3) := by decide +kernel
theorem dX8_readPlan_32 : decode cX8_readPlan 32 = .ok (.getfield 58, 3) := by decide +kernel
theorem dX8_readPlan_35 : decode cX8_readPlan 35 = .ok (.getfield 62, 3) := by decide +kernel
theorem dX8_readPlan_38 : decode cX8_readPlan 38 = .ok (.aload_n 0, 1) := by decide +kernel
theorem dX8_readPlan_39 : decode cX8_readPlan 39 = .ok (.getfield 32, 3) := by decide +kernel
theorem dX8_readPlan_42 : decode cX8_readPlan 42 = .ok (.getfield 75, 3) := by decide +kernel
theorem dX8_readPlan_45 : decode cX8_readPlan 45 = .ok (.iadd, 1) := by decide +kernel
theorem dX8_readPlan_46 : decode cX8_readPlan 46 = .ok (.bipush 30, 2) := by decide +kernel
theorem dX8_readPlan_48 : decode cX8_readPlan 48 = .ok (.if_icmp .le 6, 3) := by decide +kernel
theorem dX8_readPlan_51 : decode cX8_readPlan 51 = .ok (.bipush (-3), 2) := by decide +kernel
theorem dX8_readPlan_53 : decode cX8_readPlan 53 = .ok (.ireturn, 1) := by decide +kernel
theorem dX8_readPlan_54 : decode cX8_readPlan 54 = .ok (.aload_n 0, 1) := by decide +kernel
theorem dX8_readPlan_55 : decode cX8_readPlan 55 = .ok (.getfield 25, 3) := by decide +kernel
theorem dX8_readPlan_58 : decode cX8_readPlan 58 = .ok (.aload_n 0, 1) := by decide +kernel
theorem dX8_readPlan_59 : decode cX8_readPlan 59 = .ok (.getfield 10, 3) := by decide +kernel
theorem dX8_readPlan_62 : decode cX8_readPlan 62 = .ok (.invokevirtual 54, 3) := by decide +kernel
theorem dX8_readPlan_65 : decode cX8_readPlan 65 = .ok (.iconst 0, 1) := by decide +kernel
theorem dX8_readPlan_66 : decode cX8_readPlan 66 = .ok (.istore_n 2, 1) := by decide +kernel
theorem dX8_readPlan_67 : decode cX8_readPlan 67 = .ok (.iload_n 2, 1) := by decide +kernel
theorem dX8_readPlan_68 : decode cX8_readPlan 68 = .ok (.aload_n 0, 1) := by decide +kernel
theorem dX8_readPlan_69 : decode cX8_readPlan 69 = .ok (.getfield 32, 3) := by decide +kernel
theorem dX8_readPlan_72 : decode cX8_readPlan 72 = .ok (.getfield 75, 3) := by decide +kernel
theorem dX8_readPlan_75 : decode cX8_readPlan 75 = .ok (.if_icmp .ge 41, 3) := by decide +kernel
theorem dX8_readPlan_78 : decode cX8_readPlan 78 = .ok (.aload_n 0, 1) := by decide +kernel
theorem dX8_readPlan_79 : decode cX8_readPlan 79 = .ok (.getfield 10, 3) := by decide +kernel
theorem dX8_readPlan_82 : decode cX8_readPlan 82 = .ok (.getfield 58, 3) := by decide +kernel
theorem dX8_readPlan_85 : decode cX8_readPlan 85 = .ok (.aload_n 0, 1) := by decide +kernel
theorem dX8_readPlan_86 : decode cX8_readPlan 86 = .ok (.getfield 32, 3) := by decide +kernel
theorem dX8_readPlan_89 : decode cX8_readPlan 89 = .ok (.getfield 78, 3) := by decide +kernel
theorem dX8_readPlan_92 : decode cX8_readPlan 92 = .ok (.iload_n 2, 1) := by decide +kernel
theorem dX8_readPlan_93 : decode cX8_readPlan 93 = .ok (.invokevirtual 82, 3) := by decide +kernel
theorem dX8_readPlan_96 : decode cX8_readPlan 96 = .ok (.aload_n 0, 1) := by decide +kernel
theorem dX8_readPlan_97 : decode cX8_readPlan 97 = .ok (.getfield 32, 3) := by decide +kernel
theorem dX8_readPlan_100 : decode cX8_readPlan 100 = .ok (.getfield 87, 3) := by decide +kernel
theorem dX8_readPlan_103 : decode cX8_readPlan 103 = .ok (.iload_n 2, 1) := by decide +kernel
theorem dX8_readPlan_104 : decode cX8_readPlan 104 = .ok (.invokevirtual 82, 3) := by decide +kernel
theorem dX8_readPlan_107 : decode cX8_readPlan 107 = .ok (.invokevirtual 67, 3) := by decide +kernel
theorem dX8_readPlan_110 : decode cX8_readPlan 110 = .ok (.iinc 2 1, 3) := by decide +kernel
theorem dX8_readPlan_113 : decode cX8_readPlan 113 = .ok (.goto (-46), 3) := by decide +kernel
theorem dX8_readPlan_116 : decode cX8_readPlan 116 = .ok (.aload_n 0, 1) := by decide +kernel
theorem dX8_readPlan_117 : decode cX8_readPlan 117 = .ok (.getfield 10, 3) := by decide +kernel
theorem dX8_readPlan_120 : decode cX8_readPlan 120 = .ok (.getfield 58, 3) := by decide +kernel
theorem dX8_readPlan_123 : decode cX8_readPlan 123 = .ok (.getfield 62, 3) := by decide +kernel
theorem dX8_readPlan_126 : decode cX8_readPlan 126 = .ok (.ireturn, 1) := by decide +kernel
theorem dX8_write_0 : decode cX8_write 0 = .ok (.aload_n 0, 1) := by decide +kernel
theorem dX8_write_1 : decode cX8_write 1 = .ok (.getfield 10, 3) := by decide +kernel
theorem dX8_write_4 : decode cX8_write 4 = .ok (.invokevirtual 90, 3) := by decide +kernel
theorem dX8_write_7 : decode cX8_write 7 = .ok (.iconst (-1), 1) := by decide +kernel
theorem dX8_write_8 : decode cX8_write 8 = .ok (.if_icmp .ne 6, 3) := by decide +kernel
theorem dX8_write_11 : decode cX8_write 11 = .ok (.bipush (-4), 2) := by decide +kernel
theorem dX8_write_13 : decode cX8_write 13 = .ok (.ireturn, 1) := by decide +kernel
theorem dX8_write_14 : decode cX8_write 14 = .ok (.aload_n 0, 1) := by decide +kernel
theorem dX8_write_15 : decode cX8_write 15 = .ok (.getfield 25, 3) := by decide +kernel
theorem dX8_write_18 : decode cX8_write 18 = .ok (.aload_n 0, 1) := by decide +kernel
theorem dX8_write_19 : decode cX8_write 19 = .ok (.getfield 10, 3) := by decide +kernel
theorem dX8_write_22 : decode cX8_write 22 = .ok (.invokevirtual 54, 3) := by decide +kernel
theorem dX8_write_25 : decode cX8_write 25 = .ok (.aload_n 0, 1) := by decide +kernel
theorem dX8_write_26 : decode cX8_write 26 = .ok (.getfield 10, 3) := by decide +kernel
theorem dX8_write_29 : decode cX8_write 29 = .ok (.invokevirtual 93, 3) := by decide +kernel
theorem dX8_write_32 : decode cX8_write 32 = .ok (.ireturn, 1) := by decide +kernel
theorem dX8_pull_0 : decode cX8_pull 0 = .ok (.iload_n 1, 1) := by decide +kernel
theorem dX8_pull_1 : decode cX8_pull 1 = .ok (.ifCond .lt 8, 3) := by decide +kernel
theorem dX8_pull_4 : decode cX8_pull 4 = .ok (.iload_n 1, 1) := by decide +kernel
theorem dX8_pull_5 : decode cX8_pull 5 = .ok (.iconst 3, 1) := by decide +kernel
theorem dX8_pull_6 : decode cX8_pull 6 = .ok (.if_icmp .lt 5, 3) := by decide +kernel
theorem dX8_pull_9 : decode cX8_pull 9 = .ok (.iconst (-1), 1) := by decide +kernel
theorem dX8_pull_10 : decode cX8_pull 10 = .ok (.ireturn, 1) := by decide +kernel
theorem dX8_pull_11 : decode cX8_pull 11 = .ok (.aload_n 0, 1) := by decide +kernel
theorem dX8_pull_12 : decode cX8_pull 12 = .ok (.getfield 25, 3) := by decide +kernel
theorem dX8_pull_15 : decode cX8_pull 15 = .ok (.aload_n 0, 1) := by decide +kernel
theorem dX8_pull_16 : decode cX8_pull 16 = .ok (.getfield 10, 3) := by decide +kernel
theorem dX8_pull_19 : decode cX8_pull 19 = .ok (.invokevirtual 54, 3) := by decide +kernel
theorem dX8_pull_22 : decode cX8_pull 22 = .ok (.aload_n 0, 1) := by decide +kernel
theorem dX8_pull_23 : decode cX8_pull 23 = .ok (.getfield 10, 3) := by decide +kernel
theorem dX8_pull_26 : decode cX8_pull 26 = .ok (.getfield 44, 3) := by decide +kernel
theorem dX8_pull_29 : decode cX8_pull 29 = .ok (.iload_n 1, 1) := by decide +kernel
theorem dX8_pull_30 : decode cX8_pull 30 = .ok (.invokevirtual 96, 3) := by decide +kernel
theorem dX8_pull_33 : decode cX8_pull 33 = .ok (.aload_n 0, 1) := by decide +kernel
theorem dX8_pull_34 : decode cX8_pull 34 = .ok (.getfield 10, 3) := by decide +kernel
theorem dX8_pull_37 : decode cX8_pull 37 = .ok (.getfield 44, 3) := by decide +kernel
theorem dX8_pull_40 : decode cX8_pull 40 = .ok (.getfield 100, 3) := by decide +kernel
theorem dX8_pull_43 : decode cX8_pull 43 = .ok (.iload_n 1, 1) := by decide +kernel
theorem dX8_pull_44 : decode cX8_pull 44 = .ok (.invokevirtual 82, 3) := by decide +kernel
theorem dX8_pull_47 : decode cX8_pull 47 = .ok (.ireturn, 1) := by decide +kernel
theorem dX8_pin_0 : decode cX8_pin 0 = .ok (.iload_n 1, 1) := by decide +kernel
theorem dX8_pin_1 : decode cX8_pin 1 = .ok (.invokestatic 103, 3) := by decide +kernel
theorem dX8_pin_4 : decode cX8_pin 4 = .ok (.ifCond .ne 5, 3) := by decide +kernel
theorem dX8_pin_7 : decode cX8_pin 7 = .ok (.iconst (-1), 1) := by decide +kernel
theorem dX8_pin_8 : decode cX8_pin 8 = .ok (.ireturn, 1) := by decide +kernel
theorem dX8_pin_9 : decode cX8_pin 9 = .ok (.aload_n 0, 1) := by decide +kernel
theorem dX8_pin_10 : decode cX8_pin 10 = .ok (.getfield 10, 3) := by decide +kernel
theorem dX8_pin_13 : decode cX8_pin 13 = .ok (.getfield 44, 3) := by decide +kernel
theorem dX8_pin_16 : decode cX8_pin 16 = .ok (.iload_n 1, 1) := by decide +kernel
theorem dX8_pin_17 : decode cX8_pin 17 = .ok (.invokevirtual 107, 3) := by decide +kernel
theorem dX8_pin_20 : decode cX8_pin 20 = .ok (.iload_n 2, 1) := by decide +kernel
theorem dX8_pin_21 : decode cX8_pin 21 = .ok (.if_icmp .ne 6, 3) := by decide +kernel
theorem dX8_pin_24 : decode cX8_pin 24 = .ok (.bipush (-5), 2) := by decide +kernel
theorem dX8_pin_26 : decode cX8_pin 26 = .ok (.ireturn, 1) := by decide +kernel
theorem dX8_pin_27 : decode cX8_pin 27 = .ok (.aload_n 0, 1) := by decide +kernel
theorem dX8_pin_28 : decode cX8_pin 28 = .ok (.getfield 25, 3) := by decide +kernel
theorem dX8_pin_31 : decode cX8_pin 31 = .ok (.aload_n 0, 1) := by decide +kernel
theorem dX8_pin_32 : decode cX8_pin 32 = .ok (.getfield 10, 3) := by decide +kernel
theorem dX8_pin_35 : decode cX8_pin 35 = .ok (.invokevirtual 54, 3) := by decide +kernel
theorem dX8_pin_38 : decode cX8_pin 38 = .ok (.aload_n 0, 1) := by decide +kernel
theorem dX8_pin_39 : decode cX8_pin 39 = .ok (.getfield 10, 3) := by decide +kernel
theorem dX8_pin_42 : decode cX8_pin 42 = .ok (.getfield 44, 3) := by decide +kernel
theorem dX8_pin_45 : decode cX8_pin 45 = .ok (.dup, 1) := by decide +kernel
theorem dX8_pin_46 : decode cX8_pin 46 = .ok (.getfield 110, 3) := by decide +kernel
theorem dX8_pin_49 : decode cX8_pin 49 = .ok (.iconst 1, 1) := by decide +kernel
theorem dX8_pin_50 : decode cX8_pin 50 = .ok (.iload_n 1, 1) := by decide +kernel
theorem dX8_pin_51 : decode cX8_pin 51 = .ok (.ishl, 1) := by decide +kernel
theorem dX8_pin_52 : decode cX8_pin 52 = .ok (.ixor, 1) := by decide +kernel
theorem dX8_pin_53 : decode cX8_pin 53 = .ok (.putfield 110, 3) := by decide +kernel
theorem dX8_pin_56 : decode cX8_pin 56 = .ok (.aload_n 0, 1) := by decide +kernel
theorem dX8_pin_57 : decode cX8_pin 57 = .ok (.getfield 10, 3) := by decide +kernel
theorem dX8_pin_60 : decode cX8_pin 60 = .ok (.getfield 44, 3) := by decide +kernel
theorem dX8_pin_63 : decode cX8_pin 63 = .ok (.getfield 110, 3) := by decide +kernel
theorem dX8_pin_66 : decode cX8_pin 66 = .ok (.invokestatic 113, 3) := by decide +kernel
theorem dX8_pin_69 : decode cX8_pin 69 = .ok (.ireturn, 1) := by decide +kernel
theorem dX8_wipe_0 : decode cX8_wipe 0 = .ok (.iload_n 1, 1) := by decide +kernel
theorem dX8_wipe_1 : decode cX8_wipe 1 = .ok (.invokestatic 103, 3) := by decide +kernel
theorem dX8_wipe_4 : decode cX8_wipe 4 = .ok (.ifCond .ne 5, 3) := by decide +kernel
theorem dX8_wipe_7 : decode cX8_wipe 7 = .ok (.iconst (-1), 1) := by decide +kernel
theorem dX8_wipe_8 : decode cX8_wipe 8 = .ok (.ireturn, 1) := by decide +kernel
theorem dX8_wipe_9 : decode cX8_wipe 9 = .ok (.aload_n 0, 1) := by decide +kernel
theorem dX8_wipe_10 : decode cX8_wipe 10 = .ok (.getfield 10, 3) := by decide +kernel
theorem dX8_wipe_13 : decode cX8_wipe 13 = .ok (.getfield 44, 3) := by decide +kernel
theorem dX8_wipe_16 : decode cX8_wipe 16 = .ok (.iload_n 1, 1) := by decide +kernel
theorem dX8_wipe_17 : decode cX8_wipe 17 = .ok (.invokevirtual 107, 3) := by decide +kernel
theorem dX8_wipe_20 : decode cX8_wipe 20 = .ok (.ifCond .ne 17, 3) := by decide +kernel
theorem dX8_wipe_23 : decode cX8_wipe 23 = .ok (.aload_n 0, 1) := by decide +kernel
theorem dX8_wipe_24 : decode cX8_wipe 24 = .ok (.getfield 10, 3) := by decide +kernel
theorem dX8_wipe_27 : decode cX8_wipe 27 = .ok (.getfield 44, 3) := by decide +kernel
theorem dX8_wipe_30 : decode cX8_wipe 30 = .ok (.iload_n 1, 1) := by decide +kernel
theorem dX8_wipe_31 : decode cX8_wipe 31 = .ok (.invokevirtual 118, 3) := by decide +kernel
theorem dX8_wipe_34 : decode cX8_wipe 34 = .ok (.ifCond .ne 6, 3) := by decide +kernel
theorem dX8_wipe_37 : decode cX8_wipe 37 = .ok (.bipush (-4), 2) := by decide +kernel
theorem dX8_wipe_39 : decode cX8_wipe 39 = .ok (.ireturn, 1) := by decide +kernel
theorem dX8_wipe_40 : decode cX8_wipe 40 = .ok (.aload_n 0, 1) := by decide +kernel
theorem dX8_wipe_41 : decode cX8_wipe 41 = .ok (.getfield 10, 3) := by decide +kernel
theorem dX8_wipe_44 : decode cX8_wipe 44 = .ok (.getfield 44, 3) := by decide +kernel
theorem dX8_wipe_47 : decode cX8_wipe 47 = .ok (.getfield 121, 3) := by decide +kernel
theorem dX8_wipe_50 : decode cX8_wipe 50 = .ok (.iload_n 1, 1) := by decide +kernel
theorem dX8_wipe_51 : decode cX8_wipe 51 = .ok (.invokevirtual 82, 3) := by decide +kernel
theorem dX8_wipe_54 : decode cX8_wipe 54 = .ok (.istore_n 2, 1) := by decide +kernel
theorem dX8_wipe_55 : decode cX8_wipe 55 = .ok (.iload_n 2, 1) := by decide +kernel
theorem dX8_wipe_56 : decode cX8_wipe 56 = .ok (.ifCond .ne 6, 3) := by decide +kernel
theorem dX8_wipe_59 : decode cX8_wipe 59 = .ok (.bipush (-5), 2) := by decide +kernel
theorem dX8_wipe_61 : decode cX8_wipe 61 = .ok (.ireturn, 1) := by decide +kernel
theorem dX8_wipe_62 : decode cX8_wipe 62 = .ok (.aload_n 0, 1) := by decide +kernel
theorem dX8_wipe_63 : decode cX8_wipe 63 = .ok (.getfield 25, 3) := by decide +kernel
theorem dX8_wipe_66 : decode cX8_wipe 66 = .ok (.aload_n 0, 1) := by decide +kernel
theorem dX8_wipe_67 : decode cX8_wipe 67 = .ok (.getfield 10, 3) := by decide +kernel
theorem dX8_wipe_70 : decode cX8_wipe 70 = .ok (.invokevirtual 54, 3) := by decide +kernel
theorem dX8_wipe_73 : decode cX8_wipe 73 = .ok (.aload_n 0, 1) := by decide +kernel
theorem dX8_wipe_74 : decode cX8_wipe 74 = .ok (.getfield 10, 3) := by decide +kernel
theorem dX8_wipe_77 : decode cX8_wipe 77 = .ok (.getfield 44, 3) := by decide +kernel
theorem dX8_wipe_80 : decode cX8_wipe 80 = .ok (.iload_n 1, 1) := by decide +kernel
theorem dX8_wipe_81 : decode cX8_wipe 81 = .ok (.invokevirtual 124, 3) := by decide +kernel
theorem dX8_wipe_84 : decode cX8_wipe 84 = .ok (.iload_n 2, 1) := by decide +kernel
theorem dX8_wipe_85 : decode cX8_wipe 85 = .ok (.invokestatic 113, 3) := by decide +kernel
theorem dX8_wipe_88 : decode cX8_wipe 88 = .ok (.ireturn, 1) := by decide +kernel
theorem dX8_photo_0 : decode cX8_photo 0 = .ok (.iload_n 1, 1) := by decide +kernel
theorem dX8_photo_1 : decode cX8_photo 1 = .ok (.invokestatic 103, 3) := by decide +kernel
theorem dX8_photo_4 : decode cX8_photo 4 = .ok (.ifCond .ne 5, 3) := by decide +kernel
theorem dX8_photo_7 : decode cX8_photo 7 = .ok (.iconst (-1), 1) := by decide +kernel
theorem dX8_photo_8 : decode cX8_photo 8 = .ok (.ireturn, 1) := by decide +kernel
theorem dX8_photo_9 : decode cX8_photo 9 = .ok (.aload_n 0, 1) := by decide +kernel
theorem dX8_photo_10 : decode cX8_photo 10 = .ok (.getfield 10, 3) := by decide +kernel
theorem dX8_photo_13 : decode cX8_photo 13 = .ok (.getfield 44, 3) := by decide +kernel
theorem dX8_photo_16 : decode cX8_photo 16 = .ok (.getfield 121, 3) := by decide +kernel
theorem dX8_photo_19 : decode cX8_photo 19 = .ok (.iload_n 1, 1) := by decide +kernel
theorem dX8_photo_20 : decode cX8_photo 20 = .ok (.invokevirtual 82, 3) := by decide +kernel
theorem dX8_photo_23 : decode cX8_photo 23 = .ok (.istore_n 2, 1) := by decide +kernel
theorem dX8_photo_24 : decode cX8_photo 24 = .ok (.aload_n 0, 1) := by decide +kernel
theorem dX8_photo_25 : decode cX8_photo 25 = .ok (.getfield 10, 3) := by decide +kernel
theorem dX8_photo_28 : decode cX8_photo 28 = .ok (.getfield 44, 3) := by decide +kernel
theorem dX8_photo_31 : decode cX8_photo 31 = .ok (.iload_n 1, 1) := by decide +kernel
theorem dX8_photo_32 : decode cX8_photo 32 = .ok (.invokevirtual 118, 3) := by decide +kernel
theorem dX8_photo_35 : decode cX8_photo 35 = .ok (.ifCond .eq 7, 3) := by decide +kernel
theorem dX8_photo_38 : decode cX8_photo 38 = .ok (.iload_n 2, 1) := by decide +kernel
theorem dX8_photo_39 : decode cX8_photo 39 = .ok (.ifCond .ne 6, 3) := by decide +kernel
theorem dX8_photo_42 : decode cX8_photo 42 = .ok (.bipush (-4), 2) := by decide +kernel
theorem dX8_photo_44 : decode cX8_photo 44 = .ok (.ireturn, 1) := by decide +kernel
theorem dX8_photo_45 : decode cX8_photo 45 = .ok (.aload_n 0, 1) := by decide +kernel
theorem dX8_photo_46 : decode cX8_photo 46 = .ok (.getfield 10, 3) := by decide +kernel
theorem dX8_photo_49 : decode cX8_photo 49 = .ok (.getfield 127, 3) := by decide +kernel
theorem dX8_photo_52 : decode cX8_photo 52 = .ok (.getfield 131, 3) := by decide +kernel
theorem dX8_photo_55 : decode cX8_photo 55 = .ok (.bipush 40, 2) := by decide +kernel
theorem dX8_photo_57 : decode cX8_photo 57 = .ok (.if_icmp .lt 6, 3) := by decide +kernel
theorem dX8_photo_60 : decode cX8_photo 60 = .ok (.bipush (-3), 2) := by decide +kernel
theorem dX8_photo_62 : decode cX8_photo 62 = .ok (.ireturn, 1) := by decide +kernel
theorem dX8_photo_63 : decode cX8_photo 63 = .ok (.aload_n 0, 1) := by decide +kernel
theorem dX8_photo_64 : decode cX8_photo 64 = .ok (.getfield 25, 3) := by decide +kernel
theorem dX8_photo_67 : decode cX8_photo 67 = .ok (.aload_n 0, 1) := by decide +kernel
theorem dX8_photo_68 : decode cX8_photo 68 = .ok (.getfield 10, 3) := by decide +kernel
theorem dX8_photo_71 : decode cX8_photo 71 = .ok (.invokevirtual 54, 3) := by decide +kernel
theorem dX8_photo_74 : decode cX8_photo 74 = .ok (.iload_n 2, 1) := by decide +kernel
theorem dX8_photo_75 : decode cX8_photo 75 = .ok (.aload_n 0, 1) := by decide +kernel
theorem dX8_photo_76 : decode cX8_photo 76 = .ok (.getfield 10, 3) := by decide +kernel
theorem dX8_photo_79 : decode cX8_photo 79 = .ok (.getfield 127, 3) := by decide +kernel
theorem dX8_photo_82 : decode cX8_photo 82 = .ok (.getfield 136, 3) := by decide +kernel
theorem dX8_photo_85 : decode cX8_photo 85 = .ok (.iconst (-1), 1) := by decide +kernel
theorem dX8_photo_86 : decode cX8_photo 86 = .ok (.ixor, 1) := by decide +kernel
theorem dX8_photo_87 : decode cX8_photo 87 = .ok (.iand, 1) := by decide +kernel
theorem dX8_photo_88 : decode cX8_photo 88 = .ok (.istore_n 3, 1) := by decide +kernel
theorem dX8_photo_89 : decode cX8_photo 89 = .ok (.aload_n 0, 1) := by decide +kernel
theorem dX8_photo_90 : decode cX8_photo 90 = .ok (.getfield 10, 3) := by decide +kernel
theorem dX8_photo_93 : decode cX8_photo 93 = .ok (.getfield 127, 3) := by decide +kernel
theorem dX8_photo_96 : decode cX8_photo 96 = .ok (.iload_n 1, 1) := by decide +kernel
theorem dX8_photo_97 : decode cX8_photo 97 = .ok (.iload_n 2, 1) := by decide +kernel
theorem dX8_photo_98 : decode cX8_photo 98 = .ok (.invokevirtual 139, 3) := by decide +kernel
theorem dX8_photo_101 : decode cX8_photo 101 = .ok (.iload_n 3, 1) := by decide +kernel
theorem dX8_photo_102 : decode cX8_photo 102 = .ok (.invokestatic 113, 3) := by decide +kernel
theorem dX8_photo_105 : decode cX8_photo 105 = .ok (.ireturn, 1) := by decide +kernel
theorem dX8_ask_0 : decode cX8_ask 0 = .ok (.aload_n 0, 1) := by decide +kernel
theorem dX8_ask_1 : decode cX8_ask 1 = .ok (.getfield 10, 3) := by decide +kernel
theorem dX8_ask_4 : decode cX8_ask 4 = .ok (.getfield 58, 3) := by decide +kernel
theorem dX8_ask_7 : decode cX8_ask 7 = .ok (.iload_n 1, 1) := by decide +kernel
theorem dX8_ask_8 : decode cX8_ask 8 = .ok (.invokevirtual 142, 3) := by decide +kernel
theorem dX8_ask_11 : decode cX8_ask 11 = .ok (.ifCond .ne 5, 3) := by decide +kernel
theorem dX8_ask_14 : decode cX8_ask 14 = .ok (.iconst (-1), 1) := by decide +kernel
theorem dX8_ask_15 : decode cX8_ask 15 = .ok (.ireturn, 1) := by decide +kernel
theorem dX8_ask_16 : decode cX8_ask 16 = .ok (.iload_n 1, 1) := by decide +kernel
theorem dX8_ask_17 : decode cX8_ask 17 = .ok (.aload_n 0, 1) := by decide +kernel
theorem dX8_ask_18 : decode cX8_ask 18 = .ok (.getfield 10, 3) := by decide +kernel
theorem dX8_ask_21 : decode cX8_ask 21 = .ok (.getfield 58, 3) := by decide +kernel
theorem dX8_ask_24 : decode cX8_ask 24 = .ok (.getfield 145, 3) := by decide +kernel
theorem dX8_ask_27 : decode cX8_ask 27 = .ok (.if_icmp .lt 6, 3) := by decide +kernel
theorem dX8_ask_30 : decode cX8_ask 30 = .ok (.bipush (-4), 2) := by decide +kernel
theorem dX8_ask_32 : decode cX8_ask 32 = .ok (.ireturn, 1) := by decide +kernel
theorem dX8_ask_33 : decode cX8_ask 33 = .ok (.aload_n 0, 1) := by decide +kernel
theorem dX8_ask_34 : decode cX8_ask 34 = .ok (.getfield 25, 3) := by decide +kernel
theorem dX8_ask_37 : decode cX8_ask 37 = .ok (.aload_n 0, 1) := by decide +kernel
theorem dX8_ask_38 : decode cX8_ask 38 = .ok (.getfield 10, 3) := by decide +kernel
theorem dX8_ask_41 : decode cX8_ask 41 = .ok (.invokevirtual 54, 3) := by decide +kernel
theorem dX8_ask_44 : decode cX8_ask 44 = .ok (.aload_n 0, 1) := by decide +kernel
theorem dX8_ask_45 : decode cX8_ask 45 = .ok (.getfield 10, 3) := by decide +kernel
theorem dX8_ask_48 : decode cX8_ask 48 = .ok (.iload_n 1, 1) := by decide +kernel
theorem dX8_ask_49 : decode cX8_ask 49 = .ok (.invokevirtual 148, 3) := by decide +kernel
theorem dX8_ask_52 : decode cX8_ask 52 = .ok (.ireturn, 1) := by decide +kernel
theorem dX8_type_0 : decode cX8_type 0 = .ok (.aload_n 0, 1) := by decide +kernel
theorem dX8_type_1 : decode cX8_type 1 = .ok (.getfield 32, 3) := by decide +kernel
theorem dX8_type_4 : decode cX8_type 4 = .ok (.getfield 151, 3) := by decide +kernel
theorem dX8_type_7 : decode cX8_type 7 = .ok (.bipush 60, 2) := by decide +kernel
theorem dX8_type_9 : decode cX8_type 9 = .ok (.if_icmp .lt 6, 3) := by decide +kernel
theorem dX8_type_12 : decode cX8_type 12 = .ok (.bipush (-3), 2) := by decide +kernel
theorem dX8_type_14 : decode cX8_type 14 = .ok (.ireturn, 1) := by decide +kernel
theorem dX8_type_15 : decode cX8_type 15 = .ok (.aload_n 0, 1) := by decide +kernel
theorem dX8_type_16 : decode cX8_type 16 = .ok (.getfield 32, 3) := by decide +kernel
theorem dX8_type_19 : decode cX8_type 19 = .ok (.iload_n 1, 1) := by decide +kernel
theorem dX8_type_20 : decode cX8_type 20 = .ok (.invokevirtual 154, 3) := by decide +kernel
theorem dX8_type_23 : decode cX8_type 23 = .ok (.aload_n 0, 1) := by decide +kernel
theorem dX8_type_24 : decode cX8_type 24 = .ok (.getfield 32, 3) := by decide +kernel
theorem dX8_type_27 : decode cX8_type 27 = .ok (.getfield 151, 3) := by decide +kernel
theorem dX8_type_30 : decode cX8_type 30 = .ok (.ireturn, 1) := by decide +kernel
theorem dX8_clearText_0 : decode cX8_clearText 0 = .ok (.aload_n 0, 1) := by decide +kernel
theorem dX8_clearText_1 : decode cX8_clearText 1 = .ok (.getfield 32, 3) := by decide +kernel
theorem dX8_clearText_4 : decode cX8_clearText 4 = .ok (.getfield 151, 3) := by decide +kernel
theorem dX8_clearText_7 : decode cX8_clearText 7 = .ok (.istore_n 1, 1) := by decide +kernel
theorem dX8_clearText_8 : decode cX8_clearText 8 = .ok (.aload_n 0, 1) := by decide +kernel
theorem dX8_clearText_9 : decode cX8_clearText 9 = .ok (.getfield 32, 3) := by decide +kernel
theorem dX8_clearText_12 : decode cX8_clearText 12 = .ok (.iconst 0, 1) := by decide +kernel
theorem dX8_clearText_13 : decode cX8_clearText 13 = .ok (.putfield 151, 3) := by decide +kernel
theorem dX8_clearText_16 : decode cX8_clearText 16 = .ok (.iload_n 1, 1) := by decide +kernel
theorem dX8_clearText_17 : decode cX8_clearText 17 = .ok (.ireturn, 1) := by decide +kernel
theorem dX8_undo_0 : decode cX8_undo 0 = .ok (.aload_n 0, 1) := by decide +kernel
theorem dX8_undo_1 : decode cX8_undo 1 = .ok (.getfield 25, 3) := by decide +kernel
theorem dX8_undo_4 : decode cX8_undo 4 = .ok (.getfield 158, 3) := by decide +kernel
theorem dX8_undo_7 : decode cX8_undo 7 = .ok (.ifCond .ne 6, 3) := by decide +kernel
theorem dX8_undo_10 : decode cX8_undo 10 = .ok (.bipush (-5), 2) := by decide +kernel
theorem dX8_undo_12 : decode cX8_undo 12 = .ok (.ireturn, 1) := by decide +kernel
theorem dX8_undo_13 : decode cX8_undo 13 = .ok (.aload_n 0, 1) := by decide +kernel
theorem dX8_undo_14 : decode cX8_undo 14 = .ok (.getfield 25, 3) := by decide +kernel
theorem dX8_undo_17 : decode cX8_undo 17 = .ok (.aload_n 0, 1) := by decide +kernel
theorem dX8_undo_18 : decode cX8_undo 18 = .ok (.getfield 10, 3) := by decide +kernel
theorem dX8_undo_21 : decode cX8_undo 21 = .ok (.invokevirtual 161, 3) := by decide +kernel
theorem dX8_undo_24 : decode cX8_undo 24 = .ok (.aload_n 0, 1) := by decide +kernel
theorem dX8_undo_25 : decode cX8_undo 25 = .ok (.getfield 25, 3) := by decide +kernel
theorem dX8_undo_28 : decode cX8_undo 28 = .ok (.getfield 158, 3) := by decide +kernel
theorem dX8_undo_31 : decode cX8_undo 31 = .ok (.ireturn, 1) := by decide +kernel
theorem dX8_keep_0 : decode cX8_keep 0 = .ok (.aload_n 0, 1) := by decide +kernel
theorem dX8_keep_1 : decode cX8_keep 1 = .ok (.getfield 19, 3) := by decide +kernel
theorem dX8_keep_4 : decode cX8_keep 4 = .ok (.aload_n 0, 1) := by decide +kernel
theorem dX8_keep_5 : decode cX8_keep 5 = .ok (.getfield 10, 3) := by decide +kernel
theorem dX8_keep_8 : decode cX8_keep 8 = .ok (.invokevirtual 164, 3) := by decide +kernel
theorem dX8_keep_11 : decode cX8_keep 11 = .ok (.aload_n 0, 1) := by decide +kernel
theorem dX8_keep_12 : decode cX8_keep 12 = .ok (.iconst 1, 1) := by decide +kernel
theorem dX8_keep_13 : decode cX8_keep 13 = .ok (.putfield 36, 3) := by decide +kernel
theorem dX8_keep_16 : decode cX8_keep 16 = .ok (.aload_n 0, 1) := by decide +kernel
theorem dX8_keep_17 : decode cX8_keep 17 = .ok (.getfield 10, 3) := by decide +kernel
theorem dX8_keep_20 : decode cX8_keep 20 = .ok (.getfield 58, 3) := by decide +kernel
theorem dX8_keep_23 : decode cX8_keep 23 = .ok (.getfield 145, 3) := by decide +kernel
theorem dX8_keep_26 : decode cX8_keep 26 = .ok (.ireturn, 1) := by decide +kernel
theorem dX8_restore_0 : decode cX8_restore 0 = .ok (.aload_n 0, 1) := by decide +kernel
theorem dX8_restore_1 : decode cX8_restore 1 = .ok (.getfield 36, 3) := by decide +kernel
theorem dX8_restore_4 : decode cX8_restore 4 = .ok (.ifCond .ne 6, 3) := by decide +kernel
theorem dX8_restore_7 : decode cX8_restore 7 = .ok (.bipush (-5), 2) := by decide +kernel
theorem dX8_restore_9 : decode cX8_restore 9 = .ok (.ireturn, 1) := by decide +kernel
theorem dX8_restore_10 : decode cX8_restore 10 = .ok (.aload_n 0, 1) := by decide +kernel
theorem dX8_restore_11 : decode cX8_restore 11 = .ok (.getfield 25, 3) := by decide +kernel
theorem dX8_restore_14 : decode cX8_restore 14 = .ok (.aload_n 0, 1) := by decide +kernel
theorem dX8_restore_15 : decode cX8_restore 15 = .ok (.getfield 10, 3) := by decide +kernel
theorem dX8_restore_18 : decode cX8_restore 18 = .ok (.invokevirtual 54, 3) := by decide +kernel
theorem dX8_restore_21 : decode cX8_restore 21 = .ok (.aload_n 0, 1) := by decide +kernel
theorem dX8_restore_22 : decode cX8_restore 22 = .ok (.getfield 10, 3) := by decide +kernel
theorem dX8_restore_25 : decode cX8_restore 25 = .ok (.aload_n 0, 1) := by decide +kernel
theorem dX8_restore_26 : decode cX8_restore 26 = .ok (.getfield 19, 3) := by decide +kernel
theorem dX8_restore_29 : decode cX8_restore 29 = .ok (.invokevirtual 164, 3) := by decide +kernel
theorem dX8_restore_32 : decode cX8_restore 32 = .ok (.aload_n 0, 1) := by decide +kernel
theorem dX8_restore_33 : decode cX8_restore 33 = .ok (.getfield 10, 3) := by decide +kernel
theorem dX8_restore_36 : decode cX8_restore 36 = .ok (.getfield 58, 3) := by decide +kernel
theorem dX8_restore_39 : decode cX8_restore 39 = .ok (.getfield 145, 3) := by decide +kernel
theorem dX8_restore_42 : decode cX8_restore 42 = .ok (.ireturn, 1) := by decide +kernel
theorem dX8_panel_0 : decode cX8_panel 0 = .ok (.iload_n 1, 1) := by decide +kernel
theorem dX8_panel_1 : decode cX8_panel 1 = .ok (.invokestatic 103, 3) := by decide +kernel
theorem dX8_panel_4 : decode cX8_panel 4 = .ok (.ifCond .ne 5, 3) := by decide +kernel
theorem dX8_panel_7 : decode cX8_panel 7 = .ok (.iconst (-1), 1) := by decide +kernel
theorem dX8_panel_8 : decode cX8_panel 8 = .ok (.ireturn, 1) := by decide +kernel
theorem dX8_panel_9 : decode cX8_panel 9 = .ok (.aload_n 0, 1) := by decide +kernel
theorem dX8_panel_10 : decode cX8_panel 10 = .ok (.getfield 10, 3) := by decide +kernel
theorem dX8_panel_13 : decode cX8_panel 13 = .ok (.getfield 44, 3) := by decide +kernel
theorem dX8_panel_16 : decode cX8_panel 16 = .ok (.astore_n 3, 1) := by decide +kernel
theorem dX8_panel_17 : decode cX8_panel 17 = .ok (.iload_n 2, 1) := by decide +kernel
theorem dX8_panel_18 : decode cX8_panel 18 = .ok (.tableswitch 115 0 5 #[38, 47, 56, 70, 84, 93], 38) := by decide +kernel
theorem dX8_panel_56 : decode cX8_panel 56 = .ok (.aload_n 3, 1) := by decide +kernel
theorem dX8_panel_57 : decode cX8_panel 57 = .ok (.getfield 121, 3) := by decide +kernel
theorem dX8_panel_60 : decode cX8_panel 60 = .ok (.iload_n 1, 1) := by decide +kernel
theorem dX8_panel_61 : decode cX8_panel 61 = .ok (.invokevirtual 82, 3) := by decide +kernel
