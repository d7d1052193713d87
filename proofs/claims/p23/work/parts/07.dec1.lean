theorem dX0_init_0 : decode cX0_init 0 = .ok (.aload_n 0, 1) := by decide +kernel
theorem dX0_init_1 : decode cX0_init 1 = .ok (.invokespecial 3, 3) := by decide +kernel
theorem dX0_init_4 : decode cX0_init 4 = .ok (.aload_n 0, 1) := by decide +kernel
theorem dX0_init_5 : decode cX0_init 5 = .ok (.new 9, 3) := by decide +kernel
theorem dX0_init_8 : decode cX0_init 8 = .ok (.dup, 1) := by decide +kernel
theorem dX0_init_9 : decode cX0_init 9 = .ok (.bipush 6, 2) := by decide +kernel
theorem dX0_init_11 : decode cX0_init 11 = .ok (.invokespecial 11, 3) := by decide +kernel
theorem dX0_init_14 : decode cX0_init 14 = .ok (.putfield 14, 3) := by decide +kernel
theorem dX0_init_17 : decode cX0_init 17 = .ok (.aload_n 0, 1) := by decide +kernel
theorem dX0_init_18 : decode cX0_init 18 = .ok (.new 9, 3) := by decide +kernel
theorem dX0_init_21 : decode cX0_init 21 = .ok (.dup, 1) := by decide +kernel
theorem dX0_init_22 : decode cX0_init 22 = .ok (.bipush 6, 2) := by decide +kernel
theorem dX0_init_24 : decode cX0_init 24 = .ok (.invokespecial 11, 3) := by decide +kernel
theorem dX0_init_27 : decode cX0_init 27 = .ok (.putfield 20, 3) := by decide +kernel
theorem dX0_init_30 : decode cX0_init 30 = .ok (.aload_n 0, 1) := by decide +kernel
theorem dX0_init_31 : decode cX0_init 31 = .ok (.new 9, 3) := by decide +kernel
theorem dX0_init_34 : decode cX0_init 34 = .ok (.dup, 1) := by decide +kernel
theorem dX0_init_35 : decode cX0_init 35 = .ok (.iconst 3, 1) := by decide +kernel
theorem dX0_init_36 : decode cX0_init 36 = .ok (.invokespecial 11, 3) := by decide +kernel
theorem dX0_init_39 : decode cX0_init 39 = .ok (.putfield 23, 3) := by decide +kernel
theorem dX0_init_42 : decode cX0_init 42 = .ok (.aload_n 0, 1) := by decide +kernel
theorem dX0_init_43 : decode cX0_init 43 = .ok (.bipush 12, 2) := by decide +kernel
theorem dX0_init_45 : decode cX0_init 45 = .ok (.putfield 26, 3) := by decide +kernel
theorem dX0_init_48 : decode cX0_init 48 = .ok (.iconst 0, 1) := by decide +kernel
theorem dX0_init_49 : decode cX0_init 49 = .ok (.istore_n 1, 1) := by decide +kernel
theorem dX0_init_50 : decode cX0_init 50 = .ok (.iload_n 1, 1) := by decide +kernel
theorem dX0_init_51 : decode cX0_init 51 = .ok (.iconst 3, 1) := by decide +kernel
theorem dX0_init_52 : decode cX0_init 52 = .ok (.if_icmp .ge 20, 3) := by decide +kernel
theorem dX0_init_55 : decode cX0_init 55 = .ok (.aload_n 0, 1) := by decide +kernel
theorem dX0_init_56 : decode cX0_init 56 = .ok (.getfield 23, 3) := by decide +kernel
theorem dX0_init_59 : decode cX0_init 59 = .ok (.iload_n 1, 1) := by decide +kernel
theorem dX0_init_60 : decode cX0_init 60 = .ok (.iconst 2, 1) := by decide +kernel
theorem dX0_init_61 : decode cX0_init 61 = .ok (.iload_n 1, 1) := by decide +kernel
theorem dX0_init_62 : decode cX0_init 62 = .ok (.imul, 1) := by decide +kernel
theorem dX0_init_63 : decode cX0_init 63 = .ok (.invokevirtual 30, 3) := by decide +kernel
theorem dX0_init_66 : decode cX0_init 66 = .ok (.iinc 1 1, 3) := by decide +kernel
theorem dX0_init_69 : decode cX0_init 69 = .ok (.goto (-19), 3) := by decide +kernel
theorem dX0_init_72 : decode cX0_init 72 = .ok (.return_, 1) := by decide +kernel
theorem dX0_isInFront_0 : decode cX0_isInFront 0 = .ok (.aload_n 0, 1) := by decide +kernel
theorem dX0_isInFront_1 : decode cX0_isInFront 1 = .ok (.getfield 23, 3) := by decide +kernel
theorem dX0_isInFront_4 : decode cX0_isInFront 4 = .ok (.iload_n 1, 1) := by decide +kernel
theorem dX0_isInFront_5 : decode cX0_isInFront 5 = .ok (.invokestatic 34, 3) := by decide +kernel
theorem dX0_isInFront_8 : decode cX0_isInFront 8 = .ok (.invokevirtual 38, 3) := by decide +kernel
theorem dX0_isInFront_11 : decode cX0_isInFront 11 = .ok (.iload_n 1, 1) := by decide +kernel
theorem dX0_isInFront_12 : decode cX0_isInFront 12 = .ok (.if_icmp .ne 7, 3) := by decide +kernel
theorem dX0_isInFront_15 : decode cX0_isInFront 15 = .ok (.iconst 1, 1) := by decide +kernel
theorem dX0_isInFront_16 : decode cX0_isInFront 16 = .ok (.goto 4, 3) := by decide +kernel
theorem dX0_isInFront_19 : decode cX0_isInFront 19 = .ok (.iconst 0, 1) := by decide +kernel
theorem dX0_isInFront_20 : decode cX0_isInFront 20 = .ok (.ireturn, 1) := by decide +kernel
theorem dX0_isPinned_0 : decode cX0_isPinned 0 = .ok (.aload_n 0, 1) := by decide +kernel
theorem dX0_isPinned_1 : decode cX0_isPinned 1 = .ok (.getfield 41, 3) := by decide +kernel
theorem dX0_isPinned_4 : decode cX0_isPinned 4 = .ok (.iload_n 1, 1) := by decide +kernel
theorem dX0_isPinned_5 : decode cX0_isPinned 5 = .ok (.ishr, 1) := by decide +kernel
theorem dX0_isPinned_6 : decode cX0_isPinned 6 = .ok (.iconst 1, 1) := by decide +kernel
theorem dX0_isPinned_7 : decode cX0_isPinned 7 = .ok (.iand, 1) := by decide +kernel
theorem dX0_isPinned_8 : decode cX0_isPinned 8 = .ok (.iconst 1, 1) := by decide +kernel
theorem dX0_isPinned_9 : decode cX0_isPinned 9 = .ok (.if_icmp .ne 7, 3) := by decide +kernel
theorem dX0_isPinned_12 : decode cX0_isPinned 12 = .ok (.iconst 1, 1) := by decide +kernel
theorem dX0_isPinned_13 : decode cX0_isPinned 13 = .ok (.goto 4, 3) := by decide +kernel
theorem dX0_isPinned_16 : decode cX0_isPinned 16 = .ok (.iconst 0, 1) := by decide +kernel
theorem dX0_isPinned_17 : decode cX0_isPinned 17 = .ok (.ireturn, 1) := by decide +kernel
theorem dX0_turn_0 : decode cX0_turn 0 = .ok (.aload_n 0, 1) := by decide +kernel
theorem dX0_turn_1 : decode cX0_turn 1 = .ok (.getfield 23, 3) := by decide +kernel
theorem dX0_turn_4 : decode cX0_turn 4 = .ok (.iload_n 1, 1) := by decide +kernel
theorem dX0_turn_5 : decode cX0_turn 5 = .ok (.aload_n 0, 1) := by decide +kernel
theorem dX0_turn_6 : decode cX0_turn 6 = .ok (.getfield 23, 3) := by decide +kernel
theorem dX0_turn_9 : decode cX0_turn 9 = .ok (.iload_n 1, 1) := by decide +kernel
theorem dX0_turn_10 : decode cX0_turn 10 = .ok (.invokevirtual 38, 3) := by decide +kernel
theorem dX0_turn_13 : decode cX0_turn 13 = .ok (.iconst 1, 1) := by decide +kernel
theorem dX0_turn_14 : decode cX0_turn 14 = .ok (.ixor, 1) := by decide +kernel
theorem dX0_turn_15 : decode cX0_turn 15 = .ok (.invokevirtual 30, 3) := by decide +kernel
theorem dX0_turn_18 : decode cX0_turn 18 = .ok (.aload_n 0, 1) := by decide +kernel
theorem dX0_turn_19 : decode cX0_turn 19 = .ok (.dup, 1) := by decide +kernel
theorem dX0_turn_20 : decode cX0_turn 20 = .ok (.getfield 44, 3) := by decide +kernel
theorem dX0_turn_23 : decode cX0_turn 23 = .ok (.iconst 1, 1) := by decide +kernel
theorem dX0_turn_24 : decode cX0_turn 24 = .ok (.iadd, 1) := by decide +kernel
theorem dX0_turn_25 : decode cX0_turn 25 = .ok (.putfield 44, 3) := by decide +kernel
theorem dX0_turn_28 : decode cX0_turn 28 = .ok (.return_, 1) := by decide +kernel
theorem dX0_bringToFront_0 : decode cX0_bringToFront 0 = .ok (.aload_n 0, 1) := by decide +kernel
theorem dX0_bringToFront_1 : decode cX0_bringToFront 1 = .ok (.iload_n 1, 1) := by decide +kernel
theorem dX0_bringToFront_2 : decode cX0_bringToFront 2 = .ok (.invokevirtual 47, 3) := by decide +kernel
theorem dX0_bringToFront_5 : decode cX0_bringToFront 5 = .ok (.ifCond .ne 11, 3) := by decide +kernel
theorem dX0_bringToFront_8 : decode cX0_bringToFront 8 = .ok (.aload_n 0, 1) := by decide +kernel
theorem dX0_bringToFront_9 : decode cX0_bringToFront 9 = .ok (.iload_n 1, 1) := by decide +kernel
theorem dX0_bringToFront_10 : decode cX0_bringToFront 10 = .ok (.invokestatic 34, 3) := by decide +kernel
theorem dX0_bringToFront_13 : decode cX0_bringToFront 13 = .ok (.invokevirtual 51, 3) := by decide +kernel
theorem dX0_bringToFront_16 : decode cX0_bringToFront 16 = .ok (.return_, 1) := by decide +kernel
theorem dX0_clean_0 : decode cX0_clean 0 = .ok (.aload_n 0, 1) := by decide +kernel
theorem dX0_clean_1 : decode cX0_clean 1 = .ok (.getfield 14, 3) := by decide +kernel
theorem dX0_clean_4 : decode cX0_clean 4 = .ok (.iload_n 1, 1) := by decide +kernel
theorem dX0_clean_5 : decode cX0_clean 5 = .ok (.iconst 0, 1) := by decide +kernel
theorem dX0_clean_6 : decode cX0_clean 6 = .ok (.invokevirtual 30, 3) := by decide +kernel
theorem dX0_clean_9 : decode cX0_clean 9 = .ok (.aload_n 0, 1) := by decide +kernel
theorem dX0_clean_10 : decode cX0_clean 10 = .ok (.getfield 20, 3) := by decide +kernel
theorem dX0_clean_13 : decode cX0_clean 13 = .ok (.iload_n 1, 1) := by decide +kernel
theorem dX0_clean_14 : decode cX0_clean 14 = .ok (.invokevirtual 54, 3) := by decide +kernel
theorem dX0_clean_17 : decode cX0_clean 17 = .ok (.return_, 1) := by decide +kernel
theorem dX0_bear_0 : decode cX0_bear 0 = .ok (.aload_n 0, 1) := by decide +kernel
theorem dX0_bear_1 : decode cX0_bear 1 = .ok (.getfield 14, 3) := by decide +kernel
theorem dX0_bear_4 : decode cX0_bear 4 = .ok (.iload_n 1, 1) := by decide +kernel
theorem dX0_bear_5 : decode cX0_bear 5 = .ok (.aload_n 0, 1) := by decide +kernel
theorem dX0_bear_6 : decode cX0_bear 6 = .ok (.getfield 14, 3) := by decide +kernel
theorem dX0_bear_9 : decode cX0_bear 9 = .ok (.iload_n 1, 1) := by decide +kernel
theorem dX0_bear_10 : decode cX0_bear 10 = .ok (.invokevirtual 38, 3) := by decide +kernel
theorem dX0_bear_13 : decode cX0_bear 13 = .ok (.iload_n 2, 1) := by decide +kernel
theorem dX0_bear_14 : decode cX0_bear 14 = .ok (.invokestatic 57, 3) := by decide +kernel
theorem dX0_bear_17 : decode cX0_bear 17 = .ok (.ior, 1) := by decide +kernel
theorem dX0_bear_18 : decode cX0_bear 18 = .ok (.invokevirtual 30, 3) := by decide +kernel
theorem dX0_bear_21 : decode cX0_bear 21 = .ok (.return_, 1) := by decide +kernel
theorem dX0_panelWith_0 : decode cX0_panelWith 0 = .ok (.iconst 0, 1) := by decide +kernel
theorem dX0_panelWith_1 : decode cX0_panelWith 1 = .ok (.istore_n 2, 1) := by decide +kernel
theorem dX0_panelWith_2 : decode cX0_panelWith 2 = .ok (.iload_n 2, 1) := by decide +kernel
theorem dX0_panelWith_3 : decode cX0_panelWith 3 = .ok (.bipush 6, 2) := by decide +kernel
theorem dX0_panelWith_5 : decode cX0_panelWith 5 = .ok (.if_icmp .ge 27, 3) := by decide +kernel
theorem dX0_panelWith_8 : decode cX0_panelWith 8 = .ok (.aload_n 0, 1) := by decide +kernel
theorem dX0_panelWith_9 : decode cX0_panelWith 9 = .ok (.getfield 14, 3) := by decide +kernel
theorem dX0_panelWith_12 : decode cX0_panelWith 12 = .ok (.iload_n 2, 1) := by decide +kernel
theorem dX0_panelWith_13 : decode cX0_panelWith 13 = .ok (.invokevirtual 38, 3) := by decide +kernel
theorem dX0_panelWith_16 : decode cX0_panelWith 16 = .ok (.iload_n 1, 1) := by decide +kernel
theorem dX0_panelWith_17 : decode cX0_panelWith 17 = .ok (.invokestatic 57, 3) := by decide +kernel
theorem dX0_panelWith_20 : decode cX0_panelWith 20 = .ok (.iand, 1) := by decide +kernel
theorem dX0_panelWith_21 : decode cX0_panelWith 21 = .ok (.ifCond .eq 5, 3) := by decide +kernel
theorem dX0_panelWith_24 : decode cX0_panelWith 24 = .ok (.iload_n 2, 1) := by decide +kernel
theorem dX0_panelWith_25 : decode cX0_panelWith 25 = .ok (.ireturn, 1) := by decide +kernel
theorem dX0_panelWith_26 : decode cX0_panelWith 26 = .ok (.iinc 2 1, 3) := by decide +kernel
theorem dX0_panelWith_29 : decode cX0_panelWith 29 = .ok (.goto (-27), 3) := by decide +kernel
theorem dX0_panelWith_32 : decode cX0_panelWith 32 = .ok (.iconst (-1), 1) := by decide +kernel
theorem dX0_panelWith_33 : decode cX0_panelWith 33 = .ok (.ireturn, 1) := by decide +kernel
theorem dX0_nextToUse_0 : decode cX0_nextToUse 0 = .ok (.iconst 1, 1) := by decide +kernel
theorem dX0_nextToUse_1 : decode cX0_nextToUse 1 = .ok (.istore_n 1, 1) := by decide +kernel
theorem dX0_nextToUse_2 : decode cX0_nextToUse 2 = .ok (.iload_n 1, 1) := by decide +kernel
theorem dX0_nextToUse_3 : decode cX0_nextToUse 3 = .ok (.bipush 6, 2) := by decide +kernel
theorem dX0_nextToUse_5 : decode cX0_nextToUse 5 = .ok (.if_icmp .ge 29, 3) := by decide +kernel
theorem dX0_nextToUse_8 : decode cX0_nextToUse 8 = .ok (.aload_n 0, 1) := by decide +kernel
theorem dX0_nextToUse_9 : decode cX0_nextToUse 9 = .ok (.getfield 60, 3) := by decide +kernel
theorem dX0_nextToUse_12 : decode cX0_nextToUse 12 = .ok (.iload_n 1, 1) := by decide +kernel
theorem dX0_nextToUse_13 : decode cX0_nextToUse 13 = .ok (.iadd, 1) := by decide +kernel
theorem dX0_nextToUse_14 : decode cX0_nextToUse 14 = .ok (.bipush 6, 2) := by decide +kernel
theorem dX0_nextToUse_16 : decode cX0_nextToUse 16 = .ok (.irem, 1) := by decide +kernel
theorem dX0_nextToUse_17 : decode cX0_nextToUse 17 = .ok (.istore_n 2, 1) := by decide +kernel
theorem dX0_nextToUse_18 : decode cX0_nextToUse 18 = .ok (.aload_n 0, 1) := by decide +kernel
theorem dX0_nextToUse_19 : decode cX0_nextToUse 19 = .ok (.iload_n 2, 1) := by decide +kernel
theorem dX0_nextToUse_20 : decode cX0_nextToUse 20 = .ok (.invokevirtual 63, 3) := by decide +kernel
theorem dX0_nextToUse_23 : decode cX0_nextToUse 23 = .ok (.ifCond .ne 5, 3) := by decide +kernel
theorem dX0_nextToUse_26 : decode cX0_nextToUse 26 = .ok (.iload_n 2, 1) := by decide +kernel
theorem dX0_nextToUse_27 : decode cX0_nextToUse 27 = .ok (.ireturn, 1) := by decide +kernel
theorem dX0_nextToUse_28 : decode cX0_nextToUse 28 = .ok (.iinc 1 1, 3) := by decide +kernel
theorem dX0_nextToUse_31 : decode cX0_nextToUse 31 = .ok (.goto (-29), 3) := by decide +kernel
theorem dX0_nextToUse_34 : decode cX0_nextToUse 34 = .ok (.iconst (-1), 1) := by decide +kernel
theorem dX0_nextToUse_35 : decode cX0_nextToUse 35 = .ok (.ireturn, 1) := by decide +kernel
theorem dX0_allWipes_0 : decode cX0_allWipes 0 = .ok (.iconst 0, 1) := by decide +kernel
theorem dX0_allWipes_1 : decode cX0_allWipes 1 = .ok (.istore_n 1, 1) := by decide +kernel
theorem dX0_allWipes_2 : decode cX0_allWipes 2 = .ok (.iconst 0, 1) := by decide +kernel
theorem dX0_allWipes_3 : decode cX0_allWipes 3 = .ok (.istore_n 2, 1) := by decide +kernel
theorem dX0_allWipes_4 : decode cX0_allWipes 4 = .ok (.iload_n 2, 1) := by decide +kernel
theorem dX0_allWipes_5 : decode cX0_allWipes 5 = .ok (.bipush 6, 2) := by decide +kernel
theorem dX0_allWipes_7 : decode cX0_allWipes 7 = .ok (.if_icmp .ge 20, 3) := by decide +kernel
theorem dX0_allWipes_10 : decode cX0_allWipes 10 = .ok (.iload_n 1, 1) := by decide +kernel
theorem dX0_allWipes_11 : decode cX0_allWipes 11 = .ok (.aload_n 0, 1) := by decide +kernel
theorem dX0_allWipes_12 : decode cX0_allWipes 12 = .ok (.getfield 20, 3) := by decide +kernel
theorem dX0_allWipes_15 : decode cX0_allWipes 15 = .ok (.iload_n 2, 1) := by decide +kernel
theorem dX0_allWipes_16 : decode cX0_allWipes 16 = .ok (.invokevirtual 38, 3) := by decide +kernel
theorem dX0_allWipes_19 : decode cX0_allWipes 19 = .ok (.iadd, 1) := by decide +kernel
theorem dX0_allWipes_20 : decode cX0_allWipes 20 = .ok (.istore_n 1, 1) := by decide +kernel
theorem dX0_allWipes_21 : decode cX0_allWipes 21 = .ok (.iinc 2 1, 3) := by decide +kernel
theorem dX0_allWipes_24 : decode cX0_allWipes 24 = .ok (.goto (-20), 3) := by decide +kernel
theorem dX0_allWipes_27 : decode cX0_allWipes 27 = .ok (.iload_n 1, 1) := by decide +kernel
theorem dX0_allWipes_28 : decode cX0_allWipes 28 = .ok (.ireturn, 1) := by decide +kernel
theorem dX0_allSteps_0 : decode cX0_allSteps 0 = .ok (.iconst 0, 1) := by decide +kernel
theorem dX0_allSteps_1 : decode cX0_allSteps 1 = .ok (.istore_n 1, 1) := by decide +kernel
theorem dX0_allSteps_2 : decode cX0_allSteps 2 = .ok (.iconst 0, 1) := by decide +kernel
theorem dX0_allSteps_3 : decode cX0_allSteps 3 = .ok (.istore_n 2, 1) := by decide +kernel
theorem dX0_allSteps_4 : decode cX0_allSteps 4 = .ok (.iload_n 2, 1) := by decide +kernel
theorem dX0_allSteps_5 : decode cX0_allSteps 5 = .ok (.bipush 6, 2) := by decide +kernel
theorem dX0_allSteps_7 : decode cX0_allSteps 7 = .ok (.if_icmp .ge 20, 3) := by decide +kernel
theorem dX0_allSteps_10 : decode cX0_allSteps 10 = .ok (.iload_n 1, 1) := by decide +kernel
theorem dX0_allSteps_11 : decode cX0_allSteps 11 = .ok (.aload_n 0, 1) := by decide +kernel
theorem dX0_allSteps_12 : decode cX0_allSteps 12 = .ok (.getfield 14, 3) := by decide +kernel
theorem dX0_allSteps_15 : decode cX0_allSteps 15 = .ok (.iload_n 2, 1) := by decide +kernel
theorem dX0_allSteps_16 : decode cX0_allSteps 16 = .ok (.invokevirtual 38, 3) := by decide +kernel
theorem dX0_allSteps_19 : decode cX0_allSteps 19 = .ok (.ior, 1) := by decide +kernel
theorem dX0_allSteps_20 : decode cX0_allSteps 20 = .ok (.istore_n 1, 1) := by decide +kernel
theorem dX0_allSteps_21 : decode cX0_allSteps 21 = .ok (.iinc 2 1, 3) := by decide +kernel
theorem dX0_allSteps_24 : decode cX0_allSteps 24 = .ok (.goto (-20), 3) := by decide +kernel
theorem dX0_allSteps_27 : decode cX0_allSteps 27 = .ok (.iload_n 1, 1) := by decide +kernel
theorem dX0_allSteps_28 : decode cX0_allSteps 28 = .ok (.ireturn, 1) := by decide +kernel
theorem dX0_copyFrom_0 : decode cX0_copyFrom 0 = .ok (.aload_n 0, 1) := by decide +kernel
theorem dX0_copyFrom_1 : decode cX0_copyFrom 1 = .ok (.getfield 14, 3) := by decide +kernel
theorem dX0_copyFrom_4 : decode cX0_copyFrom 4 = .ok (.aload_n 1, 1) := by decide +kernel
theorem dX0_copyFrom_5 : decode cX0_copyFrom 5 = .ok (.getfield 14, 3) := by decide +kernel
theorem dX0_copyFrom_8 : decode cX0_copyFrom 8 = .ok (.invokevirtual 66, 3) := by decide +kernel
theorem dX0_copyFrom_11 : decode cX0_copyFrom 11 = .ok (.aload_n 0, 1) := by decide +kernel
theorem dX0_copyFrom_12 : decode cX0_copyFrom 12 = .ok (.getfield 20, 3) := by decide +kernel
theorem dX0_copyFrom_15 : decode cX0_copyFrom 15 = .ok (.aload_n 1, 1) := by decide +kernel
theorem dX0_copyFrom_16 : decode cX0_copyFrom 16 = .ok (.getfield 20, 3) := by decide +kernel
theorem dX0_copyFrom_19 : decode cX0_copyFrom 19 = .ok (.invokevirtual 66, 3) := by decide +kernel
theorem dX0_copyFrom_22 : decode cX0_copyFrom 22 = .ok (.aload_n 0, 1) := by decide +kernel
theorem dX0_copyFrom_23 : decode cX0_copyFrom 23 = .ok (.getfield 23, 3) := by decide +kernel
theorem dX0_copyFrom_26 : decode cX0_copyFrom 26 = .ok (.aload_n 1, 1) := by decide +kernel
theorem dX0_copyFrom_27 : decode cX0_copyFrom 27 = .ok (.getfield 23, 3) := by decide +kernel
theorem dX0_copyFrom_30 : decode cX0_copyFrom 30 = .ok (.invokevirtual 66, 3) := by decide +kernel
theorem dX0_copyFrom_33 : decode cX0_copyFrom 33 = .ok (.aload_n 0, 1) := by decide +kernel
theorem dX0_copyFrom_34 : decode cX0_copyFrom 34 = .ok (.aload_n 1, 1) := by decide +kernel
theorem dX0_copyFrom_35 : decode cX0_copyFrom 35 = .ok (.getfield 41, 3) := by decide +kernel
theorem dX0_copyFrom_38 : decode cX0_copyFrom 38 = .ok (.putfield 41, 3) := by decide +kernel
theorem dX0_copyFrom_41 : decode cX0_copyFrom 41 = .ok (.aload_n 0, 1) := by decide +kernel
theorem dX0_copyFrom_42 : decode cX0_copyFrom 42 = .ok (.aload_n 1, 1) := by decide +kernel
theorem dX0_copyFrom_43 : decode cX0_copyFrom 43 = .ok (.getfield 60, 3) := by decide +kernel
theorem dX0_copyFrom_46 : decode cX0_copyFrom 46 = .ok (.putfield 60, 3) := by decide +kernel
theorem dX0_copyFrom_49 : decode cX0_copyFrom 49 = .ok (.aload_n 0, 1) := by decide +kernel
theorem dX0_copyFrom_50 : decode cX0_copyFrom 50 = .ok (.aload_n 1, 1) := by decide +kernel
theorem dX0_copyFrom_51 : decode cX0_copyFrom 51 = .ok (.getfield 26, 3) := by decide +kernel
theorem dX0_copyFrom_54 : decode cX0_copyFrom 54 = .ok (.putfield 26, 3) := by decide +kernel
theorem dX0_copyFrom_57 : decode cX0_copyFrom 57 = .ok (.aload_n 0, 1) := by decide +kernel
theorem dX0_copyFrom_58 : decode cX0_copyFrom 58 = .ok (.aload_n 1, 1) := by decide +kernel
theorem dX0_copyFrom_59 : decode cX0_copyFrom 59 = .ok (.getfield 44, 3) := by decide +kernel
theorem dX0_copyFrom_62 : decode cX0_copyFrom 62 = .ok (.putfield 44, 3) := by decide +kernel
theorem dX0_copyFrom_65 : decode cX0_copyFrom 65 = .ok (.return_, 1) := by decide +kernel
theorem dX1_init_0 : decode cX1_init 0 = .ok (.aload_n 0, 1) := by decide +kernel
theorem dX1_init_1 : decode cX1_init 1 = .ok (.invokespecial 3, 3) := by decide +kernel
theorem dX1_init_4 : decode cX1_init 4 = .ok (.aload_n 0, 1) := by decide +kernel
theorem dX1_init_5 : decode cX1_init 5 = .ok (.iconst 4, 1) := by decide +kernel
theorem dX1_init_6 : decode cX1_init 6 = .ok (.anewarray 9, 3) := by decide +kernel
theorem dX1_init_9 : decode cX1_init 9 = .ok (.putfield 11, 3) := by decide +kernel
theorem dX1_init_12 : decode cX1_init 12 = .ok (.iconst 0, 1) := by decide +kernel
theorem dX1_init_13 : decode cX1_init 13 = .ok (.istore_n 1, 1) := by decide +kernel
theorem dX1_init_14 : decode cX1_init 14 = .ok (.iload_n 1, 1) := by decide +kernel
theorem dX1_init_15 : decode cX1_init 15 = .ok (.aload_n 0, 1) := by decide +kernel
theorem dX1_init_16 : decode cX1_init 16 = .ok (.getfield 11, 3) := by decide +kernel
theorem dX1_init_19 : decode cX1_init 19 = .ok (.arraylength, 1) := by decide +kernel
theorem dX1_init_20 : decode cX1_init 20 = .ok (.if_icmp .ge 22, 3) := by decide +kernel
theorem dX1_init_23 : decode cX1_init 23 = .ok (.aload_n 0, 1) := by decide +kernel
theorem dX1_init_24 : decode cX1_init 24 = .ok (.getfield 11, 3) := by decide +kernel
theorem dX1_init_27 : decode cX1_init 27 = .ok (.iload_n 1, 1) := by decide +kernel
theorem dX1_init_28 : decode cX1_init 28 = .ok (.new 9, 3) := by decide +kernel
theorem dX1_init_31 : decode cX1_init 31 = .ok (.dup, 1) := by decide +kernel
theorem dX1_init_32 : decode cX1_init 32 = .ok (.invokespecial 17, 3) := by decide +kernel
theorem dX1_init_35 : decode cX1_init 35 = .ok (.aastore, 1) := by decide +kernel
theorem dX1_init_36 : decode cX1_init 36 = .ok (.iinc 1 1, 3) := by decide +kernel
theorem dX1_init_39 : decode cX1_init 39 = .ok (.goto (-25), 3) := by decide +kernel
theorem dX1_init_42 : decode cX1_init 42 = .ok (.return_, 1) := by decide +kernel
theorem dX1_record_0 : decode cX1_record 0 = .ok (.aload_n 0, 1) := by decide +kernel
theorem dX1_record_1 : decode cX1_record 1 = .ok (.aload_n 0, 1) := by decide +kernel
theorem dX1_record_2 : decode cX1_record 2 = .ok (.getfield 18, 3) := by decide +kernel
theorem dX1_record_5 : decode cX1_record 5 = .ok (.invokevirtual 22, 3) := by decide +kernel
theorem dX1_record_8 : decode cX1_record 8 = .ok (.astore_n 2, 1) := by decide +kernel
theorem dX1_record_9 : decode cX1_record 9 = .ok (.aload_n 2, 1) := by decide +kernel
theorem dX1_record_10 : decode cX1_record 10 = .ok (.ifnull 34, 3) := by decide +kernel
theorem dX1_record_13 : decode cX1_record 13 = .ok (.aload_n 2, 1) := by decide +kernel
theorem dX1_record_14 : decode cX1_record 14 = .ok (.aload_n 1, 1) := by decide +kernel
theorem dX1_record_15 : decode cX1_record 15 = .ok (.invokevirtual 26, 3) := by decide +kernel
theorem dX1_record_18 : decode cX1_record 18 = .ok (.aload_n 0, 1) := by decide +kernel
theorem dX1_record_19 : decode cX1_record 19 = .ok (.aload_n 0, 1) := by decide +kernel
theorem dX1_record_20 : decode cX1_record 20 = .ok (.getfield 18, 3) := by decide +kernel
theorem dX1_record_23 : decode cX1_record 23 = .ok (.iconst 1, 1) := by decide +kernel
theorem dX1_record_24 : decode cX1_record 24 = .ok (.iadd, 1) := by decide +kernel
theorem dX1_record_25 : decode cX1_record 25 = .ok (.iconst 4, 1) := by decide +kernel
theorem dX1_record_26 : decode cX1_record 26 = .ok (.irem, 1) := by decide +kernel
theorem dX1_record_27 : decode cX1_record 27 = .ok (.putfield 18, 3) := by decide +kernel
theorem dX1_record_30 : decode cX1_record 30 = .ok (.aload_n 0, 1) := by decide +kernel
theorem dX1_record_31 : decode cX1_record 31 = .ok (.aload_n 0, 1) := by decide +kernel
theorem dX1_record_32 : decode cX1_record 32 = .ok (.getfield 30, 3) := by decide +kernel
theorem dX1_record_35 : decode cX1_record 35 = .ok (.iconst 1, 1) := by decide +kernel
theorem dX1_record_36 : decode cX1_record 36 = .ok (.iadd, 1) := by decide +kernel
theorem dX1_record_37 : decode cX1_record 37 = .ok (.iconst 4, 1) := by decide +kernel
theorem dX1_record_38 : decode cX1_record 38 = .ok (.invokestatic 33, 3) := by decide +kernel
theorem dX1_record_41 : decode cX1_record 41 = .ok (.putfield 30, 3) := by decide +kernel
theorem dX1_record_44 : decode cX1_record 44 = .ok (.return_, 1) := by decide +kernel
theorem dX1_takeBack_0 : decode cX1_takeBack 0 = .ok (.aload_n 0, 1) := by decide +kernel
theorem dX1_takeBack_1 : decode cX1_takeBack 1 = .ok (.getfield 18, 3) := by decide +kernel
theorem dX1_takeBack_4 : decode cX1_takeBack 4 = .ok (.iconst 4, 1) := by decide +kernel
theorem dX1_takeBack_5 : decode cX1_takeBack 5 = .ok (.iadd, 1) := by decide +kernel
theorem dX1_takeBack_6 : decode cX1_takeBack 6 = .ok (.iconst 1, 1) := by decide +kernel
theorem dX1_takeBack_7 : decode cX1_takeBack 7 = .ok (.isub, 1) := by decide +kernel
theorem dX1_takeBack_8 : decode cX1_takeBack 8 = .ok (.iconst 4, 1) := by decide +kernel
theorem dX1_takeBack_9 : decode cX1_takeBack 9 = .ok (.irem, 1) := by decide +kernel
theorem dX1_takeBack_10 : decode cX1_takeBack 10 = .ok (.istore_n 2, 1) := by decide +kernel
theorem dX1_takeBack_11 : decode cX1_takeBack 11 = .ok (.aload_n 0, 1) := by decide +kernel
theorem dX1_takeBack_12 : decode cX1_takeBack 12 = .ok (.iload_n 2, 1) := by decide +kernel
theorem dX1_takeBack_13 : decode cX1_takeBack 13 = .ok (.invokevirtual 22, 3) := by decide +kernel
theorem dX1_takeBack_16 : decode cX1_takeBack 16 = .ok (.astore_n 3, 1) := by decide +kernel
theorem dX1_takeBack_17 : decode cX1_takeBack 17 = .ok (.aload_n 3, 1) := by decide +kernel
theorem dX1_takeBack_18 : decode cX1_takeBack 18 = .ok (.ifnull 30, 3) := by decide +kernel
theorem dX1_takeBack_21 : decode cX1_takeBack 21 = .ok (.aload_n 0, 1) := by decide +kernel
theorem dX1_takeBack_22 : decode cX1_takeBack 22 = .ok (.getfield 30, 3) := by decide +kernel
theorem dX1_takeBack_25 : decode cX1_takeBack 25 = .ok (.ifCond .le 23, 3) := by decide +kernel
theorem dX1_takeBack_28 : decode cX1_takeBack 28 = .ok (.aload_n 1, 1) := by decide +kernel
theorem dX1_takeBack_29 : decode cX1_takeBack 29 = .ok (.aload_n 3, 1) := by decide +kernel
theorem dX1_takeBack_30 : decode cX1_takeBack 30 = .ok (.invokevirtual 26, 3) := by decide +kernel
theorem dX1_takeBack_33 : decode cX1_takeBack 33 = .ok (.aload_n 0, 1) := by decide +kernel
theorem dX1_takeBack_34 : decode cX1_takeBack 34 = .ok (.iload_n 2, 1) := by decide +kernel
theorem dX1_takeBack_35 : decode cX1_takeBack 35 = .ok (.putfield 18, 3) := by decide +kernel
theorem dX1_takeBack_38 : decode cX1_takeBack 38 = .ok (.aload_n 0, 1) := by decide +kernel
theorem dX1_takeBack_39 : decode cX1_takeBack 39 = .ok (.dup, 1) := by decide +kernel
theorem dX1_takeBack_40 : decode cX1_takeBack 40 = .ok (.getfield 30, 3) := by decide +kernel
theorem dX1_takeBack_43 : decode cX1_takeBack 43 = .ok (.iconst 1, 1) := by decide +kernel
theorem dX1_takeBack_44 : decode cX1_takeBack 44 = .ok (.isub, 1) := by decide +kernel
theorem dX1_takeBack_45 : decode cX1_takeBack 45 = .ok (.putfield 30, 3) := by decide +kernel
theorem dX1_takeBack_48 : decode cX1_takeBack 48 = .ok (.return_, 1) := by decide +kernel
theorem dX1_stateAt_0 : decode cX1_stateAt 0 = .ok (.iload_n 1, 1) := by decide +kernel
theorem dX1_stateAt_1 : decode cX1_stateAt 1 = .ok (.ifCond .lt 21, 3) := by decide +kernel
theorem dX1_stateAt_4 : decode cX1_stateAt 4 = .ok (.iload_n 1, 1) := by decide +kernel
theorem dX1_stateAt_5 : decode cX1_stateAt 5 = .ok (.aload_n 0, 1) := by decide +kernel
theorem dX1_stateAt_6 : decode cX1_stateAt 6 = .ok (.getfield 11, 3) := by decide +kernel
theorem dX1_stateAt_9 : decode cX1_stateAt 9 = .ok (.arraylength, 1) := by decide +kernel
theorem dX1_stateAt_10 : decode cX1_stateAt 10 = .ok (.if_icmp .ge 12, 3) := by decide +kernel
theorem dX1_stateAt_13 : decode cX1_stateAt 13 = .ok (.aload_n 0, 1) := by decide +kernel
theorem dX1_stateAt_14 : decode cX1_stateAt 14 = .ok (.getfield 11, 3) := by decide +kernel
theorem dX1_stateAt_17 : decode cX1_stateAt 17 = .ok (.iload_n 1, 1) := by decide +kernel
theorem dX1_stateAt_18 : decode cX1_stateAt 18 = .ok (.aaload, 1) := by decide +kernel
theorem dX1_stateAt_19 : decode cX1_stateAt 19 = .ok (.goto 4, 3) := by decide +kernel
theorem dX1_stateAt_22 : decode cX1_stateAt 22 = .ok (.aconst_null, 1) := by decide +kernel
theorem dX1_stateAt_23 : decode cX1_stateAt 23 = .ok (.areturn, 1) := by decide +kernel
theorem dX2_init_0 : decode cX2_init 0 = .ok (.aload_n 0, 1) := by decide +kernel
theorem dX2_init_1 : decode cX2_init 1 = .ok (.invokespecial 3, 3) := by decide +kernel
theorem dX2_init_4 : decode cX2_init 4 = .ok (.aload_n 0, 1) := by decide +kernel
theorem dX2_init_5 : decode cX2_init 5 = .ok (.new 9, 3) := by decide +kernel
theorem dX2_init_8 : decode cX2_init 8 = .ok (.dup, 1) := by decide +kernel
theorem dX2_init_9 : decode cX2_init 9 = .ok (.invokespecial 11, 3) := by decide +kernel
theorem dX2_init_12 : decode cX2_init 12 = .ok (.putfield 12, 3) := by decide +kernel
theorem dX2_init_15 : decode cX2_init 15 = .ok (.aload_n 0, 1) := by decide +kernel
theorem dX2_init_16 : decode cX2_init 16 = .ok (.new 18, 3) := by decide +kernel
theorem dX2_init_19 : decode cX2_init 19 = .ok (.dup, 1) := by decide +kernel
theorem dX2_init_20 : decode cX2_init 20 = .ok (.invokespecial 20, 3) := by decide +kernel
theorem dX2_init_23 : decode cX2_init 23 = .ok (.putfield 21, 3) := by decide +kernel
theorem dX2_init_26 : decode cX2_init 26 = .ok (.aload_n 0, 1) := by decide +kernel
theorem dX2_init_27 : decode cX2_init 27 = .ok (.new 25, 3) := by decide +kernel
theorem dX2_init_30 : decode cX2_init 30 = .ok (.dup, 1) := by decide +kernel
theorem dX2_init_31 : decode cX2_init 31 = .ok (.invokespecial 27, 3) := by decide +kernel
theorem dX2_init_34 : decode cX2_init 34 = .ok (.putfield 28, 3) := by decide +kernel
theorem dX2_init_37 : decode cX2_init 37 = .ok (.aload_n 0, 1) := by decide +kernel
theorem dX2_init_38 : decode cX2_init 38 = .ok (.new 32, 3) := by decide +kernel
theorem dX2_init_41 : decode cX2_init 41 = .ok (.dup, 1) := by decide +kernel
theorem dX2_init_42 : decode cX2_init 42 = .ok (.invokespecial 34, 3) := by decide +kernel
theorem dX2_init_45 : decode cX2_init 45 = .ok (.putfield 35, 3) := by decide +kernel
theorem dX2_init_48 : decode cX2_init 48 = .ok (.return_, 1) := by decide +kernel
theorem dX2_linesOn_0 : decode cX2_linesOn 0 = .ok (.aload_n 0, 1) := by decide +kernel
theorem dX2_linesOn_1 : decode cX2_linesOn 1 = .ok (.getfield 21, 3) := by decide +kernel
theorem dX2_linesOn_4 : decode cX2_linesOn 4 = .ok (.getfield 39, 3) := by decide +kernel
theorem dX2_linesOn_7 : decode cX2_linesOn 7 = .ok (.iload_n 1, 1) := by decide +kernel
theorem dX2_linesOn_8 : decode cX2_linesOn 8 = .ok (.invokevirtual 43, 3) := by decide +kernel
theorem dX2_linesOn_11 : decode cX2_linesOn 11 = .ok (.istore_n 2, 1) := by decide +kernel
theorem dX2_linesOn_12 : decode cX2_linesOn 12 = .ok (.iconst 0, 1) := by decide +kernel
theorem dX2_linesOn_13 : decode cX2_linesOn 13 = .ok (.istore_n 3, 1) := by decide +kernel
theorem dX2_linesOn_14 : decode cX2_linesOn 14 = .ok (.iconst 0, 1) := by decide +kernel
theorem dX2_linesOn_15 : decode cX2_linesOn 15 = .ok (.istore 4, 2) := by decide +kernel
theorem dX2_linesOn_17 : decode cX2_linesOn 17 = .ok (.iload 4, 2) := by decide +kernel
theorem dX2_linesOn_19 : decode cX2_linesOn 19 = .ok (.aload_n 0, 1) := by decide +kernel
theorem dX2_linesOn_20 : decode cX2_linesOn 20 = .ok (.getfield 12, 3) := by decide +kernel
theorem dX2_linesOn_23 : decode cX2_linesOn 23 = .ok (.getfield 49, 3) := by decide +kernel
theorem dX2_linesOn_26 : decode cX2_linesOn 26 = .ok (.if_icmp .ge 34, 3) := by decide +kernel
theorem dX2_linesOn_29 : decode cX2_linesOn 29 = .ok (.iload_n 2, 1) := by decide +kernel
theorem dX2_linesOn_30 : decode cX2_linesOn 30 = .ok (.iload 4, 2) := by decide +kernel
theorem dX2_linesOn_32 : decode cX2_linesOn 32 = .ok (.invokestatic 53, 3) := by decide +kernel
theorem dX2_linesOn_35 : decode cX2_linesOn 35 = .ok (.iand, 1) := by decide +kernel
theorem dX2_linesOn_36 : decode cX2_linesOn 36 = .ok (.ifCond .eq 18, 3) := by decide +kernel
theorem dX2_linesOn_39 : decode cX2_linesOn 39 = .ok (.iload_n 3, 1) := by decide +kernel
theorem dX2_linesOn_40 : decode cX2_linesOn 40 = .ok (.aload_n 0, 1) := by decide +kernel
theorem dX2_linesOn_41 : decode cX2_linesOn 41 = .ok (.getfield 12, 3) := by decide +kernel
theorem dX2_linesOn_44 : decode cX2_linesOn 44 = .ok (.getfield 56, 3) := by decide +kernel
theorem dX2_linesOn_47 : decode cX2_linesOn 47 = .ok (.iload 4, 2) := by decide +kernel
theorem dX2_linesOn_49 : decode cX2_linesOn 49 = .ok (.invokevirtual 43, 3) := by decide +kernel
theorem dX2_linesOn_52 : decode cX2_linesOn 52 = .ok (.iadd, 1) := by decide +kernel
theorem dX2_linesOn_53 : decode cX2_linesOn 53 = .ok (.istore_n 3, 1) := by decide +kernel
theorem dX2_linesOn_54 : decode cX2_linesOn 54 = .ok (.iinc 4 1, 3) := by decide +kernel
theorem dX2_linesOn_57 : decode cX2_linesOn 57 = .ok (.goto (-40), 3) := by decide +kernel
theorem dX2_linesOn_60 : decode cX2_linesOn 60 = .ok (.iload_n 3, 1) := by decide +kernel
theorem dX2_linesOn_61 : decode cX2_linesOn 61 = .ok (.ireturn, 1) := by decide +kernel
theorem dX2_fullestPanel_0 : decode cX2_fullestPanel 0 = .ok (.iconst 0, 1) := by decide +kernel
theorem dX2_fullestPanel_1 : decode cX2_fullestPanel 1 = .ok (.istore_n 1, 1) := by decide +kernel
theorem dX2_fullestPanel_2 : decode cX2_fullestPanel 2 = .ok (.iconst 0, 1) := by decide +kernel
theorem dX2_fullestPanel_3 : decode cX2_fullestPanel 3 = .ok (.istore_n 2, 1) := by decide +kernel
theorem dX2_fullestPanel_4 : decode cX2_fullestPanel 4 = .ok (.iload_n 2, 1) := by decide +kernel
theorem dX2_fullestPanel_5 : decode cX2_fullestPanel 5 = .ok (.bipush 6, 2) := by decide +kernel
theorem dX2_fullestPanel_7 : decode cX2_fullestPanel 7 = .ok (.if_icmp .ge 19, 3) := by decide +kernel
theorem dX2_fullestPanel_10 : decode cX2_fullestPanel 10 = .ok (.iload_n 1, 1) := by decide +kernel
theorem dX2_fullestPanel_11 : decode cX2_fullestPanel 11 = .ok (.aload_n 0, 1) := by decide +kernel
theorem dX2_fullestPanel_12 : decode cX2_fullestPanel 12 = .ok (.iload_n 2, 1) := by decide +kernel
theorem dX2_fullestPanel_13 : decode cX2_fullestPanel 13 = .ok (.invokevirtual 59, 3) := by decide +kernel
theorem dX2_fullestPanel_16 : decode cX2_fullestPanel 16 = .ok (.invokestatic 62, 3) := by decide +kernel
theorem dX2_fullestPanel_19 : decode cX2_fullestPanel 19 = .ok (.istore_n 1, 1) := by decide +kernel
theorem dX2_fullestPanel_20 : decode cX2_fullestPanel 20 = .ok (.iinc 2 1, 3) := by decide +kernel
theorem dX2_fullestPanel_23 : decode cX2_fullestPanel 23 = .ok (.goto (-19), 3) := by decide +kernel
theorem dX2_fullestPanel_26 : decode cX2_fullestPanel 26 = .ok (.iload_n 1, 1) := by decide +kernel
theorem dX2_fullestPanel_27 : decode cX2_fullestPanel 27 = .ok (.ireturn, 1) := by decide +kernel
theorem dX2_panelForNext_0 : decode cX2_panelForNext 0 = .ok (.aload_n 0, 1) := by decide +kernel
theorem dX2_panelForNext_1 : decode cX2_panelForNext 1 = .ok (.getfield 12, 3) := by decide +kernel
theorem dX2_panelForNext_4 : decode cX2_panelForNext 4 = .ok (.getfield 49, 3) := by decide +kernel
theorem dX2_panelForNext_7 : decode cX2_panelForNext 7 = .ok (.aload_n 0, 1) := by decide +kernel
theorem dX2_panelForNext_8 : decode cX2_panelForNext 8 = .ok (.getfield 12, 3) := by decide +kernel
theorem dX2_panelForNext_11 : decode cX2_panelForNext 11 = .ok (.getfield 68, 3) := by decide +kernel
theorem dX2_panelForNext_14 : decode cX2_panelForNext 14 = .ok (.if_icmp .lt 5, 3) := by decide +kernel
theorem dX2_panelForNext_17 : decode cX2_panelForNext 17 = .ok (.iconst (-1), 1) := by decide +kernel
theorem dX2_panelForNext_18 : decode cX2_panelForNext 18 = .ok (.ireturn, 1) := by decide +kernel
theorem dX2_panelForNext_19 : decode cX2_panelForNext 19 = .ok (.aload_n 0, 1) := by decide +kernel
theorem dX2_panelForNext_20 : decode cX2_panelForNext 20 = .ok (.getfield 12, 3) := by decide +kernel
theorem dX2_panelForNext_23 : decode cX2_panelForNext 23 = .ok (.getfield 56, 3) := by decide +kernel
theorem dX2_panelForNext_26 : decode cX2_panelForNext 26 = .ok (.aload_n 0, 1) := by decide +kernel
theorem dX2_panelForNext_27 : decode cX2_panelForNext 27 = .ok (.getfield 12, 3) := by decide +kernel
theorem dX2_panelForNext_30 : decode cX2_panelForNext 30 = .ok (.getfield 49, 3) := by decide +kernel
theorem dX2_panelForNext_33 : decode cX2_panelForNext 33 = .ok (.invokevirtual 43, 3) := by decide +kernel
theorem dX2_panelForNext_36 : decode cX2_panelForNext 36 = .ok (.istore_n 1, 1) := by decide +kernel
theorem dX2_panelForNext_37 : decode cX2_panelForNext 37 = .ok (.aload_n 0, 1) := by decide +kernel
theorem dX2_panelForNext_38 : decode cX2_panelForNext 38 = .ok (.aload_n 0, 1) := by decide +kernel
theorem dX2_panelForNext_39 : decode cX2_panelForNext 39 = .ok (.getfield 21, 3) := by decide +kernel
theorem dX2_panelForNext_42 : decode cX2_panelForNext 42 = .ok (.getfield 71, 3) := by decide +kernel
theorem dX2_panelForNext_45 : decode cX2_panelForNext 45 = .ok (.invokevirtual 59, 3) := by decide +kernel
theorem dX2_panelForNext_48 : decode cX2_panelForNext 48 = .ok (.iload_n 1, 1) := by decide +kernel
theorem dX2_panelForNext_49 : decode cX2_panelForNext 49 = .ok (.iadd, 1) := by decide +kernel
theorem dX2_panelForNext_50 : decode cX2_panelForNext 50 = .ok (.aload_n 0, 1) := by decide +kernel
theorem dX2_panelForNext_51 : decode cX2_panelForNext 51 = .ok (.getfield 21, 3) := by decide +kernel
theorem dX2_panelForNext_54 : decode cX2_panelForNext 54 = .ok (.getfield 74, 3) := by decide +kernel
theorem dX2_panelForNext_57 : decode cX2_panelForNext 57 = .ok (.if_icmp .gt 11, 3) := by decide +kernel
theorem dX2_panelForNext_60 : decode cX2_panelForNext 60 = .ok (.aload_n 0, 1) := by decide +kernel
theorem dX2_panelForNext_61 : decode cX2_panelForNext 61 = .ok (.getfield 21, 3) := by decide +kernel
theorem dX2_panelForNext_64 : decode cX2_panelForNext 64 = .ok (.getfield 71, 3) := by decide +kernel
theorem dX2_panelForNext_67 : decode cX2_panelForNext 67 = .ok (.ireturn, 1) := by decide +kernel
theorem dX2_panelForNext_68 : decode cX2_panelForNext 68 = .ok (.aload_n 0, 1) := by decide +kernel
theorem dX2_panelForNext_69 : decode cX2_panelForNext 69 = .ok (.getfield 21, 3) := by decide +kernel
theorem dX2_panelForNext_72 : decode cX2_panelForNext 72 = .ok (.invokevirtual 77, 3) := by decide +kernel
theorem dX2_panelForNext_75 : decode cX2_panelForNext 75 = .ok (.ireturn, 1) := by decide +kernel
theorem dX2_writeNext_0 : decode cX2_writeNext 0 = .ok (.aload_n 0, 1) := by decide +kernel
theorem dX2_writeNext_1 : decode cX2_writeNext 1 = .ok (.invokevirtual 81, 3) := by decide +kernel
theorem dX2_writeNext_4 : decode cX2_writeNext 4 = .ok (.istore_n 1, 1) := by decide +kernel
theorem dX2_writeNext_5 : decode cX2_writeNext 5 = .ok (.iload_n 1, 1) := by decide +kernel
theorem dX2_writeNext_6 : decode cX2_writeNext 6 = .ok (.iconst (-1), 1) := by decide +kernel
theorem dX2_writeNext_7 : decode cX2_writeNext 7 = .ok (.if_icmp .ne 5, 3) := by decide +kernel
theorem dX2_writeNext_10 : decode cX2_writeNext 10 = .ok (.iconst (-1), 1) := by decide +kernel
theorem dX2_writeNext_11 : decode cX2_writeNext 11 = .ok (.ireturn, 1) := by decide +kernel
theorem dX2_writeNext_12 : decode cX2_writeNext 12 = .ok (.iload_n 1, 1) := by decide +kernel
theorem dX2_writeNext_13 : decode cX2_writeNext 13 = .ok (.aload_n 0, 1) := by decide +kernel
theorem dX2_writeNext_14 : decode cX2_writeNext 14 = .ok (.getfield 21, 3) := by decide +kernel
theorem dX2_writeNext_17 : decode cX2_writeNext 17 = .ok (.getfield 71, 3) := by decide +kernel
theorem dX2_writeNext_20 : decode cX2_writeNext 20 = .ok (.if_icmp .eq 19, 3) := by decide +kernel
theorem dX2_writeNext_23 : decode cX2_writeNext 23 = .ok (.aload_n 0, 1) := by decide +kernel
theorem dX2_writeNext_24 : decode cX2_writeNext 24 = .ok (.getfield 21, 3) := by decide +kernel
theorem dX2_writeNext_27 : decode cX2_writeNext 27 = .ok (.iload_n 1, 1) := by decide +kernel
theorem dX2_writeNext_28 : decode cX2_writeNext 28 = .ok (.invokevirtual 84, 3) := by decide +kernel
theorem dX2_writeNext_31 : decode cX2_writeNext 31 = .ok (.aload_n 0, 1) := by decide +kernel
theorem dX2_writeNext_32 : decode cX2_writeNext 32 = .ok (.getfield 21, 3) := by decide +kernel
theorem dX2_writeNext_35 : decode cX2_writeNext 35 = .ok (.iload_n 1, 1) := by decide +kernel
theorem dX2_writeNext_36 : decode cX2_writeNext 36 = .ok (.putfield 71, 3) := by decide +kernel
theorem dX2_writeNext_39 : decode cX2_writeNext 39 = .ok (.aload_n 0, 1) := by decide +kernel
theorem dX2_writeNext_40 : decode cX2_writeNext 40 = .ok (.getfield 21, 3) := by decide +kernel
theorem dX2_writeNext_43 : decode cX2_writeNext 43 = .ok (.iload_n 1, 1) := by decide +kernel
theorem dX2_writeNext_44 : decode cX2_writeNext 44 = .ok (.invokevirtual 88, 3) := by decide +kernel
theorem dX2_writeNext_47 : decode cX2_writeNext 47 = .ok (.aload_n 0, 1) := by decide +kernel
theorem dX2_writeNext_48 : decode cX2_writeNext 48 = .ok (.getfield 12, 3) := by decide +kernel
theorem dX2_writeNext_51 : decode cX2_writeNext 51 = .ok (.getfield 49, 3) := by decide +kernel
theorem dX2_writeNext_54 : decode cX2_writeNext 54 = .ok (.istore_n 2, 1) := by decide +kernel
theorem dX2_writeNext_55 : decode cX2_writeNext 55 = .ok (.aload_n 0, 1) := by decide +kernel
theorem dX2_writeNext_56 : decode cX2_writeNext 56 = .ok (.getfield 21, 3) := by decide +kernel
theorem dX2_writeNext_59 : decode cX2_writeNext 59 = .ok (.iload_n 1, 1) := by decide +kernel
theorem dX2_writeNext_60 : decode cX2_writeNext 60 = .ok (.iload_n 2, 1) := by decide +kernel
theorem dX2_writeNext_61 : decode cX2_writeNext 61 = .ok (.invokevirtual 91, 3) := by decide +kernel
theorem dX2_writeNext_64 : decode cX2_writeNext 64 = .ok (.aload_n 0, 1) := by decide +kernel
theorem dX2_writeNext_65 : decode cX2_writeNext 65 = .ok (.getfield 12, 3) := by decide +kernel
theorem dX2_writeNext_68 : decode cX2_writeNext 68 = .ok (.dup, 1) := by decide +kernel
theorem dX2_writeNext_69 : decode cX2_writeNext 69 = .ok (.getfield 49, 3) := by decide +kernel
theorem dX2_writeNext_72 : decode cX2_writeNext 72 = .ok (.iconst 1, 1) := by decide +kernel
theorem dX2_writeNext_73 : decode cX2_writeNext 73 = .ok (.iadd, 1) := by decide +kernel
theorem dX2_writeNext_74 : decode cX2_writeNext 74 = .ok (.putfield 49, 3) := by decide +kernel
theorem dX2_writeNext_77 : decode cX2_writeNext 77 = .ok (.aload_n 0, 1) := by decide +kernel
theorem dX2_writeNext_78 : decode cX2_writeNext 78 = .ok (.aload_n 0, 1) := by decide +kernel
theorem dX2_writeNext_79 : decode cX2_writeNext 79 = .ok (.getfield 12, 3) := by decide +kernel
theorem dX2_writeNext_82 : decode cX2_writeNext 82 = .ok (.getfield 95, 3) := by decide +kernel
theorem dX2_writeNext_85 : decode cX2_writeNext 85 = .ok (.iload_n 2, 1) := by decide +kernel
theorem dX2_writeNext_86 : decode cX2_writeNext 86 = .ok (.invokevirtual 43, 3) := by decide +kernel
theorem dX2_writeNext_89 : decode cX2_writeNext 89 = .ok (.invokevirtual 98, 3) := by decide +kernel
theorem dX2_writeNext_92 : decode cX2_writeNext 92 = .ok (.iload_n 1, 1) := by decide +kernel
theorem dX2_writeNext_93 : decode cX2_writeNext 93 = .ok (.ireturn, 1) := by decide +kernel
theorem dX2_lookAtNeeds_0 : decode cX2_lookAtNeeds 0 = .ok (.iconst 0, 1) := by decide +kernel
theorem dX2_lookAtNeeds_1 : decode cX2_lookAtNeeds 1 = .ok (.istore_n 2, 1) := by decide +kernel
theorem dX2_lookAtNeeds_2 : decode cX2_lookAtNeeds 2 = .ok (.iload_n 2, 1) := by decide +kernel
theorem dX2_lookAtNeeds_3 : decode cX2_lookAtNeeds 3 = .ok (.bipush 30, 2) := by decide +kernel
theorem dX2_lookAtNeeds_5 : decode cX2_lookAtNeeds 5 = .ok (.if_icmp .ge 23, 3) := by decide +kernel
theorem dX2_lookAtNeeds_8 : decode cX2_lookAtNeeds 8 = .ok (.iload_n 1, 1) := by decide +kernel
theorem dX2_lookAtNeeds_9 : decode cX2_lookAtNeeds 9 = .ok (.iload_n 2, 1) := by decide +kernel
theorem dX2_lookAtNeeds_10 : decode cX2_lookAtNeeds 10 = .ok (.invokestatic 53, 3) := by decide +kernel
theorem dX2_lookAtNeeds_13 : decode cX2_lookAtNeeds 13 = .ok (.iand, 1) := by decide +kernel
theorem dX2_lookAtNeeds_14 : decode cX2_lookAtNeeds 14 = .ok (.ifCond .eq 8, 3) := by decide +kernel
theorem dX2_lookAtNeeds_17 : decode cX2_lookAtNeeds 17 = .ok (.aload_n 0, 1) := by decide +kernel
theorem dX2_lookAtNeeds_18 : decode cX2_lookAtNeeds 18 = .ok (.iload_n 2, 1) := by decide +kernel
theorem dX2_lookAtNeeds_19 : decode cX2_lookAtNeeds 19 = .ok (.invokevirtual 101, 3) := by decide +kernel
theorem dX2_lookAtNeeds_22 : decode cX2_lookAtNeeds 22 = .ok (.iinc 2 1, 3) := by decide +kernel
theorem dX2_lookAtNeeds_25 : decode cX2_lookAtNeeds 25 = .ok (.goto (-23), 3) := by decide +kernel
theorem dX2_lookAtNeeds_28 : decode cX2_lookAtNeeds 28 = .ok (.return_, 1) := by decide +kernel
theorem dX2_lookAt_0 : decode cX2_lookAt 0 = .ok (.aload_n 0, 1) := by decide +kernel
theorem dX2_lookAt_1 : decode cX2_lookAt 1 = .ok (.getfield 21, 3) := by decide +kernel
theorem dX2_lookAt_4 : decode cX2_lookAt 4 = .ok (.iload_n 1, 1) := by decide +kernel
theorem dX2_lookAt_5 : decode cX2_lookAt 5 = .ok (.invokevirtual 104, 3) := by decide +kernel
theorem dX2_lookAt_8 : decode cX2_lookAt 8 = .ok (.istore_n 2, 1) := by decide +kernel
theorem dX2_lookAt_9 : decode cX2_lookAt 9 = .ok (.iload_n 2, 1) := by decide +kernel
theorem dX2_lookAt_10 : decode cX2_lookAt 10 = .ok (.iconst (-1), 1) := by decide +kernel
theorem dX2_lookAt_11 : decode cX2_lookAt 11 = .ok (.if_icmp .ne 46, 3) := by decide +kernel
theorem dX2_lookAt_14 : decode cX2_lookAt 14 = .ok (.aload_n 0, 1) := by decide +kernel
theorem dX2_lookAt_15 : decode cX2_lookAt 15 = .ok (.getfield 28, 3) := by decide +kernel
theorem dX2_lookAt_18 : decode cX2_lookAt 18 = .ok (.iload_n 1, 1) := by decide +kernel
theorem dX2_lookAt_19 : decode cX2_lookAt 19 = .ok (.invokevirtual 107, 3) := by decide +kernel
theorem dX2_lookAt_22 : decode cX2_lookAt 22 = .ok (.ifCond .eq 19, 3) := by decide +kernel
theorem dX2_lookAt_25 : decode cX2_lookAt 25 = .ok (.aload_n 0, 1) := by decide +kernel
theorem dX2_lookAt_26 : decode cX2_lookAt 26 = .ok (.getfield 35, 3) := by decide +kernel
theorem dX2_lookAt_29 : decode cX2_lookAt 29 = .ok (.dup, 1) := by decide +kernel
theorem dX2_lookAt_30 : decode cX2_lookAt 30 = .ok (.getfield 111, 3) := by decide +kernel
theorem dX2_lookAt_33 : decode cX2_lookAt 33 = .ok (.iconst 1, 1) := by decide +kernel
theorem dX2_lookAt_34 : decode cX2_lookAt 34 = .ok (.iadd, 1) := by decide +kernel
theorem dX2_lookAt_35 : decode cX2_lookAt 35 = .ok (.putfield 111, 3) := by decide +kernel
theorem dX2_lookAt_38 : decode cX2_lookAt 38 = .ok (.goto 74, 3) := by decide +kernel
theorem dX2_lookAt_41 : decode cX2_lookAt 41 = .ok (.aload_n 0, 1) := by decide +kernel
theorem dX2_lookAt_42 : decode cX2_lookAt 42 = .ok (.getfield 35, 3) := by decide +kernel
theorem dX2_lookAt_45 : decode cX2_lookAt 45 = .ok (.dup, 1) := by decide +kernel
theorem dX2_lookAt_46 : decode cX2_lookAt 46 = .ok (.getfield 114, 3) := by decide +kernel
theorem dX2_lookAt_49 : decode cX2_lookAt 49 = .ok (.iconst 1, 1) := by decide +kernel
theorem dX2_lookAt_50 : decode cX2_lookAt 50 = .ok (.iadd, 1) := by decide +kernel
theorem dX2_lookAt_51 : decode cX2_lookAt 51 = .ok (.putfield 114, 3) := by decide +kernel
theorem dX2_lookAt_54 : decode cX2_lookAt 54 = .ok (.goto 58, 3) := by decide +kernel
theorem dX2_lookAt_57 : decode cX2_lookAt 57 = .ok (.aload_n 0, 1) := by decide +kernel
theorem dX2_lookAt_58 : decode cX2_lookAt 58 = .ok (.getfield 21, 3) := by decide +kernel
theorem dX2_lookAt_61 : decode cX2_lookAt 61 = .ok (.iload_n 2, 1) := by decide +kernel
theorem dX2_lookAt_62 : decode cX2_lookAt 62 = .ok (.invokevirtual 117, 3) := by decide +kernel
theorem dX2_lookAt_65 : decode cX2_lookAt 65 = .ok (.ifCond .ne 47, 3) := by decide +kernel
theorem dX2_lookAt_68 : decode cX2_lookAt 68 = .ok (.iload_n 2, 1) := by decide +kernel
theorem dX2_lookAt_69 : decode cX2_lookAt 69 = .ok (.invokestatic 120, 3) := by decide +kernel
theorem dX2_lookAt_72 : decode cX2_lookAt 72 = .ok (.aload_n 0, 1) := by decide +kernel
theorem dX2_lookAt_73 : decode cX2_lookAt 73 = .ok (.getfield 21, 3) := by decide +kernel
theorem dX2_lookAt_76 : decode cX2_lookAt 76 = .ok (.getfield 71, 3) := by decide +kernel
theorem dX2_lookAt_79 : decode cX2_lookAt 79 = .ok (.invokestatic 120, 3) := by decide +kernel
theorem dX2_lookAt_82 : decode cX2_lookAt 82 = .ok (.if_icmp .ne 19, 3) := by decide +kernel
theorem dX2_lookAt_85 : decode cX2_lookAt 85 = .ok (.aload_n 0, 1) := by decide +kernel
theorem dX2_lookAt_86 : decode cX2_lookAt 86 = .ok (.getfield 35, 3) := by decide +kernel
theorem dX2_lookAt_89 : decode cX2_lookAt 89 = .ok (.dup, 1) := by decide +kernel
theorem dX2_lookAt_90 : decode cX2_lookAt 90 = .ok (.getfield 123, 3) := by decide +kernel
theorem dX2_lookAt_93 : decode cX2_lookAt 93 = .ok (.iconst 1, 1) := by decide +kernel
theorem dX2_lookAt_94 : decode cX2_lookAt 94 = .ok (.iadd, 1) := by decide +kernel
