theorem dX9_writes_60 : decode cX9_writes 60 = .ok (.aload_n 0, 1) := by decide +kernel
theorem dX9_writes_61 : decode cX9_writes 61 = .ok (.iload_n 1, 1) := by decide +kernel
theorem dX9_writes_62 : decode cX9_writes 62 = .ok (.iconst 2, 1) := by decide +kernel
theorem dX9_writes_63 : decode cX9_writes 63 = .ok (.idiv, 1) := by decide +kernel
theorem dX9_writes_64 : decode cX9_writes 64 = .ok (.invokevirtual 62, 3) := by decide +kernel
theorem dX9_writes_67 : decode cX9_writes 67 = .ok (.aload_n 0, 1) := by decide +kernel
theorem dX9_writes_68 : decode cX9_writes 68 = .ok (.getfield 7, 3) := by decide +kernel
theorem dX9_writes_71 : decode cX9_writes 71 = .ok (.iconst 2, 1) := by decide +kernel
theorem dX9_writes_72 : decode cX9_writes 72 = .ok (.iaload, 1) := by decide +kernel
theorem dX9_writes_73 : decode cX9_writes 73 = .ok (.istore_n 2, 1) := by decide +kernel
theorem dX9_writes_74 : decode cX9_writes 74 = .ok (.aload_n 0, 1) := by decide +kernel
theorem dX9_writes_75 : decode cX9_writes 75 = .ok (.getfield 7, 3) := by decide +kernel
theorem dX9_writes_78 : decode cX9_writes 78 = .ok (.bipush 17, 2) := by decide +kernel
theorem dX9_writes_80 : decode cX9_writes 80 = .ok (.iload_n 1, 1) := by decide +kernel
theorem dX9_writes_81 : decode cX9_writes 81 = .ok (.iadd, 1) := by decide +kernel
theorem dX9_writes_82 : decode cX9_writes 82 = .ok (.dup2, 1) := by decide +kernel
theorem dX9_writes_83 : decode cX9_writes 83 = .ok (.iaload, 1) := by decide +kernel
theorem dX9_writes_84 : decode cX9_writes 84 = .ok (.iconst 1, 1) := by decide +kernel
theorem dX9_writes_85 : decode cX9_writes 85 = .ok (.iload_n 2, 1) := by decide +kernel
theorem dX9_writes_86 : decode cX9_writes 86 = .ok (.ishl, 1) := by decide +kernel
theorem dX9_writes_87 : decode cX9_writes 87 = .ok (.ior, 1) := by decide +kernel
theorem dX9_writes_88 : decode cX9_writes 88 = .ok (.iastore, 1) := by decide +kernel
theorem dX9_writes_89 : decode cX9_writes 89 = .ok (.aload_n 0, 1) := by decide +kernel
theorem dX9_writes_90 : decode cX9_writes 90 = .ok (.getfield 7, 3) := by decide +kernel
theorem dX9_writes_93 : decode cX9_writes 93 = .ok (.iconst 2, 1) := by decide +kernel
theorem dX9_writes_94 : decode cX9_writes 94 = .ok (.dup2, 1) := by decide +kernel
theorem dX9_writes_95 : decode cX9_writes 95 = .ok (.iaload, 1) := by decide +kernel
theorem dX9_writes_96 : decode cX9_writes 96 = .ok (.iconst 1, 1) := by decide +kernel
theorem dX9_writes_97 : decode cX9_writes 97 = .ok (.iadd, 1) := by decide +kernel
theorem dX9_writes_98 : decode cX9_writes 98 = .ok (.iastore, 1) := by decide +kernel
theorem dX9_writes_99 : decode cX9_writes 99 = .ok (.iconst 0, 1) := by decide +kernel
theorem dX9_writes_100 : decode cX9_writes 100 = .ok (.istore_n 3, 1) := by decide +kernel
theorem dX9_writes_101 : decode cX9_writes 101 = .ok (.iload_n 3, 1) := by decide +kernel
theorem dX9_writes_102 : decode cX9_writes 102 = .ok (.iload_n 2, 1) := by decide +kernel
theorem dX9_writes_103 : decode cX9_writes 103 = .ok (.if_icmp .ge 32, 3) := by decide +kernel
theorem dX9_writes_106 : decode cX9_writes 106 = .ok (.aload_n 0, 1) := by decide +kernel
theorem dX9_writes_107 : decode cX9_writes 107 = .ok (.getfield 7, 3) := by decide +kernel
theorem dX9_writes_110 : decode cX9_writes 110 = .ok (.sipush 139, 3) := by decide +kernel
theorem dX9_writes_113 : decode cX9_writes 113 = .ok (.iload_n 2, 1) := by decide +kernel
theorem dX9_writes_114 : decode cX9_writes 114 = .ok (.iadd, 1) := by decide +kernel
theorem dX9_writes_115 : decode cX9_writes 115 = .ok (.iaload, 1) := by decide +kernel
theorem dX9_writes_116 : decode cX9_writes 116 = .ok (.iload_n 3, 1) := by decide +kernel
theorem dX9_writes_117 : decode cX9_writes 117 = .ok (.ishr, 1) := by decide +kernel
theorem dX9_writes_118 : decode cX9_writes 118 = .ok (.iconst 1, 1) := by decide +kernel
theorem dX9_writes_119 : decode cX9_writes 119 = .ok (.iand, 1) := by decide +kernel
theorem dX9_writes_120 : decode cX9_writes 120 = .ok (.iconst 1, 1) := by decide +kernel
theorem dX9_writes_121 : decode cX9_writes 121 = .ok (.if_icmp .ne 8, 3) := by decide +kernel
theorem dX9_writes_124 : decode cX9_writes 124 = .ok (.aload_n 0, 1) := by decide +kernel
theorem dX9_writes_125 : decode cX9_writes 125 = .ok (.iload_n 3, 1) := by decide +kernel
theorem dX9_writes_126 : decode cX9_writes 126 = .ok (.invokevirtual 72, 3) := by decide +kernel
theorem dX9_writes_129 : decode cX9_writes 129 = .ok (.iinc 3 1, 3) := by decide +kernel
theorem dX9_writes_132 : decode cX9_writes 132 = .ok (.goto (-31), 3) := by decide +kernel
theorem dX9_writes_135 : decode cX9_writes 135 = .ok (.iconst 1, 1) := by decide +kernel
theorem dX9_writes_136 : decode cX9_writes 136 = .ok (.ireturn, 1) := by decide +kernel
theorem dX9_setRoom_0 : decode cX9_setRoom 0 = .ok (.iload_n 1, 1) := by decide +kernel
theorem dX9_setRoom_1 : decode cX9_setRoom 1 = .ok (.i2l, 1) := by decide +kernel
theorem dX9_setRoom_2 : decode cX9_setRoom 2 = .ok (.ldc2_w 75, 3) := by decide +kernel
theorem dX9_setRoom_5 : decode cX9_setRoom 5 = .ok (.ldc2_w 77, 3) := by decide +kernel
theorem dX9_setRoom_8 : decode cX9_setRoom 8 = .ok (.invokestatic 37, 3) := by decide +kernel
theorem dX9_setRoom_11 : decode cX9_setRoom 11 = .ok (.ifCond .ne 6, 3) := by decide +kernel
theorem dX9_setRoom_14 : decode cX9_setRoom 14 = .ok (.bipush (-2), 2) := by decide +kernel
theorem dX9_setRoom_16 : decode cX9_setRoom 16 = .ok (.ireturn, 1) := by decide +kernel
theorem dX9_setRoom_17 : decode cX9_setRoom 17 = .ok (.iconst 0, 1) := by decide +kernel
theorem dX9_setRoom_18 : decode cX9_setRoom 18 = .ok (.istore_n 2, 1) := by decide +kernel
theorem dX9_setRoom_19 : decode cX9_setRoom 19 = .ok (.iload_n 2, 1) := by decide +kernel
theorem dX9_setRoom_20 : decode cX9_setRoom 20 = .ok (.bipush 6, 2) := by decide +kernel
theorem dX9_setRoom_22 : decode cX9_setRoom 22 = .ok (.if_icmp .ge 21, 3) := by decide +kernel
theorem dX9_setRoom_25 : decode cX9_setRoom 25 = .ok (.aload_n 0, 1) := by decide +kernel
theorem dX9_setRoom_26 : decode cX9_setRoom 26 = .ok (.iload_n 2, 1) := by decide +kernel
theorem dX9_setRoom_27 : decode cX9_setRoom 27 = .ok (.invokevirtual 45, 3) := by decide +kernel
theorem dX9_setRoom_30 : decode cX9_setRoom 30 = .ok (.iload_n 1, 1) := by decide +kernel
theorem dX9_setRoom_31 : decode cX9_setRoom 31 = .ok (.if_icmp .le 6, 3) := by decide +kernel
theorem dX9_setRoom_34 : decode cX9_setRoom 34 = .ok (.bipush (-4), 2) := by decide +kernel
theorem dX9_setRoom_36 : decode cX9_setRoom 36 = .ok (.ireturn, 1) := by decide +kernel
theorem dX9_setRoom_37 : decode cX9_setRoom 37 = .ok (.iinc 2 1, 3) := by decide +kernel
theorem dX9_setRoom_40 : decode cX9_setRoom 40 = .ok (.goto (-21), 3) := by decide +kernel
theorem dX9_setRoom_43 : decode cX9_setRoom 43 = .ok (.aload_n 0, 1) := by decide +kernel
theorem dX9_setRoom_44 : decode cX9_setRoom 44 = .ok (.getfield 7, 3) := by decide +kernel
theorem dX9_setRoom_47 : decode cX9_setRoom 47 = .ok (.iconst 0, 1) := by decide +kernel
theorem dX9_setRoom_48 : decode cX9_setRoom 48 = .ok (.iaload, 1) := by decide +kernel
theorem dX9_setRoom_49 : decode cX9_setRoom 49 = .ok (.iload_n 1, 1) := by decide +kernel
theorem dX9_setRoom_50 : decode cX9_setRoom 50 = .ok (.if_icmp .ne 6, 3) := by decide +kernel
theorem dX9_setRoom_53 : decode cX9_setRoom 53 = .ok (.bipush (-5), 2) := by decide +kernel
theorem dX9_setRoom_55 : decode cX9_setRoom 55 = .ok (.ireturn, 1) := by decide +kernel
theorem dX9_setRoom_56 : decode cX9_setRoom 56 = .ok (.aload_n 0, 1) := by decide +kernel
theorem dX9_setRoom_57 : decode cX9_setRoom 57 = .ok (.invokevirtual 79, 3) := by decide +kernel
theorem dX9_setRoom_60 : decode cX9_setRoom 60 = .ok (.aload_n 0, 1) := by decide +kernel
theorem dX9_setRoom_61 : decode cX9_setRoom 61 = .ok (.getfield 7, 3) := by decide +kernel
theorem dX9_setRoom_64 : decode cX9_setRoom 64 = .ok (.iconst 0, 1) := by decide +kernel
theorem dX9_setRoom_65 : decode cX9_setRoom 65 = .ok (.iaload, 1) := by decide +kernel
theorem dX9_setRoom_66 : decode cX9_setRoom 66 = .ok (.istore_n 2, 1) := by decide +kernel
theorem dX9_setRoom_67 : decode cX9_setRoom 67 = .ok (.aload_n 0, 1) := by decide +kernel
theorem dX9_setRoom_68 : decode cX9_setRoom 68 = .ok (.getfield 7, 3) := by decide +kernel
theorem dX9_setRoom_71 : decode cX9_setRoom 71 = .ok (.iconst 0, 1) := by decide +kernel
theorem dX9_setRoom_72 : decode cX9_setRoom 72 = .ok (.iload_n 1, 1) := by decide +kernel
theorem dX9_setRoom_73 : decode cX9_setRoom 73 = .ok (.iastore, 1) := by decide +kernel
theorem dX9_setRoom_74 : decode cX9_setRoom 74 = .ok (.aload_n 0, 1) := by decide +kernel
theorem dX9_setRoom_75 : decode cX9_setRoom 75 = .ok (.iload_n 2, 1) := by decide +kernel
theorem dX9_setRoom_76 : decode cX9_setRoom 76 = .ok (.invokevirtual 82, 3) := by decide +kernel
theorem dX9_setRoom_79 : decode cX9_setRoom 79 = .ok (.ireturn, 1) := by decide +kernel
theorem dX9_plans_0 : decode cX9_plans 0 = .ok (.aload_n 0, 1) := by decide +kernel
theorem dX9_plans_1 : decode cX9_plans 1 = .ok (.getfield 7, 3) := by decide +kernel
theorem dX9_plans_4 : decode cX9_plans 4 = .ok (.bipush 109, 2) := by decide +kernel
theorem dX9_plans_6 : decode cX9_plans 6 = .ok (.aload_n 0, 1) := by decide +kernel
theorem dX9_plans_7 : decode cX9_plans 7 = .ok (.getfield 7, 3) := by decide +kernel
theorem dX9_plans_10 : decode cX9_plans 10 = .ok (.iconst 1, 1) := by decide +kernel
theorem dX9_plans_11 : decode cX9_plans 11 = .ok (.iaload, 1) := by decide +kernel
theorem dX9_plans_12 : decode cX9_plans 12 = .ok (.iadd, 1) := by decide +kernel
theorem dX9_plans_13 : decode cX9_plans 13 = .ok (.iload_n 1, 1) := by decide +kernel
theorem dX9_plans_14 : decode cX9_plans 14 = .ok (.iastore, 1) := by decide +kernel
theorem dX9_plans_15 : decode cX9_plans 15 = .ok (.aload_n 0, 1) := by decide +kernel
theorem dX9_plans_16 : decode cX9_plans 16 = .ok (.getfield 7, 3) := by decide +kernel
theorem dX9_plans_19 : decode cX9_plans 19 = .ok (.sipush 139, 3) := by decide +kernel
theorem dX9_plans_22 : decode cX9_plans 22 = .ok (.aload_n 0, 1) := by decide +kernel
theorem dX9_plans_23 : decode cX9_plans 23 = .ok (.getfield 7, 3) := by decide +kernel
theorem dX9_plans_26 : decode cX9_plans 26 = .ok (.iconst 1, 1) := by decide +kernel
theorem dX9_plans_27 : decode cX9_plans 27 = .ok (.iaload, 1) := by decide +kernel
theorem dX9_plans_28 : decode cX9_plans 28 = .ok (.iadd, 1) := by decide +kernel
theorem dX9_plans_29 : decode cX9_plans 29 = .ok (.iload_n 2, 1) := by decide +kernel
theorem dX9_plans_30 : decode cX9_plans 30 = .ok (.iastore, 1) := by decide +kernel
theorem dX9_plans_31 : decode cX9_plans 31 = .ok (.aload_n 0, 1) := by decide +kernel
theorem dX9_plans_32 : decode cX9_plans 32 = .ok (.getfield 7, 3) := by decide +kernel
theorem dX9_plans_35 : decode cX9_plans 35 = .ok (.sipush 169, 3) := by decide +kernel
theorem dX9_plans_38 : decode cX9_plans 38 = .ok (.aload_n 0, 1) := by decide +kernel
theorem dX9_plans_39 : decode cX9_plans 39 = .ok (.getfield 7, 3) := by decide +kernel
theorem dX9_plans_42 : decode cX9_plans 42 = .ok (.iconst 1, 1) := by decide +kernel
theorem dX9_plans_43 : decode cX9_plans 43 = .ok (.iaload, 1) := by decide +kernel
theorem dX9_plans_44 : decode cX9_plans 44 = .ok (.iadd, 1) := by decide +kernel
theorem dX9_plans_45 : decode cX9_plans 45 = .ok (.iconst 0, 1) := by decide +kernel
theorem dX9_plans_46 : decode cX9_plans 46 = .ok (.iastore, 1) := by decide +kernel
theorem dX9_plans_47 : decode cX9_plans 47 = .ok (.aload_n 0, 1) := by decide +kernel
theorem dX9_plans_48 : decode cX9_plans 48 = .ok (.getfield 7, 3) := by decide +kernel
theorem dX9_plans_51 : decode cX9_plans 51 = .ok (.sipush 199, 3) := by decide +kernel
theorem dX9_plans_54 : decode cX9_plans 54 = .ok (.aload_n 0, 1) := by decide +kernel
theorem dX9_plans_55 : decode cX9_plans 55 = .ok (.getfield 7, 3) := by decide +kernel
theorem dX9_plans_58 : decode cX9_plans 58 = .ok (.iconst 1, 1) := by decide +kernel
theorem dX9_plans_59 : decode cX9_plans 59 = .ok (.iaload, 1) := by decide +kernel
theorem dX9_plans_60 : decode cX9_plans 60 = .ok (.iadd, 1) := by decide +kernel
theorem dX9_plans_61 : decode cX9_plans 61 = .ok (.iconst 0, 1) := by decide +kernel
theorem dX9_plans_62 : decode cX9_plans 62 = .ok (.iastore, 1) := by decide +kernel
theorem dX9_plans_63 : decode cX9_plans 63 = .ok (.aload_n 0, 1) := by decide +kernel
theorem dX9_plans_64 : decode cX9_plans 64 = .ok (.getfield 7, 3) := by decide +kernel
theorem dX9_plans_67 : decode cX9_plans 67 = .ok (.iconst 1, 1) := by decide +kernel
theorem dX9_plans_68 : decode cX9_plans 68 = .ok (.dup2, 1) := by decide +kernel
theorem dX9_plans_69 : decode cX9_plans 69 = .ok (.iaload, 1) := by decide +kernel
theorem dX9_plans_70 : decode cX9_plans 70 = .ok (.iconst 1, 1) := by decide +kernel
theorem dX9_plans_71 : decode cX9_plans 71 = .ok (.iadd, 1) := by decide +kernel
theorem dX9_plans_72 : decode cX9_plans 72 = .ok (.iastore, 1) := by decide +kernel
theorem dX9_plans_73 : decode cX9_plans 73 = .ok (.return_, 1) := by decide +kernel
theorem dX9_plan_0 : decode cX9_plan 0 = .ok (.iload_n 1, 1) := by decide +kernel
theorem dX9_plan_1 : decode cX9_plan 1 = .ok (.i2l, 1) := by decide +kernel
theorem dX9_plan_2 : decode cX9_plan 2 = .ok (.lconst 1, 1) := by decide +kernel
theorem dX9_plan_3 : decode cX9_plan 3 = .ok (.ldc2_w 75, 3) := by decide +kernel
theorem dX9_plan_6 : decode cX9_plan 6 = .ok (.invokestatic 37, 3) := by decide +kernel
theorem dX9_plan_9 : decode cX9_plan 9 = .ok (.ifCond .eq 22, 3) := by decide +kernel
theorem dX9_plan_12 : decode cX9_plan 12 = .ok (.iload_n 2, 1) := by decide +kernel
theorem dX9_plan_13 : decode cX9_plan 13 = .ok (.i2l, 1) := by decide +kernel
theorem dX9_plan_14 : decode cX9_plan 14 = .ok (.lconst 0, 1) := by decide +kernel
theorem dX9_plan_15 : decode cX9_plan 15 = .ok (.lconst 1, 1) := by decide +kernel
theorem dX9_plan_16 : decode cX9_plan 16 = .ok (.aload_n 0, 1) := by decide +kernel
theorem dX9_plan_17 : decode cX9_plan 17 = .ok (.getfield 7, 3) := by decide +kernel
theorem dX9_plan_20 : decode cX9_plan 20 = .ok (.iconst 1, 1) := by decide +kernel
theorem dX9_plan_21 : decode cX9_plan 21 = .ok (.iaload, 1) := by decide +kernel
theorem dX9_plan_22 : decode cX9_plan 22 = .ok (.lshl, 1) := by decide +kernel
theorem dX9_plan_23 : decode cX9_plan 23 = .ok (.lconst 1, 1) := by decide +kernel
theorem dX9_plan_24 : decode cX9_plan 24 = .ok (.lsub, 1) := by decide +kernel
theorem dX9_plan_25 : decode cX9_plan 25 = .ok (.invokestatic 37, 3) := by decide +kernel
theorem dX9_plan_28 : decode cX9_plan 28 = .ok (.ifCond .ne 6, 3) := by decide +kernel
theorem dX9_plan_31 : decode cX9_plan 31 = .ok (.bipush (-2), 2) := by decide +kernel
theorem dX9_plan_33 : decode cX9_plan 33 = .ok (.ireturn, 1) := by decide +kernel
theorem dX9_plan_34 : decode cX9_plan 34 = .ok (.aload_n 0, 1) := by decide +kernel
theorem dX9_plan_35 : decode cX9_plan 35 = .ok (.getfield 7, 3) := by decide +kernel
theorem dX9_plan_38 : decode cX9_plan 38 = .ok (.iconst 1, 1) := by decide +kernel
theorem dX9_plan_39 : decode cX9_plan 39 = .ok (.iaload, 1) := by decide +kernel
theorem dX9_plan_40 : decode cX9_plan 40 = .ok (.bipush 30, 2) := by decide +kernel
theorem dX9_plan_42 : decode cX9_plan 42 = .ok (.if_icmp .ne 6, 3) := by decide +kernel
theorem dX9_plan_45 : decode cX9_plan 45 = .ok (.bipush (-3), 2) := by decide +kernel
theorem dX9_plan_47 : decode cX9_plan 47 = .ok (.ireturn, 1) := by decide +kernel
theorem dX9_plan_48 : decode cX9_plan 48 = .ok (.aload_n 0, 1) := by decide +kernel
theorem dX9_plan_49 : decode cX9_plan 49 = .ok (.invokevirtual 79, 3) := by decide +kernel
theorem dX9_plan_52 : decode cX9_plan 52 = .ok (.aload_n 0, 1) := by decide +kernel
theorem dX9_plan_53 : decode cX9_plan 53 = .ok (.iload_n 1, 1) := by decide +kernel
theorem dX9_plan_54 : decode cX9_plan 54 = .ok (.iload_n 2, 1) := by decide +kernel
theorem dX9_plan_55 : decode cX9_plan 55 = .ok (.invokevirtual 85, 3) := by decide +kernel
theorem dX9_plan_58 : decode cX9_plan 58 = .ok (.aload_n 0, 1) := by decide +kernel
theorem dX9_plan_59 : decode cX9_plan 59 = .ok (.aload_n 0, 1) := by decide +kernel
theorem dX9_plan_60 : decode cX9_plan 60 = .ok (.getfield 7, 3) := by decide +kernel
theorem dX9_plan_63 : decode cX9_plan 63 = .ok (.iconst 1, 1) := by decide +kernel
theorem dX9_plan_64 : decode cX9_plan 64 = .ok (.iaload, 1) := by decide +kernel
theorem dX9_plan_65 : decode cX9_plan 65 = .ok (.iconst 1, 1) := by decide +kernel
theorem dX9_plan_66 : decode cX9_plan 66 = .ok (.isub, 1) := by decide +kernel
theorem dX9_plan_67 : decode cX9_plan 67 = .ok (.invokevirtual 82, 3) := by decide +kernel
theorem dX9_plan_70 : decode cX9_plan 70 = .ok (.ireturn, 1) := by decide +kernel
theorem dX9_write_0 : decode cX9_write 0 = .ok (.aload_n 0, 1) := by decide +kernel
theorem dX9_write_1 : decode cX9_write 1 = .ok (.invokevirtual 79, 3) := by decide +kernel
theorem dX9_write_4 : decode cX9_write 4 = .ok (.aload_n 0, 1) := by decide +kernel
theorem dX9_write_5 : decode cX9_write 5 = .ok (.invokevirtual 89, 3) := by decide +kernel
theorem dX9_write_8 : decode cX9_write 8 = .ok (.ifCond .ne 10, 3) := by decide +kernel
theorem dX9_write_11 : decode cX9_write 11 = .ok (.aload_n 0, 1) := by decide +kernel
theorem dX9_write_12 : decode cX9_write 12 = .ok (.invokevirtual 93, 3) := by decide +kernel
theorem dX9_write_15 : decode cX9_write 15 = .ok (.bipush (-4), 2) := by decide +kernel
theorem dX9_write_17 : decode cX9_write 17 = .ok (.ireturn, 1) := by decide +kernel
theorem dX9_write_18 : decode cX9_write 18 = .ok (.aload_n 0, 1) := by decide +kernel
theorem dX9_write_19 : decode cX9_write 19 = .ok (.aload_n 0, 1) := by decide +kernel
theorem dX9_write_20 : decode cX9_write 20 = .ok (.getfield 7, 3) := by decide +kernel
theorem dX9_write_23 : decode cX9_write 23 = .ok (.iconst 3, 1) := by decide +kernel
theorem dX9_write_24 : decode cX9_write 24 = .ok (.iaload, 1) := by decide +kernel
theorem dX9_write_25 : decode cX9_write 25 = .ok (.invokevirtual 82, 3) := by decide +kernel
theorem dX9_write_28 : decode cX9_write 28 = .ok (.ireturn, 1) := by decide +kernel
theorem dX9_pull_0 : decode cX9_pull 0 = .ok (.iload_n 1, 1) := by decide +kernel
theorem dX9_pull_1 : decode cX9_pull 1 = .ok (.i2l, 1) := by decide +kernel
theorem dX9_pull_2 : decode cX9_pull 2 = .ok (.lconst 0, 1) := by decide +kernel
theorem dX9_pull_3 : decode cX9_pull 3 = .ok (.ldc2_w 96, 3) := by decide +kernel
theorem dX9_pull_6 : decode cX9_pull 6 = .ok (.invokestatic 37, 3) := by decide +kernel
theorem dX9_pull_9 : decode cX9_pull 9 = .ok (.ifCond .ne 5, 3) := by decide +kernel
theorem dX9_pull_12 : decode cX9_pull 12 = .ok (.iconst (-1), 1) := by decide +kernel
theorem dX9_pull_13 : decode cX9_pull 13 = .ok (.ireturn, 1) := by decide +kernel
theorem dX9_pull_14 : decode cX9_pull 14 = .ok (.aload_n 0, 1) := by decide +kernel
theorem dX9_pull_15 : decode cX9_pull 15 = .ok (.invokevirtual 79, 3) := by decide +kernel
theorem dX9_pull_18 : decode cX9_pull 18 = .ok (.aload_n 0, 1) := by decide +kernel
theorem dX9_pull_19 : decode cX9_pull 19 = .ok (.iload_n 1, 1) := by decide +kernel
theorem dX9_pull_20 : decode cX9_pull 20 = .ok (.invokevirtual 62, 3) := by decide +kernel
theorem dX9_pull_23 : decode cX9_pull 23 = .ok (.aload_n 0, 1) := by decide +kernel
theorem dX9_pull_24 : decode cX9_pull 24 = .ok (.aload_n 0, 1) := by decide +kernel
theorem dX9_pull_25 : decode cX9_pull 25 = .ok (.getfield 7, 3) := by decide +kernel
theorem dX9_pull_28 : decode cX9_pull 28 = .ok (.iconst 4, 1) := by decide +kernel
theorem dX9_pull_29 : decode cX9_pull 29 = .ok (.iload_n 1, 1) := by decide +kernel
theorem dX9_pull_30 : decode cX9_pull 30 = .ok (.iadd, 1) := by decide +kernel
theorem dX9_pull_31 : decode cX9_pull 31 = .ok (.iaload, 1) := by decide +kernel
theorem dX9_pull_32 : decode cX9_pull 32 = .ok (.invokevirtual 82, 3) := by decide +kernel
theorem dX9_pull_35 : decode cX9_pull 35 = .ok (.ireturn, 1) := by decide +kernel
theorem dX9_pin_0 : decode cX9_pin 0 = .ok (.iload_n 1, 1) := by decide +kernel
theorem dX9_pin_1 : decode cX9_pin 1 = .ok (.invokestatic 98, 3) := by decide +kernel
theorem dX9_pin_4 : decode cX9_pin 4 = .ok (.ifCond .ne 5, 3) := by decide +kernel
theorem dX9_pin_7 : decode cX9_pin 7 = .ok (.iconst (-1), 1) := by decide +kernel
theorem dX9_pin_8 : decode cX9_pin 8 = .ok (.ireturn, 1) := by decide +kernel
theorem dX9_pin_9 : decode cX9_pin 9 = .ok (.aload_n 0, 1) := by decide +kernel
theorem dX9_pin_10 : decode cX9_pin 10 = .ok (.iload_n 1, 1) := by decide +kernel
theorem dX9_pin_11 : decode cX9_pin 11 = .ok (.invokevirtual 49, 3) := by decide +kernel
theorem dX9_pin_14 : decode cX9_pin 14 = .ok (.iload_n 2, 1) := by decide +kernel
theorem dX9_pin_15 : decode cX9_pin 15 = .ok (.if_icmp .ne 6, 3) := by decide +kernel
theorem dX9_pin_18 : decode cX9_pin 18 = .ok (.bipush (-5), 2) := by decide +kernel
theorem dX9_pin_20 : decode cX9_pin 20 = .ok (.ireturn, 1) := by decide +kernel
theorem dX9_pin_21 : decode cX9_pin 21 = .ok (.aload_n 0, 1) := by decide +kernel
theorem dX9_pin_22 : decode cX9_pin 22 = .ok (.invokevirtual 79, 3) := by decide +kernel
theorem dX9_pin_25 : decode cX9_pin 25 = .ok (.aload_n 0, 1) := by decide +kernel
theorem dX9_pin_26 : decode cX9_pin 26 = .ok (.getfield 7, 3) := by decide +kernel
theorem dX9_pin_29 : decode cX9_pin 29 = .ok (.bipush 7, 2) := by decide +kernel
theorem dX9_pin_31 : decode cX9_pin 31 = .ok (.dup2, 1) := by decide +kernel
theorem dX9_pin_32 : decode cX9_pin 32 = .ok (.iaload, 1) := by decide +kernel
theorem dX9_pin_33 : decode cX9_pin 33 = .ok (.iconst 1, 1) := by decide +kernel
theorem dX9_pin_34 : decode cX9_pin 34 = .ok (.iload_n 1, 1) := by decide +kernel
theorem dX9_pin_35 : decode cX9_pin 35 = .ok (.ishl, 1) := by decide +kernel
theorem dX9_pin_36 : decode cX9_pin 36 = .ok (.ixor, 1) := by decide +kernel
theorem dX9_pin_37 : decode cX9_pin 37 = .ok (.iastore, 1) := by decide +kernel
theorem dX9_pin_38 : decode cX9_pin 38 = .ok (.aload_n 0, 1) := by decide +kernel
theorem dX9_pin_39 : decode cX9_pin 39 = .ok (.aload_n 0, 1) := by decide +kernel
theorem dX9_pin_40 : decode cX9_pin 40 = .ok (.getfield 7, 3) := by decide +kernel
theorem dX9_pin_43 : decode cX9_pin 43 = .ok (.bipush 7, 2) := by decide +kernel
theorem dX9_pin_45 : decode cX9_pin 45 = .ok (.iaload, 1) := by decide +kernel
theorem dX9_pin_46 : decode cX9_pin 46 = .ok (.invokestatic 101, 3) := by decide +kernel
theorem dX9_pin_49 : decode cX9_pin 49 = .ok (.invokevirtual 82, 3) := by decide +kernel
theorem dX9_pin_52 : decode cX9_pin 52 = .ok (.ireturn, 1) := by decide +kernel
theorem dX9_wipe_0 : decode cX9_wipe 0 = .ok (.iload_n 1, 1) := by decide +kernel
theorem dX9_wipe_1 : decode cX9_wipe 1 = .ok (.invokestatic 98, 3) := by decide +kernel
theorem dX9_wipe_4 : decode cX9_wipe 4 = .ok (.ifCond .ne 5, 3) := by decide +kernel
theorem dX9_wipe_7 : decode cX9_wipe 7 = .ok (.iconst (-1), 1) := by decide +kernel
theorem dX9_wipe_8 : decode cX9_wipe 8 = .ok (.ireturn, 1) := by decide +kernel
theorem dX9_wipe_9 : decode cX9_wipe 9 = .ok (.aload_n 0, 1) := by decide +kernel
theorem dX9_wipe_10 : decode cX9_wipe 10 = .ok (.iload_n 1, 1) := by decide +kernel
theorem dX9_wipe_11 : decode cX9_wipe 11 = .ok (.invokevirtual 49, 3) := by decide +kernel
theorem dX9_wipe_14 : decode cX9_wipe 14 = .ok (.ifCond .ne 11, 3) := by decide +kernel
theorem dX9_wipe_17 : decode cX9_wipe 17 = .ok (.aload_n 0, 1) := by decide +kernel
theorem dX9_wipe_18 : decode cX9_wipe 18 = .ok (.iload_n 1, 1) := by decide +kernel
theorem dX9_wipe_19 : decode cX9_wipe 19 = .ok (.invokevirtual 59, 3) := by decide +kernel
theorem dX9_wipe_22 : decode cX9_wipe 22 = .ok (.ifCond .ne 6, 3) := by decide +kernel
theorem dX9_wipe_25 : decode cX9_wipe 25 = .ok (.bipush (-4), 2) := by decide +kernel
theorem dX9_wipe_27 : decode cX9_wipe 27 = .ok (.ireturn, 1) := by decide +kernel
theorem dX9_wipe_28 : decode cX9_wipe 28 = .ok (.aload_n 0, 1) := by decide +kernel
theorem dX9_wipe_29 : decode cX9_wipe 29 = .ok (.getfield 7, 3) := by decide +kernel
theorem dX9_wipe_32 : decode cX9_wipe 32 = .ok (.bipush 17, 2) := by decide +kernel
theorem dX9_wipe_34 : decode cX9_wipe 34 = .ok (.iload_n 1, 1) := by decide +kernel
theorem dX9_wipe_35 : decode cX9_wipe 35 = .ok (.iadd, 1) := by decide +kernel
theorem dX9_wipe_36 : decode cX9_wipe 36 = .ok (.iaload, 1) := by decide +kernel
theorem dX9_wipe_37 : decode cX9_wipe 37 = .ok (.ifCond .ne 6, 3) := by decide +kernel
theorem dX9_wipe_40 : decode cX9_wipe 40 = .ok (.bipush (-5), 2) := by decide +kernel
theorem dX9_wipe_42 : decode cX9_wipe 42 = .ok (.ireturn, 1) := by decide +kernel
theorem dX9_wipe_43 : decode cX9_wipe 43 = .ok (.aload_n 0, 1) := by decide +kernel
theorem dX9_wipe_44 : decode cX9_wipe 44 = .ok (.invokevirtual 79, 3) := by decide +kernel
theorem dX9_wipe_47 : decode cX9_wipe 47 = .ok (.aload_n 0, 1) := by decide +kernel
theorem dX9_wipe_48 : decode cX9_wipe 48 = .ok (.getfield 7, 3) := by decide +kernel
theorem dX9_wipe_51 : decode cX9_wipe 51 = .ok (.bipush 17, 2) := by decide +kernel
theorem dX9_wipe_53 : decode cX9_wipe 53 = .ok (.iload_n 1, 1) := by decide +kernel
theorem dX9_wipe_54 : decode cX9_wipe 54 = .ok (.iadd, 1) := by decide +kernel
theorem dX9_wipe_55 : decode cX9_wipe 55 = .ok (.iaload, 1) := by decide +kernel
theorem dX9_wipe_56 : decode cX9_wipe 56 = .ok (.invokestatic 101, 3) := by decide +kernel
theorem dX9_wipe_59 : decode cX9_wipe 59 = .ok (.istore_n 2, 1) := by decide +kernel
theorem dX9_wipe_60 : decode cX9_wipe 60 = .ok (.aload_n 0, 1) := by decide +kernel
theorem dX9_wipe_61 : decode cX9_wipe 61 = .ok (.iload_n 1, 1) := by decide +kernel
theorem dX9_wipe_62 : decode cX9_wipe 62 = .ok (.invokevirtual 69, 3) := by decide +kernel
theorem dX9_wipe_65 : decode cX9_wipe 65 = .ok (.aload_n 0, 1) := by decide +kernel
theorem dX9_wipe_66 : decode cX9_wipe 66 = .ok (.iload_n 2, 1) := by decide +kernel
theorem dX9_wipe_67 : decode cX9_wipe 67 = .ok (.invokevirtual 82, 3) := by decide +kernel
theorem dX9_wipe_70 : decode cX9_wipe 70 = .ok (.ireturn, 1) := by decide +kernel
theorem dX9_photo_0 : decode cX9_photo 0 = .ok (.iload_n 1, 1) := by decide +kernel
theorem dX9_photo_1 : decode cX9_photo 1 = .ok (.invokestatic 98, 3) := by decide +kernel
theorem dX9_photo_4 : decode cX9_photo 4 = .ok (.ifCond .ne 5, 3) := by decide +kernel
theorem dX9_photo_7 : decode cX9_photo 7 = .ok (.iconst (-1), 1) := by decide +kernel
theorem dX9_photo_8 : decode cX9_photo 8 = .ok (.ireturn, 1) := by decide +kernel
theorem dX9_photo_9 : decode cX9_photo 9 = .ok (.aload_n 0, 1) := by decide +kernel
theorem dX9_photo_10 : decode cX9_photo 10 = .ok (.iload_n 1, 1) := by decide +kernel
theorem dX9_photo_11 : decode cX9_photo 11 = .ok (.invokevirtual 59, 3) := by decide +kernel
theorem dX9_photo_14 : decode cX9_photo 14 = .ok (.ifCond .eq 15, 3) := by decide +kernel
theorem dX9_photo_17 : decode cX9_photo 17 = .ok (.aload_n 0, 1) := by decide +kernel
theorem dX9_photo_18 : decode cX9_photo 18 = .ok (.getfield 7, 3) := by decide +kernel
theorem dX9_photo_21 : decode cX9_photo 21 = .ok (.bipush 17, 2) := by decide +kernel
theorem dX9_photo_23 : decode cX9_photo 23 = .ok (.iload_n 1, 1) := by decide +kernel
theorem dX9_photo_24 : decode cX9_photo 24 = .ok (.iadd, 1) := by decide +kernel
theorem dX9_photo_25 : decode cX9_photo 25 = .ok (.iaload, 1) := by decide +kernel
theorem dX9_photo_26 : decode cX9_photo 26 = .ok (.ifCond .ne 6, 3) := by decide +kernel
theorem dX9_photo_29 : decode cX9_photo 29 = .ok (.bipush (-4), 2) := by decide +kernel
theorem dX9_photo_31 : decode cX9_photo 31 = .ok (.ireturn, 1) := by decide +kernel
theorem dX9_photo_32 : decode cX9_photo 32 = .ok (.aload_n 0, 1) := by decide +kernel
theorem dX9_photo_33 : decode cX9_photo 33 = .ok (.getfield 7, 3) := by decide +kernel
theorem dX9_photo_36 : decode cX9_photo 36 = .ok (.bipush 10, 2) := by decide +kernel
theorem dX9_photo_38 : decode cX9_photo 38 = .ok (.iaload, 1) := by decide +kernel
theorem dX9_photo_39 : decode cX9_photo 39 = .ok (.bipush 40, 2) := by decide +kernel
theorem dX9_photo_41 : decode cX9_photo 41 = .ok (.if_icmp .ne 6, 3) := by decide +kernel
theorem dX9_photo_44 : decode cX9_photo 44 = .ok (.bipush (-3), 2) := by decide +kernel
theorem dX9_photo_46 : decode cX9_photo 46 = .ok (.ireturn, 1) := by decide +kernel
theorem dX9_photo_47 : decode cX9_photo 47 = .ok (.aload_n 0, 1) := by decide +kernel
theorem dX9_photo_48 : decode cX9_photo 48 = .ok (.invokevirtual 79, 3) := by decide +kernel
theorem dX9_photo_51 : decode cX9_photo 51 = .ok (.aload_n 0, 1) := by decide +kernel
theorem dX9_photo_52 : decode cX9_photo 52 = .ok (.getfield 7, 3) := by decide +kernel
theorem dX9_photo_55 : decode cX9_photo 55 = .ok (.bipush 17, 2) := by decide +kernel
theorem dX9_photo_57 : decode cX9_photo 57 = .ok (.iload_n 1, 1) := by decide +kernel
theorem dX9_photo_58 : decode cX9_photo 58 = .ok (.iadd, 1) := by decide +kernel
theorem dX9_photo_59 : decode cX9_photo 59 = .ok (.iaload, 1) := by decide +kernel
theorem dX9_photo_60 : decode cX9_photo 60 = .ok (.aload_n 0, 1) := by decide +kernel
theorem dX9_photo_61 : decode cX9_photo 61 = .ok (.invokevirtual 41, 3) := by decide +kernel
theorem dX9_photo_64 : decode cX9_photo 64 = .ok (.iconst (-1), 1) := by decide +kernel
theorem dX9_photo_65 : decode cX9_photo 65 = .ok (.ixor, 1) := by decide +kernel
theorem dX9_photo_66 : decode cX9_photo 66 = .ok (.iand, 1) := by decide +kernel
theorem dX9_photo_67 : decode cX9_photo 67 = .ok (.invokestatic 101, 3) := by decide +kernel
theorem dX9_photo_70 : decode cX9_photo 70 = .ok (.istore_n 2, 1) := by decide +kernel
theorem dX9_photo_71 : decode cX9_photo 71 = .ok (.aload_n 0, 1) := by decide +kernel
theorem dX9_photo_72 : decode cX9_photo 72 = .ok (.getfield 7, 3) := by decide +kernel
theorem dX9_photo_75 : decode cX9_photo 75 = .ok (.bipush 29, 2) := by decide +kernel
theorem dX9_photo_77 : decode cX9_photo 77 = .ok (.aload_n 0, 1) := by decide +kernel
theorem dX9_photo_78 : decode cX9_photo 78 = .ok (.getfield 7, 3) := by decide +kernel
theorem dX9_photo_81 : decode cX9_photo 81 = .ok (.bipush 10, 2) := by decide +kernel
theorem dX9_photo_83 : decode cX9_photo 83 = .ok (.iaload, 1) := by decide +kernel
theorem dX9_photo_84 : decode cX9_photo 84 = .ok (.iadd, 1) := by decide +kernel
theorem dX9_photo_85 : decode cX9_photo 85 = .ok (.iload_n 1, 1) := by decide +kernel
theorem dX9_photo_86 : decode cX9_photo 86 = .ok (.iastore, 1) := by decide +kernel
theorem dX9_photo_87 : decode cX9_photo 87 = .ok (.aload_n 0, 1) := by decide +kernel
theorem dX9_photo_88 : decode cX9_photo 88 = .ok (.getfield 7, 3) := by decide +kernel
theorem dX9_photo_91 : decode cX9_photo 91 = .ok (.bipush 69, 2) := by decide +kernel
theorem dX9_photo_93 : decode cX9_photo 93 = .ok (.aload_n 0, 1) := by decide +kernel
theorem dX9_photo_94 : decode cX9_photo 94 = .ok (.getfield 7, 3) := by decide +kernel
theorem dX9_photo_97 : decode cX9_photo 97 = .ok (.bipush 10, 2) := by decide +kernel
theorem dX9_photo_99 : decode cX9_photo 99 = .ok (.iaload, 1) := by decide +kernel
theorem dX9_photo_100 : decode cX9_photo 100 = .ok (.iadd, 1) := by decide +kernel
theorem dX9_photo_101 : decode cX9_photo 101 = .ok (.aload_n 0, 1) := by decide +kernel
theorem dX9_photo_102 : decode cX9_photo 102 = .ok (.getfield 7, 3) := by decide +kernel
theorem dX9_photo_105 : decode cX9_photo 105 = .ok (.bipush 17, 2) := by decide +kernel
theorem dX9_photo_107 : decode cX9_photo 107 = .ok (.iload_n 1, 1) := by decide +kernel
theorem dX9_photo_108 : decode cX9_photo 108 = .ok (.iadd, 1) := by decide +kernel
theorem dX9_photo_109 : decode cX9_photo 109 = .ok (.iaload, 1) := by decide +kernel
theorem dX9_photo_110 : decode cX9_photo 110 = .ok (.iastore, 1) := by decide +kernel
theorem dX9_photo_111 : decode cX9_photo 111 = .ok (.aload_n 0, 1) := by decide +kernel
theorem dX9_photo_112 : decode cX9_photo 112 = .ok (.getfield 7, 3) := by decide +kernel
theorem dX9_photo_115 : decode cX9_photo 115 = .ok (.bipush 10, 2) := by decide +kernel
theorem dX9_photo_117 : decode cX9_photo 117 = .ok (.dup2, 1) := by decide +kernel
theorem dX9_photo_118 : decode cX9_photo 118 = .ok (.iaload, 1) := by decide +kernel
theorem dX9_photo_119 : decode cX9_photo 119 = .ok (.iconst 1, 1) := by decide +kernel
theorem dX9_photo_120 : decode cX9_photo 120 = .ok (.iadd, 1) := by decide +kernel
theorem dX9_photo_121 : decode cX9_photo 121 = .ok (.iastore, 1) := by decide +kernel
theorem dX9_photo_122 : decode cX9_photo 122 = .ok (.aload_n 0, 1) := by decide +kernel
theorem dX9_photo_123 : decode cX9_photo 123 = .ok (.iload_n 2, 1) := by decide +kernel
theorem dX9_photo_124 : decode cX9_photo 124 = .ok (.invokevirtual 82, 3) := by decide +kernel
theorem dX9_photo_127 : decode cX9_photo 127 = .ok (.ireturn, 1) := by decide +kernel
theorem dX9_isStep_0 : decode cX9_isStep 0 = .ok (.iload_n 1, 1) := by decide +kernel
theorem dX9_isStep_1 : decode cX9_isStep 1 = .ok (.i2l, 1) := by decide +kernel
theorem dX9_isStep_2 : decode cX9_isStep 2 = .ok (.lconst 0, 1) := by decide +kernel
theorem dX9_isStep_3 : decode cX9_isStep 3 = .ok (.aload_n 0, 1) := by decide +kernel
theorem dX9_isStep_4 : decode cX9_isStep 4 = .ok (.getfield 7, 3) := by decide +kernel
theorem dX9_isStep_7 : decode cX9_isStep 7 = .ok (.iconst 1, 1) := by decide +kernel
theorem dX9_isStep_8 : decode cX9_isStep 8 = .ok (.iaload, 1) := by decide +kernel
theorem dX9_isStep_9 : decode cX9_isStep 9 = .ok (.i2l, 1) := by decide +kernel
theorem dX9_isStep_10 : decode cX9_isStep 10 = .ok (.lconst 1, 1) := by decide +kernel
theorem dX9_isStep_11 : decode cX9_isStep 11 = .ok (.lsub, 1) := by decide +kernel
theorem dX9_isStep_12 : decode cX9_isStep 12 = .ok (.invokestatic 37, 3) := by decide +kernel
theorem dX9_isStep_15 : decode cX9_isStep 15 = .ok (.ireturn, 1) := by decide +kernel
theorem dX9_ask_0 : decode cX9_ask 0 = .ok (.aload_n 0, 1) := by decide +kernel
theorem dX9_ask_1 : decode cX9_ask 1 = .ok (.iload_n 1, 1) := by decide +kernel
theorem dX9_ask_2 : decode cX9_ask 2 = .ok (.invokevirtual 104, 3) := by decide +kernel
theorem dX9_ask_5 : decode cX9_ask 5 = .ok (.ifCond .ne 5, 3) := by decide +kernel
theorem dX9_ask_8 : decode cX9_ask 8 = .ok (.iconst (-1), 1) := by decide +kernel
theorem dX9_ask_9 : decode cX9_ask 9 = .ok (.ireturn, 1) := by decide +kernel
theorem dX9_ask_10 : decode cX9_ask 10 = .ok (.iload_n 1, 1) := by decide +kernel
theorem dX9_ask_11 : decode cX9_ask 11 = .ok (.aload_n 0, 1) := by decide +kernel
theorem dX9_ask_12 : decode cX9_ask 12 = .ok (.getfield 7, 3) := by decide +kernel
theorem dX9_ask_15 : decode cX9_ask 15 = .ok (.iconst 2, 1) := by decide +kernel
theorem dX9_ask_16 : decode cX9_ask 16 = .ok (.iaload, 1) := by decide +kernel
theorem dX9_ask_17 : decode cX9_ask 17 = .ok (.if_icmp .lt 6, 3) := by decide +kernel
theorem dX9_ask_20 : decode cX9_ask 20 = .ok (.bipush (-4), 2) := by decide +kernel
theorem dX9_ask_22 : decode cX9_ask 22 = .ok (.ireturn, 1) := by decide +kernel
theorem dX9_ask_23 : decode cX9_ask 23 = .ok (.aload_n 0, 1) := by decide +kernel
theorem dX9_ask_24 : decode cX9_ask 24 = .ok (.invokevirtual 79, 3) := by decide +kernel
theorem dX9_ask_27 : decode cX9_ask 27 = .ok (.aload_n 0, 1) := by decide +kernel
theorem dX9_ask_28 : decode cX9_ask 28 = .ok (.iload_n 1, 1) := by decide +kernel
theorem dX9_ask_29 : decode cX9_ask 29 = .ok (.invokevirtual 53, 3) := by decide +kernel
theorem dX9_ask_32 : decode cX9_ask 32 = .ok (.istore_n 2, 1) := by decide +kernel
theorem dX9_ask_33 : decode cX9_ask 33 = .ok (.iload_n 2, 1) := by decide +kernel
theorem dX9_ask_34 : decode cX9_ask 34 = .ok (.bipush (-5), 2) := by decide +kernel
theorem dX9_ask_36 : decode cX9_ask 36 = .ok (.if_icmp .ne 19, 3) := by decide +kernel
theorem dX9_ask_39 : decode cX9_ask 39 = .ok (.aload_n 0, 1) := by decide +kernel
theorem dX9_ask_40 : decode cX9_ask 40 = .ok (.iload_n 1, 1) := by decide +kernel
theorem dX9_ask_41 : decode cX9_ask 41 = .ok (.invokevirtual 56, 3) := by decide +kernel
theorem dX9_ask_44 : decode cX9_ask 44 = .ok (.ifCond .eq 7, 3) := by decide +kernel
theorem dX9_ask_47 : decode cX9_ask 47 = .ok (.iconst 2, 1) := by decide +kernel
theorem dX9_ask_48 : decode cX9_ask 48 = .ok (.goto 20, 3) := by decide +kernel
theorem dX9_ask_51 : decode cX9_ask 51 = .ok (.iconst 3, 1) := by decide +kernel
theorem dX9_ask_52 : decode cX9_ask 52 = .ok (.goto 16, 3) := by decide +kernel
theorem dX9_ask_55 : decode cX9_ask 55 = .ok (.aload_n 0, 1) := by decide +kernel
theorem dX9_ask_56 : decode cX9_ask 56 = .ok (.iload_n 2, 1) := by decide +kernel
theorem dX9_ask_57 : decode cX9_ask 57 = .ok (.invokevirtual 59, 3) := by decide +kernel
theorem dX9_ask_60 : decode cX9_ask 60 = .ok (.ifCond .eq 7, 3) := by decide +kernel
theorem dX9_ask_63 : decode cX9_ask 63 = .ok (.iconst 0, 1) := by decide +kernel
theorem dX9_ask_64 : decode cX9_ask 64 = .ok (.goto 4, 3) := by decide +kernel
theorem dX9_ask_67 : decode cX9_ask 67 = .ok (.iconst 1, 1) := by decide +kernel
theorem dX9_ask_68 : decode cX9_ask 68 = .ok (.istore_n 3, 1) := by decide +kernel
theorem dX9_ask_69 : decode cX9_ask 69 = .ok (.iload_n 3, 1) := by decide +kernel
theorem dX9_ask_70 : decode cX9_ask 70 = .ok (.iconst 1, 1) := by decide +kernel
theorem dX9_ask_71 : decode cX9_ask 71 = .ok (.if_icmp .ne 10, 3) := by decide +kernel
theorem dX9_ask_74 : decode cX9_ask 74 = .ok (.aload_n 0, 1) := by decide +kernel
theorem dX9_ask_75 : decode cX9_ask 75 = .ok (.iload_n 2, 1) := by decide +kernel
theorem dX9_ask_76 : decode cX9_ask 76 = .ok (.iconst 2, 1) := by decide +kernel
theorem dX9_ask_77 : decode cX9_ask 77 = .ok (.idiv, 1) := by decide +kernel
theorem dX9_ask_78 : decode cX9_ask 78 = .ok (.invokevirtual 62, 3) := by decide +kernel
theorem dX9_ask_81 : decode cX9_ask 81 = .ok (.aload_n 0, 1) := by decide +kernel
theorem dX9_ask_82 : decode cX9_ask 82 = .ok (.getfield 7, 3) := by decide +kernel
theorem dX9_ask_85 : decode cX9_ask 85 = .ok (.sipush 169, 3) := by decide +kernel
theorem dX9_ask_88 : decode cX9_ask 88 = .ok (.iload_n 1, 1) := by decide +kernel
theorem dX9_ask_89 : decode cX9_ask 89 = .ok (.iadd, 1) := by decide +kernel
theorem dX9_ask_90 : decode cX9_ask 90 = .ok (.dup2, 1) := by decide +kernel
theorem dX9_ask_91 : decode cX9_ask 91 = .ok (.iaload, 1) := by decide +kernel
theorem dX9_ask_92 : decode cX9_ask 92 = .ok (.iconst 1, 1) := by decide +kernel
theorem dX9_ask_93 : decode cX9_ask 93 = .ok (.iadd, 1) := by decide +kernel
theorem dX9_ask_94 : decode cX9_ask 94 = .ok (.iastore, 1) := by decide +kernel
theorem dX9_ask_95 : decode cX9_ask 95 = .ok (.aload_n 0, 1) := by decide +kernel
theorem dX9_ask_96 : decode cX9_ask 96 = .ok (.getfield 7, 3) := by decide +kernel
theorem dX9_ask_99 : decode cX9_ask 99 = .ok (.bipush 14, 2) := by decide +kernel
theorem dX9_ask_101 : decode cX9_ask 101 = .ok (.iload_n 3, 1) := by decide +kernel
theorem dX9_ask_102 : decode cX9_ask 102 = .ok (.iconst 2, 1) := by decide +kernel
theorem dX9_ask_103 : decode cX9_ask 103 = .ok (.if_icmp .ge 7, 3) := by decide +kernel
theorem dX9_ask_106 : decode cX9_ask 106 = .ok (.iconst 0, 1) := by decide +kernel
theorem dX9_ask_107 : decode cX9_ask 107 = .ok (.goto 6, 3) := by decide +kernel
theorem dX9_ask_110 : decode cX9_ask 110 = .ok (.iload_n 3, 1) := by decide +kernel
theorem dX9_ask_111 : decode cX9_ask 111 = .ok (.iconst 1, 1) := by decide +kernel
theorem dX9_ask_112 : decode cX9_ask 112 = .ok (.isub, 1) := by decide +kernel
theorem dX9_ask_113 : decode cX9_ask 113 = .ok (.iadd, 1) := by decide +kernel
theorem dX9_ask_114 : decode cX9_ask 114 = .ok (.dup2, 1) := by decide +kernel
theorem dX9_ask_115 : decode cX9_ask 115 = .ok (.iaload, 1) := by decide +kernel
theorem dX9_ask_116 : decode cX9_ask 116 = .ok (.iconst 1, 1) := by decide +kernel
theorem dX9_ask_117 : decode cX9_ask 117 = .ok (.iadd, 1) := by decide +kernel
theorem dX9_ask_118 : decode cX9_ask 118 = .ok (.iastore, 1) := by decide +kernel
theorem dX9_ask_119 : decode cX9_ask 119 = .ok (.aload_n 0, 1) := by decide +kernel
theorem dX9_ask_120 : decode cX9_ask 120 = .ok (.iload_n 3, 1) := by decide +kernel
theorem dX9_ask_121 : decode cX9_ask 121 = .ok (.invokevirtual 82, 3) := by decide +kernel
theorem dX9_ask_124 : decode cX9_ask 124 = .ok (.ireturn, 1) := by decide +kernel
theorem dX9_type_0 : decode cX9_type 0 = .ok (.aload_n 0, 1) := by decide +kernel
theorem dX9_type_1 : decode cX9_type 1 = .ok (.getfield 107, 3) := by decide +kernel
theorem dX9_type_4 : decode cX9_type 4 = .ok (.bipush 60, 2) := by decide +kernel
theorem dX9_type_6 : decode cX9_type 6 = .ok (.if_icmp .ne 6, 3) := by decide +kernel
theorem dX9_type_9 : decode cX9_type 9 = .ok (.bipush (-3), 2) := by decide +kernel
theorem dX9_type_11 : decode cX9_type 11 = .ok (.ireturn, 1) := by decide +kernel
theorem dX9_type_12 : decode cX9_type 12 = .ok (.aload_n 0, 1) := by decide +kernel
theorem dX9_type_13 : decode cX9_type 13 = .ok (.getfield 22, 3) := by decide +kernel
theorem dX9_type_16 : decode cX9_type 16 = .ok (.aload_n 0, 1) := by decide +kernel
theorem dX9_type_17 : decode cX9_type 17 = .ok (.getfield 107, 3) := by decide +kernel
theorem dX9_type_20 : decode cX9_type 20 = .ok (.iload_n 1, 1) := by decide +kernel
theorem dX9_type_21 : decode cX9_type 21 = .ok (.iastore, 1) := by decide +kernel
theorem dX9_type_22 : decode cX9_type 22 = .ok (.aload_n 0, 1) := by decide +kernel
theorem dX9_type_23 : decode cX9_type 23 = .ok (.dup, 1) := by decide +kernel
theorem dX9_type_24 : decode cX9_type 24 = .ok (.getfield 107, 3) := by decide +kernel
theorem dX9_type_27 : decode cX9_type 27 = .ok (.iconst 1, 1) := by decide +kernel
theorem dX9_type_28 : decode cX9_type 28 = .ok (.iadd, 1) := by decide +kernel
theorem dX9_type_29 : decode cX9_type 29 = .ok (.putfield 107, 3) := by decide +kernel
theorem dX9_type_32 : decode cX9_type 32 = .ok (.aload_n 0, 1) := by decide +kernel
theorem dX9_type_33 : decode cX9_type 33 = .ok (.getfield 107, 3) := by decide +kernel
theorem dX9_type_36 : decode cX9_type 36 = .ok (.ireturn, 1) := by decide +kernel
theorem dX9_clearText_0 : decode cX9_clearText 0 = .ok (.aload_n 0, 1) := by decide +kernel
theorem dX9_clearText_1 : decode cX9_clearText 1 = .ok (.getfield 107, 3) := by decide +kernel
theorem dX9_clearText_4 : decode cX9_clearText 4 = .ok (.istore_n 1, 1) := by decide +kernel
theorem dX9_clearText_5 : decode cX9_clearText 5 = .ok (.aload_n 0, 1) := by decide +kernel
theorem dX9_clearText_6 : decode cX9_clearText 6 = .ok (.iconst 0, 1) := by decide +kernel
theorem dX9_clearText_7 : decode cX9_clearText 7 = .ok (.putfield 107, 3) := by decide +kernel
theorem dX9_clearText_10 : decode cX9_clearText 10 = .ok (.iload_n 1, 1) := by decide +kernel
theorem dX9_clearText_11 : decode cX9_clearText 11 = .ok (.ireturn, 1) := by decide +kernel
theorem dX9_isHere_0 : decode cX9_isHere 0 = .ok (.aload_n 0, 1) := by decide +kernel
theorem dX9_isHere_1 : decode cX9_isHere 1 = .ok (.getfield 110, 3) := by decide +kernel
theorem dX9_isHere_4 : decode cX9_isHere 4 = .ok (.aload_n 0, 1) := by decide +kernel
theorem dX9_isHere_5 : decode cX9_isHere 5 = .ok (.getfield 107, 3) := by decide +kernel
theorem dX9_isHere_8 : decode cX9_isHere 8 = .ok (.if_icmp .ge 27, 3) := by decide +kernel
theorem dX9_isHere_11 : decode cX9_isHere 11 = .ok (.aload_n 0, 1) := by decide +kernel
theorem dX9_isHere_12 : decode cX9_isHere 12 = .ok (.getfield 22, 3) := by decide +kernel
theorem dX9_isHere_15 : decode cX9_isHere 15 = .ok (.aload_n 0, 1) := by decide +kernel
theorem dX9_isHere_16 : decode cX9_isHere 16 = .ok (.getfield 110, 3) := by decide +kernel
theorem dX9_isHere_19 : decode cX9_isHere 19 = .ok (.iaload, 1) := by decide +kernel
theorem dX9_isHere_20 : decode cX9_isHere 20 = .ok (.i2l, 1) := by decide +kernel
theorem dX9_isHere_21 : decode cX9_isHere 21 = .ok (.iload_n 1, 1) := by decide +kernel
theorem dX9_isHere_22 : decode cX9_isHere 22 = .ok (.i2l, 1) := by decide +kernel
theorem dX9_isHere_23 : decode cX9_isHere 23 = .ok (.iload_n 2, 1) := by decide +kernel
theorem dX9_isHere_24 : decode cX9_isHere 24 = .ok (.i2l, 1) := by decide +kernel
theorem dX9_isHere_25 : decode cX9_isHere 25 = .ok (.invokestatic 37, 3) := by decide +kernel
theorem dX9_isHere_28 : decode cX9_isHere 28 = .ok (.ifCond .eq 7, 3) := by decide +kernel
theorem dX9_isHere_31 : decode cX9_isHere 31 = .ok (.iconst 1, 1) := by decide +kernel
theorem dX9_isHere_32 : decode cX9_isHere 32 = .ok (.goto 4, 3) := by decide +kernel
theorem dX9_isHere_35 : decode cX9_isHere 35 = .ok (.iconst 0, 1) := by decide +kernel
theorem dX9_isHere_36 : decode cX9_isHere 36 = .ok (.ireturn, 1) := by decide +kernel
theorem dX9_takes_0 : decode cX9_takes 0 = .ok (.aload_n 0, 1) := by decide +kernel
theorem dX9_takes_1 : decode cX9_takes 1 = .ok (.iload_n 1, 1) := by decide +kernel
theorem dX9_takes_2 : decode cX9_takes 2 = .ok (.iload_n 1, 1) := by decide +kernel
theorem dX9_takes_3 : decode cX9_takes 3 = .ok (.invokevirtual 113, 3) := by decide +kernel
theorem dX9_takes_6 : decode cX9_takes 6 = .ok (.istore_n 2, 1) := by decide +kernel
theorem dX9_takes_7 : decode cX9_takes 7 = .ok (.aload_n 0, 1) := by decide +kernel
theorem dX9_takes_8 : decode cX9_takes 8 = .ok (.dup, 1) := by decide +kernel
theorem dX9_takes_9 : decode cX9_takes 9 = .ok (.getfield 110, 3) := by decide +kernel
theorem dX9_takes_12 : decode cX9_takes 12 = .ok (.iload_n 2, 1) := by decide +kernel
theorem dX9_takes_13 : decode cX9_takes 13 = .ok (.ifCond .eq 7, 3) := by decide +kernel
theorem dX9_takes_16 : decode cX9_takes 16 = .ok (.iconst 1, 1) := by decide +kernel
theorem dX9_takes_17 : decode cX9_takes 17 = .ok (.goto 4, 3) := by decide +kernel
theorem dX9_takes_20 : decode cX9_takes 20 = .ok (.iconst 0, 1) := by decide +kernel
theorem dX9_takes_21 : decode cX9_takes 21 = .ok (.iadd, 1) := by decide +kernel
theorem dX9_takes_22 : decode cX9_takes 22 = .ok (.putfield 110, 3) := by decide +kernel
theorem dX9_takes_25 : decode cX9_takes 25 = .ok (.iload_n 2, 1) := by decide +kernel
theorem dX9_takes_26 : decode cX9_takes 26 = .ok (.ireturn, 1) := by decide +kernel
theorem dX9_readsNumber_0 : decode cX9_readsNumber 0 = .ok (.aload_n 0, 1) := by decide +kernel
theorem dX9_readsNumber_1 : decode cX9_readsNumber 1 = .ok (.bipush 48, 2) := by decide +kernel
theorem dX9_readsNumber_3 : decode cX9_readsNumber 3 = .ok (.bipush 57, 2) := by decide +kernel
theorem dX9_readsNumber_5 : decode cX9_readsNumber 5 = .ok (.invokevirtual 113, 3) := by decide +kernel
theorem dX9_readsNumber_8 : decode cX9_readsNumber 8 = .ok (.ifCond .eq 19, 3) := by decide +kernel
theorem dX9_readsNumber_11 : decode cX9_readsNumber 11 = .ok (.aload_n 0, 1) := by decide +kernel
theorem dX9_readsNumber_12 : decode cX9_readsNumber 12 = .ok (.getfield 22, 3) := by decide +kernel
theorem dX9_readsNumber_15 : decode cX9_readsNumber 15 = .ok (.aload_n 0, 1) := by decide +kernel
theorem dX9_readsNumber_16 : decode cX9_readsNumber 16 = .ok (.getfield 110, 3) := by decide +kernel
theorem dX9_readsNumber_19 : decode cX9_readsNumber 19 = .ok (.iaload, 1) := by decide +kernel
theorem dX9_readsNumber_20 : decode cX9_readsNumber 20 = .ok (.bipush 48, 2) := by decide +kernel
theorem dX9_readsNumber_22 : decode cX9_readsNumber 22 = .ok (.isub, 1) := by decide +kernel
theorem dX9_readsNumber_23 : decode cX9_readsNumber 23 = .ok (.iload_n 1, 1) := by decide +kernel
theorem dX9_readsNumber_24 : decode cX9_readsNumber 24 = .ok (.if_icmp .lt 5, 3) := by decide +kernel
theorem dX9_readsNumber_27 : decode cX9_readsNumber 27 = .ok (.iconst 0, 1) := by decide +kernel
theorem dX9_readsNumber_28 : decode cX9_readsNumber 28 = .ok (.ireturn, 1) := by decide +kernel
theorem dX9_readsNumber_29 : decode cX9_readsNumber 29 = .ok (.aload_n 0, 1) := by decide +kernel
theorem dX9_readsNumber_30 : decode cX9_readsNumber 30 = .ok (.aload_n 0, 1) := by decide +kernel
theorem dX9_readsNumber_31 : decode cX9_readsNumber 31 = .ok (.getfield 22, 3) := by decide +kernel
theorem dX9_readsNumber_34 : decode cX9_readsNumber 34 = .ok (.aload_n 0, 1) := by decide +kernel
theorem dX9_readsNumber_35 : decode cX9_readsNumber 35 = .ok (.getfield 110, 3) := by decide +kernel
theorem dX9_readsNumber_38 : decode cX9_readsNumber 38 = .ok (.iaload, 1) := by decide +kernel
theorem dX9_readsNumber_39 : decode cX9_readsNumber 39 = .ok (.bipush 48, 2) := by decide +kernel
theorem dX9_readsNumber_41 : decode cX9_readsNumber 41 = .ok (.isub, 1) := by decide +kernel
theorem dX9_readsNumber_42 : decode cX9_readsNumber 42 = .ok (.putfield 117, 3) := by decide +kernel
theorem dX9_readsNumber_45 : decode cX9_readsNumber 45 = .ok (.aload_n 0, 1) := by decide +kernel
theorem dX9_readsNumber_46 : decode cX9_readsNumber 46 = .ok (.dup, 1) := by decide +kernel
theorem dX9_readsNumber_47 : decode cX9_readsNumber 47 = .ok (.getfield 110, 3) := by decide +kernel
theorem dX9_readsNumber_50 : decode cX9_readsNumber 50 = .ok (.iconst 1, 1) := by decide +kernel
theorem dX9_readsNumber_51 : decode cX9_readsNumber 51 = .ok (.iadd, 1) := by decide +kernel
theorem dX9_readsNumber_52 : decode cX9_readsNumber 52 = .ok (.putfield 110, 3) := by decide +kernel
theorem dX9_readsNumber_55 : decode cX9_readsNumber 55 = .ok (.aload_n 0, 1) := by decide +kernel
theorem dX9_readsNumber_56 : decode cX9_readsNumber 56 = .ok (.getfield 117, 3) := by decide +kernel
theorem dX9_readsNumber_59 : decode cX9_readsNumber 59 = .ok (.ifCond .le 72, 3) := by decide +kernel
theorem dX9_readsNumber_62 : decode cX9_readsNumber 62 = .ok (.aload_n 0, 1) := by decide +kernel
theorem dX9_readsNumber_63 : decode cX9_readsNumber 63 = .ok (.bipush 48, 2) := by decide +kernel
theorem dX9_readsNumber_65 : decode cX9_readsNumber 65 = .ok (.bipush 57, 2) := by decide +kernel
theorem dX9_readsNumber_67 : decode cX9_readsNumber 67 = .ok (.invokevirtual 113, 3) := by decide +kernel
theorem dX9_readsNumber_70 : decode cX9_readsNumber 70 = .ok (.ifCond .eq 61, 3) := by decide +kernel
theorem dX9_readsNumber_73 : decode cX9_readsNumber 73 = .ok (.bipush 10, 2) := by decide +kernel
theorem dX9_readsNumber_75 : decode cX9_readsNumber 75 = .ok (.aload_n 0, 1) := by decide +kernel
theorem dX9_readsNumber_76 : decode cX9_readsNumber 76 = .ok (.getfield 117, 3) := by decide +kernel
theorem dX9_readsNumber_79 : decode cX9_readsNumber 79 = .ok (.imul, 1) := by decide +kernel
theorem dX9_readsNumber_80 : decode cX9_readsNumber 80 = .ok (.aload_n 0, 1) := by decide +kernel
theorem dX9_readsNumber_81 : decode cX9_readsNumber 81 = .ok (.getfield 22, 3) := by decide +kernel
theorem dX9_readsNumber_84 : decode cX9_readsNumber 84 = .ok (.aload_n 0, 1) := by decide +kernel
theorem dX9_readsNumber_85 : decode cX9_readsNumber 85 = .ok (.getfield 110, 3) := by decide +kernel
theorem dX9_readsNumber_88 : decode cX9_readsNumber 88 = .ok (.iaload, 1) := by decide +kernel
theorem dX9_readsNumber_89 : decode cX9_readsNumber 89 = .ok (.iadd, 1) := by decide +kernel
theorem dX9_readsNumber_90 : decode cX9_readsNumber 90 = .ok (.bipush 48, 2) := by decide +kernel
theorem dX9_readsNumber_92 : decode cX9_readsNumber 92 = .ok (.isub, 1) := by decide +kernel
theorem dX9_readsNumber_93 : decode cX9_readsNumber 93 = .ok (.iload_n 1, 1) := by decide +kernel
theorem dX9_readsNumber_94 : decode cX9_readsNumber 94 = .ok (.if_icmp .ge 37, 3) := by decide +kernel
theorem dX9_readsNumber_97 : decode cX9_readsNumber 97 = .ok (.aload_n 0, 1) := by decide +kernel
theorem dX9_readsNumber_98 : decode cX9_readsNumber 98 = .ok (.bipush 10, 2) := by decide +kernel
theorem dX9_readsNumber_100 : decode cX9_readsNumber 100 = .ok (.aload_n 0, 1) := by decide +kernel
theorem dX9_readsNumber_101 : decode cX9_readsNumber 101 = .ok (.getfield 117, 3) := by decide +kernel
theorem dX9_readsNumber_104 : decode cX9_readsNumber 104 = .ok (.imul, 1) := by decide +kernel
theorem dX9_readsNumber_105 : decode cX9_readsNumber 105 = .ok (.aload_n 0, 1) := by decide +kernel
theorem dX9_readsNumber_106 : decode cX9_readsNumber 106 = .ok (.getfield 22, 3) := by decide +kernel
theorem dX9_readsNumber_109 : decode cX9_readsNumber 109 = .ok (.aload_n 0, 1) := by decide +kernel
theorem dX9_readsNumber_110 : decode cX9_readsNumber 110 = .ok (.getfield 110, 3) := by decide +kernel
theorem dX9_readsNumber_113 : decode cX9_readsNumber 113 = .ok (.iaload, 1) := by decide +kernel
theorem dX9_readsNumber_114 : decode cX9_readsNumber 114 = .ok (.iadd, 1) := by decide +kernel
theorem dX9_readsNumber_115 : decode cX9_readsNumber 115 = .ok (.bipush 48, 2) := by decide +kernel
theorem dX9_readsNumber_117 : decode cX9_readsNumber 117 = .ok (.isub, 1) := by decide +kernel
theorem dX9_readsNumber_118 : decode cX9_readsNumber 118 = .ok (.putfield 117, 3) := by decide +kernel
theorem dX9_readsNumber_121 : decode cX9_readsNumber 121 = .ok (.aload_n 0, 1) := by decide +kernel
theorem dX9_readsNumber_122 : decode cX9_readsNumber 122 = .ok (.dup, 1) := by decide +kernel
theorem dX9_readsNumber_123 : decode cX9_readsNumber 123 = .ok (.getfield 110, 3) := by decide +kernel
theorem dX9_readsNumber_126 : decode cX9_readsNumber 126 = .ok (.iconst 1, 1) := by decide +kernel
theorem dX9_readsNumber_127 : decode cX9_readsNumber 127 = .ok (.iadd, 1) := by decide +kernel
theorem dX9_readsNumber_128 : decode cX9_readsNumber 128 = .ok (.putfield 110, 3) := by decide +kernel
theorem dX9_readsNumber_131 : decode cX9_readsNumber 131 = .ok (.iconst 1, 1) := by decide +kernel
theorem dX9_readsNumber_132 : decode cX9_readsNumber 132 = .ok (.ireturn, 1) := by decide +kernel
theorem dX9_readsStep_0 : decode cX9_readsStep 0 = .ok (.aload_n 0, 1) := by decide +kernel
theorem dX9_readsStep_1 : decode cX9_readsStep 1 = .ok (.bipush 49, 2) := by decide +kernel
theorem dX9_readsStep_3 : decode cX9_readsStep 3 = .ok (.bipush 52, 2) := by decide +kernel
theorem dX9_readsStep_5 : decode cX9_readsStep 5 = .ok (.invokevirtual 113, 3) := by decide +kernel
theorem dX9_readsStep_8 : decode cX9_readsStep 8 = .ok (.ifCond .ne 5, 3) := by decide +kernel
theorem dX9_readsStep_11 : decode cX9_readsStep 11 = .ok (.iconst 0, 1) := by decide +kernel
theorem dX9_readsStep_12 : decode cX9_readsStep 12 = .ok (.ireturn, 1) := by decide +kernel
theorem dX9_readsStep_13 : decode cX9_readsStep 13 = .ok (.aload_n 0, 1) := by decide +kernel
theorem dX9_readsStep_14 : decode cX9_readsStep 14 = .ok (.getfield 7, 3) := by decide +kernel
theorem dX9_readsStep_17 : decode cX9_readsStep 17 = .ok (.iconst 1, 1) := by decide +kernel
theorem dX9_readsStep_18 : decode cX9_readsStep 18 = .ok (.iaload, 1) := by decide +kernel
theorem dX9_readsStep_19 : decode cX9_readsStep 19 = .ok (.aload_n 0, 1) := by decide +kernel
theorem dX9_readsStep_20 : decode cX9_readsStep 20 = .ok (.getfield 120, 3) := by decide +kernel
theorem dX9_readsStep_23 : decode cX9_readsStep 23 = .ok (.iadd, 1) := by decide +kernel
theorem dX9_readsStep_24 : decode cX9_readsStep 24 = .ok (.istore_n 1, 1) := by decide +kernel
theorem dX9_readsStep_25 : decode cX9_readsStep 25 = .ok (.aload_n 0, 1) := by decide +kernel
theorem dX9_readsStep_26 : decode cX9_readsStep 26 = .ok (.getfield 25, 3) := by decide +kernel
theorem dX9_readsStep_29 : decode cX9_readsStep 29 = .ok (.aload_n 0, 1) := by decide +kernel
theorem dX9_readsStep_30 : decode cX9_readsStep 30 = .ok (.getfield 120, 3) := by decide +kernel
theorem dX9_readsStep_33 : decode cX9_readsStep 33 = .ok (.aload_n 0, 1) := by decide +kernel
theorem dX9_readsStep_34 : decode cX9_readsStep 34 = .ok (.getfield 22, 3) := by decide +kernel
theorem dX9_readsStep_37 : decode cX9_readsStep 37 = .ok (.aload_n 0, 1) := by decide +kernel
theorem dX9_readsStep_38 : decode cX9_readsStep 38 = .ok (.getfield 110, 3) := by decide +kernel
theorem dX9_readsStep_41 : decode cX9_readsStep 41 = .ok (.iaload, 1) := by decide +kernel
theorem dX9_readsStep_42 : decode cX9_readsStep 42 = .ok (.bipush 48, 2) := by decide +kernel
theorem dX9_readsStep_44 : decode cX9_readsStep 44 = .ok (.isub, 1) := by decide +kernel
theorem dX9_readsStep_45 : decode cX9_readsStep 45 = .ok (.iastore, 1) := by decide +kernel
theorem dX9_readsStep_46 : decode cX9_readsStep 46 = .ok (.aload_n 0, 1) := by decide +kernel
theorem dX9_readsStep_47 : decode cX9_readsStep 47 = .ok (.getfield 28, 3) := by decide +kernel
theorem dX9_readsStep_50 : decode cX9_readsStep 50 = .ok (.aload_n 0, 1) := by decide +kernel
theorem dX9_readsStep_51 : decode cX9_readsStep 51 = .ok (.getfield 120, 3) := by decide +kernel
theorem dX9_readsStep_54 : decode cX9_readsStep 54 = .ok (.iconst 0, 1) := by decide +kernel
theorem dX9_readsStep_55 : decode cX9_readsStep 55 = .ok (.iastore, 1) := by decide +kernel
theorem dX9_readsStep_56 : decode cX9_readsStep 56 = .ok (.aload_n 0, 1) := by decide +kernel
theorem dX9_readsStep_57 : decode cX9_readsStep 57 = .ok (.dup, 1) := by decide +kernel
theorem dX9_readsStep_58 : decode cX9_readsStep 58 = .ok (.getfield 110, 3) := by decide +kernel
theorem dX9_readsStep_61 : decode cX9_readsStep 61 = .ok (.iconst 1, 1) := by decide +kernel
theorem dX9_readsStep_62 : decode cX9_readsStep 62 = .ok (.iadd, 1) := by decide +kernel
theorem dX9_readsStep_63 : decode cX9_readsStep 63 = .ok (.putfield 110, 3) := by decide +kernel
theorem dX9_readsStep_66 : decode cX9_readsStep 66 = .ok (.aload_n 0, 1) := by decide +kernel
theorem dX9_readsStep_67 : decode cX9_readsStep 67 = .ok (.bipush 60, 2) := by decide +kernel
theorem dX9_readsStep_69 : decode cX9_readsStep 69 = .ok (.invokevirtual 123, 3) := by decide +kernel
theorem dX9_readsStep_72 : decode cX9_readsStep 72 = .ok (.istore_n 2, 1) := by decide +kernel
theorem dX9_readsStep_73 : decode cX9_readsStep 73 = .ok (.iload_n 2, 1) := by decide +kernel
theorem dX9_readsStep_74 : decode cX9_readsStep 74 = .ok (.ifCond .eq 54, 3) := by decide +kernel
theorem dX9_readsStep_77 : decode cX9_readsStep 77 = .ok (.aload_n 0, 1) := by decide +kernel
theorem dX9_readsStep_78 : decode cX9_readsStep 78 = .ok (.iload_n 1, 1) := by decide +kernel
theorem dX9_readsStep_79 : decode cX9_readsStep 79 = .ok (.invokevirtual 126, 3) := by decide +kernel
theorem dX9_readsStep_82 : decode cX9_readsStep 82 = .ok (.ifCond .ne 5, 3) := by decide +kernel
theorem dX9_readsStep_85 : decode cX9_readsStep 85 = .ok (.iconst 0, 1) := by decide +kernel
theorem dX9_readsStep_86 : decode cX9_readsStep 86 = .ok (.ireturn, 1) := by decide +kernel
theorem dX9_readsStep_87 : decode cX9_readsStep 87 = .ok (.aload_n 0, 1) := by decide +kernel
theorem dX9_readsStep_88 : decode cX9_readsStep 88 = .ok (.getfield 28, 3) := by decide +kernel
theorem dX9_readsStep_91 : decode cX9_readsStep 91 = .ok (.aload_n 0, 1) := by decide +kernel
theorem dX9_readsStep_92 : decode cX9_readsStep 92 = .ok (.getfield 120, 3) := by decide +kernel
theorem dX9_readsStep_95 : decode cX9_readsStep 95 = .ok (.dup2, 1) := by decide +kernel
theorem dX9_readsStep_96 : decode cX9_readsStep 96 = .ok (.iaload, 1) := by decide +kernel
theorem dX9_readsStep_97 : decode cX9_readsStep 97 = .ok (.aload_n 0, 1) := by decide +kernel
theorem dX9_readsStep_98 : decode cX9_readsStep 98 = .ok (.getfield 117, 3) := by decide +kernel
theorem dX9_readsStep_101 : decode cX9_readsStep 101 = .ok (.bipush 30, 2) := by decide +kernel
theorem dX9_readsStep_103 : decode cX9_readsStep 103 = .ok (.if_icmp .ge 12, 3) := by decide +kernel
theorem dX9_readsStep_106 : decode cX9_readsStep 106 = .ok (.iconst 1, 1) := by decide +kernel
theorem dX9_readsStep_107 : decode cX9_readsStep 107 = .ok (.aload_n 0, 1) := by decide +kernel
theorem dX9_readsStep_108 : decode cX9_readsStep 108 = .ok (.getfield 117, 3) := by decide +kernel
theorem dX9_readsStep_111 : decode cX9_readsStep 111 = .ok (.ishl, 1) := by decide +kernel
theorem dX9_readsStep_112 : decode cX9_readsStep 112 = .ok (.goto 4, 3) := by decide +kernel
theorem dX9_readsStep_115 : decode cX9_readsStep 115 = .ok (.iconst 0, 1) := by decide +kernel
theorem dX9_readsStep_116 : decode cX9_readsStep 116 = .ok (.ior, 1) := by decide +kernel
theorem dX9_readsStep_117 : decode cX9_readsStep 117 = .ok (.iastore, 1) := by decide +kernel
theorem dX9_readsStep_118 : decode cX9_readsStep 118 = .ok (.aload_n 0, 1) := by decide +kernel
theorem dX9_readsStep_119 : decode cX9_readsStep 119 = .ok (.bipush 44, 2) := by decide +kernel
theorem dX9_readsStep_121 : decode cX9_readsStep 121 = .ok (.invokevirtual 123, 3) := by decide +kernel
theorem dX9_readsStep_124 : decode cX9_readsStep 124 = .ok (.istore_n 2, 1) := by decide +kernel
theorem dX9_readsStep_125 : decode cX9_readsStep 125 = .ok (.goto (-52), 3) := by decide +kernel
theorem dX9_readsStep_128 : decode cX9_readsStep 128 = .ok (.aload_n 0, 1) := by decide +kernel
theorem dX9_readsStep_129 : decode cX9_readsStep 129 = .ok (.dup, 1) := by decide +kernel
theorem dX9_readsStep_130 : decode cX9_readsStep 130 = .ok (.getfield 120, 3) := by decide +kernel
theorem dX9_readsStep_133 : decode cX9_readsStep 133 = .ok (.iconst 1, 1) := by decide +kernel
theorem dX9_readsStep_134 : decode cX9_readsStep 134 = .ok (.iadd, 1) := by decide +kernel
theorem dX9_readsStep_135 : decode cX9_readsStep 135 = .ok (.putfield 120, 3) := by decide +kernel
theorem dX9_readsStep_138 : decode cX9_readsStep 138 = .ok (.iconst 1, 1) := by decide +kernel
theorem dX9_readsStep_139 : decode cX9_readsStep 139 = .ok (.ireturn, 1) := by decide +kernel
theorem dX9_fault_0 : decode cX9_fault 0 = .ok (.aload_n 0, 1) := by decide +kernel
theorem dX9_fault_1 : decode cX9_fault 1 = .ok (.iconst 0, 1) := by decide +kernel
theorem dX9_fault_2 : decode cX9_fault 2 = .ok (.putfield 110, 3) := by decide +kernel
theorem dX9_fault_5 : decode cX9_fault 5 = .ok (.aload_n 0, 1) := by decide +kernel
theorem dX9_fault_6 : decode cX9_fault 6 = .ok (.iconst 0, 1) := by decide +kernel
theorem dX9_fault_7 : decode cX9_fault 7 = .ok (.putfield 120, 3) := by decide +kernel
theorem dX9_fault_10 : decode cX9_fault 10 = .ok (.iconst 1, 1) := by decide +kernel
theorem dX9_fault_11 : decode cX9_fault 11 = .ok (.istore_n 1, 1) := by decide +kernel
theorem dX9_fault_12 : decode cX9_fault 12 = .ok (.iload_n 1, 1) := by decide +kernel
theorem dX9_fault_13 : decode cX9_fault 13 = .ok (.ifCond .eq 25, 3) := by decide +kernel
theorem dX9_fault_16 : decode cX9_fault 16 = .ok (.aload_n 0, 1) := by decide +kernel
theorem dX9_fault_17 : decode cX9_fault 17 = .ok (.invokevirtual 129, 3) := by decide +kernel
theorem dX9_fault_20 : decode cX9_fault 20 = .ok (.ifCond .ne 8, 3) := by decide +kernel
theorem dX9_fault_23 : decode cX9_fault 23 = .ok (.aload_n 0, 1) := by decide +kernel
theorem dX9_fault_24 : decode cX9_fault 24 = .ok (.getfield 110, 3) := by decide +kernel
theorem dX9_fault_27 : decode cX9_fault 27 = .ok (.ireturn, 1) := by decide +kernel
theorem dX9_fault_28 : decode cX9_fault 28 = .ok (.aload_n 0, 1) := by decide +kernel
theorem dX9_fault_29 : decode cX9_fault 29 = .ok (.bipush 59, 2) := by decide +kernel
theorem dX9_fault_31 : decode cX9_fault 31 = .ok (.invokevirtual 123, 3) := by decide +kernel
theorem dX9_fault_34 : decode cX9_fault 34 = .ok (.istore_n 1, 1) := by decide +kernel
theorem dX9_fault_35 : decode cX9_fault 35 = .ok (.goto (-23), 3) := by decide +kernel
theorem dX9_fault_38 : decode cX9_fault 38 = .ok (.aload_n 0, 1) := by decide +kernel
theorem dX9_fault_39 : decode cX9_fault 39 = .ok (.getfield 110, 3) := by decide +kernel
theorem dX9_fault_42 : decode cX9_fault 42 = .ok (.aload_n 0, 1) := by decide +kernel
theorem dX9_fault_43 : decode cX9_fault 43 = .ok (.getfield 107, 3) := by decide +kernel
theorem dX9_fault_46 : decode cX9_fault 46 = .ok (.if_icmp .ne 8, 3) := by decide +kernel
theorem dX9_fault_49 : decode cX9_fault 49 = .ok (.bipush (-5), 2) := by decide +kernel
theorem dX9_fault_51 : decode cX9_fault 51 = .ok (.goto 7, 3) := by decide +kernel
theorem dX9_fault_54 : decode cX9_fault 54 = .ok (.aload_n 0, 1) := by decide +kernel
theorem dX9_fault_55 : decode cX9_fault 55 = .ok (.getfield 110, 3) := by decide +kernel
theorem dX9_fault_58 : decode cX9_fault 58 = .ok (.ireturn, 1) := by decide +kernel
theorem dX9_readPlan_0 : decode cX9_readPlan 0 = .ok (.aload_n 0, 1) := by decide +kernel
theorem dX9_readPlan_1 : decode cX9_readPlan 1 = .ok (.invokevirtual 132, 3) := by decide +kernel
theorem dX9_readPlan_4 : decode cX9_readPlan 4 = .ok (.istore_n 1, 1) := by decide +kernel
theorem dX9_readPlan_5 : decode cX9_readPlan 5 = .ok (.iload_n 1, 1) := by decide +kernel
theorem dX9_readPlan_6 : decode cX9_readPlan 6 = .ok (.bipush (-5), 2) := by decide +kernel
theorem dX9_readPlan_8 : decode cX9_readPlan 8 = .ok (.if_icmp .eq 8, 3) := by decide +kernel
theorem dX9_readPlan_11 : decode cX9_readPlan 11 = .ok (.bipush (-100), 2) := by decide +kernel
theorem dX9_readPlan_13 : decode cX9_readPlan 13 = .ok (.iload_n 1, 1) := by decide +kernel
theorem dX9_readPlan_14 : decode cX9_readPlan 14 = .ok (.isub, 1) := by decide +kernel
theorem dX9_readPlan_15 : decode cX9_readPlan 15 = .ok (.ireturn, 1) := by decide +kernel
theorem dX9_readPlan_16 : decode cX9_readPlan 16 = .ok (.aload_n 0, 1) := by decide +kernel
theorem dX9_readPlan_17 : decode cX9_readPlan 17 = .ok (.getfield 7, 3) := by decide +kernel
theorem dX9_readPlan_20 : decode cX9_readPlan 20 = .ok (.iconst 1, 1) := by decide +kernel
theorem dX9_readPlan_21 : decode cX9_readPlan 21 = .ok (.iaload, 1) := by decide +kernel
theorem dX9_readPlan_22 : decode cX9_readPlan 22 = .ok (.aload_n 0, 1) := by decide +kernel
theorem dX9_readPlan_23 : decode cX9_readPlan 23 = .ok (.getfield 120, 3) := by decide +kernel
theorem dX9_readPlan_26 : decode cX9_readPlan 26 = .ok (.iadd, 1) := by decide +kernel
theorem dX9_readPlan_27 : decode cX9_readPlan 27 = .ok (.bipush 30, 2) := by decide +kernel
theorem dX9_readPlan_29 : decode cX9_readPlan 29 = .ok (.if_icmp .le 6, 3) := by decide +kernel
theorem dX9_readPlan_32 : decode cX9_readPlan 32 = .ok (.bipush (-3), 2) := by decide +kernel
theorem dX9_readPlan_34 : decode cX9_readPlan 34 = .ok (.ireturn, 1) := by decide +kernel
theorem dX9_readPlan_35 : decode cX9_readPlan 35 = .ok (.aload_n 0, 1) := by decide +kernel
theorem dX9_readPlan_36 : decode cX9_readPlan 36 = .ok (.invokevirtual 79, 3) := by decide +kernel
theorem dX9_readPlan_39 : decode cX9_readPlan 39 = .ok (.iconst 0, 1) := by decide +kernel
theorem dX9_readPlan_40 : decode cX9_readPlan 40 = .ok (.istore_n 2, 1) := by decide +kernel
theorem dX9_readPlan_41 : decode cX9_readPlan 41 = .ok (.iload_n 2, 1) := by decide +kernel
theorem dX9_readPlan_42 : decode cX9_readPlan 42 = .ok (.aload_n 0, 1) := by decide +kernel
theorem dX9_readPlan_43 : decode cX9_readPlan 43 = .ok (.getfield 120, 3) := by decide +kernel
theorem dX9_readPlan_46 : decode cX9_readPlan 46 = .ok (.if_icmp .ge 25, 3) := by decide +kernel
theorem dX9_readPlan_49 : decode cX9_readPlan 49 = .ok (.aload_n 0, 1) := by decide +kernel
theorem dX9_readPlan_50 : decode cX9_readPlan 50 = .ok (.aload_n 0, 1) := by decide +kernel
theorem dX9_readPlan_51 : decode cX9_readPlan 51 = .ok (.getfield 25, 3) := by decide +kernel
theorem dX9_readPlan_54 : decode cX9_readPlan 54 = .ok (.iload_n 2, 1) := by decide +kernel
theorem dX9_readPlan_55 : decode cX9_readPlan 55 = .ok (.iaload, 1) := by decide +kernel
theorem dX9_readPlan_56 : decode cX9_readPlan 56 = .ok (.aload_n 0, 1) := by decide +kernel
theorem dX9_readPlan_57 : decode cX9_readPlan 57 = .ok (.getfield 28, 3) := by decide +kernel
theorem dX9_readPlan_60 : decode cX9_readPlan 60 = .ok (.iload_n 2, 1) := by decide +kernel
theorem dX9_readPlan_61 : decode cX9_readPlan 61 = .ok (.iaload, 1) := by decide +kernel
theorem dX9_readPlan_62 : decode cX9_readPlan 62 = .ok (.invokevirtual 85, 3) := by decide +kernel
theorem dX9_readPlan_65 : decode cX9_readPlan 65 = .ok (.iinc 2 1, 3) := by decide +kernel
theorem dX9_readPlan_68 : decode cX9_readPlan 68 = .ok (.goto (-27), 3) := by decide +kernel
theorem dX9_readPlan_71 : decode cX9_readPlan 71 = .ok (.aload_n 0, 1) := by decide +kernel
theorem dX9_readPlan_72 : decode cX9_readPlan 72 = .ok (.aload_n 0, 1) := by decide +kernel
theorem dX9_readPlan_73 : decode cX9_readPlan 73 = .ok (.getfield 7, 3) := by decide +kernel
theorem dX9_readPlan_76 : decode cX9_readPlan 76 = .ok (.iconst 1, 1) := by decide +kernel
theorem dX9_readPlan_77 : decode cX9_readPlan 77 = .ok (.iaload, 1) := by decide +kernel
theorem dX9_readPlan_78 : decode cX9_readPlan 78 = .ok (.invokevirtual 82, 3) := by decide +kernel
theorem dX9_readPlan_81 : decode cX9_readPlan 81 = .ok (.ireturn, 1) := by decide +kernel
theorem dX9_undo_0 : decode cX9_undo 0 = .ok (.aload_n 0, 1) := by decide +kernel
theorem dX9_undo_1 : decode cX9_undo 1 = .ok (.getfield 31, 3) := by decide +kernel
theorem dX9_undo_4 : decode cX9_undo 4 = .ok (.ifCond .ne 6, 3) := by decide +kernel
theorem dX9_undo_7 : decode cX9_undo 7 = .ok (.bipush (-5), 2) := by decide +kernel
theorem dX9_undo_9 : decode cX9_undo 9 = .ok (.ireturn, 1) := by decide +kernel
theorem dX9_undo_10 : decode cX9_undo 10 = .ok (.aload_n 0, 1) := by decide +kernel
theorem dX9_undo_11 : decode cX9_undo 11 = .ok (.dup, 1) := by decide +kernel
theorem dX9_undo_12 : decode cX9_undo 12 = .ok (.getfield 31, 3) := by decide +kernel
theorem dX9_undo_15 : decode cX9_undo 15 = .ok (.iconst 1, 1) := by decide +kernel
theorem dX9_undo_16 : decode cX9_undo 16 = .ok (.isub, 1) := by decide +kernel
theorem dX9_undo_17 : decode cX9_undo 17 = .ok (.putfield 31, 3) := by decide +kernel
theorem dX9_undo_20 : decode cX9_undo 20 = .ok (.iconst 0, 1) := by decide +kernel
theorem dX9_undo_21 : decode cX9_undo 21 = .ok (.istore_n 1, 1) := by decide +kernel
theorem dX9_undo_22 : decode cX9_undo 22 = .ok (.iload_n 1, 1) := by decide +kernel
theorem dX9_undo_23 : decode cX9_undo 23 = .ok (.sipush 230, 3) := by decide +kernel
theorem dX9_undo_26 : decode cX9_undo 26 = .ok (.if_icmp .ge 30, 3) := by decide +kernel
theorem dX9_undo_29 : decode cX9_undo 29 = .ok (.aload_n 0, 1) := by decide +kernel
theorem dX9_undo_30 : decode cX9_undo 30 = .ok (.getfield 7, 3) := by decide +kernel
theorem dX9_undo_33 : decode cX9_undo 33 = .ok (.iload_n 1, 1) := by decide +kernel
theorem dX9_undo_34 : decode cX9_undo 34 = .ok (.aload_n 0, 1) := by decide +kernel
theorem dX9_undo_35 : decode cX9_undo 35 = .ok (.getfield 16, 3) := by decide +kernel
theorem dX9_undo_38 : decode cX9_undo 38 = .ok (.sipush 230, 3) := by decide +kernel
theorem dX9_undo_41 : decode cX9_undo 41 = .ok (.aload_n 0, 1) := by decide +kernel
theorem dX9_undo_42 : decode cX9_undo 42 = .ok (.getfield 31, 3) := by decide +kernel
theorem dX9_undo_45 : decode cX9_undo 45 = .ok (.imul, 1) := by decide +kernel
theorem dX9_undo_46 : decode cX9_undo 46 = .ok (.iload_n 1, 1) := by decide +kernel
theorem dX9_undo_47 : decode cX9_undo 47 = .ok (.iadd, 1) := by decide +kernel
theorem dX9_undo_48 : decode cX9_undo 48 = .ok (.iaload, 1) := by decide +kernel
theorem dX9_undo_49 : decode cX9_undo 49 = .ok (.iastore, 1) := by decide +kernel
theorem dX9_undo_50 : decode cX9_undo 50 = .ok (.iinc 1 1, 3) := by decide +kernel
theorem dX9_undo_53 : decode cX9_undo 53 = .ok (.goto (-31), 3) := by decide +kernel
theorem dX9_undo_56 : decode cX9_undo 56 = .ok (.aload_n 0, 1) := by decide +kernel
theorem dX9_undo_57 : decode cX9_undo 57 = .ok (.getfield 31, 3) := by decide +kernel
theorem dX9_undo_60 : decode cX9_undo 60 = .ok (.ireturn, 1) := by decide +kernel
theorem dX9_keep_0 : decode cX9_keep 0 = .ok (.iconst 0, 1) := by decide +kernel
theorem dX9_keep_1 : decode cX9_keep 1 = .ok (.istore_n 1, 1) := by decide +kernel
theorem dX9_keep_2 : decode cX9_keep 2 = .ok (.iload_n 1, 1) := by decide +kernel
theorem dX9_keep_3 : decode cX9_keep 3 = .ok (.sipush 230, 3) := by decide +kernel
theorem dX9_keep_6 : decode cX9_keep 6 = .ok (.if_icmp .ge 21, 3) := by decide +kernel
theorem dX9_keep_9 : decode cX9_keep 9 = .ok (.aload_n 0, 1) := by decide +kernel
theorem dX9_keep_10 : decode cX9_keep 10 = .ok (.getfield 19, 3) := by decide +kernel
theorem dX9_keep_13 : decode cX9_keep 13 = .ok (.iload_n 1, 1) := by decide +kernel
theorem dX9_keep_14 : decode cX9_keep 14 = .ok (.aload_n 0, 1) := by decide +kernel
theorem dX9_keep_15 : decode cX9_keep 15 = .ok (.getfield 7, 3) := by decide +kernel
theorem dX9_keep_18 : decode cX9_keep 18 = .ok (.iload_n 1, 1) := by decide +kernel
theorem dX9_keep_19 : decode cX9_keep 19 = .ok (.iaload, 1) := by decide +kernel
theorem dX9_keep_20 : decode cX9_keep 20 = .ok (.iastore, 1) := by decide +kernel
theorem dX9_keep_21 : decode cX9_keep 21 = .ok (.iinc 1 1, 3) := by decide +kernel
theorem dX9_keep_24 : decode cX9_keep 24 = .ok (.goto (-22), 3) := by decide +kernel
theorem dX9_keep_27 : decode cX9_keep 27 = .ok (.aload_n 0, 1) := by decide +kernel
theorem dX9_keep_28 : decode cX9_keep 28 = .ok (.iconst 1, 1) := by decide +kernel
theorem dX9_keep_29 : decode cX9_keep 29 = .ok (.putfield 135, 3) := by decide +kernel
