theorem dX9_keep_32 : decode cX9_keep 32 = .ok (.aload_n 0, 1) := by decide +kernel
theorem dX9_keep_33 : decode cX9_keep 33 = .ok (.getfield 7, 3) := by decide +kernel
theorem dX9_keep_36 : decode cX9_keep 36 = .ok (.iconst 2, 1) := by decide +kernel
theorem dX9_keep_37 : decode cX9_keep 37 = .ok (.iaload, 1) := by decide +kernel
theorem dX9_keep_38 : decode cX9_keep 38 = .ok (.ireturn, 1) := by decide +kernel
theorem dX9_restore_0 : decode cX9_restore 0 = .ok (.aload_n 0, 1) := by decide +kernel
theorem dX9_restore_1 : decode cX9_restore 1 = .ok (.getfield 135, 3) := by decide +kernel
theorem dX9_restore_4 : decode cX9_restore 4 = .ok (.ifCond .ne 6, 3) := by decide +kernel
theorem dX9_restore_7 : decode cX9_restore 7 = .ok (.bipush (-5), 2) := by decide +kernel
theorem dX9_restore_9 : decode cX9_restore 9 = .ok (.ireturn, 1) := by decide +kernel
theorem dX9_restore_10 : decode cX9_restore 10 = .ok (.aload_n 0, 1) := by decide +kernel
theorem dX9_restore_11 : decode cX9_restore 11 = .ok (.invokevirtual 79, 3) := by decide +kernel
theorem dX9_restore_14 : decode cX9_restore 14 = .ok (.iconst 0, 1) := by decide +kernel
theorem dX9_restore_15 : decode cX9_restore 15 = .ok (.istore_n 1, 1) := by decide +kernel
theorem dX9_restore_16 : decode cX9_restore 16 = .ok (.iload_n 1, 1) := by decide +kernel
theorem dX9_restore_17 : decode cX9_restore 17 = .ok (.sipush 230, 3) := by decide +kernel
theorem dX9_restore_20 : decode cX9_restore 20 = .ok (.if_icmp .ge 21, 3) := by decide +kernel
theorem dX9_restore_23 : decode cX9_restore 23 = .ok (.aload_n 0, 1) := by decide +kernel
theorem dX9_restore_24 : decode cX9_restore 24 = .ok (.getfield 7, 3) := by decide +kernel
theorem dX9_restore_27 : decode cX9_restore 27 = .ok (.iload_n 1, 1) := by decide +kernel
theorem dX9_restore_28 : decode cX9_restore 28 = .ok (.aload_n 0, 1) := by decide +kernel
theorem dX9_restore_29 : decode cX9_restore 29 = .ok (.getfield 19, 3) := by decide +kernel
theorem dX9_restore_32 : decode cX9_restore 32 = .ok (.iload_n 1, 1) := by decide +kernel
theorem dX9_restore_33 : decode cX9_restore 33 = .ok (.iaload, 1) := by decide +kernel
theorem dX9_restore_34 : decode cX9_restore 34 = .ok (.iastore, 1) := by decide +kernel
theorem dX9_restore_35 : decode cX9_restore 35 = .ok (.iinc 1 1, 3) := by decide +kernel
theorem dX9_restore_38 : decode cX9_restore 38 = .ok (.goto (-22), 3) := by decide +kernel
theorem dX9_restore_41 : decode cX9_restore 41 = .ok (.aload_n 0, 1) := by decide +kernel
theorem dX9_restore_42 : decode cX9_restore 42 = .ok (.aload_n 0, 1) := by decide +kernel
theorem dX9_restore_43 : decode cX9_restore 43 = .ok (.getfield 7, 3) := by decide +kernel
theorem dX9_restore_46 : decode cX9_restore 46 = .ok (.iconst 2, 1) := by decide +kernel
theorem dX9_restore_47 : decode cX9_restore 47 = .ok (.iaload, 1) := by decide +kernel
theorem dX9_restore_48 : decode cX9_restore 48 = .ok (.invokevirtual 82, 3) := by decide +kernel
theorem dX9_restore_51 : decode cX9_restore 51 = .ok (.ireturn, 1) := by decide +kernel
theorem dX9_panel_0 : decode cX9_panel 0 = .ok (.iload_n 1, 1) := by decide +kernel
theorem dX9_panel_1 : decode cX9_panel 1 = .ok (.invokestatic 98, 3) := by decide +kernel
theorem dX9_panel_4 : decode cX9_panel 4 = .ok (.ifCond .ne 5, 3) := by decide +kernel
theorem dX9_panel_7 : decode cX9_panel 7 = .ok (.iconst (-1), 1) := by decide +kernel
theorem dX9_panel_8 : decode cX9_panel 8 = .ok (.ireturn, 1) := by decide +kernel
theorem dX9_panel_9 : decode cX9_panel 9 = .ok (.iload_n 2, 1) := by decide +kernel
theorem dX9_panel_10 : decode cX9_panel 10 = .ok (.tableswitch 109 0 5 #[38, 48, 54, 68, 82, 92], 38) := by decide +kernel
theorem dX9_panel_48 : decode cX9_panel 48 = .ok (.aload_n 0, 1) := by decide +kernel
theorem dX9_panel_49 : decode cX9_panel 49 = .ok (.getfield 7, 3) := by decide +kernel
theorem dX9_panel_52 : decode cX9_panel 52 = .ok (.bipush 17, 2) := by decide +kernel
theorem dX9_panel_54 : decode cX9_panel 54 = .ok (.iload_n 1, 1) := by decide +kernel
theorem dX9_panel_55 : decode cX9_panel 55 = .ok (.iadd, 1) := by decide +kernel
theorem dX9_panel_56 : decode cX9_panel 56 = .ok (.iaload, 1) := by decide +kernel
theorem dX9_panel_57 : decode cX9_panel 57 = .ok (.ireturn, 1) := by decide +kernel
theorem dX9_panel_58 : decode cX9_panel 58 = .ok (.aload_n 0, 1) := by decide +kernel
theorem dX9_panel_59 : decode cX9_panel 59 = .ok (.iload_n 1, 1) := by decide +kernel
theorem dX9_panel_60 : decode cX9_panel 60 = .ok (.invokevirtual 45, 3) := by decide +kernel
theorem dX9_panel_63 : decode cX9_panel 63 = .ok (.ireturn, 1) := by decide +kernel
theorem dX9_panel_64 : decode cX9_panel 64 = .ok (.aload_n 0, 1) := by decide +kernel
theorem dX9_panel_65 : decode cX9_panel 65 = .ok (.iload_n 1, 1) := by decide +kernel
theorem dX9_panel_66 : decode cX9_panel 66 = .ok (.invokevirtual 59, 3) := by decide +kernel
theorem dX9_panel_69 : decode cX9_panel 69 = .ok (.ifCond .eq 7, 3) := by decide +kernel
theorem dX9_panel_72 : decode cX9_panel 72 = .ok (.iconst 1, 1) := by decide +kernel
theorem dX9_panel_73 : decode cX9_panel 73 = .ok (.goto 4, 3) := by decide +kernel
theorem dX9_panel_76 : decode cX9_panel 76 = .ok (.iconst 0, 1) := by decide +kernel
theorem dX9_panel_77 : decode cX9_panel 77 = .ok (.ireturn, 1) := by decide +kernel
theorem dX9_panel_78 : decode cX9_panel 78 = .ok (.aload_n 0, 1) := by decide +kernel
theorem dX9_panel_79 : decode cX9_panel 79 = .ok (.iload_n 1, 1) := by decide +kernel
theorem dX9_panel_80 : decode cX9_panel 80 = .ok (.invokevirtual 49, 3) := by decide +kernel
theorem dX9_panel_83 : decode cX9_panel 83 = .ok (.ifCond .eq 7, 3) := by decide +kernel
theorem dX9_panel_86 : decode cX9_panel 86 = .ok (.iconst 1, 1) := by decide +kernel
theorem dX9_panel_87 : decode cX9_panel 87 = .ok (.goto 4, 3) := by decide +kernel
theorem dX9_panel_90 : decode cX9_panel 90 = .ok (.iconst 0, 1) := by decide +kernel
theorem dX9_panel_91 : decode cX9_panel 91 = .ok (.ireturn, 1) := by decide +kernel
theorem dX9_panel_92 : decode cX9_panel 92 = .ok (.aload_n 0, 1) := by decide +kernel
theorem dX9_panel_93 : decode cX9_panel 93 = .ok (.getfield 7, 3) := by decide +kernel
theorem dX9_panel_96 : decode cX9_panel 96 = .ok (.bipush 23, 2) := by decide +kernel
theorem dX9_panel_98 : decode cX9_panel 98 = .ok (.iload_n 1, 1) := by decide +kernel
theorem dX9_panel_99 : decode cX9_panel 99 = .ok (.iadd, 1) := by decide +kernel
theorem dX9_panel_100 : decode cX9_panel 100 = .ok (.iaload, 1) := by decide +kernel
theorem dX9_panel_101 : decode cX9_panel 101 = .ok (.ireturn, 1) := by decide +kernel
theorem dX9_panel_102 : decode cX9_panel 102 = .ok (.aload_n 0, 1) := by decide +kernel
theorem dX9_panel_103 : decode cX9_panel 103 = .ok (.getfield 7, 3) := by decide +kernel
theorem dX9_panel_106 : decode cX9_panel 106 = .ok (.bipush 17, 2) := by decide +kernel
theorem dX9_panel_108 : decode cX9_panel 108 = .ok (.iload_n 1, 1) := by decide +kernel
theorem dX9_panel_109 : decode cX9_panel 109 = .ok (.iadd, 1) := by decide +kernel
theorem dX9_panel_110 : decode cX9_panel 110 = .ok (.iaload, 1) := by decide +kernel
theorem dX9_panel_111 : decode cX9_panel 111 = .ok (.aload_n 0, 1) := by decide +kernel
theorem dX9_panel_112 : decode cX9_panel 112 = .ok (.invokevirtual 41, 3) := by decide +kernel
theorem dX9_panel_115 : decode cX9_panel 115 = .ok (.iconst (-1), 1) := by decide +kernel
theorem dX9_panel_116 : decode cX9_panel 116 = .ok (.ixor, 1) := by decide +kernel
theorem dX9_panel_117 : decode cX9_panel 117 = .ok (.iand, 1) := by decide +kernel
theorem dX9_panel_118 : decode cX9_panel 118 = .ok (.ireturn, 1) := by decide +kernel
theorem dX9_panel_119 : decode cX9_panel 119 = .ok (.bipush (-2), 2) := by decide +kernel
theorem dX9_panel_121 : decode cX9_panel 121 = .ok (.ireturn, 1) := by decide +kernel
theorem dX9_step_0 : decode cX9_step 0 = .ok (.aload_n 0, 1) := by decide +kernel
theorem dX9_step_1 : decode cX9_step 1 = .ok (.iload_n 1, 1) := by decide +kernel
theorem dX9_step_2 : decode cX9_step 2 = .ok (.invokevirtual 104, 3) := by decide +kernel
theorem dX9_step_5 : decode cX9_step 5 = .ok (.ifCond .ne 5, 3) := by decide +kernel
theorem dX9_step_8 : decode cX9_step 8 = .ok (.iconst (-1), 1) := by decide +kernel
theorem dX9_step_9 : decode cX9_step 9 = .ok (.ireturn, 1) := by decide +kernel
theorem dX9_step_10 : decode cX9_step 10 = .ok (.iload_n 2, 1) := by decide +kernel
theorem dX9_step_11 : decode cX9_step 11 = .ok (.tableswitch 120 0 6 #[41, 51, 62, 78, 84, 98, 109], 41) := by decide +kernel
theorem dX9_step_52 : decode cX9_step 52 = .ok (.aload_n 0, 1) := by decide +kernel
theorem dX9_step_53 : decode cX9_step 53 = .ok (.getfield 7, 3) := by decide +kernel
theorem dX9_step_56 : decode cX9_step 56 = .ok (.bipush 109, 2) := by decide +kernel
theorem dX9_step_58 : decode cX9_step 58 = .ok (.iload_n 1, 1) := by decide +kernel
theorem dX9_step_59 : decode cX9_step 59 = .ok (.iadd, 1) := by decide +kernel
theorem dX9_step_60 : decode cX9_step 60 = .ok (.iaload, 1) := by decide +kernel
theorem dX9_step_61 : decode cX9_step 61 = .ok (.ireturn, 1) := by decide +kernel
theorem dX9_step_62 : decode cX9_step 62 = .ok (.aload_n 0, 1) := by decide +kernel
theorem dX9_step_63 : decode cX9_step 63 = .ok (.getfield 7, 3) := by decide +kernel
theorem dX9_step_66 : decode cX9_step 66 = .ok (.sipush 139, 3) := by decide +kernel
theorem dX9_step_69 : decode cX9_step 69 = .ok (.iload_n 1, 1) := by decide +kernel
theorem dX9_step_70 : decode cX9_step 70 = .ok (.iadd, 1) := by decide +kernel
theorem dX9_step_71 : decode cX9_step 71 = .ok (.iaload, 1) := by decide +kernel
theorem dX9_step_72 : decode cX9_step 72 = .ok (.ireturn, 1) := by decide +kernel
theorem dX9_step_73 : decode cX9_step 73 = .ok (.iload_n 1, 1) := by decide +kernel
theorem dX9_step_74 : decode cX9_step 74 = .ok (.aload_n 0, 1) := by decide +kernel
theorem dX9_step_75 : decode cX9_step 75 = .ok (.getfield 7, 3) := by decide +kernel
theorem dX9_step_78 : decode cX9_step 78 = .ok (.iconst 2, 1) := by decide +kernel
theorem dX9_step_79 : decode cX9_step 79 = .ok (.iaload, 1) := by decide +kernel
theorem dX9_step_80 : decode cX9_step 80 = .ok (.if_icmp .ge 7, 3) := by decide +kernel
theorem dX9_step_83 : decode cX9_step 83 = .ok (.iconst 1, 1) := by decide +kernel
theorem dX9_step_84 : decode cX9_step 84 = .ok (.goto 4, 3) := by decide +kernel
theorem dX9_step_87 : decode cX9_step 87 = .ok (.iconst 0, 1) := by decide +kernel
theorem dX9_step_88 : decode cX9_step 88 = .ok (.ireturn, 1) := by decide +kernel
theorem dX9_step_89 : decode cX9_step 89 = .ok (.aload_n 0, 1) := by decide +kernel
theorem dX9_step_90 : decode cX9_step 90 = .ok (.iload_n 1, 1) := by decide +kernel
theorem dX9_step_91 : decode cX9_step 91 = .ok (.invokevirtual 53, 3) := by decide +kernel
theorem dX9_step_94 : decode cX9_step 94 = .ok (.ireturn, 1) := by decide +kernel
theorem dX9_step_95 : decode cX9_step 95 = .ok (.aload_n 0, 1) := by decide +kernel
theorem dX9_step_96 : decode cX9_step 96 = .ok (.iload_n 1, 1) := by decide +kernel
theorem dX9_step_97 : decode cX9_step 97 = .ok (.invokevirtual 56, 3) := by decide +kernel
theorem dX9_step_100 : decode cX9_step 100 = .ok (.ifCond .eq 7, 3) := by decide +kernel
theorem dX9_step_103 : decode cX9_step 103 = .ok (.iconst 1, 1) := by decide +kernel
theorem dX9_step_104 : decode cX9_step 104 = .ok (.goto 4, 3) := by decide +kernel
theorem dX9_step_107 : decode cX9_step 107 = .ok (.iconst 0, 1) := by decide +kernel
theorem dX9_step_108 : decode cX9_step 108 = .ok (.ireturn, 1) := by decide +kernel
theorem dX9_step_109 : decode cX9_step 109 = .ok (.aload_n 0, 1) := by decide +kernel
theorem dX9_step_110 : decode cX9_step 110 = .ok (.getfield 7, 3) := by decide +kernel
theorem dX9_step_113 : decode cX9_step 113 = .ok (.sipush 169, 3) := by decide +kernel
theorem dX9_step_116 : decode cX9_step 116 = .ok (.iload_n 1, 1) := by decide +kernel
theorem dX9_step_117 : decode cX9_step 117 = .ok (.iadd, 1) := by decide +kernel
theorem dX9_step_118 : decode cX9_step 118 = .ok (.iaload, 1) := by decide +kernel
theorem dX9_step_119 : decode cX9_step 119 = .ok (.ireturn, 1) := by decide +kernel
theorem dX9_step_120 : decode cX9_step 120 = .ok (.aload_n 0, 1) := by decide +kernel
theorem dX9_step_121 : decode cX9_step 121 = .ok (.getfield 7, 3) := by decide +kernel
theorem dX9_step_124 : decode cX9_step 124 = .ok (.sipush 199, 3) := by decide +kernel
theorem dX9_step_127 : decode cX9_step 127 = .ok (.iload_n 1, 1) := by decide +kernel
theorem dX9_step_128 : decode cX9_step 128 = .ok (.iadd, 1) := by decide +kernel
theorem dX9_step_129 : decode cX9_step 129 = .ok (.iaload, 1) := by decide +kernel
theorem dX9_step_130 : decode cX9_step 130 = .ok (.ireturn, 1) := by decide +kernel
theorem dX9_step_131 : decode cX9_step 131 = .ok (.bipush (-2), 2) := by decide +kernel
theorem dX9_step_133 : decode cX9_step 133 = .ok (.ireturn, 1) := by decide +kernel
theorem dX9_photoOf_0 : decode cX9_photoOf 0 = .ok (.iload_n 1, 1) := by decide +kernel
theorem dX9_photoOf_1 : decode cX9_photoOf 1 = .ok (.ifCond .lt 13, 3) := by decide +kernel
theorem dX9_photoOf_4 : decode cX9_photoOf 4 = .ok (.iload_n 2, 1) := by decide +kernel
theorem dX9_photoOf_5 : decode cX9_photoOf 5 = .ok (.i2l, 1) := by decide +kernel
theorem dX9_photoOf_6 : decode cX9_photoOf 6 = .ok (.lconst 0, 1) := by decide +kernel
theorem dX9_photoOf_7 : decode cX9_photoOf 7 = .ok (.lconst 1, 1) := by decide +kernel
theorem dX9_photoOf_8 : decode cX9_photoOf 8 = .ok (.invokestatic 37, 3) := by decide +kernel
theorem dX9_photoOf_11 : decode cX9_photoOf 11 = .ok (.ifCond .ne 6, 3) := by decide +kernel
theorem dX9_photoOf_14 : decode cX9_photoOf 14 = .ok (.bipush (-2), 2) := by decide +kernel
theorem dX9_photoOf_16 : decode cX9_photoOf 16 = .ok (.ireturn, 1) := by decide +kernel
theorem dX9_photoOf_17 : decode cX9_photoOf 17 = .ok (.iload_n 1, 1) := by decide +kernel
theorem dX9_photoOf_18 : decode cX9_photoOf 18 = .ok (.aload_n 0, 1) := by decide +kernel
theorem dX9_photoOf_19 : decode cX9_photoOf 19 = .ok (.getfield 7, 3) := by decide +kernel
theorem dX9_photoOf_22 : decode cX9_photoOf 22 = .ok (.bipush 10, 2) := by decide +kernel
theorem dX9_photoOf_24 : decode cX9_photoOf 24 = .ok (.iaload, 1) := by decide +kernel
theorem dX9_photoOf_25 : decode cX9_photoOf 25 = .ok (.if_icmp .lt 8, 3) := by decide +kernel
theorem dX9_photoOf_28 : decode cX9_photoOf 28 = .ok (.bipush (-5), 2) := by decide +kernel
theorem dX9_photoOf_30 : decode cX9_photoOf 30 = .ok (.goto 21, 3) := by decide +kernel
theorem dX9_photoOf_33 : decode cX9_photoOf 33 = .ok (.aload_n 0, 1) := by decide +kernel
theorem dX9_photoOf_34 : decode cX9_photoOf 34 = .ok (.getfield 7, 3) := by decide +kernel
theorem dX9_photoOf_37 : decode cX9_photoOf 37 = .ok (.iload_n 2, 1) := by decide +kernel
theorem dX9_photoOf_38 : decode cX9_photoOf 38 = .ok (.ifCond .ne 8, 3) := by decide +kernel
theorem dX9_photoOf_41 : decode cX9_photoOf 41 = .ok (.bipush 29, 2) := by decide +kernel
theorem dX9_photoOf_43 : decode cX9_photoOf 43 = .ok (.goto 5, 3) := by decide +kernel
theorem dX9_photoOf_46 : decode cX9_photoOf 46 = .ok (.bipush 69, 2) := by decide +kernel
theorem dX9_photoOf_48 : decode cX9_photoOf 48 = .ok (.iload_n 1, 1) := by decide +kernel
theorem dX9_photoOf_49 : decode cX9_photoOf 49 = .ok (.iadd, 1) := by decide +kernel
theorem dX9_photoOf_50 : decode cX9_photoOf 50 = .ok (.iaload, 1) := by decide +kernel
theorem dX9_photoOf_51 : decode cX9_photoOf 51 = .ok (.ireturn, 1) := by decide +kernel
theorem dX9_wouldBe_0 : decode cX9_wouldBe 0 = .ok (.iload_n 1, 1) := by decide +kernel
theorem dX9_wouldBe_1 : decode cX9_wouldBe 1 = .ok (.i2l, 1) := by decide +kernel
theorem dX9_wouldBe_2 : decode cX9_wouldBe 2 = .ok (.lconst 0, 1) := by decide +kernel
theorem dX9_wouldBe_3 : decode cX9_wouldBe 3 = .ok (.ldc2_w 35, 3) := by decide +kernel
theorem dX9_wouldBe_6 : decode cX9_wouldBe 6 = .ok (.invokestatic 37, 3) := by decide +kernel
theorem dX9_wouldBe_9 : decode cX9_wouldBe 9 = .ok (.ifCond .ne 6, 3) := by decide +kernel
theorem dX9_wouldBe_12 : decode cX9_wouldBe 12 = .ok (.bipush (-2), 2) := by decide +kernel
theorem dX9_wouldBe_14 : decode cX9_wouldBe 14 = .ok (.ireturn, 1) := by decide +kernel
theorem dX9_wouldBe_15 : decode cX9_wouldBe 15 = .ok (.aload_n 0, 1) := by decide +kernel
theorem dX9_wouldBe_16 : decode cX9_wouldBe 16 = .ok (.invokevirtual 79, 3) := by decide +kernel
theorem dX9_wouldBe_19 : decode cX9_wouldBe 19 = .ok (.iload_n 1, 1) := by decide +kernel
theorem dX9_wouldBe_20 : decode cX9_wouldBe 20 = .ok (.ifCond .ne 8, 3) := by decide +kernel
theorem dX9_wouldBe_23 : decode cX9_wouldBe 23 = .ok (.bipush 8, 2) := by decide +kernel
theorem dX9_wouldBe_25 : decode cX9_wouldBe 25 = .ok (.goto 44, 3) := by decide +kernel
theorem dX9_wouldBe_28 : decode cX9_wouldBe 28 = .ok (.iload_n 1, 1) := by decide +kernel
theorem dX9_wouldBe_29 : decode cX9_wouldBe 29 = .ok (.iconst 1, 1) := by decide +kernel
theorem dX9_wouldBe_30 : decode cX9_wouldBe 30 = .ok (.if_icmp .ne 8, 3) := by decide +kernel
theorem dX9_wouldBe_33 : decode cX9_wouldBe 33 = .ok (.bipush 9, 2) := by decide +kernel
theorem dX9_wouldBe_35 : decode cX9_wouldBe 35 = .ok (.goto 34, 3) := by decide +kernel
theorem dX9_wouldBe_38 : decode cX9_wouldBe 38 = .ok (.iload_n 1, 1) := by decide +kernel
theorem dX9_wouldBe_39 : decode cX9_wouldBe 39 = .ok (.iconst 2, 1) := by decide +kernel
theorem dX9_wouldBe_40 : decode cX9_wouldBe 40 = .ok (.if_icmp .ne 8, 3) := by decide +kernel
theorem dX9_wouldBe_43 : decode cX9_wouldBe 43 = .ok (.bipush 11, 2) := by decide +kernel
theorem dX9_wouldBe_45 : decode cX9_wouldBe 45 = .ok (.goto 24, 3) := by decide +kernel
theorem dX9_wouldBe_48 : decode cX9_wouldBe 48 = .ok (.iload_n 1, 1) := by decide +kernel
theorem dX9_wouldBe_49 : decode cX9_wouldBe 49 = .ok (.iconst 3, 1) := by decide +kernel
theorem dX9_wouldBe_50 : decode cX9_wouldBe 50 = .ok (.if_icmp .ne 8, 3) := by decide +kernel
theorem dX9_wouldBe_53 : decode cX9_wouldBe 53 = .ok (.bipush 12, 2) := by decide +kernel
theorem dX9_wouldBe_55 : decode cX9_wouldBe 55 = .ok (.goto 14, 3) := by decide +kernel
theorem dX9_wouldBe_58 : decode cX9_wouldBe 58 = .ok (.iload_n 1, 1) := by decide +kernel
theorem dX9_wouldBe_59 : decode cX9_wouldBe 59 = .ok (.iconst 4, 1) := by decide +kernel
theorem dX9_wouldBe_60 : decode cX9_wouldBe 60 = .ok (.if_icmp .ne 8, 3) := by decide +kernel
theorem dX9_wouldBe_63 : decode cX9_wouldBe 63 = .ok (.bipush 13, 2) := by decide +kernel
theorem dX9_wouldBe_65 : decode cX9_wouldBe 65 = .ok (.goto 4, 3) := by decide +kernel
theorem dX9_wouldBe_68 : decode cX9_wouldBe 68 = .ok (.iconst 2, 1) := by decide +kernel
theorem dX9_wouldBe_69 : decode cX9_wouldBe 69 = .ok (.istore_n 2, 1) := by decide +kernel
theorem dX9_wouldBe_70 : decode cX9_wouldBe 70 = .ok (.iconst 1, 1) := by decide +kernel
theorem dX9_wouldBe_71 : decode cX9_wouldBe 71 = .ok (.istore_n 3, 1) := by decide +kernel
theorem dX9_wouldBe_72 : decode cX9_wouldBe 72 = .ok (.iload_n 3, 1) := by decide +kernel
theorem dX9_wouldBe_73 : decode cX9_wouldBe 73 = .ok (.ifCond .eq 11, 3) := by decide +kernel
theorem dX9_wouldBe_76 : decode cX9_wouldBe 76 = .ok (.aload_n 0, 1) := by decide +kernel
theorem dX9_wouldBe_77 : decode cX9_wouldBe 77 = .ok (.invokevirtual 89, 3) := by decide +kernel
theorem dX9_wouldBe_80 : decode cX9_wouldBe 80 = .ok (.istore_n 3, 1) := by decide +kernel
theorem dX9_wouldBe_81 : decode cX9_wouldBe 81 = .ok (.goto (-9), 3) := by decide +kernel
theorem dX9_wouldBe_84 : decode cX9_wouldBe 84 = .ok (.aload_n 0, 1) := by decide +kernel
theorem dX9_wouldBe_85 : decode cX9_wouldBe 85 = .ok (.getfield 7, 3) := by decide +kernel
theorem dX9_wouldBe_88 : decode cX9_wouldBe 88 = .ok (.iload_n 2, 1) := by decide +kernel
theorem dX9_wouldBe_89 : decode cX9_wouldBe 89 = .ok (.iaload, 1) := by decide +kernel
theorem dX9_wouldBe_90 : decode cX9_wouldBe 90 = .ok (.aload_n 0, 1) := by decide +kernel
theorem dX9_wouldBe_91 : decode cX9_wouldBe 91 = .ok (.getfield 13, 3) := by decide +kernel
theorem dX9_wouldBe_94 : decode cX9_wouldBe 94 = .ok (.iload_n 2, 1) := by decide +kernel
theorem dX9_wouldBe_95 : decode cX9_wouldBe 95 = .ok (.iaload, 1) := by decide +kernel
theorem dX9_wouldBe_96 : decode cX9_wouldBe 96 = .ok (.isub, 1) := by decide +kernel
theorem dX9_wouldBe_97 : decode cX9_wouldBe 97 = .ok (.istore 4, 2) := by decide +kernel
theorem dX9_wouldBe_99 : decode cX9_wouldBe 99 = .ok (.aload_n 0, 1) := by decide +kernel
theorem dX9_wouldBe_100 : decode cX9_wouldBe 100 = .ok (.invokevirtual 93, 3) := by decide +kernel
theorem dX9_wouldBe_103 : decode cX9_wouldBe 103 = .ok (.iload 4, 2) := by decide +kernel
theorem dX9_wouldBe_105 : decode cX9_wouldBe 105 = .ok (.ireturn, 1) := by decide +kernel
theorem dX9_photosNeeded_0 : decode cX9_photosNeeded 0 = .ok (.aload_n 0, 1) := by decide +kernel
theorem dX9_photosNeeded_1 : decode cX9_photosNeeded 1 = .ok (.invokevirtual 79, 3) := by decide +kernel
theorem dX9_photosNeeded_4 : decode cX9_photosNeeded 4 = .ok (.aload_n 0, 1) := by decide +kernel
theorem dX9_photosNeeded_5 : decode cX9_photosNeeded 5 = .ok (.invokevirtual 41, 3) := by decide +kernel
theorem dX9_photosNeeded_8 : decode cX9_photosNeeded 8 = .ok (.istore_n 1, 1) := by decide +kernel
theorem dX9_photosNeeded_9 : decode cX9_photosNeeded 9 = .ok (.iconst 0, 1) := by decide +kernel
theorem dX9_photosNeeded_10 : decode cX9_photosNeeded 10 = .ok (.istore_n 2, 1) := by decide +kernel
theorem dX9_photosNeeded_11 : decode cX9_photosNeeded 11 = .ok (.aload_n 0, 1) := by decide +kernel
theorem dX9_photosNeeded_12 : decode cX9_photosNeeded 12 = .ok (.getfield 7, 3) := by decide +kernel
theorem dX9_photosNeeded_15 : decode cX9_photosNeeded 15 = .ok (.iconst 2, 1) := by decide +kernel
theorem dX9_photosNeeded_16 : decode cX9_photosNeeded 16 = .ok (.iaload, 1) := by decide +kernel
theorem dX9_photosNeeded_17 : decode cX9_photosNeeded 17 = .ok (.aload_n 0, 1) := by decide +kernel
theorem dX9_photosNeeded_18 : decode cX9_photosNeeded 18 = .ok (.getfield 7, 3) := by decide +kernel
theorem dX9_photosNeeded_21 : decode cX9_photosNeeded 21 = .ok (.iconst 1, 1) := by decide +kernel
theorem dX9_photosNeeded_22 : decode cX9_photosNeeded 22 = .ok (.iaload, 1) := by decide +kernel
theorem dX9_photosNeeded_23 : decode cX9_photosNeeded 23 = .ok (.if_icmp .ge 7, 3) := by decide +kernel
theorem dX9_photosNeeded_26 : decode cX9_photosNeeded 26 = .ok (.iconst 1, 1) := by decide +kernel
theorem dX9_photosNeeded_27 : decode cX9_photosNeeded 27 = .ok (.goto 4, 3) := by decide +kernel
theorem dX9_photosNeeded_30 : decode cX9_photosNeeded 30 = .ok (.iconst 0, 1) := by decide +kernel
theorem dX9_photosNeeded_31 : decode cX9_photosNeeded 31 = .ok (.istore_n 3, 1) := by decide +kernel
theorem dX9_photosNeeded_32 : decode cX9_photosNeeded 32 = .ok (.iload_n 3, 1) := by decide +kernel
theorem dX9_photosNeeded_33 : decode cX9_photosNeeded 33 = .ok (.ifCond .eq 96, 3) := by decide +kernel
theorem dX9_photosNeeded_36 : decode cX9_photosNeeded 36 = .ok (.aload_n 0, 1) := by decide +kernel
theorem dX9_photosNeeded_37 : decode cX9_photosNeeded 37 = .ok (.invokevirtual 66, 3) := by decide +kernel
theorem dX9_photosNeeded_40 : decode cX9_photosNeeded 40 = .ok (.istore 4, 2) := by decide +kernel
theorem dX9_photosNeeded_42 : decode cX9_photosNeeded 42 = .ok (.iload 4, 2) := by decide +kernel
theorem dX9_photosNeeded_44 : decode cX9_photosNeeded 44 = .ok (.bipush (-5), 2) := by decide +kernel
theorem dX9_photosNeeded_46 : decode cX9_photosNeeded 46 = .ok (.if_icmp .eq 14, 3) := by decide +kernel
theorem dX9_photosNeeded_49 : decode cX9_photosNeeded 49 = .ok (.iload 4, 2) := by decide +kernel
theorem dX9_photosNeeded_51 : decode cX9_photosNeeded 51 = .ok (.aload_n 0, 1) := by decide +kernel
theorem dX9_photosNeeded_52 : decode cX9_photosNeeded 52 = .ok (.getfield 7, 3) := by decide +kernel
theorem dX9_photosNeeded_55 : decode cX9_photosNeeded 55 = .ok (.iconst 3, 1) := by decide +kernel
theorem dX9_photosNeeded_56 : decode cX9_photosNeeded 56 = .ok (.iaload, 1) := by decide +kernel
theorem dX9_photosNeeded_57 : decode cX9_photosNeeded 57 = .ok (.if_icmp .ne 7, 3) := by decide +kernel
theorem dX9_photosNeeded_60 : decode cX9_photosNeeded 60 = .ok (.iconst 0, 1) := by decide +kernel
theorem dX9_photosNeeded_61 : decode cX9_photosNeeded 61 = .ok (.goto 17, 3) := by decide +kernel
theorem dX9_photosNeeded_64 : decode cX9_photosNeeded 64 = .ok (.aload_n 0, 1) := by decide +kernel
theorem dX9_photosNeeded_65 : decode cX9_photosNeeded 65 = .ok (.getfield 7, 3) := by decide +kernel
theorem dX9_photosNeeded_68 : decode cX9_photosNeeded 68 = .ok (.bipush 17, 2) := by decide +kernel
theorem dX9_photosNeeded_70 : decode cX9_photosNeeded 70 = .ok (.iload 4, 2) := by decide +kernel
theorem dX9_photosNeeded_72 : decode cX9_photosNeeded 72 = .ok (.iadd, 1) := by decide +kernel
theorem dX9_photosNeeded_73 : decode cX9_photosNeeded 73 = .ok (.iaload, 1) := by decide +kernel
theorem dX9_photosNeeded_74 : decode cX9_photosNeeded 74 = .ok (.iload_n 1, 1) := by decide +kernel
theorem dX9_photosNeeded_75 : decode cX9_photosNeeded 75 = .ok (.iconst (-1), 1) := by decide +kernel
theorem dX9_photosNeeded_76 : decode cX9_photosNeeded 76 = .ok (.ixor, 1) := by decide +kernel
theorem dX9_photosNeeded_77 : decode cX9_photosNeeded 77 = .ok (.iand, 1) := by decide +kernel
theorem dX9_photosNeeded_78 : decode cX9_photosNeeded 78 = .ok (.istore 5, 2) := by decide +kernel
theorem dX9_photosNeeded_80 : decode cX9_photosNeeded 80 = .ok (.iload_n 1, 1) := by decide +kernel
theorem dX9_photosNeeded_81 : decode cX9_photosNeeded 81 = .ok (.iload 5, 2) := by decide +kernel
theorem dX9_photosNeeded_83 : decode cX9_photosNeeded 83 = .ok (.ior, 1) := by decide +kernel
theorem dX9_photosNeeded_84 : decode cX9_photosNeeded 84 = .ok (.istore_n 1, 1) := by decide +kernel
theorem dX9_photosNeeded_85 : decode cX9_photosNeeded 85 = .ok (.iload_n 2, 1) := by decide +kernel
theorem dX9_photosNeeded_86 : decode cX9_photosNeeded 86 = .ok (.iload 5, 2) := by decide +kernel
theorem dX9_photosNeeded_88 : decode cX9_photosNeeded 88 = .ok (.ifCond .ne 7, 3) := by decide +kernel
theorem dX9_photosNeeded_91 : decode cX9_photosNeeded 91 = .ok (.iconst 0, 1) := by decide +kernel
theorem dX9_photosNeeded_92 : decode cX9_photosNeeded 92 = .ok (.goto 4, 3) := by decide +kernel
theorem dX9_photosNeeded_95 : decode cX9_photosNeeded 95 = .ok (.iconst 1, 1) := by decide +kernel
theorem dX9_photosNeeded_96 : decode cX9_photosNeeded 96 = .ok (.iadd, 1) := by decide +kernel
theorem dX9_photosNeeded_97 : decode cX9_photosNeeded 97 = .ok (.istore_n 2, 1) := by decide +kernel
theorem dX9_photosNeeded_98 : decode cX9_photosNeeded 98 = .ok (.aload_n 0, 1) := by decide +kernel
theorem dX9_photosNeeded_99 : decode cX9_photosNeeded 99 = .ok (.invokevirtual 89, 3) := by decide +kernel
theorem dX9_photosNeeded_102 : decode cX9_photosNeeded 102 = .ok (.ifCond .eq 22, 3) := by decide +kernel
theorem dX9_photosNeeded_105 : decode cX9_photosNeeded 105 = .ok (.aload_n 0, 1) := by decide +kernel
theorem dX9_photosNeeded_106 : decode cX9_photosNeeded 106 = .ok (.getfield 7, 3) := by decide +kernel
theorem dX9_photosNeeded_109 : decode cX9_photosNeeded 109 = .ok (.iconst 2, 1) := by decide +kernel
theorem dX9_photosNeeded_110 : decode cX9_photosNeeded 110 = .ok (.iaload, 1) := by decide +kernel
theorem dX9_photosNeeded_111 : decode cX9_photosNeeded 111 = .ok (.aload_n 0, 1) := by decide +kernel
theorem dX9_photosNeeded_112 : decode cX9_photosNeeded 112 = .ok (.getfield 7, 3) := by decide +kernel
theorem dX9_photosNeeded_115 : decode cX9_photosNeeded 115 = .ok (.iconst 1, 1) := by decide +kernel
theorem dX9_photosNeeded_116 : decode cX9_photosNeeded 116 = .ok (.iaload, 1) := by decide +kernel
theorem dX9_photosNeeded_117 : decode cX9_photosNeeded 117 = .ok (.if_icmp .ge 7, 3) := by decide +kernel
theorem dX9_photosNeeded_120 : decode cX9_photosNeeded 120 = .ok (.iconst 1, 1) := by decide +kernel
theorem dX9_photosNeeded_121 : decode cX9_photosNeeded 121 = .ok (.goto 4, 3) := by decide +kernel
theorem dX9_photosNeeded_124 : decode cX9_photosNeeded 124 = .ok (.iconst 0, 1) := by decide +kernel
theorem dX9_photosNeeded_125 : decode cX9_photosNeeded 125 = .ok (.istore_n 3, 1) := by decide +kernel
theorem dX9_photosNeeded_126 : decode cX9_photosNeeded 126 = .ok (.goto (-94), 3) := by decide +kernel
theorem dX9_photosNeeded_129 : decode cX9_photosNeeded 129 = .ok (.aload_n 0, 1) := by decide +kernel
theorem dX9_photosNeeded_130 : decode cX9_photosNeeded 130 = .ok (.invokevirtual 93, 3) := by decide +kernel
theorem dX9_photosNeeded_133 : decode cX9_photosNeeded 133 = .ok (.iload_n 2, 1) := by decide +kernel
theorem dX9_photosNeeded_134 : decode cX9_photosNeeded 134 = .ok (.ireturn, 1) := by decide +kernel
theorem dX9_lostSteps_0 : decode cX9_lostSteps 0 = .ok (.aload_n 0, 1) := by decide +kernel
theorem dX9_lostSteps_1 : decode cX9_lostSteps 1 = .ok (.invokevirtual 41, 3) := by decide +kernel
theorem dX9_lostSteps_4 : decode cX9_lostSteps 4 = .ok (.istore_n 1, 1) := by decide +kernel
theorem dX9_lostSteps_5 : decode cX9_lostSteps 5 = .ok (.iconst 0, 1) := by decide +kernel
theorem dX9_lostSteps_6 : decode cX9_lostSteps 6 = .ok (.istore_n 2, 1) := by decide +kernel
theorem dX9_lostSteps_7 : decode cX9_lostSteps 7 = .ok (.iload_n 2, 1) := by decide +kernel
theorem dX9_lostSteps_8 : decode cX9_lostSteps 8 = .ok (.bipush 6, 2) := by decide +kernel
theorem dX9_lostSteps_10 : decode cX9_lostSteps 10 = .ok (.if_icmp .ge 21, 3) := by decide +kernel
theorem dX9_lostSteps_13 : decode cX9_lostSteps 13 = .ok (.iload_n 1, 1) := by decide +kernel
theorem dX9_lostSteps_14 : decode cX9_lostSteps 14 = .ok (.aload_n 0, 1) := by decide +kernel
theorem dX9_lostSteps_15 : decode cX9_lostSteps 15 = .ok (.getfield 7, 3) := by decide +kernel
theorem dX9_lostSteps_18 : decode cX9_lostSteps 18 = .ok (.bipush 17, 2) := by decide +kernel
theorem dX9_lostSteps_20 : decode cX9_lostSteps 20 = .ok (.iload_n 2, 1) := by decide +kernel
theorem dX9_lostSteps_21 : decode cX9_lostSteps 21 = .ok (.iadd, 1) := by decide +kernel
theorem dX9_lostSteps_22 : decode cX9_lostSteps 22 = .ok (.iaload, 1) := by decide +kernel
theorem dX9_lostSteps_23 : decode cX9_lostSteps 23 = .ok (.ior, 1) := by decide +kernel
theorem dX9_lostSteps_24 : decode cX9_lostSteps 24 = .ok (.istore_n 1, 1) := by decide +kernel
theorem dX9_lostSteps_25 : decode cX9_lostSteps 25 = .ok (.iinc 2 1, 3) := by decide +kernel
theorem dX9_lostSteps_28 : decode cX9_lostSteps 28 = .ok (.goto (-21), 3) := by decide +kernel
theorem dX9_lostSteps_31 : decode cX9_lostSteps 31 = .ok (.aload_n 0, 1) := by decide +kernel
theorem dX9_lostSteps_32 : decode cX9_lostSteps 32 = .ok (.getfield 7, 3) := by decide +kernel
theorem dX9_lostSteps_35 : decode cX9_lostSteps 35 = .ok (.iconst 2, 1) := by decide +kernel
theorem dX9_lostSteps_36 : decode cX9_lostSteps 36 = .ok (.iaload, 1) := by decide +kernel
theorem dX9_lostSteps_37 : decode cX9_lostSteps 37 = .ok (.iload_n 1, 1) := by decide +kernel
theorem dX9_lostSteps_38 : decode cX9_lostSteps 38 = .ok (.invokestatic 101, 3) := by decide +kernel
theorem dX9_lostSteps_41 : decode cX9_lostSteps 41 = .ok (.isub, 1) := by decide +kernel
theorem dX9_lostSteps_42 : decode cX9_lostSteps 42 = .ok (.ireturn, 1) := by decide +kernel
theorem dX9_count_0 : decode cX9_count 0 = .ok (.iload_n 1, 1) := by decide +kernel
theorem dX9_count_1 : decode cX9_count 1 = .ok (.tableswitch 183 0 15 #[79, 86, 93, 100, 108, 116, 124, 132, 140, 148, 148, 148, 161, 166, 173, 178], 79) := by decide +kernel
theorem dX9_count_80 : decode cX9_count 80 = .ok (.aload_n 0, 1) := by decide +kernel
theorem dX9_count_81 : decode cX9_count 81 = .ok (.getfield 7, 3) := by decide +kernel
theorem dX9_count_84 : decode cX9_count 84 = .ok (.iconst 1, 1) := by decide +kernel
theorem dX9_count_85 : decode cX9_count 85 = .ok (.iaload, 1) := by decide +kernel
theorem dX9_count_86 : decode cX9_count 86 = .ok (.ireturn, 1) := by decide +kernel
theorem dX9_count_87 : decode cX9_count 87 = .ok (.aload_n 0, 1) := by decide +kernel
theorem dX9_count_88 : decode cX9_count 88 = .ok (.getfield 7, 3) := by decide +kernel
theorem dX9_count_91 : decode cX9_count 91 = .ok (.iconst 2, 1) := by decide +kernel
theorem dX9_count_92 : decode cX9_count 92 = .ok (.iaload, 1) := by decide +kernel
theorem dX9_count_93 : decode cX9_count 93 = .ok (.ireturn, 1) := by decide +kernel
theorem dX9_count_94 : decode cX9_count 94 = .ok (.aload_n 0, 1) := by decide +kernel
theorem dX9_count_95 : decode cX9_count 95 = .ok (.getfield 7, 3) := by decide +kernel
theorem dX9_count_98 : decode cX9_count 98 = .ok (.iconst 3, 1) := by decide +kernel
theorem dX9_count_99 : decode cX9_count 99 = .ok (.iaload, 1) := by decide +kernel
theorem dX9_count_100 : decode cX9_count 100 = .ok (.ireturn, 1) := by decide +kernel
theorem dX9_count_101 : decode cX9_count 101 = .ok (.aload_n 0, 1) := by decide +kernel
theorem dX9_count_102 : decode cX9_count 102 = .ok (.getfield 7, 3) := by decide +kernel
theorem dX9_count_105 : decode cX9_count 105 = .ok (.bipush 8, 2) := by decide +kernel
theorem dX9_count_107 : decode cX9_count 107 = .ok (.iaload, 1) := by decide +kernel
theorem dX9_count_108 : decode cX9_count 108 = .ok (.ireturn, 1) := by decide +kernel
theorem dX9_count_109 : decode cX9_count 109 = .ok (.aload_n 0, 1) := by decide +kernel
theorem dX9_count_110 : decode cX9_count 110 = .ok (.getfield 7, 3) := by decide +kernel
theorem dX9_count_113 : decode cX9_count 113 = .ok (.bipush 9, 2) := by decide +kernel
theorem dX9_count_115 : decode cX9_count 115 = .ok (.iaload, 1) := by decide +kernel
theorem dX9_count_116 : decode cX9_count 116 = .ok (.ireturn, 1) := by decide +kernel
theorem dX9_count_117 : decode cX9_count 117 = .ok (.aload_n 0, 1) := by decide +kernel
theorem dX9_count_118 : decode cX9_count 118 = .ok (.getfield 7, 3) := by decide +kernel
theorem dX9_count_121 : decode cX9_count 121 = .ok (.bipush 10, 2) := by decide +kernel
theorem dX9_count_123 : decode cX9_count 123 = .ok (.iaload, 1) := by decide +kernel
theorem dX9_count_124 : decode cX9_count 124 = .ok (.ireturn, 1) := by decide +kernel
theorem dX9_count_125 : decode cX9_count 125 = .ok (.aload_n 0, 1) := by decide +kernel
theorem dX9_count_126 : decode cX9_count 126 = .ok (.getfield 7, 3) := by decide +kernel
theorem dX9_count_129 : decode cX9_count 129 = .ok (.bipush 11, 2) := by decide +kernel
theorem dX9_count_131 : decode cX9_count 131 = .ok (.iaload, 1) := by decide +kernel
theorem dX9_count_132 : decode cX9_count 132 = .ok (.ireturn, 1) := by decide +kernel
theorem dX9_count_133 : decode cX9_count 133 = .ok (.aload_n 0, 1) := by decide +kernel
theorem dX9_count_134 : decode cX9_count 134 = .ok (.getfield 7, 3) := by decide +kernel
theorem dX9_count_137 : decode cX9_count 137 = .ok (.bipush 12, 2) := by decide +kernel
theorem dX9_count_139 : decode cX9_count 139 = .ok (.iaload, 1) := by decide +kernel
theorem dX9_count_140 : decode cX9_count 140 = .ok (.ireturn, 1) := by decide +kernel
theorem dX9_count_141 : decode cX9_count 141 = .ok (.aload_n 0, 1) := by decide +kernel
theorem dX9_count_142 : decode cX9_count 142 = .ok (.getfield 7, 3) := by decide +kernel
theorem dX9_count_145 : decode cX9_count 145 = .ok (.bipush 13, 2) := by decide +kernel
theorem dX9_count_147 : decode cX9_count 147 = .ok (.iaload, 1) := by decide +kernel
theorem dX9_count_148 : decode cX9_count 148 = .ok (.ireturn, 1) := by decide +kernel
theorem dX9_count_149 : decode cX9_count 149 = .ok (.aload_n 0, 1) := by decide +kernel
theorem dX9_count_150 : decode cX9_count 150 = .ok (.getfield 7, 3) := by decide +kernel
theorem dX9_count_153 : decode cX9_count 153 = .ok (.bipush 14, 2) := by decide +kernel
theorem dX9_count_155 : decode cX9_count 155 = .ok (.iload_n 1, 1) := by decide +kernel
theorem dX9_count_156 : decode cX9_count 156 = .ok (.iadd, 1) := by decide +kernel
theorem dX9_count_157 : decode cX9_count 157 = .ok (.bipush 9, 2) := by decide +kernel
theorem dX9_count_159 : decode cX9_count 159 = .ok (.isub, 1) := by decide +kernel
theorem dX9_count_160 : decode cX9_count 160 = .ok (.iaload, 1) := by decide +kernel
theorem dX9_count_161 : decode cX9_count 161 = .ok (.ireturn, 1) := by decide +kernel
theorem dX9_count_162 : decode cX9_count 162 = .ok (.aload_n 0, 1) := by decide +kernel
theorem dX9_count_163 : decode cX9_count 163 = .ok (.invokevirtual 138, 3) := by decide +kernel
theorem dX9_count_166 : decode cX9_count 166 = .ok (.ireturn, 1) := by decide +kernel
theorem dX9_count_167 : decode cX9_count 167 = .ok (.aload_n 0, 1) := by decide +kernel
theorem dX9_count_168 : decode cX9_count 168 = .ok (.getfield 7, 3) := by decide +kernel
theorem dX9_count_171 : decode cX9_count 171 = .ok (.iconst 0, 1) := by decide +kernel
theorem dX9_count_172 : decode cX9_count 172 = .ok (.iaload, 1) := by decide +kernel
theorem dX9_count_173 : decode cX9_count 173 = .ok (.ireturn, 1) := by decide +kernel
theorem dX9_count_174 : decode cX9_count 174 = .ok (.aload_n 0, 1) := by decide +kernel
theorem dX9_count_175 : decode cX9_count 175 = .ok (.getfield 31, 3) := by decide +kernel
theorem dX9_count_178 : decode cX9_count 178 = .ok (.ireturn, 1) := by decide +kernel
theorem dX9_count_179 : decode cX9_count 179 = .ok (.aload_n 0, 1) := by decide +kernel
theorem dX9_count_180 : decode cX9_count 180 = .ok (.getfield 107, 3) := by decide +kernel
theorem dX9_count_183 : decode cX9_count 183 = .ok (.ireturn, 1) := by decide +kernel
theorem dX9_count_184 : decode cX9_count 184 = .ok (.bipush (-2), 2) := by decide +kernel
theorem dX9_count_186 : decode cX9_count 186 = .ok (.ireturn, 1) := by decide +kernel
theorem dJ6_bitCount_0f7a4_0 : decode cJ6_bitCount_0f7a4 0 = .ok (.iload_n 0, 1) := by decide +kernel
theorem dJ6_bitCount_0f7a4_1 : decode cJ6_bitCount_0f7a4 1 = .ok (.iload_n 0, 1) := by decide +kernel
theorem dJ6_bitCount_0f7a4_2 : decode cJ6_bitCount_0f7a4 2 = .ok (.iconst 1, 1) := by decide +kernel
theorem dJ6_bitCount_0f7a4_3 : decode cJ6_bitCount_0f7a4 3 = .ok (.iushr, 1) := by decide +kernel
theorem dJ6_bitCount_0f7a4_4 : decode cJ6_bitCount_0f7a4 4 = .ok (.ldc_w 265, 3) := by decide +kernel
theorem dJ6_bitCount_0f7a4_7 : decode cJ6_bitCount_0f7a4 7 = .ok (.iand, 1) := by decide +kernel
theorem dJ6_bitCount_0f7a4_8 : decode cJ6_bitCount_0f7a4 8 = .ok (.isub, 1) := by decide +kernel
theorem dJ6_bitCount_0f7a4_9 : decode cJ6_bitCount_0f7a4 9 = .ok (.istore_n 0, 1) := by decide +kernel
theorem dJ6_bitCount_0f7a4_10 : decode cJ6_bitCount_0f7a4 10 = .ok (.iload_n 0, 1) := by decide +kernel
theorem dJ6_bitCount_0f7a4_11 : decode cJ6_bitCount_0f7a4 11 = .ok (.ldc_w 266, 3) := by decide +kernel
theorem dJ6_bitCount_0f7a4_14 : decode cJ6_bitCount_0f7a4 14 = .ok (.iand, 1) := by decide +kernel
theorem dJ6_bitCount_0f7a4_15 : decode cJ6_bitCount_0f7a4 15 = .ok (.iload_n 0, 1) := by decide +kernel
theorem dJ6_bitCount_0f7a4_16 : decode cJ6_bitCount_0f7a4 16 = .ok (.iconst 2, 1) := by decide +kernel
theorem dJ6_bitCount_0f7a4_17 : decode cJ6_bitCount_0f7a4 17 = .ok (.iushr, 1) := by decide +kernel
theorem dJ6_bitCount_0f7a4_18 : decode cJ6_bitCount_0f7a4 18 = .ok (.ldc_w 266, 3) := by decide +kernel
theorem dJ6_bitCount_0f7a4_21 : decode cJ6_bitCount_0f7a4 21 = .ok (.iand, 1) := by decide +kernel
theorem dJ6_bitCount_0f7a4_22 : decode cJ6_bitCount_0f7a4 22 = .ok (.iadd, 1) := by decide +kernel
theorem dJ6_bitCount_0f7a4_23 : decode cJ6_bitCount_0f7a4 23 = .ok (.istore_n 0, 1) := by decide +kernel
theorem dJ6_bitCount_0f7a4_24 : decode cJ6_bitCount_0f7a4 24 = .ok (.iload_n 0, 1) := by decide +kernel
theorem dJ6_bitCount_0f7a4_25 : decode cJ6_bitCount_0f7a4 25 = .ok (.iload_n 0, 1) := by decide +kernel
theorem dJ6_bitCount_0f7a4_26 : decode cJ6_bitCount_0f7a4 26 = .ok (.iconst 4, 1) := by decide +kernel
theorem dJ6_bitCount_0f7a4_27 : decode cJ6_bitCount_0f7a4 27 = .ok (.iushr, 1) := by decide +kernel
theorem dJ6_bitCount_0f7a4_28 : decode cJ6_bitCount_0f7a4 28 = .ok (.iadd, 1) := by decide +kernel
theorem dJ6_bitCount_0f7a4_29 : decode cJ6_bitCount_0f7a4 29 = .ok (.ldc_w 267, 3) := by decide +kernel
theorem dJ6_bitCount_0f7a4_32 : decode cJ6_bitCount_0f7a4 32 = .ok (.iand, 1) := by decide +kernel
theorem dJ6_bitCount_0f7a4_33 : decode cJ6_bitCount_0f7a4 33 = .ok (.istore_n 0, 1) := by decide +kernel
theorem dJ6_bitCount_0f7a4_34 : decode cJ6_bitCount_0f7a4 34 = .ok (.iload_n 0, 1) := by decide +kernel
theorem dJ6_bitCount_0f7a4_35 : decode cJ6_bitCount_0f7a4 35 = .ok (.iload_n 0, 1) := by decide +kernel
theorem dJ6_bitCount_0f7a4_36 : decode cJ6_bitCount_0f7a4 36 = .ok (.bipush 8, 2) := by decide +kernel
theorem dJ6_bitCount_0f7a4_38 : decode cJ6_bitCount_0f7a4 38 = .ok (.iushr, 1) := by decide +kernel
theorem dJ6_bitCount_0f7a4_39 : decode cJ6_bitCount_0f7a4 39 = .ok (.iadd, 1) := by decide +kernel
theorem dJ6_bitCount_0f7a4_40 : decode cJ6_bitCount_0f7a4 40 = .ok (.istore_n 0, 1) := by decide +kernel
theorem dJ6_bitCount_0f7a4_41 : decode cJ6_bitCount_0f7a4 41 = .ok (.iload_n 0, 1) := by decide +kernel
theorem dJ6_bitCount_0f7a4_42 : decode cJ6_bitCount_0f7a4 42 = .ok (.iload_n 0, 1) := by decide +kernel
theorem dJ6_bitCount_0f7a4_43 : decode cJ6_bitCount_0f7a4 43 = .ok (.bipush 16, 2) := by decide +kernel
theorem dJ6_bitCount_0f7a4_45 : decode cJ6_bitCount_0f7a4 45 = .ok (.iushr, 1) := by decide +kernel
theorem dJ6_bitCount_0f7a4_46 : decode cJ6_bitCount_0f7a4 46 = .ok (.iadd, 1) := by decide +kernel
theorem dJ6_bitCount_0f7a4_47 : decode cJ6_bitCount_0f7a4 47 = .ok (.istore_n 0, 1) := by decide +kernel
theorem dJ6_bitCount_0f7a4_48 : decode cJ6_bitCount_0f7a4 48 = .ok (.iload_n 0, 1) := by decide +kernel
theorem dJ6_bitCount_0f7a4_49 : decode cJ6_bitCount_0f7a4 49 = .ok (.bipush 63, 2) := by decide +kernel
theorem dJ6_bitCount_0f7a4_51 : decode cJ6_bitCount_0f7a4 51 = .ok (.iand, 1) := by decide +kernel
theorem dJ6_bitCount_0f7a4_52 : decode cJ6_bitCount_0f7a4 52 = .ok (.ireturn, 1) := by decide +kernel
theorem dJ9_max_7cf53_0 : decode cJ9_max_7cf53 0 = .ok (.iload_n 0, 1) := by decide +kernel
theorem dJ9_max_7cf53_1 : decode cJ9_max_7cf53 1 = .ok (.iload_n 1, 1) := by decide +kernel
theorem dJ9_max_7cf53_2 : decode cJ9_max_7cf53 2 = .ok (.if_icmp .lt 7, 3) := by decide +kernel
theorem dJ9_max_7cf53_5 : decode cJ9_max_7cf53 5 = .ok (.iload_n 0, 1) := by decide +kernel
theorem dJ9_max_7cf53_6 : decode cJ9_max_7cf53 6 = .ok (.goto 4, 3) := by decide +kernel
theorem dJ9_max_7cf53_9 : decode cJ9_max_7cf53 9 = .ok (.iload_n 1, 1) := by decide +kernel
theorem dJ9_max_7cf53_10 : decode cJ9_max_7cf53 10 = .ok (.ireturn, 1) := by decide +kernel
theorem dJ9_min_7cf53_0 : decode cJ9_min_7cf53 0 = .ok (.iload_n 0, 1) := by decide +kernel
theorem dJ9_min_7cf53_1 : decode cJ9_min_7cf53 1 = .ok (.iload_n 1, 1) := by decide +kernel
theorem dJ9_min_7cf53_2 : decode cJ9_min_7cf53 2 = .ok (.if_icmp .gt 7, 3) := by decide +kernel
theorem dJ9_min_7cf53_5 : decode cJ9_min_7cf53 5 = .ok (.iload_n 0, 1) := by decide +kernel
theorem dJ9_min_7cf53_6 : decode cJ9_min_7cf53 6 = .ok (.goto 4, 3) := by decide +kernel
theorem dJ9_min_7cf53_9 : decode cJ9_min_7cf53 9 = .ok (.iload_n 1, 1) := by decide +kernel
theorem dJ9_min_7cf53_10 : decode cJ9_min_7cf53 10 = .ok (.ireturn, 1) := by decide +kernel
theorem dL_law_0 : decode cL_law 0 = .ok (.new 7, 3) := by decide +kernel
theorem dL_law_3 : decode cL_law 3 = .ok (.dup, 1) := by decide +kernel
theorem dL_law_4 : decode cL_law 4 = .ok (.invokespecial 9, 3) := by decide +kernel
theorem dL_law_7 : decode cL_law 7 = .ok (.astore_n 1, 1) := by decide +kernel
theorem dL_law_8 : decode cL_law 8 = .ok (.new 10, 3) := by decide +kernel
theorem dL_law_11 : decode cL_law 11 = .ok (.dup, 1) := by decide +kernel
theorem dL_law_12 : decode cL_law 12 = .ok (.invokespecial 12, 3) := by decide +kernel
theorem dL_law_15 : decode cL_law 15 = .ok (.astore_n 2, 1) := by decide +kernel
theorem dL_law_16 : decode cL_law 16 = .ok (.iconst 0, 1) := by decide +kernel
theorem dL_law_17 : decode cL_law 17 = .ok (.istore_n 3, 1) := by decide +kernel
theorem dL_law_18 : decode cL_law 18 = .ok (.iload_n 3, 1) := by decide +kernel
theorem dL_law_19 : decode cL_law 19 = .ok (.aload_n 0, 1) := by decide +kernel
theorem dL_law_20 : decode cL_law 20 = .ok (.arraylength, 1) := by decide +kernel
theorem dL_law_21 : decode cL_law 21 = .ok (.iconst 3, 1) := by decide +kernel
theorem dL_law_22 : decode cL_law 22 = .ok (.isub, 1) := by decide +kernel
theorem dL_law_23 : decode cL_law 23 = .ok (.if_icmp .gt 569, 3) := by decide +kernel
theorem dL_law_26 : decode cL_law 26 = .ok (.aload_n 0, 1) := by decide +kernel
theorem dL_law_27 : decode cL_law 27 = .ok (.iload_n 3, 1) := by decide +kernel
theorem dL_law_28 : decode cL_law 28 = .ok (.iaload, 1) := by decide +kernel
theorem dL_law_29 : decode cL_law 29 = .ok (.bipush 31, 2) := by decide +kernel
theorem dL_law_31 : decode cL_law 31 = .ok (.iand, 1) := by decide +kernel
theorem dL_law_32 : decode cL_law 32 = .ok (.tableswitch 554 0 19 #[96, 119, 152, 165, 178, 201, 250, 273, 296, 319, 344, 357, 370, 383, 396, 429, 462, 495, 518, 531], 96) := by decide +kernel
theorem dL_law_128 : decode cL_law 128 = .ok (.aload_n 1, 1) := by decide +kernel
theorem dL_law_129 : decode cL_law 129 = .ok (.aload_n 0, 1) := by decide +kernel
theorem dL_law_130 : decode cL_law 130 = .ok (.iload_n 3, 1) := by decide +kernel
theorem dL_law_131 : decode cL_law 131 = .ok (.iconst 1, 1) := by decide +kernel
theorem dL_law_132 : decode cL_law 132 = .ok (.iadd, 1) := by decide +kernel
theorem dL_law_133 : decode cL_law 133 = .ok (.iaload, 1) := by decide +kernel
theorem dL_law_134 : decode cL_law 134 = .ok (.invokevirtual 13, 3) := by decide +kernel
theorem dL_law_137 : decode cL_law 137 = .ok (.aload_n 2, 1) := by decide +kernel
theorem dL_law_138 : decode cL_law 138 = .ok (.aload_n 0, 1) := by decide +kernel
theorem dL_law_139 : decode cL_law 139 = .ok (.iload_n 3, 1) := by decide +kernel
theorem dL_law_140 : decode cL_law 140 = .ok (.iconst 1, 1) := by decide +kernel
theorem dL_law_141 : decode cL_law 141 = .ok (.iadd, 1) := by decide +kernel
theorem dL_law_142 : decode cL_law 142 = .ok (.iaload, 1) := by decide +kernel
theorem dL_law_143 : decode cL_law 143 = .ok (.invokevirtual 17, 3) := by decide +kernel
theorem dL_law_146 : decode cL_law 146 = .ok (.if_icmp .eq 440, 3) := by decide +kernel
theorem dL_law_149 : decode cL_law 149 = .ok (.iconst 0, 1) := by decide +kernel
theorem dL_law_150 : decode cL_law 150 = .ok (.ireturn, 1) := by decide +kernel
theorem dL_law_151 : decode cL_law 151 = .ok (.aload_n 1, 1) := by decide +kernel
theorem dL_law_152 : decode cL_law 152 = .ok (.aload_n 0, 1) := by decide +kernel
theorem dL_law_153 : decode cL_law 153 = .ok (.iload_n 3, 1) := by decide +kernel
theorem dL_law_154 : decode cL_law 154 = .ok (.iconst 1, 1) := by decide +kernel
theorem dL_law_155 : decode cL_law 155 = .ok (.iadd, 1) := by decide +kernel
theorem dL_law_156 : decode cL_law 156 = .ok (.iaload, 1) := by decide +kernel
theorem dL_law_157 : decode cL_law 157 = .ok (.aload_n 0, 1) := by decide +kernel
theorem dL_law_158 : decode cL_law 158 = .ok (.iload_n 3, 1) := by decide +kernel
theorem dL_law_159 : decode cL_law 159 = .ok (.iconst 2, 1) := by decide +kernel
theorem dL_law_160 : decode cL_law 160 = .ok (.iadd, 1) := by decide +kernel
theorem dL_law_161 : decode cL_law 161 = .ok (.iaload, 1) := by decide +kernel
theorem dL_law_162 : decode cL_law 162 = .ok (.invokevirtual 18, 3) := by decide +kernel
theorem dL_law_165 : decode cL_law 165 = .ok (.aload_n 2, 1) := by decide +kernel
theorem dL_law_166 : decode cL_law 166 = .ok (.aload_n 0, 1) := by decide +kernel
theorem dL_law_167 : decode cL_law 167 = .ok (.iload_n 3, 1) := by decide +kernel
theorem dL_law_168 : decode cL_law 168 = .ok (.iconst 1, 1) := by decide +kernel
theorem dL_law_169 : decode cL_law 169 = .ok (.iadd, 1) := by decide +kernel
theorem dL_law_170 : decode cL_law 170 = .ok (.iaload, 1) := by decide +kernel
theorem dL_law_171 : decode cL_law 171 = .ok (.aload_n 0, 1) := by decide +kernel
theorem dL_law_172 : decode cL_law 172 = .ok (.iload_n 3, 1) := by decide +kernel
theorem dL_law_173 : decode cL_law 173 = .ok (.iconst 2, 1) := by decide +kernel
theorem dL_law_174 : decode cL_law 174 = .ok (.iadd, 1) := by decide +kernel
theorem dL_law_175 : decode cL_law 175 = .ok (.iaload, 1) := by decide +kernel
theorem dL_law_176 : decode cL_law 176 = .ok (.invokevirtual 22, 3) := by decide +kernel
theorem dL_law_179 : decode cL_law 179 = .ok (.if_icmp .eq 407, 3) := by decide +kernel
theorem dL_law_182 : decode cL_law 182 = .ok (.iconst 0, 1) := by decide +kernel
theorem dL_law_183 : decode cL_law 183 = .ok (.ireturn, 1) := by decide +kernel
theorem dL_law_184 : decode cL_law 184 = .ok (.aload_n 1, 1) := by decide +kernel
theorem dL_law_185 : decode cL_law 185 = .ok (.invokevirtual 23, 3) := by decide +kernel
theorem dL_law_188 : decode cL_law 188 = .ok (.aload_n 2, 1) := by decide +kernel
theorem dL_law_189 : decode cL_law 189 = .ok (.invokevirtual 27, 3) := by decide +kernel
theorem dL_law_192 : decode cL_law 192 = .ok (.if_icmp .eq 394, 3) := by decide +kernel
theorem dL_law_195 : decode cL_law 195 = .ok (.iconst 0, 1) := by decide +kernel
theorem dL_law_196 : decode cL_law 196 = .ok (.ireturn, 1) := by decide +kernel
theorem dL_law_197 : decode cL_law 197 = .ok (.aload_n 1, 1) := by decide +kernel
theorem dL_law_198 : decode cL_law 198 = .ok (.invokevirtual 28, 3) := by decide +kernel
theorem dL_law_201 : decode cL_law 201 = .ok (.aload_n 2, 1) := by decide +kernel
theorem dL_law_202 : decode cL_law 202 = .ok (.invokevirtual 31, 3) := by decide +kernel
theorem dL_law_205 : decode cL_law 205 = .ok (.if_icmp .eq 381, 3) := by decide +kernel
theorem dL_law_208 : decode cL_law 208 = .ok (.iconst 0, 1) := by decide +kernel
theorem dL_law_209 : decode cL_law 209 = .ok (.ireturn, 1) := by decide +kernel
theorem dL_law_210 : decode cL_law 210 = .ok (.aload_n 1, 1) := by decide +kernel
theorem dL_law_211 : decode cL_law 211 = .ok (.aload_n 0, 1) := by decide +kernel
theorem dL_law_212 : decode cL_law 212 = .ok (.iload_n 3, 1) := by decide +kernel
theorem dL_law_213 : decode cL_law 213 = .ok (.iconst 1, 1) := by decide +kernel
theorem dL_law_214 : decode cL_law 214 = .ok (.iadd, 1) := by decide +kernel
theorem dL_law_215 : decode cL_law 215 = .ok (.iaload, 1) := by decide +kernel
theorem dL_law_216 : decode cL_law 216 = .ok (.invokevirtual 32, 3) := by decide +kernel
theorem dL_law_219 : decode cL_law 219 = .ok (.aload_n 2, 1) := by decide +kernel
theorem dL_law_220 : decode cL_law 220 = .ok (.aload_n 0, 1) := by decide +kernel
theorem dL_law_221 : decode cL_law 221 = .ok (.iload_n 3, 1) := by decide +kernel
theorem dL_law_222 : decode cL_law 222 = .ok (.iconst 1, 1) := by decide +kernel
theorem dL_law_223 : decode cL_law 223 = .ok (.iadd, 1) := by decide +kernel
theorem dL_law_224 : decode cL_law 224 = .ok (.iaload, 1) := by decide +kernel
theorem dL_law_225 : decode cL_law 225 = .ok (.invokevirtual 35, 3) := by decide +kernel
theorem dL_law_228 : decode cL_law 228 = .ok (.if_icmp .eq 358, 3) := by decide +kernel
theorem dL_law_231 : decode cL_law 231 = .ok (.iconst 0, 1) := by decide +kernel
theorem dL_law_232 : decode cL_law 232 = .ok (.ireturn, 1) := by decide +kernel
theorem dL_law_233 : decode cL_law 233 = .ok (.aload_n 1, 1) := by decide +kernel
theorem dL_law_234 : decode cL_law 234 = .ok (.aload_n 0, 1) := by decide +kernel
theorem dL_law_235 : decode cL_law 235 = .ok (.iload_n 3, 1) := by decide +kernel
theorem dL_law_236 : decode cL_law 236 = .ok (.iconst 1, 1) := by decide +kernel
theorem dL_law_237 : decode cL_law 237 = .ok (.iadd, 1) := by decide +kernel
theorem dL_law_238 : decode cL_law 238 = .ok (.iaload, 1) := by decide +kernel
theorem dL_law_239 : decode cL_law 239 = .ok (.aload_n 0, 1) := by decide +kernel
theorem dL_law_240 : decode cL_law 240 = .ok (.iload_n 3, 1) := by decide +kernel
theorem dL_law_241 : decode cL_law 241 = .ok (.iconst 2, 1) := by decide +kernel
theorem dL_law_242 : decode cL_law 242 = .ok (.iadd, 1) := by decide +kernel
theorem dL_law_243 : decode cL_law 243 = .ok (.iaload, 1) := by decide +kernel
theorem dL_law_244 : decode cL_law 244 = .ok (.ifCond .eq 7, 3) := by decide +kernel
theorem dL_law_247 : decode cL_law 247 = .ok (.iconst 1, 1) := by decide +kernel
theorem dL_law_248 : decode cL_law 248 = .ok (.goto 4, 3) := by decide +kernel
theorem dL_law_251 : decode cL_law 251 = .ok (.iconst 0, 1) := by decide +kernel
theorem dL_law_252 : decode cL_law 252 = .ok (.invokevirtual 36, 3) := by decide +kernel
theorem dL_law_255 : decode cL_law 255 = .ok (.aload_n 2, 1) := by decide +kernel
theorem dL_law_256 : decode cL_law 256 = .ok (.aload_n 0, 1) := by decide +kernel
theorem dL_law_257 : decode cL_law 257 = .ok (.iload_n 3, 1) := by decide +kernel
theorem dL_law_258 : decode cL_law 258 = .ok (.iconst 1, 1) := by decide +kernel
theorem dL_law_259 : decode cL_law 259 = .ok (.iadd, 1) := by decide +kernel
theorem dL_law_260 : decode cL_law 260 = .ok (.iaload, 1) := by decide +kernel
theorem dL_law_261 : decode cL_law 261 = .ok (.aload_n 0, 1) := by decide +kernel
theorem dL_law_262 : decode cL_law 262 = .ok (.iload_n 3, 1) := by decide +kernel
theorem dL_law_263 : decode cL_law 263 = .ok (.iconst 2, 1) := by decide +kernel
theorem dL_law_264 : decode cL_law 264 = .ok (.iadd, 1) := by decide +kernel
theorem dL_law_265 : decode cL_law 265 = .ok (.iaload, 1) := by decide +kernel
theorem dL_law_266 : decode cL_law 266 = .ok (.ifCond .eq 7, 3) := by decide +kernel
theorem dL_law_269 : decode cL_law 269 = .ok (.iconst 1, 1) := by decide +kernel
theorem dL_law_270 : decode cL_law 270 = .ok (.goto 4, 3) := by decide +kernel
theorem dL_law_273 : decode cL_law 273 = .ok (.iconst 0, 1) := by decide +kernel
theorem dL_law_274 : decode cL_law 274 = .ok (.invokevirtual 40, 3) := by decide +kernel
theorem dL_law_277 : decode cL_law 277 = .ok (.if_icmp .eq 309, 3) := by decide +kernel
theorem dL_law_280 : decode cL_law 280 = .ok (.iconst 0, 1) := by decide +kernel
theorem dL_law_281 : decode cL_law 281 = .ok (.ireturn, 1) := by decide +kernel
theorem dL_law_282 : decode cL_law 282 = .ok (.aload_n 1, 1) := by decide +kernel
theorem dL_law_283 : decode cL_law 283 = .ok (.aload_n 0, 1) := by decide +kernel
theorem dL_law_284 : decode cL_law 284 = .ok (.iload_n 3, 1) := by decide +kernel
theorem dL_law_285 : decode cL_law 285 = .ok (.iconst 1, 1) := by decide +kernel
theorem dL_law_286 : decode cL_law 286 = .ok (.iadd, 1) := by decide +kernel
theorem dL_law_287 : decode cL_law 287 = .ok (.iaload, 1) := by decide +kernel
theorem dL_law_288 : decode cL_law 288 = .ok (.invokevirtual 41, 3) := by decide +kernel
theorem dL_law_291 : decode cL_law 291 = .ok (.aload_n 2, 1) := by decide +kernel
theorem dL_law_292 : decode cL_law 292 = .ok (.aload_n 0, 1) := by decide +kernel
theorem dL_law_293 : decode cL_law 293 = .ok (.iload_n 3, 1) := by decide +kernel
theorem dL_law_294 : decode cL_law 294 = .ok (.iconst 1, 1) := by decide +kernel
theorem dL_law_295 : decode cL_law 295 = .ok (.iadd, 1) := by decide +kernel
theorem dL_law_296 : decode cL_law 296 = .ok (.iaload, 1) := by decide +kernel
theorem dL_law_297 : decode cL_law 297 = .ok (.invokevirtual 44, 3) := by decide +kernel
theorem dL_law_300 : decode cL_law 300 = .ok (.if_icmp .eq 286, 3) := by decide +kernel
theorem dL_law_303 : decode cL_law 303 = .ok (.iconst 0, 1) := by decide +kernel
theorem dL_law_304 : decode cL_law 304 = .ok (.ireturn, 1) := by decide +kernel
theorem dL_law_305 : decode cL_law 305 = .ok (.aload_n 1, 1) := by decide +kernel
theorem dL_law_306 : decode cL_law 306 = .ok (.aload_n 0, 1) := by decide +kernel
theorem dL_law_307 : decode cL_law 307 = .ok (.iload_n 3, 1) := by decide +kernel
theorem dL_law_308 : decode cL_law 308 = .ok (.iconst 1, 1) := by decide +kernel
theorem dL_law_309 : decode cL_law 309 = .ok (.iadd, 1) := by decide +kernel
theorem dL_law_310 : decode cL_law 310 = .ok (.iaload, 1) := by decide +kernel
theorem dL_law_311 : decode cL_law 311 = .ok (.invokevirtual 45, 3) := by decide +kernel
theorem dL_law_314 : decode cL_law 314 = .ok (.aload_n 2, 1) := by decide +kernel
theorem dL_law_315 : decode cL_law 315 = .ok (.aload_n 0, 1) := by decide +kernel
theorem dL_law_316 : decode cL_law 316 = .ok (.iload_n 3, 1) := by decide +kernel
theorem dL_law_317 : decode cL_law 317 = .ok (.iconst 1, 1) := by decide +kernel
theorem dL_law_318 : decode cL_law 318 = .ok (.iadd, 1) := by decide +kernel
theorem dL_law_319 : decode cL_law 319 = .ok (.iaload, 1) := by decide +kernel
theorem dL_law_320 : decode cL_law 320 = .ok (.invokevirtual 48, 3) := by decide +kernel
theorem dL_law_323 : decode cL_law 323 = .ok (.if_icmp .eq 263, 3) := by decide +kernel
theorem dL_law_326 : decode cL_law 326 = .ok (.iconst 0, 1) := by decide +kernel
theorem dL_law_327 : decode cL_law 327 = .ok (.ireturn, 1) := by decide +kernel
theorem dL_law_328 : decode cL_law 328 = .ok (.aload_n 1, 1) := by decide +kernel
theorem dL_law_329 : decode cL_law 329 = .ok (.aload_n 0, 1) := by decide +kernel
theorem dL_law_330 : decode cL_law 330 = .ok (.iload_n 3, 1) := by decide +kernel
theorem dL_law_331 : decode cL_law 331 = .ok (.iconst 1, 1) := by decide +kernel
theorem dL_law_332 : decode cL_law 332 = .ok (.iadd, 1) := by decide +kernel
theorem dL_law_333 : decode cL_law 333 = .ok (.iaload, 1) := by decide +kernel
theorem dL_law_334 : decode cL_law 334 = .ok (.invokevirtual 49, 3) := by decide +kernel
theorem dL_law_337 : decode cL_law 337 = .ok (.aload_n 2, 1) := by decide +kernel
theorem dL_law_338 : decode cL_law 338 = .ok (.aload_n 0, 1) := by decide +kernel
theorem dL_law_339 : decode cL_law 339 = .ok (.iload_n 3, 1) := by decide +kernel
theorem dL_law_340 : decode cL_law 340 = .ok (.iconst 1, 1) := by decide +kernel
theorem dL_law_341 : decode cL_law 341 = .ok (.iadd, 1) := by decide +kernel
theorem dL_law_342 : decode cL_law 342 = .ok (.iaload, 1) := by decide +kernel
theorem dL_law_343 : decode cL_law 343 = .ok (.invokevirtual 52, 3) := by decide +kernel
theorem dL_law_346 : decode cL_law 346 = .ok (.if_icmp .eq 240, 3) := by decide +kernel
theorem dL_law_349 : decode cL_law 349 = .ok (.iconst 0, 1) := by decide +kernel
theorem dL_law_350 : decode cL_law 350 = .ok (.ireturn, 1) := by decide +kernel
theorem dL_law_351 : decode cL_law 351 = .ok (.aload_n 1, 1) := by decide +kernel
theorem dL_law_352 : decode cL_law 352 = .ok (.aload_n 0, 1) := by decide +kernel
theorem dL_law_353 : decode cL_law 353 = .ok (.iload_n 3, 1) := by decide +kernel
theorem dL_law_354 : decode cL_law 354 = .ok (.iconst 1, 1) := by decide +kernel
theorem dL_law_355 : decode cL_law 355 = .ok (.iadd, 1) := by decide +kernel
theorem dL_law_356 : decode cL_law 356 = .ok (.iaload, 1) := by decide +kernel
theorem dL_law_357 : decode cL_law 357 = .ok (.i2c, 1) := by decide +kernel
theorem dL_law_358 : decode cL_law 358 = .ok (.invokevirtual 53, 3) := by decide +kernel
theorem dL_law_361 : decode cL_law 361 = .ok (.aload_n 2, 1) := by decide +kernel
theorem dL_law_362 : decode cL_law 362 = .ok (.aload_n 0, 1) := by decide +kernel
theorem dL_law_363 : decode cL_law 363 = .ok (.iload_n 3, 1) := by decide +kernel
theorem dL_law_364 : decode cL_law 364 = .ok (.iconst 1, 1) := by decide +kernel
theorem dL_law_365 : decode cL_law 365 = .ok (.iadd, 1) := by decide +kernel
theorem dL_law_366 : decode cL_law 366 = .ok (.iaload, 1) := by decide +kernel
theorem dL_law_367 : decode cL_law 367 = .ok (.i2c, 1) := by decide +kernel
theorem dL_law_368 : decode cL_law 368 = .ok (.invokevirtual 57, 3) := by decide +kernel
theorem dL_law_371 : decode cL_law 371 = .ok (.if_icmp .eq 215, 3) := by decide +kernel
theorem dL_law_374 : decode cL_law 374 = .ok (.iconst 0, 1) := by decide +kernel
theorem dL_law_375 : decode cL_law 375 = .ok (.ireturn, 1) := by decide +kernel
theorem dL_law_376 : decode cL_law 376 = .ok (.aload_n 1, 1) := by decide +kernel
theorem dL_law_377 : decode cL_law 377 = .ok (.invokevirtual 58, 3) := by decide +kernel
theorem dL_law_380 : decode cL_law 380 = .ok (.aload_n 2, 1) := by decide +kernel
theorem dL_law_381 : decode cL_law 381 = .ok (.invokevirtual 61, 3) := by decide +kernel
theorem dL_law_384 : decode cL_law 384 = .ok (.if_icmp .eq 202, 3) := by decide +kernel
theorem dL_law_387 : decode cL_law 387 = .ok (.iconst 0, 1) := by decide +kernel
theorem dL_law_388 : decode cL_law 388 = .ok (.ireturn, 1) := by decide +kernel
theorem dL_law_389 : decode cL_law 389 = .ok (.aload_n 1, 1) := by decide +kernel
theorem dL_law_390 : decode cL_law 390 = .ok (.invokevirtual 62, 3) := by decide +kernel
theorem dL_law_393 : decode cL_law 393 = .ok (.aload_n 2, 1) := by decide +kernel
theorem dL_law_394 : decode cL_law 394 = .ok (.invokevirtual 65, 3) := by decide +kernel
theorem dL_law_397 : decode cL_law 397 = .ok (.if_icmp .eq 189, 3) := by decide +kernel
theorem dL_law_400 : decode cL_law 400 = .ok (.iconst 0, 1) := by decide +kernel
theorem dL_law_401 : decode cL_law 401 = .ok (.ireturn, 1) := by decide +kernel
theorem dL_law_402 : decode cL_law 402 = .ok (.aload_n 1, 1) := by decide +kernel
theorem dL_law_403 : decode cL_law 403 = .ok (.invokevirtual 66, 3) := by decide +kernel
theorem dL_law_406 : decode cL_law 406 = .ok (.aload_n 2, 1) := by decide +kernel
theorem dL_law_407 : decode cL_law 407 = .ok (.invokevirtual 69, 3) := by decide +kernel
theorem dL_law_410 : decode cL_law 410 = .ok (.if_icmp .eq 176, 3) := by decide +kernel
theorem dL_law_413 : decode cL_law 413 = .ok (.iconst 0, 1) := by decide +kernel
theorem dL_law_414 : decode cL_law 414 = .ok (.ireturn, 1) := by decide +kernel
theorem dL_law_415 : decode cL_law 415 = .ok (.aload_n 1, 1) := by decide +kernel
theorem dL_law_416 : decode cL_law 416 = .ok (.invokevirtual 70, 3) := by decide +kernel
theorem dL_law_419 : decode cL_law 419 = .ok (.aload_n 2, 1) := by decide +kernel
theorem dL_law_420 : decode cL_law 420 = .ok (.invokevirtual 73, 3) := by decide +kernel
theorem dL_law_423 : decode cL_law 423 = .ok (.if_icmp .eq 163, 3) := by decide +kernel
theorem dL_law_426 : decode cL_law 426 = .ok (.iconst 0, 1) := by decide +kernel
theorem dL_law_427 : decode cL_law 427 = .ok (.ireturn, 1) := by decide +kernel
theorem dL_law_428 : decode cL_law 428 = .ok (.aload_n 1, 1) := by decide +kernel
theorem dL_law_429 : decode cL_law 429 = .ok (.aload_n 0, 1) := by decide +kernel
theorem dL_law_430 : decode cL_law 430 = .ok (.iload_n 3, 1) := by decide +kernel
theorem dL_law_431 : decode cL_law 431 = .ok (.iconst 1, 1) := by decide +kernel
theorem dL_law_432 : decode cL_law 432 = .ok (.iadd, 1) := by decide +kernel
theorem dL_law_433 : decode cL_law 433 = .ok (.iaload, 1) := by decide +kernel
theorem dL_law_434 : decode cL_law 434 = .ok (.aload_n 0, 1) := by decide +kernel
theorem dL_law_435 : decode cL_law 435 = .ok (.iload_n 3, 1) := by decide +kernel
theorem dL_law_436 : decode cL_law 436 = .ok (.iconst 2, 1) := by decide +kernel
theorem dL_law_437 : decode cL_law 437 = .ok (.iadd, 1) := by decide +kernel
theorem dL_law_438 : decode cL_law 438 = .ok (.iaload, 1) := by decide +kernel
theorem dL_law_439 : decode cL_law 439 = .ok (.invokevirtual 74, 3) := by decide +kernel
theorem dL_law_442 : decode cL_law 442 = .ok (.aload_n 2, 1) := by decide +kernel
theorem dL_law_443 : decode cL_law 443 = .ok (.aload_n 0, 1) := by decide +kernel
theorem dL_law_444 : decode cL_law 444 = .ok (.iload_n 3, 1) := by decide +kernel
theorem dL_law_445 : decode cL_law 445 = .ok (.iconst 1, 1) := by decide +kernel
theorem dL_law_446 : decode cL_law 446 = .ok (.iadd, 1) := by decide +kernel
theorem dL_law_447 : decode cL_law 447 = .ok (.iaload, 1) := by decide +kernel
theorem dL_law_448 : decode cL_law 448 = .ok (.aload_n 0, 1) := by decide +kernel
theorem dL_law_449 : decode cL_law 449 = .ok (.iload_n 3, 1) := by decide +kernel
theorem dL_law_450 : decode cL_law 450 = .ok (.iconst 2, 1) := by decide +kernel
theorem dL_law_451 : decode cL_law 451 = .ok (.iadd, 1) := by decide +kernel
theorem dL_law_452 : decode cL_law 452 = .ok (.iaload, 1) := by decide +kernel
theorem dL_law_453 : decode cL_law 453 = .ok (.invokevirtual 77, 3) := by decide +kernel
theorem dL_law_456 : decode cL_law 456 = .ok (.if_icmp .eq 130, 3) := by decide +kernel
theorem dL_law_459 : decode cL_law 459 = .ok (.iconst 0, 1) := by decide +kernel
theorem dL_law_460 : decode cL_law 460 = .ok (.ireturn, 1) := by decide +kernel
theorem dL_law_461 : decode cL_law 461 = .ok (.aload_n 1, 1) := by decide +kernel
theorem dL_law_462 : decode cL_law 462 = .ok (.aload_n 0, 1) := by decide +kernel
theorem dL_law_463 : decode cL_law 463 = .ok (.iload_n 3, 1) := by decide +kernel
theorem dL_law_464 : decode cL_law 464 = .ok (.iconst 1, 1) := by decide +kernel
theorem dL_law_465 : decode cL_law 465 = .ok (.iadd, 1) := by decide +kernel
theorem dL_law_466 : decode cL_law 466 = .ok (.iaload, 1) := by decide +kernel
theorem dL_law_467 : decode cL_law 467 = .ok (.aload_n 0, 1) := by decide +kernel
theorem dL_law_468 : decode cL_law 468 = .ok (.iload_n 3, 1) := by decide +kernel
theorem dL_law_469 : decode cL_law 469 = .ok (.iconst 2, 1) := by decide +kernel
theorem dL_law_470 : decode cL_law 470 = .ok (.iadd, 1) := by decide +kernel
theorem dL_law_471 : decode cL_law 471 = .ok (.iaload, 1) := by decide +kernel
theorem dL_law_472 : decode cL_law 472 = .ok (.invokevirtual 78, 3) := by decide +kernel
theorem dL_law_475 : decode cL_law 475 = .ok (.aload_n 2, 1) := by decide +kernel
theorem dL_law_476 : decode cL_law 476 = .ok (.aload_n 0, 1) := by decide +kernel
theorem dL_law_477 : decode cL_law 477 = .ok (.iload_n 3, 1) := by decide +kernel
theorem dL_law_478 : decode cL_law 478 = .ok (.iconst 1, 1) := by decide +kernel
theorem dL_law_479 : decode cL_law 479 = .ok (.iadd, 1) := by decide +kernel
theorem dL_law_480 : decode cL_law 480 = .ok (.iaload, 1) := by decide +kernel
theorem dL_law_481 : decode cL_law 481 = .ok (.aload_n 0, 1) := by decide +kernel
theorem dL_law_482 : decode cL_law 482 = .ok (.iload_n 3, 1) := by decide +kernel
theorem dL_law_483 : decode cL_law 483 = .ok (.iconst 2, 1) := by decide +kernel
theorem dL_law_484 : decode cL_law 484 = .ok (.iadd, 1) := by decide +kernel
theorem dL_law_485 : decode cL_law 485 = .ok (.iaload, 1) := by decide +kernel
theorem dL_law_486 : decode cL_law 486 = .ok (.invokevirtual 81, 3) := by decide +kernel
theorem dL_law_489 : decode cL_law 489 = .ok (.if_icmp .eq 97, 3) := by decide +kernel
theorem dL_law_492 : decode cL_law 492 = .ok (.iconst 0, 1) := by decide +kernel
theorem dL_law_493 : decode cL_law 493 = .ok (.ireturn, 1) := by decide +kernel
theorem dL_law_494 : decode cL_law 494 = .ok (.aload_n 1, 1) := by decide +kernel
theorem dL_law_495 : decode cL_law 495 = .ok (.aload_n 0, 1) := by decide +kernel
theorem dL_law_496 : decode cL_law 496 = .ok (.iload_n 3, 1) := by decide +kernel
theorem dL_law_497 : decode cL_law 497 = .ok (.iconst 1, 1) := by decide +kernel
theorem dL_law_498 : decode cL_law 498 = .ok (.iadd, 1) := by decide +kernel
theorem dL_law_499 : decode cL_law 499 = .ok (.iaload, 1) := by decide +kernel
theorem dL_law_500 : decode cL_law 500 = .ok (.aload_n 0, 1) := by decide +kernel
theorem dL_law_501 : decode cL_law 501 = .ok (.iload_n 3, 1) := by decide +kernel
theorem dL_law_502 : decode cL_law 502 = .ok (.iconst 2, 1) := by decide +kernel
theorem dL_law_503 : decode cL_law 503 = .ok (.iadd, 1) := by decide +kernel
theorem dL_law_504 : decode cL_law 504 = .ok (.iaload, 1) := by decide +kernel
theorem dL_law_505 : decode cL_law 505 = .ok (.invokevirtual 82, 3) := by decide +kernel
theorem dL_law_508 : decode cL_law 508 = .ok (.aload_n 2, 1) := by decide +kernel
theorem dL_law_509 : decode cL_law 509 = .ok (.aload_n 0, 1) := by decide +kernel
theorem dL_law_510 : decode cL_law 510 = .ok (.iload_n 3, 1) := by decide +kernel
theorem dL_law_511 : decode cL_law 511 = .ok (.iconst 1, 1) := by decide +kernel
theorem dL_law_512 : decode cL_law 512 = .ok (.iadd, 1) := by decide +kernel
theorem dL_law_513 : decode cL_law 513 = .ok (.iaload, 1) := by decide +kernel
theorem dL_law_514 : decode cL_law 514 = .ok (.aload_n 0, 1) := by decide +kernel
theorem dL_law_515 : decode cL_law 515 = .ok (.iload_n 3, 1) := by decide +kernel
theorem dL_law_516 : decode cL_law 516 = .ok (.iconst 2, 1) := by decide +kernel
theorem dL_law_517 : decode cL_law 517 = .ok (.iadd, 1) := by decide +kernel
theorem dL_law_518 : decode cL_law 518 = .ok (.iaload, 1) := by decide +kernel
theorem dL_law_519 : decode cL_law 519 = .ok (.invokevirtual 85, 3) := by decide +kernel
theorem dL_law_522 : decode cL_law 522 = .ok (.if_icmp .eq 64, 3) := by decide +kernel
theorem dL_law_525 : decode cL_law 525 = .ok (.iconst 0, 1) := by decide +kernel
theorem dL_law_526 : decode cL_law 526 = .ok (.ireturn, 1) := by decide +kernel
theorem dL_law_527 : decode cL_law 527 = .ok (.aload_n 1, 1) := by decide +kernel
theorem dL_law_528 : decode cL_law 528 = .ok (.aload_n 0, 1) := by decide +kernel
theorem dL_law_529 : decode cL_law 529 = .ok (.iload_n 3, 1) := by decide +kernel
theorem dL_law_530 : decode cL_law 530 = .ok (.iconst 1, 1) := by decide +kernel
theorem dL_law_531 : decode cL_law 531 = .ok (.iadd, 1) := by decide +kernel
theorem dL_law_532 : decode cL_law 532 = .ok (.iaload, 1) := by decide +kernel
theorem dL_law_533 : decode cL_law 533 = .ok (.invokevirtual 86, 3) := by decide +kernel
theorem dL_law_536 : decode cL_law 536 = .ok (.aload_n 2, 1) := by decide +kernel
theorem dL_law_537 : decode cL_law 537 = .ok (.aload_n 0, 1) := by decide +kernel
theorem dL_law_538 : decode cL_law 538 = .ok (.iload_n 3, 1) := by decide +kernel
theorem dL_law_539 : decode cL_law 539 = .ok (.iconst 1, 1) := by decide +kernel
theorem dL_law_540 : decode cL_law 540 = .ok (.iadd, 1) := by decide +kernel
theorem dL_law_541 : decode cL_law 541 = .ok (.iaload, 1) := by decide +kernel
theorem dL_law_542 : decode cL_law 542 = .ok (.invokevirtual 89, 3) := by decide +kernel
theorem dL_law_545 : decode cL_law 545 = .ok (.if_icmp .eq 41, 3) := by decide +kernel
theorem dL_law_548 : decode cL_law 548 = .ok (.iconst 0, 1) := by decide +kernel
theorem dL_law_549 : decode cL_law 549 = .ok (.ireturn, 1) := by decide +kernel
theorem dL_law_550 : decode cL_law 550 = .ok (.aload_n 1, 1) := by decide +kernel
theorem dL_law_551 : decode cL_law 551 = .ok (.invokevirtual 90, 3) := by decide +kernel
theorem dL_law_554 : decode cL_law 554 = .ok (.aload_n 2, 1) := by decide +kernel
theorem dL_law_555 : decode cL_law 555 = .ok (.invokevirtual 93, 3) := by decide +kernel
theorem dL_law_558 : decode cL_law 558 = .ok (.if_icmp .eq 28, 3) := by decide +kernel
theorem dL_law_561 : decode cL_law 561 = .ok (.iconst 0, 1) := by decide +kernel
theorem dL_law_562 : decode cL_law 562 = .ok (.ireturn, 1) := by decide +kernel
theorem dL_law_563 : decode cL_law 563 = .ok (.aload_n 1, 1) := by decide +kernel
theorem dL_law_564 : decode cL_law 564 = .ok (.aload_n 0, 1) := by decide +kernel
theorem dL_law_565 : decode cL_law 565 = .ok (.iload_n 3, 1) := by decide +kernel
theorem dL_law_566 : decode cL_law 566 = .ok (.iconst 1, 1) := by decide +kernel
theorem dL_law_567 : decode cL_law 567 = .ok (.iadd, 1) := by decide +kernel
theorem dL_law_568 : decode cL_law 568 = .ok (.iaload, 1) := by decide +kernel
theorem dL_law_569 : decode cL_law 569 = .ok (.invokevirtual 94, 3) := by decide +kernel
theorem dL_law_572 : decode cL_law 572 = .ok (.aload_n 2, 1) := by decide +kernel
theorem dL_law_573 : decode cL_law 573 = .ok (.aload_n 0, 1) := by decide +kernel
theorem dL_law_574 : decode cL_law 574 = .ok (.iload_n 3, 1) := by decide +kernel
theorem dL_law_575 : decode cL_law 575 = .ok (.iconst 1, 1) := by decide +kernel
theorem dL_law_576 : decode cL_law 576 = .ok (.iadd, 1) := by decide +kernel
theorem dL_law_577 : decode cL_law 577 = .ok (.iaload, 1) := by decide +kernel
theorem dL_law_578 : decode cL_law 578 = .ok (.invokevirtual 97, 3) := by decide +kernel
theorem dL_law_581 : decode cL_law 581 = .ok (.if_icmp .eq 5, 3) := by decide +kernel
theorem dL_law_584 : decode cL_law 584 = .ok (.iconst 0, 1) := by decide +kernel
theorem dL_law_585 : decode cL_law 585 = .ok (.ireturn, 1) := by decide +kernel
theorem dL_law_586 : decode cL_law 586 = .ok (.iinc 3 3, 3) := by decide +kernel
theorem dL_law_589 : decode cL_law 589 = .ok (.goto (-571), 3) := by decide +kernel
theorem dL_law_592 : decode cL_law 592 = .ok (.iconst 1, 1) := by decide +kernel
theorem dL_law_593 : decode cL_law 593 = .ok (.ireturn, 1) := by decide +kernel
