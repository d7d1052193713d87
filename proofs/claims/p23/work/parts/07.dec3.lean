theorem dX8_write_22 : decode cX8_write 22 = .ok (.invokevirtual 54, 3) := by decide +kernel
theorem dX8_write_25 : decode cX8_write 25 = .ok (.aload_n 0, 1) := by decide +kernel
theorem dX8_write_26 : decode cX8_write 26 = .ok (.getfield 10, 3) := by decide +kernel
theorem dX8_write_29 : decode cX8_write 29 = .ok (.invokevirtual 93, 3) := by decide +kernel
theorem dX8_write_32 : decode cX8_write 32 = .ok (.ireturn, 1) := by decide +kernel
theorem dX8_pull_0 : decode cX8_pull 0 = .ok (.iload_n 1, 1) := by decide +kernel
theorem dX8_pull_1 : decode cX8_pull 1 = .ok (.ifCond .lt 8, 3) := by decide +kernel
theorem dX8_pull_4 : decode cX8_pull 4 = .ok (.iload_n 1, 1) := by decide +kernel
theorem dX8_pull_5 : decode cX8_pull 5 = .ok (.iconst 3, 1) := by decide +kernel
theorem dX8_pull_6 : decode cX8_pull 6 = .ok (.if_icmp .lt 5, 3) := by decide +kernel
theorem dX8_pull_9 : decode cX8_pull 9 = .ok (.iconst (-1), 1) := by decide +kernel
theorem dX8_pull_10 : decode cX8_pull 10 = .ok (.ireturn, 1) := by decide +kernel
theorem dX8_pull_11 : decode cX8_pull 11 = .ok (.aload_n 0, 1) := by decide +kernel
theorem dX8_pull_12 : decode cX8_pull 12 = .ok (.getfield 25, 3) := by decide +kernel
theorem dX8_pull_15 : decode cX8_pull 15 = .ok (.aload_n 0, 1) := by decide +kernel
theorem dX8_pull_16 : decode cX8_pull 16 = .ok (.getfield 10, 3) := by decide +kernel
theorem dX8_pull_19 : decode cX8_pull 19 = .ok (.invokevirtual 54, 3) := by decide +kernel
theorem dX8_pull_22 : decode cX8_pull 22 = .ok (.aload_n 0, 1) := by decide +kernel
theorem dX8_pull_23 : decode cX8_pull 23 = .ok (.getfield 10, 3) := by decide +kernel
theorem dX8_pull_26 : decode cX8_pull 26 = .ok (.getfield 44, 3) := by decide +kernel
theorem dX8_pull_29 : decode cX8_pull 29 = .ok (.iload_n 1, 1) := by decide +kernel
theorem dX8_pull_30 : decode cX8_pull 30 = .ok (.invokevirtual 96, 3) := by decide +kernel
theorem dX8_pull_33 : decode cX8_pull 33 = .ok (.aload_n 0, 1) := by decide +kernel
theorem dX8_pull_34 : decode cX8_pull 34 = .ok (.getfield 10, 3) := by decide +kernel
theorem dX8_pull_37 : decode cX8_pull 37 = .ok (.getfield 44, 3) := by decide +kernel
theorem dX8_pull_40 : decode cX8_pull 40 = .ok (.getfield 100, 3) := by decide +kernel
theorem dX8_pull_43 : decode cX8_pull 43 = .ok (.iload_n 1, 1) := by decide +kernel
theorem dX8_pull_44 : decode cX8_pull 44 = .ok (.invokevirtual 82, 3) := by decide +kernel
theorem dX8_pull_47 : decode cX8_pull 47 = .ok (.ireturn, 1) := by decide +kernel
theorem dX8_pin_0 : decode cX8_pin 0 = .ok (.iload_n 1, 1) := by decide +kernel
theorem dX8_pin_1 : decode cX8_pin 1 = .ok (.invokestatic 103, 3) := by decide +kernel
theorem dX8_pin_4 : decode cX8_pin 4 = .ok (.ifCond .ne 5, 3) := by decide +kernel
theorem dX8_pin_7 : decode cX8_pin 7 = .ok (.iconst (-1), 1) := by decide +kernel
theorem dX8_pin_8 : decode cX8_pin 8 = .ok (.ireturn, 1) := by decide +kernel
theorem dX8_pin_9 : decode cX8_pin 9 = .ok (.aload_n 0, 1) := by decide +kernel
theorem dX8_pin_10 : decode cX8_pin 10 = .ok (.getfield 10, 3) := by decide +kernel
theorem dX8_pin_13 : decode cX8_pin 13 = .ok (.getfield 44, 3) := by decide +kernel
theorem dX8_pin_16 : decode cX8_pin 16 = .ok (.iload_n 1, 1) := by decide +kernel
theorem dX8_pin_17 : decode cX8_pin 17 = .ok (.invokevirtual 107, 3) := by decide +kernel
theorem dX8_pin_20 : decode cX8_pin 20 = .ok (.iload_n 2, 1) := by decide +kernel
theorem dX8_pin_21 : decode cX8_pin 21 = .ok (.if_icmp .ne 6, 3) := by decide +kernel
theorem dX8_pin_24 : decode cX8_pin 24 = .ok (.bipush (-5), 2) := by decide +kernel
theorem dX8_pin_26 : decode cX8_pin 26 = .ok (.ireturn, 1) := by decide +kernel
theorem dX8_pin_27 : decode cX8_pin 27 = .ok (.aload_n 0, 1) := by decide +kernel
theorem dX8_pin_28 : decode cX8_pin 28 = .ok (.getfield 25, 3) := by decide +kernel
theorem dX8_pin_31 : decode cX8_pin 31 = .ok (.aload_n 0, 1) := by decide +kernel
theorem dX8_pin_32 : decode cX8_pin 32 = .ok (.getfield 10, 3) := by decide +kernel
theorem dX8_pin_35 : decode cX8_pin 35 = .ok (.invokevirtual 54, 3) := by decide +kernel
theorem dX8_pin_38 : decode cX8_pin 38 = .ok (.aload_n 0, 1) := by decide +kernel
theorem dX8_pin_39 : decode cX8_pin 39 = .ok (.getfield 10, 3) := by decide +kernel
theorem dX8_pin_42 : decode cX8_pin 42 = .ok (.getfield 44, 3) := by decide +kernel
theorem dX8_pin_45 : decode cX8_pin 45 = .ok (.dup, 1) := by decide +kernel
theorem dX8_pin_46 : decode cX8_pin 46 = .ok (.getfield 110, 3) := by decide +kernel
theorem dX8_pin_49 : decode cX8_pin 49 = .ok (.iconst 1, 1) := by decide +kernel
theorem dX8_pin_50 : decode cX8_pin 50 = .ok (.iload_n 1, 1) := by decide +kernel
theorem dX8_pin_51 : decode cX8_pin 51 = .ok (.ishl, 1) := by decide +kernel
theorem dX8_pin_52 : decode cX8_pin 52 = .ok (.ixor, 1) := by decide +kernel
theorem dX8_pin_53 : decode cX8_pin 53 = .ok (.putfield 110, 3) := by decide +kernel
theorem dX8_pin_56 : decode cX8_pin 56 = .ok (.aload_n 0, 1) := by decide +kernel
theorem dX8_pin_57 : decode cX8_pin 57 = .ok (.getfield 10, 3) := by decide +kernel
theorem dX8_pin_60 : decode cX8_pin 60 = .ok (.getfield 44, 3) := by decide +kernel
theorem dX8_pin_63 : decode cX8_pin 63 = .ok (.getfield 110, 3) := by decide +kernel
theorem dX8_pin_66 : decode cX8_pin 66 = .ok (.invokestatic 113, 3) := by decide +kernel
theorem dX8_pin_69 : decode cX8_pin 69 = .ok (.ireturn, 1) := by decide +kernel
theorem dX8_wipe_0 : decode cX8_wipe 0 = .ok (.iload_n 1, 1) := by decide +kernel
theorem dX8_wipe_1 : decode cX8_wipe 1 = .ok (.invokestatic 103, 3) := by decide +kernel
theorem dX8_wipe_4 : decode cX8_wipe 4 = .ok (.ifCond .ne 5, 3) := by decide +kernel
theorem dX8_wipe_7 : decode cX8_wipe 7 = .ok (.iconst (-1), 1) := by decide +kernel
theorem dX8_wipe_8 : decode cX8_wipe 8 = .ok (.ireturn, 1) := by decide +kernel
theorem dX8_wipe_9 : decode cX8_wipe 9 = .ok (.aload_n 0, 1) := by decide +kernel
theorem dX8_wipe_10 : decode cX8_wipe 10 = .ok (.getfield 10, 3) := by decide +kernel
theorem dX8_wipe_13 : decode cX8_wipe 13 = .ok (.getfield 44, 3) := by decide +kernel
theorem dX8_wipe_16 : decode cX8_wipe 16 = .ok (.iload_n 1, 1) := by decide +kernel
theorem dX8_wipe_17 : decode cX8_wipe 17 = .ok (.invokevirtual 107, 3) := by decide +kernel
theorem dX8_wipe_20 : decode cX8_wipe 20 = .ok (.ifCond .ne 17, 3) := by decide +kernel
theorem dX8_wipe_23 : decode cX8_wipe 23 = .ok (.aload_n 0, 1) := by decide +kernel
theorem dX8_wipe_24 : decode cX8_wipe 24 = .ok (.getfield 10, 3) := by decide +kernel
theorem dX8_wipe_27 : decode cX8_wipe 27 = .ok (.getfield 44, 3) := by decide +kernel
theorem dX8_wipe_30 : decode cX8_wipe 30 = .ok (.iload_n 1, 1) := by decide +kernel
theorem dX8_wipe_31 : decode cX8_wipe 31 = .ok (.invokevirtual 118, 3) := by decide +kernel
theorem dX8_wipe_34 : decode cX8_wipe 34 = .ok (.ifCond .ne 6, 3) := by decide +kernel
theorem dX8_wipe_37 : decode cX8_wipe 37 = .ok (.bipush (-4), 2) := by decide +kernel
theorem dX8_wipe_39 : decode cX8_wipe 39 = .ok (.ireturn, 1) := by decide +kernel
theorem dX8_wipe_40 : decode cX8_wipe 40 = .ok (.aload_n 0, 1) := by decide +kernel
theorem dX8_wipe_41 : decode cX8_wipe 41 = .ok (.getfield 10, 3) := by decide +kernel
theorem dX8_wipe_44 : decode cX8_wipe 44 = .ok (.getfield 44, 3) := by decide +kernel
theorem dX8_wipe_47 : decode cX8_wipe 47 = .ok (.getfield 121, 3) := by decide +kernel
theorem dX8_wipe_50 : decode cX8_wipe 50 = .ok (.iload_n 1, 1) := by decide +kernel
theorem dX8_wipe_51 : decode cX8_wipe 51 = .ok (.invokevirtual 82, 3) := by decide +kernel
theorem dX8_wipe_54 : decode cX8_wipe 54 = .ok (.istore_n 2, 1) := by decide +kernel
theorem dX8_wipe_55 : decode cX8_wipe 55 = .ok (.iload_n 2, 1) := by decide +kernel
theorem dX8_wipe_56 : decode cX8_wipe 56 = .ok (.ifCond .ne 6, 3) := by decide +kernel
theorem dX8_wipe_59 : decode cX8_wipe 59 = .ok (.bipush (-5), 2) := by decide +kernel
theorem dX8_wipe_61 : decode cX8_wipe 61 = .ok (.ireturn, 1) := by decide +kernel
theorem dX8_wipe_62 : decode cX8_wipe 62 = .ok (.aload_n 0, 1) := by decide +kernel
theorem dX8_wipe_63 : decode cX8_wipe 63 = .ok (.getfield 25, 3) := by decide +kernel
theorem dX8_wipe_66 : decode cX8_wipe 66 = .ok (.aload_n 0, 1) := by decide +kernel
theorem dX8_wipe_67 : decode cX8_wipe 67 = .ok (.getfield 10, 3) := by decide +kernel
theorem dX8_wipe_70 : decode cX8_wipe 70 = .ok (.invokevirtual 54, 3) := by decide +kernel
theorem dX8_wipe_73 : decode cX8_wipe 73 = .ok (.aload_n 0, 1) := by decide +kernel
theorem dX8_wipe_74 : decode cX8_wipe 74 = .ok (.getfield 10, 3) := by decide +kernel
theorem dX8_wipe_77 : decode cX8_wipe 77 = .ok (.getfield 44, 3) := by decide +kernel
theorem dX8_wipe_80 : decode cX8_wipe 80 = .ok (.iload_n 1, 1) := by decide +kernel
theorem dX8_wipe_81 : decode cX8_wipe 81 = .ok (.invokevirtual 124, 3) := by decide +kernel
theorem dX8_wipe_84 : decode cX8_wipe 84 = .ok (.iload_n 2, 1) := by decide +kernel
theorem dX8_wipe_85 : decode cX8_wipe 85 = .ok (.invokestatic 113, 3) := by decide +kernel
theorem dX8_wipe_88 : decode cX8_wipe 88 = .ok (.ireturn, 1) := by decide +kernel
theorem dX8_photo_0 : decode cX8_photo 0 = .ok (.iload_n 1, 1) := by decide +kernel
theorem dX8_photo_1 : decode cX8_photo 1 = .ok (.invokestatic 103, 3) := by decide +kernel
theorem dX8_photo_4 : decode cX8_photo 4 = .ok (.ifCond .ne 5, 3) := by decide +kernel
theorem dX8_photo_7 : decode cX8_photo 7 = .ok (.iconst (-1), 1) := by decide +kernel
theorem dX8_photo_8 : decode cX8_photo 8 = .ok (.ireturn, 1) := by decide +kernel
theorem dX8_photo_9 : decode cX8_photo 9 = .ok (.aload_n 0, 1) := by decide +kernel
theorem dX8_photo_10 : decode cX8_photo 10 = .ok (.getfield 10, 3) := by decide +kernel
theorem dX8_photo_13 : decode cX8_photo 13 = .ok (.getfield 44, 3) := by decide +kernel
theorem dX8_photo_16 : decode cX8_photo 16 = .ok (.getfield 121, 3) := by decide +kernel
theorem dX8_photo_19 : decode cX8_photo 19 = .ok (.iload_n 1, 1) := by decide +kernel
theorem dX8_photo_20 : decode cX8_photo 20 = .ok (.invokevirtual 82, 3) := by decide +kernel
theorem dX8_photo_23 : decode cX8_photo 23 = .ok (.istore_n 2, 1) := by decide +kernel
theorem dX8_photo_24 : decode cX8_photo 24 = .ok (.aload_n 0, 1) := by decide +kernel
theorem dX8_photo_25 : decode cX8_photo 25 = .ok (.getfield 10, 3) := by decide +kernel
theorem dX8_photo_28 : decode cX8_photo 28 = .ok (.getfield 44, 3) := by decide +kernel
theorem dX8_photo_31 : decode cX8_photo 31 = .ok (.iload_n 1, 1) := by decide +kernel
theorem dX8_photo_32 : decode cX8_photo 32 = .ok (.invokevirtual 118, 3) := by decide +kernel
theorem dX8_photo_35 : decode cX8_photo 35 = .ok (.ifCond .eq 7, 3) := by decide +kernel
theorem dX8_photo_38 : decode cX8_photo 38 = .ok (.iload_n 2, 1) := by decide +kernel
theorem dX8_photo_39 : decode cX8_photo 39 = .ok (.ifCond .ne 6, 3) := by decide +kernel
theorem dX8_photo_42 : decode cX8_photo 42 = .ok (.bipush (-4), 2) := by decide +kernel
theorem dX8_photo_44 : decode cX8_photo 44 = .ok (.ireturn, 1) := by decide +kernel
theorem dX8_photo_45 : decode cX8_photo 45 = .ok (.aload_n 0, 1) := by decide +kernel
theorem dX8_photo_46 : decode cX8_photo 46 = .ok (.getfield 10, 3) := by decide +kernel
theorem dX8_photo_49 : decode cX8_photo 49 = .ok (.getfield 127, 3) := by decide +kernel
theorem dX8_photo_52 : decode cX8_photo 52 = .ok (.getfield 131, 3) := by decide +kernel
theorem dX8_photo_55 : decode cX8_photo 55 = .ok (.bipush 40, 2) := by decide +kernel
theorem dX8_photo_57 : decode cX8_photo 57 = .ok (.if_icmp .lt 6, 3) := by decide +kernel
theorem dX8_photo_60 : decode cX8_photo 60 = .ok (.bipush (-3), 2) := by decide +kernel
theorem dX8_photo_62 : decode cX8_photo 62 = .ok (.ireturn, 1) := by decide +kernel
theorem dX8_photo_63 : decode cX8_photo 63 = .ok (.aload_n 0, 1) := by decide +kernel
theorem dX8_photo_64 : decode cX8_photo 64 = .ok (.getfield 25, 3) := by decide +kernel
theorem dX8_photo_67 : decode cX8_photo 67 = .ok (.aload_n 0, 1) := by decide +kernel
theorem dX8_photo_68 : decode cX8_photo 68 = .ok (.getfield 10, 3) := by decide +kernel
theorem dX8_photo_71 : decode cX8_photo 71 = .ok (.invokevirtual 54, 3) := by decide +kernel
theorem dX8_photo_74 : decode cX8_photo 74 = .ok (.iload_n 2, 1) := by decide +kernel
theorem dX8_photo_75 : decode cX8_photo 75 = .ok (.aload_n 0, 1) := by decide +kernel
theorem dX8_photo_76 : decode cX8_photo 76 = .ok (.getfield 10, 3) := by decide +kernel
theorem dX8_photo_79 : decode cX8_photo 79 = .ok (.getfield 127, 3) := by decide +kernel
theorem dX8_photo_82 : decode cX8_photo 82 = .ok (.getfield 136, 3) := by decide +kernel
theorem dX8_photo_85 : decode cX8_photo 85 = .ok (.iconst (-1), 1) := by decide +kernel
theorem dX8_photo_86 : decode cX8_photo 86 = .ok (.ixor, 1) := by decide +kernel
theorem dX8_photo_87 : decode cX8_photo 87 = .ok (.iand, 1) := by decide +kernel
theorem dX8_photo_88 : decode cX8_photo 88 = .ok (.istore_n 3, 1) := by decide +kernel
theorem dX8_photo_89 : decode cX8_photo 89 = .ok (.aload_n 0, 1) := by decide +kernel
theorem dX8_photo_90 : decode cX8_photo 90 = .ok (.getfield 10, 3) := by decide +kernel
theorem dX8_photo_93 : decode cX8_photo 93 = .ok (.getfield 127, 3) := by decide +kernel
theorem dX8_photo_96 : decode cX8_photo 96 = .ok (.iload_n 1, 1) := by decide +kernel
theorem dX8_photo_97 : decode cX8_photo 97 = .ok (.iload_n 2, 1) := by decide +kernel
theorem dX8_photo_98 : decode cX8_photo 98 = .ok (.invokevirtual 139, 3) := by decide +kernel
theorem dX8_photo_101 : decode cX8_photo 101 = .ok (.iload_n 3, 1) := by decide +kernel
theorem dX8_photo_102 : decode cX8_photo 102 = .ok (.invokestatic 113, 3) := by decide +kernel
theorem dX8_photo_105 : decode cX8_photo 105 = .ok (.ireturn, 1) := by decide +kernel
theorem dX8_ask_0 : decode cX8_ask 0 = .ok (.aload_n 0, 1) := by decide +kernel
theorem dX8_ask_1 : decode cX8_ask 1 = .ok (.getfield 10, 3) := by decide +kernel
theorem dX8_ask_4 : decode cX8_ask 4 = .ok (.getfield 58, 3) := by decide +kernel
theorem dX8_ask_7 : decode cX8_ask 7 = .ok (.iload_n 1, 1) := by decide +kernel
theorem dX8_ask_8 : decode cX8_ask 8 = .ok (.invokevirtual 142, 3) := by decide +kernel
theorem dX8_ask_11 : decode cX8_ask 11 = .ok (.ifCond .ne 5, 3) := by decide +kernel
theorem dX8_ask_14 : decode cX8_ask 14 = .ok (.iconst (-1), 1) := by decide +kernel
theorem dX8_ask_15 : decode cX8_ask 15 = .ok (.ireturn, 1) := by decide +kernel
theorem dX8_ask_16 : decode cX8_ask 16 = .ok (.iload_n 1, 1) := by decide +kernel
theorem dX8_ask_17 : decode cX8_ask 17 = .ok (.aload_n 0, 1) := by decide +kernel
theorem dX8_ask_18 : decode cX8_ask 18 = .ok (.getfield 10, 3) := by decide +kernel
theorem dX8_ask_21 : decode cX8_ask 21 = .ok (.getfield 58, 3) := by decide +kernel
theorem dX8_ask_24 : decode cX8_ask 24 = .ok (.getfield 145, 3) := by decide +kernel
theorem dX8_ask_27 : decode cX8_ask 27 = .ok (.if_icmp .lt 6, 3) := by decide +kernel
theorem dX8_ask_30 : decode cX8_ask 30 = .ok (.bipush (-4), 2) := by decide +kernel
theorem dX8_ask_32 : decode cX8_ask 32 = .ok (.ireturn, 1) := by decide +kernel
theorem dX8_ask_33 : decode cX8_ask 33 = .ok (.aload_n 0, 1) := by decide +kernel
theorem dX8_ask_34 : decode cX8_ask 34 = .ok (.getfield 25, 3) := by decide +kernel
theorem dX8_ask_37 : decode cX8_ask 37 = .ok (.aload_n 0, 1) := by decide +kernel
theorem dX8_ask_38 : decode cX8_ask 38 = .ok (.getfield 10, 3) := by decide +kernel
theorem dX8_ask_41 : decode cX8_ask 41 = .ok (.invokevirtual 54, 3) := by decide +kernel
theorem dX8_ask_44 : decode cX8_ask 44 = .ok (.aload_n 0, 1) := by decide +kernel
theorem dX8_ask_45 : decode cX8_ask 45 = .ok (.getfield 10, 3) := by decide +kernel
theorem dX8_ask_48 : decode cX8_ask 48 = .ok (.iload_n 1, 1) := by decide +kernel
theorem dX8_ask_49 : decode cX8_ask 49 = .ok (.invokevirtual 148, 3) := by decide +kernel
theorem dX8_ask_52 : decode cX8_ask 52 = .ok (.ireturn, 1) := by decide +kernel
theorem dX8_undo_0 : decode cX8_undo 0 = .ok (.aload_n 0, 1) := by decide +kernel
theorem dX8_undo_1 : decode cX8_undo 1 = .ok (.getfield 25, 3) := by decide +kernel
theorem dX8_undo_4 : decode cX8_undo 4 = .ok (.getfield 158, 3) := by decide +kernel
theorem dX8_undo_7 : decode cX8_undo 7 = .ok (.ifCond .ne 6, 3) := by decide +kernel
theorem dX8_undo_10 : decode cX8_undo 10 = .ok (.bipush (-5), 2) := by decide +kernel
theorem dX8_undo_12 : decode cX8_undo 12 = .ok (.ireturn, 1) := by decide +kernel
theorem dX8_undo_13 : decode cX8_undo 13 = .ok (.aload_n 0, 1) := by decide +kernel
theorem dX8_undo_14 : decode cX8_undo 14 = .ok (.getfield 25, 3) := by decide +kernel
theorem dX8_undo_17 : decode cX8_undo 17 = .ok (.aload_n 0, 1) := by decide +kernel
theorem dX8_undo_18 : decode cX8_undo 18 = .ok (.getfield 10, 3) := by decide +kernel
theorem dX8_undo_21 : decode cX8_undo 21 = .ok (.invokevirtual 161, 3) := by decide +kernel
theorem dX8_undo_24 : decode cX8_undo 24 = .ok (.aload_n 0, 1) := by decide +kernel
theorem dX8_undo_25 : decode cX8_undo 25 = .ok (.getfield 25, 3) := by decide +kernel
theorem dX8_undo_28 : decode cX8_undo 28 = .ok (.getfield 158, 3) := by decide +kernel
theorem dX8_undo_31 : decode cX8_undo 31 = .ok (.ireturn, 1) := by decide +kernel
theorem dX8_panel_0 : decode cX8_panel 0 = .ok (.iload_n 1, 1) := by decide +kernel
theorem dX8_panel_1 : decode cX8_panel 1 = .ok (.invokestatic 103, 3) := by decide +kernel
theorem dX8_panel_4 : decode cX8_panel 4 = .ok (.ifCond .ne 5, 3) := by decide +kernel
theorem dX8_panel_7 : decode cX8_panel 7 = .ok (.iconst (-1), 1) := by decide +kernel
theorem dX8_panel_8 : decode cX8_panel 8 = .ok (.ireturn, 1) := by decide +kernel
theorem dX8_panel_9 : decode cX8_panel 9 = .ok (.aload_n 0, 1) := by decide +kernel
theorem dX8_panel_10 : decode cX8_panel 10 = .ok (.getfield 10, 3) := by decide +kernel
theorem dX8_panel_13 : decode cX8_panel 13 = .ok (.getfield 44, 3) := by decide +kernel
theorem dX8_panel_16 : decode cX8_panel 16 = .ok (.astore_n 3, 1) := by decide +kernel
theorem dX8_panel_17 : decode cX8_panel 17 = .ok (.iload_n 2, 1) := by decide +kernel
theorem dX8_panel_18 : decode cX8_panel 18 = .ok (.tableswitch 115 0 5 #[38, 47, 56, 70, 84, 93], 38) := by decide +kernel
theorem dX8_panel_56 : decode cX8_panel 56 = .ok (.aload_n 3, 1) := by decide +kernel
theorem dX8_panel_57 : decode cX8_panel 57 = .ok (.getfield 121, 3) := by decide +kernel
theorem dX8_panel_60 : decode cX8_panel 60 = .ok (.iload_n 1, 1) := by decide +kernel
theorem dX8_panel_61 : decode cX8_panel 61 = .ok (.invokevirtual 82, 3) := by decide +kernel
theorem dX8_panel_64 : decode cX8_panel 64 = .ok (.ireturn, 1) := by decide +kernel
theorem dX8_panel_65 : decode cX8_panel 65 = .ok (.aload_n 0, 1) := by decide +kernel
theorem dX8_panel_66 : decode cX8_panel 66 = .ok (.getfield 10, 3) := by decide +kernel
theorem dX8_panel_69 : decode cX8_panel 69 = .ok (.iload_n 1, 1) := by decide +kernel
theorem dX8_panel_70 : decode cX8_panel 70 = .ok (.invokevirtual 167, 3) := by decide +kernel
theorem dX8_panel_73 : decode cX8_panel 73 = .ok (.ireturn, 1) := by decide +kernel
theorem dX8_panel_74 : decode cX8_panel 74 = .ok (.aload_n 3, 1) := by decide +kernel
theorem dX8_panel_75 : decode cX8_panel 75 = .ok (.iload_n 1, 1) := by decide +kernel
theorem dX8_panel_76 : decode cX8_panel 76 = .ok (.invokevirtual 118, 3) := by decide +kernel
theorem dX8_panel_79 : decode cX8_panel 79 = .ok (.ifCond .eq 7, 3) := by decide +kernel
theorem dX8_panel_82 : decode cX8_panel 82 = .ok (.iconst 1, 1) := by decide +kernel
theorem dX8_panel_83 : decode cX8_panel 83 = .ok (.goto 4, 3) := by decide +kernel
theorem dX8_panel_86 : decode cX8_panel 86 = .ok (.iconst 0, 1) := by decide +kernel
theorem dX8_panel_87 : decode cX8_panel 87 = .ok (.ireturn, 1) := by decide +kernel
theorem dX8_panel_88 : decode cX8_panel 88 = .ok (.aload_n 3, 1) := by decide +kernel
theorem dX8_panel_89 : decode cX8_panel 89 = .ok (.iload_n 1, 1) := by decide +kernel
theorem dX8_panel_90 : decode cX8_panel 90 = .ok (.invokevirtual 107, 3) := by decide +kernel
theorem dX8_panel_93 : decode cX8_panel 93 = .ok (.ifCond .eq 7, 3) := by decide +kernel
theorem dX8_panel_96 : decode cX8_panel 96 = .ok (.iconst 1, 1) := by decide +kernel
theorem dX8_panel_97 : decode cX8_panel 97 = .ok (.goto 4, 3) := by decide +kernel
theorem dX8_panel_100 : decode cX8_panel 100 = .ok (.iconst 0, 1) := by decide +kernel
theorem dX8_panel_101 : decode cX8_panel 101 = .ok (.ireturn, 1) := by decide +kernel
theorem dX8_panel_102 : decode cX8_panel 102 = .ok (.aload_n 3, 1) := by decide +kernel
theorem dX8_panel_103 : decode cX8_panel 103 = .ok (.getfield 170, 3) := by decide +kernel
theorem dX8_panel_106 : decode cX8_panel 106 = .ok (.iload_n 1, 1) := by decide +kernel
theorem dX8_panel_107 : decode cX8_panel 107 = .ok (.invokevirtual 82, 3) := by decide +kernel
theorem dX8_panel_110 : decode cX8_panel 110 = .ok (.ireturn, 1) := by decide +kernel
theorem dX8_panel_111 : decode cX8_panel 111 = .ok (.aload_n 3, 1) := by decide +kernel
theorem dX8_panel_112 : decode cX8_panel 112 = .ok (.getfield 121, 3) := by decide +kernel
theorem dX8_panel_115 : decode cX8_panel 115 = .ok (.iload_n 1, 1) := by decide +kernel
theorem dX8_panel_116 : decode cX8_panel 116 = .ok (.invokevirtual 82, 3) := by decide +kernel
theorem dX8_panel_119 : decode cX8_panel 119 = .ok (.aload_n 0, 1) := by decide +kernel
theorem dX8_panel_120 : decode cX8_panel 120 = .ok (.getfield 10, 3) := by decide +kernel
theorem dX8_panel_123 : decode cX8_panel 123 = .ok (.getfield 127, 3) := by decide +kernel
theorem dX8_panel_126 : decode cX8_panel 126 = .ok (.getfield 136, 3) := by decide +kernel
theorem dX8_panel_129 : decode cX8_panel 129 = .ok (.iconst (-1), 1) := by decide +kernel
theorem dX8_panel_130 : decode cX8_panel 130 = .ok (.ixor, 1) := by decide +kernel
theorem dX8_panel_131 : decode cX8_panel 131 = .ok (.iand, 1) := by decide +kernel
theorem dX8_panel_132 : decode cX8_panel 132 = .ok (.ireturn, 1) := by decide +kernel
theorem dX8_panel_133 : decode cX8_panel 133 = .ok (.bipush (-2), 2) := by decide +kernel
theorem dX8_panel_135 : decode cX8_panel 135 = .ok (.ireturn, 1) := by decide +kernel
theorem dX8_step_0 : decode cX8_step 0 = .ok (.aload_n 0, 1) := by decide +kernel
theorem dX8_step_1 : decode cX8_step 1 = .ok (.getfield 10, 3) := by decide +kernel
theorem dX8_step_4 : decode cX8_step 4 = .ok (.getfield 58, 3) := by decide +kernel
theorem dX8_step_7 : decode cX8_step 7 = .ok (.iload_n 1, 1) := by decide +kernel
theorem dX8_step_8 : decode cX8_step 8 = .ok (.invokevirtual 142, 3) := by decide +kernel
theorem dX8_step_11 : decode cX8_step 11 = .ok (.ifCond .ne 5, 3) := by decide +kernel
theorem dX8_step_14 : decode cX8_step 14 = .ok (.iconst (-1), 1) := by decide +kernel
theorem dX8_step_15 : decode cX8_step 15 = .ok (.ireturn, 1) := by decide +kernel
theorem dX8_step_16 : decode cX8_step 16 = .ok (.iload_n 2, 1) := by decide +kernel
theorem dX8_step_17 : decode cX8_step 17 = .ok (.tableswitch 146 0 6 #[43, 58, 73, 93, 99, 119, 134], 43) := by decide +kernel
theorem dX8_step_60 : decode cX8_step 60 = .ok (.aload_n 0, 1) := by decide +kernel
theorem dX8_step_61 : decode cX8_step 61 = .ok (.getfield 10, 3) := by decide +kernel
theorem dX8_step_64 : decode cX8_step 64 = .ok (.getfield 58, 3) := by decide +kernel
theorem dX8_step_67 : decode cX8_step 67 = .ok (.getfield 173, 3) := by decide +kernel
theorem dX8_step_70 : decode cX8_step 70 = .ok (.iload_n 1, 1) := by decide +kernel
theorem dX8_step_71 : decode cX8_step 71 = .ok (.invokevirtual 82, 3) := by decide +kernel
theorem dX8_step_74 : decode cX8_step 74 = .ok (.ireturn, 1) := by decide +kernel
theorem dX8_step_75 : decode cX8_step 75 = .ok (.aload_n 0, 1) := by decide +kernel
theorem dX8_step_76 : decode cX8_step 76 = .ok (.getfield 10, 3) := by decide +kernel
theorem dX8_step_79 : decode cX8_step 79 = .ok (.getfield 58, 3) := by decide +kernel
theorem dX8_step_82 : decode cX8_step 82 = .ok (.getfield 176, 3) := by decide +kernel
theorem dX8_step_85 : decode cX8_step 85 = .ok (.iload_n 1, 1) := by decide +kernel
theorem dX8_step_86 : decode cX8_step 86 = .ok (.invokevirtual 82, 3) := by decide +kernel
theorem dX8_step_89 : decode cX8_step 89 = .ok (.ireturn, 1) := by decide +kernel
theorem dX8_step_90 : decode cX8_step 90 = .ok (.iload_n 1, 1) := by decide +kernel
theorem dX8_step_91 : decode cX8_step 91 = .ok (.aload_n 0, 1) := by decide +kernel
theorem dX8_step_92 : decode cX8_step 92 = .ok (.getfield 10, 3) := by decide +kernel
theorem dX8_step_95 : decode cX8_step 95 = .ok (.getfield 58, 3) := by decide +kernel
theorem dX8_step_98 : decode cX8_step 98 = .ok (.getfield 145, 3) := by decide +kernel
theorem dX8_step_101 : decode cX8_step 101 = .ok (.if_icmp .ge 7, 3) := by decide +kernel
theorem dX8_step_104 : decode cX8_step 104 = .ok (.iconst 1, 1) := by decide +kernel
theorem dX8_step_105 : decode cX8_step 105 = .ok (.goto 4, 3) := by decide +kernel
theorem dX8_step_108 : decode cX8_step 108 = .ok (.iconst 0, 1) := by decide +kernel
theorem dX8_step_109 : decode cX8_step 109 = .ok (.ireturn, 1) := by decide +kernel
theorem dX8_step_110 : decode cX8_step 110 = .ok (.aload_n 0, 1) := by decide +kernel
theorem dX8_step_111 : decode cX8_step 111 = .ok (.iload_n 1, 1) := by decide +kernel
theorem dX8_step_112 : decode cX8_step 112 = .ok (.invokevirtual 179, 3) := by decide +kernel
theorem dX8_step_115 : decode cX8_step 115 = .ok (.ireturn, 1) := by decide +kernel
theorem dX8_step_116 : decode cX8_step 116 = .ok (.aload_n 0, 1) := by decide +kernel
theorem dX8_step_117 : decode cX8_step 117 = .ok (.getfield 10, 3) := by decide +kernel
theorem dX8_step_120 : decode cX8_step 120 = .ok (.getfield 127, 3) := by decide +kernel
theorem dX8_step_123 : decode cX8_step 123 = .ok (.iload_n 1, 1) := by decide +kernel
theorem dX8_step_124 : decode cX8_step 124 = .ok (.invokevirtual 182, 3) := by decide +kernel
theorem dX8_step_127 : decode cX8_step 127 = .ok (.ifCond .eq 7, 3) := by decide +kernel
theorem dX8_step_130 : decode cX8_step 130 = .ok (.iconst 1, 1) := by decide +kernel
theorem dX8_step_131 : decode cX8_step 131 = .ok (.goto 4, 3) := by decide +kernel
theorem dX8_step_134 : decode cX8_step 134 = .ok (.iconst 0, 1) := by decide +kernel
theorem dX8_step_135 : decode cX8_step 135 = .ok (.ireturn, 1) := by decide +kernel
theorem dX8_step_136 : decode cX8_step 136 = .ok (.aload_n 0, 1) := by decide +kernel
theorem dX8_step_137 : decode cX8_step 137 = .ok (.getfield 10, 3) := by decide +kernel
theorem dX8_step_140 : decode cX8_step 140 = .ok (.getfield 185, 3) := by decide +kernel
theorem dX8_step_143 : decode cX8_step 143 = .ok (.getfield 189, 3) := by decide +kernel
theorem dX8_step_146 : decode cX8_step 146 = .ok (.iload_n 1, 1) := by decide +kernel
theorem dX8_step_147 : decode cX8_step 147 = .ok (.invokevirtual 82, 3) := by decide +kernel
theorem dX8_step_150 : decode cX8_step 150 = .ok (.ireturn, 1) := by decide +kernel
theorem dX8_step_151 : decode cX8_step 151 = .ok (.aload_n 0, 1) := by decide +kernel
theorem dX8_step_152 : decode cX8_step 152 = .ok (.getfield 10, 3) := by decide +kernel
theorem dX8_step_155 : decode cX8_step 155 = .ok (.getfield 58, 3) := by decide +kernel
theorem dX8_step_158 : decode cX8_step 158 = .ok (.iload_n 1, 1) := by decide +kernel
theorem dX8_step_159 : decode cX8_step 159 = .ok (.invokevirtual 194, 3) := by decide +kernel
theorem dX8_step_162 : decode cX8_step 162 = .ok (.ireturn, 1) := by decide +kernel
theorem dX8_step_163 : decode cX8_step 163 = .ok (.bipush (-2), 2) := by decide +kernel
theorem dX8_step_165 : decode cX8_step 165 = .ok (.ireturn, 1) := by decide +kernel
theorem dX8_photoOf_0 : decode cX8_photoOf 0 = .ok (.iload_n 1, 1) := by decide +kernel
theorem dX8_photoOf_1 : decode cX8_photoOf 1 = .ok (.ifCond .lt 12, 3) := by decide +kernel
theorem dX8_photoOf_4 : decode cX8_photoOf 4 = .ok (.iload_n 2, 1) := by decide +kernel
theorem dX8_photoOf_5 : decode cX8_photoOf 5 = .ok (.ifCond .lt 8, 3) := by decide +kernel
theorem dX8_photoOf_8 : decode cX8_photoOf 8 = .ok (.iload_n 2, 1) := by decide +kernel
theorem dX8_photoOf_9 : decode cX8_photoOf 9 = .ok (.iconst 1, 1) := by decide +kernel
theorem dX8_photoOf_10 : decode cX8_photoOf 10 = .ok (.if_icmp .le 6, 3) := by decide +kernel
theorem dX8_photoOf_13 : decode cX8_photoOf 13 = .ok (.bipush (-2), 2) := by decide +kernel
theorem dX8_photoOf_15 : decode cX8_photoOf 15 = .ok (.ireturn, 1) := by decide +kernel
theorem dX8_photoOf_16 : decode cX8_photoOf 16 = .ok (.iload_n 1, 1) := by decide +kernel
theorem dX8_photoOf_17 : decode cX8_photoOf 17 = .ok (.aload_n 0, 1) := by decide +kernel
theorem dX8_photoOf_18 : decode cX8_photoOf 18 = .ok (.getfield 10, 3) := by decide +kernel
theorem dX8_photoOf_21 : decode cX8_photoOf 21 = .ok (.getfield 127, 3) := by decide +kernel
theorem dX8_photoOf_24 : decode cX8_photoOf 24 = .ok (.getfield 131, 3) := by decide +kernel
theorem dX8_photoOf_27 : decode cX8_photoOf 27 = .ok (.if_icmp .lt 6, 3) := by decide +kernel
theorem dX8_photoOf_30 : decode cX8_photoOf 30 = .ok (.bipush (-5), 2) := by decide +kernel
theorem dX8_photoOf_32 : decode cX8_photoOf 32 = .ok (.ireturn, 1) := by decide +kernel
theorem dX8_photoOf_33 : decode cX8_photoOf 33 = .ok (.iload_n 2, 1) := by decide +kernel
theorem dX8_photoOf_34 : decode cX8_photoOf 34 = .ok (.ifCond .ne 20, 3) := by decide +kernel
theorem dX8_photoOf_37 : decode cX8_photoOf 37 = .ok (.aload_n 0, 1) := by decide +kernel
theorem dX8_photoOf_38 : decode cX8_photoOf 38 = .ok (.getfield 10, 3) := by decide +kernel
theorem dX8_photoOf_41 : decode cX8_photoOf 41 = .ok (.getfield 127, 3) := by decide +kernel
theorem dX8_photoOf_44 : decode cX8_photoOf 44 = .ok (.getfield 197, 3) := by decide +kernel
theorem dX8_photoOf_47 : decode cX8_photoOf 47 = .ok (.iload_n 1, 1) := by decide +kernel
theorem dX8_photoOf_48 : decode cX8_photoOf 48 = .ok (.invokevirtual 82, 3) := by decide +kernel
theorem dX8_photoOf_51 : decode cX8_photoOf 51 = .ok (.goto 17, 3) := by decide +kernel
theorem dX8_photoOf_54 : decode cX8_photoOf 54 = .ok (.aload_n 0, 1) := by decide +kernel
theorem dX8_photoOf_55 : decode cX8_photoOf 55 = .ok (.getfield 10, 3) := by decide +kernel
theorem dX8_photoOf_58 : decode cX8_photoOf 58 = .ok (.getfield 127, 3) := by decide +kernel
theorem dX8_photoOf_61 : decode cX8_photoOf 61 = .ok (.getfield 200, 3) := by decide +kernel
theorem dX8_photoOf_64 : decode cX8_photoOf 64 = .ok (.iload_n 1, 1) := by decide +kernel
theorem dX8_photoOf_65 : decode cX8_photoOf 65 = .ok (.invokevirtual 82, 3) := by decide +kernel
theorem dX8_photoOf_68 : decode cX8_photoOf 68 = .ok (.ireturn, 1) := by decide +kernel
theorem dX8_wouldBe_0 : decode cX8_wouldBe 0 = .ok (.iload_n 1, 1) := by decide +kernel
theorem dX8_wouldBe_1 : decode cX8_wouldBe 1 = .ok (.ifCond .lt 8, 3) := by decide +kernel
theorem dX8_wouldBe_4 : decode cX8_wouldBe 4 = .ok (.iload_n 1, 1) := by decide +kernel
theorem dX8_wouldBe_5 : decode cX8_wouldBe 5 = .ok (.iconst 5, 1) := by decide +kernel
theorem dX8_wouldBe_6 : decode cX8_wouldBe 6 = .ok (.if_icmp .le 6, 3) := by decide +kernel
theorem dX8_wouldBe_9 : decode cX8_wouldBe 9 = .ok (.bipush (-2), 2) := by decide +kernel
theorem dX8_wouldBe_11 : decode cX8_wouldBe 11 = .ok (.ireturn, 1) := by decide +kernel
theorem dX8_wouldBe_12 : decode cX8_wouldBe 12 = .ok (.aload_n 0, 1) := by decide +kernel
theorem dX8_wouldBe_13 : decode cX8_wouldBe 13 = .ok (.getfield 16, 3) := by decide +kernel
theorem dX8_wouldBe_16 : decode cX8_wouldBe 16 = .ok (.aload_n 0, 1) := by decide +kernel
theorem dX8_wouldBe_17 : decode cX8_wouldBe 17 = .ok (.getfield 10, 3) := by decide +kernel
theorem dX8_wouldBe_20 : decode cX8_wouldBe 20 = .ok (.invokevirtual 164, 3) := by decide +kernel
theorem dX8_wouldBe_23 : decode cX8_wouldBe 23 = .ok (.aload_n 0, 1) := by decide +kernel
theorem dX8_wouldBe_24 : decode cX8_wouldBe 24 = .ok (.getfield 16, 3) := by decide +kernel
theorem dX8_wouldBe_27 : decode cX8_wouldBe 27 = .ok (.invokevirtual 203, 3) := by decide +kernel
theorem dX8_wouldBe_30 : decode cX8_wouldBe 30 = .ok (.pop, 1) := by decide +kernel
theorem dX8_wouldBe_31 : decode cX8_wouldBe 31 = .ok (.iload_n 1, 1) := by decide +kernel
theorem dX8_wouldBe_32 : decode cX8_wouldBe 32 = .ok (.tableswitch 146 0 4 #[36, 58, 80, 102, 124], 36) := by decide +kernel
theorem dX8_wouldBe_68 : decode cX8_wouldBe 68 = .ok (.aload_n 0, 1) := by decide +kernel
theorem dX8_wouldBe_69 : decode cX8_wouldBe 69 = .ok (.getfield 16, 3) := by decide +kernel
theorem dX8_wouldBe_72 : decode cX8_wouldBe 72 = .ok (.getfield 44, 3) := by decide +kernel
theorem dX8_wouldBe_75 : decode cX8_wouldBe 75 = .ok (.getfield 206, 3) := by decide +kernel
theorem dX8_wouldBe_78 : decode cX8_wouldBe 78 = .ok (.aload_n 0, 1) := by decide +kernel
theorem dX8_wouldBe_79 : decode cX8_wouldBe 79 = .ok (.getfield 10, 3) := by decide +kernel
theorem dX8_wouldBe_82 : decode cX8_wouldBe 82 = .ok (.getfield 44, 3) := by decide +kernel
theorem dX8_wouldBe_85 : decode cX8_wouldBe 85 = .ok (.getfield 206, 3) := by decide +kernel
theorem dX8_wouldBe_88 : decode cX8_wouldBe 88 = .ok (.isub, 1) := by decide +kernel
theorem dX8_wouldBe_89 : decode cX8_wouldBe 89 = .ok (.ireturn, 1) := by decide +kernel
theorem dX8_wouldBe_90 : decode cX8_wouldBe 90 = .ok (.aload_n 0, 1) := by decide +kernel
theorem dX8_wouldBe_91 : decode cX8_wouldBe 91 = .ok (.getfield 16, 3) := by decide +kernel
theorem dX8_wouldBe_94 : decode cX8_wouldBe 94 = .ok (.getfield 44, 3) := by decide +kernel
theorem dX8_wouldBe_97 : decode cX8_wouldBe 97 = .ok (.invokevirtual 209, 3) := by decide +kernel
theorem dX8_wouldBe_100 : decode cX8_wouldBe 100 = .ok (.aload_n 0, 1) := by decide +kernel
theorem dX8_wouldBe_101 : decode cX8_wouldBe 101 = .ok (.getfield 10, 3) := by decide +kernel
theorem dX8_wouldBe_104 : decode cX8_wouldBe 104 = .ok (.getfield 44, 3) := by decide +kernel
theorem dX8_wouldBe_107 : decode cX8_wouldBe 107 = .ok (.invokevirtual 209, 3) := by decide +kernel
theorem dX8_wouldBe_110 : decode cX8_wouldBe 110 = .ok (.isub, 1) := by decide +kernel
theorem dX8_wouldBe_111 : decode cX8_wouldBe 111 = .ok (.ireturn, 1) := by decide +kernel
theorem dX8_wouldBe_112 : decode cX8_wouldBe 112 = .ok (.aload_n 0, 1) := by decide +kernel
theorem dX8_wouldBe_113 : decode cX8_wouldBe 113 = .ok (.getfield 16, 3) := by decide +kernel
theorem dX8_wouldBe_116 : decode cX8_wouldBe 116 = .ok (.getfield 185, 3) := by decide +kernel
theorem dX8_wouldBe_119 : decode cX8_wouldBe 119 = .ok (.getfield 212, 3) := by decide +kernel
theorem dX8_wouldBe_122 : decode cX8_wouldBe 122 = .ok (.aload_n 0, 1) := by decide +kernel
theorem dX8_wouldBe_123 : decode cX8_wouldBe 123 = .ok (.getfield 10, 3) := by decide +kernel
theorem dX8_wouldBe_126 : decode cX8_wouldBe 126 = .ok (.getfield 185, 3) := by decide +kernel
theorem dX8_wouldBe_129 : decode cX8_wouldBe 129 = .ok (.getfield 212, 3) := by decide +kernel
theorem dX8_wouldBe_132 : decode cX8_wouldBe 132 = .ok (.isub, 1) := by decide +kernel
theorem dX8_wouldBe_133 : decode cX8_wouldBe 133 = .ok (.ireturn, 1) := by decide +kernel
theorem dX8_wouldBe_134 : decode cX8_wouldBe 134 = .ok (.aload_n 0, 1) := by decide +kernel
theorem dX8_wouldBe_135 : decode cX8_wouldBe 135 = .ok (.getfield 16, 3) := by decide +kernel
theorem dX8_wouldBe_138 : decode cX8_wouldBe 138 = .ok (.getfield 185, 3) := by decide +kernel
theorem dX8_wouldBe_141 : decode cX8_wouldBe 141 = .ok (.getfield 215, 3) := by decide +kernel
theorem dX8_wouldBe_144 : decode cX8_wouldBe 144 = .ok (.aload_n 0, 1) := by decide +kernel
theorem dX8_wouldBe_145 : decode cX8_wouldBe 145 = .ok (.getfield 10, 3) := by decide +kernel
theorem dX8_wouldBe_148 : decode cX8_wouldBe 148 = .ok (.getfield 185, 3) := by decide +kernel
theorem dX8_wouldBe_151 : decode cX8_wouldBe 151 = .ok (.getfield 215, 3) := by decide +kernel
theorem dX8_wouldBe_154 : decode cX8_wouldBe 154 = .ok (.isub, 1) := by decide +kernel
theorem dX8_wouldBe_155 : decode cX8_wouldBe 155 = .ok (.ireturn, 1) := by decide +kernel
theorem dX8_wouldBe_156 : decode cX8_wouldBe 156 = .ok (.aload_n 0, 1) := by decide +kernel
theorem dX8_wouldBe_157 : decode cX8_wouldBe 157 = .ok (.getfield 16, 3) := by decide +kernel
theorem dX8_wouldBe_160 : decode cX8_wouldBe 160 = .ok (.getfield 185, 3) := by decide +kernel
theorem dX8_wouldBe_163 : decode cX8_wouldBe 163 = .ok (.getfield 218, 3) := by decide +kernel
theorem dX8_wouldBe_166 : decode cX8_wouldBe 166 = .ok (.aload_n 0, 1) := by decide +kernel
theorem dX8_wouldBe_167 : decode cX8_wouldBe 167 = .ok (.getfield 10, 3) := by decide +kernel
theorem dX8_wouldBe_170 : decode cX8_wouldBe 170 = .ok (.getfield 185, 3) := by decide +kernel
theorem dX8_wouldBe_173 : decode cX8_wouldBe 173 = .ok (.getfield 218, 3) := by decide +kernel
theorem dX8_wouldBe_176 : decode cX8_wouldBe 176 = .ok (.isub, 1) := by decide +kernel
theorem dX8_wouldBe_177 : decode cX8_wouldBe 177 = .ok (.ireturn, 1) := by decide +kernel
theorem dX8_wouldBe_178 : decode cX8_wouldBe 178 = .ok (.aload_n 0, 1) := by decide +kernel
theorem dX8_wouldBe_179 : decode cX8_wouldBe 179 = .ok (.getfield 16, 3) := by decide +kernel
theorem dX8_wouldBe_182 : decode cX8_wouldBe 182 = .ok (.getfield 58, 3) := by decide +kernel
theorem dX8_wouldBe_185 : decode cX8_wouldBe 185 = .ok (.getfield 145, 3) := by decide +kernel
theorem dX8_wouldBe_188 : decode cX8_wouldBe 188 = .ok (.aload_n 0, 1) := by decide +kernel
theorem dX8_wouldBe_189 : decode cX8_wouldBe 189 = .ok (.getfield 10, 3) := by decide +kernel
theorem dX8_wouldBe_192 : decode cX8_wouldBe 192 = .ok (.getfield 58, 3) := by decide +kernel
theorem dX8_wouldBe_195 : decode cX8_wouldBe 195 = .ok (.getfield 145, 3) := by decide +kernel
theorem dX8_wouldBe_198 : decode cX8_wouldBe 198 = .ok (.isub, 1) := by decide +kernel
theorem dX8_wouldBe_199 : decode cX8_wouldBe 199 = .ok (.ireturn, 1) := by decide +kernel
theorem dX8_photosNeeded_0 : decode cX8_photosNeeded 0 = .ok (.aload_n 0, 1) := by decide +kernel
theorem dX8_photosNeeded_1 : decode cX8_photosNeeded 1 = .ok (.getfield 16, 3) := by decide +kernel
theorem dX8_photosNeeded_4 : decode cX8_photosNeeded 4 = .ok (.aload_n 0, 1) := by decide +kernel
theorem dX8_photosNeeded_5 : decode cX8_photosNeeded 5 = .ok (.getfield 10, 3) := by decide +kernel
theorem dX8_photosNeeded_8 : decode cX8_photosNeeded 8 = .ok (.invokevirtual 164, 3) := by decide +kernel
theorem dX8_photosNeeded_11 : decode cX8_photosNeeded 11 = .ok (.aload_n 0, 1) := by decide +kernel
theorem dX8_photosNeeded_12 : decode cX8_photosNeeded 12 = .ok (.getfield 16, 3) := by decide +kernel
theorem dX8_photosNeeded_15 : decode cX8_photosNeeded 15 = .ok (.invokevirtual 203, 3) := by decide +kernel
theorem dX8_photosNeeded_18 : decode cX8_photosNeeded 18 = .ok (.ireturn, 1) := by decide +kernel
theorem dX8_count_0 : decode cX8_count 0 = .ok (.iload_n 1, 1) := by decide +kernel
theorem dX8_count_1 : decode cX8_count 1 = .ok (.tableswitch 246 0 15 #[79, 90, 101, 112, 123, 134, 145, 156, 167, 178, 189, 200, 211, 219, 230, 238], 79) := by decide +kernel
theorem dX8_count_80 : decode cX8_count 80 = .ok (.aload_n 0, 1) := by decide +kernel
theorem dX8_count_81 : decode cX8_count 81 = .ok (.getfield 10, 3) := by decide +kernel
theorem dX8_count_84 : decode cX8_count 84 = .ok (.getfield 58, 3) := by decide +kernel
theorem dX8_count_87 : decode cX8_count 87 = .ok (.getfield 62, 3) := by decide +kernel
theorem dX8_count_90 : decode cX8_count 90 = .ok (.ireturn, 1) := by decide +kernel
theorem dX8_count_91 : decode cX8_count 91 = .ok (.aload_n 0, 1) := by decide +kernel
theorem dX8_count_92 : decode cX8_count 92 = .ok (.getfield 10, 3) := by decide +kernel
theorem dX8_count_95 : decode cX8_count 95 = .ok (.getfield 58, 3) := by decide +kernel
theorem dX8_count_98 : decode cX8_count 98 = .ok (.getfield 145, 3) := by decide +kernel
theorem dX8_count_101 : decode cX8_count 101 = .ok (.ireturn, 1) := by decide +kernel
theorem dX8_count_102 : decode cX8_count 102 = .ok (.aload_n 0, 1) := by decide +kernel
theorem dX8_count_103 : decode cX8_count 103 = .ok (.getfield 10, 3) := by decide +kernel
theorem dX8_count_106 : decode cX8_count 106 = .ok (.getfield 44, 3) := by decide +kernel
theorem dX8_count_109 : decode cX8_count 109 = .ok (.getfield 221, 3) := by decide +kernel
theorem dX8_count_112 : decode cX8_count 112 = .ok (.ireturn, 1) := by decide +kernel
theorem dX8_count_113 : decode cX8_count 113 = .ok (.aload_n 0, 1) := by decide +kernel
theorem dX8_count_114 : decode cX8_count 114 = .ok (.getfield 10, 3) := by decide +kernel
theorem dX8_count_117 : decode cX8_count 117 = .ok (.getfield 44, 3) := by decide +kernel
theorem dX8_count_120 : decode cX8_count 120 = .ok (.getfield 206, 3) := by decide +kernel
theorem dX8_count_123 : decode cX8_count 123 = .ok (.ireturn, 1) := by decide +kernel
theorem dX8_count_124 : decode cX8_count 124 = .ok (.aload_n 0, 1) := by decide +kernel
theorem dX8_count_125 : decode cX8_count 125 = .ok (.getfield 10, 3) := by decide +kernel
theorem dX8_count_128 : decode cX8_count 128 = .ok (.getfield 44, 3) := by decide +kernel
theorem dX8_count_131 : decode cX8_count 131 = .ok (.invokevirtual 209, 3) := by decide +kernel
theorem dX8_count_134 : decode cX8_count 134 = .ok (.ireturn, 1) := by decide +kernel
theorem dX8_count_135 : decode cX8_count 135 = .ok (.aload_n 0, 1) := by decide +kernel
theorem dX8_count_136 : decode cX8_count 136 = .ok (.getfield 10, 3) := by decide +kernel
theorem dX8_count_139 : decode cX8_count 139 = .ok (.getfield 127, 3) := by decide +kernel
theorem dX8_count_142 : decode cX8_count 142 = .ok (.getfield 131, 3) := by decide +kernel
theorem dX8_count_145 : decode cX8_count 145 = .ok (.ireturn, 1) := by decide +kernel
theorem dX8_count_146 : decode cX8_count 146 = .ok (.aload_n 0, 1) := by decide +kernel
theorem dX8_count_147 : decode cX8_count 147 = .ok (.getfield 10, 3) := by decide +kernel
theorem dX8_count_150 : decode cX8_count 150 = .ok (.getfield 185, 3) := by decide +kernel
theorem dX8_count_153 : decode cX8_count 153 = .ok (.getfield 212, 3) := by decide +kernel
theorem dX8_count_156 : decode cX8_count 156 = .ok (.ireturn, 1) := by decide +kernel
theorem dX8_count_157 : decode cX8_count 157 = .ok (.aload_n 0, 1) := by decide +kernel
theorem dX8_count_158 : decode cX8_count 158 = .ok (.getfield 10, 3) := by decide +kernel
theorem dX8_count_161 : decode cX8_count 161 = .ok (.getfield 185, 3) := by decide +kernel
theorem dX8_count_164 : decode cX8_count 164 = .ok (.getfield 215, 3) := by decide +kernel
theorem dX8_count_167 : decode cX8_count 167 = .ok (.ireturn, 1) := by decide +kernel
theorem dX8_count_168 : decode cX8_count 168 = .ok (.aload_n 0, 1) := by decide +kernel
theorem dX8_count_169 : decode cX8_count 169 = .ok (.getfield 10, 3) := by decide +kernel
theorem dX8_count_172 : decode cX8_count 172 = .ok (.getfield 185, 3) := by decide +kernel
theorem dX8_count_175 : decode cX8_count 175 = .ok (.getfield 218, 3) := by decide +kernel
theorem dX8_count_178 : decode cX8_count 178 = .ok (.ireturn, 1) := by decide +kernel
theorem dX8_count_179 : decode cX8_count 179 = .ok (.aload_n 0, 1) := by decide +kernel
theorem dX8_count_180 : decode cX8_count 180 = .ok (.getfield 10, 3) := by decide +kernel
theorem dX8_count_183 : decode cX8_count 183 = .ok (.getfield 185, 3) := by decide +kernel
theorem dX8_count_186 : decode cX8_count 186 = .ok (.getfield 224, 3) := by decide +kernel
theorem dX8_count_189 : decode cX8_count 189 = .ok (.ireturn, 1) := by decide +kernel
theorem dX8_count_190 : decode cX8_count 190 = .ok (.aload_n 0, 1) := by decide +kernel
theorem dX8_count_191 : decode cX8_count 191 = .ok (.getfield 10, 3) := by decide +kernel
theorem dX8_count_194 : decode cX8_count 194 = .ok (.getfield 185, 3) := by decide +kernel
theorem dX8_count_197 : decode cX8_count 197 = .ok (.getfield 227, 3) := by decide +kernel
theorem dX8_count_200 : decode cX8_count 200 = .ok (.ireturn, 1) := by decide +kernel
theorem dX8_count_201 : decode cX8_count 201 = .ok (.aload_n 0, 1) := by decide +kernel
theorem dX8_count_202 : decode cX8_count 202 = .ok (.getfield 10, 3) := by decide +kernel
theorem dX8_count_205 : decode cX8_count 205 = .ok (.getfield 185, 3) := by decide +kernel
theorem dX8_count_208 : decode cX8_count 208 = .ok (.getfield 230, 3) := by decide +kernel
theorem dX8_count_211 : decode cX8_count 211 = .ok (.ireturn, 1) := by decide +kernel
theorem dX8_count_212 : decode cX8_count 212 = .ok (.aload_n 0, 1) := by decide +kernel
theorem dX8_count_213 : decode cX8_count 213 = .ok (.getfield 10, 3) := by decide +kernel
theorem dX8_count_216 : decode cX8_count 216 = .ok (.invokevirtual 233, 3) := by decide +kernel
theorem dX8_count_219 : decode cX8_count 219 = .ok (.ireturn, 1) := by decide +kernel
theorem dX8_count_220 : decode cX8_count 220 = .ok (.aload_n 0, 1) := by decide +kernel
theorem dX8_count_221 : decode cX8_count 221 = .ok (.getfield 10, 3) := by decide +kernel
theorem dX8_count_224 : decode cX8_count 224 = .ok (.getfield 44, 3) := by decide +kernel
theorem dX8_count_227 : decode cX8_count 227 = .ok (.getfield 48, 3) := by decide +kernel
theorem dX8_count_230 : decode cX8_count 230 = .ok (.ireturn, 1) := by decide +kernel
theorem dX8_count_231 : decode cX8_count 231 = .ok (.aload_n 0, 1) := by decide +kernel
theorem dX8_count_232 : decode cX8_count 232 = .ok (.getfield 25, 3) := by decide +kernel
theorem dX8_count_235 : decode cX8_count 235 = .ok (.getfield 158, 3) := by decide +kernel
theorem dX8_count_238 : decode cX8_count 238 = .ok (.ireturn, 1) := by decide +kernel
theorem dX8_count_239 : decode cX8_count 239 = .ok (.aload_n 0, 1) := by decide +kernel
theorem dX8_count_240 : decode cX8_count 240 = .ok (.getfield 32, 3) := by decide +kernel
theorem dX8_count_243 : decode cX8_count 243 = .ok (.getfield 151, 3) := by decide +kernel
theorem dX8_count_246 : decode cX8_count 246 = .ok (.ireturn, 1) := by decide +kernel
theorem dX8_count_247 : decode cX8_count 247 = .ok (.bipush (-2), 2) := by decide +kernel
theorem dX8_count_249 : decode cX8_count 249 = .ok (.ireturn, 1) := by decide +kernel
theorem dX8_panelOrNone_0 : decode cX8_panelOrNone 0 = .ok (.aload_n 0, 1) := by decide +kernel
theorem dX8_panelOrNone_1 : decode cX8_panelOrNone 1 = .ok (.getfield 10, 3) := by decide +kernel
theorem dX8_panelOrNone_4 : decode cX8_panelOrNone 4 = .ok (.getfield 44, 3) := by decide +kernel
theorem dX8_panelOrNone_7 : decode cX8_panelOrNone 7 = .ok (.iload_n 1, 1) := by decide +kernel
theorem dX8_panelOrNone_8 : decode cX8_panelOrNone 8 = .ok (.invokevirtual 236, 3) := by decide +kernel
theorem dX8_panelOrNone_11 : decode cX8_panelOrNone 11 = .ok (.istore_n 2, 1) := by decide +kernel
theorem dX8_panelOrNone_12 : decode cX8_panelOrNone 12 = .ok (.iload_n 2, 1) := by decide +kernel
theorem dX8_panelOrNone_13 : decode cX8_panelOrNone 13 = .ok (.iconst (-1), 1) := by decide +kernel
theorem dX8_panelOrNone_14 : decode cX8_panelOrNone 14 = .ok (.if_icmp .ne 8, 3) := by decide +kernel
theorem dX8_panelOrNone_17 : decode cX8_panelOrNone 17 = .ok (.bipush (-5), 2) := by decide +kernel
theorem dX8_panelOrNone_19 : decode cX8_panelOrNone 19 = .ok (.goto 4, 3) := by decide +kernel
theorem dX8_panelOrNone_22 : decode cX8_panelOrNone 22 = .ok (.iload_n 2, 1) := by decide +kernel
theorem dX8_panelOrNone_23 : decode cX8_panelOrNone 23 = .ok (.ireturn, 1) := by decide +kernel
