theorem dX8_panel_64 : decode cX8_panel 64 = .ok (.ireturn, 1) := by decide +kernel
theorem dX8_panel_65 : decode cX8_panel 65 = .ok (.aload_n 0, 1) := by decide +kernel
theorem dX8_panel_66 : decode cX8_panel 66 = .ok (.getfield 10, 3) := by decide +kernel
theorem dX8_panel_69 : decode cX8_panel 69 = .ok (.iload_n 1, 1) := by decide +kernel
theorem dX8_panel_70 : decode cX8_panel 70 = .ok (.invokevirtual 167, 3) := by decide +kernel
theorem dX8_panel_73 : decode cX8_panel 73 = .ok (.ireturn, 1) := by decide +kernel
theorem dX8_panel_74 : decode cX8_panel 74 = .ok (.aload_n 3, 1) := by decide +kernel
theorem dX8_panel_75 : decode cX8_panel 75 = .ok (.iload_n 1, 1) := by decide +kernel
theorem dX8_panel_76 : decode cX8_panel 76 = .ok (.invokevirtual 118, 3) := by decide +kernel
theorem dX8_panel_79 : decode cX8_panel 79 = .ok (.ifCond .eq 7, 3) := by decide +kernel
theorem dX8_panel_82 : decode cX8_panel 82 = .ok (.iconst 1, 1) := by decide +kernel
theorem dX8_panel_83 : decode cX8_panel 83 = .ok (.goto 4, 3) := by decide +kernel
theorem dX8_panel_86 : decode cX8_panel 86 = .ok (.iconst 0, 1) := by decide +kernel
theorem dX8_panel_87 : decode cX8_panel 87 = .ok (.ireturn, 1) := by decide +kernel
theorem dX8_panel_88 : decode cX8_panel 88 = .ok (.aload_n 3, 1) := by decide +kernel
theorem dX8_panel_89 : decode cX8_panel 89 = .ok (.iload_n 1, 1) := by decide +kernel
theorem dX8_panel_90 : decode cX8_panel 90 = .ok (.invokevirtual 107, 3) := by decide +kernel
theorem dX8_panel_93 : decode cX8_panel 93 = .ok (.ifCond .eq 7, 3) := by decide +kernel
theorem dX8_panel_96 : decode cX8_panel 96 = .ok (.iconst 1, 1) := by decide +kernel
theorem dX8_panel_97 : decode cX8_panel 97 = .ok (.goto 4, 3) := by decide +kernel
theorem dX8_panel_100 : decode cX8_panel 100 = .ok (.iconst 0, 1) := by decide +kernel
theorem dX8_panel_101 : decode cX8_panel 101 = .ok (.ireturn, 1) := by decide +kernel
theorem dX8_panel_102 : decode cX8_panel 102 = .ok (.aload_n 3, 1) := by decide +kernel
theorem dX8_panel_103 : decode cX8_panel 103 = .ok (.getfield 170, 3) := by decide +kernel
theorem dX8_panel_106 : decode cX8_panel 106 = .ok (.iload_n 1, 1) := by decide +kernel
theorem dX8_panel_107 : decode cX8_panel 107 = .ok (.invokevirtual 82, 3) := by decide +kernel
theorem dX8_panel_110 : decode cX8_panel 110 = .ok (.ireturn, 1) := by decide +kernel
theorem dX8_panel_111 : decode cX8_panel 111 = .ok (.aload_n 3, 1) := by decide +kernel
theorem dX8_panel_112 : decode cX8_panel 112 = .ok (.getfield 121, 3) := by decide +kernel
theorem dX8_panel_115 : decode cX8_panel 115 = .ok (.iload_n 1, 1) := by decide +kernel
theorem dX8_panel_116 : decode cX8_panel 116 = .ok (.invokevirtual 82, 3) := by decide +kernel
theorem dX8_panel_119 : decode cX8_panel 119 = .ok (.aload_n 0, 1) := by decide +kernel
theorem dX8_panel_120 : decode cX8_panel 120 = .ok (.getfield 10, 3) := by decide +kernel
theorem dX8_panel_123 : decode cX8_panel 123 = .ok (.getfield 127, 3) := by decide +kernel
theorem dX8_panel_126 : decode cX8_panel 126 = .ok (.getfield 136, 3) := by decide +kernel
theorem dX8_panel_129 : decode cX8_panel 129 = .ok (.iconst (-1), 1) := by decide +kernel
theorem dX8_panel_130 : decode cX8_panel 130 = .ok (.ixor, 1) := by decide +kernel
theorem dX8_panel_131 : decode cX8_panel 131 = .ok (.iand, 1) := by decide +kernel
theorem dX8_panel_132 : decode cX8_panel 132 = .ok (.ireturn, 1) := by decide +kernel
theorem dX8_panel_133 : decode cX8_panel 133 = .ok (.bipush (-2), 2) := by decide +kernel
theorem dX8_panel_135 : decode cX8_panel 135 = .ok (.ireturn, 1) := by decide +kernel
theorem dX8_step_0 : decode cX8_step 0 = .ok (.aload_n 0, 1) := by decide +kernel
theorem dX8_step_1 : decode cX8_step 1 = .ok (.getfield 10, 3) := by decide +kernel
theorem dX8_step_4 : decode cX8_step 4 = .ok (.getfield 58, 3) := by decide +kernel
theorem dX8_step_7 : decode cX8_step 7 = .ok (.iload_n 1, 1) := by decide +kernel
theorem dX8_step_8 : decode cX8_step 8 = .ok (.invokevirtual 142, 3) := by decide +kernel
theorem dX8_step_11 : decode cX8_step 11 = .ok (.ifCond .ne 5, 3) := by decide +kernel
theorem dX8_step_14 : decode cX8_step 14 = .ok (.iconst (-1), 1) := by decide +kernel
theorem dX8_step_15 : decode cX8_step 15 = .ok (.ireturn, 1) := by decide +kernel
theorem dX8_step_16 : decode cX8_step 16 = .ok (.iload_n 2, 1) := by decide +kernel
theorem dX8_step_17 : decode cX8_step 17 = .ok (.tableswitch 146 0 6 #[43, 58, 73, 93, 99, 119, 134], 43) := by decide +kernel
theorem dX8_step_60 : decode cX8_step 60 = .ok (.aload_n 0, 1) := by decide +kernel
theorem dX8_step_61 : decode cX8_step 61 = .ok (.getfield 10, 3) := by decide +kernel
theorem dX8_step_64 : decode cX8_step 64 = .ok (.getfield 58, 3) := by decide +kernel
theorem dX8_step_67 : decode cX8_step 67 = .ok (.getfield 173, 3) := by decide +kernel
theorem dX8_step_70 : decode cX8_step 70 = .ok (.iload_n 1, 1) := by decide +kernel
theorem dX8_step_71 : decode cX8_step 71 = .ok (.invokevirtual 82, 3) := by decide +kernel
theorem dX8_step_74 : decode cX8_step 74 = .ok (.ireturn, 1) := by decide +kernel
theorem dX8_step_75 : decode cX8_step 75 = .ok (.aload_n 0, 1) := by decide +kernel
theorem dX8_step_76 : decode cX8_step 76 = .ok (.getfield 10, 3) := by decide +kernel
theorem dX8_step_79 : decode cX8_step 79 = .ok (.getfield 58, 3) := by decide +kernel
theorem dX8_step_82 : decode cX8_step 82 = .ok (.getfield 176, 3) := by decide +kernel
theorem dX8_step_85 : decode cX8_step 85 = .ok (.iload_n 1, 1) := by decide +kernel
theorem dX8_step_86 : decode cX8_step 86 = .ok (.invokevirtual 82, 3) := by decide +kernel
theorem dX8_step_89 : decode cX8_step 89 = .ok (.ireturn, 1) := by decide +kernel
theorem dX8_step_90 : decode cX8_step 90 = .ok (.iload_n 1, 1) := by decide +kernel
theorem dX8_step_91 : decode cX8_step 91 = .ok (.aload_n 0, 1) := by decide +kernel
theorem dX8_step_92 : decode cX8_step 92 = .ok (.getfield 10, 3) := by decide +kernel
theorem dX8_step_95 : decode cX8_step 95 = .ok (.getfield 58, 3) := by decide +kernel
theorem dX8_step_98 : decode cX8_step 98 = .ok (.getfield 145, 3) := by decide +kernel
theorem dX8_step_101 : decode cX8_step 101 = .ok (.if_icmp .ge 7, 3) := by decide +kernel
theorem dX8_step_104 : decode cX8_step 104 = .ok (.iconst 1, 1) := by decide +kernel
theorem dX8_step_105 : decode cX8_step 105 = .ok (.goto 4, 3) := by decide +kernel
theorem dX8_step_108 : decode cX8_step 108 = .ok (.iconst 0, 1) := by decide +kernel
theorem dX8_step_109 : decode cX8_step 109 = .ok (.ireturn, 1) := by decide +kernel
theorem dX8_step_110 : decode cX8_step 110 = .ok (.aload_n 0, 1) := by decide +kernel
theorem dX8_step_111 : decode cX8_step 111 = .ok (.iload_n 1, 1) := by decide +kernel
theorem dX8_step_112 : decode cX8_step 112 = .ok (.invokevirtual 179, 3) := by decide +kernel
theorem dX8_step_115 : decode cX8_step 115 = .ok (.ireturn, 1) := by decide +kernel
theorem dX8_step_116 : decode cX8_step 116 = .ok (.aload_n 0, 1) := by decide +kernel
theorem dX8_step_117 : decode cX8_step 117 = .ok (.getfield 10, 3) := by decide +kernel
theorem dX8_step_120 : decode cX8_step 120 = .ok (.getfield 127, 3) := by decide +kernel
theorem dX8_step_123 : decode cX8_step 123 = .ok (.iload_n 1, 1) := by decide +kernel
theorem dX8_step_124 : decode cX8_step 124 = .ok (.invokevirtual 182, 3) := by decide +kernel
theorem dX8_step_127 : decode cX8_step 127 = .ok (.ifCond .eq 7, 3) := by decide +kernel
theorem dX8_step_130 : decode cX8_step 130 = .ok (.iconst 1, 1) := by decide +kernel
theorem dX8_step_131 : decode cX8_step 131 = .ok (.goto 4, 3) := by decide +kernel
theorem dX8_step_134 : decode cX8_step 134 = .ok (.iconst 0, 1) := by decide +kernel
theorem dX8_step_135 : decode cX8_step 135 = .ok (.ireturn, 1) := by decide +kernel
theorem dX8_step_136 : decode cX8_step 136 = .ok (.aload_n 0, 1) := by decide +kernel
theorem dX8_step_137 : decode cX8_step 137 = .ok (.getfield 10, 3) := by decide +kernel
theorem dX8_step_140 : decode cX8_step 140 = .ok (.getfield 185, 3) := by decide +kernel
theorem dX8_step_143 : decode cX8_step 143 = .ok (.getfield 189, 3) := by decide +kernel
theorem dX8_step_146 : decode cX8_step 146 = .ok (.iload_n 1, 1) := by decide +kernel
theorem dX8_step_147 : decode cX8_step 147 = .ok (.invokevirtual 82, 3) := by decide +kernel
theorem dX8_step_150 : decode cX8_step 150 = .ok (.ireturn, 1) := by decide +kernel
theorem dX8_step_151 : decode cX8_step 151 = .ok (.aload_n 0, 1) := by decide +kernel
theorem dX8_step_152 : decode cX8_step 152 = .ok (.getfield 10, 3) := by decide +kernel
theorem dX8_step_155 : decode cX8_step 155 = .ok (.getfield 58, 3) := by decide +kernel
theorem dX8_step_158 : decode cX8_step 158 = .ok (.iload_n 1, 1) := by decide +kernel
theorem dX8_step_159 : decode cX8_step 159 = .ok (.invokevirtual 194, 3) := by decide +kernel
theorem dX8_step_162 : decode cX8_step 162 = .ok (.ireturn, 1) := by decide +kernel
theorem dX8_step_163 : decode cX8_step 163 = .ok (.bipush (-2), 2) := by decide +kernel
theorem dX8_step_165 : decode cX8_step 165 = .ok (.ireturn, 1) := by decide +kernel
theorem dX8_photoOf_0 : decode cX8_photoOf 0 = .ok (.iload_n 1, 1) := by decide +kernel
theorem dX8_photoOf_1 : decode cX8_photoOf 1 = .ok (.ifCond .lt 12, 3) := by decide +kernel
theorem dX8_photoOf_4 : decode cX8_photoOf 4 = .ok (.iload_n 2, 1) := by decide +kernel
theorem dX8_photoOf_5 : decode cX8_photoOf 5 = .ok (.ifCond .lt 8, 3) := by decide +kernel
theorem dX8_photoOf_8 : decode cX8_photoOf 8 = .ok (.iload_n 2, 1) := by decide +kernel
theorem dX8_photoOf_9 : decode cX8_photoOf 9 = .ok (.iconst 1, 1) := by decide +kernel
theorem dX8_photoOf_10 : decode cX8_photoOf 10 = .ok (.if_icmp .le 6, 3) := by decide +kernel
theorem dX8_photoOf_13 : decode cX8_photoOf 13 = .ok (.bipush (-2), 2) := by decide +kernel
theorem dX8_photoOf_15 : decode cX8_photoOf 15 = .ok (.ireturn, 1) := by decide +kernel
theorem dX8_photoOf_16 : decode cX8_photoOf 16 = .ok (.iload_n 1, 1) := by decide +kernel
theorem dX8_photoOf_17 : decode cX8_photoOf 17 = .ok (.aload_n 0, 1) := by decide +kernel
theorem dX8_photoOf_18 : decode cX8_photoOf 18 = .ok (.getfield 10, 3) := by decide +kernel
theorem dX8_photoOf_21 : decode cX8_photoOf 21 = .ok (.getfield 127, 3) := by decide +kernel
theorem dX8_photoOf_24 : decode cX8_photoOf 24 = .ok (.getfield 131, 3) := by decide +kernel
theorem dX8_photoOf_27 : decode cX8_photoOf 27 = .ok (.if_icmp .lt 6, 3) := by decide +kernel
theorem dX8_photoOf_30 : decode cX8_photoOf 30 = .ok (.bipush (-5), 2) := by decide +kernel
theorem dX8_photoOf_32 : decode cX8_photoOf 32 = .ok (.ireturn, 1) := by decide +kernel
theorem dX8_photoOf_33 : decode cX8_photoOf 33 = .ok (.iload_n 2, 1) := by decide +kernel
theorem dX8_photoOf_34 : decode cX8_photoOf 34 = .ok (.ifCond .ne 20, 3) := by decide +kernel
theorem dX8_photoOf_37 : decode cX8_photoOf 37 = .ok (.aload_n 0, 1) := by decide +kernel
theorem dX8_photoOf_38 : decode cX8_photoOf 38 = .ok (.getfield 10, 3) := by decide +kernel
theorem dX8_photoOf_41 : decode cX8_photoOf 41 = .ok (.getfield 127, 3) := by decide +kernel
theorem dX8_photoOf_44 : decode cX8_photoOf 44 = .ok (.getfield 197, 3) := by decide +kernel
theorem dX8_photoOf_47 : decode cX8_photoOf 47 = .ok (.iload_n 1, 1) := by decide +kernel
theorem dX8_photoOf_48 : decode cX8_photoOf 48 = .ok (.invokevirtual 82, 3) := by decide +kernel
theorem dX8_photoOf_51 : decode cX8_photoOf 51 = .ok (.goto 17, 3) := by decide +kernel
theorem dX8_photoOf_54 : decode cX8_photoOf 54 = .ok (.aload_n 0, 1) := by decide +kernel
theorem dX8_photoOf_55 : decode cX8_photoOf 55 = .ok (.getfield 10, 3) := by decide +kernel
theorem dX8_photoOf_58 : decode cX8_photoOf 58 = .ok (.getfield 127, 3) := by decide +kernel
theorem dX8_photoOf_61 : decode cX8_photoOf 61 = .ok (.getfield 200, 3) := by decide +kernel
theorem dX8_photoOf_64 : decode cX8_photoOf 64 = .ok (.iload_n 1, 1) := by decide +kernel
theorem dX8_photoOf_65 : decode cX8_photoOf 65 = .ok (.invokevirtual 82, 3) := by decide +kernel
theorem dX8_photoOf_68 : decode cX8_photoOf 68 = .ok (.ireturn, 1) := by decide +kernel
theorem dX8_wouldBe_0 : decode cX8_wouldBe 0 = .ok (.iload_n 1, 1) := by decide +kernel
theorem dX8_wouldBe_1 : decode cX8_wouldBe 1 = .ok (.ifCond .lt 8, 3) := by decide +kernel
theorem dX8_wouldBe_4 : decode cX8_wouldBe 4 = .ok (.iload_n 1, 1) := by decide +kernel
theorem dX8_wouldBe_5 : decode cX8_wouldBe 5 = .ok (.iconst 5, 1) := by decide +kernel
theorem dX8_wouldBe_6 : decode cX8_wouldBe 6 = .ok (.if_icmp .le 6, 3) := by decide +kernel
theorem dX8_wouldBe_9 : decode cX8_wouldBe 9 = .ok (.bipush (-2), 2) := by decide +kernel
theorem dX8_wouldBe_11 : decode cX8_wouldBe 11 = .ok (.ireturn, 1) := by decide +kernel
theorem dX8_wouldBe_12 : decode cX8_wouldBe 12 = .ok (.aload_n 0, 1) := by decide +kernel
theorem dX8_wouldBe_13 : decode cX8_wouldBe 13 = .ok (.getfield 16, 3) := by decide +kernel
theorem dX8_wouldBe_16 : decode cX8_wouldBe 16 = .ok (.aload_n 0, 1) := by decide +kernel
theorem dX8_wouldBe_17 : decode cX8_wouldBe 17 = .ok (.getfield 10, 3) := by decide +kernel
theorem dX8_wouldBe_20 : decode cX8_wouldBe 20 = .ok (.invokevirtual 164, 3) := by decide +kernel
theorem dX8_wouldBe_23 : decode cX8_wouldBe 23 = .ok (.aload_n 0, 1) := by decide +kernel
theorem dX8_wouldBe_24 : decode cX8_wouldBe 24 = .ok (.getfield 16, 3) := by decide +kernel
theorem dX8_wouldBe_27 : decode cX8_wouldBe 27 = .ok (.invokevirtual 203, 3) := by decide +kernel
theorem dX8_wouldBe_30 : decode cX8_wouldBe 30 = .ok (.pop, 1) := by decide +kernel
theorem dX8_wouldBe_31 : decode cX8_wouldBe 31 = .ok (.iload_n 1, 1) := by decide +kernel
theorem dX8_wouldBe_32 : decode cX8_wouldBe 32 = .ok (.tableswitch 146 0 4 #[36, 58, 80, 102, 124], 36) := by decide +kernel
theorem dX8_wouldBe_68 : decode cX8_wouldBe 68 = .ok (.aload_n 0, 1) := by decide +kernel
theorem dX8_wouldBe_69 : decode cX8_wouldBe 69 = .ok (.getfield 16, 3) := by decide +kernel
theorem dX8_wouldBe_72 : decode cX8_wouldBe 72 = .ok (.getfield 44, 3) := by decide +kernel
theorem dX8_wouldBe_75 : decode cX8_wouldBe 75 = .ok (.getfield 206, 3) := by decide +kernel
theorem dX8_wouldBe_78 : decode cX8_wouldBe 78 = .ok (.aload_n 0, 1) := by decide +kernel
theorem dX8_wouldBe_79 : decode cX8_wouldBe 79 = .ok (.getfield 10, 3) := by decide +kernel
theorem dX8_wouldBe_82 : decode cX8_wouldBe 82 = .ok (.getfield 44, 3) := by decide +kernel
theorem dX8_wouldBe_85 : decode cX8_wouldBe 85 = .ok (.getfield 206, 3) := by decide +kernel
theorem dX8_wouldBe_88 : decode cX8_wouldBe 88 = .ok (.isub, 1) := by decide +kernel
theorem dX8_wouldBe_89 : decode cX8_wouldBe 89 = .ok (.ireturn, 1) := by decide +kernel
theorem dX8_wouldBe_90 : decode cX8_wouldBe 90 = .ok (.aload_n 0, 1) := by decide +kernel
theorem dX8_wouldBe_91 : decode cX8_wouldBe 91 = .ok (.getfield 16, 3) := by decide +kernel
theorem dX8_wouldBe_94 : decode cX8_wouldBe 94 = .ok (.getfield 44, 3) := by decide +kernel
theorem dX8_wouldBe_97 : decode cX8_wouldBe 97 = .ok (.invokevirtual 209, 3) := by decide +kernel
theorem dX8_wouldBe_100 : decode cX8_wouldBe 100 = .ok (.aload_n 0, 1) := by decide +kernel
theorem dX8_wouldBe_101 : decode cX8_wouldBe 101 = .ok (.getfield 10, 3) := by decide +kernel
theorem dX8_wouldBe_104 : decode cX8_wouldBe 104 = .ok (.getfield 44, 3) := by decide +kernel
theorem dX8_wouldBe_107 : decode cX8_wouldBe 107 = .ok (.invokevirtual 209, 3) := by decide +kernel
theorem dX8_wouldBe_110 : decode cX8_wouldBe 110 = .ok (.isub, 1) := by decide +kernel
theorem dX8_wouldBe_111 : decode cX8_wouldBe 111 = .ok (.ireturn, 1) := by decide +kernel
theorem dX8_wouldBe_112 : decode cX8_wouldBe 112 = .ok (.aload_n 0, 1) := by decide +kernel
theorem dX8_wouldBe_113 : decode cX8_wouldBe 113 = .ok (.getfield 16, 3) := by decide +kernel
theorem dX8_wouldBe_116 : decode cX8_wouldBe 116 = .ok (.getfield 185, 3) := by decide +kernel
theorem dX8_wouldBe_119 : decode cX8_wouldBe 119 = .ok (.getfield 212, 3) := by decide +kernel
theorem dX8_wouldBe_122 : decode cX8_wouldBe 122 = .ok (.aload_n 0, 1) := by decide +kernel
theorem dX8_wouldBe_123 : decode cX8_wouldBe 123 = .ok (.getfield 10, 3) := by decide +kernel
theorem dX8_wouldBe_126 : decode cX8_wouldBe 126 = .ok (.getfield 185, 3) := by decide +kernel
theorem dX8_wouldBe_129 : decode cX8_wouldBe 129 = .ok (.getfield 212, 3) := by decide +kernel
theorem dX8_wouldBe_132 : decode cX8_wouldBe 132 = .ok (.isub, 1) := by decide +kernel
theorem dX8_wouldBe_133 : decode cX8_wouldBe 133 = .ok (.ireturn, 1) := by decide +kernel
theorem dX8_wouldBe_134 : decode cX8_wouldBe 134 = .ok (.aload_n 0, 1) := by decide +kernel
theorem dX8_wouldBe_135 : decode cX8_wouldBe 135 = .ok (.getfield 16, 3) := by decide +kernel
theorem dX8_wouldBe_138 : decode cX8_wouldBe 138 = .ok (.getfield 185, 3) := by decide +kernel
theorem dX8_wouldBe_141 : decode cX8_wouldBe 141 = .ok (.getfield 215, 3) := by decide +kernel
theorem dX8_wouldBe_144 : decode cX8_wouldBe 144 = .ok (.aload_n 0, 1) := by decide +kernel
theorem dX8_wouldBe_145 : decode cX8_wouldBe 145 = .ok (.getfield 10, 3) := by decide +kernel
theorem dX8_wouldBe_148 : decode cX8_wouldBe 148 = .ok (.getfield 185, 3) := by decide +kernel
theorem dX8_wouldBe_151 : decode cX8_wouldBe 151 = .ok (.getfield 215, 3) := by decide +kernel
theorem dX8_wouldBe_154 : decode cX8_wouldBe 154 = .ok (.isub, 1) := by decide +kernel
theorem dX8_wouldBe_155 : decode cX8_wouldBe 155 = .ok (.ireturn, 1) := by decide +kernel
theorem dX8_wouldBe_156 : decode cX8_wouldBe 156 = .ok (.aload_n 0, 1) := by decide +kernel
theorem dX8_wouldBe_157 : decode cX8_wouldBe 157 = .ok (.getfield 16, 3) := by decide +kernel
theorem dX8_wouldBe_160 : decode cX8_wouldBe 160 = .ok (.getfield 185, 3) := by decide +kernel
theorem dX8_wouldBe_163 : decode cX8_wouldBe 163 = .ok (.getfield 218, 3) := by decide +kernel
theorem dX8_wouldBe_166 : decode cX8_wouldBe 166 = .ok (.aload_n 0, 1) := by decide +kernel
theorem dX8_wouldBe_167 : decode cX8_wouldBe 167 = .ok (.getfield 10, 3) := by decide +kernel
theorem dX8_wouldBe_170 : decode cX8_wouldBe 170 = .ok (.getfield 185, 3) := by decide +kernel
theorem dX8_wouldBe_173 : decode cX8_wouldBe 173 = .ok (.getfield 218, 3) := by decide +kernel
theorem dX8_wouldBe_176 : decode cX8_wouldBe 176 = .ok (.isub, 1) := by decide +kernel
theorem dX8_wouldBe_177 : decode cX8_wouldBe 177 = .ok (.ireturn, 1) := by decide +kernel
theorem dX8_wouldBe_178 : decode cX8_wouldBe 178 = .ok (.aload_n 0, 1) := by decide +kernel
theorem dX8_wouldBe_179 : decode cX8_wouldBe 179 = .ok (.getfield 16, 3) := by decide +kernel
theorem dX8_wouldBe_182 : decode cX8_wouldBe 182 = .ok (.getfield 58, 3) := by decide +kernel
theorem dX8_wouldBe_185 : decode cX8_wouldBe 185 = .ok (.getfield 145, 3) := by decide +kernel
theorem dX8_wouldBe_188 : decode cX8_wouldBe 188 = .ok (.aload_n 0, 1) := by decide +kernel
theorem dX8_wouldBe_189 : decode cX8_wouldBe 189 = .ok (.getfield 10, 3) := by decide +kernel
theorem dX8_wouldBe_192 : decode cX8_wouldBe 192 = .ok (.getfield 58, 3) := by decide +kernel
theorem dX8_wouldBe_195 : decode cX8_wouldBe 195 = .ok (.getfield 145, 3) := by decide +kernel
theorem dX8_wouldBe_198 : decode cX8_wouldBe 198 = .ok (.isub, 1) := by decide +kernel
theorem dX8_wouldBe_199 : decode cX8_wouldBe 199 = .ok (.ireturn, 1) := by decide +kernel
theorem dX8_photosNeeded_0 : decode cX8_photosNeeded 0 = .ok (.aload_n 0, 1) := by decide +kernel
theorem dX8_photosNeeded_1 : decode cX8_photosNeeded 1 = .ok (.getfield 16, 3) := by decide +kernel
theorem dX8_photosNeeded_4 : decode cX8_photosNeeded 4 = .ok (.aload_n 0, 1) := by decide +kernel
theorem dX8_photosNeeded_5 : decode cX8_photosNeeded 5 = .ok (.getfield 10, 3) := by decide +kernel
theorem dX8_photosNeeded_8 : decode cX8_photosNeeded 8 = .ok (.invokevirtual 164, 3) := by decide +kernel
theorem dX8_photosNeeded_11 : decode cX8_photosNeeded 11 = .ok (.aload_n 0, 1) := by decide +kernel
theorem dX8_photosNeeded_12 : decode cX8_photosNeeded 12 = .ok (.getfield 16, 3) := by decide +kernel
theorem dX8_photosNeeded_15 : decode cX8_photosNeeded 15 = .ok (.invokevirtual 203, 3) := by decide +kernel
theorem dX8_photosNeeded_18 : decode cX8_photosNeeded 18 = .ok (.ireturn, 1) := by decide +kernel
theorem dX8_count_0 : decode cX8_count 0 = .ok (.iload_n 1, 1) := by decide +kernel
theorem dX8_count_1 : decode cX8_count 1 = .ok (.tableswitch 246 0 15 #[79, 90, 101, 112, 123, 134, 145, 156, 167, 178, 189, 200, 211, 219, 230, 238], 79) := by decide +kernel
theorem dX8_count_80 : decode cX8_count 80 = .ok (.aload_n 0, 1) := by decide +kernel
theorem dX8_count_81 : decode cX8_count 81 = .ok (.getfield 10, 3) := by decide +kernel
theorem dX8_count_84 : decode cX8_count 84 = .ok (.getfield 58, 3) := by decide +kernel
theorem dX8_count_87 : decode cX8_count 87 = .ok (.getfield 62, 3) := by decide +kernel
theorem dX8_count_90 : decode cX8_count 90 = .ok (.ireturn, 1) := by decide +kernel
theorem dX8_count_91 : decode cX8_count 91 = .ok (.aload_n 0, 1) := by decide +kernel
theorem dX8_count_92 : decode cX8_count 92 = .ok (.getfield 10, 3) := by decide +kernel
theorem dX8_count_95 : decode cX8_count 95 = .ok (.getfield 58, 3) := by decide +kernel
theorem dX8_count_98 : decode cX8_count 98 = .ok (.getfield 145, 3) := by decide +kernel
theorem dX8_count_101 : decode cX8_count 101 = .ok (.ireturn, 1) := by decide +kernel
theorem dX8_count_102 : decode cX8_count 102 = .ok (.aload_n 0, 1) := by decide +kernel
theorem dX8_count_103 : decode cX8_count 103 = .ok (.getfield 10, 3) := by decide +kernel
theorem dX8_count_106 : decode cX8_count 106 = .ok (.getfield 44, 3) := by decide +kernel
theorem dX8_count_109 : decode cX8_count 109 = .ok (.getfield 221, 3) := by decide +kernel
theorem dX8_count_112 : decode cX8_count 112 = .ok (.ireturn, 1) := by decide +kernel
theorem dX8_count_113 : decode cX8_count 113 = .ok (.aload_n 0, 1) := by decide +kernel
theorem dX8_count_114 : decode cX8_count 114 = .ok (.getfield 10, 3) := by decide +kernel
theorem dX8_count_117 : decode cX8_count 117 = .ok (.getfield 44, 3) := by decide +kernel
theorem dX8_count_120 : decode cX8_count 120 = .ok (.getfield 206, 3) := by decide +kernel
theorem dX8_count_123 : decode cX8_count 123 = .ok (.ireturn, 1) := by decide +kernel
theorem dX8_count_124 : decode cX8_count 124 = .ok (.aload_n 0, 1) := by decide +kernel
theorem dX8_count_125 : decode cX8_count 125 = .ok (.getfield 10, 3) := by decide +kernel
theorem dX8_count_128 : decode cX8_count 128 = .ok (.getfield 44, 3) := by decide +kernel
theorem dX8_count_131 : decode cX8_count 131 = .ok (.invokevirtual 209, 3) := by decide +kernel
theorem dX8_count_134 : decode cX8_count 134 = .ok (.ireturn, 1) := by decide +kernel
theorem dX8_count_135 : decode cX8_count 135 = .ok (.aload_n 0, 1) := by decide +kernel
theorem dX8_count_136 : decode cX8_count 136 = .ok (.getfield 10, 3) := by decide +kernel
theorem dX8_count_139 : decode cX8_count 139 = .ok (.getfield 127, 3) := by decide +kernel
theorem dX8_count_142 : decode cX8_count 142 = .ok (.getfield 131, 3) := by decide +kernel
theorem dX8_count_145 : decode cX8_count 145 = .ok (.ireturn, 1) := by decide +kernel
theorem dX8_count_146 : decode cX8_count 146 = .ok (.aload_n 0, 1) := by decide +kernel
theorem dX8_count_147 : decode cX8_count 147 = .ok (.getfield 10, 3) := by decide +kernel
theorem dX8_count_150 : decode cX8_count 150 = .ok (.getfield 185, 3) := by decide +kernel
theorem dX8_count_153 : decode cX8_count 153 = .ok (.getfield 212, 3) := by decide +kernel
theorem dX8_count_156 : decode cX8_count 156 = .ok (.ireturn, 1) := by decide +kernel
theorem dX8_count_157 : decode cX8_count 157 = .ok (.aload_n 0, 1) := by decide +kernel
theorem dX8_count_158 : decode cX8_count 158 = .ok (.getfield 10, 3) := by decide +kernel
theorem dX8_count_161 : decode cX8_count 161 = .ok (.getfield 185, 3) := by decide +kernel
theorem dX8_count_164 : decode cX8_count 164 = .ok (.getfield 215, 3) := by decide +kernel
theorem dX8_count_167 : decode cX8_count 167 = .ok (.ireturn, 1) := by decide +kernel
theorem dX8_count_168 : decode cX8_count 168 = .ok (.aload_n 0, 1) := by decide +kernel
theorem dX8_count_169 : decode cX8_count 169 = .ok (.getfield 10, 3) := by decide +kernel
theorem dX8_count_172 : decode cX8_count 172 = .ok (.getfield 185, 3) := by decide +kernel
theorem dX8_count_175 : decode cX8_count 175 = .ok (.getfield 218, 3) := by decide +kernel
theorem dX8_count_178 : decode cX8_count 178 = .ok (.ireturn, 1) := by decide +kernel
theorem dX8_count_179 : decode cX8_count 179 = .ok (.aload_n 0, 1) := by decide +kernel
theorem dX8_count_180 : decode cX8_count 180 = .ok (.getfield 10, 3) := by decide +kernel
theorem dX8_count_183 : decode cX8_count 183 = .ok (.getfield 185, 3) := by decide +kernel
theorem dX8_count_186 : decode cX8_count 186 = .ok (.getfield 224, 3) := by decide +kernel
theorem dX8_count_189 : decode cX8_count 189 = .ok (.ireturn, 1) := by decide +kernel
theorem dX8_count_190 : decode cX8_count 190 = .ok (.aload_n 0, 1) := by decide +kernel
theorem dX8_count_191 : decode cX8_count 191 = .ok (.getfield 10, 3) := by decide +kernel
theorem dX8_count_194 : decode cX8_count 194 = .ok (.getfield 185, 3) := by decide +kernel
theorem dX8_count_197 : decode cX8_count 197 = .ok (.getfield 227, 3) := by decide +kernel
theorem dX8_count_200 : decode cX8_count 200 = .ok (.ireturn, 1) := by decide +kernel
theorem dX8_count_201 : decode cX8_count 201 = .ok (.aload_n 0, 1) := by decide +kernel
theorem dX8_count_202 : decode cX8_count 202 = .ok (.getfield 10, 3) := by decide +kernel
theorem dX8_count_205 : decode cX8_count 205 = .ok (.getfield 185, 3) := by decide +kernel
theorem dX8_count_208 : decode cX8_count 208 = .ok (.getfield 230, 3) := by decide +kernel
theorem dX8_count_211 : decode cX8_count 211 = .ok (.ireturn, 1) := by decide +kernel
theorem dX8_count_212 : decode cX8_count 212 = .ok (.aload_n 0, 1) := by decide +kernel
theorem dX8_count_213 : decode cX8_count 213 = .ok (.getfield 10, 3) := by decide +kernel
theorem dX8_count_216 : decode cX8_count 216 = .ok (.invokevirtual 233, 3) := by decide +kernel
theorem dX8_count_219 : decode cX8_count 219 = .ok (.ireturn, 1) := by decide +kernel
theorem dX8_count_220 : decode cX8_count 220 = .ok (.aload_n 0, 1) := by decide +kernel
theorem dX8_count_221 : decode cX8_count 221 = .ok (.getfield 10, 3) := by decide +kernel
theorem dX8_count_224 : decode cX8_count 224 = .ok (.getfield 44, 3) := by decide +kernel
theorem dX8_count_227 : decode cX8_count 227 = .ok (.getfield 48, 3) := by decide +kernel
theorem dX8_count_230 : decode cX8_count 230 = .ok (.ireturn, 1) := by decide +kernel
theorem dX8_count_231 : decode cX8_count 231 = .ok (.aload_n 0, 1) := by decide +kernel
theorem dX8_count_232 : decode cX8_count 232 = .ok (.getfield 25, 3) := by decide +kernel
theorem dX8_count_235 : decode cX8_count 235 = .ok (.getfield 158, 3) := by decide +kernel
theorem dX8_count_238 : decode cX8_count 238 = .ok (.ireturn, 1) := by decide +kernel
theorem dX8_count_239 : decode cX8_count 239 = .ok (.aload_n 0, 1) := by decide +kernel
theorem dX8_count_240 : decode cX8_count 240 = .ok (.getfield 32, 3) := by decide +kernel
theorem dX8_count_243 : decode cX8_count 243 = .ok (.getfield 151, 3) := by decide +kernel
theorem dX8_count_246 : decode cX8_count 246 = .ok (.ireturn, 1) := by decide +kernel
theorem dX8_count_247 : decode cX8_count 247 = .ok (.bipush (-2), 2) := by decide +kernel
theorem dX8_count_249 : decode cX8_count 249 = .ok (.ireturn, 1) := by decide +kernel
theorem dX8_panelOrNone_0 : decode cX8_panelOrNone 0 = .ok (.aload_n 0, 1) := by decide +kernel
theorem dX8_panelOrNone_1 : decode cX8_panelOrNone 1 = .ok (.getfield 10, 3) := by decide +kernel
theorem dX8_panelOrNone_4 : decode cX8_panelOrNone 4 = .ok (.getfield 44, 3) := by decide +kernel
theorem dX8_panelOrNone_7 : decode cX8_panelOrNone 7 = .ok (.iload_n 1, 1) := by decide +kernel
theorem dX8_panelOrNone_8 : decode cX8_panelOrNone 8 = .ok (.invokevirtual 236, 3) := by decide +kernel
theorem dX8_panelOrNone_11 : decode cX8_panelOrNone 11 = .ok (.istore_n 2, 1) := by decide +kernel
theorem dX8_panelOrNone_12 : decode cX8_panelOrNone 12 = .ok (.iload_n 2, 1) := by decide +kernel
theorem dX8_panelOrNone_13 : decode cX8_panelOrNone 13 = .ok (.iconst (-1), 1) := by decide +kernel
theorem dX8_panelOrNone_14 : decode cX8_panelOrNone 14 = .ok (.if_icmp .ne 8, 3) := by decide +kernel
theorem dX8_panelOrNone_17 : decode cX8_panelOrNone 17 = .ok (.bipush (-5), 2) := by decide +kernel
theorem dX8_panelOrNone_19 : decode cX8_panelOrNone 19 = .ok (.goto 4, 3) := by decide +kernel
theorem dX8_panelOrNone_22 : decode cX8_panelOrNone 22 = .ok (.iload_n 2, 1) := by decide +kernel
theorem dX8_panelOrNone_23 : decode cX8_panelOrNone 23 = .ok (.ireturn, 1) := by decide +kernel
theorem dX8_isPanel_0 : decode cX8_isPanel 0 = .ok (.iload_n 0, 1) := by decide +kernel
theorem dX8_isPanel_1 : decode cX8_isPanel 1 = .ok (.ifCond .lt 13, 3) := by decide +kernel
theorem dX8_isPanel_4 : decode cX8_isPanel 4 = .ok (.iload_n 0, 1) := by decide +kernel
theorem dX8_isPanel_5 : decode cX8_isPanel 5 = .ok (.bipush 6, 2) := by decide +kernel
theorem dX8_isPanel_7 : decode cX8_isPanel 7 = .ok (.if_icmp .ge 7, 3) := by decide +kernel
theorem dX8_isPanel_10 : decode cX8_isPanel 10 = .ok (.iconst 1, 1) := by decide +kernel
theorem dX8_isPanel_11 : decode cX8_isPanel 11 = .ok (.goto 4, 3) := by decide +kernel
theorem dX8_isPanel_14 : decode cX8_isPanel 14 = .ok (.iconst 0, 1) := by decide +kernel
theorem dX8_isPanel_15 : decode cX8_isPanel 15 = .ok (.ireturn, 1) := by decide +kernel
theorem dX8_columnOf_0 : decode cX8_columnOf 0 = .ok (.iload_n 0, 1) := by decide +kernel
theorem dX8_columnOf_1 : decode cX8_columnOf 1 = .ok (.iconst 1, 1) := by decide +kernel
theorem dX8_columnOf_2 : decode cX8_columnOf 2 = .ok (.ishr, 1) := by decide +kernel
theorem dX8_columnOf_3 : decode cX8_columnOf 3 = .ok (.ireturn, 1) := by decide +kernel
theorem dX8_bitOf_0 : decode cX8_bitOf 0 = .ok (.iload_n 0, 1) := by decide +kernel
theorem dX8_bitOf_1 : decode cX8_bitOf 1 = .ok (.ifCond .lt 15, 3) := by decide +kernel
theorem dX8_bitOf_4 : decode cX8_bitOf 4 = .ok (.iload_n 0, 1) := by decide +kernel
theorem dX8_bitOf_5 : decode cX8_bitOf 5 = .ok (.bipush 30, 2) := by decide +kernel
theorem dX8_bitOf_7 : decode cX8_bitOf 7 = .ok (.if_icmp .ge 9, 3) := by decide +kernel
theorem dX8_bitOf_10 : decode cX8_bitOf 10 = .ok (.iconst 1, 1) := by decide +kernel
theorem dX8_bitOf_11 : decode cX8_bitOf 11 = .ok (.iload_n 0, 1) := by decide +kernel
theorem dX8_bitOf_12 : decode cX8_bitOf 12 = .ok (.ishl, 1) := by decide +kernel
theorem dX8_bitOf_13 : decode cX8_bitOf 13 = .ok (.goto 4, 3) := by decide +kernel
theorem dX8_bitOf_16 : decode cX8_bitOf 16 = .ok (.iconst 0, 1) := by decide +kernel
theorem dX8_bitOf_17 : decode cX8_bitOf 17 = .ok (.ireturn, 1) := by decide +kernel
theorem dX9_init_0 : decode cX9_init 0 = .ok (.aload_n 0, 1) := by decide +kernel
theorem dX9_init_1 : decode cX9_init 1 = .ok (.invokespecial 1, 3) := by decide +kernel
theorem dX9_init_4 : decode cX9_init 4 = .ok (.aload_n 0, 1) := by decide +kernel
theorem dX9_init_5 : decode cX9_init 5 = .ok (.sipush 230, 3) := by decide +kernel
theorem dX9_init_8 : decode cX9_init 8 = .ok (.newarray .int, 2) := by decide +kernel
theorem dX9_init_10 : decode cX9_init 10 = .ok (.putfield 7, 3) := by decide +kernel
theorem dX9_init_13 : decode cX9_init 13 = .ok (.aload_n 0, 1) := by decide +kernel
theorem dX9_init_14 : decode cX9_init 14 = .ok (.sipush 230, 3) := by decide +kernel
theorem dX9_init_17 : decode cX9_init 17 = .ok (.newarray .int, 2) := by decide +kernel
theorem dX9_init_19 : decode cX9_init 19 = .ok (.putfield 13, 3) := by decide +kernel
theorem dX9_init_22 : decode cX9_init 22 = .ok (.aload_n 0, 1) := by decide +kernel
theorem dX9_init_23 : decode cX9_init 23 = .ok (.sipush 920, 3) := by decide +kernel
theorem dX9_init_26 : decode cX9_init 26 = .ok (.newarray .int, 2) := by decide +kernel
theorem dX9_init_28 : decode cX9_init 28 = .ok (.putfield 16, 3) := by decide +kernel
theorem dX9_init_31 : decode cX9_init 31 = .ok (.aload_n 0, 1) := by decide +kernel
theorem dX9_init_32 : decode cX9_init 32 = .ok (.sipush 230, 3) := by decide +kernel
theorem dX9_init_35 : decode cX9_init 35 = .ok (.newarray .int, 2) := by decide +kernel
theorem dX9_init_37 : decode cX9_init 37 = .ok (.putfield 19, 3) := by decide +kernel
theorem dX9_init_40 : decode cX9_init 40 = .ok (.aload_n 0, 1) := by decide +kernel
theorem dX9_init_41 : decode cX9_init 41 = .ok (.bipush 60, 2) := by decide +kernel
theorem dX9_init_43 : decode cX9_init 43 = .ok (.newarray .int, 2) := by decide +kernel
theorem dX9_init_45 : decode cX9_init 45 = .ok (.putfield 22, 3) := by decide +kernel
theorem dX9_init_48 : decode cX9_init 48 = .ok (.aload_n 0, 1) := by decide +kernel
theorem dX9_init_49 : decode cX9_init 49 = .ok (.bipush 60, 2) := by decide +kernel
theorem dX9_init_51 : decode cX9_init 51 = .ok (.newarray .int, 2) := by decide +kernel
theorem dX9_init_53 : decode cX9_init 53 = .ok (.putfield 25, 3) := by decide +kernel
theorem dX9_init_56 : decode cX9_init 56 = .ok (.aload_n 0, 1) := by decide +kernel
theorem dX9_init_57 : decode cX9_init 57 = .ok (.bipush 60, 2) := by decide +kernel
theorem dX9_init_59 : decode cX9_init 59 = .ok (.newarray .int, 2) := by decide +kernel
theorem dX9_init_61 : decode cX9_init 61 = .ok (.putfield 28, 3) := by decide +kernel
theorem dX9_init_64 : decode cX9_init 64 = .ok (.aload_n 0, 1) := by decide +kernel
theorem dX9_init_65 : decode cX9_init 65 = .ok (.getfield 7, 3) := by decide +kernel
theorem dX9_init_68 : decode cX9_init 68 = .ok (.iconst 0, 1) := by decide +kernel
theorem dX9_init_69 : decode cX9_init 69 = .ok (.bipush 12, 2) := by decide +kernel
theorem dX9_init_71 : decode cX9_init 71 = .ok (.iastore, 1) := by decide +kernel
theorem dX9_init_72 : decode cX9_init 72 = .ok (.iconst 0, 1) := by decide +kernel
theorem dX9_init_73 : decode cX9_init 73 = .ok (.istore_n 1, 1) := by decide +kernel
theorem dX9_init_74 : decode cX9_init 74 = .ok (.iload_n 1, 1) := by decide +kernel
theorem dX9_init_75 : decode cX9_init 75 = .ok (.iconst 3, 1) := by decide +kernel
theorem dX9_init_76 : decode cX9_init 76 = .ok (.if_icmp .ge 20, 3) := by decide +kernel
theorem dX9_init_79 : decode cX9_init 79 = .ok (.aload_n 0, 1) := by decide +kernel
theorem dX9_init_80 : decode cX9_init 80 = .ok (.getfield 7, 3) := by decide +kernel
theorem dX9_init_83 : decode cX9_init 83 = .ok (.iconst 4, 1) := by decide +kernel
theorem dX9_init_84 : decode cX9_init 84 = .ok (.iload_n 1, 1) := by decide +kernel
theorem dX9_init_85 : decode cX9_init 85 = .ok (.iadd, 1) := by decide +kernel
theorem dX9_init_86 : decode cX9_init 86 = .ok (.iconst 2, 1) := by decide +kernel
theorem dX9_init_87 : decode cX9_init 87 = .ok (.iload_n 1, 1) := by decide +kernel
theorem dX9_init_88 : decode cX9_init 88 = .ok (.imul, 1) := by decide +kernel
theorem dX9_init_89 : decode cX9_init 89 = .ok (.iastore, 1) := by decide +kernel
theorem dX9_init_90 : decode cX9_init 90 = .ok (.iinc 1 1, 3) := by decide +kernel
theorem dX9_init_93 : decode cX9_init 93 = .ok (.goto (-19), 3) := by decide +kernel
theorem dX9_init_96 : decode cX9_init 96 = .ok (.return_, 1) := by decide +kernel
theorem dX9_in_0 : decode cX9_in 0 = .ok (.lload_n 0, 1) := by decide +kernel
theorem dX9_in_1 : decode cX9_in 1 = .ok (.lload_n 2, 1) := by decide +kernel
theorem dX9_in_2 : decode cX9_in 2 = .ok (.lcmp, 1) := by decide +kernel
theorem dX9_in_3 : decode cX9_in 3 = .ok (.ifCond .lt 14, 3) := by decide +kernel
theorem dX9_in_6 : decode cX9_in 6 = .ok (.lload_n 0, 1) := by decide +kernel
theorem dX9_in_7 : decode cX9_in 7 = .ok (.lload 4, 2) := by decide +kernel
theorem dX9_in_9 : decode cX9_in 9 = .ok (.lcmp, 1) := by decide +kernel
theorem dX9_in_10 : decode cX9_in 10 = .ok (.ifCond .gt 7, 3) := by decide +kernel
theorem dX9_in_13 : decode cX9_in 13 = .ok (.iconst 1, 1) := by decide +kernel
theorem dX9_in_14 : decode cX9_in 14 = .ok (.goto 4, 3) := by decide +kernel
theorem dX9_in_17 : decode cX9_in 17 = .ok (.iconst 0, 1) := by decide +kernel
theorem dX9_in_18 : decode cX9_in 18 = .ok (.ireturn, 1) := by decide +kernel
theorem dX9_remember_0 : decode cX9_remember 0 = .ok (.iconst 0, 1) := by decide +kernel
theorem dX9_remember_1 : decode cX9_remember 1 = .ok (.istore_n 1, 1) := by decide +kernel
theorem dX9_remember_2 : decode cX9_remember 2 = .ok (.iload_n 1, 1) := by decide +kernel
theorem dX9_remember_3 : decode cX9_remember 3 = .ok (.sipush 230, 3) := by decide +kernel
theorem dX9_remember_6 : decode cX9_remember 6 = .ok (.if_icmp .ge 21, 3) := by decide +kernel
theorem dX9_remember_9 : decode cX9_remember 9 = .ok (.aload_n 0, 1) := by decide +kernel
theorem dX9_remember_10 : decode cX9_remember 10 = .ok (.getfield 13, 3) := by decide +kernel
theorem dX9_remember_13 : decode cX9_remember 13 = .ok (.iload_n 1, 1) := by decide +kernel
theorem dX9_remember_14 : decode cX9_remember 14 = .ok (.aload_n 0, 1) := by decide +kernel
theorem dX9_remember_15 : decode cX9_remember 15 = .ok (.getfield 7, 3) := by decide +kernel
theorem dX9_remember_18 : decode cX9_remember 18 = .ok (.iload_n 1, 1) := by decide +kernel
theorem dX9_remember_19 : decode cX9_remember 19 = .ok (.iaload, 1) := by decide +kernel
theorem dX9_remember_20 : decode cX9_remember 20 = .ok (.iastore, 1) := by decide +kernel
theorem dX9_remember_21 : decode cX9_remember 21 = .ok (.iinc 1 1, 3) := by decide +kernel
theorem dX9_remember_24 : decode cX9_remember 24 = .ok (.goto (-22), 3) := by decide +kernel
theorem dX9_remember_27 : decode cX9_remember 27 = .ok (.return_, 1) := by decide +kernel
theorem dX9_giveBack_0 : decode cX9_giveBack 0 = .ok (.iconst 0, 1) := by decide +kernel
theorem dX9_giveBack_1 : decode cX9_giveBack 1 = .ok (.istore_n 1, 1) := by decide +kernel
theorem dX9_giveBack_2 : decode cX9_giveBack 2 = .ok (.iload_n 1, 1) := by decide +kernel
theorem dX9_giveBack_3 : decode cX9_giveBack 3 = .ok (.sipush 230, 3) := by decide +kernel
theorem dX9_giveBack_6 : decode cX9_giveBack 6 = .ok (.if_icmp .ge 21, 3) := by decide +kernel
theorem dX9_giveBack_9 : decode cX9_giveBack 9 = .ok (.aload_n 0, 1) := by decide +kernel
theorem dX9_giveBack_10 : decode cX9_giveBack 10 = .ok (.getfield 7, 3) := by decide +kernel
theorem dX9_giveBack_13 : decode cX9_giveBack 13 = .ok (.iload_n 1, 1) := by decide +kernel
theorem dX9_giveBack_14 : decode cX9_giveBack 14 = .ok (.aload_n 0, 1) := by decide +kernel
theorem dX9_giveBack_15 : decode cX9_giveBack 15 = .ok (.getfield 13, 3) := by decide +kernel
theorem dX9_giveBack_18 : decode cX9_giveBack 18 = .ok (.iload_n 1, 1) := by decide +kernel
theorem dX9_giveBack_19 : decode cX9_giveBack 19 = .ok (.iaload, 1) := by decide +kernel
theorem dX9_giveBack_20 : decode cX9_giveBack 20 = .ok (.iastore, 1) := by decide +kernel
theorem dX9_giveBack_21 : decode cX9_giveBack 21 = .ok (.iinc 1 1, 3) := by decide +kernel
theorem dX9_giveBack_24 : decode cX9_giveBack 24 = .ok (.goto (-22), 3) := by decide +kernel
theorem dX9_giveBack_27 : decode cX9_giveBack 27 = .ok (.return_, 1) := by decide +kernel
theorem dX9_acted_0 : decode cX9_acted 0 = .ok (.aload_n 0, 1) := by decide +kernel
theorem dX9_acted_1 : decode cX9_acted 1 = .ok (.getfield 31, 3) := by decide +kernel
theorem dX9_acted_4 : decode cX9_acted 4 = .ok (.iconst 4, 1) := by decide +kernel
theorem dX9_acted_5 : decode cX9_acted 5 = .ok (.if_icmp .ne 44, 3) := by decide +kernel
theorem dX9_acted_8 : decode cX9_acted 8 = .ok (.iconst 0, 1) := by decide +kernel
theorem dX9_acted_9 : decode cX9_acted 9 = .ok (.istore_n 2, 1) := by decide +kernel
theorem dX9_acted_10 : decode cX9_acted 10 = .ok (.iload_n 2, 1) := by decide +kernel
theorem dX9_acted_11 : decode cX9_acted 11 = .ok (.sipush 690, 3) := by decide +kernel
theorem dX9_acted_14 : decode cX9_acted 14 = .ok (.if_icmp .ge 25, 3) := by decide +kernel
theorem dX9_acted_17 : decode cX9_acted 17 = .ok (.aload_n 0, 1) := by decide +kernel
theorem dX9_acted_18 : decode cX9_acted 18 = .ok (.getfield 16, 3) := by decide +kernel
theorem dX9_acted_21 : decode cX9_acted 21 = .ok (.iload_n 2, 1) := by decide +kernel
theorem dX9_acted_22 : decode cX9_acted 22 = .ok (.aload_n 0, 1) := by decide +kernel
theorem dX9_acted_23 : decode cX9_acted 23 = .ok (.getfield 16, 3) := by decide +kernel
theorem dX9_acted_26 : decode cX9_acted 26 = .ok (.iload_n 2, 1) := by decide +kernel
theorem dX9_acted_27 : decode cX9_acted 27 = .ok (.sipush 230, 3) := by decide +kernel
theorem dX9_acted_30 : decode cX9_acted 30 = .ok (.iadd, 1) := by decide +kernel
theorem dX9_acted_31 : decode cX9_acted 31 = .ok (.iaload, 1) := by decide +kernel
theorem dX9_acted_32 : decode cX9_acted 32 = .ok (.iastore, 1) := by decide +kernel
theorem dX9_acted_33 : decode cX9_acted 33 = .ok (.iinc 2 1, 3) := by decide +kernel
theorem dX9_acted_36 : decode cX9_acted 36 = .ok (.goto (-26), 3) := by decide +kernel
theorem dX9_acted_39 : decode cX9_acted 39 = .ok (.aload_n 0, 1) := by decide +kernel
theorem dX9_acted_40 : decode cX9_acted 40 = .ok (.dup, 1) := by decide +kernel
theorem dX9_acted_41 : decode cX9_acted 41 = .ok (.getfield 31, 3) := by decide +kernel
theorem dX9_acted_44 : decode cX9_acted 44 = .ok (.iconst 1, 1) := by decide +kernel
theorem dX9_acted_45 : decode cX9_acted 45 = .ok (.isub, 1) := by decide +kernel
theorem dX9_acted_46 : decode cX9_acted 46 = .ok (.putfield 31, 3) := by decide +kernel
theorem dX9_acted_49 : decode cX9_acted 49 = .ok (.iconst 0, 1) := by decide +kernel
theorem dX9_acted_50 : decode cX9_acted 50 = .ok (.istore_n 2, 1) := by decide +kernel
theorem dX9_acted_51 : decode cX9_acted 51 = .ok (.iload_n 2, 1) := by decide +kernel
theorem dX9_acted_52 : decode cX9_acted 52 = .ok (.sipush 230, 3) := by decide +kernel
theorem dX9_acted_55 : decode cX9_acted 55 = .ok (.if_icmp .ge 30, 3) := by decide +kernel
theorem dX9_acted_58 : decode cX9_acted 58 = .ok (.aload_n 0, 1) := by decide +kernel
theorem dX9_acted_59 : decode cX9_acted 59 = .ok (.getfield 16, 3) := by decide +kernel
theorem dX9_acted_62 : decode cX9_acted 62 = .ok (.sipush 230, 3) := by decide +kernel
theorem dX9_acted_65 : decode cX9_acted 65 = .ok (.aload_n 0, 1) := by decide +kernel
theorem dX9_acted_66 : decode cX9_acted 66 = .ok (.getfield 31, 3) := by decide +kernel
theorem dX9_acted_69 : decode cX9_acted 69 = .ok (.imul, 1) := by decide +kernel
theorem dX9_acted_70 : decode cX9_acted 70 = .ok (.iload_n 2, 1) := by decide +kernel
theorem dX9_acted_71 : decode cX9_acted 71 = .ok (.iadd, 1) := by decide +kernel
theorem dX9_acted_72 : decode cX9_acted 72 = .ok (.aload_n 0, 1) := by decide +kernel
theorem dX9_acted_73 : decode cX9_acted 73 = .ok (.getfield 13, 3) := by decide +kernel
theorem dX9_acted_76 : decode cX9_acted 76 = .ok (.iload_n 2, 1) := by decide +kernel
theorem dX9_acted_77 : decode cX9_acted 77 = .ok (.iaload, 1) := by decide +kernel
theorem dX9_acted_78 : decode cX9_acted 78 = .ok (.iastore, 1) := by decide +kernel
theorem dX9_acted_79 : decode cX9_acted 79 = .ok (.iinc 2 1, 3) := by decide +kernel
theorem dX9_acted_82 : decode cX9_acted 82 = .ok (.goto (-31), 3) := by decide +kernel
theorem dX9_acted_85 : decode cX9_acted 85 = .ok (.aload_n 0, 1) := by decide +kernel
theorem dX9_acted_86 : decode cX9_acted 86 = .ok (.dup, 1) := by decide +kernel
theorem dX9_acted_87 : decode cX9_acted 87 = .ok (.getfield 31, 3) := by decide +kernel
theorem dX9_acted_90 : decode cX9_acted 90 = .ok (.iconst 1, 1) := by decide +kernel
theorem dX9_acted_91 : decode cX9_acted 91 = .ok (.iadd, 1) := by decide +kernel
theorem dX9_acted_92 : decode cX9_acted 92 = .ok (.putfield 31, 3) := by decide +kernel
theorem dX9_acted_95 : decode cX9_acted 95 = .ok (.iload_n 1, 1) := by decide +kernel
theorem dX9_acted_96 : decode cX9_acted 96 = .ok (.ireturn, 1) := by decide +kernel
theorem dX9_bits_0 : decode cX9_bits 0 = .ok (.iconst 0, 1) := by decide +kernel
theorem dX9_bits_1 : decode cX9_bits 1 = .ok (.istore_n 1, 1) := by decide +kernel
theorem dX9_bits_2 : decode cX9_bits 2 = .ok (.iload_n 0, 1) := by decide +kernel
theorem dX9_bits_3 : decode cX9_bits 3 = .ok (.istore_n 2, 1) := by decide +kernel
theorem dX9_bits_4 : decode cX9_bits 4 = .ok (.iload_n 2, 1) := by decide +kernel
theorem dX9_bits_5 : decode cX9_bits 5 = .ok (.ifCond .eq 15, 3) := by decide +kernel
theorem dX9_bits_8 : decode cX9_bits 8 = .ok (.iinc 1 1, 3) := by decide +kernel
theorem dX9_bits_11 : decode cX9_bits 11 = .ok (.iload_n 2, 1) := by decide +kernel
theorem dX9_bits_12 : decode cX9_bits 12 = .ok (.iload_n 2, 1) := by decide +kernel
theorem dX9_bits_13 : decode cX9_bits 13 = .ok (.iconst 1, 1) := by decide +kernel
theorem dX9_bits_14 : decode cX9_bits 14 = .ok (.isub, 1) := by decide +kernel
theorem dX9_bits_15 : decode cX9_bits 15 = .ok (.iand, 1) := by decide +kernel
theorem dX9_bits_16 : decode cX9_bits 16 = .ok (.istore_n 2, 1) := by decide +kernel
theorem dX9_bits_17 : decode cX9_bits 17 = .ok (.goto (-13), 3) := by decide +kernel
theorem dX9_bits_20 : decode cX9_bits 20 = .ok (.iload_n 1, 1) := by decide +kernel
theorem dX9_bits_21 : decode cX9_bits 21 = .ok (.ireturn, 1) := by decide +kernel
theorem dX9_isPanel_0 : decode cX9_isPanel 0 = .ok (.iload_n 0, 1) := by decide +kernel
theorem dX9_isPanel_1 : decode cX9_isPanel 1 = .ok (.i2l, 1) := by decide +kernel
theorem dX9_isPanel_2 : decode cX9_isPanel 2 = .ok (.lconst 0, 1) := by decide +kernel
theorem dX9_isPanel_3 : decode cX9_isPanel 3 = .ok (.ldc2_w 35, 3) := by decide +kernel
theorem dX9_isPanel_6 : decode cX9_isPanel 6 = .ok (.invokestatic 37, 3) := by decide +kernel
theorem dX9_isPanel_9 : decode cX9_isPanel 9 = .ok (.ireturn, 1) := by decide +kernel
theorem dX9_isFront_0 : decode cX9_isFront 0 = .ok (.aload_n 0, 1) := by decide +kernel
theorem dX9_isFront_1 : decode cX9_isFront 1 = .ok (.getfield 7, 3) := by decide +kernel
theorem dX9_isFront_4 : decode cX9_isFront 4 = .ok (.iconst 4, 1) := by decide +kernel
theorem dX9_isFront_5 : decode cX9_isFront 5 = .ok (.iload_n 1, 1) := by decide +kernel
theorem dX9_isFront_6 : decode cX9_isFront 6 = .ok (.iconst 2, 1) := by decide +kernel
theorem dX9_isFront_7 : decode cX9_isFront 7 = .ok (.idiv, 1) := by decide +kernel
theorem dX9_isFront_8 : decode cX9_isFront 8 = .ok (.iadd, 1) := by decide +kernel
theorem dX9_isFront_9 : decode cX9_isFront 9 = .ok (.iaload, 1) := by decide +kernel
theorem dX9_isFront_10 : decode cX9_isFront 10 = .ok (.iload_n 1, 1) := by decide +kernel
theorem dX9_isFront_11 : decode cX9_isFront 11 = .ok (.if_icmp .ne 7, 3) := by decide +kernel
theorem dX9_isFront_14 : decode cX9_isFront 14 = .ok (.iconst 1, 1) := by decide +kernel
theorem dX9_isFront_15 : decode cX9_isFront 15 = .ok (.goto 4, 3) := by decide +kernel
theorem dX9_isFront_18 : decode cX9_isFront 18 = .ok (.iconst 0, 1) := by decide +kernel
theorem dX9_isFront_19 : decode cX9_isFront 19 = .ok (.ireturn, 1) := by decide +kernel
theorem dX9_isPinned_0 : decode cX9_isPinned 0 = .ok (.aload_n 0, 1) := by decide +kernel
theorem dX9_isPinned_1 : decode cX9_isPinned 1 = .ok (.getfield 7, 3) := by decide +kernel
theorem dX9_isPinned_4 : decode cX9_isPinned 4 = .ok (.bipush 7, 2) := by decide +kernel
theorem dX9_isPinned_6 : decode cX9_isPinned 6 = .ok (.iaload, 1) := by decide +kernel
theorem dX9_isPinned_7 : decode cX9_isPinned 7 = .ok (.iload_n 1, 1) := by decide +kernel
theorem dX9_isPinned_8 : decode cX9_isPinned 8 = .ok (.ishr, 1) := by decide +kernel
theorem dX9_isPinned_9 : decode cX9_isPinned 9 = .ok (.iconst 1, 1) := by decide +kernel
theorem dX9_isPinned_10 : decode cX9_isPinned 10 = .ok (.iand, 1) := by decide +kernel
theorem dX9_isPinned_11 : decode cX9_isPinned 11 = .ok (.iconst 1, 1) := by decide +kernel
theorem dX9_isPinned_12 : decode cX9_isPinned 12 = .ok (.if_icmp .ne 7, 3) := by decide +kernel
theorem dX9_isPinned_15 : decode cX9_isPinned 15 = .ok (.iconst 1, 1) := by decide +kernel
theorem dX9_isPinned_16 : decode cX9_isPinned 16 = .ok (.goto 4, 3) := by decide +kernel
theorem dX9_isPinned_19 : decode cX9_isPinned 19 = .ok (.iconst 0, 1) := by decide +kernel
theorem dX9_isPinned_20 : decode cX9_isPinned 20 = .ok (.ireturn, 1) := by decide +kernel
theorem dX9_linesOn_0 : decode cX9_linesOn 0 = .ok (.iconst 0, 1) := by decide +kernel
theorem dX9_linesOn_1 : decode cX9_linesOn 1 = .ok (.istore_n 2, 1) := by decide +kernel
theorem dX9_linesOn_2 : decode cX9_linesOn 2 = .ok (.iconst 0, 1) := by decide +kernel
theorem dX9_linesOn_3 : decode cX9_linesOn 3 = .ok (.istore_n 3, 1) := by decide +kernel
theorem dX9_linesOn_4 : decode cX9_linesOn 4 = .ok (.iload_n 3, 1) := by decide +kernel
theorem dX9_linesOn_5 : decode cX9_linesOn 5 = .ok (.aload_n 0, 1) := by decide +kernel
theorem dX9_linesOn_6 : decode cX9_linesOn 6 = .ok (.getfield 7, 3) := by decide +kernel
theorem dX9_linesOn_9 : decode cX9_linesOn 9 = .ok (.iconst 1, 1) := by decide +kernel
theorem dX9_linesOn_10 : decode cX9_linesOn 10 = .ok (.iaload, 1) := by decide +kernel
theorem dX9_linesOn_11 : decode cX9_linesOn 11 = .ok (.if_icmp .ge 42, 3) := by decide +kernel
theorem dX9_linesOn_14 : decode cX9_linesOn 14 = .ok (.iload_n 2, 1) := by decide +kernel
theorem dX9_linesOn_15 : decode cX9_linesOn 15 = .ok (.aload_n 0, 1) := by decide +kernel
theorem dX9_linesOn_16 : decode cX9_linesOn 16 = .ok (.getfield 7, 3) := by decide +kernel
theorem dX9_linesOn_19 : decode cX9_linesOn 19 = .ok (.bipush 17, 2) := by decide +kernel
theorem dX9_linesOn_21 : decode cX9_linesOn 21 = .ok (.iload_n 1, 1) := by decide +kernel
theorem dX9_linesOn_22 : decode cX9_linesOn 22 = .ok (.iadd, 1) := by decide +kernel
theorem dX9_linesOn_23 : decode cX9_linesOn 23 = .ok (.iaload, 1) := by decide +kernel
theorem dX9_linesOn_24 : decode cX9_linesOn 24 = .ok (.iload_n 3, 1) := by decide +kernel
theorem dX9_linesOn_25 : decode cX9_linesOn 25 = .ok (.ishr, 1) := by decide +kernel
theorem dX9_linesOn_26 : decode cX9_linesOn 26 = .ok (.iconst 1, 1) := by decide +kernel
theorem dX9_linesOn_27 : decode cX9_linesOn 27 = .ok (.iand, 1) := by decide +kernel
theorem dX9_linesOn_28 : decode cX9_linesOn 28 = .ok (.iconst 1, 1) := by decide +kernel
theorem dX9_linesOn_29 : decode cX9_linesOn 29 = .ok (.if_icmp .ne 15, 3) := by decide +kernel
theorem dX9_linesOn_32 : decode cX9_linesOn 32 = .ok (.aload_n 0, 1) := by decide +kernel
theorem dX9_linesOn_33 : decode cX9_linesOn 33 = .ok (.getfield 7, 3) := by decide +kernel
theorem dX9_linesOn_36 : decode cX9_linesOn 36 = .ok (.bipush 109, 2) := by decide +kernel
theorem dX9_linesOn_38 : decode cX9_linesOn 38 = .ok (.iload_n 3, 1) := by decide +kernel
theorem dX9_linesOn_39 : decode cX9_linesOn 39 = .ok (.iadd, 1) := by decide +kernel
theorem dX9_linesOn_40 : decode cX9_linesOn 40 = .ok (.iaload, 1) := by decide +kernel
theorem dX9_linesOn_41 : decode cX9_linesOn 41 = .ok (.goto 4, 3) := by decide +kernel
theorem dX9_linesOn_44 : decode cX9_linesOn 44 = .ok (.iconst 0, 1) := by decide +kernel
theorem dX9_linesOn_45 : decode cX9_linesOn 45 = .ok (.iadd, 1) := by decide +kernel
theorem dX9_linesOn_46 : decode cX9_linesOn 46 = .ok (.istore_n 2, 1) := by decide +kernel
theorem dX9_linesOn_47 : decode cX9_linesOn 47 = .ok (.iinc 3 1, 3) := by decide +kernel
theorem dX9_linesOn_50 : decode cX9_linesOn 50 = .ok (.goto (-46), 3) := by decide +kernel
theorem dX9_linesOn_53 : decode cX9_linesOn 53 = .ok (.iload_n 2, 1) := by decide +kernel
theorem dX9_linesOn_54 : decode cX9_linesOn 54 = .ok (.ireturn, 1) := by decide +kernel
theorem dX9_panelOf_0 : decode cX9_panelOf 0 = .ok (.iconst 0, 1) := by decide +kernel
theorem dX9_panelOf_1 : decode cX9_panelOf 1 = .ok (.istore_n 2, 1) := by decide +kernel
theorem dX9_panelOf_2 : decode cX9_panelOf 2 = .ok (.iload_n 2, 1) := by decide +kernel
theorem dX9_panelOf_3 : decode cX9_panelOf 3 = .ok (.bipush 6, 2) := by decide +kernel
theorem dX9_panelOf_5 : decode cX9_panelOf 5 = .ok (.if_icmp .ge 28, 3) := by decide +kernel
theorem dX9_panelOf_8 : decode cX9_panelOf 8 = .ok (.aload_n 0, 1) := by decide +kernel
theorem dX9_panelOf_9 : decode cX9_panelOf 9 = .ok (.getfield 7, 3) := by decide +kernel
theorem dX9_panelOf_12 : decode cX9_panelOf 12 = .ok (.bipush 17, 2) := by decide +kernel
theorem dX9_panelOf_14 : decode cX9_panelOf 14 = .ok (.iload_n 2, 1) := by decide +kernel
theorem dX9_panelOf_15 : decode cX9_panelOf 15 = .ok (.iadd, 1) := by decide +kernel
theorem dX9_panelOf_16 : decode cX9_panelOf 16 = .ok (.iaload, 1) := by decide +kernel
theorem dX9_panelOf_17 : decode cX9_panelOf 17 = .ok (.iload_n 1, 1) := by decide +kernel
theorem dX9_panelOf_18 : decode cX9_panelOf 18 = .ok (.ishr, 1) := by decide +kernel
theorem dX9_panelOf_19 : decode cX9_panelOf 19 = .ok (.iconst 1, 1) := by decide +kernel
theorem dX9_panelOf_20 : decode cX9_panelOf 20 = .ok (.iand, 1) := by decide +kernel
theorem dX9_panelOf_21 : decode cX9_panelOf 21 = .ok (.iconst 1, 1) := by decide +kernel
theorem dX9_panelOf_22 : decode cX9_panelOf 22 = .ok (.if_icmp .ne 5, 3) := by decide +kernel
theorem dX9_panelOf_25 : decode cX9_panelOf 25 = .ok (.iload_n 2, 1) := by decide +kernel
theorem dX9_panelOf_26 : decode cX9_panelOf 26 = .ok (.ireturn, 1) := by decide +kernel
theorem dX9_panelOf_27 : decode cX9_panelOf 27 = .ok (.iinc 2 1, 3) := by decide +kernel
theorem dX9_panelOf_30 : decode cX9_panelOf 30 = .ok (.goto (-28), 3) := by decide +kernel
theorem dX9_panelOf_33 : decode cX9_panelOf 33 = .ok (.bipush (-5), 2) := by decide +kernel
theorem dX9_panelOf_35 : decode cX9_panelOf 35 = .ok (.ireturn, 1) := by decide +kernel
theorem dX9_onPhotos_0 : decode cX9_onPhotos 0 = .ok (.iconst 0, 1) := by decide +kernel
theorem dX9_onPhotos_1 : decode cX9_onPhotos 1 = .ok (.istore_n 1, 1) := by decide +kernel
theorem dX9_onPhotos_2 : decode cX9_onPhotos 2 = .ok (.iconst 0, 1) := by decide +kernel
theorem dX9_onPhotos_3 : decode cX9_onPhotos 3 = .ok (.istore_n 2, 1) := by decide +kernel
theorem dX9_onPhotos_4 : decode cX9_onPhotos 4 = .ok (.iload_n 2, 1) := by decide +kernel
theorem dX9_onPhotos_5 : decode cX9_onPhotos 5 = .ok (.aload_n 0, 1) := by decide +kernel
theorem dX9_onPhotos_6 : decode cX9_onPhotos 6 = .ok (.getfield 7, 3) := by decide +kernel
theorem dX9_onPhotos_9 : decode cX9_onPhotos 9 = .ok (.bipush 10, 2) := by decide +kernel
theorem dX9_onPhotos_11 : decode cX9_onPhotos 11 = .ok (.iaload, 1) := by decide +kernel
theorem dX9_onPhotos_12 : decode cX9_onPhotos 12 = .ok (.if_icmp .ge 21, 3) := by decide +kernel
theorem dX9_onPhotos_15 : decode cX9_onPhotos 15 = .ok (.iload_n 1, 1) := by decide +kernel
theorem dX9_onPhotos_16 : decode cX9_onPhotos 16 = .ok (.aload_n 0, 1) := by decide +kernel
theorem dX9_onPhotos_17 : decode cX9_onPhotos 17 = .ok (.getfield 7, 3) := by decide +kernel
theorem dX9_onPhotos_20 : decode cX9_onPhotos 20 = .ok (.bipush 69, 2) := by decide +kernel
theorem dX9_onPhotos_22 : decode cX9_onPhotos 22 = .ok (.iload_n 2, 1) := by decide +kernel
theorem dX9_onPhotos_23 : decode cX9_onPhotos 23 = .ok (.iadd, 1) := by decide +kernel
theorem dX9_onPhotos_24 : decode cX9_onPhotos 24 = .ok (.iaload, 1) := by decide +kernel
theorem dX9_onPhotos_25 : decode cX9_onPhotos 25 = .ok (.ior, 1) := by decide +kernel
theorem dX9_onPhotos_26 : decode cX9_onPhotos 26 = .ok (.istore_n 1, 1) := by decide +kernel
theorem dX9_onPhotos_27 : decode cX9_onPhotos 27 = .ok (.iinc 2 1, 3) := by decide +kernel
theorem dX9_onPhotos_30 : decode cX9_onPhotos 30 = .ok (.goto (-26), 3) := by decide +kernel
theorem dX9_onPhotos_33 : decode cX9_onPhotos 33 = .ok (.iload_n 1, 1) := by decide +kernel
theorem dX9_onPhotos_34 : decode cX9_onPhotos 34 = .ok (.ireturn, 1) := by decide +kernel
theorem dX9_isOnPhoto_0 : decode cX9_isOnPhoto 0 = .ok (.aload_n 0, 1) := by decide +kernel
theorem dX9_isOnPhoto_1 : decode cX9_isOnPhoto 1 = .ok (.invokevirtual 41, 3) := by decide +kernel
theorem dX9_isOnPhoto_4 : decode cX9_isOnPhoto 4 = .ok (.iload_n 1, 1) := by decide +kernel
theorem dX9_isOnPhoto_5 : decode cX9_isOnPhoto 5 = .ok (.ishr, 1) := by decide +kernel
theorem dX9_isOnPhoto_6 : decode cX9_isOnPhoto 6 = .ok (.iconst 1, 1) := by decide +kernel
theorem dX9_isOnPhoto_7 : decode cX9_isOnPhoto 7 = .ok (.iand, 1) := by decide +kernel
theorem dX9_isOnPhoto_8 : decode cX9_isOnPhoto 8 = .ok (.iconst 1, 1) := by decide +kernel
theorem dX9_isOnPhoto_9 : decode cX9_isOnPhoto 9 = .ok (.if_icmp .ne 7, 3) := by decide +kernel
theorem dX9_isOnPhoto_12 : decode cX9_isOnPhoto 12 = .ok (.iconst 1, 1) := by decide +kernel
theorem dX9_isOnPhoto_13 : decode cX9_isOnPhoto 13 = .ok (.goto 4, 3) := by decide +kernel
theorem dX9_isOnPhoto_16 : decode cX9_isOnPhoto 16 = .ok (.iconst 0, 1) := by decide +kernel
theorem dX9_isOnPhoto_17 : decode cX9_isOnPhoto 17 = .ok (.ireturn, 1) := by decide +kernel
theorem dX9_pulls_0 : decode cX9_pulls 0 = .ok (.aload_n 0, 1) := by decide +kernel
theorem dX9_pulls_1 : decode cX9_pulls 1 = .ok (.getfield 7, 3) := by decide +kernel
theorem dX9_pulls_4 : decode cX9_pulls 4 = .ok (.iconst 4, 1) := by decide +kernel
theorem dX9_pulls_5 : decode cX9_pulls 5 = .ok (.iload_n 1, 1) := by decide +kernel
theorem dX9_pulls_6 : decode cX9_pulls 6 = .ok (.iadd, 1) := by decide +kernel
theorem dX9_pulls_7 : decode cX9_pulls 7 = .ok (.dup2, 1) := by decide +kernel
theorem dX9_pulls_8 : decode cX9_pulls 8 = .ok (.iaload, 1) := by decide +kernel
theorem dX9_pulls_9 : decode cX9_pulls 9 = .ok (.iconst 1, 1) := by decide +kernel
theorem dX9_pulls_10 : decode cX9_pulls 10 = .ok (.ixor, 1) := by decide +kernel
theorem dX9_pulls_11 : decode cX9_pulls 11 = .ok (.iastore, 1) := by decide +kernel
theorem dX9_pulls_12 : decode cX9_pulls 12 = .ok (.aload_n 0, 1) := by decide +kernel
theorem dX9_pulls_13 : decode cX9_pulls 13 = .ok (.getfield 7, 3) := by decide +kernel
theorem dX9_pulls_16 : decode cX9_pulls 16 = .ok (.bipush 8, 2) := by decide +kernel
theorem dX9_pulls_18 : decode cX9_pulls 18 = .ok (.dup2, 1) := by decide +kernel
theorem dX9_pulls_19 : decode cX9_pulls 19 = .ok (.iaload, 1) := by decide +kernel
theorem dX9_pulls_20 : decode cX9_pulls 20 = .ok (.iconst 1, 1) := by decide +kernel
theorem dX9_pulls_21 : decode cX9_pulls 21 = .ok (.iadd, 1) := by decide +kernel
theorem dX9_pulls_22 : decode cX9_pulls 22 = .ok (.iastore, 1) := by decide +kernel
theorem dX9_pulls_23 : decode cX9_pulls 23 = .ok (.return_, 1) := by decide +kernel
theorem dX9_wipes_0 : decode cX9_wipes 0 = .ok (.aload_n 0, 1) := by decide +kernel
theorem dX9_wipes_1 : decode cX9_wipes 1 = .ok (.getfield 7, 3) := by decide +kernel
theorem dX9_wipes_4 : decode cX9_wipes 4 = .ok (.bipush 17, 2) := by decide +kernel
theorem dX9_wipes_6 : decode cX9_wipes 6 = .ok (.iload_n 1, 1) := by decide +kernel
theorem dX9_wipes_7 : decode cX9_wipes 7 = .ok (.iadd, 1) := by decide +kernel
theorem dX9_wipes_8 : decode cX9_wipes 8 = .ok (.iconst 0, 1) := by decide +kernel
theorem dX9_wipes_9 : decode cX9_wipes 9 = .ok (.iastore, 1) := by decide +kernel
theorem dX9_wipes_10 : decode cX9_wipes 10 = .ok (.aload_n 0, 1) := by decide +kernel
theorem dX9_wipes_11 : decode cX9_wipes 11 = .ok (.getfield 7, 3) := by decide +kernel
theorem dX9_wipes_14 : decode cX9_wipes 14 = .ok (.bipush 23, 2) := by decide +kernel
theorem dX9_wipes_16 : decode cX9_wipes 16 = .ok (.iload_n 1, 1) := by decide +kernel
theorem dX9_wipes_17 : decode cX9_wipes 17 = .ok (.iadd, 1) := by decide +kernel
theorem dX9_wipes_18 : decode cX9_wipes 18 = .ok (.dup2, 1) := by decide +kernel
theorem dX9_wipes_19 : decode cX9_wipes 19 = .ok (.iaload, 1) := by decide +kernel
theorem dX9_wipes_20 : decode cX9_wipes 20 = .ok (.iconst 1, 1) := by decide +kernel
theorem dX9_wipes_21 : decode cX9_wipes 21 = .ok (.iadd, 1) := by decide +kernel
theorem dX9_wipes_22 : decode cX9_wipes 22 = .ok (.iastore, 1) := by decide +kernel
theorem dX9_wipes_23 : decode cX9_wipes 23 = .ok (.aload_n 0, 1) := by decide +kernel
theorem dX9_wipes_24 : decode cX9_wipes 24 = .ok (.getfield 7, 3) := by decide +kernel
theorem dX9_wipes_27 : decode cX9_wipes 27 = .ok (.bipush 9, 2) := by decide +kernel
theorem dX9_wipes_29 : decode cX9_wipes 29 = .ok (.dup2, 1) := by decide +kernel
theorem dX9_wipes_30 : decode cX9_wipes 30 = .ok (.iaload, 1) := by decide +kernel
theorem dX9_wipes_31 : decode cX9_wipes 31 = .ok (.iconst 1, 1) := by decide +kernel
theorem dX9_wipes_32 : decode cX9_wipes 32 = .ok (.iadd, 1) := by decide +kernel
theorem dX9_wipes_33 : decode cX9_wipes 33 = .ok (.iastore, 1) := by decide +kernel
theorem dX9_wipes_34 : decode cX9_wipes 34 = .ok (.return_, 1) := by decide +kernel
theorem dX9_panelForNext_0 : decode cX9_panelForNext 0 = .ok (.aload_n 0, 1) := by decide +kernel
theorem dX9_panelForNext_1 : decode cX9_panelForNext 1 = .ok (.getfield 7, 3) := by decide +kernel
theorem dX9_panelForNext_4 : decode cX9_panelForNext 4 = .ok (.iconst 3, 1) := by decide +kernel
theorem dX9_panelForNext_5 : decode cX9_panelForNext 5 = .ok (.iaload, 1) := by decide +kernel
theorem dX9_panelForNext_6 : decode cX9_panelForNext 6 = .ok (.istore_n 1, 1) := by decide +kernel
theorem dX9_panelForNext_7 : decode cX9_panelForNext 7 = .ok (.aload_n 0, 1) := by decide +kernel
theorem dX9_panelForNext_8 : decode cX9_panelForNext 8 = .ok (.iload_n 1, 1) := by decide +kernel
theorem dX9_panelForNext_9 : decode cX9_panelForNext 9 = .ok (.invokevirtual 45, 3) := by decide +kernel
theorem dX9_panelForNext_12 : decode cX9_panelForNext 12 = .ok (.aload_n 0, 1) := by decide +kernel
theorem dX9_panelForNext_13 : decode cX9_panelForNext 13 = .ok (.getfield 7, 3) := by decide +kernel
theorem dX9_panelForNext_16 : decode cX9_panelForNext 16 = .ok (.bipush 109, 2) := by decide +kernel
theorem dX9_panelForNext_18 : decode cX9_panelForNext 18 = .ok (.aload_n 0, 1) := by decide +kernel
theorem dX9_panelForNext_19 : decode cX9_panelForNext 19 = .ok (.getfield 7, 3) := by decide +kernel
theorem dX9_panelForNext_22 : decode cX9_panelForNext 22 = .ok (.iconst 2, 1) := by decide +kernel
theorem dX9_panelForNext_23 : decode cX9_panelForNext 23 = .ok (.iaload, 1) := by decide +kernel
theorem dX9_panelForNext_24 : decode cX9_panelForNext 24 = .ok (.iadd, 1) := by decide +kernel
theorem dX9_panelForNext_25 : decode cX9_panelForNext 25 = .ok (.iaload, 1) := by decide +kernel
theorem dX9_panelForNext_26 : decode cX9_panelForNext 26 = .ok (.iadd, 1) := by decide +kernel
theorem dX9_panelForNext_27 : decode cX9_panelForNext 27 = .ok (.aload_n 0, 1) := by decide +kernel
theorem dX9_panelForNext_28 : decode cX9_panelForNext 28 = .ok (.getfield 7, 3) := by decide +kernel
theorem dX9_panelForNext_31 : decode cX9_panelForNext 31 = .ok (.iconst 0, 1) := by decide +kernel
theorem dX9_panelForNext_32 : decode cX9_panelForNext 32 = .ok (.iaload, 1) := by decide +kernel
theorem dX9_panelForNext_33 : decode cX9_panelForNext 33 = .ok (.if_icmp .gt 5, 3) := by decide +kernel
theorem dX9_panelForNext_36 : decode cX9_panelForNext 36 = .ok (.iload_n 1, 1) := by decide +kernel
theorem dX9_panelForNext_37 : decode cX9_panelForNext 37 = .ok (.ireturn, 1) := by decide +kernel
theorem dX9_panelForNext_38 : decode cX9_panelForNext 38 = .ok (.iconst 1, 1) := by decide +kernel
theorem dX9_panelForNext_39 : decode cX9_panelForNext 39 = .ok (.istore_n 2, 1) := by decide +kernel
theorem dX9_panelForNext_40 : decode cX9_panelForNext 40 = .ok (.iload_n 2, 1) := by decide +kernel
theorem dX9_panelForNext_41 : decode cX9_panelForNext 41 = .ok (.bipush 6, 2) := by decide +kernel
theorem dX9_panelForNext_43 : decode cX9_panelForNext 43 = .ok (.if_icmp .ge 26, 3) := by decide +kernel
theorem dX9_panelForNext_46 : decode cX9_panelForNext 46 = .ok (.iload_n 1, 1) := by decide +kernel
theorem dX9_panelForNext_47 : decode cX9_panelForNext 47 = .ok (.iload_n 2, 1) := by decide +kernel
theorem dX9_panelForNext_48 : decode cX9_panelForNext 48 = .ok (.iadd, 1) := by decide +kernel
theorem dX9_panelForNext_49 : decode cX9_panelForNext 49 = .ok (.bipush 6, 2) := by decide +kernel
theorem dX9_panelForNext_51 : decode cX9_panelForNext 51 = .ok (.irem, 1) := by decide +kernel
theorem dX9_panelForNext_52 : decode cX9_panelForNext 52 = .ok (.istore_n 3, 1) := by decide +kernel
theorem dX9_panelForNext_53 : decode cX9_panelForNext 53 = .ok (.aload_n 0, 1) := by decide +kernel
theorem dX9_panelForNext_54 : decode cX9_panelForNext 54 = .ok (.iload_n 3, 1) := by decide +kernel
theorem dX9_panelForNext_55 : decode cX9_panelForNext 55 = .ok (.invokevirtual 49, 3) := by decide +kernel
theorem dX9_panelForNext_58 : decode cX9_panelForNext 58 = .ok (.ifCond .ne 5, 3) := by decide +kernel
theorem dX9_panelForNext_61 : decode cX9_panelForNext 61 = .ok (.iload_n 3, 1) := by decide +kernel
theorem dX9_panelForNext_62 : decode cX9_panelForNext 62 = .ok (.ireturn, 1) := by decide +kernel
theorem dX9_panelForNext_63 : decode cX9_panelForNext 63 = .ok (.iinc 2 1, 3) := by decide +kernel
theorem dX9_panelForNext_66 : decode cX9_panelForNext 66 = .ok (.goto (-26), 3) := by decide +kernel
theorem dX9_panelForNext_69 : decode cX9_panelForNext 69 = .ok (.bipush (-5), 2) := by decide +kernel
theorem dX9_panelForNext_71 : decode cX9_panelForNext 71 = .ok (.ireturn, 1) := by decide +kernel
theorem dX9_looksAt_0 : decode cX9_looksAt 0 = .ok (.aload_n 0, 1) := by decide +kernel
theorem dX9_looksAt_1 : decode cX9_looksAt 1 = .ok (.iload_n 1, 1) := by decide +kernel
theorem dX9_looksAt_2 : decode cX9_looksAt 2 = .ok (.invokevirtual 53, 3) := by decide +kernel
theorem dX9_looksAt_5 : decode cX9_looksAt 5 = .ok (.istore_n 2, 1) := by decide +kernel
theorem dX9_looksAt_6 : decode cX9_looksAt 6 = .ok (.aload_n 0, 1) := by decide +kernel
theorem dX9_looksAt_7 : decode cX9_looksAt 7 = .ok (.getfield 7, 3) := by decide +kernel
theorem dX9_looksAt_10 : decode cX9_looksAt 10 = .ok (.sipush 199, 3) := by decide +kernel
theorem dX9_looksAt_13 : decode cX9_looksAt 13 = .ok (.iload_n 1, 1) := by decide +kernel
theorem dX9_looksAt_14 : decode cX9_looksAt 14 = .ok (.iadd, 1) := by decide +kernel
theorem dX9_looksAt_15 : decode cX9_looksAt 15 = .ok (.dup2, 1) := by decide +kernel
theorem dX9_looksAt_16 : decode cX9_looksAt 16 = .ok (.iaload, 1) := by decide +kernel
theorem dX9_looksAt_17 : decode cX9_looksAt 17 = .ok (.iconst 1, 1) := by decide +kernel
theorem dX9_looksAt_18 : decode cX9_looksAt 18 = .ok (.iadd, 1) := by decide +kernel
theorem dX9_looksAt_19 : decode cX9_looksAt 19 = .ok (.iastore, 1) := by decide +kernel
theorem dX9_looksAt_20 : decode cX9_looksAt 20 = .ok (.iload_n 2, 1) := by decide +kernel
theorem dX9_looksAt_21 : decode cX9_looksAt 21 = .ok (.bipush (-5), 2) := by decide +kernel
theorem dX9_looksAt_23 : decode cX9_looksAt 23 = .ok (.if_icmp .ne 30, 3) := by decide +kernel
theorem dX9_looksAt_26 : decode cX9_looksAt 26 = .ok (.aload_n 0, 1) := by decide +kernel
theorem dX9_looksAt_27 : decode cX9_looksAt 27 = .ok (.getfield 7, 3) := by decide +kernel
theorem dX9_looksAt_30 : decode cX9_looksAt 30 = .ok (.aload_n 0, 1) := by decide +kernel
theorem dX9_looksAt_31 : decode cX9_looksAt 31 = .ok (.iload_n 1, 1) := by decide +kernel
theorem dX9_looksAt_32 : decode cX9_looksAt 32 = .ok (.invokevirtual 56, 3) := by decide +kernel
theorem dX9_looksAt_35 : decode cX9_looksAt 35 = .ok (.ifCond .eq 8, 3) := by decide +kernel
theorem dX9_looksAt_38 : decode cX9_looksAt 38 = .ok (.bipush 12, 2) := by decide +kernel
theorem dX9_looksAt_40 : decode cX9_looksAt 40 = .ok (.goto 5, 3) := by decide +kernel
theorem dX9_looksAt_43 : decode cX9_looksAt 43 = .ok (.bipush 13, 2) := by decide +kernel
theorem dX9_looksAt_45 : decode cX9_looksAt 45 = .ok (.dup2, 1) := by decide +kernel
theorem dX9_looksAt_46 : decode cX9_looksAt 46 = .ok (.iaload, 1) := by decide +kernel
theorem dX9_looksAt_47 : decode cX9_looksAt 47 = .ok (.iconst 1, 1) := by decide +kernel
theorem dX9_looksAt_48 : decode cX9_looksAt 48 = .ok (.iadd, 1) := by decide +kernel
theorem dX9_looksAt_49 : decode cX9_looksAt 49 = .ok (.iastore, 1) := by decide +kernel
theorem dX9_looksAt_50 : decode cX9_looksAt 50 = .ok (.goto 46, 3) := by decide +kernel
theorem dX9_looksAt_53 : decode cX9_looksAt 53 = .ok (.aload_n 0, 1) := by decide +kernel
theorem dX9_looksAt_54 : decode cX9_looksAt 54 = .ok (.iload_n 2, 1) := by decide +kernel
theorem dX9_looksAt_55 : decode cX9_looksAt 55 = .ok (.invokevirtual 59, 3) := by decide +kernel
theorem dX9_looksAt_58 : decode cX9_looksAt 58 = .ok (.ifCond .ne 38, 3) := by decide +kernel
theorem dX9_looksAt_61 : decode cX9_looksAt 61 = .ok (.iload_n 2, 1) := by decide +kernel
theorem dX9_looksAt_62 : decode cX9_looksAt 62 = .ok (.iconst 2, 1) := by decide +kernel
theorem dX9_looksAt_63 : decode cX9_looksAt 63 = .ok (.idiv, 1) := by decide +kernel
theorem dX9_looksAt_64 : decode cX9_looksAt 64 = .ok (.aload_n 0, 1) := by decide +kernel
theorem dX9_looksAt_65 : decode cX9_looksAt 65 = .ok (.getfield 7, 3) := by decide +kernel
theorem dX9_looksAt_68 : decode cX9_looksAt 68 = .ok (.iconst 3, 1) := by decide +kernel
theorem dX9_looksAt_69 : decode cX9_looksAt 69 = .ok (.iaload, 1) := by decide +kernel
theorem dX9_looksAt_70 : decode cX9_looksAt 70 = .ok (.iconst 2, 1) := by decide +kernel
theorem dX9_looksAt_71 : decode cX9_looksAt 71 = .ok (.idiv, 1) := by decide +kernel
theorem dX9_looksAt_72 : decode cX9_looksAt 72 = .ok (.if_icmp .ne 17, 3) := by decide +kernel
theorem dX9_looksAt_75 : decode cX9_looksAt 75 = .ok (.aload_n 0, 1) := by decide +kernel
theorem dX9_looksAt_76 : decode cX9_looksAt 76 = .ok (.getfield 7, 3) := by decide +kernel
theorem dX9_looksAt_79 : decode cX9_looksAt 79 = .ok (.bipush 11, 2) := by decide +kernel
theorem dX9_looksAt_81 : decode cX9_looksAt 81 = .ok (.dup2, 1) := by decide +kernel
theorem dX9_looksAt_82 : decode cX9_looksAt 82 = .ok (.iaload, 1) := by decide +kernel
theorem dX9_looksAt_83 : decode cX9_looksAt 83 = .ok (.iconst 1, 1) := by decide +kernel
theorem dX9_looksAt_84 : decode cX9_looksAt 84 = .ok (.iadd, 1) := by decide +kernel
theorem dX9_looksAt_85 : decode cX9_looksAt 85 = .ok (.iastore, 1) := by decide +kernel
theorem dX9_looksAt_86 : decode cX9_looksAt 86 = .ok (.goto 10, 3) := by decide +kernel
theorem dX9_looksAt_89 : decode cX9_looksAt 89 = .ok (.aload_n 0, 1) := by decide +kernel
theorem dX9_looksAt_90 : decode cX9_looksAt 90 = .ok (.iload_n 2, 1) := by decide +kernel
theorem dX9_looksAt_91 : decode cX9_looksAt 91 = .ok (.iconst 2, 1) := by decide +kernel
theorem dX9_looksAt_92 : decode cX9_looksAt 92 = .ok (.idiv, 1) := by decide +kernel
theorem dX9_looksAt_93 : decode cX9_looksAt 93 = .ok (.invokevirtual 62, 3) := by decide +kernel
theorem dX9_looksAt_96 : decode cX9_looksAt 96 = .ok (.return_, 1) := by decide +kernel
theorem dX9_writes_0 : decode cX9_writes 0 = .ok (.aload_n 0, 1) := by decide +kernel
theorem dX9_writes_1 : decode cX9_writes 1 = .ok (.getfield 7, 3) := by decide +kernel
theorem dX9_writes_4 : decode cX9_writes 4 = .ok (.iconst 2, 1) := by decide +kernel
theorem dX9_writes_5 : decode cX9_writes 5 = .ok (.iaload, 1) := by decide +kernel
theorem dX9_writes_6 : decode cX9_writes 6 = .ok (.aload_n 0, 1) := by decide +kernel
theorem dX9_writes_7 : decode cX9_writes 7 = .ok (.getfield 7, 3) := by decide +kernel
theorem dX9_writes_10 : decode cX9_writes 10 = .ok (.iconst 1, 1) := by decide +kernel
theorem dX9_writes_11 : decode cX9_writes 11 = .ok (.iaload, 1) := by decide +kernel
theorem dX9_writes_12 : decode cX9_writes 12 = .ok (.if_icmp .ne 5, 3) := by decide +kernel
theorem dX9_writes_15 : decode cX9_writes 15 = .ok (.iconst 0, 1) := by decide +kernel
theorem dX9_writes_16 : decode cX9_writes 16 = .ok (.ireturn, 1) := by decide +kernel
theorem dX9_writes_17 : decode cX9_writes 17 = .ok (.aload_n 0, 1) := by decide +kernel
theorem dX9_writes_18 : decode cX9_writes 18 = .ok (.invokevirtual 66, 3) := by decide +kernel
theorem dX9_writes_21 : decode cX9_writes 21 = .ok (.istore_n 1, 1) := by decide +kernel
theorem dX9_writes_22 : decode cX9_writes 22 = .ok (.iload_n 1, 1) := by decide +kernel
theorem dX9_writes_23 : decode cX9_writes 23 = .ok (.bipush (-5), 2) := by decide +kernel
theorem dX9_writes_25 : decode cX9_writes 25 = .ok (.if_icmp .ne 5, 3) := by decide +kernel
theorem dX9_writes_28 : decode cX9_writes 28 = .ok (.iconst 0, 1) := by decide +kernel
theorem dX9_writes_29 : decode cX9_writes 29 = .ok (.ireturn, 1) := by decide +kernel
theorem dX9_writes_30 : decode cX9_writes 30 = .ok (.iload_n 1, 1) := by decide +kernel
theorem dX9_writes_31 : decode cX9_writes 31 = .ok (.aload_n 0, 1) := by decide +kernel
theorem dX9_writes_32 : decode cX9_writes 32 = .ok (.getfield 7, 3) := by decide +kernel
theorem dX9_writes_35 : decode cX9_writes 35 = .ok (.iconst 3, 1) := by decide +kernel
theorem dX9_writes_36 : decode cX9_writes 36 = .ok (.iaload, 1) := by decide +kernel
theorem dX9_writes_37 : decode cX9_writes 37 = .ok (.if_icmp .eq 15, 3) := by decide +kernel
theorem dX9_writes_40 : decode cX9_writes 40 = .ok (.aload_n 0, 1) := by decide +kernel
theorem dX9_writes_41 : decode cX9_writes 41 = .ok (.iload_n 1, 1) := by decide +kernel
theorem dX9_writes_42 : decode cX9_writes 42 = .ok (.invokevirtual 69, 3) := by decide +kernel
theorem dX9_writes_45 : decode cX9_writes 45 = .ok (.aload_n 0, 1) := by decide +kernel
theorem dX9_writes_46 : decode cX9_writes 46 = .ok (.getfield 7, 3) := by decide +kernel
theorem dX9_writes_49 : decode cX9_writes 49 = .ok (.iconst 3, 1) := by decide +kernel
theorem dX9_writes_50 : decode cX9_writes 50 = .ok (.iload_n 1, 1) := by decide +kernel
theorem dX9_writes_51 : decode cX9_writes 51 = .ok (.iastore, 1) := by decide +kernel
theorem dX9_writes_52 : decode cX9_writes 52 = .ok (.aload_n 0, 1) := by decide +kernel
theorem dX9_writes_53 : decode cX9_writes 53 = .ok (.iload_n 1, 1) := by decide +kernel
theorem dX9_writes_54 : decode cX9_writes 54 = .ok (.invokevirtual 59, 3) := by decide +kernel
theorem dX9_writes_57 : decode cX9_writes 57 = .ok (.ifCond .ne 10, 3) := by decide +kernel
