theorem dL_isStep_833 : decode cL_isStep 833 = .ok (.invokevirtual 38, 3) := by decide +kernel
theorem dL_isStep_836 : decode cL_isStep 836 = .ok (.iconst 1, 1) := by decide +kernel
theorem dL_isStep_837 : decode cL_isStep 837 = .ok (.if_icmp .ne 47, 3) := by decide +kernel
theorem dL_isStep_840 : decode cL_isStep 840 = .ok (.aload_n 0, 1) := by decide +kernel
theorem dL_isStep_841 : decode cL_isStep 841 = .ok (.iconst 3, 1) := by decide +kernel
theorem dL_isStep_842 : decode cL_isStep 842 = .ok (.invokevirtual 9, 3) := by decide +kernel
theorem dL_isStep_845 : decode cL_isStep 845 = .ok (.iload 7, 2) := by decide +kernel
theorem dL_isStep_847 : decode cL_isStep 847 = .ok (.iload 12, 2) := by decide +kernel
theorem dL_isStep_849 : decode cL_isStep 849 = .ok (.iadd, 1) := by decide +kernel
theorem dL_isStep_850 : decode cL_isStep 850 = .ok (.if_icmp .ne 34, 3) := by decide +kernel
theorem dL_isStep_853 : decode cL_isStep 853 = .ok (.goto 27, 3) := by decide +kernel
theorem dL_isStep_856 : decode cL_isStep 856 = .ok (.iload 12, 2) := by decide +kernel
theorem dL_isStep_858 : decode cL_isStep 858 = .ok (.iconst 3, 1) := by decide +kernel
theorem dL_isStep_859 : decode cL_isStep 859 = .ok (.aload_n 0, 1) := by decide +kernel
theorem dL_isStep_860 : decode cL_isStep 860 = .ok (.iload 9, 2) := by decide +kernel
theorem dL_isStep_862 : decode cL_isStep 862 = .ok (.iconst 4, 1) := by decide +kernel
theorem dL_isStep_863 : decode cL_isStep 863 = .ok (.invokevirtual 32, 3) := by decide +kernel
theorem dL_isStep_866 : decode cL_isStep 866 = .ok (.isub, 1) := by decide +kernel
theorem dL_isStep_867 : decode cL_isStep 867 = .ok (.if_icmp .ne 17, 3) := by decide +kernel
theorem dL_isStep_870 : decode cL_isStep 870 = .ok (.aload_n 0, 1) := by decide +kernel
theorem dL_isStep_871 : decode cL_isStep 871 = .ok (.iconst 3, 1) := by decide +kernel
theorem dL_isStep_872 : decode cL_isStep 872 = .ok (.invokevirtual 9, 3) := by decide +kernel
theorem dL_isStep_875 : decode cL_isStep 875 = .ok (.iload 7, 2) := by decide +kernel
theorem dL_isStep_877 : decode cL_isStep 877 = .ok (.if_icmp .ne 7, 3) := by decide +kernel
theorem dL_isStep_880 : decode cL_isStep 880 = .ok (.iconst 1, 1) := by decide +kernel
theorem dL_isStep_881 : decode cL_isStep 881 = .ok (.goto 4, 3) := by decide +kernel
theorem dL_isStep_884 : decode cL_isStep 884 = .ok (.iconst 0, 1) := by decide +kernel
theorem dL_isStep_885 : decode cL_isStep 885 = .ok (.ireturn, 1) := by decide +kernel
theorem dL_isStep_886 : decode cL_isStep 886 = .ok (.aload_n 0, 1) := by decide +kernel
theorem dL_isStep_887 : decode cL_isStep 887 = .ok (.iconst 4, 1) := by decide +kernel
theorem dL_isStep_888 : decode cL_isStep 888 = .ok (.iload_n 3, 1) := by decide +kernel
theorem dL_isStep_889 : decode cL_isStep 889 = .ok (.bipush 17, 2) := by decide +kernel
theorem dL_isStep_891 : decode cL_isStep 891 = .ok (.invokestatic 15, 3) := by decide +kernel
theorem dL_isStep_894 : decode cL_isStep 894 = .ok (.iadd, 1) := by decide +kernel
theorem dL_isStep_895 : decode cL_isStep 895 = .ok (.invokevirtual 57, 3) := by decide +kernel
theorem dL_isStep_898 : decode cL_isStep 898 = .ok (.bipush (-2), 2) := by decide +kernel
theorem dL_isStep_900 : decode cL_isStep 900 = .ok (.if_icmp .eq 7, 3) := by decide +kernel
theorem dL_isStep_903 : decode cL_isStep 903 = .ok (.iconst 1, 1) := by decide +kernel
theorem dL_isStep_904 : decode cL_isStep 904 = .ok (.goto 4, 3) := by decide +kernel
theorem dL_isStep_907 : decode cL_isStep 907 = .ok (.iconst 0, 1) := by decide +kernel
theorem dL_isStep_908 : decode cL_isStep 908 = .ok (.ireturn, 1) := by decide +kernel
theorem dL_isStep_909 : decode cL_isStep 909 = .ok (.aload_n 0, 1) := by decide +kernel
theorem dL_isStep_910 : decode cL_isStep 910 = .ok (.bipush 14, 2) := by decide +kernel
theorem dL_isStep_912 : decode cL_isStep 912 = .ok (.invokevirtual 9, 3) := by decide +kernel
theorem dL_isStep_915 : decode cL_isStep 915 = .ok (.ifCond .eq 10, 3) := by decide +kernel
theorem dL_isStep_918 : decode cL_isStep 918 = .ok (.aload_n 0, 1) := by decide +kernel
theorem dL_isStep_919 : decode cL_isStep 919 = .ok (.invokevirtual 60, 3) := by decide +kernel
theorem dL_isStep_922 : decode cL_isStep 922 = .ok (.ifCond .lt 7, 3) := by decide +kernel
theorem dL_isStep_925 : decode cL_isStep 925 = .ok (.iconst 1, 1) := by decide +kernel
theorem dL_isStep_926 : decode cL_isStep 926 = .ok (.goto 4, 3) := by decide +kernel
theorem dL_isStep_929 : decode cL_isStep 929 = .ok (.iconst 0, 1) := by decide +kernel
theorem dL_isStep_930 : decode cL_isStep 930 = .ok (.ireturn, 1) := by decide +kernel
theorem dL_isWell_0 : decode cL_isWell 0 = .ok (.iconst 0, 1) := by decide +kernel
theorem dL_isWell_1 : decode cL_isWell 1 = .ok (.istore_n 1, 1) := by decide +kernel
theorem dL_isWell_2 : decode cL_isWell 2 = .ok (.iconst 0, 1) := by decide +kernel
theorem dL_isWell_3 : decode cL_isWell 3 = .ok (.istore_n 2, 1) := by decide +kernel
theorem dL_isWell_4 : decode cL_isWell 4 = .ok (.iconst 0, 1) := by decide +kernel
theorem dL_isWell_5 : decode cL_isWell 5 = .ok (.istore_n 3, 1) := by decide +kernel
theorem dL_isWell_6 : decode cL_isWell 6 = .ok (.iconst 0, 1) := by decide +kernel
theorem dL_isWell_7 : decode cL_isWell 7 = .ok (.istore 4, 2) := by decide +kernel
theorem dL_isWell_9 : decode cL_isWell 9 = .ok (.iconst 0, 1) := by decide +kernel
theorem dL_isWell_10 : decode cL_isWell 10 = .ok (.istore 5, 2) := by decide +kernel
theorem dL_isWell_12 : decode cL_isWell 12 = .ok (.iconst 0, 1) := by decide +kernel
theorem dL_isWell_13 : decode cL_isWell 13 = .ok (.istore 6, 2) := by decide +kernel
theorem dL_isWell_15 : decode cL_isWell 15 = .ok (.iconst 0, 1) := by decide +kernel
theorem dL_isWell_16 : decode cL_isWell 16 = .ok (.istore 7, 2) := by decide +kernel
theorem dL_isWell_18 : decode cL_isWell 18 = .ok (.aload_n 0, 1) := by decide +kernel
theorem dL_isWell_19 : decode cL_isWell 19 = .ok (.iconst 0, 1) := by decide +kernel
theorem dL_isWell_20 : decode cL_isWell 20 = .ok (.invokevirtual 9, 3) := by decide +kernel
theorem dL_isWell_23 : decode cL_isWell 23 = .ok (.istore 8, 2) := by decide +kernel
theorem dL_isWell_25 : decode cL_isWell 25 = .ok (.aload_n 0, 1) := by decide +kernel
theorem dL_isWell_26 : decode cL_isWell 26 = .ok (.iconst 1, 1) := by decide +kernel
theorem dL_isWell_27 : decode cL_isWell 27 = .ok (.invokevirtual 9, 3) := by decide +kernel
theorem dL_isWell_30 : decode cL_isWell 30 = .ok (.iload 8, 2) := by decide +kernel
theorem dL_isWell_32 : decode cL_isWell 32 = .ok (.if_icmp .gt 25, 3) := by decide +kernel
theorem dL_isWell_35 : decode cL_isWell 35 = .ok (.aload_n 0, 1) := by decide +kernel
theorem dL_isWell_36 : decode cL_isWell 36 = .ok (.iconst 2, 1) := by decide +kernel
theorem dL_isWell_37 : decode cL_isWell 37 = .ok (.invokevirtual 9, 3) := by decide +kernel
theorem dL_isWell_40 : decode cL_isWell 40 = .ok (.ifCond .lt 17, 3) := by decide +kernel
theorem dL_isWell_43 : decode cL_isWell 43 = .ok (.aload_n 0, 1) := by decide +kernel
theorem dL_isWell_44 : decode cL_isWell 44 = .ok (.iconst 2, 1) := by decide +kernel
theorem dL_isWell_45 : decode cL_isWell 45 = .ok (.invokevirtual 9, 3) := by decide +kernel
theorem dL_isWell_48 : decode cL_isWell 48 = .ok (.bipush 6, 2) := by decide +kernel
theorem dL_isWell_50 : decode cL_isWell 50 = .ok (.if_icmp .ge 7, 3) := by decide +kernel
theorem dL_isWell_53 : decode cL_isWell 53 = .ok (.iconst 1, 1) := by decide +kernel
theorem dL_isWell_54 : decode cL_isWell 54 = .ok (.goto 4, 3) := by decide +kernel
theorem dL_isWell_57 : decode cL_isWell 57 = .ok (.iconst 0, 1) := by decide +kernel
theorem dL_isWell_58 : decode cL_isWell 58 = .ok (.istore 9, 2) := by decide +kernel
theorem dL_isWell_60 : decode cL_isWell 60 = .ok (.iconst 0, 1) := by decide +kernel
theorem dL_isWell_61 : decode cL_isWell 61 = .ok (.istore 10, 2) := by decide +kernel
theorem dL_isWell_63 : decode cL_isWell 63 = .ok (.iload 10, 2) := by decide +kernel
theorem dL_isWell_65 : decode cL_isWell 65 = .ok (.bipush 6, 2) := by decide +kernel
theorem dL_isWell_67 : decode cL_isWell 67 = .ok (.if_icmp .ge 157, 3) := by decide +kernel
theorem dL_isWell_70 : decode cL_isWell 70 = .ok (.iload 9, 2) := by decide +kernel
theorem dL_isWell_72 : decode cL_isWell 72 = .ok (.ifCond .eq 152, 3) := by decide +kernel
theorem dL_isWell_75 : decode cL_isWell 75 = .ok (.aload_n 0, 1) := by decide +kernel
theorem dL_isWell_76 : decode cL_isWell 76 = .ok (.iload 10, 2) := by decide +kernel
theorem dL_isWell_78 : decode cL_isWell 78 = .ok (.iconst 0, 1) := by decide +kernel
theorem dL_isWell_79 : decode cL_isWell 79 = .ok (.invokevirtual 38, 3) := by decide +kernel
theorem dL_isWell_82 : decode cL_isWell 82 = .ok (.istore 11, 2) := by decide +kernel
theorem dL_isWell_84 : decode cL_isWell 84 = .ok (.iconst 0, 1) := by decide +kernel
theorem dL_isWell_85 : decode cL_isWell 85 = .ok (.istore 12, 2) := by decide +kernel
theorem dL_isWell_87 : decode cL_isWell 87 = .ok (.iconst 0, 1) := by decide +kernel
theorem dL_isWell_88 : decode cL_isWell 88 = .ok (.istore 13, 2) := by decide +kernel
theorem dL_isWell_90 : decode cL_isWell 90 = .ok (.iload 13, 2) := by decide +kernel
theorem dL_isWell_92 : decode cL_isWell 92 = .ok (.iload 8, 2) := by decide +kernel
theorem dL_isWell_94 : decode cL_isWell 94 = .ok (.if_icmp .ge 36, 3) := by decide +kernel
theorem dL_isWell_97 : decode cL_isWell 97 = .ok (.iload 12, 2) := by decide +kernel
theorem dL_isWell_99 : decode cL_isWell 99 = .ok (.iload 11, 2) := by decide +kernel
theorem dL_isWell_101 : decode cL_isWell 101 = .ok (.iload 13, 2) := by decide +kernel
theorem dL_isWell_103 : decode cL_isWell 103 = .ok (.ishr, 1) := by decide +kernel
theorem dL_isWell_104 : decode cL_isWell 104 = .ok (.iconst 1, 1) := by decide +kernel
theorem dL_isWell_105 : decode cL_isWell 105 = .ok (.iand, 1) := by decide +kernel
theorem dL_isWell_106 : decode cL_isWell 106 = .ok (.iconst 1, 1) := by decide +kernel
theorem dL_isWell_107 : decode cL_isWell 107 = .ok (.if_icmp .ne 13, 3) := by decide +kernel
theorem dL_isWell_110 : decode cL_isWell 110 = .ok (.aload_n 0, 1) := by decide +kernel
theorem dL_isWell_111 : decode cL_isWell 111 = .ok (.iload 13, 2) := by decide +kernel
theorem dL_isWell_113 : decode cL_isWell 113 = .ok (.iconst 0, 1) := by decide +kernel
theorem dL_isWell_114 : decode cL_isWell 114 = .ok (.invokevirtual 32, 3) := by decide +kernel
theorem dL_isWell_117 : decode cL_isWell 117 = .ok (.goto 4, 3) := by decide +kernel
theorem dL_isWell_120 : decode cL_isWell 120 = .ok (.iconst 0, 1) := by decide +kernel
theorem dL_isWell_121 : decode cL_isWell 121 = .ok (.iadd, 1) := by decide +kernel
theorem dL_isWell_122 : decode cL_isWell 122 = .ok (.istore 12, 2) := by decide +kernel
theorem dL_isWell_124 : decode cL_isWell 124 = .ok (.iinc 13 1, 3) := by decide +kernel
theorem dL_isWell_127 : decode cL_isWell 127 = .ok (.goto (-37), 3) := by decide +kernel
theorem dL_isWell_130 : decode cL_isWell 130 = .ok (.iload_n 1, 1) := by decide +kernel
theorem dL_isWell_131 : decode cL_isWell 131 = .ok (.iload 11, 2) := by decide +kernel
theorem dL_isWell_133 : decode cL_isWell 133 = .ok (.iand, 1) := by decide +kernel
theorem dL_isWell_134 : decode cL_isWell 134 = .ok (.ifCond .ne 66, 3) := by decide +kernel
theorem dL_isWell_137 : decode cL_isWell 137 = .ok (.iload 12, 2) := by decide +kernel
theorem dL_isWell_139 : decode cL_isWell 139 = .ok (.aload_n 0, 1) := by decide +kernel
theorem dL_isWell_140 : decode cL_isWell 140 = .ok (.iload 10, 2) := by decide +kernel
theorem dL_isWell_142 : decode cL_isWell 142 = .ok (.iconst 1, 1) := by decide +kernel
theorem dL_isWell_143 : decode cL_isWell 143 = .ok (.invokevirtual 38, 3) := by decide +kernel
theorem dL_isWell_146 : decode cL_isWell 146 = .ok (.if_icmp .ne 54, 3) := by decide +kernel
theorem dL_isWell_149 : decode cL_isWell 149 = .ok (.iload 12, 2) := by decide +kernel
theorem dL_isWell_151 : decode cL_isWell 151 = .ok (.aload_n 0, 1) := by decide +kernel
theorem dL_isWell_152 : decode cL_isWell 152 = .ok (.bipush 13, 2) := by decide +kernel
theorem dL_isWell_154 : decode cL_isWell 154 = .ok (.invokevirtual 9, 3) := by decide +kernel
theorem dL_isWell_157 : decode cL_isWell 157 = .ok (.if_icmp .gt 43, 3) := by decide +kernel
theorem dL_isWell_160 : decode cL_isWell 160 = .ok (.aload_n 0, 1) := by decide +kernel
theorem dL_isWell_161 : decode cL_isWell 161 = .ok (.iload 10, 2) := by decide +kernel
theorem dL_isWell_163 : decode cL_isWell 163 = .ok (.iconst 2, 1) := by decide +kernel
theorem dL_isWell_164 : decode cL_isWell 164 = .ok (.invokevirtual 38, 3) := by decide +kernel
theorem dL_isWell_167 : decode cL_isWell 167 = .ok (.aload_n 0, 1) := by decide +kernel
theorem dL_isWell_168 : decode cL_isWell 168 = .ok (.iload 10, 2) := by decide +kernel
theorem dL_isWell_170 : decode cL_isWell 170 = .ok (.iconst 1, 1) := by decide +kernel
theorem dL_isWell_171 : decode cL_isWell 171 = .ok (.ixor, 1) := by decide +kernel
theorem dL_isWell_172 : decode cL_isWell 172 = .ok (.iconst 2, 1) := by decide +kernel
theorem dL_isWell_173 : decode cL_isWell 173 = .ok (.invokevirtual 38, 3) := by decide +kernel
theorem dL_isWell_176 : decode cL_isWell 176 = .ok (.iadd, 1) := by decide +kernel
theorem dL_isWell_177 : decode cL_isWell 177 = .ok (.iconst 1, 1) := by decide +kernel
theorem dL_isWell_178 : decode cL_isWell 178 = .ok (.if_icmp .ne 22, 3) := by decide +kernel
theorem dL_isWell_181 : decode cL_isWell 181 = .ok (.aload_n 0, 1) := by decide +kernel
theorem dL_isWell_182 : decode cL_isWell 182 = .ok (.iload 10, 2) := by decide +kernel
theorem dL_isWell_184 : decode cL_isWell 184 = .ok (.iconst 5, 1) := by decide +kernel
theorem dL_isWell_185 : decode cL_isWell 185 = .ok (.invokevirtual 38, 3) := by decide +kernel
theorem dL_isWell_188 : decode cL_isWell 188 = .ok (.iload 11, 2) := by decide +kernel
theorem dL_isWell_190 : decode cL_isWell 190 = .ok (.iconst (-1), 1) := by decide +kernel
theorem dL_isWell_191 : decode cL_isWell 191 = .ok (.ixor, 1) := by decide +kernel
theorem dL_isWell_192 : decode cL_isWell 192 = .ok (.iand, 1) := by decide +kernel
theorem dL_isWell_193 : decode cL_isWell 193 = .ok (.ifCond .ne 7, 3) := by decide +kernel
theorem dL_isWell_196 : decode cL_isWell 196 = .ok (.iconst 1, 1) := by decide +kernel
theorem dL_isWell_197 : decode cL_isWell 197 = .ok (.goto 4, 3) := by decide +kernel
theorem dL_isWell_200 : decode cL_isWell 200 = .ok (.iconst 0, 1) := by decide +kernel
theorem dL_isWell_201 : decode cL_isWell 201 = .ok (.istore 9, 2) := by decide +kernel
theorem dL_isWell_203 : decode cL_isWell 203 = .ok (.iload_n 1, 1) := by decide +kernel
theorem dL_isWell_204 : decode cL_isWell 204 = .ok (.iload 11, 2) := by decide +kernel
theorem dL_isWell_206 : decode cL_isWell 206 = .ok (.ior, 1) := by decide +kernel
theorem dL_isWell_207 : decode cL_isWell 207 = .ok (.istore_n 1, 1) := by decide +kernel
theorem dL_isWell_208 : decode cL_isWell 208 = .ok (.iload_n 3, 1) := by decide +kernel
theorem dL_isWell_209 : decode cL_isWell 209 = .ok (.aload_n 0, 1) := by decide +kernel
theorem dL_isWell_210 : decode cL_isWell 210 = .ok (.iload 10, 2) := by decide +kernel
theorem dL_isWell_212 : decode cL_isWell 212 = .ok (.iconst 4, 1) := by decide +kernel
theorem dL_isWell_213 : decode cL_isWell 213 = .ok (.invokevirtual 38, 3) := by decide +kernel
theorem dL_isWell_216 : decode cL_isWell 216 = .ok (.iadd, 1) := by decide +kernel
theorem dL_isWell_217 : decode cL_isWell 217 = .ok (.istore_n 3, 1) := by decide +kernel
theorem dL_isWell_218 : decode cL_isWell 218 = .ok (.iinc 10 1, 3) := by decide +kernel
theorem dL_isWell_221 : decode cL_isWell 221 = .ok (.goto (-158), 3) := by decide +kernel
theorem dL_isWell_224 : decode cL_isWell 224 = .ok (.iconst 0, 1) := by decide +kernel
theorem dL_isWell_225 : decode cL_isWell 225 = .ok (.istore 10, 2) := by decide +kernel
theorem dL_isWell_227 : decode cL_isWell 227 = .ok (.iload 10, 2) := by decide +kernel
theorem dL_isWell_229 : decode cL_isWell 229 = .ok (.aload_n 0, 1) := by decide +kernel
theorem dL_isWell_230 : decode cL_isWell 230 = .ok (.iconst 5, 1) := by decide +kernel
theorem dL_isWell_231 : decode cL_isWell 231 = .ok (.invokevirtual 9, 3) := by decide +kernel
theorem dL_isWell_234 : decode cL_isWell 234 = .ok (.if_icmp .ge 63, 3) := by decide +kernel
theorem dL_isWell_237 : decode cL_isWell 237 = .ok (.iload_n 2, 1) := by decide +kernel
theorem dL_isWell_238 : decode cL_isWell 238 = .ok (.aload_n 0, 1) := by decide +kernel
theorem dL_isWell_239 : decode cL_isWell 239 = .ok (.iload 10, 2) := by decide +kernel
theorem dL_isWell_241 : decode cL_isWell 241 = .ok (.iconst 1, 1) := by decide +kernel
theorem dL_isWell_242 : decode cL_isWell 242 = .ok (.invokevirtual 63, 3) := by decide +kernel
theorem dL_isWell_245 : decode cL_isWell 245 = .ok (.ior, 1) := by decide +kernel
theorem dL_isWell_246 : decode cL_isWell 246 = .ok (.istore_n 2, 1) := by decide +kernel
theorem dL_isWell_247 : decode cL_isWell 247 = .ok (.iload 9, 2) := by decide +kernel
theorem dL_isWell_249 : decode cL_isWell 249 = .ok (.ifCond .eq 39, 3) := by decide +kernel
theorem dL_isWell_252 : decode cL_isWell 252 = .ok (.aload_n 0, 1) := by decide +kernel
theorem dL_isWell_253 : decode cL_isWell 253 = .ok (.iload 10, 2) := by decide +kernel
theorem dL_isWell_255 : decode cL_isWell 255 = .ok (.iconst 1, 1) := by decide +kernel
theorem dL_isWell_256 : decode cL_isWell 256 = .ok (.invokevirtual 63, 3) := by decide +kernel
theorem dL_isWell_259 : decode cL_isWell 259 = .ok (.ifCond .le 29, 3) := by decide +kernel
theorem dL_isWell_262 : decode cL_isWell 262 = .ok (.aload_n 0, 1) := by decide +kernel
theorem dL_isWell_263 : decode cL_isWell 263 = .ok (.iload 10, 2) := by decide +kernel
theorem dL_isWell_265 : decode cL_isWell 265 = .ok (.iconst 0, 1) := by decide +kernel
theorem dL_isWell_266 : decode cL_isWell 266 = .ok (.invokevirtual 63, 3) := by decide +kernel
theorem dL_isWell_269 : decode cL_isWell 269 = .ok (.ifCond .lt 19, 3) := by decide +kernel
theorem dL_isWell_272 : decode cL_isWell 272 = .ok (.aload_n 0, 1) := by decide +kernel
theorem dL_isWell_273 : decode cL_isWell 273 = .ok (.iload 10, 2) := by decide +kernel
theorem dL_isWell_275 : decode cL_isWell 275 = .ok (.iconst 0, 1) := by decide +kernel
theorem dL_isWell_276 : decode cL_isWell 276 = .ok (.invokevirtual 63, 3) := by decide +kernel
theorem dL_isWell_279 : decode cL_isWell 279 = .ok (.bipush 6, 2) := by decide +kernel
theorem dL_isWell_281 : decode cL_isWell 281 = .ok (.if_icmp .ge 7, 3) := by decide +kernel
theorem dL_isWell_284 : decode cL_isWell 284 = .ok (.iconst 1, 1) := by decide +kernel
theorem dL_isWell_285 : decode cL_isWell 285 = .ok (.goto 4, 3) := by decide +kernel
theorem dL_isWell_288 : decode cL_isWell 288 = .ok (.iconst 0, 1) := by decide +kernel
theorem dL_isWell_289 : decode cL_isWell 289 = .ok (.istore 9, 2) := by decide +kernel
theorem dL_isWell_291 : decode cL_isWell 291 = .ok (.iinc 10 1, 3) := by decide +kernel
theorem dL_isWell_294 : decode cL_isWell 294 = .ok (.goto (-67), 3) := by decide +kernel
theorem dL_isWell_297 : decode cL_isWell 297 = .ok (.iconst 0, 1) := by decide +kernel
theorem dL_isWell_298 : decode cL_isWell 298 = .ok (.istore 10, 2) := by decide +kernel
theorem dL_isWell_300 : decode cL_isWell 300 = .ok (.iload 10, 2) := by decide +kernel
theorem dL_isWell_302 : decode cL_isWell 302 = .ok (.iload 8, 2) := by decide +kernel
theorem dL_isWell_304 : decode cL_isWell 304 = .ok (.if_icmp .ge 215, 3) := by decide +kernel
theorem dL_isWell_307 : decode cL_isWell 307 = .ok (.iload 9, 2) := by decide +kernel
theorem dL_isWell_309 : decode cL_isWell 309 = .ok (.ifCond .eq 210, 3) := by decide +kernel
theorem dL_isWell_312 : decode cL_isWell 312 = .ok (.aload_n 0, 1) := by decide +kernel
theorem dL_isWell_313 : decode cL_isWell 313 = .ok (.iload 10, 2) := by decide +kernel
theorem dL_isWell_315 : decode cL_isWell 315 = .ok (.iconst 3, 1) := by decide +kernel
theorem dL_isWell_316 : decode cL_isWell 316 = .ok (.invokevirtual 32, 3) := by decide +kernel
theorem dL_isWell_319 : decode cL_isWell 319 = .ok (.istore 11, 2) := by decide +kernel
theorem dL_isWell_321 : decode cL_isWell 321 = .ok (.iload 4, 2) := by decide +kernel
theorem dL_isWell_323 : decode cL_isWell 323 = .ok (.aload_n 0, 1) := by decide +kernel
theorem dL_isWell_324 : decode cL_isWell 324 = .ok (.iload 10, 2) := by decide +kernel
theorem dL_isWell_326 : decode cL_isWell 326 = .ok (.iconst 5, 1) := by decide +kernel
theorem dL_isWell_327 : decode cL_isWell 327 = .ok (.invokevirtual 32, 3) := by decide +kernel
theorem dL_isWell_330 : decode cL_isWell 330 = .ok (.iadd, 1) := by decide +kernel
theorem dL_isWell_331 : decode cL_isWell 331 = .ok (.istore 4, 2) := by decide +kernel
theorem dL_isWell_333 : decode cL_isWell 333 = .ok (.iload 5, 2) := by decide +kernel
theorem dL_isWell_335 : decode cL_isWell 335 = .ok (.aload_n 0, 1) := by decide +kernel
theorem dL_isWell_336 : decode cL_isWell 336 = .ok (.iload 10, 2) := by decide +kernel
theorem dL_isWell_338 : decode cL_isWell 338 = .ok (.bipush 6, 2) := by decide +kernel
theorem dL_isWell_340 : decode cL_isWell 340 = .ok (.invokevirtual 32, 3) := by decide +kernel
theorem dL_isWell_343 : decode cL_isWell 343 = .ok (.iadd, 1) := by decide +kernel
theorem dL_isWell_344 : decode cL_isWell 344 = .ok (.istore 5, 2) := by decide +kernel
theorem dL_isWell_346 : decode cL_isWell 346 = .ok (.iload 6, 2) := by decide +kernel
theorem dL_isWell_348 : decode cL_isWell 348 = .ok (.iload 10, 2) := by decide +kernel
theorem dL_isWell_350 : decode cL_isWell 350 = .ok (.aload_n 0, 1) := by decide +kernel
theorem dL_isWell_351 : decode cL_isWell 351 = .ok (.iconst 1, 1) := by decide +kernel
theorem dL_isWell_352 : decode cL_isWell 352 = .ok (.invokevirtual 9, 3) := by decide +kernel
theorem dL_isWell_355 : decode cL_isWell 355 = .ok (.if_icmp .ge 16, 3) := by decide +kernel
theorem dL_isWell_358 : decode cL_isWell 358 = .ok (.aload_n 0, 1) := by decide +kernel
theorem dL_isWell_359 : decode cL_isWell 359 = .ok (.iload 10, 2) := by decide +kernel
theorem dL_isWell_361 : decode cL_isWell 361 = .ok (.iconst 1, 1) := by decide +kernel
theorem dL_isWell_362 : decode cL_isWell 362 = .ok (.invokevirtual 32, 3) := by decide +kernel
theorem dL_isWell_365 : decode cL_isWell 365 = .ok (.invokestatic 35, 3) := by decide +kernel
theorem dL_isWell_368 : decode cL_isWell 368 = .ok (.goto 4, 3) := by decide +kernel
theorem dL_isWell_371 : decode cL_isWell 371 = .ok (.iconst 0, 1) := by decide +kernel
theorem dL_isWell_372 : decode cL_isWell 372 = .ok (.iadd, 1) := by decide +kernel
theorem dL_isWell_373 : decode cL_isWell 373 = .ok (.istore 6, 2) := by decide +kernel
theorem dL_isWell_375 : decode cL_isWell 375 = .ok (.iload 7, 2) := by decide +kernel
theorem dL_isWell_377 : decode cL_isWell 377 = .ok (.aload_n 0, 1) := by decide +kernel
theorem dL_isWell_378 : decode cL_isWell 378 = .ok (.iload 10, 2) := by decide +kernel
theorem dL_isWell_380 : decode cL_isWell 380 = .ok (.iconst 4, 1) := by decide +kernel
theorem dL_isWell_381 : decode cL_isWell 381 = .ok (.invokevirtual 32, 3) := by decide +kernel
theorem dL_isWell_384 : decode cL_isWell 384 = .ok (.iadd, 1) := by decide +kernel
theorem dL_isWell_385 : decode cL_isWell 385 = .ok (.istore 7, 2) := by decide +kernel
theorem dL_isWell_387 : decode cL_isWell 387 = .ok (.iload 11, 2) := by decide +kernel
theorem dL_isWell_389 : decode cL_isWell 389 = .ok (.ifCond .lt 7, 3) := by decide +kernel
theorem dL_isWell_392 : decode cL_isWell 392 = .ok (.iconst 1, 1) := by decide +kernel
theorem dL_isWell_393 : decode cL_isWell 393 = .ok (.goto 4, 3) := by decide +kernel
theorem dL_isWell_396 : decode cL_isWell 396 = .ok (.iconst 0, 1) := by decide +kernel
theorem dL_isWell_397 : decode cL_isWell 397 = .ok (.iload_n 1, 1) := by decide +kernel
theorem dL_isWell_398 : decode cL_isWell 398 = .ok (.iload 10, 2) := by decide +kernel
theorem dL_isWell_400 : decode cL_isWell 400 = .ok (.ishr, 1) := by decide +kernel
theorem dL_isWell_401 : decode cL_isWell 401 = .ok (.iconst 1, 1) := by decide +kernel
theorem dL_isWell_402 : decode cL_isWell 402 = .ok (.iand, 1) := by decide +kernel
theorem dL_isWell_403 : decode cL_isWell 403 = .ok (.iconst 1, 1) := by decide +kernel
theorem dL_isWell_404 : decode cL_isWell 404 = .ok (.if_icmp .ne 7, 3) := by decide +kernel
theorem dL_isWell_407 : decode cL_isWell 407 = .ok (.iconst 1, 1) := by decide +kernel
theorem dL_isWell_408 : decode cL_isWell 408 = .ok (.goto 4, 3) := by decide +kernel
theorem dL_isWell_411 : decode cL_isWell 411 = .ok (.iconst 0, 1) := by decide +kernel
theorem dL_isWell_412 : decode cL_isWell 412 = .ok (.if_icmp .ne 98, 3) := by decide +kernel
theorem dL_isWell_415 : decode cL_isWell 415 = .ok (.iload 11, 2) := by decide +kernel
theorem dL_isWell_417 : decode cL_isWell 417 = .ok (.ifCond .lt 19, 3) := by decide +kernel
theorem dL_isWell_420 : decode cL_isWell 420 = .ok (.aload_n 0, 1) := by decide +kernel
theorem dL_isWell_421 : decode cL_isWell 421 = .ok (.iload 11, 2) := by decide +kernel
theorem dL_isWell_423 : decode cL_isWell 423 = .ok (.iconst 0, 1) := by decide +kernel
theorem dL_isWell_424 : decode cL_isWell 424 = .ok (.invokevirtual 38, 3) := by decide +kernel
theorem dL_isWell_427 : decode cL_isWell 427 = .ok (.iload 10, 2) := by decide +kernel
theorem dL_isWell_429 : decode cL_isWell 429 = .ok (.ishr, 1) := by decide +kernel
theorem dL_isWell_430 : decode cL_isWell 430 = .ok (.iconst 1, 1) := by decide +kernel
theorem dL_isWell_431 : decode cL_isWell 431 = .ok (.iand, 1) := by decide +kernel
theorem dL_isWell_432 : decode cL_isWell 432 = .ok (.iconst 1, 1) := by decide +kernel
theorem dL_isWell_433 : decode cL_isWell 433 = .ok (.if_icmp .ne 77, 3) := by decide +kernel
theorem dL_isWell_436 : decode cL_isWell 436 = .ok (.aload_n 0, 1) := by decide +kernel
theorem dL_isWell_437 : decode cL_isWell 437 = .ok (.iload 10, 2) := by decide +kernel
theorem dL_isWell_439 : decode cL_isWell 439 = .ok (.iconst 4, 1) := by decide +kernel
theorem dL_isWell_440 : decode cL_isWell 440 = .ok (.invokevirtual 32, 3) := by decide +kernel
theorem dL_isWell_443 : decode cL_isWell 443 = .ok (.iload_n 2, 1) := by decide +kernel
theorem dL_isWell_444 : decode cL_isWell 444 = .ok (.iload 10, 2) := by decide +kernel
theorem dL_isWell_446 : decode cL_isWell 446 = .ok (.ishr, 1) := by decide +kernel
theorem dL_isWell_447 : decode cL_isWell 447 = .ok (.iconst 1, 1) := by decide +kernel
theorem dL_isWell_448 : decode cL_isWell 448 = .ok (.iand, 1) := by decide +kernel
theorem dL_isWell_449 : decode cL_isWell 449 = .ok (.if_icmp .ne 61, 3) := by decide +kernel
theorem dL_isWell_452 : decode cL_isWell 452 = .ok (.aload_n 0, 1) := by decide +kernel
theorem dL_isWell_453 : decode cL_isWell 453 = .ok (.iload 10, 2) := by decide +kernel
theorem dL_isWell_455 : decode cL_isWell 455 = .ok (.iconst 2, 1) := by decide +kernel
theorem dL_isWell_456 : decode cL_isWell 456 = .ok (.invokevirtual 32, 3) := by decide +kernel
theorem dL_isWell_459 : decode cL_isWell 459 = .ok (.iload 10, 2) := by decide +kernel
theorem dL_isWell_461 : decode cL_isWell 461 = .ok (.aload_n 0, 1) := by decide +kernel
theorem dL_isWell_462 : decode cL_isWell 462 = .ok (.iconst 1, 1) := by decide +kernel
theorem dL_isWell_463 : decode cL_isWell 463 = .ok (.invokevirtual 9, 3) := by decide +kernel
theorem dL_isWell_466 : decode cL_isWell 466 = .ok (.if_icmp .ge 7, 3) := by decide +kernel
theorem dL_isWell_469 : decode cL_isWell 469 = .ok (.iconst 1, 1) := by decide +kernel
theorem dL_isWell_470 : decode cL_isWell 470 = .ok (.goto 4, 3) := by decide +kernel
theorem dL_isWell_473 : decode cL_isWell 473 = .ok (.iconst 0, 1) := by decide +kernel
theorem dL_isWell_474 : decode cL_isWell 474 = .ok (.if_icmp .ne 36, 3) := by decide +kernel
theorem dL_isWell_477 : decode cL_isWell 477 = .ok (.iload 11, 2) := by decide +kernel
theorem dL_isWell_479 : decode cL_isWell 479 = .ok (.ifCond .lt 14, 3) := by decide +kernel
theorem dL_isWell_482 : decode cL_isWell 482 = .ok (.aload_n 0, 1) := by decide +kernel
theorem dL_isWell_483 : decode cL_isWell 483 = .ok (.iload 10, 2) := by decide +kernel
theorem dL_isWell_485 : decode cL_isWell 485 = .ok (.iconst 2, 1) := by decide +kernel
theorem dL_isWell_486 : decode cL_isWell 486 = .ok (.invokevirtual 32, 3) := by decide +kernel
theorem dL_isWell_489 : decode cL_isWell 489 = .ok (.iconst 1, 1) := by decide +kernel
theorem dL_isWell_490 : decode cL_isWell 490 = .ok (.if_icmp .ne 20, 3) := by decide +kernel
theorem dL_isWell_493 : decode cL_isWell 493 = .ok (.aload_n 0, 1) := by decide +kernel
theorem dL_isWell_494 : decode cL_isWell 494 = .ok (.iload 10, 2) := by decide +kernel
theorem dL_isWell_496 : decode cL_isWell 496 = .ok (.iconst 1, 1) := by decide +kernel
theorem dL_isWell_497 : decode cL_isWell 497 = .ok (.invokevirtual 32, 3) := by decide +kernel
theorem dL_isWell_500 : decode cL_isWell 500 = .ok (.iload 10, 2) := by decide +kernel
theorem dL_isWell_502 : decode cL_isWell 502 = .ok (.ishr, 1) := by decide +kernel
theorem dL_isWell_503 : decode cL_isWell 503 = .ok (.ifCond .ne 7, 3) := by decide +kernel
theorem dL_isWell_506 : decode cL_isWell 506 = .ok (.iconst 1, 1) := by decide +kernel
theorem dL_isWell_507 : decode cL_isWell 507 = .ok (.goto 4, 3) := by decide +kernel
theorem dL_isWell_510 : decode cL_isWell 510 = .ok (.iconst 0, 1) := by decide +kernel
theorem dL_isWell_511 : decode cL_isWell 511 = .ok (.istore 9, 2) := by decide +kernel
theorem dL_isWell_513 : decode cL_isWell 513 = .ok (.iinc 10 1, 3) := by decide +kernel
theorem dL_isWell_516 : decode cL_isWell 516 = .ok (.goto (-216), 3) := by decide +kernel
theorem dL_isWell_519 : decode cL_isWell 519 = .ok (.iload 9, 2) := by decide +kernel
theorem dL_isWell_521 : decode cL_isWell 521 = .ok (.ifCond .eq 87, 3) := by decide +kernel
theorem dL_isWell_524 : decode cL_isWell 524 = .ok (.iload_n 3, 1) := by decide +kernel
theorem dL_isWell_525 : decode cL_isWell 525 = .ok (.aload_n 0, 1) := by decide +kernel
theorem dL_isWell_526 : decode cL_isWell 526 = .ok (.iconst 4, 1) := by decide +kernel
theorem dL_isWell_527 : decode cL_isWell 527 = .ok (.invokevirtual 9, 3) := by decide +kernel
theorem dL_isWell_530 : decode cL_isWell 530 = .ok (.if_icmp .ne 78, 3) := by decide +kernel
theorem dL_isWell_533 : decode cL_isWell 533 = .ok (.iload 4, 2) := by decide +kernel
theorem dL_isWell_535 : decode cL_isWell 535 = .ok (.aload_n 0, 1) := by decide +kernel
theorem dL_isWell_536 : decode cL_isWell 536 = .ok (.bipush 9, 2) := by decide +kernel
theorem dL_isWell_538 : decode cL_isWell 538 = .ok (.invokevirtual 9, 3) := by decide +kernel
theorem dL_isWell_541 : decode cL_isWell 541 = .ok (.aload_n 0, 1) := by decide +kernel
theorem dL_isWell_542 : decode cL_isWell 542 = .ok (.bipush 10, 2) := by decide +kernel
theorem dL_isWell_544 : decode cL_isWell 544 = .ok (.invokevirtual 9, 3) := by decide +kernel
theorem dL_isWell_547 : decode cL_isWell 547 = .ok (.iadd, 1) := by decide +kernel
theorem dL_isWell_548 : decode cL_isWell 548 = .ok (.aload_n 0, 1) := by decide +kernel
theorem dL_isWell_549 : decode cL_isWell 549 = .ok (.bipush 11, 2) := by decide +kernel
theorem dL_isWell_551 : decode cL_isWell 551 = .ok (.invokevirtual 9, 3) := by decide +kernel
theorem dL_isWell_554 : decode cL_isWell 554 = .ok (.iadd, 1) := by decide +kernel
theorem dL_isWell_555 : decode cL_isWell 555 = .ok (.if_icmp .ne 53, 3) := by decide +kernel
theorem dL_isWell_558 : decode cL_isWell 558 = .ok (.iload 5, 2) := by decide +kernel
theorem dL_isWell_560 : decode cL_isWell 560 = .ok (.iload 6, 2) := by decide +kernel
theorem dL_isWell_562 : decode cL_isWell 562 = .ok (.if_icmp .ne 46, 3) := by decide +kernel
theorem dL_isWell_565 : decode cL_isWell 565 = .ok (.iload 7, 2) := by decide +kernel
theorem dL_isWell_567 : decode cL_isWell 567 = .ok (.iload_n 2, 1) := by decide +kernel
theorem dL_isWell_568 : decode cL_isWell 568 = .ok (.invokestatic 35, 3) := by decide +kernel
theorem dL_isWell_571 : decode cL_isWell 571 = .ok (.if_icmp .ne 37, 3) := by decide +kernel
theorem dL_isWell_574 : decode cL_isWell 574 = .ok (.aload_n 0, 1) := by decide +kernel
theorem dL_isWell_575 : decode cL_isWell 575 = .ok (.invokestatic 24, 3) := by decide +kernel
theorem dL_isWell_578 : decode cL_isWell 578 = .ok (.iload 5, 2) := by decide +kernel
theorem dL_isWell_580 : decode cL_isWell 580 = .ok (.if_icmp .gt 28, 3) := by decide +kernel
theorem dL_isWell_583 : decode cL_isWell 583 = .ok (.aload_n 0, 1) := by decide +kernel
theorem dL_isWell_584 : decode cL_isWell 584 = .ok (.bipush 12, 2) := by decide +kernel
theorem dL_isWell_586 : decode cL_isWell 586 = .ok (.invokevirtual 9, 3) := by decide +kernel
theorem dL_isWell_589 : decode cL_isWell 589 = .ok (.aload_n 0, 1) := by decide +kernel
theorem dL_isWell_590 : decode cL_isWell 590 = .ok (.iconst 1, 1) := by decide +kernel
theorem dL_isWell_591 : decode cL_isWell 591 = .ok (.invokevirtual 9, 3) := by decide +kernel
theorem dL_isWell_594 : decode cL_isWell 594 = .ok (.iload_n 1, 1) := by decide +kernel
theorem dL_isWell_595 : decode cL_isWell 595 = .ok (.iload_n 2, 1) := by decide +kernel
theorem dL_isWell_596 : decode cL_isWell 596 = .ok (.ior, 1) := by decide +kernel
theorem dL_isWell_597 : decode cL_isWell 597 = .ok (.invokestatic 35, 3) := by decide +kernel
theorem dL_isWell_600 : decode cL_isWell 600 = .ok (.isub, 1) := by decide +kernel
theorem dL_isWell_601 : decode cL_isWell 601 = .ok (.if_icmp .ne 7, 3) := by decide +kernel
theorem dL_isWell_604 : decode cL_isWell 604 = .ok (.iconst 1, 1) := by decide +kernel
theorem dL_isWell_605 : decode cL_isWell 605 = .ok (.goto 4, 3) := by decide +kernel
theorem dL_isWell_608 : decode cL_isWell 608 = .ok (.iconst 0, 1) := by decide +kernel
theorem dL_isWell_609 : decode cL_isWell 609 = .ok (.ireturn, 1) := by decide +kernel
theorem dL_isForeseen_0 : decode cL_isForeseen 0 = .ok (.aload_n 0, 1) := by decide +kernel
theorem dL_isForeseen_1 : decode cL_isForeseen 1 = .ok (.iconst 0, 1) := by decide +kernel
theorem dL_isForeseen_2 : decode cL_isForeseen 2 = .ok (.invokevirtual 9, 3) := by decide +kernel
theorem dL_isForeseen_5 : decode cL_isForeseen 5 = .ok (.aload_n 0, 1) := by decide +kernel
theorem dL_isForeseen_6 : decode cL_isForeseen 6 = .ok (.iconst 1, 1) := by decide +kernel
theorem dL_isForeseen_7 : decode cL_isForeseen 7 = .ok (.invokevirtual 9, 3) := by decide +kernel
theorem dL_isForeseen_10 : decode cL_isForeseen 10 = .ok (.isub, 1) := by decide +kernel
theorem dL_isForeseen_11 : decode cL_isForeseen 11 = .ok (.istore_n 1, 1) := by decide +kernel
theorem dL_isForeseen_12 : decode cL_isForeseen 12 = .ok (.aload_n 0, 1) := by decide +kernel
theorem dL_isForeseen_13 : decode cL_isForeseen 13 = .ok (.iconst 5, 1) := by decide +kernel
theorem dL_isForeseen_14 : decode cL_isForeseen 14 = .ok (.invokevirtual 66, 3) := by decide +kernel
theorem dL_isForeseen_17 : decode cL_isForeseen 17 = .ok (.istore_n 2, 1) := by decide +kernel
theorem dL_isForeseen_18 : decode cL_isForeseen 18 = .ok (.aload_n 0, 1) := by decide +kernel
theorem dL_isForeseen_19 : decode cL_isForeseen 19 = .ok (.iconst 1, 1) := by decide +kernel
theorem dL_isForeseen_20 : decode cL_isForeseen 20 = .ok (.invokevirtual 66, 3) := by decide +kernel
theorem dL_isForeseen_23 : decode cL_isForeseen 23 = .ok (.istore_n 3, 1) := by decide +kernel
theorem dL_isForeseen_24 : decode cL_isForeseen 24 = .ok (.iload_n 2, 1) := by decide +kernel
theorem dL_isForeseen_25 : decode cL_isForeseen 25 = .ok (.ifCond .lt 41, 3) := by decide +kernel
theorem dL_isForeseen_28 : decode cL_isForeseen 28 = .ok (.iload_n 2, 1) := by decide +kernel
theorem dL_isForeseen_29 : decode cL_isForeseen 29 = .ok (.iload_n 1, 1) := by decide +kernel
theorem dL_isForeseen_30 : decode cL_isForeseen 30 = .ok (.if_icmp .gt 36, 3) := by decide +kernel
theorem dL_isForeseen_33 : decode cL_isForeseen 33 = .ok (.iload_n 3, 1) := by decide +kernel
theorem dL_isForeseen_34 : decode cL_isForeseen 34 = .ok (.iload_n 2, 1) := by decide +kernel
theorem dL_isForeseen_35 : decode cL_isForeseen 35 = .ok (.if_icmp .gt 31, 3) := by decide +kernel
theorem dL_isForeseen_38 : decode cL_isForeseen 38 = .ok (.aload_n 0, 1) := by decide +kernel
theorem dL_isForeseen_39 : decode cL_isForeseen 39 = .ok (.invokevirtual 69, 3) := by decide +kernel
theorem dL_isForeseen_42 : decode cL_isForeseen 42 = .ok (.iload_n 3, 1) := by decide +kernel
theorem dL_isForeseen_43 : decode cL_isForeseen 43 = .ok (.if_icmp .gt 23, 3) := by decide +kernel
theorem dL_isForeseen_46 : decode cL_isForeseen 46 = .ok (.aload_n 0, 1) := by decide +kernel
theorem dL_isForeseen_47 : decode cL_isForeseen 47 = .ok (.iconst 0, 1) := by decide +kernel
theorem dL_isForeseen_48 : decode cL_isForeseen 48 = .ok (.invokevirtual 66, 3) := by decide +kernel
theorem dL_isForeseen_51 : decode cL_isForeseen 51 = .ok (.ifCond .lt 15, 3) := by decide +kernel
theorem dL_isForeseen_54 : decode cL_isForeseen 54 = .ok (.aload_n 0, 1) := by decide +kernel
theorem dL_isForeseen_55 : decode cL_isForeseen 55 = .ok (.iconst 2, 1) := by decide +kernel
theorem dL_isForeseen_56 : decode cL_isForeseen 56 = .ok (.invokevirtual 66, 3) := by decide +kernel
theorem dL_isForeseen_59 : decode cL_isForeseen 59 = .ok (.ifCond .lt 7, 3) := by decide +kernel
theorem dL_isForeseen_62 : decode cL_isForeseen 62 = .ok (.iconst 1, 1) := by decide +kernel
theorem dL_isForeseen_63 : decode cL_isForeseen 63 = .ok (.goto 4, 3) := by decide +kernel
theorem dL_isForeseen_66 : decode cL_isForeseen 66 = .ok (.iconst 0, 1) := by decide +kernel
theorem dL_isForeseen_67 : decode cL_isForeseen 67 = .ok (.istore 4, 2) := by decide +kernel
theorem dL_isForeseen_69 : decode cL_isForeseen 69 = .ok (.iload_n 2, 1) := by decide +kernel
theorem dL_isForeseen_70 : decode cL_isForeseen 70 = .ok (.ifCond .ne 35, 3) := by decide +kernel
theorem dL_isForeseen_73 : decode cL_isForeseen 73 = .ok (.iload 4, 2) := by decide +kernel
theorem dL_isForeseen_75 : decode cL_isForeseen 75 = .ok (.ifCond .eq 28, 3) := by decide +kernel
theorem dL_isForeseen_78 : decode cL_isForeseen 78 = .ok (.iload_n 3, 1) := by decide +kernel
theorem dL_isForeseen_79 : decode cL_isForeseen 79 = .ok (.ifCond .ne 24, 3) := by decide +kernel
theorem dL_isForeseen_82 : decode cL_isForeseen 82 = .ok (.aload_n 0, 1) := by decide +kernel
theorem dL_isForeseen_83 : decode cL_isForeseen 83 = .ok (.iconst 0, 1) := by decide +kernel
theorem dL_isForeseen_84 : decode cL_isForeseen 84 = .ok (.invokevirtual 66, 3) := by decide +kernel
theorem dL_isForeseen_87 : decode cL_isForeseen 87 = .ok (.ifCond .ne 16, 3) := by decide +kernel
theorem dL_isForeseen_90 : decode cL_isForeseen 90 = .ok (.aload_n 0, 1) := by decide +kernel
theorem dL_isForeseen_91 : decode cL_isForeseen 91 = .ok (.invokevirtual 28, 3) := by decide +kernel
theorem dL_isForeseen_94 : decode cL_isForeseen 94 = .ok (.bipush (-4), 2) := by decide +kernel
theorem dL_isForeseen_96 : decode cL_isForeseen 96 = .ok (.if_icmp .ne 7, 3) := by decide +kernel
theorem dL_isForeseen_99 : decode cL_isForeseen 99 = .ok (.iconst 1, 1) := by decide +kernel
theorem dL_isForeseen_100 : decode cL_isForeseen 100 = .ok (.goto 4, 3) := by decide +kernel
theorem dL_isForeseen_103 : decode cL_isForeseen 103 = .ok (.iconst 0, 1) := by decide +kernel
theorem dL_isForeseen_104 : decode cL_isForeseen 104 = .ok (.ireturn, 1) := by decide +kernel
theorem dL_isForeseen_105 : decode cL_isForeseen 105 = .ok (.aload_n 0, 1) := by decide +kernel
theorem dL_isForeseen_106 : decode cL_isForeseen 106 = .ok (.iconst 3, 1) := by decide +kernel
theorem dL_isForeseen_107 : decode cL_isForeseen 107 = .ok (.invokevirtual 9, 3) := by decide +kernel
theorem dL_isForeseen_110 : decode cL_isForeseen 110 = .ok (.aload_n 0, 1) := by decide +kernel
theorem dL_isForeseen_111 : decode cL_isForeseen 111 = .ok (.iconst 0, 1) := by decide +kernel
theorem dL_isForeseen_112 : decode cL_isForeseen 112 = .ok (.invokevirtual 66, 3) := by decide +kernel
theorem dL_isForeseen_115 : decode cL_isForeseen 115 = .ok (.iadd, 1) := by decide +kernel
theorem dL_isForeseen_116 : decode cL_isForeseen 116 = .ok (.istore 5, 2) := by decide +kernel
theorem dL_isForeseen_118 : decode cL_isForeseen 118 = .ok (.iload 4, 2) := by decide +kernel
theorem dL_isForeseen_120 : decode cL_isForeseen 120 = .ok (.ifCond .eq 57, 3) := by decide +kernel
theorem dL_isForeseen_123 : decode cL_isForeseen 123 = .ok (.aload_n 0, 1) := by decide +kernel
theorem dL_isForeseen_124 : decode cL_isForeseen 124 = .ok (.invokevirtual 28, 3) := by decide +kernel
theorem dL_isForeseen_127 : decode cL_isForeseen 127 = .ok (.ifCond .lt 50, 3) := by decide +kernel
theorem dL_isForeseen_130 : decode cL_isForeseen 130 = .ok (.aload_n 0, 1) := by decide +kernel
theorem dL_isForeseen_131 : decode cL_isForeseen 131 = .ok (.iconst 5, 1) := by decide +kernel
theorem dL_isForeseen_132 : decode cL_isForeseen 132 = .ok (.invokevirtual 66, 3) := by decide +kernel
theorem dL_isForeseen_135 : decode cL_isForeseen 135 = .ok (.iload_n 2, 1) := by decide +kernel
theorem dL_isForeseen_136 : decode cL_isForeseen 136 = .ok (.iconst 1, 1) := by decide +kernel
theorem dL_isForeseen_137 : decode cL_isForeseen 137 = .ok (.isub, 1) := by decide +kernel
theorem dL_isForeseen_138 : decode cL_isForeseen 138 = .ok (.if_icmp .ne 39, 3) := by decide +kernel
theorem dL_isForeseen_141 : decode cL_isForeseen 141 = .ok (.aload_n 0, 1) := by decide +kernel
theorem dL_isForeseen_142 : decode cL_isForeseen 142 = .ok (.iconst 3, 1) := by decide +kernel
theorem dL_isForeseen_143 : decode cL_isForeseen 143 = .ok (.invokevirtual 9, 3) := by decide +kernel
theorem dL_isForeseen_146 : decode cL_isForeseen 146 = .ok (.aload_n 0, 1) := by decide +kernel
theorem dL_isForeseen_147 : decode cL_isForeseen 147 = .ok (.iconst 0, 1) := by decide +kernel
theorem dL_isForeseen_148 : decode cL_isForeseen 148 = .ok (.invokevirtual 66, 3) := by decide +kernel
theorem dL_isForeseen_151 : decode cL_isForeseen 151 = .ok (.iadd, 1) := by decide +kernel
theorem dL_isForeseen_152 : decode cL_isForeseen 152 = .ok (.iload 5, 2) := by decide +kernel
theorem dL_isForeseen_154 : decode cL_isForeseen 154 = .ok (.if_icmp .ne 23, 3) := by decide +kernel
theorem dL_isForeseen_157 : decode cL_isForeseen 157 = .ok (.aload_n 0, 1) := by decide +kernel
theorem dL_isForeseen_158 : decode cL_isForeseen 158 = .ok (.invokevirtual 60, 3) := by decide +kernel
theorem dL_isForeseen_161 : decode cL_isForeseen 161 = .ok (.ifCond .lt 16, 3) := by decide +kernel
theorem dL_isForeseen_164 : decode cL_isForeseen 164 = .ok (.aload_n 0, 1) := by decide +kernel
theorem dL_isForeseen_165 : decode cL_isForeseen 165 = .ok (.iconst 5, 1) := by decide +kernel
theorem dL_isForeseen_166 : decode cL_isForeseen 166 = .ok (.invokevirtual 66, 3) := by decide +kernel
theorem dL_isForeseen_169 : decode cL_isForeseen 169 = .ok (.iload_n 2, 1) := by decide +kernel
theorem dL_isForeseen_170 : decode cL_isForeseen 170 = .ok (.if_icmp .ne 7, 3) := by decide +kernel
theorem dL_isForeseen_173 : decode cL_isForeseen 173 = .ok (.iconst 1, 1) := by decide +kernel
theorem dL_isForeseen_174 : decode cL_isForeseen 174 = .ok (.goto 4, 3) := by decide +kernel
theorem dL_isForeseen_177 : decode cL_isForeseen 177 = .ok (.iconst 0, 1) := by decide +kernel
theorem dL_isForeseen_178 : decode cL_isForeseen 178 = .ok (.ireturn, 1) := by decide +kernel
theorem dL_law_0 : decode cL_law 0 = .ok (.new 10, 3) := by decide +kernel
theorem dL_law_3 : decode cL_law 3 = .ok (.dup, 1) := by decide +kernel
theorem dL_law_4 : decode cL_law 4 = .ok (.invokespecial 72, 3) := by decide +kernel
theorem dL_law_7 : decode cL_law 7 = .ok (.astore_n 1, 1) := by decide +kernel
theorem dL_law_8 : decode cL_law 8 = .ok (.iconst 1, 1) := by decide +kernel
theorem dL_law_9 : decode cL_law 9 = .ok (.istore_n 2, 1) := by decide +kernel
theorem dL_law_10 : decode cL_law 10 = .ok (.iconst 0, 1) := by decide +kernel
theorem dL_law_11 : decode cL_law 11 = .ok (.istore_n 3, 1) := by decide +kernel
theorem dL_law_12 : decode cL_law 12 = .ok (.iload_n 3, 1) := by decide +kernel
theorem dL_law_13 : decode cL_law 13 = .ok (.bipush 60, 2) := by decide +kernel
theorem dL_law_15 : decode cL_law 15 = .ok (.if_icmp .ge 60, 3) := by decide +kernel
theorem dL_law_18 : decode cL_law 18 = .ok (.iload_n 2, 1) := by decide +kernel
theorem dL_law_19 : decode cL_law 19 = .ok (.ifCond .eq 56, 3) := by decide +kernel
theorem dL_law_22 : decode cL_law 22 = .ok (.aload_n 1, 1) := by decide +kernel
theorem dL_law_23 : decode cL_law 23 = .ok (.aload_n 0, 1) := by decide +kernel
theorem dL_law_24 : decode cL_law 24 = .ok (.iload_n 3, 1) := by decide +kernel
theorem dL_law_25 : decode cL_law 25 = .ok (.invokestatic 73, 3) := by decide +kernel
theorem dL_law_28 : decode cL_law 28 = .ok (.aload_n 0, 1) := by decide +kernel
theorem dL_law_29 : decode cL_law 29 = .ok (.iload_n 3, 1) := by decide +kernel
theorem dL_law_30 : decode cL_law 30 = .ok (.iconst 1, 1) := by decide +kernel
theorem dL_law_31 : decode cL_law 31 = .ok (.iadd, 1) := by decide +kernel
theorem dL_law_32 : decode cL_law 32 = .ok (.invokestatic 73, 3) := by decide +kernel
theorem dL_law_35 : decode cL_law 35 = .ok (.iconst 2, 1) := by decide +kernel
theorem dL_law_36 : decode cL_law 36 = .ok (.ishr, 1) := by decide +kernel
theorem dL_law_37 : decode cL_law 37 = .ok (.invokestatic 77, 3) := by decide +kernel
theorem dL_law_40 : decode cL_law 40 = .ok (.ifCond .eq 27, 3) := by decide +kernel
theorem dL_law_43 : decode cL_law 43 = .ok (.aload_n 1, 1) := by decide +kernel
theorem dL_law_44 : decode cL_law 44 = .ok (.invokestatic 81, 3) := by decide +kernel
theorem dL_law_47 : decode cL_law 47 = .ok (.ifCond .eq 20, 3) := by decide +kernel
theorem dL_law_50 : decode cL_law 50 = .ok (.iload_n 3, 1) := by decide +kernel
theorem dL_law_51 : decode cL_law 51 = .ok (.iconst 5, 1) := by decide +kernel
theorem dL_law_52 : decode cL_law 52 = .ok (.irem, 1) := by decide +kernel
theorem dL_law_53 : decode cL_law 53 = .ok (.ifCond .gt 10, 3) := by decide +kernel
theorem dL_law_56 : decode cL_law 56 = .ok (.aload_n 1, 1) := by decide +kernel
theorem dL_law_57 : decode cL_law 57 = .ok (.invokestatic 85, 3) := by decide +kernel
theorem dL_law_60 : decode cL_law 60 = .ok (.ifCond .eq 7, 3) := by decide +kernel
theorem dL_law_63 : decode cL_law 63 = .ok (.iconst 1, 1) := by decide +kernel
theorem dL_law_64 : decode cL_law 64 = .ok (.goto 4, 3) := by decide +kernel
theorem dL_law_67 : decode cL_law 67 = .ok (.iconst 0, 1) := by decide +kernel
theorem dL_law_68 : decode cL_law 68 = .ok (.istore_n 2, 1) := by decide +kernel
theorem dL_law_69 : decode cL_law 69 = .ok (.iinc 3 1, 3) := by decide +kernel
theorem dL_law_72 : decode cL_law 72 = .ok (.goto (-60), 3) := by decide +kernel
theorem dL_law_75 : decode cL_law 75 = .ok (.iload_n 2, 1) := by decide +kernel
theorem dL_law_76 : decode cL_law 76 = .ok (.ifCond .eq 14, 3) := by decide +kernel
theorem dL_law_79 : decode cL_law 79 = .ok (.aload_n 1, 1) := by decide +kernel
theorem dL_law_80 : decode cL_law 80 = .ok (.invokestatic 85, 3) := by decide +kernel
theorem dL_law_83 : decode cL_law 83 = .ok (.ifCond .eq 7, 3) := by decide +kernel
theorem dL_law_86 : decode cL_law 86 = .ok (.iconst 1, 1) := by decide +kernel
theorem dL_law_87 : decode cL_law 87 = .ok (.goto 4, 3) := by decide +kernel
theorem dL_law_90 : decode cL_law 90 = .ok (.iconst 0, 1) := by decide +kernel
theorem dL_law_91 : decode cL_law 91 = .ok (.ireturn, 1) := by decide +kernel
