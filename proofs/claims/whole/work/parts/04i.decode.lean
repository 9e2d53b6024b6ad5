theorem dX7_fits_94 : decode cX7_fits 94 = .ok (.iload_n 3, 1) := by decide +kernel
theorem dX7_fits_95 : decode cX7_fits 95 = .ok (.ireturn, 1) := by decide +kernel
theorem dX7_range_0 : decode cX7_range 0 = .ok (.aload_n 0, 1) := by decide +kernel
theorem dX7_range_1 : decode cX7_range 1 = .ok (.iload_n 1, 1) := by decide +kernel
theorem dX7_range_2 : decode cX7_range 2 = .ok (.invokevirtual 165, 3) := by decide +kernel
theorem dX7_range_5 : decode cX7_range 5 = .ok (.ifCond .eq 13, 3) := by decide +kernel
theorem dX7_range_8 : decode cX7_range 8 = .ok (.iload_n 2, 1) := by decide +kernel
theorem dX7_range_9 : decode cX7_range 9 = .ok (.i2l, 1) := by decide +kernel
theorem dX7_range_10 : decode cX7_range 10 = .ok (.lconst 0, 1) := by decide +kernel
theorem dX7_range_11 : decode cX7_range 11 = .ok (.lconst 1, 1) := by decide +kernel
theorem dX7_range_12 : decode cX7_range 12 = .ok (.invokestatic 50, 3) := by decide +kernel
theorem dX7_range_15 : decode cX7_range 15 = .ok (.ifCond .ne 5, 3) := by decide +kernel
theorem dX7_range_18 : decode cX7_range 18 = .ok (.iconst (-1), 1) := by decide +kernel
theorem dX7_range_19 : decode cX7_range 19 = .ok (.ireturn, 1) := by decide +kernel
theorem dX7_range_20 : decode cX7_range 20 = .ok (.aload_n 0, 1) := by decide +kernel
theorem dX7_range_21 : decode cX7_range 21 = .ok (.iconst 0, 1) := by decide +kernel
theorem dX7_range_22 : decode cX7_range 22 = .ok (.bipush 120, 2) := by decide +kernel
theorem dX7_range_24 : decode cX7_range 24 = .ok (.invokevirtual 224, 3) := by decide +kernel
theorem dX7_range_27 : decode cX7_range 27 = .ok (.ldc 253, 2) := by decide +kernel
theorem dX7_range_29 : decode cX7_range 29 = .ok (.istore_n 3, 1) := by decide +kernel
theorem dX7_range_30 : decode cX7_range 30 = .ok (.bipush (-4), 2) := by decide +kernel
theorem dX7_range_32 : decode cX7_range 32 = .ok (.istore 4, 2) := by decide +kernel
theorem dX7_range_34 : decode cX7_range 34 = .ok (.iconst 0, 1) := by decide +kernel
theorem dX7_range_35 : decode cX7_range 35 = .ok (.istore 5, 2) := by decide +kernel
theorem dX7_range_37 : decode cX7_range 37 = .ok (.iload 5, 2) := by decide +kernel
theorem dX7_range_39 : decode cX7_range 39 = .ok (.aload_n 0, 1) := by decide +kernel
theorem dX7_range_40 : decode cX7_range 40 = .ok (.invokevirtual 247, 3) := by decide +kernel
theorem dX7_range_43 : decode cX7_range 43 = .ok (.if_icmp .ge 57, 3) := by decide +kernel
theorem dX7_range_46 : decode cX7_range 46 = .ok (.aload_n 0, 1) := by decide +kernel
theorem dX7_range_47 : decode cX7_range 47 = .ok (.iload 5, 2) := by decide +kernel
theorem dX7_range_49 : decode cX7_range 49 = .ok (.invokevirtual 250, 3) := by decide +kernel
theorem dX7_range_52 : decode cX7_range 52 = .ok (.ifCond .eq 42, 3) := by decide +kernel
theorem dX7_range_55 : decode cX7_range 55 = .ok (.aload_n 0, 1) := by decide +kernel
theorem dX7_range_56 : decode cX7_range 56 = .ok (.getfield 7, 3) := by decide +kernel
theorem dX7_range_59 : decode cX7_range 59 = .ok (.iconst 4, 1) := by decide +kernel
theorem dX7_range_60 : decode cX7_range 60 = .ok (.iload_n 1, 1) := by decide +kernel
theorem dX7_range_61 : decode cX7_range 61 = .ok (.iadd, 1) := by decide +kernel
theorem dX7_range_62 : decode cX7_range 62 = .ok (.iaload, 1) := by decide +kernel
theorem dX7_range_63 : decode cX7_range 63 = .ok (.istore 6, 2) := by decide +kernel
theorem dX7_range_65 : decode cX7_range 65 = .ok (.iload 6, 2) := by decide +kernel
theorem dX7_range_67 : decode cX7_range 67 = .ok (.iload_n 3, 1) := by decide +kernel
theorem dX7_range_68 : decode cX7_range 68 = .ok (.if_icmp .ge 8, 3) := by decide +kernel
theorem dX7_range_71 : decode cX7_range 71 = .ok (.iload 6, 2) := by decide +kernel
theorem dX7_range_73 : decode cX7_range 73 = .ok (.goto 4, 3) := by decide +kernel
theorem dX7_range_76 : decode cX7_range 76 = .ok (.iload_n 3, 1) := by decide +kernel
theorem dX7_range_77 : decode cX7_range 77 = .ok (.istore_n 3, 1) := by decide +kernel
theorem dX7_range_78 : decode cX7_range 78 = .ok (.iload 6, 2) := by decide +kernel
theorem dX7_range_80 : decode cX7_range 80 = .ok (.iload 4, 2) := by decide +kernel
theorem dX7_range_82 : decode cX7_range 82 = .ok (.if_icmp .le 8, 3) := by decide +kernel
theorem dX7_range_85 : decode cX7_range 85 = .ok (.iload 6, 2) := by decide +kernel
theorem dX7_range_87 : decode cX7_range 87 = .ok (.goto 5, 3) := by decide +kernel
theorem dX7_range_90 : decode cX7_range 90 = .ok (.iload 4, 2) := by decide +kernel
theorem dX7_range_92 : decode cX7_range 92 = .ok (.istore 4, 2) := by decide +kernel
theorem dX7_range_94 : decode cX7_range 94 = .ok (.iinc 5 1, 3) := by decide +kernel
theorem dX7_range_97 : decode cX7_range 97 = .ok (.goto (-60), 3) := by decide +kernel
theorem dX7_range_100 : decode cX7_range 100 = .ok (.aload_n 0, 1) := by decide +kernel
theorem dX7_range_101 : decode cX7_range 101 = .ok (.bipush 120, 2) := by decide +kernel
theorem dX7_range_103 : decode cX7_range 103 = .ok (.iconst 0, 1) := by decide +kernel
theorem dX7_range_104 : decode cX7_range 104 = .ok (.invokevirtual 224, 3) := by decide +kernel
theorem dX7_range_107 : decode cX7_range 107 = .ok (.iload 4, 2) := by decide +kernel
theorem dX7_range_109 : decode cX7_range 109 = .ok (.bipush (-4), 2) := by decide +kernel
theorem dX7_range_111 : decode cX7_range 111 = .ok (.if_icmp .eq 8, 3) := by decide +kernel
theorem dX7_range_114 : decode cX7_range 114 = .ok (.iload_n 2, 1) := by decide +kernel
theorem dX7_range_115 : decode cX7_range 115 = .ok (.iconst 1, 1) := by decide +kernel
theorem dX7_range_116 : decode cX7_range 116 = .ok (.if_icmp .ne 8, 3) := by decide +kernel
theorem dX7_range_119 : decode cX7_range 119 = .ok (.iload 4, 2) := by decide +kernel
theorem dX7_range_121 : decode cX7_range 121 = .ok (.goto 4, 3) := by decide +kernel
theorem dX7_range_124 : decode cX7_range 124 = .ok (.iload_n 3, 1) := by decide +kernel
theorem dX7_range_125 : decode cX7_range 125 = .ok (.ireturn, 1) := by decide +kernel
theorem dX7_next_0 : decode cX7_next 0 = .ok (.iload_n 1, 1) := by decide +kernel
theorem dX7_next_1 : decode cX7_next 1 = .ok (.i2l, 1) := by decide +kernel
theorem dX7_next_2 : decode cX7_next 2 = .ok (.lconst 0, 1) := by decide +kernel
theorem dX7_next_3 : decode cX7_next 3 = .ok (.lconst 1, 1) := by decide +kernel
theorem dX7_next_4 : decode cX7_next 4 = .ok (.invokestatic 50, 3) := by decide +kernel
theorem dX7_next_7 : decode cX7_next 7 = .ok (.ifCond .ne 5, 3) := by decide +kernel
theorem dX7_next_10 : decode cX7_next 10 = .ok (.iconst (-1), 1) := by decide +kernel
theorem dX7_next_11 : decode cX7_next 11 = .ok (.ireturn, 1) := by decide +kernel
theorem dX7_next_12 : decode cX7_next 12 = .ok (.aload_n 0, 1) := by decide +kernel
theorem dX7_next_13 : decode cX7_next 13 = .ok (.iconst 0, 1) := by decide +kernel
theorem dX7_next_14 : decode cX7_next 14 = .ok (.bipush 120, 2) := by decide +kernel
theorem dX7_next_16 : decode cX7_next 16 = .ok (.invokevirtual 224, 3) := by decide +kernel
theorem dX7_next_19 : decode cX7_next 19 = .ok (.iconst 0, 1) := by decide +kernel
theorem dX7_next_20 : decode cX7_next 20 = .ok (.istore_n 2, 1) := by decide +kernel
theorem dX7_next_21 : decode cX7_next 21 = .ok (.iconst 0, 1) := by decide +kernel
theorem dX7_next_22 : decode cX7_next 22 = .ok (.istore_n 3, 1) := by decide +kernel
theorem dX7_next_23 : decode cX7_next 23 = .ok (.iload_n 3, 1) := by decide +kernel
theorem dX7_next_24 : decode cX7_next 24 = .ok (.bipush 90, 2) := by decide +kernel
theorem dX7_next_26 : decode cX7_next 26 = .ok (.if_icmp .ge 16, 3) := by decide +kernel
theorem dX7_next_29 : decode cX7_next 29 = .ok (.aload_n 0, 1) := by decide +kernel
theorem dX7_next_30 : decode cX7_next 30 = .ok (.getfield 32, 3) := by decide +kernel
theorem dX7_next_33 : decode cX7_next 33 = .ok (.iload_n 3, 1) := by decide +kernel
theorem dX7_next_34 : decode cX7_next 34 = .ok (.iconst 0, 1) := by decide +kernel
theorem dX7_next_35 : decode cX7_next 35 = .ok (.iastore, 1) := by decide +kernel
theorem dX7_next_36 : decode cX7_next 36 = .ok (.iinc 3 1, 3) := by decide +kernel
theorem dX7_next_39 : decode cX7_next 39 = .ok (.goto (-16), 3) := by decide +kernel
theorem dX7_next_42 : decode cX7_next 42 = .ok (.iconst 0, 1) := by decide +kernel
theorem dX7_next_43 : decode cX7_next 43 = .ok (.istore_n 3, 1) := by decide +kernel
theorem dX7_next_44 : decode cX7_next 44 = .ok (.iload_n 3, 1) := by decide +kernel
theorem dX7_next_45 : decode cX7_next 45 = .ok (.aload_n 0, 1) := by decide +kernel
theorem dX7_next_46 : decode cX7_next 46 = .ok (.invokevirtual 247, 3) := by decide +kernel
theorem dX7_next_49 : decode cX7_next 49 = .ok (.if_icmp .ge 57, 3) := by decide +kernel
theorem dX7_next_52 : decode cX7_next 52 = .ok (.aload_n 0, 1) := by decide +kernel
theorem dX7_next_53 : decode cX7_next 53 = .ok (.iload_n 3, 1) := by decide +kernel
theorem dX7_next_54 : decode cX7_next 54 = .ok (.invokevirtual 250, 3) := by decide +kernel
theorem dX7_next_57 : decode cX7_next 57 = .ok (.ifCond .eq 43, 3) := by decide +kernel
theorem dX7_next_60 : decode cX7_next 60 = .ok (.iinc 2 1, 3) := by decide +kernel
theorem dX7_next_63 : decode cX7_next 63 = .ok (.iconst 0, 1) := by decide +kernel
theorem dX7_next_64 : decode cX7_next 64 = .ok (.istore 4, 2) := by decide +kernel
theorem dX7_next_66 : decode cX7_next 66 = .ok (.iload 4, 2) := by decide +kernel
theorem dX7_next_68 : decode cX7_next 68 = .ok (.bipush 9, 2) := by decide +kernel
theorem dX7_next_70 : decode cX7_next 70 = .ok (.if_icmp .ge 30, 3) := by decide +kernel
theorem dX7_next_73 : decode cX7_next 73 = .ok (.aload_n 0, 1) := by decide +kernel
theorem dX7_next_74 : decode cX7_next 74 = .ok (.getfield 32, 3) := by decide +kernel
theorem dX7_next_77 : decode cX7_next 77 = .ok (.bipush 10, 2) := by decide +kernel
theorem dX7_next_79 : decode cX7_next 79 = .ok (.iload 4, 2) := by decide +kernel
theorem dX7_next_81 : decode cX7_next 81 = .ok (.imul, 1) := by decide +kernel
theorem dX7_next_82 : decode cX7_next 82 = .ok (.aload_n 0, 1) := by decide +kernel
theorem dX7_next_83 : decode cX7_next 83 = .ok (.iload 4, 2) := by decide +kernel
theorem dX7_next_85 : decode cX7_next 85 = .ok (.invokevirtual 199, 3) := by decide +kernel
theorem dX7_next_88 : decode cX7_next 88 = .ok (.iadd, 1) := by decide +kernel
theorem dX7_next_89 : decode cX7_next 89 = .ok (.dup2, 1) := by decide +kernel
theorem dX7_next_90 : decode cX7_next 90 = .ok (.iaload, 1) := by decide +kernel
theorem dX7_next_91 : decode cX7_next 91 = .ok (.iconst 1, 1) := by decide +kernel
theorem dX7_next_92 : decode cX7_next 92 = .ok (.iadd, 1) := by decide +kernel
theorem dX7_next_93 : decode cX7_next 93 = .ok (.iastore, 1) := by decide +kernel
theorem dX7_next_94 : decode cX7_next 94 = .ok (.iinc 4 1, 3) := by decide +kernel
theorem dX7_next_97 : decode cX7_next 97 = .ok (.goto (-31), 3) := by decide +kernel
theorem dX7_next_100 : decode cX7_next 100 = .ok (.iinc 3 1, 3) := by decide +kernel
theorem dX7_next_103 : decode cX7_next 103 = .ok (.goto (-59), 3) := by decide +kernel
theorem dX7_next_106 : decode cX7_next 106 = .ok (.aload_n 0, 1) := by decide +kernel
theorem dX7_next_107 : decode cX7_next 107 = .ok (.bipush 120, 2) := by decide +kernel
theorem dX7_next_109 : decode cX7_next 109 = .ok (.iconst 0, 1) := by decide +kernel
theorem dX7_next_110 : decode cX7_next 110 = .ok (.invokevirtual 224, 3) := by decide +kernel
theorem dX7_next_113 : decode cX7_next 113 = .ok (.iload_n 2, 1) := by decide +kernel
theorem dX7_next_114 : decode cX7_next 114 = .ok (.istore_n 3, 1) := by decide +kernel
theorem dX7_next_115 : decode cX7_next 115 = .ok (.bipush (-4), 2) := by decide +kernel
theorem dX7_next_117 : decode cX7_next 117 = .ok (.istore 4, 2) := by decide +kernel
theorem dX7_next_119 : decode cX7_next 119 = .ok (.iconst 0, 1) := by decide +kernel
theorem dX7_next_120 : decode cX7_next 120 = .ok (.istore 5, 2) := by decide +kernel
theorem dX7_next_122 : decode cX7_next 122 = .ok (.iload 5, 2) := by decide +kernel
theorem dX7_next_124 : decode cX7_next 124 = .ok (.bipush 9, 2) := by decide +kernel
theorem dX7_next_126 : decode cX7_next 126 = .ok (.if_icmp .ge 94, 3) := by decide +kernel
theorem dX7_next_129 : decode cX7_next 129 = .ok (.iconst 0, 1) := by decide +kernel
theorem dX7_next_130 : decode cX7_next 130 = .ok (.istore 6, 2) := by decide +kernel
theorem dX7_next_132 : decode cX7_next 132 = .ok (.iconst 0, 1) := by decide +kernel
theorem dX7_next_133 : decode cX7_next 133 = .ok (.istore 7, 2) := by decide +kernel
theorem dX7_next_135 : decode cX7_next 135 = .ok (.iload 7, 2) := by decide +kernel
theorem dX7_next_137 : decode cX7_next 137 = .ok (.bipush 10, 2) := by decide +kernel
theorem dX7_next_139 : decode cX7_next 139 = .ok (.if_icmp .ge 47, 3) := by decide +kernel
theorem dX7_next_142 : decode cX7_next 142 = .ok (.aload_n 0, 1) := by decide +kernel
theorem dX7_next_143 : decode cX7_next 143 = .ok (.getfield 32, 3) := by decide +kernel
theorem dX7_next_146 : decode cX7_next 146 = .ok (.bipush 10, 2) := by decide +kernel
theorem dX7_next_148 : decode cX7_next 148 = .ok (.iload 5, 2) := by decide +kernel
theorem dX7_next_150 : decode cX7_next 150 = .ok (.imul, 1) := by decide +kernel
theorem dX7_next_151 : decode cX7_next 151 = .ok (.iload 7, 2) := by decide +kernel
theorem dX7_next_153 : decode cX7_next 153 = .ok (.iadd, 1) := by decide +kernel
theorem dX7_next_154 : decode cX7_next 154 = .ok (.iaload, 1) := by decide +kernel
theorem dX7_next_155 : decode cX7_next 155 = .ok (.iload 6, 2) := by decide +kernel
theorem dX7_next_157 : decode cX7_next 157 = .ok (.if_icmp .le 19, 3) := by decide +kernel
theorem dX7_next_160 : decode cX7_next 160 = .ok (.aload_n 0, 1) := by decide +kernel
theorem dX7_next_161 : decode cX7_next 161 = .ok (.getfield 32, 3) := by decide +kernel
theorem dX7_next_164 : decode cX7_next 164 = .ok (.bipush 10, 2) := by decide +kernel
theorem dX7_next_166 : decode cX7_next 166 = .ok (.iload 5, 2) := by decide +kernel
theorem dX7_next_168 : decode cX7_next 168 = .ok (.imul, 1) := by decide +kernel
theorem dX7_next_169 : decode cX7_next 169 = .ok (.iload 7, 2) := by decide +kernel
theorem dX7_next_171 : decode cX7_next 171 = .ok (.iadd, 1) := by decide +kernel
theorem dX7_next_172 : decode cX7_next 172 = .ok (.iaload, 1) := by decide +kernel
theorem dX7_next_173 : decode cX7_next 173 = .ok (.goto 5, 3) := by decide +kernel
theorem dX7_next_176 : decode cX7_next 176 = .ok (.iload 6, 2) := by decide +kernel
theorem dX7_next_178 : decode cX7_next 178 = .ok (.istore 6, 2) := by decide +kernel
theorem dX7_next_180 : decode cX7_next 180 = .ok (.iinc 7 1, 3) := by decide +kernel
theorem dX7_next_183 : decode cX7_next 183 = .ok (.goto (-48), 3) := by decide +kernel
theorem dX7_next_186 : decode cX7_next 186 = .ok (.iload 6, 2) := by decide +kernel
theorem dX7_next_188 : decode cX7_next 188 = .ok (.iload_n 3, 1) := by decide +kernel
theorem dX7_next_189 : decode cX7_next 189 = .ok (.if_icmp .ge 8, 3) := by decide +kernel
theorem dX7_next_192 : decode cX7_next 192 = .ok (.iload 5, 2) := by decide +kernel
theorem dX7_next_194 : decode cX7_next 194 = .ok (.goto 5, 3) := by decide +kernel
theorem dX7_next_197 : decode cX7_next 197 = .ok (.iload 4, 2) := by decide +kernel
theorem dX7_next_199 : decode cX7_next 199 = .ok (.istore 4, 2) := by decide +kernel
theorem dX7_next_201 : decode cX7_next 201 = .ok (.iload 6, 2) := by decide +kernel
theorem dX7_next_203 : decode cX7_next 203 = .ok (.iload_n 3, 1) := by decide +kernel
theorem dX7_next_204 : decode cX7_next 204 = .ok (.if_icmp .ge 8, 3) := by decide +kernel
theorem dX7_next_207 : decode cX7_next 207 = .ok (.iload 6, 2) := by decide +kernel
theorem dX7_next_209 : decode cX7_next 209 = .ok (.goto 4, 3) := by decide +kernel
theorem dX7_next_212 : decode cX7_next 212 = .ok (.iload_n 3, 1) := by decide +kernel
theorem dX7_next_213 : decode cX7_next 213 = .ok (.istore_n 3, 1) := by decide +kernel
theorem dX7_next_214 : decode cX7_next 214 = .ok (.iinc 5 1, 3) := by decide +kernel
theorem dX7_next_217 : decode cX7_next 217 = .ok (.goto (-95), 3) := by decide +kernel
theorem dX7_next_220 : decode cX7_next 220 = .ok (.iload 4, 2) := by decide +kernel
theorem dX7_next_222 : decode cX7_next 222 = .ok (.bipush (-4), 2) := by decide +kernel
theorem dX7_next_224 : decode cX7_next 224 = .ok (.if_icmp .eq 7, 3) := by decide +kernel
theorem dX7_next_227 : decode cX7_next 227 = .ok (.iload_n 1, 1) := by decide +kernel
theorem dX7_next_228 : decode cX7_next 228 = .ok (.ifCond .ne 8, 3) := by decide +kernel
theorem dX7_next_231 : decode cX7_next 231 = .ok (.iload 4, 2) := by decide +kernel
theorem dX7_next_233 : decode cX7_next 233 = .ok (.goto 4, 3) := by decide +kernel
theorem dX7_next_236 : decode cX7_next 236 = .ok (.iload_n 3, 1) := by decide +kernel
theorem dX7_next_237 : decode cX7_next 237 = .ok (.ireturn, 1) := by decide +kernel
theorem dX7_draws_0 : decode cX7_draws 0 = .ok (.aload_n 0, 1) := by decide +kernel
theorem dX7_draws_1 : decode cX7_draws 1 = .ok (.aload_n 0, 1) := by decide +kernel
theorem dX7_draws_2 : decode cX7_draws 2 = .ok (.getfield 254, 3) := by decide +kernel
theorem dX7_draws_5 : decode cX7_draws 5 = .ok (.ldc_w 257, 3) := by decide +kernel
theorem dX7_draws_8 : decode cX7_draws 8 = .ok (.imul, 1) := by decide +kernel
theorem dX7_draws_9 : decode cX7_draws 9 = .ok (.sipush 12345, 3) := by decide +kernel
theorem dX7_draws_12 : decode cX7_draws 12 = .ok (.iadd, 1) := by decide +kernel
theorem dX7_draws_13 : decode cX7_draws 13 = .ok (.putfield 254, 3) := by decide +kernel
theorem dX7_draws_16 : decode cX7_draws 16 = .ok (.aload_n 0, 1) := by decide +kernel
theorem dX7_draws_17 : decode cX7_draws 17 = .ok (.getfield 254, 3) := by decide +kernel
theorem dX7_draws_20 : decode cX7_draws 20 = .ok (.bipush 16, 2) := by decide +kernel
theorem dX7_draws_22 : decode cX7_draws 22 = .ok (.ishr, 1) := by decide +kernel
theorem dX7_draws_23 : decode cX7_draws 23 = .ok (.sipush 32767, 3) := by decide +kernel
theorem dX7_draws_26 : decode cX7_draws 26 = .ok (.iand, 1) := by decide +kernel
theorem dX7_draws_27 : decode cX7_draws 27 = .ok (.iload_n 1, 1) := by decide +kernel
theorem dX7_draws_28 : decode cX7_draws 28 = .ok (.irem, 1) := by decide +kernel
theorem dX7_draws_29 : decode cX7_draws 29 = .ok (.ireturn, 1) := by decide +kernel
theorem dX7_drift_0 : decode cX7_drift 0 = .ok (.iload_n 2, 1) := by decide +kernel
theorem dX7_drift_1 : decode cX7_drift 1 = .ok (.i2l, 1) := by decide +kernel
theorem dX7_drift_2 : decode cX7_drift 2 = .ok (.lconst 1, 1) := by decide +kernel
theorem dX7_drift_3 : decode cX7_drift 3 = .ok (.ldc2_w 258, 3) := by decide +kernel
theorem dX7_drift_6 : decode cX7_drift 6 = .ok (.invokestatic 50, 3) := by decide +kernel
theorem dX7_drift_9 : decode cX7_drift 9 = .ok (.ifCond .eq 13, 3) := by decide +kernel
theorem dX7_drift_12 : decode cX7_drift 12 = .ok (.iload_n 3, 1) := by decide +kernel
theorem dX7_drift_13 : decode cX7_drift 13 = .ok (.i2l, 1) := by decide +kernel
theorem dX7_drift_14 : decode cX7_drift 14 = .ok (.lconst 0, 1) := by decide +kernel
theorem dX7_drift_15 : decode cX7_drift 15 = .ok (.lconst 1, 1) := by decide +kernel
theorem dX7_drift_16 : decode cX7_drift 16 = .ok (.invokestatic 50, 3) := by decide +kernel
theorem dX7_drift_19 : decode cX7_drift 19 = .ok (.ifCond .ne 5, 3) := by decide +kernel
theorem dX7_drift_22 : decode cX7_drift 22 = .ok (.iconst (-1), 1) := by decide +kernel
theorem dX7_drift_23 : decode cX7_drift 23 = .ok (.ireturn, 1) := by decide +kernel
theorem dX7_drift_24 : decode cX7_drift 24 = .ok (.aload_n 0, 1) := by decide +kernel
theorem dX7_drift_25 : decode cX7_drift 25 = .ok (.getfield 136, 3) := by decide +kernel
theorem dX7_drift_28 : decode cX7_drift 28 = .ok (.ifCond .ne 6, 3) := by decide +kernel
theorem dX7_drift_31 : decode cX7_drift 31 = .ok (.bipush (-2), 2) := by decide +kernel
theorem dX7_drift_33 : decode cX7_drift 33 = .ok (.ireturn, 1) := by decide +kernel
theorem dX7_drift_34 : decode cX7_drift 34 = .ok (.aload_n 0, 1) := by decide +kernel
theorem dX7_drift_35 : decode cX7_drift 35 = .ok (.iconst 0, 1) := by decide +kernel
theorem dX7_drift_36 : decode cX7_drift 36 = .ok (.bipush 120, 2) := by decide +kernel
theorem dX7_drift_38 : decode cX7_drift 38 = .ok (.invokevirtual 224, 3) := by decide +kernel
theorem dX7_drift_41 : decode cX7_drift 41 = .ok (.aload_n 0, 1) := by decide +kernel
theorem dX7_drift_42 : decode cX7_drift 42 = .ok (.iload_n 1, 1) := by decide +kernel
theorem dX7_drift_43 : decode cX7_drift 43 = .ok (.putfield 254, 3) := by decide +kernel
theorem dX7_drift_46 : decode cX7_drift 46 = .ok (.iconst 0, 1) := by decide +kernel
theorem dX7_drift_47 : decode cX7_drift 47 = .ok (.istore 4, 2) := by decide +kernel
theorem dX7_drift_49 : decode cX7_drift 49 = .ok (.iconst 0, 1) := by decide +kernel
theorem dX7_drift_50 : decode cX7_drift 50 = .ok (.istore 5, 2) := by decide +kernel
theorem dX7_drift_52 : decode cX7_drift 52 = .ok (.iconst 0, 1) := by decide +kernel
theorem dX7_drift_53 : decode cX7_drift 53 = .ok (.istore 6, 2) := by decide +kernel
theorem dX7_drift_55 : decode cX7_drift 55 = .ok (.iload 6, 2) := by decide +kernel
theorem dX7_drift_57 : decode cX7_drift 57 = .ok (.iload_n 2, 1) := by decide +kernel
theorem dX7_drift_58 : decode cX7_drift 58 = .ok (.if_icmp .ge 73, 3) := by decide +kernel
theorem dX7_drift_61 : decode cX7_drift 61 = .ok (.aload_n 0, 1) := by decide +kernel
theorem dX7_drift_62 : decode cX7_drift 62 = .ok (.aload_n 0, 1) := by decide +kernel
theorem dX7_drift_63 : decode cX7_drift 63 = .ok (.getfield 136, 3) := by decide +kernel
theorem dX7_drift_66 : decode cX7_drift 66 = .ok (.invokevirtual 260, 3) := by decide +kernel
theorem dX7_drift_69 : decode cX7_drift 69 = .ok (.istore 7, 2) := by decide +kernel
theorem dX7_drift_71 : decode cX7_drift 71 = .ok (.aload_n 0, 1) := by decide +kernel
theorem dX7_drift_72 : decode cX7_drift 72 = .ok (.getfield 7, 3) := by decide +kernel
theorem dX7_drift_75 : decode cX7_drift 75 = .ok (.iconst 4, 1) := by decide +kernel
theorem dX7_drift_76 : decode cX7_drift 76 = .ok (.iload 7, 2) := by decide +kernel
theorem dX7_drift_78 : decode cX7_drift 78 = .ok (.iadd, 1) := by decide +kernel
theorem dX7_drift_79 : decode cX7_drift 79 = .ok (.aload_n 0, 1) := by decide +kernel
theorem dX7_drift_80 : decode cX7_drift 80 = .ok (.bipush 10, 2) := by decide +kernel
theorem dX7_drift_82 : decode cX7_drift 82 = .ok (.invokevirtual 260, 3) := by decide +kernel
theorem dX7_drift_85 : decode cX7_drift 85 = .ok (.iastore, 1) := by decide +kernel
theorem dX7_drift_86 : decode cX7_drift 86 = .ok (.iload 4, 2) := by decide +kernel
theorem dX7_drift_88 : decode cX7_drift 88 = .ok (.aload_n 0, 1) := by decide +kernel
theorem dX7_drift_89 : decode cX7_drift 89 = .ok (.invokevirtual 190, 3) := by decide +kernel
theorem dX7_drift_92 : decode cX7_drift 92 = .ok (.ifCond .eq 7, 3) := by decide +kernel
theorem dX7_drift_95 : decode cX7_drift 95 = .ok (.iconst 1, 1) := by decide +kernel
theorem dX7_drift_96 : decode cX7_drift 96 = .ok (.goto 4, 3) := by decide +kernel
theorem dX7_drift_99 : decode cX7_drift 99 = .ok (.iconst 0, 1) := by decide +kernel
theorem dX7_drift_100 : decode cX7_drift 100 = .ok (.iadd, 1) := by decide +kernel
theorem dX7_drift_101 : decode cX7_drift 101 = .ok (.istore 4, 2) := by decide +kernel
theorem dX7_drift_103 : decode cX7_drift 103 = .ok (.iload 5, 2) := by decide +kernel
theorem dX7_drift_105 : decode cX7_drift 105 = .ok (.aload_n 0, 1) := by decide +kernel
theorem dX7_drift_106 : decode cX7_drift 106 = .ok (.invokevirtual 181, 3) := by decide +kernel
theorem dX7_drift_109 : decode cX7_drift 109 = .ok (.bipush (-4), 2) := by decide +kernel
theorem dX7_drift_111 : decode cX7_drift 111 = .ok (.if_icmp .ne 7, 3) := by decide +kernel
theorem dX7_drift_114 : decode cX7_drift 114 = .ok (.iconst 0, 1) := by decide +kernel
theorem dX7_drift_115 : decode cX7_drift 115 = .ok (.goto 7, 3) := by decide +kernel
theorem dX7_drift_118 : decode cX7_drift 118 = .ok (.aload_n 0, 1) := by decide +kernel
theorem dX7_drift_119 : decode cX7_drift 119 = .ok (.invokevirtual 181, 3) := by decide +kernel
theorem dX7_drift_122 : decode cX7_drift 122 = .ok (.iadd, 1) := by decide +kernel
theorem dX7_drift_123 : decode cX7_drift 123 = .ok (.istore 5, 2) := by decide +kernel
theorem dX7_drift_125 : decode cX7_drift 125 = .ok (.iinc 6 1, 3) := by decide +kernel
theorem dX7_drift_128 : decode cX7_drift 128 = .ok (.goto (-73), 3) := by decide +kernel
theorem dX7_drift_131 : decode cX7_drift 131 = .ok (.aload_n 0, 1) := by decide +kernel
theorem dX7_drift_132 : decode cX7_drift 132 = .ok (.bipush 120, 2) := by decide +kernel
theorem dX7_drift_134 : decode cX7_drift 134 = .ok (.iconst 0, 1) := by decide +kernel
theorem dX7_drift_135 : decode cX7_drift 135 = .ok (.invokevirtual 224, 3) := by decide +kernel
theorem dX7_drift_138 : decode cX7_drift 138 = .ok (.iload_n 3, 1) := by decide +kernel
theorem dX7_drift_139 : decode cX7_drift 139 = .ok (.ifCond .ne 8, 3) := by decide +kernel
theorem dX7_drift_142 : decode cX7_drift 142 = .ok (.iload 4, 2) := by decide +kernel
theorem dX7_drift_144 : decode cX7_drift 144 = .ok (.goto 5, 3) := by decide +kernel
theorem dX7_drift_147 : decode cX7_drift 147 = .ok (.iload 5, 2) := by decide +kernel
theorem dX7_drift_149 : decode cX7_drift 149 = .ok (.ireturn, 1) := by decide +kernel
theorem dX7_keep_0 : decode cX7_keep 0 = .ok (.iload_n 1, 1) := by decide +kernel
theorem dX7_keep_1 : decode cX7_keep 1 = .ok (.i2l, 1) := by decide +kernel
theorem dX7_keep_2 : decode cX7_keep 2 = .ok (.lconst 0, 1) := by decide +kernel
theorem dX7_keep_3 : decode cX7_keep 3 = .ok (.lconst 1, 1) := by decide +kernel
theorem dX7_keep_4 : decode cX7_keep 4 = .ok (.invokestatic 50, 3) := by decide +kernel
theorem dX7_keep_7 : decode cX7_keep 7 = .ok (.ifCond .ne 5, 3) := by decide +kernel
theorem dX7_keep_10 : decode cX7_keep 10 = .ok (.iconst (-1), 1) := by decide +kernel
theorem dX7_keep_11 : decode cX7_keep 11 = .ok (.ireturn, 1) := by decide +kernel
theorem dX7_keep_12 : decode cX7_keep 12 = .ok (.aload_n 0, 1) := by decide +kernel
theorem dX7_keep_13 : decode cX7_keep 13 = .ok (.iconst 0, 1) := by decide +kernel
theorem dX7_keep_14 : decode cX7_keep 14 = .ok (.bipush 30, 2) := by decide +kernel
theorem dX7_keep_16 : decode cX7_keep 16 = .ok (.iload_n 1, 1) := by decide +kernel
theorem dX7_keep_17 : decode cX7_keep 17 = .ok (.iconst 1, 1) := by decide +kernel
theorem dX7_keep_18 : decode cX7_keep 18 = .ok (.iadd, 1) := by decide +kernel
theorem dX7_keep_19 : decode cX7_keep 19 = .ok (.imul, 1) := by decide +kernel
theorem dX7_keep_20 : decode cX7_keep 20 = .ok (.invokevirtual 224, 3) := by decide +kernel
theorem dX7_keep_23 : decode cX7_keep 23 = .ok (.aload_n 0, 1) := by decide +kernel
theorem dX7_keep_24 : decode cX7_keep 24 = .ok (.getfield 35, 3) := by decide +kernel
theorem dX7_keep_27 : decode cX7_keep 27 = .ok (.iload_n 1, 1) := by decide +kernel
theorem dX7_keep_28 : decode cX7_keep 28 = .ok (.baload, 1) := by decide +kernel
theorem dX7_keep_29 : decode cX7_keep 29 = .ok (.ifCond .eq 7, 3) := by decide +kernel
theorem dX7_keep_32 : decode cX7_keep 32 = .ok (.iconst 1, 1) := by decide +kernel
theorem dX7_keep_33 : decode cX7_keep 33 = .ok (.goto 4, 3) := by decide +kernel
theorem dX7_keep_36 : decode cX7_keep 36 = .ok (.iconst 0, 1) := by decide +kernel
theorem dX7_keep_37 : decode cX7_keep 37 = .ok (.istore_n 2, 1) := by decide +kernel
theorem dX7_keep_38 : decode cX7_keep 38 = .ok (.aload_n 0, 1) := by decide +kernel
theorem dX7_keep_39 : decode cX7_keep 39 = .ok (.getfield 35, 3) := by decide +kernel
theorem dX7_keep_42 : decode cX7_keep 42 = .ok (.iload_n 1, 1) := by decide +kernel
theorem dX7_keep_43 : decode cX7_keep 43 = .ok (.iconst 1, 1) := by decide +kernel
theorem dX7_keep_44 : decode cX7_keep 44 = .ok (.bastore, 1) := by decide +kernel
theorem dX7_keep_45 : decode cX7_keep 45 = .ok (.iload_n 2, 1) := by decide +kernel
theorem dX7_keep_46 : decode cX7_keep 46 = .ok (.ireturn, 1) := by decide +kernel
theorem dX7_back_0 : decode cX7_back 0 = .ok (.iload_n 1, 1) := by decide +kernel
theorem dX7_back_1 : decode cX7_back 1 = .ok (.i2l, 1) := by decide +kernel
theorem dX7_back_2 : decode cX7_back 2 = .ok (.lconst 0, 1) := by decide +kernel
theorem dX7_back_3 : decode cX7_back 3 = .ok (.lconst 1, 1) := by decide +kernel
theorem dX7_back_4 : decode cX7_back 4 = .ok (.invokestatic 50, 3) := by decide +kernel
theorem dX7_back_7 : decode cX7_back 7 = .ok (.ifCond .ne 5, 3) := by decide +kernel
theorem dX7_back_10 : decode cX7_back 10 = .ok (.iconst (-1), 1) := by decide +kernel
theorem dX7_back_11 : decode cX7_back 11 = .ok (.ireturn, 1) := by decide +kernel
theorem dX7_back_12 : decode cX7_back 12 = .ok (.aload_n 0, 1) := by decide +kernel
theorem dX7_back_13 : decode cX7_back 13 = .ok (.getfield 35, 3) := by decide +kernel
theorem dX7_back_16 : decode cX7_back 16 = .ok (.iload_n 1, 1) := by decide +kernel
theorem dX7_back_17 : decode cX7_back 17 = .ok (.baload, 1) := by decide +kernel
theorem dX7_back_18 : decode cX7_back 18 = .ok (.ifCond .ne 6, 3) := by decide +kernel
theorem dX7_back_21 : decode cX7_back 21 = .ok (.bipush (-2), 2) := by decide +kernel
theorem dX7_back_23 : decode cX7_back 23 = .ok (.ireturn, 1) := by decide +kernel
theorem dX7_back_24 : decode cX7_back 24 = .ok (.aload_n 0, 1) := by decide +kernel
theorem dX7_back_25 : decode cX7_back 25 = .ok (.bipush 30, 2) := by decide +kernel
theorem dX7_back_27 : decode cX7_back 27 = .ok (.iload_n 1, 1) := by decide +kernel
theorem dX7_back_28 : decode cX7_back 28 = .ok (.iconst 1, 1) := by decide +kernel
theorem dX7_back_29 : decode cX7_back 29 = .ok (.iadd, 1) := by decide +kernel
theorem dX7_back_30 : decode cX7_back 30 = .ok (.imul, 1) := by decide +kernel
theorem dX7_back_31 : decode cX7_back 31 = .ok (.iconst 0, 1) := by decide +kernel
theorem dX7_back_32 : decode cX7_back 32 = .ok (.invokevirtual 224, 3) := by decide +kernel
theorem dX7_back_35 : decode cX7_back 35 = .ok (.aload_n 0, 1) := by decide +kernel
theorem dX7_back_36 : decode cX7_back 36 = .ok (.getfield 7, 3) := by decide +kernel
theorem dX7_back_39 : decode cX7_back 39 = .ok (.bipush 26, 2) := by decide +kernel
theorem dX7_back_41 : decode cX7_back 41 = .ok (.iaload, 1) := by decide +kernel
theorem dX7_back_42 : decode cX7_back 42 = .ok (.ireturn, 1) := by decide +kernel
theorem dX7_sheet_0 : decode cX7_sheet 0 = .ok (.iload_n 1, 1) := by decide +kernel
theorem dX7_sheet_1 : decode cX7_sheet 1 = .ok (.i2l, 1) := by decide +kernel
theorem dX7_sheet_2 : decode cX7_sheet 2 = .ok (.lconst 0, 1) := by decide +kernel
theorem dX7_sheet_3 : decode cX7_sheet 3 = .ok (.ldc2_w 202, 3) := by decide +kernel
theorem dX7_sheet_6 : decode cX7_sheet 6 = .ok (.invokestatic 50, 3) := by decide +kernel
theorem dX7_sheet_9 : decode cX7_sheet 9 = .ok (.ifCond .eq 21, 3) := by decide +kernel
theorem dX7_sheet_12 : decode cX7_sheet 12 = .ok (.iload_n 2, 1) := by decide +kernel
theorem dX7_sheet_13 : decode cX7_sheet 13 = .ok (.i2l, 1) := by decide +kernel
theorem dX7_sheet_14 : decode cX7_sheet 14 = .ok (.lconst 0, 1) := by decide +kernel
theorem dX7_sheet_15 : decode cX7_sheet 15 = .ok (.ldc2_w 142, 3) := by decide +kernel
theorem dX7_sheet_18 : decode cX7_sheet 18 = .ok (.invokestatic 50, 3) := by decide +kernel
theorem dX7_sheet_21 : decode cX7_sheet 21 = .ok (.ifCond .eq 9, 3) := by decide +kernel
theorem dX7_sheet_24 : decode cX7_sheet 24 = .ok (.iload_n 3, 1) := by decide +kernel
theorem dX7_sheet_25 : decode cX7_sheet 25 = .ok (.bipush 40, 2) := by decide +kernel
theorem dX7_sheet_27 : decode cX7_sheet 27 = .ok (.if_icmp .le 5, 3) := by decide +kernel
theorem dX7_sheet_30 : decode cX7_sheet 30 = .ok (.iconst (-1), 1) := by decide +kernel
theorem dX7_sheet_31 : decode cX7_sheet 31 = .ok (.ireturn, 1) := by decide +kernel
theorem dX7_sheet_32 : decode cX7_sheet 32 = .ok (.iload_n 3, 1) := by decide +kernel
theorem dX7_sheet_33 : decode cX7_sheet 33 = .ok (.ifCond .ge 6, 3) := by decide +kernel
theorem dX7_sheet_36 : decode cX7_sheet 36 = .ok (.bipush (-14), 2) := by decide +kernel
theorem dX7_sheet_38 : decode cX7_sheet 38 = .ok (.ireturn, 1) := by decide +kernel
theorem dX7_sheet_39 : decode cX7_sheet 39 = .ok (.aload_n 0, 1) := by decide +kernel
theorem dX7_sheet_40 : decode cX7_sheet 40 = .ok (.getfield 39, 3) := by decide +kernel
theorem dX7_sheet_43 : decode cX7_sheet 43 = .ok (.iload_n 1, 1) := by decide +kernel
theorem dX7_sheet_44 : decode cX7_sheet 44 = .ok (.iload_n 2, 1) := by decide +kernel
theorem dX7_sheet_45 : decode cX7_sheet 45 = .ok (.iastore, 1) := by decide +kernel
theorem dX7_sheet_46 : decode cX7_sheet 46 = .ok (.aload_n 0, 1) := by decide +kernel
theorem dX7_sheet_47 : decode cX7_sheet 47 = .ok (.getfield 42, 3) := by decide +kernel
theorem dX7_sheet_50 : decode cX7_sheet 50 = .ok (.iload_n 1, 1) := by decide +kernel
theorem dX7_sheet_51 : decode cX7_sheet 51 = .ok (.iload_n 3, 1) := by decide +kernel
theorem dX7_sheet_52 : decode cX7_sheet 52 = .ok (.iastore, 1) := by decide +kernel
theorem dX7_sheet_53 : decode cX7_sheet 53 = .ok (.iconst 0, 1) := by decide +kernel
theorem dX7_sheet_54 : decode cX7_sheet 54 = .ok (.istore 4, 2) := by decide +kernel
theorem dX7_sheet_56 : decode cX7_sheet 56 = .ok (.iload 4, 2) := by decide +kernel
theorem dX7_sheet_58 : decode cX7_sheet 58 = .ok (.bipush 40, 2) := by decide +kernel
theorem dX7_sheet_60 : decode cX7_sheet 60 = .ok (.if_icmp .ge 22, 3) := by decide +kernel
theorem dX7_sheet_63 : decode cX7_sheet 63 = .ok (.aload_n 0, 1) := by decide +kernel
theorem dX7_sheet_64 : decode cX7_sheet 64 = .ok (.getfield 45, 3) := by decide +kernel
theorem dX7_sheet_67 : decode cX7_sheet 67 = .ok (.bipush 40, 2) := by decide +kernel
theorem dX7_sheet_69 : decode cX7_sheet 69 = .ok (.iload_n 1, 1) := by decide +kernel
theorem dX7_sheet_70 : decode cX7_sheet 70 = .ok (.imul, 1) := by decide +kernel
theorem dX7_sheet_71 : decode cX7_sheet 71 = .ok (.iload 4, 2) := by decide +kernel
theorem dX7_sheet_73 : decode cX7_sheet 73 = .ok (.iadd, 1) := by decide +kernel
theorem dX7_sheet_74 : decode cX7_sheet 74 = .ok (.iconst 0, 1) := by decide +kernel
theorem dX7_sheet_75 : decode cX7_sheet 75 = .ok (.iastore, 1) := by decide +kernel
theorem dX7_sheet_76 : decode cX7_sheet 76 = .ok (.iinc 4 1, 3) := by decide +kernel
theorem dX7_sheet_79 : decode cX7_sheet 79 = .ok (.goto (-23), 3) := by decide +kernel
theorem dX7_sheet_82 : decode cX7_sheet 82 = .ok (.iconst 1, 1) := by decide +kernel
theorem dX7_sheet_83 : decode cX7_sheet 83 = .ok (.ireturn, 1) := by decide +kernel
theorem dX7_lay_0 : decode cX7_lay 0 = .ok (.iload_n 1, 1) := by decide +kernel
theorem dX7_lay_1 : decode cX7_lay 1 = .ok (.i2l, 1) := by decide +kernel
theorem dX7_lay_2 : decode cX7_lay 2 = .ok (.lconst 0, 1) := by decide +kernel
theorem dX7_lay_3 : decode cX7_lay 3 = .ok (.ldc2_w 202, 3) := by decide +kernel
theorem dX7_lay_6 : decode cX7_lay 6 = .ok (.invokestatic 50, 3) := by decide +kernel
theorem dX7_lay_9 : decode cX7_lay 9 = .ok (.ifCond .ne 5, 3) := by decide +kernel
theorem dX7_lay_12 : decode cX7_lay 12 = .ok (.iconst (-1), 1) := by decide +kernel
theorem dX7_lay_13 : decode cX7_lay 13 = .ok (.ireturn, 1) := by decide +kernel
theorem dX7_lay_14 : decode cX7_lay 14 = .ok (.aload_n 0, 1) := by decide +kernel
theorem dX7_lay_15 : decode cX7_lay 15 = .ok (.getfield 39, 3) := by decide +kernel
theorem dX7_lay_18 : decode cX7_lay 18 = .ok (.iload_n 1, 1) := by decide +kernel
theorem dX7_lay_19 : decode cX7_lay 19 = .ok (.iaload, 1) := by decide +kernel
theorem dX7_lay_20 : decode cX7_lay 20 = .ok (.bipush (-4), 2) := by decide +kernel
theorem dX7_lay_22 : decode cX7_lay 22 = .ok (.if_icmp .ne 6, 3) := by decide +kernel
theorem dX7_lay_25 : decode cX7_lay 25 = .ok (.bipush (-11), 2) := by decide +kernel
theorem dX7_lay_27 : decode cX7_lay 27 = .ok (.ireturn, 1) := by decide +kernel
theorem dX7_lay_28 : decode cX7_lay 28 = .ok (.iload_n 2, 1) := by decide +kernel
theorem dX7_lay_29 : decode cX7_lay 29 = .ok (.i2l, 1) := by decide +kernel
theorem dX7_lay_30 : decode cX7_lay 30 = .ok (.lconst 0, 1) := by decide +kernel
theorem dX7_lay_31 : decode cX7_lay 31 = .ok (.aload_n 0, 1) := by decide +kernel
theorem dX7_lay_32 : decode cX7_lay 32 = .ok (.getfield 42, 3) := by decide +kernel
theorem dX7_lay_35 : decode cX7_lay 35 = .ok (.iload_n 1, 1) := by decide +kernel
theorem dX7_lay_36 : decode cX7_lay 36 = .ok (.iaload, 1) := by decide +kernel
theorem dX7_lay_37 : decode cX7_lay 37 = .ok (.iconst 1, 1) := by decide +kernel
theorem dX7_lay_38 : decode cX7_lay 38 = .ok (.isub, 1) := by decide +kernel
theorem dX7_lay_39 : decode cX7_lay 39 = .ok (.i2l, 1) := by decide +kernel
theorem dX7_lay_40 : decode cX7_lay 40 = .ok (.invokestatic 50, 3) := by decide +kernel
theorem dX7_lay_43 : decode cX7_lay 43 = .ok (.ifCond .ne 6, 3) := by decide +kernel
theorem dX7_lay_46 : decode cX7_lay 46 = .ok (.bipush (-12), 2) := by decide +kernel
theorem dX7_lay_48 : decode cX7_lay 48 = .ok (.ireturn, 1) := by decide +kernel
theorem dX7_lay_49 : decode cX7_lay 49 = .ok (.aload_n 0, 1) := by decide +kernel
theorem dX7_lay_50 : decode cX7_lay 50 = .ok (.getfield 45, 3) := by decide +kernel
theorem dX7_lay_53 : decode cX7_lay 53 = .ok (.bipush 40, 2) := by decide +kernel
theorem dX7_lay_55 : decode cX7_lay 55 = .ok (.iload_n 1, 1) := by decide +kernel
theorem dX7_lay_56 : decode cX7_lay 56 = .ok (.imul, 1) := by decide +kernel
theorem dX7_lay_57 : decode cX7_lay 57 = .ok (.iload_n 2, 1) := by decide +kernel
theorem dX7_lay_58 : decode cX7_lay 58 = .ok (.iadd, 1) := by decide +kernel
theorem dX7_lay_59 : decode cX7_lay 59 = .ok (.aload_n 0, 1) := by decide +kernel
theorem dX7_lay_60 : decode cX7_lay 60 = .ok (.getfield 39, 3) := by decide +kernel
theorem dX7_lay_63 : decode cX7_lay 63 = .ok (.iload_n 1, 1) := by decide +kernel
theorem dX7_lay_64 : decode cX7_lay 64 = .ok (.iaload, 1) := by decide +kernel
theorem dX7_lay_65 : decode cX7_lay 65 = .ok (.ifCond .ne 13, 3) := by decide +kernel
theorem dX7_lay_68 : decode cX7_lay 68 = .ok (.iload_n 3, 1) := by decide +kernel
theorem dX7_lay_69 : decode cX7_lay 69 = .ok (.bipush 24, 2) := by decide +kernel
theorem dX7_lay_71 : decode cX7_lay 71 = .ok (.ishl, 1) := by decide +kernel
theorem dX7_lay_72 : decode cX7_lay 72 = .ok (.bipush 24, 2) := by decide +kernel
theorem dX7_lay_74 : decode cX7_lay 74 = .ok (.ishr, 1) := by decide +kernel
theorem dX7_lay_75 : decode cX7_lay 75 = .ok (.goto 24, 3) := by decide +kernel
theorem dX7_lay_78 : decode cX7_lay 78 = .ok (.aload_n 0, 1) := by decide +kernel
theorem dX7_lay_79 : decode cX7_lay 79 = .ok (.getfield 39, 3) := by decide +kernel
theorem dX7_lay_82 : decode cX7_lay 82 = .ok (.iload_n 1, 1) := by decide +kernel
theorem dX7_lay_83 : decode cX7_lay 83 = .ok (.iaload, 1) := by decide +kernel
theorem dX7_lay_84 : decode cX7_lay 84 = .ok (.iconst 1, 1) := by decide +kernel
theorem dX7_lay_85 : decode cX7_lay 85 = .ok (.if_icmp .ne 13, 3) := by decide +kernel
theorem dX7_lay_88 : decode cX7_lay 88 = .ok (.iload_n 3, 1) := by decide +kernel
theorem dX7_lay_89 : decode cX7_lay 89 = .ok (.bipush 16, 2) := by decide +kernel
theorem dX7_lay_91 : decode cX7_lay 91 = .ok (.ishl, 1) := by decide +kernel
theorem dX7_lay_92 : decode cX7_lay 92 = .ok (.bipush 16, 2) := by decide +kernel
theorem dX7_lay_94 : decode cX7_lay 94 = .ok (.ishr, 1) := by decide +kernel
theorem dX7_lay_95 : decode cX7_lay 95 = .ok (.goto 4, 3) := by decide +kernel
theorem dX7_lay_98 : decode cX7_lay 98 = .ok (.iload_n 3, 1) := by decide +kernel
theorem dX7_lay_99 : decode cX7_lay 99 = .ok (.iastore, 1) := by decide +kernel
theorem dX7_lay_100 : decode cX7_lay 100 = .ok (.iconst 1, 1) := by decide +kernel
theorem dX7_lay_101 : decode cX7_lay 101 = .ok (.ireturn, 1) := by decide +kernel
theorem dX7_read_0 : decode cX7_read 0 = .ok (.iload_n 1, 1) := by decide +kernel
theorem dX7_read_1 : decode cX7_read 1 = .ok (.i2l, 1) := by decide +kernel
theorem dX7_read_2 : decode cX7_read 2 = .ok (.lconst 0, 1) := by decide +kernel
theorem dX7_read_3 : decode cX7_read 3 = .ok (.ldc2_w 202, 3) := by decide +kernel
theorem dX7_read_6 : decode cX7_read 6 = .ok (.invokestatic 50, 3) := by decide +kernel
theorem dX7_read_9 : decode cX7_read 9 = .ok (.ifCond .eq 28, 3) := by decide +kernel
theorem dX7_read_12 : decode cX7_read 12 = .ok (.iload_n 2, 1) := by decide +kernel
theorem dX7_read_13 : decode cX7_read 13 = .ok (.i2l, 1) := by decide +kernel
theorem dX7_read_14 : decode cX7_read 14 = .ok (.lconst 0, 1) := by decide +kernel
theorem dX7_read_15 : decode cX7_read 15 = .ok (.ldc2_w 142, 3) := by decide +kernel
theorem dX7_read_18 : decode cX7_read 18 = .ok (.invokestatic 50, 3) := by decide +kernel
theorem dX7_read_21 : decode cX7_read 21 = .ok (.ifCond .eq 16, 3) := by decide +kernel
theorem dX7_read_24 : decode cX7_read 24 = .ok (.iload 4, 2) := by decide +kernel
theorem dX7_read_26 : decode cX7_read 26 = .ok (.i2l, 1) := by decide +kernel
theorem dX7_read_27 : decode cX7_read 27 = .ok (.lconst 0, 1) := by decide +kernel
theorem dX7_read_28 : decode cX7_read 28 = .ok (.ldc2_w 263, 3) := by decide +kernel
theorem dX7_read_31 : decode cX7_read 31 = .ok (.invokestatic 50, 3) := by decide +kernel
theorem dX7_read_34 : decode cX7_read 34 = .ok (.ifCond .ne 5, 3) := by decide +kernel
theorem dX7_read_37 : decode cX7_read 37 = .ok (.iconst (-1), 1) := by decide +kernel
theorem dX7_read_38 : decode cX7_read 38 = .ok (.ireturn, 1) := by decide +kernel
theorem dX7_read_39 : decode cX7_read 39 = .ok (.aload_n 0, 1) := by decide +kernel
theorem dX7_read_40 : decode cX7_read 40 = .ok (.iconst 0, 1) := by decide +kernel
theorem dX7_read_41 : decode cX7_read 41 = .ok (.bipush 90, 2) := by decide +kernel
theorem dX7_read_43 : decode cX7_read 43 = .ok (.invokevirtual 224, 3) := by decide +kernel
theorem dX7_read_46 : decode cX7_read 46 = .ok (.iconst 0, 1) := by decide +kernel
theorem dX7_read_47 : decode cX7_read 47 = .ok (.istore 5, 2) := by decide +kernel
theorem dX7_read_49 : decode cX7_read 49 = .ok (.iconst 0, 1) := by decide +kernel
theorem dX7_read_50 : decode cX7_read 50 = .ok (.istore 6, 2) := by decide +kernel
theorem dX7_read_52 : decode cX7_read 52 = .ok (.iconst 0, 1) := by decide +kernel
theorem dX7_read_53 : decode cX7_read 53 = .ok (.istore 7, 2) := by decide +kernel
theorem dX7_read_55 : decode cX7_read 55 = .ok (.iload 7, 2) := by decide +kernel
theorem dX7_read_57 : decode cX7_read 57 = .ok (.iconst 2, 1) := by decide +kernel
theorem dX7_read_58 : decode cX7_read 58 = .ok (.iload 4, 2) := by decide +kernel
theorem dX7_read_60 : decode cX7_read 60 = .ok (.imul, 1) := by decide +kernel
theorem dX7_read_61 : decode cX7_read 61 = .ok (.if_icmp .ge 136, 3) := by decide +kernel
theorem dX7_read_64 : decode cX7_read 64 = .ok (.iload 5, 2) := by decide +kernel
theorem dX7_read_66 : decode cX7_read 66 = .ok (.ifCond .ne 131, 3) := by decide +kernel
theorem dX7_read_69 : decode cX7_read 69 = .ok (.aload_n 0, 1) := by decide +kernel
theorem dX7_read_70 : decode cX7_read 70 = .ok (.getfield 39, 3) := by decide +kernel
theorem dX7_read_73 : decode cX7_read 73 = .ok (.iload_n 1, 1) := by decide +kernel
theorem dX7_read_74 : decode cX7_read 74 = .ok (.iaload, 1) := by decide +kernel
theorem dX7_read_75 : decode cX7_read 75 = .ok (.bipush (-4), 2) := by decide +kernel
theorem dX7_read_77 : decode cX7_read 77 = .ok (.if_icmp .ne 7, 3) := by decide +kernel
theorem dX7_read_80 : decode cX7_read 80 = .ok (.iconst 1, 1) := by decide +kernel
theorem dX7_read_81 : decode cX7_read 81 = .ok (.goto 44, 3) := by decide +kernel
theorem dX7_read_84 : decode cX7_read 84 = .ok (.aload_n 0, 1) := by decide +kernel
theorem dX7_read_85 : decode cX7_read 85 = .ok (.getfield 39, 3) := by decide +kernel
theorem dX7_read_88 : decode cX7_read 88 = .ok (.iload_n 1, 1) := by decide +kernel
theorem dX7_read_89 : decode cX7_read 89 = .ok (.iaload, 1) := by decide +kernel
theorem dX7_read_90 : decode cX7_read 90 = .ok (.iload_n 2, 1) := by decide +kernel
theorem dX7_read_91 : decode cX7_read 91 = .ok (.if_icmp .eq 7, 3) := by decide +kernel
theorem dX7_read_94 : decode cX7_read 94 = .ok (.iconst 3, 1) := by decide +kernel
theorem dX7_read_95 : decode cX7_read 95 = .ok (.goto 30, 3) := by decide +kernel
theorem dX7_read_98 : decode cX7_read 98 = .ok (.iload_n 3, 1) := by decide +kernel
theorem dX7_read_99 : decode cX7_read 99 = .ok (.i2l, 1) := by decide +kernel
theorem dX7_read_100 : decode cX7_read 100 = .ok (.iload 7, 2) := by decide +kernel
theorem dX7_read_102 : decode cX7_read 102 = .ok (.i2l, 1) := by decide +kernel
theorem dX7_read_103 : decode cX7_read 103 = .ok (.ladd, 1) := by decide +kernel
theorem dX7_read_104 : decode cX7_read 104 = .ok (.lconst 0, 1) := by decide +kernel
theorem dX7_read_105 : decode cX7_read 105 = .ok (.aload_n 0, 1) := by decide +kernel
theorem dX7_read_106 : decode cX7_read 106 = .ok (.getfield 42, 3) := by decide +kernel
theorem dX7_read_109 : decode cX7_read 109 = .ok (.iload_n 1, 1) := by decide +kernel
theorem dX7_read_110 : decode cX7_read 110 = .ok (.iaload, 1) := by decide +kernel
theorem dX7_read_111 : decode cX7_read 111 = .ok (.iconst 1, 1) := by decide +kernel
theorem dX7_read_112 : decode cX7_read 112 = .ok (.isub, 1) := by decide +kernel
theorem dX7_read_113 : decode cX7_read 113 = .ok (.i2l, 1) := by decide +kernel
theorem dX7_read_114 : decode cX7_read 114 = .ok (.invokestatic 50, 3) := by decide +kernel
theorem dX7_read_117 : decode cX7_read 117 = .ok (.ifCond .ne 7, 3) := by decide +kernel
theorem dX7_read_120 : decode cX7_read 120 = .ok (.iconst 2, 1) := by decide +kernel
theorem dX7_read_121 : decode cX7_read 121 = .ok (.goto 4, 3) := by decide +kernel
theorem dX7_read_124 : decode cX7_read 124 = .ok (.iconst 0, 1) := by decide +kernel
theorem dX7_read_125 : decode cX7_read 125 = .ok (.istore 5, 2) := by decide +kernel
theorem dX7_read_127 : decode cX7_read 127 = .ok (.iload 5, 2) := by decide +kernel
theorem dX7_read_129 : decode cX7_read 129 = .ok (.ifCond .ne 62, 3) := by decide +kernel
theorem dX7_read_132 : decode cX7_read 132 = .ok (.iload 7, 2) := by decide +kernel
theorem dX7_read_134 : decode cX7_read 134 = .ok (.iconst 2, 1) := by decide +kernel
theorem dX7_read_135 : decode cX7_read 135 = .ok (.irem, 1) := by decide +kernel
theorem dX7_read_136 : decode cX7_read 136 = .ok (.iconst 1, 1) := by decide +kernel
theorem dX7_read_137 : decode cX7_read 137 = .ok (.if_icmp .ne 54, 3) := by decide +kernel
theorem dX7_read_140 : decode cX7_read 140 = .ok (.bipush 40, 2) := by decide +kernel
theorem dX7_read_142 : decode cX7_read 142 = .ok (.iload_n 1, 1) := by decide +kernel
theorem dX7_read_143 : decode cX7_read 143 = .ok (.imul, 1) := by decide +kernel
theorem dX7_read_144 : decode cX7_read 144 = .ok (.iload_n 3, 1) := by decide +kernel
theorem dX7_read_145 : decode cX7_read 145 = .ok (.iadd, 1) := by decide +kernel
theorem dX7_read_146 : decode cX7_read 146 = .ok (.iload 7, 2) := by decide +kernel
theorem dX7_read_148 : decode cX7_read 148 = .ok (.iadd, 1) := by decide +kernel
theorem dX7_read_149 : decode cX7_read 149 = .ok (.istore 8, 2) := by decide +kernel
theorem dX7_read_151 : decode cX7_read 151 = .ok (.aload_n 0, 1) := by decide +kernel
theorem dX7_read_152 : decode cX7_read 152 = .ok (.aload_n 0, 1) := by decide +kernel
theorem dX7_read_153 : decode cX7_read 153 = .ok (.getfield 45, 3) := by decide +kernel
theorem dX7_read_156 : decode cX7_read 156 = .ok (.iload 8, 2) := by decide +kernel
theorem dX7_read_158 : decode cX7_read 158 = .ok (.iconst 1, 1) := by decide +kernel
theorem dX7_read_159 : decode cX7_read 159 = .ok (.isub, 1) := by decide +kernel
theorem dX7_read_160 : decode cX7_read 160 = .ok (.iaload, 1) := by decide +kernel
theorem dX7_read_161 : decode cX7_read 161 = .ok (.iconst 1, 1) := by decide +kernel
theorem dX7_read_162 : decode cX7_read 162 = .ok (.aload_n 0, 1) := by decide +kernel
theorem dX7_read_163 : decode cX7_read 163 = .ok (.getfield 45, 3) := by decide +kernel
theorem dX7_read_166 : decode cX7_read 166 = .ok (.iload 8, 2) := by decide +kernel
theorem dX7_read_168 : decode cX7_read 168 = .ok (.iaload, 1) := by decide +kernel
theorem dX7_read_169 : decode cX7_read 169 = .ok (.invokevirtual 265, 3) := by decide +kernel
theorem dX7_read_172 : decode cX7_read 172 = .ok (.ifCond .ge 16, 3) := by decide +kernel
theorem dX7_read_175 : decode cX7_read 175 = .ok (.aload_n 0, 1) := by decide +kernel
theorem dX7_read_176 : decode cX7_read 176 = .ok (.bipush 90, 2) := by decide +kernel
theorem dX7_read_178 : decode cX7_read 178 = .ok (.iconst 0, 1) := by decide +kernel
theorem dX7_read_179 : decode cX7_read 179 = .ok (.invokevirtual 224, 3) := by decide +kernel
theorem dX7_read_182 : decode cX7_read 182 = .ok (.bipush (-20), 2) := by decide +kernel
theorem dX7_read_184 : decode cX7_read 184 = .ok (.iload 6, 2) := by decide +kernel
theorem dX7_read_186 : decode cX7_read 186 = .ok (.isub, 1) := by decide +kernel
theorem dX7_read_187 : decode cX7_read 187 = .ok (.ireturn, 1) := by decide +kernel
theorem dX7_read_188 : decode cX7_read 188 = .ok (.iinc 6 1, 3) := by decide +kernel
theorem dX7_read_191 : decode cX7_read 191 = .ok (.iinc 7 1, 3) := by decide +kernel
theorem dX7_read_194 : decode cX7_read 194 = .ok (.goto (-139), 3) := by decide +kernel
theorem dX7_read_197 : decode cX7_read 197 = .ok (.aload_n 0, 1) := by decide +kernel
theorem dX7_read_198 : decode cX7_read 198 = .ok (.iload 5, 2) := by decide +kernel
theorem dX7_read_200 : decode cX7_read 200 = .ok (.putfield 268, 3) := by decide +kernel
theorem dX7_read_203 : decode cX7_read 203 = .ok (.iload 6, 2) := by decide +kernel
theorem dX7_read_205 : decode cX7_read 205 = .ok (.ireturn, 1) := by decide +kernel
theorem dX7_torn_0 : decode cX7_torn 0 = .ok (.aload_n 0, 1) := by decide +kernel
theorem dX7_torn_1 : decode cX7_torn 1 = .ok (.getfield 268, 3) := by decide +kernel
theorem dX7_torn_4 : decode cX7_torn 4 = .ok (.ireturn, 1) := by decide +kernel
theorem dX7_count_0 : decode cX7_count 0 = .ok (.iconst 0, 1) := by decide +kernel
theorem dX7_count_1 : decode cX7_count 1 = .ok (.istore_n 2, 1) := by decide +kernel
theorem dX7_count_2 : decode cX7_count 2 = .ok (.iconst 0, 1) := by decide +kernel
theorem dX7_count_3 : decode cX7_count 3 = .ok (.istore_n 3, 1) := by decide +kernel
theorem dX7_count_4 : decode cX7_count 4 = .ok (.iconst 0, 1) := by decide +kernel
theorem dX7_count_5 : decode cX7_count 5 = .ok (.istore 4, 2) := by decide +kernel
theorem dX7_count_7 : decode cX7_count 7 = .ok (.iload 4, 2) := by decide +kernel
theorem dX7_count_9 : decode cX7_count 9 = .ok (.aload_n 0, 1) := by decide +kernel
theorem dX7_count_10 : decode cX7_count 10 = .ok (.getfield 136, 3) := by decide +kernel
theorem dX7_count_13 : decode cX7_count 13 = .ok (.if_icmp .ge 30, 3) := by decide +kernel
theorem dX7_count_16 : decode cX7_count 16 = .ok (.iload_n 2, 1) := by decide +kernel
theorem dX7_count_17 : decode cX7_count 17 = .ok (.aload_n 0, 1) := by decide +kernel
theorem dX7_count_18 : decode cX7_count 18 = .ok (.iload 4, 2) := by decide +kernel
theorem dX7_count_20 : decode cX7_count 20 = .ok (.invokevirtual 169, 3) := by decide +kernel
theorem dX7_count_23 : decode cX7_count 23 = .ok (.iadd, 1) := by decide +kernel
theorem dX7_count_24 : decode cX7_count 24 = .ok (.istore_n 2, 1) := by decide +kernel
theorem dX7_count_25 : decode cX7_count 25 = .ok (.iload_n 3, 1) := by decide +kernel
theorem dX7_count_26 : decode cX7_count 26 = .ok (.aload_n 0, 1) := by decide +kernel
theorem dX7_count_27 : decode cX7_count 27 = .ok (.getfield 7, 3) := by decide +kernel
theorem dX7_count_30 : decode cX7_count 30 = .ok (.iconst 4, 1) := by decide +kernel
theorem dX7_count_31 : decode cX7_count 31 = .ok (.iload 4, 2) := by decide +kernel
theorem dX7_count_33 : decode cX7_count 33 = .ok (.iadd, 1) := by decide +kernel
theorem dX7_count_34 : decode cX7_count 34 = .ok (.iaload, 1) := by decide +kernel
theorem dX7_count_35 : decode cX7_count 35 = .ok (.iadd, 1) := by decide +kernel
theorem dX7_count_36 : decode cX7_count 36 = .ok (.istore_n 3, 1) := by decide +kernel
theorem dX7_count_37 : decode cX7_count 37 = .ok (.iinc 4 1, 3) := by decide +kernel
theorem dX7_count_40 : decode cX7_count 40 = .ok (.goto (-33), 3) := by decide +kernel
theorem dX7_count_43 : decode cX7_count 43 = .ok (.iload_n 1, 1) := by decide +kernel
theorem dX7_count_44 : decode cX7_count 44 = .ok (.tableswitch 107 0 5 #[40, 45, 75, 80, 103, 105], 40) := by decide +kernel
theorem dX7_count_84 : decode cX7_count 84 = .ok (.aload_n 0, 1) := by decide +kernel
theorem dX7_count_85 : decode cX7_count 85 = .ok (.getfield 139, 3) := by decide +kernel
theorem dX7_count_88 : decode cX7_count 88 = .ok (.ireturn, 1) := by decide +kernel
theorem dX7_count_89 : decode cX7_count 89 = .ok (.aload_n 0, 1) := by decide +kernel
theorem dX7_count_90 : decode cX7_count 90 = .ok (.getfield 35, 3) := by decide +kernel
theorem dX7_count_93 : decode cX7_count 93 = .ok (.iconst 0, 1) := by decide +kernel
theorem dX7_count_94 : decode cX7_count 94 = .ok (.baload, 1) := by decide +kernel
theorem dX7_count_95 : decode cX7_count 95 = .ok (.ifCond .eq 7, 3) := by decide +kernel
theorem dX7_count_98 : decode cX7_count 98 = .ok (.iconst 1, 1) := by decide +kernel
theorem dX7_count_99 : decode cX7_count 99 = .ok (.goto 4, 3) := by decide +kernel
theorem dX7_count_102 : decode cX7_count 102 = .ok (.iconst 0, 1) := by decide +kernel
theorem dX7_count_103 : decode cX7_count 103 = .ok (.aload_n 0, 1) := by decide +kernel
theorem dX7_count_104 : decode cX7_count 104 = .ok (.getfield 35, 3) := by decide +kernel
theorem dX7_count_107 : decode cX7_count 107 = .ok (.iconst 1, 1) := by decide +kernel
theorem dX7_count_108 : decode cX7_count 108 = .ok (.baload, 1) := by decide +kernel
theorem dX7_count_109 : decode cX7_count 109 = .ok (.ifCond .eq 7, 3) := by decide +kernel
theorem dX7_count_112 : decode cX7_count 112 = .ok (.iconst 1, 1) := by decide +kernel
theorem dX7_count_113 : decode cX7_count 113 = .ok (.goto 4, 3) := by decide +kernel
theorem dX7_count_116 : decode cX7_count 116 = .ok (.iconst 0, 1) := by decide +kernel
theorem dX7_count_117 : decode cX7_count 117 = .ok (.iadd, 1) := by decide +kernel
theorem dX7_count_118 : decode cX7_count 118 = .ok (.ireturn, 1) := by decide +kernel
theorem dX7_count_119 : decode cX7_count 119 = .ok (.aload_n 0, 1) := by decide +kernel
theorem dX7_count_120 : decode cX7_count 120 = .ok (.getfield 54, 3) := by decide +kernel
theorem dX7_count_123 : decode cX7_count 123 = .ok (.ireturn, 1) := by decide +kernel
theorem dX7_count_124 : decode cX7_count 124 = .ok (.aload_n 0, 1) := by decide +kernel
theorem dX7_count_125 : decode cX7_count 125 = .ok (.getfield 39, 3) := by decide +kernel
theorem dX7_count_128 : decode cX7_count 128 = .ok (.iconst 0, 1) := by decide +kernel
theorem dX7_count_129 : decode cX7_count 129 = .ok (.iaload, 1) := by decide +kernel
theorem dX7_count_130 : decode cX7_count 130 = .ok (.bipush (-4), 2) := by decide +kernel
theorem dX7_count_132 : decode cX7_count 132 = .ok (.if_icmp .ne 8, 3) := by decide +kernel
theorem dX7_count_135 : decode cX7_count 135 = .ok (.bipush (-4), 2) := by decide +kernel
theorem dX7_count_137 : decode cX7_count 137 = .ok (.goto 9, 3) := by decide +kernel
theorem dX7_count_140 : decode cX7_count 140 = .ok (.aload_n 0, 1) := by decide +kernel
theorem dX7_count_141 : decode cX7_count 141 = .ok (.getfield 42, 3) := by decide +kernel
theorem dX7_count_144 : decode cX7_count 144 = .ok (.iconst 0, 1) := by decide +kernel
theorem dX7_count_145 : decode cX7_count 145 = .ok (.iaload, 1) := by decide +kernel
theorem dX7_count_146 : decode cX7_count 146 = .ok (.ireturn, 1) := by decide +kernel
theorem dX7_count_147 : decode cX7_count 147 = .ok (.iload_n 2, 1) := by decide +kernel
theorem dX7_count_148 : decode cX7_count 148 = .ok (.ireturn, 1) := by decide +kernel
theorem dX7_count_149 : decode cX7_count 149 = .ok (.iload_n 3, 1) := by decide +kernel
theorem dX7_count_150 : decode cX7_count 150 = .ok (.ireturn, 1) := by decide +kernel
theorem dX7_count_151 : decode cX7_count 151 = .ok (.iconst (-1), 1) := by decide +kernel
theorem dX7_count_152 : decode cX7_count 152 = .ok (.ireturn, 1) := by decide +kernel
