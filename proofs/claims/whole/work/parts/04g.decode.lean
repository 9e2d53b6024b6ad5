theorem dX7_readMore_202 : decode cX7_readMore 202 = .ok (.invokevirtual 94, 3) := by decide +kernel
theorem dX7_readMore_205 : decode cX7_readMore 205 = .ok (.iastore, 1) := by decide +kernel
theorem dX7_readMore_206 : decode cX7_readMore 206 = .ok (.goto 36, 3) := by decide +kernel
theorem dX7_readMore_209 : decode cX7_readMore 209 = .ok (.aload_n 0, 1) := by decide +kernel
theorem dX7_readMore_210 : decode cX7_readMore 210 = .ok (.getfield 13, 3) := by decide +kernel
theorem dX7_readMore_213 : decode cX7_readMore 213 = .ok (.bipush 24, 2) := by decide +kernel
theorem dX7_readMore_215 : decode cX7_readMore 215 = .ok (.aload_n 0, 1) := by decide +kernel
theorem dX7_readMore_216 : decode cX7_readMore 216 = .ok (.iconst 3, 1) := by decide +kernel
theorem dX7_readMore_217 : decode cX7_readMore 217 = .ok (.bipush 12, 2) := by decide +kernel
theorem dX7_readMore_219 : decode cX7_readMore 219 = .ok (.iconst 0, 1) := by decide +kernel
theorem dX7_readMore_220 : decode cX7_readMore 220 = .ok (.invokevirtual 94, 3) := by decide +kernel
theorem dX7_readMore_223 : decode cX7_readMore 223 = .ok (.bipush 6, 2) := by decide +kernel
theorem dX7_readMore_225 : decode cX7_readMore 225 = .ok (.isub, 1) := by decide +kernel
theorem dX7_readMore_226 : decode cX7_readMore 226 = .ok (.iastore, 1) := by decide +kernel
theorem dX7_readMore_227 : decode cX7_readMore 227 = .ok (.aload_n 0, 1) := by decide +kernel
theorem dX7_readMore_228 : decode cX7_readMore 228 = .ok (.getfield 13, 3) := by decide +kernel
theorem dX7_readMore_231 : decode cX7_readMore 231 = .ok (.bipush 25, 2) := by decide +kernel
theorem dX7_readMore_233 : decode cX7_readMore 233 = .ok (.aload_n 0, 1) := by decide +kernel
theorem dX7_readMore_234 : decode cX7_readMore 234 = .ok (.iconst 0, 1) := by decide +kernel
theorem dX7_readMore_235 : decode cX7_readMore 235 = .ok (.bipush 10, 2) := by decide +kernel
theorem dX7_readMore_237 : decode cX7_readMore 237 = .ok (.iconst 0, 1) := by decide +kernel
theorem dX7_readMore_238 : decode cX7_readMore 238 = .ok (.invokevirtual 94, 3) := by decide +kernel
theorem dX7_readMore_241 : decode cX7_readMore 241 = .ok (.iastore, 1) := by decide +kernel
theorem dX7_readMore_242 : decode cX7_readMore 242 = .ok (.return_, 1) := by decide +kernel
theorem dX7_readLine_0 : decode cX7_readLine 0 = .ok (.aload_n 0, 1) := by decide +kernel
theorem dX7_readLine_1 : decode cX7_readLine 1 = .ok (.invokevirtual 101, 3) := by decide +kernel
theorem dX7_readLine_4 : decode cX7_readLine 4 = .ok (.istore_n 1, 1) := by decide +kernel
theorem dX7_readLine_5 : decode cX7_readLine 5 = .ok (.iload_n 1, 1) := by decide +kernel
theorem dX7_readLine_6 : decode cX7_readLine 6 = .ok (.i2l, 1) := by decide +kernel
theorem dX7_readLine_7 : decode cX7_readLine 7 = .ok (.lconst 0, 1) := by decide +kernel
theorem dX7_readLine_8 : decode cX7_readLine 8 = .ok (.ldc2_w 121, 3) := by decide +kernel
theorem dX7_readLine_11 : decode cX7_readLine 11 = .ok (.invokestatic 50, 3) := by decide +kernel
theorem dX7_readLine_14 : decode cX7_readLine 14 = .ok (.ifCond .ne 9, 3) := by decide +kernel
theorem dX7_readLine_17 : decode cX7_readLine 17 = .ok (.aload_n 0, 1) := by decide +kernel
theorem dX7_readLine_18 : decode cX7_readLine 18 = .ok (.iconst 2, 1) := by decide +kernel
theorem dX7_readLine_19 : decode cX7_readLine 19 = .ok (.invokevirtual 87, 3) := by decide +kernel
theorem dX7_readLine_22 : decode cX7_readLine 22 = .ok (.return_, 1) := by decide +kernel
theorem dX7_readLine_23 : decode cX7_readLine 23 = .ok (.iload_n 1, 1) := by decide +kernel
theorem dX7_readLine_24 : decode cX7_readLine 24 = .ok (.iconst 3, 1) := by decide +kernel
theorem dX7_readLine_25 : decode cX7_readLine 25 = .ok (.if_icmp .gt 16, 3) := by decide +kernel
theorem dX7_readLine_28 : decode cX7_readLine 28 = .ok (.aload_n 0, 1) := by decide +kernel
theorem dX7_readLine_29 : decode cX7_readLine 29 = .ok (.getfield 105, 3) := by decide +kernel
theorem dX7_readLine_32 : decode cX7_readLine 32 = .ok (.iconst 4, 1) := by decide +kernel
theorem dX7_readLine_33 : decode cX7_readLine 33 = .ok (.if_icmp .ne 8, 3) := by decide +kernel
theorem dX7_readLine_36 : decode cX7_readLine 36 = .ok (.aload_n 0, 1) := by decide +kernel
theorem dX7_readLine_37 : decode cX7_readLine 37 = .ok (.iconst 5, 1) := by decide +kernel
theorem dX7_readLine_38 : decode cX7_readLine 38 = .ok (.invokevirtual 87, 3) := by decide +kernel
theorem dX7_readLine_41 : decode cX7_readLine 41 = .ok (.iload_n 1, 1) := by decide +kernel
theorem dX7_readLine_42 : decode cX7_readLine 42 = .ok (.bipush 7, 2) := by decide +kernel
theorem dX7_readLine_44 : decode cX7_readLine 44 = .ok (.if_icmp .ne 15, 3) := by decide +kernel
theorem dX7_readLine_47 : decode cX7_readLine 47 = .ok (.aload_n 0, 1) := by decide +kernel
theorem dX7_readLine_48 : decode cX7_readLine 48 = .ok (.getfield 123, 3) := by decide +kernel
theorem dX7_readLine_51 : decode cX7_readLine 51 = .ok (.ifCond .eq 8, 3) := by decide +kernel
theorem dX7_readLine_54 : decode cX7_readLine 54 = .ok (.aload_n 0, 1) := by decide +kernel
theorem dX7_readLine_55 : decode cX7_readLine 55 = .ok (.iconst 4, 1) := by decide +kernel
theorem dX7_readLine_56 : decode cX7_readLine 56 = .ok (.invokevirtual 87, 3) := by decide +kernel
theorem dX7_readLine_59 : decode cX7_readLine 59 = .ok (.aload_n 0, 1) := by decide +kernel
theorem dX7_readLine_60 : decode cX7_readLine 60 = .ok (.aload_n 0, 1) := by decide +kernel
theorem dX7_readLine_61 : decode cX7_readLine 61 = .ok (.getfield 123, 3) := by decide +kernel
theorem dX7_readLine_64 : decode cX7_readLine 64 = .ok (.ifCond .ne 9, 3) := by decide +kernel
theorem dX7_readLine_67 : decode cX7_readLine 67 = .ok (.iload_n 1, 1) := by decide +kernel
theorem dX7_readLine_68 : decode cX7_readLine 68 = .ok (.bipush 7, 2) := by decide +kernel
theorem dX7_readLine_70 : decode cX7_readLine 70 = .ok (.if_icmp .ne 7, 3) := by decide +kernel
theorem dX7_readLine_73 : decode cX7_readLine 73 = .ok (.iconst 1, 1) := by decide +kernel
theorem dX7_readLine_74 : decode cX7_readLine 74 = .ok (.goto 4, 3) := by decide +kernel
theorem dX7_readLine_77 : decode cX7_readLine 77 = .ok (.iconst 0, 1) := by decide +kernel
theorem dX7_readLine_78 : decode cX7_readLine 78 = .ok (.putfield 123, 3) := by decide +kernel
theorem dX7_readLine_81 : decode cX7_readLine 81 = .ok (.aload_n 0, 1) := by decide +kernel
theorem dX7_readLine_82 : decode cX7_readLine 82 = .ok (.invokevirtual 91, 3) := by decide +kernel
theorem dX7_readLine_85 : decode cX7_readLine 85 = .ok (.aload_n 0, 1) := by decide +kernel
theorem dX7_readLine_86 : decode cX7_readLine 86 = .ok (.getfield 57, 3) := by decide +kernel
theorem dX7_readLine_89 : decode cX7_readLine 89 = .ok (.ifCond .le 4, 3) := by decide +kernel
theorem dX7_readLine_92 : decode cX7_readLine 92 = .ok (.return_, 1) := by decide +kernel
theorem dX7_readLine_93 : decode cX7_readLine 93 = .ok (.aload_n 0, 1) := by decide +kernel
theorem dX7_readLine_94 : decode cX7_readLine 94 = .ok (.iload_n 1, 1) := by decide +kernel
theorem dX7_readLine_95 : decode cX7_readLine 95 = .ok (.invokevirtual 127, 3) := by decide +kernel
theorem dX7_readLine_98 : decode cX7_readLine 98 = .ok (.aload_n 0, 1) := by decide +kernel
theorem dX7_readLine_99 : decode cX7_readLine 99 = .ok (.getfield 57, 3) := by decide +kernel
theorem dX7_readLine_102 : decode cX7_readLine 102 = .ok (.ifCond .ne 16, 3) := by decide +kernel
theorem dX7_readLine_105 : decode cX7_readLine 105 = .ok (.aload_n 0, 1) := by decide +kernel
theorem dX7_readLine_106 : decode cX7_readLine 106 = .ok (.getfield 66, 3) := by decide +kernel
theorem dX7_readLine_109 : decode cX7_readLine 109 = .ok (.iconst 3, 1) := by decide +kernel
theorem dX7_readLine_110 : decode cX7_readLine 110 = .ok (.if_icmp .eq 8, 3) := by decide +kernel
theorem dX7_readLine_113 : decode cX7_readLine 113 = .ok (.aload_n 0, 1) := by decide +kernel
theorem dX7_readLine_114 : decode cX7_readLine 114 = .ok (.iconst 2, 1) := by decide +kernel
theorem dX7_readLine_115 : decode cX7_readLine 115 = .ok (.invokevirtual 87, 3) := by decide +kernel
theorem dX7_readLine_118 : decode cX7_readLine 118 = .ok (.aload_n 0, 1) := by decide +kernel
theorem dX7_readLine_119 : decode cX7_readLine 119 = .ok (.invokevirtual 91, 3) := by decide +kernel
theorem dX7_readLine_122 : decode cX7_readLine 122 = .ok (.return_, 1) := by decide +kernel
theorem dX7_text_0 : decode cX7_text 0 = .ok (.aload_n 0, 1) := by decide +kernel
theorem dX7_text_1 : decode cX7_text 1 = .ok (.iconst 0, 1) := by decide +kernel
theorem dX7_text_2 : decode cX7_text 2 = .ok (.putfield 57, 3) := by decide +kernel
theorem dX7_text_5 : decode cX7_text 5 = .ok (.aload_n 0, 1) := by decide +kernel
theorem dX7_text_6 : decode cX7_text 6 = .ok (.iconst 0, 1) := by decide +kernel
theorem dX7_text_7 : decode cX7_text 7 = .ok (.putfield 69, 3) := by decide +kernel
theorem dX7_text_10 : decode cX7_text 10 = .ok (.aload_n 0, 1) := by decide +kernel
theorem dX7_text_11 : decode cX7_text 11 = .ok (.iconst 0, 1) := by decide +kernel
theorem dX7_text_12 : decode cX7_text 12 = .ok (.putfield 105, 3) := by decide +kernel
theorem dX7_text_15 : decode cX7_text 15 = .ok (.aload_n 0, 1) := by decide +kernel
theorem dX7_text_16 : decode cX7_text 16 = .ok (.iconst 0, 1) := by decide +kernel
theorem dX7_text_17 : decode cX7_text 17 = .ok (.putfield 123, 3) := by decide +kernel
theorem dX7_text_20 : decode cX7_text 20 = .ok (.aload_n 0, 1) := by decide +kernel
theorem dX7_text_21 : decode cX7_text 21 = .ok (.iconst 0, 1) := by decide +kernel
theorem dX7_text_22 : decode cX7_text 22 = .ok (.putfield 115, 3) := by decide +kernel
theorem dX7_text_25 : decode cX7_text 25 = .ok (.aload_n 0, 1) := by decide +kernel
theorem dX7_text_26 : decode cX7_text 26 = .ok (.iconst 0, 1) := by decide +kernel
theorem dX7_text_27 : decode cX7_text 27 = .ok (.putfield 118, 3) := by decide +kernel
theorem dX7_text_30 : decode cX7_text 30 = .ok (.aload_n 0, 1) := by decide +kernel
theorem dX7_text_31 : decode cX7_text 31 = .ok (.iconst (-1), 1) := by decide +kernel
theorem dX7_text_32 : decode cX7_text 32 = .ok (.putfield 98, 3) := by decide +kernel
theorem dX7_text_35 : decode cX7_text 35 = .ok (.iconst 0, 1) := by decide +kernel
theorem dX7_text_36 : decode cX7_text 36 = .ok (.istore_n 1, 1) := by decide +kernel
theorem dX7_text_37 : decode cX7_text 37 = .ok (.iconst 0, 1) := by decide +kernel
theorem dX7_text_38 : decode cX7_text 38 = .ok (.istore_n 2, 1) := by decide +kernel
theorem dX7_text_39 : decode cX7_text 39 = .ok (.iload_n 2, 1) := by decide +kernel
theorem dX7_text_40 : decode cX7_text 40 = .ok (.bipush 30, 2) := by decide +kernel
theorem dX7_text_42 : decode cX7_text 42 = .ok (.if_icmp .ge 16, 3) := by decide +kernel
theorem dX7_text_45 : decode cX7_text 45 = .ok (.aload_n 0, 1) := by decide +kernel
theorem dX7_text_46 : decode cX7_text 46 = .ok (.getfield 13, 3) := by decide +kernel
theorem dX7_text_49 : decode cX7_text 49 = .ok (.iload_n 2, 1) := by decide +kernel
theorem dX7_text_50 : decode cX7_text 50 = .ok (.iconst 0, 1) := by decide +kernel
theorem dX7_text_51 : decode cX7_text 51 = .ok (.iastore, 1) := by decide +kernel
theorem dX7_text_52 : decode cX7_text 52 = .ok (.iinc 2 1, 3) := by decide +kernel
theorem dX7_text_55 : decode cX7_text 55 = .ok (.goto (-16), 3) := by decide +kernel
theorem dX7_text_58 : decode cX7_text 58 = .ok (.aload_n 0, 1) := by decide +kernel
theorem dX7_text_59 : decode cX7_text 59 = .ok (.invokevirtual 91, 3) := by decide +kernel
theorem dX7_text_62 : decode cX7_text 62 = .ok (.aload_n 0, 1) := by decide +kernel
theorem dX7_text_63 : decode cX7_text 63 = .ok (.getfield 57, 3) := by decide +kernel
theorem dX7_text_66 : decode cX7_text 66 = .ok (.ifCond .ne 20, 3) := by decide +kernel
theorem dX7_text_69 : decode cX7_text 69 = .ok (.aload_n 0, 1) := by decide +kernel
theorem dX7_text_70 : decode cX7_text 70 = .ok (.getfield 66, 3) := by decide +kernel
theorem dX7_text_73 : decode cX7_text 73 = .ok (.ifCond .eq 13, 3) := by decide +kernel
theorem dX7_text_76 : decode cX7_text 76 = .ok (.aload_n 0, 1) := by decide +kernel
theorem dX7_text_77 : decode cX7_text 77 = .ok (.invokevirtual 130, 3) := by decide +kernel
theorem dX7_text_80 : decode cX7_text 80 = .ok (.iinc 1 1, 3) := by decide +kernel
theorem dX7_text_83 : decode cX7_text 83 = .ok (.goto (-21), 3) := by decide +kernel
theorem dX7_text_86 : decode cX7_text 86 = .ok (.aload_n 0, 1) := by decide +kernel
theorem dX7_text_87 : decode cX7_text 87 = .ok (.getfield 57, 3) := by decide +kernel
theorem dX7_text_90 : decode cX7_text 90 = .ok (.ifCond .ne 20, 3) := by decide +kernel
theorem dX7_text_93 : decode cX7_text 93 = .ok (.aload_n 0, 1) := by decide +kernel
theorem dX7_text_94 : decode cX7_text 94 = .ok (.getfield 98, 3) := by decide +kernel
theorem dX7_text_97 : decode cX7_text 97 = .ok (.aload_n 0, 1) := by decide +kernel
theorem dX7_text_98 : decode cX7_text 98 = .ok (.getfield 105, 3) := by decide +kernel
theorem dX7_text_101 : decode cX7_text 101 = .ok (.if_icmp .lt 9, 3) := by decide +kernel
theorem dX7_text_104 : decode cX7_text 104 = .ok (.aload_n 0, 1) := by decide +kernel
theorem dX7_text_105 : decode cX7_text 105 = .ok (.bipush 6, 2) := by decide +kernel
theorem dX7_text_107 : decode cX7_text 107 = .ok (.invokevirtual 87, 3) := by decide +kernel
theorem dX7_text_110 : decode cX7_text 110 = .ok (.aload_n 0, 1) := by decide +kernel
theorem dX7_text_111 : decode cX7_text 111 = .ok (.iconst 0, 1) := by decide +kernel
theorem dX7_text_112 : decode cX7_text 112 = .ok (.putfield 54, 3) := by decide +kernel
theorem dX7_text_115 : decode cX7_text 115 = .ok (.aload_n 0, 1) := by decide +kernel
theorem dX7_text_116 : decode cX7_text 116 = .ok (.aload_n 0, 1) := by decide +kernel
theorem dX7_text_117 : decode cX7_text 117 = .ok (.getfield 57, 3) := by decide +kernel
theorem dX7_text_120 : decode cX7_text 120 = .ok (.putfield 133, 3) := by decide +kernel
theorem dX7_text_123 : decode cX7_text 123 = .ok (.aload_n 0, 1) := by decide +kernel
theorem dX7_text_124 : decode cX7_text 124 = .ok (.getfield 57, 3) := by decide +kernel
theorem dX7_text_127 : decode cX7_text 127 = .ok (.ifCond .le 11, 3) := by decide +kernel
theorem dX7_text_130 : decode cX7_text 130 = .ok (.bipush (-10), 2) := by decide +kernel
theorem dX7_text_132 : decode cX7_text 132 = .ok (.aload_n 0, 1) := by decide +kernel
theorem dX7_text_133 : decode cX7_text 133 = .ok (.getfield 63, 3) := by decide +kernel
theorem dX7_text_136 : decode cX7_text 136 = .ok (.isub, 1) := by decide +kernel
theorem dX7_text_137 : decode cX7_text 137 = .ok (.ireturn, 1) := by decide +kernel
theorem dX7_text_138 : decode cX7_text 138 = .ok (.iconst 0, 1) := by decide +kernel
theorem dX7_text_139 : decode cX7_text 139 = .ok (.istore_n 2, 1) := by decide +kernel
theorem dX7_text_140 : decode cX7_text 140 = .ok (.iload_n 2, 1) := by decide +kernel
theorem dX7_text_141 : decode cX7_text 141 = .ok (.bipush 30, 2) := by decide +kernel
theorem dX7_text_143 : decode cX7_text 143 = .ok (.if_icmp .ge 21, 3) := by decide +kernel
theorem dX7_text_146 : decode cX7_text 146 = .ok (.aload_n 0, 1) := by decide +kernel
theorem dX7_text_147 : decode cX7_text 147 = .ok (.getfield 7, 3) := by decide +kernel
theorem dX7_text_150 : decode cX7_text 150 = .ok (.iload_n 2, 1) := by decide +kernel
theorem dX7_text_151 : decode cX7_text 151 = .ok (.aload_n 0, 1) := by decide +kernel
theorem dX7_text_152 : decode cX7_text 152 = .ok (.getfield 13, 3) := by decide +kernel
theorem dX7_text_155 : decode cX7_text 155 = .ok (.iload_n 2, 1) := by decide +kernel
theorem dX7_text_156 : decode cX7_text 156 = .ok (.iaload, 1) := by decide +kernel
theorem dX7_text_157 : decode cX7_text 157 = .ok (.iastore, 1) := by decide +kernel
theorem dX7_text_158 : decode cX7_text 158 = .ok (.iinc 2 1, 3) := by decide +kernel
theorem dX7_text_161 : decode cX7_text 161 = .ok (.goto (-21), 3) := by decide +kernel
theorem dX7_text_164 : decode cX7_text 164 = .ok (.aload_n 0, 1) := by decide +kernel
theorem dX7_text_165 : decode cX7_text 165 = .ok (.aload_n 0, 1) := by decide +kernel
theorem dX7_text_166 : decode cX7_text 166 = .ok (.getfield 105, 3) := by decide +kernel
theorem dX7_text_169 : decode cX7_text 169 = .ok (.putfield 136, 3) := by decide +kernel
theorem dX7_text_172 : decode cX7_text 172 = .ok (.aload_n 0, 1) := by decide +kernel
theorem dX7_text_173 : decode cX7_text 173 = .ok (.iconst 0, 1) := by decide +kernel
theorem dX7_text_174 : decode cX7_text 174 = .ok (.putfield 139, 3) := by decide +kernel
theorem dX7_text_177 : decode cX7_text 177 = .ok (.aload_n 0, 1) := by decide +kernel
theorem dX7_text_178 : decode cX7_text 178 = .ok (.getfield 35, 3) := by decide +kernel
theorem dX7_text_181 : decode cX7_text 181 = .ok (.iconst 0, 1) := by decide +kernel
theorem dX7_text_182 : decode cX7_text 182 = .ok (.iconst 0, 1) := by decide +kernel
theorem dX7_text_183 : decode cX7_text 183 = .ok (.bastore, 1) := by decide +kernel
theorem dX7_text_184 : decode cX7_text 184 = .ok (.aload_n 0, 1) := by decide +kernel
theorem dX7_text_185 : decode cX7_text 185 = .ok (.getfield 35, 3) := by decide +kernel
theorem dX7_text_188 : decode cX7_text 188 = .ok (.iconst 1, 1) := by decide +kernel
theorem dX7_text_189 : decode cX7_text 189 = .ok (.iconst 0, 1) := by decide +kernel
theorem dX7_text_190 : decode cX7_text 190 = .ok (.bastore, 1) := by decide +kernel
theorem dX7_text_191 : decode cX7_text 191 = .ok (.iload_n 1, 1) := by decide +kernel
theorem dX7_text_192 : decode cX7_text 192 = .ok (.ireturn, 1) := by decide +kernel
theorem dX7_fault_0 : decode cX7_fault 0 = .ok (.aload_n 0, 1) := by decide +kernel
theorem dX7_fault_1 : decode cX7_fault 1 = .ok (.getfield 133, 3) := by decide +kernel
theorem dX7_fault_4 : decode cX7_fault 4 = .ok (.ireturn, 1) := by decide +kernel
theorem dX7_isGiver_0 : decode cX7_isGiver 0 = .ok (.iload_n 1, 1) := by decide +kernel
theorem dX7_isGiver_1 : decode cX7_isGiver 1 = .ok (.i2l, 1) := by decide +kernel
theorem dX7_isGiver_2 : decode cX7_isGiver 2 = .ok (.lconst 0, 1) := by decide +kernel
theorem dX7_isGiver_3 : decode cX7_isGiver 3 = .ok (.aload_n 0, 1) := by decide +kernel
theorem dX7_isGiver_4 : decode cX7_isGiver 4 = .ok (.getfield 136, 3) := by decide +kernel
theorem dX7_isGiver_7 : decode cX7_isGiver 7 = .ok (.iconst 1, 1) := by decide +kernel
theorem dX7_isGiver_8 : decode cX7_isGiver 8 = .ok (.isub, 1) := by decide +kernel
theorem dX7_isGiver_9 : decode cX7_isGiver 9 = .ok (.i2l, 1) := by decide +kernel
theorem dX7_isGiver_10 : decode cX7_isGiver 10 = .ok (.invokestatic 50, 3) := by decide +kernel
theorem dX7_isGiver_13 : decode cX7_isGiver 13 = .ok (.ireturn, 1) := by decide +kernel
theorem dX7_isMetal_0 : decode cX7_isMetal 0 = .ok (.iload_n 0, 1) := by decide +kernel
theorem dX7_isMetal_1 : decode cX7_isMetal 1 = .ok (.i2l, 1) := by decide +kernel
theorem dX7_isMetal_2 : decode cX7_isMetal 2 = .ok (.lconst 0, 1) := by decide +kernel
theorem dX7_isMetal_3 : decode cX7_isMetal 3 = .ok (.ldc2_w 142, 3) := by decide +kernel
theorem dX7_isMetal_6 : decode cX7_isMetal 6 = .ok (.invokestatic 50, 3) := by decide +kernel
theorem dX7_isMetal_9 : decode cX7_isMetal 9 = .ok (.ireturn, 1) := by decide +kernel
theorem dX7_asked_0 : decode cX7_asked 0 = .ok (.aload_n 0, 1) := by decide +kernel
theorem dX7_asked_1 : decode cX7_asked 1 = .ok (.getfield 7, 3) := by decide +kernel
theorem dX7_asked_4 : decode cX7_asked 4 = .ok (.bipush 24, 2) := by decide +kernel
theorem dX7_asked_6 : decode cX7_asked 6 = .ok (.iaload, 1) := by decide +kernel
theorem dX7_asked_7 : decode cX7_asked 7 = .ok (.bipush 6, 2) := by decide +kernel
theorem dX7_asked_9 : decode cX7_asked 9 = .ok (.iadd, 1) := by decide +kernel
theorem dX7_asked_10 : decode cX7_asked 10 = .ok (.ireturn, 1) := by decide +kernel
theorem dX7_holders_0 : decode cX7_holders 0 = .ok (.iconst 0, 1) := by decide +kernel
theorem dX7_holders_1 : decode cX7_holders 1 = .ok (.istore_n 1, 1) := by decide +kernel
theorem dX7_holders_2 : decode cX7_holders 2 = .ok (.iconst 0, 1) := by decide +kernel
theorem dX7_holders_3 : decode cX7_holders 3 = .ok (.istore_n 2, 1) := by decide +kernel
theorem dX7_holders_4 : decode cX7_holders 4 = .ok (.iload_n 2, 1) := by decide +kernel
theorem dX7_holders_5 : decode cX7_holders 5 = .ok (.aload_n 0, 1) := by decide +kernel
theorem dX7_holders_6 : decode cX7_holders 6 = .ok (.getfield 136, 3) := by decide +kernel
theorem dX7_holders_9 : decode cX7_holders 9 = .ok (.if_icmp .ge 31, 3) := by decide +kernel
theorem dX7_holders_12 : decode cX7_holders 12 = .ok (.iload_n 1, 1) := by decide +kernel
theorem dX7_holders_13 : decode cX7_holders 13 = .ok (.aload_n 0, 1) := by decide +kernel
theorem dX7_holders_14 : decode cX7_holders 14 = .ok (.getfield 7, 3) := by decide +kernel
theorem dX7_holders_17 : decode cX7_holders 17 = .ok (.bipush 16, 2) := by decide +kernel
theorem dX7_holders_19 : decode cX7_holders 19 = .ok (.iload_n 2, 1) := by decide +kernel
theorem dX7_holders_20 : decode cX7_holders 20 = .ok (.iadd, 1) := by decide +kernel
theorem dX7_holders_21 : decode cX7_holders 21 = .ok (.iaload, 1) := by decide +kernel
theorem dX7_holders_22 : decode cX7_holders 22 = .ok (.ifCond .le 9, 3) := by decide +kernel
theorem dX7_holders_25 : decode cX7_holders 25 = .ok (.iconst 1, 1) := by decide +kernel
theorem dX7_holders_26 : decode cX7_holders 26 = .ok (.iload_n 2, 1) := by decide +kernel
theorem dX7_holders_27 : decode cX7_holders 27 = .ok (.ishl, 1) := by decide +kernel
theorem dX7_holders_28 : decode cX7_holders 28 = .ok (.goto 4, 3) := by decide +kernel
theorem dX7_holders_31 : decode cX7_holders 31 = .ok (.iconst 0, 1) := by decide +kernel
theorem dX7_holders_32 : decode cX7_holders 32 = .ok (.ior, 1) := by decide +kernel
theorem dX7_holders_33 : decode cX7_holders 33 = .ok (.istore_n 1, 1) := by decide +kernel
theorem dX7_holders_34 : decode cX7_holders 34 = .ok (.iinc 2 1, 3) := by decide +kernel
theorem dX7_holders_37 : decode cX7_holders 37 = .ok (.goto (-33), 3) := by decide +kernel
theorem dX7_holders_40 : decode cX7_holders 40 = .ok (.iload_n 1, 1) := by decide +kernel
theorem dX7_holders_41 : decode cX7_holders 41 = .ok (.ireturn, 1) := by decide +kernel
theorem dX7_rule_0 : decode cX7_rule 0 = .ok (.iload_n 1, 1) := by decide +kernel
theorem dX7_rule_1 : decode cX7_rule 1 = .ok (.tableswitch 78 0 5 #[39, 44, 49, 57, 65, 73], 39) := by decide +kernel
theorem dX7_rule_40 : decode cX7_rule 40 = .ok (.aload_n 0, 1) := by decide +kernel
theorem dX7_rule_41 : decode cX7_rule 41 = .ok (.getfield 136, 3) := by decide +kernel
theorem dX7_rule_44 : decode cX7_rule 44 = .ok (.ireturn, 1) := by decide +kernel
theorem dX7_rule_45 : decode cX7_rule 45 = .ok (.aload_n 0, 1) := by decide +kernel
theorem dX7_rule_46 : decode cX7_rule 46 = .ok (.invokevirtual 144, 3) := by decide +kernel
theorem dX7_rule_49 : decode cX7_rule 49 = .ok (.ireturn, 1) := by decide +kernel
theorem dX7_rule_50 : decode cX7_rule 50 = .ok (.aload_n 0, 1) := by decide +kernel
theorem dX7_rule_51 : decode cX7_rule 51 = .ok (.getfield 7, 3) := by decide +kernel
theorem dX7_rule_54 : decode cX7_rule 54 = .ok (.bipush 25, 2) := by decide +kernel
theorem dX7_rule_56 : decode cX7_rule 56 = .ok (.iaload, 1) := by decide +kernel
theorem dX7_rule_57 : decode cX7_rule 57 = .ok (.ireturn, 1) := by decide +kernel
theorem dX7_rule_58 : decode cX7_rule 58 = .ok (.aload_n 0, 1) := by decide +kernel
theorem dX7_rule_59 : decode cX7_rule 59 = .ok (.getfield 7, 3) := by decide +kernel
theorem dX7_rule_62 : decode cX7_rule 62 = .ok (.bipush 26, 2) := by decide +kernel
theorem dX7_rule_64 : decode cX7_rule 64 = .ok (.iaload, 1) := by decide +kernel
theorem dX7_rule_65 : decode cX7_rule 65 = .ok (.ireturn, 1) := by decide +kernel
theorem dX7_rule_66 : decode cX7_rule 66 = .ok (.aload_n 0, 1) := by decide +kernel
theorem dX7_rule_67 : decode cX7_rule 67 = .ok (.getfield 7, 3) := by decide +kernel
theorem dX7_rule_70 : decode cX7_rule 70 = .ok (.bipush 20, 2) := by decide +kernel
theorem dX7_rule_72 : decode cX7_rule 72 = .ok (.iaload, 1) := by decide +kernel
theorem dX7_rule_73 : decode cX7_rule 73 = .ok (.ireturn, 1) := by decide +kernel
theorem dX7_rule_74 : decode cX7_rule 74 = .ok (.aload_n 0, 1) := by decide +kernel
theorem dX7_rule_75 : decode cX7_rule 75 = .ok (.invokevirtual 147, 3) := by decide +kernel
theorem dX7_rule_78 : decode cX7_rule 78 = .ok (.ireturn, 1) := by decide +kernel
theorem dX7_rule_79 : decode cX7_rule 79 = .ok (.iconst (-1), 1) := by decide +kernel
theorem dX7_rule_80 : decode cX7_rule 80 = .ok (.ireturn, 1) := by decide +kernel
theorem dX7_owes_0 : decode cX7_owes 0 = .ok (.aload_n 0, 1) := by decide +kernel
theorem dX7_owes_1 : decode cX7_owes 1 = .ok (.getfield 7, 3) := by decide +kernel
theorem dX7_owes_4 : decode cX7_owes 4 = .ok (.iconst 4, 1) := by decide +kernel
theorem dX7_owes_5 : decode cX7_owes 5 = .ok (.iload_n 1, 1) := by decide +kernel
theorem dX7_owes_6 : decode cX7_owes 6 = .ok (.iadd, 1) := by decide +kernel
theorem dX7_owes_7 : decode cX7_owes 7 = .ok (.iaload, 1) := by decide +kernel
theorem dX7_owes_8 : decode cX7_owes 8 = .ok (.istore_n 2, 1) := by decide +kernel
theorem dX7_owes_9 : decode cX7_owes 9 = .ok (.aload_n 0, 1) := by decide +kernel
theorem dX7_owes_10 : decode cX7_owes 10 = .ok (.getfield 7, 3) := by decide +kernel
theorem dX7_owes_13 : decode cX7_owes 13 = .ok (.iload_n 1, 1) := by decide +kernel
theorem dX7_owes_14 : decode cX7_owes 14 = .ok (.iaload, 1) := by decide +kernel
theorem dX7_owes_15 : decode cX7_owes 15 = .ok (.istore_n 3, 1) := by decide +kernel
theorem dX7_owes_16 : decode cX7_owes 16 = .ok (.iload_n 3, 1) := by decide +kernel
theorem dX7_owes_17 : decode cX7_owes 17 = .ok (.ifCond .ne 7, 3) := by decide +kernel
theorem dX7_owes_20 : decode cX7_owes 20 = .ok (.iload_n 2, 1) := by decide +kernel
theorem dX7_owes_21 : decode cX7_owes 21 = .ok (.goto 30, 3) := by decide +kernel
theorem dX7_owes_24 : decode cX7_owes 24 = .ok (.iload_n 3, 1) := by decide +kernel
theorem dX7_owes_25 : decode cX7_owes 25 = .ok (.iconst 1, 1) := by decide +kernel
theorem dX7_owes_26 : decode cX7_owes 26 = .ok (.if_icmp .ne 9, 3) := by decide +kernel
theorem dX7_owes_29 : decode cX7_owes 29 = .ok (.iload_n 2, 1) := by decide +kernel
theorem dX7_owes_30 : decode cX7_owes 30 = .ok (.iconst 2, 1) := by decide +kernel
theorem dX7_owes_31 : decode cX7_owes 31 = .ok (.idiv, 1) := by decide +kernel
theorem dX7_owes_32 : decode cX7_owes 32 = .ok (.goto 19, 3) := by decide +kernel
theorem dX7_owes_35 : decode cX7_owes 35 = .ok (.iload_n 3, 1) := by decide +kernel
theorem dX7_owes_36 : decode cX7_owes 36 = .ok (.iconst 2, 1) := by decide +kernel
theorem dX7_owes_37 : decode cX7_owes 37 = .ok (.if_icmp .ne 9, 3) := by decide +kernel
theorem dX7_owes_40 : decode cX7_owes 40 = .ok (.iconst 2, 1) := by decide +kernel
theorem dX7_owes_41 : decode cX7_owes 41 = .ok (.iload_n 2, 1) := by decide +kernel
theorem dX7_owes_42 : decode cX7_owes 42 = .ok (.imul, 1) := by decide +kernel
theorem dX7_owes_43 : decode cX7_owes 43 = .ok (.goto 8, 3) := by decide +kernel
theorem dX7_owes_46 : decode cX7_owes 46 = .ok (.iconst 2, 1) := by decide +kernel
theorem dX7_owes_47 : decode cX7_owes 47 = .ok (.iload_n 2, 1) := by decide +kernel
theorem dX7_owes_48 : decode cX7_owes 48 = .ok (.imul, 1) := by decide +kernel
theorem dX7_owes_49 : decode cX7_owes 49 = .ok (.iconst 3, 1) := by decide +kernel
theorem dX7_owes_50 : decode cX7_owes 50 = .ok (.iadd, 1) := by decide +kernel
theorem dX7_owes_51 : decode cX7_owes 51 = .ok (.ireturn, 1) := by decide +kernel
theorem dX7_whole_0 : decode cX7_whole 0 = .ok (.iconst 0, 1) := by decide +kernel
theorem dX7_whole_1 : decode cX7_whole 1 = .ok (.istore_n 2, 1) := by decide +kernel
theorem dX7_whole_2 : decode cX7_whole 2 = .ok (.iconst 1, 1) := by decide +kernel
theorem dX7_whole_3 : decode cX7_whole 3 = .ok (.istore_n 3, 1) := by decide +kernel
theorem dX7_whole_4 : decode cX7_whole 4 = .ok (.iconst 0, 1) := by decide +kernel
theorem dX7_whole_5 : decode cX7_whole 5 = .ok (.istore 4, 2) := by decide +kernel
theorem dX7_whole_7 : decode cX7_whole 7 = .ok (.iload 4, 2) := by decide +kernel
theorem dX7_whole_9 : decode cX7_whole 9 = .ok (.aload_n 0, 1) := by decide +kernel
theorem dX7_whole_10 : decode cX7_whole 10 = .ok (.getfield 136, 3) := by decide +kernel
theorem dX7_whole_13 : decode cX7_whole 13 = .ok (.if_icmp .ge 82, 3) := by decide +kernel
theorem dX7_whole_16 : decode cX7_whole 16 = .ok (.aload_n 0, 1) := by decide +kernel
theorem dX7_whole_17 : decode cX7_whole 17 = .ok (.getfield 7, 3) := by decide +kernel
theorem dX7_whole_20 : decode cX7_whole 20 = .ok (.bipush 12, 2) := by decide +kernel
theorem dX7_whole_22 : decode cX7_whole 22 = .ok (.iload 4, 2) := by decide +kernel
theorem dX7_whole_24 : decode cX7_whole 24 = .ok (.iadd, 1) := by decide +kernel
theorem dX7_whole_25 : decode cX7_whole 25 = .ok (.iaload, 1) := by decide +kernel
theorem dX7_whole_26 : decode cX7_whole 26 = .ok (.aload_n 0, 1) := by decide +kernel
theorem dX7_whole_27 : decode cX7_whole 27 = .ok (.getfield 7, 3) := by decide +kernel
theorem dX7_whole_30 : decode cX7_whole 30 = .ok (.bipush 12, 2) := by decide +kernel
theorem dX7_whole_32 : decode cX7_whole 32 = .ok (.iload_n 1, 1) := by decide +kernel
theorem dX7_whole_33 : decode cX7_whole 33 = .ok (.iadd, 1) := by decide +kernel
theorem dX7_whole_34 : decode cX7_whole 34 = .ok (.iaload, 1) := by decide +kernel
theorem dX7_whole_35 : decode cX7_whole 35 = .ok (.if_icmp .ne 7, 3) := by decide +kernel
theorem dX7_whole_38 : decode cX7_whole 38 = .ok (.iconst 1, 1) := by decide +kernel
theorem dX7_whole_39 : decode cX7_whole 39 = .ok (.goto 4, 3) := by decide +kernel
theorem dX7_whole_42 : decode cX7_whole 42 = .ok (.iconst 0, 1) := by decide +kernel
theorem dX7_whole_43 : decode cX7_whole 43 = .ok (.istore 5, 2) := by decide +kernel
theorem dX7_whole_45 : decode cX7_whole 45 = .ok (.iload_n 2, 1) := by decide +kernel
theorem dX7_whole_46 : decode cX7_whole 46 = .ok (.iload 5, 2) := by decide +kernel
theorem dX7_whole_48 : decode cX7_whole 48 = .ok (.ifCond .eq 7, 3) := by decide +kernel
theorem dX7_whole_51 : decode cX7_whole 51 = .ok (.iconst 1, 1) := by decide +kernel
theorem dX7_whole_52 : decode cX7_whole 52 = .ok (.goto 4, 3) := by decide +kernel
theorem dX7_whole_55 : decode cX7_whole 55 = .ok (.iconst 0, 1) := by decide +kernel
theorem dX7_whole_56 : decode cX7_whole 56 = .ok (.iadd, 1) := by decide +kernel
theorem dX7_whole_57 : decode cX7_whole 57 = .ok (.istore_n 2, 1) := by decide +kernel
theorem dX7_whole_58 : decode cX7_whole 58 = .ok (.iload_n 3, 1) := by decide +kernel
theorem dX7_whole_59 : decode cX7_whole 59 = .ok (.ifCond .eq 28, 3) := by decide +kernel
theorem dX7_whole_62 : decode cX7_whole 62 = .ok (.iload 5, 2) := by decide +kernel
theorem dX7_whole_64 : decode cX7_whole 64 = .ok (.ifCond .eq 19, 3) := by decide +kernel
theorem dX7_whole_67 : decode cX7_whole 67 = .ok (.aload_n 0, 1) := by decide +kernel
theorem dX7_whole_68 : decode cX7_whole 68 = .ok (.getfield 7, 3) := by decide +kernel
theorem dX7_whole_71 : decode cX7_whole 71 = .ok (.bipush 20, 2) := by decide +kernel
theorem dX7_whole_73 : decode cX7_whole 73 = .ok (.iaload, 1) := by decide +kernel
theorem dX7_whole_74 : decode cX7_whole 74 = .ok (.iload 4, 2) := by decide +kernel
theorem dX7_whole_76 : decode cX7_whole 76 = .ok (.ishr, 1) := by decide +kernel
theorem dX7_whole_77 : decode cX7_whole 77 = .ok (.iconst 1, 1) := by decide +kernel
theorem dX7_whole_78 : decode cX7_whole 78 = .ok (.iand, 1) := by decide +kernel
theorem dX7_whole_79 : decode cX7_whole 79 = .ok (.iconst 1, 1) := by decide +kernel
theorem dX7_whole_80 : decode cX7_whole 80 = .ok (.if_icmp .ne 7, 3) := by decide +kernel
theorem dX7_whole_83 : decode cX7_whole 83 = .ok (.iconst 1, 1) := by decide +kernel
theorem dX7_whole_84 : decode cX7_whole 84 = .ok (.goto 4, 3) := by decide +kernel
theorem dX7_whole_87 : decode cX7_whole 87 = .ok (.iconst 0, 1) := by decide +kernel
theorem dX7_whole_88 : decode cX7_whole 88 = .ok (.istore_n 3, 1) := by decide +kernel
theorem dX7_whole_89 : decode cX7_whole 89 = .ok (.iinc 4 1, 3) := by decide +kernel
theorem dX7_whole_92 : decode cX7_whole 92 = .ok (.goto (-85), 3) := by decide +kernel
theorem dX7_whole_95 : decode cX7_whole 95 = .ok (.iload_n 2, 1) := by decide +kernel
theorem dX7_whole_96 : decode cX7_whole 96 = .ok (.iconst 1, 1) := by decide +kernel
theorem dX7_whole_97 : decode cX7_whole 97 = .ok (.if_icmp .le 19, 3) := by decide +kernel
theorem dX7_whole_100 : decode cX7_whole 100 = .ok (.iload_n 3, 1) := by decide +kernel
theorem dX7_whole_101 : decode cX7_whole 101 = .ok (.ifCond .eq 15, 3) := by decide +kernel
theorem dX7_whole_104 : decode cX7_whole 104 = .ok (.aload_n 0, 1) := by decide +kernel
theorem dX7_whole_105 : decode cX7_whole 105 = .ok (.iload_n 1, 1) := by decide +kernel
theorem dX7_whole_106 : decode cX7_whole 106 = .ok (.invokevirtual 150, 3) := by decide +kernel
theorem dX7_whole_109 : decode cX7_whole 109 = .ok (.iconst 1, 1) := by decide +kernel
theorem dX7_whole_110 : decode cX7_whole 110 = .ok (.iadd, 1) := by decide +kernel
theorem dX7_whole_111 : decode cX7_whole 111 = .ok (.iconst 2, 1) := by decide +kernel
theorem dX7_whole_112 : decode cX7_whole 112 = .ok (.idiv, 1) := by decide +kernel
theorem dX7_whole_113 : decode cX7_whole 113 = .ok (.goto 8, 3) := by decide +kernel
theorem dX7_whole_116 : decode cX7_whole 116 = .ok (.aload_n 0, 1) := by decide +kernel
theorem dX7_whole_117 : decode cX7_whole 117 = .ok (.iload_n 1, 1) := by decide +kernel
theorem dX7_whole_118 : decode cX7_whole 118 = .ok (.invokevirtual 150, 3) := by decide +kernel
theorem dX7_whole_121 : decode cX7_whole 121 = .ok (.ireturn, 1) := by decide +kernel
theorem dX7_gives_0 : decode cX7_gives 0 = .ok (.aload_n 0, 1) := by decide +kernel
theorem dX7_gives_1 : decode cX7_gives 1 = .ok (.iload_n 1, 1) := by decide +kernel
theorem dX7_gives_2 : decode cX7_gives 2 = .ok (.invokevirtual 153, 3) := by decide +kernel
theorem dX7_gives_5 : decode cX7_gives 5 = .ok (.aload_n 0, 1) := by decide +kernel
theorem dX7_gives_6 : decode cX7_gives 6 = .ok (.getfield 7, 3) := by decide +kernel
theorem dX7_gives_9 : decode cX7_gives 9 = .ok (.bipush 16, 2) := by decide +kernel
theorem dX7_gives_11 : decode cX7_gives 11 = .ok (.iload_n 1, 1) := by decide +kernel
theorem dX7_gives_12 : decode cX7_gives 12 = .ok (.iadd, 1) := by decide +kernel
theorem dX7_gives_13 : decode cX7_gives 13 = .ok (.iaload, 1) := by decide +kernel
theorem dX7_gives_14 : decode cX7_gives 14 = .ok (.isub, 1) := by decide +kernel
theorem dX7_gives_15 : decode cX7_gives 15 = .ok (.istore_n 2, 1) := by decide +kernel
theorem dX7_gives_16 : decode cX7_gives 16 = .ok (.iload_n 2, 1) := by decide +kernel
theorem dX7_gives_17 : decode cX7_gives 17 = .ok (.ifCond .ge 7, 3) := by decide +kernel
theorem dX7_gives_20 : decode cX7_gives 20 = .ok (.iconst 0, 1) := by decide +kernel
theorem dX7_gives_21 : decode cX7_gives 21 = .ok (.goto 4, 3) := by decide +kernel
theorem dX7_gives_24 : decode cX7_gives 24 = .ok (.iload_n 2, 1) := by decide +kernel
theorem dX7_gives_25 : decode cX7_gives 25 = .ok (.istore_n 2, 1) := by decide +kernel
theorem dX7_gives_26 : decode cX7_gives 26 = .ok (.iload_n 1, 1) := by decide +kernel
theorem dX7_gives_27 : decode cX7_gives 27 = .ok (.aload_n 0, 1) := by decide +kernel
theorem dX7_gives_28 : decode cX7_gives 28 = .ok (.getfield 25, 3) := by decide +kernel
theorem dX7_gives_31 : decode cX7_gives 31 = .ok (.if_icmp .ne 10, 3) := by decide +kernel
theorem dX7_gives_34 : decode cX7_gives 34 = .ok (.aload_n 0, 1) := by decide +kernel
theorem dX7_gives_35 : decode cX7_gives 35 = .ok (.getfield 156, 3) := by decide +kernel
theorem dX7_gives_38 : decode cX7_gives 38 = .ok (.goto 4, 3) := by decide +kernel
theorem dX7_gives_41 : decode cX7_gives 41 = .ok (.iload_n 2, 1) := by decide +kernel
theorem dX7_gives_42 : decode cX7_gives 42 = .ok (.istore_n 2, 1) := by decide +kernel
theorem dX7_gives_43 : decode cX7_gives 43 = .ok (.aload_n 0, 1) := by decide +kernel
theorem dX7_gives_44 : decode cX7_gives 44 = .ok (.getfield 159, 3) := by decide +kernel
theorem dX7_gives_47 : decode cX7_gives 47 = .ok (.iload_n 1, 1) := by decide +kernel
theorem dX7_gives_48 : decode cX7_gives 48 = .ok (.ishr, 1) := by decide +kernel
theorem dX7_gives_49 : decode cX7_gives 49 = .ok (.iconst 1, 1) := by decide +kernel
theorem dX7_gives_50 : decode cX7_gives 50 = .ok (.iand, 1) := by decide +kernel
theorem dX7_gives_51 : decode cX7_gives 51 = .ok (.iconst 1, 1) := by decide +kernel
theorem dX7_gives_52 : decode cX7_gives 52 = .ok (.if_icmp .ne 9, 3) := by decide +kernel
theorem dX7_gives_55 : decode cX7_gives 55 = .ok (.iload_n 2, 1) := by decide +kernel
theorem dX7_gives_56 : decode cX7_gives 56 = .ok (.iconst 2, 1) := by decide +kernel
theorem dX7_gives_57 : decode cX7_gives 57 = .ok (.idiv, 1) := by decide +kernel
theorem dX7_gives_58 : decode cX7_gives 58 = .ok (.goto 4, 3) := by decide +kernel
theorem dX7_gives_61 : decode cX7_gives 61 = .ok (.iload_n 2, 1) := by decide +kernel
theorem dX7_gives_62 : decode cX7_gives 62 = .ok (.istore_n 2, 1) := by decide +kernel
theorem dX7_gives_63 : decode cX7_gives 63 = .ok (.aload_n 0, 1) := by decide +kernel
theorem dX7_gives_64 : decode cX7_gives 64 = .ok (.getfield 162, 3) := by decide +kernel
theorem dX7_gives_67 : decode cX7_gives 67 = .ok (.iload_n 1, 1) := by decide +kernel
theorem dX7_gives_68 : decode cX7_gives 68 = .ok (.ishr, 1) := by decide +kernel
theorem dX7_gives_69 : decode cX7_gives 69 = .ok (.iconst 1, 1) := by decide +kernel
theorem dX7_gives_70 : decode cX7_gives 70 = .ok (.iand, 1) := by decide +kernel
theorem dX7_gives_71 : decode cX7_gives 71 = .ok (.iconst 1, 1) := by decide +kernel
theorem dX7_gives_72 : decode cX7_gives 72 = .ok (.if_icmp .ne 7, 3) := by decide +kernel
theorem dX7_gives_75 : decode cX7_gives 75 = .ok (.iconst 0, 1) := by decide +kernel
theorem dX7_gives_76 : decode cX7_gives 76 = .ok (.goto 4, 3) := by decide +kernel
theorem dX7_gives_79 : decode cX7_gives 79 = .ok (.iload_n 2, 1) := by decide +kernel
theorem dX7_gives_80 : decode cX7_gives 80 = .ok (.ireturn, 1) := by decide +kernel
theorem dX7_giver_0 : decode cX7_giver 0 = .ok (.aload_n 0, 1) := by decide +kernel
theorem dX7_giver_1 : decode cX7_giver 1 = .ok (.iload_n 1, 1) := by decide +kernel
theorem dX7_giver_2 : decode cX7_giver 2 = .ok (.invokevirtual 165, 3) := by decide +kernel
theorem dX7_giver_5 : decode cX7_giver 5 = .ok (.ifCond .ne 5, 3) := by decide +kernel
theorem dX7_giver_8 : decode cX7_giver 8 = .ok (.iconst (-1), 1) := by decide +kernel
theorem dX7_giver_9 : decode cX7_giver 9 = .ok (.ireturn, 1) := by decide +kernel
theorem dX7_giver_10 : decode cX7_giver 10 = .ok (.iload_n 2, 1) := by decide +kernel
theorem dX7_giver_11 : decode cX7_giver 11 = .ok (.tableswitch 90 0 7 #[45, 45, 45, 45, 56, 68, 78, 84], 45) := by decide +kernel
theorem dX7_giver_56 : decode cX7_giver 56 = .ok (.aload_n 0, 1) := by decide +kernel
theorem dX7_giver_57 : decode cX7_giver 57 = .ok (.getfield 7, 3) := by decide +kernel
theorem dX7_giver_60 : decode cX7_giver 60 = .ok (.iconst 4, 1) := by decide +kernel
theorem dX7_giver_61 : decode cX7_giver 61 = .ok (.iload_n 2, 1) := by decide +kernel
theorem dX7_giver_62 : decode cX7_giver 62 = .ok (.imul, 1) := by decide +kernel
theorem dX7_giver_63 : decode cX7_giver 63 = .ok (.iload_n 1, 1) := by decide +kernel
theorem dX7_giver_64 : decode cX7_giver 64 = .ok (.iadd, 1) := by decide +kernel
theorem dX7_giver_65 : decode cX7_giver 65 = .ok (.iaload, 1) := by decide +kernel
theorem dX7_giver_66 : decode cX7_giver 66 = .ok (.ireturn, 1) := by decide +kernel
theorem dX7_giver_67 : decode cX7_giver 67 = .ok (.aload_n 0, 1) := by decide +kernel
theorem dX7_giver_68 : decode cX7_giver 68 = .ok (.getfield 7, 3) := by decide +kernel
theorem dX7_giver_71 : decode cX7_giver 71 = .ok (.bipush 20, 2) := by decide +kernel
theorem dX7_giver_73 : decode cX7_giver 73 = .ok (.iaload, 1) := by decide +kernel
theorem dX7_giver_74 : decode cX7_giver 74 = .ok (.iload_n 1, 1) := by decide +kernel
theorem dX7_giver_75 : decode cX7_giver 75 = .ok (.ishr, 1) := by decide +kernel
theorem dX7_giver_76 : decode cX7_giver 76 = .ok (.iconst 1, 1) := by decide +kernel
theorem dX7_giver_77 : decode cX7_giver 77 = .ok (.iand, 1) := by decide +kernel
theorem dX7_giver_78 : decode cX7_giver 78 = .ok (.ireturn, 1) := by decide +kernel
theorem dX7_giver_79 : decode cX7_giver 79 = .ok (.aload_n 0, 1) := by decide +kernel
theorem dX7_giver_80 : decode cX7_giver 80 = .ok (.getfield 7, 3) := by decide +kernel
theorem dX7_giver_83 : decode cX7_giver 83 = .ok (.bipush 16, 2) := by decide +kernel
theorem dX7_giver_85 : decode cX7_giver 85 = .ok (.iload_n 1, 1) := by decide +kernel
theorem dX7_giver_86 : decode cX7_giver 86 = .ok (.iadd, 1) := by decide +kernel
theorem dX7_giver_87 : decode cX7_giver 87 = .ok (.iaload, 1) := by decide +kernel
theorem dX7_giver_88 : decode cX7_giver 88 = .ok (.ireturn, 1) := by decide +kernel
theorem dX7_giver_89 : decode cX7_giver 89 = .ok (.aload_n 0, 1) := by decide +kernel
theorem dX7_giver_90 : decode cX7_giver 90 = .ok (.iload_n 1, 1) := by decide +kernel
theorem dX7_giver_91 : decode cX7_giver 91 = .ok (.invokevirtual 150, 3) := by decide +kernel
theorem dX7_giver_94 : decode cX7_giver 94 = .ok (.ireturn, 1) := by decide +kernel
theorem dX7_giver_95 : decode cX7_giver 95 = .ok (.aload_n 0, 1) := by decide +kernel
theorem dX7_giver_96 : decode cX7_giver 96 = .ok (.iload_n 1, 1) := by decide +kernel
theorem dX7_giver_97 : decode cX7_giver 97 = .ok (.invokevirtual 169, 3) := by decide +kernel
theorem dX7_giver_100 : decode cX7_giver 100 = .ok (.ireturn, 1) := by decide +kernel
theorem dX7_giver_101 : decode cX7_giver 101 = .ok (.iconst (-1), 1) := by decide +kernel
theorem dX7_giver_102 : decode cX7_giver 102 = .ok (.ireturn, 1) := by decide +kernel
theorem dX7_given_0 : decode cX7_given 0 = .ok (.iconst 0, 1) := by decide +kernel
theorem dX7_given_1 : decode cX7_given 1 = .ok (.istore_n 2, 1) := by decide +kernel
theorem dX7_given_2 : decode cX7_given 2 = .ok (.iconst 0, 1) := by decide +kernel
theorem dX7_given_3 : decode cX7_given 3 = .ok (.istore_n 3, 1) := by decide +kernel
theorem dX7_given_4 : decode cX7_given 4 = .ok (.iload_n 3, 1) := by decide +kernel
theorem dX7_given_5 : decode cX7_given 5 = .ok (.aload_n 0, 1) := by decide +kernel
theorem dX7_given_6 : decode cX7_given 6 = .ok (.getfield 136, 3) := by decide +kernel
theorem dX7_given_9 : decode cX7_given 9 = .ok (.if_icmp .ge 34, 3) := by decide +kernel
theorem dX7_given_12 : decode cX7_given 12 = .ok (.iload_n 2, 1) := by decide +kernel
theorem dX7_given_13 : decode cX7_given 13 = .ok (.aload_n 0, 1) := by decide +kernel
theorem dX7_given_14 : decode cX7_given 14 = .ok (.getfield 7, 3) := by decide +kernel
theorem dX7_given_17 : decode cX7_given 17 = .ok (.bipush 8, 2) := by decide +kernel
theorem dX7_given_19 : decode cX7_given 19 = .ok (.iload_n 3, 1) := by decide +kernel
theorem dX7_given_20 : decode cX7_given 20 = .ok (.iadd, 1) := by decide +kernel
theorem dX7_given_21 : decode cX7_given 21 = .ok (.iaload, 1) := by decide +kernel
theorem dX7_given_22 : decode cX7_given 22 = .ok (.iload_n 1, 1) := by decide +kernel
theorem dX7_given_23 : decode cX7_given 23 = .ok (.if_icmp .ne 11, 3) := by decide +kernel
theorem dX7_given_26 : decode cX7_given 26 = .ok (.aload_n 0, 1) := by decide +kernel
theorem dX7_given_27 : decode cX7_given 27 = .ok (.iload_n 3, 1) := by decide +kernel
theorem dX7_given_28 : decode cX7_given 28 = .ok (.invokevirtual 169, 3) := by decide +kernel
theorem dX7_given_31 : decode cX7_given 31 = .ok (.goto 4, 3) := by decide +kernel
theorem dX7_given_34 : decode cX7_given 34 = .ok (.iconst 0, 1) := by decide +kernel
theorem dX7_given_35 : decode cX7_given 35 = .ok (.iadd, 1) := by decide +kernel
theorem dX7_given_36 : decode cX7_given 36 = .ok (.istore_n 2, 1) := by decide +kernel
theorem dX7_given_37 : decode cX7_given 37 = .ok (.iinc 3 1, 3) := by decide +kernel
theorem dX7_given_40 : decode cX7_given 40 = .ok (.goto (-36), 3) := by decide +kernel
theorem dX7_given_43 : decode cX7_given 43 = .ok (.iload_n 2, 1) := by decide +kernel
theorem dX7_given_44 : decode cX7_given 44 = .ok (.ireturn, 1) := by decide +kernel
theorem dX7_inBell_0 : decode cX7_inBell 0 = .ok (.aload_n 0, 1) := by decide +kernel
theorem dX7_inBell_1 : decode cX7_inBell 1 = .ok (.iload_n 1, 1) := by decide +kernel
theorem dX7_inBell_2 : decode cX7_inBell 2 = .ok (.invokevirtual 172, 3) := by decide +kernel
theorem dX7_inBell_5 : decode cX7_inBell 5 = .ok (.aload_n 0, 1) := by decide +kernel
theorem dX7_inBell_6 : decode cX7_inBell 6 = .ok (.getfield 7, 3) := by decide +kernel
theorem dX7_inBell_9 : decode cX7_inBell 9 = .ok (.bipush 21, 2) := by decide +kernel
theorem dX7_inBell_11 : decode cX7_inBell 11 = .ok (.iload_n 1, 1) := by decide +kernel
theorem dX7_inBell_12 : decode cX7_inBell 12 = .ok (.iadd, 1) := by decide +kernel
theorem dX7_inBell_13 : decode cX7_inBell 13 = .ok (.iaload, 1) := by decide +kernel
theorem dX7_inBell_14 : decode cX7_inBell 14 = .ok (.iadd, 1) := by decide +kernel
theorem dX7_inBell_15 : decode cX7_inBell 15 = .ok (.aload_n 0, 1) := by decide +kernel
theorem dX7_inBell_16 : decode cX7_inBell 16 = .ok (.getfield 7, 3) := by decide +kernel
theorem dX7_inBell_19 : decode cX7_inBell 19 = .ok (.bipush 27, 2) := by decide +kernel
theorem dX7_inBell_21 : decode cX7_inBell 21 = .ok (.iload_n 1, 1) := by decide +kernel
theorem dX7_inBell_22 : decode cX7_inBell 22 = .ok (.iadd, 1) := by decide +kernel
theorem dX7_inBell_23 : decode cX7_inBell 23 = .ok (.iaload, 1) := by decide +kernel
theorem dX7_inBell_24 : decode cX7_inBell 24 = .ok (.isub, 1) := by decide +kernel
theorem dX7_inBell_25 : decode cX7_inBell 25 = .ok (.istore_n 2, 1) := by decide +kernel
theorem dX7_inBell_26 : decode cX7_inBell 26 = .ok (.iload_n 2, 1) := by decide +kernel
theorem dX7_inBell_27 : decode cX7_inBell 27 = .ok (.ifCond .ge 7, 3) := by decide +kernel
theorem dX7_inBell_30 : decode cX7_inBell 30 = .ok (.iconst 0, 1) := by decide +kernel
theorem dX7_inBell_31 : decode cX7_inBell 31 = .ok (.goto 4, 3) := by decide +kernel
theorem dX7_inBell_34 : decode cX7_inBell 34 = .ok (.iload_n 2, 1) := by decide +kernel
theorem dX7_inBell_35 : decode cX7_inBell 35 = .ok (.ireturn, 1) := by decide +kernel
theorem dX7_weight_0 : decode cX7_weight 0 = .ok (.aload_n 0, 1) := by decide +kernel
theorem dX7_weight_1 : decode cX7_weight 1 = .ok (.iconst 0, 1) := by decide +kernel
theorem dX7_weight_2 : decode cX7_weight 2 = .ok (.invokevirtual 175, 3) := by decide +kernel
theorem dX7_weight_5 : decode cX7_weight 5 = .ok (.aload_n 0, 1) := by decide +kernel
theorem dX7_weight_6 : decode cX7_weight 6 = .ok (.iconst 1, 1) := by decide +kernel
theorem dX7_weight_7 : decode cX7_weight 7 = .ok (.invokevirtual 175, 3) := by decide +kernel
theorem dX7_weight_10 : decode cX7_weight 10 = .ok (.iadd, 1) := by decide +kernel
theorem dX7_weight_11 : decode cX7_weight 11 = .ok (.aload_n 0, 1) := by decide +kernel
theorem dX7_weight_12 : decode cX7_weight 12 = .ok (.iconst 2, 1) := by decide +kernel
theorem dX7_weight_13 : decode cX7_weight 13 = .ok (.invokevirtual 175, 3) := by decide +kernel
theorem dX7_weight_16 : decode cX7_weight 16 = .ok (.iadd, 1) := by decide +kernel
theorem dX7_weight_17 : decode cX7_weight 17 = .ok (.ireturn, 1) := by decide +kernel
theorem dX7_note_0 : decode cX7_note 0 = .ok (.aload_n 0, 1) := by decide +kernel
theorem dX7_note_1 : decode cX7_note 1 = .ok (.invokevirtual 178, 3) := by decide +kernel
theorem dX7_note_4 : decode cX7_note 4 = .ok (.istore_n 1, 1) := by decide +kernel
theorem dX7_note_5 : decode cX7_note 5 = .ok (.iload_n 1, 1) := by decide +kernel
theorem dX7_note_6 : decode cX7_note 6 = .ok (.ifCond .ne 8, 3) := by decide +kernel
theorem dX7_note_9 : decode cX7_note 9 = .ok (.bipush (-4), 2) := by decide +kernel
theorem dX7_note_11 : decode cX7_note 11 = .ok (.goto 30, 3) := by decide +kernel
theorem dX7_note_14 : decode cX7_note 14 = .ok (.bipush 12, 2) := by decide +kernel
theorem dX7_note_16 : decode cX7_note 16 = .ok (.aload_n 0, 1) := by decide +kernel
theorem dX7_note_17 : decode cX7_note 17 = .ok (.iconst 0, 1) := by decide +kernel
theorem dX7_note_18 : decode cX7_note 18 = .ok (.invokevirtual 175, 3) := by decide +kernel
theorem dX7_note_21 : decode cX7_note 21 = .ok (.imul, 1) := by decide +kernel
theorem dX7_note_22 : decode cX7_note 22 = .ok (.bipush 6, 2) := by decide +kernel
theorem dX7_note_24 : decode cX7_note 24 = .ok (.aload_n 0, 1) := by decide +kernel
theorem dX7_note_25 : decode cX7_note 25 = .ok (.iconst 1, 1) := by decide +kernel
theorem dX7_note_26 : decode cX7_note 26 = .ok (.invokevirtual 175, 3) := by decide +kernel
theorem dX7_note_29 : decode cX7_note 29 = .ok (.imul, 1) := by decide +kernel
theorem dX7_note_30 : decode cX7_note 30 = .ok (.iadd, 1) := by decide +kernel
theorem dX7_note_31 : decode cX7_note 31 = .ok (.iconst 3, 1) := by decide +kernel
theorem dX7_note_32 : decode cX7_note 32 = .ok (.aload_n 0, 1) := by decide +kernel
theorem dX7_note_33 : decode cX7_note 33 = .ok (.iconst 2, 1) := by decide +kernel
theorem dX7_note_34 : decode cX7_note 34 = .ok (.invokevirtual 175, 3) := by decide +kernel
theorem dX7_note_37 : decode cX7_note 37 = .ok (.imul, 1) := by decide +kernel
theorem dX7_note_38 : decode cX7_note 38 = .ok (.iadd, 1) := by decide +kernel
theorem dX7_note_39 : decode cX7_note 39 = .ok (.iload_n 1, 1) := by decide +kernel
theorem dX7_note_40 : decode cX7_note 40 = .ok (.idiv, 1) := by decide +kernel
theorem dX7_note_41 : decode cX7_note 41 = .ok (.ireturn, 1) := by decide +kernel
theorem dX7_sweet_0 : decode cX7_sweet 0 = .ok (.aload_n 0, 1) := by decide +kernel
theorem dX7_sweet_1 : decode cX7_sweet 1 = .ok (.invokevirtual 178, 3) := by decide +kernel
theorem dX7_sweet_4 : decode cX7_sweet 4 = .ok (.istore_n 1, 1) := by decide +kernel
theorem dX7_sweet_5 : decode cX7_sweet 5 = .ok (.iload_n 1, 1) := by decide +kernel
theorem dX7_sweet_6 : decode cX7_sweet 6 = .ok (.ifCond .ne 7, 3) := by decide +kernel
theorem dX7_sweet_9 : decode cX7_sweet 9 = .ok (.iconst 0, 1) := by decide +kernel
theorem dX7_sweet_10 : decode cX7_sweet 10 = .ok (.goto 13, 3) := by decide +kernel
theorem dX7_sweet_13 : decode cX7_sweet 13 = .ok (.bipush 10, 2) := by decide +kernel
theorem dX7_sweet_15 : decode cX7_sweet 15 = .ok (.aload_n 0, 1) := by decide +kernel
theorem dX7_sweet_16 : decode cX7_sweet 16 = .ok (.iconst 2, 1) := by decide +kernel
theorem dX7_sweet_17 : decode cX7_sweet 17 = .ok (.invokevirtual 175, 3) := by decide +kernel
theorem dX7_sweet_20 : decode cX7_sweet 20 = .ok (.imul, 1) := by decide +kernel
theorem dX7_sweet_21 : decode cX7_sweet 21 = .ok (.iload_n 1, 1) := by decide +kernel
theorem dX7_sweet_22 : decode cX7_sweet 22 = .ok (.idiv, 1) := by decide +kernel
theorem dX7_sweet_23 : decode cX7_sweet 23 = .ok (.ireturn, 1) := by decide +kernel
theorem dX7_rings_0 : decode cX7_rings 0 = .ok (.aload_n 0, 1) := by decide +kernel
theorem dX7_rings_1 : decode cX7_rings 1 = .ok (.invokevirtual 181, 3) := by decide +kernel
theorem dX7_rings_4 : decode cX7_rings 4 = .ok (.aload_n 0, 1) := by decide +kernel
theorem dX7_rings_5 : decode cX7_rings 5 = .ok (.invokevirtual 144, 3) := by decide +kernel
theorem dX7_rings_8 : decode cX7_rings 8 = .ok (.if_icmp .ne 21, 3) := by decide +kernel
theorem dX7_rings_11 : decode cX7_rings 11 = .ok (.aload_n 0, 1) := by decide +kernel
theorem dX7_rings_12 : decode cX7_rings 12 = .ok (.invokevirtual 184, 3) := by decide +kernel
theorem dX7_rings_15 : decode cX7_rings 15 = .ok (.aload_n 0, 1) := by decide +kernel
theorem dX7_rings_16 : decode cX7_rings 16 = .ok (.getfield 7, 3) := by decide +kernel
theorem dX7_rings_19 : decode cX7_rings 19 = .ok (.bipush 25, 2) := by decide +kernel
theorem dX7_rings_21 : decode cX7_rings 21 = .ok (.iaload, 1) := by decide +kernel
theorem dX7_rings_22 : decode cX7_rings 22 = .ok (.if_icmp .lt 7, 3) := by decide +kernel
theorem dX7_rings_25 : decode cX7_rings 25 = .ok (.iconst 1, 1) := by decide +kernel
theorem dX7_rings_26 : decode cX7_rings 26 = .ok (.goto 4, 3) := by decide +kernel
theorem dX7_rings_29 : decode cX7_rings 29 = .ok (.iconst 0, 1) := by decide +kernel
theorem dX7_rings_30 : decode cX7_rings 30 = .ok (.ireturn, 1) := by decide +kernel
theorem dX7_metal_0 : decode cX7_metal 0 = .ok (.iload_n 1, 1) := by decide +kernel
theorem dX7_metal_1 : decode cX7_metal 1 = .ok (.iconst 3, 1) := by decide +kernel
theorem dX7_metal_2 : decode cX7_metal 2 = .ok (.if_icmp .ne 13, 3) := by decide +kernel
theorem dX7_metal_5 : decode cX7_metal 5 = .ok (.iload_n 2, 1) := by decide +kernel
theorem dX7_metal_6 : decode cX7_metal 6 = .ok (.ifCond .ne 9, 3) := by decide +kernel
theorem dX7_metal_9 : decode cX7_metal 9 = .ok (.aload_n 0, 1) := by decide +kernel
theorem dX7_metal_10 : decode cX7_metal 10 = .ok (.iconst 3, 1) := by decide +kernel
theorem dX7_metal_11 : decode cX7_metal 11 = .ok (.invokevirtual 172, 3) := by decide +kernel
theorem dX7_metal_14 : decode cX7_metal 14 = .ok (.ireturn, 1) := by decide +kernel
theorem dX7_metal_15 : decode cX7_metal 15 = .ok (.iload_n 1, 1) := by decide +kernel
theorem dX7_metal_16 : decode cX7_metal 16 = .ok (.invokestatic 187, 3) := by decide +kernel
theorem dX7_metal_19 : decode cX7_metal 19 = .ok (.ifCond .eq 15, 3) := by decide +kernel
theorem dX7_metal_22 : decode cX7_metal 22 = .ok (.iload_n 2, 1) := by decide +kernel
theorem dX7_metal_23 : decode cX7_metal 23 = .ok (.i2l, 1) := by decide +kernel
theorem dX7_metal_24 : decode cX7_metal 24 = .ok (.lconst 0, 1) := by decide +kernel
theorem dX7_metal_25 : decode cX7_metal 25 = .ok (.ldc2_w 142, 3) := by decide +kernel
theorem dX7_metal_28 : decode cX7_metal 28 = .ok (.invokestatic 50, 3) := by decide +kernel
theorem dX7_metal_31 : decode cX7_metal 31 = .ok (.ifCond .ne 5, 3) := by decide +kernel
theorem dX7_metal_34 : decode cX7_metal 34 = .ok (.iconst (-1), 1) := by decide +kernel
theorem dX7_metal_35 : decode cX7_metal 35 = .ok (.ireturn, 1) := by decide +kernel
theorem dX7_metal_36 : decode cX7_metal 36 = .ok (.iload_n 2, 1) := by decide +kernel
theorem dX7_metal_37 : decode cX7_metal 37 = .ok (.ifCond .ne 11, 3) := by decide +kernel
theorem dX7_metal_40 : decode cX7_metal 40 = .ok (.aload_n 0, 1) := by decide +kernel
theorem dX7_metal_41 : decode cX7_metal 41 = .ok (.iload_n 1, 1) := by decide +kernel
theorem dX7_metal_42 : decode cX7_metal 42 = .ok (.invokevirtual 175, 3) := by decide +kernel
theorem dX7_metal_45 : decode cX7_metal 45 = .ok (.goto 29, 3) := by decide +kernel
theorem dX7_metal_48 : decode cX7_metal 48 = .ok (.iload_n 2, 1) := by decide +kernel
theorem dX7_metal_49 : decode cX7_metal 49 = .ok (.iconst 1, 1) := by decide +kernel
theorem dX7_metal_50 : decode cX7_metal 50 = .ok (.if_icmp .ne 15, 3) := by decide +kernel
theorem dX7_metal_53 : decode cX7_metal 53 = .ok (.aload_n 0, 1) := by decide +kernel
theorem dX7_metal_54 : decode cX7_metal 54 = .ok (.getfield 7, 3) := by decide +kernel
theorem dX7_metal_57 : decode cX7_metal 57 = .ok (.bipush 21, 2) := by decide +kernel
theorem dX7_metal_59 : decode cX7_metal 59 = .ok (.iload_n 1, 1) := by decide +kernel
theorem dX7_metal_60 : decode cX7_metal 60 = .ok (.iadd, 1) := by decide +kernel
theorem dX7_metal_61 : decode cX7_metal 61 = .ok (.iaload, 1) := by decide +kernel
theorem dX7_metal_62 : decode cX7_metal 62 = .ok (.goto 12, 3) := by decide +kernel
theorem dX7_metal_65 : decode cX7_metal 65 = .ok (.aload_n 0, 1) := by decide +kernel
theorem dX7_metal_66 : decode cX7_metal 66 = .ok (.getfield 7, 3) := by decide +kernel
theorem dX7_metal_69 : decode cX7_metal 69 = .ok (.bipush 27, 2) := by decide +kernel
theorem dX7_metal_71 : decode cX7_metal 71 = .ok (.iload_n 1, 1) := by decide +kernel
theorem dX7_metal_72 : decode cX7_metal 72 = .ok (.iadd, 1) := by decide +kernel
theorem dX7_metal_73 : decode cX7_metal 73 = .ok (.iaload, 1) := by decide +kernel
theorem dX7_metal_74 : decode cX7_metal 74 = .ok (.ireturn, 1) := by decide +kernel
theorem dX7_flaws_0 : decode cX7_flaws 0 = .ok (.iconst 0, 1) := by decide +kernel
theorem dX7_flaws_1 : decode cX7_flaws 1 = .ok (.istore_n 1, 1) := by decide +kernel
theorem dX7_flaws_2 : decode cX7_flaws 2 = .ok (.iconst 0, 1) := by decide +kernel
theorem dX7_flaws_3 : decode cX7_flaws 3 = .ok (.istore_n 2, 1) := by decide +kernel
theorem dX7_flaws_4 : decode cX7_flaws 4 = .ok (.iload_n 2, 1) := by decide +kernel
theorem dX7_flaws_5 : decode cX7_flaws 5 = .ok (.aload_n 0, 1) := by decide +kernel
theorem dX7_flaws_6 : decode cX7_flaws 6 = .ok (.getfield 136, 3) := by decide +kernel
theorem dX7_flaws_9 : decode cX7_flaws 9 = .ok (.if_icmp .ge 32, 3) := by decide +kernel
theorem dX7_flaws_12 : decode cX7_flaws 12 = .ok (.iload_n 1, 1) := by decide +kernel
theorem dX7_flaws_13 : decode cX7_flaws 13 = .ok (.aload_n 0, 1) := by decide +kernel
theorem dX7_flaws_14 : decode cX7_flaws 14 = .ok (.iload_n 2, 1) := by decide +kernel
theorem dX7_flaws_15 : decode cX7_flaws 15 = .ok (.invokevirtual 169, 3) := by decide +kernel
theorem dX7_flaws_18 : decode cX7_flaws 18 = .ok (.aload_n 0, 1) := by decide +kernel
theorem dX7_flaws_19 : decode cX7_flaws 19 = .ok (.iload_n 2, 1) := by decide +kernel
theorem dX7_flaws_20 : decode cX7_flaws 20 = .ok (.invokevirtual 153, 3) := by decide +kernel
theorem dX7_flaws_23 : decode cX7_flaws 23 = .ok (.if_icmp .ge 9, 3) := by decide +kernel
theorem dX7_flaws_26 : decode cX7_flaws 26 = .ok (.iconst 1, 1) := by decide +kernel
theorem dX7_flaws_27 : decode cX7_flaws 27 = .ok (.iload_n 2, 1) := by decide +kernel
theorem dX7_flaws_28 : decode cX7_flaws 28 = .ok (.ishl, 1) := by decide +kernel
theorem dX7_flaws_29 : decode cX7_flaws 29 = .ok (.goto 4, 3) := by decide +kernel
theorem dX7_flaws_32 : decode cX7_flaws 32 = .ok (.iconst 0, 1) := by decide +kernel
theorem dX7_flaws_33 : decode cX7_flaws 33 = .ok (.ior, 1) := by decide +kernel
theorem dX7_flaws_34 : decode cX7_flaws 34 = .ok (.istore_n 1, 1) := by decide +kernel
theorem dX7_flaws_35 : decode cX7_flaws 35 = .ok (.iinc 2 1, 3) := by decide +kernel
theorem dX7_flaws_38 : decode cX7_flaws 38 = .ok (.goto (-34), 3) := by decide +kernel
theorem dX7_flaws_41 : decode cX7_flaws 41 = .ok (.iload_n 1, 1) := by decide +kernel
theorem dX7_flaws_42 : decode cX7_flaws 42 = .ok (.ireturn, 1) := by decide +kernel
theorem dX7_bell_0 : decode cX7_bell 0 = .ok (.iload_n 1, 1) := by decide +kernel
theorem dX7_bell_1 : decode cX7_bell 1 = .ok (.tableswitch 68 0 4 #[35, 40, 45, 50, 63], 35) := by decide +kernel
theorem dX7_bell_36 : decode cX7_bell 36 = .ok (.aload_n 0, 1) := by decide +kernel
theorem dX7_bell_37 : decode cX7_bell 37 = .ok (.invokevirtual 178, 3) := by decide +kernel
theorem dX7_bell_40 : decode cX7_bell 40 = .ok (.ireturn, 1) := by decide +kernel
theorem dX7_bell_41 : decode cX7_bell 41 = .ok (.aload_n 0, 1) := by decide +kernel
theorem dX7_bell_42 : decode cX7_bell 42 = .ok (.invokevirtual 181, 3) := by decide +kernel
theorem dX7_bell_45 : decode cX7_bell 45 = .ok (.ireturn, 1) := by decide +kernel
theorem dX7_bell_46 : decode cX7_bell 46 = .ok (.aload_n 0, 1) := by decide +kernel
theorem dX7_bell_47 : decode cX7_bell 47 = .ok (.invokevirtual 184, 3) := by decide +kernel
theorem dX7_bell_50 : decode cX7_bell 50 = .ok (.ireturn, 1) := by decide +kernel
theorem dX7_bell_51 : decode cX7_bell 51 = .ok (.aload_n 0, 1) := by decide +kernel
theorem dX7_bell_52 : decode cX7_bell 52 = .ok (.invokevirtual 190, 3) := by decide +kernel
theorem dX7_bell_55 : decode cX7_bell 55 = .ok (.ifCond .eq 7, 3) := by decide +kernel
theorem dX7_bell_58 : decode cX7_bell 58 = .ok (.iconst 1, 1) := by decide +kernel
theorem dX7_bell_59 : decode cX7_bell 59 = .ok (.goto 4, 3) := by decide +kernel
theorem dX7_bell_62 : decode cX7_bell 62 = .ok (.iconst 0, 1) := by decide +kernel
theorem dX7_bell_63 : decode cX7_bell 63 = .ok (.ireturn, 1) := by decide +kernel
theorem dX7_bell_64 : decode cX7_bell 64 = .ok (.aload_n 0, 1) := by decide +kernel
theorem dX7_bell_65 : decode cX7_bell 65 = .ok (.invokevirtual 194, 3) := by decide +kernel
theorem dX7_bell_68 : decode cX7_bell 68 = .ok (.ireturn, 1) := by decide +kernel
theorem dX7_bell_69 : decode cX7_bell 69 = .ok (.iconst (-1), 1) := by decide +kernel
theorem dX7_bell_70 : decode cX7_bell 70 = .ok (.ireturn, 1) := by decide +kernel
theorem dX7_taps_0 : decode cX7_taps 0 = .ok (.iload_n 1, 1) := by decide +kernel
theorem dX7_taps_1 : decode cX7_taps 1 = .ok (.aload_n 0, 1) := by decide +kernel
theorem dX7_taps_2 : decode cX7_taps 2 = .ok (.invokevirtual 178, 3) := by decide +kernel
theorem dX7_taps_5 : decode cX7_taps 5 = .ok (.imul, 1) := by decide +kernel
theorem dX7_taps_6 : decode cX7_taps 6 = .ok (.istore_n 2, 1) := by decide +kernel
theorem dX7_taps_7 : decode cX7_taps 7 = .ok (.iconst 0, 1) := by decide +kernel
theorem dX7_taps_8 : decode cX7_taps 8 = .ok (.istore_n 3, 1) := by decide +kernel
theorem dX7_taps_9 : decode cX7_taps 9 = .ok (.iload_n 3, 1) := by decide +kernel
theorem dX7_taps_10 : decode cX7_taps 10 = .ok (.aload_n 0, 1) := by decide +kernel
theorem dX7_taps_11 : decode cX7_taps 11 = .ok (.getfield 136, 3) := by decide +kernel
theorem dX7_taps_14 : decode cX7_taps 14 = .ok (.if_icmp .ge 25, 3) := by decide +kernel
theorem dX7_taps_17 : decode cX7_taps 17 = .ok (.iload_n 2, 1) := by decide +kernel
theorem dX7_taps_18 : decode cX7_taps 18 = .ok (.aload_n 0, 1) := by decide +kernel
theorem dX7_taps_19 : decode cX7_taps 19 = .ok (.iload_n 3, 1) := by decide +kernel
theorem dX7_taps_20 : decode cX7_taps 20 = .ok (.invokevirtual 169, 3) := by decide +kernel
theorem dX7_taps_23 : decode cX7_taps 23 = .ok (.iconst 1, 1) := by decide +kernel
theorem dX7_taps_24 : decode cX7_taps 24 = .ok (.iload_n 1, 1) := by decide +kernel
theorem dX7_taps_25 : decode cX7_taps 25 = .ok (.iload_n 3, 1) := by decide +kernel
theorem dX7_taps_26 : decode cX7_taps 26 = .ok (.iadd, 1) := by decide +kernel
theorem dX7_taps_27 : decode cX7_taps 27 = .ok (.iconst 3, 1) := by decide +kernel
theorem dX7_taps_28 : decode cX7_taps 28 = .ok (.irem, 1) := by decide +kernel
theorem dX7_taps_29 : decode cX7_taps 29 = .ok (.iadd, 1) := by decide +kernel
theorem dX7_taps_30 : decode cX7_taps 30 = .ok (.imul, 1) := by decide +kernel
theorem dX7_taps_31 : decode cX7_taps 31 = .ok (.iadd, 1) := by decide +kernel
theorem dX7_taps_32 : decode cX7_taps 32 = .ok (.istore_n 2, 1) := by decide +kernel
theorem dX7_taps_33 : decode cX7_taps 33 = .ok (.iinc 3 1, 3) := by decide +kernel
theorem dX7_taps_36 : decode cX7_taps 36 = .ok (.goto (-27), 3) := by decide +kernel
theorem dX7_taps_39 : decode cX7_taps 39 = .ok (.iload_n 2, 1) := by decide +kernel
theorem dX7_taps_40 : decode cX7_taps 40 = .ok (.bipush 10, 2) := by decide +kernel
theorem dX7_taps_42 : decode cX7_taps 42 = .ok (.irem, 1) := by decide +kernel
theorem dX7_taps_43 : decode cX7_taps 43 = .ok (.ireturn, 1) := by decide +kernel
theorem dX7_tap_0 : decode cX7_tap 0 = .ok (.iload_n 1, 1) := by decide +kernel
theorem dX7_tap_1 : decode cX7_tap 1 = .ok (.i2l, 1) := by decide +kernel
theorem dX7_tap_2 : decode cX7_tap 2 = .ok (.lconst 0, 1) := by decide +kernel
theorem dX7_tap_3 : decode cX7_tap 3 = .ok (.ldc2_w 197, 3) := by decide +kernel
theorem dX7_tap_6 : decode cX7_tap 6 = .ok (.invokestatic 50, 3) := by decide +kernel
theorem dX7_tap_9 : decode cX7_tap 9 = .ok (.ifCond .eq 11, 3) := by decide +kernel
theorem dX7_tap_12 : decode cX7_tap 12 = .ok (.aload_n 0, 1) := by decide +kernel
theorem dX7_tap_13 : decode cX7_tap 13 = .ok (.iload_n 1, 1) := by decide +kernel
theorem dX7_tap_14 : decode cX7_tap 14 = .ok (.invokevirtual 199, 3) := by decide +kernel
theorem dX7_tap_17 : decode cX7_tap 17 = .ok (.goto 4, 3) := by decide +kernel
theorem dX7_tap_20 : decode cX7_tap 20 = .ok (.iconst (-1), 1) := by decide +kernel
theorem dX7_tap_21 : decode cX7_tap 21 = .ok (.ireturn, 1) := by decide +kernel
theorem dX7_puts_0 : decode cX7_puts 0 = .ok (.iload_n 1, 1) := by decide +kernel
theorem dX7_puts_1 : decode cX7_puts 1 = .ok (.ifCond .ne 5, 3) := by decide +kernel
theorem dX7_puts_4 : decode cX7_puts 4 = .ok (.iconst (-1), 1) := by decide +kernel
theorem dX7_puts_5 : decode cX7_puts 5 = .ok (.ireturn, 1) := by decide +kernel
theorem dX7_puts_6 : decode cX7_puts 6 = .ok (.aload_n 0, 1) := by decide +kernel
theorem dX7_puts_7 : decode cX7_puts 7 = .ok (.getfield 7, 3) := by decide +kernel
theorem dX7_puts_10 : decode cX7_puts 10 = .ok (.iload_n 2, 1) := by decide +kernel
theorem dX7_puts_11 : decode cX7_puts 11 = .ok (.iaload, 1) := by decide +kernel
theorem dX7_puts_12 : decode cX7_puts 12 = .ok (.iload 4, 2) := by decide +kernel
theorem dX7_puts_14 : decode cX7_puts 14 = .ok (.iadd, 1) := by decide +kernel
theorem dX7_puts_15 : decode cX7_puts 15 = .ok (.istore 5, 2) := by decide +kernel
theorem dX7_puts_17 : decode cX7_puts 17 = .ok (.aload_n 0, 1) := by decide +kernel
theorem dX7_puts_18 : decode cX7_puts 18 = .ok (.getfield 7, 3) := by decide +kernel
theorem dX7_puts_21 : decode cX7_puts 21 = .ok (.iload_n 2, 1) := by decide +kernel
theorem dX7_puts_22 : decode cX7_puts 22 = .ok (.iload_n 3, 1) := by decide +kernel
theorem dX7_puts_23 : decode cX7_puts 23 = .ok (.iload 4, 2) := by decide +kernel
theorem dX7_puts_25 : decode cX7_puts 25 = .ok (.isub, 1) := by decide +kernel
theorem dX7_puts_26 : decode cX7_puts 26 = .ok (.iastore, 1) := by decide +kernel
theorem dX7_puts_27 : decode cX7_puts 27 = .ok (.iload 5, 2) := by decide +kernel
theorem dX7_puts_29 : decode cX7_puts 29 = .ok (.ireturn, 1) := by decide +kernel
theorem dX7_alter_0 : decode cX7_alter 0 = .ok (.aload_n 0, 1) := by decide +kernel
theorem dX7_alter_1 : decode cX7_alter 1 = .ok (.iload_n 1, 1) := by decide +kernel
theorem dX7_alter_2 : decode cX7_alter 2 = .ok (.invokevirtual 165, 3) := by decide +kernel
theorem dX7_alter_5 : decode cX7_alter 5 = .ok (.ifCond .ne 5, 3) := by decide +kernel
theorem dX7_alter_8 : decode cX7_alter 8 = .ok (.iconst (-1), 1) := by decide +kernel
theorem dX7_alter_9 : decode cX7_alter 9 = .ok (.ireturn, 1) := by decide +kernel
theorem dX7_alter_10 : decode cX7_alter 10 = .ok (.iload_n 2, 1) := by decide +kernel
theorem dX7_alter_11 : decode cX7_alter 11 = .ok (.tableswitch 104 0 5 #[37, 58, 37, 37, 77, 84], 37) := by decide +kernel
theorem dX7_alter_48 : decode cX7_alter 48 = .ok (.aload_n 0, 1) := by decide +kernel
theorem dX7_alter_49 : decode cX7_alter 49 = .ok (.iload_n 3, 1) := by decide +kernel
theorem dX7_alter_50 : decode cX7_alter 50 = .ok (.i2l, 1) := by decide +kernel
theorem dX7_alter_51 : decode cX7_alter 51 = .ok (.lconst 0, 1) := by decide +kernel
theorem dX7_alter_52 : decode cX7_alter 52 = .ok (.ldc2_w 202, 3) := by decide +kernel
theorem dX7_alter_55 : decode cX7_alter 55 = .ok (.invokestatic 50, 3) := by decide +kernel
theorem dX7_alter_58 : decode cX7_alter 58 = .ok (.iconst 4, 1) := by decide +kernel
theorem dX7_alter_59 : decode cX7_alter 59 = .ok (.iload_n 2, 1) := by decide +kernel
theorem dX7_alter_60 : decode cX7_alter 60 = .ok (.imul, 1) := by decide +kernel
theorem dX7_alter_61 : decode cX7_alter 61 = .ok (.iload_n 1, 1) := by decide +kernel
theorem dX7_alter_62 : decode cX7_alter 62 = .ok (.iadd, 1) := by decide +kernel
theorem dX7_alter_63 : decode cX7_alter 63 = .ok (.iload_n 3, 1) := by decide +kernel
theorem dX7_alter_64 : decode cX7_alter 64 = .ok (.iconst 0, 1) := by decide +kernel
theorem dX7_alter_65 : decode cX7_alter 65 = .ok (.invokevirtual 204, 3) := by decide +kernel
theorem dX7_alter_68 : decode cX7_alter 68 = .ok (.ireturn, 1) := by decide +kernel
theorem dX7_alter_69 : decode cX7_alter 69 = .ok (.aload_n 0, 1) := by decide +kernel
theorem dX7_alter_70 : decode cX7_alter 70 = .ok (.iload_n 3, 1) := by decide +kernel
theorem dX7_alter_71 : decode cX7_alter 71 = .ok (.i2l, 1) := by decide +kernel
theorem dX7_alter_72 : decode cX7_alter 72 = .ok (.lconst 0, 1) := by decide +kernel
theorem dX7_alter_73 : decode cX7_alter 73 = .ok (.ldc2_w 208, 3) := by decide +kernel
theorem dX7_alter_76 : decode cX7_alter 76 = .ok (.invokestatic 50, 3) := by decide +kernel
theorem dX7_alter_79 : decode cX7_alter 79 = .ok (.iconst 4, 1) := by decide +kernel
theorem dX7_alter_80 : decode cX7_alter 80 = .ok (.iload_n 1, 1) := by decide +kernel
theorem dX7_alter_81 : decode cX7_alter 81 = .ok (.iadd, 1) := by decide +kernel
theorem dX7_alter_82 : decode cX7_alter 82 = .ok (.iload_n 3, 1) := by decide +kernel
theorem dX7_alter_83 : decode cX7_alter 83 = .ok (.iconst 0, 1) := by decide +kernel
theorem dX7_alter_84 : decode cX7_alter 84 = .ok (.invokevirtual 204, 3) := by decide +kernel
theorem dX7_alter_87 : decode cX7_alter 87 = .ok (.ireturn, 1) := by decide +kernel
theorem dX7_alter_88 : decode cX7_alter 88 = .ok (.aload_n 0, 1) := by decide +kernel
theorem dX7_alter_89 : decode cX7_alter 89 = .ok (.iload_n 1, 1) := by decide +kernel
theorem dX7_alter_90 : decode cX7_alter 90 = .ok (.iload_n 3, 1) := by decide +kernel
theorem dX7_alter_91 : decode cX7_alter 91 = .ok (.invokevirtual 210, 3) := by decide +kernel
theorem dX7_alter_94 : decode cX7_alter 94 = .ok (.ireturn, 1) := by decide +kernel
theorem dX7_alter_95 : decode cX7_alter 95 = .ok (.aload_n 0, 1) := by decide +kernel
theorem dX7_alter_96 : decode cX7_alter 96 = .ok (.iload_n 3, 1) := by decide +kernel
theorem dX7_alter_97 : decode cX7_alter 97 = .ok (.i2l, 1) := by decide +kernel
theorem dX7_alter_98 : decode cX7_alter 98 = .ok (.lconst 0, 1) := by decide +kernel
theorem dX7_alter_99 : decode cX7_alter 99 = .ok (.ldc2_w 208, 3) := by decide +kernel
theorem dX7_alter_102 : decode cX7_alter 102 = .ok (.invokestatic 50, 3) := by decide +kernel
theorem dX7_alter_105 : decode cX7_alter 105 = .ok (.bipush 16, 2) := by decide +kernel
theorem dX7_alter_107 : decode cX7_alter 107 = .ok (.iload_n 1, 1) := by decide +kernel
theorem dX7_alter_108 : decode cX7_alter 108 = .ok (.iadd, 1) := by decide +kernel
theorem dX7_alter_109 : decode cX7_alter 109 = .ok (.iload_n 3, 1) := by decide +kernel
theorem dX7_alter_110 : decode cX7_alter 110 = .ok (.iconst 0, 1) := by decide +kernel
theorem dX7_alter_111 : decode cX7_alter 111 = .ok (.invokevirtual 204, 3) := by decide +kernel
theorem dX7_alter_114 : decode cX7_alter 114 = .ok (.ireturn, 1) := by decide +kernel
theorem dX7_alter_115 : decode cX7_alter 115 = .ok (.iconst (-1), 1) := by decide +kernel
theorem dX7_alter_116 : decode cX7_alter 116 = .ok (.ireturn, 1) := by decide +kernel
theorem dX7_sorrows_0 : decode cX7_sorrows 0 = .ok (.iload_n 2, 1) := by decide +kernel
theorem dX7_sorrows_1 : decode cX7_sorrows 1 = .ok (.i2l, 1) := by decide +kernel
theorem dX7_sorrows_2 : decode cX7_sorrows 2 = .ok (.lconst 0, 1) := by decide +kernel
theorem dX7_sorrows_3 : decode cX7_sorrows 3 = .ok (.lconst 1, 1) := by decide +kernel
theorem dX7_sorrows_4 : decode cX7_sorrows 4 = .ok (.invokestatic 50, 3) := by decide +kernel
theorem dX7_sorrows_7 : decode cX7_sorrows 7 = .ok (.ifCond .ne 5, 3) := by decide +kernel
theorem dX7_sorrows_10 : decode cX7_sorrows 10 = .ok (.iconst (-1), 1) := by decide +kernel
theorem dX7_sorrows_11 : decode cX7_sorrows 11 = .ok (.ireturn, 1) := by decide +kernel
theorem dX7_sorrows_12 : decode cX7_sorrows 12 = .ok (.aload_n 0, 1) := by decide +kernel
theorem dX7_sorrows_13 : decode cX7_sorrows 13 = .ok (.getfield 7, 3) := by decide +kernel
theorem dX7_sorrows_16 : decode cX7_sorrows 16 = .ok (.bipush 20, 2) := by decide +kernel
theorem dX7_sorrows_18 : decode cX7_sorrows 18 = .ok (.iaload, 1) := by decide +kernel
theorem dX7_sorrows_19 : decode cX7_sorrows 19 = .ok (.iload_n 1, 1) := by decide +kernel
theorem dX7_sorrows_20 : decode cX7_sorrows 20 = .ok (.ishr, 1) := by decide +kernel
theorem dX7_sorrows_21 : decode cX7_sorrows 21 = .ok (.iconst 1, 1) := by decide +kernel
theorem dX7_sorrows_22 : decode cX7_sorrows 22 = .ok (.iand, 1) := by decide +kernel
theorem dX7_sorrows_23 : decode cX7_sorrows 23 = .ok (.istore_n 3, 1) := by decide +kernel
theorem dX7_sorrows_24 : decode cX7_sorrows 24 = .ok (.aload_n 0, 1) := by decide +kernel
theorem dX7_sorrows_25 : decode cX7_sorrows 25 = .ok (.getfield 7, 3) := by decide +kernel
theorem dX7_sorrows_28 : decode cX7_sorrows 28 = .ok (.bipush 20, 2) := by decide +kernel
theorem dX7_sorrows_30 : decode cX7_sorrows 30 = .ok (.aload_n 0, 1) := by decide +kernel
theorem dX7_sorrows_31 : decode cX7_sorrows 31 = .ok (.getfield 7, 3) := by decide +kernel
theorem dX7_sorrows_34 : decode cX7_sorrows 34 = .ok (.bipush 20, 2) := by decide +kernel
theorem dX7_sorrows_36 : decode cX7_sorrows 36 = .ok (.iaload, 1) := by decide +kernel
theorem dX7_sorrows_37 : decode cX7_sorrows 37 = .ok (.iconst 1, 1) := by decide +kernel
theorem dX7_sorrows_38 : decode cX7_sorrows 38 = .ok (.iload_n 1, 1) := by decide +kernel
theorem dX7_sorrows_39 : decode cX7_sorrows 39 = .ok (.ishl, 1) := by decide +kernel
theorem dX7_sorrows_40 : decode cX7_sorrows 40 = .ok (.iconst (-1), 1) := by decide +kernel
theorem dX7_sorrows_41 : decode cX7_sorrows 41 = .ok (.ixor, 1) := by decide +kernel
theorem dX7_sorrows_42 : decode cX7_sorrows 42 = .ok (.iand, 1) := by decide +kernel
theorem dX7_sorrows_43 : decode cX7_sorrows 43 = .ok (.iload_n 2, 1) := by decide +kernel
theorem dX7_sorrows_44 : decode cX7_sorrows 44 = .ok (.iload_n 1, 1) := by decide +kernel
theorem dX7_sorrows_45 : decode cX7_sorrows 45 = .ok (.ishl, 1) := by decide +kernel
theorem dX7_sorrows_46 : decode cX7_sorrows 46 = .ok (.ior, 1) := by decide +kernel
theorem dX7_sorrows_47 : decode cX7_sorrows 47 = .ok (.iastore, 1) := by decide +kernel
theorem dX7_sorrows_48 : decode cX7_sorrows 48 = .ok (.iload_n 3, 1) := by decide +kernel
