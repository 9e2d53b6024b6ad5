theorem dX7_init_0 : decode cX7_init 0 = .ok (.aload_n 0, 1) := by decide +kernel
theorem dX7_init_1 : decode cX7_init 1 = .ok (.invokespecial 1, 3) := by decide +kernel
theorem dX7_init_4 : decode cX7_init 4 = .ok (.aload_n 0, 1) := by decide +kernel
theorem dX7_init_5 : decode cX7_init 5 = .ok (.sipush 150, 3) := by decide +kernel
theorem dX7_init_8 : decode cX7_init 8 = .ok (.newarray .int, 2) := by decide +kernel
theorem dX7_init_10 : decode cX7_init 10 = .ok (.putfield 7, 3) := by decide +kernel
theorem dX7_init_13 : decode cX7_init 13 = .ok (.aload_n 0, 1) := by decide +kernel
theorem dX7_init_14 : decode cX7_init 14 = .ok (.bipush 30, 2) := by decide +kernel
theorem dX7_init_16 : decode cX7_init 16 = .ok (.newarray .int, 2) := by decide +kernel
theorem dX7_init_18 : decode cX7_init 18 = .ok (.putfield 13, 3) := by decide +kernel
theorem dX7_init_21 : decode cX7_init 21 = .ok (.aload_n 0, 1) := by decide +kernel
theorem dX7_init_22 : decode cX7_init 22 = .ok (.sipush 160, 3) := by decide +kernel
theorem dX7_init_25 : decode cX7_init 25 = .ok (.newarray .int, 2) := by decide +kernel
theorem dX7_init_27 : decode cX7_init 27 = .ok (.putfield 16, 3) := by decide +kernel
theorem dX7_init_30 : decode cX7_init 30 = .ok (.aload_n 0, 1) := by decide +kernel
theorem dX7_init_31 : decode cX7_init 31 = .ok (.bipush 13, 2) := by decide +kernel
theorem dX7_init_33 : decode cX7_init 33 = .ok (.newarray .int, 2) := by decide +kernel
theorem dX7_init_35 : decode cX7_init 35 = .ok (.dup, 1) := by decide +kernel
theorem dX7_init_36 : decode cX7_init 36 = .ok (.iconst 0, 1) := by decide +kernel
theorem dX7_init_37 : decode cX7_init 37 = .ok (.iconst 0, 1) := by decide +kernel
theorem dX7_init_38 : decode cX7_init 38 = .ok (.iastore, 1) := by decide +kernel
theorem dX7_init_39 : decode cX7_init 39 = .ok (.dup, 1) := by decide +kernel
theorem dX7_init_40 : decode cX7_init 40 = .ok (.iconst 1, 1) := by decide +kernel
theorem dX7_init_41 : decode cX7_init 41 = .ok (.iconst 5, 1) := by decide +kernel
theorem dX7_init_42 : decode cX7_init 42 = .ok (.iastore, 1) := by decide +kernel
theorem dX7_init_43 : decode cX7_init 43 = .ok (.dup, 1) := by decide +kernel
theorem dX7_init_44 : decode cX7_init 44 = .ok (.iconst 2, 1) := by decide +kernel
theorem dX7_init_45 : decode cX7_init 45 = .ok (.bipush 10, 2) := by decide +kernel
theorem dX7_init_47 : decode cX7_init 47 = .ok (.iastore, 1) := by decide +kernel
theorem dX7_init_48 : decode cX7_init 48 = .ok (.dup, 1) := by decide +kernel
theorem dX7_init_49 : decode cX7_init 49 = .ok (.iconst 3, 1) := by decide +kernel
theorem dX7_init_50 : decode cX7_init 50 = .ok (.bipush 14, 2) := by decide +kernel
theorem dX7_init_52 : decode cX7_init 52 = .ok (.iastore, 1) := by decide +kernel
theorem dX7_init_53 : decode cX7_init 53 = .ok (.dup, 1) := by decide +kernel
theorem dX7_init_54 : decode cX7_init 54 = .ok (.iconst 4, 1) := by decide +kernel
theorem dX7_init_55 : decode cX7_init 55 = .ok (.bipush 18, 2) := by decide +kernel
theorem dX7_init_57 : decode cX7_init 57 = .ok (.iastore, 1) := by decide +kernel
theorem dX7_init_58 : decode cX7_init 58 = .ok (.dup, 1) := by decide +kernel
theorem dX7_init_59 : decode cX7_init 59 = .ok (.iconst 5, 1) := by decide +kernel
theorem dX7_init_60 : decode cX7_init 60 = .ok (.bipush 23, 2) := by decide +kernel
theorem dX7_init_62 : decode cX7_init 62 = .ok (.iastore, 1) := by decide +kernel
theorem dX7_init_63 : decode cX7_init 63 = .ok (.dup, 1) := by decide +kernel
theorem dX7_init_64 : decode cX7_init 64 = .ok (.bipush 6, 2) := by decide +kernel
theorem dX7_init_66 : decode cX7_init 66 = .ok (.bipush 27, 2) := by decide +kernel
theorem dX7_init_68 : decode cX7_init 68 = .ok (.iastore, 1) := by decide +kernel
theorem dX7_init_69 : decode cX7_init 69 = .ok (.dup, 1) := by decide +kernel
theorem dX7_init_70 : decode cX7_init 70 = .ok (.bipush 7, 2) := by decide +kernel
theorem dX7_init_72 : decode cX7_init 72 = .ok (.bipush 30, 2) := by decide +kernel
theorem dX7_init_74 : decode cX7_init 74 = .ok (.iastore, 1) := by decide +kernel
theorem dX7_init_75 : decode cX7_init 75 = .ok (.dup, 1) := by decide +kernel
theorem dX7_init_76 : decode cX7_init 76 = .ok (.bipush 8, 2) := by decide +kernel
theorem dX7_init_78 : decode cX7_init 78 = .ok (.bipush 33, 2) := by decide +kernel
theorem dX7_init_80 : decode cX7_init 80 = .ok (.iastore, 1) := by decide +kernel
theorem dX7_init_81 : decode cX7_init 81 = .ok (.dup, 1) := by decide +kernel
theorem dX7_init_82 : decode cX7_init 82 = .ok (.bipush 9, 2) := by decide +kernel
theorem dX7_init_84 : decode cX7_init 84 = .ok (.bipush 36, 2) := by decide +kernel
theorem dX7_init_86 : decode cX7_init 86 = .ok (.iastore, 1) := by decide +kernel
theorem dX7_init_87 : decode cX7_init 87 = .ok (.dup, 1) := by decide +kernel
theorem dX7_init_88 : decode cX7_init 88 = .ok (.bipush 10, 2) := by decide +kernel
theorem dX7_init_90 : decode cX7_init 90 = .ok (.bipush 42, 2) := by decide +kernel
theorem dX7_init_92 : decode cX7_init 92 = .ok (.iastore, 1) := by decide +kernel
theorem dX7_init_93 : decode cX7_init 93 = .ok (.dup, 1) := by decide +kernel
theorem dX7_init_94 : decode cX7_init 94 = .ok (.bipush 11, 2) := by decide +kernel
theorem dX7_init_96 : decode cX7_init 96 = .ok (.bipush 48, 2) := by decide +kernel
theorem dX7_init_98 : decode cX7_init 98 = .ok (.iastore, 1) := by decide +kernel
theorem dX7_init_99 : decode cX7_init 99 = .ok (.dup, 1) := by decide +kernel
theorem dX7_init_100 : decode cX7_init 100 = .ok (.bipush 12, 2) := by decide +kernel
theorem dX7_init_102 : decode cX7_init 102 = .ok (.bipush 52, 2) := by decide +kernel
theorem dX7_init_104 : decode cX7_init 104 = .ok (.iastore, 1) := by decide +kernel
theorem dX7_init_105 : decode cX7_init 105 = .ok (.putfield 19, 3) := by decide +kernel
theorem dX7_init_108 : decode cX7_init 108 = .ok (.aload_n 0, 1) := by decide +kernel
theorem dX7_init_109 : decode cX7_init 109 = .ok (.bipush 52, 2) := by decide +kernel
theorem dX7_init_111 : decode cX7_init 111 = .ok (.newarray .int, 2) := by decide +kernel
theorem dX7_init_113 : decode cX7_init 113 = .ok (.dup, 1) := by decide +kernel
theorem dX7_init_114 : decode cX7_init 114 = .ok (.iconst 0, 1) := by decide +kernel
theorem dX7_init_115 : decode cX7_init 115 = .ok (.bipush 112, 2) := by decide +kernel
theorem dX7_init_117 : decode cX7_init 117 = .ok (.iastore, 1) := by decide +kernel
theorem dX7_init_118 : decode cX7_init 118 = .ok (.dup, 1) := by decide +kernel
theorem dX7_init_119 : decode cX7_init 119 = .ok (.iconst 1, 1) := by decide +kernel
theorem dX7_init_120 : decode cX7_init 120 = .ok (.bipush 108, 2) := by decide +kernel
theorem dX7_init_122 : decode cX7_init 122 = .ok (.iastore, 1) := by decide +kernel
theorem dX7_init_123 : decode cX7_init 123 = .ok (.dup, 1) := by decide +kernel
theorem dX7_init_124 : decode cX7_init 124 = .ok (.iconst 2, 1) := by decide +kernel
theorem dX7_init_125 : decode cX7_init 125 = .ok (.bipush 97, 2) := by decide +kernel
theorem dX7_init_127 : decode cX7_init 127 = .ok (.iastore, 1) := by decide +kernel
theorem dX7_init_128 : decode cX7_init 128 = .ok (.dup, 1) := by decide +kernel
theorem dX7_init_129 : decode cX7_init 129 = .ok (.iconst 3, 1) := by decide +kernel
theorem dX7_init_130 : decode cX7_init 130 = .ok (.bipush 105, 2) := by decide +kernel
theorem dX7_init_132 : decode cX7_init 132 = .ok (.iastore, 1) := by decide +kernel
theorem dX7_init_133 : decode cX7_init 133 = .ok (.dup, 1) := by decide +kernel
theorem dX7_init_134 : decode cX7_init 134 = .ok (.iconst 4, 1) := by decide +kernel
theorem dX7_init_135 : decode cX7_init 135 = .ok (.bipush 110, 2) := by decide +kernel
theorem dX7_init_137 : decode cX7_init 137 = .ok (.iastore, 1) := by decide +kernel
theorem dX7_init_138 : decode cX7_init 138 = .ok (.dup, 1) := by decide +kernel
theorem dX7_init_139 : decode cX7_init 139 = .ok (.iconst 5, 1) := by decide +kernel
theorem dX7_init_140 : decode cX7_init 140 = .ok (.bipush 109, 2) := by decide +kernel
theorem dX7_init_142 : decode cX7_init 142 = .ok (.iastore, 1) := by decide +kernel
theorem dX7_init_143 : decode cX7_init 143 = .ok (.dup, 1) := by decide +kernel
theorem dX7_init_144 : decode cX7_init 144 = .ok (.bipush 6, 2) := by decide +kernel
theorem dX7_init_146 : decode cX7_init 146 = .ok (.bipush 97, 2) := by decide +kernel
theorem dX7_init_148 : decode cX7_init 148 = .ok (.iastore, 1) := by decide +kernel
theorem dX7_init_149 : decode cX7_init 149 = .ok (.dup, 1) := by decide +kernel
theorem dX7_init_150 : decode cX7_init 150 = .ok (.bipush 7, 2) := by decide +kernel
theorem dX7_init_152 : decode cX7_init 152 = .ok (.bipush 121, 2) := by decide +kernel
theorem dX7_init_154 : decode cX7_init 154 = .ok (.iastore, 1) := by decide +kernel
theorem dX7_init_155 : decode cX7_init 155 = .ok (.dup, 1) := by decide +kernel
theorem dX7_init_156 : decode cX7_init 156 = .ok (.bipush 8, 2) := by decide +kernel
theorem dX7_init_158 : decode cX7_init 158 = .ok (.bipush 111, 2) := by decide +kernel
theorem dX7_init_160 : decode cX7_init 160 = .ok (.iastore, 1) := by decide +kernel
theorem dX7_init_161 : decode cX7_init 161 = .ok (.dup, 1) := by decide +kernel
theorem dX7_init_162 : decode cX7_init 162 = .ok (.bipush 9, 2) := by decide +kernel
theorem dX7_init_164 : decode cX7_init 164 = .ok (.bipush 114, 2) := by decide +kernel
theorem dX7_init_166 : decode cX7_init 166 = .ok (.iastore, 1) := by decide +kernel
theorem dX7_init_167 : decode cX7_init 167 = .ok (.dup, 1) := by decide +kernel
theorem dX7_init_168 : decode cX7_init 168 = .ok (.bipush 10, 2) := by decide +kernel
theorem dX7_init_170 : decode cX7_init 170 = .ok (.bipush 109, 2) := by decide +kernel
theorem dX7_init_172 : decode cX7_init 172 = .ok (.iastore, 1) := by decide +kernel
theorem dX7_init_173 : decode cX7_init 173 = .ok (.dup, 1) := by decide +kernel
theorem dX7_init_174 : decode cX7_init 174 = .ok (.bipush 11, 2) := by decide +kernel
theorem dX7_init_176 : decode cX7_init 176 = .ok (.bipush 97, 2) := by decide +kernel
theorem dX7_init_178 : decode cX7_init 178 = .ok (.iastore, 1) := by decide +kernel
theorem dX7_init_179 : decode cX7_init 179 = .ok (.dup, 1) := by decide +kernel
theorem dX7_init_180 : decode cX7_init 180 = .ok (.bipush 12, 2) := by decide +kernel
theorem dX7_init_182 : decode cX7_init 182 = .ok (.bipush 105, 2) := by decide +kernel
theorem dX7_init_184 : decode cX7_init 184 = .ok (.iastore, 1) := by decide +kernel
theorem dX7_init_185 : decode cX7_init 185 = .ok (.dup, 1) := by decide +kernel
theorem dX7_init_186 : decode cX7_init 186 = .ok (.bipush 13, 2) := by decide +kernel
theorem dX7_init_188 : decode cX7_init 188 = .ok (.bipush 100, 2) := by decide +kernel
theorem dX7_init_190 : decode cX7_init 190 = .ok (.iastore, 1) := by decide +kernel
theorem dX7_init_191 : decode cX7_init 191 = .ok (.dup, 1) := by decide +kernel
theorem dX7_init_192 : decode cX7_init 192 = .ok (.bipush 14, 2) := by decide +kernel
theorem dX7_init_194 : decode cX7_init 194 = .ok (.bipush 100, 2) := by decide +kernel
theorem dX7_init_196 : decode cX7_init 196 = .ok (.iastore, 1) := by decide +kernel
theorem dX7_init_197 : decode cX7_init 197 = .ok (.dup, 1) := by decide +kernel
theorem dX7_init_198 : decode cX7_init 198 = .ok (.bipush 15, 2) := by decide +kernel
theorem dX7_init_200 : decode cX7_init 200 = .ok (.bipush 101, 2) := by decide +kernel
theorem dX7_init_202 : decode cX7_init 202 = .ok (.iastore, 1) := by decide +kernel
theorem dX7_init_203 : decode cX7_init 203 = .ok (.dup, 1) := by decide +kernel
theorem dX7_init_204 : decode cX7_init 204 = .ok (.bipush 16, 2) := by decide +kernel
theorem dX7_init_206 : decode cX7_init 206 = .ok (.bipush 97, 2) := by decide +kernel
theorem dX7_init_208 : decode cX7_init 208 = .ok (.iastore, 1) := by decide +kernel
theorem dX7_init_209 : decode cX7_init 209 = .ok (.dup, 1) := by decide +kernel
theorem dX7_init_210 : decode cX7_init 210 = .ok (.bipush 17, 2) := by decide +kernel
theorem dX7_init_212 : decode cX7_init 212 = .ok (.bipush 102, 2) := by decide +kernel
theorem dX7_init_214 : decode cX7_init 214 = .ok (.iastore, 1) := by decide +kernel
theorem dX7_init_215 : decode cX7_init 215 = .ok (.dup, 1) := by decide +kernel
theorem dX7_init_216 : decode cX7_init 216 = .ok (.bipush 18, 2) := by decide +kernel
theorem dX7_init_218 : decode cX7_init 218 = .ok (.bipush 115, 2) := by decide +kernel
theorem dX7_init_220 : decode cX7_init 220 = .ok (.iastore, 1) := by decide +kernel
theorem dX7_init_221 : decode cX7_init 221 = .ok (.dup, 1) := by decide +kernel
theorem dX7_init_222 : decode cX7_init 222 = .ok (.bipush 19, 2) := by decide +kernel
theorem dX7_init_224 : decode cX7_init 224 = .ok (.bipush 111, 2) := by decide +kernel
theorem dX7_init_226 : decode cX7_init 226 = .ok (.iastore, 1) := by decide +kernel
theorem dX7_init_227 : decode cX7_init 227 = .ok (.dup, 1) := by decide +kernel
theorem dX7_init_228 : decode cX7_init 228 = .ok (.bipush 20, 2) := by decide +kernel
theorem dX7_init_230 : decode cX7_init 230 = .ok (.bipush 114, 2) := by decide +kernel
theorem dX7_init_232 : decode cX7_init 232 = .ok (.iastore, 1) := by decide +kernel
theorem dX7_init_233 : decode cX7_init 233 = .ok (.dup, 1) := by decide +kernel
theorem dX7_init_234 : decode cX7_init 234 = .ok (.bipush 21, 2) := by decide +kernel
theorem dX7_init_236 : decode cX7_init 236 = .ok (.bipush 114, 2) := by decide +kernel
theorem dX7_init_238 : decode cX7_init 238 = .ok (.iastore, 1) := by decide +kernel
theorem dX7_init_239 : decode cX7_init 239 = .ok (.dup, 1) := by decide +kernel
theorem dX7_init_240 : decode cX7_init 240 = .ok (.bipush 22, 2) := by decide +kernel
theorem dX7_init_242 : decode cX7_init 242 = .ok (.bipush 121, 2) := by decide +kernel
theorem dX7_init_244 : decode cX7_init 244 = .ok (.iastore, 1) := by decide +kernel
theorem dX7_init_245 : decode cX7_init 245 = .ok (.dup, 1) := by decide +kernel
theorem dX7_init_246 : decode cX7_init 246 = .ok (.bipush 23, 2) := by decide +kernel
theorem dX7_init_248 : decode cX7_init 248 = .ok (.bipush 104, 2) := by decide +kernel
theorem dX7_init_250 : decode cX7_init 250 = .ok (.iastore, 1) := by decide +kernel
theorem dX7_init_251 : decode cX7_init 251 = .ok (.dup, 1) := by decide +kernel
theorem dX7_init_252 : decode cX7_init 252 = .ok (.bipush 24, 2) := by decide +kernel
theorem dX7_init_254 : decode cX7_init 254 = .ok (.bipush 111, 2) := by decide +kernel
theorem dX7_init_256 : decode cX7_init 256 = .ok (.iastore, 1) := by decide +kernel
theorem dX7_init_257 : decode cX7_init 257 = .ok (.dup, 1) := by decide +kernel
theorem dX7_init_258 : decode cX7_init 258 = .ok (.bipush 25, 2) := by decide +kernel
theorem dX7_init_260 : decode cX7_init 260 = .ok (.bipush 108, 2) := by decide +kernel
theorem dX7_init_262 : decode cX7_init 262 = .ok (.iastore, 1) := by decide +kernel
theorem dX7_init_263 : decode cX7_init 263 = .ok (.dup, 1) := by decide +kernel
theorem dX7_init_264 : decode cX7_init 264 = .ok (.bipush 26, 2) := by decide +kernel
theorem dX7_init_266 : decode cX7_init 266 = .ok (.bipush 100, 2) := by decide +kernel
theorem dX7_init_268 : decode cX7_init 268 = .ok (.iastore, 1) := by decide +kernel
theorem dX7_init_269 : decode cX7_init 269 = .ok (.dup, 1) := by decide +kernel
theorem dX7_init_270 : decode cX7_init 270 = .ok (.bipush 27, 2) := by decide +kernel
theorem dX7_init_272 : decode cX7_init 272 = .ok (.bipush 97, 2) := by decide +kernel
theorem dX7_init_274 : decode cX7_init 274 = .ok (.iastore, 1) := by decide +kernel
theorem dX7_init_275 : decode cX7_init 275 = .ok (.dup, 1) := by decide +kernel
theorem dX7_init_276 : decode cX7_init 276 = .ok (.bipush 28, 2) := by decide +kernel
theorem dX7_init_278 : decode cX7_init 278 = .ok (.bipush 100, 2) := by decide +kernel
theorem dX7_init_280 : decode cX7_init 280 = .ok (.iastore, 1) := by decide +kernel
theorem dX7_init_281 : decode cX7_init 281 = .ok (.dup, 1) := by decide +kernel
theorem dX7_init_282 : decode cX7_init 282 = .ok (.bipush 29, 2) := by decide +kernel
theorem dX7_init_284 : decode cX7_init 284 = .ok (.bipush 100, 2) := by decide +kernel
theorem dX7_init_286 : decode cX7_init 286 = .ok (.iastore, 1) := by decide +kernel
theorem dX7_init_287 : decode cX7_init 287 = .ok (.dup, 1) := by decide +kernel
theorem dX7_init_288 : decode cX7_init 288 = .ok (.bipush 30, 2) := by decide +kernel
theorem dX7_init_290 : decode cX7_init 290 = .ok (.bipush 97, 2) := by decide +kernel
theorem dX7_init_292 : decode cX7_init 292 = .ok (.iastore, 1) := by decide +kernel
theorem dX7_init_293 : decode cX7_init 293 = .ok (.dup, 1) := by decide +kernel
theorem dX7_init_294 : decode cX7_init 294 = .ok (.bipush 31, 2) := by decide +kernel
theorem dX7_init_296 : decode cX7_init 296 = .ok (.bipush 115, 2) := by decide +kernel
theorem dX7_init_298 : decode cX7_init 298 = .ok (.iastore, 1) := by decide +kernel
theorem dX7_init_299 : decode cX7_init 299 = .ok (.dup, 1) := by decide +kernel
theorem dX7_init_300 : decode cX7_init 300 = .ok (.bipush 32, 2) := by decide +kernel
theorem dX7_init_302 : decode cX7_init 302 = .ok (.bipush 107, 2) := by decide +kernel
theorem dX7_init_304 : decode cX7_init 304 = .ok (.iastore, 1) := by decide +kernel
theorem dX7_init_305 : decode cX7_init 305 = .ok (.dup, 1) := by decide +kernel
theorem dX7_init_306 : decode cX7_init 306 = .ok (.bipush 33, 2) := by decide +kernel
theorem dX7_init_308 : decode cX7_init 308 = .ok (.bipush 116, 2) := by decide +kernel
theorem dX7_init_310 : decode cX7_init 310 = .ok (.iastore, 1) := by decide +kernel
theorem dX7_init_311 : decode cX7_init 311 = .ok (.dup, 1) := by decide +kernel
theorem dX7_init_312 : decode cX7_init 312 = .ok (.bipush 34, 2) := by decide +kernel
theorem dX7_init_314 : decode cX7_init 314 = .ok (.bipush 105, 2) := by decide +kernel
theorem dX7_init_316 : decode cX7_init 316 = .ok (.iastore, 1) := by decide +kernel
theorem dX7_init_317 : decode cX7_init 317 = .ok (.dup, 1) := by decide +kernel
theorem dX7_init_318 : decode cX7_init 318 = .ok (.bipush 35, 2) := by decide +kernel
theorem dX7_init_320 : decode cX7_init 320 = .ok (.bipush 110, 2) := by decide +kernel
theorem dX7_init_322 : decode cX7_init 322 = .ok (.iastore, 1) := by decide +kernel
theorem dX7_init_323 : decode cX7_init 323 = .ok (.dup, 1) := by decide +kernel
theorem dX7_init_324 : decode cX7_init 324 = .ok (.bipush 36, 2) := by decide +kernel
theorem dX7_init_326 : decode cX7_init 326 = .ok (.bipush 99, 2) := by decide +kernel
theorem dX7_init_328 : decode cX7_init 328 = .ok (.iastore, 1) := by decide +kernel
theorem dX7_init_329 : decode cX7_init 329 = .ok (.dup, 1) := by decide +kernel
theorem dX7_init_330 : decode cX7_init 330 = .ok (.bipush 37, 2) := by decide +kernel
theorem dX7_init_332 : decode cX7_init 332 = .ok (.bipush 111, 2) := by decide +kernel
theorem dX7_init_334 : decode cX7_init 334 = .ok (.iastore, 1) := by decide +kernel
theorem dX7_init_335 : decode cX7_init 335 = .ok (.dup, 1) := by decide +kernel
theorem dX7_init_336 : decode cX7_init 336 = .ok (.bipush 38, 2) := by decide +kernel
theorem dX7_init_338 : decode cX7_init 338 = .ok (.bipush 112, 2) := by decide +kernel
theorem dX7_init_340 : decode cX7_init 340 = .ok (.iastore, 1) := by decide +kernel
theorem dX7_init_341 : decode cX7_init 341 = .ok (.dup, 1) := by decide +kernel
theorem dX7_init_342 : decode cX7_init 342 = .ok (.bipush 39, 2) := by decide +kernel
theorem dX7_init_344 : decode cX7_init 344 = .ok (.bipush 112, 2) := by decide +kernel
theorem dX7_init_346 : decode cX7_init 346 = .ok (.iastore, 1) := by decide +kernel
theorem dX7_init_347 : decode cX7_init 347 = .ok (.dup, 1) := by decide +kernel
theorem dX7_init_348 : decode cX7_init 348 = .ok (.bipush 40, 2) := by decide +kernel
theorem dX7_init_350 : decode cX7_init 350 = .ok (.bipush 101, 2) := by decide +kernel
theorem dX7_init_352 : decode cX7_init 352 = .ok (.iastore, 1) := by decide +kernel
theorem dX7_init_353 : decode cX7_init 353 = .ok (.dup, 1) := by decide +kernel
theorem dX7_init_354 : decode cX7_init 354 = .ok (.bipush 41, 2) := by decide +kernel
theorem dX7_init_356 : decode cX7_init 356 = .ok (.bipush 114, 2) := by decide +kernel
theorem dX7_init_358 : decode cX7_init 358 = .ok (.iastore, 1) := by decide +kernel
theorem dX7_init_359 : decode cX7_init 359 = .ok (.dup, 1) := by decide +kernel
theorem dX7_init_360 : decode cX7_init 360 = .ok (.bipush 42, 2) := by decide +kernel
theorem dX7_init_362 : decode cX7_init 362 = .ok (.bipush 115, 2) := by decide +kernel
theorem dX7_init_364 : decode cX7_init 364 = .ok (.iastore, 1) := by decide +kernel
theorem dX7_init_365 : decode cX7_init 365 = .ok (.dup, 1) := by decide +kernel
theorem dX7_init_366 : decode cX7_init 366 = .ok (.bipush 43, 2) := by decide +kernel
theorem dX7_init_368 : decode cX7_init 368 = .ok (.bipush 105, 2) := by decide +kernel
theorem dX7_init_370 : decode cX7_init 370 = .ok (.iastore, 1) := by decide +kernel
theorem dX7_init_371 : decode cX7_init 371 = .ok (.dup, 1) := by decide +kernel
theorem dX7_init_372 : decode cX7_init 372 = .ok (.bipush 44, 2) := by decide +kernel
theorem dX7_init_374 : decode cX7_init 374 = .ok (.bipush 108, 2) := by decide +kernel
theorem dX7_init_376 : decode cX7_init 376 = .ok (.iastore, 1) := by decide +kernel
theorem dX7_init_377 : decode cX7_init 377 = .ok (.dup, 1) := by decide +kernel
theorem dX7_init_378 : decode cX7_init 378 = .ok (.bipush 45, 2) := by decide +kernel
theorem dX7_init_380 : decode cX7_init 380 = .ok (.bipush 118, 2) := by decide +kernel
theorem dX7_init_382 : decode cX7_init 382 = .ok (.iastore, 1) := by decide +kernel
theorem dX7_init_383 : decode cX7_init 383 = .ok (.dup, 1) := by decide +kernel
theorem dX7_init_384 : decode cX7_init 384 = .ok (.bipush 46, 2) := by decide +kernel
theorem dX7_init_386 : decode cX7_init 386 = .ok (.bipush 101, 2) := by decide +kernel
theorem dX7_init_388 : decode cX7_init 388 = .ok (.iastore, 1) := by decide +kernel
theorem dX7_init_389 : decode cX7_init 389 = .ok (.dup, 1) := by decide +kernel
theorem dX7_init_390 : decode cX7_init 390 = .ok (.bipush 47, 2) := by decide +kernel
theorem dX7_init_392 : decode cX7_init 392 = .ok (.bipush 114, 2) := by decide +kernel
theorem dX7_init_394 : decode cX7_init 394 = .ok (.iastore, 1) := by decide +kernel
theorem dX7_init_395 : decode cX7_init 395 = .ok (.dup, 1) := by decide +kernel
theorem dX7_init_396 : decode cX7_init 396 = .ok (.bipush 48, 2) := by decide +kernel
theorem dX7_init_398 : decode cX7_init 398 = .ok (.bipush 105, 2) := by decide +kernel
theorem dX7_init_400 : decode cX7_init 400 = .ok (.iastore, 1) := by decide +kernel
theorem dX7_init_401 : decode cX7_init 401 = .ok (.dup, 1) := by decide +kernel
theorem dX7_init_402 : decode cX7_init 402 = .ok (.bipush 49, 2) := by decide +kernel
theorem dX7_init_404 : decode cX7_init 404 = .ok (.bipush 114, 2) := by decide +kernel
theorem dX7_init_406 : decode cX7_init 406 = .ok (.iastore, 1) := by decide +kernel
theorem dX7_init_407 : decode cX7_init 407 = .ok (.dup, 1) := by decide +kernel
theorem dX7_init_408 : decode cX7_init 408 = .ok (.bipush 50, 2) := by decide +kernel
theorem dX7_init_410 : decode cX7_init 410 = .ok (.bipush 111, 2) := by decide +kernel
theorem dX7_init_412 : decode cX7_init 412 = .ok (.iastore, 1) := by decide +kernel
theorem dX7_init_413 : decode cX7_init 413 = .ok (.dup, 1) := by decide +kernel
theorem dX7_init_414 : decode cX7_init 414 = .ok (.bipush 51, 2) := by decide +kernel
theorem dX7_init_416 : decode cX7_init 416 = .ok (.bipush 110, 2) := by decide +kernel
theorem dX7_init_418 : decode cX7_init 418 = .ok (.iastore, 1) := by decide +kernel
theorem dX7_init_419 : decode cX7_init 419 = .ok (.putfield 22, 3) := by decide +kernel
theorem dX7_init_422 : decode cX7_init 422 = .ok (.aload_n 0, 1) := by decide +kernel
theorem dX7_init_423 : decode cX7_init 423 = .ok (.bipush (-4), 2) := by decide +kernel
theorem dX7_init_425 : decode cX7_init 425 = .ok (.putfield 25, 3) := by decide +kernel
theorem dX7_init_428 : decode cX7_init 428 = .ok (.aload_n 0, 1) := by decide +kernel
theorem dX7_init_429 : decode cX7_init 429 = .ok (.bipush 12, 2) := by decide +kernel
theorem dX7_init_431 : decode cX7_init 431 = .ok (.newarray .int, 2) := by decide +kernel
theorem dX7_init_433 : decode cX7_init 433 = .ok (.putfield 29, 3) := by decide +kernel
theorem dX7_init_436 : decode cX7_init 436 = .ok (.aload_n 0, 1) := by decide +kernel
theorem dX7_init_437 : decode cX7_init 437 = .ok (.bipush 90, 2) := by decide +kernel
theorem dX7_init_439 : decode cX7_init 439 = .ok (.newarray .int, 2) := by decide +kernel
theorem dX7_init_441 : decode cX7_init 441 = .ok (.putfield 32, 3) := by decide +kernel
theorem dX7_init_444 : decode cX7_init 444 = .ok (.aload_n 0, 1) := by decide +kernel
theorem dX7_init_445 : decode cX7_init 445 = .ok (.iconst 2, 1) := by decide +kernel
theorem dX7_init_446 : decode cX7_init 446 = .ok (.newarray .boolean, 2) := by decide +kernel
theorem dX7_init_448 : decode cX7_init 448 = .ok (.putfield 35, 3) := by decide +kernel
theorem dX7_init_451 : decode cX7_init 451 = .ok (.aload_n 0, 1) := by decide +kernel
theorem dX7_init_452 : decode cX7_init 452 = .ok (.iconst 4, 1) := by decide +kernel
theorem dX7_init_453 : decode cX7_init 453 = .ok (.newarray .int, 2) := by decide +kernel
theorem dX7_init_455 : decode cX7_init 455 = .ok (.dup, 1) := by decide +kernel
theorem dX7_init_456 : decode cX7_init 456 = .ok (.iconst 0, 1) := by decide +kernel
theorem dX7_init_457 : decode cX7_init 457 = .ok (.bipush (-4), 2) := by decide +kernel
theorem dX7_init_459 : decode cX7_init 459 = .ok (.iastore, 1) := by decide +kernel
theorem dX7_init_460 : decode cX7_init 460 = .ok (.dup, 1) := by decide +kernel
theorem dX7_init_461 : decode cX7_init 461 = .ok (.iconst 1, 1) := by decide +kernel
theorem dX7_init_462 : decode cX7_init 462 = .ok (.bipush (-4), 2) := by decide +kernel
theorem dX7_init_464 : decode cX7_init 464 = .ok (.iastore, 1) := by decide +kernel
theorem dX7_init_465 : decode cX7_init 465 = .ok (.dup, 1) := by decide +kernel
theorem dX7_init_466 : decode cX7_init 466 = .ok (.iconst 2, 1) := by decide +kernel
theorem dX7_init_467 : decode cX7_init 467 = .ok (.bipush (-4), 2) := by decide +kernel
theorem dX7_init_469 : decode cX7_init 469 = .ok (.iastore, 1) := by decide +kernel
theorem dX7_init_470 : decode cX7_init 470 = .ok (.dup, 1) := by decide +kernel
theorem dX7_init_471 : decode cX7_init 471 = .ok (.iconst 3, 1) := by decide +kernel
theorem dX7_init_472 : decode cX7_init 472 = .ok (.bipush (-4), 2) := by decide +kernel
theorem dX7_init_474 : decode cX7_init 474 = .ok (.iastore, 1) := by decide +kernel
theorem dX7_init_475 : decode cX7_init 475 = .ok (.putfield 39, 3) := by decide +kernel
theorem dX7_init_478 : decode cX7_init 478 = .ok (.aload_n 0, 1) := by decide +kernel
theorem dX7_init_479 : decode cX7_init 479 = .ok (.iconst 4, 1) := by decide +kernel
theorem dX7_init_480 : decode cX7_init 480 = .ok (.newarray .int, 2) := by decide +kernel
theorem dX7_init_482 : decode cX7_init 482 = .ok (.putfield 42, 3) := by decide +kernel
theorem dX7_init_485 : decode cX7_init 485 = .ok (.aload_n 0, 1) := by decide +kernel
theorem dX7_init_486 : decode cX7_init 486 = .ok (.sipush 160, 3) := by decide +kernel
theorem dX7_init_489 : decode cX7_init 489 = .ok (.newarray .int, 2) := by decide +kernel
theorem dX7_init_491 : decode cX7_init 491 = .ok (.putfield 45, 3) := by decide +kernel
theorem dX7_init_494 : decode cX7_init 494 = .ok (.return_, 1) := by decide +kernel
theorem dX7_in_0 : decode cX7_in 0 = .ok (.lload_n 0, 1) := by decide +kernel
theorem dX7_in_1 : decode cX7_in 1 = .ok (.lload_n 2, 1) := by decide +kernel
theorem dX7_in_2 : decode cX7_in 2 = .ok (.lcmp, 1) := by decide +kernel
theorem dX7_in_3 : decode cX7_in 3 = .ok (.ifCond .lt 14, 3) := by decide +kernel
theorem dX7_in_6 : decode cX7_in 6 = .ok (.lload_n 0, 1) := by decide +kernel
theorem dX7_in_7 : decode cX7_in 7 = .ok (.lload 4, 2) := by decide +kernel
theorem dX7_in_9 : decode cX7_in 9 = .ok (.lcmp, 1) := by decide +kernel
theorem dX7_in_10 : decode cX7_in 10 = .ok (.ifCond .gt 7, 3) := by decide +kernel
theorem dX7_in_13 : decode cX7_in 13 = .ok (.iconst 1, 1) := by decide +kernel
theorem dX7_in_14 : decode cX7_in 14 = .ok (.goto 4, 3) := by decide +kernel
theorem dX7_in_17 : decode cX7_in 17 = .ok (.iconst 0, 1) := by decide +kernel
theorem dX7_in_18 : decode cX7_in 18 = .ok (.ireturn, 1) := by decide +kernel
theorem dX7_feed_0 : decode cX7_feed 0 = .ok (.iload_n 1, 1) := by decide +kernel
theorem dX7_feed_1 : decode cX7_feed 1 = .ok (.i2l, 1) := by decide +kernel
theorem dX7_feed_2 : decode cX7_feed 2 = .ok (.lconst 0, 1) := by decide +kernel
theorem dX7_feed_3 : decode cX7_feed 3 = .ok (.ldc2_w 48, 3) := by decide +kernel
theorem dX7_feed_6 : decode cX7_feed 6 = .ok (.invokestatic 50, 3) := by decide +kernel
theorem dX7_feed_9 : decode cX7_feed 9 = .ok (.ifCond .ne 5, 3) := by decide +kernel
theorem dX7_feed_12 : decode cX7_feed 12 = .ok (.iconst (-1), 1) := by decide +kernel
theorem dX7_feed_13 : decode cX7_feed 13 = .ok (.ireturn, 1) := by decide +kernel
theorem dX7_feed_14 : decode cX7_feed 14 = .ok (.aload_n 0, 1) := by decide +kernel
theorem dX7_feed_15 : decode cX7_feed 15 = .ok (.getfield 54, 3) := by decide +kernel
theorem dX7_feed_18 : decode cX7_feed 18 = .ok (.sipush 160, 3) := by decide +kernel
theorem dX7_feed_21 : decode cX7_feed 21 = .ok (.if_icmp .ne 6, 3) := by decide +kernel
theorem dX7_feed_24 : decode cX7_feed 24 = .ok (.bipush (-3), 2) := by decide +kernel
theorem dX7_feed_26 : decode cX7_feed 26 = .ok (.ireturn, 1) := by decide +kernel
theorem dX7_feed_27 : decode cX7_feed 27 = .ok (.aload_n 0, 1) := by decide +kernel
theorem dX7_feed_28 : decode cX7_feed 28 = .ok (.getfield 16, 3) := by decide +kernel
theorem dX7_feed_31 : decode cX7_feed 31 = .ok (.aload_n 0, 1) := by decide +kernel
theorem dX7_feed_32 : decode cX7_feed 32 = .ok (.getfield 54, 3) := by decide +kernel
theorem dX7_feed_35 : decode cX7_feed 35 = .ok (.iload_n 1, 1) := by decide +kernel
theorem dX7_feed_36 : decode cX7_feed 36 = .ok (.iastore, 1) := by decide +kernel
theorem dX7_feed_37 : decode cX7_feed 37 = .ok (.aload_n 0, 1) := by decide +kernel
theorem dX7_feed_38 : decode cX7_feed 38 = .ok (.dup, 1) := by decide +kernel
theorem dX7_feed_39 : decode cX7_feed 39 = .ok (.getfield 54, 3) := by decide +kernel
theorem dX7_feed_42 : decode cX7_feed 42 = .ok (.iconst 1, 1) := by decide +kernel
theorem dX7_feed_43 : decode cX7_feed 43 = .ok (.iadd, 1) := by decide +kernel
theorem dX7_feed_44 : decode cX7_feed 44 = .ok (.putfield 54, 3) := by decide +kernel
theorem dX7_feed_47 : decode cX7_feed 47 = .ok (.aload_n 0, 1) := by decide +kernel
theorem dX7_feed_48 : decode cX7_feed 48 = .ok (.getfield 54, 3) := by decide +kernel
theorem dX7_feed_51 : decode cX7_feed 51 = .ok (.ireturn, 1) := by decide +kernel
theorem dX7_end_0 : decode cX7_end 0 = .ok (.iload_n 1, 1) := by decide +kernel
theorem dX7_end_1 : decode cX7_end 1 = .ok (.i2l, 1) := by decide +kernel
theorem dX7_end_2 : decode cX7_end 2 = .ok (.lconst 0, 1) := by decide +kernel
theorem dX7_end_3 : decode cX7_end 3 = .ok (.aload_n 0, 1) := by decide +kernel
theorem dX7_end_4 : decode cX7_end 4 = .ok (.getfield 54, 3) := by decide +kernel
theorem dX7_end_7 : decode cX7_end 7 = .ok (.i2l, 1) := by decide +kernel
theorem dX7_end_8 : decode cX7_end 8 = .ok (.invokestatic 50, 3) := by decide +kernel
theorem dX7_end_11 : decode cX7_end 11 = .ok (.ifCond .ne 5, 3) := by decide +kernel
theorem dX7_end_14 : decode cX7_end 14 = .ok (.iconst (-1), 1) := by decide +kernel
theorem dX7_end_15 : decode cX7_end 15 = .ok (.ireturn, 1) := by decide +kernel
theorem dX7_end_16 : decode cX7_end 16 = .ok (.aload_n 0, 1) := by decide +kernel
theorem dX7_end_17 : decode cX7_end 17 = .ok (.getfield 54, 3) := by decide +kernel
theorem dX7_end_20 : decode cX7_end 20 = .ok (.istore_n 2, 1) := by decide +kernel
theorem dX7_end_21 : decode cX7_end 21 = .ok (.aload_n 0, 1) := by decide +kernel
theorem dX7_end_22 : decode cX7_end 22 = .ok (.iload_n 1, 1) := by decide +kernel
theorem dX7_end_23 : decode cX7_end 23 = .ok (.putfield 54, 3) := by decide +kernel
theorem dX7_end_26 : decode cX7_end 26 = .ok (.iload_n 2, 1) := by decide +kernel
theorem dX7_end_27 : decode cX7_end 27 = .ok (.ireturn, 1) := by decide +kernel
theorem dX7_byteAt_0 : decode cX7_byteAt 0 = .ok (.iload_n 1, 1) := by decide +kernel
theorem dX7_byteAt_1 : decode cX7_byteAt 1 = .ok (.aload_n 0, 1) := by decide +kernel
theorem dX7_byteAt_2 : decode cX7_byteAt 2 = .ok (.getfield 54, 3) := by decide +kernel
theorem dX7_byteAt_5 : decode cX7_byteAt 5 = .ok (.if_icmp .ge 12, 3) := by decide +kernel
theorem dX7_byteAt_8 : decode cX7_byteAt 8 = .ok (.aload_n 0, 1) := by decide +kernel
theorem dX7_byteAt_9 : decode cX7_byteAt 9 = .ok (.getfield 16, 3) := by decide +kernel
theorem dX7_byteAt_12 : decode cX7_byteAt 12 = .ok (.iload_n 1, 1) := by decide +kernel
theorem dX7_byteAt_13 : decode cX7_byteAt 13 = .ok (.iaload, 1) := by decide +kernel
theorem dX7_byteAt_14 : decode cX7_byteAt 14 = .ok (.goto 5, 3) := by decide +kernel
theorem dX7_byteAt_17 : decode cX7_byteAt 17 = .ok (.bipush (-4), 2) := by decide +kernel
theorem dX7_byteAt_19 : decode cX7_byteAt 19 = .ok (.ireturn, 1) := by decide +kernel
theorem dX7_fails_0 : decode cX7_fails 0 = .ok (.aload_n 0, 1) := by decide +kernel
theorem dX7_fails_1 : decode cX7_fails 1 = .ok (.getfield 57, 3) := by decide +kernel
theorem dX7_fails_4 : decode cX7_fails 4 = .ok (.ifCond .ne 16, 3) := by decide +kernel
theorem dX7_fails_7 : decode cX7_fails 7 = .ok (.aload_n 0, 1) := by decide +kernel
theorem dX7_fails_8 : decode cX7_fails 8 = .ok (.iload_n 1, 1) := by decide +kernel
theorem dX7_fails_9 : decode cX7_fails 9 = .ok (.putfield 57, 3) := by decide +kernel
theorem dX7_fails_12 : decode cX7_fails 12 = .ok (.aload_n 0, 1) := by decide +kernel
theorem dX7_fails_13 : decode cX7_fails 13 = .ok (.aload_n 0, 1) := by decide +kernel
theorem dX7_fails_14 : decode cX7_fails 14 = .ok (.getfield 60, 3) := by decide +kernel
theorem dX7_fails_17 : decode cX7_fails 17 = .ok (.putfield 63, 3) := by decide +kernel
theorem dX7_fails_20 : decode cX7_fails 20 = .ok (.return_, 1) := by decide +kernel
theorem dX7_nameHere_0 : decode cX7_nameHere 0 = .ok (.iconst 0, 1) := by decide +kernel
theorem dX7_nameHere_1 : decode cX7_nameHere 1 = .ok (.istore_n 1, 1) := by decide +kernel
theorem dX7_nameHere_2 : decode cX7_nameHere 2 = .ok (.iload_n 1, 1) := by decide +kernel
theorem dX7_nameHere_3 : decode cX7_nameHere 3 = .ok (.bipush 12, 2) := by decide +kernel
theorem dX7_nameHere_5 : decode cX7_nameHere 5 = .ok (.if_icmp .ge 113, 3) := by decide +kernel
theorem dX7_nameHere_8 : decode cX7_nameHere 8 = .ok (.aload_n 0, 1) := by decide +kernel
theorem dX7_nameHere_9 : decode cX7_nameHere 9 = .ok (.getfield 66, 3) := by decide +kernel
theorem dX7_nameHere_12 : decode cX7_nameHere 12 = .ok (.iconst 1, 1) := by decide +kernel
theorem dX7_nameHere_13 : decode cX7_nameHere 13 = .ok (.if_icmp .ne 105, 3) := by decide +kernel
theorem dX7_nameHere_16 : decode cX7_nameHere 16 = .ok (.aload_n 0, 1) := by decide +kernel
theorem dX7_nameHere_17 : decode cX7_nameHere 17 = .ok (.getfield 69, 3) := by decide +kernel
theorem dX7_nameHere_20 : decode cX7_nameHere 20 = .ok (.aload_n 0, 1) := by decide +kernel
theorem dX7_nameHere_21 : decode cX7_nameHere 21 = .ok (.getfield 60, 3) := by decide +kernel
theorem dX7_nameHere_24 : decode cX7_nameHere 24 = .ok (.isub, 1) := by decide +kernel
theorem dX7_nameHere_25 : decode cX7_nameHere 25 = .ok (.aload_n 0, 1) := by decide +kernel
theorem dX7_nameHere_26 : decode cX7_nameHere 26 = .ok (.getfield 19, 3) := by decide +kernel
theorem dX7_nameHere_29 : decode cX7_nameHere 29 = .ok (.iload_n 1, 1) := by decide +kernel
theorem dX7_nameHere_30 : decode cX7_nameHere 30 = .ok (.iconst 1, 1) := by decide +kernel
theorem dX7_nameHere_31 : decode cX7_nameHere 31 = .ok (.iadd, 1) := by decide +kernel
theorem dX7_nameHere_32 : decode cX7_nameHere 32 = .ok (.iaload, 1) := by decide +kernel
theorem dX7_nameHere_33 : decode cX7_nameHere 33 = .ok (.aload_n 0, 1) := by decide +kernel
theorem dX7_nameHere_34 : decode cX7_nameHere 34 = .ok (.getfield 19, 3) := by decide +kernel
theorem dX7_nameHere_37 : decode cX7_nameHere 37 = .ok (.iload_n 1, 1) := by decide +kernel
theorem dX7_nameHere_38 : decode cX7_nameHere 38 = .ok (.iaload, 1) := by decide +kernel
theorem dX7_nameHere_39 : decode cX7_nameHere 39 = .ok (.isub, 1) := by decide +kernel
theorem dX7_nameHere_40 : decode cX7_nameHere 40 = .ok (.if_icmp .ne 7, 3) := by decide +kernel
theorem dX7_nameHere_43 : decode cX7_nameHere 43 = .ok (.iconst 1, 1) := by decide +kernel
theorem dX7_nameHere_44 : decode cX7_nameHere 44 = .ok (.goto 4, 3) := by decide +kernel
theorem dX7_nameHere_47 : decode cX7_nameHere 47 = .ok (.iconst 0, 1) := by decide +kernel
theorem dX7_nameHere_48 : decode cX7_nameHere 48 = .ok (.istore_n 2, 1) := by decide +kernel
theorem dX7_nameHere_49 : decode cX7_nameHere 49 = .ok (.iconst 0, 1) := by decide +kernel
theorem dX7_nameHere_50 : decode cX7_nameHere 50 = .ok (.istore_n 3, 1) := by decide +kernel
theorem dX7_nameHere_51 : decode cX7_nameHere 51 = .ok (.iload_n 2, 1) := by decide +kernel
theorem dX7_nameHere_52 : decode cX7_nameHere 52 = .ok (.ifCond .eq 54, 3) := by decide +kernel
theorem dX7_nameHere_55 : decode cX7_nameHere 55 = .ok (.iload_n 3, 1) := by decide +kernel
theorem dX7_nameHere_56 : decode cX7_nameHere 56 = .ok (.aload_n 0, 1) := by decide +kernel
theorem dX7_nameHere_57 : decode cX7_nameHere 57 = .ok (.getfield 69, 3) := by decide +kernel
theorem dX7_nameHere_60 : decode cX7_nameHere 60 = .ok (.aload_n 0, 1) := by decide +kernel
theorem dX7_nameHere_61 : decode cX7_nameHere 61 = .ok (.getfield 60, 3) := by decide +kernel
theorem dX7_nameHere_64 : decode cX7_nameHere 64 = .ok (.isub, 1) := by decide +kernel
theorem dX7_nameHere_65 : decode cX7_nameHere 65 = .ok (.if_icmp .ge 41, 3) := by decide +kernel
theorem dX7_nameHere_68 : decode cX7_nameHere 68 = .ok (.aload_n 0, 1) := by decide +kernel
theorem dX7_nameHere_69 : decode cX7_nameHere 69 = .ok (.aload_n 0, 1) := by decide +kernel
theorem dX7_nameHere_70 : decode cX7_nameHere 70 = .ok (.getfield 60, 3) := by decide +kernel
theorem dX7_nameHere_73 : decode cX7_nameHere 73 = .ok (.iload_n 3, 1) := by decide +kernel
theorem dX7_nameHere_74 : decode cX7_nameHere 74 = .ok (.iadd, 1) := by decide +kernel
theorem dX7_nameHere_75 : decode cX7_nameHere 75 = .ok (.invokevirtual 72, 3) := by decide +kernel
theorem dX7_nameHere_78 : decode cX7_nameHere 78 = .ok (.aload_n 0, 1) := by decide +kernel
theorem dX7_nameHere_79 : decode cX7_nameHere 79 = .ok (.getfield 22, 3) := by decide +kernel
theorem dX7_nameHere_82 : decode cX7_nameHere 82 = .ok (.aload_n 0, 1) := by decide +kernel
theorem dX7_nameHere_83 : decode cX7_nameHere 83 = .ok (.getfield 19, 3) := by decide +kernel
theorem dX7_nameHere_86 : decode cX7_nameHere 86 = .ok (.iload_n 1, 1) := by decide +kernel
theorem dX7_nameHere_87 : decode cX7_nameHere 87 = .ok (.iaload, 1) := by decide +kernel
theorem dX7_nameHere_88 : decode cX7_nameHere 88 = .ok (.iload_n 3, 1) := by decide +kernel
theorem dX7_nameHere_89 : decode cX7_nameHere 89 = .ok (.iadd, 1) := by decide +kernel
theorem dX7_nameHere_90 : decode cX7_nameHere 90 = .ok (.iaload, 1) := by decide +kernel
theorem dX7_nameHere_91 : decode cX7_nameHere 91 = .ok (.if_icmp .ne 7, 3) := by decide +kernel
theorem dX7_nameHere_94 : decode cX7_nameHere 94 = .ok (.iconst 1, 1) := by decide +kernel
theorem dX7_nameHere_95 : decode cX7_nameHere 95 = .ok (.goto 4, 3) := by decide +kernel
theorem dX7_nameHere_98 : decode cX7_nameHere 98 = .ok (.iconst 0, 1) := by decide +kernel
theorem dX7_nameHere_99 : decode cX7_nameHere 99 = .ok (.istore_n 2, 1) := by decide +kernel
theorem dX7_nameHere_100 : decode cX7_nameHere 100 = .ok (.iinc 3 1, 3) := by decide +kernel
theorem dX7_nameHere_103 : decode cX7_nameHere 103 = .ok (.goto (-52), 3) := by decide +kernel
theorem dX7_nameHere_106 : decode cX7_nameHere 106 = .ok (.iload_n 2, 1) := by decide +kernel
theorem dX7_nameHere_107 : decode cX7_nameHere 107 = .ok (.ifCond .eq 5, 3) := by decide +kernel
theorem dX7_nameHere_110 : decode cX7_nameHere 110 = .ok (.iload_n 1, 1) := by decide +kernel
theorem dX7_nameHere_111 : decode cX7_nameHere 111 = .ok (.ireturn, 1) := by decide +kernel
theorem dX7_nameHere_112 : decode cX7_nameHere 112 = .ok (.iinc 1 1, 3) := by decide +kernel
theorem dX7_nameHere_115 : decode cX7_nameHere 115 = .ok (.goto (-113), 3) := by decide +kernel
theorem dX7_nameHere_118 : decode cX7_nameHere 118 = .ok (.bipush (-4), 2) := by decide +kernel
theorem dX7_nameHere_120 : decode cX7_nameHere 120 = .ok (.ireturn, 1) := by decide +kernel
theorem dX7_step_0 : decode cX7_step 0 = .ok (.aload_n 0, 1) := by decide +kernel
theorem dX7_step_1 : decode cX7_step 1 = .ok (.getfield 57, 3) := by decide +kernel
theorem dX7_step_4 : decode cX7_step 4 = .ok (.ifCond .le 4, 3) := by decide +kernel
theorem dX7_step_7 : decode cX7_step 7 = .ok (.return_, 1) := by decide +kernel
theorem dX7_step_8 : decode cX7_step 8 = .ok (.aload_n 0, 1) := by decide +kernel
theorem dX7_step_9 : decode cX7_step 9 = .ok (.aload_n 0, 1) := by decide +kernel
theorem dX7_step_10 : decode cX7_step 10 = .ok (.getfield 69, 3) := by decide +kernel
theorem dX7_step_13 : decode cX7_step 13 = .ok (.invokevirtual 72, 3) := by decide +kernel
theorem dX7_step_16 : decode cX7_step 16 = .ok (.bipush 32, 2) := by decide +kernel
theorem dX7_step_18 : decode cX7_step 18 = .ok (.if_icmp .ne 16, 3) := by decide +kernel
theorem dX7_step_21 : decode cX7_step 21 = .ok (.aload_n 0, 1) := by decide +kernel
theorem dX7_step_22 : decode cX7_step 22 = .ok (.dup, 1) := by decide +kernel
theorem dX7_step_23 : decode cX7_step 23 = .ok (.getfield 69, 3) := by decide +kernel
theorem dX7_step_26 : decode cX7_step 26 = .ok (.iconst 1, 1) := by decide +kernel
theorem dX7_step_27 : decode cX7_step 27 = .ok (.iadd, 1) := by decide +kernel
theorem dX7_step_28 : decode cX7_step 28 = .ok (.putfield 69, 3) := by decide +kernel
theorem dX7_step_31 : decode cX7_step 31 = .ok (.goto (-23), 3) := by decide +kernel
theorem dX7_step_34 : decode cX7_step 34 = .ok (.aload_n 0, 1) := by decide +kernel
theorem dX7_step_35 : decode cX7_step 35 = .ok (.aload_n 0, 1) := by decide +kernel
theorem dX7_step_36 : decode cX7_step 36 = .ok (.getfield 69, 3) := by decide +kernel
theorem dX7_step_39 : decode cX7_step 39 = .ok (.putfield 60, 3) := by decide +kernel
theorem dX7_step_42 : decode cX7_step 42 = .ok (.aload_n 0, 1) := by decide +kernel
theorem dX7_step_43 : decode cX7_step 43 = .ok (.aload_n 0, 1) := by decide +kernel
theorem dX7_step_44 : decode cX7_step 44 = .ok (.getfield 69, 3) := by decide +kernel
theorem dX7_step_47 : decode cX7_step 47 = .ok (.invokevirtual 72, 3) := by decide +kernel
theorem dX7_step_50 : decode cX7_step 50 = .ok (.istore_n 1, 1) := by decide +kernel
theorem dX7_step_51 : decode cX7_step 51 = .ok (.aload_n 0, 1) := by decide +kernel
theorem dX7_step_52 : decode cX7_step 52 = .ok (.iconst 0, 1) := by decide +kernel
theorem dX7_step_53 : decode cX7_step 53 = .ok (.putfield 76, 3) := by decide +kernel
theorem dX7_step_56 : decode cX7_step 56 = .ok (.iload_n 1, 1) := by decide +kernel
theorem dX7_step_57 : decode cX7_step 57 = .ok (.bipush (-4), 2) := by decide +kernel
theorem dX7_step_59 : decode cX7_step 59 = .ok (.if_icmp .ne 11, 3) := by decide +kernel
theorem dX7_step_62 : decode cX7_step 62 = .ok (.aload_n 0, 1) := by decide +kernel
theorem dX7_step_63 : decode cX7_step 63 = .ok (.iconst 0, 1) := by decide +kernel
theorem dX7_step_64 : decode cX7_step 64 = .ok (.putfield 66, 3) := by decide +kernel
theorem dX7_step_67 : decode cX7_step 67 = .ok (.goto 202, 3) := by decide +kernel
theorem dX7_step_70 : decode cX7_step 70 = .ok (.iload_n 1, 1) := by decide +kernel
theorem dX7_step_71 : decode cX7_step 71 = .ok (.i2l, 1) := by decide +kernel
theorem dX7_step_72 : decode cX7_step 72 = .ok (.ldc2_w 79, 3) := by decide +kernel
theorem dX7_step_75 : decode cX7_step 75 = .ok (.ldc2_w 81, 3) := by decide +kernel
theorem dX7_step_78 : decode cX7_step 78 = .ok (.invokestatic 50, 3) := by decide +kernel
theorem dX7_step_81 : decode cX7_step 81 = .ok (.ifCond .eq 45, 3) := by decide +kernel
theorem dX7_step_84 : decode cX7_step 84 = .ok (.aload_n 0, 1) := by decide +kernel
theorem dX7_step_85 : decode cX7_step 85 = .ok (.aload_n 0, 1) := by decide +kernel
theorem dX7_step_86 : decode cX7_step 86 = .ok (.getfield 69, 3) := by decide +kernel
theorem dX7_step_89 : decode cX7_step 89 = .ok (.invokevirtual 72, 3) := by decide +kernel
theorem dX7_step_92 : decode cX7_step 92 = .ok (.i2l, 1) := by decide +kernel
theorem dX7_step_93 : decode cX7_step 93 = .ok (.ldc2_w 79, 3) := by decide +kernel
theorem dX7_step_96 : decode cX7_step 96 = .ok (.ldc2_w 81, 3) := by decide +kernel
theorem dX7_step_99 : decode cX7_step 99 = .ok (.invokestatic 50, 3) := by decide +kernel
theorem dX7_step_102 : decode cX7_step 102 = .ok (.ifCond .eq 16, 3) := by decide +kernel
theorem dX7_step_105 : decode cX7_step 105 = .ok (.aload_n 0, 1) := by decide +kernel
theorem dX7_step_106 : decode cX7_step 106 = .ok (.dup, 1) := by decide +kernel
theorem dX7_step_107 : decode cX7_step 107 = .ok (.getfield 69, 3) := by decide +kernel
theorem dX7_step_110 : decode cX7_step 110 = .ok (.iconst 1, 1) := by decide +kernel
theorem dX7_step_111 : decode cX7_step 111 = .ok (.iadd, 1) := by decide +kernel
theorem dX7_step_112 : decode cX7_step 112 = .ok (.putfield 69, 3) := by decide +kernel
theorem dX7_step_115 : decode cX7_step 115 = .ok (.goto (-31), 3) := by decide +kernel
theorem dX7_step_118 : decode cX7_step 118 = .ok (.aload_n 0, 1) := by decide +kernel
theorem dX7_step_119 : decode cX7_step 119 = .ok (.iconst 1, 1) := by decide +kernel
theorem dX7_step_120 : decode cX7_step 120 = .ok (.putfield 66, 3) := by decide +kernel
theorem dX7_step_123 : decode cX7_step 123 = .ok (.goto 146, 3) := by decide +kernel
theorem dX7_step_126 : decode cX7_step 126 = .ok (.iload_n 1, 1) := by decide +kernel
theorem dX7_step_127 : decode cX7_step 127 = .ok (.i2l, 1) := by decide +kernel
theorem dX7_step_128 : decode cX7_step 128 = .ok (.ldc2_w 83, 3) := by decide +kernel
theorem dX7_step_131 : decode cX7_step 131 = .ok (.ldc2_w 85, 3) := by decide +kernel
theorem dX7_step_134 : decode cX7_step 134 = .ok (.invokestatic 50, 3) := by decide +kernel
theorem dX7_step_137 : decode cX7_step 137 = .ok (.ifCond .eq 106, 3) := by decide +kernel
theorem dX7_step_140 : decode cX7_step 140 = .ok (.aload_n 0, 1) := by decide +kernel
theorem dX7_step_141 : decode cX7_step 141 = .ok (.aload_n 0, 1) := by decide +kernel
theorem dX7_step_142 : decode cX7_step 142 = .ok (.getfield 69, 3) := by decide +kernel
theorem dX7_step_145 : decode cX7_step 145 = .ok (.invokevirtual 72, 3) := by decide +kernel
theorem dX7_step_148 : decode cX7_step 148 = .ok (.i2l, 1) := by decide +kernel
theorem dX7_step_149 : decode cX7_step 149 = .ok (.ldc2_w 83, 3) := by decide +kernel
theorem dX7_step_152 : decode cX7_step 152 = .ok (.ldc2_w 85, 3) := by decide +kernel
theorem dX7_step_155 : decode cX7_step 155 = .ok (.invokestatic 50, 3) := by decide +kernel
theorem dX7_step_158 : decode cX7_step 158 = .ok (.ifCond .eq 59, 3) := by decide +kernel
theorem dX7_step_161 : decode cX7_step 161 = .ok (.aload_n 0, 1) := by decide +kernel
theorem dX7_step_162 : decode cX7_step 162 = .ok (.aload_n 0, 1) := by decide +kernel
theorem dX7_step_163 : decode cX7_step 163 = .ok (.getfield 69, 3) := by decide +kernel
theorem dX7_step_166 : decode cX7_step 166 = .ok (.aload_n 0, 1) := by decide +kernel
theorem dX7_step_167 : decode cX7_step 167 = .ok (.getfield 60, 3) := by decide +kernel
theorem dX7_step_170 : decode cX7_step 170 = .ok (.isub, 1) := by decide +kernel
theorem dX7_step_171 : decode cX7_step 171 = .ok (.iconst 2, 1) := by decide +kernel
theorem dX7_step_172 : decode cX7_step 172 = .ok (.if_icmp .ge 25, 3) := by decide +kernel
theorem dX7_step_175 : decode cX7_step 175 = .ok (.bipush 10, 2) := by decide +kernel
theorem dX7_step_177 : decode cX7_step 177 = .ok (.aload_n 0, 1) := by decide +kernel
theorem dX7_step_178 : decode cX7_step 178 = .ok (.getfield 76, 3) := by decide +kernel
theorem dX7_step_181 : decode cX7_step 181 = .ok (.imul, 1) := by decide +kernel
theorem dX7_step_182 : decode cX7_step 182 = .ok (.aload_n 0, 1) := by decide +kernel
theorem dX7_step_183 : decode cX7_step 183 = .ok (.aload_n 0, 1) := by decide +kernel
theorem dX7_step_184 : decode cX7_step 184 = .ok (.getfield 69, 3) := by decide +kernel
theorem dX7_step_187 : decode cX7_step 187 = .ok (.invokevirtual 72, 3) := by decide +kernel
theorem dX7_step_190 : decode cX7_step 190 = .ok (.iadd, 1) := by decide +kernel
theorem dX7_step_191 : decode cX7_step 191 = .ok (.bipush 48, 2) := by decide +kernel
theorem dX7_step_193 : decode cX7_step 193 = .ok (.isub, 1) := by decide +kernel
theorem dX7_step_194 : decode cX7_step 194 = .ok (.goto 7, 3) := by decide +kernel
theorem dX7_step_197 : decode cX7_step 197 = .ok (.aload_n 0, 1) := by decide +kernel
theorem dX7_step_198 : decode cX7_step 198 = .ok (.getfield 76, 3) := by decide +kernel
theorem dX7_step_201 : decode cX7_step 201 = .ok (.putfield 76, 3) := by decide +kernel
theorem dX7_step_204 : decode cX7_step 204 = .ok (.aload_n 0, 1) := by decide +kernel
theorem dX7_step_205 : decode cX7_step 205 = .ok (.dup, 1) := by decide +kernel
theorem dX7_step_206 : decode cX7_step 206 = .ok (.getfield 69, 3) := by decide +kernel
theorem dX7_step_209 : decode cX7_step 209 = .ok (.iconst 1, 1) := by decide +kernel
theorem dX7_step_210 : decode cX7_step 210 = .ok (.iadd, 1) := by decide +kernel
theorem dX7_step_211 : decode cX7_step 211 = .ok (.putfield 69, 3) := by decide +kernel
theorem dX7_step_214 : decode cX7_step 214 = .ok (.goto (-74), 3) := by decide +kernel
theorem dX7_step_217 : decode cX7_step 217 = .ok (.aload_n 0, 1) := by decide +kernel
theorem dX7_step_218 : decode cX7_step 218 = .ok (.iconst 2, 1) := by decide +kernel
theorem dX7_step_219 : decode cX7_step 219 = .ok (.putfield 66, 3) := by decide +kernel
theorem dX7_step_222 : decode cX7_step 222 = .ok (.aload_n 0, 1) := by decide +kernel
theorem dX7_step_223 : decode cX7_step 223 = .ok (.getfield 69, 3) := by decide +kernel
theorem dX7_step_226 : decode cX7_step 226 = .ok (.aload_n 0, 1) := by decide +kernel
theorem dX7_step_227 : decode cX7_step 227 = .ok (.getfield 60, 3) := by decide +kernel
theorem dX7_step_230 : decode cX7_step 230 = .ok (.isub, 1) := by decide +kernel
theorem dX7_step_231 : decode cX7_step 231 = .ok (.iconst 2, 1) := by decide +kernel
theorem dX7_step_232 : decode cX7_step 232 = .ok (.if_icmp .le 37, 3) := by decide +kernel
theorem dX7_step_235 : decode cX7_step 235 = .ok (.aload_n 0, 1) := by decide +kernel
theorem dX7_step_236 : decode cX7_step 236 = .ok (.iconst 1, 1) := by decide +kernel
theorem dX7_step_237 : decode cX7_step 237 = .ok (.invokevirtual 87, 3) := by decide +kernel
theorem dX7_step_240 : decode cX7_step 240 = .ok (.goto 29, 3) := by decide +kernel
theorem dX7_step_243 : decode cX7_step 243 = .ok (.aload_n 0, 1) := by decide +kernel
theorem dX7_step_244 : decode cX7_step 244 = .ok (.iconst 3, 1) := by decide +kernel
theorem dX7_step_245 : decode cX7_step 245 = .ok (.putfield 66, 3) := by decide +kernel
theorem dX7_step_248 : decode cX7_step 248 = .ok (.aload_n 0, 1) := by decide +kernel
theorem dX7_step_249 : decode cX7_step 249 = .ok (.dup, 1) := by decide +kernel
theorem dX7_step_250 : decode cX7_step 250 = .ok (.getfield 69, 3) := by decide +kernel
theorem dX7_step_253 : decode cX7_step 253 = .ok (.iconst 1, 1) := by decide +kernel
theorem dX7_step_254 : decode cX7_step 254 = .ok (.iadd, 1) := by decide +kernel
theorem dX7_step_255 : decode cX7_step 255 = .ok (.putfield 69, 3) := by decide +kernel
theorem dX7_step_258 : decode cX7_step 258 = .ok (.iload_n 1, 1) := by decide +kernel
theorem dX7_step_259 : decode cX7_step 259 = .ok (.bipush 59, 2) := by decide +kernel
theorem dX7_step_261 : decode cX7_step 261 = .ok (.if_icmp .eq 8, 3) := by decide +kernel
theorem dX7_step_264 : decode cX7_step 264 = .ok (.aload_n 0, 1) := by decide +kernel
theorem dX7_step_265 : decode cX7_step 265 = .ok (.iconst 1, 1) := by decide +kernel
theorem dX7_step_266 : decode cX7_step 266 = .ok (.invokevirtual 87, 3) := by decide +kernel
theorem dX7_step_269 : decode cX7_step 269 = .ok (.return_, 1) := by decide +kernel
theorem dX7_other_0 : decode cX7_other 0 = .ok (.aload_n 0, 1) := by decide +kernel
theorem dX7_other_1 : decode cX7_other 1 = .ok (.getfield 57, 3) := by decide +kernel
theorem dX7_other_4 : decode cX7_other 4 = .ok (.ifCond .ne 16, 3) := by decide +kernel
theorem dX7_other_7 : decode cX7_other 7 = .ok (.aload_n 0, 1) := by decide +kernel
theorem dX7_other_8 : decode cX7_other 8 = .ok (.getfield 66, 3) := by decide +kernel
theorem dX7_other_11 : decode cX7_other 11 = .ok (.iconst 2, 1) := by decide +kernel
theorem dX7_other_12 : decode cX7_other 12 = .ok (.if_icmp .eq 8, 3) := by decide +kernel
theorem dX7_other_15 : decode cX7_other 15 = .ok (.aload_n 0, 1) := by decide +kernel
theorem dX7_other_16 : decode cX7_other 16 = .ok (.iconst 2, 1) := by decide +kernel
theorem dX7_other_17 : decode cX7_other 17 = .ok (.invokevirtual 87, 3) := by decide +kernel
theorem dX7_other_20 : decode cX7_other 20 = .ok (.aload_n 0, 1) := by decide +kernel
theorem dX7_other_21 : decode cX7_other 21 = .ok (.getfield 57, 3) := by decide +kernel
theorem dX7_other_24 : decode cX7_other 24 = .ok (.ifCond .ne 23, 3) := by decide +kernel
theorem dX7_other_27 : decode cX7_other 27 = .ok (.aload_n 0, 1) := by decide +kernel
theorem dX7_other_28 : decode cX7_other 28 = .ok (.getfield 76, 3) := by decide +kernel
theorem dX7_other_31 : decode cX7_other 31 = .ok (.i2l, 1) := by decide +kernel
theorem dX7_other_32 : decode cX7_other 32 = .ok (.iload_n 1, 1) := by decide +kernel
theorem dX7_other_33 : decode cX7_other 33 = .ok (.i2l, 1) := by decide +kernel
theorem dX7_other_34 : decode cX7_other 34 = .ok (.iload_n 2, 1) := by decide +kernel
theorem dX7_other_35 : decode cX7_other 35 = .ok (.i2l, 1) := by decide +kernel
theorem dX7_other_36 : decode cX7_other 36 = .ok (.invokestatic 50, 3) := by decide +kernel
theorem dX7_other_39 : decode cX7_other 39 = .ok (.ifCond .ne 8, 3) := by decide +kernel
theorem dX7_other_42 : decode cX7_other 42 = .ok (.aload_n 0, 1) := by decide +kernel
theorem dX7_other_43 : decode cX7_other 43 = .ok (.iconst 3, 1) := by decide +kernel
theorem dX7_other_44 : decode cX7_other 44 = .ok (.invokevirtual 87, 3) := by decide +kernel
theorem dX7_other_47 : decode cX7_other 47 = .ok (.aload_n 0, 1) := by decide +kernel
theorem dX7_other_48 : decode cX7_other 48 = .ok (.getfield 57, 3) := by decide +kernel
theorem dX7_other_51 : decode cX7_other 51 = .ok (.ifCond .ne 24, 3) := by decide +kernel
theorem dX7_other_54 : decode cX7_other 54 = .ok (.iload_n 3, 1) := by decide +kernel
theorem dX7_other_55 : decode cX7_other 55 = .ok (.ifCond .eq 20, 3) := by decide +kernel
theorem dX7_other_58 : decode cX7_other 58 = .ok (.iload_n 3, 1) := by decide +kernel
theorem dX7_other_59 : decode cX7_other 59 = .ok (.aload_n 0, 1) := by decide +kernel
theorem dX7_other_60 : decode cX7_other 60 = .ok (.getfield 76, 3) := by decide +kernel
theorem dX7_other_63 : decode cX7_other 63 = .ok (.ishr, 1) := by decide +kernel
theorem dX7_other_64 : decode cX7_other 64 = .ok (.iconst 1, 1) := by decide +kernel
theorem dX7_other_65 : decode cX7_other 65 = .ok (.iand, 1) := by decide +kernel
theorem dX7_other_66 : decode cX7_other 66 = .ok (.iconst 1, 1) := by decide +kernel
theorem dX7_other_67 : decode cX7_other 67 = .ok (.if_icmp .ne 8, 3) := by decide +kernel
theorem dX7_other_70 : decode cX7_other 70 = .ok (.aload_n 0, 1) := by decide +kernel
theorem dX7_other_71 : decode cX7_other 71 = .ok (.iconst 4, 1) := by decide +kernel
theorem dX7_other_72 : decode cX7_other 72 = .ok (.invokevirtual 87, 3) := by decide +kernel
theorem dX7_other_75 : decode cX7_other 75 = .ok (.aload_n 0, 1) := by decide +kernel
theorem dX7_other_76 : decode cX7_other 76 = .ok (.getfield 57, 3) := by decide +kernel
theorem dX7_other_79 : decode cX7_other 79 = .ok (.ifCond .ne 10, 3) := by decide +kernel
theorem dX7_other_82 : decode cX7_other 82 = .ok (.aload_n 0, 1) := by decide +kernel
theorem dX7_other_83 : decode cX7_other 83 = .ok (.getfield 76, 3) := by decide +kernel
theorem dX7_other_86 : decode cX7_other 86 = .ok (.goto 4, 3) := by decide +kernel
theorem dX7_other_89 : decode cX7_other 89 = .ok (.iload_n 1, 1) := by decide +kernel
theorem dX7_other_90 : decode cX7_other 90 = .ok (.istore 4, 2) := by decide +kernel
theorem dX7_other_92 : decode cX7_other 92 = .ok (.aload_n 0, 1) := by decide +kernel
theorem dX7_other_93 : decode cX7_other 93 = .ok (.invokevirtual 91, 3) := by decide +kernel
theorem dX7_other_96 : decode cX7_other 96 = .ok (.iload 4, 2) := by decide +kernel
theorem dX7_other_98 : decode cX7_other 98 = .ok (.ireturn, 1) := by decide +kernel
theorem dX7_giverHere_0 : decode cX7_giverHere 0 = .ok (.aload_n 0, 1) := by decide +kernel
theorem dX7_giverHere_1 : decode cX7_giverHere 1 = .ok (.iconst 0, 1) := by decide +kernel
theorem dX7_giverHere_2 : decode cX7_giverHere 2 = .ok (.iconst 3, 1) := by decide +kernel
theorem dX7_giverHere_3 : decode cX7_giverHere 3 = .ok (.iload_n 1, 1) := by decide +kernel
theorem dX7_giverHere_4 : decode cX7_giverHere 4 = .ok (.invokevirtual 94, 3) := by decide +kernel
theorem dX7_giverHere_7 : decode cX7_giverHere 7 = .ok (.istore_n 2, 1) := by decide +kernel
theorem dX7_giverHere_8 : decode cX7_giverHere 8 = .ok (.aload_n 0, 1) := by decide +kernel
theorem dX7_giverHere_9 : decode cX7_giverHere 9 = .ok (.iload_n 2, 1) := by decide +kernel
theorem dX7_giverHere_10 : decode cX7_giverHere 10 = .ok (.aload_n 0, 1) := by decide +kernel
theorem dX7_giverHere_11 : decode cX7_giverHere 11 = .ok (.getfield 98, 3) := by decide +kernel
theorem dX7_giverHere_14 : decode cX7_giverHere 14 = .ok (.if_icmp .le 7, 3) := by decide +kernel
theorem dX7_giverHere_17 : decode cX7_giverHere 17 = .ok (.iload_n 2, 1) := by decide +kernel
theorem dX7_giverHere_18 : decode cX7_giverHere 18 = .ok (.goto 7, 3) := by decide +kernel
theorem dX7_giverHere_21 : decode cX7_giverHere 21 = .ok (.aload_n 0, 1) := by decide +kernel
theorem dX7_giverHere_22 : decode cX7_giverHere 22 = .ok (.getfield 98, 3) := by decide +kernel
theorem dX7_giverHere_25 : decode cX7_giverHere 25 = .ok (.putfield 98, 3) := by decide +kernel
theorem dX7_giverHere_28 : decode cX7_giverHere 28 = .ok (.iload_n 2, 1) := by decide +kernel
theorem dX7_giverHere_29 : decode cX7_giverHere 29 = .ok (.ireturn, 1) := by decide +kernel
theorem dX7_metalHere_0 : decode cX7_metalHere 0 = .ok (.aload_n 0, 1) := by decide +kernel
theorem dX7_metalHere_1 : decode cX7_metalHere 1 = .ok (.invokevirtual 101, 3) := by decide +kernel
theorem dX7_metalHere_4 : decode cX7_metalHere 4 = .ok (.bipush 8, 2) := by decide +kernel
theorem dX7_metalHere_6 : decode cX7_metalHere 6 = .ok (.isub, 1) := by decide +kernel
theorem dX7_metalHere_7 : decode cX7_metalHere 7 = .ok (.istore_n 3, 1) := by decide +kernel
theorem dX7_metalHere_8 : decode cX7_metalHere 8 = .ok (.aload_n 0, 1) := by decide +kernel
theorem dX7_metalHere_9 : decode cX7_metalHere 9 = .ok (.getfield 57, 3) := by decide +kernel
theorem dX7_metalHere_12 : decode cX7_metalHere 12 = .ok (.ifCond .ne 19, 3) := by decide +kernel
theorem dX7_metalHere_15 : decode cX7_metalHere 15 = .ok (.iload_n 3, 1) := by decide +kernel
theorem dX7_metalHere_16 : decode cX7_metalHere 16 = .ok (.i2l, 1) := by decide +kernel
theorem dX7_metalHere_17 : decode cX7_metalHere 17 = .ok (.lconst 0, 1) := by decide +kernel
theorem dX7_metalHere_18 : decode cX7_metalHere 18 = .ok (.iload_n 1, 1) := by decide +kernel
theorem dX7_metalHere_19 : decode cX7_metalHere 19 = .ok (.i2l, 1) := by decide +kernel
theorem dX7_metalHere_20 : decode cX7_metalHere 20 = .ok (.invokestatic 50, 3) := by decide +kernel
theorem dX7_metalHere_23 : decode cX7_metalHere 23 = .ok (.ifCond .ne 8, 3) := by decide +kernel
theorem dX7_metalHere_26 : decode cX7_metalHere 26 = .ok (.aload_n 0, 1) := by decide +kernel
theorem dX7_metalHere_27 : decode cX7_metalHere 27 = .ok (.iconst 2, 1) := by decide +kernel
theorem dX7_metalHere_28 : decode cX7_metalHere 28 = .ok (.invokevirtual 87, 3) := by decide +kernel
theorem dX7_metalHere_31 : decode cX7_metalHere 31 = .ok (.aload_n 0, 1) := by decide +kernel
theorem dX7_metalHere_32 : decode cX7_metalHere 32 = .ok (.getfield 57, 3) := by decide +kernel
theorem dX7_metalHere_35 : decode cX7_metalHere 35 = .ok (.ifCond .ne 17, 3) := by decide +kernel
theorem dX7_metalHere_38 : decode cX7_metalHere 38 = .ok (.iload_n 2, 1) := by decide +kernel
theorem dX7_metalHere_39 : decode cX7_metalHere 39 = .ok (.iload_n 3, 1) := by decide +kernel
theorem dX7_metalHere_40 : decode cX7_metalHere 40 = .ok (.ishr, 1) := by decide +kernel
theorem dX7_metalHere_41 : decode cX7_metalHere 41 = .ok (.iconst 1, 1) := by decide +kernel
theorem dX7_metalHere_42 : decode cX7_metalHere 42 = .ok (.iand, 1) := by decide +kernel
theorem dX7_metalHere_43 : decode cX7_metalHere 43 = .ok (.iconst 1, 1) := by decide +kernel
theorem dX7_metalHere_44 : decode cX7_metalHere 44 = .ok (.if_icmp .ne 8, 3) := by decide +kernel
theorem dX7_metalHere_47 : decode cX7_metalHere 47 = .ok (.aload_n 0, 1) := by decide +kernel
theorem dX7_metalHere_48 : decode cX7_metalHere 48 = .ok (.iconst 4, 1) := by decide +kernel
theorem dX7_metalHere_49 : decode cX7_metalHere 49 = .ok (.invokevirtual 87, 3) := by decide +kernel
theorem dX7_metalHere_52 : decode cX7_metalHere 52 = .ok (.aload_n 0, 1) := by decide +kernel
theorem dX7_metalHere_53 : decode cX7_metalHere 53 = .ok (.invokevirtual 91, 3) := by decide +kernel
theorem dX7_metalHere_56 : decode cX7_metalHere 56 = .ok (.aload_n 0, 1) := by decide +kernel
theorem dX7_metalHere_57 : decode cX7_metalHere 57 = .ok (.getfield 57, 3) := by decide +kernel
theorem dX7_metalHere_60 : decode cX7_metalHere 60 = .ok (.ifCond .ne 7, 3) := by decide +kernel
theorem dX7_metalHere_63 : decode cX7_metalHere 63 = .ok (.iload_n 3, 1) := by decide +kernel
theorem dX7_metalHere_64 : decode cX7_metalHere 64 = .ok (.goto 4, 3) := by decide +kernel
theorem dX7_metalHere_67 : decode cX7_metalHere 67 = .ok (.iconst 0, 1) := by decide +kernel
theorem dX7_metalHere_68 : decode cX7_metalHere 68 = .ok (.ireturn, 1) := by decide +kernel
theorem dX7_readMore_0 : decode cX7_readMore 0 = .ok (.iload_n 1, 1) := by decide +kernel
theorem dX7_readMore_1 : decode cX7_readMore 1 = .ok (.iconst 3, 1) := by decide +kernel
theorem dX7_readMore_2 : decode cX7_readMore 2 = .ok (.if_icmp .gt 82, 3) := by decide +kernel
theorem dX7_readMore_5 : decode cX7_readMore 5 = .ok (.aload_n 0, 1) := by decide +kernel
theorem dX7_readMore_6 : decode cX7_readMore 6 = .ok (.getfield 13, 3) := by decide +kernel
theorem dX7_readMore_9 : decode cX7_readMore 9 = .ok (.aload_n 0, 1) := by decide +kernel
theorem dX7_readMore_10 : decode cX7_readMore 10 = .ok (.getfield 105, 3) := by decide +kernel
theorem dX7_readMore_13 : decode cX7_readMore 13 = .ok (.iload_n 1, 1) := by decide +kernel
theorem dX7_readMore_14 : decode cX7_readMore 14 = .ok (.iastore, 1) := by decide +kernel
theorem dX7_readMore_15 : decode cX7_readMore 15 = .ok (.aload_n 0, 1) := by decide +kernel
theorem dX7_readMore_16 : decode cX7_readMore 16 = .ok (.getfield 13, 3) := by decide +kernel
theorem dX7_readMore_19 : decode cX7_readMore 19 = .ok (.bipush 8, 2) := by decide +kernel
theorem dX7_readMore_21 : decode cX7_readMore 21 = .ok (.aload_n 0, 1) := by decide +kernel
theorem dX7_readMore_22 : decode cX7_readMore 22 = .ok (.getfield 105, 3) := by decide +kernel
theorem dX7_readMore_25 : decode cX7_readMore 25 = .ok (.iadd, 1) := by decide +kernel
theorem dX7_readMore_26 : decode cX7_readMore 26 = .ok (.aload_n 0, 1) := by decide +kernel
theorem dX7_readMore_27 : decode cX7_readMore 27 = .ok (.iconst 3, 1) := by decide +kernel
theorem dX7_readMore_28 : decode cX7_readMore 28 = .ok (.iconst 0, 1) := by decide +kernel
theorem dX7_readMore_29 : decode cX7_readMore 29 = .ok (.invokevirtual 108, 3) := by decide +kernel
theorem dX7_readMore_32 : decode cX7_readMore 32 = .ok (.iastore, 1) := by decide +kernel
theorem dX7_readMore_33 : decode cX7_readMore 33 = .ok (.aload_n 0, 1) := by decide +kernel
theorem dX7_readMore_34 : decode cX7_readMore 34 = .ok (.getfield 13, 3) := by decide +kernel
theorem dX7_readMore_37 : decode cX7_readMore 37 = .ok (.iconst 4, 1) := by decide +kernel
theorem dX7_readMore_38 : decode cX7_readMore 38 = .ok (.aload_n 0, 1) := by decide +kernel
theorem dX7_readMore_39 : decode cX7_readMore 39 = .ok (.getfield 105, 3) := by decide +kernel
theorem dX7_readMore_42 : decode cX7_readMore 42 = .ok (.iadd, 1) := by decide +kernel
theorem dX7_readMore_43 : decode cX7_readMore 43 = .ok (.aload_n 0, 1) := by decide +kernel
theorem dX7_readMore_44 : decode cX7_readMore 44 = .ok (.iconst 0, 1) := by decide +kernel
theorem dX7_readMore_45 : decode cX7_readMore 45 = .ok (.bipush 9, 2) := by decide +kernel
theorem dX7_readMore_47 : decode cX7_readMore 47 = .ok (.iconst 0, 1) := by decide +kernel
theorem dX7_readMore_48 : decode cX7_readMore 48 = .ok (.invokevirtual 94, 3) := by decide +kernel
theorem dX7_readMore_51 : decode cX7_readMore 51 = .ok (.iastore, 1) := by decide +kernel
theorem dX7_readMore_52 : decode cX7_readMore 52 = .ok (.aload_n 0, 1) := by decide +kernel
theorem dX7_readMore_53 : decode cX7_readMore 53 = .ok (.getfield 13, 3) := by decide +kernel
theorem dX7_readMore_56 : decode cX7_readMore 56 = .ok (.bipush 12, 2) := by decide +kernel
theorem dX7_readMore_58 : decode cX7_readMore 58 = .ok (.aload_n 0, 1) := by decide +kernel
theorem dX7_readMore_59 : decode cX7_readMore 59 = .ok (.getfield 105, 3) := by decide +kernel
theorem dX7_readMore_62 : decode cX7_readMore 62 = .ok (.iadd, 1) := by decide +kernel
theorem dX7_readMore_63 : decode cX7_readMore 63 = .ok (.aload_n 0, 1) := by decide +kernel
theorem dX7_readMore_64 : decode cX7_readMore 64 = .ok (.iconst 0, 1) := by decide +kernel
theorem dX7_readMore_65 : decode cX7_readMore 65 = .ok (.iconst 3, 1) := by decide +kernel
theorem dX7_readMore_66 : decode cX7_readMore 66 = .ok (.iconst 0, 1) := by decide +kernel
theorem dX7_readMore_67 : decode cX7_readMore 67 = .ok (.invokevirtual 94, 3) := by decide +kernel
theorem dX7_readMore_70 : decode cX7_readMore 70 = .ok (.iastore, 1) := by decide +kernel
theorem dX7_readMore_71 : decode cX7_readMore 71 = .ok (.aload_n 0, 1) := by decide +kernel
theorem dX7_readMore_72 : decode cX7_readMore 72 = .ok (.dup, 1) := by decide +kernel
theorem dX7_readMore_73 : decode cX7_readMore 73 = .ok (.getfield 105, 3) := by decide +kernel
theorem dX7_readMore_76 : decode cX7_readMore 76 = .ok (.iconst 1, 1) := by decide +kernel
theorem dX7_readMore_77 : decode cX7_readMore 77 = .ok (.iadd, 1) := by decide +kernel
theorem dX7_readMore_78 : decode cX7_readMore 78 = .ok (.putfield 105, 3) := by decide +kernel
theorem dX7_readMore_81 : decode cX7_readMore 81 = .ok (.goto 161, 3) := by decide +kernel
theorem dX7_readMore_84 : decode cX7_readMore 84 = .ok (.iload_n 1, 1) := by decide +kernel
theorem dX7_readMore_85 : decode cX7_readMore 85 = .ok (.iconst 4, 1) := by decide +kernel
theorem dX7_readMore_86 : decode cX7_readMore 86 = .ok (.if_icmp .ne 29, 3) := by decide +kernel
theorem dX7_readMore_89 : decode cX7_readMore 89 = .ok (.aload_n 0, 1) := by decide +kernel
theorem dX7_readMore_90 : decode cX7_readMore 90 = .ok (.getfield 13, 3) := by decide +kernel
theorem dX7_readMore_93 : decode cX7_readMore 93 = .ok (.bipush 20, 2) := by decide +kernel
theorem dX7_readMore_95 : decode cX7_readMore 95 = .ok (.dup2, 1) := by decide +kernel
theorem dX7_readMore_96 : decode cX7_readMore 96 = .ok (.iaload, 1) := by decide +kernel
theorem dX7_readMore_97 : decode cX7_readMore 97 = .ok (.iconst 1, 1) := by decide +kernel
theorem dX7_readMore_98 : decode cX7_readMore 98 = .ok (.aload_n 0, 1) := by decide +kernel
theorem dX7_readMore_99 : decode cX7_readMore 99 = .ok (.aload_n 0, 1) := by decide +kernel
theorem dX7_readMore_100 : decode cX7_readMore 100 = .ok (.getfield 13, 3) := by decide +kernel
theorem dX7_readMore_103 : decode cX7_readMore 103 = .ok (.bipush 20, 2) := by decide +kernel
theorem dX7_readMore_105 : decode cX7_readMore 105 = .ok (.iaload, 1) := by decide +kernel
theorem dX7_readMore_106 : decode cX7_readMore 106 = .ok (.invokevirtual 112, 3) := by decide +kernel
theorem dX7_readMore_109 : decode cX7_readMore 109 = .ok (.ishl, 1) := by decide +kernel
theorem dX7_readMore_110 : decode cX7_readMore 110 = .ok (.ior, 1) := by decide +kernel
theorem dX7_readMore_111 : decode cX7_readMore 111 = .ok (.iastore, 1) := by decide +kernel
theorem dX7_readMore_112 : decode cX7_readMore 112 = .ok (.goto 130, 3) := by decide +kernel
theorem dX7_readMore_115 : decode cX7_readMore 115 = .ok (.iload_n 1, 1) := by decide +kernel
theorem dX7_readMore_116 : decode cX7_readMore 116 = .ok (.iconst 5, 1) := by decide +kernel
theorem dX7_readMore_117 : decode cX7_readMore 117 = .ok (.if_icmp .ne 44, 3) := by decide +kernel
theorem dX7_readMore_120 : decode cX7_readMore 120 = .ok (.aload_n 0, 1) := by decide +kernel
theorem dX7_readMore_121 : decode cX7_readMore 121 = .ok (.aload_n 0, 1) := by decide +kernel
theorem dX7_readMore_122 : decode cX7_readMore 122 = .ok (.getfield 115, 3) := by decide +kernel
theorem dX7_readMore_125 : decode cX7_readMore 125 = .ok (.invokevirtual 112, 3) := by decide +kernel
theorem dX7_readMore_128 : decode cX7_readMore 128 = .ok (.istore_n 2, 1) := by decide +kernel
theorem dX7_readMore_129 : decode cX7_readMore 129 = .ok (.aload_n 0, 1) := by decide +kernel
theorem dX7_readMore_130 : decode cX7_readMore 130 = .ok (.dup, 1) := by decide +kernel
theorem dX7_readMore_131 : decode cX7_readMore 131 = .ok (.getfield 115, 3) := by decide +kernel
theorem dX7_readMore_134 : decode cX7_readMore 134 = .ok (.iconst 1, 1) := by decide +kernel
theorem dX7_readMore_135 : decode cX7_readMore 135 = .ok (.iload_n 2, 1) := by decide +kernel
theorem dX7_readMore_136 : decode cX7_readMore 136 = .ok (.ishl, 1) := by decide +kernel
theorem dX7_readMore_137 : decode cX7_readMore 137 = .ok (.ior, 1) := by decide +kernel
theorem dX7_readMore_138 : decode cX7_readMore 138 = .ok (.putfield 115, 3) := by decide +kernel
theorem dX7_readMore_141 : decode cX7_readMore 141 = .ok (.aload_n 0, 1) := by decide +kernel
theorem dX7_readMore_142 : decode cX7_readMore 142 = .ok (.getfield 13, 3) := by decide +kernel
theorem dX7_readMore_145 : decode cX7_readMore 145 = .ok (.bipush 16, 2) := by decide +kernel
theorem dX7_readMore_147 : decode cX7_readMore 147 = .ok (.iload_n 2, 1) := by decide +kernel
theorem dX7_readMore_148 : decode cX7_readMore 148 = .ok (.iadd, 1) := by decide +kernel
theorem dX7_readMore_149 : decode cX7_readMore 149 = .ok (.aload_n 0, 1) := by decide +kernel
theorem dX7_readMore_150 : decode cX7_readMore 150 = .ok (.iconst 0, 1) := by decide +kernel
theorem dX7_readMore_151 : decode cX7_readMore 151 = .ok (.bipush 9, 2) := by decide +kernel
theorem dX7_readMore_153 : decode cX7_readMore 153 = .ok (.iconst 0, 1) := by decide +kernel
theorem dX7_readMore_154 : decode cX7_readMore 154 = .ok (.invokevirtual 94, 3) := by decide +kernel
theorem dX7_readMore_157 : decode cX7_readMore 157 = .ok (.iastore, 1) := by decide +kernel
theorem dX7_readMore_158 : decode cX7_readMore 158 = .ok (.goto 84, 3) := by decide +kernel
theorem dX7_readMore_161 : decode cX7_readMore 161 = .ok (.iload_n 1, 1) := by decide +kernel
theorem dX7_readMore_162 : decode cX7_readMore 162 = .ok (.bipush 6, 2) := by decide +kernel
theorem dX7_readMore_164 : decode cX7_readMore 164 = .ok (.if_icmp .ne 45, 3) := by decide +kernel
theorem dX7_readMore_167 : decode cX7_readMore 167 = .ok (.aload_n 0, 1) := by decide +kernel
theorem dX7_readMore_168 : decode cX7_readMore 168 = .ok (.iconst 2, 1) := by decide +kernel
theorem dX7_readMore_169 : decode cX7_readMore 169 = .ok (.aload_n 0, 1) := by decide +kernel
theorem dX7_readMore_170 : decode cX7_readMore 170 = .ok (.getfield 118, 3) := by decide +kernel
theorem dX7_readMore_173 : decode cX7_readMore 173 = .ok (.invokevirtual 108, 3) := by decide +kernel
theorem dX7_readMore_176 : decode cX7_readMore 176 = .ok (.istore_n 2, 1) := by decide +kernel
theorem dX7_readMore_177 : decode cX7_readMore 177 = .ok (.aload_n 0, 1) := by decide +kernel
theorem dX7_readMore_178 : decode cX7_readMore 178 = .ok (.dup, 1) := by decide +kernel
theorem dX7_readMore_179 : decode cX7_readMore 179 = .ok (.getfield 118, 3) := by decide +kernel
theorem dX7_readMore_182 : decode cX7_readMore 182 = .ok (.iconst 1, 1) := by decide +kernel
theorem dX7_readMore_183 : decode cX7_readMore 183 = .ok (.iload_n 2, 1) := by decide +kernel
theorem dX7_readMore_184 : decode cX7_readMore 184 = .ok (.ishl, 1) := by decide +kernel
theorem dX7_readMore_185 : decode cX7_readMore 185 = .ok (.ior, 1) := by decide +kernel
theorem dX7_readMore_186 : decode cX7_readMore 186 = .ok (.putfield 118, 3) := by decide +kernel
theorem dX7_readMore_189 : decode cX7_readMore 189 = .ok (.aload_n 0, 1) := by decide +kernel
theorem dX7_readMore_190 : decode cX7_readMore 190 = .ok (.getfield 13, 3) := by decide +kernel
theorem dX7_readMore_193 : decode cX7_readMore 193 = .ok (.bipush 21, 2) := by decide +kernel
theorem dX7_readMore_195 : decode cX7_readMore 195 = .ok (.iload_n 2, 1) := by decide +kernel
theorem dX7_readMore_196 : decode cX7_readMore 196 = .ok (.iadd, 1) := by decide +kernel
theorem dX7_readMore_197 : decode cX7_readMore 197 = .ok (.aload_n 0, 1) := by decide +kernel
theorem dX7_readMore_198 : decode cX7_readMore 198 = .ok (.iconst 0, 1) := by decide +kernel
theorem dX7_readMore_199 : decode cX7_readMore 199 = .ok (.bipush 40, 2) := by decide +kernel
theorem dX7_readMore_201 : decode cX7_readMore 201 = .ok (.iconst 0, 1) := by decide +kernel
