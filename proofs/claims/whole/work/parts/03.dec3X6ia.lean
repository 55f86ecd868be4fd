theorem dX6_init_0 : decode cX6_init 0 = .ok (.aload_n 0, 1) := by decide +kernel
theorem dX6_init_1 : decode cX6_init 1 = .ok (.invokespecial 1, 3) := by decide +kernel
theorem dX6_init_4 : decode cX6_init 4 = .ok (.aload_n 0, 1) := by decide +kernel
theorem dX6_init_5 : decode cX6_init 5 = .ok (.sipush 160, 3) := by decide +kernel
theorem dX6_init_8 : decode cX6_init 8 = .ok (.newarray .int, 2) := by decide +kernel
theorem dX6_init_10 : decode cX6_init 10 = .ok (.dup, 1) := by decide +kernel
theorem dX6_init_11 : decode cX6_init 11 = .ok (.iconst 0, 1) := by decide +kernel
theorem dX6_init_12 : decode cX6_init 12 = .ok (.iconst 2, 1) := by decide +kernel
theorem dX6_init_13 : decode cX6_init 13 = .ok (.iastore, 1) := by decide +kernel
theorem dX6_init_14 : decode cX6_init 14 = .ok (.dup, 1) := by decide +kernel
theorem dX6_init_15 : decode cX6_init 15 = .ok (.iconst 1, 1) := by decide +kernel
theorem dX6_init_16 : decode cX6_init 16 = .ok (.sipush 790, 3) := by decide +kernel
theorem dX6_init_19 : decode cX6_init 19 = .ok (.iastore, 1) := by decide +kernel
theorem dX6_init_20 : decode cX6_init 20 = .ok (.dup, 1) := by decide +kernel
theorem dX6_init_21 : decode cX6_init 21 = .ok (.iconst 2, 1) := by decide +kernel
theorem dX6_init_22 : decode cX6_init 22 = .ok (.iconst (-1), 1) := by decide +kernel
theorem dX6_init_23 : decode cX6_init 23 = .ok (.iastore, 1) := by decide +kernel
theorem dX6_init_24 : decode cX6_init 24 = .ok (.dup, 1) := by decide +kernel
theorem dX6_init_25 : decode cX6_init 25 = .ok (.iconst 3, 1) := by decide +kernel
theorem dX6_init_26 : decode cX6_init 26 = .ok (.iconst (-1), 1) := by decide +kernel
theorem dX6_init_27 : decode cX6_init 27 = .ok (.iastore, 1) := by decide +kernel
theorem dX6_init_28 : decode cX6_init 28 = .ok (.dup, 1) := by decide +kernel
theorem dX6_init_29 : decode cX6_init 29 = .ok (.iconst 4, 1) := by decide +kernel
theorem dX6_init_30 : decode cX6_init 30 = .ok (.iconst (-1), 1) := by decide +kernel
theorem dX6_init_31 : decode cX6_init 31 = .ok (.iastore, 1) := by decide +kernel
theorem dX6_init_32 : decode cX6_init 32 = .ok (.dup, 1) := by decide +kernel
theorem dX6_init_33 : decode cX6_init 33 = .ok (.iconst 5, 1) := by decide +kernel
theorem dX6_init_34 : decode cX6_init 34 = .ok (.iconst (-1), 1) := by decide +kernel
theorem dX6_init_35 : decode cX6_init 35 = .ok (.iastore, 1) := by decide +kernel
theorem dX6_init_36 : decode cX6_init 36 = .ok (.dup, 1) := by decide +kernel
theorem dX6_init_37 : decode cX6_init 37 = .ok (.bipush 6, 2) := by decide +kernel
theorem dX6_init_39 : decode cX6_init 39 = .ok (.iconst (-1), 1) := by decide +kernel
theorem dX6_init_40 : decode cX6_init 40 = .ok (.iastore, 1) := by decide +kernel
theorem dX6_init_41 : decode cX6_init 41 = .ok (.dup, 1) := by decide +kernel
theorem dX6_init_42 : decode cX6_init 42 = .ok (.bipush 7, 2) := by decide +kernel
theorem dX6_init_44 : decode cX6_init 44 = .ok (.iconst (-1), 1) := by decide +kernel
theorem dX6_init_45 : decode cX6_init 45 = .ok (.iastore, 1) := by decide +kernel
theorem dX6_init_46 : decode cX6_init 46 = .ok (.dup, 1) := by decide +kernel
theorem dX6_init_47 : decode cX6_init 47 = .ok (.bipush 8, 2) := by decide +kernel
theorem dX6_init_49 : decode cX6_init 49 = .ok (.iconst (-1), 1) := by decide +kernel
theorem dX6_init_50 : decode cX6_init 50 = .ok (.iastore, 1) := by decide +kernel
theorem dX6_init_51 : decode cX6_init 51 = .ok (.dup, 1) := by decide +kernel
theorem dX6_init_52 : decode cX6_init 52 = .ok (.bipush 9, 2) := by decide +kernel
theorem dX6_init_54 : decode cX6_init 54 = .ok (.iconst (-1), 1) := by decide +kernel
theorem dX6_init_55 : decode cX6_init 55 = .ok (.iastore, 1) := by decide +kernel
theorem dX6_init_56 : decode cX6_init 56 = .ok (.dup, 1) := by decide +kernel
theorem dX6_init_57 : decode cX6_init 57 = .ok (.bipush 10, 2) := by decide +kernel
theorem dX6_init_59 : decode cX6_init 59 = .ok (.iconst (-1), 1) := by decide +kernel
theorem dX6_init_60 : decode cX6_init 60 = .ok (.iastore, 1) := by decide +kernel
theorem dX6_init_61 : decode cX6_init 61 = .ok (.dup, 1) := by decide +kernel
theorem dX6_init_62 : decode cX6_init 62 = .ok (.bipush 11, 2) := by decide +kernel
theorem dX6_init_64 : decode cX6_init 64 = .ok (.iconst (-1), 1) := by decide +kernel
theorem dX6_init_65 : decode cX6_init 65 = .ok (.iastore, 1) := by decide +kernel
theorem dX6_init_66 : decode cX6_init 66 = .ok (.dup, 1) := by decide +kernel
theorem dX6_init_67 : decode cX6_init 67 = .ok (.bipush 12, 2) := by decide +kernel
theorem dX6_init_69 : decode cX6_init 69 = .ok (.iconst 0, 1) := by decide +kernel
theorem dX6_init_70 : decode cX6_init 70 = .ok (.iastore, 1) := by decide +kernel
theorem dX6_init_71 : decode cX6_init 71 = .ok (.dup, 1) := by decide +kernel
theorem dX6_init_72 : decode cX6_init 72 = .ok (.bipush 13, 2) := by decide +kernel
theorem dX6_init_74 : decode cX6_init 74 = .ok (.iconst 1, 1) := by decide +kernel
theorem dX6_init_75 : decode cX6_init 75 = .ok (.iastore, 1) := by decide +kernel
theorem dX6_init_76 : decode cX6_init 76 = .ok (.dup, 1) := by decide +kernel
theorem dX6_init_77 : decode cX6_init 77 = .ok (.bipush 14, 2) := by decide +kernel
theorem dX6_init_79 : decode cX6_init 79 = .ok (.iconst 0, 1) := by decide +kernel
theorem dX6_init_80 : decode cX6_init 80 = .ok (.iastore, 1) := by decide +kernel
theorem dX6_init_81 : decode cX6_init 81 = .ok (.dup, 1) := by decide +kernel
theorem dX6_init_82 : decode cX6_init 82 = .ok (.bipush 15, 2) := by decide +kernel
theorem dX6_init_84 : decode cX6_init 84 = .ok (.iconst 1, 1) := by decide +kernel
theorem dX6_init_85 : decode cX6_init 85 = .ok (.iastore, 1) := by decide +kernel
theorem dX6_init_86 : decode cX6_init 86 = .ok (.dup, 1) := by decide +kernel
theorem dX6_init_87 : decode cX6_init 87 = .ok (.bipush 16, 2) := by decide +kernel
theorem dX6_init_89 : decode cX6_init 89 = .ok (.iconst 1, 1) := by decide +kernel
theorem dX6_init_90 : decode cX6_init 90 = .ok (.iastore, 1) := by decide +kernel
theorem dX6_init_91 : decode cX6_init 91 = .ok (.dup, 1) := by decide +kernel
theorem dX6_init_92 : decode cX6_init 92 = .ok (.bipush 17, 2) := by decide +kernel
theorem dX6_init_94 : decode cX6_init 94 = .ok (.iconst 1, 1) := by decide +kernel
theorem dX6_init_95 : decode cX6_init 95 = .ok (.iastore, 1) := by decide +kernel
theorem dX6_init_96 : decode cX6_init 96 = .ok (.dup, 1) := by decide +kernel
theorem dX6_init_97 : decode cX6_init 97 = .ok (.bipush 18, 2) := by decide +kernel
theorem dX6_init_99 : decode cX6_init 99 = .ok (.iconst 1, 1) := by decide +kernel
theorem dX6_init_100 : decode cX6_init 100 = .ok (.iastore, 1) := by decide +kernel
theorem dX6_init_101 : decode cX6_init 101 = .ok (.dup, 1) := by decide +kernel
theorem dX6_init_102 : decode cX6_init 102 = .ok (.bipush 19, 2) := by decide +kernel
theorem dX6_init_104 : decode cX6_init 104 = .ok (.sipush 161, 3) := by decide +kernel
theorem dX6_init_107 : decode cX6_init 107 = .ok (.iastore, 1) := by decide +kernel
theorem dX6_init_108 : decode cX6_init 108 = .ok (.dup, 1) := by decide +kernel
theorem dX6_init_109 : decode cX6_init 109 = .ok (.bipush 20, 2) := by decide +kernel
theorem dX6_init_111 : decode cX6_init 111 = .ok (.iconst 1, 1) := by decide +kernel
theorem dX6_init_112 : decode cX6_init 112 = .ok (.iastore, 1) := by decide +kernel
theorem dX6_init_113 : decode cX6_init 113 = .ok (.dup, 1) := by decide +kernel
theorem dX6_init_114 : decode cX6_init 114 = .ok (.bipush 21, 2) := by decide +kernel
theorem dX6_init_116 : decode cX6_init 116 = .ok (.iconst 1, 1) := by decide +kernel
theorem dX6_init_117 : decode cX6_init 117 = .ok (.iastore, 1) := by decide +kernel
theorem dX6_init_118 : decode cX6_init 118 = .ok (.dup, 1) := by decide +kernel
theorem dX6_init_119 : decode cX6_init 119 = .ok (.bipush 22, 2) := by decide +kernel
theorem dX6_init_121 : decode cX6_init 121 = .ok (.sipush 790, 3) := by decide +kernel
theorem dX6_init_124 : decode cX6_init 124 = .ok (.iastore, 1) := by decide +kernel
theorem dX6_init_125 : decode cX6_init 125 = .ok (.dup, 1) := by decide +kernel
theorem dX6_init_126 : decode cX6_init 126 = .ok (.bipush 23, 2) := by decide +kernel
theorem dX6_init_128 : decode cX6_init 128 = .ok (.iconst 3, 1) := by decide +kernel
theorem dX6_init_129 : decode cX6_init 129 = .ok (.iastore, 1) := by decide +kernel
theorem dX6_init_130 : decode cX6_init 130 = .ok (.dup, 1) := by decide +kernel
theorem dX6_init_131 : decode cX6_init 131 = .ok (.bipush 24, 2) := by decide +kernel
theorem dX6_init_133 : decode cX6_init 133 = .ok (.iconst 5, 1) := by decide +kernel
theorem dX6_init_134 : decode cX6_init 134 = .ok (.iastore, 1) := by decide +kernel
theorem dX6_init_135 : decode cX6_init 135 = .ok (.dup, 1) := by decide +kernel
theorem dX6_init_136 : decode cX6_init 136 = .ok (.bipush 25, 2) := by decide +kernel
theorem dX6_init_138 : decode cX6_init 138 = .ok (.iconst 5, 1) := by decide +kernel
theorem dX6_init_139 : decode cX6_init 139 = .ok (.iastore, 1) := by decide +kernel
theorem dX6_init_140 : decode cX6_init 140 = .ok (.dup, 1) := by decide +kernel
theorem dX6_init_141 : decode cX6_init 141 = .ok (.bipush 26, 2) := by decide +kernel
theorem dX6_init_143 : decode cX6_init 143 = .ok (.bipush 6, 2) := by decide +kernel
theorem dX6_init_145 : decode cX6_init 145 = .ok (.iastore, 1) := by decide +kernel
theorem dX6_init_146 : decode cX6_init 146 = .ok (.dup, 1) := by decide +kernel
theorem dX6_init_147 : decode cX6_init 147 = .ok (.bipush 27, 2) := by decide +kernel
theorem dX6_init_149 : decode cX6_init 149 = .ok (.bipush 7, 2) := by decide +kernel
theorem dX6_init_151 : decode cX6_init 151 = .ok (.iastore, 1) := by decide +kernel
theorem dX6_init_152 : decode cX6_init 152 = .ok (.dup, 1) := by decide +kernel
theorem dX6_init_153 : decode cX6_init 153 = .ok (.bipush 28, 2) := by decide +kernel
theorem dX6_init_155 : decode cX6_init 155 = .ok (.bipush 8, 2) := by decide +kernel
theorem dX6_init_157 : decode cX6_init 157 = .ok (.iastore, 1) := by decide +kernel
theorem dX6_init_158 : decode cX6_init 158 = .ok (.dup, 1) := by decide +kernel
theorem dX6_init_159 : decode cX6_init 159 = .ok (.bipush 29, 2) := by decide +kernel
theorem dX6_init_161 : decode cX6_init 161 = .ok (.bipush 9, 2) := by decide +kernel
theorem dX6_init_163 : decode cX6_init 163 = .ok (.iastore, 1) := by decide +kernel
theorem dX6_init_164 : decode cX6_init 164 = .ok (.dup, 1) := by decide +kernel
theorem dX6_init_165 : decode cX6_init 165 = .ok (.bipush 30, 2) := by decide +kernel
theorem dX6_init_167 : decode cX6_init 167 = .ok (.iconst 0, 1) := by decide +kernel
theorem dX6_init_168 : decode cX6_init 168 = .ok (.iastore, 1) := by decide +kernel
theorem dX6_init_169 : decode cX6_init 169 = .ok (.dup, 1) := by decide +kernel
theorem dX6_init_170 : decode cX6_init 170 = .ok (.bipush 31, 2) := by decide +kernel
theorem dX6_init_172 : decode cX6_init 172 = .ok (.iconst 0, 1) := by decide +kernel
theorem dX6_init_173 : decode cX6_init 173 = .ok (.iastore, 1) := by decide +kernel
theorem dX6_init_174 : decode cX6_init 174 = .ok (.dup, 1) := by decide +kernel
theorem dX6_init_175 : decode cX6_init 175 = .ok (.bipush 32, 2) := by decide +kernel
theorem dX6_init_177 : decode cX6_init 177 = .ok (.iconst 2, 1) := by decide +kernel
theorem dX6_init_178 : decode cX6_init 178 = .ok (.iastore, 1) := by decide +kernel
theorem dX6_init_179 : decode cX6_init 179 = .ok (.dup, 1) := by decide +kernel
theorem dX6_init_180 : decode cX6_init 180 = .ok (.bipush 33, 2) := by decide +kernel
theorem dX6_init_182 : decode cX6_init 182 = .ok (.iconst 2, 1) := by decide +kernel
theorem dX6_init_183 : decode cX6_init 183 = .ok (.iastore, 1) := by decide +kernel
theorem dX6_init_184 : decode cX6_init 184 = .ok (.dup, 1) := by decide +kernel
theorem dX6_init_185 : decode cX6_init 185 = .ok (.bipush 34, 2) := by decide +kernel
theorem dX6_init_187 : decode cX6_init 187 = .ok (.iconst 4, 1) := by decide +kernel
theorem dX6_init_188 : decode cX6_init 188 = .ok (.iastore, 1) := by decide +kernel
theorem dX6_init_189 : decode cX6_init 189 = .ok (.dup, 1) := by decide +kernel
theorem dX6_init_190 : decode cX6_init 190 = .ok (.bipush 35, 2) := by decide +kernel
theorem dX6_init_192 : decode cX6_init 192 = .ok (.iconst 4, 1) := by decide +kernel
theorem dX6_init_193 : decode cX6_init 193 = .ok (.iastore, 1) := by decide +kernel
theorem dX6_init_194 : decode cX6_init 194 = .ok (.dup, 1) := by decide +kernel
theorem dX6_init_195 : decode cX6_init 195 = .ok (.bipush 36, 2) := by decide +kernel
theorem dX6_init_197 : decode cX6_init 197 = .ok (.sipush 1044, 3) := by decide +kernel
theorem dX6_init_200 : decode cX6_init 200 = .ok (.iastore, 1) := by decide +kernel
theorem dX6_init_201 : decode cX6_init 201 = .ok (.dup, 1) := by decide +kernel
theorem dX6_init_202 : decode cX6_init 202 = .ok (.bipush 37, 2) := by decide +kernel
theorem dX6_init_204 : decode cX6_init 204 = .ok (.sipush 1044, 3) := by decide +kernel
theorem dX6_init_207 : decode cX6_init 207 = .ok (.iastore, 1) := by decide +kernel
theorem dX6_init_208 : decode cX6_init 208 = .ok (.dup, 1) := by decide +kernel
theorem dX6_init_209 : decode cX6_init 209 = .ok (.bipush 38, 2) := by decide +kernel
theorem dX6_init_211 : decode cX6_init 211 = .ok (.sipush 1044, 3) := by decide +kernel
theorem dX6_init_214 : decode cX6_init 214 = .ok (.iastore, 1) := by decide +kernel
theorem dX6_init_215 : decode cX6_init 215 = .ok (.dup, 1) := by decide +kernel
theorem dX6_init_216 : decode cX6_init 216 = .ok (.bipush 39, 2) := by decide +kernel
theorem dX6_init_218 : decode cX6_init 218 = .ok (.sipush 16804, 3) := by decide +kernel
theorem dX6_init_221 : decode cX6_init 221 = .ok (.iastore, 1) := by decide +kernel
theorem dX6_init_222 : decode cX6_init 222 = .ok (.dup, 1) := by decide +kernel
theorem dX6_init_223 : decode cX6_init 223 = .ok (.bipush 40, 2) := by decide +kernel
theorem dX6_init_225 : decode cX6_init 225 = .ok (.iconst (-1), 1) := by decide +kernel
theorem dX6_init_226 : decode cX6_init 226 = .ok (.iastore, 1) := by decide +kernel
theorem dX6_init_227 : decode cX6_init 227 = .ok (.dup, 1) := by decide +kernel
theorem dX6_init_228 : decode cX6_init 228 = .ok (.bipush 41, 2) := by decide +kernel
theorem dX6_init_230 : decode cX6_init 230 = .ok (.iconst (-1), 1) := by decide +kernel
theorem dX6_init_231 : decode cX6_init 231 = .ok (.iastore, 1) := by decide +kernel
theorem dX6_init_232 : decode cX6_init 232 = .ok (.dup, 1) := by decide +kernel
theorem dX6_init_233 : decode cX6_init 233 = .ok (.bipush 42, 2) := by decide +kernel
theorem dX6_init_235 : decode cX6_init 235 = .ok (.iconst (-1), 1) := by decide +kernel
theorem dX6_init_236 : decode cX6_init 236 = .ok (.iastore, 1) := by decide +kernel
theorem dX6_init_237 : decode cX6_init 237 = .ok (.dup, 1) := by decide +kernel
theorem dX6_init_238 : decode cX6_init 238 = .ok (.bipush 43, 2) := by decide +kernel
theorem dX6_init_240 : decode cX6_init 240 = .ok (.iconst (-1), 1) := by decide +kernel
theorem dX6_init_241 : decode cX6_init 241 = .ok (.iastore, 1) := by decide +kernel
theorem dX6_init_242 : decode cX6_init 242 = .ok (.dup, 1) := by decide +kernel
theorem dX6_init_243 : decode cX6_init 243 = .ok (.bipush 44, 2) := by decide +kernel
theorem dX6_init_245 : decode cX6_init 245 = .ok (.bipush 68, 2) := by decide +kernel
theorem dX6_init_247 : decode cX6_init 247 = .ok (.iastore, 1) := by decide +kernel
theorem dX6_init_248 : decode cX6_init 248 = .ok (.dup, 1) := by decide +kernel
theorem dX6_init_249 : decode cX6_init 249 = .ok (.bipush 45, 2) := by decide +kernel
theorem dX6_init_251 : decode cX6_init 251 = .ok (.bipush 69, 2) := by decide +kernel
theorem dX6_init_253 : decode cX6_init 253 = .ok (.iastore, 1) := by decide +kernel
theorem dX6_init_254 : decode cX6_init 254 = .ok (.dup, 1) := by decide +kernel
theorem dX6_init_255 : decode cX6_init 255 = .ok (.bipush 46, 2) := by decide +kernel
theorem dX6_init_257 : decode cX6_init 257 = .ok (.bipush 54, 2) := by decide +kernel
theorem dX6_init_259 : decode cX6_init 259 = .ok (.iastore, 1) := by decide +kernel
theorem dX6_init_260 : decode cX6_init 260 = .ok (.dup, 1) := by decide +kernel
theorem dX6_init_261 : decode cX6_init 261 = .ok (.bipush 47, 2) := by decide +kernel
theorem dX6_init_263 : decode cX6_init 263 = .ok (.bipush 54, 2) := by decide +kernel
theorem dX6_init_265 : decode cX6_init 265 = .ok (.iastore, 1) := by decide +kernel
theorem dX6_init_266 : decode cX6_init 266 = .ok (.dup, 1) := by decide +kernel
theorem dX6_init_267 : decode cX6_init 267 = .ok (.bipush 48, 2) := by decide +kernel
theorem dX6_init_269 : decode cX6_init 269 = .ok (.bipush 56, 2) := by decide +kernel
theorem dX6_init_271 : decode cX6_init 271 = .ok (.iastore, 1) := by decide +kernel
theorem dX6_init_272 : decode cX6_init 272 = .ok (.dup, 1) := by decide +kernel
theorem dX6_init_273 : decode cX6_init 273 = .ok (.bipush 49, 2) := by decide +kernel
theorem dX6_init_275 : decode cX6_init 275 = .ok (.iconst (-1), 1) := by decide +kernel
theorem dX6_init_276 : decode cX6_init 276 = .ok (.iastore, 1) := by decide +kernel
theorem dX6_init_277 : decode cX6_init 277 = .ok (.dup, 1) := by decide +kernel
theorem dX6_init_278 : decode cX6_init 278 = .ok (.bipush 50, 2) := by decide +kernel
theorem dX6_init_280 : decode cX6_init 280 = .ok (.iconst (-1), 1) := by decide +kernel
theorem dX6_init_281 : decode cX6_init 281 = .ok (.iastore, 1) := by decide +kernel
theorem dX6_init_282 : decode cX6_init 282 = .ok (.dup, 1) := by decide +kernel
theorem dX6_init_283 : decode cX6_init 283 = .ok (.bipush 51, 2) := by decide +kernel
theorem dX6_init_285 : decode cX6_init 285 = .ok (.iconst (-1), 1) := by decide +kernel
theorem dX6_init_286 : decode cX6_init 286 = .ok (.iastore, 1) := by decide +kernel
theorem dX6_init_287 : decode cX6_init 287 = .ok (.dup, 1) := by decide +kernel
theorem dX6_init_288 : decode cX6_init 288 = .ok (.bipush 52, 2) := by decide +kernel
theorem dX6_init_290 : decode cX6_init 290 = .ok (.iconst (-1), 1) := by decide +kernel
theorem dX6_init_291 : decode cX6_init 291 = .ok (.iastore, 1) := by decide +kernel
theorem dX6_init_292 : decode cX6_init 292 = .ok (.dup, 1) := by decide +kernel
theorem dX6_init_293 : decode cX6_init 293 = .ok (.bipush 53, 2) := by decide +kernel
theorem dX6_init_295 : decode cX6_init 295 = .ok (.iconst (-1), 1) := by decide +kernel
theorem dX6_init_296 : decode cX6_init 296 = .ok (.iastore, 1) := by decide +kernel
theorem dX6_init_297 : decode cX6_init 297 = .ok (.dup, 1) := by decide +kernel
theorem dX6_init_298 : decode cX6_init 298 = .ok (.bipush 54, 2) := by decide +kernel
theorem dX6_init_300 : decode cX6_init 300 = .ok (.iconst 2, 1) := by decide +kernel
theorem dX6_init_301 : decode cX6_init 301 = .ok (.iastore, 1) := by decide +kernel
theorem dX6_init_302 : decode cX6_init 302 = .ok (.dup, 1) := by decide +kernel
theorem dX6_init_303 : decode cX6_init 303 = .ok (.bipush 55, 2) := by decide +kernel
theorem dX6_init_305 : decode cX6_init 305 = .ok (.iconst 3, 1) := by decide +kernel
theorem dX6_init_306 : decode cX6_init 306 = .ok (.iastore, 1) := by decide +kernel
theorem dX6_init_307 : decode cX6_init 307 = .ok (.dup, 1) := by decide +kernel
theorem dX6_init_308 : decode cX6_init 308 = .ok (.bipush 56, 2) := by decide +kernel
theorem dX6_init_310 : decode cX6_init 310 = .ok (.iconst 3, 1) := by decide +kernel
theorem dX6_init_311 : decode cX6_init 311 = .ok (.iastore, 1) := by decide +kernel
theorem dX6_init_312 : decode cX6_init 312 = .ok (.dup, 1) := by decide +kernel
theorem dX6_init_313 : decode cX6_init 313 = .ok (.bipush 57, 2) := by decide +kernel
theorem dX6_init_315 : decode cX6_init 315 = .ok (.iconst 3, 1) := by decide +kernel
theorem dX6_init_316 : decode cX6_init 316 = .ok (.iastore, 1) := by decide +kernel
theorem dX6_init_317 : decode cX6_init 317 = .ok (.dup, 1) := by decide +kernel
theorem dX6_init_318 : decode cX6_init 318 = .ok (.bipush 58, 2) := by decide +kernel
theorem dX6_init_320 : decode cX6_init 320 = .ok (.iconst 3, 1) := by decide +kernel
theorem dX6_init_321 : decode cX6_init 321 = .ok (.iastore, 1) := by decide +kernel
theorem dX6_init_322 : decode cX6_init 322 = .ok (.dup, 1) := by decide +kernel
theorem dX6_init_323 : decode cX6_init 323 = .ok (.bipush 59, 2) := by decide +kernel
theorem dX6_init_325 : decode cX6_init 325 = .ok (.iconst (-1), 1) := by decide +kernel
theorem dX6_init_326 : decode cX6_init 326 = .ok (.iastore, 1) := by decide +kernel
theorem dX6_init_327 : decode cX6_init 327 = .ok (.dup, 1) := by decide +kernel
theorem dX6_init_328 : decode cX6_init 328 = .ok (.bipush 60, 2) := by decide +kernel
theorem dX6_init_330 : decode cX6_init 330 = .ok (.iconst (-1), 1) := by decide +kernel
theorem dX6_init_331 : decode cX6_init 331 = .ok (.iastore, 1) := by decide +kernel
theorem dX6_init_332 : decode cX6_init 332 = .ok (.dup, 1) := by decide +kernel
theorem dX6_init_333 : decode cX6_init 333 = .ok (.bipush 61, 2) := by decide +kernel
theorem dX6_init_335 : decode cX6_init 335 = .ok (.iconst (-1), 1) := by decide +kernel
theorem dX6_init_336 : decode cX6_init 336 = .ok (.iastore, 1) := by decide +kernel
theorem dX6_init_337 : decode cX6_init 337 = .ok (.dup, 1) := by decide +kernel
theorem dX6_init_338 : decode cX6_init 338 = .ok (.bipush 62, 2) := by decide +kernel
theorem dX6_init_340 : decode cX6_init 340 = .ok (.bipush 98, 2) := by decide +kernel
theorem dX6_init_342 : decode cX6_init 342 = .ok (.iastore, 1) := by decide +kernel
theorem dX6_init_343 : decode cX6_init 343 = .ok (.dup, 1) := by decide +kernel
theorem dX6_init_344 : decode cX6_init 344 = .ok (.bipush 63, 2) := by decide +kernel
theorem dX6_init_346 : decode cX6_init 346 = .ok (.sipush 21272, 3) := by decide +kernel
theorem dX6_init_349 : decode cX6_init 349 = .ok (.iastore, 1) := by decide +kernel
theorem dX6_init_350 : decode cX6_init 350 = .ok (.dup, 1) := by decide +kernel
theorem dX6_init_351 : decode cX6_init 351 = .ok (.bipush 64, 2) := by decide +kernel
theorem dX6_init_353 : decode cX6_init 353 = .ok (.iconst 4, 1) := by decide +kernel
theorem dX6_init_354 : decode cX6_init 354 = .ok (.iastore, 1) := by decide +kernel
theorem dX6_init_355 : decode cX6_init 355 = .ok (.dup, 1) := by decide +kernel
theorem dX6_init_356 : decode cX6_init 356 = .ok (.bipush 65, 2) := by decide +kernel
theorem dX6_init_358 : decode cX6_init 358 = .ok (.iconst 5, 1) := by decide +kernel
theorem dX6_init_359 : decode cX6_init 359 = .ok (.iastore, 1) := by decide +kernel
theorem dX6_init_360 : decode cX6_init 360 = .ok (.dup, 1) := by decide +kernel
theorem dX6_init_361 : decode cX6_init 361 = .ok (.bipush 66, 2) := by decide +kernel
theorem dX6_init_363 : decode cX6_init 363 = .ok (.bipush 88, 2) := by decide +kernel
theorem dX6_init_365 : decode cX6_init 365 = .ok (.iastore, 1) := by decide +kernel
theorem dX6_init_366 : decode cX6_init 366 = .ok (.dup, 1) := by decide +kernel
theorem dX6_init_367 : decode cX6_init 367 = .ok (.bipush 67, 2) := by decide +kernel
theorem dX6_init_369 : decode cX6_init 369 = .ok (.sipush 2393, 3) := by decide +kernel
theorem dX6_init_372 : decode cX6_init 372 = .ok (.iastore, 1) := by decide +kernel
theorem dX6_init_373 : decode cX6_init 373 = .ok (.dup, 1) := by decide +kernel
theorem dX6_init_374 : decode cX6_init 374 = .ok (.bipush 68, 2) := by decide +kernel
theorem dX6_init_376 : decode cX6_init 376 = .ok (.bipush 88, 2) := by decide +kernel
theorem dX6_init_378 : decode cX6_init 378 = .ok (.iastore, 1) := by decide +kernel
theorem dX6_init_379 : decode cX6_init 379 = .ok (.dup, 1) := by decide +kernel
theorem dX6_init_380 : decode cX6_init 380 = .ok (.bipush 69, 2) := by decide +kernel
theorem dX6_init_382 : decode cX6_init 382 = .ok (.sipush 21416, 3) := by decide +kernel
theorem dX6_init_385 : decode cX6_init 385 = .ok (.iastore, 1) := by decide +kernel
theorem dX6_init_386 : decode cX6_init 386 = .ok (.dup, 1) := by decide +kernel
theorem dX6_init_387 : decode cX6_init 387 = .ok (.bipush 70, 2) := by decide +kernel
theorem dX6_init_389 : decode cX6_init 389 = .ok (.iconst (-1), 1) := by decide +kernel
theorem dX6_init_390 : decode cX6_init 390 = .ok (.iastore, 1) := by decide +kernel
theorem dX6_init_391 : decode cX6_init 391 = .ok (.dup, 1) := by decide +kernel
theorem dX6_init_392 : decode cX6_init 392 = .ok (.bipush 71, 2) := by decide +kernel
theorem dX6_init_394 : decode cX6_init 394 = .ok (.iconst (-1), 1) := by decide +kernel
theorem dX6_init_395 : decode cX6_init 395 = .ok (.iastore, 1) := by decide +kernel
theorem dX6_init_396 : decode cX6_init 396 = .ok (.dup, 1) := by decide +kernel
theorem dX6_init_397 : decode cX6_init 397 = .ok (.bipush 72, 2) := by decide +kernel
theorem dX6_init_399 : decode cX6_init 399 = .ok (.bipush 98, 2) := by decide +kernel
theorem dX6_init_401 : decode cX6_init 401 = .ok (.iastore, 1) := by decide +kernel
theorem dX6_init_402 : decode cX6_init 402 = .ok (.dup, 1) := by decide +kernel
theorem dX6_init_403 : decode cX6_init 403 = .ok (.bipush 73, 2) := by decide +kernel
theorem dX6_init_405 : decode cX6_init 405 = .ok (.sipush 21270, 3) := by decide +kernel
theorem dX6_init_408 : decode cX6_init 408 = .ok (.iastore, 1) := by decide +kernel
theorem dX6_init_409 : decode cX6_init 409 = .ok (.dup, 1) := by decide +kernel
theorem dX6_init_410 : decode cX6_init 410 = .ok (.bipush 74, 2) := by decide +kernel
theorem dX6_init_412 : decode cX6_init 412 = .ok (.iconst 4, 1) := by decide +kernel
theorem dX6_init_413 : decode cX6_init 413 = .ok (.iastore, 1) := by decide +kernel
theorem dX6_init_414 : decode cX6_init 414 = .ok (.dup, 1) := by decide +kernel
theorem dX6_init_415 : decode cX6_init 415 = .ok (.bipush 75, 2) := by decide +kernel
theorem dX6_init_417 : decode cX6_init 417 = .ok (.iconst 5, 1) := by decide +kernel
theorem dX6_init_418 : decode cX6_init 418 = .ok (.iastore, 1) := by decide +kernel
theorem dX6_init_419 : decode cX6_init 419 = .ok (.dup, 1) := by decide +kernel
theorem dX6_init_420 : decode cX6_init 420 = .ok (.bipush 76, 2) := by decide +kernel
theorem dX6_init_422 : decode cX6_init 422 = .ok (.bipush 86, 2) := by decide +kernel
theorem dX6_init_424 : decode cX6_init 424 = .ok (.iastore, 1) := by decide +kernel
theorem dX6_init_425 : decode cX6_init 425 = .ok (.dup, 1) := by decide +kernel
theorem dX6_init_426 : decode cX6_init 426 = .ok (.bipush 77, 2) := by decide +kernel
theorem dX6_init_428 : decode cX6_init 428 = .ok (.bipush 87, 2) := by decide +kernel
theorem dX6_init_430 : decode cX6_init 430 = .ok (.iastore, 1) := by decide +kernel
theorem dX6_init_431 : decode cX6_init 431 = .ok (.dup, 1) := by decide +kernel
theorem dX6_init_432 : decode cX6_init 432 = .ok (.bipush 78, 2) := by decide +kernel
theorem dX6_init_434 : decode cX6_init 434 = .ok (.bipush 86, 2) := by decide +kernel
theorem dX6_init_436 : decode cX6_init 436 = .ok (.iastore, 1) := by decide +kernel
theorem dX6_init_437 : decode cX6_init 437 = .ok (.dup, 1) := by decide +kernel
theorem dX6_init_438 : decode cX6_init 438 = .ok (.bipush 79, 2) := by decide +kernel
theorem dX6_init_440 : decode cX6_init 440 = .ok (.sipush 21414, 3) := by decide +kernel
theorem dX6_init_443 : decode cX6_init 443 = .ok (.iastore, 1) := by decide +kernel
theorem dX6_init_444 : decode cX6_init 444 = .ok (.dup, 1) := by decide +kernel
theorem dX6_init_445 : decode cX6_init 445 = .ok (.bipush 80, 2) := by decide +kernel
theorem dX6_init_447 : decode cX6_init 447 = .ok (.iconst (-1), 1) := by decide +kernel
theorem dX6_init_448 : decode cX6_init 448 = .ok (.iastore, 1) := by decide +kernel
theorem dX6_init_449 : decode cX6_init 449 = .ok (.dup, 1) := by decide +kernel
theorem dX6_init_450 : decode cX6_init 450 = .ok (.bipush 81, 2) := by decide +kernel
theorem dX6_init_452 : decode cX6_init 452 = .ok (.iconst (-1), 1) := by decide +kernel
theorem dX6_init_453 : decode cX6_init 453 = .ok (.iastore, 1) := by decide +kernel
theorem dX6_init_454 : decode cX6_init 454 = .ok (.dup, 1) := by decide +kernel
theorem dX6_init_455 : decode cX6_init 455 = .ok (.bipush 82, 2) := by decide +kernel
theorem dX6_init_457 : decode cX6_init 457 = .ok (.bipush 98, 2) := by decide +kernel
theorem dX6_init_459 : decode cX6_init 459 = .ok (.iastore, 1) := by decide +kernel
theorem dX6_init_460 : decode cX6_init 460 = .ok (.dup, 1) := by decide +kernel
theorem dX6_init_461 : decode cX6_init 461 = .ok (.bipush 83, 2) := by decide +kernel
theorem dX6_init_463 : decode cX6_init 463 = .ok (.bipush 99, 2) := by decide +kernel
theorem dX6_init_465 : decode cX6_init 465 = .ok (.iastore, 1) := by decide +kernel
theorem dX6_init_466 : decode cX6_init 466 = .ok (.dup, 1) := by decide +kernel
theorem dX6_init_467 : decode cX6_init 467 = .ok (.bipush 84, 2) := by decide +kernel
theorem dX6_init_469 : decode cX6_init 469 = .ok (.iconst 4, 1) := by decide +kernel
theorem dX6_init_470 : decode cX6_init 470 = .ok (.iastore, 1) := by decide +kernel
theorem dX6_init_471 : decode cX6_init 471 = .ok (.dup, 1) := by decide +kernel
theorem dX6_init_472 : decode cX6_init 472 = .ok (.bipush 85, 2) := by decide +kernel
theorem dX6_init_474 : decode cX6_init 474 = .ok (.iconst 5, 1) := by decide +kernel
theorem dX6_init_475 : decode cX6_init 475 = .ok (.iastore, 1) := by decide +kernel
theorem dX6_init_476 : decode cX6_init 476 = .ok (.dup, 1) := by decide +kernel
theorem dX6_init_477 : decode cX6_init 477 = .ok (.bipush 86, 2) := by decide +kernel
theorem dX6_init_479 : decode cX6_init 479 = .ok (.bipush 23, 2) := by decide +kernel
theorem dX6_init_481 : decode cX6_init 481 = .ok (.iastore, 1) := by decide +kernel
theorem dX6_init_482 : decode cX6_init 482 = .ok (.dup, 1) := by decide +kernel
theorem dX6_init_483 : decode cX6_init 483 = .ok (.bipush 87, 2) := by decide +kernel
theorem dX6_init_485 : decode cX6_init 485 = .ok (.bipush 54, 2) := by decide +kernel
theorem dX6_init_487 : decode cX6_init 487 = .ok (.iastore, 1) := by decide +kernel
theorem dX6_init_488 : decode cX6_init 488 = .ok (.dup, 1) := by decide +kernel
theorem dX6_init_489 : decode cX6_init 489 = .ok (.bipush 88, 2) := by decide +kernel
theorem dX6_init_491 : decode cX6_init 491 = .ok (.sipush 2329, 3) := by decide +kernel
theorem dX6_init_494 : decode cX6_init 494 = .ok (.iastore, 1) := by decide +kernel
theorem dX6_init_495 : decode cX6_init 495 = .ok (.dup, 1) := by decide +kernel
theorem dX6_init_496 : decode cX6_init 496 = .ok (.bipush 89, 2) := by decide +kernel
theorem dX6_init_498 : decode cX6_init 498 = .ok (.sipush 934, 3) := by decide +kernel
theorem dX6_init_501 : decode cX6_init 501 = .ok (.iastore, 1) := by decide +kernel
theorem dX6_init_502 : decode cX6_init 502 = .ok (.dup, 1) := by decide +kernel
theorem dX6_init_503 : decode cX6_init 503 = .ok (.bipush 90, 2) := by decide +kernel
theorem dX6_init_505 : decode cX6_init 505 = .ok (.iconst (-1), 1) := by decide +kernel
theorem dX6_init_506 : decode cX6_init 506 = .ok (.iastore, 1) := by decide +kernel
theorem dX6_init_507 : decode cX6_init 507 = .ok (.dup, 1) := by decide +kernel
theorem dX6_init_508 : decode cX6_init 508 = .ok (.bipush 91, 2) := by decide +kernel
theorem dX6_init_510 : decode cX6_init 510 = .ok (.iconst (-1), 1) := by decide +kernel
theorem dX6_init_511 : decode cX6_init 511 = .ok (.iastore, 1) := by decide +kernel
theorem dX6_init_512 : decode cX6_init 512 = .ok (.dup, 1) := by decide +kernel
theorem dX6_init_513 : decode cX6_init 513 = .ok (.bipush 92, 2) := by decide +kernel
theorem dX6_init_515 : decode cX6_init 515 = .ok (.bipush 98, 2) := by decide +kernel
theorem dX6_init_517 : decode cX6_init 517 = .ok (.iastore, 1) := by decide +kernel
theorem dX6_init_518 : decode cX6_init 518 = .ok (.dup, 1) := by decide +kernel
theorem dX6_init_519 : decode cX6_init 519 = .ok (.bipush 93, 2) := by decide +kernel
theorem dX6_init_521 : decode cX6_init 521 = .ok (.bipush 99, 2) := by decide +kernel
theorem dX6_init_523 : decode cX6_init 523 = .ok (.iastore, 1) := by decide +kernel
theorem dX6_init_524 : decode cX6_init 524 = .ok (.dup, 1) := by decide +kernel
theorem dX6_init_525 : decode cX6_init 525 = .ok (.bipush 94, 2) := by decide +kernel
theorem dX6_init_527 : decode cX6_init 527 = .ok (.iconst 4, 1) := by decide +kernel
theorem dX6_init_528 : decode cX6_init 528 = .ok (.iastore, 1) := by decide +kernel
theorem dX6_init_529 : decode cX6_init 529 = .ok (.dup, 1) := by decide +kernel
theorem dX6_init_530 : decode cX6_init 530 = .ok (.bipush 95, 2) := by decide +kernel
theorem dX6_init_532 : decode cX6_init 532 = .ok (.iconst 5, 1) := by decide +kernel
theorem dX6_init_533 : decode cX6_init 533 = .ok (.iastore, 1) := by decide +kernel
theorem dX6_init_534 : decode cX6_init 534 = .ok (.dup, 1) := by decide +kernel
theorem dX6_init_535 : decode cX6_init 535 = .ok (.bipush 96, 2) := by decide +kernel
theorem dX6_init_537 : decode cX6_init 537 = .ok (.sipush 790, 3) := by decide +kernel
theorem dX6_init_540 : decode cX6_init 540 = .ok (.iastore, 1) := by decide +kernel
theorem dX6_init_541 : decode cX6_init 541 = .ok (.dup, 1) := by decide +kernel
theorem dX6_init_542 : decode cX6_init 542 = .ok (.bipush 97, 2) := by decide +kernel
theorem dX6_init_544 : decode cX6_init 544 = .ok (.bipush 54, 2) := by decide +kernel
theorem dX6_init_546 : decode cX6_init 546 = .ok (.iastore, 1) := by decide +kernel
theorem dX6_init_547 : decode cX6_init 547 = .ok (.dup, 1) := by decide +kernel
theorem dX6_init_548 : decode cX6_init 548 = .ok (.bipush 98, 2) := by decide +kernel
theorem dX6_init_550 : decode cX6_init 550 = .ok (.sipush 792, 3) := by decide +kernel
theorem dX6_init_553 : decode cX6_init 553 = .ok (.iastore, 1) := by decide +kernel
theorem dX6_init_554 : decode cX6_init 554 = .ok (.dup, 1) := by decide +kernel
theorem dX6_init_555 : decode cX6_init 555 = .ok (.bipush 99, 2) := by decide +kernel
theorem dX6_init_557 : decode cX6_init 557 = .ok (.sipush 934, 3) := by decide +kernel
theorem dX6_init_560 : decode cX6_init 560 = .ok (.iastore, 1) := by decide +kernel
theorem dX6_init_561 : decode cX6_init 561 = .ok (.dup, 1) := by decide +kernel
theorem dX6_init_562 : decode cX6_init 562 = .ok (.bipush 100, 2) := by decide +kernel
theorem dX6_init_564 : decode cX6_init 564 = .ok (.iconst (-1), 1) := by decide +kernel
theorem dX6_init_565 : decode cX6_init 565 = .ok (.iastore, 1) := by decide +kernel
theorem dX6_init_566 : decode cX6_init 566 = .ok (.dup, 1) := by decide +kernel
theorem dX6_init_567 : decode cX6_init 567 = .ok (.bipush 101, 2) := by decide +kernel
theorem dX6_init_569 : decode cX6_init 569 = .ok (.iconst (-1), 1) := by decide +kernel
theorem dX6_init_570 : decode cX6_init 570 = .ok (.iastore, 1) := by decide +kernel
theorem dX6_init_571 : decode cX6_init 571 = .ok (.dup, 1) := by decide +kernel
theorem dX6_init_572 : decode cX6_init 572 = .ok (.bipush 102, 2) := by decide +kernel
theorem dX6_init_574 : decode cX6_init 574 = .ok (.bipush 98, 2) := by decide +kernel
theorem dX6_init_576 : decode cX6_init 576 = .ok (.iastore, 1) := by decide +kernel
theorem dX6_init_577 : decode cX6_init 577 = .ok (.dup, 1) := by decide +kernel
theorem dX6_init_578 : decode cX6_init 578 = .ok (.bipush 103, 2) := by decide +kernel
theorem dX6_init_580 : decode cX6_init 580 = .ok (.bipush 99, 2) := by decide +kernel
theorem dX6_init_582 : decode cX6_init 582 = .ok (.iastore, 1) := by decide +kernel
theorem dX6_init_583 : decode cX6_init 583 = .ok (.dup, 1) := by decide +kernel
theorem dX6_init_584 : decode cX6_init 584 = .ok (.bipush 104, 2) := by decide +kernel
theorem dX6_init_586 : decode cX6_init 586 = .ok (.bipush 100, 2) := by decide +kernel
theorem dX6_init_588 : decode cX6_init 588 = .ok (.iastore, 1) := by decide +kernel
theorem dX6_init_589 : decode cX6_init 589 = .ok (.dup, 1) := by decide +kernel
theorem dX6_init_590 : decode cX6_init 590 = .ok (.bipush 105, 2) := by decide +kernel
theorem dX6_init_592 : decode cX6_init 592 = .ok (.bipush 101, 2) := by decide +kernel
theorem dX6_init_594 : decode cX6_init 594 = .ok (.iastore, 1) := by decide +kernel
theorem dX6_init_595 : decode cX6_init 595 = .ok (.dup, 1) := by decide +kernel
theorem dX6_init_596 : decode cX6_init 596 = .ok (.bipush 106, 2) := by decide +kernel
theorem dX6_init_598 : decode cX6_init 598 = .ok (.bipush 102, 2) := by decide +kernel
theorem dX6_init_600 : decode cX6_init 600 = .ok (.iastore, 1) := by decide +kernel
theorem dX6_init_601 : decode cX6_init 601 = .ok (.dup, 1) := by decide +kernel
theorem dX6_init_602 : decode cX6_init 602 = .ok (.bipush 107, 2) := by decide +kernel
theorem dX6_init_604 : decode cX6_init 604 = .ok (.bipush 102, 2) := by decide +kernel
theorem dX6_init_606 : decode cX6_init 606 = .ok (.iastore, 1) := by decide +kernel
theorem dX6_init_607 : decode cX6_init 607 = .ok (.dup, 1) := by decide +kernel
theorem dX6_init_608 : decode cX6_init 608 = .ok (.bipush 108, 2) := by decide +kernel
theorem dX6_init_610 : decode cX6_init 610 = .ok (.bipush 102, 2) := by decide +kernel
theorem dX6_init_612 : decode cX6_init 612 = .ok (.iastore, 1) := by decide +kernel
theorem dX6_init_613 : decode cX6_init 613 = .ok (.dup, 1) := by decide +kernel
theorem dX6_init_614 : decode cX6_init 614 = .ok (.bipush 109, 2) := by decide +kernel
theorem dX6_init_616 : decode cX6_init 616 = .ok (.sipush 25253, 3) := by decide +kernel
theorem dX6_init_619 : decode cX6_init 619 = .ok (.iastore, 1) := by decide +kernel
theorem dX6_init_620 : decode cX6_init 620 = .ok (.dup, 1) := by decide +kernel
theorem dX6_init_621 : decode cX6_init 621 = .ok (.bipush 110, 2) := by decide +kernel
theorem dX6_init_623 : decode cX6_init 623 = .ok (.iconst (-1), 1) := by decide +kernel
theorem dX6_init_624 : decode cX6_init 624 = .ok (.iastore, 1) := by decide +kernel
theorem dX6_init_625 : decode cX6_init 625 = .ok (.dup, 1) := by decide +kernel
