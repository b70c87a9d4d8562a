theorem d_LB_fits_18 : decode b_LB_fits 18 = .ok (.invokestatic 123, 3) := by decide +kernel
theorem d_LB_fits_21 : decode b_LB_fits 21 = .ok (.ireturn, 1) := by decide +kernel
theorem d_Mdl_init_0 : decode b_Mdl_init 0 = .ok (.aload_n 0, 1) := by decide +kernel
theorem d_Mdl_init_1 : decode b_Mdl_init 1 = .ok (.invokespecial 1, 3) := by decide +kernel
theorem d_Mdl_init_4 : decode b_Mdl_init 4 = .ok (.aload_n 0, 1) := by decide +kernel
theorem d_Mdl_init_5 : decode b_Mdl_init 5 = .ok (.bipush 47, 2) := by decide +kernel
theorem d_Mdl_init_7 : decode b_Mdl_init 7 = .ok (.newarray .int, 2) := by decide +kernel
theorem d_Mdl_init_9 : decode b_Mdl_init 9 = .ok (.dup, 1) := by decide +kernel
theorem d_Mdl_init_10 : decode b_Mdl_init 10 = .ok (.iconst 0, 1) := by decide +kernel
theorem d_Mdl_init_11 : decode b_Mdl_init 11 = .ok (.sipush 22017, 3) := by decide +kernel
theorem d_Mdl_init_14 : decode b_Mdl_init 14 = .ok (.iastore, 1) := by decide +kernel
theorem d_Mdl_init_15 : decode b_Mdl_init 15 = .ok (.dup, 1) := by decide +kernel
theorem d_Mdl_init_16 : decode b_Mdl_init 16 = .ok (.iconst 1, 1) := by decide +kernel
theorem d_Mdl_init_17 : decode b_Mdl_init 17 = .ok (.sipush 13313, 3) := by decide +kernel
theorem d_Mdl_init_20 : decode b_Mdl_init 20 = .ok (.iastore, 1) := by decide +kernel
theorem d_Mdl_init_21 : decode b_Mdl_init 21 = .ok (.dup, 1) := by decide +kernel
theorem d_Mdl_init_22 : decode b_Mdl_init 22 = .ok (.iconst 2, 1) := by decide +kernel
theorem d_Mdl_init_23 : decode b_Mdl_init 23 = .ok (.sipush 6145, 3) := by decide +kernel
theorem d_Mdl_init_26 : decode b_Mdl_init 26 = .ok (.iastore, 1) := by decide +kernel
theorem d_Mdl_init_27 : decode b_Mdl_init 27 = .ok (.dup, 1) := by decide +kernel
theorem d_Mdl_init_28 : decode b_Mdl_init 28 = .ok (.iconst 3, 1) := by decide +kernel
theorem d_Mdl_init_29 : decode b_Mdl_init 29 = .ok (.sipush 2753, 3) := by decide +kernel
theorem d_Mdl_init_32 : decode b_Mdl_init 32 = .ok (.iastore, 1) := by decide +kernel
theorem d_Mdl_init_33 : decode b_Mdl_init 33 = .ok (.dup, 1) := by decide +kernel
theorem d_Mdl_init_34 : decode b_Mdl_init 34 = .ok (.iconst 4, 1) := by decide +kernel
theorem d_Mdl_init_35 : decode b_Mdl_init 35 = .ok (.sipush 1313, 3) := by decide +kernel
theorem d_Mdl_init_38 : decode b_Mdl_init 38 = .ok (.iastore, 1) := by decide +kernel
theorem d_Mdl_init_39 : decode b_Mdl_init 39 = .ok (.dup, 1) := by decide +kernel
theorem d_Mdl_init_40 : decode b_Mdl_init 40 = .ok (.iconst 5, 1) := by decide +kernel
theorem d_Mdl_init_41 : decode b_Mdl_init 41 = .ok (.sipush 545, 3) := by decide +kernel
theorem d_Mdl_init_44 : decode b_Mdl_init 44 = .ok (.iastore, 1) := by decide +kernel
theorem d_Mdl_init_45 : decode b_Mdl_init 45 = .ok (.dup, 1) := by decide +kernel
theorem d_Mdl_init_46 : decode b_Mdl_init 46 = .ok (.bipush 6, 2) := by decide +kernel
theorem d_Mdl_init_48 : decode b_Mdl_init 48 = .ok (.sipush 22017, 3) := by decide +kernel
theorem d_Mdl_init_51 : decode b_Mdl_init 51 = .ok (.iastore, 1) := by decide +kernel
theorem d_Mdl_init_52 : decode b_Mdl_init 52 = .ok (.dup, 1) := by decide +kernel
theorem d_Mdl_init_53 : decode b_Mdl_init 53 = .ok (.bipush 7, 2) := by decide +kernel
theorem d_Mdl_init_55 : decode b_Mdl_init 55 = .ok (.sipush 21505, 3) := by decide +kernel
theorem d_Mdl_init_58 : decode b_Mdl_init 58 = .ok (.iastore, 1) := by decide +kernel
theorem d_Mdl_init_59 : decode b_Mdl_init 59 = .ok (.dup, 1) := by decide +kernel
theorem d_Mdl_init_60 : decode b_Mdl_init 60 = .ok (.bipush 8, 2) := by decide +kernel
theorem d_Mdl_init_62 : decode b_Mdl_init 62 = .ok (.sipush 18433, 3) := by decide +kernel
theorem d_Mdl_init_65 : decode b_Mdl_init 65 = .ok (.iastore, 1) := by decide +kernel
theorem d_Mdl_init_66 : decode b_Mdl_init 66 = .ok (.dup, 1) := by decide +kernel
theorem d_Mdl_init_67 : decode b_Mdl_init 67 = .ok (.bipush 9, 2) := by decide +kernel
theorem d_Mdl_init_69 : decode b_Mdl_init 69 = .ok (.sipush 14337, 3) := by decide +kernel
theorem d_Mdl_init_72 : decode b_Mdl_init 72 = .ok (.iastore, 1) := by decide +kernel
theorem d_Mdl_init_73 : decode b_Mdl_init 73 = .ok (.dup, 1) := by decide +kernel
theorem d_Mdl_init_74 : decode b_Mdl_init 74 = .ok (.bipush 10, 2) := by decide +kernel
theorem d_Mdl_init_76 : decode b_Mdl_init 76 = .ok (.sipush 12289, 3) := by decide +kernel
theorem d_Mdl_init_79 : decode b_Mdl_init 79 = .ok (.iastore, 1) := by decide +kernel
theorem d_Mdl_init_80 : decode b_Mdl_init 80 = .ok (.dup, 1) := by decide +kernel
theorem d_Mdl_init_81 : decode b_Mdl_init 81 = .ok (.bipush 11, 2) := by decide +kernel
theorem d_Mdl_init_83 : decode b_Mdl_init 83 = .ok (.sipush 9217, 3) := by decide +kernel
theorem d_Mdl_init_86 : decode b_Mdl_init 86 = .ok (.iastore, 1) := by decide +kernel
theorem d_Mdl_init_87 : decode b_Mdl_init 87 = .ok (.dup, 1) := by decide +kernel
theorem d_Mdl_init_88 : decode b_Mdl_init 88 = .ok (.bipush 12, 2) := by decide +kernel
theorem d_Mdl_init_90 : decode b_Mdl_init 90 = .ok (.sipush 7169, 3) := by decide +kernel
theorem d_Mdl_init_93 : decode b_Mdl_init 93 = .ok (.iastore, 1) := by decide +kernel
theorem d_Mdl_init_94 : decode b_Mdl_init 94 = .ok (.dup, 1) := by decide +kernel
theorem d_Mdl_init_95 : decode b_Mdl_init 95 = .ok (.bipush 13, 2) := by decide +kernel
theorem d_Mdl_init_97 : decode b_Mdl_init 97 = .ok (.sipush 5633, 3) := by decide +kernel
theorem d_Mdl_init_100 : decode b_Mdl_init 100 = .ok (.iastore, 1) := by decide +kernel
theorem d_Mdl_init_101 : decode b_Mdl_init 101 = .ok (.dup, 1) := by decide +kernel
theorem d_Mdl_init_102 : decode b_Mdl_init 102 = .ok (.bipush 14, 2) := by decide +kernel
theorem d_Mdl_init_104 : decode b_Mdl_init 104 = .ok (.sipush 22017, 3) := by decide +kernel
theorem d_Mdl_init_107 : decode b_Mdl_init 107 = .ok (.iastore, 1) := by decide +kernel
theorem d_Mdl_init_108 : decode b_Mdl_init 108 = .ok (.dup, 1) := by decide +kernel
theorem d_Mdl_init_109 : decode b_Mdl_init 109 = .ok (.bipush 15, 2) := by decide +kernel
theorem d_Mdl_init_111 : decode b_Mdl_init 111 = .ok (.sipush 21505, 3) := by decide +kernel
theorem d_Mdl_init_114 : decode b_Mdl_init 114 = .ok (.iastore, 1) := by decide +kernel
theorem d_Mdl_init_115 : decode b_Mdl_init 115 = .ok (.dup, 1) := by decide +kernel
theorem d_Mdl_init_116 : decode b_Mdl_init 116 = .ok (.bipush 16, 2) := by decide +kernel
theorem d_Mdl_init_118 : decode b_Mdl_init 118 = .ok (.sipush 20737, 3) := by decide +kernel
theorem d_Mdl_init_121 : decode b_Mdl_init 121 = .ok (.iastore, 1) := by decide +kernel
theorem d_Mdl_init_122 : decode b_Mdl_init 122 = .ok (.dup, 1) := by decide +kernel
theorem d_Mdl_init_123 : decode b_Mdl_init 123 = .ok (.bipush 17, 2) := by decide +kernel
theorem d_Mdl_init_125 : decode b_Mdl_init 125 = .ok (.sipush 18433, 3) := by decide +kernel
theorem d_Mdl_init_128 : decode b_Mdl_init 128 = .ok (.iastore, 1) := by decide +kernel
theorem d_Mdl_init_129 : decode b_Mdl_init 129 = .ok (.dup, 1) := by decide +kernel
theorem d_Mdl_init_130 : decode b_Mdl_init 130 = .ok (.bipush 18, 2) := by decide +kernel
theorem d_Mdl_init_132 : decode b_Mdl_init 132 = .ok (.sipush 14337, 3) := by decide +kernel
theorem d_Mdl_init_135 : decode b_Mdl_init 135 = .ok (.iastore, 1) := by decide +kernel
theorem d_Mdl_init_136 : decode b_Mdl_init 136 = .ok (.dup, 1) := by decide +kernel
theorem d_Mdl_init_137 : decode b_Mdl_init 137 = .ok (.bipush 19, 2) := by decide +kernel
theorem d_Mdl_init_139 : decode b_Mdl_init 139 = .ok (.sipush 13313, 3) := by decide +kernel
theorem d_Mdl_init_142 : decode b_Mdl_init 142 = .ok (.iastore, 1) := by decide +kernel
theorem d_Mdl_init_143 : decode b_Mdl_init 143 = .ok (.dup, 1) := by decide +kernel
theorem d_Mdl_init_144 : decode b_Mdl_init 144 = .ok (.bipush 20, 2) := by decide +kernel
theorem d_Mdl_init_146 : decode b_Mdl_init 146 = .ok (.sipush 12289, 3) := by decide +kernel
theorem d_Mdl_init_149 : decode b_Mdl_init 149 = .ok (.iastore, 1) := by decide +kernel
theorem d_Mdl_init_150 : decode b_Mdl_init 150 = .ok (.dup, 1) := by decide +kernel
theorem d_Mdl_init_151 : decode b_Mdl_init 151 = .ok (.bipush 21, 2) := by decide +kernel
theorem d_Mdl_init_153 : decode b_Mdl_init 153 = .ok (.sipush 10241, 3) := by decide +kernel
theorem d_Mdl_init_156 : decode b_Mdl_init 156 = .ok (.iastore, 1) := by decide +kernel
theorem d_Mdl_init_157 : decode b_Mdl_init 157 = .ok (.dup, 1) := by decide +kernel
theorem d_Mdl_init_158 : decode b_Mdl_init 158 = .ok (.bipush 22, 2) := by decide +kernel
theorem d_Mdl_init_160 : decode b_Mdl_init 160 = .ok (.sipush 9217, 3) := by decide +kernel
theorem d_Mdl_init_163 : decode b_Mdl_init 163 = .ok (.iastore, 1) := by decide +kernel
theorem d_Mdl_init_164 : decode b_Mdl_init 164 = .ok (.dup, 1) := by decide +kernel
theorem d_Mdl_init_165 : decode b_Mdl_init 165 = .ok (.bipush 23, 2) := by decide +kernel
theorem d_Mdl_init_167 : decode b_Mdl_init 167 = .ok (.sipush 8705, 3) := by decide +kernel
theorem d_Mdl_init_170 : decode b_Mdl_init 170 = .ok (.iastore, 1) := by decide +kernel
theorem d_Mdl_init_171 : decode b_Mdl_init 171 = .ok (.dup, 1) := by decide +kernel
theorem d_Mdl_init_172 : decode b_Mdl_init 172 = .ok (.bipush 24, 2) := by decide +kernel
theorem d_Mdl_init_174 : decode b_Mdl_init 174 = .ok (.sipush 7169, 3) := by decide +kernel
theorem d_Mdl_init_177 : decode b_Mdl_init 177 = .ok (.iastore, 1) := by decide +kernel
theorem d_Mdl_init_178 : decode b_Mdl_init 178 = .ok (.dup, 1) := by decide +kernel
theorem d_Mdl_init_179 : decode b_Mdl_init 179 = .ok (.bipush 25, 2) := by decide +kernel
theorem d_Mdl_init_181 : decode b_Mdl_init 181 = .ok (.sipush 6145, 3) := by decide +kernel
theorem d_Mdl_init_184 : decode b_Mdl_init 184 = .ok (.iastore, 1) := by decide +kernel
theorem d_Mdl_init_185 : decode b_Mdl_init 185 = .ok (.dup, 1) := by decide +kernel
theorem d_Mdl_init_186 : decode b_Mdl_init 186 = .ok (.bipush 26, 2) := by decide +kernel
theorem d_Mdl_init_188 : decode b_Mdl_init 188 = .ok (.sipush 5633, 3) := by decide +kernel
theorem d_Mdl_init_191 : decode b_Mdl_init 191 = .ok (.iastore, 1) := by decide +kernel
theorem d_Mdl_init_192 : decode b_Mdl_init 192 = .ok (.dup, 1) := by decide +kernel
theorem d_Mdl_init_193 : decode b_Mdl_init 193 = .ok (.bipush 27, 2) := by decide +kernel
theorem d_Mdl_init_195 : decode b_Mdl_init 195 = .ok (.sipush 5121, 3) := by decide +kernel
theorem d_Mdl_init_198 : decode b_Mdl_init 198 = .ok (.iastore, 1) := by decide +kernel
theorem d_Mdl_init_199 : decode b_Mdl_init 199 = .ok (.dup, 1) := by decide +kernel
theorem d_Mdl_init_200 : decode b_Mdl_init 200 = .ok (.bipush 28, 2) := by decide +kernel
theorem d_Mdl_init_202 : decode b_Mdl_init 202 = .ok (.sipush 4609, 3) := by decide +kernel
theorem d_Mdl_init_205 : decode b_Mdl_init 205 = .ok (.iastore, 1) := by decide +kernel
theorem d_Mdl_init_206 : decode b_Mdl_init 206 = .ok (.dup, 1) := by decide +kernel
theorem d_Mdl_init_207 : decode b_Mdl_init 207 = .ok (.bipush 29, 2) := by decide +kernel
theorem d_Mdl_init_209 : decode b_Mdl_init 209 = .ok (.sipush 4353, 3) := by decide +kernel
theorem d_Mdl_init_212 : decode b_Mdl_init 212 = .ok (.iastore, 1) := by decide +kernel
theorem d_Mdl_init_213 : decode b_Mdl_init 213 = .ok (.dup, 1) := by decide +kernel
theorem d_Mdl_init_214 : decode b_Mdl_init 214 = .ok (.bipush 30, 2) := by decide +kernel
theorem d_Mdl_init_216 : decode b_Mdl_init 216 = .ok (.sipush 2753, 3) := by decide +kernel
theorem d_Mdl_init_219 : decode b_Mdl_init 219 = .ok (.iastore, 1) := by decide +kernel
theorem d_Mdl_init_220 : decode b_Mdl_init 220 = .ok (.dup, 1) := by decide +kernel
theorem d_Mdl_init_221 : decode b_Mdl_init 221 = .ok (.bipush 31, 2) := by decide +kernel
theorem d_Mdl_init_223 : decode b_Mdl_init 223 = .ok (.sipush 2497, 3) := by decide +kernel
theorem d_Mdl_init_226 : decode b_Mdl_init 226 = .ok (.iastore, 1) := by decide +kernel
theorem d_Mdl_init_227 : decode b_Mdl_init 227 = .ok (.dup, 1) := by decide +kernel
theorem d_Mdl_init_228 : decode b_Mdl_init 228 = .ok (.bipush 32, 2) := by decide +kernel
theorem d_Mdl_init_230 : decode b_Mdl_init 230 = .ok (.sipush 2209, 3) := by decide +kernel
theorem d_Mdl_init_233 : decode b_Mdl_init 233 = .ok (.iastore, 1) := by decide +kernel
theorem d_Mdl_init_234 : decode b_Mdl_init 234 = .ok (.dup, 1) := by decide +kernel
theorem d_Mdl_init_235 : decode b_Mdl_init 235 = .ok (.bipush 33, 2) := by decide +kernel
theorem d_Mdl_init_237 : decode b_Mdl_init 237 = .ok (.sipush 1313, 3) := by decide +kernel
theorem d_Mdl_init_240 : decode b_Mdl_init 240 = .ok (.iastore, 1) := by decide +kernel
theorem d_Mdl_init_241 : decode b_Mdl_init 241 = .ok (.dup, 1) := by decide +kernel
theorem d_Mdl_init_242 : decode b_Mdl_init 242 = .ok (.bipush 34, 2) := by decide +kernel
theorem d_Mdl_init_244 : decode b_Mdl_init 244 = .ok (.sipush 1089, 3) := by decide +kernel
theorem d_Mdl_init_247 : decode b_Mdl_init 247 = .ok (.iastore, 1) := by decide +kernel
theorem d_Mdl_init_248 : decode b_Mdl_init 248 = .ok (.dup, 1) := by decide +kernel
theorem d_Mdl_init_249 : decode b_Mdl_init 249 = .ok (.bipush 35, 2) := by decide +kernel
theorem d_Mdl_init_251 : decode b_Mdl_init 251 = .ok (.sipush 673, 3) := by decide +kernel
theorem d_Mdl_init_254 : decode b_Mdl_init 254 = .ok (.iastore, 1) := by decide +kernel
theorem d_Mdl_init_255 : decode b_Mdl_init 255 = .ok (.dup, 1) := by decide +kernel
theorem d_Mdl_init_256 : decode b_Mdl_init 256 = .ok (.bipush 36, 2) := by decide +kernel
theorem d_Mdl_init_258 : decode b_Mdl_init 258 = .ok (.sipush 545, 3) := by decide +kernel
theorem d_Mdl_init_261 : decode b_Mdl_init 261 = .ok (.iastore, 1) := by decide +kernel
theorem d_Mdl_init_262 : decode b_Mdl_init 262 = .ok (.dup, 1) := by decide +kernel
theorem d_Mdl_init_263 : decode b_Mdl_init 263 = .ok (.bipush 37, 2) := by decide +kernel
theorem d_Mdl_init_265 : decode b_Mdl_init 265 = .ok (.sipush 321, 3) := by decide +kernel
theorem d_Mdl_init_268 : decode b_Mdl_init 268 = .ok (.iastore, 1) := by decide +kernel
theorem d_Mdl_init_269 : decode b_Mdl_init 269 = .ok (.dup, 1) := by decide +kernel
theorem d_Mdl_init_270 : decode b_Mdl_init 270 = .ok (.bipush 38, 2) := by decide +kernel
theorem d_Mdl_init_272 : decode b_Mdl_init 272 = .ok (.sipush 273, 3) := by decide +kernel
theorem d_Mdl_init_275 : decode b_Mdl_init 275 = .ok (.iastore, 1) := by decide +kernel
theorem d_Mdl_init_276 : decode b_Mdl_init 276 = .ok (.dup, 1) := by decide +kernel
theorem d_Mdl_init_277 : decode b_Mdl_init 277 = .ok (.bipush 39, 2) := by decide +kernel
theorem d_Mdl_init_279 : decode b_Mdl_init 279 = .ok (.sipush 133, 3) := by decide +kernel
theorem d_Mdl_init_282 : decode b_Mdl_init 282 = .ok (.iastore, 1) := by decide +kernel
theorem d_Mdl_init_283 : decode b_Mdl_init 283 = .ok (.dup, 1) := by decide +kernel
theorem d_Mdl_init_284 : decode b_Mdl_init 284 = .ok (.bipush 40, 2) := by decide +kernel
theorem d_Mdl_init_286 : decode b_Mdl_init 286 = .ok (.bipush 73, 2) := by decide +kernel
theorem d_Mdl_init_288 : decode b_Mdl_init 288 = .ok (.iastore, 1) := by decide +kernel
theorem d_Mdl_init_289 : decode b_Mdl_init 289 = .ok (.dup, 1) := by decide +kernel
theorem d_Mdl_init_290 : decode b_Mdl_init 290 = .ok (.bipush 41, 2) := by decide +kernel
theorem d_Mdl_init_292 : decode b_Mdl_init 292 = .ok (.bipush 37, 2) := by decide +kernel
theorem d_Mdl_init_294 : decode b_Mdl_init 294 = .ok (.iastore, 1) := by decide +kernel
theorem d_Mdl_init_295 : decode b_Mdl_init 295 = .ok (.dup, 1) := by decide +kernel
theorem d_Mdl_init_296 : decode b_Mdl_init 296 = .ok (.bipush 42, 2) := by decide +kernel
theorem d_Mdl_init_298 : decode b_Mdl_init 298 = .ok (.bipush 21, 2) := by decide +kernel
theorem d_Mdl_init_300 : decode b_Mdl_init 300 = .ok (.iastore, 1) := by decide +kernel
theorem d_Mdl_init_301 : decode b_Mdl_init 301 = .ok (.dup, 1) := by decide +kernel
theorem d_Mdl_init_302 : decode b_Mdl_init 302 = .ok (.bipush 43, 2) := by decide +kernel
theorem d_Mdl_init_304 : decode b_Mdl_init 304 = .ok (.bipush 9, 2) := by decide +kernel
theorem d_Mdl_init_306 : decode b_Mdl_init 306 = .ok (.iastore, 1) := by decide +kernel
theorem d_Mdl_init_307 : decode b_Mdl_init 307 = .ok (.dup, 1) := by decide +kernel
theorem d_Mdl_init_308 : decode b_Mdl_init 308 = .ok (.bipush 44, 2) := by decide +kernel
theorem d_Mdl_init_310 : decode b_Mdl_init 310 = .ok (.iconst 5, 1) := by decide +kernel
theorem d_Mdl_init_311 : decode b_Mdl_init 311 = .ok (.iastore, 1) := by decide +kernel
theorem d_Mdl_init_312 : decode b_Mdl_init 312 = .ok (.dup, 1) := by decide +kernel
theorem d_Mdl_init_313 : decode b_Mdl_init 313 = .ok (.bipush 45, 2) := by decide +kernel
theorem d_Mdl_init_315 : decode b_Mdl_init 315 = .ok (.iconst 1, 1) := by decide +kernel
theorem d_Mdl_init_316 : decode b_Mdl_init 316 = .ok (.iastore, 1) := by decide +kernel
theorem d_Mdl_init_317 : decode b_Mdl_init 317 = .ok (.dup, 1) := by decide +kernel
theorem d_Mdl_init_318 : decode b_Mdl_init 318 = .ok (.bipush 46, 2) := by decide +kernel
theorem d_Mdl_init_320 : decode b_Mdl_init 320 = .ok (.sipush 22017, 3) := by decide +kernel
theorem d_Mdl_init_323 : decode b_Mdl_init 323 = .ok (.iastore, 1) := by decide +kernel
theorem d_Mdl_init_324 : decode b_Mdl_init 324 = .ok (.putfield 7, 3) := by decide +kernel
theorem d_Mdl_init_327 : decode b_Mdl_init 327 = .ok (.aload_n 0, 1) := by decide +kernel
theorem d_Mdl_init_328 : decode b_Mdl_init 328 = .ok (.bipush 47, 2) := by decide +kernel
theorem d_Mdl_init_330 : decode b_Mdl_init 330 = .ok (.newarray .int, 2) := by decide +kernel
theorem d_Mdl_init_332 : decode b_Mdl_init 332 = .ok (.dup, 1) := by decide +kernel
theorem d_Mdl_init_333 : decode b_Mdl_init 333 = .ok (.iconst 0, 1) := by decide +kernel
theorem d_Mdl_init_334 : decode b_Mdl_init 334 = .ok (.iconst 1, 1) := by decide +kernel
theorem d_Mdl_init_335 : decode b_Mdl_init 335 = .ok (.iastore, 1) := by decide +kernel
theorem d_Mdl_init_336 : decode b_Mdl_init 336 = .ok (.dup, 1) := by decide +kernel
theorem d_Mdl_init_337 : decode b_Mdl_init 337 = .ok (.iconst 1, 1) := by decide +kernel
theorem d_Mdl_init_338 : decode b_Mdl_init 338 = .ok (.bipush 6, 2) := by decide +kernel
theorem d_Mdl_init_340 : decode b_Mdl_init 340 = .ok (.iastore, 1) := by decide +kernel
theorem d_Mdl_init_341 : decode b_Mdl_init 341 = .ok (.dup, 1) := by decide +kernel
theorem d_Mdl_init_342 : decode b_Mdl_init 342 = .ok (.iconst 2, 1) := by decide +kernel
theorem d_Mdl_init_343 : decode b_Mdl_init 343 = .ok (.bipush 9, 2) := by decide +kernel
theorem d_Mdl_init_345 : decode b_Mdl_init 345 = .ok (.iastore, 1) := by decide +kernel
theorem d_Mdl_init_346 : decode b_Mdl_init 346 = .ok (.dup, 1) := by decide +kernel
theorem d_Mdl_init_347 : decode b_Mdl_init 347 = .ok (.iconst 3, 1) := by decide +kernel
theorem d_Mdl_init_348 : decode b_Mdl_init 348 = .ok (.bipush 12, 2) := by decide +kernel
theorem d_Mdl_init_350 : decode b_Mdl_init 350 = .ok (.iastore, 1) := by decide +kernel
theorem d_Mdl_init_351 : decode b_Mdl_init 351 = .ok (.dup, 1) := by decide +kernel
theorem d_Mdl_init_352 : decode b_Mdl_init 352 = .ok (.iconst 4, 1) := by decide +kernel
theorem d_Mdl_init_353 : decode b_Mdl_init 353 = .ok (.bipush 29, 2) := by decide +kernel
theorem d_Mdl_init_355 : decode b_Mdl_init 355 = .ok (.iastore, 1) := by decide +kernel
theorem d_Mdl_init_356 : decode b_Mdl_init 356 = .ok (.dup, 1) := by decide +kernel
theorem d_Mdl_init_357 : decode b_Mdl_init 357 = .ok (.iconst 5, 1) := by decide +kernel
theorem d_Mdl_init_358 : decode b_Mdl_init 358 = .ok (.bipush 33, 2) := by decide +kernel
theorem d_Mdl_init_360 : decode b_Mdl_init 360 = .ok (.iastore, 1) := by decide +kernel
theorem d_Mdl_init_361 : decode b_Mdl_init 361 = .ok (.dup, 1) := by decide +kernel
theorem d_Mdl_init_362 : decode b_Mdl_init 362 = .ok (.bipush 6, 2) := by decide +kernel
theorem d_Mdl_init_364 : decode b_Mdl_init 364 = .ok (.bipush 6, 2) := by decide +kernel
theorem d_Mdl_init_366 : decode b_Mdl_init 366 = .ok (.iastore, 1) := by decide +kernel
theorem d_Mdl_init_367 : decode b_Mdl_init 367 = .ok (.dup, 1) := by decide +kernel
theorem d_Mdl_init_368 : decode b_Mdl_init 368 = .ok (.bipush 7, 2) := by decide +kernel
theorem d_Mdl_init_370 : decode b_Mdl_init 370 = .ok (.bipush 14, 2) := by decide +kernel
theorem d_Mdl_init_372 : decode b_Mdl_init 372 = .ok (.iastore, 1) := by decide +kernel
theorem d_Mdl_init_373 : decode b_Mdl_init 373 = .ok (.dup, 1) := by decide +kernel
theorem d_Mdl_init_374 : decode b_Mdl_init 374 = .ok (.bipush 8, 2) := by decide +kernel
theorem d_Mdl_init_376 : decode b_Mdl_init 376 = .ok (.bipush 14, 2) := by decide +kernel
theorem d_Mdl_init_378 : decode b_Mdl_init 378 = .ok (.iastore, 1) := by decide +kernel
theorem d_Mdl_init_379 : decode b_Mdl_init 379 = .ok (.dup, 1) := by decide +kernel
theorem d_Mdl_init_380 : decode b_Mdl_init 380 = .ok (.bipush 9, 2) := by decide +kernel
theorem d_Mdl_init_382 : decode b_Mdl_init 382 = .ok (.bipush 14, 2) := by decide +kernel
theorem d_Mdl_init_384 : decode b_Mdl_init 384 = .ok (.iastore, 1) := by decide +kernel
theorem d_Mdl_init_385 : decode b_Mdl_init 385 = .ok (.dup, 1) := by decide +kernel
theorem d_Mdl_init_386 : decode b_Mdl_init 386 = .ok (.bipush 10, 2) := by decide +kernel
theorem d_Mdl_init_388 : decode b_Mdl_init 388 = .ok (.bipush 17, 2) := by decide +kernel
theorem d_Mdl_init_390 : decode b_Mdl_init 390 = .ok (.iastore, 1) := by decide +kernel
theorem d_Mdl_init_391 : decode b_Mdl_init 391 = .ok (.dup, 1) := by decide +kernel
theorem d_Mdl_init_392 : decode b_Mdl_init 392 = .ok (.bipush 11, 2) := by decide +kernel
theorem d_Mdl_init_394 : decode b_Mdl_init 394 = .ok (.bipush 18, 2) := by decide +kernel
theorem d_Mdl_init_396 : decode b_Mdl_init 396 = .ok (.iastore, 1) := by decide +kernel
theorem d_Mdl_init_397 : decode b_Mdl_init 397 = .ok (.dup, 1) := by decide +kernel
theorem d_Mdl_init_398 : decode b_Mdl_init 398 = .ok (.bipush 12, 2) := by decide +kernel
theorem d_Mdl_init_400 : decode b_Mdl_init 400 = .ok (.bipush 20, 2) := by decide +kernel
theorem d_Mdl_init_402 : decode b_Mdl_init 402 = .ok (.iastore, 1) := by decide +kernel
theorem d_Mdl_init_403 : decode b_Mdl_init 403 = .ok (.dup, 1) := by decide +kernel
theorem d_Mdl_init_404 : decode b_Mdl_init 404 = .ok (.bipush 13, 2) := by decide +kernel
theorem d_Mdl_init_406 : decode b_Mdl_init 406 = .ok (.bipush 21, 2) := by decide +kernel
theorem d_Mdl_init_408 : decode b_Mdl_init 408 = .ok (.iastore, 1) := by decide +kernel
theorem d_Mdl_init_409 : decode b_Mdl_init 409 = .ok (.dup, 1) := by decide +kernel
theorem d_Mdl_init_410 : decode b_Mdl_init 410 = .ok (.bipush 14, 2) := by decide +kernel
theorem d_Mdl_init_412 : decode b_Mdl_init 412 = .ok (.bipush 14, 2) := by decide +kernel
theorem d_Mdl_init_414 : decode b_Mdl_init 414 = .ok (.iastore, 1) := by decide +kernel
theorem d_Mdl_init_415 : decode b_Mdl_init 415 = .ok (.dup, 1) := by decide +kernel
theorem d_Mdl_init_416 : decode b_Mdl_init 416 = .ok (.bipush 15, 2) := by decide +kernel
theorem d_Mdl_init_418 : decode b_Mdl_init 418 = .ok (.bipush 14, 2) := by decide +kernel
theorem d_Mdl_init_420 : decode b_Mdl_init 420 = .ok (.iastore, 1) := by decide +kernel
theorem d_Mdl_init_421 : decode b_Mdl_init 421 = .ok (.dup, 1) := by decide +kernel
theorem d_Mdl_init_422 : decode b_Mdl_init 422 = .ok (.bipush 16, 2) := by decide +kernel
theorem d_Mdl_init_424 : decode b_Mdl_init 424 = .ok (.bipush 15, 2) := by decide +kernel
theorem d_Mdl_init_426 : decode b_Mdl_init 426 = .ok (.iastore, 1) := by decide +kernel
theorem d_Mdl_init_427 : decode b_Mdl_init 427 = .ok (.dup, 1) := by decide +kernel
theorem d_Mdl_init_428 : decode b_Mdl_init 428 = .ok (.bipush 17, 2) := by decide +kernel
theorem d_Mdl_init_430 : decode b_Mdl_init 430 = .ok (.bipush 16, 2) := by decide +kernel
theorem d_Mdl_init_432 : decode b_Mdl_init 432 = .ok (.iastore, 1) := by decide +kernel
theorem d_Mdl_init_433 : decode b_Mdl_init 433 = .ok (.dup, 1) := by decide +kernel
theorem d_Mdl_init_434 : decode b_Mdl_init 434 = .ok (.bipush 18, 2) := by decide +kernel
theorem d_Mdl_init_436 : decode b_Mdl_init 436 = .ok (.bipush 17, 2) := by decide +kernel
theorem d_Mdl_init_438 : decode b_Mdl_init 438 = .ok (.iastore, 1) := by decide +kernel
theorem d_Mdl_init_439 : decode b_Mdl_init 439 = .ok (.dup, 1) := by decide +kernel
theorem d_Mdl_init_440 : decode b_Mdl_init 440 = .ok (.bipush 19, 2) := by decide +kernel
theorem d_Mdl_init_442 : decode b_Mdl_init 442 = .ok (.bipush 18, 2) := by decide +kernel
theorem d_Mdl_init_444 : decode b_Mdl_init 444 = .ok (.iastore, 1) := by decide +kernel
theorem d_Mdl_init_445 : decode b_Mdl_init 445 = .ok (.dup, 1) := by decide +kernel
theorem d_Mdl_init_446 : decode b_Mdl_init 446 = .ok (.bipush 20, 2) := by decide +kernel
theorem d_Mdl_init_448 : decode b_Mdl_init 448 = .ok (.bipush 19, 2) := by decide +kernel
theorem d_Mdl_init_450 : decode b_Mdl_init 450 = .ok (.iastore, 1) := by decide +kernel
theorem d_Mdl_init_451 : decode b_Mdl_init 451 = .ok (.dup, 1) := by decide +kernel
theorem d_Mdl_init_452 : decode b_Mdl_init 452 = .ok (.bipush 21, 2) := by decide +kernel
theorem d_Mdl_init_454 : decode b_Mdl_init 454 = .ok (.bipush 19, 2) := by decide +kernel
theorem d_Mdl_init_456 : decode b_Mdl_init 456 = .ok (.iastore, 1) := by decide +kernel
theorem d_Mdl_init_457 : decode b_Mdl_init 457 = .ok (.dup, 1) := by decide +kernel
theorem d_Mdl_init_458 : decode b_Mdl_init 458 = .ok (.bipush 22, 2) := by decide +kernel
theorem d_Mdl_init_460 : decode b_Mdl_init 460 = .ok (.bipush 20, 2) := by decide +kernel
theorem d_Mdl_init_462 : decode b_Mdl_init 462 = .ok (.iastore, 1) := by decide +kernel
theorem d_Mdl_init_463 : decode b_Mdl_init 463 = .ok (.dup, 1) := by decide +kernel
theorem d_Mdl_init_464 : decode b_Mdl_init 464 = .ok (.bipush 23, 2) := by decide +kernel
theorem d_Mdl_init_466 : decode b_Mdl_init 466 = .ok (.bipush 21, 2) := by decide +kernel
theorem d_Mdl_init_468 : decode b_Mdl_init 468 = .ok (.iastore, 1) := by decide +kernel
theorem d_Mdl_init_469 : decode b_Mdl_init 469 = .ok (.dup, 1) := by decide +kernel
theorem d_Mdl_init_470 : decode b_Mdl_init 470 = .ok (.bipush 24, 2) := by decide +kernel
theorem d_Mdl_init_472 : decode b_Mdl_init 472 = .ok (.bipush 22, 2) := by decide +kernel
theorem d_Mdl_init_474 : decode b_Mdl_init 474 = .ok (.iastore, 1) := by decide +kernel
theorem d_Mdl_init_475 : decode b_Mdl_init 475 = .ok (.dup, 1) := by decide +kernel
theorem d_Mdl_init_476 : decode b_Mdl_init 476 = .ok (.bipush 25, 2) := by decide +kernel
theorem d_Mdl_init_478 : decode b_Mdl_init 478 = .ok (.bipush 23, 2) := by decide +kernel
theorem d_Mdl_init_480 : decode b_Mdl_init 480 = .ok (.iastore, 1) := by decide +kernel
theorem d_Mdl_init_481 : decode b_Mdl_init 481 = .ok (.dup, 1) := by decide +kernel
theorem d_Mdl_init_482 : decode b_Mdl_init 482 = .ok (.bipush 26, 2) := by decide +kernel
theorem d_Mdl_init_484 : decode b_Mdl_init 484 = .ok (.bipush 24, 2) := by decide +kernel
theorem d_Mdl_init_486 : decode b_Mdl_init 486 = .ok (.iastore, 1) := by decide +kernel
theorem d_Mdl_init_487 : decode b_Mdl_init 487 = .ok (.dup, 1) := by decide +kernel
theorem d_Mdl_init_488 : decode b_Mdl_init 488 = .ok (.bipush 27, 2) := by decide +kernel
theorem d_Mdl_init_490 : decode b_Mdl_init 490 = .ok (.bipush 25, 2) := by decide +kernel
theorem d_Mdl_init_492 : decode b_Mdl_init 492 = .ok (.iastore, 1) := by decide +kernel
theorem d_Mdl_init_493 : decode b_Mdl_init 493 = .ok (.dup, 1) := by decide +kernel
theorem d_Mdl_init_494 : decode b_Mdl_init 494 = .ok (.bipush 28, 2) := by decide +kernel
theorem d_Mdl_init_496 : decode b_Mdl_init 496 = .ok (.bipush 26, 2) := by decide +kernel
theorem d_Mdl_init_498 : decode b_Mdl_init 498 = .ok (.iastore, 1) := by decide +kernel
theorem d_Mdl_init_499 : decode b_Mdl_init 499 = .ok (.dup, 1) := by decide +kernel
theorem d_Mdl_init_500 : decode b_Mdl_init 500 = .ok (.bipush 29, 2) := by decide +kernel
theorem d_Mdl_init_502 : decode b_Mdl_init 502 = .ok (.bipush 27, 2) := by decide +kernel
theorem d_Mdl_init_504 : decode b_Mdl_init 504 = .ok (.iastore, 1) := by decide +kernel
theorem d_Mdl_init_505 : decode b_Mdl_init 505 = .ok (.dup, 1) := by decide +kernel
theorem d_Mdl_init_506 : decode b_Mdl_init 506 = .ok (.bipush 30, 2) := by decide +kernel
theorem d_Mdl_init_508 : decode b_Mdl_init 508 = .ok (.bipush 28, 2) := by decide +kernel
theorem d_Mdl_init_510 : decode b_Mdl_init 510 = .ok (.iastore, 1) := by decide +kernel
theorem d_Mdl_init_511 : decode b_Mdl_init 511 = .ok (.dup, 1) := by decide +kernel
theorem d_Mdl_init_512 : decode b_Mdl_init 512 = .ok (.bipush 31, 2) := by decide +kernel
theorem d_Mdl_init_514 : decode b_Mdl_init 514 = .ok (.bipush 29, 2) := by decide +kernel
theorem d_Mdl_init_516 : decode b_Mdl_init 516 = .ok (.iastore, 1) := by decide +kernel
theorem d_Mdl_init_517 : decode b_Mdl_init 517 = .ok (.dup, 1) := by decide +kernel
theorem d_Mdl_init_518 : decode b_Mdl_init 518 = .ok (.bipush 32, 2) := by decide +kernel
theorem d_Mdl_init_520 : decode b_Mdl_init 520 = .ok (.bipush 30, 2) := by decide +kernel
theorem d_Mdl_init_522 : decode b_Mdl_init 522 = .ok (.iastore, 1) := by decide +kernel
theorem d_Mdl_init_523 : decode b_Mdl_init 523 = .ok (.dup, 1) := by decide +kernel
theorem d_Mdl_init_524 : decode b_Mdl_init 524 = .ok (.bipush 33, 2) := by decide +kernel
theorem d_Mdl_init_526 : decode b_Mdl_init 526 = .ok (.bipush 31, 2) := by decide +kernel
theorem d_Mdl_init_528 : decode b_Mdl_init 528 = .ok (.iastore, 1) := by decide +kernel
theorem d_Mdl_init_529 : decode b_Mdl_init 529 = .ok (.dup, 1) := by decide +kernel
theorem d_Mdl_init_530 : decode b_Mdl_init 530 = .ok (.bipush 34, 2) := by decide +kernel
theorem d_Mdl_init_532 : decode b_Mdl_init 532 = .ok (.bipush 32, 2) := by decide +kernel
theorem d_Mdl_init_534 : decode b_Mdl_init 534 = .ok (.iastore, 1) := by decide +kernel
theorem d_Mdl_init_535 : decode b_Mdl_init 535 = .ok (.dup, 1) := by decide +kernel
theorem d_Mdl_init_536 : decode b_Mdl_init 536 = .ok (.bipush 35, 2) := by decide +kernel
theorem d_Mdl_init_538 : decode b_Mdl_init 538 = .ok (.bipush 33, 2) := by decide +kernel
theorem d_Mdl_init_540 : decode b_Mdl_init 540 = .ok (.iastore, 1) := by decide +kernel
theorem d_Mdl_init_541 : decode b_Mdl_init 541 = .ok (.dup, 1) := by decide +kernel
theorem d_Mdl_init_542 : decode b_Mdl_init 542 = .ok (.bipush 36, 2) := by decide +kernel
theorem d_Mdl_init_544 : decode b_Mdl_init 544 = .ok (.bipush 34, 2) := by decide +kernel
theorem d_Mdl_init_546 : decode b_Mdl_init 546 = .ok (.iastore, 1) := by decide +kernel
theorem d_Mdl_init_547 : decode b_Mdl_init 547 = .ok (.dup, 1) := by decide +kernel
theorem d_Mdl_init_548 : decode b_Mdl_init 548 = .ok (.bipush 37, 2) := by decide +kernel
theorem d_Mdl_init_550 : decode b_Mdl_init 550 = .ok (.bipush 35, 2) := by decide +kernel
theorem d_Mdl_init_552 : decode b_Mdl_init 552 = .ok (.iastore, 1) := by decide +kernel
theorem d_Mdl_init_553 : decode b_Mdl_init 553 = .ok (.dup, 1) := by decide +kernel
theorem d_Mdl_init_554 : decode b_Mdl_init 554 = .ok (.bipush 38, 2) := by decide +kernel
theorem d_Mdl_init_556 : decode b_Mdl_init 556 = .ok (.bipush 36, 2) := by decide +kernel
theorem d_Mdl_init_558 : decode b_Mdl_init 558 = .ok (.iastore, 1) := by decide +kernel
theorem d_Mdl_init_559 : decode b_Mdl_init 559 = .ok (.dup, 1) := by decide +kernel
theorem d_Mdl_init_560 : decode b_Mdl_init 560 = .ok (.bipush 39, 2) := by decide +kernel
theorem d_Mdl_init_562 : decode b_Mdl_init 562 = .ok (.bipush 37, 2) := by decide +kernel
theorem d_Mdl_init_564 : decode b_Mdl_init 564 = .ok (.iastore, 1) := by decide +kernel
theorem d_Mdl_init_565 : decode b_Mdl_init 565 = .ok (.dup, 1) := by decide +kernel
theorem d_Mdl_init_566 : decode b_Mdl_init 566 = .ok (.bipush 40, 2) := by decide +kernel
theorem d_Mdl_init_568 : decode b_Mdl_init 568 = .ok (.bipush 38, 2) := by decide +kernel
theorem d_Mdl_init_570 : decode b_Mdl_init 570 = .ok (.iastore, 1) := by decide +kernel
theorem d_Mdl_init_571 : decode b_Mdl_init 571 = .ok (.dup, 1) := by decide +kernel
theorem d_Mdl_init_572 : decode b_Mdl_init 572 = .ok (.bipush 41, 2) := by decide +kernel
theorem d_Mdl_init_574 : decode b_Mdl_init 574 = .ok (.bipush 39, 2) := by decide +kernel
theorem d_Mdl_init_576 : decode b_Mdl_init 576 = .ok (.iastore, 1) := by decide +kernel
theorem d_Mdl_init_577 : decode b_Mdl_init 577 = .ok (.dup, 1) := by decide +kernel
theorem d_Mdl_init_578 : decode b_Mdl_init 578 = .ok (.bipush 42, 2) := by decide +kernel
theorem d_Mdl_init_580 : decode b_Mdl_init 580 = .ok (.bipush 40, 2) := by decide +kernel
theorem d_Mdl_init_582 : decode b_Mdl_init 582 = .ok (.iastore, 1) := by decide +kernel
theorem d_Mdl_init_583 : decode b_Mdl_init 583 = .ok (.dup, 1) := by decide +kernel
theorem d_Mdl_init_584 : decode b_Mdl_init 584 = .ok (.bipush 43, 2) := by decide +kernel
theorem d_Mdl_init_586 : decode b_Mdl_init 586 = .ok (.bipush 41, 2) := by decide +kernel
theorem d_Mdl_init_588 : decode b_Mdl_init 588 = .ok (.iastore, 1) := by decide +kernel
theorem d_Mdl_init_589 : decode b_Mdl_init 589 = .ok (.dup, 1) := by decide +kernel
theorem d_Mdl_init_590 : decode b_Mdl_init 590 = .ok (.bipush 44, 2) := by decide +kernel
theorem d_Mdl_init_592 : decode b_Mdl_init 592 = .ok (.bipush 42, 2) := by decide +kernel
theorem d_Mdl_init_594 : decode b_Mdl_init 594 = .ok (.iastore, 1) := by decide +kernel
theorem d_Mdl_init_595 : decode b_Mdl_init 595 = .ok (.dup, 1) := by decide +kernel
theorem d_Mdl_init_596 : decode b_Mdl_init 596 = .ok (.bipush 45, 2) := by decide +kernel
theorem d_Mdl_init_598 : decode b_Mdl_init 598 = .ok (.bipush 43, 2) := by decide +kernel
theorem d_Mdl_init_600 : decode b_Mdl_init 600 = .ok (.iastore, 1) := by decide +kernel
theorem d_Mdl_init_601 : decode b_Mdl_init 601 = .ok (.dup, 1) := by decide +kernel
theorem d_Mdl_init_602 : decode b_Mdl_init 602 = .ok (.bipush 46, 2) := by decide +kernel
theorem d_Mdl_init_604 : decode b_Mdl_init 604 = .ok (.bipush 46, 2) := by decide +kernel
theorem d_Mdl_init_606 : decode b_Mdl_init 606 = .ok (.iastore, 1) := by decide +kernel
theorem d_Mdl_init_607 : decode b_Mdl_init 607 = .ok (.putfield 13, 3) := by decide +kernel
theorem d_Mdl_init_610 : decode b_Mdl_init 610 = .ok (.aload_n 0, 1) := by decide +kernel
theorem d_Mdl_init_611 : decode b_Mdl_init 611 = .ok (.ldc 16, 2) := by decide +kernel
theorem d_Mdl_init_613 : decode b_Mdl_init 613 = .ok (.newarray .int, 2) := by decide +kernel
theorem d_Mdl_init_615 : decode b_Mdl_init 615 = .ok (.putfield 17, 3) := by decide +kernel
theorem d_Mdl_init_618 : decode b_Mdl_init 618 = .ok (.aload_n 0, 1) := by decide +kernel
theorem d_Mdl_init_619 : decode b_Mdl_init 619 = .ok (.bipush 38, 2) := by decide +kernel
theorem d_Mdl_init_621 : decode b_Mdl_init 621 = .ok (.newarray .int, 2) := by decide +kernel
theorem d_Mdl_init_623 : decode b_Mdl_init 623 = .ok (.putfield 20, 3) := by decide +kernel
theorem d_Mdl_init_626 : decode b_Mdl_init 626 = .ok (.aload_n 0, 1) := by decide +kernel
theorem d_Mdl_init_627 : decode b_Mdl_init 627 = .ok (.bipush 38, 2) := by decide +kernel
theorem d_Mdl_init_629 : decode b_Mdl_init 629 = .ok (.newarray .int, 2) := by decide +kernel
theorem d_Mdl_init_631 : decode b_Mdl_init 631 = .ok (.putfield 23, 3) := by decide +kernel
theorem d_Mdl_init_634 : decode b_Mdl_init 634 = .ok (.return_, 1) := by decide +kernel
theorem d_Mdl_thrown_0 : decode b_Mdl_thrown 0 = .ok (.aload_n 0, 1) := by decide +kernel
theorem d_Mdl_thrown_1 : decode b_Mdl_thrown 1 = .ok (.getfield 26, 3) := by decide +kernel
theorem d_Mdl_thrown_4 : decode b_Mdl_thrown 4 = .ok (.ireturn, 1) := by decide +kernel
theorem d_Mdl_throwing_0 : decode b_Mdl_throwing 0 = .ok (.aload_n 0, 1) := by decide +kernel
theorem d_Mdl_throwing_1 : decode b_Mdl_throwing 1 = .ok (.iload_n 1, 1) := by decide +kernel
theorem d_Mdl_throwing_2 : decode b_Mdl_throwing 2 = .ok (.ifCond .eq 7, 3) := by decide +kernel
theorem d_Mdl_throwing_5 : decode b_Mdl_throwing 5 = .ok (.iconst 1, 1) := by decide +kernel
theorem d_Mdl_throwing_6 : decode b_Mdl_throwing 6 = .ok (.goto 20, 3) := by decide +kernel
theorem d_Mdl_throwing_9 : decode b_Mdl_throwing 9 = .ok (.iload_n 2, 1) := by decide +kernel
theorem d_Mdl_throwing_10 : decode b_Mdl_throwing 10 = .ok (.ifCond .eq 7, 3) := by decide +kernel
theorem d_Mdl_throwing_13 : decode b_Mdl_throwing 13 = .ok (.iconst 2, 1) := by decide +kernel
theorem d_Mdl_throwing_14 : decode b_Mdl_throwing 14 = .ok (.goto 12, 3) := by decide +kernel
theorem d_Mdl_throwing_17 : decode b_Mdl_throwing 17 = .ok (.iload_n 3, 1) := by decide +kernel
theorem d_Mdl_throwing_18 : decode b_Mdl_throwing 18 = .ok (.ifCond .eq 7, 3) := by decide +kernel
theorem d_Mdl_throwing_21 : decode b_Mdl_throwing 21 = .ok (.iconst 3, 1) := by decide +kernel
theorem d_Mdl_throwing_22 : decode b_Mdl_throwing 22 = .ok (.goto 4, 3) := by decide +kernel
theorem d_Mdl_throwing_25 : decode b_Mdl_throwing 25 = .ok (.iconst 0, 1) := by decide +kernel
theorem d_Mdl_throwing_26 : decode b_Mdl_throwing 26 = .ok (.putfield 26, 3) := by decide +kernel
theorem d_Mdl_throwing_29 : decode b_Mdl_throwing 29 = .ok (.aload_n 0, 1) := by decide +kernel
theorem d_Mdl_throwing_30 : decode b_Mdl_throwing 30 = .ok (.getfield 26, 3) := by decide +kernel
theorem d_Mdl_throwing_33 : decode b_Mdl_throwing 33 = .ok (.ifCond .le 7, 3) := by decide +kernel
theorem d_Mdl_throwing_36 : decode b_Mdl_throwing 36 = .ok (.iconst 1, 1) := by decide +kernel
theorem d_Mdl_throwing_37 : decode b_Mdl_throwing 37 = .ok (.goto 4, 3) := by decide +kernel
theorem d_Mdl_throwing_40 : decode b_Mdl_throwing 40 = .ok (.iconst 0, 1) := by decide +kernel
theorem d_Mdl_throwing_41 : decode b_Mdl_throwing 41 = .ok (.ireturn, 1) := by decide +kernel
theorem d_Mdl_out_0 : decode b_Mdl_out 0 = .ok (.iload_n 0, 1) := by decide +kernel
theorem d_Mdl_out_1 : decode b_Mdl_out 1 = .ok (.iload_n 1, 1) := by decide +kernel
theorem d_Mdl_out_2 : decode b_Mdl_out 2 = .ok (.if_icmp .lt 8, 3) := by decide +kernel
theorem d_Mdl_out_5 : decode b_Mdl_out 5 = .ok (.iload_n 0, 1) := by decide +kernel
theorem d_Mdl_out_6 : decode b_Mdl_out 6 = .ok (.iload_n 2, 1) := by decide +kernel
theorem d_Mdl_out_7 : decode b_Mdl_out 7 = .ok (.if_icmp .le 7, 3) := by decide +kernel
theorem d_Mdl_out_10 : decode b_Mdl_out 10 = .ok (.iconst 1, 1) := by decide +kernel
theorem d_Mdl_out_11 : decode b_Mdl_out 11 = .ok (.goto 4, 3) := by decide +kernel
theorem d_Mdl_out_14 : decode b_Mdl_out 14 = .ok (.iconst 0, 1) := by decide +kernel
theorem d_Mdl_out_15 : decode b_Mdl_out 15 = .ok (.ireturn, 1) := by decide +kernel
theorem d_Mdl_clear_0 : decode b_Mdl_clear 0 = .ok (.aload_n 0, 1) := by decide +kernel
theorem d_Mdl_clear_1 : decode b_Mdl_clear 1 = .ok (.iconst 0, 1) := by decide +kernel
theorem d_Mdl_clear_2 : decode b_Mdl_clear 2 = .ok (.putfield 26, 3) := by decide +kernel
theorem d_Mdl_clear_5 : decode b_Mdl_clear 5 = .ok (.aload_n 0, 1) := by decide +kernel
theorem d_Mdl_clear_6 : decode b_Mdl_clear 6 = .ok (.iconst 0, 1) := by decide +kernel
theorem d_Mdl_clear_7 : decode b_Mdl_clear 7 = .ok (.putfield 30, 3) := by decide +kernel
theorem d_Mdl_clear_10 : decode b_Mdl_clear 10 = .ok (.aload_n 0, 1) := by decide +kernel
theorem d_Mdl_clear_11 : decode b_Mdl_clear 11 = .ok (.iconst 0, 1) := by decide +kernel
theorem d_Mdl_clear_12 : decode b_Mdl_clear 12 = .ok (.putfield 33, 3) := by decide +kernel
theorem d_Mdl_clear_15 : decode b_Mdl_clear 15 = .ok (.aload_n 0, 1) := by decide +kernel
theorem d_Mdl_clear_16 : decode b_Mdl_clear 16 = .ok (.iconst 0, 1) := by decide +kernel
theorem d_Mdl_clear_17 : decode b_Mdl_clear 17 = .ok (.putfield 37, 3) := by decide +kernel
theorem d_Mdl_clear_20 : decode b_Mdl_clear 20 = .ok (.return_, 1) := by decide +kernel
theorem d_Mdl_put_0 : decode b_Mdl_put 0 = .ok (.aload_n 0, 1) := by decide +kernel
theorem d_Mdl_put_1 : decode b_Mdl_put 1 = .ok (.iload_n 1, 1) := by decide +kernel
theorem d_Mdl_put_2 : decode b_Mdl_put 2 = .ok (.iconst 0, 1) := by decide +kernel
theorem d_Mdl_put_3 : decode b_Mdl_put 3 = .ok (.sipush 255, 3) := by decide +kernel
theorem d_Mdl_put_6 : decode b_Mdl_put 6 = .ok (.invokestatic 40, 3) := by decide +kernel
theorem d_Mdl_put_9 : decode b_Mdl_put 9 = .ok (.aload_n 0, 1) := by decide +kernel
theorem d_Mdl_put_10 : decode b_Mdl_put 10 = .ok (.getfield 33, 3) := by decide +kernel
theorem d_Mdl_put_13 : decode b_Mdl_put 13 = .ok (.aload_n 0, 1) := by decide +kernel
theorem d_Mdl_put_14 : decode b_Mdl_put 14 = .ok (.getfield 30, 3) := by decide +kernel
theorem d_Mdl_put_17 : decode b_Mdl_put 17 = .ok (.ldc 16, 2) := by decide +kernel
theorem d_Mdl_put_19 : decode b_Mdl_put 19 = .ok (.if_icmp .ne 7, 3) := by decide +kernel
theorem d_Mdl_put_22 : decode b_Mdl_put 22 = .ok (.iconst 1, 1) := by decide +kernel
theorem d_Mdl_put_23 : decode b_Mdl_put 23 = .ok (.goto 4, 3) := by decide +kernel
theorem d_Mdl_put_26 : decode b_Mdl_put 26 = .ok (.iconst 0, 1) := by decide +kernel
theorem d_Mdl_put_27 : decode b_Mdl_put 27 = .ok (.invokevirtual 44, 3) := by decide +kernel
theorem d_Mdl_put_30 : decode b_Mdl_put 30 = .ok (.ifCond .eq 5, 3) := by decide +kernel
theorem d_Mdl_put_33 : decode b_Mdl_put 33 = .ok (.iconst 0, 1) := by decide +kernel
theorem d_Mdl_put_34 : decode b_Mdl_put 34 = .ok (.ireturn, 1) := by decide +kernel
theorem d_Mdl_put_35 : decode b_Mdl_put 35 = .ok (.aload_n 0, 1) := by decide +kernel
theorem d_Mdl_put_36 : decode b_Mdl_put 36 = .ok (.getfield 17, 3) := by decide +kernel
theorem d_Mdl_put_39 : decode b_Mdl_put 39 = .ok (.aload_n 0, 1) := by decide +kernel
theorem d_Mdl_put_40 : decode b_Mdl_put 40 = .ok (.getfield 30, 3) := by decide +kernel
theorem d_Mdl_put_43 : decode b_Mdl_put 43 = .ok (.iload_n 1, 1) := by decide +kernel
theorem d_Mdl_put_44 : decode b_Mdl_put 44 = .ok (.iastore, 1) := by decide +kernel
theorem d_Mdl_put_45 : decode b_Mdl_put 45 = .ok (.aload_n 0, 1) := by decide +kernel
theorem d_Mdl_put_46 : decode b_Mdl_put 46 = .ok (.dup, 1) := by decide +kernel
theorem d_Mdl_put_47 : decode b_Mdl_put 47 = .ok (.getfield 30, 3) := by decide +kernel
theorem d_Mdl_put_50 : decode b_Mdl_put 50 = .ok (.iconst 1, 1) := by decide +kernel
theorem d_Mdl_put_51 : decode b_Mdl_put 51 = .ok (.iadd, 1) := by decide +kernel
theorem d_Mdl_put_52 : decode b_Mdl_put 52 = .ok (.putfield 30, 3) := by decide +kernel
theorem d_Mdl_put_55 : decode b_Mdl_put 55 = .ok (.aload_n 0, 1) := by decide +kernel
