theorem wd_1022 : Cond.methodLink RX11 18 objectInit ∈ WALL := wl_in (by decide +kernel) (by decide +kernel)
theorem wd_1023 : Cond.constantLong RX11 34 (122704) ∈ WALL := wl_in (by decide +kernel) (by decide +kernel)
theorem wd_1024 : Cond.constantLong RX11 36 (16765) ∈ WALL := wl_in (by decide +kernel) (by decide +kernel)
theorem wd_1025 : Cond.constantLong RX11 38 (36021578) ∈ WALL := wl_in (by decide +kernel) (by decide +kernel)
theorem wd_1026 : Cond.constantLong RX11 40 (27951) ∈ WALL := wl_in (by decide +kernel) (by decide +kernel)
theorem wd_1027 : Cond.constantLong RX11 42 (15047032) ∈ WALL := wl_in (by decide +kernel) (by decide +kernel)
theorem wd_1028 : Cond.constantLong RX11 44 (716710) ∈ WALL := wl_in (by decide +kernel) (by decide +kernel)
theorem wd_1029 : Cond.constantLong RX11 46 (1177493) ∈ WALL := wl_in (by decide +kernel) (by decide +kernel)
theorem wd_1030 : Cond.constantLong RX11 48 (209658) ∈ WALL := wl_in (by decide +kernel) (by decide +kernel)
theorem wd_1031 : Cond.constantLong RX11 50 (1604747592) ∈ WALL := wl_in (by decide +kernel) (by decide +kernel)
theorem wd_1032 : Cond.constantLong RX11 52 (4003641) ∈ WALL := wl_in (by decide +kernel) (by decide +kernel)
theorem wd_1033 : Cond.constantLong RX11 54 (172677872) ∈ WALL := wl_in (by decide +kernel) (by decide +kernel)
theorem wd_1034 : Cond.constantLong RX11 56 (564588237) ∈ WALL := wl_in (by decide +kernel) (by decide +kernel)
theorem wd_1035 : Cond.constantLong RX11 58 (33989651) ∈ WALL := wl_in (by decide +kernel) (by decide +kernel)
theorem wd_1036 : Cond.constantLong RX11 60 (932857) ∈ WALL := wl_in (by decide +kernel) (by decide +kernel)
theorem wd_1037 : Cond.constantLong RX11 62 (19741) ∈ WALL := wl_in (by decide +kernel) (by decide +kernel)
theorem wd_1038 : Cond.constantLong RX11 64 (1891) ∈ WALL := wl_in (by decide +kernel) (by decide +kernel)
theorem wd_1039 : Cond.constantLong RX11 66 (573) ∈ WALL := wl_in (by decide +kernel) (by decide +kernel)
theorem wd_1040 : Cond.constantLong RX11 68 (17595960) ∈ WALL := wl_in (by decide +kernel) (by decide +kernel)
theorem wd_1041 : Cond.constantLong RX11 70 (29203711) ∈ WALL := wl_in (by decide +kernel) (by decide +kernel)
theorem wd_1042 : Cond.constantLong RX11 72 (17006) ∈ WALL := wl_in (by decide +kernel) (by decide +kernel)
theorem wd_1043 : Cond.constantLong RX11 74 (22955708) ∈ WALL := wl_in (by decide +kernel) (by decide +kernel)
theorem wd_1044 : Cond.constantLong RX11 76 (15248761) ∈ WALL := wl_in (by decide +kernel) (by decide +kernel)
theorem wd_1045 : Cond.constantLong RX11 78 (40072202) ∈ WALL := wl_in (by decide +kernel) (by decide +kernel)
theorem wd_1046 : Cond.arrayClass .boolean ∈ WALL := wl_in (by decide +kernel) (by decide +kernel)
theorem wd_1047 : Cond.constant RX11 123 (49152) ∈ WALL := wl_in (by decide +kernel) (by decide +kernel)
theorem dX11_init_0 : decode cX11_init 0 = .ok (.aload_n 0, 1) := by decide +kernel
theorem dX11_init_1 : decode cX11_init 1 = .ok (.invokespecial 18, 3) := by decide +kernel
theorem dX11_init_4 : decode cX11_init 4 = .ok (.aload_n 0, 1) := by decide +kernel
theorem dX11_init_5 : decode cX11_init 5 = .ok (.sipush 1000, 3) := by decide +kernel
theorem dX11_init_8 : decode cX11_init 8 = .ok (.newarray .int, 2) := by decide +kernel
theorem dX11_init_10 : decode cX11_init 10 = .ok (.putfield 14, 3) := by decide +kernel
theorem dX11_init_13 : decode cX11_init 13 = .ok (.aload_n 0, 1) := by decide +kernel
theorem dX11_init_14 : decode cX11_init 14 = .ok (.sipush 1002, 3) := by decide +kernel
theorem dX11_init_17 : decode cX11_init 17 = .ok (.newarray .int, 2) := by decide +kernel
theorem dX11_init_19 : decode cX11_init 19 = .ok (.putfield 24, 3) := by decide +kernel
theorem dX11_init_22 : decode cX11_init 22 = .ok (.aload_n 0, 1) := by decide +kernel
theorem dX11_init_23 : decode cX11_init 23 = .ok (.sipush 1002, 3) := by decide +kernel
theorem dX11_init_26 : decode cX11_init 26 = .ok (.newarray .int, 2) := by decide +kernel
theorem dX11_init_28 : decode cX11_init 28 = .ok (.putfield 27, 3) := by decide +kernel
theorem dX11_init_31 : decode cX11_init 31 = .ok (.aload_n 0, 1) := by decide +kernel
theorem dX11_init_32 : decode cX11_init 32 = .ok (.sipush 1002, 3) := by decide +kernel
theorem dX11_init_35 : decode cX11_init 35 = .ok (.newarray .long, 2) := by decide +kernel
theorem dX11_init_37 : decode cX11_init 37 = .ok (.putfield 30, 3) := by decide +kernel
theorem dX11_init_40 : decode cX11_init 40 = .ok (.aload_n 0, 1) := by decide +kernel
theorem dX11_init_41 : decode cX11_init 41 = .ok (.bipush 23, 2) := by decide +kernel
theorem dX11_init_43 : decode cX11_init 43 = .ok (.newarray .long, 2) := by decide +kernel
theorem dX11_init_45 : decode cX11_init 45 = .ok (.dup, 1) := by decide +kernel
theorem dX11_init_46 : decode cX11_init 46 = .ok (.iconst 0, 1) := by decide +kernel
theorem dX11_init_47 : decode cX11_init 47 = .ok (.ldc2_w 34, 3) := by decide +kernel
theorem dX11_init_50 : decode cX11_init 50 = .ok (.lastore, 1) := by decide +kernel
theorem dX11_init_51 : decode cX11_init 51 = .ok (.dup, 1) := by decide +kernel
theorem dX11_init_52 : decode cX11_init 52 = .ok (.iconst 1, 1) := by decide +kernel
theorem dX11_init_53 : decode cX11_init 53 = .ok (.ldc2_w 36, 3) := by decide +kernel
theorem dX11_init_56 : decode cX11_init 56 = .ok (.lastore, 1) := by decide +kernel
theorem dX11_init_57 : decode cX11_init 57 = .ok (.dup, 1) := by decide +kernel
theorem dX11_init_58 : decode cX11_init 58 = .ok (.iconst 2, 1) := by decide +kernel
theorem dX11_init_59 : decode cX11_init 59 = .ok (.ldc2_w 38, 3) := by decide +kernel
theorem dX11_init_62 : decode cX11_init 62 = .ok (.lastore, 1) := by decide +kernel
theorem dX11_init_63 : decode cX11_init 63 = .ok (.dup, 1) := by decide +kernel
theorem dX11_init_64 : decode cX11_init 64 = .ok (.iconst 3, 1) := by decide +kernel
theorem dX11_init_65 : decode cX11_init 65 = .ok (.ldc2_w 40, 3) := by decide +kernel
theorem dX11_init_68 : decode cX11_init 68 = .ok (.lastore, 1) := by decide +kernel
theorem dX11_init_69 : decode cX11_init 69 = .ok (.dup, 1) := by decide +kernel
theorem dX11_init_70 : decode cX11_init 70 = .ok (.iconst 4, 1) := by decide +kernel
theorem dX11_init_71 : decode cX11_init 71 = .ok (.ldc2_w 42, 3) := by decide +kernel
theorem dX11_init_74 : decode cX11_init 74 = .ok (.lastore, 1) := by decide +kernel
theorem dX11_init_75 : decode cX11_init 75 = .ok (.dup, 1) := by decide +kernel
theorem dX11_init_76 : decode cX11_init 76 = .ok (.iconst 5, 1) := by decide +kernel
theorem dX11_init_77 : decode cX11_init 77 = .ok (.ldc2_w 44, 3) := by decide +kernel
theorem dX11_init_80 : decode cX11_init 80 = .ok (.lastore, 1) := by decide +kernel
theorem dX11_init_81 : decode cX11_init 81 = .ok (.dup, 1) := by decide +kernel
theorem dX11_init_82 : decode cX11_init 82 = .ok (.bipush 6, 2) := by decide +kernel
theorem dX11_init_84 : decode cX11_init 84 = .ok (.ldc2_w 46, 3) := by decide +kernel
theorem dX11_init_87 : decode cX11_init 87 = .ok (.lastore, 1) := by decide +kernel
theorem dX11_init_88 : decode cX11_init 88 = .ok (.dup, 1) := by decide +kernel
theorem dX11_init_89 : decode cX11_init 89 = .ok (.bipush 7, 2) := by decide +kernel
theorem dX11_init_91 : decode cX11_init 91 = .ok (.ldc2_w 48, 3) := by decide +kernel
theorem dX11_init_94 : decode cX11_init 94 = .ok (.lastore, 1) := by decide +kernel
theorem dX11_init_95 : decode cX11_init 95 = .ok (.dup, 1) := by decide +kernel
theorem dX11_init_96 : decode cX11_init 96 = .ok (.bipush 8, 2) := by decide +kernel
theorem dX11_init_98 : decode cX11_init 98 = .ok (.ldc2_w 50, 3) := by decide +kernel
theorem dX11_init_101 : decode cX11_init 101 = .ok (.lastore, 1) := by decide +kernel
theorem dX11_init_102 : decode cX11_init 102 = .ok (.dup, 1) := by decide +kernel
theorem dX11_init_103 : decode cX11_init 103 = .ok (.bipush 9, 2) := by decide +kernel
theorem dX11_init_105 : decode cX11_init 105 = .ok (.ldc2_w 52, 3) := by decide +kernel
theorem dX11_init_108 : decode cX11_init 108 = .ok (.lastore, 1) := by decide +kernel
theorem dX11_init_109 : decode cX11_init 109 = .ok (.dup, 1) := by decide +kernel
theorem dX11_init_110 : decode cX11_init 110 = .ok (.bipush 10, 2) := by decide +kernel
theorem dX11_init_112 : decode cX11_init 112 = .ok (.ldc2_w 54, 3) := by decide +kernel
theorem dX11_init_115 : decode cX11_init 115 = .ok (.lastore, 1) := by decide +kernel
theorem dX11_init_116 : decode cX11_init 116 = .ok (.dup, 1) := by decide +kernel
theorem dX11_init_117 : decode cX11_init 117 = .ok (.bipush 11, 2) := by decide +kernel
theorem dX11_init_119 : decode cX11_init 119 = .ok (.ldc2_w 56, 3) := by decide +kernel
theorem dX11_init_122 : decode cX11_init 122 = .ok (.lastore, 1) := by decide +kernel
theorem dX11_init_123 : decode cX11_init 123 = .ok (.dup, 1) := by decide +kernel
theorem dX11_init_124 : decode cX11_init 124 = .ok (.bipush 12, 2) := by decide +kernel
theorem dX11_init_126 : decode cX11_init 126 = .ok (.ldc2_w 58, 3) := by decide +kernel
theorem dX11_init_129 : decode cX11_init 129 = .ok (.lastore, 1) := by decide +kernel
theorem dX11_init_130 : decode cX11_init 130 = .ok (.dup, 1) := by decide +kernel
theorem dX11_init_131 : decode cX11_init 131 = .ok (.bipush 13, 2) := by decide +kernel
theorem dX11_init_133 : decode cX11_init 133 = .ok (.ldc2_w 60, 3) := by decide +kernel
theorem dX11_init_136 : decode cX11_init 136 = .ok (.lastore, 1) := by decide +kernel
theorem dX11_init_137 : decode cX11_init 137 = .ok (.dup, 1) := by decide +kernel
theorem dX11_init_138 : decode cX11_init 138 = .ok (.bipush 14, 2) := by decide +kernel
theorem dX11_init_140 : decode cX11_init 140 = .ok (.ldc2_w 62, 3) := by decide +kernel
theorem dX11_init_143 : decode cX11_init 143 = .ok (.lastore, 1) := by decide +kernel
theorem dX11_init_144 : decode cX11_init 144 = .ok (.dup, 1) := by decide +kernel
theorem dX11_init_145 : decode cX11_init 145 = .ok (.bipush 15, 2) := by decide +kernel
theorem dX11_init_147 : decode cX11_init 147 = .ok (.ldc2_w 64, 3) := by decide +kernel
theorem dX11_init_150 : decode cX11_init 150 = .ok (.lastore, 1) := by decide +kernel
theorem dX11_init_151 : decode cX11_init 151 = .ok (.dup, 1) := by decide +kernel
theorem dX11_init_152 : decode cX11_init 152 = .ok (.bipush 16, 2) := by decide +kernel
theorem dX11_init_154 : decode cX11_init 154 = .ok (.ldc2_w 66, 3) := by decide +kernel
theorem dX11_init_157 : decode cX11_init 157 = .ok (.lastore, 1) := by decide +kernel
theorem dX11_init_158 : decode cX11_init 158 = .ok (.dup, 1) := by decide +kernel
theorem dX11_init_159 : decode cX11_init 159 = .ok (.bipush 17, 2) := by decide +kernel
theorem dX11_init_161 : decode cX11_init 161 = .ok (.ldc2_w 68, 3) := by decide +kernel
theorem dX11_init_164 : decode cX11_init 164 = .ok (.lastore, 1) := by decide +kernel
theorem dX11_init_165 : decode cX11_init 165 = .ok (.dup, 1) := by decide +kernel
theorem dX11_init_166 : decode cX11_init 166 = .ok (.bipush 18, 2) := by decide +kernel
theorem dX11_init_168 : decode cX11_init 168 = .ok (.ldc2_w 70, 3) := by decide +kernel
theorem dX11_init_171 : decode cX11_init 171 = .ok (.lastore, 1) := by decide +kernel
theorem dX11_init_172 : decode cX11_init 172 = .ok (.dup, 1) := by decide +kernel
theorem dX11_init_173 : decode cX11_init 173 = .ok (.bipush 19, 2) := by decide +kernel
theorem dX11_init_175 : decode cX11_init 175 = .ok (.ldc2_w 72, 3) := by decide +kernel
theorem dX11_init_178 : decode cX11_init 178 = .ok (.lastore, 1) := by decide +kernel
theorem dX11_init_179 : decode cX11_init 179 = .ok (.dup, 1) := by decide +kernel
theorem dX11_init_180 : decode cX11_init 180 = .ok (.bipush 20, 2) := by decide +kernel
theorem dX11_init_182 : decode cX11_init 182 = .ok (.ldc2_w 74, 3) := by decide +kernel
theorem dX11_init_185 : decode cX11_init 185 = .ok (.lastore, 1) := by decide +kernel
theorem dX11_init_186 : decode cX11_init 186 = .ok (.dup, 1) := by decide +kernel
theorem dX11_init_187 : decode cX11_init 187 = .ok (.bipush 21, 2) := by decide +kernel
theorem dX11_init_189 : decode cX11_init 189 = .ok (.ldc2_w 76, 3) := by decide +kernel
theorem dX11_init_192 : decode cX11_init 192 = .ok (.lastore, 1) := by decide +kernel
theorem dX11_init_193 : decode cX11_init 193 = .ok (.dup, 1) := by decide +kernel
theorem dX11_init_194 : decode cX11_init 194 = .ok (.bipush 22, 2) := by decide +kernel
theorem dX11_init_196 : decode cX11_init 196 = .ok (.ldc2_w 78, 3) := by decide +kernel
theorem dX11_init_199 : decode cX11_init 199 = .ok (.lastore, 1) := by decide +kernel
theorem dX11_init_200 : decode cX11_init 200 = .ok (.putfield 80, 3) := by decide +kernel
theorem dX11_init_203 : decode cX11_init 203 = .ok (.aload_n 0, 1) := by decide +kernel
theorem dX11_init_204 : decode cX11_init 204 = .ok (.sipush 240, 3) := by decide +kernel
theorem dX11_init_207 : decode cX11_init 207 = .ok (.newarray .int, 2) := by decide +kernel
theorem dX11_init_209 : decode cX11_init 209 = .ok (.putfield 83, 3) := by decide +kernel
theorem dX11_init_212 : decode cX11_init 212 = .ok (.aload_n 0, 1) := by decide +kernel
theorem dX11_init_213 : decode cX11_init 213 = .ok (.sipush 2200, 3) := by decide +kernel
theorem dX11_init_216 : decode cX11_init 216 = .ok (.newarray .int, 2) := by decide +kernel
theorem dX11_init_218 : decode cX11_init 218 = .ok (.putfield 86, 3) := by decide +kernel
theorem dX11_init_221 : decode cX11_init 221 = .ok (.aload_n 0, 1) := by decide +kernel
theorem dX11_init_222 : decode cX11_init 222 = .ok (.sipush 2200, 3) := by decide +kernel
theorem dX11_init_225 : decode cX11_init 225 = .ok (.newarray .int, 2) := by decide +kernel
theorem dX11_init_227 : decode cX11_init 227 = .ok (.putfield 89, 3) := by decide +kernel
theorem dX11_init_230 : decode cX11_init 230 = .ok (.aload_n 0, 1) := by decide +kernel
theorem dX11_init_231 : decode cX11_init 231 = .ok (.bipush 16, 2) := by decide +kernel
theorem dX11_init_233 : decode cX11_init 233 = .ok (.newarray .long, 2) := by decide +kernel
theorem dX11_init_235 : decode cX11_init 235 = .ok (.putfield 92, 3) := by decide +kernel
theorem dX11_init_238 : decode cX11_init 238 = .ok (.aload_n 0, 1) := by decide +kernel
theorem dX11_init_239 : decode cX11_init 239 = .ok (.bipush 12, 2) := by decide +kernel
theorem dX11_init_241 : decode cX11_init 241 = .ok (.newarray .boolean, 2) := by decide +kernel
theorem dX11_init_243 : decode cX11_init 243 = .ok (.putfield 95, 3) := by decide +kernel
theorem dX11_init_246 : decode cX11_init 246 = .ok (.aload_n 0, 1) := by decide +kernel
theorem dX11_init_247 : decode cX11_init 247 = .ok (.bipush 8, 2) := by decide +kernel
theorem dX11_init_249 : decode cX11_init 249 = .ok (.newarray .int, 2) := by decide +kernel
theorem dX11_init_251 : decode cX11_init 251 = .ok (.dup, 1) := by decide +kernel
theorem dX11_init_252 : decode cX11_init 252 = .ok (.iconst 0, 1) := by decide +kernel
theorem dX11_init_253 : decode cX11_init 253 = .ok (.bipush 17, 2) := by decide +kernel
theorem dX11_init_255 : decode cX11_init 255 = .ok (.iastore, 1) := by decide +kernel
theorem dX11_init_256 : decode cX11_init 256 = .ok (.dup, 1) := by decide +kernel
theorem dX11_init_257 : decode cX11_init 257 = .ok (.iconst 1, 1) := by decide +kernel
theorem dX11_init_258 : decode cX11_init 258 = .ok (.bipush 18, 2) := by decide +kernel
theorem dX11_init_260 : decode cX11_init 260 = .ok (.iastore, 1) := by decide +kernel
theorem dX11_init_261 : decode cX11_init 261 = .ok (.dup, 1) := by decide +kernel
theorem dX11_init_262 : decode cX11_init 262 = .ok (.iconst 2, 1) := by decide +kernel
theorem dX11_init_263 : decode cX11_init 263 = .ok (.bipush 19, 2) := by decide +kernel
theorem dX11_init_265 : decode cX11_init 265 = .ok (.iastore, 1) := by decide +kernel
theorem dX11_init_266 : decode cX11_init 266 = .ok (.dup, 1) := by decide +kernel
theorem dX11_init_267 : decode cX11_init 267 = .ok (.iconst 3, 1) := by decide +kernel
theorem dX11_init_268 : decode cX11_init 268 = .ok (.bipush 7, 2) := by decide +kernel
theorem dX11_init_270 : decode cX11_init 270 = .ok (.iastore, 1) := by decide +kernel
theorem dX11_init_271 : decode cX11_init 271 = .ok (.dup, 1) := by decide +kernel
theorem dX11_init_272 : decode cX11_init 272 = .ok (.iconst 4, 1) := by decide +kernel
theorem dX11_init_273 : decode cX11_init 273 = .ok (.bipush 20, 2) := by decide +kernel
theorem dX11_init_275 : decode cX11_init 275 = .ok (.iastore, 1) := by decide +kernel
theorem dX11_init_276 : decode cX11_init 276 = .ok (.dup, 1) := by decide +kernel
theorem dX11_init_277 : decode cX11_init 277 = .ok (.iconst 5, 1) := by decide +kernel
theorem dX11_init_278 : decode cX11_init 278 = .ok (.bipush 21, 2) := by decide +kernel
theorem dX11_init_280 : decode cX11_init 280 = .ok (.iastore, 1) := by decide +kernel
theorem dX11_init_281 : decode cX11_init 281 = .ok (.dup, 1) := by decide +kernel
theorem dX11_init_282 : decode cX11_init 282 = .ok (.bipush 6, 2) := by decide +kernel
theorem dX11_init_284 : decode cX11_init 284 = .ok (.iconst 1, 1) := by decide +kernel
theorem dX11_init_285 : decode cX11_init 285 = .ok (.iastore, 1) := by decide +kernel
theorem dX11_init_286 : decode cX11_init 286 = .ok (.dup, 1) := by decide +kernel
theorem dX11_init_287 : decode cX11_init 287 = .ok (.bipush 7, 2) := by decide +kernel
theorem dX11_init_289 : decode cX11_init 289 = .ok (.bipush 22, 2) := by decide +kernel
theorem dX11_init_291 : decode cX11_init 291 = .ok (.iastore, 1) := by decide +kernel
theorem dX11_init_292 : decode cX11_init 292 = .ok (.putfield 99, 3) := by decide +kernel
theorem dX11_init_295 : decode cX11_init 295 = .ok (.aload_n 0, 1) := by decide +kernel
theorem dX11_init_296 : decode cX11_init 296 = .ok (.bipush 8, 2) := by decide +kernel
theorem dX11_init_298 : decode cX11_init 298 = .ok (.newarray .int, 2) := by decide +kernel
theorem dX11_init_300 : decode cX11_init 300 = .ok (.putfield 102, 3) := by decide +kernel
theorem dX11_init_303 : decode cX11_init 303 = .ok (.aload_n 0, 1) := by decide +kernel
theorem dX11_init_304 : decode cX11_init 304 = .ok (.sipush 1100, 3) := by decide +kernel
theorem dX11_init_307 : decode cX11_init 307 = .ok (.newarray .int, 2) := by decide +kernel
theorem dX11_init_309 : decode cX11_init 309 = .ok (.putfield 105, 3) := by decide +kernel
theorem dX11_init_312 : decode cX11_init 312 = .ok (.aload_n 0, 1) := by decide +kernel
theorem dX11_init_313 : decode cX11_init 313 = .ok (.sipush 2760, 3) := by decide +kernel
theorem dX11_init_316 : decode cX11_init 316 = .ok (.newarray .int, 2) := by decide +kernel
theorem dX11_init_318 : decode cX11_init 318 = .ok (.putfield 108, 3) := by decide +kernel
theorem dX11_init_321 : decode cX11_init 321 = .ok (.aload_n 0, 1) := by decide +kernel
theorem dX11_init_322 : decode cX11_init 322 = .ok (.iconst 4, 1) := by decide +kernel
theorem dX11_init_323 : decode cX11_init 323 = .ok (.newarray .boolean, 2) := by decide +kernel
theorem dX11_init_325 : decode cX11_init 325 = .ok (.putfield 111, 3) := by decide +kernel
theorem dX11_init_328 : decode cX11_init 328 = .ok (.aload_n 0, 1) := by decide +kernel
theorem dX11_init_329 : decode cX11_init 329 = .ok (.bipush 12, 2) := by decide +kernel
theorem dX11_init_331 : decode cX11_init 331 = .ok (.newarray .int, 2) := by decide +kernel
theorem dX11_init_333 : decode cX11_init 333 = .ok (.putfield 114, 3) := by decide +kernel
theorem dX11_init_336 : decode cX11_init 336 = .ok (.aload_n 0, 1) := by decide +kernel
theorem dX11_init_337 : decode cX11_init 337 = .ok (.sipush 144, 3) := by decide +kernel
theorem dX11_init_340 : decode cX11_init 340 = .ok (.newarray .boolean, 2) := by decide +kernel
theorem dX11_init_342 : decode cX11_init 342 = .ok (.putfield 117, 3) := by decide +kernel
theorem dX11_init_345 : decode cX11_init 345 = .ok (.aload_n 0, 1) := by decide +kernel
theorem dX11_init_346 : decode cX11_init 346 = .ok (.sipush 144, 3) := by decide +kernel
theorem dX11_init_349 : decode cX11_init 349 = .ok (.newarray .boolean, 2) := by decide +kernel
theorem dX11_init_351 : decode cX11_init 351 = .ok (.putfield 120, 3) := by decide +kernel
theorem dX11_init_354 : decode cX11_init 354 = .ok (.aload_n 0, 1) := by decide +kernel
theorem dX11_init_355 : decode cX11_init 355 = .ok (.ldc 123, 2) := by decide +kernel
theorem dX11_init_357 : decode cX11_init 357 = .ok (.newarray .int, 2) := by decide +kernel
theorem dX11_init_359 : decode cX11_init 359 = .ok (.putfield 124, 3) := by decide +kernel
theorem dX11_init_362 : decode cX11_init 362 = .ok (.aload_n 0, 1) := by decide +kernel
theorem dX11_init_363 : decode cX11_init 363 = .ok (.sipush 4096, 3) := by decide +kernel
theorem dX11_init_366 : decode cX11_init 366 = .ok (.newarray .int, 2) := by decide +kernel
theorem dX11_init_368 : decode cX11_init 368 = .ok (.putfield 127, 3) := by decide +kernel
theorem dX11_init_371 : decode cX11_init 371 = .ok (.aload_n 0, 1) := by decide +kernel
theorem dX11_init_372 : decode cX11_init 372 = .ok (.bipush 12, 2) := by decide +kernel
theorem dX11_init_374 : decode cX11_init 374 = .ok (.newarray .int, 2) := by decide +kernel
theorem dX11_init_376 : decode cX11_init 376 = .ok (.putfield 130, 3) := by decide +kernel
theorem dX11_init_379 : decode cX11_init 379 = .ok (.aload_n 0, 1) := by decide +kernel
theorem dX11_init_380 : decode cX11_init 380 = .ok (.sipush 4096, 3) := by decide +kernel
theorem dX11_init_383 : decode cX11_init 383 = .ok (.newarray .int, 2) := by decide +kernel
theorem dX11_init_385 : decode cX11_init 385 = .ok (.putfield 133, 3) := by decide +kernel
theorem dX11_init_388 : decode cX11_init 388 = .ok (.aload_n 0, 1) := by decide +kernel
theorem dX11_init_389 : decode cX11_init 389 = .ok (.bipush 7, 2) := by decide +kernel
theorem dX11_init_391 : decode cX11_init 391 = .ok (.newarray .int, 2) := by decide +kernel
theorem dX11_init_393 : decode cX11_init 393 = .ok (.putfield 136, 3) := by decide +kernel
theorem dX11_init_396 : decode cX11_init 396 = .ok (.aload_n 0, 1) := by decide +kernel
theorem dX11_init_397 : decode cX11_init 397 = .ok (.bipush 7, 2) := by decide +kernel
theorem dX11_init_399 : decode cX11_init 399 = .ok (.newarray .int, 2) := by decide +kernel
theorem dX11_init_401 : decode cX11_init 401 = .ok (.putfield 139, 3) := by decide +kernel
theorem dX11_init_404 : decode cX11_init 404 = .ok (.aload_n 0, 1) := by decide +kernel
theorem dX11_init_405 : decode cX11_init 405 = .ok (.iconst 5, 1) := by decide +kernel
theorem dX11_init_406 : decode cX11_init 406 = .ok (.newarray .long, 2) := by decide +kernel
theorem dX11_init_408 : decode cX11_init 408 = .ok (.putfield 142, 3) := by decide +kernel
theorem dX11_init_411 : decode cX11_init 411 = .ok (.aload_n 0, 1) := by decide +kernel
theorem dX11_init_412 : decode cX11_init 412 = .ok (.iconst 1, 1) := by decide +kernel
theorem dX11_init_413 : decode cX11_init 413 = .ok (.putfield 145, 3) := by decide +kernel
theorem dX11_init_416 : decode cX11_init 416 = .ok (.return_, 1) := by decide +kernel
set_option maxHeartbeats 4000000 in
set_option maxRecDepth 100000 in
theorem c_X11_init (l : Launch) (D : DG) (cyC cyI cyJ cyZ cyO : ClassId) (h0 : Nat) : KK l D (TY cyC cyI cyJ cyZ cyO) yX11_init cX11_init 1 none ({ frames := 1, cells := 25, slots := 70252, locals := 12 } : Room) 25 70252 [.ref h0] [(h0, .inr (11, [.int 0, .null, .int 0, .int 0, .null, .null, .null, .int 0, .int 0, .null, .null, .null, .null, .int 0, .null, .null, .int 0, .null, .null, .null, .null, .null, .int 0, .int 0, .int 0, .null, .int 0, .null, .null, .null, .null, .null, .null, .int 0, .int 0, .int 0, .null, .null, .int 0, .int 0, .int 0, .int 0, .null]))] (fun u => none) (fun u => True) (fun u => [(h0, .inr (11, [.int 0, .ref (u.1 0), .int 0, .int 0, .ref (u.1 1), .ref (u.1 2), .ref (u.1 3), .int 0, .int 0, .ref (u.1 4), .ref (u.1 5), .ref (u.1 6), .ref (u.1 7), .int 0, .ref (u.1 8), .ref (u.1 9), .int 1, .ref (u.1 10), .ref (u.1 11), .ref (u.1 12), .ref (u.1 13), .ref (u.1 14), .int 0, .int 0, .int 0, .ref (u.1 15), .int 0, .ref (u.1 16), .ref (u.1 17), .ref (u.1 18), .ref (u.1 19), .ref (u.1 20), .ref (u.1 21), .int 0, .int 0, .int 0, .ref (u.1 22), .ref (u.1 23), .int 0, .int 0, .int 0, .int 0, .ref (u.1 24)])), ((u.1 0), .inl (cyI, 1000, .inl (fun _ => 0))), ((u.1 1), .inl (cyI, 1002, .inl (fun _ => 0))), ((u.1 2), .inl (cyI, 1002, .inl (fun _ => 0))), ((u.1 3), .inl (cyJ, 1002, .inr (.inl (fun _ => 0)))), ((u.1 4), .inl (cyJ, 23, .inr (.inl (vp_updL (vp_updL (vp_updL (vp_updL (vp_updL (vp_updL (vp_updL (vp_updL (vp_updL (vp_updL (vp_updL (vp_updL (vp_updL (vp_updL (vp_updL (vp_updL (vp_updL (vp_updL (vp_updL (vp_updL (vp_updL (vp_updL (vp_updL (fun _ => 0) 0 122704) 1 16765) 2 36021578) 3 27951) 4 15047032) 5 716710) 6 1177493) 7 209658) 8 1604747592) 9 4003641) 10 172677872) 11 564588237) 12 33989651) 13 932857) 14 19741) 15 1891) 16 573) 17 17595960) 18 29203711) 19 17006) 20 22955708) 21 15248761) 22 40072202)))), ((u.1 5), .inl (cyI, 240, .inl (fun _ => 0))), ((u.1 6), .inl (cyI, 2200, .inl (fun _ => 0))), ((u.1 7), .inl (cyI, 2200, .inl (fun _ => 0))), ((u.1 8), .inl (cyJ, 16, .inr (.inl (fun _ => 0)))), ((u.1 9), .inl (cyZ, 12, .inl (fun _ => 0))), ((u.1 10), .inl (cyI, 8, .inl (upd (upd (upd (upd (upd (upd (upd (upd (fun _ => 0) 0 17) 1 18) 2 19) 3 7) 4 20) 5 21) 6 1) 7 22))), ((u.1 11), .inl (cyI, 8, .inl (fun _ => 0))), ((u.1 12), .inl (cyI, 1100, .inl (fun _ => 0))), ((u.1 13), .inl (cyI, 2760, .inl (fun _ => 0))), ((u.1 14), .inl (cyZ, 4, .inl (fun _ => 0))), ((u.1 15), .inl (cyI, 12, .inl (fun _ => 0))), ((u.1 16), .inl (cyZ, 144, .inl (fun _ => 0))), ((u.1 17), .inl (cyZ, 144, .inl (fun _ => 0))), ((u.1 18), .inl (cyI, 49152, .inl (fun _ => 0))), ((u.1 19), .inl (cyI, 4096, .inl (fun _ => 0))), ((u.1 20), .inl (cyI, 12, .inl (fun _ => 0))), ((u.1 21), .inl (cyI, 4096, .inl (fun _ => 0))), ((u.1 22), .inl (cyI, 7, .inl (fun _ => 0))), ((u.1 23), .inl (cyI, 7, .inl (fun _ => 0))), ((u.1 24), .inl (cyJ, 5, .inr (.inl (fun _ => 0))))]) := by
  refine KK.of (lv0 := [(0, .ref h0)]) (by decide) rfl (Nat.le_of_ble_eq_true rfl) ?_
  intro p e s m args below meth c A C hr hk hin
  refine j_aload_n (pc := 0) C dX11_init_0 rfl 0 rfl ?_
  refine j_oinit (pc := 1) C wd_1022 wd_958 wd_959 dX11_init_1 (by decide) (Nat.le_of_ble_eq_true rfl) ?_
  refine j_aload_n (pc := 4) C dX11_init_4 rfl 0 rfl ?_
  refine j_sipush (pc := 5) (v := 1000) C dX11_init_5 (by decide) ?_
  refine j_newa (pc := 8) (at1 := .int) (ty := .int) (N := 1000) (a0 := (1000, .inl (fun _ => 0))) C wd_189 rfl 1 rfl (fun _ _ h => h) (fun _ => rfl) (by decide) (by decide) (by decide) (by decide) (by decide) dX11_init_8 (fun q_1 => ?_)
  refine j_widen (k := 1) (n := 1000) (by decide) (by decide) ?_
  refine j_putF (pc := 10) (ci := 11) (v := .ref q_1) (ws' := [(h0, .inr (11, [.int 0, .ref q_1, .int 0, .int 0, .null, .null, .null, .int 0, .int 0, .null, .null, .null, .null, .int 0, .null, .null, .int 0, .null, .null, .null, .null, .null, .int 0, .int 0, .int 0, .null, .int 0, .null, .null, .null, .null, .null, .null, .int 0, .int 0, .int 0, .null, .null, .int 0, .int 0, .int 0, .int 0, .null])), (q_1, .inl (cyI, 1000, .inl (fun _ => 0)))]) C inw_11 0 rfl rfl 1 (by decide) wd_628 rfl tyX11_ok nmX11 rfl hin rfl (tyX11_ok 1 (by decide)) rfl rfl (Nat.le_of_ble_eq_true rfl) dX11_init_10 rfl ?_
  refine j_aload_n (pc := 13) C dX11_init_13 rfl 0 rfl ?_
  refine j_sipush (pc := 14) (v := 1002) C dX11_init_14 (by decide) ?_
  refine j_newa (pc := 17) (at1 := .int) (ty := .int) (N := 1002) (a0 := (1002, .inl (fun _ => 0))) C wd_189 rfl 1 rfl (fun _ _ h => h) (fun _ => rfl) (by decide) (by decide) (by decide) (by decide) (by decide) dX11_init_17 (fun q_2 => ?_)
  refine j_widen (k := 2) (n := 2002) (by decide) (by decide) ?_
  refine j_putF (pc := 19) (ci := 11) (v := .ref q_2) (ws' := [(h0, .inr (11, [.int 0, .ref q_1, .int 0, .int 0, .ref q_2, .null, .null, .int 0, .int 0, .null, .null, .null, .null, .int 0, .null, .null, .int 0, .null, .null, .null, .null, .null, .int 0, .int 0, .int 0, .null, .int 0, .null, .null, .null, .null, .null, .null, .int 0, .int 0, .int 0, .null, .null, .int 0, .int 0, .int 0, .int 0, .null])), (q_1, .inl (cyI, 1000, .inl (fun _ => 0))), (q_2, .inl (cyI, 1002, .inl (fun _ => 0)))]) C inw_11 0 rfl rfl 4 (by decide) wd_635 rfl tyX11_ok nmX11 rfl hin rfl (tyX11_ok 4 (by decide)) rfl rfl (Nat.le_of_ble_eq_true rfl) dX11_init_19 rfl ?_
  refine j_aload_n (pc := 22) C dX11_init_22 rfl 0 rfl ?_
  refine j_sipush (pc := 23) (v := 1002) C dX11_init_23 (by decide) ?_
  refine j_newa (pc := 26) (at1 := .int) (ty := .int) (N := 1002) (a0 := (1002, .inl (fun _ => 0))) C wd_189 rfl 1 rfl (fun _ _ h => h) (fun _ => rfl) (by decide) (by decide) (by decide) (by decide) (by decide) dX11_init_26 (fun q_3 => ?_)
  refine j_widen (k := 3) (n := 3004) (by decide) (by decide) ?_
  refine j_putF (pc := 28) (ci := 11) (v := .ref q_3) (ws' := [(h0, .inr (11, [.int 0, .ref q_1, .int 0, .int 0, .ref q_2, .ref q_3, .null, .int 0, .int 0, .null, .null, .null, .null, .int 0, .null, .null, .int 0, .null, .null, .null, .null, .null, .int 0, .int 0, .int 0, .null, .int 0, .null, .null, .null, .null, .null, .null, .int 0, .int 0, .int 0, .null, .null, .int 0, .int 0, .int 0, .int 0, .null])), (q_1, .inl (cyI, 1000, .inl (fun _ => 0))), (q_2, .inl (cyI, 1002, .inl (fun _ => 0))), (q_3, .inl (cyI, 1002, .inl (fun _ => 0)))]) C inw_11 0 rfl rfl 5 (by decide) wd_636 rfl tyX11_ok nmX11 rfl hin rfl (tyX11_ok 5 (by decide)) rfl rfl (Nat.le_of_ble_eq_true rfl) dX11_init_28 rfl ?_
  refine j_aload_n (pc := 31) C dX11_init_31 rfl 0 rfl ?_
  refine j_sipush (pc := 32) (v := 1002) C dX11_init_32 (by decide) ?_
  refine j_newa (pc := 35) (at1 := .long) (ty := .long) (N := 1002) (a0 := (1002, .inr (.inl (fun _ => 0)))) C wd_978 rfl 2 rfl (fun _ _ h => h) (fun _ => rfl) (by decide) (by decide) (by decide) (by decide) (by decide) dX11_init_35 (fun q_4 => ?_)
  refine j_widen (k := 4) (n := 4006) (by decide) (by decide) ?_
  refine j_putF (pc := 37) (ci := 11) (v := .ref q_4) (ws' := [(h0, .inr (11, [.int 0, .ref q_1, .int 0, .int 0, .ref q_2, .ref q_3, .ref q_4, .int 0, .int 0, .null, .null, .null, .null, .int 0, .null, .null, .int 0, .null, .null, .null, .null, .null, .int 0, .int 0, .int 0, .null, .int 0, .null, .null, .null, .null, .null, .null, .int 0, .int 0, .int 0, .null, .null, .int 0, .int 0, .int 0, .int 0, .null])), (q_1, .inl (cyI, 1000, .inl (fun _ => 0))), (q_2, .inl (cyI, 1002, .inl (fun _ => 0))), (q_3, .inl (cyI, 1002, .inl (fun _ => 0))), (q_4, .inl (cyJ, 1002, .inr (.inl (fun _ => 0))))]) C inw_11 0 rfl rfl 6 (by decide) wd_645 rfl tyX11_ok nmX11 rfl hin rfl (tyX11_ok 6 (by decide)) rfl rfl (Nat.le_of_ble_eq_true rfl) dX11_init_37 rfl ?_
  refine j_aload_n (pc := 40) C dX11_init_40 rfl 0 rfl ?_
  refine j_bipush (pc := 41) (v := 23) C dX11_init_41 (by decide) ?_
  refine j_newa (pc := 43) (at1 := .long) (ty := .long) (N := 23) (a0 := (23, .inr (.inl (fun _ => 0)))) C wd_978 rfl 2 rfl (fun _ _ h => h) (fun _ => rfl) (by decide) (by decide) (by decide) (by decide) (by decide) dX11_init_43 (fun q_5 => ?_)
  refine j_widen (k := 5) (n := 4029) (by decide) (by decide) ?_
  refine j_dup (pc := 45) C dX11_init_45 rfl ?_
  refine j_iconst (pc := 46) (v := 0) C dX11_init_46 (by decide) ?_
  refine j_ldc2 (pc := 47) C wd_1023 dX11_init_47 ?_
  refine j_last (pc := 50) (k := 0) (ws' := [(h0, .inr (11, [.int 0, .ref q_1, .int 0, .int 0, .ref q_2, .ref q_3, .ref q_4, .int 0, .int 0, .null, .null, .null, .null, .int 0, .null, .null, .int 0, .null, .null, .null, .null, .null, .int 0, .int 0, .int 0, .null, .int 0, .null, .null, .null, .null, .null, .null, .int 0, .int 0, .int 0, .null, .null, .int 0, .int 0, .int 0, .int 0, .null])), (q_1, .inl (cyI, 1000, .inl (fun _ => 0))), (q_2, .inl (cyI, 1002, .inl (fun _ => 0))), (q_3, .inl (cyI, 1002, .inl (fun _ => 0))), (q_4, .inl (cyJ, 1002, .inr (.inl (fun _ => 0)))), (q_5, .inl (cyJ, 23, .inr (.inl (vp_updL (fun _ => 0) 0 122704))))]) C 5 2 rfl rfl (by decide) (by decide) (by decide) dX11_init_50 rfl ?_
  refine j_dup (pc := 51) C dX11_init_51 rfl ?_
  refine j_iconst (pc := 52) (v := 1) C dX11_init_52 (by decide) ?_
  refine j_ldc2 (pc := 53) C wd_1024 dX11_init_53 ?_
  refine j_last (pc := 56) (k := 1) (ws' := [(h0, .inr (11, [.int 0, .ref q_1, .int 0, .int 0, .ref q_2, .ref q_3, .ref q_4, .int 0, .int 0, .null, .null, .null, .null, .int 0, .null, .null, .int 0, .null, .null, .null, .null, .null, .int 0, .int 0, .int 0, .null, .int 0, .null, .null, .null, .null, .null, .null, .int 0, .int 0, .int 0, .null, .null, .int 0, .int 0, .int 0, .int 0, .null])), (q_1, .inl (cyI, 1000, .inl (fun _ => 0))), (q_2, .inl (cyI, 1002, .inl (fun _ => 0))), (q_3, .inl (cyI, 1002, .inl (fun _ => 0))), (q_4, .inl (cyJ, 1002, .inr (.inl (fun _ => 0)))), (q_5, .inl (cyJ, 23, .inr (.inl (vp_updL (vp_updL (fun _ => 0) 0 122704) 1 16765))))]) C 5 2 rfl rfl (by decide) (by decide) (by decide) dX11_init_56 rfl ?_
  refine j_dup (pc := 57) C dX11_init_57 rfl ?_
  refine j_iconst (pc := 58) (v := 2) C dX11_init_58 (by decide) ?_
  refine j_ldc2 (pc := 59) C wd_1025 dX11_init_59 ?_
  refine j_last (pc := 62) (k := 2) (ws' := [(h0, .inr (11, [.int 0, .ref q_1, .int 0, .int 0, .ref q_2, .ref q_3, .ref q_4, .int 0, .int 0, .null, .null, .null, .null, .int 0, .null, .null, .int 0, .null, .null, .null, .null, .null, .int 0, .int 0, .int 0, .null, .int 0, .null, .null, .null, .null, .null, .null, .int 0, .int 0, .int 0, .null, .null, .int 0, .int 0, .int 0, .int 0, .null])), (q_1, .inl (cyI, 1000, .inl (fun _ => 0))), (q_2, .inl (cyI, 1002, .inl (fun _ => 0))), (q_3, .inl (cyI, 1002, .inl (fun _ => 0))), (q_4, .inl (cyJ, 1002, .inr (.inl (fun _ => 0)))), (q_5, .inl (cyJ, 23, .inr (.inl (vp_updL (vp_updL (vp_updL (fun _ => 0) 0 122704) 1 16765) 2 36021578))))]) C 5 2 rfl rfl (by decide) (by decide) (by decide) dX11_init_62 rfl ?_
  refine j_dup (pc := 63) C dX11_init_63 rfl ?_
  refine j_iconst (pc := 64) (v := 3) C dX11_init_64 (by decide) ?_
  refine j_ldc2 (pc := 65) C wd_1026 dX11_init_65 ?_
  refine j_last (pc := 68) (k := 3) (ws' := [(h0, .inr (11, [.int 0, .ref q_1, .int 0, .int 0, .ref q_2, .ref q_3, .ref q_4, .int 0, .int 0, .null, .null, .null, .null, .int 0, .null, .null, .int 0, .null, .null, .null, .null, .null, .int 0, .int 0, .int 0, .null, .int 0, .null, .null, .null, .null, .null, .null, .int 0, .int 0, .int 0, .null, .null, .int 0, .int 0, .int 0, .int 0, .null])), (q_1, .inl (cyI, 1000, .inl (fun _ => 0))), (q_2, .inl (cyI, 1002, .inl (fun _ => 0))), (q_3, .inl (cyI, 1002, .inl (fun _ => 0))), (q_4, .inl (cyJ, 1002, .inr (.inl (fun _ => 0)))), (q_5, .inl (cyJ, 23, .inr (.inl (vp_updL (vp_updL (vp_updL (vp_updL (fun _ => 0) 0 122704) 1 16765) 2 36021578) 3 27951))))]) C 5 2 rfl rfl (by decide) (by decide) (by decide) dX11_init_68 rfl ?_
  refine j_dup (pc := 69) C dX11_init_69 rfl ?_
  refine j_iconst (pc := 70) (v := 4) C dX11_init_70 (by decide) ?_
  refine j_ldc2 (pc := 71) C wd_1027 dX11_init_71 ?_
  refine j_last (pc := 74) (k := 4) (ws' := [(h0, .inr (11, [.int 0, .ref q_1, .int 0, .int 0, .ref q_2, .ref q_3, .ref q_4, .int 0, .int 0, .null, .null, .null, .null, .int 0, .null, .null, .int 0, .null, .null, .null, .null, .null, .int 0, .int 0, .int 0, .null, .int 0, .null, .null, .null, .null, .null, .null, .int 0, .int 0, .int 0, .null, .null, .int 0, .int 0, .int 0, .int 0, .null])), (q_1, .inl (cyI, 1000, .inl (fun _ => 0))), (q_2, .inl (cyI, 1002, .inl (fun _ => 0))), (q_3, .inl (cyI, 1002, .inl (fun _ => 0))), (q_4, .inl (cyJ, 1002, .inr (.inl (fun _ => 0)))), (q_5, .inl (cyJ, 23, .inr (.inl (vp_updL (vp_updL (vp_updL (vp_updL (vp_updL (fun _ => 0) 0 122704) 1 16765) 2 36021578) 3 27951) 4 15047032))))]) C 5 2 rfl rfl (by decide) (by decide) (by decide) dX11_init_74 rfl ?_
  refine j_dup (pc := 75) C dX11_init_75 rfl ?_
  refine j_iconst (pc := 76) (v := 5) C dX11_init_76 (by decide) ?_
  refine j_ldc2 (pc := 77) C wd_1028 dX11_init_77 ?_
  refine j_last (pc := 80) (k := 5) (ws' := [(h0, .inr (11, [.int 0, .ref q_1, .int 0, .int 0, .ref q_2, .ref q_3, .ref q_4, .int 0, .int 0, .null, .null, .null, .null, .int 0, .null, .null, .int 0, .null, .null, .null, .null, .null, .int 0, .int 0, .int 0, .null, .int 0, .null, .null, .null, .null, .null, .null, .int 0, .int 0, .int 0, .null, .null, .int 0, .int 0, .int 0, .int 0, .null])), (q_1, .inl (cyI, 1000, .inl (fun _ => 0))), (q_2, .inl (cyI, 1002, .inl (fun _ => 0))), (q_3, .inl (cyI, 1002, .inl (fun _ => 0))), (q_4, .inl (cyJ, 1002, .inr (.inl (fun _ => 0)))), (q_5, .inl (cyJ, 23, .inr (.inl (vp_updL (vp_updL (vp_updL (vp_updL (vp_updL (vp_updL (fun _ => 0) 0 122704) 1 16765) 2 36021578) 3 27951) 4 15047032) 5 716710))))]) C 5 2 rfl rfl (by decide) (by decide) (by decide) dX11_init_80 rfl ?_
  refine j_dup (pc := 81) C dX11_init_81 rfl ?_
  refine j_bipush (pc := 82) (v := 6) C dX11_init_82 (by decide) ?_
  refine j_ldc2 (pc := 84) C wd_1029 dX11_init_84 ?_
  refine j_last (pc := 87) (k := 6) (ws' := [(h0, .inr (11, [.int 0, .ref q_1, .int 0, .int 0, .ref q_2, .ref q_3, .ref q_4, .int 0, .int 0, .null, .null, .null, .null, .int 0, .null, .null, .int 0, .null, .null, .null, .null, .null, .int 0, .int 0, .int 0, .null, .int 0, .null, .null, .null, .null, .null, .null, .int 0, .int 0, .int 0, .null, .null, .int 0, .int 0, .int 0, .int 0, .null])), (q_1, .inl (cyI, 1000, .inl (fun _ => 0))), (q_2, .inl (cyI, 1002, .inl (fun _ => 0))), (q_3, .inl (cyI, 1002, .inl (fun _ => 0))), (q_4, .inl (cyJ, 1002, .inr (.inl (fun _ => 0)))), (q_5, .inl (cyJ, 23, .inr (.inl (vp_updL (vp_updL (vp_updL (vp_updL (vp_updL (vp_updL (vp_updL (fun _ => 0) 0 122704) 1 16765) 2 36021578) 3 27951) 4 15047032) 5 716710) 6 1177493))))]) C 5 2 rfl rfl (by decide) (by decide) (by decide) dX11_init_87 rfl ?_
  refine j_dup (pc := 88) C dX11_init_88 rfl ?_
  refine j_bipush (pc := 89) (v := 7) C dX11_init_89 (by decide) ?_
  refine j_ldc2 (pc := 91) C wd_1030 dX11_init_91 ?_
  refine j_last (pc := 94) (k := 7) (ws' := [(h0, .inr (11, [.int 0, .ref q_1, .int 0, .int 0, .ref q_2, .ref q_3, .ref q_4, .int 0, .int 0, .null, .null, .null, .null, .int 0, .null, .null, .int 0, .null, .null, .null, .null, .null, .int 0, .int 0, .int 0, .null, .int 0, .null, .null, .null, .null, .null, .null, .int 0, .int 0, .int 0, .null, .null, .int 0, .int 0, .int 0, .int 0, .null])), (q_1, .inl (cyI, 1000, .inl (fun _ => 0))), (q_2, .inl (cyI, 1002, .inl (fun _ => 0))), (q_3, .inl (cyI, 1002, .inl (fun _ => 0))), (q_4, .inl (cyJ, 1002, .inr (.inl (fun _ => 0)))), (q_5, .inl (cyJ, 23, .inr (.inl (vp_updL (vp_updL (vp_updL (vp_updL (vp_updL (vp_updL (vp_updL (vp_updL (fun _ => 0) 0 122704) 1 16765) 2 36021578) 3 27951) 4 15047032) 5 716710) 6 1177493) 7 209658))))]) C 5 2 rfl rfl (by decide) (by decide) (by decide) dX11_init_94 rfl ?_
  refine j_dup (pc := 95) C dX11_init_95 rfl ?_
  refine j_bipush (pc := 96) (v := 8) C dX11_init_96 (by decide) ?_
  refine j_ldc2 (pc := 98) C wd_1031 dX11_init_98 ?_
  refine j_last (pc := 101) (k := 8) (ws' := [(h0, .inr (11, [.int 0, .ref q_1, .int 0, .int 0, .ref q_2, .ref q_3, .ref q_4, .int 0, .int 0, .null, .null, .null, .null, .int 0, .null, .null, .int 0, .null, .null, .null, .null, .null, .int 0, .int 0, .int 0, .null, .int 0, .null, .null, .null, .null, .null, .null, .int 0, .int 0, .int 0, .null, .null, .int 0, .int 0, .int 0, .int 0, .null])), (q_1, .inl (cyI, 1000, .inl (fun _ => 0))), (q_2, .inl (cyI, 1002, .inl (fun _ => 0))), (q_3, .inl (cyI, 1002, .inl (fun _ => 0))), (q_4, .inl (cyJ, 1002, .inr (.inl (fun _ => 0)))), (q_5, .inl (cyJ, 23, .inr (.inl (vp_updL (vp_updL (vp_updL (vp_updL (vp_updL (vp_updL (vp_updL (vp_updL (vp_updL (fun _ => 0) 0 122704) 1 16765) 2 36021578) 3 27951) 4 15047032) 5 716710) 6 1177493) 7 209658) 8 1604747592))))]) C 5 2 rfl rfl (by decide) (by decide) (by decide) dX11_init_101 rfl ?_
  refine j_dup (pc := 102) C dX11_init_102 rfl ?_
  refine j_bipush (pc := 103) (v := 9) C dX11_init_103 (by decide) ?_
  refine j_ldc2 (pc := 105) C wd_1032 dX11_init_105 ?_
  refine j_last (pc := 108) (k := 9) (ws' := [(h0, .inr (11, [.int 0, .ref q_1, .int 0, .int 0, .ref q_2, .ref q_3, .ref q_4, .int 0, .int 0, .null, .null, .null, .null, .int 0, .null, .null, .int 0, .null, .null, .null, .null, .null, .int 0, .int 0, .int 0, .null, .int 0, .null, .null, .null, .null, .null, .null, .int 0, .int 0, .int 0, .null, .null, .int 0, .int 0, .int 0, .int 0, .null])), (q_1, .inl (cyI, 1000, .inl (fun _ => 0))), (q_2, .inl (cyI, 1002, .inl (fun _ => 0))), (q_3, .inl (cyI, 1002, .inl (fun _ => 0))), (q_4, .inl (cyJ, 1002, .inr (.inl (fun _ => 0)))), (q_5, .inl (cyJ, 23, .inr (.inl (vp_updL (vp_updL (vp_updL (vp_updL (vp_updL (vp_updL (vp_updL (vp_updL (vp_updL (vp_updL (fun _ => 0) 0 122704) 1 16765) 2 36021578) 3 27951) 4 15047032) 5 716710) 6 1177493) 7 209658) 8 1604747592) 9 4003641))))]) C 5 2 rfl rfl (by decide) (by decide) (by decide) dX11_init_108 rfl ?_
  refine j_dup (pc := 109) C dX11_init_109 rfl ?_
  refine j_bipush (pc := 110) (v := 10) C dX11_init_110 (by decide) ?_
  refine j_ldc2 (pc := 112) C wd_1033 dX11_init_112 ?_
  refine j_last (pc := 115) (k := 10) (ws' := [(h0, .inr (11, [.int 0, .ref q_1, .int 0, .int 0, .ref q_2, .ref q_3, .ref q_4, .int 0, .int 0, .null, .null, .null, .null, .int 0, .null, .null, .int 0, .null, .null, .null, .null, .null, .int 0, .int 0, .int 0, .null, .int 0, .null, .null, .null, .null, .null, .null, .int 0, .int 0, .int 0, .null, .null, .int 0, .int 0, .int 0, .int 0, .null])), (q_1, .inl (cyI, 1000, .inl (fun _ => 0))), (q_2, .inl (cyI, 1002, .inl (fun _ => 0))), (q_3, .inl (cyI, 1002, .inl (fun _ => 0))), (q_4, .inl (cyJ, 1002, .inr (.inl (fun _ => 0)))), (q_5, .inl (cyJ, 23, .inr (.inl (vp_updL (vp_updL (vp_updL (vp_updL (vp_updL (vp_updL (vp_updL (vp_updL (vp_updL (vp_updL (vp_updL (fun _ => 0) 0 122704) 1 16765) 2 36021578) 3 27951) 4 15047032) 5 716710) 6 1177493) 7 209658) 8 1604747592) 9 4003641) 10 172677872))))]) C 5 2 rfl rfl (by decide) (by decide) (by decide) dX11_init_115 rfl ?_
  refine j_dup (pc := 116) C dX11_init_116 rfl ?_
  refine j_bipush (pc := 117) (v := 11) C dX11_init_117 (by decide) ?_
  refine j_ldc2 (pc := 119) C wd_1034 dX11_init_119 ?_
  refine j_last (pc := 122) (k := 11) (ws' := [(h0, .inr (11, [.int 0, .ref q_1, .int 0, .int 0, .ref q_2, .ref q_3, .ref q_4, .int 0, .int 0, .null, .null, .null, .null, .int 0, .null, .null, .int 0, .null, .null, .null, .null, .null, .int 0, .int 0, .int 0, .null, .int 0, .null, .null, .null, .null, .null, .null, .int 0, .int 0, .int 0, .null, .null, .int 0, .int 0, .int 0, .int 0, .null])), (q_1, .inl (cyI, 1000, .inl (fun _ => 0))), (q_2, .inl (cyI, 1002, .inl (fun _ => 0))), (q_3, .inl (cyI, 1002, .inl (fun _ => 0))), (q_4, .inl (cyJ, 1002, .inr (.inl (fun _ => 0)))), (q_5, .inl (cyJ, 23, .inr (.inl (vp_updL (vp_updL (vp_updL (vp_updL (vp_updL (vp_updL (vp_updL (vp_updL (vp_updL (vp_updL (vp_updL (vp_updL (fun _ => 0) 0 122704) 1 16765) 2 36021578) 3 27951) 4 15047032) 5 716710) 6 1177493) 7 209658) 8 1604747592) 9 4003641) 10 172677872) 11 564588237))))]) C 5 2 rfl rfl (by decide) (by decide) (by decide) dX11_init_122 rfl ?_
  refine j_dup (pc := 123) C dX11_init_123 rfl ?_
  refine j_bipush (pc := 124) (v := 12) C dX11_init_124 (by decide) ?_
  refine j_ldc2 (pc := 126) C wd_1035 dX11_init_126 ?_
  refine j_last (pc := 129) (k := 12) (ws' := [(h0, .inr (11, [.int 0, .ref q_1, .int 0, .int 0, .ref q_2, .ref q_3, .ref q_4, .int 0, .int 0, .null, .null, .null, .null, .int 0, .null, .null, .int 0, .null, .null, .null, .null, .null, .int 0, .int 0, .int 0, .null, .int 0, .null, .null, .null, .null, .null, .null, .int 0, .int 0, .int 0, .null, .null, .int 0, .int 0, .int 0, .int 0, .null])), (q_1, .inl (cyI, 1000, .inl (fun _ => 0))), (q_2, .inl (cyI, 1002, .inl (fun _ => 0))), (q_3, .inl (cyI, 1002, .inl (fun _ => 0))), (q_4, .inl (cyJ, 1002, .inr (.inl (fun _ => 0)))), (q_5, .inl (cyJ, 23, .inr (.inl (vp_updL (vp_updL (vp_updL (vp_updL (vp_updL (vp_updL (vp_updL (vp_updL (vp_updL (vp_updL (vp_updL (vp_updL (vp_updL (fun _ => 0) 0 122704) 1 16765) 2 36021578) 3 27951) 4 15047032) 5 716710) 6 1177493) 7 209658) 8 1604747592) 9 4003641) 10 172677872) 11 564588237) 12 33989651))))]) C 5 2 rfl rfl (by decide) (by decide) (by decide) dX11_init_129 rfl ?_
  refine j_dup (pc := 130) C dX11_init_130 rfl ?_
  refine j_bipush (pc := 131) (v := 13) C dX11_init_131 (by decide) ?_
  refine j_ldc2 (pc := 133) C wd_1036 dX11_init_133 ?_
  refine j_last (pc := 136) (k := 13) (ws' := [(h0, .inr (11, [.int 0, .ref q_1, .int 0, .int 0, .ref q_2, .ref q_3, .ref q_4, .int 0, .int 0, .null, .null, .null, .null, .int 0, .null, .null, .int 0, .null, .null, .null, .null, .null, .int 0, .int 0, .int 0, .null, .int 0, .null, .null, .null, .null, .null, .null, .int 0, .int 0, .int 0, .null, .null, .int 0, .int 0, .int 0, .int 0, .null])), (q_1, .inl (cyI, 1000, .inl (fun _ => 0))), (q_2, .inl (cyI, 1002, .inl (fun _ => 0))), (q_3, .inl (cyI, 1002, .inl (fun _ => 0))), (q_4, .inl (cyJ, 1002, .inr (.inl (fun _ => 0)))), (q_5, .inl (cyJ, 23, .inr (.inl (vp_updL (vp_updL (vp_updL (vp_updL (vp_updL (vp_updL (vp_updL (vp_updL (vp_updL (vp_updL (vp_updL (vp_updL (vp_updL (vp_updL (fun _ => 0) 0 122704) 1 16765) 2 36021578) 3 27951) 4 15047032) 5 716710) 6 1177493) 7 209658) 8 1604747592) 9 4003641) 10 172677872) 11 564588237) 12 33989651) 13 932857))))]) C 5 2 rfl rfl (by decide) (by decide) (by decide) dX11_init_136 rfl ?_
  refine j_dup (pc := 137) C dX11_init_137 rfl ?_
  refine j_bipush (pc := 138) (v := 14) C dX11_init_138 (by decide) ?_
  refine j_ldc2 (pc := 140) C wd_1037 dX11_init_140 ?_
  refine j_last (pc := 143) (k := 14) (ws' := [(h0, .inr (11, [.int 0, .ref q_1, .int 0, .int 0, .ref q_2, .ref q_3, .ref q_4, .int 0, .int 0, .null, .null, .null, .null, .int 0, .null, .null, .int 0, .null, .null, .null, .null, .null, .int 0, .int 0, .int 0, .null, .int 0, .null, .null, .null, .null, .null, .null, .int 0, .int 0, .int 0, .null, .null, .int 0, .int 0, .int 0, .int 0, .null])), (q_1, .inl (cyI, 1000, .inl (fun _ => 0))), (q_2, .inl (cyI, 1002, .inl (fun _ => 0))), (q_3, .inl (cyI, 1002, .inl (fun _ => 0))), (q_4, .inl (cyJ, 1002, .inr (.inl (fun _ => 0)))), (q_5, .inl (cyJ, 23, .inr (.inl (vp_updL (vp_updL (vp_updL (vp_updL (vp_updL (vp_updL (vp_updL (vp_updL (vp_updL (vp_updL (vp_updL (vp_updL (vp_updL (vp_updL (vp_updL (fun _ => 0) 0 122704) 1 16765) 2 36021578) 3 27951) 4 15047032) 5 716710) 6 1177493) 7 209658) 8 1604747592) 9 4003641) 10 172677872) 11 564588237) 12 33989651) 13 932857) 14 19741))))]) C 5 2 rfl rfl (by decide) (by decide) (by decide) dX11_init_143 rfl ?_
  refine j_dup (pc := 144) C dX11_init_144 rfl ?_
  refine j_bipush (pc := 145) (v := 15) C dX11_init_145 (by decide) ?_
  refine j_ldc2 (pc := 147) C wd_1038 dX11_init_147 ?_
  refine j_last (pc := 150) (k := 15) (ws' := [(h0, .inr (11, [.int 0, .ref q_1, .int 0, .int 0, .ref q_2, .ref q_3, .ref q_4, .int 0, .int 0, .null, .null, .null, .null, .int 0, .null, .null, .int 0, .null, .null, .null, .null, .null, .int 0, .int 0, .int 0, .null, .int 0, .null, .null, .null, .null, .null, .null, .int 0, .int 0, .int 0, .null, .null, .int 0, .int 0, .int 0, .int 0, .null])), (q_1, .inl (cyI, 1000, .inl (fun _ => 0))), (q_2, .inl (cyI, 1002, .inl (fun _ => 0))), (q_3, .inl (cyI, 1002, .inl (fun _ => 0))), (q_4, .inl (cyJ, 1002, .inr (.inl (fun _ => 0)))), (q_5, .inl (cyJ, 23, .inr (.inl (vp_updL (vp_updL (vp_updL (vp_updL (vp_updL (vp_updL (vp_updL (vp_updL (vp_updL (vp_updL (vp_updL (vp_updL (vp_updL (vp_updL (vp_updL (vp_updL (fun _ => 0) 0 122704) 1 16765) 2 36021578) 3 27951) 4 15047032) 5 716710) 6 1177493) 7 209658) 8 1604747592) 9 4003641) 10 172677872) 11 564588237) 12 33989651) 13 932857) 14 19741) 15 1891))))]) C 5 2 rfl rfl (by decide) (by decide) (by decide) dX11_init_150 rfl ?_
  refine j_dup (pc := 151) C dX11_init_151 rfl ?_
  refine j_bipush (pc := 152) (v := 16) C dX11_init_152 (by decide) ?_
  refine j_ldc2 (pc := 154) C wd_1039 dX11_init_154 ?_
  refine j_last (pc := 157) (k := 16) (ws' := [(h0, .inr (11, [.int 0, .ref q_1, .int 0, .int 0, .ref q_2, .ref q_3, .ref q_4, .int 0, .int 0, .null, .null, .null, .null, .int 0, .null, .null, .int 0, .null, .null, .null, .null, .null, .int 0, .int 0, .int 0, .null, .int 0, .null, .null, .null, .null, .null, .null, .int 0, .int 0, .int 0, .null, .null, .int 0, .int 0, .int 0, .int 0, .null])), (q_1, .inl (cyI, 1000, .inl (fun _ => 0))), (q_2, .inl (cyI, 1002, .inl (fun _ => 0))), (q_3, .inl (cyI, 1002, .inl (fun _ => 0))), (q_4, .inl (cyJ, 1002, .inr (.inl (fun _ => 0)))), (q_5, .inl (cyJ, 23, .inr (.inl (vp_updL (vp_updL (vp_updL (vp_updL (vp_updL (vp_updL (vp_updL (vp_updL (vp_updL (vp_updL (vp_updL (vp_updL (vp_updL (vp_updL (vp_updL (vp_updL (vp_updL (fun _ => 0) 0 122704) 1 16765) 2 36021578) 3 27951) 4 15047032) 5 716710) 6 1177493) 7 209658) 8 1604747592) 9 4003641) 10 172677872) 11 564588237) 12 33989651) 13 932857) 14 19741) 15 1891) 16 573))))]) C 5 2 rfl rfl (by decide) (by decide) (by decide) dX11_init_157 rfl ?_
  refine j_dup (pc := 158) C dX11_init_158 rfl ?_
  refine j_bipush (pc := 159) (v := 17) C dX11_init_159 (by decide) ?_
  refine j_ldc2 (pc := 161) C wd_1040 dX11_init_161 ?_
  refine j_last (pc := 164) (k := 17) (ws' := [(h0, .inr (11, [.int 0, .ref q_1, .int 0, .int 0, .ref q_2, .ref q_3, .ref q_4, .int 0, .int 0, .null, .null, .null, .null, .int 0, .null, .null, .int 0, .null, .null, .null, .null, .null, .int 0, .int 0, .int 0, .null, .int 0, .null, .null, .null, .null, .null, .null, .int 0, .int 0, .int 0, .null, .null, .int 0, .int 0, .int 0, .int 0, .null])), (q_1, .inl (cyI, 1000, .inl (fun _ => 0))), (q_2, .inl (cyI, 1002, .inl (fun _ => 0))), (q_3, .inl (cyI, 1002, .inl (fun _ => 0))), (q_4, .inl (cyJ, 1002, .inr (.inl (fun _ => 0)))), (q_5, .inl (cyJ, 23, .inr (.inl (vp_updL (vp_updL (vp_updL (vp_updL (vp_updL (vp_updL (vp_updL (vp_updL (vp_updL (vp_updL (vp_updL (vp_updL (vp_updL (vp_updL (vp_updL (vp_updL (vp_updL (vp_updL (fun _ => 0) 0 122704) 1 16765) 2 36021578) 3 27951) 4 15047032) 5 716710) 6 1177493) 7 209658) 8 1604747592) 9 4003641) 10 172677872) 11 564588237) 12 33989651) 13 932857) 14 19741) 15 1891) 16 573) 17 17595960))))]) C 5 2 rfl rfl (by decide) (by decide) (by decide) dX11_init_164 rfl ?_
  refine j_dup (pc := 165) C dX11_init_165 rfl ?_
  refine j_bipush (pc := 166) (v := 18) C dX11_init_166 (by decide) ?_
  refine j_ldc2 (pc := 168) C wd_1041 dX11_init_168 ?_
  refine j_last (pc := 171) (k := 18) (ws' := [(h0, .inr (11, [.int 0, .ref q_1, .int 0, .int 0, .ref q_2, .ref q_3, .ref q_4, .int 0, .int 0, .null, .null, .null, .null, .int 0, .null, .null, .int 0, .null, .null, .null, .null, .null, .int 0, .int 0, .int 0, .null, .int 0, .null, .null, .null, .null, .null, .null, .int 0, .int 0, .int 0, .null, .null, .int 0, .int 0, .int 0, .int 0, .null])), (q_1, .inl (cyI, 1000, .inl (fun _ => 0))), (q_2, .inl (cyI, 1002, .inl (fun _ => 0))), (q_3, .inl (cyI, 1002, .inl (fun _ => 0))), (q_4, .inl (cyJ, 1002, .inr (.inl (fun _ => 0)))), (q_5, .inl (cyJ, 23, .inr (.inl (vp_updL (vp_updL (vp_updL (vp_updL (vp_updL (vp_updL (vp_updL (vp_updL (vp_updL (vp_updL (vp_updL (vp_updL (vp_updL (vp_updL (vp_updL (vp_updL (vp_updL (vp_updL (vp_updL (fun _ => 0) 0 122704) 1 16765) 2 36021578) 3 27951) 4 15047032) 5 716710) 6 1177493) 7 209658) 8 1604747592) 9 4003641) 10 172677872) 11 564588237) 12 33989651) 13 932857) 14 19741) 15 1891) 16 573) 17 17595960) 18 29203711))))]) C 5 2 rfl rfl (by decide) (by decide) (by decide) dX11_init_171 rfl ?_
  refine j_dup (pc := 172) C dX11_init_172 rfl ?_
  refine j_bipush (pc := 173) (v := 19) C dX11_init_173 (by decide) ?_
  refine j_ldc2 (pc := 175) C wd_1042 dX11_init_175 ?_
  refine j_last (pc := 178) (k := 19) (ws' := [(h0, .inr (11, [.int 0, .ref q_1, .int 0, .int 0, .ref q_2, .ref q_3, .ref q_4, .int 0, .int 0, .null, .null, .null, .null, .int 0, .null, .null, .int 0, .null, .null, .null, .null, .null, .int 0, .int 0, .int 0, .null, .int 0, .null, .null, .null, .null, .null, .null, .int 0, .int 0, .int 0, .null, .null, .int 0, .int 0, .int 0, .int 0, .null])), (q_1, .inl (cyI, 1000, .inl (fun _ => 0))), (q_2, .inl (cyI, 1002, .inl (fun _ => 0))), (q_3, .inl (cyI, 1002, .inl (fun _ => 0))), (q_4, .inl (cyJ, 1002, .inr (.inl (fun _ => 0)))), (q_5, .inl (cyJ, 23, .inr (.inl (vp_updL (vp_updL (vp_updL (vp_updL (vp_updL (vp_updL (vp_updL (vp_updL (vp_updL (vp_updL (vp_updL (vp_updL (vp_updL (vp_updL (vp_updL (vp_updL (vp_updL (vp_updL (vp_updL (vp_updL (fun _ => 0) 0 122704) 1 16765) 2 36021578) 3 27951) 4 15047032) 5 716710) 6 1177493) 7 209658) 8 1604747592) 9 4003641) 10 172677872) 11 564588237) 12 33989651) 13 932857) 14 19741) 15 1891) 16 573) 17 17595960) 18 29203711) 19 17006))))]) C 5 2 rfl rfl (by decide) (by decide) (by decide) dX11_init_178 rfl ?_
  refine j_dup (pc := 179) C dX11_init_179 rfl ?_
  refine j_bipush (pc := 180) (v := 20) C dX11_init_180 (by decide) ?_
  refine j_ldc2 (pc := 182) C wd_1043 dX11_init_182 ?_
  refine j_last (pc := 185) (k := 20) (ws' := [(h0, .inr (11, [.int 0, .ref q_1, .int 0, .int 0, .ref q_2, .ref q_3, .ref q_4, .int 0, .int 0, .null, .null, .null, .null, .int 0, .null, .null, .int 0, .null, .null, .null, .null, .null, .int 0, .int 0, .int 0, .null, .int 0, .null, .null, .null, .null, .null, .null, .int 0, .int 0, .int 0, .null, .null, .int 0, .int 0, .int 0, .int 0, .null])), (q_1, .inl (cyI, 1000, .inl (fun _ => 0))), (q_2, .inl (cyI, 1002, .inl (fun _ => 0))), (q_3, .inl (cyI, 1002, .inl (fun _ => 0))), (q_4, .inl (cyJ, 1002, .inr (.inl (fun _ => 0)))), (q_5, .inl (cyJ, 23, .inr (.inl (vp_updL (vp_updL (vp_updL (vp_updL (vp_updL (vp_updL (vp_updL (vp_updL (vp_updL (vp_updL (vp_updL (vp_updL (vp_updL (vp_updL (vp_updL (vp_updL (vp_updL (vp_updL (vp_updL (vp_updL (vp_updL (fun _ => 0) 0 122704) 1 16765) 2 36021578) 3 27951) 4 15047032) 5 716710) 6 1177493) 7 209658) 8 1604747592) 9 4003641) 10 172677872) 11 564588237) 12 33989651) 13 932857) 14 19741) 15 1891) 16 573) 17 17595960) 18 29203711) 19 17006) 20 22955708))))]) C 5 2 rfl rfl (by decide) (by decide) (by decide) dX11_init_185 rfl ?_
  refine j_dup (pc := 186) C dX11_init_186 rfl ?_
  refine j_bipush (pc := 187) (v := 21) C dX11_init_187 (by decide) ?_
  refine j_ldc2 (pc := 189) C wd_1044 dX11_init_189 ?_
  refine j_last (pc := 192) (k := 21) (ws' := [(h0, .inr (11, [.int 0, .ref q_1, .int 0, .int 0, .ref q_2, .ref q_3, .ref q_4, .int 0, .int 0, .null, .null, .null, .null, .int 0, .null, .null, .int 0, .null, .null, .null, .null, .null, .int 0, .int 0, .int 0, .null, .int 0, .null, .null, .null, .null, .null, .null, .int 0, .int 0, .int 0, .null, .null, .int 0, .int 0, .int 0, .int 0, .null])), (q_1, .inl (cyI, 1000, .inl (fun _ => 0))), (q_2, .inl (cyI, 1002, .inl (fun _ => 0))), (q_3, .inl (cyI, 1002, .inl (fun _ => 0))), (q_4, .inl (cyJ, 1002, .inr (.inl (fun _ => 0)))), (q_5, .inl (cyJ, 23, .inr (.inl (vp_updL (vp_updL (vp_updL (vp_updL (vp_updL (vp_updL (vp_updL (vp_updL (vp_updL (vp_updL (vp_updL (vp_updL (vp_updL (vp_updL (vp_updL (vp_updL (vp_updL (vp_updL (vp_updL (vp_updL (vp_updL (vp_updL (fun _ => 0) 0 122704) 1 16765) 2 36021578) 3 27951) 4 15047032) 5 716710) 6 1177493) 7 209658) 8 1604747592) 9 4003641) 10 172677872) 11 564588237) 12 33989651) 13 932857) 14 19741) 15 1891) 16 573) 17 17595960) 18 29203711) 19 17006) 20 22955708) 21 15248761))))]) C 5 2 rfl rfl (by decide) (by decide) (by decide) dX11_init_192 rfl ?_
  refine j_dup (pc := 193) C dX11_init_193 rfl ?_
  refine j_bipush (pc := 194) (v := 22) C dX11_init_194 (by decide) ?_
  refine j_ldc2 (pc := 196) C wd_1045 dX11_init_196 ?_
  refine j_last (pc := 199) (k := 22) (ws' := [(h0, .inr (11, [.int 0, .ref q_1, .int 0, .int 0, .ref q_2, .ref q_3, .ref q_4, .int 0, .int 0, .null, .null, .null, .null, .int 0, .null, .null, .int 0, .null, .null, .null, .null, .null, .int 0, .int 0, .int 0, .null, .int 0, .null, .null, .null, .null, .null, .null, .int 0, .int 0, .int 0, .null, .null, .int 0, .int 0, .int 0, .int 0, .null])), (q_1, .inl (cyI, 1000, .inl (fun _ => 0))), (q_2, .inl (cyI, 1002, .inl (fun _ => 0))), (q_3, .inl (cyI, 1002, .inl (fun _ => 0))), (q_4, .inl (cyJ, 1002, .inr (.inl (fun _ => 0)))), (q_5, .inl (cyJ, 23, .inr (.inl (vp_updL (vp_updL (vp_updL (vp_updL (vp_updL (vp_updL (vp_updL (vp_updL (vp_updL (vp_updL (vp_updL (vp_updL (vp_updL (vp_updL (vp_updL (vp_updL (vp_updL (vp_updL (vp_updL (vp_updL (vp_updL (vp_updL (vp_updL (fun _ => 0) 0 122704) 1 16765) 2 36021578) 3 27951) 4 15047032) 5 716710) 6 1177493) 7 209658) 8 1604747592) 9 4003641) 10 172677872) 11 564588237) 12 33989651) 13 932857) 14 19741) 15 1891) 16 573) 17 17595960) 18 29203711) 19 17006) 20 22955708) 21 15248761) 22 40072202))))]) C 5 2 rfl rfl (by decide) (by decide) (by decide) dX11_init_199 rfl ?_
  refine j_putF (pc := 200) (ci := 11) (v := .ref q_5) (ws' := [(h0, .inr (11, [.int 0, .ref q_1, .int 0, .int 0, .ref q_2, .ref q_3, .ref q_4, .int 0, .int 0, .ref q_5, .null, .null, .null, .int 0, .null, .null, .int 0, .null, .null, .null, .null, .null, .int 0, .int 0, .int 0, .null, .int 0, .null, .null, .null, .null, .null, .null, .int 0, .int 0, .int 0, .null, .null, .int 0, .int 0, .int 0, .int 0, .null])), (q_1, .inl (cyI, 1000, .inl (fun _ => 0))), (q_2, .inl (cyI, 1002, .inl (fun _ => 0))), (q_3, .inl (cyI, 1002, .inl (fun _ => 0))), (q_4, .inl (cyJ, 1002, .inr (.inl (fun _ => 0)))), (q_5, .inl (cyJ, 23, .inr (.inl (vp_updL (vp_updL (vp_updL (vp_updL (vp_updL (vp_updL (vp_updL (vp_updL (vp_updL (vp_updL (vp_updL (vp_updL (vp_updL (vp_updL (vp_updL (vp_updL (vp_updL (vp_updL (vp_updL (vp_updL (vp_updL (vp_updL (vp_updL (fun _ => 0) 0 122704) 1 16765) 2 36021578) 3 27951) 4 15047032) 5 716710) 6 1177493) 7 209658) 8 1604747592) 9 4003641) 10 172677872) 11 564588237) 12 33989651) 13 932857) 14 19741) 15 1891) 16 573) 17 17595960) 18 29203711) 19 17006) 20 22955708) 21 15248761) 22 40072202))))]) C inw_11 0 rfl rfl 9 (by decide) wd_652 rfl tyX11_ok nmX11 rfl hin rfl (tyX11_ok 9 (by decide)) rfl rfl (Nat.le_of_ble_eq_true rfl) dX11_init_200 rfl ?_
  refine j_aload_n (pc := 203) C dX11_init_203 rfl 0 rfl ?_
  refine j_sipush (pc := 204) (v := 240) C dX11_init_204 (by decide) ?_
  refine j_newa (pc := 207) (at1 := .int) (ty := .int) (N := 240) (a0 := (240, .inl (fun _ => 0))) C wd_189 rfl 1 rfl (fun _ _ h => h) (fun _ => rfl) (by decide) (by decide) (by decide) (by decide) (by decide) dX11_init_207 (fun q_6 => ?_)
  refine j_widen (k := 6) (n := 4269) (by decide) (by decide) ?_
  refine j_putF (pc := 209) (ci := 11) (v := .ref q_6) (ws' := [(h0, .inr (11, [.int 0, .ref q_1, .int 0, .int 0, .ref q_2, .ref q_3, .ref q_4, .int 0, .int 0, .ref q_5, .ref q_6, .null, .null, .int 0, .null, .null, .int 0, .null, .null, .null, .null, .null, .int 0, .int 0, .int 0, .null, .int 0, .null, .null, .null, .null, .null, .null, .int 0, .int 0, .int 0, .null, .null, .int 0, .int 0, .int 0, .int 0, .null])), (q_1, .inl (cyI, 1000, .inl (fun _ => 0))), (q_2, .inl (cyI, 1002, .inl (fun _ => 0))), (q_3, .inl (cyI, 1002, .inl (fun _ => 0))), (q_4, .inl (cyJ, 1002, .inr (.inl (fun _ => 0)))), (q_5, .inl (cyJ, 23, .inr (.inl (vp_updL (vp_updL (vp_updL (vp_updL (vp_updL (vp_updL (vp_updL (vp_updL (vp_updL (vp_updL (vp_updL (vp_updL (vp_updL (vp_updL (vp_updL (vp_updL (vp_updL (vp_updL (vp_updL (vp_updL (vp_updL (vp_updL (vp_updL (fun _ => 0) 0 122704) 1 16765) 2 36021578) 3 27951) 4 15047032) 5 716710) 6 1177493) 7 209658) 8 1604747592) 9 4003641) 10 172677872) 11 564588237) 12 33989651) 13 932857) 14 19741) 15 1891) 16 573) 17 17595960) 18 29203711) 19 17006) 20 22955708) 21 15248761) 22 40072202)))), (q_6, .inl (cyI, 240, .inl (fun _ => 0)))]) C inw_11 0 rfl rfl 10 (by decide) wd_669 rfl tyX11_ok nmX11 rfl hin rfl (tyX11_ok 10 (by decide)) rfl rfl (Nat.le_of_ble_eq_true rfl) dX11_init_209 rfl ?_
  refine j_aload_n (pc := 212) C dX11_init_212 rfl 0 rfl ?_
  refine j_sipush (pc := 213) (v := 2200) C dX11_init_213 (by decide) ?_
  refine j_newa (pc := 216) (at1 := .int) (ty := .int) (N := 2200) (a0 := (2200, .inl (fun _ => 0))) C wd_189 rfl 1 rfl (fun _ _ h => h) (fun _ => rfl) (by decide) (by decide) (by decide) (by decide) (by decide) dX11_init_216 (fun q_7 => ?_)
  refine j_widen (k := 7) (n := 6469) (by decide) (by decide) ?_
  refine j_putF (pc := 218) (ci := 11) (v := .ref q_7) (ws' := [(h0, .inr (11, [.int 0, .ref q_1, .int 0, .int 0, .ref q_2, .ref q_3, .ref q_4, .int 0, .int 0, .ref q_5, .ref q_6, .ref q_7, .null, .int 0, .null, .null, .int 0, .null, .null, .null, .null, .null, .int 0, .int 0, .int 0, .null, .int 0, .null, .null, .null, .null, .null, .null, .int 0, .int 0, .int 0, .null, .null, .int 0, .int 0, .int 0, .int 0, .null])), (q_1, .inl (cyI, 1000, .inl (fun _ => 0))), (q_2, .inl (cyI, 1002, .inl (fun _ => 0))), (q_3, .inl (cyI, 1002, .inl (fun _ => 0))), (q_4, .inl (cyJ, 1002, .inr (.inl (fun _ => 0)))), (q_5, .inl (cyJ, 23, .inr (.inl (vp_updL (vp_updL (vp_updL (vp_updL (vp_updL (vp_updL (vp_updL (vp_updL (vp_updL (vp_updL (vp_updL (vp_updL (vp_updL (vp_updL (vp_updL (vp_updL (vp_updL (vp_updL (vp_updL (vp_updL (vp_updL (vp_updL (vp_updL (fun _ => 0) 0 122704) 1 16765) 2 36021578) 3 27951) 4 15047032) 5 716710) 6 1177493) 7 209658) 8 1604747592) 9 4003641) 10 172677872) 11 564588237) 12 33989651) 13 932857) 14 19741) 15 1891) 16 573) 17 17595960) 18 29203711) 19 17006) 20 22955708) 21 15248761) 22 40072202)))), (q_6, .inl (cyI, 240, .inl (fun _ => 0))), (q_7, .inl (cyI, 2200, .inl (fun _ => 0)))]) C inw_11 0 rfl rfl 11 (by decide) wd_696 rfl tyX11_ok nmX11 rfl hin rfl (tyX11_ok 11 (by decide)) rfl rfl (Nat.le_of_ble_eq_true rfl) dX11_init_218 rfl ?_
  refine j_aload_n (pc := 221) C dX11_init_221 rfl 0 rfl ?_
  refine j_sipush (pc := 222) (v := 2200) C dX11_init_222 (by decide) ?_
  refine j_newa (pc := 225) (at1 := .int) (ty := .int) (N := 2200) (a0 := (2200, .inl (fun _ => 0))) C wd_189 rfl 1 rfl (fun _ _ h => h) (fun _ => rfl) (by decide) (by decide) (by decide) (by decide) (by decide) dX11_init_225 (fun q_8 => ?_)
  refine j_widen (k := 8) (n := 8669) (by decide) (by decide) ?_
  refine j_putF (pc := 227) (ci := 11) (v := .ref q_8) (ws' := [(h0, .inr (11, [.int 0, .ref q_1, .int 0, .int 0, .ref q_2, .ref q_3, .ref q_4, .int 0, .int 0, .ref q_5, .ref q_6, .ref q_7, .ref q_8, .int 0, .null, .null, .int 0, .null, .null, .null, .null, .null, .int 0, .int 0, .int 0, .null, .int 0, .null, .null, .null, .null, .null, .null, .int 0, .int 0, .int 0, .null, .null, .int 0, .int 0, .int 0, .int 0, .null])), (q_1, .inl (cyI, 1000, .inl (fun _ => 0))), (q_2, .inl (cyI, 1002, .inl (fun _ => 0))), (q_3, .inl (cyI, 1002, .inl (fun _ => 0))), (q_4, .inl (cyJ, 1002, .inr (.inl (fun _ => 0)))), (q_5, .inl (cyJ, 23, .inr (.inl (vp_updL (vp_updL (vp_updL (vp_updL (vp_updL (vp_updL (vp_updL (vp_updL (vp_updL (vp_updL (vp_updL (vp_updL (vp_updL (vp_updL (vp_updL (vp_updL (vp_updL (vp_updL (vp_updL (vp_updL (vp_updL (vp_updL (vp_updL (fun _ => 0) 0 122704) 1 16765) 2 36021578) 3 27951) 4 15047032) 5 716710) 6 1177493) 7 209658) 8 1604747592) 9 4003641) 10 172677872) 11 564588237) 12 33989651) 13 932857) 14 19741) 15 1891) 16 573) 17 17595960) 18 29203711) 19 17006) 20 22955708) 21 15248761) 22 40072202)))), (q_6, .inl (cyI, 240, .inl (fun _ => 0))), (q_7, .inl (cyI, 2200, .inl (fun _ => 0))), (q_8, .inl (cyI, 2200, .inl (fun _ => 0)))]) C inw_11 0 rfl rfl 12 (by decide) wd_698 rfl tyX11_ok nmX11 rfl hin rfl (tyX11_ok 12 (by decide)) rfl rfl (Nat.le_of_ble_eq_true rfl) dX11_init_227 rfl ?_
  refine j_aload_n (pc := 230) C dX11_init_230 rfl 0 rfl ?_
  refine j_bipush (pc := 231) (v := 16) C dX11_init_231 (by decide) ?_
  refine j_newa (pc := 233) (at1 := .long) (ty := .long) (N := 16) (a0 := (16, .inr (.inl (fun _ => 0)))) C wd_978 rfl 2 rfl (fun _ _ h => h) (fun _ => rfl) (by decide) (by decide) (by decide) (by decide) (by decide) dX11_init_233 (fun q_9 => ?_)
  refine j_widen (k := 9) (n := 8685) (by decide) (by decide) ?_
  refine j_putF (pc := 235) (ci := 11) (v := .ref q_9) (ws' := [(h0, .inr (11, [.int 0, .ref q_1, .int 0, .int 0, .ref q_2, .ref q_3, .ref q_4, .int 0, .int 0, .ref q_5, .ref q_6, .ref q_7, .ref q_8, .int 0, .ref q_9, .null, .int 0, .null, .null, .null, .null, .null, .int 0, .int 0, .int 0, .null, .int 0, .null, .null, .null, .null, .null, .null, .int 0, .int 0, .int 0, .null, .null, .int 0, .int 0, .int 0, .int 0, .null])), (q_1, .inl (cyI, 1000, .inl (fun _ => 0))), (q_2, .inl (cyI, 1002, .inl (fun _ => 0))), (q_3, .inl (cyI, 1002, .inl (fun _ => 0))), (q_4, .inl (cyJ, 1002, .inr (.inl (fun _ => 0)))), (q_5, .inl (cyJ, 23, .inr (.inl (vp_updL (vp_updL (vp_updL (vp_updL (vp_updL (vp_updL (vp_updL (vp_updL (vp_updL (vp_updL (vp_updL (vp_updL (vp_updL (vp_updL (vp_updL (vp_updL (vp_updL (vp_updL (vp_updL (vp_updL (vp_updL (vp_updL (vp_updL (fun _ => 0) 0 122704) 1 16765) 2 36021578) 3 27951) 4 15047032) 5 716710) 6 1177493) 7 209658) 8 1604747592) 9 4003641) 10 172677872) 11 564588237) 12 33989651) 13 932857) 14 19741) 15 1891) 16 573) 17 17595960) 18 29203711) 19 17006) 20 22955708) 21 15248761) 22 40072202)))), (q_6, .inl (cyI, 240, .inl (fun _ => 0))), (q_7, .inl (cyI, 2200, .inl (fun _ => 0))), (q_8, .inl (cyI, 2200, .inl (fun _ => 0))), (q_9, .inl (cyJ, 16, .inr (.inl (fun _ => 0))))]) C inw_11 0 rfl rfl 14 (by decide) wd_670 rfl tyX11_ok nmX11 rfl hin rfl (tyX11_ok 14 (by decide)) rfl rfl (Nat.le_of_ble_eq_true rfl) dX11_init_235 rfl ?_
  refine j_aload_n (pc := 238) C dX11_init_238 rfl 0 rfl ?_
  refine j_bipush (pc := 239) (v := 12) C dX11_init_239 (by decide) ?_
  refine j_newa (pc := 241) (at1 := .boolean) (ty := .boolean) (N := 12) (a0 := (12, .inl (fun _ => 0))) C wd_1046 rfl 3 rfl (fun _ _ h => h) (fun _ => rfl) (by decide) (by decide) (by decide) (by decide) (by decide) dX11_init_241 (fun q_10 => ?_)
  refine j_widen (k := 10) (n := 8697) (by decide) (by decide) ?_
  refine j_putF (pc := 243) (ci := 11) (v := .ref q_10) (ws' := [(h0, .inr (11, [.int 0, .ref q_1, .int 0, .int 0, .ref q_2, .ref q_3, .ref q_4, .int 0, .int 0, .ref q_5, .ref q_6, .ref q_7, .ref q_8, .int 0, .ref q_9, .ref q_10, .int 0, .null, .null, .null, .null, .null, .int 0, .int 0, .int 0, .null, .int 0, .null, .null, .null, .null, .null, .null, .int 0, .int 0, .int 0, .null, .null, .int 0, .int 0, .int 0, .int 0, .null])), (q_1, .inl (cyI, 1000, .inl (fun _ => 0))), (q_2, .inl (cyI, 1002, .inl (fun _ => 0))), (q_3, .inl (cyI, 1002, .inl (fun _ => 0))), (q_4, .inl (cyJ, 1002, .inr (.inl (fun _ => 0)))), (q_5, .inl (cyJ, 23, .inr (.inl (vp_updL (vp_updL (vp_updL (vp_updL (vp_updL (vp_updL (vp_updL (vp_updL (vp_updL (vp_updL (vp_updL (vp_updL (vp_updL (vp_updL (vp_updL (vp_updL (vp_updL (vp_updL (vp_updL (vp_updL (vp_updL (vp_updL (vp_updL (fun _ => 0) 0 122704) 1 16765) 2 36021578) 3 27951) 4 15047032) 5 716710) 6 1177493) 7 209658) 8 1604747592) 9 4003641) 10 172677872) 11 564588237) 12 33989651) 13 932857) 14 19741) 15 1891) 16 573) 17 17595960) 18 29203711) 19 17006) 20 22955708) 21 15248761) 22 40072202)))), (q_6, .inl (cyI, 240, .inl (fun _ => 0))), (q_7, .inl (cyI, 2200, .inl (fun _ => 0))), (q_8, .inl (cyI, 2200, .inl (fun _ => 0))), (q_9, .inl (cyJ, 16, .inr (.inl (fun _ => 0)))), (q_10, .inl (cyZ, 12, .inl (fun _ => 0)))]) C inw_11 0 rfl rfl 15 (by decide) wd_695 rfl tyX11_ok nmX11 rfl hin rfl (tyX11_ok 15 (by decide)) rfl rfl (Nat.le_of_ble_eq_true rfl) dX11_init_243 rfl ?_
  refine j_aload_n (pc := 246) C dX11_init_246 rfl 0 rfl ?_
  refine j_bipush (pc := 247) (v := 8) C dX11_init_247 (by decide) ?_
  refine j_newa (pc := 249) (at1 := .int) (ty := .int) (N := 8) (a0 := (8, .inl (fun _ => 0))) C wd_189 rfl 1 rfl (fun _ _ h => h) (fun _ => rfl) (by decide) (by decide) (by decide) (by decide) (by decide) dX11_init_249 (fun q_11 => ?_)
  refine j_widen (k := 11) (n := 8705) (by decide) (by decide) ?_
  refine j_dup (pc := 251) C dX11_init_251 rfl ?_
  refine j_iconst (pc := 252) (v := 0) C dX11_init_252 (by decide) ?_
  refine j_bipush (pc := 253) (v := 17) C dX11_init_253 (by decide) ?_
  refine j_iast (pc := 255) (k := 0) (ws' := [(h0, .inr (11, [.int 0, .ref q_1, .int 0, .int 0, .ref q_2, .ref q_3, .ref q_4, .int 0, .int 0, .ref q_5, .ref q_6, .ref q_7, .ref q_8, .int 0, .ref q_9, .ref q_10, .int 0, .null, .null, .null, .null, .null, .int 0, .int 0, .int 0, .null, .int 0, .null, .null, .null, .null, .null, .null, .int 0, .int 0, .int 0, .null, .null, .int 0, .int 0, .int 0, .int 0, .null])), (q_1, .inl (cyI, 1000, .inl (fun _ => 0))), (q_2, .inl (cyI, 1002, .inl (fun _ => 0))), (q_3, .inl (cyI, 1002, .inl (fun _ => 0))), (q_4, .inl (cyJ, 1002, .inr (.inl (fun _ => 0)))), (q_5, .inl (cyJ, 23, .inr (.inl (vp_updL (vp_updL (vp_updL (vp_updL (vp_updL (vp_updL (vp_updL (vp_updL (vp_updL (vp_updL (vp_updL (vp_updL (vp_updL (vp_updL (vp_updL (vp_updL (vp_updL (vp_updL (vp_updL (vp_updL (vp_updL (vp_updL (vp_updL (fun _ => 0) 0 122704) 1 16765) 2 36021578) 3 27951) 4 15047032) 5 716710) 6 1177493) 7 209658) 8 1604747592) 9 4003641) 10 172677872) 11 564588237) 12 33989651) 13 932857) 14 19741) 15 1891) 16 573) 17 17595960) 18 29203711) 19 17006) 20 22955708) 21 15248761) 22 40072202)))), (q_6, .inl (cyI, 240, .inl (fun _ => 0))), (q_7, .inl (cyI, 2200, .inl (fun _ => 0))), (q_8, .inl (cyI, 2200, .inl (fun _ => 0))), (q_9, .inl (cyJ, 16, .inr (.inl (fun _ => 0)))), (q_10, .inl (cyZ, 12, .inl (fun _ => 0))), (q_11, .inl (cyI, 8, .inl (upd (fun _ => 0) 0 17)))]) C 11 1 rfl rfl (by decide) (by decide) (by decide) dX11_init_255 rfl ?_
  refine j_dup (pc := 256) C dX11_init_256 rfl ?_
  refine j_iconst (pc := 257) (v := 1) C dX11_init_257 (by decide) ?_
  refine j_bipush (pc := 258) (v := 18) C dX11_init_258 (by decide) ?_
  refine j_iast (pc := 260) (k := 1) (ws' := [(h0, .inr (11, [.int 0, .ref q_1, .int 0, .int 0, .ref q_2, .ref q_3, .ref q_4, .int 0, .int 0, .ref q_5, .ref q_6, .ref q_7, .ref q_8, .int 0, .ref q_9, .ref q_10, .int 0, .null, .null, .null, .null, .null, .int 0, .int 0, .int 0, .null, .int 0, .null, .null, .null, .null, .null, .null, .int 0, .int 0, .int 0, .null, .null, .int 0, .int 0, .int 0, .int 0, .null])), (q_1, .inl (cyI, 1000, .inl (fun _ => 0))), (q_2, .inl (cyI, 1002, .inl (fun _ => 0))), (q_3, .inl (cyI, 1002, .inl (fun _ => 0))), (q_4, .inl (cyJ, 1002, .inr (.inl (fun _ => 0)))), (q_5, .inl (cyJ, 23, .inr (.inl (vp_updL (vp_updL (vp_updL (vp_updL (vp_updL (vp_updL (vp_updL (vp_updL (vp_updL (vp_updL (vp_updL (vp_updL (vp_updL (vp_updL (vp_updL (vp_updL (vp_updL (vp_updL (vp_updL (vp_updL (vp_updL (vp_updL (vp_updL (fun _ => 0) 0 122704) 1 16765) 2 36021578) 3 27951) 4 15047032) 5 716710) 6 1177493) 7 209658) 8 1604747592) 9 4003641) 10 172677872) 11 564588237) 12 33989651) 13 932857) 14 19741) 15 1891) 16 573) 17 17595960) 18 29203711) 19 17006) 20 22955708) 21 15248761) 22 40072202)))), (q_6, .inl (cyI, 240, .inl (fun _ => 0))), (q_7, .inl (cyI, 2200, .inl (fun _ => 0))), (q_8, .inl (cyI, 2200, .inl (fun _ => 0))), (q_9, .inl (cyJ, 16, .inr (.inl (fun _ => 0)))), (q_10, .inl (cyZ, 12, .inl (fun _ => 0))), (q_11, .inl (cyI, 8, .inl (upd (upd (fun _ => 0) 0 17) 1 18)))]) C 11 1 rfl rfl (by decide) (by decide) (by decide) dX11_init_260 rfl ?_
  refine j_dup (pc := 261) C dX11_init_261 rfl ?_
  refine j_iconst (pc := 262) (v := 2) C dX11_init_262 (by decide) ?_
  refine j_bipush (pc := 263) (v := 19) C dX11_init_263 (by decide) ?_
  refine j_iast (pc := 265) (k := 2) (ws' := [(h0, .inr (11, [.int 0, .ref q_1, .int 0, .int 0, .ref q_2, .ref q_3, .ref q_4, .int 0, .int 0, .ref q_5, .ref q_6, .ref q_7, .ref q_8, .int 0, .ref q_9, .ref q_10, .int 0, .null, .null, .null, .null, .null, .int 0, .int 0, .int 0, .null, .int 0, .null, .null, .null, .null, .null, .null, .int 0, .int 0, .int 0, .null, .null, .int 0, .int 0, .int 0, .int 0, .null])), (q_1, .inl (cyI, 1000, .inl (fun _ => 0))), (q_2, .inl (cyI, 1002, .inl (fun _ => 0))), (q_3, .inl (cyI, 1002, .inl (fun _ => 0))), (q_4, .inl (cyJ, 1002, .inr (.inl (fun _ => 0)))), (q_5, .inl (cyJ, 23, .inr (.inl (vp_updL (vp_updL (vp_updL (vp_updL (vp_updL (vp_updL (vp_updL (vp_updL (vp_updL (vp_updL (vp_updL (vp_updL (vp_updL (vp_updL (vp_updL (vp_updL (vp_updL (vp_updL (vp_updL (vp_updL (vp_updL (vp_updL (vp_updL (fun _ => 0) 0 122704) 1 16765) 2 36021578) 3 27951) 4 15047032) 5 716710) 6 1177493) 7 209658) 8 1604747592) 9 4003641) 10 172677872) 11 564588237) 12 33989651) 13 932857) 14 19741) 15 1891) 16 573) 17 17595960) 18 29203711) 19 17006) 20 22955708) 21 15248761) 22 40072202)))), (q_6, .inl (cyI, 240, .inl (fun _ => 0))), (q_7, .inl (cyI, 2200, .inl (fun _ => 0))), (q_8, .inl (cyI, 2200, .inl (fun _ => 0))), (q_9, .inl (cyJ, 16, .inr (.inl (fun _ => 0)))), (q_10, .inl (cyZ, 12, .inl (fun _ => 0))), (q_11, .inl (cyI, 8, .inl (upd (upd (upd (fun _ => 0) 0 17) 1 18) 2 19)))]) C 11 1 rfl rfl (by decide) (by decide) (by decide) dX11_init_265 rfl ?_
  refine j_dup (pc := 266) C dX11_init_266 rfl ?_
  refine j_iconst (pc := 267) (v := 3) C dX11_init_267 (by decide) ?_
  refine j_bipush (pc := 268) (v := 7) C dX11_init_268 (by decide) ?_
  refine j_iast (pc := 270) (k := 3) (ws' := [(h0, .inr (11, [.int 0, .ref q_1, .int 0, .int 0, .ref q_2, .ref q_3, .ref q_4, .int 0, .int 0, .ref q_5, .ref q_6, .ref q_7, .ref q_8, .int 0, .ref q_9, .ref q_10, .int 0, .null, .null, .null, .null, .null, .int 0, .int 0, .int 0, .null, .int 0, .null, .null, .null, .null, .null, .null, .int 0, .int 0, .int 0, .null, .null, .int 0, .int 0, .int 0, .int 0, .null])), (q_1, .inl (cyI, 1000, .inl (fun _ => 0))), (q_2, .inl (cyI, 1002, .inl (fun _ => 0))), (q_3, .inl (cyI, 1002, .inl (fun _ => 0))), (q_4, .inl (cyJ, 1002, .inr (.inl (fun _ => 0)))), (q_5, .inl (cyJ, 23, .inr (.inl (vp_updL (vp_updL (vp_updL (vp_updL (vp_updL (vp_updL (vp_updL (vp_updL (vp_updL (vp_updL (vp_updL (vp_updL (vp_updL (vp_updL (vp_updL (vp_updL (vp_updL (vp_updL (vp_updL (vp_updL (vp_updL (vp_updL (vp_updL (fun _ => 0) 0 122704) 1 16765) 2 36021578) 3 27951) 4 15047032) 5 716710) 6 1177493) 7 209658) 8 1604747592) 9 4003641) 10 172677872) 11 564588237) 12 33989651) 13 932857) 14 19741) 15 1891) 16 573) 17 17595960) 18 29203711) 19 17006) 20 22955708) 21 15248761) 22 40072202)))), (q_6, .inl (cyI, 240, .inl (fun _ => 0))), (q_7, .inl (cyI, 2200, .inl (fun _ => 0))), (q_8, .inl (cyI, 2200, .inl (fun _ => 0))), (q_9, .inl (cyJ, 16, .inr (.inl (fun _ => 0)))), (q_10, .inl (cyZ, 12, .inl (fun _ => 0))), (q_11, .inl (cyI, 8, .inl (upd (upd (upd (upd (fun _ => 0) 0 17) 1 18) 2 19) 3 7)))]) C 11 1 rfl rfl (by decide) (by decide) (by decide) dX11_init_270 rfl ?_
  refine j_dup (pc := 271) C dX11_init_271 rfl ?_
  refine j_iconst (pc := 272) (v := 4) C dX11_init_272 (by decide) ?_
  refine j_bipush (pc := 273) (v := 20) C dX11_init_273 (by decide) ?_
  refine j_iast (pc := 275) (k := 4) (ws' := [(h0, .inr (11, [.int 0, .ref q_1, .int 0, .int 0, .ref q_2, .ref q_3, .ref q_4, .int 0, .int 0, .ref q_5, .ref q_6, .ref q_7, .ref q_8, .int 0, .ref q_9, .ref q_10, .int 0, .null, .null, .null, .null, .null, .int 0, .int 0, .int 0, .null, .int 0, .null, .null, .null, .null, .null, .null, .int 0, .int 0, .int 0, .null, .null, .int 0, .int 0, .int 0, .int 0, .null])), (q_1, .inl (cyI, 1000, .inl (fun _ => 0))), (q_2, .inl (cyI, 1002, .inl (fun _ => 0))), (q_3, .inl (cyI, 1002, .inl (fun _ => 0))), (q_4, .inl (cyJ, 1002, .inr (.inl (fun _ => 0)))), (q_5, .inl (cyJ, 23, .inr (.inl (vp_updL (vp_updL (vp_updL (vp_updL (vp_updL (vp_updL (vp_updL (vp_updL (vp_updL (vp_updL (vp_updL (vp_updL (vp_updL (vp_updL (vp_updL (vp_updL (vp_updL (vp_updL (vp_updL (vp_updL (vp_updL (vp_updL (vp_updL (fun _ => 0) 0 122704) 1 16765) 2 36021578) 3 27951) 4 15047032) 5 716710) 6 1177493) 7 209658) 8 1604747592) 9 4003641) 10 172677872) 11 564588237) 12 33989651) 13 932857) 14 19741) 15 1891) 16 573) 17 17595960) 18 29203711) 19 17006) 20 22955708) 21 15248761) 22 40072202)))), (q_6, .inl (cyI, 240, .inl (fun _ => 0))), (q_7, .inl (cyI, 2200, .inl (fun _ => 0))), (q_8, .inl (cyI, 2200, .inl (fun _ => 0))), (q_9, .inl (cyJ, 16, .inr (.inl (fun _ => 0)))), (q_10, .inl (cyZ, 12, .inl (fun _ => 0))), (q_11, .inl (cyI, 8, .inl (upd (upd (upd (upd (upd (fun _ => 0) 0 17) 1 18) 2 19) 3 7) 4 20)))]) C 11 1 rfl rfl (by decide) (by decide) (by decide) dX11_init_275 rfl ?_
  refine j_dup (pc := 276) C dX11_init_276 rfl ?_
  refine j_iconst (pc := 277) (v := 5) C dX11_init_277 (by decide) ?_
  refine j_bipush (pc := 278) (v := 21) C dX11_init_278 (by decide) ?_
  refine j_iast (pc := 280) (k := 5) (ws' := [(h0, .inr (11, [.int 0, .ref q_1, .int 0, .int 0, .ref q_2, .ref q_3, .ref q_4, .int 0, .int 0, .ref q_5, .ref q_6, .ref q_7, .ref q_8, .int 0, .ref q_9, .ref q_10, .int 0, .null, .null, .null, .null, .null, .int 0, .int 0, .int 0, .null, .int 0, .null, .null, .null, .null, .null, .null, .int 0, .int 0, .int 0, .null, .null, .int 0, .int 0, .int 0, .int 0, .null])), (q_1, .inl (cyI, 1000, .inl (fun _ => 0))), (q_2, .inl (cyI, 1002, .inl (fun _ => 0))), (q_3, .inl (cyI, 1002, .inl (fun _ => 0))), (q_4, .inl (cyJ, 1002, .inr (.inl (fun _ => 0)))), (q_5, .inl (cyJ, 23, .inr (.inl (vp_updL (vp_updL (vp_updL (vp_updL (vp_updL (vp_updL (vp_updL (vp_updL (vp_updL (vp_updL (vp_updL (vp_updL (vp_updL (vp_updL (vp_updL (vp_updL (vp_updL (vp_updL (vp_updL (vp_updL (vp_updL (vp_updL (vp_updL (fun _ => 0) 0 122704) 1 16765) 2 36021578) 3 27951) 4 15047032) 5 716710) 6 1177493) 7 209658) 8 1604747592) 9 4003641) 10 172677872) 11 564588237) 12 33989651) 13 932857) 14 19741) 15 1891) 16 573) 17 17595960) 18 29203711) 19 17006) 20 22955708) 21 15248761) 22 40072202)))), (q_6, .inl (cyI, 240, .inl (fun _ => 0))), (q_7, .inl (cyI, 2200, .inl (fun _ => 0))), (q_8, .inl (cyI, 2200, .inl (fun _ => 0))), (q_9, .inl (cyJ, 16, .inr (.inl (fun _ => 0)))), (q_10, .inl (cyZ, 12, .inl (fun _ => 0))), (q_11, .inl (cyI, 8, .inl (upd (upd (upd (upd (upd (upd (fun _ => 0) 0 17) 1 18) 2 19) 3 7) 4 20) 5 21)))]) C 11 1 rfl rfl (by decide) (by decide) (by decide) dX11_init_280 rfl ?_
  refine j_dup (pc := 281) C dX11_init_281 rfl ?_
  refine j_bipush (pc := 282) (v := 6) C dX11_init_282 (by decide) ?_
  refine j_iconst (pc := 284) (v := 1) C dX11_init_284 (by decide) ?_
  refine j_iast (pc := 285) (k := 6) (ws' := [(h0, .inr (11, [.int 0, .ref q_1, .int 0, .int 0, .ref q_2, .ref q_3, .ref q_4, .int 0, .int 0, .ref q_5, .ref q_6, .ref q_7, .ref q_8, .int 0, .ref q_9, .ref q_10, .int 0, .null, .null, .null, .null, .null, .int 0, .int 0, .int 0, .null, .int 0, .null, .null, .null, .null, .null, .null, .int 0, .int 0, .int 0, .null, .null, .int 0, .int 0, .int 0, .int 0, .null])), (q_1, .inl (cyI, 1000, .inl (fun _ => 0))), (q_2, .inl (cyI, 1002, .inl (fun _ => 0))), (q_3, .inl (cyI, 1002, .inl (fun _ => 0))), (q_4, .inl (cyJ, 1002, .inr (.inl (fun _ => 0)))), (q_5, .inl (cyJ, 23, .inr (.inl (vp_updL (vp_updL (vp_updL (vp_updL (vp_updL (vp_updL (vp_updL (vp_updL (vp_updL (vp_updL (vp_updL (vp_updL (vp_updL (vp_updL (vp_updL (vp_updL (vp_updL (vp_updL (vp_updL (vp_updL (vp_updL (vp_updL (vp_updL (fun _ => 0) 0 122704) 1 16765) 2 36021578) 3 27951) 4 15047032) 5 716710) 6 1177493) 7 209658) 8 1604747592) 9 4003641) 10 172677872) 11 564588237) 12 33989651) 13 932857) 14 19741) 15 1891) 16 573) 17 17595960) 18 29203711) 19 17006) 20 22955708) 21 15248761) 22 40072202)))), (q_6, .inl (cyI, 240, .inl (fun _ => 0))), (q_7, .inl (cyI, 2200, .inl (fun _ => 0))), (q_8, .inl (cyI, 2200, .inl (fun _ => 0))), (q_9, .inl (cyJ, 16, .inr (.inl (fun _ => 0)))), (q_10, .inl (cyZ, 12, .inl (fun _ => 0))), (q_11, .inl (cyI, 8, .inl (upd (upd (upd (upd (upd (upd (upd (fun _ => 0) 0 17) 1 18) 2 19) 3 7) 4 20) 5 21) 6 1)))]) C 11 1 rfl rfl (by decide) (by decide) (by decide) dX11_init_285 rfl ?_
  refine j_dup (pc := 286) C dX11_init_286 rfl ?_
  refine j_bipush (pc := 287) (v := 7) C dX11_init_287 (by decide) ?_
  refine j_bipush (pc := 289) (v := 22) C dX11_init_289 (by decide) ?_
  refine j_iast (pc := 291) (k := 7) (ws' := [(h0, .inr (11, [.int 0, .ref q_1, .int 0, .int 0, .ref q_2, .ref q_3, .ref q_4, .int 0, .int 0, .ref q_5, .ref q_6, .ref q_7, .ref q_8, .int 0, .ref q_9, .ref q_10, .int 0, .null, .null, .null, .null, .null, .int 0, .int 0, .int 0, .null, .int 0, .null, .null, .null, .null, .null, .null, .int 0, .int 0, .int 0, .null, .null, .int 0, .int 0, .int 0, .int 0, .null])), (q_1, .inl (cyI, 1000, .inl (fun _ => 0))), (q_2, .inl (cyI, 1002, .inl (fun _ => 0))), (q_3, .inl (cyI, 1002, .inl (fun _ => 0))), (q_4, .inl (cyJ, 1002, .inr (.inl (fun _ => 0)))), (q_5, .inl (cyJ, 23, .inr (.inl (vp_updL (vp_updL (vp_updL (vp_updL (vp_updL (vp_updL (vp_updL (vp_updL (vp_updL (vp_updL (vp_updL (vp_updL (vp_updL (vp_updL (vp_updL (vp_updL (vp_updL (vp_updL (vp_updL (vp_updL (vp_updL (vp_updL (vp_updL (fun _ => 0) 0 122704) 1 16765) 2 36021578) 3 27951) 4 15047032) 5 716710) 6 1177493) 7 209658) 8 1604747592) 9 4003641) 10 172677872) 11 564588237) 12 33989651) 13 932857) 14 19741) 15 1891) 16 573) 17 17595960) 18 29203711) 19 17006) 20 22955708) 21 15248761) 22 40072202)))), (q_6, .inl (cyI, 240, .inl (fun _ => 0))), (q_7, .inl (cyI, 2200, .inl (fun _ => 0))), (q_8, .inl (cyI, 2200, .inl (fun _ => 0))), (q_9, .inl (cyJ, 16, .inr (.inl (fun _ => 0)))), (q_10, .inl (cyZ, 12, .inl (fun _ => 0))), (q_11, .inl (cyI, 8, .inl (upd (upd (upd (upd (upd (upd (upd (upd (fun _ => 0) 0 17) 1 18) 2 19) 3 7) 4 20) 5 21) 6 1) 7 22)))]) C 11 1 rfl rfl (by decide) (by decide) (by decide) dX11_init_291 rfl ?_
  refine j_putF (pc := 292) (ci := 11) (v := .ref q_11) (ws' := [(h0, .inr (11, [.int 0, .ref q_1, .int 0, .int 0, .ref q_2, .ref q_3, .ref q_4, .int 0, .int 0, .ref q_5, .ref q_6, .ref q_7, .ref q_8, .int 0, .ref q_9, .ref q_10, .int 0, .ref q_11, .null, .null, .null, .null, .int 0, .int 0, .int 0, .null, .int 0, .null, .null, .null, .null, .null, .null, .int 0, .int 0, .int 0, .null, .null, .int 0, .int 0, .int 0, .int 0, .null])), (q_1, .inl (cyI, 1000, .inl (fun _ => 0))), (q_2, .inl (cyI, 1002, .inl (fun _ => 0))), (q_3, .inl (cyI, 1002, .inl (fun _ => 0))), (q_4, .inl (cyJ, 1002, .inr (.inl (fun _ => 0)))), (q_5, .inl (cyJ, 23, .inr (.inl (vp_updL (vp_updL (vp_updL (vp_updL (vp_updL (vp_updL (vp_updL (vp_updL (vp_updL (vp_updL (vp_updL (vp_updL (vp_updL (vp_updL (vp_updL (vp_updL (vp_updL (vp_updL (vp_updL (vp_updL (vp_updL (vp_updL (vp_updL (fun _ => 0) 0 122704) 1 16765) 2 36021578) 3 27951) 4 15047032) 5 716710) 6 1177493) 7 209658) 8 1604747592) 9 4003641) 10 172677872) 11 564588237) 12 33989651) 13 932857) 14 19741) 15 1891) 16 573) 17 17595960) 18 29203711) 19 17006) 20 22955708) 21 15248761) 22 40072202)))), (q_6, .inl (cyI, 240, .inl (fun _ => 0))), (q_7, .inl (cyI, 2200, .inl (fun _ => 0))), (q_8, .inl (cyI, 2200, .inl (fun _ => 0))), (q_9, .inl (cyJ, 16, .inr (.inl (fun _ => 0)))), (q_10, .inl (cyZ, 12, .inl (fun _ => 0))), (q_11, .inl (cyI, 8, .inl (upd (upd (upd (upd (upd (upd (upd (upd (fun _ => 0) 0 17) 1 18) 2 19) 3 7) 4 20) 5 21) 6 1) 7 22)))]) C inw_11 0 rfl rfl 17 (by decide) wd_699 rfl tyX11_ok nmX11 rfl hin rfl (tyX11_ok 17 (by decide)) rfl rfl (Nat.le_of_ble_eq_true rfl) dX11_init_292 rfl ?_
  refine j_aload_n (pc := 295) C dX11_init_295 rfl 0 rfl ?_
  refine j_bipush (pc := 296) (v := 8) C dX11_init_296 (by decide) ?_
  refine j_newa (pc := 298) (at1 := .int) (ty := .int) (N := 8) (a0 := (8, .inl (fun _ => 0))) C wd_189 rfl 1 rfl (fun _ _ h => h) (fun _ => rfl) (by decide) (by decide) (by decide) (by decide) (by decide) dX11_init_298 (fun q_12 => ?_)
  refine j_widen (k := 12) (n := 8713) (by decide) (by decide) ?_
  refine j_putF (pc := 300) (ci := 11) (v := .ref q_12) (ws' := [(h0, .inr (11, [.int 0, .ref q_1, .int 0, .int 0, .ref q_2, .ref q_3, .ref q_4, .int 0, .int 0, .ref q_5, .ref q_6, .ref q_7, .ref q_8, .int 0, .ref q_9, .ref q_10, .int 0, .ref q_11, .ref q_12, .null, .null, .null, .int 0, .int 0, .int 0, .null, .int 0, .null, .null, .null, .null, .null, .null, .int 0, .int 0, .int 0, .null, .null, .int 0, .int 0, .int 0, .int 0, .null])), (q_1, .inl (cyI, 1000, .inl (fun _ => 0))), (q_2, .inl (cyI, 1002, .inl (fun _ => 0))), (q_3, .inl (cyI, 1002, .inl (fun _ => 0))), (q_4, .inl (cyJ, 1002, .inr (.inl (fun _ => 0)))), (q_5, .inl (cyJ, 23, .inr (.inl (vp_updL (vp_updL (vp_updL (vp_updL (vp_updL (vp_updL (vp_updL (vp_updL (vp_updL (vp_updL (vp_updL (vp_updL (vp_updL (vp_updL (vp_updL (vp_updL (vp_updL (vp_updL (vp_updL (vp_updL (vp_updL (vp_updL (vp_updL (fun _ => 0) 0 122704) 1 16765) 2 36021578) 3 27951) 4 15047032) 5 716710) 6 1177493) 7 209658) 8 1604747592) 9 4003641) 10 172677872) 11 564588237) 12 33989651) 13 932857) 14 19741) 15 1891) 16 573) 17 17595960) 18 29203711) 19 17006) 20 22955708) 21 15248761) 22 40072202)))), (q_6, .inl (cyI, 240, .inl (fun _ => 0))), (q_7, .inl (cyI, 2200, .inl (fun _ => 0))), (q_8, .inl (cyI, 2200, .inl (fun _ => 0))), (q_9, .inl (cyJ, 16, .inr (.inl (fun _ => 0)))), (q_10, .inl (cyZ, 12, .inl (fun _ => 0))), (q_11, .inl (cyI, 8, .inl (upd (upd (upd (upd (upd (upd (upd (upd (fun _ => 0) 0 17) 1 18) 2 19) 3 7) 4 20) 5 21) 6 1) 7 22))), (q_12, .inl (cyI, 8, .inl (fun _ => 0)))]) C inw_11 0 rfl rfl 18 (by decide) wd_798 rfl tyX11_ok nmX11 rfl hin rfl (tyX11_ok 18 (by decide)) rfl rfl (Nat.le_of_ble_eq_true rfl) dX11_init_300 rfl ?_
  refine j_aload_n (pc := 303) C dX11_init_303 rfl 0 rfl ?_
  refine j_sipush (pc := 304) (v := 1100) C dX11_init_304 (by decide) ?_
  refine j_newa (pc := 307) (at1 := .int) (ty := .int) (N := 1100) (a0 := (1100, .inl (fun _ => 0))) C wd_189 rfl 1 rfl (fun _ _ h => h) (fun _ => rfl) (by decide) (by decide) (by decide) (by decide) (by decide) dX11_init_307 (fun q_13 => ?_)
  refine j_widen (k := 13) (n := 9813) (by decide) (by decide) ?_
  refine j_putF (pc := 309) (ci := 11) (v := .ref q_13) (ws' := [(h0, .inr (11, [.int 0, .ref q_1, .int 0, .int 0, .ref q_2, .ref q_3, .ref q_4, .int 0, .int 0, .ref q_5, .ref q_6, .ref q_7, .ref q_8, .int 0, .ref q_9, .ref q_10, .int 0, .ref q_11, .ref q_12, .ref q_13, .null, .null, .int 0, .int 0, .int 0, .null, .int 0, .null, .null, .null, .null, .null, .null, .int 0, .int 0, .int 0, .null, .null, .int 0, .int 0, .int 0, .int 0, .null])), (q_1, .inl (cyI, 1000, .inl (fun _ => 0))), (q_2, .inl (cyI, 1002, .inl (fun _ => 0))), (q_3, .inl (cyI, 1002, .inl (fun _ => 0))), (q_4, .inl (cyJ, 1002, .inr (.inl (fun _ => 0)))), (q_5, .inl (cyJ, 23, .inr (.inl (vp_updL (vp_updL (vp_updL (vp_updL (vp_updL (vp_updL (vp_updL (vp_updL (vp_updL (vp_updL (vp_updL (vp_updL (vp_updL (vp_updL (vp_updL (vp_updL (vp_updL (vp_updL (vp_updL (vp_updL (vp_updL (vp_updL (vp_updL (fun _ => 0) 0 122704) 1 16765) 2 36021578) 3 27951) 4 15047032) 5 716710) 6 1177493) 7 209658) 8 1604747592) 9 4003641) 10 172677872) 11 564588237) 12 33989651) 13 932857) 14 19741) 15 1891) 16 573) 17 17595960) 18 29203711) 19 17006) 20 22955708) 21 15248761) 22 40072202)))), (q_6, .inl (cyI, 240, .inl (fun _ => 0))), (q_7, .inl (cyI, 2200, .inl (fun _ => 0))), (q_8, .inl (cyI, 2200, .inl (fun _ => 0))), (q_9, .inl (cyJ, 16, .inr (.inl (fun _ => 0)))), (q_10, .inl (cyZ, 12, .inl (fun _ => 0))), (q_11, .inl (cyI, 8, .inl (upd (upd (upd (upd (upd (upd (upd (upd (fun _ => 0) 0 17) 1 18) 2 19) 3 7) 4 20) 5 21) 6 1) 7 22))), (q_12, .inl (cyI, 8, .inl (fun _ => 0))), (q_13, .inl (cyI, 1100, .inl (fun _ => 0)))]) C inw_11 0 rfl rfl 19 (by decide) wd_797 rfl tyX11_ok nmX11 rfl hin rfl (tyX11_ok 19 (by decide)) rfl rfl (Nat.le_of_ble_eq_true rfl) dX11_init_309 rfl ?_
  refine j_aload_n (pc := 312) C dX11_init_312 rfl 0 rfl ?_
  refine j_sipush (pc := 313) (v := 2760) C dX11_init_313 (by decide) ?_
  refine j_newa (pc := 316) (at1 := .int) (ty := .int) (N := 2760) (a0 := (2760, .inl (fun _ => 0))) C wd_189 rfl 1 rfl (fun _ _ h => h) (fun _ => rfl) (by decide) (by decide) (by decide) (by decide) (by decide) dX11_init_316 (fun q_14 => ?_)
  refine j_widen (k := 14) (n := 12573) (by decide) (by decide) ?_
  refine j_putF (pc := 318) (ci := 11) (v := .ref q_14) (ws' := [(h0, .inr (11, [.int 0, .ref q_1, .int 0, .int 0, .ref q_2, .ref q_3, .ref q_4, .int 0, .int 0, .ref q_5, .ref q_6, .ref q_7, .ref q_8, .int 0, .ref q_9, .ref q_10, .int 0, .ref q_11, .ref q_12, .ref q_13, .ref q_14, .null, .int 0, .int 0, .int 0, .null, .int 0, .null, .null, .null, .null, .null, .null, .int 0, .int 0, .int 0, .null, .null, .int 0, .int 0, .int 0, .int 0, .null])), (q_1, .inl (cyI, 1000, .inl (fun _ => 0))), (q_2, .inl (cyI, 1002, .inl (fun _ => 0))), (q_3, .inl (cyI, 1002, .inl (fun _ => 0))), (q_4, .inl (cyJ, 1002, .inr (.inl (fun _ => 0)))), (q_5, .inl (cyJ, 23, .inr (.inl (vp_updL (vp_updL (vp_updL (vp_updL (vp_updL (vp_updL (vp_updL (vp_updL (vp_updL (vp_updL (vp_updL (vp_updL (vp_updL (vp_updL (vp_updL (vp_updL (vp_updL (vp_updL (vp_updL (vp_updL (vp_updL (vp_updL (vp_updL (fun _ => 0) 0 122704) 1 16765) 2 36021578) 3 27951) 4 15047032) 5 716710) 6 1177493) 7 209658) 8 1604747592) 9 4003641) 10 172677872) 11 564588237) 12 33989651) 13 932857) 14 19741) 15 1891) 16 573) 17 17595960) 18 29203711) 19 17006) 20 22955708) 21 15248761) 22 40072202)))), (q_6, .inl (cyI, 240, .inl (fun _ => 0))), (q_7, .inl (cyI, 2200, .inl (fun _ => 0))), (q_8, .inl (cyI, 2200, .inl (fun _ => 0))), (q_9, .inl (cyJ, 16, .inr (.inl (fun _ => 0)))), (q_10, .inl (cyZ, 12, .inl (fun _ => 0))), (q_11, .inl (cyI, 8, .inl (upd (upd (upd (upd (upd (upd (upd (upd (fun _ => 0) 0 17) 1 18) 2 19) 3 7) 4 20) 5 21) 6 1) 7 22))), (q_12, .inl (cyI, 8, .inl (fun _ => 0))), (q_13, .inl (cyI, 1100, .inl (fun _ => 0))), (q_14, .inl (cyI, 2760, .inl (fun _ => 0)))]) C inw_11 0 rfl rfl 20 (by decide) wd_764 rfl tyX11_ok nmX11 rfl hin rfl (tyX11_ok 20 (by decide)) rfl rfl (Nat.le_of_ble_eq_true rfl) dX11_init_318 rfl ?_
  refine j_aload_n (pc := 321) C dX11_init_321 rfl 0 rfl ?_
  refine j_iconst (pc := 322) (v := 4) C dX11_init_322 (by decide) ?_
  refine j_newa (pc := 323) (at1 := .boolean) (ty := .boolean) (N := 4) (a0 := (4, .inl (fun _ => 0))) C wd_1046 rfl 3 rfl (fun _ _ h => h) (fun _ => rfl) (by decide) (by decide) (by decide) (by decide) (by decide) dX11_init_323 (fun q_15 => ?_)
  refine j_widen (k := 15) (n := 12577) (by decide) (by decide) ?_
  refine j_putF (pc := 325) (ci := 11) (v := .ref q_15) (ws' := [(h0, .inr (11, [.int 0, .ref q_1, .int 0, .int 0, .ref q_2, .ref q_3, .ref q_4, .int 0, .int 0, .ref q_5, .ref q_6, .ref q_7, .ref q_8, .int 0, .ref q_9, .ref q_10, .int 0, .ref q_11, .ref q_12, .ref q_13, .ref q_14, .ref q_15, .int 0, .int 0, .int 0, .null, .int 0, .null, .null, .null, .null, .null, .null, .int 0, .int 0, .int 0, .null, .null, .int 0, .int 0, .int 0, .int 0, .null])), (q_1, .inl (cyI, 1000, .inl (fun _ => 0))), (q_2, .inl (cyI, 1002, .inl (fun _ => 0))), (q_3, .inl (cyI, 1002, .inl (fun _ => 0))), (q_4, .inl (cyJ, 1002, .inr (.inl (fun _ => 0)))), (q_5, .inl (cyJ, 23, .inr (.inl (vp_updL (vp_updL (vp_updL (vp_updL (vp_updL (vp_updL (vp_updL (vp_updL (vp_updL (vp_updL (vp_updL (vp_updL (vp_updL (vp_updL (vp_updL (vp_updL (vp_updL (vp_updL (vp_updL (vp_updL (vp_updL (vp_updL (vp_updL (fun _ => 0) 0 122704) 1 16765) 2 36021578) 3 27951) 4 15047032) 5 716710) 6 1177493) 7 209658) 8 1604747592) 9 4003641) 10 172677872) 11 564588237) 12 33989651) 13 932857) 14 19741) 15 1891) 16 573) 17 17595960) 18 29203711) 19 17006) 20 22955708) 21 15248761) 22 40072202)))), (q_6, .inl (cyI, 240, .inl (fun _ => 0))), (q_7, .inl (cyI, 2200, .inl (fun _ => 0))), (q_8, .inl (cyI, 2200, .inl (fun _ => 0))), (q_9, .inl (cyJ, 16, .inr (.inl (fun _ => 0)))), (q_10, .inl (cyZ, 12, .inl (fun _ => 0))), (q_11, .inl (cyI, 8, .inl (upd (upd (upd (upd (upd (upd (upd (upd (fun _ => 0) 0 17) 1 18) 2 19) 3 7) 4 20) 5 21) 6 1) 7 22))), (q_12, .inl (cyI, 8, .inl (fun _ => 0))), (q_13, .inl (cyI, 1100, .inl (fun _ => 0))), (q_14, .inl (cyI, 2760, .inl (fun _ => 0))), (q_15, .inl (cyZ, 4, .inl (fun _ => 0)))]) C inw_11 0 rfl rfl 21 (by decide) wd_861 rfl tyX11_ok nmX11 rfl hin rfl (tyX11_ok 21 (by decide)) rfl rfl (Nat.le_of_ble_eq_true rfl) dX11_init_325 rfl ?_
  refine j_aload_n (pc := 328) C dX11_init_328 rfl 0 rfl ?_
  refine j_bipush (pc := 329) (v := 12) C dX11_init_329 (by decide) ?_
  refine j_newa (pc := 331) (at1 := .int) (ty := .int) (N := 12) (a0 := (12, .inl (fun _ => 0))) C wd_189 rfl 1 rfl (fun _ _ h => h) (fun _ => rfl) (by decide) (by decide) (by decide) (by decide) (by decide) dX11_init_331 (fun q_16 => ?_)
  refine j_widen (k := 16) (n := 12589) (by decide) (by decide) ?_
  refine j_putF (pc := 333) (ci := 11) (v := .ref q_16) (ws' := [(h0, .inr (11, [.int 0, .ref q_1, .int 0, .int 0, .ref q_2, .ref q_3, .ref q_4, .int 0, .int 0, .ref q_5, .ref q_6, .ref q_7, .ref q_8, .int 0, .ref q_9, .ref q_10, .int 0, .ref q_11, .ref q_12, .ref q_13, .ref q_14, .ref q_15, .int 0, .int 0, .int 0, .ref q_16, .int 0, .null, .null, .null, .null, .null, .null, .int 0, .int 0, .int 0, .null, .null, .int 0, .int 0, .int 0, .int 0, .null])), (q_1, .inl (cyI, 1000, .inl (fun _ => 0))), (q_2, .inl (cyI, 1002, .inl (fun _ => 0))), (q_3, .inl (cyI, 1002, .inl (fun _ => 0))), (q_4, .inl (cyJ, 1002, .inr (.inl (fun _ => 0)))), (q_5, .inl (cyJ, 23, .inr (.inl (vp_updL (vp_updL (vp_updL (vp_updL (vp_updL (vp_updL (vp_updL (vp_updL (vp_updL (vp_updL (vp_updL (vp_updL (vp_updL (vp_updL (vp_updL (vp_updL (vp_updL (vp_updL (vp_updL (vp_updL (vp_updL (vp_updL (vp_updL (fun _ => 0) 0 122704) 1 16765) 2 36021578) 3 27951) 4 15047032) 5 716710) 6 1177493) 7 209658) 8 1604747592) 9 4003641) 10 172677872) 11 564588237) 12 33989651) 13 932857) 14 19741) 15 1891) 16 573) 17 17595960) 18 29203711) 19 17006) 20 22955708) 21 15248761) 22 40072202)))), (q_6, .inl (cyI, 240, .inl (fun _ => 0))), (q_7, .inl (cyI, 2200, .inl (fun _ => 0))), (q_8, .inl (cyI, 2200, .inl (fun _ => 0))), (q_9, .inl (cyJ, 16, .inr (.inl (fun _ => 0)))), (q_10, .inl (cyZ, 12, .inl (fun _ => 0))), (q_11, .inl (cyI, 8, .inl (upd (upd (upd (upd (upd (upd (upd (upd (fun _ => 0) 0 17) 1 18) 2 19) 3 7) 4 20) 5 21) 6 1) 7 22))), (q_12, .inl (cyI, 8, .inl (fun _ => 0))), (q_13, .inl (cyI, 1100, .inl (fun _ => 0))), (q_14, .inl (cyI, 2760, .inl (fun _ => 0))), (q_15, .inl (cyZ, 4, .inl (fun _ => 0))), (q_16, .inl (cyI, 12, .inl (fun _ => 0)))]) C inw_11 0 rfl rfl 25 (by decide) wd_780 rfl tyX11_ok nmX11 rfl hin rfl (tyX11_ok 25 (by decide)) rfl rfl (Nat.le_of_ble_eq_true rfl) dX11_init_333 rfl ?_
  refine j_aload_n (pc := 336) C dX11_init_336 rfl 0 rfl ?_
  refine j_sipush (pc := 337) (v := 144) C dX11_init_337 (by decide) ?_
  refine j_newa (pc := 340) (at1 := .boolean) (ty := .boolean) (N := 144) (a0 := (144, .inl (fun _ => 0))) C wd_1046 rfl 3 rfl (fun _ _ h => h) (fun _ => rfl) (by decide) (by decide) (by decide) (by decide) (by decide) dX11_init_340 (fun q_17 => ?_)
  refine j_widen (k := 17) (n := 12733) (by decide) (by decide) ?_
  refine j_putF (pc := 342) (ci := 11) (v := .ref q_17) (ws' := [(h0, .inr (11, [.int 0, .ref q_1, .int 0, .int 0, .ref q_2, .ref q_3, .ref q_4, .int 0, .int 0, .ref q_5, .ref q_6, .ref q_7, .ref q_8, .int 0, .ref q_9, .ref q_10, .int 0, .ref q_11, .ref q_12, .ref q_13, .ref q_14, .ref q_15, .int 0, .int 0, .int 0, .ref q_16, .int 0, .ref q_17, .null, .null, .null, .null, .null, .int 0, .int 0, .int 0, .null, .null, .int 0, .int 0, .int 0, .int 0, .null])), (q_1, .inl (cyI, 1000, .inl (fun _ => 0))), (q_2, .inl (cyI, 1002, .inl (fun _ => 0))), (q_3, .inl (cyI, 1002, .inl (fun _ => 0))), (q_4, .inl (cyJ, 1002, .inr (.inl (fun _ => 0)))), (q_5, .inl (cyJ, 23, .inr (.inl (vp_updL (vp_updL (vp_updL (vp_updL (vp_updL (vp_updL (vp_updL (vp_updL (vp_updL (vp_updL (vp_updL (vp_updL (vp_updL (vp_updL (vp_updL (vp_updL (vp_updL (vp_updL (vp_updL (vp_updL (vp_updL (vp_updL (vp_updL (fun _ => 0) 0 122704) 1 16765) 2 36021578) 3 27951) 4 15047032) 5 716710) 6 1177493) 7 209658) 8 1604747592) 9 4003641) 10 172677872) 11 564588237) 12 33989651) 13 932857) 14 19741) 15 1891) 16 573) 17 17595960) 18 29203711) 19 17006) 20 22955708) 21 15248761) 22 40072202)))), (q_6, .inl (cyI, 240, .inl (fun _ => 0))), (q_7, .inl (cyI, 2200, .inl (fun _ => 0))), (q_8, .inl (cyI, 2200, .inl (fun _ => 0))), (q_9, .inl (cyJ, 16, .inr (.inl (fun _ => 0)))), (q_10, .inl (cyZ, 12, .inl (fun _ => 0))), (q_11, .inl (cyI, 8, .inl (upd (upd (upd (upd (upd (upd (upd (upd (fun _ => 0) 0 17) 1 18) 2 19) 3 7) 4 20) 5 21) 6 1) 7 22))), (q_12, .inl (cyI, 8, .inl (fun _ => 0))), (q_13, .inl (cyI, 1100, .inl (fun _ => 0))), (q_14, .inl (cyI, 2760, .inl (fun _ => 0))), (q_15, .inl (cyZ, 4, .inl (fun _ => 0))), (q_16, .inl (cyI, 12, .inl (fun _ => 0))), (q_17, .inl (cyZ, 144, .inl (fun _ => 0)))]) C inw_11 0 rfl rfl 27 (by decide) wd_907 rfl tyX11_ok nmX11 rfl hin rfl (tyX11_ok 27 (by decide)) rfl rfl (Nat.le_of_ble_eq_true rfl) dX11_init_342 rfl ?_
  refine j_aload_n (pc := 345) C dX11_init_345 rfl 0 rfl ?_
  refine j_sipush (pc := 346) (v := 144) C dX11_init_346 (by decide) ?_
  refine j_newa (pc := 349) (at1 := .boolean) (ty := .boolean) (N := 144) (a0 := (144, .inl (fun _ => 0))) C wd_1046 rfl 3 rfl (fun _ _ h => h) (fun _ => rfl) (by decide) (by decide) (by decide) (by decide) (by decide) dX11_init_349 (fun q_18 => ?_)
  refine j_widen (k := 18) (n := 12877) (by decide) (by decide) ?_
  refine j_putF (pc := 351) (ci := 11) (v := .ref q_18) (ws' := [(h0, .inr (11, [.int 0, .ref q_1, .int 0, .int 0, .ref q_2, .ref q_3, .ref q_4, .int 0, .int 0, .ref q_5, .ref q_6, .ref q_7, .ref q_8, .int 0, .ref q_9, .ref q_10, .int 0, .ref q_11, .ref q_12, .ref q_13, .ref q_14, .ref q_15, .int 0, .int 0, .int 0, .ref q_16, .int 0, .ref q_17, .ref q_18, .null, .null, .null, .null, .int 0, .int 0, .int 0, .null, .null, .int 0, .int 0, .int 0, .int 0, .null])), (q_1, .inl (cyI, 1000, .inl (fun _ => 0))), (q_2, .inl (cyI, 1002, .inl (fun _ => 0))), (q_3, .inl (cyI, 1002, .inl (fun _ => 0))), (q_4, .inl (cyJ, 1002, .inr (.inl (fun _ => 0)))), (q_5, .inl (cyJ, 23, .inr (.inl (vp_updL (vp_updL (vp_updL (vp_updL (vp_updL (vp_updL (vp_updL (vp_updL (vp_updL (vp_updL (vp_updL (vp_updL (vp_updL (vp_updL (vp_updL (vp_updL (vp_updL (vp_updL (vp_updL (vp_updL (vp_updL (vp_updL (vp_updL (fun _ => 0) 0 122704) 1 16765) 2 36021578) 3 27951) 4 15047032) 5 716710) 6 1177493) 7 209658) 8 1604747592) 9 4003641) 10 172677872) 11 564588237) 12 33989651) 13 932857) 14 19741) 15 1891) 16 573) 17 17595960) 18 29203711) 19 17006) 20 22955708) 21 15248761) 22 40072202)))), (q_6, .inl (cyI, 240, .inl (fun _ => 0))), (q_7, .inl (cyI, 2200, .inl (fun _ => 0))), (q_8, .inl (cyI, 2200, .inl (fun _ => 0))), (q_9, .inl (cyJ, 16, .inr (.inl (fun _ => 0)))), (q_10, .inl (cyZ, 12, .inl (fun _ => 0))), (q_11, .inl (cyI, 8, .inl (upd (upd (upd (upd (upd (upd (upd (upd (fun _ => 0) 0 17) 1 18) 2 19) 3 7) 4 20) 5 21) 6 1) 7 22))), (q_12, .inl (cyI, 8, .inl (fun _ => 0))), (q_13, .inl (cyI, 1100, .inl (fun _ => 0))), (q_14, .inl (cyI, 2760, .inl (fun _ => 0))), (q_15, .inl (cyZ, 4, .inl (fun _ => 0))), (q_16, .inl (cyI, 12, .inl (fun _ => 0))), (q_17, .inl (cyZ, 144, .inl (fun _ => 0))), (q_18, .inl (cyZ, 144, .inl (fun _ => 0)))]) C inw_11 0 rfl rfl 28 (by decide) wd_900 rfl tyX11_ok nmX11 rfl hin rfl (tyX11_ok 28 (by decide)) rfl rfl (Nat.le_of_ble_eq_true rfl) dX11_init_351 rfl ?_
  refine j_aload_n (pc := 354) C dX11_init_354 rfl 0 rfl ?_
  refine j_ldc (pc := 355) C wd_1047 dX11_init_355 ?_
  refine j_newa (pc := 357) (at1 := .int) (ty := .int) (N := 49152) (a0 := (49152, .inl (fun _ => 0))) C wd_189 rfl 1 rfl (fun _ _ h => h) (fun _ => rfl) (by decide) (by decide) (by decide) (by decide) (by decide) dX11_init_357 (fun q_19 => ?_)
  refine j_widen (k := 19) (n := 62029) (by decide) (by decide) ?_
  refine j_putF (pc := 359) (ci := 11) (v := .ref q_19) (ws' := [(h0, .inr (11, [.int 0, .ref q_1, .int 0, .int 0, .ref q_2, .ref q_3, .ref q_4, .int 0, .int 0, .ref q_5, .ref q_6, .ref q_7, .ref q_8, .int 0, .ref q_9, .ref q_10, .int 0, .ref q_11, .ref q_12, .ref q_13, .ref q_14, .ref q_15, .int 0, .int 0, .int 0, .ref q_16, .int 0, .ref q_17, .ref q_18, .ref q_19, .null, .null, .null, .int 0, .int 0, .int 0, .null, .null, .int 0, .int 0, .int 0, .int 0, .null])), (q_1, .inl (cyI, 1000, .inl (fun _ => 0))), (q_2, .inl (cyI, 1002, .inl (fun _ => 0))), (q_3, .inl (cyI, 1002, .inl (fun _ => 0))), (q_4, .inl (cyJ, 1002, .inr (.inl (fun _ => 0)))), (q_5, .inl (cyJ, 23, .inr (.inl (vp_updL (vp_updL (vp_updL (vp_updL (vp_updL (vp_updL (vp_updL (vp_updL (vp_updL (vp_updL (vp_updL (vp_updL (vp_updL (vp_updL (vp_updL (vp_updL (vp_updL (vp_updL (vp_updL (vp_updL (vp_updL (vp_updL (vp_updL (fun _ => 0) 0 122704) 1 16765) 2 36021578) 3 27951) 4 15047032) 5 716710) 6 1177493) 7 209658) 8 1604747592) 9 4003641) 10 172677872) 11 564588237) 12 33989651) 13 932857) 14 19741) 15 1891) 16 573) 17 17595960) 18 29203711) 19 17006) 20 22955708) 21 15248761) 22 40072202)))), (q_6, .inl (cyI, 240, .inl (fun _ => 0))), (q_7, .inl (cyI, 2200, .inl (fun _ => 0))), (q_8, .inl (cyI, 2200, .inl (fun _ => 0))), (q_9, .inl (cyJ, 16, .inr (.inl (fun _ => 0)))), (q_10, .inl (cyZ, 12, .inl (fun _ => 0))), (q_11, .inl (cyI, 8, .inl (upd (upd (upd (upd (upd (upd (upd (upd (fun _ => 0) 0 17) 1 18) 2 19) 3 7) 4 20) 5 21) 6 1) 7 22))), (q_12, .inl (cyI, 8, .inl (fun _ => 0))), (q_13, .inl (cyI, 1100, .inl (fun _ => 0))), (q_14, .inl (cyI, 2760, .inl (fun _ => 0))), (q_15, .inl (cyZ, 4, .inl (fun _ => 0))), (q_16, .inl (cyI, 12, .inl (fun _ => 0))), (q_17, .inl (cyZ, 144, .inl (fun _ => 0))), (q_18, .inl (cyZ, 144, .inl (fun _ => 0))), (q_19, .inl (cyI, 49152, .inl (fun _ => 0)))]) C inw_11 0 rfl rfl 29 (by decide) wd_901 rfl tyX11_ok nmX11 rfl hin rfl (tyX11_ok 29 (by decide)) rfl rfl (Nat.le_of_ble_eq_true rfl) dX11_init_359 rfl ?_
  refine j_aload_n (pc := 362) C dX11_init_362 rfl 0 rfl ?_
  refine j_sipush (pc := 363) (v := 4096) C dX11_init_363 (by decide) ?_
  refine j_newa (pc := 366) (at1 := .int) (ty := .int) (N := 4096) (a0 := (4096, .inl (fun _ => 0))) C wd_189 rfl 1 rfl (fun _ _ h => h) (fun _ => rfl) (by decide) (by decide) (by decide) (by decide) (by decide) dX11_init_366 (fun q_20 => ?_)
  refine j_widen (k := 20) (n := 66125) (by decide) (by decide) ?_
  refine j_putF (pc := 368) (ci := 11) (v := .ref q_20) (ws' := [(h0, .inr (11, [.int 0, .ref q_1, .int 0, .int 0, .ref q_2, .ref q_3, .ref q_4, .int 0, .int 0, .ref q_5, .ref q_6, .ref q_7, .ref q_8, .int 0, .ref q_9, .ref q_10, .int 0, .ref q_11, .ref q_12, .ref q_13, .ref q_14, .ref q_15, .int 0, .int 0, .int 0, .ref q_16, .int 0, .ref q_17, .ref q_18, .ref q_19, .ref q_20, .null, .null, .int 0, .int 0, .int 0, .null, .null, .int 0, .int 0, .int 0, .int 0, .null])), (q_1, .inl (cyI, 1000, .inl (fun _ => 0))), (q_2, .inl (cyI, 1002, .inl (fun _ => 0))), (q_3, .inl (cyI, 1002, .inl (fun _ => 0))), (q_4, .inl (cyJ, 1002, .inr (.inl (fun _ => 0)))), (q_5, .inl (cyJ, 23, .inr (.inl (vp_updL (vp_updL (vp_updL (vp_updL (vp_updL (vp_updL (vp_updL (vp_updL (vp_updL (vp_updL (vp_updL (vp_updL (vp_updL (vp_updL (vp_updL (vp_updL (vp_updL (vp_updL (vp_updL (vp_updL (vp_updL (vp_updL (vp_updL (fun _ => 0) 0 122704) 1 16765) 2 36021578) 3 27951) 4 15047032) 5 716710) 6 1177493) 7 209658) 8 1604747592) 9 4003641) 10 172677872) 11 564588237) 12 33989651) 13 932857) 14 19741) 15 1891) 16 573) 17 17595960) 18 29203711) 19 17006) 20 22955708) 21 15248761) 22 40072202)))), (q_6, .inl (cyI, 240, .inl (fun _ => 0))), (q_7, .inl (cyI, 2200, .inl (fun _ => 0))), (q_8, .inl (cyI, 2200, .inl (fun _ => 0))), (q_9, .inl (cyJ, 16, .inr (.inl (fun _ => 0)))), (q_10, .inl (cyZ, 12, .inl (fun _ => 0))), (q_11, .inl (cyI, 8, .inl (upd (upd (upd (upd (upd (upd (upd (upd (fun _ => 0) 0 17) 1 18) 2 19) 3 7) 4 20) 5 21) 6 1) 7 22))), (q_12, .inl (cyI, 8, .inl (fun _ => 0))), (q_13, .inl (cyI, 1100, .inl (fun _ => 0))), (q_14, .inl (cyI, 2760, .inl (fun _ => 0))), (q_15, .inl (cyZ, 4, .inl (fun _ => 0))), (q_16, .inl (cyI, 12, .inl (fun _ => 0))), (q_17, .inl (cyZ, 144, .inl (fun _ => 0))), (q_18, .inl (cyZ, 144, .inl (fun _ => 0))), (q_19, .inl (cyI, 49152, .inl (fun _ => 0))), (q_20, .inl (cyI, 4096, .inl (fun _ => 0)))]) C inw_11 0 rfl rfl 30 (by decide) wd_898 rfl tyX11_ok nmX11 rfl hin rfl (tyX11_ok 30 (by decide)) rfl rfl (Nat.le_of_ble_eq_true rfl) dX11_init_368 rfl ?_
  refine j_aload_n (pc := 371) C dX11_init_371 rfl 0 rfl ?_
  refine j_bipush (pc := 372) (v := 12) C dX11_init_372 (by decide) ?_
  refine j_newa (pc := 374) (at1 := .int) (ty := .int) (N := 12) (a0 := (12, .inl (fun _ => 0))) C wd_189 rfl 1 rfl (fun _ _ h => h) (fun _ => rfl) (by decide) (by decide) (by decide) (by decide) (by decide) dX11_init_374 (fun q_21 => ?_)
  refine j_widen (k := 21) (n := 66137) (by decide) (by decide) ?_
  refine j_putF (pc := 376) (ci := 11) (v := .ref q_21) (ws' := [(h0, .inr (11, [.int 0, .ref q_1, .int 0, .int 0, .ref q_2, .ref q_3, .ref q_4, .int 0, .int 0, .ref q_5, .ref q_6, .ref q_7, .ref q_8, .int 0, .ref q_9, .ref q_10, .int 0, .ref q_11, .ref q_12, .ref q_13, .ref q_14, .ref q_15, .int 0, .int 0, .int 0, .ref q_16, .int 0, .ref q_17, .ref q_18, .ref q_19, .ref q_20, .ref q_21, .null, .int 0, .int 0, .int 0, .null, .null, .int 0, .int 0, .int 0, .int 0, .null])), (q_1, .inl (cyI, 1000, .inl (fun _ => 0))), (q_2, .inl (cyI, 1002, .inl (fun _ => 0))), (q_3, .inl (cyI, 1002, .inl (fun _ => 0))), (q_4, .inl (cyJ, 1002, .inr (.inl (fun _ => 0)))), (q_5, .inl (cyJ, 23, .inr (.inl (vp_updL (vp_updL (vp_updL (vp_updL (vp_updL (vp_updL (vp_updL (vp_updL (vp_updL (vp_updL (vp_updL (vp_updL (vp_updL (vp_updL (vp_updL (vp_updL (vp_updL (vp_updL (vp_updL (vp_updL (vp_updL (vp_updL (vp_updL (fun _ => 0) 0 122704) 1 16765) 2 36021578) 3 27951) 4 15047032) 5 716710) 6 1177493) 7 209658) 8 1604747592) 9 4003641) 10 172677872) 11 564588237) 12 33989651) 13 932857) 14 19741) 15 1891) 16 573) 17 17595960) 18 29203711) 19 17006) 20 22955708) 21 15248761) 22 40072202)))), (q_6, .inl (cyI, 240, .inl (fun _ => 0))), (q_7, .inl (cyI, 2200, .inl (fun _ => 0))), (q_8, .inl (cyI, 2200, .inl (fun _ => 0))), (q_9, .inl (cyJ, 16, .inr (.inl (fun _ => 0)))), (q_10, .inl (cyZ, 12, .inl (fun _ => 0))), (q_11, .inl (cyI, 8, .inl (upd (upd (upd (upd (upd (upd (upd (upd (fun _ => 0) 0 17) 1 18) 2 19) 3 7) 4 20) 5 21) 6 1) 7 22))), (q_12, .inl (cyI, 8, .inl (fun _ => 0))), (q_13, .inl (cyI, 1100, .inl (fun _ => 0))), (q_14, .inl (cyI, 2760, .inl (fun _ => 0))), (q_15, .inl (cyZ, 4, .inl (fun _ => 0))), (q_16, .inl (cyI, 12, .inl (fun _ => 0))), (q_17, .inl (cyZ, 144, .inl (fun _ => 0))), (q_18, .inl (cyZ, 144, .inl (fun _ => 0))), (q_19, .inl (cyI, 49152, .inl (fun _ => 0))), (q_20, .inl (cyI, 4096, .inl (fun _ => 0))), (q_21, .inl (cyI, 12, .inl (fun _ => 0)))]) C inw_11 0 rfl rfl 31 (by decide) wd_935 rfl tyX11_ok nmX11 rfl hin rfl (tyX11_ok 31 (by decide)) rfl rfl (Nat.le_of_ble_eq_true rfl) dX11_init_376 rfl ?_
  refine j_aload_n (pc := 379) C dX11_init_379 rfl 0 rfl ?_
  refine j_sipush (pc := 380) (v := 4096) C dX11_init_380 (by decide) ?_
  refine j_newa (pc := 383) (at1 := .int) (ty := .int) (N := 4096) (a0 := (4096, .inl (fun _ => 0))) C wd_189 rfl 1 rfl (fun _ _ h => h) (fun _ => rfl) (by decide) (by decide) (by decide) (by decide) (by decide) dX11_init_383 (fun q_22 => ?_)
  refine j_widen (k := 22) (n := 70233) (by decide) (by decide) ?_
  refine j_putF (pc := 385) (ci := 11) (v := .ref q_22) (ws' := [(h0, .inr (11, [.int 0, .ref q_1, .int 0, .int 0, .ref q_2, .ref q_3, .ref q_4, .int 0, .int 0, .ref q_5, .ref q_6, .ref q_7, .ref q_8, .int 0, .ref q_9, .ref q_10, .int 0, .ref q_11, .ref q_12, .ref q_13, .ref q_14, .ref q_15, .int 0, .int 0, .int 0, .ref q_16, .int 0, .ref q_17, .ref q_18, .ref q_19, .ref q_20, .ref q_21, .ref q_22, .int 0, .int 0, .int 0, .null, .null, .int 0, .int 0, .int 0, .int 0, .null])), (q_1, .inl (cyI, 1000, .inl (fun _ => 0))), (q_2, .inl (cyI, 1002, .inl (fun _ => 0))), (q_3, .inl (cyI, 1002, .inl (fun _ => 0))), (q_4, .inl (cyJ, 1002, .inr (.inl (fun _ => 0)))), (q_5, .inl (cyJ, 23, .inr (.inl (vp_updL (vp_updL (vp_updL (vp_updL (vp_updL (vp_updL (vp_updL (vp_updL (vp_updL (vp_updL (vp_updL (vp_updL (vp_updL (vp_updL (vp_updL (vp_updL (vp_updL (vp_updL (vp_updL (vp_updL (vp_updL (vp_updL (vp_updL (fun _ => 0) 0 122704) 1 16765) 2 36021578) 3 27951) 4 15047032) 5 716710) 6 1177493) 7 209658) 8 1604747592) 9 4003641) 10 172677872) 11 564588237) 12 33989651) 13 932857) 14 19741) 15 1891) 16 573) 17 17595960) 18 29203711) 19 17006) 20 22955708) 21 15248761) 22 40072202)))), (q_6, .inl (cyI, 240, .inl (fun _ => 0))), (q_7, .inl (cyI, 2200, .inl (fun _ => 0))), (q_8, .inl (cyI, 2200, .inl (fun _ => 0))), (q_9, .inl (cyJ, 16, .inr (.inl (fun _ => 0)))), (q_10, .inl (cyZ, 12, .inl (fun _ => 0))), (q_11, .inl (cyI, 8, .inl (upd (upd (upd (upd (upd (upd (upd (upd (fun _ => 0) 0 17) 1 18) 2 19) 3 7) 4 20) 5 21) 6 1) 7 22))), (q_12, .inl (cyI, 8, .inl (fun _ => 0))), (q_13, .inl (cyI, 1100, .inl (fun _ => 0))), (q_14, .inl (cyI, 2760, .inl (fun _ => 0))), (q_15, .inl (cyZ, 4, .inl (fun _ => 0))), (q_16, .inl (cyI, 12, .inl (fun _ => 0))), (q_17, .inl (cyZ, 144, .inl (fun _ => 0))), (q_18, .inl (cyZ, 144, .inl (fun _ => 0))), (q_19, .inl (cyI, 49152, .inl (fun _ => 0))), (q_20, .inl (cyI, 4096, .inl (fun _ => 0))), (q_21, .inl (cyI, 12, .inl (fun _ => 0))), (q_22, .inl (cyI, 4096, .inl (fun _ => 0)))]) C inw_11 0 rfl rfl 32 (by decide) wd_940 rfl tyX11_ok nmX11 rfl hin rfl (tyX11_ok 32 (by decide)) rfl rfl (Nat.le_of_ble_eq_true rfl) dX11_init_385 rfl ?_
  refine j_aload_n (pc := 388) C dX11_init_388 rfl 0 rfl ?_
  refine j_bipush (pc := 389) (v := 7) C dX11_init_389 (by decide) ?_
  refine j_newa (pc := 391) (at1 := .int) (ty := .int) (N := 7) (a0 := (7, .inl (fun _ => 0))) C wd_189 rfl 1 rfl (fun _ _ h => h) (fun _ => rfl) (by decide) (by decide) (by decide) (by decide) (by decide) dX11_init_391 (fun q_23 => ?_)
  refine j_widen (k := 23) (n := 70240) (by decide) (by decide) ?_
  refine j_putF (pc := 393) (ci := 11) (v := .ref q_23) (ws' := [(h0, .inr (11, [.int 0, .ref q_1, .int 0, .int 0, .ref q_2, .ref q_3, .ref q_4, .int 0, .int 0, .ref q_5, .ref q_6, .ref q_7, .ref q_8, .int 0, .ref q_9, .ref q_10, .int 0, .ref q_11, .ref q_12, .ref q_13, .ref q_14, .ref q_15, .int 0, .int 0, .int 0, .ref q_16, .int 0, .ref q_17, .ref q_18, .ref q_19, .ref q_20, .ref q_21, .ref q_22, .int 0, .int 0, .int 0, .ref q_23, .null, .int 0, .int 0, .int 0, .int 0, .null])), (q_1, .inl (cyI, 1000, .inl (fun _ => 0))), (q_2, .inl (cyI, 1002, .inl (fun _ => 0))), (q_3, .inl (cyI, 1002, .inl (fun _ => 0))), (q_4, .inl (cyJ, 1002, .inr (.inl (fun _ => 0)))), (q_5, .inl (cyJ, 23, .inr (.inl (vp_updL (vp_updL (vp_updL (vp_updL (vp_updL (vp_updL (vp_updL (vp_updL (vp_updL (vp_updL (vp_updL (vp_updL (vp_updL (vp_updL (vp_updL (vp_updL (vp_updL (vp_updL (vp_updL (vp_updL (vp_updL (vp_updL (vp_updL (fun _ => 0) 0 122704) 1 16765) 2 36021578) 3 27951) 4 15047032) 5 716710) 6 1177493) 7 209658) 8 1604747592) 9 4003641) 10 172677872) 11 564588237) 12 33989651) 13 932857) 14 19741) 15 1891) 16 573) 17 17595960) 18 29203711) 19 17006) 20 22955708) 21 15248761) 22 40072202)))), (q_6, .inl (cyI, 240, .inl (fun _ => 0))), (q_7, .inl (cyI, 2200, .inl (fun _ => 0))), (q_8, .inl (cyI, 2200, .inl (fun _ => 0))), (q_9, .inl (cyJ, 16, .inr (.inl (fun _ => 0)))), (q_10, .inl (cyZ, 12, .inl (fun _ => 0))), (q_11, .inl (cyI, 8, .inl (upd (upd (upd (upd (upd (upd (upd (upd (fun _ => 0) 0 17) 1 18) 2 19) 3 7) 4 20) 5 21) 6 1) 7 22))), (q_12, .inl (cyI, 8, .inl (fun _ => 0))), (q_13, .inl (cyI, 1100, .inl (fun _ => 0))), (q_14, .inl (cyI, 2760, .inl (fun _ => 0))), (q_15, .inl (cyZ, 4, .inl (fun _ => 0))), (q_16, .inl (cyI, 12, .inl (fun _ => 0))), (q_17, .inl (cyZ, 144, .inl (fun _ => 0))), (q_18, .inl (cyZ, 144, .inl (fun _ => 0))), (q_19, .inl (cyI, 49152, .inl (fun _ => 0))), (q_20, .inl (cyI, 4096, .inl (fun _ => 0))), (q_21, .inl (cyI, 12, .inl (fun _ => 0))), (q_22, .inl (cyI, 4096, .inl (fun _ => 0))), (q_23, .inl (cyI, 7, .inl (fun _ => 0)))]) C inw_11 0 rfl rfl 36 (by decide) wd_880 rfl tyX11_ok nmX11 rfl hin rfl (tyX11_ok 36 (by decide)) rfl rfl (Nat.le_of_ble_eq_true rfl) dX11_init_393 rfl ?_
  refine j_aload_n (pc := 396) C dX11_init_396 rfl 0 rfl ?_
  refine j_bipush (pc := 397) (v := 7) C dX11_init_397 (by decide) ?_
  refine j_newa (pc := 399) (at1 := .int) (ty := .int) (N := 7) (a0 := (7, .inl (fun _ => 0))) C wd_189 rfl 1 rfl (fun _ _ h => h) (fun _ => rfl) (by decide) (by decide) (by decide) (by decide) (by decide) dX11_init_399 (fun q_24 => ?_)
  refine j_widen (k := 24) (n := 70247) (by decide) (by decide) ?_
  refine j_putF (pc := 401) (ci := 11) (v := .ref q_24) (ws' := [(h0, .inr (11, [.int 0, .ref q_1, .int 0, .int 0, .ref q_2, .ref q_3, .ref q_4, .int 0, .int 0, .ref q_5, .ref q_6, .ref q_7, .ref q_8, .int 0, .ref q_9, .ref q_10, .int 0, .ref q_11, .ref q_12, .ref q_13, .ref q_14, .ref q_15, .int 0, .int 0, .int 0, .ref q_16, .int 0, .ref q_17, .ref q_18, .ref q_19, .ref q_20, .ref q_21, .ref q_22, .int 0, .int 0, .int 0, .ref q_23, .ref q_24, .int 0, .int 0, .int 0, .int 0, .null])), (q_1, .inl (cyI, 1000, .inl (fun _ => 0))), (q_2, .inl (cyI, 1002, .inl (fun _ => 0))), (q_3, .inl (cyI, 1002, .inl (fun _ => 0))), (q_4, .inl (cyJ, 1002, .inr (.inl (fun _ => 0)))), (q_5, .inl (cyJ, 23, .inr (.inl (vp_updL (vp_updL (vp_updL (vp_updL (vp_updL (vp_updL (vp_updL (vp_updL (vp_updL (vp_updL (vp_updL (vp_updL (vp_updL (vp_updL (vp_updL (vp_updL (vp_updL (vp_updL (vp_updL (vp_updL (vp_updL (vp_updL (vp_updL (fun _ => 0) 0 122704) 1 16765) 2 36021578) 3 27951) 4 15047032) 5 716710) 6 1177493) 7 209658) 8 1604747592) 9 4003641) 10 172677872) 11 564588237) 12 33989651) 13 932857) 14 19741) 15 1891) 16 573) 17 17595960) 18 29203711) 19 17006) 20 22955708) 21 15248761) 22 40072202)))), (q_6, .inl (cyI, 240, .inl (fun _ => 0))), (q_7, .inl (cyI, 2200, .inl (fun _ => 0))), (q_8, .inl (cyI, 2200, .inl (fun _ => 0))), (q_9, .inl (cyJ, 16, .inr (.inl (fun _ => 0)))), (q_10, .inl (cyZ, 12, .inl (fun _ => 0))), (q_11, .inl (cyI, 8, .inl (upd (upd (upd (upd (upd (upd (upd (upd (fun _ => 0) 0 17) 1 18) 2 19) 3 7) 4 20) 5 21) 6 1) 7 22))), (q_12, .inl (cyI, 8, .inl (fun _ => 0))), (q_13, .inl (cyI, 1100, .inl (fun _ => 0))), (q_14, .inl (cyI, 2760, .inl (fun _ => 0))), (q_15, .inl (cyZ, 4, .inl (fun _ => 0))), (q_16, .inl (cyI, 12, .inl (fun _ => 0))), (q_17, .inl (cyZ, 144, .inl (fun _ => 0))), (q_18, .inl (cyZ, 144, .inl (fun _ => 0))), (q_19, .inl (cyI, 49152, .inl (fun _ => 0))), (q_20, .inl (cyI, 4096, .inl (fun _ => 0))), (q_21, .inl (cyI, 12, .inl (fun _ => 0))), (q_22, .inl (cyI, 4096, .inl (fun _ => 0))), (q_23, .inl (cyI, 7, .inl (fun _ => 0))), (q_24, .inl (cyI, 7, .inl (fun _ => 0)))]) C inw_11 0 rfl rfl 37 (by decide) wd_879 rfl tyX11_ok nmX11 rfl hin rfl (tyX11_ok 37 (by decide)) rfl rfl (Nat.le_of_ble_eq_true rfl) dX11_init_401 rfl ?_
  refine j_aload_n (pc := 404) C dX11_init_404 rfl 0 rfl ?_
  refine j_iconst (pc := 405) (v := 5) C dX11_init_405 (by decide) ?_
  refine j_newa (pc := 406) (at1 := .long) (ty := .long) (N := 5) (a0 := (5, .inr (.inl (fun _ => 0)))) C wd_978 rfl 2 rfl (fun _ _ h => h) (fun _ => rfl) (by decide) (by decide) (by decide) (by decide) (by decide) dX11_init_406 (fun q_25 => ?_)
  refine j_widen (k := 25) (n := 70252) (by decide) (by decide) ?_
  refine j_putF (pc := 408) (ci := 11) (v := .ref q_25) (ws' := [(h0, .inr (11, [.int 0, .ref q_1, .int 0, .int 0, .ref q_2, .ref q_3, .ref q_4, .int 0, .int 0, .ref q_5, .ref q_6, .ref q_7, .ref q_8, .int 0, .ref q_9, .ref q_10, .int 0, .ref q_11, .ref q_12, .ref q_13, .ref q_14, .ref q_15, .int 0, .int 0, .int 0, .ref q_16, .int 0, .ref q_17, .ref q_18, .ref q_19, .ref q_20, .ref q_21, .ref q_22, .int 0, .int 0, .int 0, .ref q_23, .ref q_24, .int 0, .int 0, .int 0, .int 0, .ref q_25])), (q_1, .inl (cyI, 1000, .inl (fun _ => 0))), (q_2, .inl (cyI, 1002, .inl (fun _ => 0))), (q_3, .inl (cyI, 1002, .inl (fun _ => 0))), (q_4, .inl (cyJ, 1002, .inr (.inl (fun _ => 0)))), (q_5, .inl (cyJ, 23, .inr (.inl (vp_updL (vp_updL (vp_updL (vp_updL (vp_updL (vp_updL (vp_updL (vp_updL (vp_updL (vp_updL (vp_updL (vp_updL (vp_updL (vp_updL (vp_updL (vp_updL (vp_updL (vp_updL (vp_updL (vp_updL (vp_updL (vp_updL (vp_updL (fun _ => 0) 0 122704) 1 16765) 2 36021578) 3 27951) 4 15047032) 5 716710) 6 1177493) 7 209658) 8 1604747592) 9 4003641) 10 172677872) 11 564588237) 12 33989651) 13 932857) 14 19741) 15 1891) 16 573) 17 17595960) 18 29203711) 19 17006) 20 22955708) 21 15248761) 22 40072202)))), (q_6, .inl (cyI, 240, .inl (fun _ => 0))), (q_7, .inl (cyI, 2200, .inl (fun _ => 0))), (q_8, .inl (cyI, 2200, .inl (fun _ => 0))), (q_9, .inl (cyJ, 16, .inr (.inl (fun _ => 0)))), (q_10, .inl (cyZ, 12, .inl (fun _ => 0))), (q_11, .inl (cyI, 8, .inl (upd (upd (upd (upd (upd (upd (upd (upd (fun _ => 0) 0 17) 1 18) 2 19) 3 7) 4 20) 5 21) 6 1) 7 22))), (q_12, .inl (cyI, 8, .inl (fun _ => 0))), (q_13, .inl (cyI, 1100, .inl (fun _ => 0))), (q_14, .inl (cyI, 2760, .inl (fun _ => 0))), (q_15, .inl (cyZ, 4, .inl (fun _ => 0))), (q_16, .inl (cyI, 12, .inl (fun _ => 0))), (q_17, .inl (cyZ, 144, .inl (fun _ => 0))), (q_18, .inl (cyZ, 144, .inl (fun _ => 0))), (q_19, .inl (cyI, 49152, .inl (fun _ => 0))), (q_20, .inl (cyI, 4096, .inl (fun _ => 0))), (q_21, .inl (cyI, 12, .inl (fun _ => 0))), (q_22, .inl (cyI, 4096, .inl (fun _ => 0))), (q_23, .inl (cyI, 7, .inl (fun _ => 0))), (q_24, .inl (cyI, 7, .inl (fun _ => 0))), (q_25, .inl (cyJ, 5, .inr (.inl (fun _ => 0))))]) C inw_11 0 rfl rfl 42 (by decide) wd_895 rfl tyX11_ok nmX11 rfl hin rfl (tyX11_ok 42 (by decide)) rfl rfl (Nat.le_of_ble_eq_true rfl) dX11_init_408 rfl ?_
  refine j_aload_n (pc := 411) C dX11_init_411 rfl 0 rfl ?_
  refine j_iconst (pc := 412) (v := 1) C dX11_init_412 (by decide) ?_
  refine j_put (pc := 413) (ci := 11) (v := .int 1) (ws' := [(h0, .inr (11, [.int 0, .ref q_1, .int 0, .int 0, .ref q_2, .ref q_3, .ref q_4, .int 0, .int 0, .ref q_5, .ref q_6, .ref q_7, .ref q_8, .int 0, .ref q_9, .ref q_10, .int 1, .ref q_11, .ref q_12, .ref q_13, .ref q_14, .ref q_15, .int 0, .int 0, .int 0, .ref q_16, .int 0, .ref q_17, .ref q_18, .ref q_19, .ref q_20, .ref q_21, .ref q_22, .int 0, .int 0, .int 0, .ref q_23, .ref q_24, .int 0, .int 0, .int 0, .int 0, .ref q_25])), (q_1, .inl (cyI, 1000, .inl (fun _ => 0))), (q_2, .inl (cyI, 1002, .inl (fun _ => 0))), (q_3, .inl (cyI, 1002, .inl (fun _ => 0))), (q_4, .inl (cyJ, 1002, .inr (.inl (fun _ => 0)))), (q_5, .inl (cyJ, 23, .inr (.inl (vp_updL (vp_updL (vp_updL (vp_updL (vp_updL (vp_updL (vp_updL (vp_updL (vp_updL (vp_updL (vp_updL (vp_updL (vp_updL (vp_updL (vp_updL (vp_updL (vp_updL (vp_updL (vp_updL (vp_updL (vp_updL (vp_updL (vp_updL (fun _ => 0) 0 122704) 1 16765) 2 36021578) 3 27951) 4 15047032) 5 716710) 6 1177493) 7 209658) 8 1604747592) 9 4003641) 10 172677872) 11 564588237) 12 33989651) 13 932857) 14 19741) 15 1891) 16 573) 17 17595960) 18 29203711) 19 17006) 20 22955708) 21 15248761) 22 40072202)))), (q_6, .inl (cyI, 240, .inl (fun _ => 0))), (q_7, .inl (cyI, 2200, .inl (fun _ => 0))), (q_8, .inl (cyI, 2200, .inl (fun _ => 0))), (q_9, .inl (cyJ, 16, .inr (.inl (fun _ => 0)))), (q_10, .inl (cyZ, 12, .inl (fun _ => 0))), (q_11, .inl (cyI, 8, .inl (upd (upd (upd (upd (upd (upd (upd (upd (fun _ => 0) 0 17) 1 18) 2 19) 3 7) 4 20) 5 21) 6 1) 7 22))), (q_12, .inl (cyI, 8, .inl (fun _ => 0))), (q_13, .inl (cyI, 1100, .inl (fun _ => 0))), (q_14, .inl (cyI, 2760, .inl (fun _ => 0))), (q_15, .inl (cyZ, 4, .inl (fun _ => 0))), (q_16, .inl (cyI, 12, .inl (fun _ => 0))), (q_17, .inl (cyZ, 144, .inl (fun _ => 0))), (q_18, .inl (cyZ, 144, .inl (fun _ => 0))), (q_19, .inl (cyI, 49152, .inl (fun _ => 0))), (q_20, .inl (cyI, 4096, .inl (fun _ => 0))), (q_21, .inl (cyI, 12, .inl (fun _ => 0))), (q_22, .inl (cyI, 4096, .inl (fun _ => 0))), (q_23, .inl (cyI, 7, .inl (fun _ => 0))), (q_24, .inl (cyI, 7, .inl (fun _ => 0))), (q_25, .inl (cyJ, 5, .inr (.inl (fun _ => 0))))]) C inw_11 0 rfl rfl 16 (by decide) wd_906 rfl tyX11_ok nmX11 rfl (tyX11_ok 16 (by decide)) rfl rfl (Nat.le_of_ble_eq_true rfl) dX11_init_413 rfl ?_
  exact j_vret (pc := 416) C hr hk (fun i => [q_1, q_2, q_3, q_4, q_5, q_6, q_7, q_8, q_9, q_10, q_11, q_12, q_13, q_14, q_15, q_16, q_17, q_18, q_19, q_20, q_21, q_22, q_23, q_24, q_25].getD i 0, fun _ => 0, fun _ _ => 0, fun _ _ => 0) rfl trivial [0, 1, 2, 3, 4, 5, 6, 7, 8, 9, 10, 11, 12, 13, 14, 15, 16, 17, 18, 19, 20, 21, 22, 23, 24, 25] (by decide) rfl (by decide) (by decide) dX11_init_416
abbrev XN : String := "java/util/NoSuchElementException"
theorem xw_good : ∀ w ∈ ((ownX RX10 306 "java/util/NoSuchElementException" ["java/lang/RuntimeException", "java/lang/Exception"] 13 prog_30_method_4_code).filter vx_no).filter goodWord, w ∈ lw_tbl := by decide +kernel
theorem xw_ng : ∀ w ∈ ((ownX RX10 306 "java/util/NoSuchElementException" ["java/lang/RuntimeException", "java/lang/Exception"] 13 prog_30_method_4_code).filter vx_no).filter (fun w => !goodWord w), w ∈ ([.declares (Bundle.initS "java/lang/RuntimeException"), .declares (Bundle.initS "java/lang/Exception"), .declares (Bundle.initS Bundle.tN), .castable XN XN] : List Cond) := by decide +kernel
theorem xw_ot : ∀ w ∈ Cond.classLink RX10 302 XN :: Cond.initialized XN :: (ownX RX10 306 "java/util/NoSuchElementException" ["java/lang/RuntimeException", "java/lang/Exception"] 13 prog_30_method_4_code).filter vx_no, vx_ot w = true := by decide +kernel
theorem xw_0 : decode prog_30_method_4_code 0 = .ok (.aload_n 0, 1) := by decide +kernel
theorem xw_1 : decode prog_30_method_4_code 1 = .ok (.aload_n 1, 1) := by decide +kernel
theorem xw_2 : decode prog_30_method_4_code 2 = .ok (.invokespecial 13, 3) := by decide +kernel
theorem xw_5 : decode prog_30_method_4_code 5 = .ok (.return_, 1) := by decide +kernel
/-- what the throw needs of a state: words that aren't good, the statics of Throwable -/
def EX (A : Nat → Prop) (U : State) : Prop := va_Nw (.declares (Bundle.initS "java/lang/RuntimeException")) U ∧ va_Nw (.declares (Bundle.initS "java/lang/Exception")) U ∧ va_Nw (.declares (Bundle.initS Bundle.tN)) U ∧ va_Nw (.castable XN XN) U ∧ vx_Zq Bundle.tN "UNASSIGNED_STACK" Bundle.steD A U U.heap ∧ vx_Zq Bundle.tN "SUPPRESSED_SENTINEL" Bundle.listD A U U.heap
theorem EX.down {A B : Nat → Prop} {s U : State} {H : Heap} {locs : List Loc} (h : EX A s) (hS : va_S A s.heap H locs) (hU : U.heap = H) (hW : s.WarmedH U.vm) (hB : ∀ q, B q → A q) : EX B U := by
  obtain ⟨h2, h3, h4, h5, h6, h7⟩ := h
  refine ⟨va_Nw.warmD hW h2, va_Nw.warmD hW h3, va_Nw.warmD hW h4, va_Nw.warmC hW h5, ?_, ?_⟩
  · rw [hU]; exact ((h6.kept hS.2.1).moved hW.alike).narrow hB
  · rw [hU]; exact ((h7.kept hS.2.1).moved hW.alike).narrow hB
theorem EX.blind {A : Nat → Prop} {U V : State} (hv : V.vm = U.vm) (hh : V.heap = U.heap) (h : EX A U) : EX A V := by
  obtain ⟨h2, h3, h4, h5, h6, h7⟩ := h
  have al : U.vm.Alike V.vm := by rw [hv]; exact Vm.Alike.refl _
  exact ⟨va_Nw.same rfl hv.symm h2, va_Nw.same rfl hv.symm h3, va_Nw.same rfl hv.symm h4, va_Nw.same rfl hv.symm h5, by rw [hh]; exact h6.moved al, by rw [hh]; exact h7.moved al⟩
theorem EX.words {A : Nat → Prop} {s : State} {args : Array Value} (h : EX A s) (hw : ∀ w ∈ WALL, w.before args s = true) : ∀ w ∈ (ownX RX10 306 "java/util/NoSuchElementException" ["java/lang/RuntimeException", "java/lang/Exception"] 13 prog_30_method_4_code).filter vx_no, w.before args s = true :=
  vx_hat (fun w h => hw w (wl_in (xw_good w h) (List.mem_filter.mp h).2)) xw_ng (vx_c (va_Nw.use rfl h.1) (vx_c (va_Nw.use rfl h.2.1) (vx_c (va_Nw.use rfl h.2.2.1) (vx_c (va_Nw.use rfl h.2.2.2.1) vx_n))))
def PreX (D : DG) (tys : List (ClassId × FieldType)) (As : List Value) (wc : va_W) (sz : Nat) : Array Value → State → Prop := fun a U => PreK D tys As wc sz a U ∧ EX (va_A wc sz) U
theorem preX_blind {D : DG} {tys : List (ClassId × FieldType)} (As : List Value) (wc : va_W) (sz : Nat) : FrameBlind (PreX D tys As wc sz) := fun a U g mk q => ⟨preK_blind As wc sz a U g mk q.1, EX.blind (V := U.calling g mk a) (U := U) rfl rfl q.2⟩
/-- how it throws: the cells are as they were -/
def XCx (D : DG) (tys : List (ClassId × FieldType)) (A : Nat → Prop) (wx : va_W) : String → State → State → Prop := fun E st t => (E = XN ∧ EndK D tys A wx t) ∧ va_F A st t
/-- a method that answers or throws -/
def KY (l : Launch) (D : DG) (tys : List (ClassId × FieldType)) (y : MethodName) (bytes : ByteArray) (maxL : Nat) (rt : Option FieldType) (rm : Room) (mc ms : Nat) (As : List Value) (wc : va_W) (ret : SU → Option Value) (post : SU → Prop) (w1 : SU → va_W) : Prop :=
  ∀ sz : Nat, vx_Met l y (Cond.code y bytes maxL rt :: WALL) rm (PreX D tys As wc sz) (Qx ret post (fun u t => EndK D tys (va_A wc sz) (w1 u) t) (va_A wc sz)) (XCx D tys (va_A wc sz) wc) mc ms (va_A wc sz)
def QY (below : List Frame) (D : DG) (tys : List (ClassId × FieldType)) (A : Nat → Prop) (ret : SU → Option Value) (post : SU → Prop) (w1 : SU → va_W) (wx : va_W) (args : Array Value) (s : State) (mc ms : Nat) : State → Prop := vx_MQ below (Qx ret post (fun u t => EndK D tys A (w1 u) t) A) (XCx D tys A wx) args s mc ms A
theorem KY.of {l : Launch} {D : DG} {tys : List (ClassId × FieldType)} {y : MethodName} {bytes : ByteArray} {maxL : Nat} {rt : Option FieldType} {rm : Room} {mc ms : Nat} {As : List Value} {wc : va_W} {ret : SU → Option Value} {post : SU → Prop} {w1 : SU → va_W} {lv0 : List (Nat × Value)}
    (hy : plainName y.cls = true) (hlv : lv_args 0 As = lv0) (hlen : (lg_sl As).length ≤ maxL)
    (body : ∀ (p : Program) (e : Env) (s : State) (m : MethodId) (args : Array Value) (below : List Frame) (meth : Method) (c : Code) (A : Nat → Prop), CX p rm s m args meth c bytes y.cls maxL D tys A → EX A s → (∀ x ∈ c.exceptionTable.toList, False) → meth.sig.returnType = rt → meth.locks = false → J p l e rm s m args below meth c D A maxL 0 0 (QY below D tys A ret post w1 wc args s mc ms) wc 0 lv0 []) : KY l D tys y bytes maxL rt rm mc ms As wc ret post w1 := by
  intro sz
  refine vx_ofW (cc := bytes) (maxL := maxL) (ret := rt) hy rfl ?_
  intro p e s m args below meth c s₁ B hml htab hv
  obtain ⟨⟨rfl, hsz, hP, hK, hD0, hN⟩, hE⟩ := hv
  have hts := atoms_spec (ws := Cond.code y bytes maxL rt :: WALL) B.pre
  subst hsz
  subst hlv
  have hl := lv_entry As (n := maxL) hlen
  rw [lg_entry_eq]
  exact body p e s m _ below meth c (va_A wc s.heap.size) ⟨B.exec, B.bytes, hml, findClass_of_methodNamed B.named, fun w h => hts w (List.mem_cons_of_mem _ h), hK, hN, fun q h => Or.inr h⟩ hE htab B.returns B.notSynchronized s.heap [] _ hP hD0.self va_S.rf hl
section YR
variable {p : Program} {l : Launch} {e : Env} {R : Room} {s : State} {m : MethodId} {args : Array Value} {below : List Frame} {meth : Method} {c : Code} {cc : ByteArray} {own : String} {nL : Nat} {D : DG} {tys : List (ClassId × FieldType)} {A : Nat → Prop} {cells slots : Nat} {Q : State → Prop} {ws ws' : va_W} {pc : Nat} {lv lv' : List (Nat × Value)} {rest st0 : List Value}
theorem j_vx {ret : SU → Option Value} {post : SU → Prop} {w1 : SU → va_W} {wx : va_W} {mc ms : Nat} (k : J p l e R s m args below meth c D A nL cells slots (QX below D tys A ret post w1 args s mc ms) ws pc lv st0) : J p l e R s m args below meth c D A nL cells slots (QY below D tys A ret post w1 wx args s mc ms) ws pc lv st0 := fun H locs ls hP hD hS hl => vx_ret (k H locs ls hP hD hS hl)
theorem j_throw (C : CX p R s m args meth c cc RX10 nL D tys A) (htr : l.stackTraces = false) (hE : EX A s) (htab : ∀ x ∈ c.exceptionTable.toList, False) (hk : meth.locks = false) (h1w : Cond.classLink RX10 302 XN ∈ WALL) (h2w : Cond.initialized XN ∈ WALL) {is i : Nat} {text : String} (hi : i < 43) (hli : lit i = (RX10, is, text)) (d0 : decode cc pc = .ok (.new 302, 3)) (d3 : decode cc (pc + 3) = .ok (.dup, 1)) (d4 : decode cc (pc + 4) = .ok (.ldc_w is, 3)) (d7 : decode cc (pc + 7) = .ok (.invokespecial 306, 3)) (d10 : decode cc (pc + 10) = .ok (.athrow, 1))
    {ret : SU → Option Value} {post : SU → Prop} {w1 : SU → va_W} {wx : va_W} {mc ms : Nat} (isP : List Nat) (hn : va_nd isP = true) (hs : isP.map (fun i => ws[i]?) = wx.map some) (hRf : 5 < R.frames) (hRl : (rest.map fun v => v.category).sum + 82 ≤ R.locals) (hRc : cells + 1 ≤ R.cells) (hRs : slots + 6 ≤ R.slots) (hc : cells + 1 ≤ mc) (hsl : slots + 6 ≤ ms) : J p l e R s m args below meth c D A nL cells slots (QY below D tys A ret post w1 wx args s mc ms) ws pc lv rest := fun H locs ls hP hD hS hl => by
  have hP9 := hP.sub (ws' := wx) isP (fm_of hs)
  have hD9 := hD.sub isP hn hs
  exact vx_throwX (own := RX10) (cls := XN) (text := text) (names := ["java/lang/RuntimeException", "java/lang/Exception"]) (ik := 302) (is := is) (ic := 306) (ix := 13) (rx := prog_30_method_4_code) (sa := D.2.1 i) (A := A) (pc := pc) C.1 C.2.1 htr xw_0 xw_1 xw_2 xw_5 C.2.2.2.1 (by decide) (by decide) (C.2.2.2.2.1 _ h1w) (C.2.2.2.2.1 _ h2w) (C.2.2.2.2.2.2.1.2.1.at hi hli) (hE.words C.2.2.2.2.1) xw_ot hE.2.2.2.2.1 hE.2.2.2.2.2 hS (hl.1.trans C.2.2.1.symm) d0 d3 d4 d7 d10 (fun x hx => (htab x hx).elim) hRf hRl hRc hRs hk (fun t hal hsz hkk => ⟨⟨rfl, hP9.kept (fun k q hq => hkk q.1 (vx_lt hP9 hq)), va_K.moved hal C.2.2.2.2.2.1, hD9⟩, Nat.le_trans hS.1 hsz, fun q h1 h2 => (hkk q (Nat.lt_of_lt_of_le h1 hS.1)).trans (hS.2.1 q h1 h2)⟩) (fun z hz => hS.2.2 z hz) hc hsl
theorem j_callY (C : CX p R s m args meth c cc own nL D tys A) (hE : EX A s) {y : MethodName} {bytes : ByteArray} {maxL ix b n mc ms : Nat} {rt : Option FieldType} {rm : Room} {As : List Value} {wc wr : va_W} {ret : SU → Option Value} {post : SU → Prop} {w1 : SU → va_W} {ci N : Nat} {Tt : u_T} {fsb : List Value}
    (K : KY l D tys y bytes maxL rt rm mc ms (.ref b :: As) wc ret post w1)
    (hcd : Cond.code y bytes maxL rt ∈ WALL) (hini : Cond.initialized y.cls ∈ WALL) (hlk : Cond.methodLink own ix y ∈ WALL) (him : Cond.instanceMethod y ∈ WALL) (hsl : Cond.selects y.cls y y ∈ WALL)
    (hy : y.cls ≠ "java/lang/invoke/MethodHandle" ∧ y.cls ≠ "java/lang/invoke/VarHandle" ∧ (parseMethodDescriptor y.desc).map (fun d => d.parameters.length) = some n) (hnA : As.length = n)
    (hR : rm.cells = mc ∧ rm.slots = ms ∧ rm.frames + 1 ≤ R.frames ∧ 8 + (maxL + 11) + rm.locals ≤ R.locals) (hf : cells + mc ≤ R.cells ∧ slots + ms ≤ R.slots)
    (isC isR : List Nat) (hC : isC.map (fun i => ws[i]?) = wc.map some) (hRr : isR.map (fun i => ws[i]?) = wr.map some) (hnd : va_nd isC = true ∧ va_nd isR = true ∧ ∀ i ∈ isR, i ∉ isC) (qb : Nat) (hrecv : ws[qb]? = some (b, .inr (ci, fsb))) (hcb : vwCl[ci]? = some (y.cls, Tt, N))
    (hst : st0 = As.reverse ++ .ref b :: rest) (hrs : (rest.map fun v => v.category).sum ≤ 8) (hd : decode cc pc = .ok (.invokevirtual ix, 3))
    {x : ExceptionTableEntry} (htab : c.exceptionTable.toList = [x]) (hcov : covers x pc = true) (hct : x.catchType ≠ 0) (hkl : Cond.classLink own x.catchType XN ∈ WALL)
    (kk : ∀ u : SU, post u → J p l e R s m args below meth c D A nL (cells + mc) (slots + ms) Q (wr ++ w1 u) (pc + 3) lv ((ret u).toList ++ rest))
    (kx : ∀ q : Nat, J p l e R s m args below meth c D A nL (cells + mc) (slots + ms) Q (wr ++ wc) x.handlerPc lv [.ref q]) : J p l e R s m args below meth c D A nL cells slots Q ws pc lv st0 := fun H locs ls hP hD hS hl => by
  have hPc := hP.sub (ws' := wc) isC (fm_of hC)
  have hDc := hD.sub isC hnd.1 hC
  have hFc := va_free (wc := wc) hD hS C.2.2.2.2.2.2.2 isC hC
  have hts := C.2.2.2.2.1
  have hK := C.2.2.2.2.2.1
  have hG := wq_G hcd
  subst hst
  intro T hT X0
  rcases (vx_runV (As := As) (rest := rest) ⟨C.1, C.2.1, C.2.2.1, C.2.2.2.1, hts⟩ (K H.size) ⟨callB_of n hts hG rfl hR.1 hR.2.1 (hts _ hini) (hts _ hlk) hy ⟨hR.2.2.1, hR.2.2.2⟩, hts _ him, hts _ hsl⟩ ⟨preX_blind _ wc H.size, va_recv hK hP (ci := ci) (q0 := qb) hcb hrecv, fun U hU hW => ⟨⟨rfl, by rw [hU], by rw [hU]; exact hPc, va_K.moved hW.alike hK, hDc.weaken (fun _ _ _ _ => trivial), NX.warm hW C.2.2.2.2.2.2.1.1, NL.warm hW C.2.2.2.2.2.2.1.2.1, by rw [hU]; exact ((C.2.2.2.2.2.2.1.2.2.kept hS.2.1).moved hW.alike).narrow hFc⟩, hE.down hS hU hW hFc⟩⟩ rfl hnA hl.1 rfl (lv_room hrs) hd hf) T hT X0 with ⟨v, st9, t, T', L, h0, X', hL, e1, e2, ⟨⟨u, hv, hp, hb⟩, hF⟩, st⟩ | ⟨q, st9, t, T', L, E, ce, h0, X', hL, e1, e2, ⟨⟨rfl, hb⟩, hF⟩, hce, hcv, hcl, st⟩
  · obtain ⟨k1, k2, k3⟩ := vx_keep h0 e1 hS (fun q _ h => hFc q h) hFc hL hF
    cases hv
    obtain ⟨hP1, hK1, hD1⟩ := hb
    rw [← e1] at hP1
    obtain ⟨hP2, hD2⟩ := va_join hP hD isC isR hC hRr hnd.2.1 hnd.2.2 k2 hFc hP1 hD1
    obtain ⟨t2, a1, b1⟩ := kk u hp T'.heap (locs ++ L) ls hP2 hD2 k3 hl T' rfl X'
    exact ⟨t2, st t2 a1, b1⟩
  · obtain ⟨k1, k2, k3⟩ := vx_keep h0 e1 hS (fun q _ h => hFc q h) hFc hL hF
    obtain ⟨hP1, hK1, hD1⟩ := hb
    rw [← e1] at hP1
    obtain ⟨hP2, hD2⟩ := va_join hP hD isC isR hC hRr hnd.2.1 hnd.2.2 k2 hFc hP1 hD1
    obtain ⟨t2, a1, b1⟩ := vx_catch (own := own) (name := XN) (E := XN) (pc := pc) (ls := ls) (rest := rest) C.2.2.2.1 [] x [] htab (fun z hz => by cases hz) hcov hct (hts _ hkl) (va_Nw.use rfl hE.2.2.2.1) (H := T'.heap) (by rw [e1]; exact hce) hcv hcl (kx q T'.heap (locs ++ L) ls hP2 hD2 k3 hl) T' rfl X'
    exact ⟨t2, st.trans a1, b1⟩
end YR
/-- a static method with a table of handlers, that needs what a throw needs -/
def KX (l : Launch) (D : DG) (tys : List (ClassId × FieldType)) (y : MethodName) (bytes : ByteArray) (maxL : Nat) (rt : Option FieldType) (hh : List (Nat × Nat × Nat × Nat)) (rm : Room) (mc ms : Nat) (As : List Value) (wc : va_W) (ret : SU → Option Value) (post : SU → Prop) (w1 : SU → va_W) : Prop :=
  ∀ sz : Nat, Met l y (Cond.codeWith y bytes maxL rt hh :: WALL) rm (PreX D tys As wc sz) (Qx ret post (fun u t => EndK D tys (va_A wc sz) (w1 u) t) (va_A wc sz)) mc ms (va_A wc sz)
theorem KX.of {l : Launch} {D : DG} {tys : List (ClassId × FieldType)} {y : MethodName} {bytes : ByteArray} {maxL : Nat} {rt : Option FieldType} {hh : List (Nat × Nat × Nat × Nat)} {rm : Room} {mc ms : Nat} {As : List Value} {wc : va_W} {ret : SU → Option Value} {post : SU → Prop} {w1 : SU → va_W} {lv0 : List (Nat × Value)}
    (hy : plainName y.cls = true) (hlv : lv_args 0 As = lv0) (hlen : (lg_sl As).length ≤ maxL)
    (body : ∀ (p : Program) (e : Env) (s : State) (m : MethodId) (args : Array Value) (below : List Frame) (meth : Method) (c : Code) (A : Nat → Prop), CX p rm s m args meth c bytes y.cls maxL D tys A → EX A s → c.exceptionTable.toList = tableOf hh → meth.sig.returnType = rt → meth.locks = false → J p l e rm s m args below meth c D A maxL 0 0 (QX below D tys A ret post w1 args s mc ms) wc 0 lv0 []) : KX l D tys y bytes maxL rt hh rm mc ms As wc ret post w1 := by
  intro sz
  refine va_MetW (cc := bytes) (maxL := maxL) (ret := rt) (hh := hh) hy rfl ?_
  intro p e s m args below meth c s₁ B hml hv
  obtain ⟨⟨rfl, hsz, hP, hK, hD0, hN⟩, hE⟩ := hv
  have hts := atoms_spec (ws := Cond.codeWith y bytes maxL rt hh :: WALL) B.pre
  have htab := vx_table (x := y) B (hts _ List.mem_cons_self)
  subst hsz
  subst hlv
  have hl := lv_entry As (n := maxL) hlen
  rw [lg_entry_eq]
  exact body p e s m _ below meth c (va_A wc s.heap.size) ⟨B.exec, B.bytes, hml, findClass_of_methodNamed B.named, fun w h => hts w (List.mem_cons_of_mem _ h), hK, hN, fun q h => Or.inr h⟩ hE htab B.returns B.notSynchronized s.heap [] _ hP hD0.self va_S.rf hl
theorem j_callX {p : Program} {l : Launch} {e : Env} {R : Room} {s : State} {m : MethodId} {args : Array Value} {below : List Frame} {meth : Method} {c : Code} {cc : ByteArray} {own : String} {nL : Nat} {D : DG} {tys : List (ClassId × FieldType)} {A : Nat → Prop} {cells slots : Nat} {Q : State → Prop} {ws : va_W} {pc : Nat} {lv : List (Nat × Value)} {rest st0 : List Value}
    (C : CX p R s m args meth c cc own nL D tys A) {y : MethodName} {bytes : ByteArray} {maxL ix n mc ms : Nat} {rt : Option FieldType} {hh : List (Nat × Nat × Nat × Nat)} {rm : Room} {As : List Value} {wc wr : va_W} {ret : SU → Option Value} {post : SU → Prop} {w1 : SU → va_W}
    (K : KX l D tys y bytes maxL rt hh rm mc ms As wc ret post w1) (hE : EX A s)
    (hcd : Cond.codeWith y bytes maxL rt hh ∈ WALL) (hini : Cond.initialized y.cls ∈ WALL) (hlk : Cond.methodLink own ix y ∈ WALL) (hsc : Cond.static y ∈ WALL)
    (hy : y.cls ≠ "java/lang/invoke/MethodHandle" ∧ y.cls ≠ "java/lang/invoke/VarHandle" ∧ (parseMethodDescriptor y.desc).map (fun d => d.parameters.length) = some n) (hnA : As.length = n)
    (hR : rm.cells = mc ∧ rm.slots = ms ∧ rm.frames + 1 ≤ R.frames ∧ 8 + (maxL + 11) + rm.locals ≤ R.locals) (hf : cells + mc ≤ R.cells ∧ slots + ms ≤ R.slots)
    (isC isR : List Nat) (hC : isC.map (fun i => ws[i]?) = wc.map some) (hRr : isR.map (fun i => ws[i]?) = wr.map some) (hnd : va_nd isC = true ∧ va_nd isR = true ∧ ∀ i ∈ isR, i ∉ isC)
    (hst : st0 = As.reverse ++ rest) (hrs : (rest.map fun v => v.category).sum ≤ 8) (hd : decode cc pc = .ok (.invokestatic ix, 3))
    (kk : ∀ u : SU, post u → J p l e R s m args below meth c D A nL (cells + mc) (slots + ms) Q (wr ++ w1 u) (pc + 3) lv ((ret u).toList ++ rest)) : J p l e R s m args below meth c D A nL cells slots Q ws pc lv st0 := fun H locs ls hP hD hS hl => by
  have hPc := hP.sub (ws' := wc) isC (fm_of hC)
  have hDc := hD.sub isC hnd.1 hC
  have hFc := va_free (wc := wc) hD hS C.2.2.2.2.2.2.2 isC hC
  have hts := C.2.2.2.2.1
  have hK := C.2.2.2.2.2.1
  have hG := wq_G hcd
  subst hst
  have cw : vx_CSW R s args own ix y bytes maxL rt hh (Cond.codeWith y bytes maxL rt hh :: WALL) rm mc ms n := by
    refine ⟨⟨hR.1, hR.2.1, hR.2.2.1, hR.2.2.2, pay_in hts hG, List.mem_cons_self⟩, hts _ hcd, hts _ hini, ⟨hy.1, hy.2.1⟩, fun sig h => ?_, hts _ hlk, hts _ hsc⟩
    have h2 := hy.2.2
    rw [h] at h2
    exact (Option.some.inj h2).symm
  refine call_x (vx_runSW (As := As) (rest := rest) ⟨C.1, C.2.1, C.2.2.1, C.2.2.2.1, hts⟩ (K H.size) cw ⟨preX_blind _ wc H.size, fun U hU hW => ⟨⟨rfl, by rw [hU], by rw [hU]; exact hPc, va_K.moved hW.alike hK, hDc.weaken (fun _ _ _ _ => trivial), NX.warm hW C.2.2.2.2.2.2.1.1, NL.warm hW C.2.2.2.2.2.2.1.2.1, by rw [hU]; exact ((C.2.2.2.2.2.2.1.2.2.kept hS.2.1).moved hW.alike).narrow hFc⟩, hE.down hS hU hW hFc⟩⟩ rfl hnA hl.1 rfl (lv_room hrs) hd hf) hS (fun q _ h => hFc q h) hFc (fun u t H1 locs1 ht hvm hw hB hz1 hk1 hS1 => ?_)
  obtain ⟨hP1, hK1, hD1⟩ := hB
  rw [ht] at hP1
  obtain ⟨hP2, hD2⟩ := va_join hP hD isC isR hC hRr hnd.2.1 hnd.2.2 hk1 hFc hP1 hD1
  exact kk u hw H1 locs1 ls hP2 hD2 hS1 hl
theorem wd_1048 : Cond.classLink RX10 302 "java/util/NoSuchElementException" ∈ WALL := wl_in (by decide +kernel) (by decide +kernel)
theorem wd_1049 : Cond.initialized "java/util/NoSuchElementException" ∈ WALL := wl_in (by decide +kernel) (by decide +kernel)
theorem wd_1050 : Cond.code yX7_lifts cX7_lifts 5 (some .int) ∈ WALL := wl_in (by decide +kernel) (by decide +kernel)
theorem wd_1051 : Cond.methodLink RX10 309 yX7_lifts ∈ WALL := wl_in (by decide +kernel) (by decide +kernel)
theorem wd_1052 : Cond.instanceMethod yX7_lifts ∈ WALL := wl_in (by decide +kernel) (by decide +kernel)
theorem wd_1053 : Cond.selects RX7 yX7_lifts yX7_lifts ∈ WALL := wl_in (by decide +kernel) (by decide +kernel)
theorem wd_1054 : Cond.code yX2_power cX2_power 9 none ∈ WALL := wl_in (by decide +kernel) (by decide +kernel)
theorem wd_1055 : Cond.methodLink RX10 314 yX2_power ∈ WALL := wl_in (by decide +kernel) (by decide +kernel)
theorem wd_1056 : Cond.instanceMethod yX2_power ∈ WALL := wl_in (by decide +kernel) (by decide +kernel)
theorem wd_1057 : Cond.selects RX2 yX2_power yX2_power ∈ WALL := wl_in (by decide +kernel) (by decide +kernel)
theorem wd_1058 : Cond.fieldLink RX10 318 "BowlShelf$Odds" "digits" "[J" ∈ WALL := wl_in (by decide +kernel) (by decide +kernel)
theorem dX10_whole_0 : decode cX10_whole 0 = .ok (.aload_n 0, 1) := by decide +kernel
theorem dX10_whole_1 : decode cX10_whole 1 = .ok (.getfield 19, 3) := by decide +kernel
theorem dX10_whole_4 : decode cX10_whole 4 = .ok (.iload_n 1, 1) := by decide +kernel
theorem dX10_whole_5 : decode cX10_whole 5 = .ok (.invokevirtual 112, 3) := by decide +kernel
theorem dX10_whole_8 : decode cX10_whole 8 = .ok (.ifCond .eq 12, 3) := by decide +kernel
theorem dX10_whole_11 : decode cX10_whole 11 = .ok (.iload_n 2, 1) := by decide +kernel
theorem dX10_whole_12 : decode cX10_whole 12 = .ok (.ifCond .lt 8, 3) := by decide +kernel
theorem dX10_whole_15 : decode cX10_whole 15 = .ok (.iload_n 2, 1) := by decide +kernel
theorem dX10_whole_16 : decode cX10_whole 16 = .ok (.iconst 4, 1) := by decide +kernel
theorem dX10_whole_17 : decode cX10_whole 17 = .ok (.if_icmp .le 14, 3) := by decide +kernel
theorem dX10_whole_20 : decode cX10_whole 20 = .ok (.new 302, 3) := by decide +kernel
theorem dX10_whole_23 : decode cX10_whole 23 = .ok (.dup, 1) := by decide +kernel
theorem dX10_whole_24 : decode cX10_whole 24 = .ok (.ldc_w 304, 3) := by decide +kernel
theorem dX10_whole_27 : decode cX10_whole 27 = .ok (.invokespecial 306, 3) := by decide +kernel
theorem dX10_whole_30 : decode cX10_whole 30 = .ok (.athrow, 1) := by decide +kernel
theorem dX10_whole_31 : decode cX10_whole 31 = .ok (.aload_n 0, 1) := by decide +kernel
theorem dX10_whole_32 : decode cX10_whole 32 = .ok (.getfield 26, 3) := by decide +kernel
theorem dX10_whole_35 : decode cX10_whole 35 = .ok (.iload_n 1, 1) := by decide +kernel
theorem dX10_whole_36 : decode cX10_whole 36 = .ok (.invokevirtual 309, 3) := by decide +kernel
theorem dX10_whole_39 : decode cX10_whole 39 = .ok (.istore_n 3, 1) := by decide +kernel
theorem dX10_whole_40 : decode cX10_whole 40 = .ok (.iload_n 3, 1) := by decide +kernel
theorem dX10_whole_41 : decode cX10_whole 41 = .ok (.bipush 17, 2) := by decide +kernel
theorem dX10_whole_43 : decode cX10_whole 43 = .ok (.if_icmp .le 14, 3) := by decide +kernel
theorem dX10_whole_46 : decode cX10_whole 46 = .ok (.new 302, 3) := by decide +kernel
theorem dX10_whole_49 : decode cX10_whole 49 = .ok (.dup, 1) := by decide +kernel
theorem dX10_whole_50 : decode cX10_whole 50 = .ok (.ldc_w 312, 3) := by decide +kernel
theorem dX10_whole_53 : decode cX10_whole 53 = .ok (.invokespecial 306, 3) := by decide +kernel
theorem dX10_whole_56 : decode cX10_whole 56 = .ok (.athrow, 1) := by decide +kernel
theorem dX10_whole_57 : decode cX10_whole 57 = .ok (.iload_n 2, 1) := by decide +kernel
theorem dX10_whole_58 : decode cX10_whole 58 = .ok (.iconst 4, 1) := by decide +kernel
theorem dX10_whole_59 : decode cX10_whole 59 = .ok (.if_icmp .ne 6, 3) := by decide +kernel
theorem dX10_whole_62 : decode cX10_whole 62 = .ok (.iload_n 3, 1) := by decide +kernel
theorem dX10_whole_63 : decode cX10_whole 63 = .ok (.i2l, 1) := by decide +kernel
theorem dX10_whole_64 : decode cX10_whole 64 = .ok (.lreturn, 1) := by decide +kernel
theorem dX10_whole_65 : decode cX10_whole 65 = .ok (.aload_n 0, 1) := by decide +kernel
theorem dX10_whole_66 : decode cX10_whole 66 = .ok (.getfield 68, 3) := by decide +kernel
theorem dX10_whole_69 : decode cX10_whole 69 = .ok (.bipush 100, 2) := by decide +kernel
theorem dX10_whole_71 : decode cX10_whole 71 = .ok (.aload_n 0, 1) := by decide +kernel
theorem dX10_whole_72 : decode cX10_whole 72 = .ok (.getfield 19, 3) := by decide +kernel
theorem dX10_whole_75 : decode cX10_whole 75 = .ok (.getfield 129, 3) := by decide +kernel
theorem dX10_whole_78 : decode cX10_whole 78 = .ok (.iload_n 1, 1) := by decide +kernel
theorem dX10_whole_79 : decode cX10_whole 79 = .ok (.iaload, 1) := by decide +kernel
theorem dX10_whole_80 : decode cX10_whole 80 = .ok (.isub, 1) := by decide +kernel
theorem dX10_whole_81 : decode cX10_whole 81 = .ok (.iload_n 3, 1) := by decide +kernel
theorem dX10_whole_82 : decode cX10_whole 82 = .ok (.invokevirtual 314, 3) := by decide +kernel
theorem dX10_whole_85 : decode cX10_whole 85 = .ok (.aload_n 0, 1) := by decide +kernel
theorem dX10_whole_86 : decode cX10_whole 86 = .ok (.getfield 68, 3) := by decide +kernel
theorem dX10_whole_89 : decode cX10_whole 89 = .ok (.getfield 318, 3) := by decide +kernel
theorem dX10_whole_92 : decode cX10_whole 92 = .ok (.iload_n 2, 1) := by decide +kernel
theorem dX10_whole_93 : decode cX10_whole 93 = .ok (.laload, 1) := by decide +kernel
theorem dX10_whole_94 : decode cX10_whole 94 = .ok (.lreturn, 1) := by decide +kernel
set_option maxHeartbeats 4000000 in
set_option maxRecDepth 100000 in
theorem c_X2_power_b (l : Launch) (D : DG) (cyC cyI cyJ cyZ cyO : ClassId) (d0 : Nat) (d1 : Nat) (p0 : Int32) (p1 : Int32) (d_digits : Nat → Int64) (h_p1 : -2147483648 ≤ (p1).toInt ∧ (p1).toInt ≤ 17) : KK l D (TY cyC cyI cyJ cyZ cyO) yX2_power cX2_power 9 none ({ frames := 1, cells := 0, slots := 0, locals := 24 } : Room) 0 0 [.ref d0, .int p0, .int p1] [(d0, .inr (2, [.ref d1])), (d1, .inl (cyJ, 4, .inr (.inl d_digits)))] (fun u => none) (fun u => True) (fun u => [(d0, .inr (2, [.ref d1])), (d1, .inl (cyJ, 4, .inr (.inl (u.2.2.2 0))))]) := by
  refine KK.of (lv0 := [(0, .ref d0), (1, .int p0), (2, .int p1)]) (by decide) rfl (Nat.le_of_ble_eq_true rfl) ?_
  intro p e s m args below meth c A C hr hk hin
  refine j_aload_n (pc := 0) C dX2_power_0 rfl 0 rfl ?_
  refine j_get (pc := 1) (ci := 2) (v := .ref d1) C inw_2 0 rfl rfl 0 (by decide) wd_148 rfl rfl dX2_power_1 ?_
  refine j_lconst (pc := 4) (v := 0) C dX2_power_4 rfl ?_
  refine j_callS (pc := 5) (As := [.ref d1, .long 0]) (rest := []) (wr := [(d0, .inr (2, [.ref d1]))]) C (c_J7_fill_d0a16 l D cyC cyI cyJ cyZ cyO d1 0 d_digits) wd_149 wd_51 wd_150 wd_151 ⟨by decide, by decide, rfl⟩ rfl ⟨rfl, rfl, by decide, by decide⟩ ⟨by decide, by decide⟩ [1] [0] rfl rfl ⟨by decide, by decide, by decide⟩ rfl (Nat.le_of_ble_eq_true rfl) dX2_power_5 (fun u_1 hw_2 => ?_)
  refine j_eq (ws2 := [(d0, .inr (2, [.ref d1])), (d1, .inl (cyJ, 4, .inr (.inl (u_1.2.2.2 0))))]) (pc2 := 8) (lv2 := [(0, .ref d0), (1, .int p0), (2, .int p1)]) (st2 := []) rfl rfl rfl rfl ?_
  refine j_aload_n (pc := 8) C dX2_power_8 rfl 0 rfl ?_
  refine j_get (pc := 9) (ci := 2) (v := .ref d1) C inw_2 0 rfl rfl 0 (by decide) wd_148 rfl rfl dX2_power_9 ?_
  refine j_iconst (pc := 12) (v := 0) C dX2_power_12 (by decide) ?_
  refine j_lconst (pc := 13) (v := 1) C dX2_power_13 rfl ?_
  obtain ⟨f_3, ef_3⟩ : ∃ z, z = vp_updL (u_1.2.2.2 0) 0 1 := ⟨_, rfl⟩
  refine j_last (pc := 14) (k := 0) (ws' := [(d0, .inr (2, [.ref d1])), (d1, .inl (cyJ, 4, .inr (.inl f_3)))]) C 1 2 rfl rfl (by decide) (by decide) (by decide) dX2_power_14 (by rw [ef_3]; rfl) ?_
  refine j_iconst (pc := 15) (v := 0) C dX2_power_15 (by decide) ?_
  refine j_istore_n (pc := 16) (lv' := [(3, .int 0), (0, .ref d0), (1, .int p0), (2, .int p1)]) C dX2_power_16 rfl (by decide) rfl ?_
  have loop_4 : ∀ (k_4 : Nat) (x4_3 : Int32) (g4_d1 : Nat → Int64), (0 ≤ (x4_3).toInt ∧ (x4_3).toInt ≤ 17) → (17 - x4_3.toInt).toNat < k_4 → J p l e ({ frames := 1, cells := 0, slots := 0, locals := 24 } : Room) s m args below meth c D A 9 0 0 (QX below D (TY cyC cyI cyJ cyZ cyO) A (fun u => none) (fun u => True) (fun u => [(d0, .inr (2, [.ref d1])), (d1, .inl (cyJ, 4, .inr (.inl (u.2.2.2 0))))]) args s 0 0) [(d0, .inr (2, [.ref d1])), (d1, .inl (cyJ, 4, .inr (.inl g4_d1)))] 17 [(3, .int x4_3), (0, .ref d0), (1, .int p0), (2, .int p1)] [] := by
    intro k_4
    induction k_4 with
    | zero =>
      intro x4_3 g4_d1 hi_4_0 hm_4
      exact absurd hm_4 (Nat.not_lt_zero _)
    | succ k_4 ih_4 =>
      intro x4_3 g4_d1 hi_4_0 hm_4
      refine j_iload_n (pc := 17) C dX2_power_17 rfl 0 rfl ?_
      refine j_iload_n (pc := 18) C dX2_power_18 rfl 3 rfl ?_
      refine j_icmp_ge (pc := 19) (tgt := 82) C dX2_power_19 (by decide) (fun c_5 => ?_) (fun c_5 => ?_)
      · skip
        rw [i_le] at c_5
        exact j_vret (pc := 82) C hr hk (fun i => [].getD i 0, fun i => [].getD i 0, fun i => [].getD i (fun _ => 0), fun i => [g4_d1].getD i (fun _ => 0)) rfl trivial [0, 1] (by decide) rfl (by decide) (by decide) dX2_power_82
      · skip
        rw [i_le] at c_5
        refine j_lconst (pc := 22) (v := 0) C dX2_power_22 rfl ?_
        refine j_lstore (pc := 23) (lv' := [(4, .long 0), (3, .int x4_3), (0, .ref d0), (1, .int p0), (2, .int p1)]) C dX2_power_23 (by decide) rfl ?_
        refine j_iconst (pc := 25) (v := 0) C dX2_power_25 (by decide) ?_
        refine j_istore (pc := 26) (lv' := [(6, .int 0), (4, .long 0), (3, .int x4_3), (0, .ref d0), (1, .int p0), (2, .int p1)]) C dX2_power_26 (by decide) rfl ?_
        have loop_6 : ∀ (k_6 : Nat) (x6_6 : Int32) (x6_4 : Int64) (g6_d1 : Nat → Int64), (0 ≤ (x6_6).toInt ∧ (x6_6).toInt ≤ 4) → (4 - x6_6.toInt).toNat < k_6 → J p l e ({ frames := 1, cells := 0, slots := 0, locals := 24 } : Room) s m args below meth c D A 9 0 0 (QX below D (TY cyC cyI cyJ cyZ cyO) A (fun u => none) (fun u => True) (fun u => [(d0, .inr (2, [.ref d1])), (d1, .inl (cyJ, 4, .inr (.inl (u.2.2.2 0))))]) args s 0 0) [(d0, .inr (2, [.ref d1])), (d1, .inl (cyJ, 4, .inr (.inl g6_d1)))] 28 [(6, .int x6_6), (4, .long x6_4), (3, .int x4_3), (0, .ref d0), (1, .int p0), (2, .int p1)] [] := by
          intro k_6
          induction k_6 with
          | zero =>
            intro x6_6 x6_4 g6_d1 hi_6_0 hm_6
            exact absurd hm_6 (Nat.not_lt_zero _)
          | succ k_6 ih_6 =>
            intro x6_6 x6_4 g6_d1 hi_6_0 hm_6
            refine j_iload (pc := 28) C dX2_power_28 0 rfl ?_
            refine j_iconst (pc := 30) (v := 4) C dX2_power_30 (by decide) ?_
            refine j_icmp_ge (pc := 31) (tgt := 76) C dX2_power_31 (by decide) (fun c_7 => ?_) (fun c_7 => ?_)
            · skip
              have el_4 : (4 : Int32).toInt = 4 := rfl
              rw [i_le] at c_7
              have k0c_7 : x6_6.toInt = 4 := by omega
              obtain ⟨v_8, ev_8⟩ : ∃ z : Int32, x4_3 + 1 = z := ⟨_, rfl⟩
              have el_1 : (1 : Int32).toInt = 1 := rfl
              have hv_8 : v_8.toInt = x4_3.toInt + (1 : Int32).toInt := by rw [← ev_8]; exact fb_addI (by omega) (by omega)
              refine j_iinc (pc := 76) (v := v_8) (lv' := [(3, .int v_8), (6, .int x6_6), (4, .long x6_4), (0, .ref d0), (1, .int p0), (2, .int p1)]) C dX2_power_76 2 rfl ev_8 (by decide) rfl ?_
              refine j_goto (pc := 79) (tgt := 17) C dX2_power_79 (by decide) ?_
              exact j_lv [0, 3, 4, 5] rfl (ih_4 v_8 g6_d1 (by omega) (by omega))
            · skip
              have el_4 : (4 : Int32).toInt = 4 := rfl
              rw [i_le] at c_7
              refine j_aload_n (pc := 34) C dX2_power_34 rfl 3 rfl ?_
              refine j_get (pc := 35) (ci := 2) (v := .ref d1) C inw_2 0 rfl rfl 0 (by decide) wd_148 rfl rfl dX2_power_35 ?_
              refine j_iload (pc := 38) C dX2_power_38 0 rfl ?_
              obtain ⟨v_9, ev_9⟩ : ∃ z, g6_d1 (x6_6).toInt.toNat = z := ⟨_, rfl⟩
              refine j_lald (pc := 40) (v := v_9) (k := (x6_6).toInt.toNat) C 1 2 rfl rfl (i_nn hi_6_0.1) rfl (i_lt_n hi_6_0.1 (by omega)) ev_9 dX2_power_40 ?_
              refine j_iload_n (pc := 41) C dX2_power_41 rfl 4 rfl ?_
              refine j_i2l (pc := 42) C dX2_power_42 rfl ?_
              refine j_lmul (pc := 43) C dX2_power_43 rfl ?_
              refine j_lload (pc := 44) C dX2_power_44 1 rfl ?_
              refine j_ladd (pc := 46) C dX2_power_46 rfl ?_
              refine j_lstore (pc := 47) (lv' := [(7, .long ((v_9 * (p0).toInt64) + x6_4)), (6, .int x6_6), (4, .long x6_4), (3, .int x4_3), (0, .ref d0), (1, .int p0), (2, .int p1)]) C dX2_power_47 (by decide) rfl ?_
              refine j_aload_n (pc := 49) C dX2_power_49 rfl 4 rfl ?_
              refine j_get (pc := 50) (ci := 2) (v := .ref d1) C inw_2 0 rfl rfl 0 (by decide) wd_148 rfl rfl dX2_power_50 ?_
              refine j_iload (pc := 53) C dX2_power_53 1 rfl ?_
              refine j_lload (pc := 55) C dX2_power_55 0 rfl ?_
              refine j_ldc2 (pc := 57) C wd_152 dX2_power_57 ?_
              obtain ⟨v_10, ev_10⟩ : ∃ z : Int64, ((v_9 * (p0).toInt64) + x6_4) - ((v_9 * (p0).toInt64) + x6_4) / 1000000000 * 1000000000 = z := ⟨_, rfl⟩
              refine j_lrem (pc := 60) (v := v_10) C dX2_power_60 (by decide) ev_10 ?_
              obtain ⟨f_11, ef_11⟩ : ∃ z, z = vp_updL g6_d1 (x6_6).toInt.toNat v_10 := ⟨_, rfl⟩
              refine j_last (pc := 61) (k := (x6_6).toInt.toNat) (ws' := [(d0, .inr (2, [.ref d1])), (d1, .inl (cyJ, 4, .inr (.inl f_11)))]) C 1 2 rfl rfl (i_nn hi_6_0.1) rfl (i_lt_n hi_6_0.1 (by omega)) dX2_power_61 (by rw [ef_11]; rfl) ?_
              refine j_lload (pc := 62) C dX2_power_62 0 rfl ?_
              refine j_ldc2 (pc := 64) C wd_152 dX2_power_64 ?_
              obtain ⟨v_12, ev_12⟩ : ∃ z : Int64, ((v_9 * (p0).toInt64) + x6_4) / 1000000000 = z := ⟨_, rfl⟩
              refine j_ldiv (pc := 67) (v := v_12) C dX2_power_67 (by decide) ev_12 ?_
              refine j_lstore (pc := 68) (lv' := [(4, .long v_12), (7, .long ((v_9 * (p0).toInt64) + x6_4)), (6, .int x6_6), (3, .int x4_3), (0, .ref d0), (1, .int p0), (2, .int p1)]) C dX2_power_68 (by decide) rfl ?_
              obtain ⟨v_13, ev_13⟩ : ∃ z : Int32, x6_6 + 1 = z := ⟨_, rfl⟩
              have el_1 : (1 : Int32).toInt = 1 := rfl
              have hv_13 : v_13.toInt = x6_6.toInt + (1 : Int32).toInt := by rw [← ev_13]; exact fb_addI (by omega) (by omega)
              refine j_iinc (pc := 70) (v := v_13) (lv' := [(6, .int v_13), (4, .long v_12), (7, .long ((v_9 * (p0).toInt64) + x6_4)), (3, .int x4_3), (0, .ref d0), (1, .int p0), (2, .int p1)]) C dX2_power_70 2 rfl ev_13 (by decide) rfl ?_
              refine j_goto (pc := 73) (tgt := 28) C dX2_power_73 (by decide) ?_
              exact j_lv [0, 1, 3, 4, 5, 6] rfl (ih_6 v_13 v_12 f_11 (by omega) (by omega))
        have el_0 : (0 : Int32).toInt = 0 := rfl
        have el_0 : (0 : Int32).toInt = 0 := rfl
        exact j_lv [0, 1, 2, 3, 4, 5] rfl (loop_6 4096 0 0 g4_d1 (by decide) (by omega))
  have el_0 : (0 : Int32).toInt = 0 := rfl
  exact j_lv [0, 1, 2, 3] rfl (loop_4 4096 0 f_3 (by decide) (by omega))
set_option maxHeartbeats 4000000 in
set_option maxRecDepth 100000 in
theorem c_X10_whole (l : Launch) (htr : l.stackTraces = false) (D : DG) (cyC cyI cyJ cyZ cyO : ClassId) (x0 : Nat) (a0 : Nat) (a5 : Nat) (n0 : Nat) (n1 : Nat) (n2 : Nat) (n3 : Nat) (n4 : Nat) (d0 : Nat) (d1 : Nat) (r0 : Nat) (k0 : Nat) (x1 : Nat) (q0 : Nat) (o0 : Nat) (h0 : Nat) (s0 : Nat) (a1 : Nat) (a2 : Nat) (a3 : Nat) (a4 : Nat) (a6 : Nat) (a7 : Nat) (a8 : Nat) (a9 : Nat) (a10 : Nat) (p0 : Int32) (p1 : Int32) (a_wares : Int32) (a_shelves : Int32) (a_nests : Int32) (a_lids : Int32) (a_tops : Int32) (n_askings : Int32) (n_cost : Int32) (n_laid : Int32) (a_breaks : Nat → Int32) (n_shelf : Nat → Int32) (n_stack : Nat → Int32) (n_level : Nat → Int32) (n_asking : Nat → Int32) (d_digits : Nat → Int64) (h_a_wares : 0 ≤ (a_wares).toInt ∧ (a_wares).toInt ≤ 12) (h_a_shelves : 0 ≤ (a_shelves).toInt ∧ (a_shelves).toInt ≤ 4) (h_a_nests : 0 ≤ (a_nests).toInt ∧ (a_nests).toInt ≤ 4) (h_n_askings : 0 ≤ (n_askings).toInt ∧ (n_askings).toInt ≤ 30) (h_n_laid : 0 ≤ (n_laid).toInt ∧ (n_laid).toInt ≤ 1) (h_n_shelf : Iv 12 (-1) (3) n_shelf) (h_n_stack : Iv 12 (0) (7) n_stack) (h_n_level : Iv 12 (0) (11) n_level) (h_n_asking : Iv 30 (0) (11) n_asking) : KY l D (TY cyC cyI cyJ cyZ cyO) yX10_whole cX10_whole 4 (some .long) ({ frames := 6, cells := 1, slots := 6, locals := 90 } : Room) 1 6 [.ref x0, .int p0, .int p1] [(x0, .inr (10, [.ref r0, .ref a0, .ref n0, .ref k0, .ref x1, .ref q0, .ref o0, .ref h0, .ref s0, .ref d0])), (a0, .inr (9, [.int a_wares, .int a_shelves, .int a_nests, .ref a1, .ref a2, .ref a3, .ref a4, .ref a5, .ref a6, .int a_lids, .int a_tops, .ref a7, .ref a8, .ref a9, .ref a10])), (a5, .inl (cyI, 12, .inl a_breaks)), (n0, .inr (7, [.ref n1, .ref n2, .ref n3, .ref n4, .int n_askings, .int n_cost, .int n_laid])), (n1, .inl (cyI, 12, .inl n_shelf)), (n2, .inl (cyI, 12, .inl n_stack)), (n3, .inl (cyI, 12, .inl n_level)), (n4, .inl (cyI, 30, .inl n_asking)), (d0, .inr (2, [.ref d1])), (d1, .inl (cyJ, 4, .inr (.inl d_digits)))] (fun u => some (.long (u.2.2.2 0 0))) (fun u => True) (fun u => [(x0, .inr (10, [.ref r0, .ref a0, .ref n0, .ref k0, .ref x1, .ref q0, .ref o0, .ref h0, .ref s0, .ref d0])), (a0, .inr (9, [.int a_wares, .int a_shelves, .int a_nests, .ref a1, .ref a2, .ref a3, .ref a4, .ref a5, .ref a6, .int a_lids, .int a_tops, .ref a7, .ref a8, .ref a9, .ref a10])), (a5, .inl (cyI, 12, .inl a_breaks)), (n0, .inr (7, [.ref n1, .ref n2, .ref n3, .ref n4, .int n_askings, .int n_cost, .int n_laid])), (n1, .inl (cyI, 12, .inl n_shelf)), (n2, .inl (cyI, 12, .inl n_stack)), (n3, .inl (cyI, 12, .inl n_level)), (n4, .inl (cyI, 30, .inl n_asking)), (d0, .inr (2, [.ref d1])), (d1, .inl (cyJ, 4, .inr (.inl (u.2.2.2 1))))]) := by
  refine KY.of (lv0 := [(0, .ref x0), (1, .int p0), (2, .int p1)]) (by decide) rfl (Nat.le_of_ble_eq_true rfl) ?_
  intro p e s m args below meth c A C hE htab hr hk
  refine j_aload_n (pc := 0) C dX10_whole_0 rfl 0 rfl ?_
  refine j_get (pc := 1) (ci := 10) (v := .ref a0) C inw_10 0 rfl rfl 1 (by decide) wd_447 rfl rfl dX10_whole_1 ?_
  refine j_iload_n (pc := 4) C dX10_whole_4 rfl 1 rfl ?_
  refine j_callV (pc := 5) (As := [.int p0]) (rest := []) (wr := [(x0, .inr (10, [.ref r0, .ref a0, .ref n0, .ref k0, .ref x1, .ref q0, .ref o0, .ref h0, .ref s0, .ref d0])), (a5, .inl (cyI, 12, .inl a_breaks)), (n0, .inr (7, [.ref n1, .ref n2, .ref n3, .ref n4, .int n_askings, .int n_cost, .int n_laid])), (n1, .inl (cyI, 12, .inl n_shelf)), (n2, .inl (cyI, 12, .inl n_stack)), (n3, .inl (cyI, 12, .inl n_level)), (n4, .inl (cyI, 30, .inl n_asking)), (d0, .inr (2, [.ref d1])), (d1, .inl (cyJ, 4, .inr (.inl d_digits)))]) C (c_X9_isWare l D cyC cyI cyJ cyZ cyO a0 a1 a2 a3 a4 a5 a6 a7 a8 a9 a10 p0 a_wares a_shelves a_nests a_lids a_tops h_a_wares h_a_shelves h_a_nests) wd_467 wd_33 wd_468 wd_469 wd_470 ⟨by decide, by decide, rfl⟩ rfl ⟨rfl, rfl, by decide, by decide⟩ ⟨by decide, by decide⟩ [1] [0, 2, 3, 4, 5, 6, 7, 8, 9] rfl rfl ⟨by decide, by decide, by decide⟩ 1 rfl rfl rfl (Nat.le_of_ble_eq_true rfl) dX10_whole_5 (fun u_1 hw_2 => ?_)
  refine j_eq (ws2 := [(x0, .inr (10, [.ref r0, .ref a0, .ref n0, .ref k0, .ref x1, .ref q0, .ref o0, .ref h0, .ref s0, .ref d0])), (a5, .inl (cyI, 12, .inl a_breaks)), (n0, .inr (7, [.ref n1, .ref n2, .ref n3, .ref n4, .int n_askings, .int n_cost, .int n_laid])), (n1, .inl (cyI, 12, .inl n_shelf)), (n2, .inl (cyI, 12, .inl n_stack)), (n3, .inl (cyI, 12, .inl n_level)), (n4, .inl (cyI, 30, .inl n_asking)), (d0, .inr (2, [.ref d1])), (d1, .inl (cyJ, 4, .inr (.inl d_digits))), (a0, .inr (9, [.int a_wares, .int a_shelves, .int a_nests, .ref a1, .ref a2, .ref a3, .ref a4, .ref a5, .ref a6, .int a_lids, .int a_tops, .ref a7, .ref a8, .ref a9, .ref a10]))]) (pc2 := 8) (lv2 := [(0, .ref x0), (1, .int p0), (2, .int p1)]) (st2 := [.int (u_1.2.1 0)]) rfl rfl rfl rfl ?_
  obtain ⟨hw_2_0, hw_2_1, hw_2_2⟩ := hw_2
  refine j_if_eq (pc := 8) (tgt := 20) C dX10_whole_8 (by decide) (fun c_3 => ?_) (fun c_3 => ?_)
  · skip
    have el_0 : (0 : Int32).toInt = 0 := rfl
    rw [i_eq] at c_3
    exact j_throw (pc := 20) (is := 304) (i := 0) C htr hE htab hk wd_1048 wd_1049 (by decide) rfl dX10_whole_20 dX10_whole_23 dX10_whole_24 dX10_whole_27 dX10_whole_30 [0, 9, 1, 2, 3, 4, 5, 6, 7, 8] (by decide) rfl (by decide) (Nat.le_of_ble_eq_true rfl) (by decide) (by decide) (by decide) (by decide)
  · skip
    have el_0 : (0 : Int32).toInt = 0 := rfl
    rw [i_eq] at c_3
    have k0c_3 : ((u_1.2.1 0)).toInt = 1 := by omega
    refine j_iload_n (pc := 11) C dX10_whole_11 rfl 2 rfl ?_
    refine j_if_lt (pc := 12) (tgt := 20) C dX10_whole_12 (by decide) (fun c_4 => ?_) (fun c_4 => ?_)
    · skip
      have el_0 : (0 : Int32).toInt = 0 := rfl
      rw [i_lt] at c_4
      exact j_throw (pc := 20) (is := 304) (i := 0) C htr hE htab hk wd_1048 wd_1049 (by decide) rfl dX10_whole_20 dX10_whole_23 dX10_whole_24 dX10_whole_27 dX10_whole_30 [0, 9, 1, 2, 3, 4, 5, 6, 7, 8] (by decide) rfl (by decide) (Nat.le_of_ble_eq_true rfl) (by decide) (by decide) (by decide) (by decide)
    · skip
      have el_0 : (0 : Int32).toInt = 0 := rfl
      rw [i_lt] at c_4
      refine j_iload_n (pc := 15) C dX10_whole_15 rfl 2 rfl ?_
      refine j_iconst (pc := 16) (v := 4) C dX10_whole_16 (by decide) ?_
      refine j_icmp_le (pc := 17) (tgt := 31) C dX10_whole_17 (by decide) (fun c_5 => ?_) (fun c_5 => ?_)
      · skip
        have el_4 : (4 : Int32).toInt = 4 := rfl
        rw [i_le] at c_5
        refine j_aload_n (pc := 31) C dX10_whole_31 rfl 0 rfl ?_
        refine j_get (pc := 32) (ci := 10) (v := .ref n0) C inw_10 0 rfl rfl 2 (by decide) wd_466 rfl rfl dX10_whole_32 ?_
        refine j_iload_n (pc := 35) C dX10_whole_35 rfl 1 rfl ?_
        refine j_callV (pc := 36) (As := [.int p0]) (rest := []) (wr := [(x0, .inr (10, [.ref r0, .ref a0, .ref n0, .ref k0, .ref x1, .ref q0, .ref o0, .ref h0, .ref s0, .ref d0])), (a5, .inl (cyI, 12, .inl a_breaks)), (d0, .inr (2, [.ref d1])), (d1, .inl (cyJ, 4, .inr (.inl d_digits))), (a0, .inr (9, [.int a_wares, .int a_shelves, .int a_nests, .ref a1, .ref a2, .ref a3, .ref a4, .ref a5, .ref a6, .int a_lids, .int a_tops, .ref a7, .ref a8, .ref a9, .ref a10]))]) C (c_X7_lifts l D cyC cyI cyJ cyZ cyO n0 n1 n2 n3 n4 p0 n_askings n_cost n_laid n_shelf n_stack n_level n_asking h_n_askings h_n_laid (by omega) h_n_shelf h_n_stack h_n_level h_n_asking) wd_1050 wd_9 wd_1051 wd_1052 wd_1053 ⟨by decide, by decide, rfl⟩ rfl ⟨rfl, rfl, by decide, by decide⟩ ⟨by decide, by decide⟩ [2, 3, 4, 5, 6] [0, 1, 7, 8, 9] rfl rfl ⟨by decide, by decide, by decide⟩ 2 rfl rfl rfl (Nat.le_of_ble_eq_true rfl) dX10_whole_36 (fun u_6 hw_7 => ?_)
        refine j_eq (ws2 := [(x0, .inr (10, [.ref r0, .ref a0, .ref n0, .ref k0, .ref x1, .ref q0, .ref o0, .ref h0, .ref s0, .ref d0])), (a5, .inl (cyI, 12, .inl a_breaks)), (d0, .inr (2, [.ref d1])), (d1, .inl (cyJ, 4, .inr (.inl d_digits))), (a0, .inr (9, [.int a_wares, .int a_shelves, .int a_nests, .ref a1, .ref a2, .ref a3, .ref a4, .ref a5, .ref a6, .int a_lids, .int a_tops, .ref a7, .ref a8, .ref a9, .ref a10])), (n0, .inr (7, [.ref n1, .ref n2, .ref n3, .ref n4, .int n_askings, .int n_cost, .int n_laid])), (n1, .inl (cyI, 12, .inl n_shelf)), (n2, .inl (cyI, 12, .inl n_stack)), (n3, .inl (cyI, 12, .inl n_level)), (n4, .inl (cyI, 30, .inl n_asking))]) (pc2 := 39) (lv2 := [(0, .ref x0), (1, .int p0), (2, .int p1)]) (st2 := [.int (u_6.2.1 0)]) rfl rfl rfl rfl ?_
        refine j_istore_n (pc := 39) (lv' := [(3, .int (u_6.2.1 0)), (0, .ref x0), (1, .int p0), (2, .int p1)]) C dX10_whole_39 rfl (by decide) rfl ?_
        refine j_iload_n (pc := 40) C dX10_whole_40 rfl 0 rfl ?_
        refine j_bipush (pc := 41) (v := 17) C dX10_whole_41 (by decide) ?_
        refine j_icmp_le (pc := 43) (tgt := 57) C dX10_whole_43 (by decide) (fun c_8 => ?_) (fun c_8 => ?_)
        · skip
          have el_17 : (17 : Int32).toInt = 17 := rfl
          rw [i_le] at c_8
          refine j_iload_n (pc := 57) C dX10_whole_57 rfl 3 rfl ?_
          refine j_iconst (pc := 58) (v := 4) C dX10_whole_58 (by decide) ?_
          refine j_icmp_ne (pc := 59) (tgt := 65) C dX10_whole_59 (by decide) (fun c_9 => ?_) (fun c_9 => ?_)
          · skip
            have el_4 : (4 : Int32).toInt = 4 := rfl
            rw [i_eq] at c_9
            refine j_aload_n (pc := 65) C dX10_whole_65 rfl 1 rfl ?_
            refine j_get (pc := 66) (ci := 10) (v := .ref d0) C inw_10 0 rfl rfl 9 (by decide) wd_1021 rfl rfl dX10_whole_66 ?_
            refine j_bipush (pc := 69) (v := 100) C dX10_whole_69 (by decide) ?_
            refine j_aload_n (pc := 71) C dX10_whole_71 rfl 1 rfl ?_
            refine j_get (pc := 72) (ci := 10) (v := .ref a0) C inw_10 0 rfl rfl 1 (by decide) wd_447 rfl rfl dX10_whole_72 ?_
            refine j_get (pc := 75) (ci := 9) (v := .ref a5) C inw_9 4 rfl rfl 7 (by decide) wd_475 rfl rfl dX10_whole_75 ?_
            refine j_iload_n (pc := 78) C dX10_whole_78 rfl 2 rfl ?_
            obtain ⟨v_10, ev_10⟩ : ∃ z, a_breaks (p0).toInt.toNat = z := ⟨_, rfl⟩
            have env_10 : (a_breaks (p0).toInt.toNat).toInt = v_10.toInt := by rw [ev_10]
            refine j_iald (pc := 79) (v := v_10) (k := (p0).toInt.toNat) C 1 1 rfl rfl (i_nn (by omega)) rfl (i_lt_n (by omega) (by omega)) ev_10 dX10_whole_79 ?_
            obtain ⟨v_11, ev_11⟩ : ∃ z : Int32, 100 - v_10 = z := ⟨_, rfl⟩
            have el_100 : (100 : Int32).toInt = 100 := rfl
            refine j_isub (pc := 80) (v := v_11) C dX10_whole_80 ev_11 ?_
            refine j_iload_n (pc := 81) C dX10_whole_81 rfl 0 rfl ?_
            have hb9 := i_bd (u_6.2.1 0)
            refine j_callV (pc := 82) (As := [.int v_11, .int (u_6.2.1 0)]) (rest := []) (wr := [(x0, .inr (10, [.ref r0, .ref a0, .ref n0, .ref k0, .ref x1, .ref q0, .ref o0, .ref h0, .ref s0, .ref d0])), (a5, .inl (cyI, 12, .inl a_breaks)), (a0, .inr (9, [.int a_wares, .int a_shelves, .int a_nests, .ref a1, .ref a2, .ref a3, .ref a4, .ref a5, .ref a6, .int a_lids, .int a_tops, .ref a7, .ref a8, .ref a9, .ref a10])), (n0, .inr (7, [.ref n1, .ref n2, .ref n3, .ref n4, .int n_askings, .int n_cost, .int n_laid])), (n1, .inl (cyI, 12, .inl n_shelf)), (n2, .inl (cyI, 12, .inl n_stack)), (n3, .inl (cyI, 12, .inl n_level)), (n4, .inl (cyI, 30, .inl n_asking))]) C (c_X2_power_b l D cyC cyI cyJ cyZ cyO d0 d1 v_11 (u_6.2.1 0) d_digits (by omega)) wd_1054 wd_1018 wd_1055 wd_1056 wd_1057 ⟨by decide, by decide, rfl⟩ rfl ⟨rfl, rfl, by decide, by decide⟩ ⟨by decide, by decide⟩ [2, 3] [0, 1, 4, 5, 6, 7, 8, 9] rfl rfl ⟨by decide, by decide, by decide⟩ 2 rfl rfl rfl (Nat.le_of_ble_eq_true rfl) dX10_whole_82 (fun u_12 hw_13 => ?_)
            refine j_eq (ws2 := [(x0, .inr (10, [.ref r0, .ref a0, .ref n0, .ref k0, .ref x1, .ref q0, .ref o0, .ref h0, .ref s0, .ref d0])), (a5, .inl (cyI, 12, .inl a_breaks)), (a0, .inr (9, [.int a_wares, .int a_shelves, .int a_nests, .ref a1, .ref a2, .ref a3, .ref a4, .ref a5, .ref a6, .int a_lids, .int a_tops, .ref a7, .ref a8, .ref a9, .ref a10])), (n0, .inr (7, [.ref n1, .ref n2, .ref n3, .ref n4, .int n_askings, .int n_cost, .int n_laid])), (n1, .inl (cyI, 12, .inl n_shelf)), (n2, .inl (cyI, 12, .inl n_stack)), (n3, .inl (cyI, 12, .inl n_level)), (n4, .inl (cyI, 30, .inl n_asking)), (d0, .inr (2, [.ref d1])), (d1, .inl (cyJ, 4, .inr (.inl (u_12.2.2.2 0))))]) (pc2 := 85) (lv2 := [(3, .int (u_6.2.1 0)), (0, .ref x0), (1, .int p0), (2, .int p1)]) (st2 := []) rfl rfl rfl rfl ?_
            refine j_aload_n (pc := 85) C dX10_whole_85 rfl 1 rfl ?_
            refine j_get (pc := 86) (ci := 10) (v := .ref d0) C inw_10 0 rfl rfl 9 (by decide) wd_1021 rfl rfl dX10_whole_86 ?_
            refine j_get (pc := 89) (ci := 2) (v := .ref d1) C inw_2 8 rfl rfl 0 (by decide) wd_1058 rfl rfl dX10_whole_89 ?_
            refine j_iload_n (pc := 92) C dX10_whole_92 rfl 3 rfl ?_
            obtain ⟨v_14, ev_14⟩ : ∃ z, (u_12.2.2.2 0) (p1).toInt.toNat = z := ⟨_, rfl⟩
            refine j_lald (pc := 93) (v := v_14) (k := (p1).toInt.toNat) C 9 2 rfl rfl (i_nn (by omega)) rfl (i_lt_n (by omega) (by omega)) ev_14 dX10_whole_93 ?_
            exact j_vx (j_lret (pc := 94) C hr hk (fun i => [].getD i 0, fun i => [].getD i 0, fun i => [].getD i (fun _ => 0), fun i => [(fun _ => v_14), (u_12.2.2.2 0)].getD i (fun _ => 0)) rfl trivial [0, 2, 1, 3, 4, 5, 6, 7, 8, 9] (by decide) rfl (by decide) (by decide) dX10_whole_94)
          · skip
            have el_4 : (4 : Int32).toInt = 4 := rfl
            rw [i_eq] at c_9
            refine j_iload_n (pc := 62) C dX10_whole_62 rfl 0 rfl ?_
            refine j_i2l (pc := 63) C dX10_whole_63 rfl ?_
            exact j_vx (j_lret (pc := 64) C hr hk (fun i => [].getD i 0, fun i => [].getD i 0, fun i => [].getD i (fun _ => 0), fun i => [(fun _ => ((u_6.2.1 0)).toInt64), d_digits].getD i (fun _ => 0)) rfl trivial [0, 4, 1, 5, 6, 7, 8, 9, 2, 3] (by decide) rfl (by decide) (by decide) dX10_whole_64)
        · skip
          have el_17 : (17 : Int32).toInt = 17 := rfl
          rw [i_le] at c_8
          exact j_throw (pc := 46) (is := 312) (i := 1) C htr hE htab hk wd_1048 wd_1049 (by decide) rfl dX10_whole_46 dX10_whole_49 dX10_whole_50 dX10_whole_53 dX10_whole_56 [0, 4, 1, 5, 6, 7, 8, 9, 2, 3] (by decide) rfl (by decide) (Nat.le_of_ble_eq_true rfl) (by decide) (by decide) (by decide) (by decide)
      · skip
        have el_4 : (4 : Int32).toInt = 4 := rfl
        rw [i_le] at c_5
        exact j_throw (pc := 20) (is := 304) (i := 0) C htr hE htab hk wd_1048 wd_1049 (by decide) rfl dX10_whole_20 dX10_whole_23 dX10_whole_24 dX10_whole_27 dX10_whole_30 [0, 9, 1, 2, 3, 4, 5, 6, 7, 8] (by decide) rfl (by decide) (Nat.le_of_ble_eq_true rfl) (by decide) (by decide) (by decide) (by decide)

/-- what is told of the shelves is the same -/
def TSH (s : Int) (ht rc rm t : Nat → Int32) : Prop := s = (t 1).toInt ∧ ∀ j : Nat, (j : Int) < s → (ht j).toInt = (t (99 + 3 * j)).toInt ∧ (rc j).toInt = (t (99 + 3 * j + 1)).toInt ∧ (rm j).toInt = (t (99 + 3 * j + 2)).toInt
theorem TD.wt {w : Int} {wd dp wt br bk hb : Nat → Int32} {lids tops : Int32} {t : Nat → Int32} (h : TD w wd dp wt br bk hb lids tops t) {j : Nat} (hj : (j : Int) < w) : wt j = wtM t j := (i_eq _ _).mpr (h.2 j hj).2.2.1
theorem TD.br {w : Int} {wd dp wt br bk hb : Nat → Int32} {lids tops : Int32} {t : Nat → Int32} (h : TD w wd dp wt br bk hb lids tops t) {j : Nat} (hj : (j : Int) < w) : br j = brM t j := (i_eq _ _).mpr (h.2 j hj).2.2.2.1
theorem TD.dp {w : Int} {wd dp wt br bk hb : Nat → Int32} {lids tops : Int32} {t : Nat → Int32} (h : TD w wd dp wt br bk hb lids tops t) {j : Nat} (hj : (j : Int) < w) : dp j = dpM t j := (i_eq _ _).mpr (h.2 j hj).2.1
theorem TD.rs {w : Int} {wd dp wt br bk hb : Nat → Int32} {lids tops : Int32} {t : Nat → Int32} (h : TD w wd dp wt br bk hb lids tops t) {u l : Nat} (hu : (u : Int) < w) (hl : (l : Int) < w) : rsC wd dp lids u l = rsM t u l := by
  have a := (h.2 u hu).1
  have b := (h.2 l hl).1
  have c := (h.2 l hl).2.2.2.2.2.2.1
  have d := h.dp hl
  unfold rsC rsM
  rw [a, b]
  by_cases q : (t (3 + 8 * u)).toInt < (t (3 + 8 * l)).toInt
  · by_cases z : BT lids l = true
    · rw [if_pos z] at c
      rw [if_neg (fun y => by rw [z] at y; exact absurd y.2 (by decide)), if_neg (fun y => by have := y.2; omega)]; exact d
    · rw [if_neg z] at c
      rw [if_pos ⟨q, Bool.eq_false_iff.mpr z⟩, if_pos ⟨q, by omega⟩]
  · rw [if_neg (fun y => q y.1), if_neg (fun y => q y.1)]; exact d
/-- the class's reason is the reference's -/
theorem RFZ.CM {w : Int} {wd dp wt br bk hb my : Nat → Int32} {lids tops : Int32} {t : Nat → Int32} {E : (Nat → (Nat → Int32) → Int32)} (hT : TD w wd dp wt br bk hb lids tops t) (hM : ∀ u l : Nat, (u : Int) < w → (l : Int) < w → ¬ u = l → BT (my l) u = mayM t E u l) {r : Nat → Int32} {n : Nat} (hr : ∀ p, p < n → 0 ≤ (r p).toInt ∧ (r p).toInt < w) (hd : ∀ p, p + 1 < n → ¬ r (p + 1) = r p) {h h' : Int32} (hh : h = h') {x : Int} (a : RFZ (fun u l => BT (my l) u) wt br dp (rsC wd dp lids) r n h x) : RFZ (fun u l => mayM t E u l) (wtM t) (brM t) (dpM t) (rsM t) r n h' x := by
  refine a.cong hh (fun p hp => ?_) (fun p hp => ?_) (fun p hp => ?_) (fun p hp => ?_) (fun p hp => ?_)
  · have a1 := hr p (by omega)
    have a2 := hr (p + 1) hp
    have a3 := hd p hp
    exact hM _ _ (by omega) (by omega) (fun e => a3 ((i_eq _ _).mpr (by omega)))
  · have a1 := hr p hp; exact hT.wt (by omega)
  · have a1 := hr p hp; exact hT.br (by omega)
  · have a1 := hr p hp; exact hT.dp (by omega)
  · have a1 := hr p (by omega)
    have a2 := hr (p + 1) hp
    exact hT.rs (by omega) (by omega)
theorem ROW.nw {sh st lv f : Nat → Int32} {b : Nat} {nw ns : Int} (h : ST sh st lv f b nw ns) {s k : Int32} {r : Nat → Int32} {n : Nat} (hs : 0 ≤ s.toInt) (hR : ROW sh st lv s k r n) {p : Nat} (hp : p < n) : 0 ≤ (r p).toInt ∧ (r p).toInt < nw := by
  obtain ⟨w, h1, h2, h3, h4, h5⟩ := hR.2 p hp
  have := h.2.2.1 w h1 (by rw [h3]; exact hs)
  omega
theorem ROW.n11 {sh st lv : Nat → Int32} {s k : Int32} {r : Nat → Int32} {n w : Nat} (hR : ROW sh st lv s k r n) (hw : w < 12) (hs : 0 ≤ s.toInt) (ho : (sh w).toInt = -1) : n ≤ 11 ∧ ∀ p, p < n → ¬ (r p).toInt = (w : Int) := by
  refine ⟨?_, fun p hp e => ?_⟩
  · have a := hR.size
    have b := cnB_lt (P := std sh st s k) (w := w) (fun z => by have y := (std_iff.mp z).1; rw [y] at ho; omega) 12 hw
    omega
  · obtain ⟨v, h1, h2, h3, h4, h5⟩ := hR.2 p hp
    have : v = w := by omega
    rw [this] at h3; rw [h3] at ho; omega
theorem nI_of9 {x : Int} (h0 : 0 ≤ x) (h1 : x < 2147483648) : (nI x.toNat).toInt = x := by rw [nI_toInt (by omega)]; omega
theorem put_eq {nw ns : Int} {wd dp wt br bk hb my ht rc rm : Nat → Int32} {lids tops nn : Int32} {t o a sh st lv f : Nat → Int32} {p0 p1 p2 : Int32} {x y : Int} (hT : TD nw wd dp wt br bk hb lids tops t) (hS : TSH ns ht rc rm t) (hM : MYR nw nn.toInt wd dp wt lids tops my t o a) (h : ST sh st lv f 0 nw ns) (hv : SV f) (hC : CRs f t 0) (h12 : nw ≤ 12)
    (A : PUTR (OKP p0.toInt p1.toInt p2.toInt nw ns (stF sh st p1 12).toInt) ((sh p0.toInt.toNat).toInt = -1) (p2.toInt = -1 ∧ (rm p1.toInt.toNat).toInt ≤ (stF sh st p1 12).toInt) (fun x => ∀ k : Int32, k.toInt = plc p2.toInt (stF sh st p1 12).toInt → ∀ (r : Nat → Int32) (n : Nat), ROW sh st lv p1 k r n → n ≤ 11 → RFZ (fun u l => BT (my l) u) wt br dp (rsC wd dp lids) (upd r n p0) (n + 1) (ht p1.toInt.toNat) x) x)
    (B : PUTR (OKP p0.toInt p1.toInt p2.toInt (t 0).toInt (t 1).toInt (f (0 + 105 * p1.toInt.toNat)).toInt) (NI f 0 p0 (t 1).toInt) (p2.toInt = -1 ∧ (f (0 + 105 * p1.toInt.toNat)).toInt = (t (101 + 3 * p1.toInt.toNat)).toInt) (fun x => ∀ E : (Nat → (Nat → Int32) → Int32), ME6 t o a E → ∀ n : Nat, (n : Int) = nPt p2.toInt (f (0 + 105 * p1.toInt.toNat + 1 + 13 * p2.toInt.toNat)).toInt → RFZ (fun u l => mayM t E u l) (wtM t) (brM t) (dpM t) (rsM t) (upd (fun p => f (0 + 105 * p1.toInt.toNat + 1 + 13 * p2.toInt.toNat + 1 + p)) n p0) (n + 1) (t (99 + 3 * p1.toInt.toNat)) x) y) : x = y := by
  have e0 := hT.1
  have e1 := hS.1
  have sk : 0 ≤ p1.toInt → p1.toInt < ns → (stF sh st p1 12).toInt = (f (0 + 105 * p1.toInt.toNat)).toInt := fun q1 q2 => by
    have z := h.stacks hv (by decide) q1 q2
    rw [show 460 * 0 + 105 * p1.toInt.toNat = 0 + 105 * p1.toInt.toNat by omega] at z; exact z
  have n4 := h.2.2.2.2.2.2
  refine PUTR.eq A B ⟨fun z => ?_, fun z => ?_⟩ (fun z => ⟨fun q => ?_, fun q => ?_⟩) (fun z q => ⟨fun y => ?_, fun y => ?_⟩) (fun z q nf a9 b9 => ?_)
  · obtain ⟨z1, z2, z3, z4⟩ := z
    have := sk z2.1 z2.2
    exact ⟨by omega, by omega, by omega, by omega⟩
  · obtain ⟨z1, z2, z3, z4⟩ := z
    have := sk z2.1 (by omega)
    exact ⟨by omega, by omega, by omega, by omega⟩
  · rw [← e1]; exact h.ni ⟨by have := z.1; omega, by have := z.1; omega⟩ q
  · rw [← e1] at q; exact h.out ⟨by have := z.1; omega, by have := z.1; omega⟩ q hv (by decide)
  · have z2 := z.2.1
    have := sk z2.1 z2.2
    have r9 := (hS.2 p1.toInt.toNat (by omega)).2.2
    have c9 := hC p1.toInt.toNat (by omega)
    rw [show 460 * 0 + 105 * p1.toInt.toNat = 0 + 105 * p1.toInt.toNat by omega] at c9
    rw [show 99 + 3 * p1.toInt.toNat + 2 = 101 + 3 * p1.toInt.toNat by omega] at r9
    exact ⟨y.1, by have := y.2; omega⟩
  · have z2 := z.2.1
    have := sk z2.1 z2.2
    have r9 := (hS.2 p1.toInt.toNat (by omega)).2.2
    rw [show 99 + 3 * p1.toInt.toNat + 2 = 101 + 3 * p1.toInt.toNat by omega] at r9
    exact ⟨y.1, by have := y.2; omega⟩
  · obtain ⟨E, m1, m2, m3⟩ := hM
    obtain ⟨z1, z2, z3, z4⟩ := z
    have k1 := sk z2.1 z2.2
    have c8 := hv.c8 (b := 0) (s := p1.toInt.toNat) (by decide) (by omega)
    rw [show 460 * 0 + 105 * p1.toInt.toNat = 0 + 105 * p1.toInt.toNat by omega] at c8
    have hM' : ∀ u l : Nat, (u : Int) < nw → (l : Int) < nw → ¬ u = l → BT (my l) u = mayM t E u l := fun u l hu hl hul => MYR.may hT h12 m1 m2 m3 hu hl hul
    have hh : ht p1.toInt.toNat = t (99 + 3 * p1.toInt.toNat) := (i_eq _ _).mpr (hS.2 p1.toInt.toNat (by omega)).1
    have p012 : p0.toInt.toNat < 12 := by omega
    by_cases c : p2.toInt = -1
    · have ek : (nI (stF sh st p1 12).toInt.toNat).toInt = plc p2.toInt (stF sh st p1 12).toInt := by
        rw [nI_of9 (by omega) (by omega)]; exact (if_pos c).symm
      have hR := h.row0 (s := p1) (k := nI (stF sh st p1 12).toInt.toNat) z2.1 (by rw [show 460 * 0 + 105 * p1.toInt.toNat = 0 + 105 * p1.toInt.toNat by omega, nI_of9 (by omega) (by omega)]; omega) (fun p => f (0 + 105 * p1.toInt.toNat + 1 + 13 * p2.toInt.toNat + 1 + p))
      have a8 := RFZ.CM hT hM' (fun p hp => by rw [show p = 0 by omega, pk_us]; omega) (fun p hp => absurd hp (by omega)) hh (a9 _ ek _ 0 hR (by omega))
      exact a8.uniq (b9 E m2 0 (if_pos c).symm)
    · have ek : p2.toInt = plc p2.toInt (stF sh st p1 12).toInt := (if_neg c).symm
      have hR := h.row hv (by decide) (s := p1) (k := p2) z2.1 z2.2 (by omega) (by rw [show 460 * 0 + 105 * p1.toInt.toNat = 0 + 105 * p1.toInt.toNat by omega]; omega)
      rw [show 460 * 0 + 105 * p1.toInt.toNat = 0 + 105 * p1.toInt.toNat by omega] at hR
      obtain ⟨n11, nn⟩ := hR.n11 p012 z2.1 q
      have nw' := fun p hp => ROW.nw h z2.1 hR (p := p) hp
      have zz := hv.z12 (b := 0) (s := p1.toInt.toNat) (k := p2.toInt.toNat) (by decide) (by omega) (by omega)
      rw [show 460 * 0 + 105 * p1.toInt.toNat = 0 + 105 * p1.toInt.toNat by omega] at zz
      have a8 := RFZ.CM hT hM' (fun p hp => by
        by_cases e : p = (f (0 + 105 * p1.toInt.toNat + 1 + 13 * p2.toInt.toNat)).toInt.toNat
        · rw [e, pk_us]; omega
        · rw [pk_un e]; exact nw' p (by omega)) (fun p hp => by
        by_cases e : p + 1 = (f (0 + 105 * p1.toInt.toNat + 1 + 13 * p2.toInt.toNat)).toInt.toNat
        · rw [e, pk_us, pk_un (by omega)]
          intro e2
          exact nn p (by omega) (by rw [← e2]; omega)
        · rw [pk_un e, pk_un (by omega)]; exact hR.ne (by omega) (by omega) (by omega)) hh (a9 p2 ek _ _ hR n11)
      exact a8.uniq (b9 E m2 _ (by rw [show nPt p2.toInt (f (0 + 105 * p1.toInt.toNat + 1 + 13 * p2.toInt.toNat)).toInt = (f (0 + 105 * p1.toInt.toNat + 1 + 13 * p2.toInt.toNat)).toInt from if_neg c]; omega))

theorem put_ST {nw ns : Int} {sh st lv f sh' st' lv' f' : Nat → Int32} {p0 p1 p2 : Int32} (h : ST sh st lv f 0 nw ns) (hv : SV f) (h12 : nw ≤ 12) (hok : OKP p0.toInt p1.toInt p2.toInt nw ns (stF sh st p1 12).toInt) (ho : (sh p0.toInt.toNat).toInt = -1)
    (A : ∀ k : Int32, k.toInt = plc p2.toInt (stF sh st p1 12).toInt → sh' = upd sh p0.toInt.toNat p1 ∧ st' = upd st p0.toInt.toNat k ∧ (∀ j : Nat, ¬ j = p0.toInt.toNat → lv' j = lv j) ∧ (lv' p0.toInt.toNat).toInt = ((cnB (std sh st p1 k) 12 : Nat) : Int)) (B : PTS f f' 0 p0 p1 p2) : ST sh' st' lv' f' 0 nw ns := by
  obtain ⟨z1, z2, z3, z4⟩ := hok
  have n4 := h.2.2.2.2.2.2
  have sk := h.stacks hv (by decide) z2.1 z2.2
  have c8 := hv.c8 (b := 0) (s := p1.toInt.toNat) (by decide) (by omega)
  have B0 : 460 * 0 + 105 * p1.toInt.toNat = 0 + 105 * p1.toInt.toNat := by omega
  have c8' := c8
  rw [B0] at c8'
  by_cases c : p2.toInt = -1
  · have pe : plc p2.toInt (stF sh st p1 12).toInt = (stF sh st p1 12).toInt := if_pos c
    have pe' : plc p2.toInt (f (0 + 105 * p1.toInt.toNat)).toInt = (f (0 + 105 * p1.toInt.toNat)).toInt := if_pos c
    obtain ⟨a1, a2, a3, a4⟩ := A (nI (stF sh st p1 12).toInt.toNat) (by rw [pe, nI_of9 (by omega) (by omega)])
    have hR := h.row0 (s := p1) (k := nI (stF sh st p1 12).toInt.toNat) z2.1 (by rw [nI_of9 (by omega) (by omega)]; omega) (fun _ => 0)
    rw [hR.size] at a4
    obtain ⟨b0, b1, b2, b3, b4⟩ := B (f (0 + 105 * p1.toInt.toNat)).toInt.toNat 0 (by rw [pe', ← B0]; omega) (if_pos c).symm
    rw [if_pos c] at b1
    refine ST.put h hv (by decide) (w0 := p0.toInt.toNat) (s0 := p1.toInt.toNat) (k0 := (f (0 + 105 * p1.toInt.toNat)).toInt.toNat) (n0 := 0) (by omega) (by omega) (by omega) (by omega) (by omega) ho (Or.inr ⟨by rw [B0]; omega, rfl, by rw [B0]; omega⟩) (by rw [a1, pk_us]; omega) (by rw [a2, pk_us, nI_of9 (by omega) (by omega), sk, B0]; omega) (by rw [a4]) (fun j hj => by rw [a1, pk_un hj]) (fun j hj => by rw [a2, pk_un hj]) a3 (by rw [B0]; exact b2) (by rw [B0, b3]; omega) (fun j j0 j1 j2 j3 => b4 j (by omega) (by rw [← B0]; exact j1) (by rw [← B0]; exact j2) (by rw [← B0]; exact j3))
  · have pe : plc p2.toInt (stF sh st p1 12).toInt = p2.toInt := if_neg c
    have pe' : plc p2.toInt (f (0 + 105 * p1.toInt.toNat)).toInt = p2.toInt := if_neg c
    obtain ⟨a1, a2, a3, a4⟩ := A p2 pe.symm
    have hR := h.row hv (by decide) (s := p1) (k := p2) z2.1 z2.2 (by omega) (by omega)
    rw [hR.size] at a4
    have zz := hv.z12 (b := 0) (s := p1.toInt.toNat) (k := p2.toInt.toNat) (by decide) (by omega) (by omega)
    obtain ⟨n11, _⟩ := hR.n11 (w := p0.toInt.toNat) (by omega) z2.1 ho
    obtain ⟨b0, b1, b2, b3, b4⟩ := B p2.toInt.toNat (f (460 * 0 + 105 * p1.toInt.toNat + 1 + 13 * p2.toInt.toNat)).toInt.toNat (by rw [pe']; omega) (by rw [show nPt p2.toInt (f (0 + 105 * p1.toInt.toNat + 1 + 13 * p2.toInt.toNat)).toInt = (f (0 + 105 * p1.toInt.toNat + 1 + 13 * p2.toInt.toNat)).toInt from if_neg c, ← B0]; omega)
    rw [if_neg c] at b1
    refine ST.put h hv (by decide) (w0 := p0.toInt.toNat) (s0 := p1.toInt.toNat) (k0 := p2.toInt.toNat) (n0 := (f (460 * 0 + 105 * p1.toInt.toNat + 1 + 13 * p2.toInt.toNat)).toInt.toNat) (by omega) (by omega) (by omega) (by omega) (by omega) ho (Or.inl ⟨by omega, by omega, by rw [B0]; omega⟩) (by rw [a1, pk_us]; omega) (by rw [a2, pk_us]; omega) (by rw [a4]) (fun j hj => by rw [a1, pk_un hj]) (fun j hj => by rw [a2, pk_un hj]) a3 (by rw [B0] at b2 ⊢; exact b2) (by rw [B0] at b3 ⊢; rw [b3]; omega) (fun j j0 j1 j2 j3 => b4 j (by omega) (by rw [← B0]; exact j1) (by rw [← B0]; exact j2) (by rw [← B0]; exact j3))

theorem ST.cst {sh st st' lv f : Nat → Int32} {b : Nat} {nw ns : Int} (h : ST sh st lv f b nw ns) (e : ∀ w : Nat, w < 12 → (st' w).toInt = (st w).toInt) : ST sh st' lv f b nw ns := ⟨fun w s k p hw => by rw [e w hw]; exact h.1 w s k p hw, h.2.1, h.2.2.1, h.2.2.2.1, fun w hw => by rw [e w hw]; exact h.2.2.2.2.1 w hw, h.2.2.2.2.2⟩
/-- where a ware is, for both -/
theorem ST.pos {sh st lv f : Nat → Int32} {b : Nat} {nw ns : Int} {s k q w : Nat} (h : ST sh st lv f b nw ns) (hw : w < 12) (i : IN f b ns s k q w) : (sh w).toInt = (s : Int) ∧ (st w).toInt = (k : Int) ∧ (lv w).toInt = (q : Int) := (h.1 w s k q hw).mpr i
/-- past the one at c -/
def skp (c : Int) (p : Nat) : Nat := if (p : Int) < c then p else p + 1
theorem skp_lt {c : Int} {p n : Nat} (h : p < n - 1) : skp c p < n := by unfold skp; split <;> omega
theorem skp_ne (c : Int) (p : Nat) : ¬ skp c (p + 1) = skp c p := by unfold skp; split <;> split <;> omega
theorem draw_eq {nw ns : Int} {wd dp wt br bk hb my ht rc rm : Nat → Int32} {lids tops nn : Int32} {t o a sh st lv f : Nat → Int32} {p0 : Int32} {x y : Int} (hT : TD nw wd dp wt br bk hb lids tops t) (hS : TSH ns ht rc rm t) (hM : MYR nw nn.toInt wd dp wt lids tops my t o a) (h : ST sh st lv f 0 nw ns) (hv : SV f) (h12 : nw ≤ 12)
    (A : PUTR (0 ≤ p0.toInt ∧ p0.toInt < nw) (¬ (sh p0.toInt.toNat).toInt = -1) False (fun x => ∀ (r : Nat → Int32) (n : Nat), ROW sh st lv (sh p0.toInt.toNat) (st p0.toInt.toNat) r n → RFZ (fun u l => BT (my l) u) wt br dp (rsC wd dp lids) (fun p => r (if (p : Int) < (lv p0.toInt.toNat).toInt then p else p + 1)) (n - 1) (ht (sh p0.toInt.toNat).toInt.toNat) x) x)
    (B : PUTR (0 ≤ p0.toInt ∧ p0.toInt < (t 0).toInt) (¬ NI f 0 p0 (t 1).toInt) False (fun x => ∃ s k q : Nat, IN f 0 (t 1).toInt s k q p0.toInt.toNat ∧ s < 4 ∧ k < 8 ∧ ∀ E : (Nat → (Nat → Int32) → Int32), ME6 t o a E → RFZ (fun u l => mayM t E u l) (wtM t) (brM t) (dpM t) (rsM t) (fun p => f (105 * s + 1 + 13 * k + 1 + (if (p : Int) < (q : Int) then p else p + 1))) ((f (105 * s + 1 + 13 * k)).toInt.toNat - 1) (t (99 + 3 * s)) x) y) : x = y := by
  have e0 := hT.1
  have e1 := hS.1
  have n4 := h.2.2.2.2.2.2
  refine PUTR.eq A B ⟨fun z => by omega, fun z => by omega⟩ (fun z => ⟨fun q z9 => ?_, fun q z9 => ?_⟩) (fun _ _ => Iff.rfl) (fun z q _ a9 b9 => ?_)
  · rw [← e1] at z9; exact q (h.out ⟨by omega, by omega⟩ z9 hv (by decide))
  · apply q; rw [← e1]; exact h.ni ⟨by omega, by omega⟩ z9
  · obtain ⟨E, m1, m2, m3⟩ := hM
    obtain ⟨s, k, q', i, s4, k8, b8⟩ := b9
    rw [← e1] at i
    have w12 : p0.toInt.toNat < 12 := by omega
    obtain ⟨j1, j2, j3⟩ := h.pos w12 i
    obtain ⟨i1, i2, i3, i4⟩ := i
    have es : (sh p0.toInt.toNat).toInt.toNat = s := by omega
    have ek : (st p0.toInt.toNat).toInt.toNat = k := by omega
    have hR := h.row hv (by decide) (s := sh p0.toInt.toNat) (k := st p0.toInt.toNat) (by omega) (by omega) (by omega) (by rw [es]; omega)
    rw [es, ek, show 460 * 0 + 105 * s = 105 * s by omega] at hR
    have zz := hv.z12 (b := 0) (s := s) (k := k) (by decide) s4 k8
    rw [show 460 * 0 + 105 * s = 105 * s by omega] at zz i3
    have hM' : ∀ u l : Nat, (u : Int) < nw → (l : Int) < nw → ¬ u = l → BT (my l) u = mayM t E u l := fun u l hu hl hul => MYR.may hT h12 m1 m2 m3 hu hl hul
    have hh : ht (sh p0.toInt.toNat).toInt.toNat = t (99 + 3 * s) := by rw [es]; exact (i_eq _ _).mpr (hS.2 s (by omega)).1
    have nw' : ∀ p : Nat, p < (f (105 * s + 1 + 13 * k)).toInt.toNat → 0 ≤ (f (105 * s + 1 + 13 * k + 1 + p)).toInt ∧ (f (105 * s + 1 + 13 * k + 1 + p)).toInt < nw := fun p hp => ROW.nw h (s := sh p0.toInt.toNat) (by omega) hR (p := p) hp
    have a7 := a9 _ _ hR
    obtain ⟨N, hN⟩ : ∃ N : Nat, N = (f (105 * s + 1 + 13 * k)).toInt.toNat := ⟨_, rfl⟩
    obtain ⟨A, hA⟩ : ∃ A : Nat, A = 105 * s + 1 + 13 * k + 1 := ⟨_, rfl⟩
    rw [← hN] at a7 hR nw'
    rw [j3] at a7
    have b7 := b8 E m2
    rw [← hN, ← hA] at b7
    rw [← hA] at a7 hR nw'
    have hr : ∀ p : Nat, p < N - 1 → 0 ≤ (f (A + skp (q' : Int) p)).toInt ∧ (f (A + skp (q' : Int) p)).toInt < nw := fun p hp => nw' (skp (q' : Int) p) (skp_lt hp)
    have hd : ∀ p : Nat, p + 1 < N - 1 → ¬ f (A + skp (q' : Int) (p + 1)) = f (A + skp (q' : Int) p) := fun p hp => by
      have l1 : skp (q' : Int) (p + 1) < N := skp_lt hp
      have l2 : skp (q' : Int) p < N := skp_lt (Nat.lt_of_succ_lt hp)
      exact ROW.ne hR l1 l2 (skp_ne _ p)
    exact (RFZ.CM hT hM' (r := fun p => f (A + skp (q' : Int) p)) hr hd hh a7).uniq b7
theorem draw_ST {nw ns : Int} {sh st lv f sh' st' lv' f' : Nat → Int32} {p0 : Int32} {s k q : Nat} (h : ST sh st lv f 0 nw ns) (hv : SV f) (hp : 0 ≤ p0.toInt ∧ p0.toInt < 12) (i : IN f 0 ns s k q p0.toInt.toNat) (s4 : s < 4) (k8 : k < 8) (A : sh' = upd sh p0.toInt.toNat (-1) ∧ (∀ j : Nat, j < 12 → (lv' j).toInt = snk sh st lv p0.toInt.toNat j) ∧ ∀ j : Nat, j < 12 → (st' j).toInt = rmS sh' st (sh p0.toInt.toNat) (st p0.toInt.toNat) j) (B : DRW f f' s k q) : ST sh' st' lv' f' 0 nw ns := by
  obtain ⟨a1, a2, a3⟩ := A
  have w12 : p0.toInt.toNat < 12 := by omega
  have j := h.pos w12 i
  obtain ⟨j1, j2, j3⟩ := j
  have c1 : (sh' p0.toInt.toNat).toInt = -1 := by rw [a1, pk_us]; rfl
  have c2 : ∀ w, w < 12 → ¬ w = p0.toInt.toNat → sh' w = sh w := fun w _ e => by rw [a1, pk_un e]
  have c3 : ∀ w, w < 12 → (lv' w).toInt = if (sh w).toInt = (s : Int) ∧ (st w).toInt = (k : Int) ∧ (q : Int) < (lv w).toInt then (lv w).toInt - 1 else (lv w).toInt := fun w hw => by
    rw [a2 w hw]
    unfold snk
    by_cases z : sh w = sh p0.toInt.toNat ∧ st w = st p0.toInt.toNat ∧ (lv p0.toInt.toNat).toInt < (lv w).toInt
    · rw [if_pos z, if_pos ⟨by rw [z.1]; exact j1, by rw [z.2.1]; exact j2, by omega⟩]
    · rw [if_neg z, if_neg (fun y => z ⟨(i_eq _ _).mpr (by omega), (i_eq _ _).mpr (by omega), by omega⟩)]
  have i' := i
  obtain ⟨i1, i2, i3, i4⟩ := i'
  have zz := hv.z12 (b := 0) (s := s) (k := k) (by decide) s4 k8
  have B0 : ∀ z : Nat, 460 * 0 + 105 * z = 105 * z := fun z => by omega
  rw [B0] at i2 i3 i4 zz
  rcases (by omega : 2 ≤ (f (105 * s + 1 + 13 * k)).toInt ∨ (f (105 * s + 1 + 13 * k)).toInt = 1) with c | c
  · obtain ⟨b1, b2, b3⟩ := B.1 c
    -- another one is left there
    have ne : ¬ cnB (std sh' st (sh p0.toInt.toNat) (st p0.toInt.toNat)) 12 = 0 := by
      obtain ⟨v, v1, v2, v3, v4, v5⟩ := h.bw hv (by decide) (s := s) (k := k) (p := if q = 0 then 1 else 0) i1 (by rw [B0]; exact i2) (by rw [B0]; split <;> omega)
      have vn : ¬ v = p0.toInt.toNat := fun z => by rw [z] at v5; split at v5 <;> omega
      have := cnB_ge (P := std sh' st (sh p0.toInt.toNat) (st p0.toInt.toNat)) (w := v) (std_iff.mpr ⟨by rw [c2 v v1 vn]; exact (i_eq _ _).mpr (by omega), (i_eq _ _).mpr (by omega)⟩) 12 v1
      omega
    refine ST.cst (st := st) ?_ (fun w hw => by rw [a3 w hw]; exact if_neg ne)
    refine ST.drawA h hv (by decide) w12 ⟨j1, j2, j3⟩ s4 k8 (by rw [B0]; exact c) c1 c2 c3 (by rw [B0]; exact b1) (fun p hp => by rw [B0] at hp ⊢; exact b2 p hp) (fun z hz => by rw [B0]; exact b3 _ (by omega) (by rcases Nat.lt_or_ge s z with g | g; (right; omega); (left; omega))) (fun z y r hz hy hr hn => ?_)
    rw [B0]
    refine b3 _ (by omega) ?_
    rcases Nat.lt_trichotomy z s with g | g | g
    · left; omega
    · subst g
      rcases Nat.lt_trichotomy y k with g | g | g
      · left; omega
      · exact absurd ⟨rfl, g⟩ hn
      · right; omega
    · right; omega
  · have al : ∀ w, w < 12 → (sh w).toInt = (s : Int) → (st w).toInt = (k : Int) → w = p0.toInt.toNat := fun w hw y1 y2 => by
      have v := h.2.2.2.2.2.1 w hw
      have g := (h.1 w s k (lv w).toInt.toNat hw).mp ⟨y1, y2, by omega⟩
      obtain ⟨_, _, g3, g4⟩ := g
      rw [B0] at g3 g4
      rw [show (lv w).toInt.toNat = q by omega] at g4
      omega
    have ze : cnB (std sh' st (sh p0.toInt.toNat) (st p0.toInt.toNat)) 12 = 0 := cnB_0 12 (fun w hw z => by
      obtain ⟨y1, y2⟩ := std_iff.mp z
      by_cases e : w = p0.toInt.toNat
      · rw [e] at y1; rw [y1] at c1; omega
      · rw [c2 w hw e] at y1
        exact e (al w hw (by rw [y1]; exact j1) (by rw [y2]; exact j2)))
    obtain ⟨b1, b2, b3⟩ := B.2 c
    refine ST.drawB (p0 := q) h hv (by decide) w12 ⟨j1, j2, j3⟩ s4 k8 (by rw [B0]; exact c) c1 c2 c3 (fun w hw => ?_) (by rw [B0]; exact b1) (fun y r q1 q2 q3 => by rw [B0] at q2 ⊢; exact b2 y r q1 q2 q3) (fun z hz hn => ?_) (fun z y r hz hy hr hn => ?_)
    · rw [a3 w hw, show rmS sh' st (sh p0.toInt.toNat) (st p0.toInt.toNat) w = gpf sh' st (sh p0.toInt.toNat) (st p0.toInt.toNat) w from if_pos ze]
      unfold gpf
      by_cases z : sh' w = sh p0.toInt.toNat ∧ (st p0.toInt.toNat).toInt < (st w).toInt
      · rw [if_pos z, if_pos ⟨by rw [z.1]; exact j1, by omega⟩]
      · rw [if_neg z, if_neg (fun y => z ⟨(i_eq _ _).mpr (by omega), by omega⟩)]
    · rw [B0]
      refine b3 _ (by omega) (by omega) ?_
      rcases Nat.lt_or_ge z s with g | g
      · left; omega
      · right; omega
    · rw [B0]
      have n1 : ¬ 105 * z + 1 + 13 * y + r = 105 * s := by
        rcases Nat.lt_or_ge z s with g | g
        · omega
        · omega
      refine b3 _ (by omega) n1 ?_
      rcases Nat.lt_trichotomy z s with g | g | g
      · left; omega
      · subst g; left; omega
      · right; omega

theorem hiF_CM {w : Int} {wd dp wt br bk hb : Nat → Int32} {lids tops : Int32} {t : Nat → Int32} (hT : TD w wd dp wt br bk hb lids tops t) {r : Nat → Int32} {n : Nat} (hr : ∀ p, p < n → 0 ≤ (r p).toInt ∧ (r p).toInt < w) : hiF (rsC wd dp lids) dp r n = hiF (rsM t) (dpM t) r n :=
  hiF_cong n (fun q hq => by
    have a1 := hr q (by omega)
    have a2 := hr (q + 1) hq
    exact hT.rs (by omega) (by omega)) (fun q hq => by have a1 := hr q hq; exact hT.dp (by omega))
theorem carry_eq {nw ns : Int} {wd dp wt br bk hb ht rc rm : Nat → Int32} {lids tops : Int32} {t sh st lv f : Nat → Int32} {p0 p1 p2 : Int32} {x y : Int} (hT : TD nw wd dp wt br bk hb lids tops t) (hS : TSH ns ht rc rm t) (h : ST sh st lv f 0 nw ns) (hv : SV f) (hC : CRs f t 0)
    (A : PUTR ((0 ≤ p0.toInt ∧ p0.toInt < ns ∧ 0 ≤ p1.toInt ∧ p1.toInt < (stF sh st p0 12).toInt) ∧ (0 ≤ p2.toInt ∧ p2.toInt < ns) ∧ ¬ p0.toInt = p2.toInt) True ((rm p2.toInt.toNat).toInt ≤ (stF sh st p2 12).toInt) (fun x => ∀ (r : Nat → Int32) (n : Nat), ROW sh st lv p0 p1 r n → (x = 6 ∧ ht p2.toInt.toNat < hiF (rsC wd dp lids) dp r n) ∨ (x = 0 ∧ ¬ ht p2.toInt.toNat < hiF (rsC wd dp lids) dp r n)) x)
    (B : PUTR ((0 ≤ p0.toInt ∧ p0.toInt < (t 1).toInt ∧ 0 ≤ p1.toInt ∧ p1.toInt < (f (0 + 105 * p0.toInt.toNat)).toInt) ∧ (0 ≤ p2.toInt ∧ p2.toInt < (t 1).toInt) ∧ ¬ p0.toInt = p2.toInt) True ((f (0 + 105 * p2.toInt.toNat)).toInt = (t (101 + 3 * p2.toInt.toNat)).toInt) (fun x => (x = 6 ∧ t (99 + 3 * p2.toInt.toNat) < hiF (rsM t) (dpM t) (fun p => f (105 * p0.toInt.toNat + 1 + 13 * p1.toInt.toNat + 1 + p)) (f (105 * p0.toInt.toNat + 1 + 13 * p1.toInt.toNat)).toInt.toNat) ∨ (x = 0 ∧ ¬ t (99 + 3 * p2.toInt.toNat) < hiF (rsM t) (dpM t) (fun p => f (105 * p0.toInt.toNat + 1 + 13 * p1.toInt.toNat + 1 + p)) (f (105 * p0.toInt.toNat + 1 + 13 * p1.toInt.toNat)).toInt.toNat)) y) : x = y := by
  have e1 := hS.1
  have n4 := h.2.2.2.2.2.2
  have sk : ∀ z : Int32, 0 ≤ z.toInt → z.toInt < ns → (stF sh st z 12).toInt = (f (0 + 105 * z.toInt.toNat)).toInt := fun z q1 q2 => by
    have y := h.stacks hv (by decide) q1 q2
    rw [show 460 * 0 + 105 * z.toInt.toNat = 0 + 105 * z.toInt.toNat by omega] at y; exact y
  refine PUTR.eq A B ⟨fun z => ?_, fun z => ?_⟩ (fun _ => Iff.rfl) (fun z _ => ?_) (fun z _ _ a9 b9 => ?_)
  · obtain ⟨⟨z1, z2, z3, z4⟩, z5, z6⟩ := z
    have := sk p0 z1 z2
    exact ⟨⟨z1, by omega, z3, by omega⟩, ⟨by omega, by omega⟩, z6⟩
  · obtain ⟨⟨z1, z2, z3, z4⟩, z5, z6⟩ := z
    have := sk p0 z1 (by omega)
    exact ⟨⟨z1, by omega, z3, by omega⟩, ⟨by omega, by omega⟩, z6⟩
  · obtain ⟨_, z5, _⟩ := z
    have k2 := sk p2 z5.1 z5.2
    have r9 := (hS.2 p2.toInt.toNat (by omega)).2.2
    have c9 := hC p2.toInt.toNat (by omega)
    rw [show 460 * 0 + 105 * p2.toInt.toNat = 0 + 105 * p2.toInt.toNat by omega] at c9
    rw [show 99 + 3 * p2.toInt.toNat + 2 = 101 + 3 * p2.toInt.toNat by omega] at r9
    constructor
    · intro y; omega
    · intro y; omega
  · obtain ⟨⟨z1, z2, z3, z4⟩, z5, z6⟩ := z
    have k1 := sk p0 z1 z2
    have B0 : 460 * 0 + 105 * p0.toInt.toNat = 105 * p0.toInt.toNat := by omega
    have B1 : 460 * 0 + 105 * p0.toInt.toNat = 0 + 105 * p0.toInt.toNat := by omega
    have hR := h.row hv (by decide) (s := p0) (k := p1) z1 z2 z3 (by rw [B1]; omega)
    rw [B0] at hR
    have hh : ht p2.toInt.toNat = t (99 + 3 * p2.toInt.toNat) := (i_eq _ _).mpr (hS.2 p2.toInt.toNat (by omega)).1
    have a8 := a9 _ _ hR
    rw [hiF_CM hT (fun p hp => ROW.nw h z1 hR hp), hh] at a8
    rcases a8 with ⟨a1, a2⟩ | ⟨a1, a2⟩
    · rcases b9 with ⟨b1, b2⟩ | ⟨b1, b2⟩
      · omega
      · exact absurd a2 b2
    · rcases b9 with ⟨b1, b2⟩ | ⟨b1, b2⟩
      · exact absurd b2 a2
      · omega
theorem far_stk {z y r t c : Nat} (hy : y < 8) (hr : r < 13) (hn : ¬ (z = t ∧ y = c)) (hc : c < 8 := by omega) : 105 * z + 1 + 13 * y + r < 105 * t + 1 + 13 * c ∨ 105 * t + 13 + 13 * c < 105 * z + 1 + 13 * y + r := by
  rcases Nat.lt_trichotomy z t with g | g | g
  · left; omega
  · subst g
    rcases Nat.lt_trichotomy y c with g | g | g
    · left; omega
    · exact absurd ⟨rfl, g⟩ hn
    · right; omega
  · right; omega
theorem carry_ST {nw ns : Int} {sh st lv f sh' st' f1 f' : Nat → Int32} {p0 p1 p2 : Int32} (h : ST sh st lv f 0 nw ns) (hv : SV f) (hv1 : SV f1) (hok : (0 ≤ p0.toInt ∧ p0.toInt < ns ∧ 0 ≤ p1.toInt ∧ p1.toInt < (stF sh st p0 12).toInt) ∧ (0 ≤ p2.toInt ∧ p2.toInt < ns) ∧ ¬ p0.toInt = p2.toInt) (c7 : (f (0 + 105 * p2.toInt.toNat)).toInt ≤ 7)
    (A : (∀ j : Nat, j < 12 → (sh' j).toInt = mvS sh st p0 p1 p2 j) ∧ ∀ j : Nat, j < 12 → (st' j).toInt = mvG sh st p0 p1 p2 (stF sh st p2 12) j) (B : CRY f f1 p0.toInt.toNat p1.toInt.toNat p2.toInt.toNat (f (0 + 105 * p2.toInt.toNat)).toInt.toNat) (G : GAW f1 f' p0.toInt.toNat p1.toInt.toNat) : ST sh' st' lv f' 0 nw ns := by
  obtain ⟨⟨z1, z2, z3, z4⟩, z5, z6⟩ := hok
  have n4 := h.2.2.2.2.2.2
  have s0 := h.stacks hv (by decide) z1 z2
  have s2 := h.stacks hv (by decide) z5.1 z5.2
  have B0 : ∀ z : Nat, 460 * 0 + 105 * z = 105 * z := fun z => by omega
  have Z0 : ∀ z : Nat, 0 + 105 * z = 105 * z := fun z => by omega
  rw [B0] at s0 s2
  rw [Z0] at c7 B
  have c0 := hv.c8 (b := 0) (s := p0.toInt.toNat) (by decide) (by omega)
  have c2 := hv.c8 (b := 0) (s := p2.toInt.toNat) (by decide) (by omega)
  rw [B0] at c0 c2
  obtain ⟨b1, b2, b3, b4⟩ := B
  obtain ⟨g1, g2, g3⟩ := G
  have zz := hv.z12 (b := 0) (s := p0.toInt.toNat) (k := p1.toInt.toNat) (by decide) (by omega) (by omega)
  rw [B0] at zz
  refine ST.carry (st1 := fun j => nI (mvT sh st p0 p1 (stF sh st p2 12) j).toNat) (f1 := f1) (s0 := p0.toInt.toNat) (k0 := p1.toInt.toNat) (t0 := p2.toInt.toNat) (c0 := (f (105 * p2.toInt.toNat)).toInt.toNat) h hv hv1 (by decide) (by omega) (by omega) (by omega) (by omega) (by rw [B0]; omega) (by omega) (by rw [B0]; omega) (by omega) (fun w hw => ?_) (fun w hw => ?_) (fun w hw => ?_) (by rw [B0]; exact b1) (by rw [B0, B0]; exact b2) (fun p hp => by rw [B0] at hp; rw [B0, B0]; exact b3 p hp) (fun z hz hn => by rw [B0]; exact b4 _ (by omega) (by omega) (by rcases Nat.lt_or_ge z p2.toInt.toNat with g | g; (left; omega); (right; omega))) (fun z y r hz hy hr hn => by rw [B0]; exact b4 _ (by omega) (by rcases Nat.lt_or_ge z p2.toInt.toNat with g | g; omega; omega) (far_stk hy hr hn)) (by rw [B0]; exact g1) (fun y r q1 q2 q3 => by rw [B0] at q2 ⊢; exact g2 y r q1 q2 q3) (fun z hz hn => by rw [B0]; exact g3 _ (by omega) (by omega) (by rcases Nat.lt_or_ge z p0.toInt.toNat with g | g; (left; omega); (right; omega))) (fun z y r hz hy hr hn => by rw [B0]; exact g3 _ (by omega) (by rcases Nat.lt_or_ge z p0.toInt.toNat with g | g; omega; omega) (by rcases Nat.lt_trichotomy z p0.toInt.toNat with g | g | g; (left; omega); (left; omega); (right; omega)))
  · rw [A.1 w hw]
    unfold mvS
    by_cases q : sh w = p0 ∧ st w = p1
    · rw [if_pos q, if_pos ⟨by rw [q.1]; omega, by rw [q.2]; omega⟩]; omega
    · rw [if_neg q, if_neg (fun y => q ⟨(i_eq _ _).mpr (by omega), (i_eq _ _).mpr (by omega)⟩)]
  · have v := h.2.2.2.2.1 w hw
    show (nI (mvT sh st p0 p1 (stF sh st p2 12) w).toNat).toInt = _
    unfold mvT
    by_cases q : sh w = p0 ∧ st w = p1
    · rw [if_pos q, if_pos ⟨by rw [q.1]; omega, by rw [q.2]; omega⟩, nI_of9 (by omega) (by omega)]; omega
    · rw [if_neg q, if_neg (fun y => q ⟨(i_eq _ _).mpr (by omega), (i_eq _ _).mpr (by omega)⟩), nI_of9 (by omega) (by omega)]
  · have v := h.2.2.2.2.1 w hw
    have m0 : 0 ≤ mvT sh st p0 p1 (stF sh st p2 12) w ∧ mvT sh st p0 p1 (stF sh st p2 12) w < 100 := by
      unfold mvT; split <;> omega
    show (st' w).toInt = if (sh' w).toInt = ((p0.toInt.toNat : Nat) : Int) ∧ ((p1.toInt.toNat : Nat) : Int) < (nI (mvT sh st p0 p1 (stF sh st p2 12) w).toNat).toInt then (nI (mvT sh st p0 p1 (stF sh st p2 12) w).toNat).toInt - 1 else (nI (mvT sh st p0 p1 (stF sh st p2 12) w).toNat).toInt
    rw [nI_of9 m0.1 (by omega), A.1 w hw, A.2 w hw]
    unfold mvG
    by_cases q : mvS sh st p0 p1 p2 w = p0.toInt ∧ p1.toInt < mvT sh st p0 p1 (stF sh st p2 12) w
    · rw [if_pos q, if_pos ⟨by omega, by omega⟩]
    · rw [if_neg q, if_neg (fun y => q ⟨by omega, by omega⟩)]

theorem TSH.of {w s : Int} {wd dp wt br bk hb : Nat → Int32} {lids : Int32} {ht rc rm : Nat → Int32} {nm : Nat → Int64} {t t' hb' : Nat → Int32} {S : ((Nat → Int64) × Nat × (Nat → Int64) × Nat × (Nat → Bool) × (Nat → Bool) × Nat)} {N : ((Nat → Nat → Int) × (Nat → Bool) × (Nat → Nat → Int))} (h1 : s = ((S.2.2.2.1 : Nat) : Int)) (h3 : CW wd dp wt br bk hb lids ht rc rm w s N) (h4 : MRb nm t hb' S) (h5 : MW t N) (h6 : ∀ j : Nat, j < 120 → t' j = t (120 + j)) (h9 : s ≤ 4) : TSH s ht rc rm t' := by
  obtain ⟨x1, x2, x3, x4, x5, x6⟩ := h5
  have e0 : (t' 1).toInt = (t 121).toInt := by rw [h6 1 (by decide)]
  have e1 : (t 121).toInt = s := by rw [h4.1.1.2.1, h1]
  refine ⟨by omega, fun j hj => ?_⟩
  have hj2 : (j : Int) < (t 121).toInt := by omega
  obtain ⟨a0, a1, a2⟩ := h3.2.2.2 j hj
  have m (k : Nat) (hk : k < 3) : (t' (99 + 3 * j + k)).toInt = N.2.2 j k := by
    rw [h6 (99 + 3 * j + k) (by omega), show 120 + (99 + 3 * j + k) = 219 + 3 * j + k by omega]; exact x4 j hj2 k hk
  exact ⟨a0.trans (m 0 (by decide)).symm, a1.trans (m 1 (by decide)).symm, a2.trans (m 2 (by decide)).symm⟩
theorem TSH.fr {s : Int} {ht rc rm t t' : Nat → Int32} (h : TSH s ht rc rm t) (h9 : s ≤ 4) (hf : Fr 120 t t') : TSH s ht rc rm t' := by
  obtain ⟨a, b⟩ := h
  refine ⟨by rw [hf 1 (by decide)]; exact a, fun j hj => ?_⟩
  rw [hf (99 + 3 * j) (by omega), hf (99 + 3 * j + 1) (by omega), hf (99 + 3 * j + 2) (by omega)]
  exact b j hj

/-- the reference's sum is the class's price -/
theorem lc_pr {wt r : Nat → Int32} {rc : Int32} {q : Nat} : ∀ n : Nat, q < n → n ≤ 12 → lcF wt r rc q n = prC wt r (nI q) (nI n) rc := by
  intro n
  induction n with
  | zero => intro h; exact absurd h (Nat.not_lt_zero q)
  | succ n ih =>
    intro h1 h2
    have eq : (nI q).toInt.toNat = q := by rw [nI_toInt (by omega)]; omega
    have en : (nI (n + 1)).toInt.toNat = n + 1 := by rw [nI_toInt (by omega)]; omega
    have e1 : nI (n + 1) = nI n + 1 := (nI_1 n).symm
    rw [lcF_s, if_pos (by omega)]
    unfold prC
    rw [eq, en, e1]
    by_cases c : n = q
    · rw [if_pos c, lcF_0 _ _ _ (by omega), wtF_0 _ _ (by omega), c]
      exact (rg_1 _ _ _ _ _ rfl rfl).symm
    · have i := ih (by omega) (by omega)
      have en2 : (nI n).toInt.toNat = n := by rw [nI_toInt (by omega)]; omega
      unfold prC at i
      rw [eq, en2] at i
      rw [if_neg c, i, wtF_top _ _ _ (by omega)]
      exact (rg_2 _ _ _ _ _ _).symm

theorem stk_iff {ns : Int} {t sh st lv f ht rc rm : Nat → Int32} {nw : Int} {p0 p1 : Int32} (hS : TSH ns ht rc rm t) (h : ST sh st lv f 0 nw ns) (hv : SV f) : (0 ≤ p0.toInt ∧ p0.toInt < ns ∧ 0 ≤ p1.toInt ∧ p1.toInt < (stF sh st p0 12).toInt) ↔ (0 ≤ p0.toInt ∧ p0.toInt < (t 1).toInt ∧ 0 ≤ p1.toInt ∧ p1.toInt < (f (0 + 105 * p0.toInt.toNat)).toInt) := by
  have e1 := hS.1
  have sk : 0 ≤ p0.toInt → p0.toInt < ns → (stF sh st p0 12).toInt = (f (0 + 105 * p0.toInt.toNat)).toInt := fun q1 q2 => by
    have y := h.stacks hv (by decide) q1 q2
    rw [show 460 * 0 + 105 * p0.toInt.toNat = 0 + 105 * p0.toInt.toNat by omega] at y; exact y
  constructor
  · rintro ⟨z1, z2, z3, z4⟩
    have := sk z1 z2
    exact ⟨z1, by omega, z3, by omega⟩
  · rintro ⟨z1, z2, z3, z4⟩
    have := sk z1 (by omega)
    exact ⟨z1, by omega, z3, by omega⟩
theorem ST.row1 {ns : Int} {sh st lv f : Nat → Int32} {nw : Int} {p0 p1 : Int32} (h : ST sh st lv f 0 nw ns) (hv : SV f) (z : 0 ≤ p0.toInt ∧ p0.toInt < ns ∧ 0 ≤ p1.toInt ∧ p1.toInt < (stF sh st p0 12).toInt) : ROW sh st lv p0 p1 (fun p => f (105 * p0.toInt.toNat + 1 + 13 * p1.toInt.toNat + 1 + p)) (f (105 * p0.toInt.toNat + 1 + 13 * p1.toInt.toNat)).toInt.toNat ∧ 0 ≤ (f (105 * p0.toInt.toNat + 1 + 13 * p1.toInt.toNat)).toInt := by
  obtain ⟨z1, z2, z3, z4⟩ := z
  have n4 := h.2.2.2.2.2.2
  have sk := h.stacks hv (by decide) z1 z2
  have c8 := hv.c8 (b := 0) (s := p0.toInt.toNat) (by decide) (by omega)
  have hR := h.row hv (by decide) (s := p0) (k := p1) z1 z2 z3 (by omega)
  have zz := hv.z12 (b := 0) (s := p0.toInt.toNat) (k := p1.toInt.toNat) (by decide) (by omega) (by omega)
  rw [show 460 * 0 + 105 * p0.toInt.toNat = 105 * p0.toInt.toNat by omega] at hR zz
  exact ⟨hR, zz.1⟩
theorem at_eq {nw ns : Int} {t sh st lv f ht rc rm : Nat → Int32} {p0 p1 p2 : Int32} {x y : Int} (hS : TSH ns ht rc rm t) (h : ST sh st lv f 0 nw ns) (hv : SV f)
    (A : GRD (0 ≤ p0.toInt ∧ p0.toInt < ns ∧ 0 ≤ p1.toInt ∧ p1.toInt < (stF sh st p0 12).toInt) (-1) (fun x => ∀ (r : Nat → Int32) (n : Nat), ROW sh st lv p0 p1 r n → x = atF p2 r (n : Int)) x)
    (B : GRD (0 ≤ p0.toInt ∧ p0.toInt < (t 1).toInt ∧ 0 ≤ p1.toInt ∧ p1.toInt < (f (0 + 105 * p0.toInt.toNat)).toInt) (-1) (fun x => x = atF p2 (fun p => f (105 * p0.toInt.toNat + 1 + 13 * p1.toInt.toNat + 1 + p)) (f (105 * p0.toInt.toNat + 1 + 13 * p1.toInt.toNat)).toInt) y) : x = y := by
  refine GRD.eq A B (stk_iff hS h hv) (fun z a b => ?_)
  obtain ⟨hR, n0⟩ := h.row1 hv z
  rw [a _ _ hR, b, Int.toNat_of_nonneg n0]
theorem stack_eq {nw ns : Int} {wd dp wt br bk hb : Nat → Int32} {lids tops : Int32} {t sh st lv f ht rc rm : Nat → Int32} {p0 p1 p2 : Int32} {x y : Int} (hT : TD nw wd dp wt br bk hb lids tops t) (hS : TSH ns ht rc rm t) (h : ST sh st lv f 0 nw ns) (hv : SV f)
    (A : GRD (0 ≤ p0.toInt ∧ p0.toInt < ns ∧ 0 ≤ p1.toInt ∧ p1.toInt < (stF sh st p0 12).toInt) (-1) (fun x => ∀ (r : Nat → Int32) (n : Nat), ROW sh st lv p0 p1 r n → x = skF p2.toInt (n : Int) (hiF (rsC wd dp lids) dp r n).toInt (wtF wt r 0 n).toInt) x)
    (B : GRD (0 ≤ p0.toInt ∧ p0.toInt < (t 1).toInt ∧ 0 ≤ p1.toInt ∧ p1.toInt < (f (0 + 105 * p0.toInt.toNat)).toInt) (-1) (fun x => x = skF p2.toInt (f (105 * p0.toInt.toNat + 1 + 13 * p1.toInt.toNat)).toInt (hiF (rsM t) (dpM t) (fun p => f (105 * p0.toInt.toNat + 1 + 13 * p1.toInt.toNat + 1 + p)) (f (105 * p0.toInt.toNat + 1 + 13 * p1.toInt.toNat)).toInt.toNat).toInt (wtF (wtM t) (fun p => f (105 * p0.toInt.toNat + 1 + 13 * p1.toInt.toNat + 1 + p)) 0 (f (105 * p0.toInt.toNat + 1 + 13 * p1.toInt.toNat)).toInt.toNat).toInt) y) : x = y := by
  refine GRD.eq A B (stk_iff hS h hv) (fun z a b => ?_)
  obtain ⟨hR, n0⟩ := h.row1 hv z
  have nw' := fun p hp => ROW.nw h z.1 hR (p := p) hp
  rw [a _ _ hR, b, Int.toNat_of_nonneg n0, hiF_CM hT nw', wtF_cong (wt := wt) (wt' := wtM t) _ (fun p _ hp => by have a1 := nw' p hp; exact hT.wt (by omega))]
theorem shelf_eq {nw ns : Int} {t sh st lv f ht rc rm : Nat → Int32} {p0 p1 : Int32} {x y : Int} (hS : TSH ns ht rc rm t) (h : ST sh st lv f 0 nw ns) (hv : SV f)
    (A : GRD (0 ≤ p0.toInt ∧ p0.toInt < ns) (-1) (fun x => x = shF p1.toInt (ht p0.toInt.toNat).toInt (rc p0.toInt.toNat).toInt (rm p0.toInt.toNat).toInt (stF sh st p0 12).toInt) x)
    (B : GRD (0 ≤ p0.toInt ∧ p0.toInt < (t 1).toInt) (-1) (fun x => x = shF p1.toInt (t (99 + 3 * p0.toInt.toNat)).toInt (t (99 + 3 * p0.toInt.toNat + 1)).toInt (t (99 + 3 * p0.toInt.toNat + 2)).toInt (f (0 + 105 * p0.toInt.toNat)).toInt) y) : x = y := by
  have e1 := hS.1
  refine GRD.eq A B ⟨fun z => by omega, fun z => by omega⟩ (fun z a b => ?_)
  obtain ⟨a0, a1, a2⟩ := hS.2 p0.toInt.toNat (by omega)
  have sk := h.stacks hv (by decide) z.1 z.2
  rw [show 460 * 0 + 105 * p0.toInt.toNat = 0 + 105 * p0.toInt.toNat by omega] at sk
  rw [a, b, a0, a1, a2, sk]
/-- a ware is in: for both -/
theorem in_iff {nw ns : Int} {wd dp wt br bk hb : Nat → Int32} {lids tops : Int32} {t sh st lv f ht rc rm : Nat → Int32} {p0 : Int32} (hT : TD nw wd dp wt br bk hb lids tops t) (hS : TSH ns ht rc rm t) (h : ST sh st lv f 0 nw ns) (hv : SV f) (h12 : nw ≤ 12) : ((0 ≤ p0.toInt ∧ p0.toInt < nw) ∧ ¬ (sh p0.toInt.toNat).toInt = -1) ↔ ((0 ≤ p0.toInt ∧ p0.toInt < (t 0).toInt) ∧ ¬ NI f 0 p0 (t 1).toInt) := by
  have e0 := hT.1
  have e1 := hS.1
  constructor
  · rintro ⟨z1, z2⟩
    refine ⟨by omega, fun z => z2 ?_⟩
    rw [← e1] at z
    exact h.out ⟨by omega, by omega⟩ z hv (by decide)
  · rintro ⟨z1, z2⟩
    refine ⟨by omega, fun z => z2 ?_⟩
    rw [← e1]
    exact h.ni ⟨by omega, by omega⟩ z
theorem ST.row2 {ns : Int} {sh st lv f : Nat → Int32} {nw : Int} {w s k q : Nat} (h : ST sh st lv f 0 nw ns) (hv : SV f) (hw : w < 12) (i : IN f 0 ns s k q w) (s4 : s < 4) (k8 : k < 8) : ROW sh st lv (sh w) (st w) (fun p => f (105 * s + 1 + 13 * k + 1 + p)) (f (105 * s + 1 + 13 * k)).toInt.toNat ∧ 0 ≤ (f (105 * s + 1 + 13 * k)).toInt ∧ (q : Int) < (f (105 * s + 1 + 13 * k)).toInt ∧ (f (105 * s + 1 + 13 * k)).toInt ≤ 12 := by
  obtain ⟨j1, j2, j3⟩ := h.pos hw i
  obtain ⟨i1, i2, i3, i4⟩ := i
  have es : (sh w).toInt.toNat = s := by omega
  have ek : (st w).toInt.toNat = k := by omega
  have hR := h.row hv (by decide) (s := sh w) (k := st w) (by omega) (by omega) (by omega) (by rw [es]; omega)
  have zz := hv.z12 (b := 0) (s := s) (k := k) (by decide) s4 k8
  rw [es, ek] at hR
  rw [show 460 * 0 + 105 * s = 105 * s by omega] at hR zz i3
  exact ⟨hR, zz.1, i3, zz.2⟩
theorem where_eq {nw ns : Int} {wd dp wt br bk hb : Nat → Int32} {lids tops : Int32} {t sh st lv f ht rc rm : Nat → Int32} {p0 p1 : Int32} {x y : Int} (hT : TD nw wd dp wt br bk hb lids tops t) (hS : TSH ns ht rc rm t) (h : ST sh st lv f 0 nw ns) (hv : SV f) (h12 : nw ≤ 12)
    (A : GRD ((0 ≤ p0.toInt ∧ p0.toInt < nw) ∧ ¬ (sh p0.toInt.toNat).toInt = -1) (-1) (fun x => ∀ (r : Nat → Int32) (n : Nat), ROW sh st lv (sh p0.toInt.toNat) (st p0.toInt.toNat) r n → x = whF p1.toInt (sh p0.toInt.toNat).toInt (st p0.toInt.toNat).toInt (lv p0.toInt.toNat).toInt ((n : Int) - 1 - (lv p0.toInt.toNat).toInt) (ftF (rsC wd dp lids) r (lv p0.toInt.toNat).toInt.toNat).toInt) x)
    (B : GRD ((0 ≤ p0.toInt ∧ p0.toInt < (t 0).toInt) ∧ ¬ NI f 0 p0 (t 1).toInt) (-1) (fun x => ∃ s k q : Nat, IN f 0 (t 1).toInt s k q p0.toInt.toNat ∧ s < 4 ∧ k < 8 ∧ x = whF p1.toInt (s : Int) (k : Int) (q : Int) ((f (105 * s + 1 + 13 * k)).toInt - 1 - (q : Int)) (ftF (rsM t) (fun p => f (105 * s + 1 + 13 * k + 1 + p)) q).toInt) y) : x = y := by
  refine GRD.eq A B (in_iff hT hS h hv h12) (fun z a b => ?_)
  obtain ⟨s, k, q, i, s4, k8, b⟩ := b
  rw [← hS.1] at i
  have w12 : p0.toInt.toNat < 12 := by omega
  obtain ⟨j1, j2, j3⟩ := h.pos w12 i
  obtain ⟨hR, n0, q1, _⟩ := h.row2 hv w12 i s4 k8
  have nw' := fun p hp => ROW.nw h (s := sh p0.toInt.toNat) (by omega) hR (p := p) hp
  have ef : ftF (rsC wd dp lids) (fun p => f (105 * s + 1 + 13 * k + 1 + p)) q = ftF (rsM t) (fun p => f (105 * s + 1 + 13 * k + 1 + p)) q := ftF_cong q (fun p hp => by
    have a1 := nw' p (by omega)
    have a2 := nw' (p + 1) (by omega)
    exact hT.rs (by omega) (by omega))
  rw [a _ _ hR, b, j1, j2, j3, Int.toNat_of_nonneg n0, show ((q : Int)).toNat = q by omega, ef]
theorem lift_eq {nw ns : Int} {wd dp wt br bk hb : Nat → Int32} {lids tops : Int32} {t sh st lv f ht rc rm : Nat → Int32} {p0 : Int32} {x y : Int} (hT : TD nw wd dp wt br bk hb lids tops t) (hS : TSH ns ht rc rm t) (h : ST sh st lv f 0 nw ns) (hv : SV f) (h12 : nw ≤ 12)
    (A : GRD ((0 ≤ p0.toInt ∧ p0.toInt < nw) ∧ ¬ (sh p0.toInt.toNat).toInt = -1) (-1) (fun x => ∀ (r : Nat → Int32) (n : Nat), ROW sh st lv (sh p0.toInt.toNat) (st p0.toInt.toNat) r n → x = (prC wt r (lv p0.toInt.toNat) (nI n) (rc (sh p0.toInt.toNat).toInt.toNat)).toInt) x)
    (B : GRD ((0 ≤ p0.toInt ∧ p0.toInt < (t 0).toInt) ∧ ¬ NI f 0 p0 (t 1).toInt) (-1) (fun x => ∃ s k q : Nat, IN f 0 (t 1).toInt s k q p0.toInt.toNat ∧ s < 4 ∧ k < 8 ∧ x = (lcF (wtM t) (fun p => f (105 * s + 1 + 13 * k + 1 + p)) (t (99 + 3 * s + 1)) q (f (105 * s + 1 + 13 * k)).toInt.toNat).toInt) y) : x = y := by
  refine GRD.eq A B (in_iff hT hS h hv h12) (fun z a b => ?_)
  obtain ⟨s, k, q, i, s4, k8, b⟩ := b
  rw [← hS.1] at i
  have w12 : p0.toInt.toNat < 12 := by omega
  obtain ⟨j1, j2, j3⟩ := h.pos w12 i
  have i1 := i.1
  obtain ⟨hR, n0, q1, n12⟩ := h.row2 hv w12 i s4 k8
  have nw' := fun p hp => ROW.nw h (s := sh p0.toInt.toNat) (by omega) hR (p := p) hp
  have el : lv p0.toInt.toNat = nI q := (i_eq _ _).mpr (by rw [nI_toInt (by omega)]; exact j3)
  have er : rc (sh p0.toInt.toNat).toInt.toNat = t (99 + 3 * s + 1) := by rw [show (sh p0.toInt.toNat).toInt.toNat = s by omega]; exact (i_eq _ _).mpr (hS.2 s (by omega)).2.1
  rw [a _ _ hR, b, el, er, ← lc_pr _ (by omega) (by omega), lcF_cong (wt := wt) (wt' := wtM t) (r' := fun p => f (105 * s + 1 + 13 * k + 1 + p)) _ (fun p _ hp => by have a1 := nw' p hp; exact hT.wt (by omega))]

theorem count_eq {nw ns nn na : Int} {wd dp wt br bk hb : Nat → Int32} {lids tops : Int32} {t sh st lv f ht rc rm : Nat → Int32} {p0 : Int32} {x y L M : Int} (hT : TD nw wd dp wt br bk hb lids tops t) (hS : TSH ns ht rc rm t) (h : ST sh st lv f 0 nw ns) (hv : SV f) (h0 : 0 ≤ nw) (h12 : nw ≤ 12) (hn : nn = (t 2).toInt) (ha : na = (f 421).toInt) (hl : L = M)
    (A : x = coF p0.toInt nw ns nn ((cnB (oT sh) nw.toNat : Nat) : Int) na L) (B : y = coF p0.toInt (t 0).toInt (t 1).toInt (t 2).toInt ((cnB (niB f 0 (t 1).toInt) (t 0).toInt.toNat : Nat) : Int) (f 421).toInt M) : x = y := by
  have e0 := hT.1
  have e1 := hS.1
  have ec : cnB (oT sh) nw.toNat = cnB (niB f 0 (t 1).toInt) (t 0).toInt.toNat := by
    rw [← e0, ← e1]
    refine cnB_cong _ (fun j hj => ?_)
    apply Bool.eq_iff_iff.mpr
    rw [oT_iff, niB_iff]
    have ej : (nI j).toInt = (j : Int) := nI_toInt (by omega)
    constructor
    · intro z; exact h.ni ⟨by omega, by omega⟩ (by rw [ej]; rw [show ((j : Int)).toNat = j by omega]; exact z)
    · intro z
      have := h.out ⟨by omega, by omega⟩ z hv (by decide)
      rw [ej, show ((j : Int)).toNat = j by omega] at this; exact this
  rw [A, B, ← e0, ← e1, ← hn, ← ha, ← hl, ec, ← e0, ← e1]

theorem pr_lc {nw ns : Int} {wd dp wt br bk hb : Nat → Int32} {lids tops : Int32} {t sh st lv f ht rc rm : Nat → Int32} {b : Nat} (hT : TD nw wd dp wt br bk hb lids tops t) (hS : TSH ns ht rc rm t) (h : ST sh st lv f b nw ns) (hv : SV f) (hb6 : b < 6) {w s k q : Nat} (w12 : w < 12) (i : IN f b ns s k q w) (s4 : s < 4) (k8 : k < 8) {z : Int32} (a : ∀ (r : Nat → Int32) (n : Nat), ROW sh st lv (sh w) (st w) r n → z = prC wt r (lv w) (nI n) (rc (sh w).toInt.toNat)) : z = lcF (wtM t) (fun p => f (460 * b + 105 * s + 1 + 13 * k + 1 + p)) (t (99 + 3 * s + 1)) q (f (460 * b + 105 * s + 1 + 13 * k)).toInt.toNat := by
  obtain ⟨j1, j2, j3⟩ := h.pos w12 i
  have i1 := i.1
  have i2 := i.2.1
  have i3 := i.2.2.1
  have es : (sh w).toInt.toNat = s := by omega
  have ek : (st w).toInt.toNat = k := by omega
  have hR := h.row hv hb6 (s := sh w) (k := st w) (by omega) (by omega) (by omega) (by rw [es]; omega)
  rw [es, ek] at hR
  have zz := hv.z12 hb6 s4 k8
  have nw' := fun p hp => ROW.nw h (s := sh w) (by omega) hR (p := p) hp
  have el : lv w = nI q := (i_eq _ _).mpr (by rw [nI_toInt (by omega)]; exact j3)
  have er : rc (sh w).toInt.toNat = t (99 + 3 * s + 1) := by rw [es]; exact (i_eq _ _).mpr (hS.2 s (by omega)).2.1
  rw [a _ _ hR, el, er, ← lc_pr _ (by omega) (by omega), lcF_cong (wt := wt) (wt' := wtM t) (r' := fun p => f (460 * b + 105 * s + 1 + 13 * k + 1 + p)) _ (fun p _ hp => by have a1 := nw' p hp; exact hT.wt (by omega))]
theorem pr_uniq {nw ns : Int} {wd dp wt br bk hb : Nat → Int32} {lids tops : Int32} {t sh st lv f ht rc rm : Nat → Int32} {b : Nat} (hT : TD nw wd dp wt br bk hb lids tops t) (hS : TSH ns ht rc rm t) (h : ST sh st lv f b nw ns) (hv : SV f) (hb6 : b < 6) {w : Int32} (hw : 0 ≤ w.toInt ∧ w.toInt < 12) {x y : Int32} (A : pAC wt rc sh st lv w.toInt.toNat x) (B : pAM t f b ns w y) : x = y := by
  rcases A with ⟨a1, a2⟩ | ⟨a1, a2⟩
  · rcases B with ⟨b1, b2⟩ | ⟨b1, b2⟩
    · exact a2.trans b2.symm
    · exact absurd (h.ni hw a1) b1
  · rcases B with ⟨b1, b2⟩ | ⟨b1, b2⟩
    · exact absurd (h.out hw b1 hv hb6) a1
    · obtain ⟨s, k, q, i, s4, k8, e⟩ := b2
      rw [e]; exact pr_lc hT hS h hv hb6 (by omega) i s4 k8 a2
theorem asked_eq {nw ns na : Int} {wd dp wt br bk hb : Nat → Int32} {lids tops : Int32} {t sh st lv as f ht rc rm : Nat → Int32} {x y : Int32} (hT : TD nw wd dp wt br bk hb lids tops t) (hS : TSH ns ht rc rm t) (h : ST sh st lv f 0 nw ns) (hv : SV f) (hq : AQ as na f 422) (hi : Iv 30 0 11 as) (hn : na ≤ 30) (ha : na = (f 421).toInt) (A : SR (pAA wt rc sh st lv as) na.toNat x) (B : SR (pAMA t f (t 1).toInt) (f 421).toInt.toNat y) : x = y := by
  rw [← ha, ← hS.1] at B
  refine SR.uniq _ _ _ (fun j hj a b pa pb => ?_) A B
  have e := hq j (by omega)
  have i := hi j (by omega)
  have pb' : pAM t f 0 ns (f (422 + j)) b := pb
  rw [← e] at pb'
  exact pr_uniq hT hS h hv (by decide) ⟨i.1, by omega⟩ pa pb'
theorem habit_eq {nw ns : Int} {wd dp wt br bk hb : Nat → Int32} {lids tops : Int32} {t sh st lv f ht rc rm : Nat → Int32} {p : Int32} {x y : Int} (hT : TD nw wd dp wt br bk hb lids tops t) (hS : TSH ns ht rc rm t) (h : ST sh st lv f 0 nw ns) (hv : SV f) (h0 : 0 ≤ nw) (h12 : nw ≤ 12)
    (A : ∃ ab : Int32, SR (pHC hb wt rc sh st lv) nw.toNat ab ∧ haC p ab (sumF hb nw.toNat) x)
    (B : ∃ ab : Int32, SR (pHM t f (t 1).toInt) (t 0).toInt.toNat ab ∧ 0 ≤ ab.toInt ∧ (0 ≤ (sumF (hbM t) (t 0).toInt.toNat).toInt ∧ (sumF (hbM t) (t 0).toInt.toNat).toInt ≤ 11988) ∧ haM p ab (sumF (hbM t) (t 0).toInt.toNat) y) : x = y := by
  rw [← hT.1, ← hS.1] at B
  obtain ⟨a, a1, a2⟩ := A
  obtain ⟨b, b1, b2, b3, b4⟩ := B
  have hbE : ∀ j : Nat, (j : Int) < nw → hb j = hbM t j := fun j hj => (i_eq _ _).mpr (hT.2 j hj).2.2.2.2.2.1
  have e1 : sumF hb nw.toNat = sumF (hbM t) nw.toNat := sumF_cong _ (fun j hj => hbE j (by omega))
  have e2 : a = b := SR.uniq _ _ _ (fun j hj u v pu pv => by
    obtain ⟨u', pu, eu'⟩ := pu
    obtain ⟨v', pv, ev'⟩ := pv
    have ej : (nI j).toInt = (j : Int) := nI_toInt (by omega)
    have pu' : pAC wt rc sh st lv (nI j).toInt.toNat u' := by rw [ej, Int.toNat_natCast]; exact pu
    rw [eu', ev', pr_uniq hT hS h hv (by decide) ⟨by omega, by omega⟩ pu' pv, hbE j (by omega)]) a1 b1
  subst e2
  rw [e1] at a2
  exact ha_eq a2 b4 b2 b3.1 b3.2
theorem wd_1059 : Cond.code yX10_whole cX10_whole 4 (some .long) ∈ WALL := wl_in (by decide +kernel) (by decide +kernel)
theorem wd_1060 : Cond.methodLink RL 7 yX10_whole ∈ WALL := wl_in (by decide +kernel) (by decide +kernel)
theorem wd_1061 : Cond.instanceMethod yX10_whole ∈ WALL := wl_in (by decide +kernel) (by decide +kernel)
theorem wd_1062 : Cond.selects RX10 yX10_whole yX10_whole ∈ WALL := wl_in (by decide +kernel) (by decide +kernel)
theorem wd_1063 : Cond.classLink RL 13 "java/util/NoSuchElementException" ∈ WALL := wl_in (by decide +kernel) (by decide +kernel)
theorem dL_whole_0 : decode cL_whole 0 = .ok (.aload_n 3, 1) := by decide +kernel
theorem dL_whole_1 : decode cL_whole 1 = .ok (.iconst 0, 1) := by decide +kernel
theorem dL_whole_2 : decode cL_whole 2 = .ok (.aload_n 0, 1) := by decide +kernel
theorem dL_whole_3 : decode cL_whole 3 = .ok (.iload_n 1, 1) := by decide +kernel
theorem dL_whole_4 : decode cL_whole 4 = .ok (.iload_n 2, 1) := by decide +kernel
theorem dL_whole_5 : decode cL_whole 5 = .ok (.invokevirtual 7, 3) := by decide +kernel
theorem dL_whole_8 : decode cL_whole 8 = .ok (.lastore, 1) := by decide +kernel
theorem dL_whole_9 : decode cL_whole 9 = .ok (.goto 7, 3) := by decide +kernel
theorem dL_whole_12 : decode cL_whole 12 = .ok (.astore 4, 2) := by decide +kernel
theorem dL_whole_14 : decode cL_whole 14 = .ok (.iconst 1, 1) := by decide +kernel
theorem dL_whole_15 : decode cL_whole 15 = .ok (.ireturn, 1) := by decide +kernel
theorem dL_whole_16 : decode cL_whole 16 = .ok (.iconst 0, 1) := by decide +kernel
theorem dL_whole_17 : decode cL_whole 17 = .ok (.ireturn, 1) := by decide +kernel
set_option maxHeartbeats 4000000 in
set_option maxRecDepth 100000 in
theorem c_L_whole (l : Launch) (htr : l.stackTraces = false) (D : DG) (cyC cyI cyJ cyZ cyO : ClassId) (x0 : Nat) (a0 : Nat) (a5 : Nat) (n0 : Nat) (n1 : Nat) (n2 : Nat) (n3 : Nat) (n4 : Nat) (d0 : Nat) (d1 : Nat) (z0 : Nat) (r0 : Nat) (k0 : Nat) (x1 : Nat) (q0 : Nat) (o0 : Nat) (h0 : Nat) (s0 : Nat) (a1 : Nat) (a2 : Nat) (a3 : Nat) (a4 : Nat) (a6 : Nat) (a7 : Nat) (a8 : Nat) (a9 : Nat) (a10 : Nat) (p0 : Int32) (p1 : Int32) (a_wares : Int32) (a_shelves : Int32) (a_nests : Int32) (a_lids : Int32) (a_tops : Int32) (n_askings : Int32) (n_cost : Int32) (n_laid : Int32) (a_breaks : Nat → Int32) (n_shelf : Nat → Int32) (n_stack : Nat → Int32) (n_level : Nat → Int32) (n_asking : Nat → Int32) (d_digits : Nat → Int64) (z_out : Nat → Int64) (h_a_wares : 0 ≤ (a_wares).toInt ∧ (a_wares).toInt ≤ 12) (h_a_shelves : 0 ≤ (a_shelves).toInt ∧ (a_shelves).toInt ≤ 4) (h_a_nests : 0 ≤ (a_nests).toInt ∧ (a_nests).toInt ≤ 4) (h_n_askings : 0 ≤ (n_askings).toInt ∧ (n_askings).toInt ≤ 30) (h_n_laid : 0 ≤ (n_laid).toInt ∧ (n_laid).toInt ≤ 1) (h_n_shelf : Iv 12 (-1) (3) n_shelf) (h_n_stack : Iv 12 (0) (7) n_stack) (h_n_level : Iv 12 (0) (11) n_level) (h_n_asking : Iv 30 (0) (11) n_asking) : KX l D (TY cyC cyI cyJ cyZ cyO) yL_whole cL_whole 5 (some .int) [(0, 9, 12, 13)] ({ frames := 7, cells := 1, slots := 6, locals := 113 } : Room) 1 6 [.ref x0, .int p0, .int p1, .ref z0] [(x0, .inr (10, [.ref r0, .ref a0, .ref n0, .ref k0, .ref x1, .ref q0, .ref o0, .ref h0, .ref s0, .ref d0])), (a0, .inr (9, [.int a_wares, .int a_shelves, .int a_nests, .ref a1, .ref a2, .ref a3, .ref a4, .ref a5, .ref a6, .int a_lids, .int a_tops, .ref a7, .ref a8, .ref a9, .ref a10])), (a5, .inl (cyI, 12, .inl a_breaks)), (n0, .inr (7, [.ref n1, .ref n2, .ref n3, .ref n4, .int n_askings, .int n_cost, .int n_laid])), (n1, .inl (cyI, 12, .inl n_shelf)), (n2, .inl (cyI, 12, .inl n_stack)), (n3, .inl (cyI, 12, .inl n_level)), (n4, .inl (cyI, 30, .inl n_asking)), (d0, .inr (2, [.ref d1])), (d1, .inl (cyJ, 4, .inr (.inl d_digits))), (z0, .inl (cyJ, 1, .inr (.inl z_out)))] (fun u => some (.int (u.2.1 0))) (fun u => (0 ≤ (u.2.1 0).toInt ∧ (u.2.1 0).toInt ≤ 1)) (fun u => [(x0, .inr (10, [.ref r0, .ref a0, .ref n0, .ref k0, .ref x1, .ref q0, .ref o0, .ref h0, .ref s0, .ref d0])), (a0, .inr (9, [.int a_wares, .int a_shelves, .int a_nests, .ref a1, .ref a2, .ref a3, .ref a4, .ref a5, .ref a6, .int a_lids, .int a_tops, .ref a7, .ref a8, .ref a9, .ref a10])), (a5, .inl (cyI, 12, .inl a_breaks)), (n0, .inr (7, [.ref n1, .ref n2, .ref n3, .ref n4, .int n_askings, .int n_cost, .int n_laid])), (n1, .inl (cyI, 12, .inl n_shelf)), (n2, .inl (cyI, 12, .inl n_stack)), (n3, .inl (cyI, 12, .inl n_level)), (n4, .inl (cyI, 30, .inl n_asking)), (d0, .inr (2, [.ref d1])), (d1, .inl (cyJ, 4, .inr (.inl (u.2.2.2 0)))), (z0, .inl (cyJ, 1, .inr (.inl (u.2.2.2 1))))]) := by
  refine KX.of (lv0 := [(0, .ref x0), (1, .int p0), (2, .int p1), (3, .ref z0)]) (by decide) rfl (Nat.le_of_ble_eq_true rfl) ?_
  intro p e s m args below meth c A C hE htab hr hk
  refine j_aload_n (pc := 0) C dL_whole_0 rfl 3 rfl ?_
  refine j_iconst (pc := 1) (v := 0) C dL_whole_1 (by decide) ?_
  refine j_aload_n (pc := 2) C dL_whole_2 rfl 0 rfl ?_
  refine j_iload_n (pc := 3) C dL_whole_3 rfl 1 rfl ?_
  refine j_iload_n (pc := 4) C dL_whole_4 rfl 2 rfl ?_
  refine j_callY (pc := 5) (As := [.int p0, .int p1]) (rest := [.int 0, .ref z0]) (wr := [(z0, .inl (cyJ, 1, .inr (.inl z_out)))]) C hE (c_X10_whole l htr D cyC cyI cyJ cyZ cyO x0 a0 a5 n0 n1 n2 n3 n4 d0 d1 r0 k0 x1 q0 o0 h0 s0 a1 a2 a3 a4 a6 a7 a8 a9 a10 p0 p1 a_wares a_shelves a_nests a_lids a_tops n_askings n_cost n_laid a_breaks n_shelf n_stack n_level n_asking d_digits h_a_wares h_a_shelves h_a_nests h_n_askings h_n_laid h_n_shelf h_n_stack h_n_level h_n_asking) wd_1059 wd_482 wd_1060 wd_1061 wd_1062 ⟨by decide, by decide, rfl⟩ rfl ⟨rfl, rfl, by decide, by decide⟩ ⟨by decide, by decide⟩ [0, 1, 2, 3, 4, 5, 6, 7, 8, 9] [10] rfl rfl ⟨by decide, by decide, by decide⟩ 0 rfl rfl rfl (Nat.le_of_ble_eq_true rfl) dL_whole_5 (x := ⟨0, 9, 12, 13⟩) htab (by decide) (by decide) wd_1063 (fun u_1 hw_2 => ?_) (fun q9 => ?_)
  · skip
    refine j_eq (ws2 := [(z0, .inl (cyJ, 1, .inr (.inl z_out))), (x0, .inr (10, [.ref r0, .ref a0, .ref n0, .ref k0, .ref x1, .ref q0, .ref o0, .ref h0, .ref s0, .ref d0])), (a0, .inr (9, [.int a_wares, .int a_shelves, .int a_nests, .ref a1, .ref a2, .ref a3, .ref a4, .ref a5, .ref a6, .int a_lids, .int a_tops, .ref a7, .ref a8, .ref a9, .ref a10])), (a5, .inl (cyI, 12, .inl a_breaks)), (n0, .inr (7, [.ref n1, .ref n2, .ref n3, .ref n4, .int n_askings, .int n_cost, .int n_laid])), (n1, .inl (cyI, 12, .inl n_shelf)), (n2, .inl (cyI, 12, .inl n_stack)), (n3, .inl (cyI, 12, .inl n_level)), (n4, .inl (cyI, 30, .inl n_asking)), (d0, .inr (2, [.ref d1])), (d1, .inl (cyJ, 4, .inr (.inl (u_1.2.2.2 1))))]) (pc2 := 8) (lv2 := [(0, .ref x0), (1, .int p0), (2, .int p1), (3, .ref z0)]) (st2 := [.long (u_1.2.2.2 0 0), .int 0, .ref z0]) rfl rfl rfl rfl ?_
    refine j_widen (k := 1) (n := 6) (by decide) (by decide) ?_
    obtain ⟨f_3, ef_3⟩ : ∃ z, z = vp_updL z_out 0 (u_1.2.2.2 0 0) := ⟨_, rfl⟩
    refine j_last (pc := 8) (k := 0) (ws' := [(z0, .inl (cyJ, 1, .inr (.inl f_3))), (x0, .inr (10, [.ref r0, .ref a0, .ref n0, .ref k0, .ref x1, .ref q0, .ref o0, .ref h0, .ref s0, .ref d0])), (a0, .inr (9, [.int a_wares, .int a_shelves, .int a_nests, .ref a1, .ref a2, .ref a3, .ref a4, .ref a5, .ref a6, .int a_lids, .int a_tops, .ref a7, .ref a8, .ref a9, .ref a10])), (a5, .inl (cyI, 12, .inl a_breaks)), (n0, .inr (7, [.ref n1, .ref n2, .ref n3, .ref n4, .int n_askings, .int n_cost, .int n_laid])), (n1, .inl (cyI, 12, .inl n_shelf)), (n2, .inl (cyI, 12, .inl n_stack)), (n3, .inl (cyI, 12, .inl n_level)), (n4, .inl (cyI, 30, .inl n_asking)), (d0, .inr (2, [.ref d1])), (d1, .inl (cyJ, 4, .inr (.inl (u_1.2.2.2 1))))]) C 0 2 rfl rfl (by decide) (by decide) (by decide) dL_whole_8 (by rw [ef_3]; rfl) ?_
    refine j_goto (pc := 9) (tgt := 16) C dL_whole_9 (by decide) ?_
    refine j_iconst (pc := 16) (v := 0) C dL_whole_16 (by decide) ?_
    have el_0 : (0 : Int32).toInt = 0 := rfl
    exact j_iret (pc := 17) C hr hk (fun i => [].getD i 0, fun i => [0].getD i 0, fun i => [].getD i (fun _ => 0), fun i => [(u_1.2.2.2 1), f_3].getD i (fun _ => 0)) rfl (show (0 ≤ ((0 : Int32)).toInt ∧ ((0 : Int32)).toInt ≤ 1) from (by omega)) [1, 2, 3, 4, 5, 6, 7, 8, 9, 10, 0] (by decide) rfl (by decide) (by decide) dL_whole_17
  · skip
    refine j_eq (ws2 := [(z0, .inl (cyJ, 1, .inr (.inl z_out))), (x0, .inr (10, [.ref r0, .ref a0, .ref n0, .ref k0, .ref x1, .ref q0, .ref o0, .ref h0, .ref s0, .ref d0])), (a0, .inr (9, [.int a_wares, .int a_shelves, .int a_nests, .ref a1, .ref a2, .ref a3, .ref a4, .ref a5, .ref a6, .int a_lids, .int a_tops, .ref a7, .ref a8, .ref a9, .ref a10])), (a5, .inl (cyI, 12, .inl a_breaks)), (n0, .inr (7, [.ref n1, .ref n2, .ref n3, .ref n4, .int n_askings, .int n_cost, .int n_laid])), (n1, .inl (cyI, 12, .inl n_shelf)), (n2, .inl (cyI, 12, .inl n_stack)), (n3, .inl (cyI, 12, .inl n_level)), (n4, .inl (cyI, 30, .inl n_asking)), (d0, .inr (2, [.ref d1])), (d1, .inl (cyJ, 4, .inr (.inl d_digits)))]) (pc2 := 12) (lv2 := [(0, .ref x0), (1, .int p0), (2, .int p1), (3, .ref z0)]) (st2 := [.ref q9]) rfl rfl rfl rfl ?_
    refine j_widen (k := 1) (n := 6) (by decide) (by decide) ?_
    refine j_astore (pc := 12) (lv' := [(4, .ref q9), (0, .ref x0), (1, .int p0), (2, .int p1), (3, .ref z0)]) C dL_whole_12 (by decide) rfl ?_
    refine j_iconst (pc := 14) (v := 1) C dL_whole_14 (by decide) ?_
    have el_1 : (1 : Int32).toInt = 1 := rfl
    exact j_iret (pc := 15) C hr hk (fun i => [].getD i 0, fun i => [1].getD i 0, fun i => [].getD i (fun _ => 0), fun i => [d_digits, z_out].getD i (fun _ => 0)) rfl (show (0 ≤ ((1 : Int32)).toInt ∧ ((1 : Int32)).toInt ≤ 1) from (by omega)) [1, 2, 3, 4, 5, 6, 7, 8, 9, 10, 0] (by decide) rfl (by decide) (by decide) dL_whole_15
set_option maxHeartbeats 4000000 in
set_option maxRecDepth 100000 in
theorem c_X11_lay_f (l : Launch) (D : DG) (cyC cyI cyJ cyZ cyO : ClassId) (m0 : Nat) (mtape : Nat) (msort : Nat) (mplace : Nat) (mvalue : Nat) (mwords : Nat) (mtold : Nat) (mop : Nat) (marg : Nat) (mnames : Nat) (mhasHabit : Nat) (mfactWords : Nat) (mfacts : Nat) (mpile : Nat) (mstates : Nat) (misMarked : Nat) (mrow : Nat) (mthr : Nat) (mmays : Nat) (mtall : Nat) (mweights : Nat) (mrowOfWare : Nat) (mneededOf : Nat) (mtried : Nat) (mbestRow : Nat) (mdigits : Nat) (m_thrown : Int32) (m_taped : Int32) (m_size : Int32) (m_at : Int32) (m_fault : Int32) (m_codes : Int32) (m_isNew : Int32) (m_inShelf : Int32) (m_inStack : Int32) (m_inPlace : Int32) (m_rowMany : Int32) (m_goShelf : Int32) (m_goStack : Int32) (m_goLeft : Int32) (m_bestCost : Int32) (m_bestMany : Int32) (m_bestShelf : Int32) (m_bestSet : Int32) (p0 : Int64) (m_tape : Nat → Int32) (h_m_taped : 0 ≤ (m_taped).toInt ∧ (m_taped).toInt ≤ 1000) (h_m_size : 0 ≤ (m_size).toInt ∧ (m_size).toInt ≤ 1000) (h_m_at : 0 ≤ (m_at).toInt ∧ (m_at).toInt ≤ 1000) (h_m_fault : 0 ≤ (m_fault).toInt ∧ (m_fault).toInt ≤ 16005) (h_m_codes : 0 ≤ (m_codes).toInt ∧ (m_codes).toInt ≤ 1000) (h_m_isNew : 0 ≤ (m_isNew).toInt ∧ (m_isNew).toInt ≤ 1) (h_m_inShelf : 0 ≤ (m_inShelf).toInt ∧ (m_inShelf).toInt ≤ 3) (h_m_inStack : 0 ≤ (m_inStack).toInt ∧ (m_inStack).toInt ≤ 7) (h_m_inPlace : 0 ≤ (m_inPlace).toInt ∧ (m_inPlace).toInt ≤ 11) (h_m_rowMany : 0 ≤ (m_rowMany).toInt ∧ (m_rowMany).toInt ≤ 12) (h_m_goShelf : -1 ≤ (m_goShelf).toInt ∧ (m_goShelf).toInt ≤ 3) (h_m_bestMany : 0 ≤ (m_bestMany).toInt ∧ (m_bestMany).toInt ≤ 7) (h_m_bestShelf : 0 ≤ (m_bestShelf).toInt ∧ (m_bestShelf).toInt ≤ 3) : KK l D (TY cyC cyI cyJ cyZ cyO) yX11_lay cX11_lay 5 none ({ frames := 0, cells := 0, slots := 0, locals := 0 } : Room) 0 0 [.ref m0, .long p0] [(m0, .inr (11, [.int m_thrown, .ref mtape, .int m_taped, .int m_size, .ref msort, .ref mplace, .ref mvalue, .int m_at, .int m_fault, .ref mwords, .ref mtold, .ref mop, .ref marg, .int m_codes, .ref mnames, .ref mhasHabit, .int m_isNew, .ref mfactWords, .ref mfacts, .ref mpile, .ref mstates, .ref misMarked, .int m_inShelf, .int m_inStack, .int m_inPlace, .ref mrow, .int m_rowMany, .ref mthr, .ref mmays, .ref mtall, .ref mweights, .ref mrowOfWare, .ref mneededOf, .int m_goShelf, .int m_goStack, .int m_goLeft, .ref mtried, .ref mbestRow, .int m_bestCost, .int m_bestMany, .int m_bestShelf, .int m_bestSet, .ref mdigits])), (mtape, .inl (cyI, 1000, .inl m_tape))] (fun u => none) (fun u => (0 ≤ (u.2.1 0).toInt ∧ (u.2.1 0).toInt ≤ 1000) ∧ (((u.2.1 0)).toInt = layN (m_taped).toInt p0 8) ∧ ((u.2.2.1 0) = layF m_tape (m_taped).toInt p0 8)) (fun u => [(m0, .inr (11, [.int m_thrown, .ref mtape, .int (u.2.1 0), .int m_size, .ref msort, .ref mplace, .ref mvalue, .int m_at, .int m_fault, .ref mwords, .ref mtold, .ref mop, .ref marg, .int m_codes, .ref mnames, .ref mhasHabit, .int m_isNew, .ref mfactWords, .ref mfacts, .ref mpile, .ref mstates, .ref misMarked, .int m_inShelf, .int m_inStack, .int m_inPlace, .ref mrow, .int m_rowMany, .ref mthr, .ref mmays, .ref mtall, .ref mweights, .ref mrowOfWare, .ref mneededOf, .int m_goShelf, .int m_goStack, .int m_goLeft, .ref mtried, .ref mbestRow, .int m_bestCost, .int m_bestMany, .int m_bestShelf, .int m_bestSet, .ref mdigits])), (mtape, .inl (cyI, 1000, .inl (u.2.2.1 0)))]) := by
  refine KK.of (lv0 := [(0, .ref m0), (1, .long p0)]) (by decide) rfl (Nat.le_of_ble_eq_true rfl) ?_
  intro p e s m args below meth c A C hr hk hin
  refine j_bipush (pc := 0) (v := 56) C dX11_lay_0 (by decide) ?_
  refine j_istore_n (pc := 2) (lv' := [(3, .int 56), (0, .ref m0), (1, .long p0)]) C dX11_lay_2 rfl (by decide) rfl ?_
  have loop_1 : ∀ (k_1 : Nat) (x1_3 : Int32) (y1_m0_2 : Int32) (g1_mtape : Nat → Int32), (-8 ≤ (x1_3).toInt ∧ (x1_3).toInt ≤ 56) → (0 ≤ (y1_m0_2).toInt ∧ (y1_m0_2).toInt ≤ 1000) → (x1_3.toInt % 8 = 0) → (y1_m0_2.toInt = layN (m_taped).toInt p0 ((56 - x1_3.toInt) / 8).toNat) → (g1_mtape = layF m_tape (m_taped).toInt p0 ((56 - x1_3.toInt) / 8).toNat) → (x1_3.toInt + 9).toNat < k_1 → J p l e ({ frames := 0, cells := 0, slots := 0, locals := 0 } : Room) s m args below meth c D A 5 0 0 (QX below D (TY cyC cyI cyJ cyZ cyO) A (fun u => none) (fun u => (0 ≤ (u.2.1 0).toInt ∧ (u.2.1 0).toInt ≤ 1000) ∧ (((u.2.1 0)).toInt = layN (m_taped).toInt p0 8) ∧ ((u.2.2.1 0) = layF m_tape (m_taped).toInt p0 8)) (fun u => [(m0, .inr (11, [.int m_thrown, .ref mtape, .int (u.2.1 0), .int m_size, .ref msort, .ref mplace, .ref mvalue, .int m_at, .int m_fault, .ref mwords, .ref mtold, .ref mop, .ref marg, .int m_codes, .ref mnames, .ref mhasHabit, .int m_isNew, .ref mfactWords, .ref mfacts, .ref mpile, .ref mstates, .ref misMarked, .int m_inShelf, .int m_inStack, .int m_inPlace, .ref mrow, .int m_rowMany, .ref mthr, .ref mmays, .ref mtall, .ref mweights, .ref mrowOfWare, .ref mneededOf, .int m_goShelf, .int m_goStack, .int m_goLeft, .ref mtried, .ref mbestRow, .int m_bestCost, .int m_bestMany, .int m_bestShelf, .int m_bestSet, .ref mdigits])), (mtape, .inl (cyI, 1000, .inl (u.2.2.1 0)))]) args s 0 0) [(m0, .inr (11, [.int m_thrown, .ref mtape, .int y1_m0_2, .int m_size, .ref msort, .ref mplace, .ref mvalue, .int m_at, .int m_fault, .ref mwords, .ref mtold, .ref mop, .ref marg, .int m_codes, .ref mnames, .ref mhasHabit, .int m_isNew, .ref mfactWords, .ref mfacts, .ref mpile, .ref mstates, .ref misMarked, .int m_inShelf, .int m_inStack, .int m_inPlace, .ref mrow, .int m_rowMany, .ref mthr, .ref mmays, .ref mtall, .ref mweights, .ref mrowOfWare, .ref mneededOf, .int m_goShelf, .int m_goStack, .int m_goLeft, .ref mtried, .ref mbestRow, .int m_bestCost, .int m_bestMany, .int m_bestShelf, .int m_bestSet, .ref mdigits])), (mtape, .inl (cyI, 1000, .inl g1_mtape))] 3 [(3, .int x1_3), (0, .ref m0), (1, .long p0)] [] := by
    intro k_1
    induction k_1 with
    | zero =>
      intro x1_3 y1_m0_2 g1_mtape hi_1_0 hi_1_1 hr_1 hq_1_0 hq_1_1 hm_1
      exact absurd hm_1 (Nat.not_lt_zero _)
    | succ k_1 ih_1 =>
      intro x1_3 y1_m0_2 g1_mtape hi_1_0 hi_1_1 hr_1 hq_1_0 hq_1_1 hm_1
      refine j_iload_n (pc := 3) C dX11_lay_3 rfl 0 rfl ?_
      refine j_if_lt (pc := 4) (tgt := 75) C dX11_lay_4 (by decide) (fun c_2 => ?_) (fun c_2 => ?_)
      · skip
        have el_0 : (0 : Int32).toInt = 0 := rfl
        rw [i_lt] at c_2
        exact j_vret (pc := 75) C hr hk (fun i => [].getD i 0, fun i => [y1_m0_2].getD i 0, fun i => [g1_mtape].getD i (fun _ => 0), fun i => [].getD i (fun _ => 0)) rfl (show (0 ≤ (y1_m0_2).toInt ∧ (y1_m0_2).toInt ≤ 1000) ∧ ((y1_m0_2).toInt = layN (m_taped).toInt p0 8) ∧ (g1_mtape = layF m_tape (m_taped).toInt p0 8) from ⟨hi_1_1, (by have e8 : ((56 - (x1_3).toInt) / 8).toNat = 8 := (by omega); rw [← e8]; exact hq_1_0), (by have e8 : ((56 - (x1_3).toInt) / 8).toNat = 8 := (by omega); rw [← e8]; exact hq_1_1)⟩) [0, 1] (by decide) rfl (by decide) (by decide) dX11_lay_75
      · skip
        have el_0 : (0 : Int32).toInt = 0 := rfl
        rw [i_lt] at c_2
        refine j_lload_n (pc := 7) C dX11_lay_7 rfl 2 rfl ?_
        refine j_iload_n (pc := 8) C dX11_lay_8 rfl 0 rfl ?_
        refine j_lshr (pc := 9) C dX11_lay_9 rfl ?_
        refine j_l2i (pc := 10) C dX11_lay_10 rfl ?_
        refine j_sipush (pc := 11) (v := 255) C dX11_lay_11 (by decide) ?_
        obtain ⟨v_3, ev_3⟩ : ∃ z : Int32, ((p0 >>> ((x1_3 : Int32).toInt64 &&& 63))).toInt32 &&& 255 = z := ⟨_, rfl⟩
        have el_255 : (255 : Int32).toInt = 255 := rfl
        have hv_3 : 0 ≤ v_3.toInt ∧ v_3.toInt ≤ 255 := by rw [← ev_3]; exact andm_r _ 8 (by decide) (by decide)
        refine j_iand (pc := 14) (v := v_3) C dX11_lay_14 ev_3 ?_
        refine j_istore (pc := 15) (lv' := [(4, .int v_3), (3, .int x1_3), (0, .ref m0), (1, .long p0)]) C dX11_lay_15 (by decide) rfl ?_
        refine j_iload (pc := 17) C dX11_lay_17 0 rfl ?_
        refine j_bipush (pc := 19) (v := 10) C dX11_lay_19 (by decide) ?_
        refine j_icmp_eq (pc := 21) (tgt := 38) C dX11_lay_21 (by decide) (fun c_4 => ?_) (fun c_4 => ?_)
        · skip
          have el_10 : (10 : Int32).toInt = 10 := rfl
          rw [i_eq] at c_4
          refine j_aload_n (pc := 38) C dX11_lay_38 rfl 2 rfl ?_
          refine j_get (pc := 39) (ci := 11) (v := .int y1_m0_2) C inw_11 0 rfl rfl 2 (by decide) wd_627 rfl rfl dX11_lay_39 ?_
          refine j_sipush (pc := 42) (v := 1000) C dX11_lay_42 (by decide) ?_
          refine j_icmp_ge (pc := 45) (tgt := 69) C dX11_lay_45 (by decide) (fun c_5 => ?_) (fun c_5 => ?_)
          · skip
            have el_1000 : (1000 : Int32).toInt = 1000 := rfl
            rw [i_le] at c_5
            have k0c_5 : y1_m0_2.toInt = 1000 := by omega
            obtain ⟨v_6, ev_6⟩ : ∃ z : Int32, x1_3 + (-8) = z := ⟨_, rfl⟩
            have el_m8 : ((-8) : Int32).toInt = (-8) := rfl
            have hv_6 : v_6.toInt = x1_3.toInt + ((-8) : Int32).toInt := by rw [← ev_6]; exact fb_addI (by omega) (by omega)
            refine j_iinc (pc := 69) (v := v_6) (lv' := [(3, .int v_6), (4, .int v_3), (0, .ref m0), (1, .long p0)]) C dX11_lay_69 1 rfl ev_6 (by decide) rfl ?_
            refine j_goto (pc := 72) (tgt := 3) C dX11_lay_72 (by decide) ?_
            exact j_lv [0, 2, 3] rfl (ih_1 v_6 y1_m0_2 g1_mtape (by omega) hi_1_1 (by omega) (by rw [show ((56 - (v_6).toInt) / 8).toNat = ((56 - (x1_3).toInt) / 8).toNat + 1 from (by omega)]; show _ = ladd (layN (m_taped).toInt p0 ((56 - (x1_3).toInt) / 8).toNat) (bytS p0 (nI (56 - 8 * ((56 - (x1_3).toInt) / 8).toNat))); rw [← hq_1_0, show nI (56 - 8 * ((56 - (x1_3).toInt) / 8).toNat) = x1_3 from (by (rw [show 56 - 8 * ((56 - (x1_3).toInt) / 8).toNat = (x1_3).toInt.toNat from (by omega)]; exact nI_bk (by omega))), show bytS p0 x1_3 = v_3 from ev_3]; unfold ladd; rw [if_neg (by omega)]) (by rw [show ((56 - (v_6).toInt) / 8).toNat = ((56 - (x1_3).toInt) / 8).toNat + 1 from (by omega)]; show _ = lrow (layF m_tape (m_taped).toInt p0 ((56 - (x1_3).toInt) / 8).toNat) (layN (m_taped).toInt p0 ((56 - (x1_3).toInt) / 8).toNat) (bytS p0 (nI (56 - 8 * ((56 - (x1_3).toInt) / 8).toNat))); rw [← hq_1_1, ← hq_1_0, show nI (56 - 8 * ((56 - (x1_3).toInt) / 8).toNat) = x1_3 from (by (rw [show 56 - 8 * ((56 - (x1_3).toInt) / 8).toNat = (x1_3).toInt.toNat from (by omega)]; exact nI_bk (by omega))), show bytS p0 x1_3 = v_3 from ev_3]; unfold lrow; rw [if_neg (by omega)]) (by omega))
          · skip
            have el_1000 : (1000 : Int32).toInt = 1000 := rfl
            rw [i_le] at c_5
            refine j_aload_n (pc := 48) C dX11_lay_48 rfl 2 rfl ?_
            refine j_get (pc := 49) (ci := 11) (v := .ref mtape) C inw_11 0 rfl rfl 1 (by decide) wd_628 rfl rfl dX11_lay_49 ?_
            refine j_aload_n (pc := 52) C dX11_lay_52 rfl 2 rfl ?_
            refine j_get (pc := 53) (ci := 11) (v := .int y1_m0_2) C inw_11 0 rfl rfl 2 (by decide) wd_627 rfl rfl dX11_lay_53 ?_
            refine j_iload (pc := 56) C dX11_lay_56 0 rfl ?_
            obtain ⟨f_7, ef_7⟩ : ∃ z, z = upd g1_mtape (y1_m0_2).toInt.toNat v_3 := ⟨_, rfl⟩
            refine j_iast (pc := 58) (k := (y1_m0_2).toInt.toNat) (ws' := [(m0, .inr (11, [.int m_thrown, .ref mtape, .int y1_m0_2, .int m_size, .ref msort, .ref mplace, .ref mvalue, .int m_at, .int m_fault, .ref mwords, .ref mtold, .ref mop, .ref marg, .int m_codes, .ref mnames, .ref mhasHabit, .int m_isNew, .ref mfactWords, .ref mfacts, .ref mpile, .ref mstates, .ref misMarked, .int m_inShelf, .int m_inStack, .int m_inPlace, .ref mrow, .int m_rowMany, .ref mthr, .ref mmays, .ref mtall, .ref mweights, .ref mrowOfWare, .ref mneededOf, .int m_goShelf, .int m_goStack, .int m_goLeft, .ref mtried, .ref mbestRow, .int m_bestCost, .int m_bestMany, .int m_bestShelf, .int m_bestSet, .ref mdigits])), (mtape, .inl (cyI, 1000, .inl f_7))]) C 1 1 rfl rfl (i_nn hi_1_1.1) rfl (i_lt_n hi_1_1.1 (by omega)) dX11_lay_58 (by rw [ef_7]; rfl) ?_
            refine j_aload_n (pc := 59) C dX11_lay_59 rfl 2 rfl ?_
            refine j_dup (pc := 60) C dX11_lay_60 rfl ?_
            refine j_get (pc := 61) (ci := 11) (v := .int y1_m0_2) C inw_11 0 rfl rfl 2 (by decide) wd_627 rfl rfl dX11_lay_61 ?_
            refine j_iconst (pc := 64) (v := 1) C dX11_lay_64 (by decide) ?_
            obtain ⟨v_8, ev_8⟩ : ∃ z : Int32, y1_m0_2 + 1 = z := ⟨_, rfl⟩
            have el_1 : (1 : Int32).toInt = 1 := rfl
            have hv_8 : v_8.toInt = y1_m0_2.toInt + (1 : Int32).toInt := by rw [← ev_8]; exact fb_addI (by omega) (by omega)
            refine j_iadd (pc := 65) (v := v_8) C dX11_lay_65 ev_8 ?_
            refine j_put (pc := 66) (ci := 11) (v := .int v_8) (ws' := [(m0, .inr (11, [.int m_thrown, .ref mtape, .int v_8, .int m_size, .ref msort, .ref mplace, .ref mvalue, .int m_at, .int m_fault, .ref mwords, .ref mtold, .ref mop, .ref marg, .int m_codes, .ref mnames, .ref mhasHabit, .int m_isNew, .ref mfactWords, .ref mfacts, .ref mpile, .ref mstates, .ref misMarked, .int m_inShelf, .int m_inStack, .int m_inPlace, .ref mrow, .int m_rowMany, .ref mthr, .ref mmays, .ref mtall, .ref mweights, .ref mrowOfWare, .ref mneededOf, .int m_goShelf, .int m_goStack, .int m_goLeft, .ref mtried, .ref mbestRow, .int m_bestCost, .int m_bestMany, .int m_bestShelf, .int m_bestSet, .ref mdigits])), (mtape, .inl (cyI, 1000, .inl f_7))]) C inw_11 0 rfl rfl 2 (by decide) wd_627 rfl tyX11_ok nmX11 rfl (tyX11_ok 2 (by decide)) rfl rfl (Nat.le_of_ble_eq_true rfl) dX11_lay_66 rfl ?_
            obtain ⟨v_9, ev_9⟩ : ∃ z : Int32, x1_3 + (-8) = z := ⟨_, rfl⟩
            have el_m8 : ((-8) : Int32).toInt = (-8) := rfl
            have hv_9 : v_9.toInt = x1_3.toInt + ((-8) : Int32).toInt := by rw [← ev_9]; exact fb_addI (by omega) (by omega)
            refine j_iinc (pc := 69) (v := v_9) (lv' := [(3, .int v_9), (4, .int v_3), (0, .ref m0), (1, .long p0)]) C dX11_lay_69 1 rfl ev_9 (by decide) rfl ?_
            refine j_goto (pc := 72) (tgt := 3) C dX11_lay_72 (by decide) ?_
            exact j_lv [0, 2, 3] rfl (ih_1 v_9 v_8 f_7 (by omega) (by omega) (by omega) (by rw [show ((56 - (v_9).toInt) / 8).toNat = ((56 - (x1_3).toInt) / 8).toNat + 1 from (by omega)]; show _ = ladd (layN (m_taped).toInt p0 ((56 - (x1_3).toInt) / 8).toNat) (bytS p0 (nI (56 - 8 * ((56 - (x1_3).toInt) / 8).toNat))); rw [← hq_1_0, show nI (56 - 8 * ((56 - (x1_3).toInt) / 8).toNat) = x1_3 from (by (rw [show 56 - 8 * ((56 - (x1_3).toInt) / 8).toNat = (x1_3).toInt.toNat from (by omega)]; exact nI_bk (by omega))), show bytS p0 x1_3 = v_3 from ev_3]; unfold ladd; rw [if_pos (by omega)]; omega) (by rw [show ((56 - (v_9).toInt) / 8).toNat = ((56 - (x1_3).toInt) / 8).toNat + 1 from (by omega)]; show _ = lrow (layF m_tape (m_taped).toInt p0 ((56 - (x1_3).toInt) / 8).toNat) (layN (m_taped).toInt p0 ((56 - (x1_3).toInt) / 8).toNat) (bytS p0 (nI (56 - 8 * ((56 - (x1_3).toInt) / 8).toNat))); rw [← hq_1_1, ← hq_1_0, show nI (56 - 8 * ((56 - (x1_3).toInt) / 8).toNat) = x1_3 from (by (rw [show 56 - 8 * ((56 - (x1_3).toInt) / 8).toNat = (x1_3).toInt.toNat from (by omega)]; exact nI_bk (by omega))), show bytS p0 x1_3 = v_3 from ev_3]; unfold lrow; rw [if_pos (by omega)]; exact ef_7) (by omega))
        · skip
          have el_10 : (10 : Int32).toInt = 10 := rfl
          rw [i_eq] at c_4
          refine j_iload (pc := 24) C dX11_lay_24 0 rfl ?_
          refine j_bipush (pc := 26) (v := 32) C dX11_lay_26 (by decide) ?_
          refine j_icmp_lt (pc := 28) (tgt := 69) C dX11_lay_28 (by decide) (fun c_10 => ?_) (fun c_10 => ?_)
          · skip
            have el_32 : (32 : Int32).toInt = 32 := rfl
            rw [i_lt] at c_10
            obtain ⟨v_11, ev_11⟩ : ∃ z : Int32, x1_3 + (-8) = z := ⟨_, rfl⟩
            have el_m8 : ((-8) : Int32).toInt = (-8) := rfl
            have hv_11 : v_11.toInt = x1_3.toInt + ((-8) : Int32).toInt := by rw [← ev_11]; exact fb_addI (by omega) (by omega)
            refine j_iinc (pc := 69) (v := v_11) (lv' := [(3, .int v_11), (4, .int v_3), (0, .ref m0), (1, .long p0)]) C dX11_lay_69 1 rfl ev_11 (by decide) rfl ?_
            refine j_goto (pc := 72) (tgt := 3) C dX11_lay_72 (by decide) ?_
            exact j_lv [0, 2, 3] rfl (ih_1 v_11 y1_m0_2 g1_mtape (by omega) hi_1_1 (by omega) (by rw [show ((56 - (v_11).toInt) / 8).toNat = ((56 - (x1_3).toInt) / 8).toNat + 1 from (by omega)]; show _ = ladd (layN (m_taped).toInt p0 ((56 - (x1_3).toInt) / 8).toNat) (bytS p0 (nI (56 - 8 * ((56 - (x1_3).toInt) / 8).toNat))); rw [← hq_1_0, show nI (56 - 8 * ((56 - (x1_3).toInt) / 8).toNat) = x1_3 from (by (rw [show 56 - 8 * ((56 - (x1_3).toInt) / 8).toNat = (x1_3).toInt.toNat from (by omega)]; exact nI_bk (by omega))), show bytS p0 x1_3 = v_3 from ev_3]; unfold ladd; rw [if_neg (by omega)]) (by rw [show ((56 - (v_11).toInt) / 8).toNat = ((56 - (x1_3).toInt) / 8).toNat + 1 from (by omega)]; show _ = lrow (layF m_tape (m_taped).toInt p0 ((56 - (x1_3).toInt) / 8).toNat) (layN (m_taped).toInt p0 ((56 - (x1_3).toInt) / 8).toNat) (bytS p0 (nI (56 - 8 * ((56 - (x1_3).toInt) / 8).toNat))); rw [← hq_1_1, ← hq_1_0, show nI (56 - 8 * ((56 - (x1_3).toInt) / 8).toNat) = x1_3 from (by (rw [show 56 - 8 * ((56 - (x1_3).toInt) / 8).toNat = (x1_3).toInt.toNat from (by omega)]; exact nI_bk (by omega))), show bytS p0 x1_3 = v_3 from ev_3]; unfold lrow; rw [if_neg (by omega)]) (by omega))
          · skip
            have el_32 : (32 : Int32).toInt = 32 := rfl
            rw [i_lt] at c_10
            refine j_iload (pc := 31) C dX11_lay_31 0 rfl ?_
            refine j_bipush (pc := 33) (v := 126) C dX11_lay_33 (by decide) ?_
            refine j_icmp_gt (pc := 35) (tgt := 69) C dX11_lay_35 (by decide) (fun c_12 => ?_) (fun c_12 => ?_)
            · skip
              have el_126 : (126 : Int32).toInt = 126 := rfl
              rw [i_lt] at c_12
              obtain ⟨v_13, ev_13⟩ : ∃ z : Int32, x1_3 + (-8) = z := ⟨_, rfl⟩
              have el_m8 : ((-8) : Int32).toInt = (-8) := rfl
              have hv_13 : v_13.toInt = x1_3.toInt + ((-8) : Int32).toInt := by rw [← ev_13]; exact fb_addI (by omega) (by omega)
              refine j_iinc (pc := 69) (v := v_13) (lv' := [(3, .int v_13), (4, .int v_3), (0, .ref m0), (1, .long p0)]) C dX11_lay_69 1 rfl ev_13 (by decide) rfl ?_
              refine j_goto (pc := 72) (tgt := 3) C dX11_lay_72 (by decide) ?_
              exact j_lv [0, 2, 3] rfl (ih_1 v_13 y1_m0_2 g1_mtape (by omega) hi_1_1 (by omega) (by rw [show ((56 - (v_13).toInt) / 8).toNat = ((56 - (x1_3).toInt) / 8).toNat + 1 from (by omega)]; show _ = ladd (layN (m_taped).toInt p0 ((56 - (x1_3).toInt) / 8).toNat) (bytS p0 (nI (56 - 8 * ((56 - (x1_3).toInt) / 8).toNat))); rw [← hq_1_0, show nI (56 - 8 * ((56 - (x1_3).toInt) / 8).toNat) = x1_3 from (by (rw [show 56 - 8 * ((56 - (x1_3).toInt) / 8).toNat = (x1_3).toInt.toNat from (by omega)]; exact nI_bk (by omega))), show bytS p0 x1_3 = v_3 from ev_3]; unfold ladd; rw [if_neg (by omega)]) (by rw [show ((56 - (v_13).toInt) / 8).toNat = ((56 - (x1_3).toInt) / 8).toNat + 1 from (by omega)]; show _ = lrow (layF m_tape (m_taped).toInt p0 ((56 - (x1_3).toInt) / 8).toNat) (layN (m_taped).toInt p0 ((56 - (x1_3).toInt) / 8).toNat) (bytS p0 (nI (56 - 8 * ((56 - (x1_3).toInt) / 8).toNat))); rw [← hq_1_1, ← hq_1_0, show nI (56 - 8 * ((56 - (x1_3).toInt) / 8).toNat) = x1_3 from (by (rw [show 56 - 8 * ((56 - (x1_3).toInt) / 8).toNat = (x1_3).toInt.toNat from (by omega)]; exact nI_bk (by omega))), show bytS p0 x1_3 = v_3 from ev_3]; unfold lrow; rw [if_neg (by omega)]) (by omega))
            · skip
              have el_126 : (126 : Int32).toInt = 126 := rfl
              rw [i_lt] at c_12
              refine j_aload_n (pc := 38) C dX11_lay_38 rfl 2 rfl ?_
              refine j_get (pc := 39) (ci := 11) (v := .int y1_m0_2) C inw_11 0 rfl rfl 2 (by decide) wd_627 rfl rfl dX11_lay_39 ?_
              refine j_sipush (pc := 42) (v := 1000) C dX11_lay_42 (by decide) ?_
              refine j_icmp_ge (pc := 45) (tgt := 69) C dX11_lay_45 (by decide) (fun c_14 => ?_) (fun c_14 => ?_)
              · skip
                have el_1000 : (1000 : Int32).toInt = 1000 := rfl
                rw [i_le] at c_14
                have k0c_14 : y1_m0_2.toInt = 1000 := by omega
                obtain ⟨v_15, ev_15⟩ : ∃ z : Int32, x1_3 + (-8) = z := ⟨_, rfl⟩
                have el_m8 : ((-8) : Int32).toInt = (-8) := rfl
                have hv_15 : v_15.toInt = x1_3.toInt + ((-8) : Int32).toInt := by rw [← ev_15]; exact fb_addI (by omega) (by omega)
                refine j_iinc (pc := 69) (v := v_15) (lv' := [(3, .int v_15), (4, .int v_3), (0, .ref m0), (1, .long p0)]) C dX11_lay_69 1 rfl ev_15 (by decide) rfl ?_
                refine j_goto (pc := 72) (tgt := 3) C dX11_lay_72 (by decide) ?_
                exact j_lv [0, 2, 3] rfl (ih_1 v_15 y1_m0_2 g1_mtape (by omega) hi_1_1 (by omega) (by rw [show ((56 - (v_15).toInt) / 8).toNat = ((56 - (x1_3).toInt) / 8).toNat + 1 from (by omega)]; show _ = ladd (layN (m_taped).toInt p0 ((56 - (x1_3).toInt) / 8).toNat) (bytS p0 (nI (56 - 8 * ((56 - (x1_3).toInt) / 8).toNat))); rw [← hq_1_0, show nI (56 - 8 * ((56 - (x1_3).toInt) / 8).toNat) = x1_3 from (by (rw [show 56 - 8 * ((56 - (x1_3).toInt) / 8).toNat = (x1_3).toInt.toNat from (by omega)]; exact nI_bk (by omega))), show bytS p0 x1_3 = v_3 from ev_3]; unfold ladd; rw [if_neg (by omega)]) (by rw [show ((56 - (v_15).toInt) / 8).toNat = ((56 - (x1_3).toInt) / 8).toNat + 1 from (by omega)]; show _ = lrow (layF m_tape (m_taped).toInt p0 ((56 - (x1_3).toInt) / 8).toNat) (layN (m_taped).toInt p0 ((56 - (x1_3).toInt) / 8).toNat) (bytS p0 (nI (56 - 8 * ((56 - (x1_3).toInt) / 8).toNat))); rw [← hq_1_1, ← hq_1_0, show nI (56 - 8 * ((56 - (x1_3).toInt) / 8).toNat) = x1_3 from (by (rw [show 56 - 8 * ((56 - (x1_3).toInt) / 8).toNat = (x1_3).toInt.toNat from (by omega)]; exact nI_bk (by omega))), show bytS p0 x1_3 = v_3 from ev_3]; unfold lrow; rw [if_neg (by omega)]) (by omega))
              · skip
                have el_1000 : (1000 : Int32).toInt = 1000 := rfl
                rw [i_le] at c_14
                refine j_aload_n (pc := 48) C dX11_lay_48 rfl 2 rfl ?_
                refine j_get (pc := 49) (ci := 11) (v := .ref mtape) C inw_11 0 rfl rfl 1 (by decide) wd_628 rfl rfl dX11_lay_49 ?_
                refine j_aload_n (pc := 52) C dX11_lay_52 rfl 2 rfl ?_
                refine j_get (pc := 53) (ci := 11) (v := .int y1_m0_2) C inw_11 0 rfl rfl 2 (by decide) wd_627 rfl rfl dX11_lay_53 ?_
                refine j_iload (pc := 56) C dX11_lay_56 0 rfl ?_
                obtain ⟨f_16, ef_16⟩ : ∃ z, z = upd g1_mtape (y1_m0_2).toInt.toNat v_3 := ⟨_, rfl⟩
                refine j_iast (pc := 58) (k := (y1_m0_2).toInt.toNat) (ws' := [(m0, .inr (11, [.int m_thrown, .ref mtape, .int y1_m0_2, .int m_size, .ref msort, .ref mplace, .ref mvalue, .int m_at, .int m_fault, .ref mwords, .ref mtold, .ref mop, .ref marg, .int m_codes, .ref mnames, .ref mhasHabit, .int m_isNew, .ref mfactWords, .ref mfacts, .ref mpile, .ref mstates, .ref misMarked, .int m_inShelf, .int m_inStack, .int m_inPlace, .ref mrow, .int m_rowMany, .ref mthr, .ref mmays, .ref mtall, .ref mweights, .ref mrowOfWare, .ref mneededOf, .int m_goShelf, .int m_goStack, .int m_goLeft, .ref mtried, .ref mbestRow, .int m_bestCost, .int m_bestMany, .int m_bestShelf, .int m_bestSet, .ref mdigits])), (mtape, .inl (cyI, 1000, .inl f_16))]) C 1 1 rfl rfl (i_nn hi_1_1.1) rfl (i_lt_n hi_1_1.1 (by omega)) dX11_lay_58 (by rw [ef_16]; rfl) ?_
                refine j_aload_n (pc := 59) C dX11_lay_59 rfl 2 rfl ?_
                refine j_dup (pc := 60) C dX11_lay_60 rfl ?_
                refine j_get (pc := 61) (ci := 11) (v := .int y1_m0_2) C inw_11 0 rfl rfl 2 (by decide) wd_627 rfl rfl dX11_lay_61 ?_
                refine j_iconst (pc := 64) (v := 1) C dX11_lay_64 (by decide) ?_
                obtain ⟨v_17, ev_17⟩ : ∃ z : Int32, y1_m0_2 + 1 = z := ⟨_, rfl⟩
                have el_1 : (1 : Int32).toInt = 1 := rfl
                have hv_17 : v_17.toInt = y1_m0_2.toInt + (1 : Int32).toInt := by rw [← ev_17]; exact fb_addI (by omega) (by omega)
                refine j_iadd (pc := 65) (v := v_17) C dX11_lay_65 ev_17 ?_
                refine j_put (pc := 66) (ci := 11) (v := .int v_17) (ws' := [(m0, .inr (11, [.int m_thrown, .ref mtape, .int v_17, .int m_size, .ref msort, .ref mplace, .ref mvalue, .int m_at, .int m_fault, .ref mwords, .ref mtold, .ref mop, .ref marg, .int m_codes, .ref mnames, .ref mhasHabit, .int m_isNew, .ref mfactWords, .ref mfacts, .ref mpile, .ref mstates, .ref misMarked, .int m_inShelf, .int m_inStack, .int m_inPlace, .ref mrow, .int m_rowMany, .ref mthr, .ref mmays, .ref mtall, .ref mweights, .ref mrowOfWare, .ref mneededOf, .int m_goShelf, .int m_goStack, .int m_goLeft, .ref mtried, .ref mbestRow, .int m_bestCost, .int m_bestMany, .int m_bestShelf, .int m_bestSet, .ref mdigits])), (mtape, .inl (cyI, 1000, .inl f_16))]) C inw_11 0 rfl rfl 2 (by decide) wd_627 rfl tyX11_ok nmX11 rfl (tyX11_ok 2 (by decide)) rfl rfl (Nat.le_of_ble_eq_true rfl) dX11_lay_66 rfl ?_
                obtain ⟨v_18, ev_18⟩ : ∃ z : Int32, x1_3 + (-8) = z := ⟨_, rfl⟩
                have el_m8 : ((-8) : Int32).toInt = (-8) := rfl
                have hv_18 : v_18.toInt = x1_3.toInt + ((-8) : Int32).toInt := by rw [← ev_18]; exact fb_addI (by omega) (by omega)
                refine j_iinc (pc := 69) (v := v_18) (lv' := [(3, .int v_18), (4, .int v_3), (0, .ref m0), (1, .long p0)]) C dX11_lay_69 1 rfl ev_18 (by decide) rfl ?_
                refine j_goto (pc := 72) (tgt := 3) C dX11_lay_72 (by decide) ?_
                exact j_lv [0, 2, 3] rfl (ih_1 v_18 v_17 f_16 (by omega) (by omega) (by omega) (by rw [show ((56 - (v_18).toInt) / 8).toNat = ((56 - (x1_3).toInt) / 8).toNat + 1 from (by omega)]; show _ = ladd (layN (m_taped).toInt p0 ((56 - (x1_3).toInt) / 8).toNat) (bytS p0 (nI (56 - 8 * ((56 - (x1_3).toInt) / 8).toNat))); rw [← hq_1_0, show nI (56 - 8 * ((56 - (x1_3).toInt) / 8).toNat) = x1_3 from (by (rw [show 56 - 8 * ((56 - (x1_3).toInt) / 8).toNat = (x1_3).toInt.toNat from (by omega)]; exact nI_bk (by omega))), show bytS p0 x1_3 = v_3 from ev_3]; unfold ladd; rw [if_pos (by omega)]; omega) (by rw [show ((56 - (v_18).toInt) / 8).toNat = ((56 - (x1_3).toInt) / 8).toNat + 1 from (by omega)]; show _ = lrow (layF m_tape (m_taped).toInt p0 ((56 - (x1_3).toInt) / 8).toNat) (layN (m_taped).toInt p0 ((56 - (x1_3).toInt) / 8).toNat) (bytS p0 (nI (56 - 8 * ((56 - (x1_3).toInt) / 8).toNat))); rw [← hq_1_1, ← hq_1_0, show nI (56 - 8 * ((56 - (x1_3).toInt) / 8).toNat) = x1_3 from (by (rw [show 56 - 8 * ((56 - (x1_3).toInt) / 8).toNat = (x1_3).toInt.toNat from (by omega)]; exact nI_bk (by omega))), show bytS p0 x1_3 = v_3 from ev_3]; unfold lrow; rw [if_pos (by omega)]; exact ef_16) (by omega))
  have el_56 : (56 : Int32).toInt = 56 := rfl
  exact j_lv [0, 1, 2] rfl (loop_1 4096 56 m_taped m_tape (by decide) h_m_taped (by omega) (by rw [show ((56 - (56 : Int32).toInt) / 8).toNat = 0 from rfl]; rfl) (by rw [show ((56 - (56 : Int32).toInt) / 8).toNat = 0 from rfl]; rfl) (by omega))
set_option maxHeartbeats 4000000 in
set_option maxRecDepth 100000 in
theorem c_X11_feed_f (l : Launch) (D : DG) (cyC cyI cyJ cyZ cyO : ClassId) (m0 : Nat) (mtape : Nat) (msort : Nat) (mplace : Nat) (mvalue : Nat) (mwords : Nat) (mtold : Nat) (mop : Nat) (marg : Nat) (mnames : Nat) (mhasHabit : Nat) (mfactWords : Nat) (mfacts : Nat) (mpile : Nat) (mstates : Nat) (misMarked : Nat) (mrow : Nat) (mthr : Nat) (mmays : Nat) (mtall : Nat) (mweights : Nat) (mrowOfWare : Nat) (mneededOf : Nat) (mtried : Nat) (mbestRow : Nat) (mdigits : Nat) (m_thrown : Int32) (m_taped : Int32) (m_size : Int32) (m_at : Int32) (m_fault : Int32) (m_codes : Int32) (m_isNew : Int32) (m_inShelf : Int32) (m_inStack : Int32) (m_inPlace : Int32) (m_rowMany : Int32) (m_goShelf : Int32) (m_goStack : Int32) (m_goLeft : Int32) (m_bestCost : Int32) (m_bestMany : Int32) (m_bestShelf : Int32) (m_bestSet : Int32) (p0 : Int64) (p1 : Int64) (p2 : Int64) (m_tape : Nat → Int32) (h_m_taped : 0 ≤ (m_taped).toInt ∧ (m_taped).toInt ≤ 1000) (h_m_size : 0 ≤ (m_size).toInt ∧ (m_size).toInt ≤ 1000) (h_m_at : 0 ≤ (m_at).toInt ∧ (m_at).toInt ≤ 1000) (h_m_fault : 0 ≤ (m_fault).toInt ∧ (m_fault).toInt ≤ 16005) (h_m_codes : 0 ≤ (m_codes).toInt ∧ (m_codes).toInt ≤ 1000) (h_m_isNew : 0 ≤ (m_isNew).toInt ∧ (m_isNew).toInt ≤ 1) (h_m_inShelf : 0 ≤ (m_inShelf).toInt ∧ (m_inShelf).toInt ≤ 3) (h_m_inStack : 0 ≤ (m_inStack).toInt ∧ (m_inStack).toInt ≤ 7) (h_m_inPlace : 0 ≤ (m_inPlace).toInt ∧ (m_inPlace).toInt ≤ 11) (h_m_rowMany : 0 ≤ (m_rowMany).toInt ∧ (m_rowMany).toInt ≤ 12) (h_m_goShelf : -1 ≤ (m_goShelf).toInt ∧ (m_goShelf).toInt ≤ 3) (h_m_bestMany : 0 ≤ (m_bestMany).toInt ∧ (m_bestMany).toInt ≤ 7) (h_m_bestShelf : 0 ≤ (m_bestShelf).toInt ∧ (m_bestShelf).toInt ≤ 3) : KK l D (TY cyC cyI cyJ cyZ cyO) yX11_feed cX11_feed 7 (some .int) ({ frames := 1, cells := 0, slots := 0, locals := 24 } : Room) 0 0 [.ref m0, .long p0, .long p1, .long p2] [(m0, .inr (11, [.int m_thrown, .ref mtape, .int m_taped, .int m_size, .ref msort, .ref mplace, .ref mvalue, .int m_at, .int m_fault, .ref mwords, .ref mtold, .ref mop, .ref marg, .int m_codes, .ref mnames, .ref mhasHabit, .int m_isNew, .ref mfactWords, .ref mfacts, .ref mpile, .ref mstates, .ref misMarked, .int m_inShelf, .int m_inStack, .int m_inPlace, .ref mrow, .int m_rowMany, .ref mthr, .ref mmays, .ref mtall, .ref mweights, .ref mrowOfWare, .ref mneededOf, .int m_goShelf, .int m_goStack, .int m_goLeft, .ref mtried, .ref mbestRow, .int m_bestCost, .int m_bestMany, .int m_bestShelf, .int m_bestSet, .ref mdigits])), (mtape, .inl (cyI, 1000, .inl m_tape))] (fun u => some (.int (u.2.1 0))) (fun u => (0 ≤ (u.2.1 0).toInt ∧ (u.2.1 0).toInt ≤ 1000) ∧ (0 ≤ (u.2.1 1).toInt ∧ (u.2.1 1).toInt ≤ 1000) ∧ ((u.2.1 0).toInt = layN (layN (layN (m_taped).toInt p0 8) p1 8) p2 8) ∧ (((u.2.1 1)).toInt = (u.2.1 0).toInt) ∧ ((u.2.2.1 0) = layF (layF (layF m_tape (m_taped).toInt p0 8) (layN (m_taped).toInt p0 8) p1 8) (layN (layN (m_taped).toInt p0 8) p1 8) p2 8)) (fun u => [(m0, .inr (11, [.int 0, .ref mtape, .int (u.2.1 1), .int m_size, .ref msort, .ref mplace, .ref mvalue, .int m_at, .int m_fault, .ref mwords, .ref mtold, .ref mop, .ref marg, .int m_codes, .ref mnames, .ref mhasHabit, .int m_isNew, .ref mfactWords, .ref mfacts, .ref mpile, .ref mstates, .ref misMarked, .int m_inShelf, .int m_inStack, .int m_inPlace, .ref mrow, .int m_rowMany, .ref mthr, .ref mmays, .ref mtall, .ref mweights, .ref mrowOfWare, .ref mneededOf, .int m_goShelf, .int m_goStack, .int m_goLeft, .ref mtried, .ref mbestRow, .int m_bestCost, .int m_bestMany, .int m_bestShelf, .int m_bestSet, .ref mdigits])), (mtape, .inl (cyI, 1000, .inl (u.2.2.1 0)))]) := by
  refine KK.of (lv0 := [(0, .ref m0), (1, .long p0), (3, .long p1), (5, .long p2)]) (by decide) rfl (Nat.le_of_ble_eq_true rfl) ?_
  intro p e s m args below meth c A C hr hk hin
  refine j_aload_n (pc := 0) C dX11_feed_0 rfl 0 rfl ?_
  refine j_iconst (pc := 1) (v := 0) C dX11_feed_1 (by decide) ?_
  refine j_put (pc := 2) (ci := 11) (v := .int 0) (ws' := [(m0, .inr (11, [.int 0, .ref mtape, .int m_taped, .int m_size, .ref msort, .ref mplace, .ref mvalue, .int m_at, .int m_fault, .ref mwords, .ref mtold, .ref mop, .ref marg, .int m_codes, .ref mnames, .ref mhasHabit, .int m_isNew, .ref mfactWords, .ref mfacts, .ref mpile, .ref mstates, .ref misMarked, .int m_inShelf, .int m_inStack, .int m_inPlace, .ref mrow, .int m_rowMany, .ref mthr, .ref mmays, .ref mtall, .ref mweights, .ref mrowOfWare, .ref mneededOf, .int m_goShelf, .int m_goStack, .int m_goLeft, .ref mtried, .ref mbestRow, .int m_bestCost, .int m_bestMany, .int m_bestShelf, .int m_bestSet, .ref mdigits])), (mtape, .inl (cyI, 1000, .inl m_tape))]) C inw_11 0 rfl rfl 0 (by decide) wd_629 rfl tyX11_ok nmX11 rfl (tyX11_ok 0 (by decide)) rfl rfl (Nat.le_of_ble_eq_true rfl) dX11_feed_2 rfl ?_
  refine j_aload_n (pc := 5) C dX11_feed_5 rfl 0 rfl ?_
  refine j_lload_n (pc := 6) C dX11_feed_6 rfl 1 rfl ?_
  refine j_callV (pc := 7) (As := [.long p0]) (rest := []) (wr := []) C (c_X11_lay_f l D cyC cyI cyJ cyZ cyO m0 mtape msort mplace mvalue mwords mtold mop marg mnames mhasHabit mfactWords mfacts mpile mstates misMarked mrow mthr mmays mtall mweights mrowOfWare mneededOf mtried mbestRow mdigits 0 m_taped m_size m_at m_fault m_codes m_isNew m_inShelf m_inStack m_inPlace m_rowMany m_goShelf m_goStack m_goLeft m_bestCost m_bestMany m_bestShelf m_bestSet p0 m_tape h_m_taped h_m_size h_m_at h_m_fault h_m_codes h_m_isNew h_m_inShelf h_m_inStack h_m_inPlace h_m_rowMany h_m_goShelf h_m_bestMany h_m_bestShelf) wd_630 wd_624 wd_631 wd_632 wd_633 ⟨by decide, by decide, rfl⟩ rfl ⟨rfl, rfl, by decide, by decide⟩ ⟨by decide, by decide⟩ [0, 1] [] rfl rfl ⟨by decide, by decide, by decide⟩ 0 rfl rfl rfl (Nat.le_of_ble_eq_true rfl) dX11_feed_7 (fun u_1 hw_2 => ?_)
  refine j_eq (ws2 := [(m0, .inr (11, [.int 0, .ref mtape, .int (u_1.2.1 0), .int m_size, .ref msort, .ref mplace, .ref mvalue, .int m_at, .int m_fault, .ref mwords, .ref mtold, .ref mop, .ref marg, .int m_codes, .ref mnames, .ref mhasHabit, .int m_isNew, .ref mfactWords, .ref mfacts, .ref mpile, .ref mstates, .ref misMarked, .int m_inShelf, .int m_inStack, .int m_inPlace, .ref mrow, .int m_rowMany, .ref mthr, .ref mmays, .ref mtall, .ref mweights, .ref mrowOfWare, .ref mneededOf, .int m_goShelf, .int m_goStack, .int m_goLeft, .ref mtried, .ref mbestRow, .int m_bestCost, .int m_bestMany, .int m_bestShelf, .int m_bestSet, .ref mdigits])), (mtape, .inl (cyI, 1000, .inl (u_1.2.2.1 0)))]) (pc2 := 10) (lv2 := [(0, .ref m0), (1, .long p0), (3, .long p1), (5, .long p2)]) (st2 := []) rfl rfl rfl rfl ?_
  obtain ⟨hw_2_0, hw_2_1, hw_2_2⟩ := hw_2
  refine j_aload_n (pc := 10) C dX11_feed_10 rfl 0 rfl ?_
  refine j_lload_n (pc := 11) C dX11_feed_11 rfl 2 rfl ?_
  refine j_callV (pc := 12) (As := [.long p1]) (rest := []) (wr := []) C (c_X11_lay_f l D cyC cyI cyJ cyZ cyO m0 mtape msort mplace mvalue mwords mtold mop marg mnames mhasHabit mfactWords mfacts mpile mstates misMarked mrow mthr mmays mtall mweights mrowOfWare mneededOf mtried mbestRow mdigits 0 (u_1.2.1 0) m_size m_at m_fault m_codes m_isNew m_inShelf m_inStack m_inPlace m_rowMany m_goShelf m_goStack m_goLeft m_bestCost m_bestMany m_bestShelf m_bestSet p1 (u_1.2.2.1 0) hw_2_0 h_m_size h_m_at h_m_fault h_m_codes h_m_isNew h_m_inShelf h_m_inStack h_m_inPlace h_m_rowMany h_m_goShelf h_m_bestMany h_m_bestShelf) wd_630 wd_624 wd_631 wd_632 wd_633 ⟨by decide, by decide, rfl⟩ rfl ⟨rfl, rfl, by decide, by decide⟩ ⟨by decide, by decide⟩ [0, 1] [] rfl rfl ⟨by decide, by decide, by decide⟩ 0 rfl rfl rfl (Nat.le_of_ble_eq_true rfl) dX11_feed_12 (fun u_3 hw_4 => ?_)
  refine j_eq (ws2 := [(m0, .inr (11, [.int 0, .ref mtape, .int (u_3.2.1 0), .int m_size, .ref msort, .ref mplace, .ref mvalue, .int m_at, .int m_fault, .ref mwords, .ref mtold, .ref mop, .ref marg, .int m_codes, .ref mnames, .ref mhasHabit, .int m_isNew, .ref mfactWords, .ref mfacts, .ref mpile, .ref mstates, .ref misMarked, .int m_inShelf, .int m_inStack, .int m_inPlace, .ref mrow, .int m_rowMany, .ref mthr, .ref mmays, .ref mtall, .ref mweights, .ref mrowOfWare, .ref mneededOf, .int m_goShelf, .int m_goStack, .int m_goLeft, .ref mtried, .ref mbestRow, .int m_bestCost, .int m_bestMany, .int m_bestShelf, .int m_bestSet, .ref mdigits])), (mtape, .inl (cyI, 1000, .inl (u_3.2.2.1 0)))]) (pc2 := 15) (lv2 := [(0, .ref m0), (1, .long p0), (3, .long p1), (5, .long p2)]) (st2 := []) rfl rfl rfl rfl ?_
  obtain ⟨hw_4_0, hw_4_1, hw_4_2⟩ := hw_4
  refine j_aload_n (pc := 15) C dX11_feed_15 rfl 0 rfl ?_
  refine j_lload (pc := 16) C dX11_feed_16 3 rfl ?_
  refine j_callV (pc := 18) (As := [.long p2]) (rest := []) (wr := []) C (c_X11_lay_f l D cyC cyI cyJ cyZ cyO m0 mtape msort mplace mvalue mwords mtold mop marg mnames mhasHabit mfactWords mfacts mpile mstates misMarked mrow mthr mmays mtall mweights mrowOfWare mneededOf mtried mbestRow mdigits 0 (u_3.2.1 0) m_size m_at m_fault m_codes m_isNew m_inShelf m_inStack m_inPlace m_rowMany m_goShelf m_goStack m_goLeft m_bestCost m_bestMany m_bestShelf m_bestSet p2 (u_3.2.2.1 0) hw_4_0 h_m_size h_m_at h_m_fault h_m_codes h_m_isNew h_m_inShelf h_m_inStack h_m_inPlace h_m_rowMany h_m_goShelf h_m_bestMany h_m_bestShelf) wd_630 wd_624 wd_631 wd_632 wd_633 ⟨by decide, by decide, rfl⟩ rfl ⟨rfl, rfl, by decide, by decide⟩ ⟨by decide, by decide⟩ [0, 1] [] rfl rfl ⟨by decide, by decide, by decide⟩ 0 rfl rfl rfl (Nat.le_of_ble_eq_true rfl) dX11_feed_18 (fun u_5 hw_6 => ?_)
  refine j_eq (ws2 := [(m0, .inr (11, [.int 0, .ref mtape, .int (u_5.2.1 0), .int m_size, .ref msort, .ref mplace, .ref mvalue, .int m_at, .int m_fault, .ref mwords, .ref mtold, .ref mop, .ref marg, .int m_codes, .ref mnames, .ref mhasHabit, .int m_isNew, .ref mfactWords, .ref mfacts, .ref mpile, .ref mstates, .ref misMarked, .int m_inShelf, .int m_inStack, .int m_inPlace, .ref mrow, .int m_rowMany, .ref mthr, .ref mmays, .ref mtall, .ref mweights, .ref mrowOfWare, .ref mneededOf, .int m_goShelf, .int m_goStack, .int m_goLeft, .ref mtried, .ref mbestRow, .int m_bestCost, .int m_bestMany, .int m_bestShelf, .int m_bestSet, .ref mdigits])), (mtape, .inl (cyI, 1000, .inl (u_5.2.2.1 0)))]) (pc2 := 21) (lv2 := [(0, .ref m0), (1, .long p0), (3, .long p1), (5, .long p2)]) (st2 := []) rfl rfl rfl rfl ?_
  obtain ⟨hw_6_0, hw_6_1, hw_6_2⟩ := hw_6
  refine j_aload_n (pc := 21) C dX11_feed_21 rfl 0 rfl ?_
  refine j_get (pc := 22) (ci := 11) (v := .int (u_5.2.1 0)) C inw_11 0 rfl rfl 2 (by decide) wd_627 rfl rfl dX11_feed_22 ?_
  exact j_iret (pc := 25) C hr hk (fun i => [].getD i 0, fun i => [(u_5.2.1 0), (u_5.2.1 0)].getD i 0, fun i => [(u_5.2.2.1 0)].getD i (fun _ => 0), fun i => [].getD i (fun _ => 0)) rfl (show (0 ≤ ((u_5.2.1 0)).toInt ∧ ((u_5.2.1 0)).toInt ≤ 1000) ∧ (0 ≤ ((u_5.2.1 0)).toInt ∧ ((u_5.2.1 0)).toInt ≤ 1000) ∧ ((u_5.2.1 0).toInt = layN (layN (layN (m_taped).toInt p0 8) p1 8) p2 8) ∧ (((u_5.2.1 0)).toInt = (u_5.2.1 0).toInt) ∧ ((u_5.2.2.1 0) = layF (layF (layF m_tape (m_taped).toInt p0 8) (layN (m_taped).toInt p0 8) p1 8) (layN (layN (m_taped).toInt p0 8) p1 8) p2 8) from ⟨hw_6_0, hw_6_0, (by rw [hw_6_1, hw_4_1, hw_2_1]), by omega, (by rw [hw_6_2, hw_4_2, hw_2_2, hw_4_1, hw_2_1])⟩) [0, 1] (by decide) rfl (by decide) (by decide) dX11_feed_25
/-! THE CLAIM OUT OF ONE WALK OF THE LAW'S BODY. Your part is whole_start (and what it stands on); all else here is the same for every law, but numbers. -/
def R_law : String := "BowlShelfLaw"
def lw_P (b : Addr) (xs : List Int32) (args : Array Value) (s : State) : Prop := args = #[.ref b] ∧ s.IntsAt b xs ∧ xs.length ≤ 448 ∧ (Jvm.Cond.and given_1 narrow_1).before args s = true
def lw_Q (_ : Array Value) (s : State) (o : Outcome) (t : State) : Prop := o = .returned (some (.int 1)) ∧ Framed s o t [] 600128 7301098
def lw_Z (below : List Frame) (a : Array Value) (s : State) : State → Prop := fun t => ∃ o, t.status = .running ∧ Ended t below o ∧ lw_Q a s o t
/-- the law's own end, with 1 on the stack, nothing written that was there before, its room as the claim has it -/
theorem lw_ret {p : Program} {l : Launch} {e : Env} {s : State} {m : MethodId} {below : List Frame} {meth : Method} {c : Code} {b : Nat} (hx : p.tables.exec = Jvm.exec) (hb : c.code = code) (hr : meth.sig.returnType = ret) (hlocks : meth.locks = false) {pc : Nat} {H : Heap} {ls : Array Slot} (hdg : decode code pc = .ok (.ireturn, 1)) : W p l e room_1 s m #[Value.ref b] below meth c H [] 600128 7301098 (lw_Z below #[Value.ref b] s) (F0 m pc ls [.int 1]) := by
  intro T hT X
  obtain ⟨fs, hret, hrun, hended, hW, hframe⟩ := X.leave (v := some (.int 1)) (hlocks := hlocks) (fun h => by rw [hr] at h; cases h)
  have hmeth' : T.vm.method? m = some meth := X.method'
  refine ⟨T.setFrames fs, ?_, .returned (some (.int 1)), hrun, hended, rfl, ⟨_, rfl⟩, hW, hframe⟩
  jvm_step X.here [X.here.top, hx, hb, hdg, hmeth', hr, ret, narrow_b1]
  (try refine ⟨rfl, ?_⟩); (try refine ⟨rfl, ?_⟩)
  first | (intro acts; rw [hret _ acts rfl rfl rfl]) | rw [hret _ _ rfl rfl rfl]
  exact Steps.refl _
/-- what holds at the law's entry: the machine, the code, the tables' words (any of lw_tbl by 'hts w (by decide +kernel)'), the script of L ints xs at the cell b, what the Statement gives of the start (any of its parts by flat_of_before) -/
def lw_At (p : Program) (s : State) (m : MethodId) (meth : Method) (c : Code) (b L : Nat) (xs : Nat → Int32) : Prop :=
  p.tables.exec = Jvm.exec ∧ c.code = code ∧ meth.sig.returnType = ret ∧ c.maxLocals = 8 ∧ s.vm.findClass R_law = some m.cls ∧ (∀ w ∈ lw_tbl, w.before #[Value.ref b] s = true) ∧ va_X b L xs s s.heap ∧ b < s.heap.size ∧ meth.locks = false ∧ (Jvm.Cond.and given_1 narrow_1).before #[Value.ref b] s = true
section LW
variable {p : Program} {l : Launch} {e : Env} {R : Room} {s : State} {m : MethodId} {args : Array Value} {below : List Frame} {meth : Method} {c : Code} {cc : ByteArray} {own : String} {nL : Nat} {D : DG} {tys : List (ClassId × FieldType)} {A : Nat → Prop} {cells slots : Nat} {Q : State → Prop} {ws ws' : va_W} {pc : Nat} {lv lv' : List (Nat × Value)} {rest : List Value}
theorem j_sld (C : CX p R s m args meth c cc own nL D tys A) {b L : Nat} {xs : Nat → Int32} (hX : va_X b L xs s s.heap) (hbl : b < s.heap.size) (hbA : ¬ A b) {i : Int32} {k : Nat} (h0 : ¬ i < 0) (hk : i.toNatClampNeg = k) (hlt : k < L) (hd : decode cc pc = .ok (.iaload, 1))
    (kk : J p l e R s m args below meth c D A nL cells slots Q ws (pc + 1) lv (.int (xs k) :: rest)) : J p l e R s m args below meth c D A nL cells slots Q ws pc lv (.int i :: .ref b :: rest) := fun H locs ls hP hD hS hl => va_sld C.1 C.2.1 hX hbl hbA hS (vin h0 hk hlt) hd (by rw [hk]; exact kk H locs ls hP hD hS hl)
theorem j_slen (C : CX p R s m args meth c cc own nL D tys A) {b L : Nat} {xs : Nat → Int32} (hX : va_X b L xs s s.heap) (hbl : b < s.heap.size) (hbA : ¬ A b) {v : Int32} (hv : Int32.ofNat L = v) (hd : decode cc pc = .ok (.arraylength, 1))
    (kk : J p l e R s m args below meth c D A nL cells slots Q ws (pc + 1) lv (.int v :: rest)) : J p l e R s m args below meth c D A nL cells slots Q ws pc lv (.ref b :: rest) := fun H locs ls hP hD hS hl => va_slen C.1 C.2.1 hX hbl hbA hS hd (by rw [hv]; exact kk H locs ls hP hD hS hl)
end LW
def LX (p : Program) (s : State) (m : MethodId) (meth : Method) (c : Code) (b L : Nat) (xs : Nat → Int32) (D : DG) (cyC cyI cyJ cyZ cyO : ClassId) : Prop := CX p room_1 s m #[Value.ref b] meth c cL_law RL 8 D (TY cyC cyI cyJ cyZ cyO) (fun q : Nat => s.heap.size ≤ q) ∧ va_X b L xs s s.heap ∧ b < s.heap.size ∧ meth.sig.returnType = ret ∧ meth.locks = false
theorem lw_end {p : Program} {l : Launch} {e : Env} {s : State} {m : MethodId} {below : List Frame} {meth : Method} {c : Code} {b L : Nat} {xs : Nat → Int32} {D : DG} {cyC cyI cyJ cyZ cyO : ClassId} {cells slots : Nat} {ws : va_W} {lv : List (Nat × Value)} (X : LX p s m meth c b L xs D cyC cyI cyJ cyZ cyO) (h1 : cells ≤ 600128) (h2 : slots ≤ 7301098) {pc : Nat} (hd : decode cL_law pc = .ok (.ireturn, 1)) :
    J p l e room_1 s m #[Value.ref b] below meth c D (fun q : Nat => s.heap.size ≤ q) 8 cells slots (lw_Z below #[Value.ref b] s) ws pc lv [.int 1] := fun H locs ls hP hD hS hl =>
  va_forget (fun q hq => hS.2.2 q hq) (W.widen h1 h2 (lw_ret X.1.1 X.1.2.1 X.2.2.2.1 X.2.2.2.2 hd))
/-- the law from a place of its code on, over all states that keep what holds -/
def LT (p : Program) (l : Launch) (e : Env) (s : State) (m : MethodId) (below : List Frame) (meth : Method) (c : Code) (b : Nat) (D : DG) (cyC cyI cyJ cyZ cyO : ClassId) (cb sb pc : Nat) (i : Int32) : Prop := ∀ (x0 : Nat) (a0 : Nat) (a1 : Nat) (a2 : Nat) (a3 : Nat) (a4 : Nat) (a5 : Nat) (a6 : Nat) (a7 : Nat) (a8 : Nat) (a9 : Nat) (a10 : Nat) (n0 : Nat) (n1 : Nat) (n2 : Nat) (n3 : Nat) (n4 : Nat) (k0 : Nat) (k1 : Nat) (k2 : Nat) (k3 : Nat) (k4 : Nat) (q0 : Nat) (q1 : Nat) (o0 : Nat) (o1 : Nat) (o2 : Nat) (o3 : Nat) (o4 : Nat) (h0 : Nat) (h1 : Nat) (h2 : Nat) (h3 : Nat) (s0 : Nat) (s1 : Nat) (s2 : Nat) (s3 : Nat) (d0 : Nat) (d1 : Nat) (r0 : Nat) (r1 : Nat) (r2 : Nat) (t0 : Nat) (t1 : Nat) (e0 : Nat) (e1 : Nat) (e2 : Nat) (e3 : Nat) (b0 : Nat) (b1 : Nat) (b2 : Nat) (b3 : Nat) (b4 : Nat) (b5 : Nat) (b6 : Nat) (b7 : Nat) (b8 : Nat) (b9 : Nat) (b10 : Nat) (x1 : Nat) (ma0 : Nat) (ma1 : Nat) (ma2 : Nat) (ma3 : Nat) (ma4 : Nat) (mb0 : Nat) (mb1 : Nat) (mb2 : Nat) (mb3 : Nat) (mb4 : Nat) (mc0 : Nat) (mc1 : Nat) (mc2 : Nat) (mc3 : Nat) (mc4 : Nat) (md0 : Nat) (md1 : Nat) (md2 : Nat) (md3 : Nat) (md4 : Nat) (m0 : Nat) (mtape : Nat) (msort : Nat) (mplace : Nat) (mvalue : Nat) (mwords : Nat) (mtold : Nat) (mop : Nat) (marg : Nat) (mnames : Nat) (mhasHabit : Nat) (mfactWords : Nat) (mfacts : Nat) (mpile : Nat) (mstates : Nat) (misMarked : Nat) (mrow : Nat) (mthr : Nat) (mmays : Nat) (mtall : Nat) (mweights : Nat) (mrowOfWare : Nat) (mneededOf : Nat) (mtried : Nat) (mbestRow : Nat) (mdigits : Nat) (z0 : Nat) (h_r : Nat) (h_n : Nat) (a_wares : Int32) (a_shelves : Int32) (a_nests : Int32) (a_lids : Int32) (a_tops : Int32) (n_askings : Int32) (n_cost : Int32) (n_laid : Int32) (k_askings : Int32) (k_cost : Int32) (k_laid : Int32) (q_size : Int32) (o_wares : Int32) (o_known : Int32) (o_fewest : Int32) (o_apart : Int32) (h_known : Int32) (h_wares : Int32) (s_cost : Int32) (s_found : Int32) (s_size : Int32) (s_height : Int32) (s_reach : Int32) (r_habits : Int32) (r_fault : Int32) (t_length : Int32) (t_next : Int32) (t_kind : Int32) (t_place : Int32) (t_number : Int32) (e_size : Int32) (e_nests : Int32) (b_wares : Int32) (b_shelves : Int32) (b_nests : Int32) (b_lids : Int32) (b_tops : Int32) (ma_askings : Int32) (ma_cost : Int32) (ma_laid : Int32) (mb_askings : Int32) (mb_cost : Int32) (mb_laid : Int32) (mc_askings : Int32) (mc_cost : Int32) (mc_laid : Int32) (md_askings : Int32) (md_cost : Int32) (md_laid : Int32) (m_thrown : Int32) (m_taped : Int32) (m_size : Int32) (m_at : Int32) (m_fault : Int32) (m_codes : Int32) (m_isNew : Int32) (m_inShelf : Int32) (m_inStack : Int32) (m_inPlace : Int32) (m_rowMany : Int32) (m_goShelf : Int32) (m_goStack : Int32) (m_goLeft : Int32) (m_bestCost : Int32) (m_bestMany : Int32) (m_bestShelf : Int32) (m_bestSet : Int32) (a_wide : Nat → Int32) (a_deep : Nat → Int32) (a_weight : Nat → Int32) (a_bears : Nat → Int32) (a_breaks : Nat → Int32) (a_habit : Nat → Int32) (a_mayOn : Nat → Int32) (a_height : Nat → Int32) (a_reach : Nat → Int32) (a_room : Nat → Int32) (n_shelf : Nat → Int32) (n_stack : Nat → Int32) (n_level : Nat → Int32) (n_asking : Nat → Int32) (k_shelf : Nat → Int32) (k_stack : Nat → Int32) (k_level : Nat → Int32) (k_asking : Nat → Int32) (q_ware : Nat → Int32) (o_above : Nat → Int32) (o_kin : Nat → Int32) (o_row : Nat → Int32) (o_members : Nat → Int32) (h_leastRim : Nat → Int32) (h_least : Nat → Int32) (h_stacks : Nat → Int32) (s_order : Nat → Int32) (s_trial : Nat → Int32) (s_times : Nat → Int32) (d_digits : Nat → Int64) (r_wn : Nat → Int64) (r_sn : Nat → Int64) (t_text : Nat → Int32) (e_steps : Nat → Int32) (e_end : Nat → Int32) (e_values : Nat → Int32) (b_wide : Nat → Int32) (b_deep : Nat → Int32) (b_weight : Nat → Int32) (b_bears : Nat → Int32) (b_breaks : Nat → Int32) (b_habit : Nat → Int32) (b_mayOn : Nat → Int32) (b_height : Nat → Int32) (b_reach : Nat → Int32) (b_room : Nat → Int32) (ma_shelf : Nat → Int32) (ma_stack : Nat → Int32) (ma_level : Nat → Int32) (ma_asking : Nat → Int32) (mb_shelf : Nat → Int32) (mb_stack : Nat → Int32) (mb_level : Nat → Int32) (mb_asking : Nat → Int32) (mc_shelf : Nat → Int32) (mc_stack : Nat → Int32) (mc_level : Nat → Int32) (mc_asking : Nat → Int32) (md_shelf : Nat → Int32) (md_stack : Nat → Int32) (md_level : Nat → Int32) (md_asking : Nat → Int32) (m_tape : Nat → Int32) (m_sort : Nat → Int32) (m_place : Nat → Int32) (m_value : Nat → Int64) (m_words : Nat → Int64) (m_told : Nat → Int32) (m_op : Nat → Int32) (m_arg : Nat → Int32) (m_names : Nat → Int64) (m_hasHabit : Nat → Int32) (m_factWords : Nat → Int32) (m_facts : Nat → Int32) (m_pile : Nat → Int32) (m_states : Nat → Int32) (m_isMarked : Nat → Int32) (m_row : Nat → Int32) (m_thr : Nat → Int32) (m_mays : Nat → Int32) (m_tall : Nat → Int32) (m_weights : Nat → Int32) (m_rowOfWare : Nat → Int32) (m_neededOf : Nat → Int32) (m_tried : Nat → Int32) (m_bestRow : Nat → Int32) (m_digits : Nat → Int64) (z_out : Nat → Int64), (0 ≤ (a_wares).toInt ∧ (a_wares).toInt ≤ 12) → (0 ≤ (a_shelves).toInt ∧ (a_shelves).toInt ≤ 4) → (0 ≤ (a_nests).toInt ∧ (a_nests).toInt ≤ 4) → (0 ≤ (n_askings).toInt ∧ (n_askings).toInt ≤ 30) → (0 ≤ (n_laid).toInt ∧ (n_laid).toInt ≤ 1) → (0 ≤ (k_askings).toInt ∧ (k_askings).toInt ≤ 30) → (0 ≤ (k_laid).toInt ∧ (k_laid).toInt ≤ 1) → (0 ≤ (q_size).toInt ∧ (q_size).toInt ≤ 12) → (0 ≤ (o_wares).toInt ∧ (o_wares).toInt ≤ 12) → (0 ≤ (o_known).toInt ∧ (o_known).toInt ≤ 1) → (0 ≤ (h_known).toInt ∧ (h_known).toInt ≤ 1) → (0 ≤ (h_wares).toInt ∧ (h_wares).toInt ≤ 12) → (0 ≤ (s_found).toInt ∧ (s_found).toInt ≤ 1) → (0 ≤ (s_size).toInt ∧ (s_size).toInt ≤ 7) → (0 ≤ (t_length).toInt ∧ (t_length).toInt ≤ 1000) → (0 ≤ (t_next).toInt ∧ (t_next).toInt ≤ 1000) → (0 ≤ (t_kind).toInt ∧ (t_kind).toInt ≤ 4) → (0 ≤ (t_place).toInt ∧ (t_place).toInt ≤ 1000) → (0 ≤ (e_size).toInt ∧ (e_size).toInt ≤ 1000) → (0 ≤ (e_nests).toInt ∧ (e_nests).toInt ≤ 4) → (0 ≤ (b_wares).toInt ∧ (b_wares).toInt ≤ 12) → (0 ≤ (b_shelves).toInt ∧ (b_shelves).toInt ≤ 4) → (0 ≤ (b_nests).toInt ∧ (b_nests).toInt ≤ 4) → (0 ≤ (ma_askings).toInt ∧ (ma_askings).toInt ≤ 30) → (0 ≤ (ma_laid).toInt ∧ (ma_laid).toInt ≤ 1) → (0 ≤ (mb_askings).toInt ∧ (mb_askings).toInt ≤ 30) → (0 ≤ (mb_laid).toInt ∧ (mb_laid).toInt ≤ 1) → (0 ≤ (mc_askings).toInt ∧ (mc_askings).toInt ≤ 30) → (0 ≤ (mc_laid).toInt ∧ (mc_laid).toInt ≤ 1) → (0 ≤ (md_askings).toInt ∧ (md_askings).toInt ≤ 30) → (0 ≤ (md_laid).toInt ∧ (md_laid).toInt ≤ 1) → (0 ≤ (m_taped).toInt ∧ (m_taped).toInt ≤ 1000) → (0 ≤ (m_size).toInt ∧ (m_size).toInt ≤ 1000) → (0 ≤ (m_at).toInt ∧ (m_at).toInt ≤ 1000) → (0 ≤ (m_fault).toInt ∧ (m_fault).toInt ≤ 16005) → (0 ≤ (m_codes).toInt ∧ (m_codes).toInt ≤ 1000) → (0 ≤ (m_isNew).toInt ∧ (m_isNew).toInt ≤ 1) → (0 ≤ (m_inShelf).toInt ∧ (m_inShelf).toInt ≤ 3) → (0 ≤ (m_inStack).toInt ∧ (m_inStack).toInt ≤ 7) → (0 ≤ (m_inPlace).toInt ∧ (m_inPlace).toInt ≤ 11) → (0 ≤ (m_rowMany).toInt ∧ (m_rowMany).toInt ≤ 12) → (-1 ≤ (m_goShelf).toInt ∧ (m_goShelf).toInt ≤ 3) → (0 ≤ (m_bestMany).toInt ∧ (m_bestMany).toInt ≤ 7) → (0 ≤ (m_bestShelf).toInt ∧ (m_bestShelf).toInt ≤ 3) → (Iv 4 (0) (8) a_room) → (Iv 12 (-1) (3) n_shelf) → (Iv 12 (0) (7) n_stack) → (Iv 12 (0) (11) n_level) → (Iv 30 (0) (11) n_asking) → (Iv 12 (-1) (3) k_shelf) → (Iv 12 (0) (7) k_stack) → (Iv 12 (0) (11) k_level) → (Iv 30 (0) (11) k_asking) → (Iv 12 (0) (11) q_ware) → (Iv 7 (0) (11) s_trial) → (Iv 1000 (0) (126) t_text) → (Iv 4 (0) (1000) e_end) → (Iv 4 (0) (8) b_room) → (Iv 12 (-1) (3) ma_shelf) → (Iv 12 (0) (7) ma_stack) → (Iv 12 (0) (11) ma_level) → (Iv 30 (0) (11) ma_asking) → (Iv 12 (-1) (3) mb_shelf) → (Iv 12 (0) (7) mb_stack) → (Iv 12 (0) (11) mb_level) → (Iv 30 (0) (11) mb_asking) → (Iv 12 (-1) (3) mc_shelf) → (Iv 12 (0) (7) mc_stack) → (Iv 12 (0) (11) mc_level) → (Iv 30 (0) (11) mc_asking) → (Iv 12 (-1) (3) md_shelf) → (Iv 12 (0) (7) md_stack) → (Iv 12 (0) (11) md_level) → (Iv 30 (0) (11) md_asking) → (Iv 1002 (0) (1000) m_place) → (TV m_told) → (Iv 8 (0) (22) m_factWords) → (SV m_states) → (Iv 12 (0) (11) m_row) → (Iv 49152 (0) (100000000) m_tall) → (Iv 7 (0) (11) m_tried) → (¬ (t_kind).toInt = 3 ∨ (t_place).toInt ≤ 999) → (HL h_n h_r) → ((h_known).toInt = 0 ∨ h_wares = a_wares ∧ (2 : Int) ^ (h_wares).toInt.toNat ≤ (h_n : Int)) → (WFm m_told m_op m_arg) → (SI m_states m_told m_isMarked) → ((m_isNew).toInt = 0 → TALL m_told m_mays m_tall) → ((t_length).toInt = (m_taped).toInt) → (∀ j : Nat, (j : Int) < (t_length).toInt → m_tape j = t_text j) → (WRD m_words) → (FWD m_factWords) → (TD (a_wares).toInt a_wide a_deep a_weight a_bears a_breaks a_habit a_lids a_tops m_told) → (MYR (a_wares).toInt (a_nests).toInt a_wide a_deep a_weight a_lids a_tops a_mayOn m_told m_op m_arg) → ((ma_laid).toInt = (m_isMarked 0).toInt ∧ (mb_laid).toInt = (m_isMarked 1).toInt ∧ (mc_laid).toInt = (m_isMarked 2).toInt ∧ (md_laid).toInt = (m_isMarked 3).toInt) → ((n_askings).toInt = (m_states 421).toInt ∧ (ma_askings).toInt = (m_states 1341).toInt ∧ (mb_askings).toInt = (m_states 1801).toInt ∧ (mc_askings).toInt = (m_states 2261).toInt ∧ (md_askings).toInt = (m_states 2721).toInt) → (TSH (a_shelves).toInt a_height a_reach a_room m_told) → (ST n_shelf n_stack n_level m_states 0 (a_wares).toInt (a_shelves).toInt) → (IM ((ma_laid).toInt = 1) (ST ma_shelf ma_stack ma_level m_states 2 (a_wares).toInt (a_shelves).toInt)) → (IM ((mb_laid).toInt = 1) (ST mb_shelf mb_stack mb_level m_states 3 (a_wares).toInt (a_shelves).toInt)) → (IM ((mc_laid).toInt = 1) (ST mc_shelf mc_stack mc_level m_states 4 (a_wares).toInt (a_shelves).toInt)) → (IM ((md_laid).toInt = 1) (ST md_shelf md_stack md_level m_states 5 (a_wares).toInt (a_shelves).toInt)) → (AQ n_asking (n_askings).toInt m_states 422 ∧ AQ ma_asking (ma_askings).toInt m_states 1342 ∧ AQ mb_asking (mb_askings).toInt m_states 1802 ∧ AQ mc_asking (mc_askings).toInt m_states 2262 ∧ AQ md_asking (md_askings).toInt m_states 2722) → J p l e room_1 s m #[Value.ref b] below meth c D (fun q : Nat => s.heap.size ≤ q) 8 cb sb (lw_Z below #[Value.ref b] s) [(x0, .inr (10, [.ref r0, .ref a0, .ref n0, .ref k0, .ref x1, .ref q0, .ref o0, .ref h0, .ref s0, .ref d0])), (a0, .inr (9, [.int a_wares, .int a_shelves, .int a_nests, .ref a1, .ref a2, .ref a3, .ref a4, .ref a5, .ref a6, .int a_lids, .int a_tops, .ref a7, .ref a8, .ref a9, .ref a10])), (a1, .inl (cyI, 12, .inl a_wide)), (a2, .inl (cyI, 12, .inl a_deep)), (a3, .inl (cyI, 12, .inl a_weight)), (a4, .inl (cyI, 12, .inl a_bears)), (a5, .inl (cyI, 12, .inl a_breaks)), (a6, .inl (cyI, 12, .inl a_habit)), (a7, .inl (cyI, 12, .inl a_mayOn)), (a8, .inl (cyI, 4, .inl a_height)), (a9, .inl (cyI, 4, .inl a_reach)), (a10, .inl (cyI, 4, .inl a_room)), (n0, .inr (7, [.ref n1, .ref n2, .ref n3, .ref n4, .int n_askings, .int n_cost, .int n_laid])), (n1, .inl (cyI, 12, .inl n_shelf)), (n2, .inl (cyI, 12, .inl n_stack)), (n3, .inl (cyI, 12, .inl n_level)), (n4, .inl (cyI, 30, .inl n_asking)), (k0, .inr (7, [.ref k1, .ref k2, .ref k3, .ref k4, .int k_askings, .int k_cost, .int k_laid])), (k1, .inl (cyI, 12, .inl k_shelf)), (k2, .inl (cyI, 12, .inl k_stack)), (k3, .inl (cyI, 12, .inl k_level)), (k4, .inl (cyI, 30, .inl k_asking)), (q0, .inr (4, [.ref q1, .int q_size])), (q1, .inl (cyI, 12, .inl q_ware)), (o0, .inr (3, [.int o_wares, .ref o1, .ref o2, .int o_known, .int o_fewest, .int o_apart, .ref o3, .ref o4])), (o1, .inl (cyI, 12, .inl o_above)), (o2, .inl (cyI, 12, .inl o_kin)), (o3, .inl (cyI, 12, .inl o_row)), (o4, .inl (cyI, 12, .inl o_members)), (h0, .inr (0, [.int h_known, .int h_wares, .ref h1, .ref h2, .ref h3])), (h1, .inl (cyI, h_r, .inl h_leastRim)), (h2, .inl (cyI, h_n, .inl h_least)), (h3, .inl (cyI, h_n, .inl h_stacks)), (s0, .inr (6, [.ref s1, .int s_cost, .int s_found, .int s_size, .int s_height, .int s_reach, .ref s2, .ref s3])), (s1, .inl (cyI, 7, .inl s_order)), (s2, .inl (cyI, 7, .inl s_trial)), (s3, .inl (cyI, 12, .inl s_times)), (d0, .inr (2, [.ref d1])), (d1, .inl (cyJ, 4, .inr (.inl d_digits))), (r0, .inr (5, [.ref t0, .ref e0, .ref r1, .ref r2, .ref b0, .int r_habits, .int r_fault])), (r1, .inl (cyJ, 12, .inr (.inl r_wn))), (r2, .inl (cyJ, 4, .inr (.inl r_sn))), (t0, .inr (8, [.ref t1, .int t_length, .int t_next, .int t_kind, .int t_place, .int t_number])), (t1, .inl (cyC, 1000, .inl t_text)), (e0, .inr (1, [.int e_size, .int e_nests, .ref e1, .ref e2, .ref e3])), (e1, .inl (cyI, 1000, .inl e_steps)), (e2, .inl (cyI, 4, .inl e_end)), (e3, .inl (cyI, 32, .inl e_values)), (b0, .inr (9, [.int b_wares, .int b_shelves, .int b_nests, .ref b1, .ref b2, .ref b3, .ref b4, .ref b5, .ref b6, .int b_lids, .int b_tops, .ref b7, .ref b8, .ref b9, .ref b10])), (b1, .inl (cyI, 12, .inl b_wide)), (b2, .inl (cyI, 12, .inl b_deep)), (b3, .inl (cyI, 12, .inl b_weight)), (b4, .inl (cyI, 12, .inl b_bears)), (b5, .inl (cyI, 12, .inl b_breaks)), (b6, .inl (cyI, 12, .inl b_habit)), (b7, .inl (cyI, 12, .inl b_mayOn)), (b8, .inl (cyI, 4, .inl b_height)), (b9, .inl (cyI, 4, .inl b_reach)), (b10, .inl (cyI, 4, .inl b_room)), (x1, .inl (cyO, 4, .inr (.inr (.inr (.inr (mk4 ma0 mb0 mc0 md0)))))), (ma0, .inr (7, [.ref ma1, .ref ma2, .ref ma3, .ref ma4, .int ma_askings, .int ma_cost, .int ma_laid])), (ma1, .inl (cyI, 12, .inl ma_shelf)), (ma2, .inl (cyI, 12, .inl ma_stack)), (ma3, .inl (cyI, 12, .inl ma_level)), (ma4, .inl (cyI, 30, .inl ma_asking)), (mb0, .inr (7, [.ref mb1, .ref mb2, .ref mb3, .ref mb4, .int mb_askings, .int mb_cost, .int mb_laid])), (mb1, .inl (cyI, 12, .inl mb_shelf)), (mb2, .inl (cyI, 12, .inl mb_stack)), (mb3, .inl (cyI, 12, .inl mb_level)), (mb4, .inl (cyI, 30, .inl mb_asking)), (mc0, .inr (7, [.ref mc1, .ref mc2, .ref mc3, .ref mc4, .int mc_askings, .int mc_cost, .int mc_laid])), (mc1, .inl (cyI, 12, .inl mc_shelf)), (mc2, .inl (cyI, 12, .inl mc_stack)), (mc3, .inl (cyI, 12, .inl mc_level)), (mc4, .inl (cyI, 30, .inl mc_asking)), (md0, .inr (7, [.ref md1, .ref md2, .ref md3, .ref md4, .int md_askings, .int md_cost, .int md_laid])), (md1, .inl (cyI, 12, .inl md_shelf)), (md2, .inl (cyI, 12, .inl md_stack)), (md3, .inl (cyI, 12, .inl md_level)), (md4, .inl (cyI, 30, .inl md_asking)), (m0, .inr (11, [.int m_thrown, .ref mtape, .int m_taped, .int m_size, .ref msort, .ref mplace, .ref mvalue, .int m_at, .int m_fault, .ref mwords, .ref mtold, .ref mop, .ref marg, .int m_codes, .ref mnames, .ref mhasHabit, .int m_isNew, .ref mfactWords, .ref mfacts, .ref mpile, .ref mstates, .ref misMarked, .int m_inShelf, .int m_inStack, .int m_inPlace, .ref mrow, .int m_rowMany, .ref mthr, .ref mmays, .ref mtall, .ref mweights, .ref mrowOfWare, .ref mneededOf, .int m_goShelf, .int m_goStack, .int m_goLeft, .ref mtried, .ref mbestRow, .int m_bestCost, .int m_bestMany, .int m_bestShelf, .int m_bestSet, .ref mdigits])), (mtape, .inl (cyI, 1000, .inl m_tape)), (msort, .inl (cyI, 1002, .inl m_sort)), (mplace, .inl (cyI, 1002, .inl m_place)), (mvalue, .inl (cyJ, 1002, .inr (.inl m_value))), (mwords, .inl (cyJ, 23, .inr (.inl m_words))), (mtold, .inl (cyI, 240, .inl m_told)), (mop, .inl (cyI, 2200, .inl m_op)), (marg, .inl (cyI, 2200, .inl m_arg)), (mnames, .inl (cyJ, 16, .inr (.inl m_names))), (mhasHabit, .inl (cyZ, 12, .inl m_hasHabit)), (mfactWords, .inl (cyI, 8, .inl m_factWords)), (mfacts, .inl (cyI, 8, .inl m_facts)), (mpile, .inl (cyI, 1100, .inl m_pile)), (mstates, .inl (cyI, 2760, .inl m_states)), (misMarked, .inl (cyZ, 4, .inl m_isMarked)), (mrow, .inl (cyI, 12, .inl m_row)), (mthr, .inl (cyZ, 144, .inl m_thr)), (mmays, .inl (cyZ, 144, .inl m_mays)), (mtall, .inl (cyI, 49152, .inl m_tall)), (mweights, .inl (cyI, 4096, .inl m_weights)), (mrowOfWare, .inl (cyI, 12, .inl m_rowOfWare)), (mneededOf, .inl (cyI, 4096, .inl m_neededOf)), (mtried, .inl (cyI, 7, .inl m_tried)), (mbestRow, .inl (cyI, 7, .inl m_bestRow)), (mdigits, .inl (cyJ, 5, .inr (.inl m_digits))), (z0, .inl (cyJ, 1, .inr (.inl z_out)))] pc [(4, .int i), (3, .ref z0), (2, .ref m0), (1, .ref x0), (0, .ref b)] []
theorem sc_a {i c : Int32} {L : Nat} (hi : 0 ≤ i.toInt ∧ i.toInt + 7 ≤ (L : Int)) (hL : L ≤ 448) (h0 : 0 ≤ c.toInt) (h7 : c.toInt < 7) : (i + c).toInt = i.toInt + c.toInt := fb_addI (by omega) (by omega)
theorem sc_0 {i v : Int32} {L : Nat} {c : Int} (hv : v.toInt = i.toInt + c) (hi : 0 ≤ i.toInt ∧ i.toInt + 7 ≤ (L : Int)) (h : 0 ≤ c) : 0 ≤ v.toInt := by omega
theorem sc_L {i v : Int32} {L : Nat} {c : Int} (hv : v.toInt = i.toInt + c) (hi : 0 ≤ i.toInt ∧ i.toInt + 7 ≤ (L : Int)) (h : c < 7) : v.toInt < (L : Int) := by omega
