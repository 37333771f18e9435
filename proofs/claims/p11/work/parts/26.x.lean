theorem wd_634 : Cond.fieldLink RX11 153 "BowlShelfModel" "size" "I" ∈ WALL := wl_in (by decide +kernel) (by decide +kernel)
theorem wd_635 : Cond.fieldLink RX11 24 "BowlShelfModel" "sort" "[I" ∈ WALL := wl_in (by decide +kernel) (by decide +kernel)
theorem wd_636 : Cond.fieldLink RX11 27 "BowlShelfModel" "place" "[I" ∈ WALL := wl_in (by decide +kernel) (by decide +kernel)
theorem wd_637 : Cond.fieldLink RX11 172 "BowlShelfModel" "at" "I" ∈ WALL := wl_in (by decide +kernel) (by decide +kernel)
theorem wd_638 : Cond.fieldLink RX11 175 "BowlShelfModel" "fault" "I" ∈ WALL := wl_in (by decide +kernel) (by decide +kernel)
theorem wd_639 : Cond.code yX11_isDigit cX11_isDigit 1 (some .boolean) ∈ WALL := wl_in (by decide +kernel) (by decide +kernel)
theorem wd_640 : Cond.methodLink RX11 162 yX11_isDigit ∈ WALL := wl_in (by decide +kernel) (by decide +kernel)
theorem wd_641 : Cond.static yX11_isDigit ∈ WALL := wl_in (by decide +kernel) (by decide +kernel)
theorem wd_642 : Cond.code yX11_isSignOf cX11_isSignOf 1 (some .boolean) ∈ WALL := wl_in (by decide +kernel) (by decide +kernel)
theorem wd_643 : Cond.methodLink RX11 169 yX11_isSignOf ∈ WALL := wl_in (by decide +kernel) (by decide +kernel)
theorem wd_644 : Cond.static yX11_isSignOf ∈ WALL := wl_in (by decide +kernel) (by decide +kernel)
theorem wd_645 : Cond.fieldLink RX11 30 "BowlShelfModel" "value" "[J" ∈ WALL := wl_in (by decide +kernel) (by decide +kernel)
theorem wd_646 : Cond.constantLong RX11 165 (10) ∈ WALL := wl_in (by decide +kernel) (by decide +kernel)
theorem wd_647 : Cond.constantLong RX11 167 (48) ∈ WALL := wl_in (by decide +kernel) (by decide +kernel)
theorem wd_648 : Cond.constantLong RX11 156 (37) ∈ WALL := wl_in (by decide +kernel) (by decide +kernel)
theorem wd_649 : Cond.code yX11_rank cX11_rank 1 (some .int) ∈ WALL := wl_in (by decide +kernel) (by decide +kernel)
theorem wd_650 : Cond.methodLink RX11 158 yX11_rank ∈ WALL := wl_in (by decide +kernel) (by decide +kernel)
theorem wd_651 : Cond.static yX11_rank ∈ WALL := wl_in (by decide +kernel) (by decide +kernel)
theorem dX11_cutAll_0 : decode cX11_cutAll 0 = .ok (.aload_n 0, 1) := by decide +kernel
theorem dX11_cutAll_1 : decode cX11_cutAll 1 = .ok (.aload_n 0, 1) := by decide +kernel
theorem dX11_cutAll_2 : decode cX11_cutAll 2 = .ok (.getfield 11, 3) := by decide +kernel
theorem dX11_cutAll_5 : decode cX11_cutAll 5 = .ok (.putfield 153, 3) := by decide +kernel
theorem dX11_cutAll_8 : decode cX11_cutAll 8 = .ok (.aload_n 0, 1) := by decide +kernel
theorem dX11_cutAll_9 : decode cX11_cutAll 9 = .ok (.iconst 0, 1) := by decide +kernel
theorem dX11_cutAll_10 : decode cX11_cutAll 10 = .ok (.putfield 11, 3) := by decide +kernel
theorem dX11_cutAll_13 : decode cX11_cutAll 13 = .ok (.iconst 0, 1) := by decide +kernel
theorem dX11_cutAll_14 : decode cX11_cutAll 14 = .ok (.istore_n 1, 1) := by decide +kernel
theorem dX11_cutAll_15 : decode cX11_cutAll 15 = .ok (.iconst 0, 1) := by decide +kernel
theorem dX11_cutAll_16 : decode cX11_cutAll 16 = .ok (.istore_n 2, 1) := by decide +kernel
theorem dX11_cutAll_17 : decode cX11_cutAll 17 = .ok (.iload_n 2, 1) := by decide +kernel
theorem dX11_cutAll_18 : decode cX11_cutAll 18 = .ok (.aload_n 0, 1) := by decide +kernel
theorem dX11_cutAll_19 : decode cX11_cutAll 19 = .ok (.getfield 153, 3) := by decide +kernel
theorem dX11_cutAll_22 : decode cX11_cutAll 22 = .ok (.if_icmp .ge 257, 3) := by decide +kernel
theorem dX11_cutAll_25 : decode cX11_cutAll 25 = .ok (.aload_n 0, 1) := by decide +kernel
theorem dX11_cutAll_26 : decode cX11_cutAll 26 = .ok (.getfield 14, 3) := by decide +kernel
theorem dX11_cutAll_29 : decode cX11_cutAll 29 = .ok (.iload_n 2, 1) := by decide +kernel
theorem dX11_cutAll_30 : decode cX11_cutAll 30 = .ok (.iaload, 1) := by decide +kernel
theorem dX11_cutAll_31 : decode cX11_cutAll 31 = .ok (.istore_n 3, 1) := by decide +kernel
theorem dX11_cutAll_32 : decode cX11_cutAll 32 = .ok (.iload_n 3, 1) := by decide +kernel
theorem dX11_cutAll_33 : decode cX11_cutAll 33 = .ok (.bipush 10, 2) := by decide +kernel
theorem dX11_cutAll_35 : decode cX11_cutAll 35 = .ok (.if_icmp .eq 9, 3) := by decide +kernel
theorem dX11_cutAll_38 : decode cX11_cutAll 38 = .ok (.iload_n 3, 1) := by decide +kernel
theorem dX11_cutAll_39 : decode cX11_cutAll 39 = .ok (.bipush 32, 2) := by decide +kernel
theorem dX11_cutAll_41 : decode cX11_cutAll 41 = .ok (.if_icmp .ne 9, 3) := by decide +kernel
theorem dX11_cutAll_44 : decode cX11_cutAll 44 = .ok (.iinc 2 1, 3) := by decide +kernel
theorem dX11_cutAll_47 : decode cX11_cutAll 47 = .ok (.goto (-30), 3) := by decide +kernel
theorem dX11_cutAll_50 : decode cX11_cutAll 50 = .ok (.iload_n 2, 1) := by decide +kernel
theorem dX11_cutAll_51 : decode cX11_cutAll 51 = .ok (.istore 4, 2) := by decide +kernel
theorem dX11_cutAll_53 : decode cX11_cutAll 53 = .ok (.lconst 0, 1) := by decide +kernel
theorem dX11_cutAll_54 : decode cX11_cutAll 54 = .ok (.lstore 5, 2) := by decide +kernel
theorem dX11_cutAll_56 : decode cX11_cutAll 56 = .ok (.aload_n 0, 1) := by decide +kernel
theorem dX11_cutAll_57 : decode cX11_cutAll 57 = .ok (.getfield 27, 3) := by decide +kernel
theorem dX11_cutAll_60 : decode cX11_cutAll 60 = .ok (.iload_n 1, 1) := by decide +kernel
theorem dX11_cutAll_61 : decode cX11_cutAll 61 = .ok (.iload_n 2, 1) := by decide +kernel
theorem dX11_cutAll_62 : decode cX11_cutAll 62 = .ok (.iastore, 1) := by decide +kernel
theorem dX11_cutAll_63 : decode cX11_cutAll 63 = .ok (.iload_n 3, 1) := by decide +kernel
theorem dX11_cutAll_64 : decode cX11_cutAll 64 = .ok (.invokestatic 149, 3) := by decide +kernel
theorem dX11_cutAll_67 : decode cX11_cutAll 67 = .ok (.ifCond .eq 85, 3) := by decide +kernel
theorem dX11_cutAll_70 : decode cX11_cutAll 70 = .ok (.iload_n 2, 1) := by decide +kernel
theorem dX11_cutAll_71 : decode cX11_cutAll 71 = .ok (.aload_n 0, 1) := by decide +kernel
theorem dX11_cutAll_72 : decode cX11_cutAll 72 = .ok (.getfield 153, 3) := by decide +kernel
theorem dX11_cutAll_75 : decode cX11_cutAll 75 = .ok (.if_icmp .ge 54, 3) := by decide +kernel
theorem dX11_cutAll_78 : decode cX11_cutAll 78 = .ok (.aload_n 0, 1) := by decide +kernel
theorem dX11_cutAll_79 : decode cX11_cutAll 79 = .ok (.getfield 14, 3) := by decide +kernel
theorem dX11_cutAll_82 : decode cX11_cutAll 82 = .ok (.iload_n 2, 1) := by decide +kernel
theorem dX11_cutAll_83 : decode cX11_cutAll 83 = .ok (.iaload, 1) := by decide +kernel
theorem dX11_cutAll_84 : decode cX11_cutAll 84 = .ok (.invokestatic 149, 3) := by decide +kernel
theorem dX11_cutAll_87 : decode cX11_cutAll 87 = .ok (.ifCond .eq 42, 3) := by decide +kernel
theorem dX11_cutAll_90 : decode cX11_cutAll 90 = .ok (.iload_n 2, 1) := by decide +kernel
theorem dX11_cutAll_91 : decode cX11_cutAll 91 = .ok (.iload 4, 2) := by decide +kernel
theorem dX11_cutAll_93 : decode cX11_cutAll 93 = .ok (.isub, 1) := by decide +kernel
theorem dX11_cutAll_94 : decode cX11_cutAll 94 = .ok (.bipush 8, 2) := by decide +kernel
theorem dX11_cutAll_96 : decode cX11_cutAll 96 = .ok (.if_icmp .ge 23, 3) := by decide +kernel
theorem dX11_cutAll_99 : decode cX11_cutAll 99 = .ok (.ldc2_w 156, 3) := by decide +kernel
theorem dX11_cutAll_102 : decode cX11_cutAll 102 = .ok (.lload 5, 2) := by decide +kernel
theorem dX11_cutAll_104 : decode cX11_cutAll 104 = .ok (.lmul, 1) := by decide +kernel
theorem dX11_cutAll_105 : decode cX11_cutAll 105 = .ok (.aload_n 0, 1) := by decide +kernel
theorem dX11_cutAll_106 : decode cX11_cutAll 106 = .ok (.getfield 14, 3) := by decide +kernel
theorem dX11_cutAll_109 : decode cX11_cutAll 109 = .ok (.iload_n 2, 1) := by decide +kernel
theorem dX11_cutAll_110 : decode cX11_cutAll 110 = .ok (.iaload, 1) := by decide +kernel
theorem dX11_cutAll_111 : decode cX11_cutAll 111 = .ok (.invokestatic 158, 3) := by decide +kernel
theorem dX11_cutAll_114 : decode cX11_cutAll 114 = .ok (.i2l, 1) := by decide +kernel
theorem dX11_cutAll_115 : decode cX11_cutAll 115 = .ok (.ladd, 1) := by decide +kernel
theorem dX11_cutAll_116 : decode cX11_cutAll 116 = .ok (.goto 5, 3) := by decide +kernel
theorem dX11_cutAll_119 : decode cX11_cutAll 119 = .ok (.lload 5, 2) := by decide +kernel
theorem dX11_cutAll_121 : decode cX11_cutAll 121 = .ok (.lstore 5, 2) := by decide +kernel
theorem dX11_cutAll_123 : decode cX11_cutAll 123 = .ok (.iinc 2 1, 3) := by decide +kernel
theorem dX11_cutAll_126 : decode cX11_cutAll 126 = .ok (.goto (-56), 3) := by decide +kernel
theorem dX11_cutAll_129 : decode cX11_cutAll 129 = .ok (.aload_n 0, 1) := by decide +kernel
theorem dX11_cutAll_130 : decode cX11_cutAll 130 = .ok (.getfield 24, 3) := by decide +kernel
theorem dX11_cutAll_133 : decode cX11_cutAll 133 = .ok (.iload_n 1, 1) := by decide +kernel
theorem dX11_cutAll_134 : decode cX11_cutAll 134 = .ok (.iload_n 2, 1) := by decide +kernel
theorem dX11_cutAll_135 : decode cX11_cutAll 135 = .ok (.iload 4, 2) := by decide +kernel
theorem dX11_cutAll_137 : decode cX11_cutAll 137 = .ok (.isub, 1) := by decide +kernel
theorem dX11_cutAll_138 : decode cX11_cutAll 138 = .ok (.bipush 8, 2) := by decide +kernel
theorem dX11_cutAll_140 : decode cX11_cutAll 140 = .ok (.if_icmp .le 7, 3) := by decide +kernel
theorem dX11_cutAll_143 : decode cX11_cutAll 143 = .ok (.iconst 4, 1) := by decide +kernel
theorem dX11_cutAll_144 : decode cX11_cutAll 144 = .ok (.goto 4, 3) := by decide +kernel
theorem dX11_cutAll_147 : decode cX11_cutAll 147 = .ok (.iconst 1, 1) := by decide +kernel
theorem dX11_cutAll_148 : decode cX11_cutAll 148 = .ok (.iastore, 1) := by decide +kernel
theorem dX11_cutAll_149 : decode cX11_cutAll 149 = .ok (.goto 116, 3) := by decide +kernel
theorem dX11_cutAll_152 : decode cX11_cutAll 152 = .ok (.iload_n 3, 1) := by decide +kernel
theorem dX11_cutAll_153 : decode cX11_cutAll 153 = .ok (.invokestatic 162, 3) := by decide +kernel
theorem dX11_cutAll_156 : decode cX11_cutAll 156 = .ok (.ifCond .eq 84, 3) := by decide +kernel
theorem dX11_cutAll_159 : decode cX11_cutAll 159 = .ok (.iload_n 2, 1) := by decide +kernel
theorem dX11_cutAll_160 : decode cX11_cutAll 160 = .ok (.aload_n 0, 1) := by decide +kernel
theorem dX11_cutAll_161 : decode cX11_cutAll 161 = .ok (.getfield 153, 3) := by decide +kernel
theorem dX11_cutAll_164 : decode cX11_cutAll 164 = .ok (.if_icmp .ge 54, 3) := by decide +kernel
theorem dX11_cutAll_167 : decode cX11_cutAll 167 = .ok (.aload_n 0, 1) := by decide +kernel
theorem dX11_cutAll_168 : decode cX11_cutAll 168 = .ok (.getfield 14, 3) := by decide +kernel
theorem dX11_cutAll_171 : decode cX11_cutAll 171 = .ok (.iload_n 2, 1) := by decide +kernel
theorem dX11_cutAll_172 : decode cX11_cutAll 172 = .ok (.iaload, 1) := by decide +kernel
theorem dX11_cutAll_173 : decode cX11_cutAll 173 = .ok (.invokestatic 162, 3) := by decide +kernel
theorem dX11_cutAll_176 : decode cX11_cutAll 176 = .ok (.ifCond .eq 42, 3) := by decide +kernel
theorem dX11_cutAll_179 : decode cX11_cutAll 179 = .ok (.iload_n 2, 1) := by decide +kernel
theorem dX11_cutAll_180 : decode cX11_cutAll 180 = .ok (.iload 4, 2) := by decide +kernel
theorem dX11_cutAll_182 : decode cX11_cutAll 182 = .ok (.isub, 1) := by decide +kernel
theorem dX11_cutAll_183 : decode cX11_cutAll 183 = .ok (.iconst 4, 1) := by decide +kernel
theorem dX11_cutAll_184 : decode cX11_cutAll 184 = .ok (.if_icmp .ge 24, 3) := by decide +kernel
theorem dX11_cutAll_187 : decode cX11_cutAll 187 = .ok (.ldc2_w 165, 3) := by decide +kernel
theorem dX11_cutAll_190 : decode cX11_cutAll 190 = .ok (.lload 5, 2) := by decide +kernel
theorem dX11_cutAll_192 : decode cX11_cutAll 192 = .ok (.lmul, 1) := by decide +kernel
theorem dX11_cutAll_193 : decode cX11_cutAll 193 = .ok (.aload_n 0, 1) := by decide +kernel
theorem dX11_cutAll_194 : decode cX11_cutAll 194 = .ok (.getfield 14, 3) := by decide +kernel
theorem dX11_cutAll_197 : decode cX11_cutAll 197 = .ok (.iload_n 2, 1) := by decide +kernel
theorem dX11_cutAll_198 : decode cX11_cutAll 198 = .ok (.iaload, 1) := by decide +kernel
theorem dX11_cutAll_199 : decode cX11_cutAll 199 = .ok (.i2l, 1) := by decide +kernel
theorem dX11_cutAll_200 : decode cX11_cutAll 200 = .ok (.ladd, 1) := by decide +kernel
theorem dX11_cutAll_201 : decode cX11_cutAll 201 = .ok (.ldc2_w 167, 3) := by decide +kernel
theorem dX11_cutAll_204 : decode cX11_cutAll 204 = .ok (.lsub, 1) := by decide +kernel
theorem dX11_cutAll_205 : decode cX11_cutAll 205 = .ok (.goto 5, 3) := by decide +kernel
theorem dX11_cutAll_208 : decode cX11_cutAll 208 = .ok (.lload 5, 2) := by decide +kernel
theorem dX11_cutAll_210 : decode cX11_cutAll 210 = .ok (.lstore 5, 2) := by decide +kernel
theorem dX11_cutAll_212 : decode cX11_cutAll 212 = .ok (.iinc 2 1, 3) := by decide +kernel
theorem dX11_cutAll_215 : decode cX11_cutAll 215 = .ok (.goto (-56), 3) := by decide +kernel
theorem dX11_cutAll_218 : decode cX11_cutAll 218 = .ok (.aload_n 0, 1) := by decide +kernel
theorem dX11_cutAll_219 : decode cX11_cutAll 219 = .ok (.getfield 24, 3) := by decide +kernel
theorem dX11_cutAll_222 : decode cX11_cutAll 222 = .ok (.iload_n 1, 1) := by decide +kernel
theorem dX11_cutAll_223 : decode cX11_cutAll 223 = .ok (.iload_n 2, 1) := by decide +kernel
theorem dX11_cutAll_224 : decode cX11_cutAll 224 = .ok (.iload 4, 2) := by decide +kernel
theorem dX11_cutAll_226 : decode cX11_cutAll 226 = .ok (.isub, 1) := by decide +kernel
theorem dX11_cutAll_227 : decode cX11_cutAll 227 = .ok (.iconst 4, 1) := by decide +kernel
theorem dX11_cutAll_228 : decode cX11_cutAll 228 = .ok (.if_icmp .le 7, 3) := by decide +kernel
theorem dX11_cutAll_231 : decode cX11_cutAll 231 = .ok (.iconst 4, 1) := by decide +kernel
theorem dX11_cutAll_232 : decode cX11_cutAll 232 = .ok (.goto 4, 3) := by decide +kernel
theorem dX11_cutAll_235 : decode cX11_cutAll 235 = .ok (.iconst 2, 1) := by decide +kernel
theorem dX11_cutAll_236 : decode cX11_cutAll 236 = .ok (.iastore, 1) := by decide +kernel
theorem dX11_cutAll_237 : decode cX11_cutAll 237 = .ok (.goto 28, 3) := by decide +kernel
theorem dX11_cutAll_240 : decode cX11_cutAll 240 = .ok (.iload_n 3, 1) := by decide +kernel
theorem dX11_cutAll_241 : decode cX11_cutAll 241 = .ok (.i2l, 1) := by decide +kernel
theorem dX11_cutAll_242 : decode cX11_cutAll 242 = .ok (.lstore 5, 2) := by decide +kernel
theorem dX11_cutAll_244 : decode cX11_cutAll 244 = .ok (.aload_n 0, 1) := by decide +kernel
theorem dX11_cutAll_245 : decode cX11_cutAll 245 = .ok (.getfield 24, 3) := by decide +kernel
theorem dX11_cutAll_248 : decode cX11_cutAll 248 = .ok (.iload_n 1, 1) := by decide +kernel
theorem dX11_cutAll_249 : decode cX11_cutAll 249 = .ok (.iload_n 3, 1) := by decide +kernel
theorem dX11_cutAll_250 : decode cX11_cutAll 250 = .ok (.invokestatic 169, 3) := by decide +kernel
theorem dX11_cutAll_253 : decode cX11_cutAll 253 = .ok (.ifCond .eq 7, 3) := by decide +kernel
theorem dX11_cutAll_256 : decode cX11_cutAll 256 = .ok (.iconst 3, 1) := by decide +kernel
theorem dX11_cutAll_257 : decode cX11_cutAll 257 = .ok (.goto 4, 3) := by decide +kernel
theorem dX11_cutAll_260 : decode cX11_cutAll 260 = .ok (.iconst 4, 1) := by decide +kernel
theorem dX11_cutAll_261 : decode cX11_cutAll 261 = .ok (.iastore, 1) := by decide +kernel
theorem dX11_cutAll_262 : decode cX11_cutAll 262 = .ok (.iinc 2 1, 3) := by decide +kernel
theorem dX11_cutAll_265 : decode cX11_cutAll 265 = .ok (.aload_n 0, 1) := by decide +kernel
theorem dX11_cutAll_266 : decode cX11_cutAll 266 = .ok (.getfield 30, 3) := by decide +kernel
theorem dX11_cutAll_269 : decode cX11_cutAll 269 = .ok (.iload_n 1, 1) := by decide +kernel
theorem dX11_cutAll_270 : decode cX11_cutAll 270 = .ok (.lload 5, 2) := by decide +kernel
theorem dX11_cutAll_272 : decode cX11_cutAll 272 = .ok (.lastore, 1) := by decide +kernel
theorem dX11_cutAll_273 : decode cX11_cutAll 273 = .ok (.iinc 1 1, 3) := by decide +kernel
theorem dX11_cutAll_276 : decode cX11_cutAll 276 = .ok (.goto (-259), 3) := by decide +kernel
theorem dX11_cutAll_279 : decode cX11_cutAll 279 = .ok (.aload_n 0, 1) := by decide +kernel
theorem dX11_cutAll_280 : decode cX11_cutAll 280 = .ok (.getfield 24, 3) := by decide +kernel
theorem dX11_cutAll_283 : decode cX11_cutAll 283 = .ok (.iload_n 1, 1) := by decide +kernel
theorem dX11_cutAll_284 : decode cX11_cutAll 284 = .ok (.iconst 0, 1) := by decide +kernel
theorem dX11_cutAll_285 : decode cX11_cutAll 285 = .ok (.iastore, 1) := by decide +kernel
theorem dX11_cutAll_286 : decode cX11_cutAll 286 = .ok (.aload_n 0, 1) := by decide +kernel
theorem dX11_cutAll_287 : decode cX11_cutAll 287 = .ok (.getfield 27, 3) := by decide +kernel
theorem dX11_cutAll_290 : decode cX11_cutAll 290 = .ok (.iload_n 1, 1) := by decide +kernel
theorem dX11_cutAll_291 : decode cX11_cutAll 291 = .ok (.aload_n 0, 1) := by decide +kernel
theorem dX11_cutAll_292 : decode cX11_cutAll 292 = .ok (.getfield 153, 3) := by decide +kernel
theorem dX11_cutAll_295 : decode cX11_cutAll 295 = .ok (.iastore, 1) := by decide +kernel
theorem dX11_cutAll_296 : decode cX11_cutAll 296 = .ok (.aload_n 0, 1) := by decide +kernel
theorem dX11_cutAll_297 : decode cX11_cutAll 297 = .ok (.iconst 0, 1) := by decide +kernel
theorem dX11_cutAll_298 : decode cX11_cutAll 298 = .ok (.putfield 172, 3) := by decide +kernel
theorem dX11_cutAll_301 : decode cX11_cutAll 301 = .ok (.aload_n 0, 1) := by decide +kernel
theorem dX11_cutAll_302 : decode cX11_cutAll 302 = .ok (.iconst 0, 1) := by decide +kernel
theorem dX11_cutAll_303 : decode cX11_cutAll 303 = .ok (.putfield 175, 3) := by decide +kernel
theorem dX11_cutAll_306 : decode cX11_cutAll 306 = .ok (.return_, 1) := by decide +kernel
set_option maxHeartbeats 4000000 in
set_option maxRecDepth 100000 in
theorem c_X11_cutAll (l : Launch) (D : DG) (cyC cyI cyJ cyZ cyO : ClassId) (m0 : Nat) (mtape : Nat) (msort : Nat) (mplace : Nat) (mvalue : Nat) (mwords : Nat) (mtold : Nat) (mop : Nat) (marg : Nat) (mnames : Nat) (mhasHabit : Nat) (mfactWords : Nat) (mfacts : Nat) (mpile : Nat) (mstates : Nat) (misMarked : Nat) (mrow : Nat) (mthr : Nat) (mmays : Nat) (mtall : Nat) (mweights : Nat) (mrowOfWare : Nat) (mneededOf : Nat) (mtried : Nat) (mbestRow : Nat) (mdigits : Nat) (m_thrown : Int32) (m_taped : Int32) (m_size : Int32) (m_at : Int32) (m_fault : Int32) (m_codes : Int32) (m_isNew : Int32) (m_inShelf : Int32) (m_inStack : Int32) (m_inPlace : Int32) (m_rowMany : Int32) (m_goShelf : Int32) (m_goStack : Int32) (m_goLeft : Int32) (m_bestCost : Int32) (m_bestMany : Int32) (m_bestShelf : Int32) (m_bestSet : Int32) (m_tape : Nat → Int32) (m_sort : Nat → Int32) (m_place : Nat → Int32) (m_value : Nat → Int64) (h_m_taped : 0 ≤ (m_taped).toInt ∧ (m_taped).toInt ≤ 1000) (h_m_size : 0 ≤ (m_size).toInt ∧ (m_size).toInt ≤ 1000) (h_m_at : 0 ≤ (m_at).toInt ∧ (m_at).toInt ≤ 1000) (h_m_fault : 0 ≤ (m_fault).toInt ∧ (m_fault).toInt ≤ 16005) (h_m_codes : 0 ≤ (m_codes).toInt ∧ (m_codes).toInt ≤ 1000) (h_m_isNew : 0 ≤ (m_isNew).toInt ∧ (m_isNew).toInt ≤ 1) (h_m_inShelf : 0 ≤ (m_inShelf).toInt ∧ (m_inShelf).toInt ≤ 3) (h_m_inStack : 0 ≤ (m_inStack).toInt ∧ (m_inStack).toInt ≤ 7) (h_m_inPlace : 0 ≤ (m_inPlace).toInt ∧ (m_inPlace).toInt ≤ 11) (h_m_rowMany : 0 ≤ (m_rowMany).toInt ∧ (m_rowMany).toInt ≤ 12) (h_m_goShelf : -1 ≤ (m_goShelf).toInt ∧ (m_goShelf).toInt ≤ 3) (h_m_bestMany : 0 ≤ (m_bestMany).toInt ∧ (m_bestMany).toInt ≤ 7) (h_m_bestShelf : 0 ≤ (m_bestShelf).toInt ∧ (m_bestShelf).toInt ≤ 3) (h_m_place : Iv 1002 (0) (1000) m_place) : KK l D (TY cyC cyI cyJ cyZ cyO) yX11_cutAll cX11_cutAll 7 none ({ frames := 2, cells := 0, slots := 0, locals := 40 } : Room) 0 0 [.ref m0] [(m0, .inr (11, [.int m_thrown, .ref mtape, .int m_taped, .int m_size, .ref msort, .ref mplace, .ref mvalue, .int m_at, .int m_fault, .ref mwords, .ref mtold, .ref mop, .ref marg, .int m_codes, .ref mnames, .ref mhasHabit, .int m_isNew, .ref mfactWords, .ref mfacts, .ref mpile, .ref mstates, .ref misMarked, .int m_inShelf, .int m_inStack, .int m_inPlace, .ref mrow, .int m_rowMany, .ref mthr, .ref mmays, .ref mtall, .ref mweights, .ref mrowOfWare, .ref mneededOf, .int m_goShelf, .int m_goStack, .int m_goLeft, .ref mtried, .ref mbestRow, .int m_bestCost, .int m_bestMany, .int m_bestShelf, .int m_bestSet, .ref mdigits])), (mtape, .inl (cyI, 1000, .inl m_tape)), (msort, .inl (cyI, 1002, .inl m_sort)), (mplace, .inl (cyI, 1002, .inl m_place)), (mvalue, .inl (cyJ, 1002, .inr (.inl m_value)))] (fun u => none) (fun u => (Iv 1002 (0) (1000) (u.2.2.1 1)) ∧ (eN (u.2.2.1 0) ≤ 1000) ∧ (RWS (u.2.2.1 0) (u.2.2.1 1) (u.2.2.2 0) (TKS m_tape (m_taped).toInt.toNat)) ∧ (((u.2.2.1 1) 0).toInt = ((tP m_tape (m_taped).toInt.toNat 0 : Nat) : Int))) (fun u => [(m0, .inr (11, [.int m_thrown, .ref mtape, .int 0, .int m_taped, .ref msort, .ref mplace, .ref mvalue, .int 0, .int 0, .ref mwords, .ref mtold, .ref mop, .ref marg, .int m_codes, .ref mnames, .ref mhasHabit, .int m_isNew, .ref mfactWords, .ref mfacts, .ref mpile, .ref mstates, .ref misMarked, .int m_inShelf, .int m_inStack, .int m_inPlace, .ref mrow, .int m_rowMany, .ref mthr, .ref mmays, .ref mtall, .ref mweights, .ref mrowOfWare, .ref mneededOf, .int m_goShelf, .int m_goStack, .int m_goLeft, .ref mtried, .ref mbestRow, .int m_bestCost, .int m_bestMany, .int m_bestShelf, .int m_bestSet, .ref mdigits])), (mtape, .inl (cyI, 1000, .inl m_tape)), (msort, .inl (cyI, 1002, .inl (u.2.2.1 0))), (mplace, .inl (cyI, 1002, .inl (u.2.2.1 1))), (mvalue, .inl (cyJ, 1002, .inr (.inl (u.2.2.2 0))))]) := by
  refine KK.of (lv0 := [(0, .ref m0)]) (by decide) rfl (Nat.le_of_ble_eq_true rfl) ?_
  intro p e s m args below meth c A C hr hk hin
  refine j_aload_n (pc := 0) C dX11_cutAll_0 rfl 0 rfl ?_
  refine j_aload_n (pc := 1) C dX11_cutAll_1 rfl 0 rfl ?_
  refine j_get (pc := 2) (ci := 11) (v := .int m_taped) C inw_11 0 rfl rfl 2 (by decide) wd_627 rfl rfl dX11_cutAll_2 ?_
  refine j_put (pc := 5) (ci := 11) (v := .int m_taped) (ws' := [(m0, .inr (11, [.int m_thrown, .ref mtape, .int m_taped, .int m_taped, .ref msort, .ref mplace, .ref mvalue, .int m_at, .int m_fault, .ref mwords, .ref mtold, .ref mop, .ref marg, .int m_codes, .ref mnames, .ref mhasHabit, .int m_isNew, .ref mfactWords, .ref mfacts, .ref mpile, .ref mstates, .ref misMarked, .int m_inShelf, .int m_inStack, .int m_inPlace, .ref mrow, .int m_rowMany, .ref mthr, .ref mmays, .ref mtall, .ref mweights, .ref mrowOfWare, .ref mneededOf, .int m_goShelf, .int m_goStack, .int m_goLeft, .ref mtried, .ref mbestRow, .int m_bestCost, .int m_bestMany, .int m_bestShelf, .int m_bestSet, .ref mdigits])), (mtape, .inl (cyI, 1000, .inl m_tape)), (msort, .inl (cyI, 1002, .inl m_sort)), (mplace, .inl (cyI, 1002, .inl m_place)), (mvalue, .inl (cyJ, 1002, .inr (.inl m_value)))]) C inw_11 0 rfl rfl 3 (by decide) wd_634 rfl tyX11_ok nmX11 rfl (tyX11_ok 3 (by decide)) rfl rfl (Nat.le_of_ble_eq_true rfl) dX11_cutAll_5 rfl ?_
  refine j_aload_n (pc := 8) C dX11_cutAll_8 rfl 0 rfl ?_
  refine j_iconst (pc := 9) (v := 0) C dX11_cutAll_9 (by decide) ?_
  refine j_put (pc := 10) (ci := 11) (v := .int 0) (ws' := [(m0, .inr (11, [.int m_thrown, .ref mtape, .int 0, .int m_taped, .ref msort, .ref mplace, .ref mvalue, .int m_at, .int m_fault, .ref mwords, .ref mtold, .ref mop, .ref marg, .int m_codes, .ref mnames, .ref mhasHabit, .int m_isNew, .ref mfactWords, .ref mfacts, .ref mpile, .ref mstates, .ref misMarked, .int m_inShelf, .int m_inStack, .int m_inPlace, .ref mrow, .int m_rowMany, .ref mthr, .ref mmays, .ref mtall, .ref mweights, .ref mrowOfWare, .ref mneededOf, .int m_goShelf, .int m_goStack, .int m_goLeft, .ref mtried, .ref mbestRow, .int m_bestCost, .int m_bestMany, .int m_bestShelf, .int m_bestSet, .ref mdigits])), (mtape, .inl (cyI, 1000, .inl m_tape)), (msort, .inl (cyI, 1002, .inl m_sort)), (mplace, .inl (cyI, 1002, .inl m_place)), (mvalue, .inl (cyJ, 1002, .inr (.inl m_value)))]) C inw_11 0 rfl rfl 2 (by decide) wd_627 rfl tyX11_ok nmX11 rfl (tyX11_ok 2 (by decide)) rfl rfl (Nat.le_of_ble_eq_true rfl) dX11_cutAll_10 rfl ?_
  refine j_iconst (pc := 13) (v := 0) C dX11_cutAll_13 (by decide) ?_
  refine j_istore_n (pc := 14) (lv' := [(1, .int 0), (0, .ref m0)]) C dX11_cutAll_14 rfl (by decide) rfl ?_
  refine j_iconst (pc := 15) (v := 0) C dX11_cutAll_15 (by decide) ?_
  refine j_istore_n (pc := 16) (lv' := [(2, .int 0), (1, .int 0), (0, .ref m0)]) C dX11_cutAll_16 rfl (by decide) rfl ?_
  have loop_1 : ∀ (k_1 : Nat) (x1_2 : Int32) (x1_1 : Int32) (g1_msort : Nat → Int32) (g1_mplace : Nat → Int32) (g1_mvalue : Nat → Int64), (0 ≤ (x1_2).toInt ∧ (x1_2).toInt ≤ 1000) → (0 ≤ (x1_1).toInt ∧ (x1_1).toInt ≤ 1000) → (Iv 1002 (0) (1000) g1_mplace) → (x1_1.toInt ≤ x1_2.toInt ∧ x1_2.toInt ≤ (m_taped).toInt) → (CA g1_msort g1_mplace g1_mvalue m_tape (m_taped).toInt.toNat x1_1.toInt x1_2.toInt) → (1000 - x1_2.toInt).toNat < k_1 → J p l e ({ frames := 2, cells := 0, slots := 0, locals := 40 } : Room) s m args below meth c D A 7 0 0 (QX below D (TY cyC cyI cyJ cyZ cyO) A (fun u => none) (fun u => (Iv 1002 (0) (1000) (u.2.2.1 1)) ∧ (eN (u.2.2.1 0) ≤ 1000) ∧ (RWS (u.2.2.1 0) (u.2.2.1 1) (u.2.2.2 0) (TKS m_tape (m_taped).toInt.toNat)) ∧ (((u.2.2.1 1) 0).toInt = ((tP m_tape (m_taped).toInt.toNat 0 : Nat) : Int))) (fun u => [(m0, .inr (11, [.int m_thrown, .ref mtape, .int 0, .int m_taped, .ref msort, .ref mplace, .ref mvalue, .int 0, .int 0, .ref mwords, .ref mtold, .ref mop, .ref marg, .int m_codes, .ref mnames, .ref mhasHabit, .int m_isNew, .ref mfactWords, .ref mfacts, .ref mpile, .ref mstates, .ref misMarked, .int m_inShelf, .int m_inStack, .int m_inPlace, .ref mrow, .int m_rowMany, .ref mthr, .ref mmays, .ref mtall, .ref mweights, .ref mrowOfWare, .ref mneededOf, .int m_goShelf, .int m_goStack, .int m_goLeft, .ref mtried, .ref mbestRow, .int m_bestCost, .int m_bestMany, .int m_bestShelf, .int m_bestSet, .ref mdigits])), (mtape, .inl (cyI, 1000, .inl m_tape)), (msort, .inl (cyI, 1002, .inl (u.2.2.1 0))), (mplace, .inl (cyI, 1002, .inl (u.2.2.1 1))), (mvalue, .inl (cyJ, 1002, .inr (.inl (u.2.2.2 0))))]) args s 0 0) [(m0, .inr (11, [.int m_thrown, .ref mtape, .int 0, .int m_taped, .ref msort, .ref mplace, .ref mvalue, .int m_at, .int m_fault, .ref mwords, .ref mtold, .ref mop, .ref marg, .int m_codes, .ref mnames, .ref mhasHabit, .int m_isNew, .ref mfactWords, .ref mfacts, .ref mpile, .ref mstates, .ref misMarked, .int m_inShelf, .int m_inStack, .int m_inPlace, .ref mrow, .int m_rowMany, .ref mthr, .ref mmays, .ref mtall, .ref mweights, .ref mrowOfWare, .ref mneededOf, .int m_goShelf, .int m_goStack, .int m_goLeft, .ref mtried, .ref mbestRow, .int m_bestCost, .int m_bestMany, .int m_bestShelf, .int m_bestSet, .ref mdigits])), (mtape, .inl (cyI, 1000, .inl m_tape)), (msort, .inl (cyI, 1002, .inl g1_msort)), (mplace, .inl (cyI, 1002, .inl g1_mplace)), (mvalue, .inl (cyJ, 1002, .inr (.inl g1_mvalue)))] 17 [(2, .int x1_2), (1, .int x1_1), (0, .ref m0)] [] := by
    intro k_1
    induction k_1 with
    | zero =>
      intro x1_2 x1_1 g1_msort g1_mplace g1_mvalue hi_1_0 hi_1_1 hi_1_3 hr_1 hq_1_0 hm_1
      exact absurd hm_1 (Nat.not_lt_zero _)
    | succ k_1 ih_1 =>
      intro x1_2 x1_1 g1_msort g1_mplace g1_mvalue hi_1_0 hi_1_1 hi_1_3 hr_1 hq_1_0 hm_1
      refine j_iload_n (pc := 17) C dX11_cutAll_17 rfl 0 rfl ?_
      refine j_aload_n (pc := 18) C dX11_cutAll_18 rfl 2 rfl ?_
      refine j_get (pc := 19) (ci := 11) (v := .int m_taped) C inw_11 0 rfl rfl 3 (by decide) wd_634 rfl rfl dX11_cutAll_19 ?_
      refine j_icmp_ge (pc := 22) (tgt := 279) C dX11_cutAll_22 (by decide) (fun c_2 => ?_) (fun c_2 => ?_)
      · skip
        rw [i_le] at c_2
        refine j_aload_n (pc := 279) C dX11_cutAll_279 rfl 2 rfl ?_
        refine j_get (pc := 280) (ci := 11) (v := .ref msort) C inw_11 0 rfl rfl 4 (by decide) wd_635 rfl rfl dX11_cutAll_280 ?_
        refine j_iload_n (pc := 283) C dX11_cutAll_283 rfl 1 rfl ?_
        refine j_iconst (pc := 284) (v := 0) C dX11_cutAll_284 (by decide) ?_
        obtain ⟨f_3, ef_3⟩ : ∃ z, z = upd g1_msort (x1_1).toInt.toNat 0 := ⟨_, rfl⟩
        refine j_iast (pc := 285) (k := (x1_1).toInt.toNat) (ws' := [(m0, .inr (11, [.int m_thrown, .ref mtape, .int 0, .int m_taped, .ref msort, .ref mplace, .ref mvalue, .int m_at, .int m_fault, .ref mwords, .ref mtold, .ref mop, .ref marg, .int m_codes, .ref mnames, .ref mhasHabit, .int m_isNew, .ref mfactWords, .ref mfacts, .ref mpile, .ref mstates, .ref misMarked, .int m_inShelf, .int m_inStack, .int m_inPlace, .ref mrow, .int m_rowMany, .ref mthr, .ref mmays, .ref mtall, .ref mweights, .ref mrowOfWare, .ref mneededOf, .int m_goShelf, .int m_goStack, .int m_goLeft, .ref mtried, .ref mbestRow, .int m_bestCost, .int m_bestMany, .int m_bestShelf, .int m_bestSet, .ref mdigits])), (mtape, .inl (cyI, 1000, .inl m_tape)), (msort, .inl (cyI, 1002, .inl f_3)), (mplace, .inl (cyI, 1002, .inl g1_mplace)), (mvalue, .inl (cyJ, 1002, .inr (.inl g1_mvalue)))]) C 2 1 rfl rfl (i_nn hi_1_1.1) rfl (i_lt_n hi_1_1.1 (Int.lt_of_le_of_lt hi_1_1.2 (by decide))) dX11_cutAll_285 (by rw [ef_3]; rfl) ?_
        refine j_aload_n (pc := 286) C dX11_cutAll_286 rfl 2 rfl ?_
        refine j_get (pc := 287) (ci := 11) (v := .ref mplace) C inw_11 0 rfl rfl 5 (by decide) wd_636 rfl rfl dX11_cutAll_287 ?_
        refine j_iload_n (pc := 290) C dX11_cutAll_290 rfl 1 rfl ?_
        refine j_aload_n (pc := 291) C dX11_cutAll_291 rfl 2 rfl ?_
        refine j_get (pc := 292) (ci := 11) (v := .int m_taped) C inw_11 0 rfl rfl 3 (by decide) wd_634 rfl rfl dX11_cutAll_292 ?_
        obtain ⟨f_4, ef_4⟩ : ∃ z, z = upd g1_mplace (x1_1).toInt.toNat m_taped := ⟨_, rfl⟩
        have hf_4 : Iv 1002 (0) (1000) f_4 := by rw [ef_4]; exact Iv.upd hi_1_3 (by omega) (by omega)
        refine j_iast (pc := 295) (k := (x1_1).toInt.toNat) (ws' := [(m0, .inr (11, [.int m_thrown, .ref mtape, .int 0, .int m_taped, .ref msort, .ref mplace, .ref mvalue, .int m_at, .int m_fault, .ref mwords, .ref mtold, .ref mop, .ref marg, .int m_codes, .ref mnames, .ref mhasHabit, .int m_isNew, .ref mfactWords, .ref mfacts, .ref mpile, .ref mstates, .ref misMarked, .int m_inShelf, .int m_inStack, .int m_inPlace, .ref mrow, .int m_rowMany, .ref mthr, .ref mmays, .ref mtall, .ref mweights, .ref mrowOfWare, .ref mneededOf, .int m_goShelf, .int m_goStack, .int m_goLeft, .ref mtried, .ref mbestRow, .int m_bestCost, .int m_bestMany, .int m_bestShelf, .int m_bestSet, .ref mdigits])), (mtape, .inl (cyI, 1000, .inl m_tape)), (msort, .inl (cyI, 1002, .inl f_3)), (mplace, .inl (cyI, 1002, .inl f_4)), (mvalue, .inl (cyJ, 1002, .inr (.inl g1_mvalue)))]) C 3 1 rfl rfl (i_nn hi_1_1.1) rfl (i_lt_n hi_1_1.1 (Int.lt_of_le_of_lt hi_1_1.2 (by decide))) dX11_cutAll_295 (by rw [ef_4]; rfl) ?_
        refine j_aload_n (pc := 296) C dX11_cutAll_296 rfl 2 rfl ?_
        refine j_iconst (pc := 297) (v := 0) C dX11_cutAll_297 (by decide) ?_
        refine j_put (pc := 298) (ci := 11) (v := .int 0) (ws' := [(m0, .inr (11, [.int m_thrown, .ref mtape, .int 0, .int m_taped, .ref msort, .ref mplace, .ref mvalue, .int 0, .int m_fault, .ref mwords, .ref mtold, .ref mop, .ref marg, .int m_codes, .ref mnames, .ref mhasHabit, .int m_isNew, .ref mfactWords, .ref mfacts, .ref mpile, .ref mstates, .ref misMarked, .int m_inShelf, .int m_inStack, .int m_inPlace, .ref mrow, .int m_rowMany, .ref mthr, .ref mmays, .ref mtall, .ref mweights, .ref mrowOfWare, .ref mneededOf, .int m_goShelf, .int m_goStack, .int m_goLeft, .ref mtried, .ref mbestRow, .int m_bestCost, .int m_bestMany, .int m_bestShelf, .int m_bestSet, .ref mdigits])), (mtape, .inl (cyI, 1000, .inl m_tape)), (msort, .inl (cyI, 1002, .inl f_3)), (mplace, .inl (cyI, 1002, .inl f_4)), (mvalue, .inl (cyJ, 1002, .inr (.inl g1_mvalue)))]) C inw_11 0 rfl rfl 7 (by decide) wd_637 rfl tyX11_ok nmX11 rfl (tyX11_ok 7 (by decide)) rfl rfl (Nat.le_of_ble_eq_true rfl) dX11_cutAll_298 rfl ?_
        refine j_aload_n (pc := 301) C dX11_cutAll_301 rfl 2 rfl ?_
        refine j_iconst (pc := 302) (v := 0) C dX11_cutAll_302 (by decide) ?_
        refine j_put (pc := 303) (ci := 11) (v := .int 0) (ws' := [(m0, .inr (11, [.int m_thrown, .ref mtape, .int 0, .int m_taped, .ref msort, .ref mplace, .ref mvalue, .int 0, .int 0, .ref mwords, .ref mtold, .ref mop, .ref marg, .int m_codes, .ref mnames, .ref mhasHabit, .int m_isNew, .ref mfactWords, .ref mfacts, .ref mpile, .ref mstates, .ref misMarked, .int m_inShelf, .int m_inStack, .int m_inPlace, .ref mrow, .int m_rowMany, .ref mthr, .ref mmays, .ref mtall, .ref mweights, .ref mrowOfWare, .ref mneededOf, .int m_goShelf, .int m_goStack, .int m_goLeft, .ref mtried, .ref mbestRow, .int m_bestCost, .int m_bestMany, .int m_bestShelf, .int m_bestSet, .ref mdigits])), (mtape, .inl (cyI, 1000, .inl m_tape)), (msort, .inl (cyI, 1002, .inl f_3)), (mplace, .inl (cyI, 1002, .inl f_4)), (mvalue, .inl (cyJ, 1002, .inr (.inl g1_mvalue)))]) C inw_11 0 rfl rfl 8 (by decide) wd_638 rfl tyX11_ok nmX11 rfl (tyX11_ok 8 (by decide)) rfl rfl (Nat.le_of_ble_eq_true rfl) dX11_cutAll_303 rfl ?_
        exact j_vret (pc := 306) C hr hk (fun i => [].getD i 0, fun i => [].getD i 0, fun i => [f_3, f_4].getD i (fun _ => 0), fun i => [g1_mvalue].getD i (fun _ => 0)) rfl (show (Iv 1002 (0) (1000) f_4) ∧ (eN f_3 ≤ 1000) ∧ (RWS f_3 f_4 g1_mvalue (TKS m_tape (m_taped).toInt.toNat)) ∧ ((f_4 0).toInt = ((tP m_tape (m_taped).toInt.toNat 0 : Nat) : Int)) from ⟨hf_4, (eN_le (m := (x1_1).toInt.toNat) (by rw [ef_3, pk_us]) (by omega)), (CA.fin hq_1_0 (by omega) (by omega) (by omega) ef_3 ef_4 (by omega)).1, (CA.fin hq_1_0 (by omega) (by omega) (by omega) ef_3 ef_4 (by omega)).2⟩) [0, 1, 2, 3, 4] (by decide) rfl (by decide) (by decide) dX11_cutAll_306
      · skip
        rw [i_le] at c_2
        refine j_aload_n (pc := 25) C dX11_cutAll_25 rfl 2 rfl ?_
        refine j_get (pc := 26) (ci := 11) (v := .ref mtape) C inw_11 0 rfl rfl 1 (by decide) wd_628 rfl rfl dX11_cutAll_26 ?_
        refine j_iload_n (pc := 29) C dX11_cutAll_29 rfl 0 rfl ?_
        obtain ⟨v_5, ev_5⟩ : ∃ z, m_tape (x1_2).toInt.toNat = z := ⟨_, rfl⟩
        have env_5 : (m_tape (x1_2).toInt.toNat).toInt = v_5.toInt := by rw [ev_5]
        refine j_iald (pc := 30) (v := v_5) (k := (x1_2).toInt.toNat) C 1 1 rfl rfl (i_nn hi_1_0.1) rfl (i_lt_n hi_1_0.1 (by omega)) ev_5 dX11_cutAll_30 ?_
        refine j_istore_n (pc := 31) (lv' := [(3, .int v_5), (2, .int x1_2), (1, .int x1_1), (0, .ref m0)]) C dX11_cutAll_31 rfl (by decide) rfl ?_
        refine j_iload_n (pc := 32) C dX11_cutAll_32 rfl 0 rfl ?_
        refine j_bipush (pc := 33) (v := 10) C dX11_cutAll_33 (by decide) ?_
        refine j_icmp_eq (pc := 35) (tgt := 44) C dX11_cutAll_35 (by decide) (fun c_6 => ?_) (fun c_6 => ?_)
        · skip
          have el_10 : (10 : Int32).toInt = 10 := rfl
          rw [i_eq] at c_6
          obtain ⟨v_7, ev_7⟩ : ∃ z : Int32, x1_2 + 1 = z := ⟨_, rfl⟩
          have el_1 : (1 : Int32).toInt = 1 := rfl
          have hv_7 : v_7.toInt = x1_2.toInt + (1 : Int32).toInt := by rw [← ev_7]; exact fb_addI (by omega) (by omega)
          refine j_iinc (pc := 44) (v := v_7) (lv' := [(2, .int v_7), (3, .int v_5), (1, .int x1_1), (0, .ref m0)]) C dX11_cutAll_44 1 rfl ev_7 (by decide) rfl ?_
          refine j_goto (pc := 47) (tgt := 17) C dX11_cutAll_47 (by decide) ?_
          have el_10 : (10 : Int32).toInt = 10 := rfl
          have el_32 : (32 : Int32).toInt = 32 := rfl
          exact j_lv [0, 2, 3] rfl (ih_1 v_7 x1_1 g1_msort g1_mplace g1_mvalue (by omega) hi_1_1 hi_1_3 (by omega) (CA.blank hq_1_0 (by omega) (by omega) (by rw [ev_5]; exact decide_eq_true (by omega)) (by omega)) (by omega))
        · skip
          have el_10 : (10 : Int32).toInt = 10 := rfl
          rw [i_eq] at c_6
          refine j_iload_n (pc := 38) C dX11_cutAll_38 rfl 0 rfl ?_
          refine j_bipush (pc := 39) (v := 32) C dX11_cutAll_39 (by decide) ?_
          refine j_icmp_ne (pc := 41) (tgt := 50) C dX11_cutAll_41 (by decide) (fun c_8 => ?_) (fun c_8 => ?_)
          · skip
            have el_32 : (32 : Int32).toInt = 32 := rfl
            rw [i_eq] at c_8
            refine j_iload_n (pc := 50) C dX11_cutAll_50 rfl 1 rfl ?_
            refine j_istore (pc := 51) (lv' := [(4, .int x1_2), (3, .int v_5), (2, .int x1_2), (1, .int x1_1), (0, .ref m0)]) C dX11_cutAll_51 (by decide) rfl ?_
            refine j_lconst (pc := 53) (v := 0) C dX11_cutAll_53 rfl ?_
            refine j_lstore (pc := 54) (lv' := [(5, .long 0), (4, .int x1_2), (3, .int v_5), (2, .int x1_2), (1, .int x1_1), (0, .ref m0)]) C dX11_cutAll_54 (by decide) rfl ?_
            refine j_aload_n (pc := 56) C dX11_cutAll_56 rfl 5 rfl ?_
            refine j_get (pc := 57) (ci := 11) (v := .ref mplace) C inw_11 0 rfl rfl 5 (by decide) wd_636 rfl rfl dX11_cutAll_57 ?_
            refine j_iload_n (pc := 60) C dX11_cutAll_60 rfl 4 rfl ?_
            refine j_iload_n (pc := 61) C dX11_cutAll_61 rfl 3 rfl ?_
            obtain ⟨f_9, ef_9⟩ : ∃ z, z = upd g1_mplace (x1_1).toInt.toNat x1_2 := ⟨_, rfl⟩
            have hf_9 : Iv 1002 (0) (1000) f_9 := by rw [ef_9]; exact Iv.upd hi_1_3 (by omega) (by omega)
            refine j_iast (pc := 62) (k := (x1_1).toInt.toNat) (ws' := [(m0, .inr (11, [.int m_thrown, .ref mtape, .int 0, .int m_taped, .ref msort, .ref mplace, .ref mvalue, .int m_at, .int m_fault, .ref mwords, .ref mtold, .ref mop, .ref marg, .int m_codes, .ref mnames, .ref mhasHabit, .int m_isNew, .ref mfactWords, .ref mfacts, .ref mpile, .ref mstates, .ref misMarked, .int m_inShelf, .int m_inStack, .int m_inPlace, .ref mrow, .int m_rowMany, .ref mthr, .ref mmays, .ref mtall, .ref mweights, .ref mrowOfWare, .ref mneededOf, .int m_goShelf, .int m_goStack, .int m_goLeft, .ref mtried, .ref mbestRow, .int m_bestCost, .int m_bestMany, .int m_bestShelf, .int m_bestSet, .ref mdigits])), (mtape, .inl (cyI, 1000, .inl m_tape)), (msort, .inl (cyI, 1002, .inl g1_msort)), (mplace, .inl (cyI, 1002, .inl f_9)), (mvalue, .inl (cyJ, 1002, .inr (.inl g1_mvalue)))]) C 3 1 rfl rfl (i_nn hi_1_1.1) rfl (i_lt_n hi_1_1.1 (Int.lt_of_le_of_lt hi_1_1.2 (by decide))) dX11_cutAll_62 (by rw [ef_9]; rfl) ?_
            refine j_iload_n (pc := 63) C dX11_cutAll_63 rfl 2 rfl ?_
            refine j_callS (pc := 64) (As := [.int v_5]) (rest := []) (wr := [(m0, .inr (11, [.int m_thrown, .ref mtape, .int 0, .int m_taped, .ref msort, .ref mplace, .ref mvalue, .int m_at, .int m_fault, .ref mwords, .ref mtold, .ref mop, .ref marg, .int m_codes, .ref mnames, .ref mhasHabit, .int m_isNew, .ref mfactWords, .ref mfacts, .ref mpile, .ref mstates, .ref misMarked, .int m_inShelf, .int m_inStack, .int m_inPlace, .ref mrow, .int m_rowMany, .ref mthr, .ref mmays, .ref mtall, .ref mweights, .ref mrowOfWare, .ref mneededOf, .int m_goShelf, .int m_goStack, .int m_goLeft, .ref mtried, .ref mbestRow, .int m_bestCost, .int m_bestMany, .int m_bestShelf, .int m_bestSet, .ref mdigits])), (mtape, .inl (cyI, 1000, .inl m_tape)), (msort, .inl (cyI, 1002, .inl g1_msort)), (mplace, .inl (cyI, 1002, .inl f_9)), (mvalue, .inl (cyJ, 1002, .inr (.inl g1_mvalue)))]) C (c_X11_isLetter_f l D cyC cyI cyJ cyZ cyO v_5) wd_623 wd_624 wd_625 wd_626 ⟨by decide, by decide, rfl⟩ rfl ⟨rfl, rfl, by decide, by decide⟩ ⟨by decide, by decide⟩ [] [0, 1, 2, 3, 4] rfl rfl ⟨by decide, by decide, by decide⟩ rfl (Nat.le_of_ble_eq_true rfl) dX11_cutAll_64 (fun u_10 hw_11 => ?_)
            refine j_eq (ws2 := [(m0, .inr (11, [.int m_thrown, .ref mtape, .int 0, .int m_taped, .ref msort, .ref mplace, .ref mvalue, .int m_at, .int m_fault, .ref mwords, .ref mtold, .ref mop, .ref marg, .int m_codes, .ref mnames, .ref mhasHabit, .int m_isNew, .ref mfactWords, .ref mfacts, .ref mpile, .ref mstates, .ref misMarked, .int m_inShelf, .int m_inStack, .int m_inPlace, .ref mrow, .int m_rowMany, .ref mthr, .ref mmays, .ref mtall, .ref mweights, .ref mrowOfWare, .ref mneededOf, .int m_goShelf, .int m_goStack, .int m_goLeft, .ref mtried, .ref mbestRow, .int m_bestCost, .int m_bestMany, .int m_bestShelf, .int m_bestSet, .ref mdigits])), (mtape, .inl (cyI, 1000, .inl m_tape)), (msort, .inl (cyI, 1002, .inl g1_msort)), (mplace, .inl (cyI, 1002, .inl f_9)), (mvalue, .inl (cyJ, 1002, .inr (.inl g1_mvalue)))]) (pc2 := 67) (lv2 := [(5, .long 0), (4, .int x1_2), (3, .int v_5), (2, .int x1_2), (1, .int x1_1), (0, .ref m0)]) (st2 := [.int (u_10.2.1 0)]) rfl rfl rfl rfl ?_
            obtain ⟨hw_11_0, hw_11_1, hw_11_2⟩ := hw_11
            refine j_if_eq (pc := 67) (tgt := 152) C dX11_cutAll_67 (by decide) (fun c_12 => ?_) (fun c_12 => ?_)
            · skip
              have el_0 : (0 : Int32).toInt = 0 := rfl
              rw [i_eq] at c_12
              refine j_iload_n (pc := 152) C dX11_cutAll_152 rfl 2 rfl ?_
              refine j_callS (pc := 153) (As := [.int v_5]) (rest := []) (wr := [(m0, .inr (11, [.int m_thrown, .ref mtape, .int 0, .int m_taped, .ref msort, .ref mplace, .ref mvalue, .int m_at, .int m_fault, .ref mwords, .ref mtold, .ref mop, .ref marg, .int m_codes, .ref mnames, .ref mhasHabit, .int m_isNew, .ref mfactWords, .ref mfacts, .ref mpile, .ref mstates, .ref misMarked, .int m_inShelf, .int m_inStack, .int m_inPlace, .ref mrow, .int m_rowMany, .ref mthr, .ref mmays, .ref mtall, .ref mweights, .ref mrowOfWare, .ref mneededOf, .int m_goShelf, .int m_goStack, .int m_goLeft, .ref mtried, .ref mbestRow, .int m_bestCost, .int m_bestMany, .int m_bestShelf, .int m_bestSet, .ref mdigits])), (mtape, .inl (cyI, 1000, .inl m_tape)), (msort, .inl (cyI, 1002, .inl g1_msort)), (mplace, .inl (cyI, 1002, .inl f_9)), (mvalue, .inl (cyJ, 1002, .inr (.inl g1_mvalue)))]) C (c_X11_isDigit l D cyC cyI cyJ cyZ cyO v_5) wd_639 wd_624 wd_640 wd_641 ⟨by decide, by decide, rfl⟩ rfl ⟨rfl, rfl, by decide, by decide⟩ ⟨by decide, by decide⟩ [] [0, 1, 2, 3, 4] rfl rfl ⟨by decide, by decide, by decide⟩ rfl (Nat.le_of_ble_eq_true rfl) dX11_cutAll_153 (fun u_13 hw_14 => ?_)
              refine j_eq (ws2 := [(m0, .inr (11, [.int m_thrown, .ref mtape, .int 0, .int m_taped, .ref msort, .ref mplace, .ref mvalue, .int m_at, .int m_fault, .ref mwords, .ref mtold, .ref mop, .ref marg, .int m_codes, .ref mnames, .ref mhasHabit, .int m_isNew, .ref mfactWords, .ref mfacts, .ref mpile, .ref mstates, .ref misMarked, .int m_inShelf, .int m_inStack, .int m_inPlace, .ref mrow, .int m_rowMany, .ref mthr, .ref mmays, .ref mtall, .ref mweights, .ref mrowOfWare, .ref mneededOf, .int m_goShelf, .int m_goStack, .int m_goLeft, .ref mtried, .ref mbestRow, .int m_bestCost, .int m_bestMany, .int m_bestShelf, .int m_bestSet, .ref mdigits])), (mtape, .inl (cyI, 1000, .inl m_tape)), (msort, .inl (cyI, 1002, .inl g1_msort)), (mplace, .inl (cyI, 1002, .inl f_9)), (mvalue, .inl (cyJ, 1002, .inr (.inl g1_mvalue)))]) (pc2 := 156) (lv2 := [(5, .long 0), (4, .int x1_2), (3, .int v_5), (2, .int x1_2), (1, .int x1_1), (0, .ref m0)]) (st2 := [.int (u_13.2.1 0)]) rfl rfl rfl rfl ?_
              obtain ⟨hw_14_0, hw_14_1, hw_14_2⟩ := hw_14
              refine j_if_eq (pc := 156) (tgt := 240) C dX11_cutAll_156 (by decide) (fun c_15 => ?_) (fun c_15 => ?_)
              · skip
                have el_0 : (0 : Int32).toInt = 0 := rfl
                rw [i_eq] at c_15
                refine j_iload_n (pc := 240) C dX11_cutAll_240 rfl 2 rfl ?_
                refine j_i2l (pc := 241) C dX11_cutAll_241 rfl ?_
                refine j_lstore (pc := 242) (lv' := [(5, .long (v_5).toInt64), (4, .int x1_2), (3, .int v_5), (2, .int x1_2), (1, .int x1_1), (0, .ref m0)]) C dX11_cutAll_242 (by decide) rfl ?_
                refine j_aload_n (pc := 244) C dX11_cutAll_244 rfl 5 rfl ?_
                refine j_get (pc := 245) (ci := 11) (v := .ref msort) C inw_11 0 rfl rfl 4 (by decide) wd_635 rfl rfl dX11_cutAll_245 ?_
                refine j_iload_n (pc := 248) C dX11_cutAll_248 rfl 4 rfl ?_
                refine j_iload_n (pc := 249) C dX11_cutAll_249 rfl 2 rfl ?_
                refine j_callS (pc := 250) (As := [.int v_5]) (rest := [.int x1_1, .ref msort]) (wr := [(m0, .inr (11, [.int m_thrown, .ref mtape, .int 0, .int m_taped, .ref msort, .ref mplace, .ref mvalue, .int m_at, .int m_fault, .ref mwords, .ref mtold, .ref mop, .ref marg, .int m_codes, .ref mnames, .ref mhasHabit, .int m_isNew, .ref mfactWords, .ref mfacts, .ref mpile, .ref mstates, .ref misMarked, .int m_inShelf, .int m_inStack, .int m_inPlace, .ref mrow, .int m_rowMany, .ref mthr, .ref mmays, .ref mtall, .ref mweights, .ref mrowOfWare, .ref mneededOf, .int m_goShelf, .int m_goStack, .int m_goLeft, .ref mtried, .ref mbestRow, .int m_bestCost, .int m_bestMany, .int m_bestShelf, .int m_bestSet, .ref mdigits])), (mtape, .inl (cyI, 1000, .inl m_tape)), (msort, .inl (cyI, 1002, .inl g1_msort)), (mplace, .inl (cyI, 1002, .inl f_9)), (mvalue, .inl (cyJ, 1002, .inr (.inl g1_mvalue)))]) C (c_X11_isSignOf_f l D cyC cyI cyJ cyZ cyO v_5) wd_642 wd_624 wd_643 wd_644 ⟨by decide, by decide, rfl⟩ rfl ⟨rfl, rfl, by decide, by decide⟩ ⟨by decide, by decide⟩ [] [0, 1, 2, 3, 4] rfl rfl ⟨by decide, by decide, by decide⟩ rfl (Nat.le_of_ble_eq_true rfl) dX11_cutAll_250 (fun u_16 hw_17 => ?_)
                refine j_eq (ws2 := [(m0, .inr (11, [.int m_thrown, .ref mtape, .int 0, .int m_taped, .ref msort, .ref mplace, .ref mvalue, .int m_at, .int m_fault, .ref mwords, .ref mtold, .ref mop, .ref marg, .int m_codes, .ref mnames, .ref mhasHabit, .int m_isNew, .ref mfactWords, .ref mfacts, .ref mpile, .ref mstates, .ref misMarked, .int m_inShelf, .int m_inStack, .int m_inPlace, .ref mrow, .int m_rowMany, .ref mthr, .ref mmays, .ref mtall, .ref mweights, .ref mrowOfWare, .ref mneededOf, .int m_goShelf, .int m_goStack, .int m_goLeft, .ref mtried, .ref mbestRow, .int m_bestCost, .int m_bestMany, .int m_bestShelf, .int m_bestSet, .ref mdigits])), (mtape, .inl (cyI, 1000, .inl m_tape)), (msort, .inl (cyI, 1002, .inl g1_msort)), (mplace, .inl (cyI, 1002, .inl f_9)), (mvalue, .inl (cyJ, 1002, .inr (.inl g1_mvalue)))]) (pc2 := 253) (lv2 := [(5, .long (v_5).toInt64), (4, .int x1_2), (3, .int v_5), (2, .int x1_2), (1, .int x1_1), (0, .ref m0)]) (st2 := [.int (u_16.2.1 0), .int x1_1, .ref msort]) rfl rfl rfl rfl ?_
                obtain ⟨hw_17_0, hw_17_1⟩ := hw_17
                refine j_if_eq (pc := 253) (tgt := 260) C dX11_cutAll_253 (by decide) (fun c_18 => ?_) (fun c_18 => ?_)
                · skip
                  have el_0 : (0 : Int32).toInt = 0 := rfl
                  rw [i_eq] at c_18
                  refine j_iconst (pc := 260) (v := 4) C dX11_cutAll_260 (by decide) ?_
                  obtain ⟨f_19, ef_19⟩ : ∃ z, z = upd g1_msort (x1_1).toInt.toNat 4 := ⟨_, rfl⟩
                  refine j_iast (pc := 261) (k := (x1_1).toInt.toNat) (ws' := [(m0, .inr (11, [.int m_thrown, .ref mtape, .int 0, .int m_taped, .ref msort, .ref mplace, .ref mvalue, .int m_at, .int m_fault, .ref mwords, .ref mtold, .ref mop, .ref marg, .int m_codes, .ref mnames, .ref mhasHabit, .int m_isNew, .ref mfactWords, .ref mfacts, .ref mpile, .ref mstates, .ref misMarked, .int m_inShelf, .int m_inStack, .int m_inPlace, .ref mrow, .int m_rowMany, .ref mthr, .ref mmays, .ref mtall, .ref mweights, .ref mrowOfWare, .ref mneededOf, .int m_goShelf, .int m_goStack, .int m_goLeft, .ref mtried, .ref mbestRow, .int m_bestCost, .int m_bestMany, .int m_bestShelf, .int m_bestSet, .ref mdigits])), (mtape, .inl (cyI, 1000, .inl m_tape)), (msort, .inl (cyI, 1002, .inl f_19)), (mplace, .inl (cyI, 1002, .inl f_9)), (mvalue, .inl (cyJ, 1002, .inr (.inl g1_mvalue)))]) C 2 1 rfl rfl (i_nn hi_1_1.1) rfl (i_lt_n hi_1_1.1 (Int.lt_of_le_of_lt hi_1_1.2 (by decide))) dX11_cutAll_261 (by rw [ef_19]; rfl) ?_
                  obtain ⟨v_20, ev_20⟩ : ∃ z : Int32, x1_2 + 1 = z := ⟨_, rfl⟩
                  have el_1 : (1 : Int32).toInt = 1 := rfl
                  have hv_20 : v_20.toInt = x1_2.toInt + (1 : Int32).toInt := by rw [← ev_20]; exact fb_addI (by omega) (by omega)
                  refine j_iinc (pc := 262) (v := v_20) (lv' := [(2, .int v_20), (5, .long (v_5).toInt64), (4, .int x1_2), (3, .int v_5), (1, .int x1_1), (0, .ref m0)]) C dX11_cutAll_262 3 rfl ev_20 (by decide) rfl ?_
                  refine j_aload_n (pc := 265) C dX11_cutAll_265 rfl 5 rfl ?_
                  refine j_get (pc := 266) (ci := 11) (v := .ref mvalue) C inw_11 0 rfl rfl 6 (by decide) wd_645 rfl rfl dX11_cutAll_266 ?_
                  refine j_iload_n (pc := 269) C dX11_cutAll_269 rfl 4 rfl ?_
                  refine j_lload (pc := 270) C dX11_cutAll_270 1 rfl ?_
                  obtain ⟨f_21, ef_21⟩ : ∃ z, z = vp_updL g1_mvalue (x1_1).toInt.toNat (v_5).toInt64 := ⟨_, rfl⟩
                  refine j_last (pc := 272) (k := (x1_1).toInt.toNat) (ws' := [(m0, .inr (11, [.int m_thrown, .ref mtape, .int 0, .int m_taped, .ref msort, .ref mplace, .ref mvalue, .int m_at, .int m_fault, .ref mwords, .ref mtold, .ref mop, .ref marg, .int m_codes, .ref mnames, .ref mhasHabit, .int m_isNew, .ref mfactWords, .ref mfacts, .ref mpile, .ref mstates, .ref misMarked, .int m_inShelf, .int m_inStack, .int m_inPlace, .ref mrow, .int m_rowMany, .ref mthr, .ref mmays, .ref mtall, .ref mweights, .ref mrowOfWare, .ref mneededOf, .int m_goShelf, .int m_goStack, .int m_goLeft, .ref mtried, .ref mbestRow, .int m_bestCost, .int m_bestMany, .int m_bestShelf, .int m_bestSet, .ref mdigits])), (mtape, .inl (cyI, 1000, .inl m_tape)), (msort, .inl (cyI, 1002, .inl f_19)), (mplace, .inl (cyI, 1002, .inl f_9)), (mvalue, .inl (cyJ, 1002, .inr (.inl f_21)))]) C 4 2 rfl rfl (i_nn hi_1_1.1) rfl (i_lt_n hi_1_1.1 (Int.lt_of_le_of_lt hi_1_1.2 (by decide))) dX11_cutAll_272 (by rw [ef_21]; rfl) ?_
                  obtain ⟨v_22, ev_22⟩ : ∃ z : Int32, x1_1 + 1 = z := ⟨_, rfl⟩
                  have el_1 : (1 : Int32).toInt = 1 := rfl
                  have hv_22 : v_22.toInt = x1_1.toInt + (1 : Int32).toInt := by rw [← ev_22]; exact fb_addI (by omega) (by omega)
                  refine j_iinc (pc := 273) (v := v_22) (lv' := [(1, .int v_22), (2, .int v_20), (5, .long (v_5).toInt64), (4, .int x1_2), (3, .int v_5), (0, .ref m0)]) C dX11_cutAll_273 4 rfl ev_22 (by decide) rfl ?_
                  refine j_goto (pc := 276) (tgt := 17) C dX11_cutAll_276 (by decide) ?_
                  have el_10 : (10 : Int32).toInt = 10 := rfl
                  have el_32 : (32 : Int32).toInt = 32 := rfl
                  have el_97 : (97 : Int32).toInt = 97 := rfl
                  have el_122 : (122 : Int32).toInt = 122 := rfl
                  have el_48 : (48 : Int32).toInt = 48 := rfl
                  have el_57 : (57 : Int32).toInt = 57 := rfl
                  have el_4 : (4 : Int32).toInt = 4 := rfl
                  exact j_lv [1, 0, 5] rfl (ih_1 v_20 v_22 f_19 f_9 f_21 (by omega) (by omega) hf_9 (by omega) (CA.sgn hq_1_0 (by omega) (by omega) (by omega) (fun z => by have z9 := of_decide_eq_true z; rw [ev_5] at z9; omega) (fun z => by have z9 := isR_iff.mp z; rw [ev_5] at z9; omega) (fun z => by have z9 := isR_iff.mp z; rw [ev_5] at z9; omega) ef_19 ef_9 rfl ef_21 (by omega) ev_5 (by rcases hw_17_1 with z | z; (first | exact Or.inl ⟨z.1, by omega⟩ | (exfalso; omega)); (first | exact Or.inr ⟨z.1, by omega⟩ | (exfalso; omega))) rfl (by omega)) (by omega))
                · skip
                  have el_0 : (0 : Int32).toInt = 0 := rfl
                  rw [i_eq] at c_18
                  have k0c_18 : ((u_16.2.1 0)).toInt = 1 := by omega
                  refine j_iconst (pc := 256) (v := 3) C dX11_cutAll_256 (by decide) ?_
                  refine j_goto (pc := 257) (tgt := 261) C dX11_cutAll_257 (by decide) ?_
                  obtain ⟨f_23, ef_23⟩ : ∃ z, z = upd g1_msort (x1_1).toInt.toNat 3 := ⟨_, rfl⟩
                  refine j_iast (pc := 261) (k := (x1_1).toInt.toNat) (ws' := [(m0, .inr (11, [.int m_thrown, .ref mtape, .int 0, .int m_taped, .ref msort, .ref mplace, .ref mvalue, .int m_at, .int m_fault, .ref mwords, .ref mtold, .ref mop, .ref marg, .int m_codes, .ref mnames, .ref mhasHabit, .int m_isNew, .ref mfactWords, .ref mfacts, .ref mpile, .ref mstates, .ref misMarked, .int m_inShelf, .int m_inStack, .int m_inPlace, .ref mrow, .int m_rowMany, .ref mthr, .ref mmays, .ref mtall, .ref mweights, .ref mrowOfWare, .ref mneededOf, .int m_goShelf, .int m_goStack, .int m_goLeft, .ref mtried, .ref mbestRow, .int m_bestCost, .int m_bestMany, .int m_bestShelf, .int m_bestSet, .ref mdigits])), (mtape, .inl (cyI, 1000, .inl m_tape)), (msort, .inl (cyI, 1002, .inl f_23)), (mplace, .inl (cyI, 1002, .inl f_9)), (mvalue, .inl (cyJ, 1002, .inr (.inl g1_mvalue)))]) C 2 1 rfl rfl (i_nn hi_1_1.1) rfl (i_lt_n hi_1_1.1 (Int.lt_of_le_of_lt hi_1_1.2 (by decide))) dX11_cutAll_261 (by rw [ef_23]; rfl) ?_
                  obtain ⟨v_24, ev_24⟩ : ∃ z : Int32, x1_2 + 1 = z := ⟨_, rfl⟩
                  have el_1 : (1 : Int32).toInt = 1 := rfl
                  have hv_24 : v_24.toInt = x1_2.toInt + (1 : Int32).toInt := by rw [← ev_24]; exact fb_addI (by omega) (by omega)
                  refine j_iinc (pc := 262) (v := v_24) (lv' := [(2, .int v_24), (5, .long (v_5).toInt64), (4, .int x1_2), (3, .int v_5), (1, .int x1_1), (0, .ref m0)]) C dX11_cutAll_262 3 rfl ev_24 (by decide) rfl ?_
                  refine j_aload_n (pc := 265) C dX11_cutAll_265 rfl 5 rfl ?_
                  refine j_get (pc := 266) (ci := 11) (v := .ref mvalue) C inw_11 0 rfl rfl 6 (by decide) wd_645 rfl rfl dX11_cutAll_266 ?_
                  refine j_iload_n (pc := 269) C dX11_cutAll_269 rfl 4 rfl ?_
                  refine j_lload (pc := 270) C dX11_cutAll_270 1 rfl ?_
                  obtain ⟨f_25, ef_25⟩ : ∃ z, z = vp_updL g1_mvalue (x1_1).toInt.toNat (v_5).toInt64 := ⟨_, rfl⟩
                  refine j_last (pc := 272) (k := (x1_1).toInt.toNat) (ws' := [(m0, .inr (11, [.int m_thrown, .ref mtape, .int 0, .int m_taped, .ref msort, .ref mplace, .ref mvalue, .int m_at, .int m_fault, .ref mwords, .ref mtold, .ref mop, .ref marg, .int m_codes, .ref mnames, .ref mhasHabit, .int m_isNew, .ref mfactWords, .ref mfacts, .ref mpile, .ref mstates, .ref misMarked, .int m_inShelf, .int m_inStack, .int m_inPlace, .ref mrow, .int m_rowMany, .ref mthr, .ref mmays, .ref mtall, .ref mweights, .ref mrowOfWare, .ref mneededOf, .int m_goShelf, .int m_goStack, .int m_goLeft, .ref mtried, .ref mbestRow, .int m_bestCost, .int m_bestMany, .int m_bestShelf, .int m_bestSet, .ref mdigits])), (mtape, .inl (cyI, 1000, .inl m_tape)), (msort, .inl (cyI, 1002, .inl f_23)), (mplace, .inl (cyI, 1002, .inl f_9)), (mvalue, .inl (cyJ, 1002, .inr (.inl f_25)))]) C 4 2 rfl rfl (i_nn hi_1_1.1) rfl (i_lt_n hi_1_1.1 (Int.lt_of_le_of_lt hi_1_1.2 (by decide))) dX11_cutAll_272 (by rw [ef_25]; rfl) ?_
                  obtain ⟨v_26, ev_26⟩ : ∃ z : Int32, x1_1 + 1 = z := ⟨_, rfl⟩
                  have el_1 : (1 : Int32).toInt = 1 := rfl
                  have hv_26 : v_26.toInt = x1_1.toInt + (1 : Int32).toInt := by rw [← ev_26]; exact fb_addI (by omega) (by omega)
                  refine j_iinc (pc := 273) (v := v_26) (lv' := [(1, .int v_26), (2, .int v_24), (5, .long (v_5).toInt64), (4, .int x1_2), (3, .int v_5), (0, .ref m0)]) C dX11_cutAll_273 4 rfl ev_26 (by decide) rfl ?_
                  refine j_goto (pc := 276) (tgt := 17) C dX11_cutAll_276 (by decide) ?_
                  have el_10 : (10 : Int32).toInt = 10 := rfl
                  have el_32 : (32 : Int32).toInt = 32 := rfl
                  have el_97 : (97 : Int32).toInt = 97 := rfl
                  have el_122 : (122 : Int32).toInt = 122 := rfl
                  have el_48 : (48 : Int32).toInt = 48 := rfl
                  have el_57 : (57 : Int32).toInt = 57 := rfl
                  have el_3 : (3 : Int32).toInt = 3 := rfl
                  exact j_lv [1, 0, 5] rfl (ih_1 v_24 v_26 f_23 f_9 f_25 (by omega) (by omega) hf_9 (by omega) (CA.sgn hq_1_0 (by omega) (by omega) (by omega) (fun z => by have z9 := of_decide_eq_true z; rw [ev_5] at z9; omega) (fun z => by have z9 := isR_iff.mp z; rw [ev_5] at z9; omega) (fun z => by have z9 := isR_iff.mp z; rw [ev_5] at z9; omega) ef_23 ef_9 rfl ef_25 (by omega) ev_5 (by rcases hw_17_1 with z | z; (first | exact Or.inl ⟨z.1, by omega⟩ | (exfalso; omega)); (first | exact Or.inr ⟨z.1, by omega⟩ | (exfalso; omega))) rfl (by omega)) (by omega))
              · skip
                have el_0 : (0 : Int32).toInt = 0 := rfl
                rw [i_eq] at c_15
                have k0c_15 : ((u_13.2.1 0)).toInt = 1 := by omega
                refine j_iload_n (pc := 159) C dX11_cutAll_159 rfl 3 rfl ?_
                refine j_aload_n (pc := 160) C dX11_cutAll_160 rfl 5 rfl ?_
                refine j_get (pc := 161) (ci := 11) (v := .int m_taped) C inw_11 0 rfl rfl 3 (by decide) wd_634 rfl rfl dX11_cutAll_161 ?_
                refine j_icmp_ge (pc := 164) (tgt := 218) C dX11_cutAll_164 (by decide) (fun c_27 => ?_) (fun c_27 => ?_)
                · skip
                  rw [i_le] at c_27
                  refine j_aload_n (pc := 218) C dX11_cutAll_218 rfl 5 rfl ?_
                  refine j_get (pc := 219) (ci := 11) (v := .ref msort) C inw_11 0 rfl rfl 4 (by decide) wd_635 rfl rfl dX11_cutAll_219 ?_
                  refine j_iload_n (pc := 222) C dX11_cutAll_222 rfl 4 rfl ?_
                  refine j_iload_n (pc := 223) C dX11_cutAll_223 rfl 3 rfl ?_
                  refine j_iload (pc := 224) C dX11_cutAll_224 1 rfl ?_
                  obtain ⟨v_28, ev_28⟩ : ∃ z : Int32, x1_2 - x1_2 = z := ⟨_, rfl⟩
                  have hv_28 : v_28.toInt = x1_2.toInt - x1_2.toInt := by rw [← ev_28]; exact fb_subI (by omega) (by omega)
                  refine j_isub (pc := 226) (v := v_28) C dX11_cutAll_226 ev_28 ?_
                  refine j_iconst (pc := 227) (v := 4) C dX11_cutAll_227 (by decide) ?_
                  refine j_icmp_le (pc := 228) (tgt := 235) C dX11_cutAll_228 (by decide) (fun c_29 => ?_) (fun c_29 => ?_)
                  · skip
                    have el_4 : (4 : Int32).toInt = 4 := rfl
                    rw [i_le] at c_29
                    refine j_iconst (pc := 235) (v := 2) C dX11_cutAll_235 (by decide) ?_
                    obtain ⟨f_30, ef_30⟩ : ∃ z, z = upd g1_msort (x1_1).toInt.toNat 2 := ⟨_, rfl⟩
                    refine j_iast (pc := 236) (k := (x1_1).toInt.toNat) (ws' := [(m0, .inr (11, [.int m_thrown, .ref mtape, .int 0, .int m_taped, .ref msort, .ref mplace, .ref mvalue, .int m_at, .int m_fault, .ref mwords, .ref mtold, .ref mop, .ref marg, .int m_codes, .ref mnames, .ref mhasHabit, .int m_isNew, .ref mfactWords, .ref mfacts, .ref mpile, .ref mstates, .ref misMarked, .int m_inShelf, .int m_inStack, .int m_inPlace, .ref mrow, .int m_rowMany, .ref mthr, .ref mmays, .ref mtall, .ref mweights, .ref mrowOfWare, .ref mneededOf, .int m_goShelf, .int m_goStack, .int m_goLeft, .ref mtried, .ref mbestRow, .int m_bestCost, .int m_bestMany, .int m_bestShelf, .int m_bestSet, .ref mdigits])), (mtape, .inl (cyI, 1000, .inl m_tape)), (msort, .inl (cyI, 1002, .inl f_30)), (mplace, .inl (cyI, 1002, .inl f_9)), (mvalue, .inl (cyJ, 1002, .inr (.inl g1_mvalue)))]) C 2 1 rfl rfl (i_nn hi_1_1.1) rfl (i_lt_n hi_1_1.1 (Int.lt_of_le_of_lt hi_1_1.2 (by decide))) dX11_cutAll_236 (by rw [ef_30]; rfl) ?_
                    refine j_goto (pc := 237) (tgt := 265) C dX11_cutAll_237 (by decide) ?_
                    refine j_aload_n (pc := 265) C dX11_cutAll_265 rfl 5 rfl ?_
                    refine j_get (pc := 266) (ci := 11) (v := .ref mvalue) C inw_11 0 rfl rfl 6 (by decide) wd_645 rfl rfl dX11_cutAll_266 ?_
                    refine j_iload_n (pc := 269) C dX11_cutAll_269 rfl 4 rfl ?_
                    refine j_lload (pc := 270) C dX11_cutAll_270 0 rfl ?_
                    obtain ⟨f_31, ef_31⟩ : ∃ z, z = vp_updL g1_mvalue (x1_1).toInt.toNat 0 := ⟨_, rfl⟩
                    refine j_last (pc := 272) (k := (x1_1).toInt.toNat) (ws' := [(m0, .inr (11, [.int m_thrown, .ref mtape, .int 0, .int m_taped, .ref msort, .ref mplace, .ref mvalue, .int m_at, .int m_fault, .ref mwords, .ref mtold, .ref mop, .ref marg, .int m_codes, .ref mnames, .ref mhasHabit, .int m_isNew, .ref mfactWords, .ref mfacts, .ref mpile, .ref mstates, .ref misMarked, .int m_inShelf, .int m_inStack, .int m_inPlace, .ref mrow, .int m_rowMany, .ref mthr, .ref mmays, .ref mtall, .ref mweights, .ref mrowOfWare, .ref mneededOf, .int m_goShelf, .int m_goStack, .int m_goLeft, .ref mtried, .ref mbestRow, .int m_bestCost, .int m_bestMany, .int m_bestShelf, .int m_bestSet, .ref mdigits])), (mtape, .inl (cyI, 1000, .inl m_tape)), (msort, .inl (cyI, 1002, .inl f_30)), (mplace, .inl (cyI, 1002, .inl f_9)), (mvalue, .inl (cyJ, 1002, .inr (.inl f_31)))]) C 4 2 rfl rfl (i_nn hi_1_1.1) rfl (i_lt_n hi_1_1.1 (Int.lt_of_le_of_lt hi_1_1.2 (by decide))) dX11_cutAll_272 (by rw [ef_31]; rfl) ?_
                    obtain ⟨v_32, ev_32⟩ : ∃ z : Int32, x1_1 + 1 = z := ⟨_, rfl⟩
                    have el_1 : (1 : Int32).toInt = 1 := rfl
                    have hv_32 : v_32.toInt = x1_1.toInt + (1 : Int32).toInt := by rw [← ev_32]; exact fb_addI (by omega) (by omega)
                    refine j_iinc (pc := 273) (v := v_32) (lv' := [(1, .int v_32), (5, .long 0), (4, .int x1_2), (3, .int v_5), (2, .int x1_2), (0, .ref m0)]) C dX11_cutAll_273 4 rfl ev_32 (by decide) rfl ?_
                    refine j_goto (pc := 276) (tgt := 17) C dX11_cutAll_276 (by decide) ?_
                    have el_10 : (10 : Int32).toInt = 10 := rfl
                    have el_32 : (32 : Int32).toInt = 32 := rfl
                    have el_97 : (97 : Int32).toInt = 97 := rfl
                    have el_122 : (122 : Int32).toInt = 122 := rfl
                    have el_48 : (48 : Int32).toInt = 48 := rfl
                    have el_57 : (57 : Int32).toInt = 57 := rfl
                    have el_2 : (2 : Int32).toInt = 2 := rfl
                    exact j_lv [4, 0, 5] rfl (ih_1 x1_2 v_32 f_30 f_9 f_31 hi_1_0 (by omega) hf_9 (by omega) (by exfalso; omega) (by omega))
                  · skip
                    have el_4 : (4 : Int32).toInt = 4 := rfl
                    rw [i_le] at c_29
                    refine j_iconst (pc := 231) (v := 4) C dX11_cutAll_231 (by decide) ?_
                    refine j_goto (pc := 232) (tgt := 236) C dX11_cutAll_232 (by decide) ?_
                    obtain ⟨f_33, ef_33⟩ : ∃ z, z = upd g1_msort (x1_1).toInt.toNat 4 := ⟨_, rfl⟩
                    refine j_iast (pc := 236) (k := (x1_1).toInt.toNat) (ws' := [(m0, .inr (11, [.int m_thrown, .ref mtape, .int 0, .int m_taped, .ref msort, .ref mplace, .ref mvalue, .int m_at, .int m_fault, .ref mwords, .ref mtold, .ref mop, .ref marg, .int m_codes, .ref mnames, .ref mhasHabit, .int m_isNew, .ref mfactWords, .ref mfacts, .ref mpile, .ref mstates, .ref misMarked, .int m_inShelf, .int m_inStack, .int m_inPlace, .ref mrow, .int m_rowMany, .ref mthr, .ref mmays, .ref mtall, .ref mweights, .ref mrowOfWare, .ref mneededOf, .int m_goShelf, .int m_goStack, .int m_goLeft, .ref mtried, .ref mbestRow, .int m_bestCost, .int m_bestMany, .int m_bestShelf, .int m_bestSet, .ref mdigits])), (mtape, .inl (cyI, 1000, .inl m_tape)), (msort, .inl (cyI, 1002, .inl f_33)), (mplace, .inl (cyI, 1002, .inl f_9)), (mvalue, .inl (cyJ, 1002, .inr (.inl g1_mvalue)))]) C 2 1 rfl rfl (i_nn hi_1_1.1) rfl (i_lt_n hi_1_1.1 (Int.lt_of_le_of_lt hi_1_1.2 (by decide))) dX11_cutAll_236 (by rw [ef_33]; rfl) ?_
                    refine j_goto (pc := 237) (tgt := 265) C dX11_cutAll_237 (by decide) ?_
                    refine j_aload_n (pc := 265) C dX11_cutAll_265 rfl 5 rfl ?_
                    refine j_get (pc := 266) (ci := 11) (v := .ref mvalue) C inw_11 0 rfl rfl 6 (by decide) wd_645 rfl rfl dX11_cutAll_266 ?_
                    refine j_iload_n (pc := 269) C dX11_cutAll_269 rfl 4 rfl ?_
                    refine j_lload (pc := 270) C dX11_cutAll_270 0 rfl ?_
                    obtain ⟨f_34, ef_34⟩ : ∃ z, z = vp_updL g1_mvalue (x1_1).toInt.toNat 0 := ⟨_, rfl⟩
                    refine j_last (pc := 272) (k := (x1_1).toInt.toNat) (ws' := [(m0, .inr (11, [.int m_thrown, .ref mtape, .int 0, .int m_taped, .ref msort, .ref mplace, .ref mvalue, .int m_at, .int m_fault, .ref mwords, .ref mtold, .ref mop, .ref marg, .int m_codes, .ref mnames, .ref mhasHabit, .int m_isNew, .ref mfactWords, .ref mfacts, .ref mpile, .ref mstates, .ref misMarked, .int m_inShelf, .int m_inStack, .int m_inPlace, .ref mrow, .int m_rowMany, .ref mthr, .ref mmays, .ref mtall, .ref mweights, .ref mrowOfWare, .ref mneededOf, .int m_goShelf, .int m_goStack, .int m_goLeft, .ref mtried, .ref mbestRow, .int m_bestCost, .int m_bestMany, .int m_bestShelf, .int m_bestSet, .ref mdigits])), (mtape, .inl (cyI, 1000, .inl m_tape)), (msort, .inl (cyI, 1002, .inl f_33)), (mplace, .inl (cyI, 1002, .inl f_9)), (mvalue, .inl (cyJ, 1002, .inr (.inl f_34)))]) C 4 2 rfl rfl (i_nn hi_1_1.1) rfl (i_lt_n hi_1_1.1 (Int.lt_of_le_of_lt hi_1_1.2 (by decide))) dX11_cutAll_272 (by rw [ef_34]; rfl) ?_
                    obtain ⟨v_35, ev_35⟩ : ∃ z : Int32, x1_1 + 1 = z := ⟨_, rfl⟩
                    have el_1 : (1 : Int32).toInt = 1 := rfl
                    have hv_35 : v_35.toInt = x1_1.toInt + (1 : Int32).toInt := by rw [← ev_35]; exact fb_addI (by omega) (by omega)
                    refine j_iinc (pc := 273) (v := v_35) (lv' := [(1, .int v_35), (5, .long 0), (4, .int x1_2), (3, .int v_5), (2, .int x1_2), (0, .ref m0)]) C dX11_cutAll_273 4 rfl ev_35 (by decide) rfl ?_
                    refine j_goto (pc := 276) (tgt := 17) C dX11_cutAll_276 (by decide) ?_
                    have el_10 : (10 : Int32).toInt = 10 := rfl
                    have el_32 : (32 : Int32).toInt = 32 := rfl
                    have el_97 : (97 : Int32).toInt = 97 := rfl
                    have el_122 : (122 : Int32).toInt = 122 := rfl
                    have el_48 : (48 : Int32).toInt = 48 := rfl
                    have el_57 : (57 : Int32).toInt = 57 := rfl
                    have el_4 : (4 : Int32).toInt = 4 := rfl
                    exact j_lv [4, 0, 5] rfl (ih_1 x1_2 v_35 f_33 f_9 f_34 hi_1_0 (by omega) hf_9 (by omega) (by exfalso; omega) (by omega))
                · skip
                  rw [i_le] at c_27
                  refine j_aload_n (pc := 167) C dX11_cutAll_167 rfl 5 rfl ?_
                  refine j_get (pc := 168) (ci := 11) (v := .ref mtape) C inw_11 0 rfl rfl 1 (by decide) wd_628 rfl rfl dX11_cutAll_168 ?_
                  refine j_iload_n (pc := 171) C dX11_cutAll_171 rfl 3 rfl ?_
                  refine j_iald (pc := 172) (v := v_5) (k := (x1_2).toInt.toNat) C 1 1 rfl rfl (i_nn hi_1_0.1) rfl (i_lt_n hi_1_0.1 (by omega)) ev_5 dX11_cutAll_172 ?_
                  refine j_callS (pc := 173) (As := [.int v_5]) (rest := []) (wr := [(m0, .inr (11, [.int m_thrown, .ref mtape, .int 0, .int m_taped, .ref msort, .ref mplace, .ref mvalue, .int m_at, .int m_fault, .ref mwords, .ref mtold, .ref mop, .ref marg, .int m_codes, .ref mnames, .ref mhasHabit, .int m_isNew, .ref mfactWords, .ref mfacts, .ref mpile, .ref mstates, .ref misMarked, .int m_inShelf, .int m_inStack, .int m_inPlace, .ref mrow, .int m_rowMany, .ref mthr, .ref mmays, .ref mtall, .ref mweights, .ref mrowOfWare, .ref mneededOf, .int m_goShelf, .int m_goStack, .int m_goLeft, .ref mtried, .ref mbestRow, .int m_bestCost, .int m_bestMany, .int m_bestShelf, .int m_bestSet, .ref mdigits])), (mtape, .inl (cyI, 1000, .inl m_tape)), (msort, .inl (cyI, 1002, .inl g1_msort)), (mplace, .inl (cyI, 1002, .inl f_9)), (mvalue, .inl (cyJ, 1002, .inr (.inl g1_mvalue)))]) C (c_X11_isDigit l D cyC cyI cyJ cyZ cyO v_5) wd_639 wd_624 wd_640 wd_641 ⟨by decide, by decide, rfl⟩ rfl ⟨rfl, rfl, by decide, by decide⟩ ⟨by decide, by decide⟩ [] [0, 1, 2, 3, 4] rfl rfl ⟨by decide, by decide, by decide⟩ rfl (Nat.le_of_ble_eq_true rfl) dX11_cutAll_173 (fun u_36 hw_37 => ?_)
                  refine j_eq (ws2 := [(m0, .inr (11, [.int m_thrown, .ref mtape, .int 0, .int m_taped, .ref msort, .ref mplace, .ref mvalue, .int m_at, .int m_fault, .ref mwords, .ref mtold, .ref mop, .ref marg, .int m_codes, .ref mnames, .ref mhasHabit, .int m_isNew, .ref mfactWords, .ref mfacts, .ref mpile, .ref mstates, .ref misMarked, .int m_inShelf, .int m_inStack, .int m_inPlace, .ref mrow, .int m_rowMany, .ref mthr, .ref mmays, .ref mtall, .ref mweights, .ref mrowOfWare, .ref mneededOf, .int m_goShelf, .int m_goStack, .int m_goLeft, .ref mtried, .ref mbestRow, .int m_bestCost, .int m_bestMany, .int m_bestShelf, .int m_bestSet, .ref mdigits])), (mtape, .inl (cyI, 1000, .inl m_tape)), (msort, .inl (cyI, 1002, .inl g1_msort)), (mplace, .inl (cyI, 1002, .inl f_9)), (mvalue, .inl (cyJ, 1002, .inr (.inl g1_mvalue)))]) (pc2 := 176) (lv2 := [(5, .long 0), (4, .int x1_2), (3, .int v_5), (2, .int x1_2), (1, .int x1_1), (0, .ref m0)]) (st2 := [.int (u_36.2.1 0)]) rfl rfl rfl rfl ?_
                  obtain ⟨hw_37_0, hw_37_1, hw_37_2⟩ := hw_37
                  have el_0 : (0 : Int32).toInt = 0 := rfl
                  refine j_if_eq_f (pc := 176) (tgt := 218) C dX11_cutAll_176 (by decide) (by rw [i_eq]; omega) ?_
                  refine j_iload_n (pc := 179) C dX11_cutAll_179 rfl 3 rfl ?_
                  refine j_iload (pc := 180) C dX11_cutAll_180 1 rfl ?_
                  obtain ⟨v_38, ev_38⟩ : ∃ z : Int32, x1_2 - x1_2 = z := ⟨_, rfl⟩
                  have hv_38 : v_38.toInt = x1_2.toInt - x1_2.toInt := by rw [← ev_38]; exact fb_subI (by omega) (by omega)
                  refine j_isub (pc := 182) (v := v_38) C dX11_cutAll_182 ev_38 ?_
                  refine j_iconst (pc := 183) (v := 4) C dX11_cutAll_183 (by decide) ?_
                  refine j_icmp_ge (pc := 184) (tgt := 208) C dX11_cutAll_184 (by decide) (fun c_39 => ?_) (fun c_39 => ?_)
                  · skip
                    have el_4 : (4 : Int32).toInt = 4 := rfl
                    rw [i_le] at c_39
                    refine j_lload (pc := 208) C dX11_cutAll_208 0 rfl ?_
                    refine j_lstore (pc := 210) (lv' := [(5, .long 0), (4, .int x1_2), (3, .int v_5), (2, .int x1_2), (1, .int x1_1), (0, .ref m0)]) C dX11_cutAll_210 (by decide) rfl ?_
                    obtain ⟨v_40, ev_40⟩ : ∃ z : Int32, x1_2 + 1 = z := ⟨_, rfl⟩
                    have el_1 : (1 : Int32).toInt = 1 := rfl
                    have hv_40 : v_40.toInt = x1_2.toInt + (1 : Int32).toInt := by rw [← ev_40]; exact fb_addI (by omega) (by omega)
                    refine j_iinc (pc := 212) (v := v_40) (lv' := [(2, .int v_40), (5, .long 0), (4, .int x1_2), (3, .int v_5), (1, .int x1_1), (0, .ref m0)]) C dX11_cutAll_212 3 rfl ev_40 (by decide) rfl ?_
                    refine j_goto (pc := 215) (tgt := 159) C dX11_cutAll_215 (by decide) ?_
                    have loop_41 : ∀ (k_41 : Nat) (x41_2 : Int32) (x41_5 : Int64), (1 ≤ (x41_2).toInt ∧ (x41_2).toInt ≤ 1000) → (x1_2.toInt < x41_2.toInt ∧ x41_2.toInt ≤ (m_taped).toInt) → (∀ j : Nat, x1_2.toInt ≤ (j : Int) → (j : Int) < x41_2.toInt → j < (m_taped).toInt.toNat ∧ isR 48 57 (m_tape j) = true) → (x41_5 = e10 m_tape (x1_2.toInt).toNat (min (x41_2.toInt - x1_2.toInt) 4).toNat) → (1000 - x41_2.toInt).toNat < k_41 → J p l e ({ frames := 2, cells := 0, slots := 0, locals := 40 } : Room) s m args below meth c D A 7 0 0 (QX below D (TY cyC cyI cyJ cyZ cyO) A (fun u => none) (fun u => (Iv 1002 (0) (1000) (u.2.2.1 1)) ∧ (eN (u.2.2.1 0) ≤ 1000) ∧ (RWS (u.2.2.1 0) (u.2.2.1 1) (u.2.2.2 0) (TKS m_tape (m_taped).toInt.toNat)) ∧ (((u.2.2.1 1) 0).toInt = ((tP m_tape (m_taped).toInt.toNat 0 : Nat) : Int))) (fun u => [(m0, .inr (11, [.int m_thrown, .ref mtape, .int 0, .int m_taped, .ref msort, .ref mplace, .ref mvalue, .int 0, .int 0, .ref mwords, .ref mtold, .ref mop, .ref marg, .int m_codes, .ref mnames, .ref mhasHabit, .int m_isNew, .ref mfactWords, .ref mfacts, .ref mpile, .ref mstates, .ref misMarked, .int m_inShelf, .int m_inStack, .int m_inPlace, .ref mrow, .int m_rowMany, .ref mthr, .ref mmays, .ref mtall, .ref mweights, .ref mrowOfWare, .ref mneededOf, .int m_goShelf, .int m_goStack, .int m_goLeft, .ref mtried, .ref mbestRow, .int m_bestCost, .int m_bestMany, .int m_bestShelf, .int m_bestSet, .ref mdigits])), (mtape, .inl (cyI, 1000, .inl m_tape)), (msort, .inl (cyI, 1002, .inl (u.2.2.1 0))), (mplace, .inl (cyI, 1002, .inl (u.2.2.1 1))), (mvalue, .inl (cyJ, 1002, .inr (.inl (u.2.2.2 0))))]) args s 0 0) [(m0, .inr (11, [.int m_thrown, .ref mtape, .int 0, .int m_taped, .ref msort, .ref mplace, .ref mvalue, .int m_at, .int m_fault, .ref mwords, .ref mtold, .ref mop, .ref marg, .int m_codes, .ref mnames, .ref mhasHabit, .int m_isNew, .ref mfactWords, .ref mfacts, .ref mpile, .ref mstates, .ref misMarked, .int m_inShelf, .int m_inStack, .int m_inPlace, .ref mrow, .int m_rowMany, .ref mthr, .ref mmays, .ref mtall, .ref mweights, .ref mrowOfWare, .ref mneededOf, .int m_goShelf, .int m_goStack, .int m_goLeft, .ref mtried, .ref mbestRow, .int m_bestCost, .int m_bestMany, .int m_bestShelf, .int m_bestSet, .ref mdigits])), (mtape, .inl (cyI, 1000, .inl m_tape)), (msort, .inl (cyI, 1002, .inl g1_msort)), (mplace, .inl (cyI, 1002, .inl f_9)), (mvalue, .inl (cyJ, 1002, .inr (.inl g1_mvalue)))] 159 [(2, .int x41_2), (5, .long x41_5), (4, .int x1_2), (3, .int v_5), (1, .int x1_1), (0, .ref m0)] [] := by
                      intro k_41
                      induction k_41 with
                      | zero =>
                        intro x41_2 x41_5 hi_41_0 hr_41 hq_41_0 hq_41_1 hm_41
                        exact absurd hm_41 (Nat.not_lt_zero _)
                      | succ k_41 ih_41 =>
                        intro x41_2 x41_5 hi_41_0 hr_41 hq_41_0 hq_41_1 hm_41
                        refine j_iload_n (pc := 159) C dX11_cutAll_159 rfl 0 rfl ?_
                        refine j_aload_n (pc := 160) C dX11_cutAll_160 rfl 5 rfl ?_
                        refine j_get (pc := 161) (ci := 11) (v := .int m_taped) C inw_11 0 rfl rfl 3 (by decide) wd_634 rfl rfl dX11_cutAll_161 ?_
                        refine j_icmp_ge (pc := 164) (tgt := 218) C dX11_cutAll_164 (by decide) (fun c_42 => ?_) (fun c_42 => ?_)
                        · skip
                          rw [i_le] at c_42
                          refine j_aload_n (pc := 218) C dX11_cutAll_218 rfl 5 rfl ?_
                          refine j_get (pc := 219) (ci := 11) (v := .ref msort) C inw_11 0 rfl rfl 4 (by decide) wd_635 rfl rfl dX11_cutAll_219 ?_
                          refine j_iload_n (pc := 222) C dX11_cutAll_222 rfl 4 rfl ?_
                          refine j_iload_n (pc := 223) C dX11_cutAll_223 rfl 0 rfl ?_
                          refine j_iload (pc := 224) C dX11_cutAll_224 2 rfl ?_
                          obtain ⟨v_43, ev_43⟩ : ∃ z : Int32, x41_2 - x1_2 = z := ⟨_, rfl⟩
                          have hv_43 : v_43.toInt = x41_2.toInt - x1_2.toInt := by rw [← ev_43]; exact fb_subI (by omega) (by omega)
                          refine j_isub (pc := 226) (v := v_43) C dX11_cutAll_226 ev_43 ?_
                          refine j_iconst (pc := 227) (v := 4) C dX11_cutAll_227 (by decide) ?_
                          refine j_icmp_le (pc := 228) (tgt := 235) C dX11_cutAll_228 (by decide) (fun c_44 => ?_) (fun c_44 => ?_)
                          · skip
                            have el_4 : (4 : Int32).toInt = 4 := rfl
                            rw [i_le] at c_44
                            refine j_iconst (pc := 235) (v := 2) C dX11_cutAll_235 (by decide) ?_
                            obtain ⟨f_45, ef_45⟩ : ∃ z, z = upd g1_msort (x1_1).toInt.toNat 2 := ⟨_, rfl⟩
                            refine j_iast (pc := 236) (k := (x1_1).toInt.toNat) (ws' := [(m0, .inr (11, [.int m_thrown, .ref mtape, .int 0, .int m_taped, .ref msort, .ref mplace, .ref mvalue, .int m_at, .int m_fault, .ref mwords, .ref mtold, .ref mop, .ref marg, .int m_codes, .ref mnames, .ref mhasHabit, .int m_isNew, .ref mfactWords, .ref mfacts, .ref mpile, .ref mstates, .ref misMarked, .int m_inShelf, .int m_inStack, .int m_inPlace, .ref mrow, .int m_rowMany, .ref mthr, .ref mmays, .ref mtall, .ref mweights, .ref mrowOfWare, .ref mneededOf, .int m_goShelf, .int m_goStack, .int m_goLeft, .ref mtried, .ref mbestRow, .int m_bestCost, .int m_bestMany, .int m_bestShelf, .int m_bestSet, .ref mdigits])), (mtape, .inl (cyI, 1000, .inl m_tape)), (msort, .inl (cyI, 1002, .inl f_45)), (mplace, .inl (cyI, 1002, .inl f_9)), (mvalue, .inl (cyJ, 1002, .inr (.inl g1_mvalue)))]) C 2 1 rfl rfl (i_nn hi_1_1.1) rfl (i_lt_n hi_1_1.1 (Int.lt_of_le_of_lt hi_1_1.2 (by decide))) dX11_cutAll_236 (by rw [ef_45]; rfl) ?_
                            refine j_goto (pc := 237) (tgt := 265) C dX11_cutAll_237 (by decide) ?_
                            refine j_aload_n (pc := 265) C dX11_cutAll_265 rfl 5 rfl ?_
                            refine j_get (pc := 266) (ci := 11) (v := .ref mvalue) C inw_11 0 rfl rfl 6 (by decide) wd_645 rfl rfl dX11_cutAll_266 ?_
                            refine j_iload_n (pc := 269) C dX11_cutAll_269 rfl 4 rfl ?_
                            refine j_lload (pc := 270) C dX11_cutAll_270 1 rfl ?_
                            obtain ⟨f_46, ef_46⟩ : ∃ z, z = vp_updL g1_mvalue (x1_1).toInt.toNat x41_5 := ⟨_, rfl⟩
                            refine j_last (pc := 272) (k := (x1_1).toInt.toNat) (ws' := [(m0, .inr (11, [.int m_thrown, .ref mtape, .int 0, .int m_taped, .ref msort, .ref mplace, .ref mvalue, .int m_at, .int m_fault, .ref mwords, .ref mtold, .ref mop, .ref marg, .int m_codes, .ref mnames, .ref mhasHabit, .int m_isNew, .ref mfactWords, .ref mfacts, .ref mpile, .ref mstates, .ref misMarked, .int m_inShelf, .int m_inStack, .int m_inPlace, .ref mrow, .int m_rowMany, .ref mthr, .ref mmays, .ref mtall, .ref mweights, .ref mrowOfWare, .ref mneededOf, .int m_goShelf, .int m_goStack, .int m_goLeft, .ref mtried, .ref mbestRow, .int m_bestCost, .int m_bestMany, .int m_bestShelf, .int m_bestSet, .ref mdigits])), (mtape, .inl (cyI, 1000, .inl m_tape)), (msort, .inl (cyI, 1002, .inl f_45)), (mplace, .inl (cyI, 1002, .inl f_9)), (mvalue, .inl (cyJ, 1002, .inr (.inl f_46)))]) C 4 2 rfl rfl (i_nn hi_1_1.1) rfl (i_lt_n hi_1_1.1 (Int.lt_of_le_of_lt hi_1_1.2 (by decide))) dX11_cutAll_272 (by rw [ef_46]; rfl) ?_
                            obtain ⟨v_47, ev_47⟩ : ∃ z : Int32, x1_1 + 1 = z := ⟨_, rfl⟩
                            have el_1 : (1 : Int32).toInt = 1 := rfl
                            have hv_47 : v_47.toInt = x1_1.toInt + (1 : Int32).toInt := by rw [← ev_47]; exact fb_addI (by omega) (by omega)
                            refine j_iinc (pc := 273) (v := v_47) (lv' := [(1, .int v_47), (2, .int x41_2), (5, .long x41_5), (4, .int x1_2), (3, .int v_5), (0, .ref m0)]) C dX11_cutAll_273 4 rfl ev_47 (by decide) rfl ?_
                            refine j_goto (pc := 276) (tgt := 17) C dX11_cutAll_276 (by decide) ?_
                            have el_10 : (10 : Int32).toInt = 10 := rfl
                            have el_32 : (32 : Int32).toInt = 32 := rfl
                            have el_97 : (97 : Int32).toInt = 97 := rfl
                            have el_122 : (122 : Int32).toInt = 122 := rfl
                            have el_48 : (48 : Int32).toInt = 48 := rfl
                            have el_57 : (57 : Int32).toInt = 57 := rfl
                            have el_2 : (2 : Int32).toInt = 2 := rfl
                            exact j_lv [1, 0, 5] rfl (ih_1 x41_2 v_47 f_45 f_9 f_46 (by omega) (by omega) hf_9 (by omega) (CA.dig hq_1_0 (by omega) (by omega) (by omega) (fun z => by have z9 := of_decide_eq_true z; rw [ev_5] at z9; omega) (fun z => by have z9 := isR_iff.mp z; rw [ev_5] at z9; omega) ef_45 ef_9 rfl ef_46 ⟨by omega, fun j j1 j2 => hq_41_0 j (by omega) (by omega), fun z => absurd z.1 (by omega)⟩ (by omega) (by omega) hq_41_1 (by omega)) (by omega))
                          · skip
                            have el_4 : (4 : Int32).toInt = 4 := rfl
                            rw [i_le] at c_44
                            refine j_iconst (pc := 231) (v := 4) C dX11_cutAll_231 (by decide) ?_
                            refine j_goto (pc := 232) (tgt := 236) C dX11_cutAll_232 (by decide) ?_
                            obtain ⟨f_48, ef_48⟩ : ∃ z, z = upd g1_msort (x1_1).toInt.toNat 4 := ⟨_, rfl⟩
                            refine j_iast (pc := 236) (k := (x1_1).toInt.toNat) (ws' := [(m0, .inr (11, [.int m_thrown, .ref mtape, .int 0, .int m_taped, .ref msort, .ref mplace, .ref mvalue, .int m_at, .int m_fault, .ref mwords, .ref mtold, .ref mop, .ref marg, .int m_codes, .ref mnames, .ref mhasHabit, .int m_isNew, .ref mfactWords, .ref mfacts, .ref mpile, .ref mstates, .ref misMarked, .int m_inShelf, .int m_inStack, .int m_inPlace, .ref mrow, .int m_rowMany, .ref mthr, .ref mmays, .ref mtall, .ref mweights, .ref mrowOfWare, .ref mneededOf, .int m_goShelf, .int m_goStack, .int m_goLeft, .ref mtried, .ref mbestRow, .int m_bestCost, .int m_bestMany, .int m_bestShelf, .int m_bestSet, .ref mdigits])), (mtape, .inl (cyI, 1000, .inl m_tape)), (msort, .inl (cyI, 1002, .inl f_48)), (mplace, .inl (cyI, 1002, .inl f_9)), (mvalue, .inl (cyJ, 1002, .inr (.inl g1_mvalue)))]) C 2 1 rfl rfl (i_nn hi_1_1.1) rfl (i_lt_n hi_1_1.1 (Int.lt_of_le_of_lt hi_1_1.2 (by decide))) dX11_cutAll_236 (by rw [ef_48]; rfl) ?_
                            refine j_goto (pc := 237) (tgt := 265) C dX11_cutAll_237 (by decide) ?_
                            refine j_aload_n (pc := 265) C dX11_cutAll_265 rfl 5 rfl ?_
                            refine j_get (pc := 266) (ci := 11) (v := .ref mvalue) C inw_11 0 rfl rfl 6 (by decide) wd_645 rfl rfl dX11_cutAll_266 ?_
                            refine j_iload_n (pc := 269) C dX11_cutAll_269 rfl 4 rfl ?_
                            refine j_lload (pc := 270) C dX11_cutAll_270 1 rfl ?_
                            obtain ⟨f_49, ef_49⟩ : ∃ z, z = vp_updL g1_mvalue (x1_1).toInt.toNat x41_5 := ⟨_, rfl⟩
                            refine j_last (pc := 272) (k := (x1_1).toInt.toNat) (ws' := [(m0, .inr (11, [.int m_thrown, .ref mtape, .int 0, .int m_taped, .ref msort, .ref mplace, .ref mvalue, .int m_at, .int m_fault, .ref mwords, .ref mtold, .ref mop, .ref marg, .int m_codes, .ref mnames, .ref mhasHabit, .int m_isNew, .ref mfactWords, .ref mfacts, .ref mpile, .ref mstates, .ref misMarked, .int m_inShelf, .int m_inStack, .int m_inPlace, .ref mrow, .int m_rowMany, .ref mthr, .ref mmays, .ref mtall, .ref mweights, .ref mrowOfWare, .ref mneededOf, .int m_goShelf, .int m_goStack, .int m_goLeft, .ref mtried, .ref mbestRow, .int m_bestCost, .int m_bestMany, .int m_bestShelf, .int m_bestSet, .ref mdigits])), (mtape, .inl (cyI, 1000, .inl m_tape)), (msort, .inl (cyI, 1002, .inl f_48)), (mplace, .inl (cyI, 1002, .inl f_9)), (mvalue, .inl (cyJ, 1002, .inr (.inl f_49)))]) C 4 2 rfl rfl (i_nn hi_1_1.1) rfl (i_lt_n hi_1_1.1 (Int.lt_of_le_of_lt hi_1_1.2 (by decide))) dX11_cutAll_272 (by rw [ef_49]; rfl) ?_
                            obtain ⟨v_50, ev_50⟩ : ∃ z : Int32, x1_1 + 1 = z := ⟨_, rfl⟩
                            have el_1 : (1 : Int32).toInt = 1 := rfl
                            have hv_50 : v_50.toInt = x1_1.toInt + (1 : Int32).toInt := by rw [← ev_50]; exact fb_addI (by omega) (by omega)
                            refine j_iinc (pc := 273) (v := v_50) (lv' := [(1, .int v_50), (2, .int x41_2), (5, .long x41_5), (4, .int x1_2), (3, .int v_5), (0, .ref m0)]) C dX11_cutAll_273 4 rfl ev_50 (by decide) rfl ?_
                            refine j_goto (pc := 276) (tgt := 17) C dX11_cutAll_276 (by decide) ?_
                            have el_10 : (10 : Int32).toInt = 10 := rfl
                            have el_32 : (32 : Int32).toInt = 32 := rfl
                            have el_97 : (97 : Int32).toInt = 97 := rfl
                            have el_122 : (122 : Int32).toInt = 122 := rfl
                            have el_48 : (48 : Int32).toInt = 48 := rfl
                            have el_57 : (57 : Int32).toInt = 57 := rfl
                            have el_4 : (4 : Int32).toInt = 4 := rfl
                            exact j_lv [1, 0, 5] rfl (ih_1 x41_2 v_50 f_48 f_9 f_49 (by omega) (by omega) hf_9 (by omega) (CA.dig hq_1_0 (by omega) (by omega) (by omega) (fun z => by have z9 := of_decide_eq_true z; rw [ev_5] at z9; omega) (fun z => by have z9 := isR_iff.mp z; rw [ev_5] at z9; omega) ef_48 ef_9 rfl ef_49 ⟨by omega, fun j j1 j2 => hq_41_0 j (by omega) (by omega), fun z => absurd z.1 (by omega)⟩ (by omega) (by omega) hq_41_1 (by omega)) (by omega))
                        · skip
                          rw [i_le] at c_42
                          refine j_aload_n (pc := 167) C dX11_cutAll_167 rfl 5 rfl ?_
                          refine j_get (pc := 168) (ci := 11) (v := .ref mtape) C inw_11 0 rfl rfl 1 (by decide) wd_628 rfl rfl dX11_cutAll_168 ?_
                          refine j_iload_n (pc := 171) C dX11_cutAll_171 rfl 0 rfl ?_
                          obtain ⟨v_51, ev_51⟩ : ∃ z, m_tape (x41_2).toInt.toNat = z := ⟨_, rfl⟩
                          have env_51 : (m_tape (x41_2).toInt.toNat).toInt = v_51.toInt := by rw [ev_51]
                          refine j_iald (pc := 172) (v := v_51) (k := (x41_2).toInt.toNat) C 1 1 rfl rfl (i_nn (Int.le_trans (by decide) hi_41_0.1)) rfl (i_lt_n (Int.le_trans (by decide) hi_41_0.1) (by omega)) ev_51 dX11_cutAll_172 ?_
                          refine j_callS (pc := 173) (As := [.int v_51]) (rest := []) (wr := [(m0, .inr (11, [.int m_thrown, .ref mtape, .int 0, .int m_taped, .ref msort, .ref mplace, .ref mvalue, .int m_at, .int m_fault, .ref mwords, .ref mtold, .ref mop, .ref marg, .int m_codes, .ref mnames, .ref mhasHabit, .int m_isNew, .ref mfactWords, .ref mfacts, .ref mpile, .ref mstates, .ref misMarked, .int m_inShelf, .int m_inStack, .int m_inPlace, .ref mrow, .int m_rowMany, .ref mthr, .ref mmays, .ref mtall, .ref mweights, .ref mrowOfWare, .ref mneededOf, .int m_goShelf, .int m_goStack, .int m_goLeft, .ref mtried, .ref mbestRow, .int m_bestCost, .int m_bestMany, .int m_bestShelf, .int m_bestSet, .ref mdigits])), (mtape, .inl (cyI, 1000, .inl m_tape)), (msort, .inl (cyI, 1002, .inl g1_msort)), (mplace, .inl (cyI, 1002, .inl f_9)), (mvalue, .inl (cyJ, 1002, .inr (.inl g1_mvalue)))]) C (c_X11_isDigit l D cyC cyI cyJ cyZ cyO v_51) wd_639 wd_624 wd_640 wd_641 ⟨by decide, by decide, rfl⟩ rfl ⟨rfl, rfl, by decide, by decide⟩ ⟨by decide, by decide⟩ [] [0, 1, 2, 3, 4] rfl rfl ⟨by decide, by decide, by decide⟩ rfl (Nat.le_of_ble_eq_true rfl) dX11_cutAll_173 (fun u_52 hw_53 => ?_)
                          refine j_eq (ws2 := [(m0, .inr (11, [.int m_thrown, .ref mtape, .int 0, .int m_taped, .ref msort, .ref mplace, .ref mvalue, .int m_at, .int m_fault, .ref mwords, .ref mtold, .ref mop, .ref marg, .int m_codes, .ref mnames, .ref mhasHabit, .int m_isNew, .ref mfactWords, .ref mfacts, .ref mpile, .ref mstates, .ref misMarked, .int m_inShelf, .int m_inStack, .int m_inPlace, .ref mrow, .int m_rowMany, .ref mthr, .ref mmays, .ref mtall, .ref mweights, .ref mrowOfWare, .ref mneededOf, .int m_goShelf, .int m_goStack, .int m_goLeft, .ref mtried, .ref mbestRow, .int m_bestCost, .int m_bestMany, .int m_bestShelf, .int m_bestSet, .ref mdigits])), (mtape, .inl (cyI, 1000, .inl m_tape)), (msort, .inl (cyI, 1002, .inl g1_msort)), (mplace, .inl (cyI, 1002, .inl f_9)), (mvalue, .inl (cyJ, 1002, .inr (.inl g1_mvalue)))]) (pc2 := 176) (lv2 := [(2, .int x41_2), (5, .long x41_5), (4, .int x1_2), (3, .int v_5), (1, .int x1_1), (0, .ref m0)]) (st2 := [.int (u_52.2.1 0)]) rfl rfl rfl rfl ?_
                          obtain ⟨hw_53_0, hw_53_1, hw_53_2⟩ := hw_53
                          refine j_if_eq (pc := 176) (tgt := 218) C dX11_cutAll_176 (by decide) (fun c_54 => ?_) (fun c_54 => ?_)
                          · skip
                            have el_0 : (0 : Int32).toInt = 0 := rfl
                            rw [i_eq] at c_54
                            refine j_aload_n (pc := 218) C dX11_cutAll_218 rfl 5 rfl ?_
                            refine j_get (pc := 219) (ci := 11) (v := .ref msort) C inw_11 0 rfl rfl 4 (by decide) wd_635 rfl rfl dX11_cutAll_219 ?_
                            refine j_iload_n (pc := 222) C dX11_cutAll_222 rfl 4 rfl ?_
                            refine j_iload_n (pc := 223) C dX11_cutAll_223 rfl 0 rfl ?_
                            refine j_iload (pc := 224) C dX11_cutAll_224 2 rfl ?_
                            obtain ⟨v_55, ev_55⟩ : ∃ z : Int32, x41_2 - x1_2 = z := ⟨_, rfl⟩
                            have hv_55 : v_55.toInt = x41_2.toInt - x1_2.toInt := by rw [← ev_55]; exact fb_subI (by omega) (by omega)
                            refine j_isub (pc := 226) (v := v_55) C dX11_cutAll_226 ev_55 ?_
                            refine j_iconst (pc := 227) (v := 4) C dX11_cutAll_227 (by decide) ?_
                            refine j_icmp_le (pc := 228) (tgt := 235) C dX11_cutAll_228 (by decide) (fun c_56 => ?_) (fun c_56 => ?_)
                            · skip
                              have el_4 : (4 : Int32).toInt = 4 := rfl
                              rw [i_le] at c_56
                              refine j_iconst (pc := 235) (v := 2) C dX11_cutAll_235 (by decide) ?_
                              obtain ⟨f_57, ef_57⟩ : ∃ z, z = upd g1_msort (x1_1).toInt.toNat 2 := ⟨_, rfl⟩
                              refine j_iast (pc := 236) (k := (x1_1).toInt.toNat) (ws' := [(m0, .inr (11, [.int m_thrown, .ref mtape, .int 0, .int m_taped, .ref msort, .ref mplace, .ref mvalue, .int m_at, .int m_fault, .ref mwords, .ref mtold, .ref mop, .ref marg, .int m_codes, .ref mnames, .ref mhasHabit, .int m_isNew, .ref mfactWords, .ref mfacts, .ref mpile, .ref mstates, .ref misMarked, .int m_inShelf, .int m_inStack, .int m_inPlace, .ref mrow, .int m_rowMany, .ref mthr, .ref mmays, .ref mtall, .ref mweights, .ref mrowOfWare, .ref mneededOf, .int m_goShelf, .int m_goStack, .int m_goLeft, .ref mtried, .ref mbestRow, .int m_bestCost, .int m_bestMany, .int m_bestShelf, .int m_bestSet, .ref mdigits])), (mtape, .inl (cyI, 1000, .inl m_tape)), (msort, .inl (cyI, 1002, .inl f_57)), (mplace, .inl (cyI, 1002, .inl f_9)), (mvalue, .inl (cyJ, 1002, .inr (.inl g1_mvalue)))]) C 2 1 rfl rfl (i_nn hi_1_1.1) rfl (i_lt_n hi_1_1.1 (Int.lt_of_le_of_lt hi_1_1.2 (by decide))) dX11_cutAll_236 (by rw [ef_57]; rfl) ?_
                              refine j_goto (pc := 237) (tgt := 265) C dX11_cutAll_237 (by decide) ?_
                              refine j_aload_n (pc := 265) C dX11_cutAll_265 rfl 5 rfl ?_
                              refine j_get (pc := 266) (ci := 11) (v := .ref mvalue) C inw_11 0 rfl rfl 6 (by decide) wd_645 rfl rfl dX11_cutAll_266 ?_
                              refine j_iload_n (pc := 269) C dX11_cutAll_269 rfl 4 rfl ?_
                              refine j_lload (pc := 270) C dX11_cutAll_270 1 rfl ?_
                              obtain ⟨f_58, ef_58⟩ : ∃ z, z = vp_updL g1_mvalue (x1_1).toInt.toNat x41_5 := ⟨_, rfl⟩
                              refine j_last (pc := 272) (k := (x1_1).toInt.toNat) (ws' := [(m0, .inr (11, [.int m_thrown, .ref mtape, .int 0, .int m_taped, .ref msort, .ref mplace, .ref mvalue, .int m_at, .int m_fault, .ref mwords, .ref mtold, .ref mop, .ref marg, .int m_codes, .ref mnames, .ref mhasHabit, .int m_isNew, .ref mfactWords, .ref mfacts, .ref mpile, .ref mstates, .ref misMarked, .int m_inShelf, .int m_inStack, .int m_inPlace, .ref mrow, .int m_rowMany, .ref mthr, .ref mmays, .ref mtall, .ref mweights, .ref mrowOfWare, .ref mneededOf, .int m_goShelf, .int m_goStack, .int m_goLeft, .ref mtried, .ref mbestRow, .int m_bestCost, .int m_bestMany, .int m_bestShelf, .int m_bestSet, .ref mdigits])), (mtape, .inl (cyI, 1000, .inl m_tape)), (msort, .inl (cyI, 1002, .inl f_57)), (mplace, .inl (cyI, 1002, .inl f_9)), (mvalue, .inl (cyJ, 1002, .inr (.inl f_58)))]) C 4 2 rfl rfl (i_nn hi_1_1.1) rfl (i_lt_n hi_1_1.1 (Int.lt_of_le_of_lt hi_1_1.2 (by decide))) dX11_cutAll_272 (by rw [ef_58]; rfl) ?_
                              obtain ⟨v_59, ev_59⟩ : ∃ z : Int32, x1_1 + 1 = z := ⟨_, rfl⟩
                              have el_1 : (1 : Int32).toInt = 1 := rfl
                              have hv_59 : v_59.toInt = x1_1.toInt + (1 : Int32).toInt := by rw [← ev_59]; exact fb_addI (by omega) (by omega)
                              refine j_iinc (pc := 273) (v := v_59) (lv' := [(1, .int v_59), (2, .int x41_2), (5, .long x41_5), (4, .int x1_2), (3, .int v_5), (0, .ref m0)]) C dX11_cutAll_273 4 rfl ev_59 (by decide) rfl ?_
                              refine j_goto (pc := 276) (tgt := 17) C dX11_cutAll_276 (by decide) ?_
                              have el_10 : (10 : Int32).toInt = 10 := rfl
                              have el_32 : (32 : Int32).toInt = 32 := rfl
                              have el_97 : (97 : Int32).toInt = 97 := rfl
                              have el_122 : (122 : Int32).toInt = 122 := rfl
                              have el_48 : (48 : Int32).toInt = 48 := rfl
                              have el_57 : (57 : Int32).toInt = 57 := rfl
                              have el_2 : (2 : Int32).toInt = 2 := rfl
                              exact j_lv [1, 0, 5] rfl (ih_1 x41_2 v_59 f_57 f_9 f_58 (by omega) (by omega) hf_9 (by omega) (CA.dig hq_1_0 (by omega) (by omega) (by omega) (fun z => by have z9 := of_decide_eq_true z; rw [ev_5] at z9; omega) (fun z => by have z9 := isR_iff.mp z; rw [ev_5] at z9; omega) ef_57 ef_9 rfl ef_58 ⟨by omega, fun j j1 j2 => hq_41_0 j (by omega) (by omega), fun z => by (have z9 := isR_iff.mp z.2; rw [ev_51] at z9; omega)⟩ (by omega) (by omega) hq_41_1 (by omega)) (by omega))
                            · skip
                              have el_4 : (4 : Int32).toInt = 4 := rfl
                              rw [i_le] at c_56
                              refine j_iconst (pc := 231) (v := 4) C dX11_cutAll_231 (by decide) ?_
                              refine j_goto (pc := 232) (tgt := 236) C dX11_cutAll_232 (by decide) ?_
                              obtain ⟨f_60, ef_60⟩ : ∃ z, z = upd g1_msort (x1_1).toInt.toNat 4 := ⟨_, rfl⟩
                              refine j_iast (pc := 236) (k := (x1_1).toInt.toNat) (ws' := [(m0, .inr (11, [.int m_thrown, .ref mtape, .int 0, .int m_taped, .ref msort, .ref mplace, .ref mvalue, .int m_at, .int m_fault, .ref mwords, .ref mtold, .ref mop, .ref marg, .int m_codes, .ref mnames, .ref mhasHabit, .int m_isNew, .ref mfactWords, .ref mfacts, .ref mpile, .ref mstates, .ref misMarked, .int m_inShelf, .int m_inStack, .int m_inPlace, .ref mrow, .int m_rowMany, .ref mthr, .ref mmays, .ref mtall, .ref mweights, .ref mrowOfWare, .ref mneededOf, .int m_goShelf, .int m_goStack, .int m_goLeft, .ref mtried, .ref mbestRow, .int m_bestCost, .int m_bestMany, .int m_bestShelf, .int m_bestSet, .ref mdigits])), (mtape, .inl (cyI, 1000, .inl m_tape)), (msort, .inl (cyI, 1002, .inl f_60)), (mplace, .inl (cyI, 1002, .inl f_9)), (mvalue, .inl (cyJ, 1002, .inr (.inl g1_mvalue)))]) C 2 1 rfl rfl (i_nn hi_1_1.1) rfl (i_lt_n hi_1_1.1 (Int.lt_of_le_of_lt hi_1_1.2 (by decide))) dX11_cutAll_236 (by rw [ef_60]; rfl) ?_
                              refine j_goto (pc := 237) (tgt := 265) C dX11_cutAll_237 (by decide) ?_
                              refine j_aload_n (pc := 265) C dX11_cutAll_265 rfl 5 rfl ?_
                              refine j_get (pc := 266) (ci := 11) (v := .ref mvalue) C inw_11 0 rfl rfl 6 (by decide) wd_645 rfl rfl dX11_cutAll_266 ?_
                              refine j_iload_n (pc := 269) C dX11_cutAll_269 rfl 4 rfl ?_
                              refine j_lload (pc := 270) C dX11_cutAll_270 1 rfl ?_
                              obtain ⟨f_61, ef_61⟩ : ∃ z, z = vp_updL g1_mvalue (x1_1).toInt.toNat x41_5 := ⟨_, rfl⟩
                              refine j_last (pc := 272) (k := (x1_1).toInt.toNat) (ws' := [(m0, .inr (11, [.int m_thrown, .ref mtape, .int 0, .int m_taped, .ref msort, .ref mplace, .ref mvalue, .int m_at, .int m_fault, .ref mwords, .ref mtold, .ref mop, .ref marg, .int m_codes, .ref mnames, .ref mhasHabit, .int m_isNew, .ref mfactWords, .ref mfacts, .ref mpile, .ref mstates, .ref misMarked, .int m_inShelf, .int m_inStack, .int m_inPlace, .ref mrow, .int m_rowMany, .ref mthr, .ref mmays, .ref mtall, .ref mweights, .ref mrowOfWare, .ref mneededOf, .int m_goShelf, .int m_goStack, .int m_goLeft, .ref mtried, .ref mbestRow, .int m_bestCost, .int m_bestMany, .int m_bestShelf, .int m_bestSet, .ref mdigits])), (mtape, .inl (cyI, 1000, .inl m_tape)), (msort, .inl (cyI, 1002, .inl f_60)), (mplace, .inl (cyI, 1002, .inl f_9)), (mvalue, .inl (cyJ, 1002, .inr (.inl f_61)))]) C 4 2 rfl rfl (i_nn hi_1_1.1) rfl (i_lt_n hi_1_1.1 (Int.lt_of_le_of_lt hi_1_1.2 (by decide))) dX11_cutAll_272 (by rw [ef_61]; rfl) ?_
                              obtain ⟨v_62, ev_62⟩ : ∃ z : Int32, x1_1 + 1 = z := ⟨_, rfl⟩
                              have el_1 : (1 : Int32).toInt = 1 := rfl
                              have hv_62 : v_62.toInt = x1_1.toInt + (1 : Int32).toInt := by rw [← ev_62]; exact fb_addI (by omega) (by omega)
                              refine j_iinc (pc := 273) (v := v_62) (lv' := [(1, .int v_62), (2, .int x41_2), (5, .long x41_5), (4, .int x1_2), (3, .int v_5), (0, .ref m0)]) C dX11_cutAll_273 4 rfl ev_62 (by decide) rfl ?_
                              refine j_goto (pc := 276) (tgt := 17) C dX11_cutAll_276 (by decide) ?_
                              have el_10 : (10 : Int32).toInt = 10 := rfl
                              have el_32 : (32 : Int32).toInt = 32 := rfl
                              have el_97 : (97 : Int32).toInt = 97 := rfl
                              have el_122 : (122 : Int32).toInt = 122 := rfl
                              have el_48 : (48 : Int32).toInt = 48 := rfl
                              have el_57 : (57 : Int32).toInt = 57 := rfl
                              have el_4 : (4 : Int32).toInt = 4 := rfl
                              exact j_lv [1, 0, 5] rfl (ih_1 x41_2 v_62 f_60 f_9 f_61 (by omega) (by omega) hf_9 (by omega) (CA.dig hq_1_0 (by omega) (by omega) (by omega) (fun z => by have z9 := of_decide_eq_true z; rw [ev_5] at z9; omega) (fun z => by have z9 := isR_iff.mp z; rw [ev_5] at z9; omega) ef_60 ef_9 rfl ef_61 ⟨by omega, fun j j1 j2 => hq_41_0 j (by omega) (by omega), fun z => by (have z9 := isR_iff.mp z.2; rw [ev_51] at z9; omega)⟩ (by omega) (by omega) hq_41_1 (by omega)) (by omega))
                          · skip
                            have el_0 : (0 : Int32).toInt = 0 := rfl
                            rw [i_eq] at c_54
                            have k0c_54 : ((u_52.2.1 0)).toInt = 1 := by omega
                            refine j_iload_n (pc := 179) C dX11_cutAll_179 rfl 0 rfl ?_
                            refine j_iload (pc := 180) C dX11_cutAll_180 2 rfl ?_
                            obtain ⟨v_63, ev_63⟩ : ∃ z : Int32, x41_2 - x1_2 = z := ⟨_, rfl⟩
                            have hv_63 : v_63.toInt = x41_2.toInt - x1_2.toInt := by rw [← ev_63]; exact fb_subI (by omega) (by omega)
                            refine j_isub (pc := 182) (v := v_63) C dX11_cutAll_182 ev_63 ?_
                            refine j_iconst (pc := 183) (v := 4) C dX11_cutAll_183 (by decide) ?_
                            refine j_icmp_ge (pc := 184) (tgt := 208) C dX11_cutAll_184 (by decide) (fun c_64 => ?_) (fun c_64 => ?_)
                            · skip
                              have el_4 : (4 : Int32).toInt = 4 := rfl
                              rw [i_le] at c_64
                              refine j_lload (pc := 208) C dX11_cutAll_208 1 rfl ?_
                              refine j_lstore (pc := 210) (lv' := [(5, .long x41_5), (2, .int x41_2), (4, .int x1_2), (3, .int v_5), (1, .int x1_1), (0, .ref m0)]) C dX11_cutAll_210 (by decide) rfl ?_
                              obtain ⟨v_65, ev_65⟩ : ∃ z : Int32, x41_2 + 1 = z := ⟨_, rfl⟩
                              have el_1 : (1 : Int32).toInt = 1 := rfl
                              have hv_65 : v_65.toInt = x41_2.toInt + (1 : Int32).toInt := by rw [← ev_65]; exact fb_addI (by omega) (by omega)
                              refine j_iinc (pc := 212) (v := v_65) (lv' := [(2, .int v_65), (5, .long x41_5), (4, .int x1_2), (3, .int v_5), (1, .int x1_1), (0, .ref m0)]) C dX11_cutAll_212 1 rfl ev_65 (by decide) rfl ?_
                              refine j_goto (pc := 215) (tgt := 159) C dX11_cutAll_215 (by decide) ?_
                              have el_48 : (48 : Int32).toInt = 48 := rfl
                              have el_57 : (57 : Int32).toInt = 57 := rfl
                              exact j_lv [0, 1, 2, 3, 4, 5] rfl (ih_41 v_65 x41_5 (by omega) (by omega) (fun j j1 j2 => by rcases Int.lt_or_le (j : Int) (x41_2).toInt with q | q; (exact hq_41_0 j j1 q); (rw [show j = (x41_2).toInt.toNat from (by omega), ev_51]; exact ⟨by omega, isR_iff.mpr ⟨by omega, by omega⟩⟩)) (by rw [show (min ((v_65).toInt - (x1_2).toInt) 4).toNat = (min ((x41_2).toInt - (x1_2).toInt) 4).toNat from (by omega)]; exact hq_41_1) (by omega))
                            · skip
                              have el_4 : (4 : Int32).toInt = 4 := rfl
                              rw [i_le] at c_64
                              refine j_ldc2 (pc := 187) C wd_646 dX11_cutAll_187 ?_
                              refine j_lload (pc := 190) C dX11_cutAll_190 1 rfl ?_
                              refine j_lmul (pc := 192) C dX11_cutAll_192 rfl ?_
                              refine j_aload_n (pc := 193) C dX11_cutAll_193 rfl 5 rfl ?_
                              refine j_get (pc := 194) (ci := 11) (v := .ref mtape) C inw_11 0 rfl rfl 1 (by decide) wd_628 rfl rfl dX11_cutAll_194 ?_
                              refine j_iload_n (pc := 197) C dX11_cutAll_197 rfl 0 rfl ?_
                              refine j_iald (pc := 198) (v := v_51) (k := (x41_2).toInt.toNat) C 1 1 rfl rfl (i_nn (Int.le_trans (by decide) hi_41_0.1)) rfl (i_lt_n (Int.le_trans (by decide) hi_41_0.1) (by omega)) ev_51 dX11_cutAll_198 ?_
                              refine j_i2l (pc := 199) C dX11_cutAll_199 rfl ?_
                              refine j_ladd (pc := 200) C dX11_cutAll_200 rfl ?_
                              refine j_ldc2 (pc := 201) C wd_647 dX11_cutAll_201 ?_
                              refine j_lsub (pc := 204) C dX11_cutAll_204 rfl ?_
                              refine j_goto (pc := 205) (tgt := 210) C dX11_cutAll_205 (by decide) ?_
                              refine j_lstore (pc := 210) (lv' := [(5, .long (((10 * x41_5) + (v_51).toInt64) - 48)), (2, .int x41_2), (4, .int x1_2), (3, .int v_5), (1, .int x1_1), (0, .ref m0)]) C dX11_cutAll_210 (by decide) rfl ?_
                              obtain ⟨v_66, ev_66⟩ : ∃ z : Int32, x41_2 + 1 = z := ⟨_, rfl⟩
                              have el_1 : (1 : Int32).toInt = 1 := rfl
                              have hv_66 : v_66.toInt = x41_2.toInt + (1 : Int32).toInt := by rw [← ev_66]; exact fb_addI (by omega) (by omega)
                              refine j_iinc (pc := 212) (v := v_66) (lv' := [(2, .int v_66), (5, .long (((10 * x41_5) + (v_51).toInt64) - 48)), (4, .int x1_2), (3, .int v_5), (1, .int x1_1), (0, .ref m0)]) C dX11_cutAll_212 1 rfl ev_66 (by decide) rfl ?_
                              refine j_goto (pc := 215) (tgt := 159) C dX11_cutAll_215 (by decide) ?_
                              have el_48 : (48 : Int32).toInt = 48 := rfl
                              have el_57 : (57 : Int32).toInt = 57 := rfl
                              exact j_lv [0, 1, 2, 3, 4, 5] rfl (ih_41 v_66 (((10 * x41_5) + (v_51).toInt64) - 48) (by omega) (by omega) (fun j j1 j2 => by rcases Int.lt_or_le (j : Int) (x41_2).toInt with q | q; (exact hq_41_0 j j1 q); (rw [show j = (x41_2).toInt.toNat from (by omega), ev_51]; exact ⟨by omega, isR_iff.mpr ⟨by omega, by omega⟩⟩)) (by rw [show (min ((v_66).toInt - (x1_2).toInt) 4).toNat = (min ((x41_2).toInt - (x1_2).toInt) 4).toNat + 1 from (by omega)]; show _ = 10 * e10 m_tape (x1_2).toInt.toNat (min ((x41_2).toInt - (x1_2).toInt) 4).toNat + (m_tape ((x1_2).toInt.toNat + (min ((x41_2).toInt - (x1_2).toInt) 4).toNat)).toInt64 - 48; rw [show (x1_2).toInt.toNat + (min ((x41_2).toInt - (x1_2).toInt) 4).toNat = (x41_2).toInt.toNat from (by omega), ev_51, ← hq_41_1]) (by omega))
                    have el_0 : (0 : Int32).toInt = 0 := rfl
                    have el_48 : (48 : Int32).toInt = 48 := rfl
                    have el_57 : (57 : Int32).toInt = 57 := rfl
                    exact j_lv [0, 1, 2, 3, 4, 5] rfl (loop_41 4096 v_40 0 (by omega) (by omega) (fun j j1 j2 => by (rw [show j = (x1_2).toInt.toNat from (by omega), ev_5]; exact ⟨by omega, isR_iff.mpr ⟨by omega, by omega⟩⟩)) (by exfalso; omega) (by omega))
                  · skip
                    have el_4 : (4 : Int32).toInt = 4 := rfl
                    rw [i_le] at c_39
                    refine j_ldc2 (pc := 187) C wd_646 dX11_cutAll_187 ?_
                    refine j_lload (pc := 190) C dX11_cutAll_190 0 rfl ?_
                    refine j_lmul (pc := 192) C dX11_cutAll_192 rfl ?_
                    refine j_aload_n (pc := 193) C dX11_cutAll_193 rfl 5 rfl ?_
                    refine j_get (pc := 194) (ci := 11) (v := .ref mtape) C inw_11 0 rfl rfl 1 (by decide) wd_628 rfl rfl dX11_cutAll_194 ?_
                    refine j_iload_n (pc := 197) C dX11_cutAll_197 rfl 3 rfl ?_
                    refine j_iald (pc := 198) (v := v_5) (k := (x1_2).toInt.toNat) C 1 1 rfl rfl (i_nn hi_1_0.1) rfl (i_lt_n hi_1_0.1 (by omega)) ev_5 dX11_cutAll_198 ?_
                    refine j_i2l (pc := 199) C dX11_cutAll_199 rfl ?_
                    refine j_ladd (pc := 200) C dX11_cutAll_200 rfl ?_
                    refine j_ldc2 (pc := 201) C wd_647 dX11_cutAll_201 ?_
                    refine j_lsub (pc := 204) C dX11_cutAll_204 rfl ?_
                    refine j_goto (pc := 205) (tgt := 210) C dX11_cutAll_205 (by decide) ?_
                    refine j_lstore (pc := 210) (lv' := [(5, .long (((10 * 0) + (v_5).toInt64) - 48)), (4, .int x1_2), (3, .int v_5), (2, .int x1_2), (1, .int x1_1), (0, .ref m0)]) C dX11_cutAll_210 (by decide) rfl ?_
                    obtain ⟨v_67, ev_67⟩ : ∃ z : Int32, x1_2 + 1 = z := ⟨_, rfl⟩
                    have el_1 : (1 : Int32).toInt = 1 := rfl
                    have hv_67 : v_67.toInt = x1_2.toInt + (1 : Int32).toInt := by rw [← ev_67]; exact fb_addI (by omega) (by omega)
                    refine j_iinc (pc := 212) (v := v_67) (lv' := [(2, .int v_67), (5, .long (((10 * 0) + (v_5).toInt64) - 48)), (4, .int x1_2), (3, .int v_5), (1, .int x1_1), (0, .ref m0)]) C dX11_cutAll_212 3 rfl ev_67 (by decide) rfl ?_
                    refine j_goto (pc := 215) (tgt := 159) C dX11_cutAll_215 (by decide) ?_
                    have loop_68 : ∀ (k_68 : Nat) (x68_2 : Int32) (x68_5 : Int64), (1 ≤ (x68_2).toInt ∧ (x68_2).toInt ≤ 1000) → (x1_2.toInt < x68_2.toInt ∧ x68_2.toInt ≤ (m_taped).toInt) → (∀ j : Nat, x1_2.toInt ≤ (j : Int) → (j : Int) < x68_2.toInt → j < (m_taped).toInt.toNat ∧ isR 48 57 (m_tape j) = true) → (x68_5 = e10 m_tape (x1_2.toInt).toNat (min (x68_2.toInt - x1_2.toInt) 4).toNat) → (1000 - x68_2.toInt).toNat < k_68 → J p l e ({ frames := 2, cells := 0, slots := 0, locals := 40 } : Room) s m args below meth c D A 7 0 0 (QX below D (TY cyC cyI cyJ cyZ cyO) A (fun u => none) (fun u => (Iv 1002 (0) (1000) (u.2.2.1 1)) ∧ (eN (u.2.2.1 0) ≤ 1000) ∧ (RWS (u.2.2.1 0) (u.2.2.1 1) (u.2.2.2 0) (TKS m_tape (m_taped).toInt.toNat)) ∧ (((u.2.2.1 1) 0).toInt = ((tP m_tape (m_taped).toInt.toNat 0 : Nat) : Int))) (fun u => [(m0, .inr (11, [.int m_thrown, .ref mtape, .int 0, .int m_taped, .ref msort, .ref mplace, .ref mvalue, .int 0, .int 0, .ref mwords, .ref mtold, .ref mop, .ref marg, .int m_codes, .ref mnames, .ref mhasHabit, .int m_isNew, .ref mfactWords, .ref mfacts, .ref mpile, .ref mstates, .ref misMarked, .int m_inShelf, .int m_inStack, .int m_inPlace, .ref mrow, .int m_rowMany, .ref mthr, .ref mmays, .ref mtall, .ref mweights, .ref mrowOfWare, .ref mneededOf, .int m_goShelf, .int m_goStack, .int m_goLeft, .ref mtried, .ref mbestRow, .int m_bestCost, .int m_bestMany, .int m_bestShelf, .int m_bestSet, .ref mdigits])), (mtape, .inl (cyI, 1000, .inl m_tape)), (msort, .inl (cyI, 1002, .inl (u.2.2.1 0))), (mplace, .inl (cyI, 1002, .inl (u.2.2.1 1))), (mvalue, .inl (cyJ, 1002, .inr (.inl (u.2.2.2 0))))]) args s 0 0) [(m0, .inr (11, [.int m_thrown, .ref mtape, .int 0, .int m_taped, .ref msort, .ref mplace, .ref mvalue, .int m_at, .int m_fault, .ref mwords, .ref mtold, .ref mop, .ref marg, .int m_codes, .ref mnames, .ref mhasHabit, .int m_isNew, .ref mfactWords, .ref mfacts, .ref mpile, .ref mstates, .ref misMarked, .int m_inShelf, .int m_inStack, .int m_inPlace, .ref mrow, .int m_rowMany, .ref mthr, .ref mmays, .ref mtall, .ref mweights, .ref mrowOfWare, .ref mneededOf, .int m_goShelf, .int m_goStack, .int m_goLeft, .ref mtried, .ref mbestRow, .int m_bestCost, .int m_bestMany, .int m_bestShelf, .int m_bestSet, .ref mdigits])), (mtape, .inl (cyI, 1000, .inl m_tape)), (msort, .inl (cyI, 1002, .inl g1_msort)), (mplace, .inl (cyI, 1002, .inl f_9)), (mvalue, .inl (cyJ, 1002, .inr (.inl g1_mvalue)))] 159 [(2, .int x68_2), (5, .long x68_5), (4, .int x1_2), (3, .int v_5), (1, .int x1_1), (0, .ref m0)] [] := by
                      intro k_68
                      induction k_68 with
                      | zero =>
                        intro x68_2 x68_5 hi_68_0 hr_68 hq_68_0 hq_68_1 hm_68
                        exact absurd hm_68 (Nat.not_lt_zero _)
                      | succ k_68 ih_68 =>
                        intro x68_2 x68_5 hi_68_0 hr_68 hq_68_0 hq_68_1 hm_68
                        refine j_iload_n (pc := 159) C dX11_cutAll_159 rfl 0 rfl ?_
                        refine j_aload_n (pc := 160) C dX11_cutAll_160 rfl 5 rfl ?_
                        refine j_get (pc := 161) (ci := 11) (v := .int m_taped) C inw_11 0 rfl rfl 3 (by decide) wd_634 rfl rfl dX11_cutAll_161 ?_
                        refine j_icmp_ge (pc := 164) (tgt := 218) C dX11_cutAll_164 (by decide) (fun c_69 => ?_) (fun c_69 => ?_)
                        · skip
                          rw [i_le] at c_69
                          refine j_aload_n (pc := 218) C dX11_cutAll_218 rfl 5 rfl ?_
                          refine j_get (pc := 219) (ci := 11) (v := .ref msort) C inw_11 0 rfl rfl 4 (by decide) wd_635 rfl rfl dX11_cutAll_219 ?_
                          refine j_iload_n (pc := 222) C dX11_cutAll_222 rfl 4 rfl ?_
                          refine j_iload_n (pc := 223) C dX11_cutAll_223 rfl 0 rfl ?_
                          refine j_iload (pc := 224) C dX11_cutAll_224 2 rfl ?_
                          obtain ⟨v_70, ev_70⟩ : ∃ z : Int32, x68_2 - x1_2 = z := ⟨_, rfl⟩
                          have hv_70 : v_70.toInt = x68_2.toInt - x1_2.toInt := by rw [← ev_70]; exact fb_subI (by omega) (by omega)
                          refine j_isub (pc := 226) (v := v_70) C dX11_cutAll_226 ev_70 ?_
                          refine j_iconst (pc := 227) (v := 4) C dX11_cutAll_227 (by decide) ?_
                          refine j_icmp_le (pc := 228) (tgt := 235) C dX11_cutAll_228 (by decide) (fun c_71 => ?_) (fun c_71 => ?_)
                          · skip
                            have el_4 : (4 : Int32).toInt = 4 := rfl
                            rw [i_le] at c_71
                            refine j_iconst (pc := 235) (v := 2) C dX11_cutAll_235 (by decide) ?_
                            obtain ⟨f_72, ef_72⟩ : ∃ z, z = upd g1_msort (x1_1).toInt.toNat 2 := ⟨_, rfl⟩
                            refine j_iast (pc := 236) (k := (x1_1).toInt.toNat) (ws' := [(m0, .inr (11, [.int m_thrown, .ref mtape, .int 0, .int m_taped, .ref msort, .ref mplace, .ref mvalue, .int m_at, .int m_fault, .ref mwords, .ref mtold, .ref mop, .ref marg, .int m_codes, .ref mnames, .ref mhasHabit, .int m_isNew, .ref mfactWords, .ref mfacts, .ref mpile, .ref mstates, .ref misMarked, .int m_inShelf, .int m_inStack, .int m_inPlace, .ref mrow, .int m_rowMany, .ref mthr, .ref mmays, .ref mtall, .ref mweights, .ref mrowOfWare, .ref mneededOf, .int m_goShelf, .int m_goStack, .int m_goLeft, .ref mtried, .ref mbestRow, .int m_bestCost, .int m_bestMany, .int m_bestShelf, .int m_bestSet, .ref mdigits])), (mtape, .inl (cyI, 1000, .inl m_tape)), (msort, .inl (cyI, 1002, .inl f_72)), (mplace, .inl (cyI, 1002, .inl f_9)), (mvalue, .inl (cyJ, 1002, .inr (.inl g1_mvalue)))]) C 2 1 rfl rfl (i_nn hi_1_1.1) rfl (i_lt_n hi_1_1.1 (Int.lt_of_le_of_lt hi_1_1.2 (by decide))) dX11_cutAll_236 (by rw [ef_72]; rfl) ?_
                            refine j_goto (pc := 237) (tgt := 265) C dX11_cutAll_237 (by decide) ?_
                            refine j_aload_n (pc := 265) C dX11_cutAll_265 rfl 5 rfl ?_
                            refine j_get (pc := 266) (ci := 11) (v := .ref mvalue) C inw_11 0 rfl rfl 6 (by decide) wd_645 rfl rfl dX11_cutAll_266 ?_
                            refine j_iload_n (pc := 269) C dX11_cutAll_269 rfl 4 rfl ?_
                            refine j_lload (pc := 270) C dX11_cutAll_270 1 rfl ?_
                            obtain ⟨f_73, ef_73⟩ : ∃ z, z = vp_updL g1_mvalue (x1_1).toInt.toNat x68_5 := ⟨_, rfl⟩
                            refine j_last (pc := 272) (k := (x1_1).toInt.toNat) (ws' := [(m0, .inr (11, [.int m_thrown, .ref mtape, .int 0, .int m_taped, .ref msort, .ref mplace, .ref mvalue, .int m_at, .int m_fault, .ref mwords, .ref mtold, .ref mop, .ref marg, .int m_codes, .ref mnames, .ref mhasHabit, .int m_isNew, .ref mfactWords, .ref mfacts, .ref mpile, .ref mstates, .ref misMarked, .int m_inShelf, .int m_inStack, .int m_inPlace, .ref mrow, .int m_rowMany, .ref mthr, .ref mmays, .ref mtall, .ref mweights, .ref mrowOfWare, .ref mneededOf, .int m_goShelf, .int m_goStack, .int m_goLeft, .ref mtried, .ref mbestRow, .int m_bestCost, .int m_bestMany, .int m_bestShelf, .int m_bestSet, .ref mdigits])), (mtape, .inl (cyI, 1000, .inl m_tape)), (msort, .inl (cyI, 1002, .inl f_72)), (mplace, .inl (cyI, 1002, .inl f_9)), (mvalue, .inl (cyJ, 1002, .inr (.inl f_73)))]) C 4 2 rfl rfl (i_nn hi_1_1.1) rfl (i_lt_n hi_1_1.1 (Int.lt_of_le_of_lt hi_1_1.2 (by decide))) dX11_cutAll_272 (by rw [ef_73]; rfl) ?_
                            obtain ⟨v_74, ev_74⟩ : ∃ z : Int32, x1_1 + 1 = z := ⟨_, rfl⟩
                            have el_1 : (1 : Int32).toInt = 1 := rfl
                            have hv_74 : v_74.toInt = x1_1.toInt + (1 : Int32).toInt := by rw [← ev_74]; exact fb_addI (by omega) (by omega)
                            refine j_iinc (pc := 273) (v := v_74) (lv' := [(1, .int v_74), (2, .int x68_2), (5, .long x68_5), (4, .int x1_2), (3, .int v_5), (0, .ref m0)]) C dX11_cutAll_273 4 rfl ev_74 (by decide) rfl ?_
                            refine j_goto (pc := 276) (tgt := 17) C dX11_cutAll_276 (by decide) ?_
                            have el_10 : (10 : Int32).toInt = 10 := rfl
                            have el_32 : (32 : Int32).toInt = 32 := rfl
                            have el_97 : (97 : Int32).toInt = 97 := rfl
                            have el_122 : (122 : Int32).toInt = 122 := rfl
                            have el_48 : (48 : Int32).toInt = 48 := rfl
                            have el_57 : (57 : Int32).toInt = 57 := rfl
                            have el_2 : (2 : Int32).toInt = 2 := rfl
                            exact j_lv [1, 0, 5] rfl (ih_1 x68_2 v_74 f_72 f_9 f_73 (by omega) (by omega) hf_9 (by omega) (CA.dig hq_1_0 (by omega) (by omega) (by omega) (fun z => by have z9 := of_decide_eq_true z; rw [ev_5] at z9; omega) (fun z => by have z9 := isR_iff.mp z; rw [ev_5] at z9; omega) ef_72 ef_9 rfl ef_73 ⟨by omega, fun j j1 j2 => hq_68_0 j (by omega) (by omega), fun z => absurd z.1 (by omega)⟩ (by omega) (by omega) hq_68_1 (by omega)) (by omega))
                          · skip
                            have el_4 : (4 : Int32).toInt = 4 := rfl
                            rw [i_le] at c_71
                            refine j_iconst (pc := 231) (v := 4) C dX11_cutAll_231 (by decide) ?_
                            refine j_goto (pc := 232) (tgt := 236) C dX11_cutAll_232 (by decide) ?_
                            obtain ⟨f_75, ef_75⟩ : ∃ z, z = upd g1_msort (x1_1).toInt.toNat 4 := ⟨_, rfl⟩
                            refine j_iast (pc := 236) (k := (x1_1).toInt.toNat) (ws' := [(m0, .inr (11, [.int m_thrown, .ref mtape, .int 0, .int m_taped, .ref msort, .ref mplace, .ref mvalue, .int m_at, .int m_fault, .ref mwords, .ref mtold, .ref mop, .ref marg, .int m_codes, .ref mnames, .ref mhasHabit, .int m_isNew, .ref mfactWords, .ref mfacts, .ref mpile, .ref mstates, .ref misMarked, .int m_inShelf, .int m_inStack, .int m_inPlace, .ref mrow, .int m_rowMany, .ref mthr, .ref mmays, .ref mtall, .ref mweights, .ref mrowOfWare, .ref mneededOf, .int m_goShelf, .int m_goStack, .int m_goLeft, .ref mtried, .ref mbestRow, .int m_bestCost, .int m_bestMany, .int m_bestShelf, .int m_bestSet, .ref mdigits])), (mtape, .inl (cyI, 1000, .inl m_tape)), (msort, .inl (cyI, 1002, .inl f_75)), (mplace, .inl (cyI, 1002, .inl f_9)), (mvalue, .inl (cyJ, 1002, .inr (.inl g1_mvalue)))]) C 2 1 rfl rfl (i_nn hi_1_1.1) rfl (i_lt_n hi_1_1.1 (Int.lt_of_le_of_lt hi_1_1.2 (by decide))) dX11_cutAll_236 (by rw [ef_75]; rfl) ?_
                            refine j_goto (pc := 237) (tgt := 265) C dX11_cutAll_237 (by decide) ?_
                            refine j_aload_n (pc := 265) C dX11_cutAll_265 rfl 5 rfl ?_
                            refine j_get (pc := 266) (ci := 11) (v := .ref mvalue) C inw_11 0 rfl rfl 6 (by decide) wd_645 rfl rfl dX11_cutAll_266 ?_
                            refine j_iload_n (pc := 269) C dX11_cutAll_269 rfl 4 rfl ?_
                            refine j_lload (pc := 270) C dX11_cutAll_270 1 rfl ?_
                            obtain ⟨f_76, ef_76⟩ : ∃ z, z = vp_updL g1_mvalue (x1_1).toInt.toNat x68_5 := ⟨_, rfl⟩
                            refine j_last (pc := 272) (k := (x1_1).toInt.toNat) (ws' := [(m0, .inr (11, [.int m_thrown, .ref mtape, .int 0, .int m_taped, .ref msort, .ref mplace, .ref mvalue, .int m_at, .int m_fault, .ref mwords, .ref mtold, .ref mop, .ref marg, .int m_codes, .ref mnames, .ref mhasHabit, .int m_isNew, .ref mfactWords, .ref mfacts, .ref mpile, .ref mstates, .ref misMarked, .int m_inShelf, .int m_inStack, .int m_inPlace, .ref mrow, .int m_rowMany, .ref mthr, .ref mmays, .ref mtall, .ref mweights, .ref mrowOfWare, .ref mneededOf, .int m_goShelf, .int m_goStack, .int m_goLeft, .ref mtried, .ref mbestRow, .int m_bestCost, .int m_bestMany, .int m_bestShelf, .int m_bestSet, .ref mdigits])), (mtape, .inl (cyI, 1000, .inl m_tape)), (msort, .inl (cyI, 1002, .inl f_75)), (mplace, .inl (cyI, 1002, .inl f_9)), (mvalue, .inl (cyJ, 1002, .inr (.inl f_76)))]) C 4 2 rfl rfl (i_nn hi_1_1.1) rfl (i_lt_n hi_1_1.1 (Int.lt_of_le_of_lt hi_1_1.2 (by decide))) dX11_cutAll_272 (by rw [ef_76]; rfl) ?_
                            obtain ⟨v_77, ev_77⟩ : ∃ z : Int32, x1_1 + 1 = z := ⟨_, rfl⟩
                            have el_1 : (1 : Int32).toInt = 1 := rfl
                            have hv_77 : v_77.toInt = x1_1.toInt + (1 : Int32).toInt := by rw [← ev_77]; exact fb_addI (by omega) (by omega)
                            refine j_iinc (pc := 273) (v := v_77) (lv' := [(1, .int v_77), (2, .int x68_2), (5, .long x68_5), (4, .int x1_2), (3, .int v_5), (0, .ref m0)]) C dX11_cutAll_273 4 rfl ev_77 (by decide) rfl ?_
                            refine j_goto (pc := 276) (tgt := 17) C dX11_cutAll_276 (by decide) ?_
                            have el_10 : (10 : Int32).toInt = 10 := rfl
                            have el_32 : (32 : Int32).toInt = 32 := rfl
                            have el_97 : (97 : Int32).toInt = 97 := rfl
                            have el_122 : (122 : Int32).toInt = 122 := rfl
                            have el_48 : (48 : Int32).toInt = 48 := rfl
                            have el_57 : (57 : Int32).toInt = 57 := rfl
                            have el_4 : (4 : Int32).toInt = 4 := rfl
                            exact j_lv [1, 0, 5] rfl (ih_1 x68_2 v_77 f_75 f_9 f_76 (by omega) (by omega) hf_9 (by omega) (CA.dig hq_1_0 (by omega) (by omega) (by omega) (fun z => by have z9 := of_decide_eq_true z; rw [ev_5] at z9; omega) (fun z => by have z9 := isR_iff.mp z; rw [ev_5] at z9; omega) ef_75 ef_9 rfl ef_76 ⟨by omega, fun j j1 j2 => hq_68_0 j (by omega) (by omega), fun z => absurd z.1 (by omega)⟩ (by omega) (by omega) hq_68_1 (by omega)) (by omega))
                        · skip
                          rw [i_le] at c_69
                          refine j_aload_n (pc := 167) C dX11_cutAll_167 rfl 5 rfl ?_
                          refine j_get (pc := 168) (ci := 11) (v := .ref mtape) C inw_11 0 rfl rfl 1 (by decide) wd_628 rfl rfl dX11_cutAll_168 ?_
                          refine j_iload_n (pc := 171) C dX11_cutAll_171 rfl 0 rfl ?_
                          obtain ⟨v_78, ev_78⟩ : ∃ z, m_tape (x68_2).toInt.toNat = z := ⟨_, rfl⟩
                          have env_78 : (m_tape (x68_2).toInt.toNat).toInt = v_78.toInt := by rw [ev_78]
                          refine j_iald (pc := 172) (v := v_78) (k := (x68_2).toInt.toNat) C 1 1 rfl rfl (i_nn (Int.le_trans (by decide) hi_68_0.1)) rfl (i_lt_n (Int.le_trans (by decide) hi_68_0.1) (by omega)) ev_78 dX11_cutAll_172 ?_
                          refine j_callS (pc := 173) (As := [.int v_78]) (rest := []) (wr := [(m0, .inr (11, [.int m_thrown, .ref mtape, .int 0, .int m_taped, .ref msort, .ref mplace, .ref mvalue, .int m_at, .int m_fault, .ref mwords, .ref mtold, .ref mop, .ref marg, .int m_codes, .ref mnames, .ref mhasHabit, .int m_isNew, .ref mfactWords, .ref mfacts, .ref mpile, .ref mstates, .ref misMarked, .int m_inShelf, .int m_inStack, .int m_inPlace, .ref mrow, .int m_rowMany, .ref mthr, .ref mmays, .ref mtall, .ref mweights, .ref mrowOfWare, .ref mneededOf, .int m_goShelf, .int m_goStack, .int m_goLeft, .ref mtried, .ref mbestRow, .int m_bestCost, .int m_bestMany, .int m_bestShelf, .int m_bestSet, .ref mdigits])), (mtape, .inl (cyI, 1000, .inl m_tape)), (msort, .inl (cyI, 1002, .inl g1_msort)), (mplace, .inl (cyI, 1002, .inl f_9)), (mvalue, .inl (cyJ, 1002, .inr (.inl g1_mvalue)))]) C (c_X11_isDigit l D cyC cyI cyJ cyZ cyO v_78) wd_639 wd_624 wd_640 wd_641 ⟨by decide, by decide, rfl⟩ rfl ⟨rfl, rfl, by decide, by decide⟩ ⟨by decide, by decide⟩ [] [0, 1, 2, 3, 4] rfl rfl ⟨by decide, by decide, by decide⟩ rfl (Nat.le_of_ble_eq_true rfl) dX11_cutAll_173 (fun u_79 hw_80 => ?_)
                          refine j_eq (ws2 := [(m0, .inr (11, [.int m_thrown, .ref mtape, .int 0, .int m_taped, .ref msort, .ref mplace, .ref mvalue, .int m_at, .int m_fault, .ref mwords, .ref mtold, .ref mop, .ref marg, .int m_codes, .ref mnames, .ref mhasHabit, .int m_isNew, .ref mfactWords, .ref mfacts, .ref mpile, .ref mstates, .ref misMarked, .int m_inShelf, .int m_inStack, .int m_inPlace, .ref mrow, .int m_rowMany, .ref mthr, .ref mmays, .ref mtall, .ref mweights, .ref mrowOfWare, .ref mneededOf, .int m_goShelf, .int m_goStack, .int m_goLeft, .ref mtried, .ref mbestRow, .int m_bestCost, .int m_bestMany, .int m_bestShelf, .int m_bestSet, .ref mdigits])), (mtape, .inl (cyI, 1000, .inl m_tape)), (msort, .inl (cyI, 1002, .inl g1_msort)), (mplace, .inl (cyI, 1002, .inl f_9)), (mvalue, .inl (cyJ, 1002, .inr (.inl g1_mvalue)))]) (pc2 := 176) (lv2 := [(2, .int x68_2), (5, .long x68_5), (4, .int x1_2), (3, .int v_5), (1, .int x1_1), (0, .ref m0)]) (st2 := [.int (u_79.2.1 0)]) rfl rfl rfl rfl ?_
                          obtain ⟨hw_80_0, hw_80_1, hw_80_2⟩ := hw_80
                          refine j_if_eq (pc := 176) (tgt := 218) C dX11_cutAll_176 (by decide) (fun c_81 => ?_) (fun c_81 => ?_)
                          · skip
                            have el_0 : (0 : Int32).toInt = 0 := rfl
                            rw [i_eq] at c_81
                            refine j_aload_n (pc := 218) C dX11_cutAll_218 rfl 5 rfl ?_
                            refine j_get (pc := 219) (ci := 11) (v := .ref msort) C inw_11 0 rfl rfl 4 (by decide) wd_635 rfl rfl dX11_cutAll_219 ?_
                            refine j_iload_n (pc := 222) C dX11_cutAll_222 rfl 4 rfl ?_
                            refine j_iload_n (pc := 223) C dX11_cutAll_223 rfl 0 rfl ?_
                            refine j_iload (pc := 224) C dX11_cutAll_224 2 rfl ?_
                            obtain ⟨v_82, ev_82⟩ : ∃ z : Int32, x68_2 - x1_2 = z := ⟨_, rfl⟩
                            have hv_82 : v_82.toInt = x68_2.toInt - x1_2.toInt := by rw [← ev_82]; exact fb_subI (by omega) (by omega)
                            refine j_isub (pc := 226) (v := v_82) C dX11_cutAll_226 ev_82 ?_
                            refine j_iconst (pc := 227) (v := 4) C dX11_cutAll_227 (by decide) ?_
                            refine j_icmp_le (pc := 228) (tgt := 235) C dX11_cutAll_228 (by decide) (fun c_83 => ?_) (fun c_83 => ?_)
                            · skip
                              have el_4 : (4 : Int32).toInt = 4 := rfl
                              rw [i_le] at c_83
                              refine j_iconst (pc := 235) (v := 2) C dX11_cutAll_235 (by decide) ?_
                              obtain ⟨f_84, ef_84⟩ : ∃ z, z = upd g1_msort (x1_1).toInt.toNat 2 := ⟨_, rfl⟩
                              refine j_iast (pc := 236) (k := (x1_1).toInt.toNat) (ws' := [(m0, .inr (11, [.int m_thrown, .ref mtape, .int 0, .int m_taped, .ref msort, .ref mplace, .ref mvalue, .int m_at, .int m_fault, .ref mwords, .ref mtold, .ref mop, .ref marg, .int m_codes, .ref mnames, .ref mhasHabit, .int m_isNew, .ref mfactWords, .ref mfacts, .ref mpile, .ref mstates, .ref misMarked, .int m_inShelf, .int m_inStack, .int m_inPlace, .ref mrow, .int m_rowMany, .ref mthr, .ref mmays, .ref mtall, .ref mweights, .ref mrowOfWare, .ref mneededOf, .int m_goShelf, .int m_goStack, .int m_goLeft, .ref mtried, .ref mbestRow, .int m_bestCost, .int m_bestMany, .int m_bestShelf, .int m_bestSet, .ref mdigits])), (mtape, .inl (cyI, 1000, .inl m_tape)), (msort, .inl (cyI, 1002, .inl f_84)), (mplace, .inl (cyI, 1002, .inl f_9)), (mvalue, .inl (cyJ, 1002, .inr (.inl g1_mvalue)))]) C 2 1 rfl rfl (i_nn hi_1_1.1) rfl (i_lt_n hi_1_1.1 (Int.lt_of_le_of_lt hi_1_1.2 (by decide))) dX11_cutAll_236 (by rw [ef_84]; rfl) ?_
                              refine j_goto (pc := 237) (tgt := 265) C dX11_cutAll_237 (by decide) ?_
                              refine j_aload_n (pc := 265) C dX11_cutAll_265 rfl 5 rfl ?_
                              refine j_get (pc := 266) (ci := 11) (v := .ref mvalue) C inw_11 0 rfl rfl 6 (by decide) wd_645 rfl rfl dX11_cutAll_266 ?_
                              refine j_iload_n (pc := 269) C dX11_cutAll_269 rfl 4 rfl ?_
                              refine j_lload (pc := 270) C dX11_cutAll_270 1 rfl ?_
                              obtain ⟨f_85, ef_85⟩ : ∃ z, z = vp_updL g1_mvalue (x1_1).toInt.toNat x68_5 := ⟨_, rfl⟩
                              refine j_last (pc := 272) (k := (x1_1).toInt.toNat) (ws' := [(m0, .inr (11, [.int m_thrown, .ref mtape, .int 0, .int m_taped, .ref msort, .ref mplace, .ref mvalue, .int m_at, .int m_fault, .ref mwords, .ref mtold, .ref mop, .ref marg, .int m_codes, .ref mnames, .ref mhasHabit, .int m_isNew, .ref mfactWords, .ref mfacts, .ref mpile, .ref mstates, .ref misMarked, .int m_inShelf, .int m_inStack, .int m_inPlace, .ref mrow, .int m_rowMany, .ref mthr, .ref mmays, .ref mtall, .ref mweights, .ref mrowOfWare, .ref mneededOf, .int m_goShelf, .int m_goStack, .int m_goLeft, .ref mtried, .ref mbestRow, .int m_bestCost, .int m_bestMany, .int m_bestShelf, .int m_bestSet, .ref mdigits])), (mtape, .inl (cyI, 1000, .inl m_tape)), (msort, .inl (cyI, 1002, .inl f_84)), (mplace, .inl (cyI, 1002, .inl f_9)), (mvalue, .inl (cyJ, 1002, .inr (.inl f_85)))]) C 4 2 rfl rfl (i_nn hi_1_1.1) rfl (i_lt_n hi_1_1.1 (Int.lt_of_le_of_lt hi_1_1.2 (by decide))) dX11_cutAll_272 (by rw [ef_85]; rfl) ?_
                              obtain ⟨v_86, ev_86⟩ : ∃ z : Int32, x1_1 + 1 = z := ⟨_, rfl⟩
                              have el_1 : (1 : Int32).toInt = 1 := rfl
                              have hv_86 : v_86.toInt = x1_1.toInt + (1 : Int32).toInt := by rw [← ev_86]; exact fb_addI (by omega) (by omega)
                              refine j_iinc (pc := 273) (v := v_86) (lv' := [(1, .int v_86), (2, .int x68_2), (5, .long x68_5), (4, .int x1_2), (3, .int v_5), (0, .ref m0)]) C dX11_cutAll_273 4 rfl ev_86 (by decide) rfl ?_
                              refine j_goto (pc := 276) (tgt := 17) C dX11_cutAll_276 (by decide) ?_
                              have el_10 : (10 : Int32).toInt = 10 := rfl
                              have el_32 : (32 : Int32).toInt = 32 := rfl
                              have el_97 : (97 : Int32).toInt = 97 := rfl
                              have el_122 : (122 : Int32).toInt = 122 := rfl
                              have el_48 : (48 : Int32).toInt = 48 := rfl
                              have el_57 : (57 : Int32).toInt = 57 := rfl
                              have el_2 : (2 : Int32).toInt = 2 := rfl
                              exact j_lv [1, 0, 5] rfl (ih_1 x68_2 v_86 f_84 f_9 f_85 (by omega) (by omega) hf_9 (by omega) (CA.dig hq_1_0 (by omega) (by omega) (by omega) (fun z => by have z9 := of_decide_eq_true z; rw [ev_5] at z9; omega) (fun z => by have z9 := isR_iff.mp z; rw [ev_5] at z9; omega) ef_84 ef_9 rfl ef_85 ⟨by omega, fun j j1 j2 => hq_68_0 j (by omega) (by omega), fun z => by (have z9 := isR_iff.mp z.2; rw [ev_78] at z9; omega)⟩ (by omega) (by omega) hq_68_1 (by omega)) (by omega))
                            · skip
                              have el_4 : (4 : Int32).toInt = 4 := rfl
                              rw [i_le] at c_83
                              refine j_iconst (pc := 231) (v := 4) C dX11_cutAll_231 (by decide) ?_
                              refine j_goto (pc := 232) (tgt := 236) C dX11_cutAll_232 (by decide) ?_
                              obtain ⟨f_87, ef_87⟩ : ∃ z, z = upd g1_msort (x1_1).toInt.toNat 4 := ⟨_, rfl⟩
                              refine j_iast (pc := 236) (k := (x1_1).toInt.toNat) (ws' := [(m0, .inr (11, [.int m_thrown, .ref mtape, .int 0, .int m_taped, .ref msort, .ref mplace, .ref mvalue, .int m_at, .int m_fault, .ref mwords, .ref mtold, .ref mop, .ref marg, .int m_codes, .ref mnames, .ref mhasHabit, .int m_isNew, .ref mfactWords, .ref mfacts, .ref mpile, .ref mstates, .ref misMarked, .int m_inShelf, .int m_inStack, .int m_inPlace, .ref mrow, .int m_rowMany, .ref mthr, .ref mmays, .ref mtall, .ref mweights, .ref mrowOfWare, .ref mneededOf, .int m_goShelf, .int m_goStack, .int m_goLeft, .ref mtried, .ref mbestRow, .int m_bestCost, .int m_bestMany, .int m_bestShelf, .int m_bestSet, .ref mdigits])), (mtape, .inl (cyI, 1000, .inl m_tape)), (msort, .inl (cyI, 1002, .inl f_87)), (mplace, .inl (cyI, 1002, .inl f_9)), (mvalue, .inl (cyJ, 1002, .inr (.inl g1_mvalue)))]) C 2 1 rfl rfl (i_nn hi_1_1.1) rfl (i_lt_n hi_1_1.1 (Int.lt_of_le_of_lt hi_1_1.2 (by decide))) dX11_cutAll_236 (by rw [ef_87]; rfl) ?_
                              refine j_goto (pc := 237) (tgt := 265) C dX11_cutAll_237 (by decide) ?_
                              refine j_aload_n (pc := 265) C dX11_cutAll_265 rfl 5 rfl ?_
                              refine j_get (pc := 266) (ci := 11) (v := .ref mvalue) C inw_11 0 rfl rfl 6 (by decide) wd_645 rfl rfl dX11_cutAll_266 ?_
                              refine j_iload_n (pc := 269) C dX11_cutAll_269 rfl 4 rfl ?_
                              refine j_lload (pc := 270) C dX11_cutAll_270 1 rfl ?_
                              obtain ⟨f_88, ef_88⟩ : ∃ z, z = vp_updL g1_mvalue (x1_1).toInt.toNat x68_5 := ⟨_, rfl⟩
                              refine j_last (pc := 272) (k := (x1_1).toInt.toNat) (ws' := [(m0, .inr (11, [.int m_thrown, .ref mtape, .int 0, .int m_taped, .ref msort, .ref mplace, .ref mvalue, .int m_at, .int m_fault, .ref mwords, .ref mtold, .ref mop, .ref marg, .int m_codes, .ref mnames, .ref mhasHabit, .int m_isNew, .ref mfactWords, .ref mfacts, .ref mpile, .ref mstates, .ref misMarked, .int m_inShelf, .int m_inStack, .int m_inPlace, .ref mrow, .int m_rowMany, .ref mthr, .ref mmays, .ref mtall, .ref mweights, .ref mrowOfWare, .ref mneededOf, .int m_goShelf, .int m_goStack, .int m_goLeft, .ref mtried, .ref mbestRow, .int m_bestCost, .int m_bestMany, .int m_bestShelf, .int m_bestSet, .ref mdigits])), (mtape, .inl (cyI, 1000, .inl m_tape)), (msort, .inl (cyI, 1002, .inl f_87)), (mplace, .inl (cyI, 1002, .inl f_9)), (mvalue, .inl (cyJ, 1002, .inr (.inl f_88)))]) C 4 2 rfl rfl (i_nn hi_1_1.1) rfl (i_lt_n hi_1_1.1 (Int.lt_of_le_of_lt hi_1_1.2 (by decide))) dX11_cutAll_272 (by rw [ef_88]; rfl) ?_
                              obtain ⟨v_89, ev_89⟩ : ∃ z : Int32, x1_1 + 1 = z := ⟨_, rfl⟩
                              have el_1 : (1 : Int32).toInt = 1 := rfl
                              have hv_89 : v_89.toInt = x1_1.toInt + (1 : Int32).toInt := by rw [← ev_89]; exact fb_addI (by omega) (by omega)
                              refine j_iinc (pc := 273) (v := v_89) (lv' := [(1, .int v_89), (2, .int x68_2), (5, .long x68_5), (4, .int x1_2), (3, .int v_5), (0, .ref m0)]) C dX11_cutAll_273 4 rfl ev_89 (by decide) rfl ?_
                              refine j_goto (pc := 276) (tgt := 17) C dX11_cutAll_276 (by decide) ?_
                              have el_10 : (10 : Int32).toInt = 10 := rfl
                              have el_32 : (32 : Int32).toInt = 32 := rfl
                              have el_97 : (97 : Int32).toInt = 97 := rfl
                              have el_122 : (122 : Int32).toInt = 122 := rfl
                              have el_48 : (48 : Int32).toInt = 48 := rfl
                              have el_57 : (57 : Int32).toInt = 57 := rfl
                              have el_4 : (4 : Int32).toInt = 4 := rfl
                              exact j_lv [1, 0, 5] rfl (ih_1 x68_2 v_89 f_87 f_9 f_88 (by omega) (by omega) hf_9 (by omega) (CA.dig hq_1_0 (by omega) (by omega) (by omega) (fun z => by have z9 := of_decide_eq_true z; rw [ev_5] at z9; omega) (fun z => by have z9 := isR_iff.mp z; rw [ev_5] at z9; omega) ef_87 ef_9 rfl ef_88 ⟨by omega, fun j j1 j2 => hq_68_0 j (by omega) (by omega), fun z => by (have z9 := isR_iff.mp z.2; rw [ev_78] at z9; omega)⟩ (by omega) (by omega) hq_68_1 (by omega)) (by omega))
                          · skip
                            have el_0 : (0 : Int32).toInt = 0 := rfl
                            rw [i_eq] at c_81
                            have k0c_81 : ((u_79.2.1 0)).toInt = 1 := by omega
                            refine j_iload_n (pc := 179) C dX11_cutAll_179 rfl 0 rfl ?_
                            refine j_iload (pc := 180) C dX11_cutAll_180 2 rfl ?_
                            obtain ⟨v_90, ev_90⟩ : ∃ z : Int32, x68_2 - x1_2 = z := ⟨_, rfl⟩
                            have hv_90 : v_90.toInt = x68_2.toInt - x1_2.toInt := by rw [← ev_90]; exact fb_subI (by omega) (by omega)
                            refine j_isub (pc := 182) (v := v_90) C dX11_cutAll_182 ev_90 ?_
                            refine j_iconst (pc := 183) (v := 4) C dX11_cutAll_183 (by decide) ?_
                            refine j_icmp_ge (pc := 184) (tgt := 208) C dX11_cutAll_184 (by decide) (fun c_91 => ?_) (fun c_91 => ?_)
                            · skip
                              have el_4 : (4 : Int32).toInt = 4 := rfl
                              rw [i_le] at c_91
                              refine j_lload (pc := 208) C dX11_cutAll_208 1 rfl ?_
                              refine j_lstore (pc := 210) (lv' := [(5, .long x68_5), (2, .int x68_2), (4, .int x1_2), (3, .int v_5), (1, .int x1_1), (0, .ref m0)]) C dX11_cutAll_210 (by decide) rfl ?_
                              obtain ⟨v_92, ev_92⟩ : ∃ z : Int32, x68_2 + 1 = z := ⟨_, rfl⟩
                              have el_1 : (1 : Int32).toInt = 1 := rfl
                              have hv_92 : v_92.toInt = x68_2.toInt + (1 : Int32).toInt := by rw [← ev_92]; exact fb_addI (by omega) (by omega)
                              refine j_iinc (pc := 212) (v := v_92) (lv' := [(2, .int v_92), (5, .long x68_5), (4, .int x1_2), (3, .int v_5), (1, .int x1_1), (0, .ref m0)]) C dX11_cutAll_212 1 rfl ev_92 (by decide) rfl ?_
                              refine j_goto (pc := 215) (tgt := 159) C dX11_cutAll_215 (by decide) ?_
                              have el_48 : (48 : Int32).toInt = 48 := rfl
                              have el_57 : (57 : Int32).toInt = 57 := rfl
                              exact j_lv [0, 1, 2, 3, 4, 5] rfl (ih_68 v_92 x68_5 (by omega) (by omega) (fun j j1 j2 => by rcases Int.lt_or_le (j : Int) (x68_2).toInt with q | q; (exact hq_68_0 j j1 q); (rw [show j = (x68_2).toInt.toNat from (by omega), ev_78]; exact ⟨by omega, isR_iff.mpr ⟨by omega, by omega⟩⟩)) (by rw [show (min ((v_92).toInt - (x1_2).toInt) 4).toNat = (min ((x68_2).toInt - (x1_2).toInt) 4).toNat from (by omega)]; exact hq_68_1) (by omega))
                            · skip
                              have el_4 : (4 : Int32).toInt = 4 := rfl
                              rw [i_le] at c_91
                              refine j_ldc2 (pc := 187) C wd_646 dX11_cutAll_187 ?_
                              refine j_lload (pc := 190) C dX11_cutAll_190 1 rfl ?_
                              refine j_lmul (pc := 192) C dX11_cutAll_192 rfl ?_
                              refine j_aload_n (pc := 193) C dX11_cutAll_193 rfl 5 rfl ?_
                              refine j_get (pc := 194) (ci := 11) (v := .ref mtape) C inw_11 0 rfl rfl 1 (by decide) wd_628 rfl rfl dX11_cutAll_194 ?_
                              refine j_iload_n (pc := 197) C dX11_cutAll_197 rfl 0 rfl ?_
                              refine j_iald (pc := 198) (v := v_78) (k := (x68_2).toInt.toNat) C 1 1 rfl rfl (i_nn (Int.le_trans (by decide) hi_68_0.1)) rfl (i_lt_n (Int.le_trans (by decide) hi_68_0.1) (by omega)) ev_78 dX11_cutAll_198 ?_
                              refine j_i2l (pc := 199) C dX11_cutAll_199 rfl ?_
                              refine j_ladd (pc := 200) C dX11_cutAll_200 rfl ?_
                              refine j_ldc2 (pc := 201) C wd_647 dX11_cutAll_201 ?_
                              refine j_lsub (pc := 204) C dX11_cutAll_204 rfl ?_
                              refine j_goto (pc := 205) (tgt := 210) C dX11_cutAll_205 (by decide) ?_
                              refine j_lstore (pc := 210) (lv' := [(5, .long (((10 * x68_5) + (v_78).toInt64) - 48)), (2, .int x68_2), (4, .int x1_2), (3, .int v_5), (1, .int x1_1), (0, .ref m0)]) C dX11_cutAll_210 (by decide) rfl ?_
                              obtain ⟨v_93, ev_93⟩ : ∃ z : Int32, x68_2 + 1 = z := ⟨_, rfl⟩
                              have el_1 : (1 : Int32).toInt = 1 := rfl
                              have hv_93 : v_93.toInt = x68_2.toInt + (1 : Int32).toInt := by rw [← ev_93]; exact fb_addI (by omega) (by omega)
                              refine j_iinc (pc := 212) (v := v_93) (lv' := [(2, .int v_93), (5, .long (((10 * x68_5) + (v_78).toInt64) - 48)), (4, .int x1_2), (3, .int v_5), (1, .int x1_1), (0, .ref m0)]) C dX11_cutAll_212 1 rfl ev_93 (by decide) rfl ?_
                              refine j_goto (pc := 215) (tgt := 159) C dX11_cutAll_215 (by decide) ?_
                              have el_48 : (48 : Int32).toInt = 48 := rfl
                              have el_57 : (57 : Int32).toInt = 57 := rfl
                              exact j_lv [0, 1, 2, 3, 4, 5] rfl (ih_68 v_93 (((10 * x68_5) + (v_78).toInt64) - 48) (by omega) (by omega) (fun j j1 j2 => by rcases Int.lt_or_le (j : Int) (x68_2).toInt with q | q; (exact hq_68_0 j j1 q); (rw [show j = (x68_2).toInt.toNat from (by omega), ev_78]; exact ⟨by omega, isR_iff.mpr ⟨by omega, by omega⟩⟩)) (by rw [show (min ((v_93).toInt - (x1_2).toInt) 4).toNat = (min ((x68_2).toInt - (x1_2).toInt) 4).toNat + 1 from (by omega)]; show _ = 10 * e10 m_tape (x1_2).toInt.toNat (min ((x68_2).toInt - (x1_2).toInt) 4).toNat + (m_tape ((x1_2).toInt.toNat + (min ((x68_2).toInt - (x1_2).toInt) 4).toNat)).toInt64 - 48; rw [show (x1_2).toInt.toNat + (min ((x68_2).toInt - (x1_2).toInt) 4).toNat = (x68_2).toInt.toNat from (by omega), ev_78, ← hq_68_1]) (by omega))
                    have el_48 : (48 : Int32).toInt = 48 := rfl
                    have el_57 : (57 : Int32).toInt = 57 := rfl
                    exact j_lv [0, 1, 2, 3, 4, 5] rfl (loop_68 4096 v_67 (((10 * 0) + (v_5).toInt64) - 48) (by omega) (by omega) (fun j j1 j2 => by (rw [show j = (x1_2).toInt.toNat from (by omega), ev_5]; exact ⟨by omega, isR_iff.mpr ⟨by omega, by omega⟩⟩)) (by rw [show (min ((v_67).toInt - (x1_2).toInt) 4).toNat = 0 + 1 from (by omega)]; show _ = 10 * e10 m_tape (x1_2).toInt.toNat 0 + (m_tape ((x1_2).toInt.toNat + 0)).toInt64 - 48; rw [Nat.add_zero, ev_5]; rfl) (by omega))
            · skip
              have el_0 : (0 : Int32).toInt = 0 := rfl
              rw [i_eq] at c_12
              have k0c_12 : ((u_10.2.1 0)).toInt = 1 := by omega
              refine j_iload_n (pc := 70) C dX11_cutAll_70 rfl 3 rfl ?_
              refine j_aload_n (pc := 71) C dX11_cutAll_71 rfl 5 rfl ?_
              refine j_get (pc := 72) (ci := 11) (v := .int m_taped) C inw_11 0 rfl rfl 3 (by decide) wd_634 rfl rfl dX11_cutAll_72 ?_
              refine j_icmp_ge (pc := 75) (tgt := 129) C dX11_cutAll_75 (by decide) (fun c_94 => ?_) (fun c_94 => ?_)
              · skip
                rw [i_le] at c_94
                refine j_aload_n (pc := 129) C dX11_cutAll_129 rfl 5 rfl ?_
                refine j_get (pc := 130) (ci := 11) (v := .ref msort) C inw_11 0 rfl rfl 4 (by decide) wd_635 rfl rfl dX11_cutAll_130 ?_
                refine j_iload_n (pc := 133) C dX11_cutAll_133 rfl 4 rfl ?_
                refine j_iload_n (pc := 134) C dX11_cutAll_134 rfl 3 rfl ?_
                refine j_iload (pc := 135) C dX11_cutAll_135 1 rfl ?_
                obtain ⟨v_95, ev_95⟩ : ∃ z : Int32, x1_2 - x1_2 = z := ⟨_, rfl⟩
                have hv_95 : v_95.toInt = x1_2.toInt - x1_2.toInt := by rw [← ev_95]; exact fb_subI (by omega) (by omega)
                refine j_isub (pc := 137) (v := v_95) C dX11_cutAll_137 ev_95 ?_
                refine j_bipush (pc := 138) (v := 8) C dX11_cutAll_138 (by decide) ?_
                refine j_icmp_le (pc := 140) (tgt := 147) C dX11_cutAll_140 (by decide) (fun c_96 => ?_) (fun c_96 => ?_)
                · skip
                  have el_8 : (8 : Int32).toInt = 8 := rfl
                  rw [i_le] at c_96
                  refine j_iconst (pc := 147) (v := 1) C dX11_cutAll_147 (by decide) ?_
                  obtain ⟨f_97, ef_97⟩ : ∃ z, z = upd g1_msort (x1_1).toInt.toNat 1 := ⟨_, rfl⟩
                  refine j_iast (pc := 148) (k := (x1_1).toInt.toNat) (ws' := [(m0, .inr (11, [.int m_thrown, .ref mtape, .int 0, .int m_taped, .ref msort, .ref mplace, .ref mvalue, .int m_at, .int m_fault, .ref mwords, .ref mtold, .ref mop, .ref marg, .int m_codes, .ref mnames, .ref mhasHabit, .int m_isNew, .ref mfactWords, .ref mfacts, .ref mpile, .ref mstates, .ref misMarked, .int m_inShelf, .int m_inStack, .int m_inPlace, .ref mrow, .int m_rowMany, .ref mthr, .ref mmays, .ref mtall, .ref mweights, .ref mrowOfWare, .ref mneededOf, .int m_goShelf, .int m_goStack, .int m_goLeft, .ref mtried, .ref mbestRow, .int m_bestCost, .int m_bestMany, .int m_bestShelf, .int m_bestSet, .ref mdigits])), (mtape, .inl (cyI, 1000, .inl m_tape)), (msort, .inl (cyI, 1002, .inl f_97)), (mplace, .inl (cyI, 1002, .inl f_9)), (mvalue, .inl (cyJ, 1002, .inr (.inl g1_mvalue)))]) C 2 1 rfl rfl (i_nn hi_1_1.1) rfl (i_lt_n hi_1_1.1 (Int.lt_of_le_of_lt hi_1_1.2 (by decide))) dX11_cutAll_148 (by rw [ef_97]; rfl) ?_
                  refine j_goto (pc := 149) (tgt := 265) C dX11_cutAll_149 (by decide) ?_
                  refine j_aload_n (pc := 265) C dX11_cutAll_265 rfl 5 rfl ?_
                  refine j_get (pc := 266) (ci := 11) (v := .ref mvalue) C inw_11 0 rfl rfl 6 (by decide) wd_645 rfl rfl dX11_cutAll_266 ?_
                  refine j_iload_n (pc := 269) C dX11_cutAll_269 rfl 4 rfl ?_
                  refine j_lload (pc := 270) C dX11_cutAll_270 0 rfl ?_
                  obtain ⟨f_98, ef_98⟩ : ∃ z, z = vp_updL g1_mvalue (x1_1).toInt.toNat 0 := ⟨_, rfl⟩
                  refine j_last (pc := 272) (k := (x1_1).toInt.toNat) (ws' := [(m0, .inr (11, [.int m_thrown, .ref mtape, .int 0, .int m_taped, .ref msort, .ref mplace, .ref mvalue, .int m_at, .int m_fault, .ref mwords, .ref mtold, .ref mop, .ref marg, .int m_codes, .ref mnames, .ref mhasHabit, .int m_isNew, .ref mfactWords, .ref mfacts, .ref mpile, .ref mstates, .ref misMarked, .int m_inShelf, .int m_inStack, .int m_inPlace, .ref mrow, .int m_rowMany, .ref mthr, .ref mmays, .ref mtall, .ref mweights, .ref mrowOfWare, .ref mneededOf, .int m_goShelf, .int m_goStack, .int m_goLeft, .ref mtried, .ref mbestRow, .int m_bestCost, .int m_bestMany, .int m_bestShelf, .int m_bestSet, .ref mdigits])), (mtape, .inl (cyI, 1000, .inl m_tape)), (msort, .inl (cyI, 1002, .inl f_97)), (mplace, .inl (cyI, 1002, .inl f_9)), (mvalue, .inl (cyJ, 1002, .inr (.inl f_98)))]) C 4 2 rfl rfl (i_nn hi_1_1.1) rfl (i_lt_n hi_1_1.1 (Int.lt_of_le_of_lt hi_1_1.2 (by decide))) dX11_cutAll_272 (by rw [ef_98]; rfl) ?_
                  obtain ⟨v_99, ev_99⟩ : ∃ z : Int32, x1_1 + 1 = z := ⟨_, rfl⟩
                  have el_1 : (1 : Int32).toInt = 1 := rfl
                  have hv_99 : v_99.toInt = x1_1.toInt + (1 : Int32).toInt := by rw [← ev_99]; exact fb_addI (by omega) (by omega)
                  refine j_iinc (pc := 273) (v := v_99) (lv' := [(1, .int v_99), (5, .long 0), (4, .int x1_2), (3, .int v_5), (2, .int x1_2), (0, .ref m0)]) C dX11_cutAll_273 4 rfl ev_99 (by decide) rfl ?_
                  refine j_goto (pc := 276) (tgt := 17) C dX11_cutAll_276 (by decide) ?_
                  have el_10 : (10 : Int32).toInt = 10 := rfl
                  have el_32 : (32 : Int32).toInt = 32 := rfl
                  have el_97 : (97 : Int32).toInt = 97 := rfl
                  have el_122 : (122 : Int32).toInt = 122 := rfl
                  have el_48 : (48 : Int32).toInt = 48 := rfl
                  have el_57 : (57 : Int32).toInt = 57 := rfl
                  have el_1 : (1 : Int32).toInt = 1 := rfl
                  exact j_lv [4, 0, 5] rfl (ih_1 x1_2 v_99 f_97 f_9 f_98 hi_1_0 (by omega) hf_9 (by omega) (by exfalso; omega) (by omega))
                · skip
                  have el_8 : (8 : Int32).toInt = 8 := rfl
                  rw [i_le] at c_96
                  refine j_iconst (pc := 143) (v := 4) C dX11_cutAll_143 (by decide) ?_
                  refine j_goto (pc := 144) (tgt := 148) C dX11_cutAll_144 (by decide) ?_
                  obtain ⟨f_100, ef_100⟩ : ∃ z, z = upd g1_msort (x1_1).toInt.toNat 4 := ⟨_, rfl⟩
                  refine j_iast (pc := 148) (k := (x1_1).toInt.toNat) (ws' := [(m0, .inr (11, [.int m_thrown, .ref mtape, .int 0, .int m_taped, .ref msort, .ref mplace, .ref mvalue, .int m_at, .int m_fault, .ref mwords, .ref mtold, .ref mop, .ref marg, .int m_codes, .ref mnames, .ref mhasHabit, .int m_isNew, .ref mfactWords, .ref mfacts, .ref mpile, .ref mstates, .ref misMarked, .int m_inShelf, .int m_inStack, .int m_inPlace, .ref mrow, .int m_rowMany, .ref mthr, .ref mmays, .ref mtall, .ref mweights, .ref mrowOfWare, .ref mneededOf, .int m_goShelf, .int m_goStack, .int m_goLeft, .ref mtried, .ref mbestRow, .int m_bestCost, .int m_bestMany, .int m_bestShelf, .int m_bestSet, .ref mdigits])), (mtape, .inl (cyI, 1000, .inl m_tape)), (msort, .inl (cyI, 1002, .inl f_100)), (mplace, .inl (cyI, 1002, .inl f_9)), (mvalue, .inl (cyJ, 1002, .inr (.inl g1_mvalue)))]) C 2 1 rfl rfl (i_nn hi_1_1.1) rfl (i_lt_n hi_1_1.1 (Int.lt_of_le_of_lt hi_1_1.2 (by decide))) dX11_cutAll_148 (by rw [ef_100]; rfl) ?_
                  refine j_goto (pc := 149) (tgt := 265) C dX11_cutAll_149 (by decide) ?_
                  refine j_aload_n (pc := 265) C dX11_cutAll_265 rfl 5 rfl ?_
                  refine j_get (pc := 266) (ci := 11) (v := .ref mvalue) C inw_11 0 rfl rfl 6 (by decide) wd_645 rfl rfl dX11_cutAll_266 ?_
                  refine j_iload_n (pc := 269) C dX11_cutAll_269 rfl 4 rfl ?_
                  refine j_lload (pc := 270) C dX11_cutAll_270 0 rfl ?_
                  obtain ⟨f_101, ef_101⟩ : ∃ z, z = vp_updL g1_mvalue (x1_1).toInt.toNat 0 := ⟨_, rfl⟩
                  refine j_last (pc := 272) (k := (x1_1).toInt.toNat) (ws' := [(m0, .inr (11, [.int m_thrown, .ref mtape, .int 0, .int m_taped, .ref msort, .ref mplace, .ref mvalue, .int m_at, .int m_fault, .ref mwords, .ref mtold, .ref mop, .ref marg, .int m_codes, .ref mnames, .ref mhasHabit, .int m_isNew, .ref mfactWords, .ref mfacts, .ref mpile, .ref mstates, .ref misMarked, .int m_inShelf, .int m_inStack, .int m_inPlace, .ref mrow, .int m_rowMany, .ref mthr, .ref mmays, .ref mtall, .ref mweights, .ref mrowOfWare, .ref mneededOf, .int m_goShelf, .int m_goStack, .int m_goLeft, .ref mtried, .ref mbestRow, .int m_bestCost, .int m_bestMany, .int m_bestShelf, .int m_bestSet, .ref mdigits])), (mtape, .inl (cyI, 1000, .inl m_tape)), (msort, .inl (cyI, 1002, .inl f_100)), (mplace, .inl (cyI, 1002, .inl f_9)), (mvalue, .inl (cyJ, 1002, .inr (.inl f_101)))]) C 4 2 rfl rfl (i_nn hi_1_1.1) rfl (i_lt_n hi_1_1.1 (Int.lt_of_le_of_lt hi_1_1.2 (by decide))) dX11_cutAll_272 (by rw [ef_101]; rfl) ?_
                  obtain ⟨v_102, ev_102⟩ : ∃ z : Int32, x1_1 + 1 = z := ⟨_, rfl⟩
                  have el_1 : (1 : Int32).toInt = 1 := rfl
                  have hv_102 : v_102.toInt = x1_1.toInt + (1 : Int32).toInt := by rw [← ev_102]; exact fb_addI (by omega) (by omega)
                  refine j_iinc (pc := 273) (v := v_102) (lv' := [(1, .int v_102), (5, .long 0), (4, .int x1_2), (3, .int v_5), (2, .int x1_2), (0, .ref m0)]) C dX11_cutAll_273 4 rfl ev_102 (by decide) rfl ?_
                  refine j_goto (pc := 276) (tgt := 17) C dX11_cutAll_276 (by decide) ?_
                  have el_10 : (10 : Int32).toInt = 10 := rfl
                  have el_32 : (32 : Int32).toInt = 32 := rfl
                  have el_97 : (97 : Int32).toInt = 97 := rfl
                  have el_122 : (122 : Int32).toInt = 122 := rfl
                  have el_48 : (48 : Int32).toInt = 48 := rfl
                  have el_57 : (57 : Int32).toInt = 57 := rfl
                  have el_4 : (4 : Int32).toInt = 4 := rfl
                  exact j_lv [4, 0, 5] rfl (ih_1 x1_2 v_102 f_100 f_9 f_101 hi_1_0 (by omega) hf_9 (by omega) (by exfalso; omega) (by omega))
              · skip
                rw [i_le] at c_94
                refine j_aload_n (pc := 78) C dX11_cutAll_78 rfl 5 rfl ?_
                refine j_get (pc := 79) (ci := 11) (v := .ref mtape) C inw_11 0 rfl rfl 1 (by decide) wd_628 rfl rfl dX11_cutAll_79 ?_
                refine j_iload_n (pc := 82) C dX11_cutAll_82 rfl 3 rfl ?_
                refine j_iald (pc := 83) (v := v_5) (k := (x1_2).toInt.toNat) C 1 1 rfl rfl (i_nn hi_1_0.1) rfl (i_lt_n hi_1_0.1 (by omega)) ev_5 dX11_cutAll_83 ?_
                refine j_callS (pc := 84) (As := [.int v_5]) (rest := []) (wr := [(m0, .inr (11, [.int m_thrown, .ref mtape, .int 0, .int m_taped, .ref msort, .ref mplace, .ref mvalue, .int m_at, .int m_fault, .ref mwords, .ref mtold, .ref mop, .ref marg, .int m_codes, .ref mnames, .ref mhasHabit, .int m_isNew, .ref mfactWords, .ref mfacts, .ref mpile, .ref mstates, .ref misMarked, .int m_inShelf, .int m_inStack, .int m_inPlace, .ref mrow, .int m_rowMany, .ref mthr, .ref mmays, .ref mtall, .ref mweights, .ref mrowOfWare, .ref mneededOf, .int m_goShelf, .int m_goStack, .int m_goLeft, .ref mtried, .ref mbestRow, .int m_bestCost, .int m_bestMany, .int m_bestShelf, .int m_bestSet, .ref mdigits])), (mtape, .inl (cyI, 1000, .inl m_tape)), (msort, .inl (cyI, 1002, .inl g1_msort)), (mplace, .inl (cyI, 1002, .inl f_9)), (mvalue, .inl (cyJ, 1002, .inr (.inl g1_mvalue)))]) C (c_X11_isLetter_f l D cyC cyI cyJ cyZ cyO v_5) wd_623 wd_624 wd_625 wd_626 ⟨by decide, by decide, rfl⟩ rfl ⟨rfl, rfl, by decide, by decide⟩ ⟨by decide, by decide⟩ [] [0, 1, 2, 3, 4] rfl rfl ⟨by decide, by decide, by decide⟩ rfl (Nat.le_of_ble_eq_true rfl) dX11_cutAll_84 (fun u_103 hw_104 => ?_)
                refine j_eq (ws2 := [(m0, .inr (11, [.int m_thrown, .ref mtape, .int 0, .int m_taped, .ref msort, .ref mplace, .ref mvalue, .int m_at, .int m_fault, .ref mwords, .ref mtold, .ref mop, .ref marg, .int m_codes, .ref mnames, .ref mhasHabit, .int m_isNew, .ref mfactWords, .ref mfacts, .ref mpile, .ref mstates, .ref misMarked, .int m_inShelf, .int m_inStack, .int m_inPlace, .ref mrow, .int m_rowMany, .ref mthr, .ref mmays, .ref mtall, .ref mweights, .ref mrowOfWare, .ref mneededOf, .int m_goShelf, .int m_goStack, .int m_goLeft, .ref mtried, .ref mbestRow, .int m_bestCost, .int m_bestMany, .int m_bestShelf, .int m_bestSet, .ref mdigits])), (mtape, .inl (cyI, 1000, .inl m_tape)), (msort, .inl (cyI, 1002, .inl g1_msort)), (mplace, .inl (cyI, 1002, .inl f_9)), (mvalue, .inl (cyJ, 1002, .inr (.inl g1_mvalue)))]) (pc2 := 87) (lv2 := [(5, .long 0), (4, .int x1_2), (3, .int v_5), (2, .int x1_2), (1, .int x1_1), (0, .ref m0)]) (st2 := [.int (u_103.2.1 0)]) rfl rfl rfl rfl ?_
                obtain ⟨hw_104_0, hw_104_1, hw_104_2⟩ := hw_104
                have el_0 : (0 : Int32).toInt = 0 := rfl
                refine j_if_eq_f (pc := 87) (tgt := 129) C dX11_cutAll_87 (by decide) (by rw [i_eq]; omega) ?_
                refine j_iload_n (pc := 90) C dX11_cutAll_90 rfl 3 rfl ?_
                refine j_iload (pc := 91) C dX11_cutAll_91 1 rfl ?_
                obtain ⟨v_105, ev_105⟩ : ∃ z : Int32, x1_2 - x1_2 = z := ⟨_, rfl⟩
                have hv_105 : v_105.toInt = x1_2.toInt - x1_2.toInt := by rw [← ev_105]; exact fb_subI (by omega) (by omega)
                refine j_isub (pc := 93) (v := v_105) C dX11_cutAll_93 ev_105 ?_
                refine j_bipush (pc := 94) (v := 8) C dX11_cutAll_94 (by decide) ?_
                refine j_icmp_ge (pc := 96) (tgt := 119) C dX11_cutAll_96 (by decide) (fun c_106 => ?_) (fun c_106 => ?_)
                · skip
                  have el_8 : (8 : Int32).toInt = 8 := rfl
                  rw [i_le] at c_106
                  refine j_lload (pc := 119) C dX11_cutAll_119 0 rfl ?_
                  refine j_lstore (pc := 121) (lv' := [(5, .long 0), (4, .int x1_2), (3, .int v_5), (2, .int x1_2), (1, .int x1_1), (0, .ref m0)]) C dX11_cutAll_121 (by decide) rfl ?_
                  obtain ⟨v_107, ev_107⟩ : ∃ z : Int32, x1_2 + 1 = z := ⟨_, rfl⟩
                  have el_1 : (1 : Int32).toInt = 1 := rfl
                  have hv_107 : v_107.toInt = x1_2.toInt + (1 : Int32).toInt := by rw [← ev_107]; exact fb_addI (by omega) (by omega)
                  refine j_iinc (pc := 123) (v := v_107) (lv' := [(2, .int v_107), (5, .long 0), (4, .int x1_2), (3, .int v_5), (1, .int x1_1), (0, .ref m0)]) C dX11_cutAll_123 3 rfl ev_107 (by decide) rfl ?_
                  refine j_goto (pc := 126) (tgt := 70) C dX11_cutAll_126 (by decide) ?_
                  have loop_108 : ∀ (k_108 : Nat) (x108_2 : Int32) (x108_5 : Int64), (1 ≤ (x108_2).toInt ∧ (x108_2).toInt ≤ 1000) → (x1_2.toInt < x108_2.toInt ∧ x108_2.toInt ≤ (m_taped).toInt) → (∀ j : Nat, x1_2.toInt ≤ (j : Int) → (j : Int) < x108_2.toInt → j < (m_taped).toInt.toNat ∧ isR 97 122 (m_tape j) = true) → (x108_5 = e37 m_tape (x1_2.toInt).toNat (min (x108_2.toInt - x1_2.toInt) 8).toNat) → (1000 - x108_2.toInt).toNat < k_108 → J p l e ({ frames := 2, cells := 0, slots := 0, locals := 40 } : Room) s m args below meth c D A 7 0 0 (QX below D (TY cyC cyI cyJ cyZ cyO) A (fun u => none) (fun u => (Iv 1002 (0) (1000) (u.2.2.1 1)) ∧ (eN (u.2.2.1 0) ≤ 1000) ∧ (RWS (u.2.2.1 0) (u.2.2.1 1) (u.2.2.2 0) (TKS m_tape (m_taped).toInt.toNat)) ∧ (((u.2.2.1 1) 0).toInt = ((tP m_tape (m_taped).toInt.toNat 0 : Nat) : Int))) (fun u => [(m0, .inr (11, [.int m_thrown, .ref mtape, .int 0, .int m_taped, .ref msort, .ref mplace, .ref mvalue, .int 0, .int 0, .ref mwords, .ref mtold, .ref mop, .ref marg, .int m_codes, .ref mnames, .ref mhasHabit, .int m_isNew, .ref mfactWords, .ref mfacts, .ref mpile, .ref mstates, .ref misMarked, .int m_inShelf, .int m_inStack, .int m_inPlace, .ref mrow, .int m_rowMany, .ref mthr, .ref mmays, .ref mtall, .ref mweights, .ref mrowOfWare, .ref mneededOf, .int m_goShelf, .int m_goStack, .int m_goLeft, .ref mtried, .ref mbestRow, .int m_bestCost, .int m_bestMany, .int m_bestShelf, .int m_bestSet, .ref mdigits])), (mtape, .inl (cyI, 1000, .inl m_tape)), (msort, .inl (cyI, 1002, .inl (u.2.2.1 0))), (mplace, .inl (cyI, 1002, .inl (u.2.2.1 1))), (mvalue, .inl (cyJ, 1002, .inr (.inl (u.2.2.2 0))))]) args s 0 0) [(m0, .inr (11, [.int m_thrown, .ref mtape, .int 0, .int m_taped, .ref msort, .ref mplace, .ref mvalue, .int m_at, .int m_fault, .ref mwords, .ref mtold, .ref mop, .ref marg, .int m_codes, .ref mnames, .ref mhasHabit, .int m_isNew, .ref mfactWords, .ref mfacts, .ref mpile, .ref mstates, .ref misMarked, .int m_inShelf, .int m_inStack, .int m_inPlace, .ref mrow, .int m_rowMany, .ref mthr, .ref mmays, .ref mtall, .ref mweights, .ref mrowOfWare, .ref mneededOf, .int m_goShelf, .int m_goStack, .int m_goLeft, .ref mtried, .ref mbestRow, .int m_bestCost, .int m_bestMany, .int m_bestShelf, .int m_bestSet, .ref mdigits])), (mtape, .inl (cyI, 1000, .inl m_tape)), (msort, .inl (cyI, 1002, .inl g1_msort)), (mplace, .inl (cyI, 1002, .inl f_9)), (mvalue, .inl (cyJ, 1002, .inr (.inl g1_mvalue)))] 70 [(2, .int x108_2), (5, .long x108_5), (4, .int x1_2), (3, .int v_5), (1, .int x1_1), (0, .ref m0)] [] := by
                    intro k_108
                    induction k_108 with
                    | zero =>
                      intro x108_2 x108_5 hi_108_0 hr_108 hq_108_0 hq_108_1 hm_108
                      exact absurd hm_108 (Nat.not_lt_zero _)
                    | succ k_108 ih_108 =>
                      intro x108_2 x108_5 hi_108_0 hr_108 hq_108_0 hq_108_1 hm_108
                      refine j_iload_n (pc := 70) C dX11_cutAll_70 rfl 0 rfl ?_
                      refine j_aload_n (pc := 71) C dX11_cutAll_71 rfl 5 rfl ?_
                      refine j_get (pc := 72) (ci := 11) (v := .int m_taped) C inw_11 0 rfl rfl 3 (by decide) wd_634 rfl rfl dX11_cutAll_72 ?_
                      refine j_icmp_ge (pc := 75) (tgt := 129) C dX11_cutAll_75 (by decide) (fun c_109 => ?_) (fun c_109 => ?_)
                      · skip
                        rw [i_le] at c_109
                        refine j_aload_n (pc := 129) C dX11_cutAll_129 rfl 5 rfl ?_
                        refine j_get (pc := 130) (ci := 11) (v := .ref msort) C inw_11 0 rfl rfl 4 (by decide) wd_635 rfl rfl dX11_cutAll_130 ?_
                        refine j_iload_n (pc := 133) C dX11_cutAll_133 rfl 4 rfl ?_
                        refine j_iload_n (pc := 134) C dX11_cutAll_134 rfl 0 rfl ?_
                        refine j_iload (pc := 135) C dX11_cutAll_135 2 rfl ?_
                        obtain ⟨v_110, ev_110⟩ : ∃ z : Int32, x108_2 - x1_2 = z := ⟨_, rfl⟩
                        have hv_110 : v_110.toInt = x108_2.toInt - x1_2.toInt := by rw [← ev_110]; exact fb_subI (by omega) (by omega)
                        refine j_isub (pc := 137) (v := v_110) C dX11_cutAll_137 ev_110 ?_
                        refine j_bipush (pc := 138) (v := 8) C dX11_cutAll_138 (by decide) ?_
                        refine j_icmp_le (pc := 140) (tgt := 147) C dX11_cutAll_140 (by decide) (fun c_111 => ?_) (fun c_111 => ?_)
                        · skip
                          have el_8 : (8 : Int32).toInt = 8 := rfl
                          rw [i_le] at c_111
                          refine j_iconst (pc := 147) (v := 1) C dX11_cutAll_147 (by decide) ?_
                          obtain ⟨f_112, ef_112⟩ : ∃ z, z = upd g1_msort (x1_1).toInt.toNat 1 := ⟨_, rfl⟩
                          refine j_iast (pc := 148) (k := (x1_1).toInt.toNat) (ws' := [(m0, .inr (11, [.int m_thrown, .ref mtape, .int 0, .int m_taped, .ref msort, .ref mplace, .ref mvalue, .int m_at, .int m_fault, .ref mwords, .ref mtold, .ref mop, .ref marg, .int m_codes, .ref mnames, .ref mhasHabit, .int m_isNew, .ref mfactWords, .ref mfacts, .ref mpile, .ref mstates, .ref misMarked, .int m_inShelf, .int m_inStack, .int m_inPlace, .ref mrow, .int m_rowMany, .ref mthr, .ref mmays, .ref mtall, .ref mweights, .ref mrowOfWare, .ref mneededOf, .int m_goShelf, .int m_goStack, .int m_goLeft, .ref mtried, .ref mbestRow, .int m_bestCost, .int m_bestMany, .int m_bestShelf, .int m_bestSet, .ref mdigits])), (mtape, .inl (cyI, 1000, .inl m_tape)), (msort, .inl (cyI, 1002, .inl f_112)), (mplace, .inl (cyI, 1002, .inl f_9)), (mvalue, .inl (cyJ, 1002, .inr (.inl g1_mvalue)))]) C 2 1 rfl rfl (i_nn hi_1_1.1) rfl (i_lt_n hi_1_1.1 (Int.lt_of_le_of_lt hi_1_1.2 (by decide))) dX11_cutAll_148 (by rw [ef_112]; rfl) ?_
                          refine j_goto (pc := 149) (tgt := 265) C dX11_cutAll_149 (by decide) ?_
                          refine j_aload_n (pc := 265) C dX11_cutAll_265 rfl 5 rfl ?_
                          refine j_get (pc := 266) (ci := 11) (v := .ref mvalue) C inw_11 0 rfl rfl 6 (by decide) wd_645 rfl rfl dX11_cutAll_266 ?_
                          refine j_iload_n (pc := 269) C dX11_cutAll_269 rfl 4 rfl ?_
                          refine j_lload (pc := 270) C dX11_cutAll_270 1 rfl ?_
                          obtain ⟨f_113, ef_113⟩ : ∃ z, z = vp_updL g1_mvalue (x1_1).toInt.toNat x108_5 := ⟨_, rfl⟩
                          refine j_last (pc := 272) (k := (x1_1).toInt.toNat) (ws' := [(m0, .inr (11, [.int m_thrown, .ref mtape, .int 0, .int m_taped, .ref msort, .ref mplace, .ref mvalue, .int m_at, .int m_fault, .ref mwords, .ref mtold, .ref mop, .ref marg, .int m_codes, .ref mnames, .ref mhasHabit, .int m_isNew, .ref mfactWords, .ref mfacts, .ref mpile, .ref mstates, .ref misMarked, .int m_inShelf, .int m_inStack, .int m_inPlace, .ref mrow, .int m_rowMany, .ref mthr, .ref mmays, .ref mtall, .ref mweights, .ref mrowOfWare, .ref mneededOf, .int m_goShelf, .int m_goStack, .int m_goLeft, .ref mtried, .ref mbestRow, .int m_bestCost, .int m_bestMany, .int m_bestShelf, .int m_bestSet, .ref mdigits])), (mtape, .inl (cyI, 1000, .inl m_tape)), (msort, .inl (cyI, 1002, .inl f_112)), (mplace, .inl (cyI, 1002, .inl f_9)), (mvalue, .inl (cyJ, 1002, .inr (.inl f_113)))]) C 4 2 rfl rfl (i_nn hi_1_1.1) rfl (i_lt_n hi_1_1.1 (Int.lt_of_le_of_lt hi_1_1.2 (by decide))) dX11_cutAll_272 (by rw [ef_113]; rfl) ?_
                          obtain ⟨v_114, ev_114⟩ : ∃ z : Int32, x1_1 + 1 = z := ⟨_, rfl⟩
                          have el_1 : (1 : Int32).toInt = 1 := rfl
                          have hv_114 : v_114.toInt = x1_1.toInt + (1 : Int32).toInt := by rw [← ev_114]; exact fb_addI (by omega) (by omega)
                          refine j_iinc (pc := 273) (v := v_114) (lv' := [(1, .int v_114), (2, .int x108_2), (5, .long x108_5), (4, .int x1_2), (3, .int v_5), (0, .ref m0)]) C dX11_cutAll_273 4 rfl ev_114 (by decide) rfl ?_
                          refine j_goto (pc := 276) (tgt := 17) C dX11_cutAll_276 (by decide) ?_
                          have el_10 : (10 : Int32).toInt = 10 := rfl
                          have el_32 : (32 : Int32).toInt = 32 := rfl
                          have el_97 : (97 : Int32).toInt = 97 := rfl
                          have el_122 : (122 : Int32).toInt = 122 := rfl
                          have el_48 : (48 : Int32).toInt = 48 := rfl
                          have el_57 : (57 : Int32).toInt = 57 := rfl
                          have el_1 : (1 : Int32).toInt = 1 := rfl
                          exact j_lv [1, 0, 5] rfl (ih_1 x108_2 v_114 f_112 f_9 f_113 (by omega) (by omega) hf_9 (by omega) (CA.word hq_1_0 (by omega) (by omega) (by omega) (fun z => by have z9 := of_decide_eq_true z; rw [ev_5] at z9; omega) ef_112 ef_9 rfl ef_113 ⟨by omega, fun j j1 j2 => hq_108_0 j (by omega) (by omega), fun z => absurd z.1 (by omega)⟩ (by omega) (by omega) hq_108_1 (by omega)) (by omega))
                        · skip
                          have el_8 : (8 : Int32).toInt = 8 := rfl
                          rw [i_le] at c_111
                          refine j_iconst (pc := 143) (v := 4) C dX11_cutAll_143 (by decide) ?_
                          refine j_goto (pc := 144) (tgt := 148) C dX11_cutAll_144 (by decide) ?_
                          obtain ⟨f_115, ef_115⟩ : ∃ z, z = upd g1_msort (x1_1).toInt.toNat 4 := ⟨_, rfl⟩
                          refine j_iast (pc := 148) (k := (x1_1).toInt.toNat) (ws' := [(m0, .inr (11, [.int m_thrown, .ref mtape, .int 0, .int m_taped, .ref msort, .ref mplace, .ref mvalue, .int m_at, .int m_fault, .ref mwords, .ref mtold, .ref mop, .ref marg, .int m_codes, .ref mnames, .ref mhasHabit, .int m_isNew, .ref mfactWords, .ref mfacts, .ref mpile, .ref mstates, .ref misMarked, .int m_inShelf, .int m_inStack, .int m_inPlace, .ref mrow, .int m_rowMany, .ref mthr, .ref mmays, .ref mtall, .ref mweights, .ref mrowOfWare, .ref mneededOf, .int m_goShelf, .int m_goStack, .int m_goLeft, .ref mtried, .ref mbestRow, .int m_bestCost, .int m_bestMany, .int m_bestShelf, .int m_bestSet, .ref mdigits])), (mtape, .inl (cyI, 1000, .inl m_tape)), (msort, .inl (cyI, 1002, .inl f_115)), (mplace, .inl (cyI, 1002, .inl f_9)), (mvalue, .inl (cyJ, 1002, .inr (.inl g1_mvalue)))]) C 2 1 rfl rfl (i_nn hi_1_1.1) rfl (i_lt_n hi_1_1.1 (Int.lt_of_le_of_lt hi_1_1.2 (by decide))) dX11_cutAll_148 (by rw [ef_115]; rfl) ?_
                          refine j_goto (pc := 149) (tgt := 265) C dX11_cutAll_149 (by decide) ?_
                          refine j_aload_n (pc := 265) C dX11_cutAll_265 rfl 5 rfl ?_
                          refine j_get (pc := 266) (ci := 11) (v := .ref mvalue) C inw_11 0 rfl rfl 6 (by decide) wd_645 rfl rfl dX11_cutAll_266 ?_
                          refine j_iload_n (pc := 269) C dX11_cutAll_269 rfl 4 rfl ?_
                          refine j_lload (pc := 270) C dX11_cutAll_270 1 rfl ?_
                          obtain ⟨f_116, ef_116⟩ : ∃ z, z = vp_updL g1_mvalue (x1_1).toInt.toNat x108_5 := ⟨_, rfl⟩
                          refine j_last (pc := 272) (k := (x1_1).toInt.toNat) (ws' := [(m0, .inr (11, [.int m_thrown, .ref mtape, .int 0, .int m_taped, .ref msort, .ref mplace, .ref mvalue, .int m_at, .int m_fault, .ref mwords, .ref mtold, .ref mop, .ref marg, .int m_codes, .ref mnames, .ref mhasHabit, .int m_isNew, .ref mfactWords, .ref mfacts, .ref mpile, .ref mstates, .ref misMarked, .int m_inShelf, .int m_inStack, .int m_inPlace, .ref mrow, .int m_rowMany, .ref mthr, .ref mmays, .ref mtall, .ref mweights, .ref mrowOfWare, .ref mneededOf, .int m_goShelf, .int m_goStack, .int m_goLeft, .ref mtried, .ref mbestRow, .int m_bestCost, .int m_bestMany, .int m_bestShelf, .int m_bestSet, .ref mdigits])), (mtape, .inl (cyI, 1000, .inl m_tape)), (msort, .inl (cyI, 1002, .inl f_115)), (mplace, .inl (cyI, 1002, .inl f_9)), (mvalue, .inl (cyJ, 1002, .inr (.inl f_116)))]) C 4 2 rfl rfl (i_nn hi_1_1.1) rfl (i_lt_n hi_1_1.1 (Int.lt_of_le_of_lt hi_1_1.2 (by decide))) dX11_cutAll_272 (by rw [ef_116]; rfl) ?_
                          obtain ⟨v_117, ev_117⟩ : ∃ z : Int32, x1_1 + 1 = z := ⟨_, rfl⟩
                          have el_1 : (1 : Int32).toInt = 1 := rfl
                          have hv_117 : v_117.toInt = x1_1.toInt + (1 : Int32).toInt := by rw [← ev_117]; exact fb_addI (by omega) (by omega)
                          refine j_iinc (pc := 273) (v := v_117) (lv' := [(1, .int v_117), (2, .int x108_2), (5, .long x108_5), (4, .int x1_2), (3, .int v_5), (0, .ref m0)]) C dX11_cutAll_273 4 rfl ev_117 (by decide) rfl ?_
                          refine j_goto (pc := 276) (tgt := 17) C dX11_cutAll_276 (by decide) ?_
                          have el_10 : (10 : Int32).toInt = 10 := rfl
                          have el_32 : (32 : Int32).toInt = 32 := rfl
                          have el_97 : (97 : Int32).toInt = 97 := rfl
                          have el_122 : (122 : Int32).toInt = 122 := rfl
                          have el_48 : (48 : Int32).toInt = 48 := rfl
                          have el_57 : (57 : Int32).toInt = 57 := rfl
                          have el_4 : (4 : Int32).toInt = 4 := rfl
                          exact j_lv [1, 0, 5] rfl (ih_1 x108_2 v_117 f_115 f_9 f_116 (by omega) (by omega) hf_9 (by omega) (CA.word hq_1_0 (by omega) (by omega) (by omega) (fun z => by have z9 := of_decide_eq_true z; rw [ev_5] at z9; omega) ef_115 ef_9 rfl ef_116 ⟨by omega, fun j j1 j2 => hq_108_0 j (by omega) (by omega), fun z => absurd z.1 (by omega)⟩ (by omega) (by omega) hq_108_1 (by omega)) (by omega))
                      · skip
                        rw [i_le] at c_109
                        refine j_aload_n (pc := 78) C dX11_cutAll_78 rfl 5 rfl ?_
                        refine j_get (pc := 79) (ci := 11) (v := .ref mtape) C inw_11 0 rfl rfl 1 (by decide) wd_628 rfl rfl dX11_cutAll_79 ?_
                        refine j_iload_n (pc := 82) C dX11_cutAll_82 rfl 0 rfl ?_
                        obtain ⟨v_118, ev_118⟩ : ∃ z, m_tape (x108_2).toInt.toNat = z := ⟨_, rfl⟩
                        have env_118 : (m_tape (x108_2).toInt.toNat).toInt = v_118.toInt := by rw [ev_118]
                        refine j_iald (pc := 83) (v := v_118) (k := (x108_2).toInt.toNat) C 1 1 rfl rfl (i_nn (Int.le_trans (by decide) hi_108_0.1)) rfl (i_lt_n (Int.le_trans (by decide) hi_108_0.1) (by omega)) ev_118 dX11_cutAll_83 ?_
                        refine j_callS (pc := 84) (As := [.int v_118]) (rest := []) (wr := [(m0, .inr (11, [.int m_thrown, .ref mtape, .int 0, .int m_taped, .ref msort, .ref mplace, .ref mvalue, .int m_at, .int m_fault, .ref mwords, .ref mtold, .ref mop, .ref marg, .int m_codes, .ref mnames, .ref mhasHabit, .int m_isNew, .ref mfactWords, .ref mfacts, .ref mpile, .ref mstates, .ref misMarked, .int m_inShelf, .int m_inStack, .int m_inPlace, .ref mrow, .int m_rowMany, .ref mthr, .ref mmays, .ref mtall, .ref mweights, .ref mrowOfWare, .ref mneededOf, .int m_goShelf, .int m_goStack, .int m_goLeft, .ref mtried, .ref mbestRow, .int m_bestCost, .int m_bestMany, .int m_bestShelf, .int m_bestSet, .ref mdigits])), (mtape, .inl (cyI, 1000, .inl m_tape)), (msort, .inl (cyI, 1002, .inl g1_msort)), (mplace, .inl (cyI, 1002, .inl f_9)), (mvalue, .inl (cyJ, 1002, .inr (.inl g1_mvalue)))]) C (c_X11_isLetter_f l D cyC cyI cyJ cyZ cyO v_118) wd_623 wd_624 wd_625 wd_626 ⟨by decide, by decide, rfl⟩ rfl ⟨rfl, rfl, by decide, by decide⟩ ⟨by decide, by decide⟩ [] [0, 1, 2, 3, 4] rfl rfl ⟨by decide, by decide, by decide⟩ rfl (Nat.le_of_ble_eq_true rfl) dX11_cutAll_84 (fun u_119 hw_120 => ?_)
                        refine j_eq (ws2 := [(m0, .inr (11, [.int m_thrown, .ref mtape, .int 0, .int m_taped, .ref msort, .ref mplace, .ref mvalue, .int m_at, .int m_fault, .ref mwords, .ref mtold, .ref mop, .ref marg, .int m_codes, .ref mnames, .ref mhasHabit, .int m_isNew, .ref mfactWords, .ref mfacts, .ref mpile, .ref mstates, .ref misMarked, .int m_inShelf, .int m_inStack, .int m_inPlace, .ref mrow, .int m_rowMany, .ref mthr, .ref mmays, .ref mtall, .ref mweights, .ref mrowOfWare, .ref mneededOf, .int m_goShelf, .int m_goStack, .int m_goLeft, .ref mtried, .ref mbestRow, .int m_bestCost, .int m_bestMany, .int m_bestShelf, .int m_bestSet, .ref mdigits])), (mtape, .inl (cyI, 1000, .inl m_tape)), (msort, .inl (cyI, 1002, .inl g1_msort)), (mplace, .inl (cyI, 1002, .inl f_9)), (mvalue, .inl (cyJ, 1002, .inr (.inl g1_mvalue)))]) (pc2 := 87) (lv2 := [(2, .int x108_2), (5, .long x108_5), (4, .int x1_2), (3, .int v_5), (1, .int x1_1), (0, .ref m0)]) (st2 := [.int (u_119.2.1 0)]) rfl rfl rfl rfl ?_
                        obtain ⟨hw_120_0, hw_120_1, hw_120_2⟩ := hw_120
                        refine j_if_eq (pc := 87) (tgt := 129) C dX11_cutAll_87 (by decide) (fun c_121 => ?_) (fun c_121 => ?_)
                        · skip
                          have el_0 : (0 : Int32).toInt = 0 := rfl
                          rw [i_eq] at c_121
                          refine j_aload_n (pc := 129) C dX11_cutAll_129 rfl 5 rfl ?_
                          refine j_get (pc := 130) (ci := 11) (v := .ref msort) C inw_11 0 rfl rfl 4 (by decide) wd_635 rfl rfl dX11_cutAll_130 ?_
                          refine j_iload_n (pc := 133) C dX11_cutAll_133 rfl 4 rfl ?_
                          refine j_iload_n (pc := 134) C dX11_cutAll_134 rfl 0 rfl ?_
                          refine j_iload (pc := 135) C dX11_cutAll_135 2 rfl ?_
                          obtain ⟨v_122, ev_122⟩ : ∃ z : Int32, x108_2 - x1_2 = z := ⟨_, rfl⟩
                          have hv_122 : v_122.toInt = x108_2.toInt - x1_2.toInt := by rw [← ev_122]; exact fb_subI (by omega) (by omega)
                          refine j_isub (pc := 137) (v := v_122) C dX11_cutAll_137 ev_122 ?_
                          refine j_bipush (pc := 138) (v := 8) C dX11_cutAll_138 (by decide) ?_
                          refine j_icmp_le (pc := 140) (tgt := 147) C dX11_cutAll_140 (by decide) (fun c_123 => ?_) (fun c_123 => ?_)
                          · skip
                            have el_8 : (8 : Int32).toInt = 8 := rfl
                            rw [i_le] at c_123
                            refine j_iconst (pc := 147) (v := 1) C dX11_cutAll_147 (by decide) ?_
                            obtain ⟨f_124, ef_124⟩ : ∃ z, z = upd g1_msort (x1_1).toInt.toNat 1 := ⟨_, rfl⟩
                            refine j_iast (pc := 148) (k := (x1_1).toInt.toNat) (ws' := [(m0, .inr (11, [.int m_thrown, .ref mtape, .int 0, .int m_taped, .ref msort, .ref mplace, .ref mvalue, .int m_at, .int m_fault, .ref mwords, .ref mtold, .ref mop, .ref marg, .int m_codes, .ref mnames, .ref mhasHabit, .int m_isNew, .ref mfactWords, .ref mfacts, .ref mpile, .ref mstates, .ref misMarked, .int m_inShelf, .int m_inStack, .int m_inPlace, .ref mrow, .int m_rowMany, .ref mthr, .ref mmays, .ref mtall, .ref mweights, .ref mrowOfWare, .ref mneededOf, .int m_goShelf, .int m_goStack, .int m_goLeft, .ref mtried, .ref mbestRow, .int m_bestCost, .int m_bestMany, .int m_bestShelf, .int m_bestSet, .ref mdigits])), (mtape, .inl (cyI, 1000, .inl m_tape)), (msort, .inl (cyI, 1002, .inl f_124)), (mplace, .inl (cyI, 1002, .inl f_9)), (mvalue, .inl (cyJ, 1002, .inr (.inl g1_mvalue)))]) C 2 1 rfl rfl (i_nn hi_1_1.1) rfl (i_lt_n hi_1_1.1 (Int.lt_of_le_of_lt hi_1_1.2 (by decide))) dX11_cutAll_148 (by rw [ef_124]; rfl) ?_
                            refine j_goto (pc := 149) (tgt := 265) C dX11_cutAll_149 (by decide) ?_
                            refine j_aload_n (pc := 265) C dX11_cutAll_265 rfl 5 rfl ?_
                            refine j_get (pc := 266) (ci := 11) (v := .ref mvalue) C inw_11 0 rfl rfl 6 (by decide) wd_645 rfl rfl dX11_cutAll_266 ?_
                            refine j_iload_n (pc := 269) C dX11_cutAll_269 rfl 4 rfl ?_
                            refine j_lload (pc := 270) C dX11_cutAll_270 1 rfl ?_
                            obtain ⟨f_125, ef_125⟩ : ∃ z, z = vp_updL g1_mvalue (x1_1).toInt.toNat x108_5 := ⟨_, rfl⟩
                            refine j_last (pc := 272) (k := (x1_1).toInt.toNat) (ws' := [(m0, .inr (11, [.int m_thrown, .ref mtape, .int 0, .int m_taped, .ref msort, .ref mplace, .ref mvalue, .int m_at, .int m_fault, .ref mwords, .ref mtold, .ref mop, .ref marg, .int m_codes, .ref mnames, .ref mhasHabit, .int m_isNew, .ref mfactWords, .ref mfacts, .ref mpile, .ref mstates, .ref misMarked, .int m_inShelf, .int m_inStack, .int m_inPlace, .ref mrow, .int m_rowMany, .ref mthr, .ref mmays, .ref mtall, .ref mweights, .ref mrowOfWare, .ref mneededOf, .int m_goShelf, .int m_goStack, .int m_goLeft, .ref mtried, .ref mbestRow, .int m_bestCost, .int m_bestMany, .int m_bestShelf, .int m_bestSet, .ref mdigits])), (mtape, .inl (cyI, 1000, .inl m_tape)), (msort, .inl (cyI, 1002, .inl f_124)), (mplace, .inl (cyI, 1002, .inl f_9)), (mvalue, .inl (cyJ, 1002, .inr (.inl f_125)))]) C 4 2 rfl rfl (i_nn hi_1_1.1) rfl (i_lt_n hi_1_1.1 (Int.lt_of_le_of_lt hi_1_1.2 (by decide))) dX11_cutAll_272 (by rw [ef_125]; rfl) ?_
                            obtain ⟨v_126, ev_126⟩ : ∃ z : Int32, x1_1 + 1 = z := ⟨_, rfl⟩
                            have el_1 : (1 : Int32).toInt = 1 := rfl
                            have hv_126 : v_126.toInt = x1_1.toInt + (1 : Int32).toInt := by rw [← ev_126]; exact fb_addI (by omega) (by omega)
                            refine j_iinc (pc := 273) (v := v_126) (lv' := [(1, .int v_126), (2, .int x108_2), (5, .long x108_5), (4, .int x1_2), (3, .int v_5), (0, .ref m0)]) C dX11_cutAll_273 4 rfl ev_126 (by decide) rfl ?_
                            refine j_goto (pc := 276) (tgt := 17) C dX11_cutAll_276 (by decide) ?_
                            have el_10 : (10 : Int32).toInt = 10 := rfl
                            have el_32 : (32 : Int32).toInt = 32 := rfl
                            have el_97 : (97 : Int32).toInt = 97 := rfl
                            have el_122 : (122 : Int32).toInt = 122 := rfl
                            have el_48 : (48 : Int32).toInt = 48 := rfl
                            have el_57 : (57 : Int32).toInt = 57 := rfl
                            have el_1 : (1 : Int32).toInt = 1 := rfl
                            exact j_lv [1, 0, 5] rfl (ih_1 x108_2 v_126 f_124 f_9 f_125 (by omega) (by omega) hf_9 (by omega) (CA.word hq_1_0 (by omega) (by omega) (by omega) (fun z => by have z9 := of_decide_eq_true z; rw [ev_5] at z9; omega) ef_124 ef_9 rfl ef_125 ⟨by omega, fun j j1 j2 => hq_108_0 j (by omega) (by omega), fun z => by (have z9 := isR_iff.mp z.2; rw [ev_118] at z9; omega)⟩ (by omega) (by omega) hq_108_1 (by omega)) (by omega))
                          · skip
                            have el_8 : (8 : Int32).toInt = 8 := rfl
                            rw [i_le] at c_123
                            refine j_iconst (pc := 143) (v := 4) C dX11_cutAll_143 (by decide) ?_
                            refine j_goto (pc := 144) (tgt := 148) C dX11_cutAll_144 (by decide) ?_
                            obtain ⟨f_127, ef_127⟩ : ∃ z, z = upd g1_msort (x1_1).toInt.toNat 4 := ⟨_, rfl⟩
                            refine j_iast (pc := 148) (k := (x1_1).toInt.toNat) (ws' := [(m0, .inr (11, [.int m_thrown, .ref mtape, .int 0, .int m_taped, .ref msort, .ref mplace, .ref mvalue, .int m_at, .int m_fault, .ref mwords, .ref mtold, .ref mop, .ref marg, .int m_codes, .ref mnames, .ref mhasHabit, .int m_isNew, .ref mfactWords, .ref mfacts, .ref mpile, .ref mstates, .ref misMarked, .int m_inShelf, .int m_inStack, .int m_inPlace, .ref mrow, .int m_rowMany, .ref mthr, .ref mmays, .ref mtall, .ref mweights, .ref mrowOfWare, .ref mneededOf, .int m_goShelf, .int m_goStack, .int m_goLeft, .ref mtried, .ref mbestRow, .int m_bestCost, .int m_bestMany, .int m_bestShelf, .int m_bestSet, .ref mdigits])), (mtape, .inl (cyI, 1000, .inl m_tape)), (msort, .inl (cyI, 1002, .inl f_127)), (mplace, .inl (cyI, 1002, .inl f_9)), (mvalue, .inl (cyJ, 1002, .inr (.inl g1_mvalue)))]) C 2 1 rfl rfl (i_nn hi_1_1.1) rfl (i_lt_n hi_1_1.1 (Int.lt_of_le_of_lt hi_1_1.2 (by decide))) dX11_cutAll_148 (by rw [ef_127]; rfl) ?_
                            refine j_goto (pc := 149) (tgt := 265) C dX11_cutAll_149 (by decide) ?_
                            refine j_aload_n (pc := 265) C dX11_cutAll_265 rfl 5 rfl ?_
                            refine j_get (pc := 266) (ci := 11) (v := .ref mvalue) C inw_11 0 rfl rfl 6 (by decide) wd_645 rfl rfl dX11_cutAll_266 ?_
                            refine j_iload_n (pc := 269) C dX11_cutAll_269 rfl 4 rfl ?_
                            refine j_lload (pc := 270) C dX11_cutAll_270 1 rfl ?_
                            obtain ⟨f_128, ef_128⟩ : ∃ z, z = vp_updL g1_mvalue (x1_1).toInt.toNat x108_5 := ⟨_, rfl⟩
                            refine j_last (pc := 272) (k := (x1_1).toInt.toNat) (ws' := [(m0, .inr (11, [.int m_thrown, .ref mtape, .int 0, .int m_taped, .ref msort, .ref mplace, .ref mvalue, .int m_at, .int m_fault, .ref mwords, .ref mtold, .ref mop, .ref marg, .int m_codes, .ref mnames, .ref mhasHabit, .int m_isNew, .ref mfactWords, .ref mfacts, .ref mpile, .ref mstates, .ref misMarked, .int m_inShelf, .int m_inStack, .int m_inPlace, .ref mrow, .int m_rowMany, .ref mthr, .ref mmays, .ref mtall, .ref mweights, .ref mrowOfWare, .ref mneededOf, .int m_goShelf, .int m_goStack, .int m_goLeft, .ref mtried, .ref mbestRow, .int m_bestCost, .int m_bestMany, .int m_bestShelf, .int m_bestSet, .ref mdigits])), (mtape, .inl (cyI, 1000, .inl m_tape)), (msort, .inl (cyI, 1002, .inl f_127)), (mplace, .inl (cyI, 1002, .inl f_9)), (mvalue, .inl (cyJ, 1002, .inr (.inl f_128)))]) C 4 2 rfl rfl (i_nn hi_1_1.1) rfl (i_lt_n hi_1_1.1 (Int.lt_of_le_of_lt hi_1_1.2 (by decide))) dX11_cutAll_272 (by rw [ef_128]; rfl) ?_
                            obtain ⟨v_129, ev_129⟩ : ∃ z : Int32, x1_1 + 1 = z := ⟨_, rfl⟩
                            have el_1 : (1 : Int32).toInt = 1 := rfl
                            have hv_129 : v_129.toInt = x1_1.toInt + (1 : Int32).toInt := by rw [← ev_129]; exact fb_addI (by omega) (by omega)
                            refine j_iinc (pc := 273) (v := v_129) (lv' := [(1, .int v_129), (2, .int x108_2), (5, .long x108_5), (4, .int x1_2), (3, .int v_5), (0, .ref m0)]) C dX11_cutAll_273 4 rfl ev_129 (by decide) rfl ?_
                            refine j_goto (pc := 276) (tgt := 17) C dX11_cutAll_276 (by decide) ?_
                            have el_10 : (10 : Int32).toInt = 10 := rfl
                            have el_32 : (32 : Int32).toInt = 32 := rfl
                            have el_97 : (97 : Int32).toInt = 97 := rfl
                            have el_122 : (122 : Int32).toInt = 122 := rfl
                            have el_48 : (48 : Int32).toInt = 48 := rfl
                            have el_57 : (57 : Int32).toInt = 57 := rfl
                            have el_4 : (4 : Int32).toInt = 4 := rfl
                            exact j_lv [1, 0, 5] rfl (ih_1 x108_2 v_129 f_127 f_9 f_128 (by omega) (by omega) hf_9 (by omega) (CA.word hq_1_0 (by omega) (by omega) (by omega) (fun z => by have z9 := of_decide_eq_true z; rw [ev_5] at z9; omega) ef_127 ef_9 rfl ef_128 ⟨by omega, fun j j1 j2 => hq_108_0 j (by omega) (by omega), fun z => by (have z9 := isR_iff.mp z.2; rw [ev_118] at z9; omega)⟩ (by omega) (by omega) hq_108_1 (by omega)) (by omega))
                        · skip
                          have el_0 : (0 : Int32).toInt = 0 := rfl
                          rw [i_eq] at c_121
                          have k0c_121 : ((u_119.2.1 0)).toInt = 1 := by omega
                          refine j_iload_n (pc := 90) C dX11_cutAll_90 rfl 0 rfl ?_
                          refine j_iload (pc := 91) C dX11_cutAll_91 2 rfl ?_
                          obtain ⟨v_130, ev_130⟩ : ∃ z : Int32, x108_2 - x1_2 = z := ⟨_, rfl⟩
                          have hv_130 : v_130.toInt = x108_2.toInt - x1_2.toInt := by rw [← ev_130]; exact fb_subI (by omega) (by omega)
                          refine j_isub (pc := 93) (v := v_130) C dX11_cutAll_93 ev_130 ?_
                          refine j_bipush (pc := 94) (v := 8) C dX11_cutAll_94 (by decide) ?_
                          refine j_icmp_ge (pc := 96) (tgt := 119) C dX11_cutAll_96 (by decide) (fun c_131 => ?_) (fun c_131 => ?_)
                          · skip
                            have el_8 : (8 : Int32).toInt = 8 := rfl
                            rw [i_le] at c_131
                            refine j_lload (pc := 119) C dX11_cutAll_119 1 rfl ?_
                            refine j_lstore (pc := 121) (lv' := [(5, .long x108_5), (2, .int x108_2), (4, .int x1_2), (3, .int v_5), (1, .int x1_1), (0, .ref m0)]) C dX11_cutAll_121 (by decide) rfl ?_
                            obtain ⟨v_132, ev_132⟩ : ∃ z : Int32, x108_2 + 1 = z := ⟨_, rfl⟩
                            have el_1 : (1 : Int32).toInt = 1 := rfl
                            have hv_132 : v_132.toInt = x108_2.toInt + (1 : Int32).toInt := by rw [← ev_132]; exact fb_addI (by omega) (by omega)
                            refine j_iinc (pc := 123) (v := v_132) (lv' := [(2, .int v_132), (5, .long x108_5), (4, .int x1_2), (3, .int v_5), (1, .int x1_1), (0, .ref m0)]) C dX11_cutAll_123 1 rfl ev_132 (by decide) rfl ?_
                            refine j_goto (pc := 126) (tgt := 70) C dX11_cutAll_126 (by decide) ?_
                            have el_97 : (97 : Int32).toInt = 97 := rfl
                            have el_122 : (122 : Int32).toInt = 122 := rfl
                            exact j_lv [0, 1, 2, 3, 4, 5] rfl (ih_108 v_132 x108_5 (by omega) (by omega) (fun j j1 j2 => by rcases Int.lt_or_le (j : Int) (x108_2).toInt with q | q; (exact hq_108_0 j j1 q); (rw [show j = (x108_2).toInt.toNat from (by omega), ev_118]; exact ⟨by omega, isR_iff.mpr ⟨by omega, by omega⟩⟩)) (by rw [show (min ((v_132).toInt - (x1_2).toInt) 8).toNat = (min ((x108_2).toInt - (x1_2).toInt) 8).toNat from (by omega)]; exact hq_108_1) (by omega))
                          · skip
                            have el_8 : (8 : Int32).toInt = 8 := rfl
                            rw [i_le] at c_131
                            refine j_ldc2 (pc := 99) C wd_648 dX11_cutAll_99 ?_
                            refine j_lload (pc := 102) C dX11_cutAll_102 1 rfl ?_
                            refine j_lmul (pc := 104) C dX11_cutAll_104 rfl ?_
                            refine j_aload_n (pc := 105) C dX11_cutAll_105 rfl 5 rfl ?_
                            refine j_get (pc := 106) (ci := 11) (v := .ref mtape) C inw_11 0 rfl rfl 1 (by decide) wd_628 rfl rfl dX11_cutAll_106 ?_
                            refine j_iload_n (pc := 109) C dX11_cutAll_109 rfl 0 rfl ?_
                            refine j_iald (pc := 110) (v := v_118) (k := (x108_2).toInt.toNat) C 1 1 rfl rfl (i_nn (Int.le_trans (by decide) hi_108_0.1)) rfl (i_lt_n (Int.le_trans (by decide) hi_108_0.1) (by omega)) ev_118 dX11_cutAll_110 ?_
                            refine j_callS (pc := 111) (As := [.int v_118]) (rest := [.long (37 * x108_5)]) (wr := [(m0, .inr (11, [.int m_thrown, .ref mtape, .int 0, .int m_taped, .ref msort, .ref mplace, .ref mvalue, .int m_at, .int m_fault, .ref mwords, .ref mtold, .ref mop, .ref marg, .int m_codes, .ref mnames, .ref mhasHabit, .int m_isNew, .ref mfactWords, .ref mfacts, .ref mpile, .ref mstates, .ref misMarked, .int m_inShelf, .int m_inStack, .int m_inPlace, .ref mrow, .int m_rowMany, .ref mthr, .ref mmays, .ref mtall, .ref mweights, .ref mrowOfWare, .ref mneededOf, .int m_goShelf, .int m_goStack, .int m_goLeft, .ref mtried, .ref mbestRow, .int m_bestCost, .int m_bestMany, .int m_bestShelf, .int m_bestSet, .ref mdigits])), (mtape, .inl (cyI, 1000, .inl m_tape)), (msort, .inl (cyI, 1002, .inl g1_msort)), (mplace, .inl (cyI, 1002, .inl f_9)), (mvalue, .inl (cyJ, 1002, .inr (.inl g1_mvalue)))]) C (c_X11_rank_f l D cyC cyI cyJ cyZ cyO v_118 (by omega)) wd_649 wd_624 wd_650 wd_651 ⟨by decide, by decide, rfl⟩ rfl ⟨rfl, rfl, by decide, by decide⟩ ⟨by decide, by decide⟩ [] [0, 1, 2, 3, 4] rfl rfl ⟨by decide, by decide, by decide⟩ rfl (Nat.le_of_ble_eq_true rfl) dX11_cutAll_111 (fun u_133 hw_134 => ?_)
                            refine j_eq (ws2 := [(m0, .inr (11, [.int m_thrown, .ref mtape, .int 0, .int m_taped, .ref msort, .ref mplace, .ref mvalue, .int m_at, .int m_fault, .ref mwords, .ref mtold, .ref mop, .ref marg, .int m_codes, .ref mnames, .ref mhasHabit, .int m_isNew, .ref mfactWords, .ref mfacts, .ref mpile, .ref mstates, .ref misMarked, .int m_inShelf, .int m_inStack, .int m_inPlace, .ref mrow, .int m_rowMany, .ref mthr, .ref mmays, .ref mtall, .ref mweights, .ref mrowOfWare, .ref mneededOf, .int m_goShelf, .int m_goStack, .int m_goLeft, .ref mtried, .ref mbestRow, .int m_bestCost, .int m_bestMany, .int m_bestShelf, .int m_bestSet, .ref mdigits])), (mtape, .inl (cyI, 1000, .inl m_tape)), (msort, .inl (cyI, 1002, .inl g1_msort)), (mplace, .inl (cyI, 1002, .inl f_9)), (mvalue, .inl (cyJ, 1002, .inr (.inl g1_mvalue)))]) (pc2 := 114) (lv2 := [(2, .int x108_2), (5, .long x108_5), (4, .int x1_2), (3, .int v_5), (1, .int x1_1), (0, .ref m0)]) (st2 := [.int (u_133.2.1 0), .long (37 * x108_5)]) rfl rfl rfl rfl ?_
                            have hw_134_0 : (u_133.2.1 0) = v_118 - 96 := hw_134
                            refine j_i2l (pc := 114) C dX11_cutAll_114 rfl ?_
                            refine j_ladd (pc := 115) C dX11_cutAll_115 rfl ?_
                            refine j_goto (pc := 116) (tgt := 121) C dX11_cutAll_116 (by decide) ?_
                            refine j_lstore (pc := 121) (lv' := [(5, .long ((37 * x108_5) + ((u_133.2.1 0)).toInt64)), (2, .int x108_2), (4, .int x1_2), (3, .int v_5), (1, .int x1_1), (0, .ref m0)]) C dX11_cutAll_121 (by decide) rfl ?_
                            obtain ⟨v_135, ev_135⟩ : ∃ z : Int32, x108_2 + 1 = z := ⟨_, rfl⟩
                            have el_1 : (1 : Int32).toInt = 1 := rfl
                            have hv_135 : v_135.toInt = x108_2.toInt + (1 : Int32).toInt := by rw [← ev_135]; exact fb_addI (by omega) (by omega)
                            refine j_iinc (pc := 123) (v := v_135) (lv' := [(2, .int v_135), (5, .long ((37 * x108_5) + ((u_133.2.1 0)).toInt64)), (4, .int x1_2), (3, .int v_5), (1, .int x1_1), (0, .ref m0)]) C dX11_cutAll_123 1 rfl ev_135 (by decide) rfl ?_
                            refine j_goto (pc := 126) (tgt := 70) C dX11_cutAll_126 (by decide) ?_
                            have el_97 : (97 : Int32).toInt = 97 := rfl
                            have el_122 : (122 : Int32).toInt = 122 := rfl
                            exact j_lv [0, 1, 2, 3, 4, 5] rfl (ih_108 v_135 ((37 * x108_5) + ((u_133.2.1 0)).toInt64) (by omega) (by omega) (fun j j1 j2 => by rcases Int.lt_or_le (j : Int) (x108_2).toInt with q | q; (exact hq_108_0 j j1 q); (rw [show j = (x108_2).toInt.toNat from (by omega), ev_118]; exact ⟨by omega, isR_iff.mpr ⟨by omega, by omega⟩⟩)) (by rw [show (min ((v_135).toInt - (x1_2).toInt) 8).toNat = (min ((x108_2).toInt - (x1_2).toInt) 8).toNat + 1 from (by omega)]; show _ = 37 * e37 m_tape (x1_2).toInt.toNat (min ((x108_2).toInt - (x1_2).toInt) 8).toNat + (m_tape ((x1_2).toInt.toNat + (min ((x108_2).toInt - (x1_2).toInt) 8).toNat) - 96).toInt64; rw [show (x1_2).toInt.toNat + (min ((x108_2).toInt - (x1_2).toInt) 8).toNat = (x108_2).toInt.toNat from (by omega), ev_118, ← hq_108_1, ← hw_134_0]) (by omega))
                  have el_0 : (0 : Int32).toInt = 0 := rfl
                  have el_97 : (97 : Int32).toInt = 97 := rfl
                  have el_122 : (122 : Int32).toInt = 122 := rfl
                  exact j_lv [0, 1, 2, 3, 4, 5] rfl (loop_108 4096 v_107 0 (by omega) (by omega) (fun j j1 j2 => by (rw [show j = (x1_2).toInt.toNat from (by omega), ev_5]; exact ⟨by omega, isR_iff.mpr ⟨by omega, by omega⟩⟩)) (by exfalso; omega) (by omega))
                · skip
                  have el_8 : (8 : Int32).toInt = 8 := rfl
                  rw [i_le] at c_106
                  refine j_ldc2 (pc := 99) C wd_648 dX11_cutAll_99 ?_
                  refine j_lload (pc := 102) C dX11_cutAll_102 0 rfl ?_
                  refine j_lmul (pc := 104) C dX11_cutAll_104 rfl ?_
                  refine j_aload_n (pc := 105) C dX11_cutAll_105 rfl 5 rfl ?_
                  refine j_get (pc := 106) (ci := 11) (v := .ref mtape) C inw_11 0 rfl rfl 1 (by decide) wd_628 rfl rfl dX11_cutAll_106 ?_
                  refine j_iload_n (pc := 109) C dX11_cutAll_109 rfl 3 rfl ?_
                  refine j_iald (pc := 110) (v := v_5) (k := (x1_2).toInt.toNat) C 1 1 rfl rfl (i_nn hi_1_0.1) rfl (i_lt_n hi_1_0.1 (by omega)) ev_5 dX11_cutAll_110 ?_
                  refine j_callS (pc := 111) (As := [.int v_5]) (rest := [.long (37 * 0)]) (wr := [(m0, .inr (11, [.int m_thrown, .ref mtape, .int 0, .int m_taped, .ref msort, .ref mplace, .ref mvalue, .int m_at, .int m_fault, .ref mwords, .ref mtold, .ref mop, .ref marg, .int m_codes, .ref mnames, .ref mhasHabit, .int m_isNew, .ref mfactWords, .ref mfacts, .ref mpile, .ref mstates, .ref misMarked, .int m_inShelf, .int m_inStack, .int m_inPlace, .ref mrow, .int m_rowMany, .ref mthr, .ref mmays, .ref mtall, .ref mweights, .ref mrowOfWare, .ref mneededOf, .int m_goShelf, .int m_goStack, .int m_goLeft, .ref mtried, .ref mbestRow, .int m_bestCost, .int m_bestMany, .int m_bestShelf, .int m_bestSet, .ref mdigits])), (mtape, .inl (cyI, 1000, .inl m_tape)), (msort, .inl (cyI, 1002, .inl g1_msort)), (mplace, .inl (cyI, 1002, .inl f_9)), (mvalue, .inl (cyJ, 1002, .inr (.inl g1_mvalue)))]) C (c_X11_rank_f l D cyC cyI cyJ cyZ cyO v_5 (by omega)) wd_649 wd_624 wd_650 wd_651 ⟨by decide, by decide, rfl⟩ rfl ⟨rfl, rfl, by decide, by decide⟩ ⟨by decide, by decide⟩ [] [0, 1, 2, 3, 4] rfl rfl ⟨by decide, by decide, by decide⟩ rfl (Nat.le_of_ble_eq_true rfl) dX11_cutAll_111 (fun u_136 hw_137 => ?_)
                  refine j_eq (ws2 := [(m0, .inr (11, [.int m_thrown, .ref mtape, .int 0, .int m_taped, .ref msort, .ref mplace, .ref mvalue, .int m_at, .int m_fault, .ref mwords, .ref mtold, .ref mop, .ref marg, .int m_codes, .ref mnames, .ref mhasHabit, .int m_isNew, .ref mfactWords, .ref mfacts, .ref mpile, .ref mstates, .ref misMarked, .int m_inShelf, .int m_inStack, .int m_inPlace, .ref mrow, .int m_rowMany, .ref mthr, .ref mmays, .ref mtall, .ref mweights, .ref mrowOfWare, .ref mneededOf, .int m_goShelf, .int m_goStack, .int m_goLeft, .ref mtried, .ref mbestRow, .int m_bestCost, .int m_bestMany, .int m_bestShelf, .int m_bestSet, .ref mdigits])), (mtape, .inl (cyI, 1000, .inl m_tape)), (msort, .inl (cyI, 1002, .inl g1_msort)), (mplace, .inl (cyI, 1002, .inl f_9)), (mvalue, .inl (cyJ, 1002, .inr (.inl g1_mvalue)))]) (pc2 := 114) (lv2 := [(5, .long 0), (4, .int x1_2), (3, .int v_5), (2, .int x1_2), (1, .int x1_1), (0, .ref m0)]) (st2 := [.int (u_136.2.1 0), .long (37 * 0)]) rfl rfl rfl rfl ?_
                  have hw_137_0 : (u_136.2.1 0) = v_5 - 96 := hw_137
                  refine j_i2l (pc := 114) C dX11_cutAll_114 rfl ?_
                  refine j_ladd (pc := 115) C dX11_cutAll_115 rfl ?_
                  refine j_goto (pc := 116) (tgt := 121) C dX11_cutAll_116 (by decide) ?_
                  refine j_lstore (pc := 121) (lv' := [(5, .long ((37 * 0) + ((u_136.2.1 0)).toInt64)), (4, .int x1_2), (3, .int v_5), (2, .int x1_2), (1, .int x1_1), (0, .ref m0)]) C dX11_cutAll_121 (by decide) rfl ?_
                  obtain ⟨v_138, ev_138⟩ : ∃ z : Int32, x1_2 + 1 = z := ⟨_, rfl⟩
                  have el_1 : (1 : Int32).toInt = 1 := rfl
                  have hv_138 : v_138.toInt = x1_2.toInt + (1 : Int32).toInt := by rw [← ev_138]; exact fb_addI (by omega) (by omega)
                  refine j_iinc (pc := 123) (v := v_138) (lv' := [(2, .int v_138), (5, .long ((37 * 0) + ((u_136.2.1 0)).toInt64)), (4, .int x1_2), (3, .int v_5), (1, .int x1_1), (0, .ref m0)]) C dX11_cutAll_123 3 rfl ev_138 (by decide) rfl ?_
                  refine j_goto (pc := 126) (tgt := 70) C dX11_cutAll_126 (by decide) ?_
                  have loop_139 : ∀ (k_139 : Nat) (x139_2 : Int32) (x139_5 : Int64), (1 ≤ (x139_2).toInt ∧ (x139_2).toInt ≤ 1000) → (x1_2.toInt < x139_2.toInt ∧ x139_2.toInt ≤ (m_taped).toInt) → (∀ j : Nat, x1_2.toInt ≤ (j : Int) → (j : Int) < x139_2.toInt → j < (m_taped).toInt.toNat ∧ isR 97 122 (m_tape j) = true) → (x139_5 = e37 m_tape (x1_2.toInt).toNat (min (x139_2.toInt - x1_2.toInt) 8).toNat) → (1000 - x139_2.toInt).toNat < k_139 → J p l e ({ frames := 2, cells := 0, slots := 0, locals := 40 } : Room) s m args below meth c D A 7 0 0 (QX below D (TY cyC cyI cyJ cyZ cyO) A (fun u => none) (fun u => (Iv 1002 (0) (1000) (u.2.2.1 1)) ∧ (eN (u.2.2.1 0) ≤ 1000) ∧ (RWS (u.2.2.1 0) (u.2.2.1 1) (u.2.2.2 0) (TKS m_tape (m_taped).toInt.toNat)) ∧ (((u.2.2.1 1) 0).toInt = ((tP m_tape (m_taped).toInt.toNat 0 : Nat) : Int))) (fun u => [(m0, .inr (11, [.int m_thrown, .ref mtape, .int 0, .int m_taped, .ref msort, .ref mplace, .ref mvalue, .int 0, .int 0, .ref mwords, .ref mtold, .ref mop, .ref marg, .int m_codes, .ref mnames, .ref mhasHabit, .int m_isNew, .ref mfactWords, .ref mfacts, .ref mpile, .ref mstates, .ref misMarked, .int m_inShelf, .int m_inStack, .int m_inPlace, .ref mrow, .int m_rowMany, .ref mthr, .ref mmays, .ref mtall, .ref mweights, .ref mrowOfWare, .ref mneededOf, .int m_goShelf, .int m_goStack, .int m_goLeft, .ref mtried, .ref mbestRow, .int m_bestCost, .int m_bestMany, .int m_bestShelf, .int m_bestSet, .ref mdigits])), (mtape, .inl (cyI, 1000, .inl m_tape)), (msort, .inl (cyI, 1002, .inl (u.2.2.1 0))), (mplace, .inl (cyI, 1002, .inl (u.2.2.1 1))), (mvalue, .inl (cyJ, 1002, .inr (.inl (u.2.2.2 0))))]) args s 0 0) [(m0, .inr (11, [.int m_thrown, .ref mtape, .int 0, .int m_taped, .ref msort, .ref mplace, .ref mvalue, .int m_at, .int m_fault, .ref mwords, .ref mtold, .ref mop, .ref marg, .int m_codes, .ref mnames, .ref mhasHabit, .int m_isNew, .ref mfactWords, .ref mfacts, .ref mpile, .ref mstates, .ref misMarked, .int m_inShelf, .int m_inStack, .int m_inPlace, .ref mrow, .int m_rowMany, .ref mthr, .ref mmays, .ref mtall, .ref mweights, .ref mrowOfWare, .ref mneededOf, .int m_goShelf, .int m_goStack, .int m_goLeft, .ref mtried, .ref mbestRow, .int m_bestCost, .int m_bestMany, .int m_bestShelf, .int m_bestSet, .ref mdigits])), (mtape, .inl (cyI, 1000, .inl m_tape)), (msort, .inl (cyI, 1002, .inl g1_msort)), (mplace, .inl (cyI, 1002, .inl f_9)), (mvalue, .inl (cyJ, 1002, .inr (.inl g1_mvalue)))] 70 [(2, .int x139_2), (5, .long x139_5), (4, .int x1_2), (3, .int v_5), (1, .int x1_1), (0, .ref m0)] [] := by
                    intro k_139
                    induction k_139 with
                    | zero =>
                      intro x139_2 x139_5 hi_139_0 hr_139 hq_139_0 hq_139_1 hm_139
                      exact absurd hm_139 (Nat.not_lt_zero _)
                    | succ k_139 ih_139 =>
                      intro x139_2 x139_5 hi_139_0 hr_139 hq_139_0 hq_139_1 hm_139
                      refine j_iload_n (pc := 70) C dX11_cutAll_70 rfl 0 rfl ?_
                      refine j_aload_n (pc := 71) C dX11_cutAll_71 rfl 5 rfl ?_
                      refine j_get (pc := 72) (ci := 11) (v := .int m_taped) C inw_11 0 rfl rfl 3 (by decide) wd_634 rfl rfl dX11_cutAll_72 ?_
                      refine j_icmp_ge (pc := 75) (tgt := 129) C dX11_cutAll_75 (by decide) (fun c_140 => ?_) (fun c_140 => ?_)
                      · skip
                        rw [i_le] at c_140
                        refine j_aload_n (pc := 129) C dX11_cutAll_129 rfl 5 rfl ?_
                        refine j_get (pc := 130) (ci := 11) (v := .ref msort) C inw_11 0 rfl rfl 4 (by decide) wd_635 rfl rfl dX11_cutAll_130 ?_
                        refine j_iload_n (pc := 133) C dX11_cutAll_133 rfl 4 rfl ?_
                        refine j_iload_n (pc := 134) C dX11_cutAll_134 rfl 0 rfl ?_
                        refine j_iload (pc := 135) C dX11_cutAll_135 2 rfl ?_
                        obtain ⟨v_141, ev_141⟩ : ∃ z : Int32, x139_2 - x1_2 = z := ⟨_, rfl⟩
                        have hv_141 : v_141.toInt = x139_2.toInt - x1_2.toInt := by rw [← ev_141]; exact fb_subI (by omega) (by omega)
                        refine j_isub (pc := 137) (v := v_141) C dX11_cutAll_137 ev_141 ?_
                        refine j_bipush (pc := 138) (v := 8) C dX11_cutAll_138 (by decide) ?_
                        refine j_icmp_le (pc := 140) (tgt := 147) C dX11_cutAll_140 (by decide) (fun c_142 => ?_) (fun c_142 => ?_)
                        · skip
                          have el_8 : (8 : Int32).toInt = 8 := rfl
                          rw [i_le] at c_142
                          refine j_iconst (pc := 147) (v := 1) C dX11_cutAll_147 (by decide) ?_
                          obtain ⟨f_143, ef_143⟩ : ∃ z, z = upd g1_msort (x1_1).toInt.toNat 1 := ⟨_, rfl⟩
                          refine j_iast (pc := 148) (k := (x1_1).toInt.toNat) (ws' := [(m0, .inr (11, [.int m_thrown, .ref mtape, .int 0, .int m_taped, .ref msort, .ref mplace, .ref mvalue, .int m_at, .int m_fault, .ref mwords, .ref mtold, .ref mop, .ref marg, .int m_codes, .ref mnames, .ref mhasHabit, .int m_isNew, .ref mfactWords, .ref mfacts, .ref mpile, .ref mstates, .ref misMarked, .int m_inShelf, .int m_inStack, .int m_inPlace, .ref mrow, .int m_rowMany, .ref mthr, .ref mmays, .ref mtall, .ref mweights, .ref mrowOfWare, .ref mneededOf, .int m_goShelf, .int m_goStack, .int m_goLeft, .ref mtried, .ref mbestRow, .int m_bestCost, .int m_bestMany, .int m_bestShelf, .int m_bestSet, .ref mdigits])), (mtape, .inl (cyI, 1000, .inl m_tape)), (msort, .inl (cyI, 1002, .inl f_143)), (mplace, .inl (cyI, 1002, .inl f_9)), (mvalue, .inl (cyJ, 1002, .inr (.inl g1_mvalue)))]) C 2 1 rfl rfl (i_nn hi_1_1.1) rfl (i_lt_n hi_1_1.1 (Int.lt_of_le_of_lt hi_1_1.2 (by decide))) dX11_cutAll_148 (by rw [ef_143]; rfl) ?_
                          refine j_goto (pc := 149) (tgt := 265) C dX11_cutAll_149 (by decide) ?_
                          refine j_aload_n (pc := 265) C dX11_cutAll_265 rfl 5 rfl ?_
                          refine j_get (pc := 266) (ci := 11) (v := .ref mvalue) C inw_11 0 rfl rfl 6 (by decide) wd_645 rfl rfl dX11_cutAll_266 ?_
                          refine j_iload_n (pc := 269) C dX11_cutAll_269 rfl 4 rfl ?_
                          refine j_lload (pc := 270) C dX11_cutAll_270 1 rfl ?_
                          obtain ⟨f_144, ef_144⟩ : ∃ z, z = vp_updL g1_mvalue (x1_1).toInt.toNat x139_5 := ⟨_, rfl⟩
                          refine j_last (pc := 272) (k := (x1_1).toInt.toNat) (ws' := [(m0, .inr (11, [.int m_thrown, .ref mtape, .int 0, .int m_taped, .ref msort, .ref mplace, .ref mvalue, .int m_at, .int m_fault, .ref mwords, .ref mtold, .ref mop, .ref marg, .int m_codes, .ref mnames, .ref mhasHabit, .int m_isNew, .ref mfactWords, .ref mfacts, .ref mpile, .ref mstates, .ref misMarked, .int m_inShelf, .int m_inStack, .int m_inPlace, .ref mrow, .int m_rowMany, .ref mthr, .ref mmays, .ref mtall, .ref mweights, .ref mrowOfWare, .ref mneededOf, .int m_goShelf, .int m_goStack, .int m_goLeft, .ref mtried, .ref mbestRow, .int m_bestCost, .int m_bestMany, .int m_bestShelf, .int m_bestSet, .ref mdigits])), (mtape, .inl (cyI, 1000, .inl m_tape)), (msort, .inl (cyI, 1002, .inl f_143)), (mplace, .inl (cyI, 1002, .inl f_9)), (mvalue, .inl (cyJ, 1002, .inr (.inl f_144)))]) C 4 2 rfl rfl (i_nn hi_1_1.1) rfl (i_lt_n hi_1_1.1 (Int.lt_of_le_of_lt hi_1_1.2 (by decide))) dX11_cutAll_272 (by rw [ef_144]; rfl) ?_
                          obtain ⟨v_145, ev_145⟩ : ∃ z : Int32, x1_1 + 1 = z := ⟨_, rfl⟩
                          have el_1 : (1 : Int32).toInt = 1 := rfl
                          have hv_145 : v_145.toInt = x1_1.toInt + (1 : Int32).toInt := by rw [← ev_145]; exact fb_addI (by omega) (by omega)
                          refine j_iinc (pc := 273) (v := v_145) (lv' := [(1, .int v_145), (2, .int x139_2), (5, .long x139_5), (4, .int x1_2), (3, .int v_5), (0, .ref m0)]) C dX11_cutAll_273 4 rfl ev_145 (by decide) rfl ?_
                          refine j_goto (pc := 276) (tgt := 17) C dX11_cutAll_276 (by decide) ?_
                          have el_10 : (10 : Int32).toInt = 10 := rfl
                          have el_32 : (32 : Int32).toInt = 32 := rfl
                          have el_97 : (97 : Int32).toInt = 97 := rfl
                          have el_122 : (122 : Int32).toInt = 122 := rfl
                          have el_48 : (48 : Int32).toInt = 48 := rfl
                          have el_57 : (57 : Int32).toInt = 57 := rfl
                          have el_1 : (1 : Int32).toInt = 1 := rfl
                          exact j_lv [1, 0, 5] rfl (ih_1 x139_2 v_145 f_143 f_9 f_144 (by omega) (by omega) hf_9 (by omega) (CA.word hq_1_0 (by omega) (by omega) (by omega) (fun z => by have z9 := of_decide_eq_true z; rw [ev_5] at z9; omega) ef_143 ef_9 rfl ef_144 ⟨by omega, fun j j1 j2 => hq_139_0 j (by omega) (by omega), fun z => absurd z.1 (by omega)⟩ (by omega) (by omega) hq_139_1 (by omega)) (by omega))
                        · skip
                          have el_8 : (8 : Int32).toInt = 8 := rfl
                          rw [i_le] at c_142
                          refine j_iconst (pc := 143) (v := 4) C dX11_cutAll_143 (by decide) ?_
                          refine j_goto (pc := 144) (tgt := 148) C dX11_cutAll_144 (by decide) ?_
                          obtain ⟨f_146, ef_146⟩ : ∃ z, z = upd g1_msort (x1_1).toInt.toNat 4 := ⟨_, rfl⟩
                          refine j_iast (pc := 148) (k := (x1_1).toInt.toNat) (ws' := [(m0, .inr (11, [.int m_thrown, .ref mtape, .int 0, .int m_taped, .ref msort, .ref mplace, .ref mvalue, .int m_at, .int m_fault, .ref mwords, .ref mtold, .ref mop, .ref marg, .int m_codes, .ref mnames, .ref mhasHabit, .int m_isNew, .ref mfactWords, .ref mfacts, .ref mpile, .ref mstates, .ref misMarked, .int m_inShelf, .int m_inStack, .int m_inPlace, .ref mrow, .int m_rowMany, .ref mthr, .ref mmays, .ref mtall, .ref mweights, .ref mrowOfWare, .ref mneededOf, .int m_goShelf, .int m_goStack, .int m_goLeft, .ref mtried, .ref mbestRow, .int m_bestCost, .int m_bestMany, .int m_bestShelf, .int m_bestSet, .ref mdigits])), (mtape, .inl (cyI, 1000, .inl m_tape)), (msort, .inl (cyI, 1002, .inl f_146)), (mplace, .inl (cyI, 1002, .inl f_9)), (mvalue, .inl (cyJ, 1002, .inr (.inl g1_mvalue)))]) C 2 1 rfl rfl (i_nn hi_1_1.1) rfl (i_lt_n hi_1_1.1 (Int.lt_of_le_of_lt hi_1_1.2 (by decide))) dX11_cutAll_148 (by rw [ef_146]; rfl) ?_
                          refine j_goto (pc := 149) (tgt := 265) C dX11_cutAll_149 (by decide) ?_
                          refine j_aload_n (pc := 265) C dX11_cutAll_265 rfl 5 rfl ?_
                          refine j_get (pc := 266) (ci := 11) (v := .ref mvalue) C inw_11 0 rfl rfl 6 (by decide) wd_645 rfl rfl dX11_cutAll_266 ?_
                          refine j_iload_n (pc := 269) C dX11_cutAll_269 rfl 4 rfl ?_
                          refine j_lload (pc := 270) C dX11_cutAll_270 1 rfl ?_
                          obtain ⟨f_147, ef_147⟩ : ∃ z, z = vp_updL g1_mvalue (x1_1).toInt.toNat x139_5 := ⟨_, rfl⟩
                          refine j_last (pc := 272) (k := (x1_1).toInt.toNat) (ws' := [(m0, .inr (11, [.int m_thrown, .ref mtape, .int 0, .int m_taped, .ref msort, .ref mplace, .ref mvalue, .int m_at, .int m_fault, .ref mwords, .ref mtold, .ref mop, .ref marg, .int m_codes, .ref mnames, .ref mhasHabit, .int m_isNew, .ref mfactWords, .ref mfacts, .ref mpile, .ref mstates, .ref misMarked, .int m_inShelf, .int m_inStack, .int m_inPlace, .ref mrow, .int m_rowMany, .ref mthr, .ref mmays, .ref mtall, .ref mweights, .ref mrowOfWare, .ref mneededOf, .int m_goShelf, .int m_goStack, .int m_goLeft, .ref mtried, .ref mbestRow, .int m_bestCost, .int m_bestMany, .int m_bestShelf, .int m_bestSet, .ref mdigits])), (mtape, .inl (cyI, 1000, .inl m_tape)), (msort, .inl (cyI, 1002, .inl f_146)), (mplace, .inl (cyI, 1002, .inl f_9)), (mvalue, .inl (cyJ, 1002, .inr (.inl f_147)))]) C 4 2 rfl rfl (i_nn hi_1_1.1) rfl (i_lt_n hi_1_1.1 (Int.lt_of_le_of_lt hi_1_1.2 (by decide))) dX11_cutAll_272 (by rw [ef_147]; rfl) ?_
                          obtain ⟨v_148, ev_148⟩ : ∃ z : Int32, x1_1 + 1 = z := ⟨_, rfl⟩
                          have el_1 : (1 : Int32).toInt = 1 := rfl
                          have hv_148 : v_148.toInt = x1_1.toInt + (1 : Int32).toInt := by rw [← ev_148]; exact fb_addI (by omega) (by omega)
                          refine j_iinc (pc := 273) (v := v_148) (lv' := [(1, .int v_148), (2, .int x139_2), (5, .long x139_5), (4, .int x1_2), (3, .int v_5), (0, .ref m0)]) C dX11_cutAll_273 4 rfl ev_148 (by decide) rfl ?_
                          refine j_goto (pc := 276) (tgt := 17) C dX11_cutAll_276 (by decide) ?_
                          have el_10 : (10 : Int32).toInt = 10 := rfl
                          have el_32 : (32 : Int32).toInt = 32 := rfl
                          have el_97 : (97 : Int32).toInt = 97 := rfl
                          have el_122 : (122 : Int32).toInt = 122 := rfl
                          have el_48 : (48 : Int32).toInt = 48 := rfl
                          have el_57 : (57 : Int32).toInt = 57 := rfl
                          have el_4 : (4 : Int32).toInt = 4 := rfl
                          exact j_lv [1, 0, 5] rfl (ih_1 x139_2 v_148 f_146 f_9 f_147 (by omega) (by omega) hf_9 (by omega) (CA.word hq_1_0 (by omega) (by omega) (by omega) (fun z => by have z9 := of_decide_eq_true z; rw [ev_5] at z9; omega) ef_146 ef_9 rfl ef_147 ⟨by omega, fun j j1 j2 => hq_139_0 j (by omega) (by omega), fun z => absurd z.1 (by omega)⟩ (by omega) (by omega) hq_139_1 (by omega)) (by omega))
                      · skip
                        rw [i_le] at c_140
                        refine j_aload_n (pc := 78) C dX11_cutAll_78 rfl 5 rfl ?_
                        refine j_get (pc := 79) (ci := 11) (v := .ref mtape) C inw_11 0 rfl rfl 1 (by decide) wd_628 rfl rfl dX11_cutAll_79 ?_
                        refine j_iload_n (pc := 82) C dX11_cutAll_82 rfl 0 rfl ?_
                        obtain ⟨v_149, ev_149⟩ : ∃ z, m_tape (x139_2).toInt.toNat = z := ⟨_, rfl⟩
                        have env_149 : (m_tape (x139_2).toInt.toNat).toInt = v_149.toInt := by rw [ev_149]
                        refine j_iald (pc := 83) (v := v_149) (k := (x139_2).toInt.toNat) C 1 1 rfl rfl (i_nn (Int.le_trans (by decide) hi_139_0.1)) rfl (i_lt_n (Int.le_trans (by decide) hi_139_0.1) (by omega)) ev_149 dX11_cutAll_83 ?_
                        refine j_callS (pc := 84) (As := [.int v_149]) (rest := []) (wr := [(m0, .inr (11, [.int m_thrown, .ref mtape, .int 0, .int m_taped, .ref msort, .ref mplace, .ref mvalue, .int m_at, .int m_fault, .ref mwords, .ref mtold, .ref mop, .ref marg, .int m_codes, .ref mnames, .ref mhasHabit, .int m_isNew, .ref mfactWords, .ref mfacts, .ref mpile, .ref mstates, .ref misMarked, .int m_inShelf, .int m_inStack, .int m_inPlace, .ref mrow, .int m_rowMany, .ref mthr, .ref mmays, .ref mtall, .ref mweights, .ref mrowOfWare, .ref mneededOf, .int m_goShelf, .int m_goStack, .int m_goLeft, .ref mtried, .ref mbestRow, .int m_bestCost, .int m_bestMany, .int m_bestShelf, .int m_bestSet, .ref mdigits])), (mtape, .inl (cyI, 1000, .inl m_tape)), (msort, .inl (cyI, 1002, .inl g1_msort)), (mplace, .inl (cyI, 1002, .inl f_9)), (mvalue, .inl (cyJ, 1002, .inr (.inl g1_mvalue)))]) C (c_X11_isLetter_f l D cyC cyI cyJ cyZ cyO v_149) wd_623 wd_624 wd_625 wd_626 ⟨by decide, by decide, rfl⟩ rfl ⟨rfl, rfl, by decide, by decide⟩ ⟨by decide, by decide⟩ [] [0, 1, 2, 3, 4] rfl rfl ⟨by decide, by decide, by decide⟩ rfl (Nat.le_of_ble_eq_true rfl) dX11_cutAll_84 (fun u_150 hw_151 => ?_)
                        refine j_eq (ws2 := [(m0, .inr (11, [.int m_thrown, .ref mtape, .int 0, .int m_taped, .ref msort, .ref mplace, .ref mvalue, .int m_at, .int m_fault, .ref mwords, .ref mtold, .ref mop, .ref marg, .int m_codes, .ref mnames, .ref mhasHabit, .int m_isNew, .ref mfactWords, .ref mfacts, .ref mpile, .ref mstates, .ref misMarked, .int m_inShelf, .int m_inStack, .int m_inPlace, .ref mrow, .int m_rowMany, .ref mthr, .ref mmays, .ref mtall, .ref mweights, .ref mrowOfWare, .ref mneededOf, .int m_goShelf, .int m_goStack, .int m_goLeft, .ref mtried, .ref mbestRow, .int m_bestCost, .int m_bestMany, .int m_bestShelf, .int m_bestSet, .ref mdigits])), (mtape, .inl (cyI, 1000, .inl m_tape)), (msort, .inl (cyI, 1002, .inl g1_msort)), (mplace, .inl (cyI, 1002, .inl f_9)), (mvalue, .inl (cyJ, 1002, .inr (.inl g1_mvalue)))]) (pc2 := 87) (lv2 := [(2, .int x139_2), (5, .long x139_5), (4, .int x1_2), (3, .int v_5), (1, .int x1_1), (0, .ref m0)]) (st2 := [.int (u_150.2.1 0)]) rfl rfl rfl rfl ?_
                        obtain ⟨hw_151_0, hw_151_1, hw_151_2⟩ := hw_151
                        refine j_if_eq (pc := 87) (tgt := 129) C dX11_cutAll_87 (by decide) (fun c_152 => ?_) (fun c_152 => ?_)
                        · skip
                          have el_0 : (0 : Int32).toInt = 0 := rfl
                          rw [i_eq] at c_152
                          refine j_aload_n (pc := 129) C dX11_cutAll_129 rfl 5 rfl ?_
                          refine j_get (pc := 130) (ci := 11) (v := .ref msort) C inw_11 0 rfl rfl 4 (by decide) wd_635 rfl rfl dX11_cutAll_130 ?_
                          refine j_iload_n (pc := 133) C dX11_cutAll_133 rfl 4 rfl ?_
                          refine j_iload_n (pc := 134) C dX11_cutAll_134 rfl 0 rfl ?_
                          refine j_iload (pc := 135) C dX11_cutAll_135 2 rfl ?_
                          obtain ⟨v_153, ev_153⟩ : ∃ z : Int32, x139_2 - x1_2 = z := ⟨_, rfl⟩
                          have hv_153 : v_153.toInt = x139_2.toInt - x1_2.toInt := by rw [← ev_153]; exact fb_subI (by omega) (by omega)
                          refine j_isub (pc := 137) (v := v_153) C dX11_cutAll_137 ev_153 ?_
                          refine j_bipush (pc := 138) (v := 8) C dX11_cutAll_138 (by decide) ?_
                          refine j_icmp_le (pc := 140) (tgt := 147) C dX11_cutAll_140 (by decide) (fun c_154 => ?_) (fun c_154 => ?_)
                          · skip
                            have el_8 : (8 : Int32).toInt = 8 := rfl
                            rw [i_le] at c_154
                            refine j_iconst (pc := 147) (v := 1) C dX11_cutAll_147 (by decide) ?_
                            obtain ⟨f_155, ef_155⟩ : ∃ z, z = upd g1_msort (x1_1).toInt.toNat 1 := ⟨_, rfl⟩
                            refine j_iast (pc := 148) (k := (x1_1).toInt.toNat) (ws' := [(m0, .inr (11, [.int m_thrown, .ref mtape, .int 0, .int m_taped, .ref msort, .ref mplace, .ref mvalue, .int m_at, .int m_fault, .ref mwords, .ref mtold, .ref mop, .ref marg, .int m_codes, .ref mnames, .ref mhasHabit, .int m_isNew, .ref mfactWords, .ref mfacts, .ref mpile, .ref mstates, .ref misMarked, .int m_inShelf, .int m_inStack, .int m_inPlace, .ref mrow, .int m_rowMany, .ref mthr, .ref mmays, .ref mtall, .ref mweights, .ref mrowOfWare, .ref mneededOf, .int m_goShelf, .int m_goStack, .int m_goLeft, .ref mtried, .ref mbestRow, .int m_bestCost, .int m_bestMany, .int m_bestShelf, .int m_bestSet, .ref mdigits])), (mtape, .inl (cyI, 1000, .inl m_tape)), (msort, .inl (cyI, 1002, .inl f_155)), (mplace, .inl (cyI, 1002, .inl f_9)), (mvalue, .inl (cyJ, 1002, .inr (.inl g1_mvalue)))]) C 2 1 rfl rfl (i_nn hi_1_1.1) rfl (i_lt_n hi_1_1.1 (Int.lt_of_le_of_lt hi_1_1.2 (by decide))) dX11_cutAll_148 (by rw [ef_155]; rfl) ?_
                            refine j_goto (pc := 149) (tgt := 265) C dX11_cutAll_149 (by decide) ?_
                            refine j_aload_n (pc := 265) C dX11_cutAll_265 rfl 5 rfl ?_
                            refine j_get (pc := 266) (ci := 11) (v := .ref mvalue) C inw_11 0 rfl rfl 6 (by decide) wd_645 rfl rfl dX11_cutAll_266 ?_
                            refine j_iload_n (pc := 269) C dX11_cutAll_269 rfl 4 rfl ?_
                            refine j_lload (pc := 270) C dX11_cutAll_270 1 rfl ?_
                            obtain ⟨f_156, ef_156⟩ : ∃ z, z = vp_updL g1_mvalue (x1_1).toInt.toNat x139_5 := ⟨_, rfl⟩
                            refine j_last (pc := 272) (k := (x1_1).toInt.toNat) (ws' := [(m0, .inr (11, [.int m_thrown, .ref mtape, .int 0, .int m_taped, .ref msort, .ref mplace, .ref mvalue, .int m_at, .int m_fault, .ref mwords, .ref mtold, .ref mop, .ref marg, .int m_codes, .ref mnames, .ref mhasHabit, .int m_isNew, .ref mfactWords, .ref mfacts, .ref mpile, .ref mstates, .ref misMarked, .int m_inShelf, .int m_inStack, .int m_inPlace, .ref mrow, .int m_rowMany, .ref mthr, .ref mmays, .ref mtall, .ref mweights, .ref mrowOfWare, .ref mneededOf, .int m_goShelf, .int m_goStack, .int m_goLeft, .ref mtried, .ref mbestRow, .int m_bestCost, .int m_bestMany, .int m_bestShelf, .int m_bestSet, .ref mdigits])), (mtape, .inl (cyI, 1000, .inl m_tape)), (msort, .inl (cyI, 1002, .inl f_155)), (mplace, .inl (cyI, 1002, .inl f_9)), (mvalue, .inl (cyJ, 1002, .inr (.inl f_156)))]) C 4 2 rfl rfl (i_nn hi_1_1.1) rfl (i_lt_n hi_1_1.1 (Int.lt_of_le_of_lt hi_1_1.2 (by decide))) dX11_cutAll_272 (by rw [ef_156]; rfl) ?_
                            obtain ⟨v_157, ev_157⟩ : ∃ z : Int32, x1_1 + 1 = z := ⟨_, rfl⟩
                            have el_1 : (1 : Int32).toInt = 1 := rfl
                            have hv_157 : v_157.toInt = x1_1.toInt + (1 : Int32).toInt := by rw [← ev_157]; exact fb_addI (by omega) (by omega)
                            refine j_iinc (pc := 273) (v := v_157) (lv' := [(1, .int v_157), (2, .int x139_2), (5, .long x139_5), (4, .int x1_2), (3, .int v_5), (0, .ref m0)]) C dX11_cutAll_273 4 rfl ev_157 (by decide) rfl ?_
                            refine j_goto (pc := 276) (tgt := 17) C dX11_cutAll_276 (by decide) ?_
                            have el_10 : (10 : Int32).toInt = 10 := rfl
                            have el_32 : (32 : Int32).toInt = 32 := rfl
                            have el_97 : (97 : Int32).toInt = 97 := rfl
                            have el_122 : (122 : Int32).toInt = 122 := rfl
                            have el_48 : (48 : Int32).toInt = 48 := rfl
                            have el_57 : (57 : Int32).toInt = 57 := rfl
                            have el_1 : (1 : Int32).toInt = 1 := rfl
                            exact j_lv [1, 0, 5] rfl (ih_1 x139_2 v_157 f_155 f_9 f_156 (by omega) (by omega) hf_9 (by omega) (CA.word hq_1_0 (by omega) (by omega) (by omega) (fun z => by have z9 := of_decide_eq_true z; rw [ev_5] at z9; omega) ef_155 ef_9 rfl ef_156 ⟨by omega, fun j j1 j2 => hq_139_0 j (by omega) (by omega), fun z => by (have z9 := isR_iff.mp z.2; rw [ev_149] at z9; omega)⟩ (by omega) (by omega) hq_139_1 (by omega)) (by omega))
                          · skip
                            have el_8 : (8 : Int32).toInt = 8 := rfl
                            rw [i_le] at c_154
                            refine j_iconst (pc := 143) (v := 4) C dX11_cutAll_143 (by decide) ?_
                            refine j_goto (pc := 144) (tgt := 148) C dX11_cutAll_144 (by decide) ?_
                            obtain ⟨f_158, ef_158⟩ : ∃ z, z = upd g1_msort (x1_1).toInt.toNat 4 := ⟨_, rfl⟩
                            refine j_iast (pc := 148) (k := (x1_1).toInt.toNat) (ws' := [(m0, .inr (11, [.int m_thrown, .ref mtape, .int 0, .int m_taped, .ref msort, .ref mplace, .ref mvalue, .int m_at, .int m_fault, .ref mwords, .ref mtold, .ref mop, .ref marg, .int m_codes, .ref mnames, .ref mhasHabit, .int m_isNew, .ref mfactWords, .ref mfacts, .ref mpile, .ref mstates, .ref misMarked, .int m_inShelf, .int m_inStack, .int m_inPlace, .ref mrow, .int m_rowMany, .ref mthr, .ref mmays, .ref mtall, .ref mweights, .ref mrowOfWare, .ref mneededOf, .int m_goShelf, .int m_goStack, .int m_goLeft, .ref mtried, .ref mbestRow, .int m_bestCost, .int m_bestMany, .int m_bestShelf, .int m_bestSet, .ref mdigits])), (mtape, .inl (cyI, 1000, .inl m_tape)), (msort, .inl (cyI, 1002, .inl f_158)), (mplace, .inl (cyI, 1002, .inl f_9)), (mvalue, .inl (cyJ, 1002, .inr (.inl g1_mvalue)))]) C 2 1 rfl rfl (i_nn hi_1_1.1) rfl (i_lt_n hi_1_1.1 (Int.lt_of_le_of_lt hi_1_1.2 (by decide))) dX11_cutAll_148 (by rw [ef_158]; rfl) ?_
                            refine j_goto (pc := 149) (tgt := 265) C dX11_cutAll_149 (by decide) ?_
                            refine j_aload_n (pc := 265) C dX11_cutAll_265 rfl 5 rfl ?_
                            refine j_get (pc := 266) (ci := 11) (v := .ref mvalue) C inw_11 0 rfl rfl 6 (by decide) wd_645 rfl rfl dX11_cutAll_266 ?_
                            refine j_iload_n (pc := 269) C dX11_cutAll_269 rfl 4 rfl ?_
                            refine j_lload (pc := 270) C dX11_cutAll_270 1 rfl ?_
                            obtain ⟨f_159, ef_159⟩ : ∃ z, z = vp_updL g1_mvalue (x1_1).toInt.toNat x139_5 := ⟨_, rfl⟩
                            refine j_last (pc := 272) (k := (x1_1).toInt.toNat) (ws' := [(m0, .inr (11, [.int m_thrown, .ref mtape, .int 0, .int m_taped, .ref msort, .ref mplace, .ref mvalue, .int m_at, .int m_fault, .ref mwords, .ref mtold, .ref mop, .ref marg, .int m_codes, .ref mnames, .ref mhasHabit, .int m_isNew, .ref mfactWords, .ref mfacts, .ref mpile, .ref mstates, .ref misMarked, .int m_inShelf, .int m_inStack, .int m_inPlace, .ref mrow, .int m_rowMany, .ref mthr, .ref mmays, .ref mtall, .ref mweights, .ref mrowOfWare, .ref mneededOf, .int m_goShelf, .int m_goStack, .int m_goLeft, .ref mtried, .ref mbestRow, .int m_bestCost, .int m_bestMany, .int m_bestShelf, .int m_bestSet, .ref mdigits])), (mtape, .inl (cyI, 1000, .inl m_tape)), (msort, .inl (cyI, 1002, .inl f_158)), (mplace, .inl (cyI, 1002, .inl f_9)), (mvalue, .inl (cyJ, 1002, .inr (.inl f_159)))]) C 4 2 rfl rfl (i_nn hi_1_1.1) rfl (i_lt_n hi_1_1.1 (Int.lt_of_le_of_lt hi_1_1.2 (by decide))) dX11_cutAll_272 (by rw [ef_159]; rfl) ?_
                            obtain ⟨v_160, ev_160⟩ : ∃ z : Int32, x1_1 + 1 = z := ⟨_, rfl⟩
                            have el_1 : (1 : Int32).toInt = 1 := rfl
                            have hv_160 : v_160.toInt = x1_1.toInt + (1 : Int32).toInt := by rw [← ev_160]; exact fb_addI (by omega) (by omega)
                            refine j_iinc (pc := 273) (v := v_160) (lv' := [(1, .int v_160), (2, .int x139_2), (5, .long x139_5), (4, .int x1_2), (3, .int v_5), (0, .ref m0)]) C dX11_cutAll_273 4 rfl ev_160 (by decide) rfl ?_
                            refine j_goto (pc := 276) (tgt := 17) C dX11_cutAll_276 (by decide) ?_
                            have el_10 : (10 : Int32).toInt = 10 := rfl
                            have el_32 : (32 : Int32).toInt = 32 := rfl
                            have el_97 : (97 : Int32).toInt = 97 := rfl
                            have el_122 : (122 : Int32).toInt = 122 := rfl
                            have el_48 : (48 : Int32).toInt = 48 := rfl
                            have el_57 : (57 : Int32).toInt = 57 := rfl
                            have el_4 : (4 : Int32).toInt = 4 := rfl
                            exact j_lv [1, 0, 5] rfl (ih_1 x139_2 v_160 f_158 f_9 f_159 (by omega) (by omega) hf_9 (by omega) (CA.word hq_1_0 (by omega) (by omega) (by omega) (fun z => by have z9 := of_decide_eq_true z; rw [ev_5] at z9; omega) ef_158 ef_9 rfl ef_159 ⟨by omega, fun j j1 j2 => hq_139_0 j (by omega) (by omega), fun z => by (have z9 := isR_iff.mp z.2; rw [ev_149] at z9; omega)⟩ (by omega) (by omega) hq_139_1 (by omega)) (by omega))
                        · skip
                          have el_0 : (0 : Int32).toInt = 0 := rfl
                          rw [i_eq] at c_152
                          have k0c_152 : ((u_150.2.1 0)).toInt = 1 := by omega
                          refine j_iload_n (pc := 90) C dX11_cutAll_90 rfl 0 rfl ?_
                          refine j_iload (pc := 91) C dX11_cutAll_91 2 rfl ?_
                          obtain ⟨v_161, ev_161⟩ : ∃ z : Int32, x139_2 - x1_2 = z := ⟨_, rfl⟩
                          have hv_161 : v_161.toInt = x139_2.toInt - x1_2.toInt := by rw [← ev_161]; exact fb_subI (by omega) (by omega)
                          refine j_isub (pc := 93) (v := v_161) C dX11_cutAll_93 ev_161 ?_
                          refine j_bipush (pc := 94) (v := 8) C dX11_cutAll_94 (by decide) ?_
                          refine j_icmp_ge (pc := 96) (tgt := 119) C dX11_cutAll_96 (by decide) (fun c_162 => ?_) (fun c_162 => ?_)
                          · skip
                            have el_8 : (8 : Int32).toInt = 8 := rfl
                            rw [i_le] at c_162
                            refine j_lload (pc := 119) C dX11_cutAll_119 1 rfl ?_
                            refine j_lstore (pc := 121) (lv' := [(5, .long x139_5), (2, .int x139_2), (4, .int x1_2), (3, .int v_5), (1, .int x1_1), (0, .ref m0)]) C dX11_cutAll_121 (by decide) rfl ?_
                            obtain ⟨v_163, ev_163⟩ : ∃ z : Int32, x139_2 + 1 = z := ⟨_, rfl⟩
                            have el_1 : (1 : Int32).toInt = 1 := rfl
                            have hv_163 : v_163.toInt = x139_2.toInt + (1 : Int32).toInt := by rw [← ev_163]; exact fb_addI (by omega) (by omega)
                            refine j_iinc (pc := 123) (v := v_163) (lv' := [(2, .int v_163), (5, .long x139_5), (4, .int x1_2), (3, .int v_5), (1, .int x1_1), (0, .ref m0)]) C dX11_cutAll_123 1 rfl ev_163 (by decide) rfl ?_
                            refine j_goto (pc := 126) (tgt := 70) C dX11_cutAll_126 (by decide) ?_
                            have el_97 : (97 : Int32).toInt = 97 := rfl
                            have el_122 : (122 : Int32).toInt = 122 := rfl
                            exact j_lv [0, 1, 2, 3, 4, 5] rfl (ih_139 v_163 x139_5 (by omega) (by omega) (fun j j1 j2 => by rcases Int.lt_or_le (j : Int) (x139_2).toInt with q | q; (exact hq_139_0 j j1 q); (rw [show j = (x139_2).toInt.toNat from (by omega), ev_149]; exact ⟨by omega, isR_iff.mpr ⟨by omega, by omega⟩⟩)) (by rw [show (min ((v_163).toInt - (x1_2).toInt) 8).toNat = (min ((x139_2).toInt - (x1_2).toInt) 8).toNat from (by omega)]; exact hq_139_1) (by omega))
                          · skip
                            have el_8 : (8 : Int32).toInt = 8 := rfl
                            rw [i_le] at c_162
                            refine j_ldc2 (pc := 99) C wd_648 dX11_cutAll_99 ?_
                            refine j_lload (pc := 102) C dX11_cutAll_102 1 rfl ?_
                            refine j_lmul (pc := 104) C dX11_cutAll_104 rfl ?_
                            refine j_aload_n (pc := 105) C dX11_cutAll_105 rfl 5 rfl ?_
                            refine j_get (pc := 106) (ci := 11) (v := .ref mtape) C inw_11 0 rfl rfl 1 (by decide) wd_628 rfl rfl dX11_cutAll_106 ?_
                            refine j_iload_n (pc := 109) C dX11_cutAll_109 rfl 0 rfl ?_
                            refine j_iald (pc := 110) (v := v_149) (k := (x139_2).toInt.toNat) C 1 1 rfl rfl (i_nn (Int.le_trans (by decide) hi_139_0.1)) rfl (i_lt_n (Int.le_trans (by decide) hi_139_0.1) (by omega)) ev_149 dX11_cutAll_110 ?_
                            refine j_callS (pc := 111) (As := [.int v_149]) (rest := [.long (37 * x139_5)]) (wr := [(m0, .inr (11, [.int m_thrown, .ref mtape, .int 0, .int m_taped, .ref msort, .ref mplace, .ref mvalue, .int m_at, .int m_fault, .ref mwords, .ref mtold, .ref mop, .ref marg, .int m_codes, .ref mnames, .ref mhasHabit, .int m_isNew, .ref mfactWords, .ref mfacts, .ref mpile, .ref mstates, .ref misMarked, .int m_inShelf, .int m_inStack, .int m_inPlace, .ref mrow, .int m_rowMany, .ref mthr, .ref mmays, .ref mtall, .ref mweights, .ref mrowOfWare, .ref mneededOf, .int m_goShelf, .int m_goStack, .int m_goLeft, .ref mtried, .ref mbestRow, .int m_bestCost, .int m_bestMany, .int m_bestShelf, .int m_bestSet, .ref mdigits])), (mtape, .inl (cyI, 1000, .inl m_tape)), (msort, .inl (cyI, 1002, .inl g1_msort)), (mplace, .inl (cyI, 1002, .inl f_9)), (mvalue, .inl (cyJ, 1002, .inr (.inl g1_mvalue)))]) C (c_X11_rank_f l D cyC cyI cyJ cyZ cyO v_149 (by omega)) wd_649 wd_624 wd_650 wd_651 ⟨by decide, by decide, rfl⟩ rfl ⟨rfl, rfl, by decide, by decide⟩ ⟨by decide, by decide⟩ [] [0, 1, 2, 3, 4] rfl rfl ⟨by decide, by decide, by decide⟩ rfl (Nat.le_of_ble_eq_true rfl) dX11_cutAll_111 (fun u_164 hw_165 => ?_)
                            refine j_eq (ws2 := [(m0, .inr (11, [.int m_thrown, .ref mtape, .int 0, .int m_taped, .ref msort, .ref mplace, .ref mvalue, .int m_at, .int m_fault, .ref mwords, .ref mtold, .ref mop, .ref marg, .int m_codes, .ref mnames, .ref mhasHabit, .int m_isNew, .ref mfactWords, .ref mfacts, .ref mpile, .ref mstates, .ref misMarked, .int m_inShelf, .int m_inStack, .int m_inPlace, .ref mrow, .int m_rowMany, .ref mthr, .ref mmays, .ref mtall, .ref mweights, .ref mrowOfWare, .ref mneededOf, .int m_goShelf, .int m_goStack, .int m_goLeft, .ref mtried, .ref mbestRow, .int m_bestCost, .int m_bestMany, .int m_bestShelf, .int m_bestSet, .ref mdigits])), (mtape, .inl (cyI, 1000, .inl m_tape)), (msort, .inl (cyI, 1002, .inl g1_msort)), (mplace, .inl (cyI, 1002, .inl f_9)), (mvalue, .inl (cyJ, 1002, .inr (.inl g1_mvalue)))]) (pc2 := 114) (lv2 := [(2, .int x139_2), (5, .long x139_5), (4, .int x1_2), (3, .int v_5), (1, .int x1_1), (0, .ref m0)]) (st2 := [.int (u_164.2.1 0), .long (37 * x139_5)]) rfl rfl rfl rfl ?_
                            have hw_165_0 : (u_164.2.1 0) = v_149 - 96 := hw_165
                            refine j_i2l (pc := 114) C dX11_cutAll_114 rfl ?_
                            refine j_ladd (pc := 115) C dX11_cutAll_115 rfl ?_
                            refine j_goto (pc := 116) (tgt := 121) C dX11_cutAll_116 (by decide) ?_
                            refine j_lstore (pc := 121) (lv' := [(5, .long ((37 * x139_5) + ((u_164.2.1 0)).toInt64)), (2, .int x139_2), (4, .int x1_2), (3, .int v_5), (1, .int x1_1), (0, .ref m0)]) C dX11_cutAll_121 (by decide) rfl ?_
                            obtain ⟨v_166, ev_166⟩ : ∃ z : Int32, x139_2 + 1 = z := ⟨_, rfl⟩
                            have el_1 : (1 : Int32).toInt = 1 := rfl
                            have hv_166 : v_166.toInt = x139_2.toInt + (1 : Int32).toInt := by rw [← ev_166]; exact fb_addI (by omega) (by omega)
                            refine j_iinc (pc := 123) (v := v_166) (lv' := [(2, .int v_166), (5, .long ((37 * x139_5) + ((u_164.2.1 0)).toInt64)), (4, .int x1_2), (3, .int v_5), (1, .int x1_1), (0, .ref m0)]) C dX11_cutAll_123 1 rfl ev_166 (by decide) rfl ?_
                            refine j_goto (pc := 126) (tgt := 70) C dX11_cutAll_126 (by decide) ?_
                            have el_97 : (97 : Int32).toInt = 97 := rfl
                            have el_122 : (122 : Int32).toInt = 122 := rfl
                            exact j_lv [0, 1, 2, 3, 4, 5] rfl (ih_139 v_166 ((37 * x139_5) + ((u_164.2.1 0)).toInt64) (by omega) (by omega) (fun j j1 j2 => by rcases Int.lt_or_le (j : Int) (x139_2).toInt with q | q; (exact hq_139_0 j j1 q); (rw [show j = (x139_2).toInt.toNat from (by omega), ev_149]; exact ⟨by omega, isR_iff.mpr ⟨by omega, by omega⟩⟩)) (by rw [show (min ((v_166).toInt - (x1_2).toInt) 8).toNat = (min ((x139_2).toInt - (x1_2).toInt) 8).toNat + 1 from (by omega)]; show _ = 37 * e37 m_tape (x1_2).toInt.toNat (min ((x139_2).toInt - (x1_2).toInt) 8).toNat + (m_tape ((x1_2).toInt.toNat + (min ((x139_2).toInt - (x1_2).toInt) 8).toNat) - 96).toInt64; rw [show (x1_2).toInt.toNat + (min ((x139_2).toInt - (x1_2).toInt) 8).toNat = (x139_2).toInt.toNat from (by omega), ev_149, ← hq_139_1, ← hw_165_0]) (by omega))
                  have el_97 : (97 : Int32).toInt = 97 := rfl
                  have el_122 : (122 : Int32).toInt = 122 := rfl
                  exact j_lv [0, 1, 2, 3, 4, 5] rfl (loop_139 4096 v_138 ((37 * 0) + ((u_136.2.1 0)).toInt64) (by omega) (by omega) (fun j j1 j2 => by (rw [show j = (x1_2).toInt.toNat from (by omega), ev_5]; exact ⟨by omega, isR_iff.mpr ⟨by omega, by omega⟩⟩)) (by rw [show (min ((v_138).toInt - (x1_2).toInt) 8).toNat = 0 + 1 from (by omega)]; show _ = 37 * e37 m_tape (x1_2).toInt.toNat 0 + (m_tape ((x1_2).toInt.toNat + 0) - 96).toInt64; rw [Nat.add_zero, ev_5, ← hw_137_0]; rfl) (by omega))
          · skip
            have el_32 : (32 : Int32).toInt = 32 := rfl
            rw [i_eq] at c_8
            obtain ⟨v_167, ev_167⟩ : ∃ z : Int32, x1_2 + 1 = z := ⟨_, rfl⟩
            have el_1 : (1 : Int32).toInt = 1 := rfl
            have hv_167 : v_167.toInt = x1_2.toInt + (1 : Int32).toInt := by rw [← ev_167]; exact fb_addI (by omega) (by omega)
            refine j_iinc (pc := 44) (v := v_167) (lv' := [(2, .int v_167), (3, .int v_5), (1, .int x1_1), (0, .ref m0)]) C dX11_cutAll_44 1 rfl ev_167 (by decide) rfl ?_
            refine j_goto (pc := 47) (tgt := 17) C dX11_cutAll_47 (by decide) ?_
            have el_10 : (10 : Int32).toInt = 10 := rfl
            have el_32 : (32 : Int32).toInt = 32 := rfl
            exact j_lv [0, 2, 3] rfl (ih_1 v_167 x1_1 g1_msort g1_mplace g1_mvalue (by omega) hi_1_1 hi_1_3 (by omega) (CA.blank hq_1_0 (by omega) (by omega) (by rw [ev_5]; exact decide_eq_true (by omega)) (by omega)) (by omega))
  have el_0 : (0 : Int32).toInt = 0 := rfl
  have el_0 : (0 : Int32).toInt = 0 := rfl
  exact j_lv [0, 1, 2] rfl (loop_1 4096 0 0 m_sort m_place m_value (by decide) (by decide) h_m_place (by omega) (CA.zero rfl rfl) (by omega))
