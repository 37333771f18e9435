theorem wd_211 : Cond.fieldLink RJ0 1053 "jdk/internal/util/Preconditions" "SIOOBE_FORMATTER" "Ljava/util/function/BiFunction;" ∈ WALL := wl_in (by decide +kernel) (by decide +kernel)
theorem wd_212 : Cond.code yJ3_checkIndex_8e157 cJ3_checkIndex_8e157 3 (some .int) ∈ WALL := wl_in (by decide +kernel) (by decide +kernel)
theorem wd_213 : Cond.initialized RJ3 ∈ WALL := wl_in (by decide +kernel) (by decide +kernel)
theorem wd_214 : Cond.methodLink RJ0 1059 yJ3_checkIndex_8e157 ∈ WALL := wl_in (by decide +kernel) (by decide +kernel)
theorem wd_215 : Cond.static yJ3_checkIndex_8e157 ∈ WALL := wl_in (by decide +kernel) (by decide +kernel)
theorem wd_216 : Cond.fieldLink RJ0 38 "java/lang/String" "COMPACT_STRINGS" "Z" ∈ WALL := wl_in (by decide +kernel) (by decide +kernel)
theorem wd_217 : Cond.fieldLink RJ0 15 "java/lang/String" "coder" "B" ∈ WALL := wl_in (by decide +kernel) (by decide +kernel)
theorem wd_218 : Cond.fieldLink RJ0 9 "java/lang/String" "value" "[B" ∈ WALL := wl_in (by decide +kernel) (by decide +kernel)
theorem wd_219 : Cond.code yJ0_coder_7d493 cJ0_coder_7d493 1 (some .byte) ∈ WALL := wl_in (by decide +kernel) (by decide +kernel)
theorem wd_220 : Cond.initialized RJ0 ∈ WALL := wl_in (by decide +kernel) (by decide +kernel)
theorem wd_221 : Cond.methodLink RJ0 335 yJ0_coder_7d493 ∈ WALL := wl_in (by decide +kernel) (by decide +kernel)
theorem wd_222 : Cond.instanceMethod yJ0_coder_7d493 ∈ WALL := wl_in (by decide +kernel) (by decide +kernel)
theorem wd_223 : Cond.selects RJ0 yJ0_coder_7d493 yJ0_coder_7d493 ∈ WALL := wl_in (by decide +kernel) (by decide +kernel)
theorem wd_224 : Cond.code yJ0_checkIndex_df160 cJ0_checkIndex_df160 2 none ∈ WALL := wl_in (by decide +kernel) (by decide +kernel)
theorem wd_225 : Cond.methodLink RJ1 9 yJ0_checkIndex_df160 ∈ WALL := wl_in (by decide +kernel) (by decide +kernel)
theorem wd_226 : Cond.static yJ0_checkIndex_df160 ∈ WALL := wl_in (by decide +kernel) (by decide +kernel)
theorem wd_227 : Cond.code yJ0_isLatin1_aae02 cJ0_isLatin1_aae02 1 (some .boolean) ∈ WALL := wl_in (by decide +kernel) (by decide +kernel)
theorem wd_228 : Cond.methodLink RJ0 492 yJ0_isLatin1_aae02 ∈ WALL := wl_in (by decide +kernel) (by decide +kernel)
theorem wd_229 : Cond.instanceMethod yJ0_isLatin1_aae02 ∈ WALL := wl_in (by decide +kernel) (by decide +kernel)
theorem wd_230 : Cond.selects RJ0 yJ0_isLatin1_aae02 yJ0_isLatin1_aae02 ∈ WALL := wl_in (by decide +kernel) (by decide +kernel)
theorem wd_231 : Cond.code yJ1_charAt_3b067 cJ1_charAt_3b067 2 (some .char) ∈ WALL := wl_in (by decide +kernel) (by decide +kernel)
theorem wd_232 : Cond.initialized RJ1 ∈ WALL := wl_in (by decide +kernel) (by decide +kernel)
theorem wd_233 : Cond.methodLink RJ0 495 yJ1_charAt_3b067 ∈ WALL := wl_in (by decide +kernel) (by decide +kernel)
theorem wd_234 : Cond.static yJ1_charAt_3b067 ∈ WALL := wl_in (by decide +kernel) (by decide +kernel)
theorem wd_235 : Cond.code yJ1_canEncode_9a6ad cJ1_canEncode_9a6ad 1 (some .boolean) ∈ WALL := wl_in (by decide +kernel) (by decide +kernel)
theorem wd_236 : Cond.methodLink RJ1 88 yJ1_canEncode_9a6ad ∈ WALL := wl_in (by decide +kernel) (by decide +kernel)
theorem wd_237 : Cond.static yJ1_canEncode_9a6ad ∈ WALL := wl_in (by decide +kernel) (by decide +kernel)
theorem wd_238 : Cond.methodLink RJ1 92 Lib.Math.max.name ∈ WALL := wl_in (by decide +kernel) (by decide +kernel)
theorem wd_239 : Cond.methodLink RJ1 38 Lib.Math.min.name ∈ WALL := wl_in (by decide +kernel) (by decide +kernel)
theorem wd_240 : Cond.code yJ1_indexOfChar_4cfef cJ1_indexOfChar_4cfef 6 (some .int) ∈ WALL := wl_in (by decide +kernel) (by decide +kernel)
theorem wd_241 : Cond.methodLink RJ1 95 yJ1_indexOfChar_4cfef ∈ WALL := wl_in (by decide +kernel) (by decide +kernel)
theorem wd_242 : Cond.static yJ1_indexOfChar_4cfef ∈ WALL := wl_in (by decide +kernel) (by decide +kernel)
theorem wd_243 : Cond.code yJ0_length_8abf5 cJ0_length_8abf5 1 (some .int) ∈ WALL := wl_in (by decide +kernel) (by decide +kernel)
theorem wd_244 : Cond.methodLink RJ0 505 yJ0_length_8abf5 ∈ WALL := wl_in (by decide +kernel) (by decide +kernel)
theorem wd_245 : Cond.instanceMethod yJ0_length_8abf5 ∈ WALL := wl_in (by decide +kernel) (by decide +kernel)
theorem wd_246 : Cond.selects RJ0 yJ0_length_8abf5 yJ0_length_8abf5 ∈ WALL := wl_in (by decide +kernel) (by decide +kernel)
theorem wd_247 : Cond.code yJ1_indexOf_4cfef cJ1_indexOf_4cfef 4 (some .int) ∈ WALL := wl_in (by decide +kernel) (by decide +kernel)
theorem wd_248 : Cond.methodLink RJ0 637 yJ1_indexOf_4cfef ∈ WALL := wl_in (by decide +kernel) (by decide +kernel)
theorem wd_249 : Cond.static yJ1_indexOf_4cfef ∈ WALL := wl_in (by decide +kernel) (by decide +kernel)
theorem wd_250 : Cond.code yJ0_indexOf_7cf53 cJ0_indexOf_7cf53 3 (some .int) ∈ WALL := wl_in (by decide +kernel) (by decide +kernel)
theorem wd_251 : Cond.methodLink RJ0 633 yJ0_indexOf_7cf53 ∈ WALL := wl_in (by decide +kernel) (by decide +kernel)
theorem wd_252 : Cond.instanceMethod yJ0_indexOf_7cf53 ∈ WALL := wl_in (by decide +kernel) (by decide +kernel)
theorem wd_253 : Cond.selects RJ0 yJ0_indexOf_7cf53 yJ0_indexOf_7cf53 ∈ WALL := wl_in (by decide +kernel) (by decide +kernel)
theorem dJ3_checkIndex_8e157_0 : decode cJ3_checkIndex_8e157 0 = .ok (.iload_n 0, 1) := by decide +kernel
theorem dJ3_checkIndex_8e157_1 : decode cJ3_checkIndex_8e157 1 = .ok (.ifCond .lt 8, 3) := by decide +kernel
theorem dJ3_checkIndex_8e157_4 : decode cJ3_checkIndex_8e157 4 = .ok (.iload_n 0, 1) := by decide +kernel
theorem dJ3_checkIndex_8e157_5 : decode cJ3_checkIndex_8e157 5 = .ok (.iload_n 1, 1) := by decide +kernel
theorem dJ3_checkIndex_8e157_6 : decode cJ3_checkIndex_8e157 6 = .ok (.if_icmp .lt 10, 3) := by decide +kernel
theorem dJ3_checkIndex_8e157_16 : decode cJ3_checkIndex_8e157 16 = .ok (.iload_n 0, 1) := by decide +kernel
theorem dJ3_checkIndex_8e157_17 : decode cJ3_checkIndex_8e157 17 = .ok (.ireturn, 1) := by decide +kernel
theorem dJ0_checkIndex_df160_0 : decode cJ0_checkIndex_df160 0 = .ok (.iload_n 0, 1) := by decide +kernel
theorem dJ0_checkIndex_df160_1 : decode cJ0_checkIndex_df160 1 = .ok (.iload_n 1, 1) := by decide +kernel
theorem dJ0_checkIndex_df160_2 : decode cJ0_checkIndex_df160 2 = .ok (.getstatic 1053, 3) := by decide +kernel
theorem dJ0_checkIndex_df160_5 : decode cJ0_checkIndex_df160 5 = .ok (.invokestatic 1059, 3) := by decide +kernel
theorem dJ0_checkIndex_df160_8 : decode cJ0_checkIndex_df160 8 = .ok (.pop, 1) := by decide +kernel
theorem dJ0_checkIndex_df160_9 : decode cJ0_checkIndex_df160 9 = .ok (.return_, 1) := by decide +kernel
theorem dJ0_coder_7d493_0 : decode cJ0_coder_7d493 0 = .ok (.getstatic 38, 3) := by decide +kernel
theorem dJ0_coder_7d493_3 : decode cJ0_coder_7d493 3 = .ok (.ifCond .eq 10, 3) := by decide +kernel
theorem dJ0_coder_7d493_6 : decode cJ0_coder_7d493 6 = .ok (.aload_n 0, 1) := by decide +kernel
theorem dJ0_coder_7d493_7 : decode cJ0_coder_7d493 7 = .ok (.getfield 15, 3) := by decide +kernel
theorem dJ0_coder_7d493_10 : decode cJ0_coder_7d493 10 = .ok (.goto 4, 3) := by decide +kernel
theorem dJ0_coder_7d493_14 : decode cJ0_coder_7d493 14 = .ok (.ireturn, 1) := by decide +kernel
theorem dJ0_isLatin1_aae02_0 : decode cJ0_isLatin1_aae02 0 = .ok (.getstatic 38, 3) := by decide +kernel
theorem dJ0_isLatin1_aae02_3 : decode cJ0_isLatin1_aae02 3 = .ok (.ifCond .eq 14, 3) := by decide +kernel
theorem dJ0_isLatin1_aae02_6 : decode cJ0_isLatin1_aae02 6 = .ok (.aload_n 0, 1) := by decide +kernel
theorem dJ0_isLatin1_aae02_7 : decode cJ0_isLatin1_aae02 7 = .ok (.getfield 15, 3) := by decide +kernel
theorem dJ0_isLatin1_aae02_10 : decode cJ0_isLatin1_aae02 10 = .ok (.ifCond .ne 7, 3) := by decide +kernel
theorem dJ0_isLatin1_aae02_13 : decode cJ0_isLatin1_aae02 13 = .ok (.iconst 1, 1) := by decide +kernel
theorem dJ0_isLatin1_aae02_14 : decode cJ0_isLatin1_aae02 14 = .ok (.goto 4, 3) := by decide +kernel
theorem dJ0_isLatin1_aae02_18 : decode cJ0_isLatin1_aae02 18 = .ok (.ireturn, 1) := by decide +kernel
theorem dJ0_length_8abf5_0 : decode cJ0_length_8abf5 0 = .ok (.aload_n 0, 1) := by decide +kernel
theorem dJ0_length_8abf5_1 : decode cJ0_length_8abf5 1 = .ok (.getfield 9, 3) := by decide +kernel
theorem dJ0_length_8abf5_4 : decode cJ0_length_8abf5 4 = .ok (.arraylength, 1) := by decide +kernel
theorem dJ0_length_8abf5_5 : decode cJ0_length_8abf5 5 = .ok (.aload_n 0, 1) := by decide +kernel
theorem dJ0_length_8abf5_6 : decode cJ0_length_8abf5 6 = .ok (.invokevirtual 335, 3) := by decide +kernel
theorem dJ0_length_8abf5_9 : decode cJ0_length_8abf5 9 = .ok (.ishr, 1) := by decide +kernel
theorem dJ0_length_8abf5_10 : decode cJ0_length_8abf5 10 = .ok (.ireturn, 1) := by decide +kernel
theorem dJ1_charAt_3b067_0 : decode cJ1_charAt_3b067 0 = .ok (.iload_n 1, 1) := by decide +kernel
theorem dJ1_charAt_3b067_1 : decode cJ1_charAt_3b067 1 = .ok (.aload_n 0, 1) := by decide +kernel
theorem dJ1_charAt_3b067_2 : decode cJ1_charAt_3b067 2 = .ok (.arraylength, 1) := by decide +kernel
theorem dJ1_charAt_3b067_3 : decode cJ1_charAt_3b067 3 = .ok (.invokestatic 9, 3) := by decide +kernel
theorem dJ1_charAt_3b067_6 : decode cJ1_charAt_3b067 6 = .ok (.aload_n 0, 1) := by decide +kernel
theorem dJ1_charAt_3b067_7 : decode cJ1_charAt_3b067 7 = .ok (.iload_n 1, 1) := by decide +kernel
theorem dJ1_charAt_3b067_8 : decode cJ1_charAt_3b067 8 = .ok (.baload, 1) := by decide +kernel
theorem dJ1_charAt_3b067_9 : decode cJ1_charAt_3b067 9 = .ok (.sipush 255, 3) := by decide +kernel
theorem dJ1_charAt_3b067_12 : decode cJ1_charAt_3b067 12 = .ok (.iand, 1) := by decide +kernel
theorem dJ1_charAt_3b067_13 : decode cJ1_charAt_3b067 13 = .ok (.i2c, 1) := by decide +kernel
theorem dJ1_charAt_3b067_14 : decode cJ1_charAt_3b067 14 = .ok (.ireturn, 1) := by decide +kernel
theorem dJ0_charAt_5068e_0 : decode cJ0_charAt_5068e 0 = .ok (.aload_n 0, 1) := by decide +kernel
theorem dJ0_charAt_5068e_1 : decode cJ0_charAt_5068e 1 = .ok (.invokevirtual 492, 3) := by decide +kernel
theorem dJ0_charAt_5068e_4 : decode cJ0_charAt_5068e 4 = .ok (.ifCond .eq 12, 3) := by decide +kernel
theorem dJ0_charAt_5068e_7 : decode cJ0_charAt_5068e 7 = .ok (.aload_n 0, 1) := by decide +kernel
theorem dJ0_charAt_5068e_8 : decode cJ0_charAt_5068e 8 = .ok (.getfield 9, 3) := by decide +kernel
theorem dJ0_charAt_5068e_11 : decode cJ0_charAt_5068e 11 = .ok (.iload_n 1, 1) := by decide +kernel
theorem dJ0_charAt_5068e_12 : decode cJ0_charAt_5068e 12 = .ok (.invokestatic 495, 3) := by decide +kernel
theorem dJ0_charAt_5068e_15 : decode cJ0_charAt_5068e 15 = .ok (.ireturn, 1) := by decide +kernel
theorem dJ1_canEncode_9a6ad_0 : decode cJ1_canEncode_9a6ad 0 = .ok (.iload_n 0, 1) := by decide +kernel
theorem dJ1_canEncode_9a6ad_1 : decode cJ1_canEncode_9a6ad 1 = .ok (.ifCond .lt 14, 3) := by decide +kernel
theorem dJ1_canEncode_9a6ad_4 : decode cJ1_canEncode_9a6ad 4 = .ok (.iload_n 0, 1) := by decide +kernel
theorem dJ1_canEncode_9a6ad_5 : decode cJ1_canEncode_9a6ad 5 = .ok (.sipush 255, 3) := by decide +kernel
theorem dJ1_canEncode_9a6ad_8 : decode cJ1_canEncode_9a6ad 8 = .ok (.if_icmp .gt 7, 3) := by decide +kernel
theorem dJ1_canEncode_9a6ad_11 : decode cJ1_canEncode_9a6ad 11 = .ok (.iconst 1, 1) := by decide +kernel
theorem dJ1_canEncode_9a6ad_12 : decode cJ1_canEncode_9a6ad 12 = .ok (.goto 4, 3) := by decide +kernel
theorem dJ1_canEncode_9a6ad_15 : decode cJ1_canEncode_9a6ad 15 = .ok (.iconst 0, 1) := by decide +kernel
theorem dJ1_canEncode_9a6ad_16 : decode cJ1_canEncode_9a6ad 16 = .ok (.ireturn, 1) := by decide +kernel
theorem dJ1_indexOfChar_4cfef_0 : decode cJ1_indexOfChar_4cfef 0 = .ok (.iload_n 1, 1) := by decide +kernel
theorem dJ1_indexOfChar_4cfef_1 : decode cJ1_indexOfChar_4cfef 1 = .ok (.i2b, 1) := by decide +kernel
theorem dJ1_indexOfChar_4cfef_2 : decode cJ1_indexOfChar_4cfef 2 = .ok (.istore 4, 2) := by decide +kernel
theorem dJ1_indexOfChar_4cfef_4 : decode cJ1_indexOfChar_4cfef 4 = .ok (.iload_n 2, 1) := by decide +kernel
theorem dJ1_indexOfChar_4cfef_5 : decode cJ1_indexOfChar_4cfef 5 = .ok (.istore 5, 2) := by decide +kernel
theorem dJ1_indexOfChar_4cfef_7 : decode cJ1_indexOfChar_4cfef 7 = .ok (.iload 5, 2) := by decide +kernel
theorem dJ1_indexOfChar_4cfef_9 : decode cJ1_indexOfChar_4cfef 9 = .ok (.iload_n 3, 1) := by decide +kernel
theorem dJ1_indexOfChar_4cfef_10 : decode cJ1_indexOfChar_4cfef 10 = .ok (.if_icmp .ge 21, 3) := by decide +kernel
theorem dJ1_indexOfChar_4cfef_13 : decode cJ1_indexOfChar_4cfef 13 = .ok (.aload_n 0, 1) := by decide +kernel
theorem dJ1_indexOfChar_4cfef_14 : decode cJ1_indexOfChar_4cfef 14 = .ok (.iload 5, 2) := by decide +kernel
theorem dJ1_indexOfChar_4cfef_16 : decode cJ1_indexOfChar_4cfef 16 = .ok (.baload, 1) := by decide +kernel
theorem dJ1_indexOfChar_4cfef_17 : decode cJ1_indexOfChar_4cfef 17 = .ok (.iload 4, 2) := by decide +kernel
theorem dJ1_indexOfChar_4cfef_19 : decode cJ1_indexOfChar_4cfef 19 = .ok (.if_icmp .ne 6, 3) := by decide +kernel
theorem dJ1_indexOfChar_4cfef_22 : decode cJ1_indexOfChar_4cfef 22 = .ok (.iload 5, 2) := by decide +kernel
theorem dJ1_indexOfChar_4cfef_24 : decode cJ1_indexOfChar_4cfef 24 = .ok (.ireturn, 1) := by decide +kernel
theorem dJ1_indexOfChar_4cfef_25 : decode cJ1_indexOfChar_4cfef 25 = .ok (.iinc 5 1, 3) := by decide +kernel
theorem dJ1_indexOfChar_4cfef_28 : decode cJ1_indexOfChar_4cfef 28 = .ok (.goto (-21), 3) := by decide +kernel
theorem dJ1_indexOfChar_4cfef_31 : decode cJ1_indexOfChar_4cfef 31 = .ok (.iconst (-1), 1) := by decide +kernel
theorem dJ1_indexOfChar_4cfef_32 : decode cJ1_indexOfChar_4cfef 32 = .ok (.ireturn, 1) := by decide +kernel
theorem dJ1_indexOf_4cfef_0 : decode cJ1_indexOf_4cfef 0 = .ok (.iload_n 1, 1) := by decide +kernel
theorem dJ1_indexOf_4cfef_1 : decode cJ1_indexOf_4cfef 1 = .ok (.invokestatic 88, 3) := by decide +kernel
theorem dJ1_indexOf_4cfef_4 : decode cJ1_indexOf_4cfef 4 = .ok (.ifCond .ne 5, 3) := by decide +kernel
theorem dJ1_indexOf_4cfef_7 : decode cJ1_indexOf_4cfef 7 = .ok (.iconst (-1), 1) := by decide +kernel
theorem dJ1_indexOf_4cfef_8 : decode cJ1_indexOf_4cfef 8 = .ok (.ireturn, 1) := by decide +kernel
theorem dJ1_indexOf_4cfef_9 : decode cJ1_indexOf_4cfef 9 = .ok (.iload_n 2, 1) := by decide +kernel
theorem dJ1_indexOf_4cfef_10 : decode cJ1_indexOf_4cfef 10 = .ok (.iconst 0, 1) := by decide +kernel
theorem dJ1_indexOf_4cfef_11 : decode cJ1_indexOf_4cfef 11 = .ok (.invokestatic 92, 3) := by decide +kernel
theorem dJ1_indexOf_4cfef_14 : decode cJ1_indexOf_4cfef 14 = .ok (.istore_n 2, 1) := by decide +kernel
theorem dJ1_indexOf_4cfef_15 : decode cJ1_indexOf_4cfef 15 = .ok (.iload_n 3, 1) := by decide +kernel
theorem dJ1_indexOf_4cfef_16 : decode cJ1_indexOf_4cfef 16 = .ok (.aload_n 0, 1) := by decide +kernel
theorem dJ1_indexOf_4cfef_17 : decode cJ1_indexOf_4cfef 17 = .ok (.arraylength, 1) := by decide +kernel
theorem dJ1_indexOf_4cfef_18 : decode cJ1_indexOf_4cfef 18 = .ok (.invokestatic 38, 3) := by decide +kernel
theorem dJ1_indexOf_4cfef_21 : decode cJ1_indexOf_4cfef 21 = .ok (.istore_n 3, 1) := by decide +kernel
theorem dJ1_indexOf_4cfef_22 : decode cJ1_indexOf_4cfef 22 = .ok (.iload_n 2, 1) := by decide +kernel
theorem dJ1_indexOf_4cfef_23 : decode cJ1_indexOf_4cfef 23 = .ok (.iload_n 3, 1) := by decide +kernel
theorem dJ1_indexOf_4cfef_24 : decode cJ1_indexOf_4cfef 24 = .ok (.if_icmp .lt 5, 3) := by decide +kernel
theorem dJ1_indexOf_4cfef_27 : decode cJ1_indexOf_4cfef 27 = .ok (.iconst (-1), 1) := by decide +kernel
theorem dJ1_indexOf_4cfef_28 : decode cJ1_indexOf_4cfef 28 = .ok (.ireturn, 1) := by decide +kernel
theorem dJ1_indexOf_4cfef_29 : decode cJ1_indexOf_4cfef 29 = .ok (.aload_n 0, 1) := by decide +kernel
theorem dJ1_indexOf_4cfef_30 : decode cJ1_indexOf_4cfef 30 = .ok (.iload_n 1, 1) := by decide +kernel
theorem dJ1_indexOf_4cfef_31 : decode cJ1_indexOf_4cfef 31 = .ok (.iload_n 2, 1) := by decide +kernel
theorem dJ1_indexOf_4cfef_32 : decode cJ1_indexOf_4cfef 32 = .ok (.iload_n 3, 1) := by decide +kernel
theorem dJ1_indexOf_4cfef_33 : decode cJ1_indexOf_4cfef 33 = .ok (.invokestatic 95, 3) := by decide +kernel
theorem dJ1_indexOf_4cfef_36 : decode cJ1_indexOf_4cfef 36 = .ok (.ireturn, 1) := by decide +kernel
theorem dJ0_indexOf_7cf53_0 : decode cJ0_indexOf_7cf53 0 = .ok (.aload_n 0, 1) := by decide +kernel
theorem dJ0_indexOf_7cf53_1 : decode cJ0_indexOf_7cf53 1 = .ok (.invokevirtual 492, 3) := by decide +kernel
theorem dJ0_indexOf_7cf53_4 : decode cJ0_indexOf_7cf53 4 = .ok (.ifCond .eq 19, 3) := by decide +kernel
theorem dJ0_indexOf_7cf53_7 : decode cJ0_indexOf_7cf53 7 = .ok (.aload_n 0, 1) := by decide +kernel
theorem dJ0_indexOf_7cf53_8 : decode cJ0_indexOf_7cf53 8 = .ok (.getfield 9, 3) := by decide +kernel
theorem dJ0_indexOf_7cf53_11 : decode cJ0_indexOf_7cf53 11 = .ok (.iload_n 1, 1) := by decide +kernel
theorem dJ0_indexOf_7cf53_12 : decode cJ0_indexOf_7cf53 12 = .ok (.iload_n 2, 1) := by decide +kernel
theorem dJ0_indexOf_7cf53_13 : decode cJ0_indexOf_7cf53 13 = .ok (.aload_n 0, 1) := by decide +kernel
theorem dJ0_indexOf_7cf53_14 : decode cJ0_indexOf_7cf53 14 = .ok (.invokevirtual 505, 3) := by decide +kernel
theorem dJ0_indexOf_7cf53_17 : decode cJ0_indexOf_7cf53 17 = .ok (.invokestatic 637, 3) := by decide +kernel
theorem dJ0_indexOf_7cf53_20 : decode cJ0_indexOf_7cf53 20 = .ok (.goto 16, 3) := by decide +kernel
theorem dJ0_indexOf_7cf53_36 : decode cJ0_indexOf_7cf53 36 = .ok (.ireturn, 1) := by decide +kernel
theorem dJ0_indexOf_0f7a4_0 : decode cJ0_indexOf_0f7a4 0 = .ok (.aload_n 0, 1) := by decide +kernel
theorem dJ0_indexOf_0f7a4_1 : decode cJ0_indexOf_0f7a4 1 = .ok (.iload_n 1, 1) := by decide +kernel
theorem dJ0_indexOf_0f7a4_2 : decode cJ0_indexOf_0f7a4 2 = .ok (.iconst 0, 1) := by decide +kernel
theorem dJ0_indexOf_0f7a4_3 : decode cJ0_indexOf_0f7a4 3 = .ok (.invokevirtual 633, 3) := by decide +kernel
theorem dJ0_indexOf_0f7a4_6 : decode cJ0_indexOf_0f7a4 6 = .ok (.ireturn, 1) := by decide +kernel
theorem nc_16 {x : Int32} (h0 : 0 ≤ x.toInt) (h1 : x.toInt ≤ 65535) : narrow .char (.int x) = .int x := by
  show Value.int _ = Value.int x
  congr 1
  exact i2c_id h0 h1
set_option maxHeartbeats 4000000 in
set_option maxRecDepth 100000 in
theorem c_J3_checkIndex_n (l : Launch) (D : DG) (cyC cyI cyJ cyZ cyO : ClassId) (p0 : Int32) (p1 : Int32) (h_p0 : 0 ≤ (p0).toInt ∧ (p0).toInt ≤ 2147483647) (hlt : (p0).toInt < (p1).toInt) : KK l D (TY cyC cyI cyJ cyZ cyO) yJ3_checkIndex_8e157 cJ3_checkIndex_8e157 3 (some .int) ({ frames := 0, cells := 0, slots := 0, locals := 0 } : Room) 0 0 [.int p0, .int p1, .null] [] (fun u => some (.int p0)) (fun u => True) (fun u => []) := by
  refine KK.of (lv0 := [(0, .int p0), (1, .int p1), (2, .null)]) (by decide) rfl (Nat.le_of_ble_eq_true rfl) ?_
  intro p e s m args below meth c A C hr hk hin
  refine j_iload_n (pc := 0) C dJ3_checkIndex_8e157_0 rfl 0 rfl ?_
  have el_0 : (0 : Int32).toInt = 0 := rfl
  refine j_if_lt_f (pc := 1) (tgt := 9) C dJ3_checkIndex_8e157_1 (by decide) (by rw [i_lt]; omega) ?_
  refine j_iload_n (pc := 4) C dJ3_checkIndex_8e157_4 rfl 0 rfl ?_
  refine j_iload_n (pc := 5) C dJ3_checkIndex_8e157_5 rfl 1 rfl ?_
  refine j_icmp_lt_t (pc := 6) (tgt := 16) C dJ3_checkIndex_8e157_6 (by decide) (by rw [i_lt]; omega) ?_
  refine j_iload_n (pc := 16) C dJ3_checkIndex_8e157_16 rfl 0 rfl ?_
  exact j_iret (pc := 17) C hr hk (fun i => [].getD i 0, fun i => [].getD i 0, fun i => [].getD i (fun _ => 0), fun i => [].getD i (fun _ => 0)) rfl trivial [] (by decide) rfl (by decide) (by decide) dJ3_checkIndex_8e157_17
set_option maxHeartbeats 4000000 in
set_option maxRecDepth 100000 in
theorem c_J3_checkIndex_r (l : Launch) (D : DG) (cyC cyI cyJ cyZ cyO : ClassId) (k0 : Nat) (p0 : Int32) (p1 : Int32) (h_p0 : 0 ≤ (p0).toInt ∧ (p0).toInt ≤ 2147483647) (hlt : (p0).toInt < (p1).toInt) : KK l D (TY cyC cyI cyJ cyZ cyO) yJ3_checkIndex_8e157 cJ3_checkIndex_8e157 3 (some .int) ({ frames := 0, cells := 0, slots := 0, locals := 0 } : Room) 0 0 [.int p0, .int p1, .ref k0] [] (fun u => some (.int p0)) (fun u => True) (fun u => []) := by
  refine KK.of (lv0 := [(0, .int p0), (1, .int p1), (2, .ref k0)]) (by decide) rfl (Nat.le_of_ble_eq_true rfl) ?_
  intro p e s m args below meth c A C hr hk hin
  refine j_iload_n (pc := 0) C dJ3_checkIndex_8e157_0 rfl 0 rfl ?_
  have el_0 : (0 : Int32).toInt = 0 := rfl
  refine j_if_lt_f (pc := 1) (tgt := 9) C dJ3_checkIndex_8e157_1 (by decide) (by rw [i_lt]; omega) ?_
  refine j_iload_n (pc := 4) C dJ3_checkIndex_8e157_4 rfl 0 rfl ?_
  refine j_iload_n (pc := 5) C dJ3_checkIndex_8e157_5 rfl 1 rfl ?_
  refine j_icmp_lt_t (pc := 6) (tgt := 16) C dJ3_checkIndex_8e157_6 (by decide) (by rw [i_lt]; omega) ?_
  refine j_iload_n (pc := 16) C dJ3_checkIndex_8e157_16 rfl 0 rfl ?_
  exact j_iret (pc := 17) C hr hk (fun i => [].getD i 0, fun i => [].getD i 0, fun i => [].getD i (fun _ => 0), fun i => [].getD i (fun _ => 0)) rfl trivial [] (by decide) rfl (by decide) (by decide) dJ3_checkIndex_8e157_17
set_option maxHeartbeats 4000000 in
set_option maxRecDepth 100000 in
theorem c_J0_checkIndex_df160 (l : Launch) (D : DG) (cyC cyI cyJ cyZ cyO : ClassId) (p0 : Int32) (p1 : Int32) (h_p0 : 0 ≤ (p0).toInt ∧ (p0).toInt ≤ 2147483647) (hlt : (p0).toInt < (p1).toInt) : KK l D (TY cyC cyI cyJ cyZ cyO) yJ0_checkIndex_df160 cJ0_checkIndex_df160 2 none ({ frames := 1, cells := 0, slots := 0, locals := 22 } : Room) 0 0 [.int p0, .int p1] [] (fun u => none) (fun u => True) (fun u => []) := by
  refine KK.of (lv0 := [(0, .int p0), (1, .int p1)]) (by decide) rfl (Nat.le_of_ble_eq_true rfl) ?_
  intro p e s m args below meth c A C hr hk hin
  refine j_iload_n (pc := 0) C dJ0_checkIndex_df160_0 rfl 0 rfl ?_
  refine j_iload_n (pc := 1) C dJ0_checkIndex_df160_1 rfl 1 rfl ?_
  refine j_getsF (pc := 2) C wd_211 dJ0_checkIndex_df160_2 ?_
  rcases C.2.2.2.2.2.2.1.2.2.2.2.2 with hz9 | ⟨t9, hz9⟩
  · skip
    refine j_eq (ws2 := []) (pc2 := 5) (lv2 := [(0, .int p0), (1, .int p1)]) (st2 := [.null, .int p1, .int p0]) rfl rfl rfl (by rw [hz9]) ?_
    refine j_callS (pc := 5) (As := [.int p0, .int p1, .null]) (rest := []) (wr := []) C (c_J3_checkIndex_n l D cyC cyI cyJ cyZ cyO p0 p1 h_p0 hlt) wd_212 wd_213 wd_214 wd_215 ⟨by decide, by decide, rfl⟩ rfl ⟨rfl, rfl, by decide, by decide⟩ ⟨by decide, by decide⟩ [] [] rfl rfl ⟨by decide, by decide, by decide⟩ rfl (Nat.le_of_ble_eq_true rfl) dJ0_checkIndex_df160_5 (fun u_1 hw_2 => ?_)
    refine j_eq (ws2 := []) (pc2 := 8) (lv2 := [(0, .int p0), (1, .int p1)]) (st2 := [.int p0]) rfl rfl rfl rfl ?_
    refine j_pop (pc := 8) C dJ0_checkIndex_df160_8 rfl ?_
    exact j_vret (pc := 9) C hr hk (fun i => [].getD i 0, fun i => [].getD i 0, fun i => [].getD i (fun _ => 0), fun i => [].getD i (fun _ => 0)) rfl trivial [] (by decide) rfl (by decide) (by decide) dJ0_checkIndex_df160_9
  · skip
    refine j_eq (ws2 := []) (pc2 := 5) (lv2 := [(0, .int p0), (1, .int p1)]) (st2 := [.ref t9, .int p1, .int p0]) rfl rfl rfl (by rw [hz9]) ?_
    refine j_callS (pc := 5) (As := [.int p0, .int p1, .ref t9]) (rest := []) (wr := []) C (c_J3_checkIndex_r l D cyC cyI cyJ cyZ cyO t9 p0 p1 h_p0 hlt) wd_212 wd_213 wd_214 wd_215 ⟨by decide, by decide, rfl⟩ rfl ⟨rfl, rfl, by decide, by decide⟩ ⟨by decide, by decide⟩ [] [] rfl rfl ⟨by decide, by decide, by decide⟩ rfl (Nat.le_of_ble_eq_true rfl) dJ0_checkIndex_df160_5 (fun u_3 hw_4 => ?_)
    refine j_eq (ws2 := []) (pc2 := 8) (lv2 := [(0, .int p0), (1, .int p1)]) (st2 := [.int p0]) rfl rfl rfl rfl ?_
    refine j_pop (pc := 8) C dJ0_checkIndex_df160_8 rfl ?_
    exact j_vret (pc := 9) C hr hk (fun i => [].getD i 0, fun i => [].getD i 0, fun i => [].getD i (fun _ => 0), fun i => [].getD i (fun _ => 0)) rfl trivial [] (by decide) rfl (by decide) (by decide) dJ0_checkIndex_df160_9
set_option maxHeartbeats 4000000 in
set_option maxRecDepth 100000 in
theorem c_J0_coder_7d493 (l : Launch) (D : DG) (cyC cyI cyJ cyZ cyO : ClassId) (i : Nat) (hi_lit : i < 43) : KK l D (TY cyC cyI cyJ cyZ cyO) yJ0_coder_7d493 cJ0_coder_7d493 1 (some .byte) ({ frames := 0, cells := 0, slots := 0, locals := 0 } : Room) 0 0 [.ref (D.2.1 i)] [] (fun u => some (.int 0)) (fun u => True) (fun u => []) := by
  refine KK.of (lv0 := [(0, .ref (D.2.1 i))]) (by decide) rfl (Nat.le_of_ble_eq_true rfl) ?_
  intro p e s m args below meth c A C hr hk hin
  refine j_getsC (pc := 0) C wd_216 dJ0_coder_7d493_0 ?_
  refine j_if_eq_f (pc := 3) (tgt := 13) C dJ0_coder_7d493_3 (by decide) (by decide) ?_
  refine j_aload_n (pc := 6) C dJ0_coder_7d493_6 rfl 0 rfl ?_
  refine j_sgetC (pc := 7) C hi_lit wd_217 dJ0_coder_7d493_7 ?_
  refine j_goto (pc := 10) (tgt := 14) C dJ0_coder_7d493_10 (by decide) ?_
  exact j_zret (pc := 14) C hr rfl hk (fun i => [].getD i 0, fun i => [].getD i 0, fun i => [].getD i (fun _ => 0), fun i => [].getD i (fun _ => 0)) rfl trivial [] (by decide) rfl (by decide) (by decide) dJ0_coder_7d493_14
set_option maxHeartbeats 4000000 in
set_option maxRecDepth 100000 in
theorem c_J0_isLatin1_aae02 (l : Launch) (D : DG) (cyC cyI cyJ cyZ cyO : ClassId) (i : Nat) (hi_lit : i < 43) : KK l D (TY cyC cyI cyJ cyZ cyO) yJ0_isLatin1_aae02 cJ0_isLatin1_aae02 1 (some .boolean) ({ frames := 0, cells := 0, slots := 0, locals := 0 } : Room) 0 0 [.ref (D.2.1 i)] [] (fun u => some (.int 1)) (fun u => True) (fun u => []) := by
  refine KK.of (lv0 := [(0, .ref (D.2.1 i))]) (by decide) rfl (Nat.le_of_ble_eq_true rfl) ?_
  intro p e s m args below meth c A C hr hk hin
  refine j_getsC (pc := 0) C wd_216 dJ0_isLatin1_aae02_0 ?_
  refine j_if_eq_f (pc := 3) (tgt := 17) C dJ0_isLatin1_aae02_3 (by decide) (by decide) ?_
  refine j_aload_n (pc := 6) C dJ0_isLatin1_aae02_6 rfl 0 rfl ?_
  refine j_sgetC (pc := 7) C hi_lit wd_217 dJ0_isLatin1_aae02_7 ?_
  refine j_if_ne_f (pc := 10) (tgt := 17) C dJ0_isLatin1_aae02_10 (by decide) (by decide) ?_
  refine j_iconst (pc := 13) (v := 1) C dJ0_isLatin1_aae02_13 (by decide) ?_
  refine j_goto (pc := 14) (tgt := 18) C dJ0_isLatin1_aae02_14 (by decide) ?_
  exact j_zret (pc := 18) C hr rfl hk (fun i => [].getD i 0, fun i => [].getD i 0, fun i => [].getD i (fun _ => 0), fun i => [].getD i (fun _ => 0)) rfl trivial [] (by decide) rfl (by decide) (by decide) dJ0_isLatin1_aae02_18
set_option maxHeartbeats 4000000 in
set_option maxRecDepth 100000 in
theorem c_J0_length_8abf5 (l : Launch) (D : DG) (cyC cyI cyJ cyZ cyO : ClassId) (i : Nat) (hi_lit : i < 43) : KK l D (TY cyC cyI cyJ cyZ cyO) yJ0_length_8abf5 cJ0_length_8abf5 1 (some .int) ({ frames := 1, cells := 0, slots := 0, locals := 20 } : Room) 0 0 [.ref (D.2.1 i)] [] (fun u => some (.int (u.2.1 0))) (fun u => (0 ≤ (u.2.1 0).toInt ∧ (u.2.1 0).toInt ≤ 20) ∧ ((u.2.1 0).toInt = ((sL i : Nat) : Int))) (fun u => []) := by
  refine KK.of (lv0 := [(0, .ref (D.2.1 i))]) (by decide) rfl (Nat.le_of_ble_eq_true rfl) ?_
  intro p e s m args below meth c A C hr hk hin
  refine j_aload_n (pc := 0) C dJ0_length_8abf5_0 rfl 0 rfl ?_
  refine j_sgetV (pc := 1) C hi_lit wd_218 dJ0_length_8abf5_1 ?_
  obtain ⟨v_1, ev_1⟩ : ∃ z : Int32, Int32.ofNat (sL i) = z := ⟨_, rfl⟩
  have hlv_1 := sL_bd (i := i) hi_lit
  have hv_1 : v_1.toInt = (sL i : Nat) := by rw [← ev_1]; exact nI_toInt (by omega)
  refine j_sblen (pc := 4) (v := v_1) C hi_lit ev_1 dJ0_length_8abf5_4 ?_
  refine j_aload_n (pc := 5) C dJ0_length_8abf5_5 rfl 0 rfl ?_
  refine j_callT (pc := 6) (As := []) (rest := [.int v_1]) (wr := []) C (c_J0_coder_7d493 l D cyC cyI cyJ cyZ cyO i hi_lit) wd_219 wd_220 wd_221 wd_222 wd_223 ⟨by decide, by decide, rfl⟩ rfl ⟨rfl, rfl, by decide, by decide⟩ ⟨by decide, by decide⟩ [] [] rfl rfl ⟨by decide, by decide, by decide⟩ hi_lit rfl rfl (Nat.le_of_ble_eq_true rfl) dJ0_length_8abf5_6 (fun u_2 hw_3 => ?_)
  refine j_eq (ws2 := []) (pc2 := 9) (lv2 := [(0, .ref (D.2.1 i))]) (st2 := [.int 0, .int v_1]) rfl rfl rfl rfl ?_
  refine j_ishr (pc := 9) (v := v_1) C dJ0_length_8abf5_9 (shr0 _) ?_
  exact j_iret (pc := 10) C hr hk (fun i => [].getD i 0, fun i => [v_1].getD i 0, fun i => [].getD i (fun _ => 0), fun i => [].getD i (fun _ => 0)) rfl (show (0 ≤ (v_1).toInt ∧ (v_1).toInt ≤ 20) ∧ (v_1.toInt = ((sL i : Nat) : Int)) from ⟨by omega, by omega⟩) [] (by decide) rfl (by decide) (by decide) dJ0_length_8abf5_10
set_option maxHeartbeats 4000000 in
set_option maxRecDepth 100000 in
theorem c_J1_charAt_3b067 (l : Launch) (D : DG) (cyC cyI cyJ cyZ cyO : ClassId) (i : Nat) (p0 : Int32) (h_p0 : 0 ≤ (p0).toInt ∧ (p0).toInt ≤ 19) (hi_lit : i < 43) (hls : (p0).toInt < ((sL i : Nat) : Int)) : KK l D (TY cyC cyI cyJ cyZ cyO) yJ1_charAt_3b067 cJ1_charAt_3b067 2 (some .char) ({ frames := 2, cells := 0, slots := 0, locals := 43 } : Room) 0 0 [.ref (D.2.2.1 i), .int p0] [] (fun u => some (.int (u.2.1 0))) (fun u => (0 ≤ (u.2.1 0).toInt ∧ (u.2.1 0).toInt ≤ 255)) (fun u => []) := by
  refine KK.of (lv0 := [(0, .ref (D.2.2.1 i)), (1, .int p0)]) (by decide) rfl (Nat.le_of_ble_eq_true rfl) ?_
  intro p e s m args below meth c A C hr hk hin
  refine j_iload_n (pc := 0) C dJ1_charAt_3b067_0 rfl 1 rfl ?_
  refine j_aload_n (pc := 1) C dJ1_charAt_3b067_1 rfl 0 rfl ?_
  obtain ⟨v_1, ev_1⟩ : ∃ z : Int32, Int32.ofNat (sL i) = z := ⟨_, rfl⟩
  have hlv_1 := sL_bd (i := i) hi_lit
  have hv_1 : v_1.toInt = (sL i : Nat) := by rw [← ev_1]; exact nI_toInt (by omega)
  refine j_sblen (pc := 2) (v := v_1) C hi_lit ev_1 dJ1_charAt_3b067_2 ?_
  refine j_callS (pc := 3) (As := [.int p0, .int v_1]) (rest := []) (wr := []) C (c_J0_checkIndex_df160 l D cyC cyI cyJ cyZ cyO p0 v_1 (by omega) (by omega)) wd_224 wd_220 wd_225 wd_226 ⟨by decide, by decide, rfl⟩ rfl ⟨rfl, rfl, by decide, by decide⟩ ⟨by decide, by decide⟩ [] [] rfl rfl ⟨by decide, by decide, by decide⟩ rfl (Nat.le_of_ble_eq_true rfl) dJ1_charAt_3b067_3 (fun u_2 hw_3 => ?_)
  refine j_eq (ws2 := []) (pc2 := 6) (lv2 := [(0, .ref (D.2.2.1 i)), (1, .int p0)]) (st2 := []) rfl rfl rfl rfl ?_
  refine j_aload_n (pc := 6) C dJ1_charAt_3b067_6 rfl 0 rfl ?_
  refine j_iload_n (pc := 7) C dJ1_charAt_3b067_7 rfl 1 rfl ?_
  obtain ⟨v_4, ev_4⟩ : ∃ z : Int32, sB i (p0).toInt.toNat = z := ⟨_, rfl⟩
  have hv_4 := sB_bd (i := i) (k := (p0).toInt.toNat) hi_lit (by omega); rw [ev_4] at hv_4
  refine j_sbld (pc := 8) (v := v_4) (k := (p0).toInt.toNat) C hi_lit (i_nn (by omega)) rfl (by omega) ev_4 dJ1_charAt_3b067_8 ?_
  refine j_sipush (pc := 9) (v := 255) C dJ1_charAt_3b067_9 (by decide) ?_
  obtain ⟨v_5, ev_5⟩ : ∃ z : Int32, v_4 &&& 255 = z := ⟨_, rfl⟩
  have el_255 : (255 : Int32).toInt = 255 := rfl
  have hv_5 : 0 ≤ v_5.toInt ∧ v_5.toInt ≤ 255 := by rw [← ev_5]; exact andm_r _ 8 (by decide) (by decide)
  refine j_iand (pc := 12) (v := v_5) C dJ1_charAt_3b067_12 ev_5 ?_
  obtain ⟨v_6, ev_6⟩ : ∃ z : Int32, ((v_5 : Int32).toUInt32 % 65536).toInt32 = z := ⟨_, rfl⟩
  have hv_6 : v_6.toInt = v_5.toInt := by rw [← ev_6, i2c_id (by omega) (by omega)]
  refine j_i2c (pc := 13) (v := v_6) C dJ1_charAt_3b067_13 ev_6 ?_
  exact j_zret (pc := 14) C hr (nc_16 (by omega) (by omega)) hk (fun i => [].getD i 0, fun i => [v_6].getD i 0, fun i => [].getD i (fun _ => 0), fun i => [].getD i (fun _ => 0)) rfl (show (0 ≤ (v_6).toInt ∧ (v_6).toInt ≤ 255) from (by omega)) [] (by decide) rfl (by decide) (by decide) dJ1_charAt_3b067_14
set_option maxHeartbeats 4000000 in
set_option maxRecDepth 100000 in
theorem c_J0_charAt_5068e (l : Launch) (D : DG) (cyC cyI cyJ cyZ cyO : ClassId) (i : Nat) (p0 : Int32) (h_p0 : 0 ≤ (p0).toInt ∧ (p0).toInt ≤ 19) (hi_lit : i < 43) (hls : (p0).toInt < ((sL i : Nat) : Int)) : KK l D (TY cyC cyI cyJ cyZ cyO) yJ0_charAt_5068e cJ0_charAt_5068e 2 (some .char) ({ frames := 3, cells := 0, slots := 0, locals := 64 } : Room) 0 0 [.ref (D.2.1 i), .int p0] [] (fun u => some (.int (u.2.1 0))) (fun u => (0 ≤ (u.2.1 0).toInt ∧ (u.2.1 0).toInt ≤ 255)) (fun u => []) := by
  refine KK.of (lv0 := [(0, .ref (D.2.1 i)), (1, .int p0)]) (by decide) rfl (Nat.le_of_ble_eq_true rfl) ?_
  intro p e s m args below meth c A C hr hk hin
  refine j_aload_n (pc := 0) C dJ0_charAt_5068e_0 rfl 0 rfl ?_
  refine j_callT (pc := 1) (As := []) (rest := []) (wr := []) C (c_J0_isLatin1_aae02 l D cyC cyI cyJ cyZ cyO i hi_lit) wd_227 wd_220 wd_228 wd_229 wd_230 ⟨by decide, by decide, rfl⟩ rfl ⟨rfl, rfl, by decide, by decide⟩ ⟨by decide, by decide⟩ [] [] rfl rfl ⟨by decide, by decide, by decide⟩ hi_lit rfl rfl (Nat.le_of_ble_eq_true rfl) dJ0_charAt_5068e_1 (fun u_1 hw_2 => ?_)
  refine j_eq (ws2 := []) (pc2 := 4) (lv2 := [(0, .ref (D.2.1 i)), (1, .int p0)]) (st2 := [.int 1]) rfl rfl rfl rfl ?_
  refine j_if_eq_f (pc := 4) (tgt := 16) C dJ0_charAt_5068e_4 (by decide) (by decide) ?_
  refine j_aload_n (pc := 7) C dJ0_charAt_5068e_7 rfl 0 rfl ?_
  refine j_sgetV (pc := 8) C hi_lit wd_218 dJ0_charAt_5068e_8 ?_
  refine j_iload_n (pc := 11) C dJ0_charAt_5068e_11 rfl 1 rfl ?_
  refine j_callS (pc := 12) (As := [.ref (D.2.2.1 i), .int p0]) (rest := []) (wr := []) C (c_J1_charAt_3b067 l D cyC cyI cyJ cyZ cyO i p0 h_p0 hi_lit hls) wd_231 wd_232 wd_233 wd_234 ⟨by decide, by decide, rfl⟩ rfl ⟨rfl, rfl, by decide, by decide⟩ ⟨by decide, by decide⟩ [] [] rfl rfl ⟨by decide, by decide, by decide⟩ rfl (Nat.le_of_ble_eq_true rfl) dJ0_charAt_5068e_12 (fun u_3 hw_4 => ?_)
  refine j_eq (ws2 := []) (pc2 := 15) (lv2 := [(0, .ref (D.2.1 i)), (1, .int p0)]) (st2 := [.int (u_3.2.1 0)]) rfl rfl rfl rfl ?_
  have hw_4_0 : 0 ≤ (u_3.2.1 0).toInt ∧ (u_3.2.1 0).toInt ≤ 255 := hw_4
  exact j_zret (pc := 15) C hr (nc_16 (by omega) (by omega)) hk (fun i => [].getD i 0, fun i => [(u_3.2.1 0)].getD i 0, fun i => [].getD i (fun _ => 0), fun i => [].getD i (fun _ => 0)) rfl (show (0 ≤ ((u_3.2.1 0)).toInt ∧ ((u_3.2.1 0)).toInt ≤ 255) from (hw_4_0)) [] (by decide) rfl (by decide) (by decide) dJ0_charAt_5068e_15
set_option maxHeartbeats 4000000 in
set_option maxRecDepth 100000 in
theorem c_J1_canEncode_9a6ad (l : Launch) (D : DG) (cyC cyI cyJ cyZ cyO : ClassId) (p0 : Int32) : KK l D (TY cyC cyI cyJ cyZ cyO) yJ1_canEncode_9a6ad cJ1_canEncode_9a6ad 1 (some .boolean) ({ frames := 0, cells := 0, slots := 0, locals := 0 } : Room) 0 0 [.int p0] [] (fun u => some (.int (u.2.1 0))) (fun u => (0 ≤ (u.2.1 0).toInt ∧ (u.2.1 0).toInt ≤ 1)) (fun u => []) := by
  refine KK.of (lv0 := [(0, .int p0)]) (by decide) rfl (Nat.le_of_ble_eq_true rfl) ?_
  intro p e s m args below meth c A C hr hk hin
  refine j_iload_n (pc := 0) C dJ1_canEncode_9a6ad_0 rfl 0 rfl ?_
  refine j_if_lt (pc := 1) (tgt := 15) C dJ1_canEncode_9a6ad_1 (by decide) (fun c_1 => ?_) (fun c_1 => ?_)
  · skip
    have el_0 : (0 : Int32).toInt = 0 := rfl
    rw [i_lt] at c_1
    refine j_iconst (pc := 15) (v := 0) C dJ1_canEncode_9a6ad_15 (by decide) ?_
    have el_0 : (0 : Int32).toInt = 0 := rfl
    exact j_zret (pc := 16) C hr rfl hk (fun i => [].getD i 0, fun i => [0].getD i 0, fun i => [].getD i (fun _ => 0), fun i => [].getD i (fun _ => 0)) rfl (show (0 ≤ ((0 : Int32)).toInt ∧ ((0 : Int32)).toInt ≤ 1) from (by omega)) [] (by decide) rfl (by decide) (by decide) dJ1_canEncode_9a6ad_16
  · skip
    have el_0 : (0 : Int32).toInt = 0 := rfl
    rw [i_lt] at c_1
    refine j_iload_n (pc := 4) C dJ1_canEncode_9a6ad_4 rfl 0 rfl ?_
    refine j_sipush (pc := 5) (v := 255) C dJ1_canEncode_9a6ad_5 (by decide) ?_
    refine j_icmp_gt (pc := 8) (tgt := 15) C dJ1_canEncode_9a6ad_8 (by decide) (fun c_2 => ?_) (fun c_2 => ?_)
    · skip
      have el_255 : (255 : Int32).toInt = 255 := rfl
      rw [i_lt] at c_2
      refine j_iconst (pc := 15) (v := 0) C dJ1_canEncode_9a6ad_15 (by decide) ?_
      have el_0 : (0 : Int32).toInt = 0 := rfl
      exact j_zret (pc := 16) C hr rfl hk (fun i => [].getD i 0, fun i => [0].getD i 0, fun i => [].getD i (fun _ => 0), fun i => [].getD i (fun _ => 0)) rfl (show (0 ≤ ((0 : Int32)).toInt ∧ ((0 : Int32)).toInt ≤ 1) from (by omega)) [] (by decide) rfl (by decide) (by decide) dJ1_canEncode_9a6ad_16
    · skip
      have el_255 : (255 : Int32).toInt = 255 := rfl
      rw [i_lt] at c_2
      refine j_iconst (pc := 11) (v := 1) C dJ1_canEncode_9a6ad_11 (by decide) ?_
      refine j_goto (pc := 12) (tgt := 16) C dJ1_canEncode_9a6ad_12 (by decide) ?_
      have el_1 : (1 : Int32).toInt = 1 := rfl
      exact j_zret (pc := 16) C hr rfl hk (fun i => [].getD i 0, fun i => [1].getD i 0, fun i => [].getD i (fun _ => 0), fun i => [].getD i (fun _ => 0)) rfl (show (0 ≤ ((1 : Int32)).toInt ∧ ((1 : Int32)).toInt ≤ 1) from (by omega)) [] (by decide) rfl (by decide) (by decide) dJ1_canEncode_9a6ad_16
set_option maxHeartbeats 4000000 in
set_option maxRecDepth 100000 in
theorem c_J1_indexOfChar_4cfef (l : Launch) (D : DG) (cyC cyI cyJ cyZ cyO : ClassId) (i : Nat) (p0 : Int32) (p1 : Int32) (p2 : Int32) (h_p1 : 0 ≤ (p1).toInt ∧ (p1).toInt ≤ 20) (h_p2 : 0 ≤ (p2).toInt ∧ (p2).toInt ≤ 20) (hi_lit : i < 43) (hls : (p2).toInt ≤ ((sL i : Nat) : Int)) : KK l D (TY cyC cyI cyJ cyZ cyO) yJ1_indexOfChar_4cfef cJ1_indexOfChar_4cfef 6 (some .int) ({ frames := 0, cells := 0, slots := 0, locals := 0 } : Room) 0 0 [.ref (D.2.2.1 i), .int p0, .int p1, .int p2] [] (fun u => some (.int (u.2.1 0))) (fun u => (-1 ≤ (u.2.1 0).toInt ∧ (u.2.1 0).toInt ≤ 20)) (fun u => []) := by
  refine KK.of (lv0 := [(0, .ref (D.2.2.1 i)), (1, .int p0), (2, .int p1), (3, .int p2)]) (by decide) rfl (Nat.le_of_ble_eq_true rfl) ?_
  intro p e s m args below meth c A C hr hk hin
  refine j_iload_n (pc := 0) C dJ1_indexOfChar_4cfef_0 rfl 1 rfl ?_
  refine j_i2b (pc := 1) C dJ1_indexOfChar_4cfef_1 rfl ?_
  refine j_istore (pc := 2) (lv' := [(4, .int ((p0).toInt8.toInt32)), (0, .ref (D.2.2.1 i)), (1, .int p0), (2, .int p1), (3, .int p2)]) C dJ1_indexOfChar_4cfef_2 (by decide) rfl ?_
  refine j_iload_n (pc := 4) C dJ1_indexOfChar_4cfef_4 rfl 3 rfl ?_
  refine j_istore (pc := 5) (lv' := [(5, .int p1), (4, .int ((p0).toInt8.toInt32)), (0, .ref (D.2.2.1 i)), (1, .int p0), (2, .int p1), (3, .int p2)]) C dJ1_indexOfChar_4cfef_5 (by decide) rfl ?_
  have loop_1 : ∀ (k_1 : Nat) (x1_5 : Int32), (0 ≤ (x1_5).toInt ∧ (x1_5).toInt ≤ 20) → (20 - x1_5.toInt).toNat < k_1 → J p l e ({ frames := 0, cells := 0, slots := 0, locals := 0 } : Room) s m args below meth c D A 6 0 0 (QX below D (TY cyC cyI cyJ cyZ cyO) A (fun u => some (.int (u.2.1 0))) (fun u => (-1 ≤ (u.2.1 0).toInt ∧ (u.2.1 0).toInt ≤ 20)) (fun u => []) args s 0 0) [] 7 [(5, .int x1_5), (4, .int ((p0).toInt8.toInt32)), (0, .ref (D.2.2.1 i)), (1, .int p0), (2, .int p1), (3, .int p2)] [] := by
    intro k_1
    induction k_1 with
    | zero =>
      intro x1_5 hi_1_0 hm_1
      exact absurd hm_1 (Nat.not_lt_zero _)
    | succ k_1 ih_1 =>
      intro x1_5 hi_1_0 hm_1
      refine j_iload (pc := 7) C dJ1_indexOfChar_4cfef_7 0 rfl ?_
      refine j_iload_n (pc := 9) C dJ1_indexOfChar_4cfef_9 rfl 5 rfl ?_
      refine j_icmp_ge (pc := 10) (tgt := 31) C dJ1_indexOfChar_4cfef_10 (by decide) (fun c_2 => ?_) (fun c_2 => ?_)
      · skip
        rw [i_le] at c_2
        refine j_iconst (pc := 31) (v := (-1)) C dJ1_indexOfChar_4cfef_31 (by decide) ?_
        have el_m1 : ((-1) : Int32).toInt = (-1) := rfl
        exact j_iret (pc := 32) C hr hk (fun i => [].getD i 0, fun i => [(-1)].getD i 0, fun i => [].getD i (fun _ => 0), fun i => [].getD i (fun _ => 0)) rfl (show (-1 ≤ (((-1) : Int32)).toInt ∧ (((-1) : Int32)).toInt ≤ 20) from (by omega)) [] (by decide) rfl (by decide) (by decide) dJ1_indexOfChar_4cfef_32
      · skip
        rw [i_le] at c_2
        refine j_aload_n (pc := 13) C dJ1_indexOfChar_4cfef_13 rfl 2 rfl ?_
        refine j_iload (pc := 14) C dJ1_indexOfChar_4cfef_14 0 rfl ?_
        obtain ⟨v_3, ev_3⟩ : ∃ z : Int32, sB i (x1_5).toInt.toNat = z := ⟨_, rfl⟩
        have hv_3 := sB_bd (i := i) (k := (x1_5).toInt.toNat) hi_lit (by omega); rw [ev_3] at hv_3
        refine j_sbld (pc := 16) (v := v_3) (k := (x1_5).toInt.toNat) C hi_lit (i_nn (by omega)) rfl (by omega) ev_3 dJ1_indexOfChar_4cfef_16 ?_
        refine j_iload (pc := 17) C dJ1_indexOfChar_4cfef_17 1 rfl ?_
        refine j_icmp_ne (pc := 19) (tgt := 25) C dJ1_indexOfChar_4cfef_19 (by decide) (fun c_4 => ?_) (fun c_4 => ?_)
        · skip
          rw [i_eq] at c_4
          obtain ⟨v_5, ev_5⟩ : ∃ z : Int32, x1_5 + 1 = z := ⟨_, rfl⟩
          have el_1 : (1 : Int32).toInt = 1 := rfl
          have hv_5 : v_5.toInt = x1_5.toInt + (1 : Int32).toInt := by rw [← ev_5]; exact fb_addI (by omega) (by omega)
          refine j_iinc (pc := 25) (v := v_5) (lv' := [(5, .int v_5), (4, .int ((p0).toInt8.toInt32)), (0, .ref (D.2.2.1 i)), (1, .int p0), (2, .int p1), (3, .int p2)]) C dJ1_indexOfChar_4cfef_25 0 rfl ev_5 (by decide) rfl ?_
          refine j_goto (pc := 28) (tgt := 7) C dJ1_indexOfChar_4cfef_28 (by decide) ?_
          exact j_lv [0, 1, 2, 3, 4, 5] rfl (ih_1 v_5 (by omega) (by omega))
        · skip
          rw [i_eq] at c_4
          refine j_iload (pc := 22) C dJ1_indexOfChar_4cfef_22 0 rfl ?_
          exact j_iret (pc := 24) C hr hk (fun i => [].getD i 0, fun i => [x1_5].getD i 0, fun i => [].getD i (fun _ => 0), fun i => [].getD i (fun _ => 0)) rfl (show (-1 ≤ (x1_5).toInt ∧ (x1_5).toInt ≤ 20) from (by omega)) [] (by decide) rfl (by decide) (by decide) dJ1_indexOfChar_4cfef_24
  exact j_lv [0, 1, 2, 3, 4, 5] rfl (loop_1 4096 p1 h_p1 (by omega))
set_option maxHeartbeats 4000000 in
set_option maxRecDepth 100000 in
theorem c_J1_indexOf_4cfef (l : Launch) (D : DG) (cyC cyI cyJ cyZ cyO : ClassId) (i : Nat) (p0 : Int32) (p1 : Int32) (p2 : Int32) (h_p1 : 0 ≤ (p1).toInt ∧ (p1).toInt ≤ 0) (h_p2 : 0 ≤ (p2).toInt ∧ (p2).toInt ≤ 20) (hi_lit : i < 43) : KK l D (TY cyC cyI cyJ cyZ cyO) yJ1_indexOf_4cfef cJ1_indexOf_4cfef 4 (some .int) ({ frames := 1, cells := 0, slots := 0, locals := 25 } : Room) 0 0 [.ref (D.2.2.1 i), .int p0, .int p1, .int p2] [] (fun u => some (.int (u.2.1 0))) (fun u => (-1 ≤ (u.2.1 0).toInt ∧ (u.2.1 0).toInt ≤ 20)) (fun u => []) := by
  refine KK.of (lv0 := [(0, .ref (D.2.2.1 i)), (1, .int p0), (2, .int p1), (3, .int p2)]) (by decide) rfl (Nat.le_of_ble_eq_true rfl) ?_
  intro p e s m args below meth c A C hr hk hin
  refine j_iload_n (pc := 0) C dJ1_indexOf_4cfef_0 rfl 1 rfl ?_
  refine j_callS (pc := 1) (As := [.int p0]) (rest := []) (wr := []) C (c_J1_canEncode_9a6ad l D cyC cyI cyJ cyZ cyO p0) wd_235 wd_232 wd_236 wd_237 ⟨by decide, by decide, rfl⟩ rfl ⟨rfl, rfl, by decide, by decide⟩ ⟨by decide, by decide⟩ [] [] rfl rfl ⟨by decide, by decide, by decide⟩ rfl (Nat.le_of_ble_eq_true rfl) dJ1_indexOf_4cfef_1 (fun u_1 hw_2 => ?_)
  refine j_eq (ws2 := []) (pc2 := 4) (lv2 := [(0, .ref (D.2.2.1 i)), (1, .int p0), (2, .int p1), (3, .int p2)]) (st2 := [.int (u_1.2.1 0)]) rfl rfl rfl rfl ?_
  have hw_2_0 : 0 ≤ (u_1.2.1 0).toInt ∧ (u_1.2.1 0).toInt ≤ 1 := hw_2
  refine j_if_ne (pc := 4) (tgt := 9) C dJ1_indexOf_4cfef_4 (by decide) (fun c_3 => ?_) (fun c_3 => ?_)
  · skip
    have el_0 : (0 : Int32).toInt = 0 := rfl
    rw [i_eq] at c_3
    have k0c_3 : ((u_1.2.1 0)).toInt = 1 := by omega
    refine j_iload_n (pc := 9) C dJ1_indexOf_4cfef_9 rfl 2 rfl ?_
    refine j_iconst (pc := 10) (v := 0) C dJ1_indexOf_4cfef_10 (by decide) ?_
    have el_0 : (0 : Int32).toInt = 0 := rfl
    obtain ⟨v_4, ev_4⟩ : ∃ z : Int32, (if (p1 : Int32) < 0 then 0 else p1) = z := ⟨_, rfl⟩
    have hv_4 : v_4.toInt = max p1.toInt (0 : Int32).toInt := by rw [← ev_4]; exact mmax_I _ _
    refine j_mmax (pc := 11) (v := v_4) C wd_238 wd_5 wd_6 wd_7 (by decide) (Nat.le_of_ble_eq_true rfl) (by decide) (by decide) ev_4 dJ1_indexOf_4cfef_11 ?_
    refine j_istore_n (pc := 14) (lv' := [(2, .int v_4), (0, .ref (D.2.2.1 i)), (1, .int p0), (3, .int p2)]) C dJ1_indexOf_4cfef_14 rfl (by decide) rfl ?_
    refine j_iload_n (pc := 15) C dJ1_indexOf_4cfef_15 rfl 3 rfl ?_
    refine j_aload_n (pc := 16) C dJ1_indexOf_4cfef_16 rfl 1 rfl ?_
    obtain ⟨v_5, ev_5⟩ : ∃ z : Int32, Int32.ofNat (sL i) = z := ⟨_, rfl⟩
    have hlv_5 := sL_bd (i := i) hi_lit
    have hv_5 : v_5.toInt = (sL i : Nat) := by rw [← ev_5]; exact nI_toInt (by omega)
    refine j_sblen (pc := 17) (v := v_5) C hi_lit ev_5 dJ1_indexOf_4cfef_17 ?_
    obtain ⟨v_6, ev_6⟩ : ∃ z : Int32, (if (v_5 : Int32) < p2 then v_5 else p2) = z := ⟨_, rfl⟩
    have hv_6 : v_6.toInt = min p2.toInt v_5.toInt := by rw [← ev_6]; exact mmin_I _ _
    refine j_mmin (pc := 18) (v := v_6) C wd_239 wd_139 wd_6 wd_140 (by decide) (Nat.le_of_ble_eq_true rfl) (by decide) (by decide) ev_6 dJ1_indexOf_4cfef_18 ?_
    refine j_istore_n (pc := 21) (lv' := [(3, .int v_6), (2, .int v_4), (0, .ref (D.2.2.1 i)), (1, .int p0)]) C dJ1_indexOf_4cfef_21 rfl (by decide) rfl ?_
    refine j_iload_n (pc := 22) C dJ1_indexOf_4cfef_22 rfl 1 rfl ?_
    refine j_iload_n (pc := 23) C dJ1_indexOf_4cfef_23 rfl 0 rfl ?_
    refine j_icmp_lt (pc := 24) (tgt := 29) C dJ1_indexOf_4cfef_24 (by decide) (fun c_7 => ?_) (fun c_7 => ?_)
    · skip
      rw [i_lt] at c_7
      refine j_aload_n (pc := 29) C dJ1_indexOf_4cfef_29 rfl 2 rfl ?_
      refine j_iload_n (pc := 30) C dJ1_indexOf_4cfef_30 rfl 3 rfl ?_
      refine j_iload_n (pc := 31) C dJ1_indexOf_4cfef_31 rfl 1 rfl ?_
      refine j_iload_n (pc := 32) C dJ1_indexOf_4cfef_32 rfl 0 rfl ?_
      refine j_callS (pc := 33) (As := [.ref (D.2.2.1 i), .int p0, .int v_4, .int v_6]) (rest := []) (wr := []) C (c_J1_indexOfChar_4cfef l D cyC cyI cyJ cyZ cyO i p0 v_4 v_6 (by omega) (by omega) hi_lit (by omega)) wd_240 wd_232 wd_241 wd_242 ⟨by decide, by decide, rfl⟩ rfl ⟨rfl, rfl, by decide, by decide⟩ ⟨by decide, by decide⟩ [] [] rfl rfl ⟨by decide, by decide, by decide⟩ rfl (Nat.le_of_ble_eq_true rfl) dJ1_indexOf_4cfef_33 (fun u_8 hw_9 => ?_)
      refine j_eq (ws2 := []) (pc2 := 36) (lv2 := [(3, .int v_6), (2, .int v_4), (0, .ref (D.2.2.1 i)), (1, .int p0)]) (st2 := [.int (u_8.2.1 0)]) rfl rfl rfl rfl ?_
      have hw_9_0 : -1 ≤ (u_8.2.1 0).toInt ∧ (u_8.2.1 0).toInt ≤ 20 := hw_9
      exact j_iret (pc := 36) C hr hk (fun i => [].getD i 0, fun i => [(u_8.2.1 0)].getD i 0, fun i => [].getD i (fun _ => 0), fun i => [].getD i (fun _ => 0)) rfl (show (-1 ≤ ((u_8.2.1 0)).toInt ∧ ((u_8.2.1 0)).toInt ≤ 20) from (hw_9_0)) [] (by decide) rfl (by decide) (by decide) dJ1_indexOf_4cfef_36
    · skip
      rw [i_lt] at c_7
      have k1c_7 : v_6.toInt = 0 := by omega
      refine j_iconst (pc := 27) (v := (-1)) C dJ1_indexOf_4cfef_27 (by decide) ?_
      have el_m1 : ((-1) : Int32).toInt = (-1) := rfl
      exact j_iret (pc := 28) C hr hk (fun i => [].getD i 0, fun i => [(-1)].getD i 0, fun i => [].getD i (fun _ => 0), fun i => [].getD i (fun _ => 0)) rfl (show (-1 ≤ (((-1) : Int32)).toInt ∧ (((-1) : Int32)).toInt ≤ 20) from (by omega)) [] (by decide) rfl (by decide) (by decide) dJ1_indexOf_4cfef_28
  · skip
    have el_0 : (0 : Int32).toInt = 0 := rfl
    rw [i_eq] at c_3
    refine j_iconst (pc := 7) (v := (-1)) C dJ1_indexOf_4cfef_7 (by decide) ?_
    have el_m1 : ((-1) : Int32).toInt = (-1) := rfl
    exact j_iret (pc := 8) C hr hk (fun i => [].getD i 0, fun i => [(-1)].getD i 0, fun i => [].getD i (fun _ => 0), fun i => [].getD i (fun _ => 0)) rfl (show (-1 ≤ (((-1) : Int32)).toInt ∧ (((-1) : Int32)).toInt ≤ 20) from (by omega)) [] (by decide) rfl (by decide) (by decide) dJ1_indexOf_4cfef_8
set_option maxHeartbeats 4000000 in
set_option maxRecDepth 100000 in
theorem c_J0_indexOf_7cf53 (l : Launch) (D : DG) (cyC cyI cyJ cyZ cyO : ClassId) (i : Nat) (p0 : Int32) (p1 : Int32) (h_p1 : 0 ≤ (p1).toInt ∧ (p1).toInt ≤ 0) (hi_lit : i < 43) : KK l D (TY cyC cyI cyJ cyZ cyO) yJ0_indexOf_7cf53 cJ0_indexOf_7cf53 3 (some .int) ({ frames := 2, cells := 0, slots := 0, locals := 48 } : Room) 0 0 [.ref (D.2.1 i), .int p0, .int p1] [] (fun u => some (.int (u.2.1 0))) (fun u => (-1 ≤ (u.2.1 0).toInt ∧ (u.2.1 0).toInt ≤ 20)) (fun u => []) := by
  refine KK.of (lv0 := [(0, .ref (D.2.1 i)), (1, .int p0), (2, .int p1)]) (by decide) rfl (Nat.le_of_ble_eq_true rfl) ?_
  intro p e s m args below meth c A C hr hk hin
  refine j_aload_n (pc := 0) C dJ0_indexOf_7cf53_0 rfl 0 rfl ?_
  refine j_callT (pc := 1) (As := []) (rest := []) (wr := []) C (c_J0_isLatin1_aae02 l D cyC cyI cyJ cyZ cyO i hi_lit) wd_227 wd_220 wd_228 wd_229 wd_230 ⟨by decide, by decide, rfl⟩ rfl ⟨rfl, rfl, by decide, by decide⟩ ⟨by decide, by decide⟩ [] [] rfl rfl ⟨by decide, by decide, by decide⟩ hi_lit rfl rfl (Nat.le_of_ble_eq_true rfl) dJ0_indexOf_7cf53_1 (fun u_1 hw_2 => ?_)
  refine j_eq (ws2 := []) (pc2 := 4) (lv2 := [(0, .ref (D.2.1 i)), (1, .int p0), (2, .int p1)]) (st2 := [.int 1]) rfl rfl rfl rfl ?_
  refine j_if_eq_f (pc := 4) (tgt := 23) C dJ0_indexOf_7cf53_4 (by decide) (by decide) ?_
  refine j_aload_n (pc := 7) C dJ0_indexOf_7cf53_7 rfl 0 rfl ?_
  refine j_sgetV (pc := 8) C hi_lit wd_218 dJ0_indexOf_7cf53_8 ?_
  refine j_iload_n (pc := 11) C dJ0_indexOf_7cf53_11 rfl 1 rfl ?_
  refine j_iload_n (pc := 12) C dJ0_indexOf_7cf53_12 rfl 2 rfl ?_
  refine j_aload_n (pc := 13) C dJ0_indexOf_7cf53_13 rfl 0 rfl ?_
  refine j_callT (pc := 14) (As := []) (rest := [.int p1, .int p0, .ref (D.2.2.1 i)]) (wr := []) C (c_J0_length_8abf5 l D cyC cyI cyJ cyZ cyO i hi_lit) wd_243 wd_220 wd_244 wd_245 wd_246 ⟨by decide, by decide, rfl⟩ rfl ⟨rfl, rfl, by decide, by decide⟩ ⟨by decide, by decide⟩ [] [] rfl rfl ⟨by decide, by decide, by decide⟩ hi_lit rfl rfl (Nat.le_of_ble_eq_true rfl) dJ0_indexOf_7cf53_14 (fun u_3 hw_4 => ?_)
  refine j_eq (ws2 := []) (pc2 := 17) (lv2 := [(0, .ref (D.2.1 i)), (1, .int p0), (2, .int p1)]) (st2 := [.int (u_3.2.1 0), .int p1, .int p0, .ref (D.2.2.1 i)]) rfl rfl rfl rfl ?_
  obtain ⟨hw_4_0, hw_4_1⟩ := hw_4
  refine j_callS (pc := 17) (As := [.ref (D.2.2.1 i), .int p0, .int p1, .int (u_3.2.1 0)]) (rest := []) (wr := []) C (c_J1_indexOf_4cfef l D cyC cyI cyJ cyZ cyO i p0 p1 (u_3.2.1 0) h_p1 hw_4_0 hi_lit) wd_247 wd_232 wd_248 wd_249 ⟨by decide, by decide, rfl⟩ rfl ⟨rfl, rfl, by decide, by decide⟩ ⟨by decide, by decide⟩ [] [] rfl rfl ⟨by decide, by decide, by decide⟩ rfl (Nat.le_of_ble_eq_true rfl) dJ0_indexOf_7cf53_17 (fun u_5 hw_6 => ?_)
  refine j_eq (ws2 := []) (pc2 := 20) (lv2 := [(0, .ref (D.2.1 i)), (1, .int p0), (2, .int p1)]) (st2 := [.int (u_5.2.1 0)]) rfl rfl rfl rfl ?_
  have hw_6_0 : -1 ≤ (u_5.2.1 0).toInt ∧ (u_5.2.1 0).toInt ≤ 20 := hw_6
  refine j_goto (pc := 20) (tgt := 36) C dJ0_indexOf_7cf53_20 (by decide) ?_
  exact j_iret (pc := 36) C hr hk (fun i => [].getD i 0, fun i => [(u_5.2.1 0)].getD i 0, fun i => [].getD i (fun _ => 0), fun i => [].getD i (fun _ => 0)) rfl (show (-1 ≤ ((u_5.2.1 0)).toInt ∧ ((u_5.2.1 0)).toInt ≤ 20) from (hw_6_0)) [] (by decide) rfl (by decide) (by decide) dJ0_indexOf_7cf53_36
set_option maxHeartbeats 4000000 in
set_option maxRecDepth 100000 in
theorem c_J0_indexOf_0f7a4 (l : Launch) (D : DG) (cyC cyI cyJ cyZ cyO : ClassId) (i : Nat) (p0 : Int32) (hi_lit : i < 43) : KK l D (TY cyC cyI cyJ cyZ cyO) yJ0_indexOf_0f7a4 cJ0_indexOf_0f7a4 2 (some .int) ({ frames := 3, cells := 0, slots := 0, locals := 70 } : Room) 0 0 [.ref (D.2.1 i), .int p0] [] (fun u => some (.int (u.2.1 0))) (fun u => (-1 ≤ (u.2.1 0).toInt ∧ (u.2.1 0).toInt ≤ 20)) (fun u => []) := by
  refine KK.of (lv0 := [(0, .ref (D.2.1 i)), (1, .int p0)]) (by decide) rfl (Nat.le_of_ble_eq_true rfl) ?_
  intro p e s m args below meth c A C hr hk hin
  refine j_aload_n (pc := 0) C dJ0_indexOf_0f7a4_0 rfl 0 rfl ?_
  refine j_iload_n (pc := 1) C dJ0_indexOf_0f7a4_1 rfl 1 rfl ?_
  refine j_iconst (pc := 2) (v := 0) C dJ0_indexOf_0f7a4_2 (by decide) ?_
  refine j_callT (pc := 3) (As := [.int p0, .int 0]) (rest := []) (wr := []) C (c_J0_indexOf_7cf53 l D cyC cyI cyJ cyZ cyO i p0 0 (by decide) hi_lit) wd_250 wd_220 wd_251 wd_252 wd_253 ⟨by decide, by decide, rfl⟩ rfl ⟨rfl, rfl, by decide, by decide⟩ ⟨by decide, by decide⟩ [] [] rfl rfl ⟨by decide, by decide, by decide⟩ hi_lit rfl rfl (Nat.le_of_ble_eq_true rfl) dJ0_indexOf_0f7a4_3 (fun u_1 hw_2 => ?_)
  refine j_eq (ws2 := []) (pc2 := 6) (lv2 := [(0, .ref (D.2.1 i)), (1, .int p0)]) (st2 := [.int (u_1.2.1 0)]) rfl rfl rfl rfl ?_
  have hw_2_0 : -1 ≤ (u_1.2.1 0).toInt ∧ (u_1.2.1 0).toInt ≤ 20 := hw_2
  exact j_iret (pc := 6) C hr hk (fun i => [].getD i 0, fun i => [(u_1.2.1 0)].getD i 0, fun i => [].getD i (fun _ => 0), fun i => [].getD i (fun _ => 0)) rfl (show (-1 ≤ ((u_1.2.1 0)).toInt ∧ ((u_1.2.1 0)).toInt ≤ 20) from (hw_2_0)) [] (by decide) rfl (by decide) (by decide) dJ0_indexOf_0f7a4_6
