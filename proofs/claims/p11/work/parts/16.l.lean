theorem wd_254 : Cond.fieldLink RX8 15 "BowlShelf$Tape" "length" "I" ∈ WALL := wl_in (by decide +kernel) (by decide +kernel)
theorem wd_255 : Cond.fieldLink RX8 9 "BowlShelf$Tape" "text" "[C" ∈ WALL := wl_in (by decide +kernel) (by decide +kernel)
theorem wd_256 : Cond.fieldLink RX8 19 "BowlShelf$Tape" "next" "I" ∈ WALL := wl_in (by decide +kernel) (by decide +kernel)
theorem wd_257 : Cond.code yX8_pastBlanks cX8_pastBlanks 3 (some .int) ∈ WALL := wl_in (by decide +kernel) (by decide +kernel)
theorem wd_258 : Cond.initialized RX8 ∈ WALL := wl_in (by decide +kernel) (by decide +kernel)
theorem wd_259 : Cond.methodLink RX8 25 yX8_pastBlanks ∈ WALL := wl_in (by decide +kernel) (by decide +kernel)
theorem wd_260 : Cond.instanceMethod yX8_pastBlanks ∈ WALL := wl_in (by decide +kernel) (by decide +kernel)
theorem wd_261 : Cond.selects RX8 yX8_pastBlanks yX8_pastBlanks ∈ WALL := wl_in (by decide +kernel) (by decide +kernel)
theorem wd_262 : Cond.fieldLink RX8 29 "BowlShelf$Tape" "place" "I" ∈ WALL := wl_in (by decide +kernel) (by decide +kernel)
theorem wd_263 : Cond.code yX8_pastRun cX8_pastRun 5 (some .int) ∈ WALL := wl_in (by decide +kernel) (by decide +kernel)
theorem wd_264 : Cond.methodLink RX8 32 yX8_pastRun ∈ WALL := wl_in (by decide +kernel) (by decide +kernel)
theorem wd_265 : Cond.instanceMethod yX8_pastRun ∈ WALL := wl_in (by decide +kernel) (by decide +kernel)
theorem wd_266 : Cond.selects RX8 yX8_pastRun yX8_pastRun ∈ WALL := wl_in (by decide +kernel) (by decide +kernel)
theorem wd_267 : Cond.code yJ0_indexOf_0f7a4 cJ0_indexOf_0f7a4 2 (some .int) ∈ WALL := wl_in (by decide +kernel) (by decide +kernel)
theorem wd_268 : Cond.methodLink RX8 48 yJ0_indexOf_0f7a4 ∈ WALL := wl_in (by decide +kernel) (by decide +kernel)
theorem wd_269 : Cond.instanceMethod yJ0_indexOf_0f7a4 ∈ WALL := wl_in (by decide +kernel) (by decide +kernel)
theorem wd_270 : Cond.selects RJ0 yJ0_indexOf_0f7a4 yJ0_indexOf_0f7a4 ∈ WALL := wl_in (by decide +kernel) (by decide +kernel)
theorem wd_271 : Cond.fieldLink RX8 36 "BowlShelf$Tape" "kind" "I" ∈ WALL := wl_in (by decide +kernel) (by decide +kernel)
theorem wd_272 : Cond.fieldLink RX8 43 "BowlShelf$Tape" "number" "I" ∈ WALL := wl_in (by decide +kernel) (by decide +kernel)
theorem wd_273 : Cond.code yX8_valueOf cX8_valueOf 5 (some .int) ∈ WALL := wl_in (by decide +kernel) (by decide +kernel)
theorem wd_274 : Cond.methodLink RX8 39 yX8_valueOf ∈ WALL := wl_in (by decide +kernel) (by decide +kernel)
theorem wd_275 : Cond.instanceMethod yX8_valueOf ∈ WALL := wl_in (by decide +kernel) (by decide +kernel)
theorem wd_276 : Cond.selects RX8 yX8_valueOf yX8_valueOf ∈ WALL := wl_in (by decide +kernel) (by decide +kernel)
theorem wd_277 : Cond.code yX8_advance cX8_advance 3 none ∈ WALL := wl_in (by decide +kernel) (by decide +kernel)
theorem wd_278 : Cond.methodLink RX8 22 yX8_advance ∈ WALL := wl_in (by decide +kernel) (by decide +kernel)
theorem wd_279 : Cond.instanceMethod yX8_advance ∈ WALL := wl_in (by decide +kernel) (by decide +kernel)
theorem wd_280 : Cond.selects RX8 yX8_advance yX8_advance ∈ WALL := wl_in (by decide +kernel) (by decide +kernel)
theorem wd_281 : Cond.methodLink RX8 53 yJ0_length_8abf5 ∈ WALL := wl_in (by decide +kernel) (by decide +kernel)
theorem wd_282 : Cond.code yJ0_charAt_5068e cJ0_charAt_5068e 2 (some .char) ∈ WALL := wl_in (by decide +kernel) (by decide +kernel)
theorem wd_283 : Cond.methodLink RX8 56 yJ0_charAt_5068e ∈ WALL := wl_in (by decide +kernel) (by decide +kernel)
theorem wd_284 : Cond.instanceMethod yJ0_charAt_5068e ∈ WALL := wl_in (by decide +kernel) (by decide +kernel)
theorem wd_285 : Cond.selects RJ0 yJ0_charAt_5068e yJ0_charAt_5068e ∈ WALL := wl_in (by decide +kernel) (by decide +kernel)
theorem wd_286 : Cond.constantLong RX8 60 (32) ∈ WALL := wl_in (by decide +kernel) (by decide +kernel)
theorem wd_287 : Cond.constantLong RX8 62 (97) ∈ WALL := wl_in (by decide +kernel) (by decide +kernel)
theorem wd_288 : Cond.code yX8_isWord cX8_isWord 3 (some .boolean) ∈ WALL := wl_in (by decide +kernel) (by decide +kernel)
theorem wd_289 : Cond.methodLink RX8 66 yX8_isWord ∈ WALL := wl_in (by decide +kernel) (by decide +kernel)
theorem wd_290 : Cond.instanceMethod yX8_isWord ∈ WALL := wl_in (by decide +kernel) (by decide +kernel)
theorem wd_291 : Cond.selects RX8 yX8_isWord yX8_isWord ∈ WALL := wl_in (by decide +kernel) (by decide +kernel)
theorem dX8_add_0 : decode cX8_add 0 = .ok (.iload_n 1, 1) := by decide +kernel
theorem dX8_add_1 : decode cX8_add 1 = .ok (.bipush 10, 2) := by decide +kernel
theorem dX8_add_3 : decode cX8_add 3 = .ok (.if_icmp .eq 15, 3) := by decide +kernel
theorem dX8_add_6 : decode cX8_add 6 = .ok (.iload_n 1, 1) := by decide +kernel
theorem dX8_add_7 : decode cX8_add 7 = .ok (.bipush 32, 2) := by decide +kernel
theorem dX8_add_9 : decode cX8_add 9 = .ok (.if_icmp .lt 13, 3) := by decide +kernel
theorem dX8_add_12 : decode cX8_add 12 = .ok (.iload_n 1, 1) := by decide +kernel
theorem dX8_add_13 : decode cX8_add 13 = .ok (.bipush 126, 2) := by decide +kernel
theorem dX8_add_15 : decode cX8_add 15 = .ok (.if_icmp .gt 7, 3) := by decide +kernel
theorem dX8_add_18 : decode cX8_add 18 = .ok (.iconst 1, 1) := by decide +kernel
theorem dX8_add_19 : decode cX8_add 19 = .ok (.goto 4, 3) := by decide +kernel
theorem dX8_add_22 : decode cX8_add 22 = .ok (.iconst 0, 1) := by decide +kernel
theorem dX8_add_23 : decode cX8_add 23 = .ok (.istore_n 2, 1) := by decide +kernel
theorem dX8_add_24 : decode cX8_add 24 = .ok (.iload_n 2, 1) := by decide +kernel
theorem dX8_add_25 : decode cX8_add 25 = .ok (.ifCond .eq 34, 3) := by decide +kernel
theorem dX8_add_28 : decode cX8_add 28 = .ok (.aload_n 0, 1) := by decide +kernel
theorem dX8_add_29 : decode cX8_add 29 = .ok (.getfield 15, 3) := by decide +kernel
theorem dX8_add_32 : decode cX8_add 32 = .ok (.sipush 1000, 3) := by decide +kernel
theorem dX8_add_35 : decode cX8_add 35 = .ok (.if_icmp .ge 24, 3) := by decide +kernel
theorem dX8_add_38 : decode cX8_add 38 = .ok (.aload_n 0, 1) := by decide +kernel
theorem dX8_add_39 : decode cX8_add 39 = .ok (.getfield 9, 3) := by decide +kernel
theorem dX8_add_42 : decode cX8_add 42 = .ok (.aload_n 0, 1) := by decide +kernel
theorem dX8_add_43 : decode cX8_add 43 = .ok (.getfield 15, 3) := by decide +kernel
theorem dX8_add_46 : decode cX8_add 46 = .ok (.iload_n 1, 1) := by decide +kernel
theorem dX8_add_47 : decode cX8_add 47 = .ok (.i2c, 1) := by decide +kernel
theorem dX8_add_48 : decode cX8_add 48 = .ok (.castore, 1) := by decide +kernel
theorem dX8_add_49 : decode cX8_add 49 = .ok (.aload_n 0, 1) := by decide +kernel
theorem dX8_add_50 : decode cX8_add 50 = .ok (.dup, 1) := by decide +kernel
theorem dX8_add_51 : decode cX8_add 51 = .ok (.getfield 15, 3) := by decide +kernel
theorem dX8_add_54 : decode cX8_add 54 = .ok (.iconst 1, 1) := by decide +kernel
theorem dX8_add_55 : decode cX8_add 55 = .ok (.iadd, 1) := by decide +kernel
theorem dX8_add_56 : decode cX8_add 56 = .ok (.putfield 15, 3) := by decide +kernel
theorem dX8_add_59 : decode cX8_add 59 = .ok (.return_, 1) := by decide +kernel
theorem dX8_pastBlanks_0 : decode cX8_pastBlanks 0 = .ok (.iload_n 1, 1) := by decide +kernel
theorem dX8_pastBlanks_1 : decode cX8_pastBlanks 1 = .ok (.istore_n 2, 1) := by decide +kernel
theorem dX8_pastBlanks_2 : decode cX8_pastBlanks 2 = .ok (.iload_n 2, 1) := by decide +kernel
theorem dX8_pastBlanks_3 : decode cX8_pastBlanks 3 = .ok (.aload_n 0, 1) := by decide +kernel
theorem dX8_pastBlanks_4 : decode cX8_pastBlanks 4 = .ok (.getfield 15, 3) := by decide +kernel
theorem dX8_pastBlanks_7 : decode cX8_pastBlanks 7 = .ok (.if_icmp .ge 31, 3) := by decide +kernel
theorem dX8_pastBlanks_10 : decode cX8_pastBlanks 10 = .ok (.aload_n 0, 1) := by decide +kernel
theorem dX8_pastBlanks_11 : decode cX8_pastBlanks 11 = .ok (.getfield 9, 3) := by decide +kernel
theorem dX8_pastBlanks_14 : decode cX8_pastBlanks 14 = .ok (.iload_n 2, 1) := by decide +kernel
theorem dX8_pastBlanks_15 : decode cX8_pastBlanks 15 = .ok (.caload, 1) := by decide +kernel
theorem dX8_pastBlanks_16 : decode cX8_pastBlanks 16 = .ok (.bipush 10, 2) := by decide +kernel
theorem dX8_pastBlanks_18 : decode cX8_pastBlanks 18 = .ok (.if_icmp .eq 14, 3) := by decide +kernel
theorem dX8_pastBlanks_21 : decode cX8_pastBlanks 21 = .ok (.aload_n 0, 1) := by decide +kernel
theorem dX8_pastBlanks_22 : decode cX8_pastBlanks 22 = .ok (.getfield 9, 3) := by decide +kernel
theorem dX8_pastBlanks_25 : decode cX8_pastBlanks 25 = .ok (.iload_n 2, 1) := by decide +kernel
theorem dX8_pastBlanks_26 : decode cX8_pastBlanks 26 = .ok (.caload, 1) := by decide +kernel
theorem dX8_pastBlanks_27 : decode cX8_pastBlanks 27 = .ok (.bipush 32, 2) := by decide +kernel
theorem dX8_pastBlanks_29 : decode cX8_pastBlanks 29 = .ok (.if_icmp .ne 9, 3) := by decide +kernel
theorem dX8_pastBlanks_32 : decode cX8_pastBlanks 32 = .ok (.iinc 2 1, 3) := by decide +kernel
theorem dX8_pastBlanks_35 : decode cX8_pastBlanks 35 = .ok (.goto (-33), 3) := by decide +kernel
theorem dX8_pastBlanks_38 : decode cX8_pastBlanks 38 = .ok (.iload_n 2, 1) := by decide +kernel
theorem dX8_pastBlanks_39 : decode cX8_pastBlanks 39 = .ok (.ireturn, 1) := by decide +kernel
theorem dX8_pastRun_0 : decode cX8_pastRun 0 = .ok (.iload_n 1, 1) := by decide +kernel
theorem dX8_pastRun_1 : decode cX8_pastRun 1 = .ok (.istore 4, 2) := by decide +kernel
theorem dX8_pastRun_3 : decode cX8_pastRun 3 = .ok (.iload 4, 2) := by decide +kernel
theorem dX8_pastRun_5 : decode cX8_pastRun 5 = .ok (.aload_n 0, 1) := by decide +kernel
theorem dX8_pastRun_6 : decode cX8_pastRun 6 = .ok (.getfield 15, 3) := by decide +kernel
theorem dX8_pastRun_9 : decode cX8_pastRun 9 = .ok (.if_icmp .ge 31, 3) := by decide +kernel
theorem dX8_pastRun_12 : decode cX8_pastRun 12 = .ok (.aload_n 0, 1) := by decide +kernel
theorem dX8_pastRun_13 : decode cX8_pastRun 13 = .ok (.getfield 9, 3) := by decide +kernel
theorem dX8_pastRun_16 : decode cX8_pastRun 16 = .ok (.iload 4, 2) := by decide +kernel
theorem dX8_pastRun_18 : decode cX8_pastRun 18 = .ok (.caload, 1) := by decide +kernel
theorem dX8_pastRun_19 : decode cX8_pastRun 19 = .ok (.iload_n 2, 1) := by decide +kernel
theorem dX8_pastRun_20 : decode cX8_pastRun 20 = .ok (.if_icmp .lt 20, 3) := by decide +kernel
theorem dX8_pastRun_23 : decode cX8_pastRun 23 = .ok (.aload_n 0, 1) := by decide +kernel
theorem dX8_pastRun_24 : decode cX8_pastRun 24 = .ok (.getfield 9, 3) := by decide +kernel
theorem dX8_pastRun_27 : decode cX8_pastRun 27 = .ok (.iload 4, 2) := by decide +kernel
theorem dX8_pastRun_29 : decode cX8_pastRun 29 = .ok (.caload, 1) := by decide +kernel
theorem dX8_pastRun_30 : decode cX8_pastRun 30 = .ok (.iload_n 3, 1) := by decide +kernel
theorem dX8_pastRun_31 : decode cX8_pastRun 31 = .ok (.if_icmp .gt 9, 3) := by decide +kernel
theorem dX8_pastRun_34 : decode cX8_pastRun 34 = .ok (.iinc 4 1, 3) := by decide +kernel
theorem dX8_pastRun_37 : decode cX8_pastRun 37 = .ok (.goto (-34), 3) := by decide +kernel
theorem dX8_pastRun_40 : decode cX8_pastRun 40 = .ok (.iload 4, 2) := by decide +kernel
theorem dX8_pastRun_42 : decode cX8_pastRun 42 = .ok (.ireturn, 1) := by decide +kernel
theorem dX8_valueOf_0 : decode cX8_valueOf 0 = .ok (.iconst 0, 1) := by decide +kernel
theorem dX8_valueOf_1 : decode cX8_valueOf 1 = .ok (.istore_n 3, 1) := by decide +kernel
theorem dX8_valueOf_2 : decode cX8_valueOf 2 = .ok (.iload_n 1, 1) := by decide +kernel
theorem dX8_valueOf_3 : decode cX8_valueOf 3 = .ok (.istore 4, 2) := by decide +kernel
theorem dX8_valueOf_5 : decode cX8_valueOf 5 = .ok (.iload 4, 2) := by decide +kernel
theorem dX8_valueOf_7 : decode cX8_valueOf 7 = .ok (.iload_n 2, 1) := by decide +kernel
theorem dX8_valueOf_8 : decode cX8_valueOf 8 = .ok (.if_icmp .ge 25, 3) := by decide +kernel
theorem dX8_valueOf_11 : decode cX8_valueOf 11 = .ok (.iload_n 3, 1) := by decide +kernel
theorem dX8_valueOf_12 : decode cX8_valueOf 12 = .ok (.bipush 10, 2) := by decide +kernel
theorem dX8_valueOf_14 : decode cX8_valueOf 14 = .ok (.imul, 1) := by decide +kernel
theorem dX8_valueOf_15 : decode cX8_valueOf 15 = .ok (.aload_n 0, 1) := by decide +kernel
theorem dX8_valueOf_16 : decode cX8_valueOf 16 = .ok (.getfield 9, 3) := by decide +kernel
theorem dX8_valueOf_19 : decode cX8_valueOf 19 = .ok (.iload 4, 2) := by decide +kernel
theorem dX8_valueOf_21 : decode cX8_valueOf 21 = .ok (.caload, 1) := by decide +kernel
theorem dX8_valueOf_22 : decode cX8_valueOf 22 = .ok (.iadd, 1) := by decide +kernel
theorem dX8_valueOf_23 : decode cX8_valueOf 23 = .ok (.bipush 48, 2) := by decide +kernel
theorem dX8_valueOf_25 : decode cX8_valueOf 25 = .ok (.isub, 1) := by decide +kernel
theorem dX8_valueOf_26 : decode cX8_valueOf 26 = .ok (.istore_n 3, 1) := by decide +kernel
theorem dX8_valueOf_27 : decode cX8_valueOf 27 = .ok (.iinc 4 1, 3) := by decide +kernel
theorem dX8_valueOf_30 : decode cX8_valueOf 30 = .ok (.goto (-25), 3) := by decide +kernel
theorem dX8_valueOf_33 : decode cX8_valueOf 33 = .ok (.iload_n 3, 1) := by decide +kernel
theorem dX8_valueOf_34 : decode cX8_valueOf 34 = .ok (.ireturn, 1) := by decide +kernel
theorem dX8_advance_0 : decode cX8_advance 0 = .ok (.aload_n 0, 1) := by decide +kernel
theorem dX8_advance_1 : decode cX8_advance 1 = .ok (.aload_n 0, 1) := by decide +kernel
theorem dX8_advance_2 : decode cX8_advance 2 = .ok (.aload_n 0, 1) := by decide +kernel
theorem dX8_advance_3 : decode cX8_advance 3 = .ok (.getfield 19, 3) := by decide +kernel
theorem dX8_advance_6 : decode cX8_advance 6 = .ok (.invokevirtual 25, 3) := by decide +kernel
theorem dX8_advance_9 : decode cX8_advance 9 = .ok (.putfield 29, 3) := by decide +kernel
theorem dX8_advance_12 : decode cX8_advance 12 = .ok (.aload_n 0, 1) := by decide +kernel
theorem dX8_advance_13 : decode cX8_advance 13 = .ok (.aload_n 0, 1) := by decide +kernel
theorem dX8_advance_14 : decode cX8_advance 14 = .ok (.getfield 29, 3) := by decide +kernel
theorem dX8_advance_17 : decode cX8_advance 17 = .ok (.bipush 97, 2) := by decide +kernel
theorem dX8_advance_19 : decode cX8_advance 19 = .ok (.bipush 122, 2) := by decide +kernel
theorem dX8_advance_21 : decode cX8_advance 21 = .ok (.invokevirtual 32, 3) := by decide +kernel
theorem dX8_advance_24 : decode cX8_advance 24 = .ok (.istore_n 1, 1) := by decide +kernel
theorem dX8_advance_25 : decode cX8_advance 25 = .ok (.aload_n 0, 1) := by decide +kernel
theorem dX8_advance_26 : decode cX8_advance 26 = .ok (.aload_n 0, 1) := by decide +kernel
theorem dX8_advance_27 : decode cX8_advance 27 = .ok (.getfield 29, 3) := by decide +kernel
theorem dX8_advance_30 : decode cX8_advance 30 = .ok (.bipush 48, 2) := by decide +kernel
theorem dX8_advance_32 : decode cX8_advance 32 = .ok (.bipush 57, 2) := by decide +kernel
theorem dX8_advance_34 : decode cX8_advance 34 = .ok (.invokevirtual 32, 3) := by decide +kernel
theorem dX8_advance_37 : decode cX8_advance 37 = .ok (.istore_n 2, 1) := by decide +kernel
theorem dX8_advance_38 : decode cX8_advance 38 = .ok (.aload_n 0, 1) := by decide +kernel
theorem dX8_advance_39 : decode cX8_advance 39 = .ok (.getfield 29, 3) := by decide +kernel
theorem dX8_advance_42 : decode cX8_advance 42 = .ok (.aload_n 0, 1) := by decide +kernel
theorem dX8_advance_43 : decode cX8_advance 43 = .ok (.getfield 15, 3) := by decide +kernel
theorem dX8_advance_46 : decode cX8_advance 46 = .ok (.if_icmp .lt 19, 3) := by decide +kernel
theorem dX8_advance_49 : decode cX8_advance 49 = .ok (.aload_n 0, 1) := by decide +kernel
theorem dX8_advance_50 : decode cX8_advance 50 = .ok (.aload_n 0, 1) := by decide +kernel
theorem dX8_advance_51 : decode cX8_advance 51 = .ok (.getfield 29, 3) := by decide +kernel
theorem dX8_advance_54 : decode cX8_advance 54 = .ok (.putfield 19, 3) := by decide +kernel
theorem dX8_advance_57 : decode cX8_advance 57 = .ok (.aload_n 0, 1) := by decide +kernel
theorem dX8_advance_58 : decode cX8_advance 58 = .ok (.iconst 0, 1) := by decide +kernel
theorem dX8_advance_59 : decode cX8_advance 59 = .ok (.putfield 36, 3) := by decide +kernel
theorem dX8_advance_62 : decode cX8_advance 62 = .ok (.goto 144, 3) := by decide +kernel
theorem dX8_advance_65 : decode cX8_advance 65 = .ok (.iload_n 1, 1) := by decide +kernel
theorem dX8_advance_66 : decode cX8_advance 66 = .ok (.aload_n 0, 1) := by decide +kernel
theorem dX8_advance_67 : decode cX8_advance 67 = .ok (.getfield 29, 3) := by decide +kernel
theorem dX8_advance_70 : decode cX8_advance 70 = .ok (.if_icmp .le 34, 3) := by decide +kernel
theorem dX8_advance_73 : decode cX8_advance 73 = .ok (.aload_n 0, 1) := by decide +kernel
theorem dX8_advance_74 : decode cX8_advance 74 = .ok (.iload_n 1, 1) := by decide +kernel
theorem dX8_advance_75 : decode cX8_advance 75 = .ok (.putfield 19, 3) := by decide +kernel
theorem dX8_advance_78 : decode cX8_advance 78 = .ok (.aload_n 0, 1) := by decide +kernel
theorem dX8_advance_79 : decode cX8_advance 79 = .ok (.aload_n 0, 1) := by decide +kernel
theorem dX8_advance_80 : decode cX8_advance 80 = .ok (.getfield 19, 3) := by decide +kernel
theorem dX8_advance_83 : decode cX8_advance 83 = .ok (.aload_n 0, 1) := by decide +kernel
theorem dX8_advance_84 : decode cX8_advance 84 = .ok (.getfield 29, 3) := by decide +kernel
theorem dX8_advance_87 : decode cX8_advance 87 = .ok (.isub, 1) := by decide +kernel
theorem dX8_advance_88 : decode cX8_advance 88 = .ok (.bipush 8, 2) := by decide +kernel
theorem dX8_advance_90 : decode cX8_advance 90 = .ok (.if_icmp .gt 7, 3) := by decide +kernel
theorem dX8_advance_93 : decode cX8_advance 93 = .ok (.iconst 1, 1) := by decide +kernel
theorem dX8_advance_94 : decode cX8_advance 94 = .ok (.goto 4, 3) := by decide +kernel
theorem dX8_advance_97 : decode cX8_advance 97 = .ok (.iconst 4, 1) := by decide +kernel
theorem dX8_advance_98 : decode cX8_advance 98 = .ok (.putfield 36, 3) := by decide +kernel
theorem dX8_advance_101 : decode cX8_advance 101 = .ok (.goto 105, 3) := by decide +kernel
theorem dX8_advance_104 : decode cX8_advance 104 = .ok (.iload_n 2, 1) := by decide +kernel
theorem dX8_advance_105 : decode cX8_advance 105 = .ok (.aload_n 0, 1) := by decide +kernel
theorem dX8_advance_106 : decode cX8_advance 106 = .ok (.getfield 29, 3) := by decide +kernel
theorem dX8_advance_109 : decode cX8_advance 109 = .ok (.if_icmp .le 61, 3) := by decide +kernel
theorem dX8_advance_112 : decode cX8_advance 112 = .ok (.aload_n 0, 1) := by decide +kernel
theorem dX8_advance_113 : decode cX8_advance 113 = .ok (.iload_n 2, 1) := by decide +kernel
theorem dX8_advance_114 : decode cX8_advance 114 = .ok (.putfield 19, 3) := by decide +kernel
theorem dX8_advance_117 : decode cX8_advance 117 = .ok (.aload_n 0, 1) := by decide +kernel
theorem dX8_advance_118 : decode cX8_advance 118 = .ok (.aload_n 0, 1) := by decide +kernel
theorem dX8_advance_119 : decode cX8_advance 119 = .ok (.getfield 19, 3) := by decide +kernel
theorem dX8_advance_122 : decode cX8_advance 122 = .ok (.aload_n 0, 1) := by decide +kernel
theorem dX8_advance_123 : decode cX8_advance 123 = .ok (.getfield 29, 3) := by decide +kernel
theorem dX8_advance_126 : decode cX8_advance 126 = .ok (.isub, 1) := by decide +kernel
theorem dX8_advance_127 : decode cX8_advance 127 = .ok (.iconst 4, 1) := by decide +kernel
theorem dX8_advance_128 : decode cX8_advance 128 = .ok (.if_icmp .gt 7, 3) := by decide +kernel
theorem dX8_advance_131 : decode cX8_advance 131 = .ok (.iconst 2, 1) := by decide +kernel
theorem dX8_advance_132 : decode cX8_advance 132 = .ok (.goto 4, 3) := by decide +kernel
theorem dX8_advance_135 : decode cX8_advance 135 = .ok (.iconst 4, 1) := by decide +kernel
theorem dX8_advance_136 : decode cX8_advance 136 = .ok (.putfield 36, 3) := by decide +kernel
theorem dX8_advance_139 : decode cX8_advance 139 = .ok (.aload_n 0, 1) := by decide +kernel
theorem dX8_advance_140 : decode cX8_advance 140 = .ok (.aload_n 0, 1) := by decide +kernel
theorem dX8_advance_141 : decode cX8_advance 141 = .ok (.getfield 36, 3) := by decide +kernel
theorem dX8_advance_144 : decode cX8_advance 144 = .ok (.iconst 2, 1) := by decide +kernel
theorem dX8_advance_145 : decode cX8_advance 145 = .ok (.if_icmp .ne 18, 3) := by decide +kernel
theorem dX8_advance_148 : decode cX8_advance 148 = .ok (.aload_n 0, 1) := by decide +kernel
theorem dX8_advance_149 : decode cX8_advance 149 = .ok (.aload_n 0, 1) := by decide +kernel
theorem dX8_advance_150 : decode cX8_advance 150 = .ok (.getfield 29, 3) := by decide +kernel
theorem dX8_advance_153 : decode cX8_advance 153 = .ok (.aload_n 0, 1) := by decide +kernel
theorem dX8_advance_154 : decode cX8_advance 154 = .ok (.getfield 19, 3) := by decide +kernel
theorem dX8_advance_157 : decode cX8_advance 157 = .ok (.invokevirtual 39, 3) := by decide +kernel
theorem dX8_advance_160 : decode cX8_advance 160 = .ok (.goto 4, 3) := by decide +kernel
theorem dX8_advance_163 : decode cX8_advance 163 = .ok (.iconst 0, 1) := by decide +kernel
theorem dX8_advance_164 : decode cX8_advance 164 = .ok (.putfield 43, 3) := by decide +kernel
theorem dX8_advance_167 : decode cX8_advance 167 = .ok (.goto 39, 3) := by decide +kernel
theorem dX8_advance_170 : decode cX8_advance 170 = .ok (.aload_n 0, 1) := by decide +kernel
theorem dX8_advance_171 : decode cX8_advance 171 = .ok (.aload_n 0, 1) := by decide +kernel
theorem dX8_advance_172 : decode cX8_advance 172 = .ok (.getfield 29, 3) := by decide +kernel
theorem dX8_advance_175 : decode cX8_advance 175 = .ok (.iconst 1, 1) := by decide +kernel
theorem dX8_advance_176 : decode cX8_advance 176 = .ok (.iadd, 1) := by decide +kernel
theorem dX8_advance_177 : decode cX8_advance 177 = .ok (.putfield 19, 3) := by decide +kernel
theorem dX8_advance_180 : decode cX8_advance 180 = .ok (.aload_n 0, 1) := by decide +kernel
theorem dX8_advance_181 : decode cX8_advance 181 = .ok (.ldc 46, 2) := by decide +kernel
theorem dX8_advance_183 : decode cX8_advance 183 = .ok (.aload_n 0, 1) := by decide +kernel
theorem dX8_advance_184 : decode cX8_advance 184 = .ok (.getfield 9, 3) := by decide +kernel
theorem dX8_advance_187 : decode cX8_advance 187 = .ok (.aload_n 0, 1) := by decide +kernel
theorem dX8_advance_188 : decode cX8_advance 188 = .ok (.getfield 29, 3) := by decide +kernel
theorem dX8_advance_191 : decode cX8_advance 191 = .ok (.caload, 1) := by decide +kernel
theorem dX8_advance_192 : decode cX8_advance 192 = .ok (.invokevirtual 48, 3) := by decide +kernel
theorem dX8_advance_195 : decode cX8_advance 195 = .ok (.ifCond .lt 7, 3) := by decide +kernel
theorem dX8_advance_198 : decode cX8_advance 198 = .ok (.iconst 3, 1) := by decide +kernel
theorem dX8_advance_199 : decode cX8_advance 199 = .ok (.goto 4, 3) := by decide +kernel
theorem dX8_advance_202 : decode cX8_advance 202 = .ok (.iconst 4, 1) := by decide +kernel
theorem dX8_advance_203 : decode cX8_advance 203 = .ok (.putfield 36, 3) := by decide +kernel
theorem dX8_advance_206 : decode cX8_advance 206 = .ok (.return_, 1) := by decide +kernel
theorem dX8_start_0 : decode cX8_start 0 = .ok (.aload_n 0, 1) := by decide +kernel
theorem dX8_start_1 : decode cX8_start 1 = .ok (.iconst 0, 1) := by decide +kernel
theorem dX8_start_2 : decode cX8_start 2 = .ok (.putfield 19, 3) := by decide +kernel
theorem dX8_start_5 : decode cX8_start 5 = .ok (.aload_n 0, 1) := by decide +kernel
theorem dX8_start_6 : decode cX8_start 6 = .ok (.invokevirtual 22, 3) := by decide +kernel
theorem dX8_start_9 : decode cX8_start 9 = .ok (.return_, 1) := by decide +kernel
theorem dX8_isSign_0 : decode cX8_isSign 0 = .ok (.aload_n 0, 1) := by decide +kernel
theorem dX8_isSign_1 : decode cX8_isSign 1 = .ok (.getfield 36, 3) := by decide +kernel
theorem dX8_isSign_4 : decode cX8_isSign 4 = .ok (.iconst 3, 1) := by decide +kernel
theorem dX8_isSign_5 : decode cX8_isSign 5 = .ok (.if_icmp .ne 20, 3) := by decide +kernel
theorem dX8_isSign_8 : decode cX8_isSign 8 = .ok (.aload_n 0, 1) := by decide +kernel
theorem dX8_isSign_9 : decode cX8_isSign 9 = .ok (.getfield 9, 3) := by decide +kernel
theorem dX8_isSign_12 : decode cX8_isSign 12 = .ok (.aload_n 0, 1) := by decide +kernel
theorem dX8_isSign_13 : decode cX8_isSign 13 = .ok (.getfield 29, 3) := by decide +kernel
theorem dX8_isSign_16 : decode cX8_isSign 16 = .ok (.caload, 1) := by decide +kernel
theorem dX8_isSign_17 : decode cX8_isSign 17 = .ok (.iload_n 1, 1) := by decide +kernel
theorem dX8_isSign_18 : decode cX8_isSign 18 = .ok (.if_icmp .ne 7, 3) := by decide +kernel
theorem dX8_isSign_21 : decode cX8_isSign 21 = .ok (.iconst 1, 1) := by decide +kernel
theorem dX8_isSign_22 : decode cX8_isSign 22 = .ok (.goto 4, 3) := by decide +kernel
theorem dX8_isSign_25 : decode cX8_isSign 25 = .ok (.iconst 0, 1) := by decide +kernel
theorem dX8_isSign_26 : decode cX8_isSign 26 = .ok (.ireturn, 1) := by decide +kernel
theorem dX8_isWord_0 : decode cX8_isWord 0 = .ok (.aload_n 0, 1) := by decide +kernel
theorem dX8_isWord_1 : decode cX8_isWord 1 = .ok (.getfield 36, 3) := by decide +kernel
theorem dX8_isWord_4 : decode cX8_isWord 4 = .ok (.iconst 1, 1) := by decide +kernel
theorem dX8_isWord_5 : decode cX8_isWord 5 = .ok (.if_icmp .ne 19, 3) := by decide +kernel
theorem dX8_isWord_8 : decode cX8_isWord 8 = .ok (.aload_n 0, 1) := by decide +kernel
theorem dX8_isWord_9 : decode cX8_isWord 9 = .ok (.getfield 19, 3) := by decide +kernel
theorem dX8_isWord_12 : decode cX8_isWord 12 = .ok (.aload_n 0, 1) := by decide +kernel
theorem dX8_isWord_13 : decode cX8_isWord 13 = .ok (.getfield 29, 3) := by decide +kernel
theorem dX8_isWord_16 : decode cX8_isWord 16 = .ok (.isub, 1) := by decide +kernel
theorem dX8_isWord_17 : decode cX8_isWord 17 = .ok (.aload_n 1, 1) := by decide +kernel
theorem dX8_isWord_18 : decode cX8_isWord 18 = .ok (.invokevirtual 53, 3) := by decide +kernel
theorem dX8_isWord_21 : decode cX8_isWord 21 = .ok (.if_icmp .eq 5, 3) := by decide +kernel
theorem dX8_isWord_24 : decode cX8_isWord 24 = .ok (.iconst 0, 1) := by decide +kernel
theorem dX8_isWord_25 : decode cX8_isWord 25 = .ok (.ireturn, 1) := by decide +kernel
theorem dX8_isWord_26 : decode cX8_isWord 26 = .ok (.iconst 0, 1) := by decide +kernel
theorem dX8_isWord_27 : decode cX8_isWord 27 = .ok (.istore_n 2, 1) := by decide +kernel
theorem dX8_isWord_28 : decode cX8_isWord 28 = .ok (.iload_n 2, 1) := by decide +kernel
theorem dX8_isWord_29 : decode cX8_isWord 29 = .ok (.aload_n 1, 1) := by decide +kernel
theorem dX8_isWord_30 : decode cX8_isWord 30 = .ok (.invokevirtual 53, 3) := by decide +kernel
theorem dX8_isWord_33 : decode cX8_isWord 33 = .ok (.if_icmp .ge 30, 3) := by decide +kernel
theorem dX8_isWord_36 : decode cX8_isWord 36 = .ok (.aload_n 0, 1) := by decide +kernel
theorem dX8_isWord_37 : decode cX8_isWord 37 = .ok (.getfield 9, 3) := by decide +kernel
theorem dX8_isWord_40 : decode cX8_isWord 40 = .ok (.aload_n 0, 1) := by decide +kernel
theorem dX8_isWord_41 : decode cX8_isWord 41 = .ok (.getfield 29, 3) := by decide +kernel
theorem dX8_isWord_44 : decode cX8_isWord 44 = .ok (.iload_n 2, 1) := by decide +kernel
theorem dX8_isWord_45 : decode cX8_isWord 45 = .ok (.iadd, 1) := by decide +kernel
theorem dX8_isWord_46 : decode cX8_isWord 46 = .ok (.caload, 1) := by decide +kernel
theorem dX8_isWord_47 : decode cX8_isWord 47 = .ok (.aload_n 1, 1) := by decide +kernel
theorem dX8_isWord_48 : decode cX8_isWord 48 = .ok (.iload_n 2, 1) := by decide +kernel
theorem dX8_isWord_49 : decode cX8_isWord 49 = .ok (.invokevirtual 56, 3) := by decide +kernel
theorem dX8_isWord_52 : decode cX8_isWord 52 = .ok (.if_icmp .eq 5, 3) := by decide +kernel
theorem dX8_isWord_55 : decode cX8_isWord 55 = .ok (.iconst 0, 1) := by decide +kernel
theorem dX8_isWord_56 : decode cX8_isWord 56 = .ok (.ireturn, 1) := by decide +kernel
theorem dX8_isWord_57 : decode cX8_isWord 57 = .ok (.iinc 2 1, 3) := by decide +kernel
theorem dX8_isWord_60 : decode cX8_isWord 60 = .ok (.goto (-32), 3) := by decide +kernel
theorem dX8_isWord_63 : decode cX8_isWord 63 = .ok (.iconst 1, 1) := by decide +kernel
theorem dX8_isWord_64 : decode cX8_isWord 64 = .ok (.ireturn, 1) := by decide +kernel
theorem dX8_code_0 : decode cX8_code 0 = .ok (.lconst 0, 1) := by decide +kernel
theorem dX8_code_1 : decode cX8_code 1 = .ok (.lstore_n 1, 1) := by decide +kernel
theorem dX8_code_2 : decode cX8_code 2 = .ok (.aload_n 0, 1) := by decide +kernel
theorem dX8_code_3 : decode cX8_code 3 = .ok (.getfield 29, 3) := by decide +kernel
theorem dX8_code_6 : decode cX8_code 6 = .ok (.istore_n 3, 1) := by decide +kernel
theorem dX8_code_7 : decode cX8_code 7 = .ok (.iload_n 3, 1) := by decide +kernel
theorem dX8_code_8 : decode cX8_code 8 = .ok (.aload_n 0, 1) := by decide +kernel
theorem dX8_code_9 : decode cX8_code 9 = .ok (.getfield 19, 3) := by decide +kernel
theorem dX8_code_12 : decode cX8_code 12 = .ok (.if_icmp .ge 29, 3) := by decide +kernel
theorem dX8_code_15 : decode cX8_code 15 = .ok (.lload_n 1, 1) := by decide +kernel
theorem dX8_code_16 : decode cX8_code 16 = .ok (.ldc2_w 60, 3) := by decide +kernel
theorem dX8_code_19 : decode cX8_code 19 = .ok (.lmul, 1) := by decide +kernel
theorem dX8_code_20 : decode cX8_code 20 = .ok (.aload_n 0, 1) := by decide +kernel
theorem dX8_code_21 : decode cX8_code 21 = .ok (.getfield 9, 3) := by decide +kernel
theorem dX8_code_24 : decode cX8_code 24 = .ok (.iload_n 3, 1) := by decide +kernel
theorem dX8_code_25 : decode cX8_code 25 = .ok (.caload, 1) := by decide +kernel
theorem dX8_code_26 : decode cX8_code 26 = .ok (.i2l, 1) := by decide +kernel
theorem dX8_code_27 : decode cX8_code 27 = .ok (.ladd, 1) := by decide +kernel
theorem dX8_code_28 : decode cX8_code 28 = .ok (.ldc2_w 62, 3) := by decide +kernel
theorem dX8_code_31 : decode cX8_code 31 = .ok (.lsub, 1) := by decide +kernel
theorem dX8_code_32 : decode cX8_code 32 = .ok (.lconst 1, 1) := by decide +kernel
theorem dX8_code_33 : decode cX8_code 33 = .ok (.ladd, 1) := by decide +kernel
theorem dX8_code_34 : decode cX8_code 34 = .ok (.lstore_n 1, 1) := by decide +kernel
theorem dX8_code_35 : decode cX8_code 35 = .ok (.iinc 3 1, 3) := by decide +kernel
theorem dX8_code_38 : decode cX8_code 38 = .ok (.goto (-31), 3) := by decide +kernel
theorem dX8_code_41 : decode cX8_code 41 = .ok (.lload_n 1, 1) := by decide +kernel
theorem dX8_code_42 : decode cX8_code 42 = .ok (.lreturn, 1) := by decide +kernel
theorem dX8_isName_0 : decode cX8_isName 0 = .ok (.aload_n 0, 1) := by decide +kernel
theorem dX8_isName_1 : decode cX8_isName 1 = .ok (.ldc 64, 2) := by decide +kernel
theorem dX8_isName_3 : decode cX8_isName 3 = .ok (.invokevirtual 66, 3) := by decide +kernel
theorem dX8_isName_6 : decode cX8_isName 6 = .ok (.ifCond .ne 48, 3) := by decide +kernel
theorem dX8_isName_9 : decode cX8_isName 9 = .ok (.aload_n 0, 1) := by decide +kernel
theorem dX8_isName_10 : decode cX8_isName 10 = .ok (.ldc 70, 2) := by decide +kernel
theorem dX8_isName_12 : decode cX8_isName 12 = .ok (.invokevirtual 66, 3) := by decide +kernel
theorem dX8_isName_15 : decode cX8_isName 15 = .ok (.ifCond .ne 39, 3) := by decide +kernel
theorem dX8_isName_18 : decode cX8_isName 18 = .ok (.aload_n 0, 1) := by decide +kernel
theorem dX8_isName_19 : decode cX8_isName 19 = .ok (.ldc 72, 2) := by decide +kernel
theorem dX8_isName_21 : decode cX8_isName 21 = .ok (.invokevirtual 66, 3) := by decide +kernel
theorem dX8_isName_24 : decode cX8_isName 24 = .ok (.ifCond .ne 30, 3) := by decide +kernel
theorem dX8_isName_27 : decode cX8_isName 27 = .ok (.aload_n 0, 1) := by decide +kernel
theorem dX8_isName_28 : decode cX8_isName 28 = .ok (.ldc 74, 2) := by decide +kernel
theorem dX8_isName_30 : decode cX8_isName 30 = .ok (.invokevirtual 66, 3) := by decide +kernel
theorem dX8_isName_33 : decode cX8_isName 33 = .ok (.ifCond .ne 21, 3) := by decide +kernel
theorem dX8_isName_36 : decode cX8_isName 36 = .ok (.aload_n 0, 1) := by decide +kernel
theorem dX8_isName_37 : decode cX8_isName 37 = .ok (.ldc 76, 2) := by decide +kernel
theorem dX8_isName_39 : decode cX8_isName 39 = .ok (.invokevirtual 66, 3) := by decide +kernel
theorem dX8_isName_42 : decode cX8_isName 42 = .ok (.ifCond .ne 12, 3) := by decide +kernel
theorem dX8_isName_45 : decode cX8_isName 45 = .ok (.aload_n 0, 1) := by decide +kernel
theorem dX8_isName_46 : decode cX8_isName 46 = .ok (.ldc 78, 2) := by decide +kernel
theorem dX8_isName_48 : decode cX8_isName 48 = .ok (.invokevirtual 66, 3) := by decide +kernel
theorem dX8_isName_51 : decode cX8_isName 51 = .ok (.ifCond .eq 7, 3) := by decide +kernel
theorem dX8_isName_54 : decode cX8_isName 54 = .ok (.iconst 1, 1) := by decide +kernel
theorem dX8_isName_55 : decode cX8_isName 55 = .ok (.goto 4, 3) := by decide +kernel
theorem dX8_isName_58 : decode cX8_isName 58 = .ok (.iconst 0, 1) := by decide +kernel
theorem dX8_isName_59 : decode cX8_isName 59 = .ok (.istore_n 1, 1) := by decide +kernel
theorem dX8_isName_60 : decode cX8_isName 60 = .ok (.aload_n 0, 1) := by decide +kernel
theorem dX8_isName_61 : decode cX8_isName 61 = .ok (.ldc 80, 2) := by decide +kernel
theorem dX8_isName_63 : decode cX8_isName 63 = .ok (.invokevirtual 66, 3) := by decide +kernel
theorem dX8_isName_66 : decode cX8_isName 66 = .ok (.ifCond .ne 66, 3) := by decide +kernel
theorem dX8_isName_69 : decode cX8_isName 69 = .ok (.aload_n 0, 1) := by decide +kernel
theorem dX8_isName_70 : decode cX8_isName 70 = .ok (.ldc 82, 2) := by decide +kernel
theorem dX8_isName_72 : decode cX8_isName 72 = .ok (.invokevirtual 66, 3) := by decide +kernel
theorem dX8_isName_75 : decode cX8_isName 75 = .ok (.ifCond .ne 57, 3) := by decide +kernel
theorem dX8_isName_78 : decode cX8_isName 78 = .ok (.aload_n 0, 1) := by decide +kernel
theorem dX8_isName_79 : decode cX8_isName 79 = .ok (.ldc 84, 2) := by decide +kernel
theorem dX8_isName_81 : decode cX8_isName 81 = .ok (.invokevirtual 66, 3) := by decide +kernel
theorem dX8_isName_84 : decode cX8_isName 84 = .ok (.ifCond .ne 48, 3) := by decide +kernel
theorem dX8_isName_87 : decode cX8_isName 87 = .ok (.aload_n 0, 1) := by decide +kernel
theorem dX8_isName_88 : decode cX8_isName 88 = .ok (.ldc 86, 2) := by decide +kernel
theorem dX8_isName_90 : decode cX8_isName 90 = .ok (.invokevirtual 66, 3) := by decide +kernel
theorem dX8_isName_93 : decode cX8_isName 93 = .ok (.ifCond .ne 39, 3) := by decide +kernel
theorem dX8_isName_96 : decode cX8_isName 96 = .ok (.aload_n 0, 1) := by decide +kernel
theorem dX8_isName_97 : decode cX8_isName 97 = .ok (.ldc 88, 2) := by decide +kernel
theorem dX8_isName_99 : decode cX8_isName 99 = .ok (.invokevirtual 66, 3) := by decide +kernel
theorem dX8_isName_102 : decode cX8_isName 102 = .ok (.ifCond .ne 30, 3) := by decide +kernel
theorem dX8_isName_105 : decode cX8_isName 105 = .ok (.aload_n 0, 1) := by decide +kernel
theorem dX8_isName_106 : decode cX8_isName 106 = .ok (.ldc 90, 2) := by decide +kernel
theorem dX8_isName_108 : decode cX8_isName 108 = .ok (.invokevirtual 66, 3) := by decide +kernel
theorem dX8_isName_111 : decode cX8_isName 111 = .ok (.ifCond .ne 21, 3) := by decide +kernel
theorem dX8_isName_114 : decode cX8_isName 114 = .ok (.aload_n 0, 1) := by decide +kernel
theorem dX8_isName_115 : decode cX8_isName 115 = .ok (.ldc 92, 2) := by decide +kernel
theorem dX8_isName_117 : decode cX8_isName 117 = .ok (.invokevirtual 66, 3) := by decide +kernel
theorem dX8_isName_120 : decode cX8_isName 120 = .ok (.ifCond .ne 12, 3) := by decide +kernel
theorem dX8_isName_123 : decode cX8_isName 123 = .ok (.aload_n 0, 1) := by decide +kernel
theorem dX8_isName_124 : decode cX8_isName 124 = .ok (.ldc 94, 2) := by decide +kernel
theorem dX8_isName_126 : decode cX8_isName 126 = .ok (.invokevirtual 66, 3) := by decide +kernel
theorem dX8_isName_129 : decode cX8_isName 129 = .ok (.ifCond .eq 7, 3) := by decide +kernel
theorem dX8_isName_132 : decode cX8_isName 132 = .ok (.iconst 1, 1) := by decide +kernel
theorem dX8_isName_133 : decode cX8_isName 133 = .ok (.goto 4, 3) := by decide +kernel
theorem dX8_isName_136 : decode cX8_isName 136 = .ok (.iconst 0, 1) := by decide +kernel
theorem dX8_isName_137 : decode cX8_isName 137 = .ok (.istore_n 2, 1) := by decide +kernel
theorem dX8_isName_138 : decode cX8_isName 138 = .ok (.aload_n 0, 1) := by decide +kernel
theorem dX8_isName_139 : decode cX8_isName 139 = .ok (.ldc 96, 2) := by decide +kernel
theorem dX8_isName_141 : decode cX8_isName 141 = .ok (.invokevirtual 66, 3) := by decide +kernel
theorem dX8_isName_144 : decode cX8_isName 144 = .ok (.ifCond .ne 21, 3) := by decide +kernel
theorem dX8_isName_147 : decode cX8_isName 147 = .ok (.aload_n 0, 1) := by decide +kernel
theorem dX8_isName_148 : decode cX8_isName 148 = .ok (.ldc 98, 2) := by decide +kernel
theorem dX8_isName_150 : decode cX8_isName 150 = .ok (.invokevirtual 66, 3) := by decide +kernel
theorem dX8_isName_153 : decode cX8_isName 153 = .ok (.ifCond .ne 12, 3) := by decide +kernel
theorem dX8_isName_156 : decode cX8_isName 156 = .ok (.aload_n 0, 1) := by decide +kernel
theorem dX8_isName_157 : decode cX8_isName 157 = .ok (.ldc 100, 2) := by decide +kernel
theorem dX8_isName_159 : decode cX8_isName 159 = .ok (.invokevirtual 66, 3) := by decide +kernel
theorem dX8_isName_162 : decode cX8_isName 162 = .ok (.ifCond .eq 7, 3) := by decide +kernel
theorem dX8_isName_165 : decode cX8_isName 165 = .ok (.iconst 1, 1) := by decide +kernel
theorem dX8_isName_166 : decode cX8_isName 166 = .ok (.goto 4, 3) := by decide +kernel
theorem dX8_isName_169 : decode cX8_isName 169 = .ok (.iconst 0, 1) := by decide +kernel
theorem dX8_isName_170 : decode cX8_isName 170 = .ok (.istore_n 3, 1) := by decide +kernel
theorem dX8_isName_171 : decode cX8_isName 171 = .ok (.aload_n 0, 1) := by decide +kernel
theorem dX8_isName_172 : decode cX8_isName 172 = .ok (.getfield 36, 3) := by decide +kernel
theorem dX8_isName_175 : decode cX8_isName 175 = .ok (.iconst 1, 1) := by decide +kernel
theorem dX8_isName_176 : decode cX8_isName 176 = .ok (.if_icmp .ne 19, 3) := by decide +kernel
theorem dX8_isName_179 : decode cX8_isName 179 = .ok (.iload_n 1, 1) := by decide +kernel
theorem dX8_isName_180 : decode cX8_isName 180 = .ok (.ifCond .ne 15, 3) := by decide +kernel
theorem dX8_isName_183 : decode cX8_isName 183 = .ok (.iload_n 2, 1) := by decide +kernel
theorem dX8_isName_184 : decode cX8_isName 184 = .ok (.ifCond .ne 11, 3) := by decide +kernel
theorem dX8_isName_187 : decode cX8_isName 187 = .ok (.iload_n 3, 1) := by decide +kernel
theorem dX8_isName_188 : decode cX8_isName 188 = .ok (.ifCond .ne 7, 3) := by decide +kernel
theorem dX8_isName_191 : decode cX8_isName 191 = .ok (.iconst 1, 1) := by decide +kernel
theorem dX8_isName_192 : decode cX8_isName 192 = .ok (.goto 4, 3) := by decide +kernel
theorem dX8_isName_195 : decode cX8_isName 195 = .ok (.iconst 0, 1) := by decide +kernel
theorem dX8_isName_196 : decode cX8_isName 196 = .ok (.ireturn, 1) := by decide +kernel
set_option maxHeartbeats 4000000 in
set_option maxRecDepth 100000 in
theorem c_X8_add (l : Launch) (D : DG) (cyC cyI cyJ cyZ cyO : ClassId) (t0 : Nat) (t1 : Nat) (p0 : Int32) (t_length : Int32) (t_next : Int32) (t_kind : Int32) (t_place : Int32) (t_number : Int32) (t_text : Nat → Int32) (h_t_length : 0 ≤ (t_length).toInt ∧ (t_length).toInt ≤ 1000) (h_t_next : 0 ≤ (t_next).toInt ∧ (t_next).toInt ≤ 1000) (h_t_kind : 0 ≤ (t_kind).toInt ∧ (t_kind).toInt ≤ 4) (h_t_place : 0 ≤ (t_place).toInt ∧ (t_place).toInt ≤ 1000) : KK l D (TY cyC cyI cyJ cyZ cyO) yX8_add cX8_add 3 none ({ frames := 0, cells := 0, slots := 0, locals := 0 } : Room) 0 0 [.ref t0, .int p0] [(t0, .inr (8, [.ref t1, .int t_length, .int t_next, .int t_kind, .int t_place, .int t_number])), (t1, .inl (cyC, 1000, .inl t_text))] (fun u => none) (fun u => (0 ≤ (u.2.1 0).toInt ∧ (u.2.1 0).toInt ≤ 1000)) (fun u => [(t0, .inr (8, [.ref t1, .int (u.2.1 0), .int t_next, .int t_kind, .int t_place, .int t_number])), (t1, .inl (cyC, 1000, .inl (u.2.2.1 0)))]) := by
  refine KK.of (lv0 := [(0, .ref t0), (1, .int p0)]) (by decide) rfl (Nat.le_of_ble_eq_true rfl) ?_
  intro p e s m args below meth c A C hr hk hin
  refine j_iload_n (pc := 0) C dX8_add_0 rfl 1 rfl ?_
  refine j_bipush (pc := 1) (v := 10) C dX8_add_1 (by decide) ?_
  refine j_icmp_eq (pc := 3) (tgt := 18) C dX8_add_3 (by decide) (fun c_1 => ?_) (fun c_1 => ?_)
  · skip
    have el_10 : (10 : Int32).toInt = 10 := rfl
    rw [i_eq] at c_1
    refine j_iconst (pc := 18) (v := 1) C dX8_add_18 (by decide) ?_
    refine j_goto (pc := 19) (tgt := 23) C dX8_add_19 (by decide) ?_
    refine j_istore_n (pc := 23) (lv' := [(2, .int 1), (0, .ref t0), (1, .int p0)]) C dX8_add_23 rfl (by decide) rfl ?_
    refine j_iload_n (pc := 24) C dX8_add_24 rfl 0 rfl ?_
    refine j_if_eq_f (pc := 25) (tgt := 59) C dX8_add_25 (by decide) (by decide) ?_
    refine j_aload_n (pc := 28) C dX8_add_28 rfl 1 rfl ?_
    refine j_get (pc := 29) (ci := 8) (v := .int t_length) C inw_8 0 rfl rfl 1 (by decide) wd_254 rfl rfl dX8_add_29 ?_
    refine j_sipush (pc := 32) (v := 1000) C dX8_add_32 (by decide) ?_
    refine j_icmp_ge (pc := 35) (tgt := 59) C dX8_add_35 (by decide) (fun c_2 => ?_) (fun c_2 => ?_)
    · skip
      have el_1000 : (1000 : Int32).toInt = 1000 := rfl
      rw [i_le] at c_2
      have k0c_2 : t_length.toInt = 1000 := by omega
      exact j_vret (pc := 59) C hr hk (fun i => [].getD i 0, fun i => [t_length].getD i 0, fun i => [t_text].getD i (fun _ => 0), fun i => [].getD i (fun _ => 0)) rfl (show (0 ≤ (t_length).toInt ∧ (t_length).toInt ≤ 1000) from (h_t_length)) [0, 1] (by decide) rfl (by decide) (by decide) dX8_add_59
    · skip
      have el_1000 : (1000 : Int32).toInt = 1000 := rfl
      rw [i_le] at c_2
      refine j_aload_n (pc := 38) C dX8_add_38 rfl 1 rfl ?_
      refine j_get (pc := 39) (ci := 8) (v := .ref t1) C inw_8 0 rfl rfl 0 (by decide) wd_255 rfl rfl dX8_add_39 ?_
      refine j_aload_n (pc := 42) C dX8_add_42 rfl 1 rfl ?_
      refine j_get (pc := 43) (ci := 8) (v := .int t_length) C inw_8 0 rfl rfl 1 (by decide) wd_254 rfl rfl dX8_add_43 ?_
      refine j_iload_n (pc := 46) C dX8_add_46 rfl 2 rfl ?_
      obtain ⟨v_3, ev_3⟩ : ∃ z : Int32, ((p0 : Int32).toUInt32 % 65536).toInt32 = z := ⟨_, rfl⟩
      have hv_3 : v_3.toInt = p0.toInt := by rw [← ev_3, i2c_id (by omega) (by omega)]
      refine j_i2c (pc := 47) (v := v_3) C dX8_add_47 ev_3 ?_
      obtain ⟨f_4, ef_4⟩ : ∃ z, z = upd t_text (t_length).toInt.toNat (vp_nar .char v_3) := ⟨_, rfl⟩
      refine j_cast (pc := 48) (k := (t_length).toInt.toNat) (ws' := [(t0, .inr (8, [.ref t1, .int t_length, .int t_next, .int t_kind, .int t_place, .int t_number])), (t1, .inl (cyC, 1000, .inl f_4))]) C 1 0 rfl rfl (i_nn h_t_length.1) rfl (i_lt_n h_t_length.1 (by omega)) dX8_add_48 (by rw [ef_4]; rfl) ?_
      refine j_aload_n (pc := 49) C dX8_add_49 rfl 1 rfl ?_
      refine j_dup (pc := 50) C dX8_add_50 rfl ?_
      refine j_get (pc := 51) (ci := 8) (v := .int t_length) C inw_8 0 rfl rfl 1 (by decide) wd_254 rfl rfl dX8_add_51 ?_
      refine j_iconst (pc := 54) (v := 1) C dX8_add_54 (by decide) ?_
      obtain ⟨v_5, ev_5⟩ : ∃ z : Int32, t_length + 1 = z := ⟨_, rfl⟩
      have el_1 : (1 : Int32).toInt = 1 := rfl
      have hv_5 : v_5.toInt = t_length.toInt + (1 : Int32).toInt := by rw [← ev_5]; exact fb_addI (by omega) (by omega)
      refine j_iadd (pc := 55) (v := v_5) C dX8_add_55 ev_5 ?_
      refine j_put (pc := 56) (ci := 8) (v := .int v_5) (ws' := [(t0, .inr (8, [.ref t1, .int v_5, .int t_next, .int t_kind, .int t_place, .int t_number])), (t1, .inl (cyC, 1000, .inl f_4))]) C inw_8 0 rfl rfl 1 (by decide) wd_254 rfl tyX8_ok nmX8 rfl (tyX8_ok 1 (by decide)) rfl rfl (Nat.le_of_ble_eq_true rfl) dX8_add_56 rfl ?_
      exact j_vret (pc := 59) C hr hk (fun i => [].getD i 0, fun i => [v_5].getD i 0, fun i => [f_4].getD i (fun _ => 0), fun i => [].getD i (fun _ => 0)) rfl (show (0 ≤ (v_5).toInt ∧ (v_5).toInt ≤ 1000) from (by omega)) [0, 1] (by decide) rfl (by decide) (by decide) dX8_add_59
  · skip
    have el_10 : (10 : Int32).toInt = 10 := rfl
    rw [i_eq] at c_1
    refine j_iload_n (pc := 6) C dX8_add_6 rfl 1 rfl ?_
    refine j_bipush (pc := 7) (v := 32) C dX8_add_7 (by decide) ?_
    refine j_icmp_lt (pc := 9) (tgt := 22) C dX8_add_9 (by decide) (fun c_6 => ?_) (fun c_6 => ?_)
    · skip
      have el_32 : (32 : Int32).toInt = 32 := rfl
      rw [i_lt] at c_6
      refine j_iconst (pc := 22) (v := 0) C dX8_add_22 (by decide) ?_
      refine j_istore_n (pc := 23) (lv' := [(2, .int 0), (0, .ref t0), (1, .int p0)]) C dX8_add_23 rfl (by decide) rfl ?_
      refine j_iload_n (pc := 24) C dX8_add_24 rfl 0 rfl ?_
      refine j_if_eq_t (pc := 25) (tgt := 59) C dX8_add_25 (by decide) (by decide) ?_
      exact j_vret (pc := 59) C hr hk (fun i => [].getD i 0, fun i => [t_length].getD i 0, fun i => [t_text].getD i (fun _ => 0), fun i => [].getD i (fun _ => 0)) rfl (show (0 ≤ (t_length).toInt ∧ (t_length).toInt ≤ 1000) from (h_t_length)) [0, 1] (by decide) rfl (by decide) (by decide) dX8_add_59
    · skip
      have el_32 : (32 : Int32).toInt = 32 := rfl
      rw [i_lt] at c_6
      refine j_iload_n (pc := 12) C dX8_add_12 rfl 1 rfl ?_
      refine j_bipush (pc := 13) (v := 126) C dX8_add_13 (by decide) ?_
      refine j_icmp_gt (pc := 15) (tgt := 22) C dX8_add_15 (by decide) (fun c_7 => ?_) (fun c_7 => ?_)
      · skip
        have el_126 : (126 : Int32).toInt = 126 := rfl
        rw [i_lt] at c_7
        refine j_iconst (pc := 22) (v := 0) C dX8_add_22 (by decide) ?_
        refine j_istore_n (pc := 23) (lv' := [(2, .int 0), (0, .ref t0), (1, .int p0)]) C dX8_add_23 rfl (by decide) rfl ?_
        refine j_iload_n (pc := 24) C dX8_add_24 rfl 0 rfl ?_
        refine j_if_eq_t (pc := 25) (tgt := 59) C dX8_add_25 (by decide) (by decide) ?_
        exact j_vret (pc := 59) C hr hk (fun i => [].getD i 0, fun i => [t_length].getD i 0, fun i => [t_text].getD i (fun _ => 0), fun i => [].getD i (fun _ => 0)) rfl (show (0 ≤ (t_length).toInt ∧ (t_length).toInt ≤ 1000) from (h_t_length)) [0, 1] (by decide) rfl (by decide) (by decide) dX8_add_59
      · skip
        have el_126 : (126 : Int32).toInt = 126 := rfl
        rw [i_lt] at c_7
        refine j_iconst (pc := 18) (v := 1) C dX8_add_18 (by decide) ?_
        refine j_goto (pc := 19) (tgt := 23) C dX8_add_19 (by decide) ?_
        refine j_istore_n (pc := 23) (lv' := [(2, .int 1), (0, .ref t0), (1, .int p0)]) C dX8_add_23 rfl (by decide) rfl ?_
        refine j_iload_n (pc := 24) C dX8_add_24 rfl 0 rfl ?_
        refine j_if_eq_f (pc := 25) (tgt := 59) C dX8_add_25 (by decide) (by decide) ?_
        refine j_aload_n (pc := 28) C dX8_add_28 rfl 1 rfl ?_
        refine j_get (pc := 29) (ci := 8) (v := .int t_length) C inw_8 0 rfl rfl 1 (by decide) wd_254 rfl rfl dX8_add_29 ?_
        refine j_sipush (pc := 32) (v := 1000) C dX8_add_32 (by decide) ?_
        refine j_icmp_ge (pc := 35) (tgt := 59) C dX8_add_35 (by decide) (fun c_8 => ?_) (fun c_8 => ?_)
        · skip
          have el_1000 : (1000 : Int32).toInt = 1000 := rfl
          rw [i_le] at c_8
          have k0c_8 : t_length.toInt = 1000 := by omega
          exact j_vret (pc := 59) C hr hk (fun i => [].getD i 0, fun i => [t_length].getD i 0, fun i => [t_text].getD i (fun _ => 0), fun i => [].getD i (fun _ => 0)) rfl (show (0 ≤ (t_length).toInt ∧ (t_length).toInt ≤ 1000) from (h_t_length)) [0, 1] (by decide) rfl (by decide) (by decide) dX8_add_59
        · skip
          have el_1000 : (1000 : Int32).toInt = 1000 := rfl
          rw [i_le] at c_8
          refine j_aload_n (pc := 38) C dX8_add_38 rfl 1 rfl ?_
          refine j_get (pc := 39) (ci := 8) (v := .ref t1) C inw_8 0 rfl rfl 0 (by decide) wd_255 rfl rfl dX8_add_39 ?_
          refine j_aload_n (pc := 42) C dX8_add_42 rfl 1 rfl ?_
          refine j_get (pc := 43) (ci := 8) (v := .int t_length) C inw_8 0 rfl rfl 1 (by decide) wd_254 rfl rfl dX8_add_43 ?_
          refine j_iload_n (pc := 46) C dX8_add_46 rfl 2 rfl ?_
          obtain ⟨v_9, ev_9⟩ : ∃ z : Int32, ((p0 : Int32).toUInt32 % 65536).toInt32 = z := ⟨_, rfl⟩
          have hv_9 : v_9.toInt = p0.toInt := by rw [← ev_9, i2c_id (by omega) (by omega)]
          refine j_i2c (pc := 47) (v := v_9) C dX8_add_47 ev_9 ?_
          obtain ⟨f_10, ef_10⟩ : ∃ z, z = upd t_text (t_length).toInt.toNat (vp_nar .char v_9) := ⟨_, rfl⟩
          refine j_cast (pc := 48) (k := (t_length).toInt.toNat) (ws' := [(t0, .inr (8, [.ref t1, .int t_length, .int t_next, .int t_kind, .int t_place, .int t_number])), (t1, .inl (cyC, 1000, .inl f_10))]) C 1 0 rfl rfl (i_nn h_t_length.1) rfl (i_lt_n h_t_length.1 (by omega)) dX8_add_48 (by rw [ef_10]; rfl) ?_
          refine j_aload_n (pc := 49) C dX8_add_49 rfl 1 rfl ?_
          refine j_dup (pc := 50) C dX8_add_50 rfl ?_
          refine j_get (pc := 51) (ci := 8) (v := .int t_length) C inw_8 0 rfl rfl 1 (by decide) wd_254 rfl rfl dX8_add_51 ?_
          refine j_iconst (pc := 54) (v := 1) C dX8_add_54 (by decide) ?_
          obtain ⟨v_11, ev_11⟩ : ∃ z : Int32, t_length + 1 = z := ⟨_, rfl⟩
          have el_1 : (1 : Int32).toInt = 1 := rfl
          have hv_11 : v_11.toInt = t_length.toInt + (1 : Int32).toInt := by rw [← ev_11]; exact fb_addI (by omega) (by omega)
          refine j_iadd (pc := 55) (v := v_11) C dX8_add_55 ev_11 ?_
          refine j_put (pc := 56) (ci := 8) (v := .int v_11) (ws' := [(t0, .inr (8, [.ref t1, .int v_11, .int t_next, .int t_kind, .int t_place, .int t_number])), (t1, .inl (cyC, 1000, .inl f_10))]) C inw_8 0 rfl rfl 1 (by decide) wd_254 rfl tyX8_ok nmX8 rfl (tyX8_ok 1 (by decide)) rfl rfl (Nat.le_of_ble_eq_true rfl) dX8_add_56 rfl ?_
          exact j_vret (pc := 59) C hr hk (fun i => [].getD i 0, fun i => [v_11].getD i 0, fun i => [f_10].getD i (fun _ => 0), fun i => [].getD i (fun _ => 0)) rfl (show (0 ≤ (v_11).toInt ∧ (v_11).toInt ≤ 1000) from (by omega)) [0, 1] (by decide) rfl (by decide) (by decide) dX8_add_59
set_option maxHeartbeats 4000000 in
set_option maxRecDepth 100000 in
theorem c_X8_pastBlanks (l : Launch) (D : DG) (cyC cyI cyJ cyZ cyO : ClassId) (t0 : Nat) (t1 : Nat) (p0 : Int32) (t_length : Int32) (t_next : Int32) (t_kind : Int32) (t_place : Int32) (t_number : Int32) (t_text : Nat → Int32) (h_t_length : 0 ≤ (t_length).toInt ∧ (t_length).toInt ≤ 1000) (h_t_next : 0 ≤ (t_next).toInt ∧ (t_next).toInt ≤ 1000) (h_t_kind : 0 ≤ (t_kind).toInt ∧ (t_kind).toInt ≤ 4) (h_t_place : 0 ≤ (t_place).toInt ∧ (t_place).toInt ≤ 1000) (h_p0 : 0 ≤ (p0).toInt ∧ (p0).toInt ≤ 1000) : KK l D (TY cyC cyI cyJ cyZ cyO) yX8_pastBlanks cX8_pastBlanks 3 (some .int) ({ frames := 0, cells := 0, slots := 0, locals := 0 } : Room) 0 0 [.ref t0, .int p0] [(t0, .inr (8, [.ref t1, .int t_length, .int t_next, .int t_kind, .int t_place, .int t_number])), (t1, .inl (cyC, 1000, .inl t_text))] (fun u => some (.int (u.2.1 0))) (fun u => (0 ≤ (u.2.1 0).toInt ∧ (u.2.1 0).toInt ≤ 1000)) (fun u => [(t0, .inr (8, [.ref t1, .int t_length, .int t_next, .int t_kind, .int t_place, .int t_number])), (t1, .inl (cyC, 1000, .inl t_text))]) := by
  refine KK.of (lv0 := [(0, .ref t0), (1, .int p0)]) (by decide) rfl (Nat.le_of_ble_eq_true rfl) ?_
  intro p e s m args below meth c A C hr hk hin
  refine j_iload_n (pc := 0) C dX8_pastBlanks_0 rfl 1 rfl ?_
  refine j_istore_n (pc := 1) (lv' := [(2, .int p0), (0, .ref t0), (1, .int p0)]) C dX8_pastBlanks_1 rfl (by decide) rfl ?_
  have loop_1 : ∀ (k_1 : Nat) (x1_2 : Int32), (0 ≤ (x1_2).toInt ∧ (x1_2).toInt ≤ 1000) → (1000 - x1_2.toInt).toNat < k_1 → J p l e ({ frames := 0, cells := 0, slots := 0, locals := 0 } : Room) s m args below meth c D A 3 0 0 (QX below D (TY cyC cyI cyJ cyZ cyO) A (fun u => some (.int (u.2.1 0))) (fun u => (0 ≤ (u.2.1 0).toInt ∧ (u.2.1 0).toInt ≤ 1000)) (fun u => [(t0, .inr (8, [.ref t1, .int t_length, .int t_next, .int t_kind, .int t_place, .int t_number])), (t1, .inl (cyC, 1000, .inl t_text))]) args s 0 0) [(t0, .inr (8, [.ref t1, .int t_length, .int t_next, .int t_kind, .int t_place, .int t_number])), (t1, .inl (cyC, 1000, .inl t_text))] 2 [(2, .int x1_2), (0, .ref t0), (1, .int p0)] [] := by
    intro k_1
    induction k_1 with
    | zero =>
      intro x1_2 hi_1_0 hm_1
      exact absurd hm_1 (Nat.not_lt_zero _)
    | succ k_1 ih_1 =>
      intro x1_2 hi_1_0 hm_1
      refine j_iload_n (pc := 2) C dX8_pastBlanks_2 rfl 0 rfl ?_
      refine j_aload_n (pc := 3) C dX8_pastBlanks_3 rfl 1 rfl ?_
      refine j_get (pc := 4) (ci := 8) (v := .int t_length) C inw_8 0 rfl rfl 1 (by decide) wd_254 rfl rfl dX8_pastBlanks_4 ?_
      refine j_icmp_ge (pc := 7) (tgt := 38) C dX8_pastBlanks_7 (by decide) (fun c_2 => ?_) (fun c_2 => ?_)
      · skip
        rw [i_le] at c_2
        refine j_iload_n (pc := 38) C dX8_pastBlanks_38 rfl 0 rfl ?_
        exact j_iret (pc := 39) C hr hk (fun i => [].getD i 0, fun i => [x1_2].getD i 0, fun i => [].getD i (fun _ => 0), fun i => [].getD i (fun _ => 0)) rfl (show (0 ≤ (x1_2).toInt ∧ (x1_2).toInt ≤ 1000) from (hi_1_0)) [0, 1] (by decide) rfl (by decide) (by decide) dX8_pastBlanks_39
      · skip
        rw [i_le] at c_2
        refine j_aload_n (pc := 10) C dX8_pastBlanks_10 rfl 1 rfl ?_
        refine j_get (pc := 11) (ci := 8) (v := .ref t1) C inw_8 0 rfl rfl 0 (by decide) wd_255 rfl rfl dX8_pastBlanks_11 ?_
        refine j_iload_n (pc := 14) C dX8_pastBlanks_14 rfl 0 rfl ?_
        obtain ⟨v_3, ev_3⟩ : ∃ z, t_text (x1_2).toInt.toNat = z := ⟨_, rfl⟩
        have env_3 : (t_text (x1_2).toInt.toNat).toInt = v_3.toInt := by rw [ev_3]
        refine j_cald (pc := 15) (v := v_3) (k := (x1_2).toInt.toNat) C 1 0 rfl rfl (i_nn hi_1_0.1) rfl (i_lt_n hi_1_0.1 (by omega)) ev_3 dX8_pastBlanks_15 ?_
        refine j_bipush (pc := 16) (v := 10) C dX8_pastBlanks_16 (by decide) ?_
        refine j_icmp_eq (pc := 18) (tgt := 32) C dX8_pastBlanks_18 (by decide) (fun c_4 => ?_) (fun c_4 => ?_)
        · skip
          have el_10 : (10 : Int32).toInt = 10 := rfl
          rw [i_eq] at c_4
          obtain ⟨v_5, ev_5⟩ : ∃ z : Int32, x1_2 + 1 = z := ⟨_, rfl⟩
          have el_1 : (1 : Int32).toInt = 1 := rfl
          have hv_5 : v_5.toInt = x1_2.toInt + (1 : Int32).toInt := by rw [← ev_5]; exact fb_addI (by omega) (by omega)
          refine j_iinc (pc := 32) (v := v_5) (lv' := [(2, .int v_5), (0, .ref t0), (1, .int p0)]) C dX8_pastBlanks_32 0 rfl ev_5 (by decide) rfl ?_
          refine j_goto (pc := 35) (tgt := 2) C dX8_pastBlanks_35 (by decide) ?_
          exact j_lv [0, 1, 2] rfl (ih_1 v_5 (by omega) (by omega))
        · skip
          have el_10 : (10 : Int32).toInt = 10 := rfl
          rw [i_eq] at c_4
          refine j_aload_n (pc := 21) C dX8_pastBlanks_21 rfl 1 rfl ?_
          refine j_get (pc := 22) (ci := 8) (v := .ref t1) C inw_8 0 rfl rfl 0 (by decide) wd_255 rfl rfl dX8_pastBlanks_22 ?_
          refine j_iload_n (pc := 25) C dX8_pastBlanks_25 rfl 0 rfl ?_
          refine j_cald (pc := 26) (v := v_3) (k := (x1_2).toInt.toNat) C 1 0 rfl rfl (i_nn hi_1_0.1) rfl (i_lt_n hi_1_0.1 (by omega)) ev_3 dX8_pastBlanks_26 ?_
          refine j_bipush (pc := 27) (v := 32) C dX8_pastBlanks_27 (by decide) ?_
          refine j_icmp_ne (pc := 29) (tgt := 38) C dX8_pastBlanks_29 (by decide) (fun c_6 => ?_) (fun c_6 => ?_)
          · skip
            have el_32 : (32 : Int32).toInt = 32 := rfl
            rw [i_eq] at c_6
            refine j_iload_n (pc := 38) C dX8_pastBlanks_38 rfl 0 rfl ?_
            exact j_iret (pc := 39) C hr hk (fun i => [].getD i 0, fun i => [x1_2].getD i 0, fun i => [].getD i (fun _ => 0), fun i => [].getD i (fun _ => 0)) rfl (show (0 ≤ (x1_2).toInt ∧ (x1_2).toInt ≤ 1000) from (hi_1_0)) [0, 1] (by decide) rfl (by decide) (by decide) dX8_pastBlanks_39
          · skip
            have el_32 : (32 : Int32).toInt = 32 := rfl
            rw [i_eq] at c_6
            obtain ⟨v_7, ev_7⟩ : ∃ z : Int32, x1_2 + 1 = z := ⟨_, rfl⟩
            have el_1 : (1 : Int32).toInt = 1 := rfl
            have hv_7 : v_7.toInt = x1_2.toInt + (1 : Int32).toInt := by rw [← ev_7]; exact fb_addI (by omega) (by omega)
            refine j_iinc (pc := 32) (v := v_7) (lv' := [(2, .int v_7), (0, .ref t0), (1, .int p0)]) C dX8_pastBlanks_32 0 rfl ev_7 (by decide) rfl ?_
            refine j_goto (pc := 35) (tgt := 2) C dX8_pastBlanks_35 (by decide) ?_
            exact j_lv [0, 1, 2] rfl (ih_1 v_7 (by omega) (by omega))
  exact j_lv [0, 1, 2] rfl (loop_1 4096 p0 h_p0 (by omega))
set_option maxHeartbeats 4000000 in
set_option maxRecDepth 100000 in
theorem c_X8_pastRun (l : Launch) (D : DG) (cyC cyI cyJ cyZ cyO : ClassId) (t0 : Nat) (t1 : Nat) (p0 : Int32) (p1 : Int32) (p2 : Int32) (t_length : Int32) (t_next : Int32) (t_kind : Int32) (t_place : Int32) (t_number : Int32) (t_text : Nat → Int32) (h_t_length : 0 ≤ (t_length).toInt ∧ (t_length).toInt ≤ 1000) (h_t_next : 0 ≤ (t_next).toInt ∧ (t_next).toInt ≤ 1000) (h_t_kind : 0 ≤ (t_kind).toInt ∧ (t_kind).toInt ≤ 4) (h_t_place : 0 ≤ (t_place).toInt ∧ (t_place).toInt ≤ 1000) (h_p0 : 0 ≤ (p0).toInt ∧ (p0).toInt ≤ 1000) : KK l D (TY cyC cyI cyJ cyZ cyO) yX8_pastRun cX8_pastRun 5 (some .int) ({ frames := 0, cells := 0, slots := 0, locals := 0 } : Room) 0 0 [.ref t0, .int p0, .int p1, .int p2] [(t0, .inr (8, [.ref t1, .int t_length, .int t_next, .int t_kind, .int t_place, .int t_number])), (t1, .inl (cyC, 1000, .inl t_text))] (fun u => some (.int (u.2.1 0))) (fun u => (0 ≤ (u.2.1 0).toInt ∧ (u.2.1 0).toInt ≤ 1000)) (fun u => [(t0, .inr (8, [.ref t1, .int t_length, .int t_next, .int t_kind, .int t_place, .int t_number])), (t1, .inl (cyC, 1000, .inl t_text))]) := by
  refine KK.of (lv0 := [(0, .ref t0), (1, .int p0), (2, .int p1), (3, .int p2)]) (by decide) rfl (Nat.le_of_ble_eq_true rfl) ?_
  intro p e s m args below meth c A C hr hk hin
  refine j_iload_n (pc := 0) C dX8_pastRun_0 rfl 1 rfl ?_
  refine j_istore (pc := 1) (lv' := [(4, .int p0), (0, .ref t0), (1, .int p0), (2, .int p1), (3, .int p2)]) C dX8_pastRun_1 (by decide) rfl ?_
  have loop_1 : ∀ (k_1 : Nat) (x1_4 : Int32), (0 ≤ (x1_4).toInt ∧ (x1_4).toInt ≤ 1000) → (1000 - x1_4.toInt).toNat < k_1 → J p l e ({ frames := 0, cells := 0, slots := 0, locals := 0 } : Room) s m args below meth c D A 5 0 0 (QX below D (TY cyC cyI cyJ cyZ cyO) A (fun u => some (.int (u.2.1 0))) (fun u => (0 ≤ (u.2.1 0).toInt ∧ (u.2.1 0).toInt ≤ 1000)) (fun u => [(t0, .inr (8, [.ref t1, .int t_length, .int t_next, .int t_kind, .int t_place, .int t_number])), (t1, .inl (cyC, 1000, .inl t_text))]) args s 0 0) [(t0, .inr (8, [.ref t1, .int t_length, .int t_next, .int t_kind, .int t_place, .int t_number])), (t1, .inl (cyC, 1000, .inl t_text))] 3 [(4, .int x1_4), (0, .ref t0), (1, .int p0), (2, .int p1), (3, .int p2)] [] := by
    intro k_1
    induction k_1 with
    | zero =>
      intro x1_4 hi_1_0 hm_1
      exact absurd hm_1 (Nat.not_lt_zero _)
    | succ k_1 ih_1 =>
      intro x1_4 hi_1_0 hm_1
      refine j_iload (pc := 3) C dX8_pastRun_3 0 rfl ?_
      refine j_aload_n (pc := 5) C dX8_pastRun_5 rfl 1 rfl ?_
      refine j_get (pc := 6) (ci := 8) (v := .int t_length) C inw_8 0 rfl rfl 1 (by decide) wd_254 rfl rfl dX8_pastRun_6 ?_
      refine j_icmp_ge (pc := 9) (tgt := 40) C dX8_pastRun_9 (by decide) (fun c_2 => ?_) (fun c_2 => ?_)
      · skip
        rw [i_le] at c_2
        refine j_iload (pc := 40) C dX8_pastRun_40 0 rfl ?_
        exact j_iret (pc := 42) C hr hk (fun i => [].getD i 0, fun i => [x1_4].getD i 0, fun i => [].getD i (fun _ => 0), fun i => [].getD i (fun _ => 0)) rfl (show (0 ≤ (x1_4).toInt ∧ (x1_4).toInt ≤ 1000) from (hi_1_0)) [0, 1] (by decide) rfl (by decide) (by decide) dX8_pastRun_42
      · skip
        rw [i_le] at c_2
        refine j_aload_n (pc := 12) C dX8_pastRun_12 rfl 1 rfl ?_
        refine j_get (pc := 13) (ci := 8) (v := .ref t1) C inw_8 0 rfl rfl 0 (by decide) wd_255 rfl rfl dX8_pastRun_13 ?_
        refine j_iload (pc := 16) C dX8_pastRun_16 0 rfl ?_
        obtain ⟨v_3, ev_3⟩ : ∃ z, t_text (x1_4).toInt.toNat = z := ⟨_, rfl⟩
        have env_3 : (t_text (x1_4).toInt.toNat).toInt = v_3.toInt := by rw [ev_3]
        refine j_cald (pc := 18) (v := v_3) (k := (x1_4).toInt.toNat) C 1 0 rfl rfl (i_nn hi_1_0.1) rfl (i_lt_n hi_1_0.1 (by omega)) ev_3 dX8_pastRun_18 ?_
        refine j_iload_n (pc := 19) C dX8_pastRun_19 rfl 3 rfl ?_
        refine j_icmp_lt (pc := 20) (tgt := 40) C dX8_pastRun_20 (by decide) (fun c_4 => ?_) (fun c_4 => ?_)
        · skip
          rw [i_lt] at c_4
          refine j_iload (pc := 40) C dX8_pastRun_40 0 rfl ?_
          exact j_iret (pc := 42) C hr hk (fun i => [].getD i 0, fun i => [x1_4].getD i 0, fun i => [].getD i (fun _ => 0), fun i => [].getD i (fun _ => 0)) rfl (show (0 ≤ (x1_4).toInt ∧ (x1_4).toInt ≤ 1000) from (hi_1_0)) [0, 1] (by decide) rfl (by decide) (by decide) dX8_pastRun_42
        · skip
          rw [i_lt] at c_4
          refine j_aload_n (pc := 23) C dX8_pastRun_23 rfl 1 rfl ?_
          refine j_get (pc := 24) (ci := 8) (v := .ref t1) C inw_8 0 rfl rfl 0 (by decide) wd_255 rfl rfl dX8_pastRun_24 ?_
          refine j_iload (pc := 27) C dX8_pastRun_27 0 rfl ?_
          refine j_cald (pc := 29) (v := v_3) (k := (x1_4).toInt.toNat) C 1 0 rfl rfl (i_nn hi_1_0.1) rfl (i_lt_n hi_1_0.1 (by omega)) ev_3 dX8_pastRun_29 ?_
          refine j_iload_n (pc := 30) C dX8_pastRun_30 rfl 4 rfl ?_
          refine j_icmp_gt (pc := 31) (tgt := 40) C dX8_pastRun_31 (by decide) (fun c_5 => ?_) (fun c_5 => ?_)
          · skip
            rw [i_lt] at c_5
            refine j_iload (pc := 40) C dX8_pastRun_40 0 rfl ?_
            exact j_iret (pc := 42) C hr hk (fun i => [].getD i 0, fun i => [x1_4].getD i 0, fun i => [].getD i (fun _ => 0), fun i => [].getD i (fun _ => 0)) rfl (show (0 ≤ (x1_4).toInt ∧ (x1_4).toInt ≤ 1000) from (hi_1_0)) [0, 1] (by decide) rfl (by decide) (by decide) dX8_pastRun_42
          · skip
            rw [i_lt] at c_5
            obtain ⟨v_6, ev_6⟩ : ∃ z : Int32, x1_4 + 1 = z := ⟨_, rfl⟩
            have el_1 : (1 : Int32).toInt = 1 := rfl
            have hv_6 : v_6.toInt = x1_4.toInt + (1 : Int32).toInt := by rw [← ev_6]; exact fb_addI (by omega) (by omega)
            refine j_iinc (pc := 34) (v := v_6) (lv' := [(4, .int v_6), (0, .ref t0), (1, .int p0), (2, .int p1), (3, .int p2)]) C dX8_pastRun_34 0 rfl ev_6 (by decide) rfl ?_
            refine j_goto (pc := 37) (tgt := 3) C dX8_pastRun_37 (by decide) ?_
            exact j_lv [0, 1, 2, 3, 4] rfl (ih_1 v_6 (by omega) (by omega))
  exact j_lv [0, 1, 2, 3, 4] rfl (loop_1 4096 p0 h_p0 (by omega))
set_option maxHeartbeats 4000000 in
set_option maxRecDepth 100000 in
theorem c_X8_valueOf (l : Launch) (D : DG) (cyC cyI cyJ cyZ cyO : ClassId) (t0 : Nat) (t1 : Nat) (p0 : Int32) (p1 : Int32) (t_length : Int32) (t_next : Int32) (t_kind : Int32) (t_place : Int32) (t_number : Int32) (t_text : Nat → Int32) (h_t_length : 0 ≤ (t_length).toInt ∧ (t_length).toInt ≤ 1000) (h_t_next : 0 ≤ (t_next).toInt ∧ (t_next).toInt ≤ 1000) (h_t_kind : 0 ≤ (t_kind).toInt ∧ (t_kind).toInt ≤ 4) (h_t_place : 0 ≤ (t_place).toInt ∧ (t_place).toInt ≤ 1000) (h_p0 : 0 ≤ (p0).toInt ∧ (p0).toInt ≤ 1000) (h_p1 : 0 ≤ (p1).toInt ∧ (p1).toInt ≤ 1000) : KK l D (TY cyC cyI cyJ cyZ cyO) yX8_valueOf cX8_valueOf 5 (some .int) ({ frames := 0, cells := 0, slots := 0, locals := 0 } : Room) 0 0 [.ref t0, .int p0, .int p1] [(t0, .inr (8, [.ref t1, .int t_length, .int t_next, .int t_kind, .int t_place, .int t_number])), (t1, .inl (cyC, 1000, .inl t_text))] (fun u => some (.int (u.2.1 0))) (fun u => True) (fun u => [(t0, .inr (8, [.ref t1, .int t_length, .int t_next, .int t_kind, .int t_place, .int t_number])), (t1, .inl (cyC, 1000, .inl t_text))]) := by
  refine KK.of (lv0 := [(0, .ref t0), (1, .int p0), (2, .int p1)]) (by decide) rfl (Nat.le_of_ble_eq_true rfl) ?_
  intro p e s m args below meth c A C hr hk hin
  refine j_iconst (pc := 0) (v := 0) C dX8_valueOf_0 (by decide) ?_
  refine j_istore_n (pc := 1) (lv' := [(3, .int 0), (0, .ref t0), (1, .int p0), (2, .int p1)]) C dX8_valueOf_1 rfl (by decide) rfl ?_
  refine j_iload_n (pc := 2) C dX8_valueOf_2 rfl 2 rfl ?_
  refine j_istore (pc := 3) (lv' := [(4, .int p0), (3, .int 0), (0, .ref t0), (1, .int p0), (2, .int p1)]) C dX8_valueOf_3 (by decide) rfl ?_
  have loop_1 : ∀ (k_1 : Nat) (x1_4 : Int32) (x1_3 : Int32), (0 ≤ (x1_4).toInt ∧ (x1_4).toInt ≤ 1000) → (1000 - x1_4.toInt).toNat < k_1 → J p l e ({ frames := 0, cells := 0, slots := 0, locals := 0 } : Room) s m args below meth c D A 5 0 0 (QX below D (TY cyC cyI cyJ cyZ cyO) A (fun u => some (.int (u.2.1 0))) (fun u => True) (fun u => [(t0, .inr (8, [.ref t1, .int t_length, .int t_next, .int t_kind, .int t_place, .int t_number])), (t1, .inl (cyC, 1000, .inl t_text))]) args s 0 0) [(t0, .inr (8, [.ref t1, .int t_length, .int t_next, .int t_kind, .int t_place, .int t_number])), (t1, .inl (cyC, 1000, .inl t_text))] 5 [(4, .int x1_4), (3, .int x1_3), (0, .ref t0), (1, .int p0), (2, .int p1)] [] := by
    intro k_1
    induction k_1 with
    | zero =>
      intro x1_4 x1_3 hi_1_0 hm_1
      exact absurd hm_1 (Nat.not_lt_zero _)
    | succ k_1 ih_1 =>
      intro x1_4 x1_3 hi_1_0 hm_1
      refine j_iload (pc := 5) C dX8_valueOf_5 0 rfl ?_
      refine j_iload_n (pc := 7) C dX8_valueOf_7 rfl 4 rfl ?_
      refine j_icmp_ge (pc := 8) (tgt := 33) C dX8_valueOf_8 (by decide) (fun c_2 => ?_) (fun c_2 => ?_)
      · skip
        rw [i_le] at c_2
        refine j_iload_n (pc := 33) C dX8_valueOf_33 rfl 1 rfl ?_
        exact j_iret (pc := 34) C hr hk (fun i => [].getD i 0, fun i => [x1_3].getD i 0, fun i => [].getD i (fun _ => 0), fun i => [].getD i (fun _ => 0)) rfl trivial [0, 1] (by decide) rfl (by decide) (by decide) dX8_valueOf_34
      · skip
        rw [i_le] at c_2
        refine j_iload_n (pc := 11) C dX8_valueOf_11 rfl 1 rfl ?_
        refine j_bipush (pc := 12) (v := 10) C dX8_valueOf_12 (by decide) ?_
        obtain ⟨v_3, ev_3⟩ : ∃ z : Int32, x1_3 * 10 = z := ⟨_, rfl⟩
        have el_10 : (10 : Int32).toInt = 10 := rfl
        refine j_imul (pc := 14) (v := v_3) C dX8_valueOf_14 ev_3 ?_
        refine j_aload_n (pc := 15) C dX8_valueOf_15 rfl 2 rfl ?_
        refine j_get (pc := 16) (ci := 8) (v := .ref t1) C inw_8 0 rfl rfl 0 (by decide) wd_255 rfl rfl dX8_valueOf_16 ?_
        refine j_iload (pc := 19) C dX8_valueOf_19 0 rfl ?_
        obtain ⟨v_4, ev_4⟩ : ∃ z, t_text (x1_4).toInt.toNat = z := ⟨_, rfl⟩
        have env_4 : (t_text (x1_4).toInt.toNat).toInt = v_4.toInt := by rw [ev_4]
        refine j_cald (pc := 21) (v := v_4) (k := (x1_4).toInt.toNat) C 1 0 rfl rfl (i_nn hi_1_0.1) rfl (i_lt_n hi_1_0.1 (by omega)) ev_4 dX8_valueOf_21 ?_
        obtain ⟨v_5, ev_5⟩ : ∃ z : Int32, v_3 + v_4 = z := ⟨_, rfl⟩
        refine j_iadd (pc := 22) (v := v_5) C dX8_valueOf_22 ev_5 ?_
        refine j_bipush (pc := 23) (v := 48) C dX8_valueOf_23 (by decide) ?_
        obtain ⟨v_6, ev_6⟩ : ∃ z : Int32, v_5 - 48 = z := ⟨_, rfl⟩
        have el_48 : (48 : Int32).toInt = 48 := rfl
        refine j_isub (pc := 25) (v := v_6) C dX8_valueOf_25 ev_6 ?_
        refine j_istore_n (pc := 26) (lv' := [(3, .int v_6), (4, .int x1_4), (0, .ref t0), (1, .int p0), (2, .int p1)]) C dX8_valueOf_26 rfl (by decide) rfl ?_
        obtain ⟨v_7, ev_7⟩ : ∃ z : Int32, x1_4 + 1 = z := ⟨_, rfl⟩
        have el_1 : (1 : Int32).toInt = 1 := rfl
        have hv_7 : v_7.toInt = x1_4.toInt + (1 : Int32).toInt := by rw [← ev_7]; exact fb_addI (by omega) (by omega)
        refine j_iinc (pc := 27) (v := v_7) (lv' := [(4, .int v_7), (3, .int v_6), (0, .ref t0), (1, .int p0), (2, .int p1)]) C dX8_valueOf_27 1 rfl ev_7 (by decide) rfl ?_
        refine j_goto (pc := 30) (tgt := 5) C dX8_valueOf_30 (by decide) ?_
        exact j_lv [0, 1, 2, 3, 4] rfl (ih_1 v_7 v_6 (by omega) (by omega))
  have el_0 : (0 : Int32).toInt = 0 := rfl
  exact j_lv [0, 1, 2, 3, 4] rfl (loop_1 4096 p0 0 h_p0 (by omega))
set_option maxHeartbeats 4000000 in
set_option maxRecDepth 100000 in
theorem c_X8_advance (l : Launch) (D : DG) (cyC cyI cyJ cyZ cyO : ClassId) (t0 : Nat) (t1 : Nat) (t_length : Int32) (t_next : Int32) (t_kind : Int32) (t_place : Int32) (t_number : Int32) (t_text : Nat → Int32) (h_t_length : 0 ≤ (t_length).toInt ∧ (t_length).toInt ≤ 1000) (h_t_next : 0 ≤ (t_next).toInt ∧ (t_next).toInt ≤ 1000) (h_t_kind : 0 ≤ (t_kind).toInt ∧ (t_kind).toInt ≤ 4) (h_t_place : 0 ≤ (t_place).toInt ∧ (t_place).toInt ≤ 1000) : KK l D (TY cyC cyI cyJ cyZ cyO) yX8_advance cX8_advance 3 none ({ frames := 4, cells := 0, slots := 0, locals := 91 } : Room) 0 0 [.ref t0] [(t0, .inr (8, [.ref t1, .int t_length, .int t_next, .int t_kind, .int t_place, .int t_number])), (t1, .inl (cyC, 1000, .inl t_text))] (fun u => none) (fun u => (0 ≤ (u.2.1 0).toInt ∧ (u.2.1 0).toInt ≤ 1000) ∧ (0 ≤ (u.2.1 1).toInt ∧ (u.2.1 1).toInt ≤ 4) ∧ (0 ≤ (u.2.1 2).toInt ∧ (u.2.1 2).toInt ≤ 1000) ∧ (¬ ((u.2.1 1)).toInt = 3 ∨ ((u.2.1 2)).toInt ≤ 999)) (fun u => [(t0, .inr (8, [.ref t1, .int t_length, .int (u.2.1 0), .int (u.2.1 1), .int (u.2.1 2), .int (u.2.1 3)])), (t1, .inl (cyC, 1000, .inl t_text))]) := by
  refine KK.of (lv0 := [(0, .ref t0)]) (by decide) rfl (Nat.le_of_ble_eq_true rfl) ?_
  intro p e s m args below meth c A C hr hk hin
  refine j_aload_n (pc := 0) C dX8_advance_0 rfl 0 rfl ?_
  refine j_aload_n (pc := 1) C dX8_advance_1 rfl 0 rfl ?_
  refine j_aload_n (pc := 2) C dX8_advance_2 rfl 0 rfl ?_
  refine j_get (pc := 3) (ci := 8) (v := .int t_next) C inw_8 0 rfl rfl 2 (by decide) wd_256 rfl rfl dX8_advance_3 ?_
  refine j_callV (pc := 6) (As := [.int t_next]) (rest := [.ref t0]) (wr := []) C (c_X8_pastBlanks l D cyC cyI cyJ cyZ cyO t0 t1 t_next t_length t_next t_kind t_place t_number t_text h_t_length h_t_next h_t_kind h_t_place h_t_next) wd_257 wd_258 wd_259 wd_260 wd_261 ⟨by decide, by decide, rfl⟩ rfl ⟨rfl, rfl, by decide, by decide⟩ ⟨by decide, by decide⟩ [0, 1] [] rfl rfl ⟨by decide, by decide, by decide⟩ 0 rfl rfl rfl (Nat.le_of_ble_eq_true rfl) dX8_advance_6 (fun u_1 hw_2 => ?_)
  refine j_eq (ws2 := [(t0, .inr (8, [.ref t1, .int t_length, .int t_next, .int t_kind, .int t_place, .int t_number])), (t1, .inl (cyC, 1000, .inl t_text))]) (pc2 := 9) (lv2 := [(0, .ref t0)]) (st2 := [.int (u_1.2.1 0), .ref t0]) rfl rfl rfl rfl ?_
  have hw_2_0 : 0 ≤ (u_1.2.1 0).toInt ∧ (u_1.2.1 0).toInt ≤ 1000 := hw_2
  refine j_put (pc := 9) (ci := 8) (v := .int (u_1.2.1 0)) (ws' := [(t0, .inr (8, [.ref t1, .int t_length, .int t_next, .int t_kind, .int (u_1.2.1 0), .int t_number])), (t1, .inl (cyC, 1000, .inl t_text))]) C inw_8 0 rfl rfl 4 (by decide) wd_262 rfl tyX8_ok nmX8 rfl (tyX8_ok 4 (by decide)) rfl rfl (Nat.le_of_ble_eq_true rfl) dX8_advance_9 rfl ?_
  refine j_aload_n (pc := 12) C dX8_advance_12 rfl 0 rfl ?_
  refine j_aload_n (pc := 13) C dX8_advance_13 rfl 0 rfl ?_
  refine j_get (pc := 14) (ci := 8) (v := .int (u_1.2.1 0)) C inw_8 0 rfl rfl 4 (by decide) wd_262 rfl rfl dX8_advance_14 ?_
  refine j_bipush (pc := 17) (v := 97) C dX8_advance_17 (by decide) ?_
  refine j_bipush (pc := 19) (v := 122) C dX8_advance_19 (by decide) ?_
  refine j_callV (pc := 21) (As := [.int (u_1.2.1 0), .int 97, .int 122]) (rest := []) (wr := []) C (c_X8_pastRun l D cyC cyI cyJ cyZ cyO t0 t1 (u_1.2.1 0) 97 122 t_length t_next t_kind (u_1.2.1 0) t_number t_text h_t_length h_t_next h_t_kind hw_2_0 hw_2_0) wd_263 wd_258 wd_264 wd_265 wd_266 ⟨by decide, by decide, rfl⟩ rfl ⟨rfl, rfl, by decide, by decide⟩ ⟨by decide, by decide⟩ [0, 1] [] rfl rfl ⟨by decide, by decide, by decide⟩ 0 rfl rfl rfl (Nat.le_of_ble_eq_true rfl) dX8_advance_21 (fun u_3 hw_4 => ?_)
  refine j_eq (ws2 := [(t0, .inr (8, [.ref t1, .int t_length, .int t_next, .int t_kind, .int (u_1.2.1 0), .int t_number])), (t1, .inl (cyC, 1000, .inl t_text))]) (pc2 := 24) (lv2 := [(0, .ref t0)]) (st2 := [.int (u_3.2.1 0)]) rfl rfl rfl rfl ?_
  have hw_4_0 : 0 ≤ (u_3.2.1 0).toInt ∧ (u_3.2.1 0).toInt ≤ 1000 := hw_4
  refine j_istore_n (pc := 24) (lv' := [(1, .int (u_3.2.1 0)), (0, .ref t0)]) C dX8_advance_24 rfl (by decide) rfl ?_
  refine j_aload_n (pc := 25) C dX8_advance_25 rfl 1 rfl ?_
  refine j_aload_n (pc := 26) C dX8_advance_26 rfl 1 rfl ?_
  refine j_get (pc := 27) (ci := 8) (v := .int (u_1.2.1 0)) C inw_8 0 rfl rfl 4 (by decide) wd_262 rfl rfl dX8_advance_27 ?_
  refine j_bipush (pc := 30) (v := 48) C dX8_advance_30 (by decide) ?_
  refine j_bipush (pc := 32) (v := 57) C dX8_advance_32 (by decide) ?_
  refine j_callV (pc := 34) (As := [.int (u_1.2.1 0), .int 48, .int 57]) (rest := []) (wr := []) C (c_X8_pastRun l D cyC cyI cyJ cyZ cyO t0 t1 (u_1.2.1 0) 48 57 t_length t_next t_kind (u_1.2.1 0) t_number t_text h_t_length h_t_next h_t_kind hw_2_0 hw_2_0) wd_263 wd_258 wd_264 wd_265 wd_266 ⟨by decide, by decide, rfl⟩ rfl ⟨rfl, rfl, by decide, by decide⟩ ⟨by decide, by decide⟩ [0, 1] [] rfl rfl ⟨by decide, by decide, by decide⟩ 0 rfl rfl rfl (Nat.le_of_ble_eq_true rfl) dX8_advance_34 (fun u_5 hw_6 => ?_)
  refine j_eq (ws2 := [(t0, .inr (8, [.ref t1, .int t_length, .int t_next, .int t_kind, .int (u_1.2.1 0), .int t_number])), (t1, .inl (cyC, 1000, .inl t_text))]) (pc2 := 37) (lv2 := [(1, .int (u_3.2.1 0)), (0, .ref t0)]) (st2 := [.int (u_5.2.1 0)]) rfl rfl rfl rfl ?_
  have hw_6_0 : 0 ≤ (u_5.2.1 0).toInt ∧ (u_5.2.1 0).toInt ≤ 1000 := hw_6
  refine j_istore_n (pc := 37) (lv' := [(2, .int (u_5.2.1 0)), (1, .int (u_3.2.1 0)), (0, .ref t0)]) C dX8_advance_37 rfl (by decide) rfl ?_
  refine j_aload_n (pc := 38) C dX8_advance_38 rfl 2 rfl ?_
  refine j_get (pc := 39) (ci := 8) (v := .int (u_1.2.1 0)) C inw_8 0 rfl rfl 4 (by decide) wd_262 rfl rfl dX8_advance_39 ?_
  refine j_aload_n (pc := 42) C dX8_advance_42 rfl 2 rfl ?_
  refine j_get (pc := 43) (ci := 8) (v := .int t_length) C inw_8 0 rfl rfl 1 (by decide) wd_254 rfl rfl dX8_advance_43 ?_
  refine j_icmp_lt (pc := 46) (tgt := 65) C dX8_advance_46 (by decide) (fun c_7 => ?_) (fun c_7 => ?_)
  · skip
    rw [i_lt] at c_7
    refine j_iload_n (pc := 65) C dX8_advance_65 rfl 1 rfl ?_
    refine j_aload_n (pc := 66) C dX8_advance_66 rfl 2 rfl ?_
    refine j_get (pc := 67) (ci := 8) (v := .int (u_1.2.1 0)) C inw_8 0 rfl rfl 4 (by decide) wd_262 rfl rfl dX8_advance_67 ?_
    refine j_icmp_le (pc := 70) (tgt := 104) C dX8_advance_70 (by decide) (fun c_8 => ?_) (fun c_8 => ?_)
    · skip
      rw [i_le] at c_8
      refine j_iload_n (pc := 104) C dX8_advance_104 rfl 0 rfl ?_
      refine j_aload_n (pc := 105) C dX8_advance_105 rfl 2 rfl ?_
      refine j_get (pc := 106) (ci := 8) (v := .int (u_1.2.1 0)) C inw_8 0 rfl rfl 4 (by decide) wd_262 rfl rfl dX8_advance_106 ?_
      refine j_icmp_le (pc := 109) (tgt := 170) C dX8_advance_109 (by decide) (fun c_9 => ?_) (fun c_9 => ?_)
      · skip
        rw [i_le] at c_9
        refine j_aload_n (pc := 170) C dX8_advance_170 rfl 2 rfl ?_
        refine j_aload_n (pc := 171) C dX8_advance_171 rfl 2 rfl ?_
        refine j_get (pc := 172) (ci := 8) (v := .int (u_1.2.1 0)) C inw_8 0 rfl rfl 4 (by decide) wd_262 rfl rfl dX8_advance_172 ?_
        refine j_iconst (pc := 175) (v := 1) C dX8_advance_175 (by decide) ?_
        obtain ⟨v_10, ev_10⟩ : ∃ z : Int32, (u_1.2.1 0) + 1 = z := ⟨_, rfl⟩
        have el_1 : (1 : Int32).toInt = 1 := rfl
        have hv_10 : v_10.toInt = ((u_1.2.1 0)).toInt + (1 : Int32).toInt := by rw [← ev_10]; exact fb_addI (by omega) (by omega)
        refine j_iadd (pc := 176) (v := v_10) C dX8_advance_176 ev_10 ?_
        refine j_put (pc := 177) (ci := 8) (v := .int v_10) (ws' := [(t0, .inr (8, [.ref t1, .int t_length, .int v_10, .int t_kind, .int (u_1.2.1 0), .int t_number])), (t1, .inl (cyC, 1000, .inl t_text))]) C inw_8 0 rfl rfl 2 (by decide) wd_256 rfl tyX8_ok nmX8 rfl (tyX8_ok 2 (by decide)) rfl rfl (Nat.le_of_ble_eq_true rfl) dX8_advance_177 rfl ?_
        refine j_aload_n (pc := 180) C dX8_advance_180 rfl 2 rfl ?_
        refine j_ldcS (pc := 181) (i := 25) C (by decide) rfl dX8_advance_181 ?_
        refine j_aload_n (pc := 183) C dX8_advance_183 rfl 2 rfl ?_
        refine j_get (pc := 184) (ci := 8) (v := .ref t1) C inw_8 0 rfl rfl 0 (by decide) wd_255 rfl rfl dX8_advance_184 ?_
        refine j_aload_n (pc := 187) C dX8_advance_187 rfl 2 rfl ?_
        refine j_get (pc := 188) (ci := 8) (v := .int (u_1.2.1 0)) C inw_8 0 rfl rfl 4 (by decide) wd_262 rfl rfl dX8_advance_188 ?_
        obtain ⟨v_11, ev_11⟩ : ∃ z, t_text ((u_1.2.1 0)).toInt.toNat = z := ⟨_, rfl⟩
        have env_11 : (t_text ((u_1.2.1 0)).toInt.toNat).toInt = v_11.toInt := by rw [ev_11]
        refine j_cald (pc := 191) (v := v_11) (k := ((u_1.2.1 0)).toInt.toNat) C 1 0 rfl rfl (i_nn hw_2_0.1) rfl (i_lt_n hw_2_0.1 (by omega)) ev_11 dX8_advance_191 ?_
        refine j_callT (pc := 192) (As := [.int v_11]) (rest := [.ref t0]) (wr := [(t0, .inr (8, [.ref t1, .int t_length, .int v_10, .int t_kind, .int (u_1.2.1 0), .int t_number])), (t1, .inl (cyC, 1000, .inl t_text))]) C (c_J0_indexOf_0f7a4 l D cyC cyI cyJ cyZ cyO 25 v_11 (by decide)) wd_267 wd_220 wd_268 wd_269 wd_270 ⟨by decide, by decide, rfl⟩ rfl ⟨rfl, rfl, by decide, by decide⟩ ⟨by decide, by decide⟩ [] [0, 1] rfl rfl ⟨by decide, by decide, by decide⟩ (by decide) rfl rfl (Nat.le_of_ble_eq_true rfl) dX8_advance_192 (fun u_12 hw_13 => ?_)
        refine j_eq (ws2 := [(t0, .inr (8, [.ref t1, .int t_length, .int v_10, .int t_kind, .int (u_1.2.1 0), .int t_number])), (t1, .inl (cyC, 1000, .inl t_text))]) (pc2 := 195) (lv2 := [(2, .int (u_5.2.1 0)), (1, .int (u_3.2.1 0)), (0, .ref t0)]) (st2 := [.int (u_12.2.1 0), .ref t0]) rfl rfl rfl rfl ?_
        have hw_13_0 : -1 ≤ (u_12.2.1 0).toInt ∧ (u_12.2.1 0).toInt ≤ 20 := hw_13
        refine j_if_lt (pc := 195) (tgt := 202) C dX8_advance_195 (by decide) (fun c_14 => ?_) (fun c_14 => ?_)
        · skip
          have el_0 : (0 : Int32).toInt = 0 := rfl
          rw [i_lt] at c_14
          have k0c_14 : ((u_12.2.1 0)).toInt = -1 := by omega
          refine j_iconst (pc := 202) (v := 4) C dX8_advance_202 (by decide) ?_
          refine j_put (pc := 203) (ci := 8) (v := .int 4) (ws' := [(t0, .inr (8, [.ref t1, .int t_length, .int v_10, .int 4, .int (u_1.2.1 0), .int t_number])), (t1, .inl (cyC, 1000, .inl t_text))]) C inw_8 0 rfl rfl 3 (by decide) wd_271 rfl tyX8_ok nmX8 rfl (tyX8_ok 3 (by decide)) rfl rfl (Nat.le_of_ble_eq_true rfl) dX8_advance_203 rfl ?_
          have el_4 : (4 : Int32).toInt = 4 := rfl
          have el_4 : (4 : Int32).toInt = 4 := rfl
          exact j_vret (pc := 206) C hr hk (fun i => [].getD i 0, fun i => [v_10, 4, (u_1.2.1 0), t_number].getD i 0, fun i => [].getD i (fun _ => 0), fun i => [].getD i (fun _ => 0)) rfl (show (0 ≤ (v_10).toInt ∧ (v_10).toInt ≤ 1000) ∧ (0 ≤ ((4 : Int32)).toInt ∧ ((4 : Int32)).toInt ≤ 4) ∧ (0 ≤ ((u_1.2.1 0)).toInt ∧ ((u_1.2.1 0)).toInt ≤ 1000) ∧ (¬ ((4 : Int32)).toInt = 3 ∨ ((u_1.2.1 0)).toInt ≤ 999) from ⟨by omega, by omega, hw_2_0, by omega⟩) [0, 1] (by decide) rfl (by decide) (by decide) dX8_advance_206
        · skip
          have el_0 : (0 : Int32).toInt = 0 := rfl
          rw [i_lt] at c_14
          refine j_iconst (pc := 198) (v := 3) C dX8_advance_198 (by decide) ?_
          refine j_goto (pc := 199) (tgt := 203) C dX8_advance_199 (by decide) ?_
          refine j_put (pc := 203) (ci := 8) (v := .int 3) (ws' := [(t0, .inr (8, [.ref t1, .int t_length, .int v_10, .int 3, .int (u_1.2.1 0), .int t_number])), (t1, .inl (cyC, 1000, .inl t_text))]) C inw_8 0 rfl rfl 3 (by decide) wd_271 rfl tyX8_ok nmX8 rfl (tyX8_ok 3 (by decide)) rfl rfl (Nat.le_of_ble_eq_true rfl) dX8_advance_203 rfl ?_
          have el_3 : (3 : Int32).toInt = 3 := rfl
          have el_3 : (3 : Int32).toInt = 3 := rfl
          exact j_vret (pc := 206) C hr hk (fun i => [].getD i 0, fun i => [v_10, 3, (u_1.2.1 0), t_number].getD i 0, fun i => [].getD i (fun _ => 0), fun i => [].getD i (fun _ => 0)) rfl (show (0 ≤ (v_10).toInt ∧ (v_10).toInt ≤ 1000) ∧ (0 ≤ ((3 : Int32)).toInt ∧ ((3 : Int32)).toInt ≤ 4) ∧ (0 ≤ ((u_1.2.1 0)).toInt ∧ ((u_1.2.1 0)).toInt ≤ 1000) ∧ (¬ ((3 : Int32)).toInt = 3 ∨ ((u_1.2.1 0)).toInt ≤ 999) from ⟨by omega, by omega, hw_2_0, by omega⟩) [0, 1] (by decide) rfl (by decide) (by decide) dX8_advance_206
      · skip
        rw [i_le] at c_9
        refine j_aload_n (pc := 112) C dX8_advance_112 rfl 2 rfl ?_
        refine j_iload_n (pc := 113) C dX8_advance_113 rfl 0 rfl ?_
        refine j_put (pc := 114) (ci := 8) (v := .int (u_5.2.1 0)) (ws' := [(t0, .inr (8, [.ref t1, .int t_length, .int (u_5.2.1 0), .int t_kind, .int (u_1.2.1 0), .int t_number])), (t1, .inl (cyC, 1000, .inl t_text))]) C inw_8 0 rfl rfl 2 (by decide) wd_256 rfl tyX8_ok nmX8 rfl (tyX8_ok 2 (by decide)) rfl rfl (Nat.le_of_ble_eq_true rfl) dX8_advance_114 rfl ?_
        refine j_aload_n (pc := 117) C dX8_advance_117 rfl 2 rfl ?_
        refine j_aload_n (pc := 118) C dX8_advance_118 rfl 2 rfl ?_
        refine j_get (pc := 119) (ci := 8) (v := .int (u_5.2.1 0)) C inw_8 0 rfl rfl 2 (by decide) wd_256 rfl rfl dX8_advance_119 ?_
        refine j_aload_n (pc := 122) C dX8_advance_122 rfl 2 rfl ?_
        refine j_get (pc := 123) (ci := 8) (v := .int (u_1.2.1 0)) C inw_8 0 rfl rfl 4 (by decide) wd_262 rfl rfl dX8_advance_123 ?_
        obtain ⟨v_15, ev_15⟩ : ∃ z : Int32, (u_5.2.1 0) - (u_1.2.1 0) = z := ⟨_, rfl⟩
        have hv_15 : v_15.toInt = ((u_5.2.1 0)).toInt - ((u_1.2.1 0)).toInt := by rw [← ev_15]; exact fb_subI (by omega) (by omega)
        refine j_isub (pc := 126) (v := v_15) C dX8_advance_126 ev_15 ?_
        refine j_iconst (pc := 127) (v := 4) C dX8_advance_127 (by decide) ?_
        refine j_icmp_gt (pc := 128) (tgt := 135) C dX8_advance_128 (by decide) (fun c_16 => ?_) (fun c_16 => ?_)
        · skip
          have el_4 : (4 : Int32).toInt = 4 := rfl
          rw [i_lt] at c_16
          refine j_iconst (pc := 135) (v := 4) C dX8_advance_135 (by decide) ?_
          refine j_put (pc := 136) (ci := 8) (v := .int 4) (ws' := [(t0, .inr (8, [.ref t1, .int t_length, .int (u_5.2.1 0), .int 4, .int (u_1.2.1 0), .int t_number])), (t1, .inl (cyC, 1000, .inl t_text))]) C inw_8 0 rfl rfl 3 (by decide) wd_271 rfl tyX8_ok nmX8 rfl (tyX8_ok 3 (by decide)) rfl rfl (Nat.le_of_ble_eq_true rfl) dX8_advance_136 rfl ?_
          refine j_aload_n (pc := 139) C dX8_advance_139 rfl 2 rfl ?_
          refine j_aload_n (pc := 140) C dX8_advance_140 rfl 2 rfl ?_
          refine j_get (pc := 141) (ci := 8) (v := .int 4) C inw_8 0 rfl rfl 3 (by decide) wd_271 rfl rfl dX8_advance_141 ?_
          refine j_iconst (pc := 144) (v := 2) C dX8_advance_144 (by decide) ?_
          refine j_icmp_ne_t (pc := 145) (tgt := 163) C dX8_advance_145 (by decide) (by decide) ?_
          refine j_iconst (pc := 163) (v := 0) C dX8_advance_163 (by decide) ?_
          refine j_put (pc := 164) (ci := 8) (v := .int 0) (ws' := [(t0, .inr (8, [.ref t1, .int t_length, .int (u_5.2.1 0), .int 4, .int (u_1.2.1 0), .int 0])), (t1, .inl (cyC, 1000, .inl t_text))]) C inw_8 0 rfl rfl 5 (by decide) wd_272 rfl tyX8_ok nmX8 rfl (tyX8_ok 5 (by decide)) rfl rfl (Nat.le_of_ble_eq_true rfl) dX8_advance_164 rfl ?_
          refine j_goto (pc := 167) (tgt := 206) C dX8_advance_167 (by decide) ?_
          have el_4 : (4 : Int32).toInt = 4 := rfl
          have el_4 : (4 : Int32).toInt = 4 := rfl
          have el_0 : (0 : Int32).toInt = 0 := rfl
          exact j_vret (pc := 206) C hr hk (fun i => [].getD i 0, fun i => [(u_5.2.1 0), 4, (u_1.2.1 0), 0].getD i 0, fun i => [].getD i (fun _ => 0), fun i => [].getD i (fun _ => 0)) rfl (show (0 ≤ ((u_5.2.1 0)).toInt ∧ ((u_5.2.1 0)).toInt ≤ 1000) ∧ (0 ≤ ((4 : Int32)).toInt ∧ ((4 : Int32)).toInt ≤ 4) ∧ (0 ≤ ((u_1.2.1 0)).toInt ∧ ((u_1.2.1 0)).toInt ≤ 1000) ∧ (¬ ((4 : Int32)).toInt = 3 ∨ ((u_1.2.1 0)).toInt ≤ 999) from ⟨hw_6_0, by omega, hw_2_0, by omega⟩) [0, 1] (by decide) rfl (by decide) (by decide) dX8_advance_206
        · skip
          have el_4 : (4 : Int32).toInt = 4 := rfl
          rw [i_lt] at c_16
          refine j_iconst (pc := 131) (v := 2) C dX8_advance_131 (by decide) ?_
          refine j_goto (pc := 132) (tgt := 136) C dX8_advance_132 (by decide) ?_
          refine j_put (pc := 136) (ci := 8) (v := .int 2) (ws' := [(t0, .inr (8, [.ref t1, .int t_length, .int (u_5.2.1 0), .int 2, .int (u_1.2.1 0), .int t_number])), (t1, .inl (cyC, 1000, .inl t_text))]) C inw_8 0 rfl rfl 3 (by decide) wd_271 rfl tyX8_ok nmX8 rfl (tyX8_ok 3 (by decide)) rfl rfl (Nat.le_of_ble_eq_true rfl) dX8_advance_136 rfl ?_
          refine j_aload_n (pc := 139) C dX8_advance_139 rfl 2 rfl ?_
          refine j_aload_n (pc := 140) C dX8_advance_140 rfl 2 rfl ?_
          refine j_get (pc := 141) (ci := 8) (v := .int 2) C inw_8 0 rfl rfl 3 (by decide) wd_271 rfl rfl dX8_advance_141 ?_
          refine j_iconst (pc := 144) (v := 2) C dX8_advance_144 (by decide) ?_
          refine j_icmp_ne_f (pc := 145) (tgt := 163) C dX8_advance_145 (by decide) (by decide) ?_
          refine j_aload_n (pc := 148) C dX8_advance_148 rfl 2 rfl ?_
          refine j_aload_n (pc := 149) C dX8_advance_149 rfl 2 rfl ?_
          refine j_get (pc := 150) (ci := 8) (v := .int (u_1.2.1 0)) C inw_8 0 rfl rfl 4 (by decide) wd_262 rfl rfl dX8_advance_150 ?_
          refine j_aload_n (pc := 153) C dX8_advance_153 rfl 2 rfl ?_
          refine j_get (pc := 154) (ci := 8) (v := .int (u_5.2.1 0)) C inw_8 0 rfl rfl 2 (by decide) wd_256 rfl rfl dX8_advance_154 ?_
          refine j_callV (pc := 157) (As := [.int (u_1.2.1 0), .int (u_5.2.1 0)]) (rest := [.ref t0]) (wr := []) C (c_X8_valueOf l D cyC cyI cyJ cyZ cyO t0 t1 (u_1.2.1 0) (u_5.2.1 0) t_length (u_5.2.1 0) 2 (u_1.2.1 0) t_number t_text h_t_length hw_6_0 (by decide) hw_2_0 hw_2_0 hw_6_0) wd_273 wd_258 wd_274 wd_275 wd_276 ⟨by decide, by decide, rfl⟩ rfl ⟨rfl, rfl, by decide, by decide⟩ ⟨by decide, by decide⟩ [0, 1] [] rfl rfl ⟨by decide, by decide, by decide⟩ 0 rfl rfl rfl (Nat.le_of_ble_eq_true rfl) dX8_advance_157 (fun u_17 hw_18 => ?_)
          refine j_eq (ws2 := [(t0, .inr (8, [.ref t1, .int t_length, .int (u_5.2.1 0), .int 2, .int (u_1.2.1 0), .int t_number])), (t1, .inl (cyC, 1000, .inl t_text))]) (pc2 := 160) (lv2 := [(2, .int (u_5.2.1 0)), (1, .int (u_3.2.1 0)), (0, .ref t0)]) (st2 := [.int (u_17.2.1 0), .ref t0]) rfl rfl rfl rfl ?_
          refine j_goto (pc := 160) (tgt := 164) C dX8_advance_160 (by decide) ?_
          refine j_put (pc := 164) (ci := 8) (v := .int (u_17.2.1 0)) (ws' := [(t0, .inr (8, [.ref t1, .int t_length, .int (u_5.2.1 0), .int 2, .int (u_1.2.1 0), .int (u_17.2.1 0)])), (t1, .inl (cyC, 1000, .inl t_text))]) C inw_8 0 rfl rfl 5 (by decide) wd_272 rfl tyX8_ok nmX8 rfl (tyX8_ok 5 (by decide)) rfl rfl (Nat.le_of_ble_eq_true rfl) dX8_advance_164 rfl ?_
          refine j_goto (pc := 167) (tgt := 206) C dX8_advance_167 (by decide) ?_
          have el_2 : (2 : Int32).toInt = 2 := rfl
          have el_2 : (2 : Int32).toInt = 2 := rfl
          exact j_vret (pc := 206) C hr hk (fun i => [].getD i 0, fun i => [(u_5.2.1 0), 2, (u_1.2.1 0), (u_17.2.1 0)].getD i 0, fun i => [].getD i (fun _ => 0), fun i => [].getD i (fun _ => 0)) rfl (show (0 ≤ ((u_5.2.1 0)).toInt ∧ ((u_5.2.1 0)).toInt ≤ 1000) ∧ (0 ≤ ((2 : Int32)).toInt ∧ ((2 : Int32)).toInt ≤ 4) ∧ (0 ≤ ((u_1.2.1 0)).toInt ∧ ((u_1.2.1 0)).toInt ≤ 1000) ∧ (¬ ((2 : Int32)).toInt = 3 ∨ ((u_1.2.1 0)).toInt ≤ 999) from ⟨hw_6_0, by omega, hw_2_0, by omega⟩) [0, 1] (by decide) rfl (by decide) (by decide) dX8_advance_206
    · skip
      rw [i_le] at c_8
      refine j_aload_n (pc := 73) C dX8_advance_73 rfl 2 rfl ?_
      refine j_iload_n (pc := 74) C dX8_advance_74 rfl 1 rfl ?_
      refine j_put (pc := 75) (ci := 8) (v := .int (u_3.2.1 0)) (ws' := [(t0, .inr (8, [.ref t1, .int t_length, .int (u_3.2.1 0), .int t_kind, .int (u_1.2.1 0), .int t_number])), (t1, .inl (cyC, 1000, .inl t_text))]) C inw_8 0 rfl rfl 2 (by decide) wd_256 rfl tyX8_ok nmX8 rfl (tyX8_ok 2 (by decide)) rfl rfl (Nat.le_of_ble_eq_true rfl) dX8_advance_75 rfl ?_
      refine j_aload_n (pc := 78) C dX8_advance_78 rfl 2 rfl ?_
      refine j_aload_n (pc := 79) C dX8_advance_79 rfl 2 rfl ?_
      refine j_get (pc := 80) (ci := 8) (v := .int (u_3.2.1 0)) C inw_8 0 rfl rfl 2 (by decide) wd_256 rfl rfl dX8_advance_80 ?_
      refine j_aload_n (pc := 83) C dX8_advance_83 rfl 2 rfl ?_
      refine j_get (pc := 84) (ci := 8) (v := .int (u_1.2.1 0)) C inw_8 0 rfl rfl 4 (by decide) wd_262 rfl rfl dX8_advance_84 ?_
      obtain ⟨v_19, ev_19⟩ : ∃ z : Int32, (u_3.2.1 0) - (u_1.2.1 0) = z := ⟨_, rfl⟩
      have hv_19 : v_19.toInt = ((u_3.2.1 0)).toInt - ((u_1.2.1 0)).toInt := by rw [← ev_19]; exact fb_subI (by omega) (by omega)
      refine j_isub (pc := 87) (v := v_19) C dX8_advance_87 ev_19 ?_
      refine j_bipush (pc := 88) (v := 8) C dX8_advance_88 (by decide) ?_
      refine j_icmp_gt (pc := 90) (tgt := 97) C dX8_advance_90 (by decide) (fun c_20 => ?_) (fun c_20 => ?_)
      · skip
        have el_8 : (8 : Int32).toInt = 8 := rfl
        rw [i_lt] at c_20
        refine j_iconst (pc := 97) (v := 4) C dX8_advance_97 (by decide) ?_
        refine j_put (pc := 98) (ci := 8) (v := .int 4) (ws' := [(t0, .inr (8, [.ref t1, .int t_length, .int (u_3.2.1 0), .int 4, .int (u_1.2.1 0), .int t_number])), (t1, .inl (cyC, 1000, .inl t_text))]) C inw_8 0 rfl rfl 3 (by decide) wd_271 rfl tyX8_ok nmX8 rfl (tyX8_ok 3 (by decide)) rfl rfl (Nat.le_of_ble_eq_true rfl) dX8_advance_98 rfl ?_
        refine j_goto (pc := 101) (tgt := 206) C dX8_advance_101 (by decide) ?_
        have el_4 : (4 : Int32).toInt = 4 := rfl
        have el_4 : (4 : Int32).toInt = 4 := rfl
        exact j_vret (pc := 206) C hr hk (fun i => [].getD i 0, fun i => [(u_3.2.1 0), 4, (u_1.2.1 0), t_number].getD i 0, fun i => [].getD i (fun _ => 0), fun i => [].getD i (fun _ => 0)) rfl (show (0 ≤ ((u_3.2.1 0)).toInt ∧ ((u_3.2.1 0)).toInt ≤ 1000) ∧ (0 ≤ ((4 : Int32)).toInt ∧ ((4 : Int32)).toInt ≤ 4) ∧ (0 ≤ ((u_1.2.1 0)).toInt ∧ ((u_1.2.1 0)).toInt ≤ 1000) ∧ (¬ ((4 : Int32)).toInt = 3 ∨ ((u_1.2.1 0)).toInt ≤ 999) from ⟨hw_4_0, by omega, hw_2_0, by omega⟩) [0, 1] (by decide) rfl (by decide) (by decide) dX8_advance_206
      · skip
        have el_8 : (8 : Int32).toInt = 8 := rfl
        rw [i_lt] at c_20
        refine j_iconst (pc := 93) (v := 1) C dX8_advance_93 (by decide) ?_
        refine j_goto (pc := 94) (tgt := 98) C dX8_advance_94 (by decide) ?_
        refine j_put (pc := 98) (ci := 8) (v := .int 1) (ws' := [(t0, .inr (8, [.ref t1, .int t_length, .int (u_3.2.1 0), .int 1, .int (u_1.2.1 0), .int t_number])), (t1, .inl (cyC, 1000, .inl t_text))]) C inw_8 0 rfl rfl 3 (by decide) wd_271 rfl tyX8_ok nmX8 rfl (tyX8_ok 3 (by decide)) rfl rfl (Nat.le_of_ble_eq_true rfl) dX8_advance_98 rfl ?_
        refine j_goto (pc := 101) (tgt := 206) C dX8_advance_101 (by decide) ?_
        have el_1 : (1 : Int32).toInt = 1 := rfl
        have el_1 : (1 : Int32).toInt = 1 := rfl
        exact j_vret (pc := 206) C hr hk (fun i => [].getD i 0, fun i => [(u_3.2.1 0), 1, (u_1.2.1 0), t_number].getD i 0, fun i => [].getD i (fun _ => 0), fun i => [].getD i (fun _ => 0)) rfl (show (0 ≤ ((u_3.2.1 0)).toInt ∧ ((u_3.2.1 0)).toInt ≤ 1000) ∧ (0 ≤ ((1 : Int32)).toInt ∧ ((1 : Int32)).toInt ≤ 4) ∧ (0 ≤ ((u_1.2.1 0)).toInt ∧ ((u_1.2.1 0)).toInt ≤ 1000) ∧ (¬ ((1 : Int32)).toInt = 3 ∨ ((u_1.2.1 0)).toInt ≤ 999) from ⟨hw_4_0, by omega, hw_2_0, by omega⟩) [0, 1] (by decide) rfl (by decide) (by decide) dX8_advance_206
  · skip
    rw [i_lt] at c_7
    refine j_aload_n (pc := 49) C dX8_advance_49 rfl 2 rfl ?_
    refine j_aload_n (pc := 50) C dX8_advance_50 rfl 2 rfl ?_
    refine j_get (pc := 51) (ci := 8) (v := .int (u_1.2.1 0)) C inw_8 0 rfl rfl 4 (by decide) wd_262 rfl rfl dX8_advance_51 ?_
    refine j_put (pc := 54) (ci := 8) (v := .int (u_1.2.1 0)) (ws' := [(t0, .inr (8, [.ref t1, .int t_length, .int (u_1.2.1 0), .int t_kind, .int (u_1.2.1 0), .int t_number])), (t1, .inl (cyC, 1000, .inl t_text))]) C inw_8 0 rfl rfl 2 (by decide) wd_256 rfl tyX8_ok nmX8 rfl (tyX8_ok 2 (by decide)) rfl rfl (Nat.le_of_ble_eq_true rfl) dX8_advance_54 rfl ?_
    refine j_aload_n (pc := 57) C dX8_advance_57 rfl 2 rfl ?_
    refine j_iconst (pc := 58) (v := 0) C dX8_advance_58 (by decide) ?_
    refine j_put (pc := 59) (ci := 8) (v := .int 0) (ws' := [(t0, .inr (8, [.ref t1, .int t_length, .int (u_1.2.1 0), .int 0, .int (u_1.2.1 0), .int t_number])), (t1, .inl (cyC, 1000, .inl t_text))]) C inw_8 0 rfl rfl 3 (by decide) wd_271 rfl tyX8_ok nmX8 rfl (tyX8_ok 3 (by decide)) rfl rfl (Nat.le_of_ble_eq_true rfl) dX8_advance_59 rfl ?_
    refine j_goto (pc := 62) (tgt := 206) C dX8_advance_62 (by decide) ?_
    have el_0 : (0 : Int32).toInt = 0 := rfl
    have el_0 : (0 : Int32).toInt = 0 := rfl
    exact j_vret (pc := 206) C hr hk (fun i => [].getD i 0, fun i => [(u_1.2.1 0), 0, (u_1.2.1 0), t_number].getD i 0, fun i => [].getD i (fun _ => 0), fun i => [].getD i (fun _ => 0)) rfl (show (0 ≤ ((u_1.2.1 0)).toInt ∧ ((u_1.2.1 0)).toInt ≤ 1000) ∧ (0 ≤ ((0 : Int32)).toInt ∧ ((0 : Int32)).toInt ≤ 4) ∧ (0 ≤ ((u_1.2.1 0)).toInt ∧ ((u_1.2.1 0)).toInt ≤ 1000) ∧ (¬ ((0 : Int32)).toInt = 3 ∨ ((u_1.2.1 0)).toInt ≤ 999) from ⟨hw_2_0, by omega, hw_2_0, by omega⟩) [0, 1] (by decide) rfl (by decide) (by decide) dX8_advance_206
set_option maxHeartbeats 4000000 in
set_option maxRecDepth 100000 in
theorem c_X8_start (l : Launch) (D : DG) (cyC cyI cyJ cyZ cyO : ClassId) (t0 : Nat) (t1 : Nat) (t_length : Int32) (t_next : Int32) (t_kind : Int32) (t_place : Int32) (t_number : Int32) (t_text : Nat → Int32) (h_t_length : 0 ≤ (t_length).toInt ∧ (t_length).toInt ≤ 1000) (h_t_next : 0 ≤ (t_next).toInt ∧ (t_next).toInt ≤ 1000) (h_t_kind : 0 ≤ (t_kind).toInt ∧ (t_kind).toInt ≤ 4) (h_t_place : 0 ≤ (t_place).toInt ∧ (t_place).toInt ≤ 1000) : KK l D (TY cyC cyI cyJ cyZ cyO) yX8_start cX8_start 1 none ({ frames := 5, cells := 0, slots := 0, locals := 113 } : Room) 0 0 [.ref t0] [(t0, .inr (8, [.ref t1, .int t_length, .int t_next, .int t_kind, .int t_place, .int t_number])), (t1, .inl (cyC, 1000, .inl t_text))] (fun u => none) (fun u => (0 ≤ (u.2.1 0).toInt ∧ (u.2.1 0).toInt ≤ 1000) ∧ (0 ≤ (u.2.1 1).toInt ∧ (u.2.1 1).toInt ≤ 4) ∧ (0 ≤ (u.2.1 2).toInt ∧ (u.2.1 2).toInt ≤ 1000) ∧ (¬ ((u.2.1 1)).toInt = 3 ∨ ((u.2.1 2)).toInt ≤ 999)) (fun u => [(t0, .inr (8, [.ref t1, .int t_length, .int (u.2.1 0), .int (u.2.1 1), .int (u.2.1 2), .int (u.2.1 3)])), (t1, .inl (cyC, 1000, .inl t_text))]) := by
  refine KK.of (lv0 := [(0, .ref t0)]) (by decide) rfl (Nat.le_of_ble_eq_true rfl) ?_
  intro p e s m args below meth c A C hr hk hin
  refine j_aload_n (pc := 0) C dX8_start_0 rfl 0 rfl ?_
  refine j_iconst (pc := 1) (v := 0) C dX8_start_1 (by decide) ?_
  refine j_put (pc := 2) (ci := 8) (v := .int 0) (ws' := [(t0, .inr (8, [.ref t1, .int t_length, .int 0, .int t_kind, .int t_place, .int t_number])), (t1, .inl (cyC, 1000, .inl t_text))]) C inw_8 0 rfl rfl 2 (by decide) wd_256 rfl tyX8_ok nmX8 rfl (tyX8_ok 2 (by decide)) rfl rfl (Nat.le_of_ble_eq_true rfl) dX8_start_2 rfl ?_
  refine j_aload_n (pc := 5) C dX8_start_5 rfl 0 rfl ?_
  refine j_callV (pc := 6) (As := []) (rest := []) (wr := []) C (c_X8_advance l D cyC cyI cyJ cyZ cyO t0 t1 t_length 0 t_kind t_place t_number t_text h_t_length (by decide) h_t_kind h_t_place) wd_277 wd_258 wd_278 wd_279 wd_280 ⟨by decide, by decide, rfl⟩ rfl ⟨rfl, rfl, by decide, by decide⟩ ⟨by decide, by decide⟩ [0, 1] [] rfl rfl ⟨by decide, by decide, by decide⟩ 0 rfl rfl rfl (Nat.le_of_ble_eq_true rfl) dX8_start_6 (fun u_1 hw_2 => ?_)
  refine j_eq (ws2 := [(t0, .inr (8, [.ref t1, .int t_length, .int (u_1.2.1 0), .int (u_1.2.1 1), .int (u_1.2.1 2), .int (u_1.2.1 3)])), (t1, .inl (cyC, 1000, .inl t_text))]) (pc2 := 9) (lv2 := [(0, .ref t0)]) (st2 := []) rfl rfl rfl rfl ?_
  obtain ⟨hw_2_0, hw_2_1, hw_2_2, hw_2_3⟩ := hw_2
  exact j_vret (pc := 9) C hr hk (fun i => [].getD i 0, fun i => [(u_1.2.1 0), (u_1.2.1 1), (u_1.2.1 2), (u_1.2.1 3)].getD i 0, fun i => [].getD i (fun _ => 0), fun i => [].getD i (fun _ => 0)) rfl (show (0 ≤ ((u_1.2.1 0)).toInt ∧ ((u_1.2.1 0)).toInt ≤ 1000) ∧ (0 ≤ ((u_1.2.1 1)).toInt ∧ ((u_1.2.1 1)).toInt ≤ 4) ∧ (0 ≤ ((u_1.2.1 2)).toInt ∧ ((u_1.2.1 2)).toInt ≤ 1000) ∧ (¬ ((u_1.2.1 1)).toInt = 3 ∨ ((u_1.2.1 2)).toInt ≤ 999) from ⟨hw_2_0, hw_2_1, hw_2_2, by omega⟩) [0, 1] (by decide) rfl (by decide) (by decide) dX8_start_9
set_option maxHeartbeats 4000000 in
set_option maxRecDepth 100000 in
theorem c_X8_isSign (l : Launch) (D : DG) (cyC cyI cyJ cyZ cyO : ClassId) (t0 : Nat) (t1 : Nat) (p0 : Int32) (t_length : Int32) (t_next : Int32) (t_kind : Int32) (t_place : Int32) (t_number : Int32) (t_text : Nat → Int32) (h_t_length : 0 ≤ (t_length).toInt ∧ (t_length).toInt ≤ 1000) (h_t_next : 0 ≤ (t_next).toInt ∧ (t_next).toInt ≤ 1000) (h_t_kind : 0 ≤ (t_kind).toInt ∧ (t_kind).toInt ≤ 4) (h_t_place : 0 ≤ (t_place).toInt ∧ (t_place).toInt ≤ 1000) (ht3 : ¬ (t_kind).toInt = 3 ∨ (t_place).toInt ≤ 999) : KK l D (TY cyC cyI cyJ cyZ cyO) yX8_isSign cX8_isSign 2 (some .boolean) ({ frames := 0, cells := 0, slots := 0, locals := 0 } : Room) 0 0 [.ref t0, .int p0] [(t0, .inr (8, [.ref t1, .int t_length, .int t_next, .int t_kind, .int t_place, .int t_number])), (t1, .inl (cyC, 1000, .inl t_text))] (fun u => some (.int (u.2.1 0))) (fun u => (0 ≤ (u.2.1 0).toInt ∧ (u.2.1 0).toInt ≤ 1)) (fun u => [(t0, .inr (8, [.ref t1, .int t_length, .int t_next, .int t_kind, .int t_place, .int t_number])), (t1, .inl (cyC, 1000, .inl t_text))]) := by
  refine KK.of (lv0 := [(0, .ref t0), (1, .int p0)]) (by decide) rfl (Nat.le_of_ble_eq_true rfl) ?_
  intro p e s m args below meth c A C hr hk hin
  refine j_aload_n (pc := 0) C dX8_isSign_0 rfl 0 rfl ?_
  refine j_get (pc := 1) (ci := 8) (v := .int t_kind) C inw_8 0 rfl rfl 3 (by decide) wd_271 rfl rfl dX8_isSign_1 ?_
  refine j_iconst (pc := 4) (v := 3) C dX8_isSign_4 (by decide) ?_
  refine j_icmp_ne (pc := 5) (tgt := 25) C dX8_isSign_5 (by decide) (fun c_1 => ?_) (fun c_1 => ?_)
  · skip
    have el_3 : (3 : Int32).toInt = 3 := rfl
    rw [i_eq] at c_1
    refine j_iconst (pc := 25) (v := 0) C dX8_isSign_25 (by decide) ?_
    have el_0 : (0 : Int32).toInt = 0 := rfl
    exact j_zret (pc := 26) C hr rfl hk (fun i => [].getD i 0, fun i => [0].getD i 0, fun i => [].getD i (fun _ => 0), fun i => [].getD i (fun _ => 0)) rfl (show (0 ≤ ((0 : Int32)).toInt ∧ ((0 : Int32)).toInt ≤ 1) from (by omega)) [0, 1] (by decide) rfl (by decide) (by decide) dX8_isSign_26
  · skip
    have el_3 : (3 : Int32).toInt = 3 := rfl
    rw [i_eq] at c_1
    refine j_aload_n (pc := 8) C dX8_isSign_8 rfl 0 rfl ?_
    refine j_get (pc := 9) (ci := 8) (v := .ref t1) C inw_8 0 rfl rfl 0 (by decide) wd_255 rfl rfl dX8_isSign_9 ?_
    refine j_aload_n (pc := 12) C dX8_isSign_12 rfl 0 rfl ?_
    refine j_get (pc := 13) (ci := 8) (v := .int t_place) C inw_8 0 rfl rfl 4 (by decide) wd_262 rfl rfl dX8_isSign_13 ?_
    obtain ⟨v_2, ev_2⟩ : ∃ z, t_text (t_place).toInt.toNat = z := ⟨_, rfl⟩
    have env_2 : (t_text (t_place).toInt.toNat).toInt = v_2.toInt := by rw [ev_2]
    refine j_cald (pc := 16) (v := v_2) (k := (t_place).toInt.toNat) C 1 0 rfl rfl (i_nn h_t_place.1) rfl (i_lt_n h_t_place.1 (by omega)) ev_2 dX8_isSign_16 ?_
    refine j_iload_n (pc := 17) C dX8_isSign_17 rfl 1 rfl ?_
    refine j_icmp_ne (pc := 18) (tgt := 25) C dX8_isSign_18 (by decide) (fun c_3 => ?_) (fun c_3 => ?_)
    · skip
      rw [i_eq] at c_3
      refine j_iconst (pc := 25) (v := 0) C dX8_isSign_25 (by decide) ?_
      have el_0 : (0 : Int32).toInt = 0 := rfl
      exact j_zret (pc := 26) C hr rfl hk (fun i => [].getD i 0, fun i => [0].getD i 0, fun i => [].getD i (fun _ => 0), fun i => [].getD i (fun _ => 0)) rfl (show (0 ≤ ((0 : Int32)).toInt ∧ ((0 : Int32)).toInt ≤ 1) from (by omega)) [0, 1] (by decide) rfl (by decide) (by decide) dX8_isSign_26
    · skip
      rw [i_eq] at c_3
      refine j_iconst (pc := 21) (v := 1) C dX8_isSign_21 (by decide) ?_
      refine j_goto (pc := 22) (tgt := 26) C dX8_isSign_22 (by decide) ?_
      have el_1 : (1 : Int32).toInt = 1 := rfl
      exact j_zret (pc := 26) C hr rfl hk (fun i => [].getD i 0, fun i => [1].getD i 0, fun i => [].getD i (fun _ => 0), fun i => [].getD i (fun _ => 0)) rfl (show (0 ≤ ((1 : Int32)).toInt ∧ ((1 : Int32)).toInt ≤ 1) from (by omega)) [0, 1] (by decide) rfl (by decide) (by decide) dX8_isSign_26
set_option maxHeartbeats 4000000 in
set_option maxRecDepth 100000 in
theorem c_X8_isWord (l : Launch) (D : DG) (cyC cyI cyJ cyZ cyO : ClassId) (t0 : Nat) (t1 : Nat) (i : Nat) (t_length : Int32) (t_next : Int32) (t_kind : Int32) (t_place : Int32) (t_number : Int32) (t_text : Nat → Int32) (h_t_length : 0 ≤ (t_length).toInt ∧ (t_length).toInt ≤ 1000) (h_t_next : 0 ≤ (t_next).toInt ∧ (t_next).toInt ≤ 1000) (h_t_kind : 0 ≤ (t_kind).toInt ∧ (t_kind).toInt ≤ 4) (h_t_place : 0 ≤ (t_place).toInt ∧ (t_place).toInt ≤ 1000) (hi_lit : i < 43) : KK l D (TY cyC cyI cyJ cyZ cyO) yX8_isWord cX8_isWord 3 (some .boolean) ({ frames := 4, cells := 0, slots := 0, locals := 85 } : Room) 0 0 [.ref t0, .ref (D.2.1 i)] [(t0, .inr (8, [.ref t1, .int t_length, .int t_next, .int t_kind, .int t_place, .int t_number])), (t1, .inl (cyC, 1000, .inl t_text))] (fun u => some (.int (u.2.1 0))) (fun u => (0 ≤ (u.2.1 0).toInt ∧ (u.2.1 0).toInt ≤ 1)) (fun u => [(t0, .inr (8, [.ref t1, .int t_length, .int t_next, .int t_kind, .int t_place, .int t_number])), (t1, .inl (cyC, 1000, .inl t_text))]) := by
  refine KK.of (lv0 := [(0, .ref t0), (1, .ref (D.2.1 i))]) (by decide) rfl (Nat.le_of_ble_eq_true rfl) ?_
  intro p e s m args below meth c A C hr hk hin
  refine j_aload_n (pc := 0) C dX8_isWord_0 rfl 0 rfl ?_
  refine j_get (pc := 1) (ci := 8) (v := .int t_kind) C inw_8 0 rfl rfl 3 (by decide) wd_271 rfl rfl dX8_isWord_1 ?_
  refine j_iconst (pc := 4) (v := 1) C dX8_isWord_4 (by decide) ?_
  refine j_icmp_ne (pc := 5) (tgt := 24) C dX8_isWord_5 (by decide) (fun c_1 => ?_) (fun c_1 => ?_)
  · skip
    have el_1 : (1 : Int32).toInt = 1 := rfl
    rw [i_eq] at c_1
    refine j_iconst (pc := 24) (v := 0) C dX8_isWord_24 (by decide) ?_
    have el_0 : (0 : Int32).toInt = 0 := rfl
    exact j_zret (pc := 25) C hr rfl hk (fun i => [].getD i 0, fun i => [0].getD i 0, fun i => [].getD i (fun _ => 0), fun i => [].getD i (fun _ => 0)) rfl (show (0 ≤ ((0 : Int32)).toInt ∧ ((0 : Int32)).toInt ≤ 1) from (by omega)) [0, 1] (by decide) rfl (by decide) (by decide) dX8_isWord_25
  · skip
    have el_1 : (1 : Int32).toInt = 1 := rfl
    rw [i_eq] at c_1
    refine j_aload_n (pc := 8) C dX8_isWord_8 rfl 0 rfl ?_
    refine j_get (pc := 9) (ci := 8) (v := .int t_next) C inw_8 0 rfl rfl 2 (by decide) wd_256 rfl rfl dX8_isWord_9 ?_
    refine j_aload_n (pc := 12) C dX8_isWord_12 rfl 0 rfl ?_
    refine j_get (pc := 13) (ci := 8) (v := .int t_place) C inw_8 0 rfl rfl 4 (by decide) wd_262 rfl rfl dX8_isWord_13 ?_
    obtain ⟨v_2, ev_2⟩ : ∃ z : Int32, t_next - t_place = z := ⟨_, rfl⟩
    have hv_2 : v_2.toInt = t_next.toInt - t_place.toInt := by rw [← ev_2]; exact fb_subI (by omega) (by omega)
    refine j_isub (pc := 16) (v := v_2) C dX8_isWord_16 ev_2 ?_
    refine j_aload_n (pc := 17) C dX8_isWord_17 rfl 1 rfl ?_
    refine j_callT (pc := 18) (As := []) (rest := [.int v_2]) (wr := [(t0, .inr (8, [.ref t1, .int t_length, .int t_next, .int t_kind, .int t_place, .int t_number])), (t1, .inl (cyC, 1000, .inl t_text))]) C (c_J0_length_8abf5 l D cyC cyI cyJ cyZ cyO i hi_lit) wd_243 wd_220 wd_281 wd_245 wd_246 ⟨by decide, by decide, rfl⟩ rfl ⟨rfl, rfl, by decide, by decide⟩ ⟨by decide, by decide⟩ [] [0, 1] rfl rfl ⟨by decide, by decide, by decide⟩ hi_lit rfl rfl (Nat.le_of_ble_eq_true rfl) dX8_isWord_18 (fun u_3 hw_4 => ?_)
    refine j_eq (ws2 := [(t0, .inr (8, [.ref t1, .int t_length, .int t_next, .int t_kind, .int t_place, .int t_number])), (t1, .inl (cyC, 1000, .inl t_text))]) (pc2 := 21) (lv2 := [(0, .ref t0), (1, .ref (D.2.1 i))]) (st2 := [.int (u_3.2.1 0), .int v_2]) rfl rfl rfl rfl ?_
    obtain ⟨hw_4_0, hw_4_1⟩ := hw_4
    refine j_icmp_eq (pc := 21) (tgt := 26) C dX8_isWord_21 (by decide) (fun c_5 => ?_) (fun c_5 => ?_)
    · skip
      rw [i_eq] at c_5
      refine j_iconst (pc := 26) (v := 0) C dX8_isWord_26 (by decide) ?_
      refine j_istore_n (pc := 27) (lv' := [(2, .int 0), (0, .ref t0), (1, .ref (D.2.1 i))]) C dX8_isWord_27 rfl (by decide) rfl ?_
      have loop_6 : ∀ (k_6 : Nat) (x6_2 : Int32), (0 ≤ (x6_2).toInt ∧ (x6_2).toInt ≤ 20) → (x6_2.toInt ≤ ((sL i : Nat) : Int)) → (20 - x6_2.toInt).toNat < k_6 → J p l e ({ frames := 4, cells := 0, slots := 0, locals := 85 } : Room) s m args below meth c D A 3 0 0 (QX below D (TY cyC cyI cyJ cyZ cyO) A (fun u => some (.int (u.2.1 0))) (fun u => (0 ≤ (u.2.1 0).toInt ∧ (u.2.1 0).toInt ≤ 1)) (fun u => [(t0, .inr (8, [.ref t1, .int t_length, .int t_next, .int t_kind, .int t_place, .int t_number])), (t1, .inl (cyC, 1000, .inl t_text))]) args s 0 0) [(t0, .inr (8, [.ref t1, .int t_length, .int t_next, .int t_kind, .int t_place, .int t_number])), (t1, .inl (cyC, 1000, .inl t_text))] 28 [(2, .int x6_2), (0, .ref t0), (1, .ref (D.2.1 i))] [] := by
        intro k_6
        induction k_6 with
        | zero =>
          intro x6_2 hi_6_0 hr_6 hm_6
          exact absurd hm_6 (Nat.not_lt_zero _)
        | succ k_6 ih_6 =>
          intro x6_2 hi_6_0 hr_6 hm_6
          refine j_iload_n (pc := 28) C dX8_isWord_28 rfl 0 rfl ?_
          refine j_aload_n (pc := 29) C dX8_isWord_29 rfl 2 rfl ?_
          refine j_callT (pc := 30) (As := []) (rest := [.int x6_2]) (wr := [(t0, .inr (8, [.ref t1, .int t_length, .int t_next, .int t_kind, .int t_place, .int t_number])), (t1, .inl (cyC, 1000, .inl t_text))]) C (c_J0_length_8abf5 l D cyC cyI cyJ cyZ cyO i hi_lit) wd_243 wd_220 wd_281 wd_245 wd_246 ⟨by decide, by decide, rfl⟩ rfl ⟨rfl, rfl, by decide, by decide⟩ ⟨by decide, by decide⟩ [] [0, 1] rfl rfl ⟨by decide, by decide, by decide⟩ hi_lit rfl rfl (Nat.le_of_ble_eq_true rfl) dX8_isWord_30 (fun u_7 hw_8 => ?_)
          refine j_eq (ws2 := [(t0, .inr (8, [.ref t1, .int t_length, .int t_next, .int t_kind, .int t_place, .int t_number])), (t1, .inl (cyC, 1000, .inl t_text))]) (pc2 := 33) (lv2 := [(2, .int x6_2), (0, .ref t0), (1, .ref (D.2.1 i))]) (st2 := [.int (u_7.2.1 0), .int x6_2]) rfl rfl rfl rfl ?_
          obtain ⟨hw_8_0, hw_8_1⟩ := hw_8
          refine j_icmp_ge (pc := 33) (tgt := 63) C dX8_isWord_33 (by decide) (fun c_9 => ?_) (fun c_9 => ?_)
          · skip
            rw [i_le] at c_9
            refine j_iconst (pc := 63) (v := 1) C dX8_isWord_63 (by decide) ?_
            have el_1 : (1 : Int32).toInt = 1 := rfl
            exact j_zret (pc := 64) C hr rfl hk (fun i => [].getD i 0, fun i => [1].getD i 0, fun i => [].getD i (fun _ => 0), fun i => [].getD i (fun _ => 0)) rfl (show (0 ≤ ((1 : Int32)).toInt ∧ ((1 : Int32)).toInt ≤ 1) from (by omega)) [0, 1] (by decide) rfl (by decide) (by decide) dX8_isWord_64
          · skip
            rw [i_le] at c_9
            refine j_aload_n (pc := 36) C dX8_isWord_36 rfl 1 rfl ?_
            refine j_get (pc := 37) (ci := 8) (v := .ref t1) C inw_8 0 rfl rfl 0 (by decide) wd_255 rfl rfl dX8_isWord_37 ?_
            refine j_aload_n (pc := 40) C dX8_isWord_40 rfl 1 rfl ?_
            refine j_get (pc := 41) (ci := 8) (v := .int t_place) C inw_8 0 rfl rfl 4 (by decide) wd_262 rfl rfl dX8_isWord_41 ?_
            refine j_iload_n (pc := 44) C dX8_isWord_44 rfl 0 rfl ?_
            obtain ⟨v_10, ev_10⟩ : ∃ z : Int32, t_place + x6_2 = z := ⟨_, rfl⟩
            have hv_10 : v_10.toInt = t_place.toInt + x6_2.toInt := by rw [← ev_10]; exact fb_addI (by omega) (by omega)
            refine j_iadd (pc := 45) (v := v_10) C dX8_isWord_45 ev_10 ?_
            obtain ⟨v_11, ev_11⟩ : ∃ z, t_text (v_10).toInt.toNat = z := ⟨_, rfl⟩
            have env_11 : (t_text (v_10).toInt.toNat).toInt = v_11.toInt := by rw [ev_11]
            refine j_cald (pc := 46) (v := v_11) (k := (v_10).toInt.toNat) C 1 0 rfl rfl (i_nn (by omega)) rfl (i_lt_n (by omega) (by omega)) ev_11 dX8_isWord_46 ?_
            refine j_aload_n (pc := 47) C dX8_isWord_47 rfl 2 rfl ?_
            refine j_iload_n (pc := 48) C dX8_isWord_48 rfl 0 rfl ?_
            refine j_callT (pc := 49) (As := [.int x6_2]) (rest := [.int v_11]) (wr := [(t0, .inr (8, [.ref t1, .int t_length, .int t_next, .int t_kind, .int t_place, .int t_number])), (t1, .inl (cyC, 1000, .inl t_text))]) C (c_J0_charAt_5068e l D cyC cyI cyJ cyZ cyO i x6_2 (by omega) hi_lit (by omega)) wd_282 wd_220 wd_283 wd_284 wd_285 ⟨by decide, by decide, rfl⟩ rfl ⟨rfl, rfl, by decide, by decide⟩ ⟨by decide, by decide⟩ [] [0, 1] rfl rfl ⟨by decide, by decide, by decide⟩ hi_lit rfl rfl (Nat.le_of_ble_eq_true rfl) dX8_isWord_49 (fun u_12 hw_13 => ?_)
            refine j_eq (ws2 := [(t0, .inr (8, [.ref t1, .int t_length, .int t_next, .int t_kind, .int t_place, .int t_number])), (t1, .inl (cyC, 1000, .inl t_text))]) (pc2 := 52) (lv2 := [(2, .int x6_2), (0, .ref t0), (1, .ref (D.2.1 i))]) (st2 := [.int (u_12.2.1 0), .int v_11]) rfl rfl rfl rfl ?_
            have hw_13_0 : 0 ≤ (u_12.2.1 0).toInt ∧ (u_12.2.1 0).toInt ≤ 255 := hw_13
            refine j_icmp_eq (pc := 52) (tgt := 57) C dX8_isWord_52 (by decide) (fun c_14 => ?_) (fun c_14 => ?_)
            · skip
              rw [i_eq] at c_14
              obtain ⟨v_15, ev_15⟩ : ∃ z : Int32, x6_2 + 1 = z := ⟨_, rfl⟩
              have el_1 : (1 : Int32).toInt = 1 := rfl
              have hv_15 : v_15.toInt = x6_2.toInt + (1 : Int32).toInt := by rw [← ev_15]; exact fb_addI (by omega) (by omega)
              refine j_iinc (pc := 57) (v := v_15) (lv' := [(2, .int v_15), (0, .ref t0), (1, .ref (D.2.1 i))]) C dX8_isWord_57 0 rfl ev_15 (by decide) rfl ?_
              refine j_goto (pc := 60) (tgt := 28) C dX8_isWord_60 (by decide) ?_
              exact j_lv [0, 1, 2] rfl (ih_6 v_15 (by omega) (by omega) (by omega))
            · skip
              rw [i_eq] at c_14
              refine j_iconst (pc := 55) (v := 0) C dX8_isWord_55 (by decide) ?_
              have el_0 : (0 : Int32).toInt = 0 := rfl
              exact j_zret (pc := 56) C hr rfl hk (fun i => [].getD i 0, fun i => [0].getD i 0, fun i => [].getD i (fun _ => 0), fun i => [].getD i (fun _ => 0)) rfl (show (0 ≤ ((0 : Int32)).toInt ∧ ((0 : Int32)).toInt ≤ 1) from (by omega)) [0, 1] (by decide) rfl (by decide) (by decide) dX8_isWord_56
      have el_0 : (0 : Int32).toInt = 0 := rfl
      exact j_lv [0, 1, 2] rfl (loop_6 4096 0 (by decide) (by omega) (by omega))
    · skip
      rw [i_eq] at c_5
      refine j_iconst (pc := 24) (v := 0) C dX8_isWord_24 (by decide) ?_
      have el_0 : (0 : Int32).toInt = 0 := rfl
      exact j_zret (pc := 25) C hr rfl hk (fun i => [].getD i 0, fun i => [0].getD i 0, fun i => [].getD i (fun _ => 0), fun i => [].getD i (fun _ => 0)) rfl (show (0 ≤ ((0 : Int32)).toInt ∧ ((0 : Int32)).toInt ≤ 1) from (by omega)) [0, 1] (by decide) rfl (by decide) (by decide) dX8_isWord_25
set_option maxHeartbeats 4000000 in
set_option maxRecDepth 100000 in
theorem c_X8_code (l : Launch) (D : DG) (cyC cyI cyJ cyZ cyO : ClassId) (t0 : Nat) (t1 : Nat) (t_length : Int32) (t_next : Int32) (t_kind : Int32) (t_place : Int32) (t_number : Int32) (t_text : Nat → Int32) (h_t_length : 0 ≤ (t_length).toInt ∧ (t_length).toInt ≤ 1000) (h_t_next : 0 ≤ (t_next).toInt ∧ (t_next).toInt ≤ 1000) (h_t_kind : 0 ≤ (t_kind).toInt ∧ (t_kind).toInt ≤ 4) (h_t_place : 0 ≤ (t_place).toInt ∧ (t_place).toInt ≤ 1000) : KK l D (TY cyC cyI cyJ cyZ cyO) yX8_code cX8_code 4 (some .long) ({ frames := 0, cells := 0, slots := 0, locals := 0 } : Room) 0 0 [.ref t0] [(t0, .inr (8, [.ref t1, .int t_length, .int t_next, .int t_kind, .int t_place, .int t_number])), (t1, .inl (cyC, 1000, .inl t_text))] (fun u => some (.long (u.2.2.2 0 0))) (fun u => True) (fun u => [(t0, .inr (8, [.ref t1, .int t_length, .int t_next, .int t_kind, .int t_place, .int t_number])), (t1, .inl (cyC, 1000, .inl t_text))]) := by
  refine KK.of (lv0 := [(0, .ref t0)]) (by decide) rfl (Nat.le_of_ble_eq_true rfl) ?_
  intro p e s m args below meth c A C hr hk hin
  refine j_lconst (pc := 0) (v := 0) C dX8_code_0 rfl ?_
  refine j_lstore_n (pc := 1) (lv' := [(1, .long 0), (0, .ref t0)]) C dX8_code_1 rfl (by decide) rfl ?_
  refine j_aload_n (pc := 2) C dX8_code_2 rfl 1 rfl ?_
  refine j_get (pc := 3) (ci := 8) (v := .int t_place) C inw_8 0 rfl rfl 4 (by decide) wd_262 rfl rfl dX8_code_3 ?_
  refine j_istore_n (pc := 6) (lv' := [(3, .int t_place), (1, .long 0), (0, .ref t0)]) C dX8_code_6 rfl (by decide) rfl ?_
  have loop_1 : ∀ (k_1 : Nat) (x1_3 : Int32) (x1_1 : Int64), (0 ≤ (x1_3).toInt ∧ (x1_3).toInt ≤ 1000) → (1000 - x1_3.toInt).toNat < k_1 → J p l e ({ frames := 0, cells := 0, slots := 0, locals := 0 } : Room) s m args below meth c D A 4 0 0 (QX below D (TY cyC cyI cyJ cyZ cyO) A (fun u => some (.long (u.2.2.2 0 0))) (fun u => True) (fun u => [(t0, .inr (8, [.ref t1, .int t_length, .int t_next, .int t_kind, .int t_place, .int t_number])), (t1, .inl (cyC, 1000, .inl t_text))]) args s 0 0) [(t0, .inr (8, [.ref t1, .int t_length, .int t_next, .int t_kind, .int t_place, .int t_number])), (t1, .inl (cyC, 1000, .inl t_text))] 7 [(3, .int x1_3), (1, .long x1_1), (0, .ref t0)] [] := by
    intro k_1
    induction k_1 with
    | zero =>
      intro x1_3 x1_1 hi_1_0 hm_1
      exact absurd hm_1 (Nat.not_lt_zero _)
    | succ k_1 ih_1 =>
      intro x1_3 x1_1 hi_1_0 hm_1
      refine j_iload_n (pc := 7) C dX8_code_7 rfl 0 rfl ?_
      refine j_aload_n (pc := 8) C dX8_code_8 rfl 2 rfl ?_
      refine j_get (pc := 9) (ci := 8) (v := .int t_next) C inw_8 0 rfl rfl 2 (by decide) wd_256 rfl rfl dX8_code_9 ?_
      refine j_icmp_ge (pc := 12) (tgt := 41) C dX8_code_12 (by decide) (fun c_2 => ?_) (fun c_2 => ?_)
      · skip
        rw [i_le] at c_2
        refine j_lload_n (pc := 41) C dX8_code_41 rfl 1 rfl ?_
        exact j_lret (pc := 42) C hr hk (fun i => [].getD i 0, fun i => [].getD i 0, fun i => [].getD i (fun _ => 0), fun i => [(fun _ => x1_1)].getD i (fun _ => 0)) rfl trivial [0, 1] (by decide) rfl (by decide) (by decide) dX8_code_42
      · skip
        rw [i_le] at c_2
        refine j_lload_n (pc := 15) C dX8_code_15 rfl 1 rfl ?_
        refine j_ldc2 (pc := 16) C wd_286 dX8_code_16 ?_
        refine j_lmul (pc := 19) C dX8_code_19 rfl ?_
        refine j_aload_n (pc := 20) C dX8_code_20 rfl 2 rfl ?_
        refine j_get (pc := 21) (ci := 8) (v := .ref t1) C inw_8 0 rfl rfl 0 (by decide) wd_255 rfl rfl dX8_code_21 ?_
        refine j_iload_n (pc := 24) C dX8_code_24 rfl 0 rfl ?_
        obtain ⟨v_3, ev_3⟩ : ∃ z, t_text (x1_3).toInt.toNat = z := ⟨_, rfl⟩
        have env_3 : (t_text (x1_3).toInt.toNat).toInt = v_3.toInt := by rw [ev_3]
        refine j_cald (pc := 25) (v := v_3) (k := (x1_3).toInt.toNat) C 1 0 rfl rfl (i_nn hi_1_0.1) rfl (i_lt_n hi_1_0.1 (by omega)) ev_3 dX8_code_25 ?_
        refine j_i2l (pc := 26) C dX8_code_26 rfl ?_
        refine j_ladd (pc := 27) C dX8_code_27 rfl ?_
        refine j_ldc2 (pc := 28) C wd_287 dX8_code_28 ?_
        refine j_lsub (pc := 31) C dX8_code_31 rfl ?_
        refine j_lconst (pc := 32) (v := 1) C dX8_code_32 rfl ?_
        refine j_ladd (pc := 33) C dX8_code_33 rfl ?_
        refine j_lstore_n (pc := 34) (lv' := [(1, .long ((((x1_1 * 32) + (v_3).toInt64) - 97) + 1)), (3, .int x1_3), (0, .ref t0)]) C dX8_code_34 rfl (by decide) rfl ?_
        obtain ⟨v_4, ev_4⟩ : ∃ z : Int32, x1_3 + 1 = z := ⟨_, rfl⟩
        have el_1 : (1 : Int32).toInt = 1 := rfl
        have hv_4 : v_4.toInt = x1_3.toInt + (1 : Int32).toInt := by rw [← ev_4]; exact fb_addI (by omega) (by omega)
        refine j_iinc (pc := 35) (v := v_4) (lv' := [(3, .int v_4), (1, .long ((((x1_1 * 32) + (v_3).toInt64) - 97) + 1)), (0, .ref t0)]) C dX8_code_35 1 rfl ev_4 (by decide) rfl ?_
        refine j_goto (pc := 38) (tgt := 7) C dX8_code_38 (by decide) ?_
        exact j_lv [0, 1, 2] rfl (ih_1 v_4 ((((x1_1 * 32) + (v_3).toInt64) - 97) + 1) (by omega) (by omega))
  have el_0 : (0 : Int32).toInt = 0 := rfl
  exact j_lv [0, 1, 2] rfl (loop_1 4096 t_place 0 h_t_place (by omega))
set_option maxHeartbeats 4000000 in
set_option maxRecDepth 100000 in
theorem c_X8_isName (l : Launch) (D : DG) (cyC cyI cyJ cyZ cyO : ClassId) (t0 : Nat) (t1 : Nat) (t_length : Int32) (t_next : Int32) (t_kind : Int32) (t_place : Int32) (t_number : Int32) (t_text : Nat → Int32) (h_t_length : 0 ≤ (t_length).toInt ∧ (t_length).toInt ≤ 1000) (h_t_next : 0 ≤ (t_next).toInt ∧ (t_next).toInt ≤ 1000) (h_t_kind : 0 ≤ (t_kind).toInt ∧ (t_kind).toInt ≤ 4) (h_t_place : 0 ≤ (t_place).toInt ∧ (t_place).toInt ≤ 1000) : KK l D (TY cyC cyI cyJ cyZ cyO) yX8_isName cX8_isName 4 (some .boolean) ({ frames := 5, cells := 0, slots := 0, locals := 107 } : Room) 0 0 [.ref t0] [(t0, .inr (8, [.ref t1, .int t_length, .int t_next, .int t_kind, .int t_place, .int t_number])), (t1, .inl (cyC, 1000, .inl t_text))] (fun u => some (.int (u.2.1 0))) (fun u => (0 ≤ (u.2.1 0).toInt ∧ (u.2.1 0).toInt ≤ 1)) (fun u => [(t0, .inr (8, [.ref t1, .int t_length, .int t_next, .int t_kind, .int t_place, .int t_number])), (t1, .inl (cyC, 1000, .inl t_text))]) := by
  refine KK.of (lv0 := [(0, .ref t0)]) (by decide) rfl (Nat.le_of_ble_eq_true rfl) ?_
  intro p e s m args below meth c A C hr hk hin
  have join_1 : ∀ xj1 : Int32, 0 ≤ (xj1).toInt ∧ (xj1).toInt ≤ 1 → J p l e ({ frames := 5, cells := 0, slots := 0, locals := 107 } : Room) s m args below meth c D A 4 0 0 (QX below D (TY cyC cyI cyJ cyZ cyO) A (fun u => some (.int (u.2.1 0))) (fun u => (0 ≤ (u.2.1 0).toInt ∧ (u.2.1 0).toInt ≤ 1)) (fun u => [(t0, .inr (8, [.ref t1, .int t_length, .int t_next, .int t_kind, .int t_place, .int t_number])), (t1, .inl (cyC, 1000, .inl t_text))]) args s 0 0) [(t0, .inr (8, [.ref t1, .int t_length, .int t_next, .int t_kind, .int t_place, .int t_number])), (t1, .inl (cyC, 1000, .inl t_text))] 59 [(0, .ref t0)] [.int xj1] := by
    intro xj1 hj1
    refine j_istore_n (pc := 59) (lv' := [(1, .int xj1), (0, .ref t0)]) C dX8_isName_59 rfl (by decide) rfl ?_
    have join_2 : ∀ xj2 : Int32, 0 ≤ (xj2).toInt ∧ (xj2).toInt ≤ 1 → J p l e ({ frames := 5, cells := 0, slots := 0, locals := 107 } : Room) s m args below meth c D A 4 0 0 (QX below D (TY cyC cyI cyJ cyZ cyO) A (fun u => some (.int (u.2.1 0))) (fun u => (0 ≤ (u.2.1 0).toInt ∧ (u.2.1 0).toInt ≤ 1)) (fun u => [(t0, .inr (8, [.ref t1, .int t_length, .int t_next, .int t_kind, .int t_place, .int t_number])), (t1, .inl (cyC, 1000, .inl t_text))]) args s 0 0) [(t0, .inr (8, [.ref t1, .int t_length, .int t_next, .int t_kind, .int t_place, .int t_number])), (t1, .inl (cyC, 1000, .inl t_text))] 137 [(1, .int xj1), (0, .ref t0)] [.int xj2] := by
      intro xj2 hj2
      refine j_istore_n (pc := 137) (lv' := [(2, .int xj2), (1, .int xj1), (0, .ref t0)]) C dX8_isName_137 rfl (by decide) rfl ?_
      have join_3 : ∀ xj3 : Int32, 0 ≤ (xj3).toInt ∧ (xj3).toInt ≤ 1 → J p l e ({ frames := 5, cells := 0, slots := 0, locals := 107 } : Room) s m args below meth c D A 4 0 0 (QX below D (TY cyC cyI cyJ cyZ cyO) A (fun u => some (.int (u.2.1 0))) (fun u => (0 ≤ (u.2.1 0).toInt ∧ (u.2.1 0).toInt ≤ 1)) (fun u => [(t0, .inr (8, [.ref t1, .int t_length, .int t_next, .int t_kind, .int t_place, .int t_number])), (t1, .inl (cyC, 1000, .inl t_text))]) args s 0 0) [(t0, .inr (8, [.ref t1, .int t_length, .int t_next, .int t_kind, .int t_place, .int t_number])), (t1, .inl (cyC, 1000, .inl t_text))] 170 [(2, .int xj2), (1, .int xj1), (0, .ref t0)] [.int xj3] := by
        intro xj3 hj3
        refine j_istore_n (pc := 170) (lv' := [(3, .int xj3), (2, .int xj2), (1, .int xj1), (0, .ref t0)]) C dX8_isName_170 rfl (by decide) rfl ?_
        refine j_aload_n (pc := 171) C dX8_isName_171 rfl 3 rfl ?_
        refine j_get (pc := 172) (ci := 8) (v := .int t_kind) C inw_8 0 rfl rfl 3 (by decide) wd_271 rfl rfl dX8_isName_172 ?_
        refine j_iconst (pc := 175) (v := 1) C dX8_isName_175 (by decide) ?_
        refine j_icmp_ne (pc := 176) (tgt := 195) C dX8_isName_176 (by decide) (fun c_4 => ?_) (fun c_4 => ?_)
        · skip
          have el_1 : (1 : Int32).toInt = 1 := rfl
          rw [i_eq] at c_4
          refine j_iconst (pc := 195) (v := 0) C dX8_isName_195 (by decide) ?_
          have el_0 : (0 : Int32).toInt = 0 := rfl
          exact j_zret (pc := 196) C hr rfl hk (fun i => [].getD i 0, fun i => [0].getD i 0, fun i => [].getD i (fun _ => 0), fun i => [].getD i (fun _ => 0)) rfl (show (0 ≤ ((0 : Int32)).toInt ∧ ((0 : Int32)).toInt ≤ 1) from (by omega)) [0, 1] (by decide) rfl (by decide) (by decide) dX8_isName_196
        · skip
          have el_1 : (1 : Int32).toInt = 1 := rfl
          rw [i_eq] at c_4
          refine j_iload_n (pc := 179) C dX8_isName_179 rfl 2 rfl ?_
          refine j_if_ne (pc := 180) (tgt := 195) C dX8_isName_180 (by decide) (fun c_5 => ?_) (fun c_5 => ?_)
          · skip
            have el_0 : (0 : Int32).toInt = 0 := rfl
            rw [i_eq] at c_5
            have k0c_5 : xj1.toInt = 1 := by omega
            refine j_iconst (pc := 195) (v := 0) C dX8_isName_195 (by decide) ?_
            have el_0 : (0 : Int32).toInt = 0 := rfl
            exact j_zret (pc := 196) C hr rfl hk (fun i => [].getD i 0, fun i => [0].getD i 0, fun i => [].getD i (fun _ => 0), fun i => [].getD i (fun _ => 0)) rfl (show (0 ≤ ((0 : Int32)).toInt ∧ ((0 : Int32)).toInt ≤ 1) from (by omega)) [0, 1] (by decide) rfl (by decide) (by decide) dX8_isName_196
          · skip
            have el_0 : (0 : Int32).toInt = 0 := rfl
            rw [i_eq] at c_5
            refine j_iload_n (pc := 183) C dX8_isName_183 rfl 1 rfl ?_
            refine j_if_ne (pc := 184) (tgt := 195) C dX8_isName_184 (by decide) (fun c_6 => ?_) (fun c_6 => ?_)
            · skip
              have el_0 : (0 : Int32).toInt = 0 := rfl
              rw [i_eq] at c_6
              have k0c_6 : xj2.toInt = 1 := by omega
              refine j_iconst (pc := 195) (v := 0) C dX8_isName_195 (by decide) ?_
              have el_0 : (0 : Int32).toInt = 0 := rfl
              exact j_zret (pc := 196) C hr rfl hk (fun i => [].getD i 0, fun i => [0].getD i 0, fun i => [].getD i (fun _ => 0), fun i => [].getD i (fun _ => 0)) rfl (show (0 ≤ ((0 : Int32)).toInt ∧ ((0 : Int32)).toInt ≤ 1) from (by omega)) [0, 1] (by decide) rfl (by decide) (by decide) dX8_isName_196
            · skip
              have el_0 : (0 : Int32).toInt = 0 := rfl
              rw [i_eq] at c_6
              refine j_iload_n (pc := 187) C dX8_isName_187 rfl 0 rfl ?_
              refine j_if_ne (pc := 188) (tgt := 195) C dX8_isName_188 (by decide) (fun c_7 => ?_) (fun c_7 => ?_)
              · skip
                have el_0 : (0 : Int32).toInt = 0 := rfl
                rw [i_eq] at c_7
                have k0c_7 : xj3.toInt = 1 := by omega
                refine j_iconst (pc := 195) (v := 0) C dX8_isName_195 (by decide) ?_
                have el_0 : (0 : Int32).toInt = 0 := rfl
                exact j_zret (pc := 196) C hr rfl hk (fun i => [].getD i 0, fun i => [0].getD i 0, fun i => [].getD i (fun _ => 0), fun i => [].getD i (fun _ => 0)) rfl (show (0 ≤ ((0 : Int32)).toInt ∧ ((0 : Int32)).toInt ≤ 1) from (by omega)) [0, 1] (by decide) rfl (by decide) (by decide) dX8_isName_196
              · skip
                have el_0 : (0 : Int32).toInt = 0 := rfl
                rw [i_eq] at c_7
                refine j_iconst (pc := 191) (v := 1) C dX8_isName_191 (by decide) ?_
                refine j_goto (pc := 192) (tgt := 196) C dX8_isName_192 (by decide) ?_
                have el_1 : (1 : Int32).toInt = 1 := rfl
                exact j_zret (pc := 196) C hr rfl hk (fun i => [].getD i 0, fun i => [1].getD i 0, fun i => [].getD i (fun _ => 0), fun i => [].getD i (fun _ => 0)) rfl (show (0 ≤ ((1 : Int32)).toInt ∧ ((1 : Int32)).toInt ≤ 1) from (by omega)) [0, 1] (by decide) rfl (by decide) (by decide) dX8_isName_196
      refine j_aload_n (pc := 138) C dX8_isName_138 rfl 2 rfl ?_
      refine j_ldcS (pc := 139) (i := 40) C (by decide) rfl dX8_isName_139 ?_
      refine j_callV (pc := 141) (As := [.ref (D.2.1 40)]) (rest := []) (wr := []) C (c_X8_isWord l D cyC cyI cyJ cyZ cyO t0 t1 40 t_length t_next t_kind t_place t_number t_text h_t_length h_t_next h_t_kind h_t_place (by decide)) wd_288 wd_258 wd_289 wd_290 wd_291 ⟨by decide, by decide, rfl⟩ rfl ⟨rfl, rfl, by decide, by decide⟩ ⟨by decide, by decide⟩ [0, 1] [] rfl rfl ⟨by decide, by decide, by decide⟩ 0 rfl rfl rfl (Nat.le_of_ble_eq_true rfl) dX8_isName_141 (fun u_8 hw_9 => ?_)
      refine j_eq (ws2 := [(t0, .inr (8, [.ref t1, .int t_length, .int t_next, .int t_kind, .int t_place, .int t_number])), (t1, .inl (cyC, 1000, .inl t_text))]) (pc2 := 144) (lv2 := [(2, .int xj2), (1, .int xj1), (0, .ref t0)]) (st2 := [.int (u_8.2.1 0)]) rfl rfl rfl rfl ?_
      have hw_9_0 : 0 ≤ (u_8.2.1 0).toInt ∧ (u_8.2.1 0).toInt ≤ 1 := hw_9
      refine j_if_ne (pc := 144) (tgt := 165) C dX8_isName_144 (by decide) (fun c_10 => ?_) (fun c_10 => ?_)
      · skip
        have el_0 : (0 : Int32).toInt = 0 := rfl
        rw [i_eq] at c_10
        have k0c_10 : ((u_8.2.1 0)).toInt = 1 := by omega
        refine j_iconst (pc := 165) (v := 1) C dX8_isName_165 (by decide) ?_
        refine j_goto (pc := 166) (tgt := 170) C dX8_isName_166 (by decide) ?_
        have el_1 : (1 : Int32).toInt = 1 := rfl
        exact j_lv [0, 1, 2] rfl (join_3 (1) (by omega))
      · skip
        have el_0 : (0 : Int32).toInt = 0 := rfl
        rw [i_eq] at c_10
        refine j_aload_n (pc := 147) C dX8_isName_147 rfl 2 rfl ?_
        refine j_ldcS (pc := 148) (i := 41) C (by decide) rfl dX8_isName_148 ?_
        refine j_callV (pc := 150) (As := [.ref (D.2.1 41)]) (rest := []) (wr := []) C (c_X8_isWord l D cyC cyI cyJ cyZ cyO t0 t1 41 t_length t_next t_kind t_place t_number t_text h_t_length h_t_next h_t_kind h_t_place (by decide)) wd_288 wd_258 wd_289 wd_290 wd_291 ⟨by decide, by decide, rfl⟩ rfl ⟨rfl, rfl, by decide, by decide⟩ ⟨by decide, by decide⟩ [0, 1] [] rfl rfl ⟨by decide, by decide, by decide⟩ 0 rfl rfl rfl (Nat.le_of_ble_eq_true rfl) dX8_isName_150 (fun u_11 hw_12 => ?_)
        refine j_eq (ws2 := [(t0, .inr (8, [.ref t1, .int t_length, .int t_next, .int t_kind, .int t_place, .int t_number])), (t1, .inl (cyC, 1000, .inl t_text))]) (pc2 := 153) (lv2 := [(2, .int xj2), (1, .int xj1), (0, .ref t0)]) (st2 := [.int (u_11.2.1 0)]) rfl rfl rfl rfl ?_
        have hw_12_0 : 0 ≤ (u_11.2.1 0).toInt ∧ (u_11.2.1 0).toInt ≤ 1 := hw_12
        refine j_if_ne (pc := 153) (tgt := 165) C dX8_isName_153 (by decide) (fun c_13 => ?_) (fun c_13 => ?_)
        · skip
          have el_0 : (0 : Int32).toInt = 0 := rfl
          rw [i_eq] at c_13
          have k0c_13 : ((u_11.2.1 0)).toInt = 1 := by omega
          refine j_iconst (pc := 165) (v := 1) C dX8_isName_165 (by decide) ?_
          refine j_goto (pc := 166) (tgt := 170) C dX8_isName_166 (by decide) ?_
          have el_1 : (1 : Int32).toInt = 1 := rfl
          exact j_lv [0, 1, 2] rfl (join_3 (1) (by omega))
        · skip
          have el_0 : (0 : Int32).toInt = 0 := rfl
          rw [i_eq] at c_13
          refine j_aload_n (pc := 156) C dX8_isName_156 rfl 2 rfl ?_
          refine j_ldcS (pc := 157) (i := 42) C (by decide) rfl dX8_isName_157 ?_
          refine j_callV (pc := 159) (As := [.ref (D.2.1 42)]) (rest := []) (wr := []) C (c_X8_isWord l D cyC cyI cyJ cyZ cyO t0 t1 42 t_length t_next t_kind t_place t_number t_text h_t_length h_t_next h_t_kind h_t_place (by decide)) wd_288 wd_258 wd_289 wd_290 wd_291 ⟨by decide, by decide, rfl⟩ rfl ⟨rfl, rfl, by decide, by decide⟩ ⟨by decide, by decide⟩ [0, 1] [] rfl rfl ⟨by decide, by decide, by decide⟩ 0 rfl rfl rfl (Nat.le_of_ble_eq_true rfl) dX8_isName_159 (fun u_14 hw_15 => ?_)
          refine j_eq (ws2 := [(t0, .inr (8, [.ref t1, .int t_length, .int t_next, .int t_kind, .int t_place, .int t_number])), (t1, .inl (cyC, 1000, .inl t_text))]) (pc2 := 162) (lv2 := [(2, .int xj2), (1, .int xj1), (0, .ref t0)]) (st2 := [.int (u_14.2.1 0)]) rfl rfl rfl rfl ?_
          have hw_15_0 : 0 ≤ (u_14.2.1 0).toInt ∧ (u_14.2.1 0).toInt ≤ 1 := hw_15
          refine j_if_eq (pc := 162) (tgt := 169) C dX8_isName_162 (by decide) (fun c_16 => ?_) (fun c_16 => ?_)
          · skip
            have el_0 : (0 : Int32).toInt = 0 := rfl
            rw [i_eq] at c_16
            refine j_iconst (pc := 169) (v := 0) C dX8_isName_169 (by decide) ?_
            have el_0 : (0 : Int32).toInt = 0 := rfl
            exact j_lv [0, 1, 2] rfl (join_3 (0) (by omega))
          · skip
            have el_0 : (0 : Int32).toInt = 0 := rfl
            rw [i_eq] at c_16
            have k0c_16 : ((u_14.2.1 0)).toInt = 1 := by omega
            refine j_iconst (pc := 165) (v := 1) C dX8_isName_165 (by decide) ?_
            refine j_goto (pc := 166) (tgt := 170) C dX8_isName_166 (by decide) ?_
            have el_1 : (1 : Int32).toInt = 1 := rfl
            exact j_lv [0, 1, 2] rfl (join_3 (1) (by omega))
    refine j_aload_n (pc := 60) C dX8_isName_60 rfl 1 rfl ?_
    refine j_ldcS (pc := 61) (i := 32) C (by decide) rfl dX8_isName_61 ?_
    refine j_callV (pc := 63) (As := [.ref (D.2.1 32)]) (rest := []) (wr := []) C (c_X8_isWord l D cyC cyI cyJ cyZ cyO t0 t1 32 t_length t_next t_kind t_place t_number t_text h_t_length h_t_next h_t_kind h_t_place (by decide)) wd_288 wd_258 wd_289 wd_290 wd_291 ⟨by decide, by decide, rfl⟩ rfl ⟨rfl, rfl, by decide, by decide⟩ ⟨by decide, by decide⟩ [0, 1] [] rfl rfl ⟨by decide, by decide, by decide⟩ 0 rfl rfl rfl (Nat.le_of_ble_eq_true rfl) dX8_isName_63 (fun u_17 hw_18 => ?_)
    refine j_eq (ws2 := [(t0, .inr (8, [.ref t1, .int t_length, .int t_next, .int t_kind, .int t_place, .int t_number])), (t1, .inl (cyC, 1000, .inl t_text))]) (pc2 := 66) (lv2 := [(1, .int xj1), (0, .ref t0)]) (st2 := [.int (u_17.2.1 0)]) rfl rfl rfl rfl ?_
    have hw_18_0 : 0 ≤ (u_17.2.1 0).toInt ∧ (u_17.2.1 0).toInt ≤ 1 := hw_18
    refine j_if_ne (pc := 66) (tgt := 132) C dX8_isName_66 (by decide) (fun c_19 => ?_) (fun c_19 => ?_)
    · skip
      have el_0 : (0 : Int32).toInt = 0 := rfl
      rw [i_eq] at c_19
      have k0c_19 : ((u_17.2.1 0)).toInt = 1 := by omega
      refine j_iconst (pc := 132) (v := 1) C dX8_isName_132 (by decide) ?_
      refine j_goto (pc := 133) (tgt := 137) C dX8_isName_133 (by decide) ?_
      have el_1 : (1 : Int32).toInt = 1 := rfl
      exact j_lv [0, 1] rfl (join_2 (1) (by omega))
    · skip
      have el_0 : (0 : Int32).toInt = 0 := rfl
      rw [i_eq] at c_19
      refine j_aload_n (pc := 69) C dX8_isName_69 rfl 1 rfl ?_
      refine j_ldcS (pc := 70) (i := 33) C (by decide) rfl dX8_isName_70 ?_
      refine j_callV (pc := 72) (As := [.ref (D.2.1 33)]) (rest := []) (wr := []) C (c_X8_isWord l D cyC cyI cyJ cyZ cyO t0 t1 33 t_length t_next t_kind t_place t_number t_text h_t_length h_t_next h_t_kind h_t_place (by decide)) wd_288 wd_258 wd_289 wd_290 wd_291 ⟨by decide, by decide, rfl⟩ rfl ⟨rfl, rfl, by decide, by decide⟩ ⟨by decide, by decide⟩ [0, 1] [] rfl rfl ⟨by decide, by decide, by decide⟩ 0 rfl rfl rfl (Nat.le_of_ble_eq_true rfl) dX8_isName_72 (fun u_20 hw_21 => ?_)
      refine j_eq (ws2 := [(t0, .inr (8, [.ref t1, .int t_length, .int t_next, .int t_kind, .int t_place, .int t_number])), (t1, .inl (cyC, 1000, .inl t_text))]) (pc2 := 75) (lv2 := [(1, .int xj1), (0, .ref t0)]) (st2 := [.int (u_20.2.1 0)]) rfl rfl rfl rfl ?_
      have hw_21_0 : 0 ≤ (u_20.2.1 0).toInt ∧ (u_20.2.1 0).toInt ≤ 1 := hw_21
      refine j_if_ne (pc := 75) (tgt := 132) C dX8_isName_75 (by decide) (fun c_22 => ?_) (fun c_22 => ?_)
      · skip
        have el_0 : (0 : Int32).toInt = 0 := rfl
        rw [i_eq] at c_22
        have k0c_22 : ((u_20.2.1 0)).toInt = 1 := by omega
        refine j_iconst (pc := 132) (v := 1) C dX8_isName_132 (by decide) ?_
        refine j_goto (pc := 133) (tgt := 137) C dX8_isName_133 (by decide) ?_
        have el_1 : (1 : Int32).toInt = 1 := rfl
        exact j_lv [0, 1] rfl (join_2 (1) (by omega))
      · skip
        have el_0 : (0 : Int32).toInt = 0 := rfl
        rw [i_eq] at c_22
        refine j_aload_n (pc := 78) C dX8_isName_78 rfl 1 rfl ?_
        refine j_ldcS (pc := 79) (i := 34) C (by decide) rfl dX8_isName_79 ?_
        refine j_callV (pc := 81) (As := [.ref (D.2.1 34)]) (rest := []) (wr := []) C (c_X8_isWord l D cyC cyI cyJ cyZ cyO t0 t1 34 t_length t_next t_kind t_place t_number t_text h_t_length h_t_next h_t_kind h_t_place (by decide)) wd_288 wd_258 wd_289 wd_290 wd_291 ⟨by decide, by decide, rfl⟩ rfl ⟨rfl, rfl, by decide, by decide⟩ ⟨by decide, by decide⟩ [0, 1] [] rfl rfl ⟨by decide, by decide, by decide⟩ 0 rfl rfl rfl (Nat.le_of_ble_eq_true rfl) dX8_isName_81 (fun u_23 hw_24 => ?_)
        refine j_eq (ws2 := [(t0, .inr (8, [.ref t1, .int t_length, .int t_next, .int t_kind, .int t_place, .int t_number])), (t1, .inl (cyC, 1000, .inl t_text))]) (pc2 := 84) (lv2 := [(1, .int xj1), (0, .ref t0)]) (st2 := [.int (u_23.2.1 0)]) rfl rfl rfl rfl ?_
        have hw_24_0 : 0 ≤ (u_23.2.1 0).toInt ∧ (u_23.2.1 0).toInt ≤ 1 := hw_24
        refine j_if_ne (pc := 84) (tgt := 132) C dX8_isName_84 (by decide) (fun c_25 => ?_) (fun c_25 => ?_)
        · skip
          have el_0 : (0 : Int32).toInt = 0 := rfl
          rw [i_eq] at c_25
          have k0c_25 : ((u_23.2.1 0)).toInt = 1 := by omega
          refine j_iconst (pc := 132) (v := 1) C dX8_isName_132 (by decide) ?_
          refine j_goto (pc := 133) (tgt := 137) C dX8_isName_133 (by decide) ?_
          have el_1 : (1 : Int32).toInt = 1 := rfl
          exact j_lv [0, 1] rfl (join_2 (1) (by omega))
        · skip
          have el_0 : (0 : Int32).toInt = 0 := rfl
          rw [i_eq] at c_25
          refine j_aload_n (pc := 87) C dX8_isName_87 rfl 1 rfl ?_
          refine j_ldcS (pc := 88) (i := 35) C (by decide) rfl dX8_isName_88 ?_
          refine j_callV (pc := 90) (As := [.ref (D.2.1 35)]) (rest := []) (wr := []) C (c_X8_isWord l D cyC cyI cyJ cyZ cyO t0 t1 35 t_length t_next t_kind t_place t_number t_text h_t_length h_t_next h_t_kind h_t_place (by decide)) wd_288 wd_258 wd_289 wd_290 wd_291 ⟨by decide, by decide, rfl⟩ rfl ⟨rfl, rfl, by decide, by decide⟩ ⟨by decide, by decide⟩ [0, 1] [] rfl rfl ⟨by decide, by decide, by decide⟩ 0 rfl rfl rfl (Nat.le_of_ble_eq_true rfl) dX8_isName_90 (fun u_26 hw_27 => ?_)
          refine j_eq (ws2 := [(t0, .inr (8, [.ref t1, .int t_length, .int t_next, .int t_kind, .int t_place, .int t_number])), (t1, .inl (cyC, 1000, .inl t_text))]) (pc2 := 93) (lv2 := [(1, .int xj1), (0, .ref t0)]) (st2 := [.int (u_26.2.1 0)]) rfl rfl rfl rfl ?_
          have hw_27_0 : 0 ≤ (u_26.2.1 0).toInt ∧ (u_26.2.1 0).toInt ≤ 1 := hw_27
          refine j_if_ne (pc := 93) (tgt := 132) C dX8_isName_93 (by decide) (fun c_28 => ?_) (fun c_28 => ?_)
          · skip
            have el_0 : (0 : Int32).toInt = 0 := rfl
            rw [i_eq] at c_28
            have k0c_28 : ((u_26.2.1 0)).toInt = 1 := by omega
            refine j_iconst (pc := 132) (v := 1) C dX8_isName_132 (by decide) ?_
            refine j_goto (pc := 133) (tgt := 137) C dX8_isName_133 (by decide) ?_
            have el_1 : (1 : Int32).toInt = 1 := rfl
            exact j_lv [0, 1] rfl (join_2 (1) (by omega))
          · skip
            have el_0 : (0 : Int32).toInt = 0 := rfl
            rw [i_eq] at c_28
            refine j_aload_n (pc := 96) C dX8_isName_96 rfl 1 rfl ?_
            refine j_ldcS (pc := 97) (i := 36) C (by decide) rfl dX8_isName_97 ?_
            refine j_callV (pc := 99) (As := [.ref (D.2.1 36)]) (rest := []) (wr := []) C (c_X8_isWord l D cyC cyI cyJ cyZ cyO t0 t1 36 t_length t_next t_kind t_place t_number t_text h_t_length h_t_next h_t_kind h_t_place (by decide)) wd_288 wd_258 wd_289 wd_290 wd_291 ⟨by decide, by decide, rfl⟩ rfl ⟨rfl, rfl, by decide, by decide⟩ ⟨by decide, by decide⟩ [0, 1] [] rfl rfl ⟨by decide, by decide, by decide⟩ 0 rfl rfl rfl (Nat.le_of_ble_eq_true rfl) dX8_isName_99 (fun u_29 hw_30 => ?_)
            refine j_eq (ws2 := [(t0, .inr (8, [.ref t1, .int t_length, .int t_next, .int t_kind, .int t_place, .int t_number])), (t1, .inl (cyC, 1000, .inl t_text))]) (pc2 := 102) (lv2 := [(1, .int xj1), (0, .ref t0)]) (st2 := [.int (u_29.2.1 0)]) rfl rfl rfl rfl ?_
            have hw_30_0 : 0 ≤ (u_29.2.1 0).toInt ∧ (u_29.2.1 0).toInt ≤ 1 := hw_30
            refine j_if_ne (pc := 102) (tgt := 132) C dX8_isName_102 (by decide) (fun c_31 => ?_) (fun c_31 => ?_)
            · skip
              have el_0 : (0 : Int32).toInt = 0 := rfl
              rw [i_eq] at c_31
              have k0c_31 : ((u_29.2.1 0)).toInt = 1 := by omega
              refine j_iconst (pc := 132) (v := 1) C dX8_isName_132 (by decide) ?_
              refine j_goto (pc := 133) (tgt := 137) C dX8_isName_133 (by decide) ?_
              have el_1 : (1 : Int32).toInt = 1 := rfl
              exact j_lv [0, 1] rfl (join_2 (1) (by omega))
            · skip
              have el_0 : (0 : Int32).toInt = 0 := rfl
              rw [i_eq] at c_31
              refine j_aload_n (pc := 105) C dX8_isName_105 rfl 1 rfl ?_
              refine j_ldcS (pc := 106) (i := 37) C (by decide) rfl dX8_isName_106 ?_
              refine j_callV (pc := 108) (As := [.ref (D.2.1 37)]) (rest := []) (wr := []) C (c_X8_isWord l D cyC cyI cyJ cyZ cyO t0 t1 37 t_length t_next t_kind t_place t_number t_text h_t_length h_t_next h_t_kind h_t_place (by decide)) wd_288 wd_258 wd_289 wd_290 wd_291 ⟨by decide, by decide, rfl⟩ rfl ⟨rfl, rfl, by decide, by decide⟩ ⟨by decide, by decide⟩ [0, 1] [] rfl rfl ⟨by decide, by decide, by decide⟩ 0 rfl rfl rfl (Nat.le_of_ble_eq_true rfl) dX8_isName_108 (fun u_32 hw_33 => ?_)
              refine j_eq (ws2 := [(t0, .inr (8, [.ref t1, .int t_length, .int t_next, .int t_kind, .int t_place, .int t_number])), (t1, .inl (cyC, 1000, .inl t_text))]) (pc2 := 111) (lv2 := [(1, .int xj1), (0, .ref t0)]) (st2 := [.int (u_32.2.1 0)]) rfl rfl rfl rfl ?_
              have hw_33_0 : 0 ≤ (u_32.2.1 0).toInt ∧ (u_32.2.1 0).toInt ≤ 1 := hw_33
              refine j_if_ne (pc := 111) (tgt := 132) C dX8_isName_111 (by decide) (fun c_34 => ?_) (fun c_34 => ?_)
              · skip
                have el_0 : (0 : Int32).toInt = 0 := rfl
                rw [i_eq] at c_34
                have k0c_34 : ((u_32.2.1 0)).toInt = 1 := by omega
                refine j_iconst (pc := 132) (v := 1) C dX8_isName_132 (by decide) ?_
                refine j_goto (pc := 133) (tgt := 137) C dX8_isName_133 (by decide) ?_
                have el_1 : (1 : Int32).toInt = 1 := rfl
                exact j_lv [0, 1] rfl (join_2 (1) (by omega))
              · skip
                have el_0 : (0 : Int32).toInt = 0 := rfl
                rw [i_eq] at c_34
                refine j_aload_n (pc := 114) C dX8_isName_114 rfl 1 rfl ?_
                refine j_ldcS (pc := 115) (i := 38) C (by decide) rfl dX8_isName_115 ?_
                refine j_callV (pc := 117) (As := [.ref (D.2.1 38)]) (rest := []) (wr := []) C (c_X8_isWord l D cyC cyI cyJ cyZ cyO t0 t1 38 t_length t_next t_kind t_place t_number t_text h_t_length h_t_next h_t_kind h_t_place (by decide)) wd_288 wd_258 wd_289 wd_290 wd_291 ⟨by decide, by decide, rfl⟩ rfl ⟨rfl, rfl, by decide, by decide⟩ ⟨by decide, by decide⟩ [0, 1] [] rfl rfl ⟨by decide, by decide, by decide⟩ 0 rfl rfl rfl (Nat.le_of_ble_eq_true rfl) dX8_isName_117 (fun u_35 hw_36 => ?_)
                refine j_eq (ws2 := [(t0, .inr (8, [.ref t1, .int t_length, .int t_next, .int t_kind, .int t_place, .int t_number])), (t1, .inl (cyC, 1000, .inl t_text))]) (pc2 := 120) (lv2 := [(1, .int xj1), (0, .ref t0)]) (st2 := [.int (u_35.2.1 0)]) rfl rfl rfl rfl ?_
                have hw_36_0 : 0 ≤ (u_35.2.1 0).toInt ∧ (u_35.2.1 0).toInt ≤ 1 := hw_36
                refine j_if_ne (pc := 120) (tgt := 132) C dX8_isName_120 (by decide) (fun c_37 => ?_) (fun c_37 => ?_)
                · skip
                  have el_0 : (0 : Int32).toInt = 0 := rfl
                  rw [i_eq] at c_37
                  have k0c_37 : ((u_35.2.1 0)).toInt = 1 := by omega
                  refine j_iconst (pc := 132) (v := 1) C dX8_isName_132 (by decide) ?_
                  refine j_goto (pc := 133) (tgt := 137) C dX8_isName_133 (by decide) ?_
                  have el_1 : (1 : Int32).toInt = 1 := rfl
                  exact j_lv [0, 1] rfl (join_2 (1) (by omega))
                · skip
                  have el_0 : (0 : Int32).toInt = 0 := rfl
                  rw [i_eq] at c_37
                  refine j_aload_n (pc := 123) C dX8_isName_123 rfl 1 rfl ?_
                  refine j_ldcS (pc := 124) (i := 39) C (by decide) rfl dX8_isName_124 ?_
                  refine j_callV (pc := 126) (As := [.ref (D.2.1 39)]) (rest := []) (wr := []) C (c_X8_isWord l D cyC cyI cyJ cyZ cyO t0 t1 39 t_length t_next t_kind t_place t_number t_text h_t_length h_t_next h_t_kind h_t_place (by decide)) wd_288 wd_258 wd_289 wd_290 wd_291 ⟨by decide, by decide, rfl⟩ rfl ⟨rfl, rfl, by decide, by decide⟩ ⟨by decide, by decide⟩ [0, 1] [] rfl rfl ⟨by decide, by decide, by decide⟩ 0 rfl rfl rfl (Nat.le_of_ble_eq_true rfl) dX8_isName_126 (fun u_38 hw_39 => ?_)
                  refine j_eq (ws2 := [(t0, .inr (8, [.ref t1, .int t_length, .int t_next, .int t_kind, .int t_place, .int t_number])), (t1, .inl (cyC, 1000, .inl t_text))]) (pc2 := 129) (lv2 := [(1, .int xj1), (0, .ref t0)]) (st2 := [.int (u_38.2.1 0)]) rfl rfl rfl rfl ?_
                  have hw_39_0 : 0 ≤ (u_38.2.1 0).toInt ∧ (u_38.2.1 0).toInt ≤ 1 := hw_39
                  refine j_if_eq (pc := 129) (tgt := 136) C dX8_isName_129 (by decide) (fun c_40 => ?_) (fun c_40 => ?_)
                  · skip
                    have el_0 : (0 : Int32).toInt = 0 := rfl
                    rw [i_eq] at c_40
                    refine j_iconst (pc := 136) (v := 0) C dX8_isName_136 (by decide) ?_
                    have el_0 : (0 : Int32).toInt = 0 := rfl
                    exact j_lv [0, 1] rfl (join_2 (0) (by omega))
                  · skip
                    have el_0 : (0 : Int32).toInt = 0 := rfl
                    rw [i_eq] at c_40
                    have k0c_40 : ((u_38.2.1 0)).toInt = 1 := by omega
                    refine j_iconst (pc := 132) (v := 1) C dX8_isName_132 (by decide) ?_
                    refine j_goto (pc := 133) (tgt := 137) C dX8_isName_133 (by decide) ?_
                    have el_1 : (1 : Int32).toInt = 1 := rfl
                    exact j_lv [0, 1] rfl (join_2 (1) (by omega))
  refine j_aload_n (pc := 0) C dX8_isName_0 rfl 0 rfl ?_
  refine j_ldcS (pc := 1) (i := 26) C (by decide) rfl dX8_isName_1 ?_
  refine j_callV (pc := 3) (As := [.ref (D.2.1 26)]) (rest := []) (wr := []) C (c_X8_isWord l D cyC cyI cyJ cyZ cyO t0 t1 26 t_length t_next t_kind t_place t_number t_text h_t_length h_t_next h_t_kind h_t_place (by decide)) wd_288 wd_258 wd_289 wd_290 wd_291 ⟨by decide, by decide, rfl⟩ rfl ⟨rfl, rfl, by decide, by decide⟩ ⟨by decide, by decide⟩ [0, 1] [] rfl rfl ⟨by decide, by decide, by decide⟩ 0 rfl rfl rfl (Nat.le_of_ble_eq_true rfl) dX8_isName_3 (fun u_41 hw_42 => ?_)
  refine j_eq (ws2 := [(t0, .inr (8, [.ref t1, .int t_length, .int t_next, .int t_kind, .int t_place, .int t_number])), (t1, .inl (cyC, 1000, .inl t_text))]) (pc2 := 6) (lv2 := [(0, .ref t0)]) (st2 := [.int (u_41.2.1 0)]) rfl rfl rfl rfl ?_
  have hw_42_0 : 0 ≤ (u_41.2.1 0).toInt ∧ (u_41.2.1 0).toInt ≤ 1 := hw_42
  refine j_if_ne (pc := 6) (tgt := 54) C dX8_isName_6 (by decide) (fun c_43 => ?_) (fun c_43 => ?_)
  · skip
    have el_0 : (0 : Int32).toInt = 0 := rfl
    rw [i_eq] at c_43
    have k0c_43 : ((u_41.2.1 0)).toInt = 1 := by omega
    refine j_iconst (pc := 54) (v := 1) C dX8_isName_54 (by decide) ?_
    refine j_goto (pc := 55) (tgt := 59) C dX8_isName_55 (by decide) ?_
    have el_1 : (1 : Int32).toInt = 1 := rfl
    exact j_lv [0] rfl (join_1 (1) (by omega))
  · skip
    have el_0 : (0 : Int32).toInt = 0 := rfl
    rw [i_eq] at c_43
    refine j_aload_n (pc := 9) C dX8_isName_9 rfl 0 rfl ?_
    refine j_ldcS (pc := 10) (i := 27) C (by decide) rfl dX8_isName_10 ?_
    refine j_callV (pc := 12) (As := [.ref (D.2.1 27)]) (rest := []) (wr := []) C (c_X8_isWord l D cyC cyI cyJ cyZ cyO t0 t1 27 t_length t_next t_kind t_place t_number t_text h_t_length h_t_next h_t_kind h_t_place (by decide)) wd_288 wd_258 wd_289 wd_290 wd_291 ⟨by decide, by decide, rfl⟩ rfl ⟨rfl, rfl, by decide, by decide⟩ ⟨by decide, by decide⟩ [0, 1] [] rfl rfl ⟨by decide, by decide, by decide⟩ 0 rfl rfl rfl (Nat.le_of_ble_eq_true rfl) dX8_isName_12 (fun u_44 hw_45 => ?_)
    refine j_eq (ws2 := [(t0, .inr (8, [.ref t1, .int t_length, .int t_next, .int t_kind, .int t_place, .int t_number])), (t1, .inl (cyC, 1000, .inl t_text))]) (pc2 := 15) (lv2 := [(0, .ref t0)]) (st2 := [.int (u_44.2.1 0)]) rfl rfl rfl rfl ?_
    have hw_45_0 : 0 ≤ (u_44.2.1 0).toInt ∧ (u_44.2.1 0).toInt ≤ 1 := hw_45
    refine j_if_ne (pc := 15) (tgt := 54) C dX8_isName_15 (by decide) (fun c_46 => ?_) (fun c_46 => ?_)
    · skip
      have el_0 : (0 : Int32).toInt = 0 := rfl
      rw [i_eq] at c_46
      have k0c_46 : ((u_44.2.1 0)).toInt = 1 := by omega
      refine j_iconst (pc := 54) (v := 1) C dX8_isName_54 (by decide) ?_
      refine j_goto (pc := 55) (tgt := 59) C dX8_isName_55 (by decide) ?_
      have el_1 : (1 : Int32).toInt = 1 := rfl
      exact j_lv [0] rfl (join_1 (1) (by omega))
    · skip
      have el_0 : (0 : Int32).toInt = 0 := rfl
      rw [i_eq] at c_46
      refine j_aload_n (pc := 18) C dX8_isName_18 rfl 0 rfl ?_
      refine j_ldcS (pc := 19) (i := 28) C (by decide) rfl dX8_isName_19 ?_
      refine j_callV (pc := 21) (As := [.ref (D.2.1 28)]) (rest := []) (wr := []) C (c_X8_isWord l D cyC cyI cyJ cyZ cyO t0 t1 28 t_length t_next t_kind t_place t_number t_text h_t_length h_t_next h_t_kind h_t_place (by decide)) wd_288 wd_258 wd_289 wd_290 wd_291 ⟨by decide, by decide, rfl⟩ rfl ⟨rfl, rfl, by decide, by decide⟩ ⟨by decide, by decide⟩ [0, 1] [] rfl rfl ⟨by decide, by decide, by decide⟩ 0 rfl rfl rfl (Nat.le_of_ble_eq_true rfl) dX8_isName_21 (fun u_47 hw_48 => ?_)
      refine j_eq (ws2 := [(t0, .inr (8, [.ref t1, .int t_length, .int t_next, .int t_kind, .int t_place, .int t_number])), (t1, .inl (cyC, 1000, .inl t_text))]) (pc2 := 24) (lv2 := [(0, .ref t0)]) (st2 := [.int (u_47.2.1 0)]) rfl rfl rfl rfl ?_
      have hw_48_0 : 0 ≤ (u_47.2.1 0).toInt ∧ (u_47.2.1 0).toInt ≤ 1 := hw_48
      refine j_if_ne (pc := 24) (tgt := 54) C dX8_isName_24 (by decide) (fun c_49 => ?_) (fun c_49 => ?_)
      · skip
        have el_0 : (0 : Int32).toInt = 0 := rfl
        rw [i_eq] at c_49
        have k0c_49 : ((u_47.2.1 0)).toInt = 1 := by omega
        refine j_iconst (pc := 54) (v := 1) C dX8_isName_54 (by decide) ?_
        refine j_goto (pc := 55) (tgt := 59) C dX8_isName_55 (by decide) ?_
        have el_1 : (1 : Int32).toInt = 1 := rfl
        exact j_lv [0] rfl (join_1 (1) (by omega))
      · skip
        have el_0 : (0 : Int32).toInt = 0 := rfl
        rw [i_eq] at c_49
        refine j_aload_n (pc := 27) C dX8_isName_27 rfl 0 rfl ?_
        refine j_ldcS (pc := 28) (i := 29) C (by decide) rfl dX8_isName_28 ?_
        refine j_callV (pc := 30) (As := [.ref (D.2.1 29)]) (rest := []) (wr := []) C (c_X8_isWord l D cyC cyI cyJ cyZ cyO t0 t1 29 t_length t_next t_kind t_place t_number t_text h_t_length h_t_next h_t_kind h_t_place (by decide)) wd_288 wd_258 wd_289 wd_290 wd_291 ⟨by decide, by decide, rfl⟩ rfl ⟨rfl, rfl, by decide, by decide⟩ ⟨by decide, by decide⟩ [0, 1] [] rfl rfl ⟨by decide, by decide, by decide⟩ 0 rfl rfl rfl (Nat.le_of_ble_eq_true rfl) dX8_isName_30 (fun u_50 hw_51 => ?_)
        refine j_eq (ws2 := [(t0, .inr (8, [.ref t1, .int t_length, .int t_next, .int t_kind, .int t_place, .int t_number])), (t1, .inl (cyC, 1000, .inl t_text))]) (pc2 := 33) (lv2 := [(0, .ref t0)]) (st2 := [.int (u_50.2.1 0)]) rfl rfl rfl rfl ?_
        have hw_51_0 : 0 ≤ (u_50.2.1 0).toInt ∧ (u_50.2.1 0).toInt ≤ 1 := hw_51
        refine j_if_ne (pc := 33) (tgt := 54) C dX8_isName_33 (by decide) (fun c_52 => ?_) (fun c_52 => ?_)
        · skip
          have el_0 : (0 : Int32).toInt = 0 := rfl
          rw [i_eq] at c_52
          have k0c_52 : ((u_50.2.1 0)).toInt = 1 := by omega
          refine j_iconst (pc := 54) (v := 1) C dX8_isName_54 (by decide) ?_
          refine j_goto (pc := 55) (tgt := 59) C dX8_isName_55 (by decide) ?_
          have el_1 : (1 : Int32).toInt = 1 := rfl
          exact j_lv [0] rfl (join_1 (1) (by omega))
        · skip
          have el_0 : (0 : Int32).toInt = 0 := rfl
          rw [i_eq] at c_52
          refine j_aload_n (pc := 36) C dX8_isName_36 rfl 0 rfl ?_
          refine j_ldcS (pc := 37) (i := 30) C (by decide) rfl dX8_isName_37 ?_
          refine j_callV (pc := 39) (As := [.ref (D.2.1 30)]) (rest := []) (wr := []) C (c_X8_isWord l D cyC cyI cyJ cyZ cyO t0 t1 30 t_length t_next t_kind t_place t_number t_text h_t_length h_t_next h_t_kind h_t_place (by decide)) wd_288 wd_258 wd_289 wd_290 wd_291 ⟨by decide, by decide, rfl⟩ rfl ⟨rfl, rfl, by decide, by decide⟩ ⟨by decide, by decide⟩ [0, 1] [] rfl rfl ⟨by decide, by decide, by decide⟩ 0 rfl rfl rfl (Nat.le_of_ble_eq_true rfl) dX8_isName_39 (fun u_53 hw_54 => ?_)
          refine j_eq (ws2 := [(t0, .inr (8, [.ref t1, .int t_length, .int t_next, .int t_kind, .int t_place, .int t_number])), (t1, .inl (cyC, 1000, .inl t_text))]) (pc2 := 42) (lv2 := [(0, .ref t0)]) (st2 := [.int (u_53.2.1 0)]) rfl rfl rfl rfl ?_
          have hw_54_0 : 0 ≤ (u_53.2.1 0).toInt ∧ (u_53.2.1 0).toInt ≤ 1 := hw_54
          refine j_if_ne (pc := 42) (tgt := 54) C dX8_isName_42 (by decide) (fun c_55 => ?_) (fun c_55 => ?_)
          · skip
            have el_0 : (0 : Int32).toInt = 0 := rfl
            rw [i_eq] at c_55
            have k0c_55 : ((u_53.2.1 0)).toInt = 1 := by omega
            refine j_iconst (pc := 54) (v := 1) C dX8_isName_54 (by decide) ?_
            refine j_goto (pc := 55) (tgt := 59) C dX8_isName_55 (by decide) ?_
            have el_1 : (1 : Int32).toInt = 1 := rfl
            exact j_lv [0] rfl (join_1 (1) (by omega))
          · skip
            have el_0 : (0 : Int32).toInt = 0 := rfl
            rw [i_eq] at c_55
            refine j_aload_n (pc := 45) C dX8_isName_45 rfl 0 rfl ?_
            refine j_ldcS (pc := 46) (i := 31) C (by decide) rfl dX8_isName_46 ?_
            refine j_callV (pc := 48) (As := [.ref (D.2.1 31)]) (rest := []) (wr := []) C (c_X8_isWord l D cyC cyI cyJ cyZ cyO t0 t1 31 t_length t_next t_kind t_place t_number t_text h_t_length h_t_next h_t_kind h_t_place (by decide)) wd_288 wd_258 wd_289 wd_290 wd_291 ⟨by decide, by decide, rfl⟩ rfl ⟨rfl, rfl, by decide, by decide⟩ ⟨by decide, by decide⟩ [0, 1] [] rfl rfl ⟨by decide, by decide, by decide⟩ 0 rfl rfl rfl (Nat.le_of_ble_eq_true rfl) dX8_isName_48 (fun u_56 hw_57 => ?_)
            refine j_eq (ws2 := [(t0, .inr (8, [.ref t1, .int t_length, .int t_next, .int t_kind, .int t_place, .int t_number])), (t1, .inl (cyC, 1000, .inl t_text))]) (pc2 := 51) (lv2 := [(0, .ref t0)]) (st2 := [.int (u_56.2.1 0)]) rfl rfl rfl rfl ?_
            have hw_57_0 : 0 ≤ (u_56.2.1 0).toInt ∧ (u_56.2.1 0).toInt ≤ 1 := hw_57
            refine j_if_eq (pc := 51) (tgt := 58) C dX8_isName_51 (by decide) (fun c_58 => ?_) (fun c_58 => ?_)
            · skip
              have el_0 : (0 : Int32).toInt = 0 := rfl
              rw [i_eq] at c_58
              refine j_iconst (pc := 58) (v := 0) C dX8_isName_58 (by decide) ?_
              have el_0 : (0 : Int32).toInt = 0 := rfl
              exact j_lv [0] rfl (join_1 (0) (by omega))
            · skip
              have el_0 : (0 : Int32).toInt = 0 := rfl
              rw [i_eq] at c_58
              have k0c_58 : ((u_56.2.1 0)).toInt = 1 := by omega
              refine j_iconst (pc := 54) (v := 1) C dX8_isName_54 (by decide) ?_
              refine j_goto (pc := 55) (tgt := 59) C dX8_isName_55 (by decide) ?_
              have el_1 : (1 : Int32).toInt = 1 := rfl
              exact j_lv [0] rfl (join_1 (1) (by omega))
