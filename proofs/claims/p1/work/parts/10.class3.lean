theorem wd_258 : Cond.fieldLink RX3 60 "BowlShelf$Order" "fewest" "I" ∈ WALL := wl_in (by decide +kernel) (by decide +kernel)
theorem wd_259 : Cond.fieldLink RX3 63 "BowlShelf$Order" "apart" "I" ∈ WALL := wl_in (by decide +kernel) (by decide +kernel)
theorem wd_260 : Cond.code yX3_findKin cX3_findKin 3 none ∈ WALL := wl_in (by decide +kernel) (by decide +kernel)
theorem wd_261 : Cond.methodLink RX3 44 yX3_findKin ∈ WALL := wl_in (by decide +kernel) (by decide +kernel)
theorem wd_262 : Cond.instanceMethod yX3_findKin ∈ WALL := wl_in (by decide +kernel) (by decide +kernel)
theorem wd_263 : Cond.selects RX3 yX3_findKin yX3_findKin ∈ WALL := wl_in (by decide +kernel) (by decide +kernel)
theorem wd_264 : Cond.code yX3_findApart cX3_findApart 3 none ∈ WALL := wl_in (by decide +kernel) (by decide +kernel)
theorem wd_265 : Cond.methodLink RX3 47 yX3_findApart ∈ WALL := wl_in (by decide +kernel) (by decide +kernel)
theorem wd_266 : Cond.instanceMethod yX3_findApart ∈ WALL := wl_in (by decide +kernel) (by decide +kernel)
theorem wd_267 : Cond.selects RX3 yX3_findApart yX3_findApart ∈ WALL := wl_in (by decide +kernel) (by decide +kernel)
theorem wd_268 : Cond.methodLink RX3 50 yJ7_fill_53178 ∈ WALL := wl_in (by decide +kernel) (by decide +kernel)
theorem wd_269 : Cond.code yX3_give cX3_give 4 (some .boolean) ∈ WALL := wl_in (by decide +kernel) (by decide +kernel)
theorem wd_270 : Cond.methodLink RX3 56 yX3_give ∈ WALL := wl_in (by decide +kernel) (by decide +kernel)
theorem wd_271 : Cond.instanceMethod yX3_give ∈ WALL := wl_in (by decide +kernel) (by decide +kernel)
theorem wd_272 : Cond.selects RX3 yX3_give yX3_give ∈ WALL := wl_in (by decide +kernel) (by decide +kernel)
theorem wd_273 : Cond.code yX3_isRound cX3_isRound 2 (some .boolean) ∈ WALL := wl_in (by decide +kernel) (by decide +kernel)
theorem wd_274 : Cond.methodLink RX10 227 yX3_isRound ∈ WALL := wl_in (by decide +kernel) (by decide +kernel)
theorem wd_275 : Cond.instanceMethod yX3_isRound ∈ WALL := wl_in (by decide +kernel) (by decide +kernel)
theorem wd_276 : Cond.selects RX3 yX3_isRound yX3_isRound ∈ WALL := wl_in (by decide +kernel) (by decide +kernel)
theorem wd_277 : Cond.code yX3_settle cX3_settle 1 none ∈ WALL := wl_in (by decide +kernel) (by decide +kernel)
theorem wd_278 : Cond.methodLink RX10 231 yX3_settle ∈ WALL := wl_in (by decide +kernel) (by decide +kernel)
theorem wd_279 : Cond.instanceMethod yX3_settle ∈ WALL := wl_in (by decide +kernel) (by decide +kernel)
theorem wd_280 : Cond.selects RX3 yX3_settle yX3_settle ∈ WALL := wl_in (by decide +kernel) (by decide +kernel)
theorem wd_281 : Cond.fieldLink RX10 234 "BowlShelf$Order" "fewest" "I" ∈ WALL := wl_in (by decide +kernel) (by decide +kernel)
theorem wd_282 : Cond.fieldLink RX10 237 "BowlShelf$Order" "apart" "I" ∈ WALL := wl_in (by decide +kernel) (by decide +kernel)
theorem wd_283 : Cond.code yX10_isHeight cX10_isHeight 1 (some .boolean) ∈ WALL := wl_in (by decide +kernel) (by decide +kernel)
theorem wd_284 : Cond.methodLink RX10 243 yX10_isHeight ∈ WALL := wl_in (by decide +kernel) (by decide +kernel)
theorem wd_285 : Cond.static yX10_isHeight ∈ WALL := wl_in (by decide +kernel) (by decide +kernel)
theorem wd_286 : Cond.fieldLink RX10 246 "BowlShelf$Told" "wares" "I" ∈ WALL := wl_in (by decide +kernel) (by decide +kernel)
theorem wd_287 : Cond.fieldLink RX0 21 "BowlShelf$Heights" "known" "Z" ∈ WALL := wl_in (by decide +kernel) (by decide +kernel)
theorem wd_288 : Cond.fieldLink RX0 25 "BowlShelf$Told" "wares" "I" ∈ WALL := wl_in (by decide +kernel) (by decide +kernel)
theorem wd_289 : Cond.fieldLink RX0 31 "BowlShelf$Heights" "wares" "I" ∈ WALL := wl_in (by decide +kernel) (by decide +kernel)
theorem wd_290 : Cond.code yX0_settle cX0_settle 4 none ∈ WALL := wl_in (by decide +kernel) (by decide +kernel)
theorem wd_291 : Cond.methodLink RX10 249 yX0_settle ∈ WALL := wl_in (by decide +kernel) (by decide +kernel)
theorem wd_292 : Cond.instanceMethod yX0_settle ∈ WALL := wl_in (by decide +kernel) (by decide +kernel)
theorem wd_293 : Cond.selects RX0 yX0_settle yX0_settle ∈ WALL := wl_in (by decide +kernel) (by decide +kernel)
theorem wd_294 : Cond.code yX0_fewestStacks cX0_fewestStacks 4 (some .int) ∈ WALL := wl_in (by decide +kernel) (by decide +kernel)
theorem wd_295 : Cond.methodLink RX10 251 yX0_fewestStacks ∈ WALL := wl_in (by decide +kernel) (by decide +kernel)
theorem wd_296 : Cond.instanceMethod yX0_fewestStacks ∈ WALL := wl_in (by decide +kernel) (by decide +kernel)
theorem wd_297 : Cond.selects RX0 yX0_fewestStacks yX0_fewestStacks ∈ WALL := wl_in (by decide +kernel) (by decide +kernel)
theorem dX3_isRound_0 : decode cX3_isRound 0 = .ok (.iconst 0, 1) := by decide +kernel
theorem dX3_isRound_1 : decode cX3_isRound 1 = .ok (.istore_n 1, 1) := by decide +kernel
theorem dX3_isRound_2 : decode cX3_isRound 2 = .ok (.iload_n 1, 1) := by decide +kernel
theorem dX3_isRound_3 : decode cX3_isRound 3 = .ok (.aload_n 0, 1) := by decide +kernel
theorem dX3_isRound_4 : decode cX3_isRound 4 = .ok (.getfield 30, 3) := by decide +kernel
theorem dX3_isRound_7 : decode cX3_isRound 7 = .ok (.if_icmp .ge 25, 3) := by decide +kernel
theorem dX3_isRound_32 : decode cX3_isRound 32 = .ok (.iconst 0, 1) := by decide +kernel
theorem dX3_isRound_33 : decode cX3_isRound 33 = .ok (.ireturn, 1) := by decide +kernel
theorem dX3_findKin_0 : decode cX3_findKin 0 = .ok (.aload_n 0, 1) := by decide +kernel
theorem dX3_findKin_1 : decode cX3_findKin 1 = .ok (.getfield 9, 3) := by decide +kernel
theorem dX3_findKin_4 : decode cX3_findKin 4 = .ok (.iconst 0, 1) := by decide +kernel
theorem dX3_findKin_5 : decode cX3_findKin 5 = .ok (.aload_n 0, 1) := by decide +kernel
theorem dX3_findKin_6 : decode cX3_findKin 6 = .ok (.getfield 15, 3) := by decide +kernel
theorem dX3_findKin_9 : decode cX3_findKin 9 = .ok (.iconst 0, 1) := by decide +kernel
theorem dX3_findKin_10 : decode cX3_findKin 10 = .ok (.bipush 12, 2) := by decide +kernel
theorem dX3_findKin_12 : decode cX3_findKin 12 = .ok (.invokestatic 38, 3) := by decide +kernel
theorem dX3_findKin_15 : decode cX3_findKin 15 = .ok (.iconst 0, 1) := by decide +kernel
theorem dX3_findKin_16 : decode cX3_findKin 16 = .ok (.istore_n 1, 1) := by decide +kernel
theorem dX3_findKin_17 : decode cX3_findKin 17 = .ok (.iload_n 1, 1) := by decide +kernel
theorem dX3_findKin_18 : decode cX3_findKin 18 = .ok (.aload_n 0, 1) := by decide +kernel
theorem dX3_findKin_19 : decode cX3_findKin 19 = .ok (.getfield 30, 3) := by decide +kernel
theorem dX3_findKin_22 : decode cX3_findKin 22 = .ok (.if_icmp .ge 46, 3) := by decide +kernel
theorem dX3_findKin_68 : decode cX3_findKin 68 = .ok (.return_, 1) := by decide +kernel
theorem dX3_findApart_0 : decode cX3_findApart 0 = .ok (.aload_n 0, 1) := by decide +kernel
theorem dX3_findApart_1 : decode cX3_findApart 1 = .ok (.iconst 0, 1) := by decide +kernel
theorem dX3_findApart_2 : decode cX3_findApart 2 = .ok (.putfield 60, 3) := by decide +kernel
theorem dX3_findApart_5 : decode cX3_findApart 5 = .ok (.aload_n 0, 1) := by decide +kernel
theorem dX3_findApart_6 : decode cX3_findApart 6 = .ok (.iconst 0, 1) := by decide +kernel
theorem dX3_findApart_7 : decode cX3_findApart 7 = .ok (.putfield 63, 3) := by decide +kernel
theorem dX3_findApart_10 : decode cX3_findApart 10 = .ok (.iconst 1, 1) := by decide +kernel
theorem dX3_findApart_11 : decode cX3_findApart 11 = .ok (.istore_n 1, 1) := by decide +kernel
theorem dX3_findApart_12 : decode cX3_findApart 12 = .ok (.iload_n 1, 1) := by decide +kernel
theorem dX3_findApart_13 : decode cX3_findApart 13 = .ok (.iconst 1, 1) := by decide +kernel
theorem dX3_findApart_14 : decode cX3_findApart 14 = .ok (.aload_n 0, 1) := by decide +kernel
theorem dX3_findApart_15 : decode cX3_findApart 15 = .ok (.getfield 30, 3) := by decide +kernel
theorem dX3_findApart_18 : decode cX3_findApart 18 = .ok (.ishl, 1) := by decide +kernel
theorem dX3_findApart_19 : decode cX3_findApart 19 = .ok (.if_icmp .ge 40, 3) := by decide +kernel
theorem dX3_findApart_59 : decode cX3_findApart 59 = .ok (.return_, 1) := by decide +kernel
theorem dX3_give_0 : decode cX3_give 0 = .ok (.iload_n 1, 1) := by decide +kernel
theorem dX3_give_1 : decode cX3_give 1 = .ok (.aload_n 0, 1) := by decide +kernel
theorem dX3_give_2 : decode cX3_give 2 = .ok (.getfield 30, 3) := by decide +kernel
theorem dX3_give_5 : decode cX3_give 5 = .ok (.if_icmp .lt 5, 3) := by decide +kernel
theorem dX3_give_8 : decode cX3_give 8 = .ok (.iconst 1, 1) := by decide +kernel
theorem dX3_give_9 : decode cX3_give 9 = .ok (.ireturn, 1) := by decide +kernel
theorem dX3_settle_0 : decode cX3_settle 0 = .ok (.aload_n 0, 1) := by decide +kernel
theorem dX3_settle_1 : decode cX3_settle 1 = .ok (.getfield 31, 3) := by decide +kernel
theorem dX3_settle_4 : decode cX3_settle 4 = .ok (.ifCond .eq 4, 3) := by decide +kernel
theorem dX3_settle_8 : decode cX3_settle 8 = .ok (.aload_n 0, 1) := by decide +kernel
theorem dX3_settle_9 : decode cX3_settle 9 = .ok (.iconst 1, 1) := by decide +kernel
theorem dX3_settle_10 : decode cX3_settle 10 = .ok (.putfield 31, 3) := by decide +kernel
theorem dX3_settle_13 : decode cX3_settle 13 = .ok (.aload_n 0, 1) := by decide +kernel
theorem dX3_settle_14 : decode cX3_settle 14 = .ok (.invokevirtual 44, 3) := by decide +kernel
theorem dX3_settle_17 : decode cX3_settle 17 = .ok (.aload_n 0, 1) := by decide +kernel
theorem dX3_settle_18 : decode cX3_settle 18 = .ok (.invokevirtual 47, 3) := by decide +kernel
theorem dX3_settle_21 : decode cX3_settle 21 = .ok (.aload_n 0, 1) := by decide +kernel
theorem dX3_settle_22 : decode cX3_settle 22 = .ok (.getfield 21, 3) := by decide +kernel
theorem dX3_settle_25 : decode cX3_settle 25 = .ok (.iconst 0, 1) := by decide +kernel
theorem dX3_settle_26 : decode cX3_settle 26 = .ok (.invokestatic 50, 3) := by decide +kernel
theorem dX3_settle_29 : decode cX3_settle 29 = .ok (.aload_n 0, 1) := by decide +kernel
theorem dX3_settle_30 : decode cX3_settle 30 = .ok (.iconst 0, 1) := by decide +kernel
theorem dX3_settle_31 : decode cX3_settle 31 = .ok (.iconst 0, 1) := by decide +kernel
theorem dX3_settle_32 : decode cX3_settle 32 = .ok (.invokevirtual 56, 3) := by decide +kernel
theorem dX3_settle_35 : decode cX3_settle 35 = .ok (.pop, 1) := by decide +kernel
theorem dX3_settle_36 : decode cX3_settle 36 = .ok (.return_, 1) := by decide +kernel
theorem dX10_rows_0 : decode cX10_rows 0 = .ok (.aload_n 0, 1) := by decide +kernel
theorem dX10_rows_1 : decode cX10_rows 1 = .ok (.getfield 47, 3) := by decide +kernel
theorem dX10_rows_4 : decode cX10_rows 4 = .ok (.invokevirtual 227, 3) := by decide +kernel
theorem dX10_rows_7 : decode cX10_rows 7 = .ok (.ifCond .eq 5, 3) := by decide +kernel
theorem dX10_rows_12 : decode cX10_rows 12 = .ok (.aload_n 0, 1) := by decide +kernel
theorem dX10_rows_13 : decode cX10_rows 13 = .ok (.getfield 47, 3) := by decide +kernel
theorem dX10_rows_16 : decode cX10_rows 16 = .ok (.invokevirtual 231, 3) := by decide +kernel
theorem dX10_rows_19 : decode cX10_rows 19 = .ok (.iload_n 1, 1) := by decide +kernel
theorem dX10_rows_20 : decode cX10_rows 20 = .ok (.lookupswitch 44 #[(0, 28), (1, 36)], 28) := by decide +kernel
theorem dX10_rows_48 : decode cX10_rows 48 = .ok (.aload_n 0, 1) := by decide +kernel
theorem dX10_rows_49 : decode cX10_rows 49 = .ok (.getfield 47, 3) := by decide +kernel
theorem dX10_rows_52 : decode cX10_rows 52 = .ok (.getfield 234, 3) := by decide +kernel
theorem dX10_rows_55 : decode cX10_rows 55 = .ok (.ireturn, 1) := by decide +kernel
theorem dX10_rows_56 : decode cX10_rows 56 = .ok (.aload_n 0, 1) := by decide +kernel
theorem dX10_rows_57 : decode cX10_rows 57 = .ok (.getfield 47, 3) := by decide +kernel
theorem dX10_rows_60 : decode cX10_rows 60 = .ok (.getfield 237, 3) := by decide +kernel
theorem dX10_rows_63 : decode cX10_rows 63 = .ok (.ireturn, 1) := by decide +kernel
theorem dX10_rows_64 : decode cX10_rows 64 = .ok (.iconst (-1), 1) := by decide +kernel
theorem dX10_rows_65 : decode cX10_rows 65 = .ok (.ireturn, 1) := by decide +kernel
theorem dX10_isHeight_0 : decode cX10_isHeight 0 = .ok (.iload_n 0, 1) := by decide +kernel
theorem dX10_isHeight_1 : decode cX10_isHeight 1 = .ok (.iconst 1, 1) := by decide +kernel
theorem dX10_isHeight_2 : decode cX10_isHeight 2 = .ok (.if_icmp .lt 14, 3) := by decide +kernel
theorem dX10_isHeight_5 : decode cX10_isHeight 5 = .ok (.iload_n 0, 1) := by decide +kernel
theorem dX10_isHeight_6 : decode cX10_isHeight 6 = .ok (.sipush 999, 3) := by decide +kernel
theorem dX10_isHeight_9 : decode cX10_isHeight 9 = .ok (.if_icmp .gt 7, 3) := by decide +kernel
theorem dX10_isHeight_12 : decode cX10_isHeight 12 = .ok (.iconst 1, 1) := by decide +kernel
theorem dX10_isHeight_13 : decode cX10_isHeight 13 = .ok (.goto 4, 3) := by decide +kernel
theorem dX10_isHeight_16 : decode cX10_isHeight 16 = .ok (.iconst 0, 1) := by decide +kernel
theorem dX10_isHeight_17 : decode cX10_isHeight 17 = .ok (.ireturn, 1) := by decide +kernel
theorem dX10_sorted_0 : decode cX10_sorted 0 = .ok (.iload_n 2, 1) := by decide +kernel
theorem dX10_sorted_1 : decode cX10_sorted 1 = .ok (.invokestatic 243, 3) := by decide +kernel
theorem dX10_sorted_4 : decode cX10_sorted 4 = .ok (.ifCond .eq 33, 3) := by decide +kernel
theorem dX10_sorted_7 : decode cX10_sorted 7 = .ok (.iload_n 1, 1) := by decide +kernel
theorem dX10_sorted_8 : decode cX10_sorted 8 = .ok (.iconst 1, 1) := by decide +kernel
theorem dX10_sorted_9 : decode cX10_sorted 9 = .ok (.if_icmp .lt 28, 3) := by decide +kernel
theorem dX10_sorted_12 : decode cX10_sorted 12 = .ok (.iload_n 1, 1) := by decide +kernel
theorem dX10_sorted_13 : decode cX10_sorted 13 = .ok (.iconst 1, 1) := by decide +kernel
theorem dX10_sorted_14 : decode cX10_sorted 14 = .ok (.aload_n 0, 1) := by decide +kernel
theorem dX10_sorted_15 : decode cX10_sorted 15 = .ok (.getfield 19, 3) := by decide +kernel
theorem dX10_sorted_18 : decode cX10_sorted 18 = .ok (.getfield 246, 3) := by decide +kernel
theorem dX10_sorted_21 : decode cX10_sorted 21 = .ok (.ishl, 1) := by decide +kernel
theorem dX10_sorted_22 : decode cX10_sorted 22 = .ok (.if_icmp .ge 15, 3) := by decide +kernel
theorem dX10_sorted_37 : decode cX10_sorted 37 = .ok (.iconst (-1), 1) := by decide +kernel
theorem dX10_sorted_38 : decode cX10_sorted 38 = .ok (.ireturn, 1) := by decide +kernel
theorem dX0_settle_0 : decode cX0_settle 0 = .ok (.aload_n 0, 1) := by decide +kernel
theorem dX0_settle_1 : decode cX0_settle 1 = .ok (.getfield 21, 3) := by decide +kernel
theorem dX0_settle_4 : decode cX0_settle 4 = .ok (.ifCond .eq 4, 3) := by decide +kernel
theorem dX0_settle_8 : decode cX0_settle 8 = .ok (.aload_n 0, 1) := by decide +kernel
theorem dX0_settle_9 : decode cX0_settle 9 = .ok (.iconst 1, 1) := by decide +kernel
theorem dX0_settle_10 : decode cX0_settle 10 = .ok (.putfield 21, 3) := by decide +kernel
theorem dX0_settle_13 : decode cX0_settle 13 = .ok (.aload_n 0, 1) := by decide +kernel
theorem dX0_settle_14 : decode cX0_settle 14 = .ok (.aload_n 1, 1) := by decide +kernel
theorem dX0_settle_15 : decode cX0_settle 15 = .ok (.getfield 25, 3) := by decide +kernel
theorem dX0_settle_18 : decode cX0_settle 18 = .ok (.putfield 31, 3) := by decide +kernel
theorem dX0_settle_21 : decode cX0_settle 21 = .ok (.iconst 1, 1) := by decide +kernel
theorem dX0_settle_22 : decode cX0_settle 22 = .ok (.aload_n 0, 1) := by decide +kernel
theorem dX0_settle_23 : decode cX0_settle 23 = .ok (.getfield 31, 3) := by decide +kernel
theorem dX0_settle_26 : decode cX0_settle 26 = .ok (.ishl, 1) := by decide +kernel
theorem dX0_settle_27 : decode cX0_settle 27 = .ok (.istore_n 2, 1) := by decide +kernel
theorem dX0_settle_28 : decode cX0_settle 28 = .ok (.aload_n 0, 1) := by decide +kernel
theorem dX0_settle_29 : decode cX0_settle 29 = .ok (.getfield 15, 3) := by decide +kernel
theorem dX0_settle_32 : decode cX0_settle 32 = .ok (.arraylength, 1) := by decide +kernel
theorem dX0_settle_33 : decode cX0_settle 33 = .ok (.iload_n 2, 1) := by decide +kernel
theorem dX0_settle_34 : decode cX0_settle 34 = .ok (.if_icmp .ge 29, 3) := by decide +kernel
theorem dX0_settle_37 : decode cX0_settle 37 = .ok (.aload_n 0, 1) := by decide +kernel
theorem dX0_settle_38 : decode cX0_settle 38 = .ok (.iload_n 2, 1) := by decide +kernel
theorem dX0_settle_39 : decode cX0_settle 39 = .ok (.newarray .int, 2) := by decide +kernel
theorem dX0_settle_41 : decode cX0_settle 41 = .ok (.putfield 15, 3) := by decide +kernel
theorem dX0_settle_44 : decode cX0_settle 44 = .ok (.aload_n 0, 1) := by decide +kernel
theorem dX0_settle_45 : decode cX0_settle 45 = .ok (.iload_n 2, 1) := by decide +kernel
theorem dX0_settle_46 : decode cX0_settle 46 = .ok (.newarray .int, 2) := by decide +kernel
theorem dX0_settle_48 : decode cX0_settle 48 = .ok (.putfield 18, 3) := by decide +kernel
theorem dX0_settle_51 : decode cX0_settle 51 = .ok (.aload_n 0, 1) := by decide +kernel
theorem dX0_settle_52 : decode cX0_settle 52 = .ok (.iload_n 2, 1) := by decide +kernel
theorem dX0_settle_53 : decode cX0_settle 53 = .ok (.aload_n 0, 1) := by decide +kernel
theorem dX0_settle_54 : decode cX0_settle 54 = .ok (.getfield 31, 3) := by decide +kernel
theorem dX0_settle_57 : decode cX0_settle 57 = .ok (.imul, 1) := by decide +kernel
theorem dX0_settle_58 : decode cX0_settle 58 = .ok (.newarray .int, 2) := by decide +kernel
theorem dX0_settle_60 : decode cX0_settle 60 = .ok (.putfield 9, 3) := by decide +kernel
theorem dX0_settle_63 : decode cX0_settle 63 = .ok (.iconst 1, 1) := by decide +kernel
theorem dX0_settle_64 : decode cX0_settle 64 = .ok (.istore_n 3, 1) := by decide +kernel
theorem dX0_settle_65 : decode cX0_settle 65 = .ok (.iload_n 3, 1) := by decide +kernel
theorem dX0_settle_66 : decode cX0_settle 66 = .ok (.iload_n 2, 1) := by decide +kernel
theorem dX0_settle_67 : decode cX0_settle 67 = .ok (.if_icmp .ge 15, 3) := by decide +kernel
theorem dX0_settle_82 : decode cX0_settle 82 = .ok (.return_, 1) := by decide +kernel
theorem dX0_fewestStacks_0 : decode cX0_fewestStacks 0 = .ok (.iconst 1, 1) := by decide +kernel
theorem dX0_fewestStacks_1 : decode cX0_fewestStacks 1 = .ok (.aload_n 0, 1) := by decide +kernel
theorem dX0_fewestStacks_2 : decode cX0_fewestStacks 2 = .ok (.getfield 31, 3) := by decide +kernel
theorem dX0_fewestStacks_5 : decode cX0_fewestStacks 5 = .ok (.ishl, 1) := by decide +kernel
theorem dX0_fewestStacks_6 : decode cX0_fewestStacks 6 = .ok (.iconst 1, 1) := by decide +kernel
theorem dX0_fewestStacks_7 : decode cX0_fewestStacks 7 = .ok (.isub, 1) := by decide +kernel
theorem dX0_fewestStacks_8 : decode cX0_fewestStacks 8 = .ok (.istore_n 2, 1) := by decide +kernel
theorem dX0_fewestStacks_9 : decode cX0_fewestStacks 9 = .ok (.aload_n 0, 1) := by decide +kernel
theorem dX0_fewestStacks_10 : decode cX0_fewestStacks 10 = .ok (.getfield 18, 3) := by decide +kernel
theorem dX0_fewestStacks_13 : decode cX0_fewestStacks 13 = .ok (.iconst 0, 1) := by decide +kernel
theorem dX0_fewestStacks_14 : decode cX0_fewestStacks 14 = .ok (.iconst 0, 1) := by decide +kernel
theorem dX0_fewestStacks_15 : decode cX0_fewestStacks 15 = .ok (.iastore, 1) := by decide +kernel
theorem dX0_fewestStacks_16 : decode cX0_fewestStacks 16 = .ok (.iconst 1, 1) := by decide +kernel
theorem dX0_fewestStacks_17 : decode cX0_fewestStacks 17 = .ok (.istore_n 3, 1) := by decide +kernel
theorem dX0_fewestStacks_18 : decode cX0_fewestStacks 18 = .ok (.iload_n 3, 1) := by decide +kernel
theorem dX0_fewestStacks_19 : decode cX0_fewestStacks 19 = .ok (.iload_n 2, 1) := by decide +kernel
theorem dX0_fewestStacks_20 : decode cX0_fewestStacks 20 = .ok (.if_icmp .gt 32, 3) := by decide +kernel
theorem dX0_fewestStacks_52 : decode cX0_fewestStacks 52 = .ok (.aload_n 0, 1) := by decide +kernel
theorem dX0_fewestStacks_53 : decode cX0_fewestStacks 53 = .ok (.getfield 18, 3) := by decide +kernel
theorem dX0_fewestStacks_56 : decode cX0_fewestStacks 56 = .ok (.iload_n 2, 1) := by decide +kernel
theorem dX0_fewestStacks_57 : decode cX0_fewestStacks 57 = .ok (.iaload, 1) := by decide +kernel
theorem dX0_fewestStacks_58 : decode cX0_fewestStacks 58 = .ok (.ireturn, 1) := by decide +kernel
theorem dX10_needed_0 : decode cX10_needed 0 = .ok (.iload_n 1, 1) := by decide +kernel
theorem dX10_needed_1 : decode cX10_needed 1 = .ok (.invokestatic 243, 3) := by decide +kernel
theorem dX10_needed_4 : decode cX10_needed 4 = .ok (.ifCond .ne 5, 3) := by decide +kernel
theorem dX10_needed_7 : decode cX10_needed 7 = .ok (.iconst (-1), 1) := by decide +kernel
theorem dX10_needed_8 : decode cX10_needed 8 = .ok (.ireturn, 1) := by decide +kernel
theorem dX10_needed_9 : decode cX10_needed 9 = .ok (.iconst 0, 1) := by decide +kernel
theorem dX10_needed_10 : decode cX10_needed 10 = .ok (.istore_n 2, 1) := by decide +kernel
theorem dX10_needed_11 : decode cX10_needed 11 = .ok (.iload_n 2, 1) := by decide +kernel
theorem dX10_needed_12 : decode cX10_needed 12 = .ok (.aload_n 0, 1) := by decide +kernel
theorem dX10_needed_13 : decode cX10_needed 13 = .ok (.getfield 19, 3) := by decide +kernel
theorem dX10_needed_16 : decode cX10_needed 16 = .ok (.getfield 246, 3) := by decide +kernel
theorem dX10_needed_19 : decode cX10_needed 19 = .ok (.if_icmp .ge 24, 3) := by decide +kernel
theorem dX10_needed_43 : decode cX10_needed 43 = .ok (.aload_n 0, 1) := by decide +kernel
theorem dX10_needed_44 : decode cX10_needed 44 = .ok (.getfield 54, 3) := by decide +kernel
theorem dX10_needed_47 : decode cX10_needed 47 = .ok (.aload_n 0, 1) := by decide +kernel
theorem dX10_needed_48 : decode cX10_needed 48 = .ok (.getfield 19, 3) := by decide +kernel
theorem dX10_needed_51 : decode cX10_needed 51 = .ok (.invokevirtual 249, 3) := by decide +kernel
theorem dX10_needed_54 : decode cX10_needed 54 = .ok (.aload_n 0, 1) := by decide +kernel
theorem dX10_needed_55 : decode cX10_needed 55 = .ok (.getfield 54, 3) := by decide +kernel
theorem dX10_needed_58 : decode cX10_needed 58 = .ok (.iload_n 1, 1) := by decide +kernel
theorem dX10_needed_59 : decode cX10_needed 59 = .ok (.invokevirtual 251, 3) := by decide +kernel
theorem dX10_needed_62 : decode cX10_needed 62 = .ok (.ireturn, 1) := by decide +kernel
set_option maxHeartbeats 4000000 in
set_option maxRecDepth 100000 in
theorem c_X3_isRound (l : Launch) (D : va_G) (cyC cyI cyJ cyZ cyO : ClassId) (t45 : Nat) (t46 : Nat) (t47 : Nat) (t48 : Nat) (t49 : Nat) : KK l D (TY cyC cyI cyJ cyZ cyO) yX3_isRound cX3_isRound 2 (some .boolean) ({ frames := 0, cells := 0, slots := 0, locals := 0 } : Room) 0 0 [.ref t45] [(t45, .inr (3, [.int 0, .ref t46, .ref t47, .int 0, .int 0, .int 0, .ref t48, .ref t49]))] (fun u => some (.int 0)) (fun u => True) (fun u => [(t45, .inr (3, [.int 0, .ref t46, .ref t47, .int 0, .int 0, .int 0, .ref t48, .ref t49]))]) := by
  refine KK.of (lv0 := [(0, .ref t45)]) (by decide) rfl (Nat.le_of_ble_eq_true rfl) ?_
  intro p e s m args below meth c A C hr hk hin
  refine j_iconst (pc := 0) (v := 0) C dX3_isRound_0 (by decide) ?_
  refine j_istore_n (pc := 1) (lv' := [(1, .int 0), (0, .ref t45)]) C dX3_isRound_1 rfl (by decide) rfl ?_
  refine j_iload_n (pc := 2) C dX3_isRound_2 rfl 0 rfl ?_
  refine j_aload_n (pc := 3) C dX3_isRound_3 rfl 1 rfl ?_
  refine j_get (pc := 4) (ci := 3) (v := .int 0) C inw_3 0 rfl rfl 0 (by decide) wd_233 rfl rfl dX3_isRound_4 ?_
  refine j_icmp_ge_t (pc := 7) (tgt := 32) C dX3_isRound_7 (by decide) (by decide) ?_
  refine j_iconst (pc := 32) (v := 0) C dX3_isRound_32 (by decide) ?_
  exact j_zret (pc := 33) C hr rfl hk (fun i => [].getD i 0, fun _ => 0, fun _ _ => 0) rfl trivial [0] (by decide) rfl (by decide) (by decide) dX3_isRound_33
set_option maxHeartbeats 4000000 in
set_option maxRecDepth 100000 in
theorem c_X3_findKin (l : Launch) (D : va_G) (cyC cyI cyJ cyZ cyO : ClassId) (t45 : Nat) (t46 : Nat) (t47 : Nat) (t48 : Nat) (t49 : Nat) : KK l D (TY cyC cyI cyJ cyZ cyO) yX3_findKin cX3_findKin 3 none ({ frames := 1, cells := 0, slots := 0, locals := 18 } : Room) 0 0 [.ref t45] [(t45, .inr (3, [.int 0, .ref t46, .ref t47, .int 1, .int 0, .int 0, .ref t48, .ref t49])), (t46, .inl (cyI, 12, .inl (fun _ => 0))), (t47, .inl (cyI, 12, .inl (fun _ => 0)))] (fun u => none) (fun u => True) (fun u => [(t45, .inr (3, [.int 0, .ref t46, .ref t47, .int 1, .int 0, .int 0, .ref t48, .ref t49])), (t46, .inl (cyI, 12, .inl (fun _ => 0))), (t47, .inl (cyI, 12, .inl (va_cpy (fun _ => 0) (fun _ => 0) 0 0 12)))]) := by
  refine KK.of (lv0 := [(0, .ref t45)]) (by decide) rfl (Nat.le_of_ble_eq_true rfl) ?_
  intro p e s m args below meth c A C hr hk hin
  refine j_aload_n (pc := 0) C dX3_findKin_0 rfl 0 rfl ?_
  refine j_get (pc := 1) (ci := 3) (v := .ref t46) C inw_3 0 rfl rfl 1 (by decide) wd_55 rfl rfl dX3_findKin_1 ?_
  refine j_iconst (pc := 4) (v := 0) C dX3_findKin_4 (by decide) ?_
  refine j_aload_n (pc := 5) C dX3_findKin_5 rfl 0 rfl ?_
  refine j_get (pc := 6) (ci := 3) (v := .ref t47) C inw_3 0 rfl rfl 2 (by decide) wd_56 rfl rfl dX3_findKin_6 ?_
  refine j_iconst (pc := 9) (v := 0) C dX3_findKin_9 (by decide) ?_
  refine j_bipush (pc := 10) (v := 12) C dX3_findKin_10 (by decide) ?_
  refine j_acpy (pc := 12) (ks := 0) (kd := 0) (kn := 12) (ws' := [(t45, .inr (3, [.int 0, .ref t46, .ref t47, .int 1, .int 0, .int 0, .ref t48, .ref t49])), (t46, .inl (cyI, 12, .inl (fun _ => 0))), (t47, .inl (cyI, 12, .inl (va_cpy (fun _ => 0) (fun _ => 0) 0 0 12)))]) C wd_236 wd_237 wd_238 wd_239 1 2 1 rfl rfl rfl (by decide) (by decide) (by decide) (by decide) (by decide) (by decide) (by decide) (by decide) (by decide) (Nat.le_of_ble_eq_true rfl) dX3_findKin_12 rfl ?_
  refine j_iconst (pc := 15) (v := 0) C dX3_findKin_15 (by decide) ?_
  refine j_istore_n (pc := 16) (lv' := [(1, .int 0), (0, .ref t45)]) C dX3_findKin_16 rfl (by decide) rfl ?_
  refine j_iload_n (pc := 17) C dX3_findKin_17 rfl 0 rfl ?_
  refine j_aload_n (pc := 18) C dX3_findKin_18 rfl 1 rfl ?_
  refine j_get (pc := 19) (ci := 3) (v := .int 0) C inw_3 0 rfl rfl 0 (by decide) wd_233 rfl rfl dX3_findKin_19 ?_
  refine j_icmp_ge_t (pc := 22) (tgt := 68) C dX3_findKin_22 (by decide) (by decide) ?_
  exact j_vret (pc := 68) C hr hk (fun i => [].getD i 0, fun _ => 0, fun _ _ => 0) rfl trivial [0, 1, 2] (by decide) rfl (by decide) (by decide) dX3_findKin_68
set_option maxHeartbeats 4000000 in
set_option maxRecDepth 100000 in
theorem c_X3_findApart (l : Launch) (D : va_G) (cyC cyI cyJ cyZ cyO : ClassId) (t45 : Nat) (t46 : Nat) (t47 : Nat) (t48 : Nat) (t49 : Nat) : KK l D (TY cyC cyI cyJ cyZ cyO) yX3_findApart cX3_findApart 3 none ({ frames := 0, cells := 0, slots := 0, locals := 0 } : Room) 0 0 [.ref t45] [(t45, .inr (3, [.int 0, .ref t46, .ref t47, .int 1, .int 0, .int 0, .ref t48, .ref t49]))] (fun u => none) (fun u => True) (fun u => [(t45, .inr (3, [.int 0, .ref t46, .ref t47, .int 1, .int 0, .int 0, .ref t48, .ref t49]))]) := by
  refine KK.of (lv0 := [(0, .ref t45)]) (by decide) rfl (Nat.le_of_ble_eq_true rfl) ?_
  intro p e s m args below meth c A C hr hk hin
  refine j_aload_n (pc := 0) C dX3_findApart_0 rfl 0 rfl ?_
  refine j_iconst (pc := 1) (v := 0) C dX3_findApart_1 (by decide) ?_
  refine j_put (pc := 2) (ci := 3) (v := .int 0) (ws' := [(t45, .inr (3, [.int 0, .ref t46, .ref t47, .int 1, .int 0, .int 0, .ref t48, .ref t49]))]) C inw_3 0 rfl rfl 4 (by decide) wd_258 rfl tyX3_ok nmX3 rfl (tyX3_ok 4 (by decide)) rfl rfl (Nat.le_of_ble_eq_true rfl) dX3_findApart_2 rfl ?_
  refine j_aload_n (pc := 5) C dX3_findApart_5 rfl 0 rfl ?_
  refine j_iconst (pc := 6) (v := 0) C dX3_findApart_6 (by decide) ?_
  refine j_put (pc := 7) (ci := 3) (v := .int 0) (ws' := [(t45, .inr (3, [.int 0, .ref t46, .ref t47, .int 1, .int 0, .int 0, .ref t48, .ref t49]))]) C inw_3 0 rfl rfl 5 (by decide) wd_259 rfl tyX3_ok nmX3 rfl (tyX3_ok 5 (by decide)) rfl rfl (Nat.le_of_ble_eq_true rfl) dX3_findApart_7 rfl ?_
  refine j_iconst (pc := 10) (v := 1) C dX3_findApart_10 (by decide) ?_
  refine j_istore_n (pc := 11) (lv' := [(1, .int 1), (0, .ref t45)]) C dX3_findApart_11 rfl (by decide) rfl ?_
  refine j_iload_n (pc := 12) C dX3_findApart_12 rfl 0 rfl ?_
  refine j_iconst (pc := 13) (v := 1) C dX3_findApart_13 (by decide) ?_
  refine j_aload_n (pc := 14) C dX3_findApart_14 rfl 1 rfl ?_
  refine j_get (pc := 15) (ci := 3) (v := .int 0) C inw_3 0 rfl rfl 0 (by decide) wd_233 rfl rfl dX3_findApart_15 ?_
  refine j_ishl (pc := 18) (v := 1) C dX3_findApart_18 (by decide) ?_
  refine j_icmp_ge_t (pc := 19) (tgt := 59) C dX3_findApart_19 (by decide) (by decide) ?_
  exact j_vret (pc := 59) C hr hk (fun i => [].getD i 0, fun _ => 0, fun _ _ => 0) rfl trivial [0] (by decide) rfl (by decide) (by decide) dX3_findApart_59
set_option maxHeartbeats 4000000 in
set_option maxRecDepth 100000 in
theorem c_X3_give (l : Launch) (D : va_G) (cyC cyI cyJ cyZ cyO : ClassId) (t45 : Nat) (t46 : Nat) (t47 : Nat) (t48 : Nat) (t49 : Nat) : KK l D (TY cyC cyI cyJ cyZ cyO) yX3_give cX3_give 4 (some .boolean) ({ frames := 0, cells := 0, slots := 0, locals := 0 } : Room) 0 0 [.ref t45, .int 0, .int 0] [(t45, .inr (3, [.int 0, .ref t46, .ref t47, .int 1, .int 0, .int 0, .ref t48, .ref t49]))] (fun u => some (.int 1)) (fun u => True) (fun u => [(t45, .inr (3, [.int 0, .ref t46, .ref t47, .int 1, .int 0, .int 0, .ref t48, .ref t49]))]) := by
  refine KK.of (lv0 := [(0, .ref t45), (1, .int 0), (2, .int 0)]) (by decide) rfl (Nat.le_of_ble_eq_true rfl) ?_
  intro p e s m args below meth c A C hr hk hin
  refine j_iload_n (pc := 0) C dX3_give_0 rfl 1 rfl ?_
  refine j_aload_n (pc := 1) C dX3_give_1 rfl 0 rfl ?_
  refine j_get (pc := 2) (ci := 3) (v := .int 0) C inw_3 0 rfl rfl 0 (by decide) wd_233 rfl rfl dX3_give_2 ?_
  refine j_icmp_lt_f (pc := 5) (tgt := 10) C dX3_give_5 (by decide) (by decide) ?_
  refine j_iconst (pc := 8) (v := 1) C dX3_give_8 (by decide) ?_
  exact j_zret (pc := 9) C hr rfl hk (fun i => [].getD i 0, fun _ => 0, fun _ _ => 0) rfl trivial [0] (by decide) rfl (by decide) (by decide) dX3_give_9
set_option maxHeartbeats 4000000 in
set_option maxRecDepth 100000 in
theorem c_X3_settle (l : Launch) (D : va_G) (cyC cyI cyJ cyZ cyO : ClassId) (t45 : Nat) (t46 : Nat) (t47 : Nat) (t48 : Nat) (t49 : Nat) : KK l D (TY cyC cyI cyJ cyZ cyO) yX3_settle cX3_settle 1 none ({ frames := 2, cells := 0, slots := 0, locals := 40 } : Room) 0 0 [.ref t45] [(t45, .inr (3, [.int 0, .ref t46, .ref t47, .int 0, .int 0, .int 0, .ref t48, .ref t49])), (t46, .inl (cyI, 12, .inl (fun _ => 0))), (t47, .inl (cyI, 12, .inl (fun _ => 0))), (t49, .inl (cyI, 12, .inl (fun _ => 0)))] (fun u => none) (fun u => True) (fun u => [(t45, .inr (3, [.int 0, .ref t46, .ref t47, .int 1, .int 0, .int 0, .ref t48, .ref t49])), (t46, .inl (cyI, 12, .inl (fun _ => 0))), (t47, .inl (cyI, 12, .inl (va_cpy (fun _ => 0) (fun _ => 0) 0 0 12))), (t49, .inl (cyI, 12, .inl (fun _ => 0)))]) := by
  refine KK.of (lv0 := [(0, .ref t45)]) (by decide) rfl (Nat.le_of_ble_eq_true rfl) ?_
  intro p e s m args below meth c A C hr hk hin
  refine j_aload_n (pc := 0) C dX3_settle_0 rfl 0 rfl ?_
  refine j_get (pc := 1) (ci := 3) (v := .int 0) C inw_3 0 rfl rfl 3 (by decide) wd_234 rfl rfl dX3_settle_1 ?_
  refine j_if_eq_t (pc := 4) (tgt := 8) C dX3_settle_4 (by decide) (by decide) ?_
  refine j_aload_n (pc := 8) C dX3_settle_8 rfl 0 rfl ?_
  refine j_iconst (pc := 9) (v := 1) C dX3_settle_9 (by decide) ?_
  refine j_put (pc := 10) (ci := 3) (v := .int 1) (ws' := [(t45, .inr (3, [.int 0, .ref t46, .ref t47, .int 1, .int 0, .int 0, .ref t48, .ref t49])), (t46, .inl (cyI, 12, .inl (fun _ => 0))), (t47, .inl (cyI, 12, .inl (fun _ => 0))), (t49, .inl (cyI, 12, .inl (fun _ => 0)))]) C inw_3 0 rfl rfl 3 (by decide) wd_234 rfl tyX3_ok nmX3 rfl (tyX3_ok 3 (by decide)) rfl rfl (Nat.le_of_ble_eq_true rfl) dX3_settle_10 rfl ?_
  refine j_aload_n (pc := 13) C dX3_settle_13 rfl 0 rfl ?_
  refine j_callV (pc := 14) (As := []) (rest := []) (wr := [(t49, .inl (cyI, 12, .inl (fun _ => 0)))]) C (c_X3_findKin l D cyC cyI cyJ cyZ cyO t45 t46 t47 t48 t49) wd_260 wd_95 wd_261 wd_262 wd_263 ⟨by decide, by decide, rfl⟩ rfl ⟨rfl, rfl, by decide, by decide⟩ ⟨by decide, by decide⟩ [0, 1, 2] [3] rfl rfl ⟨by decide, by decide, by decide⟩ 0 rfl rfl rfl (Nat.le_of_ble_eq_true rfl) dX3_settle_14 (fun u_1 hw_2 => ?_)
  refine j_eq (ws2 := [(t49, .inl (cyI, 12, .inl (fun _ => 0))), (t45, .inr (3, [.int 0, .ref t46, .ref t47, .int 1, .int 0, .int 0, .ref t48, .ref t49])), (t46, .inl (cyI, 12, .inl (fun _ => 0))), (t47, .inl (cyI, 12, .inl (va_cpy (fun _ => 0) (fun _ => 0) 0 0 12)))]) (pc2 := 17) (lv2 := [(0, .ref t45)]) (st2 := []) rfl rfl rfl rfl ?_
  refine j_aload_n (pc := 17) C dX3_settle_17 rfl 0 rfl ?_
  refine j_callV (pc := 18) (As := []) (rest := []) (wr := [(t49, .inl (cyI, 12, .inl (fun _ => 0))), (t46, .inl (cyI, 12, .inl (fun _ => 0))), (t47, .inl (cyI, 12, .inl (va_cpy (fun _ => 0) (fun _ => 0) 0 0 12)))]) C (c_X3_findApart l D cyC cyI cyJ cyZ cyO t45 t46 t47 t48 t49) wd_264 wd_95 wd_265 wd_266 wd_267 ⟨by decide, by decide, rfl⟩ rfl ⟨rfl, rfl, by decide, by decide⟩ ⟨by decide, by decide⟩ [1] [0, 2, 3] rfl rfl ⟨by decide, by decide, by decide⟩ 1 rfl rfl rfl (Nat.le_of_ble_eq_true rfl) dX3_settle_18 (fun u_3 hw_4 => ?_)
  refine j_eq (ws2 := [(t49, .inl (cyI, 12, .inl (fun _ => 0))), (t46, .inl (cyI, 12, .inl (fun _ => 0))), (t47, .inl (cyI, 12, .inl (va_cpy (fun _ => 0) (fun _ => 0) 0 0 12))), (t45, .inr (3, [.int 0, .ref t46, .ref t47, .int 1, .int 0, .int 0, .ref t48, .ref t49]))]) (pc2 := 21) (lv2 := [(0, .ref t45)]) (st2 := []) rfl rfl rfl rfl ?_
  refine j_aload_n (pc := 21) C dX3_settle_21 rfl 0 rfl ?_
  refine j_get (pc := 22) (ci := 3) (v := .ref t49) C inw_3 3 rfl rfl 7 (by decide) wd_58 rfl rfl dX3_settle_22 ?_
  refine j_iconst (pc := 25) (v := 0) C dX3_settle_25 (by decide) ?_
  refine j_callS (pc := 26) (As := [.ref t49, .int 0]) (rest := []) (wr := [(t46, .inl (cyI, 12, .inl (fun _ => 0))), (t47, .inl (cyI, 12, .inl (va_cpy (fun _ => 0) (fun _ => 0) 0 0 12))), (t45, .inr (3, [.int 0, .ref t46, .ref t47, .int 1, .int 0, .int 0, .ref t48, .ref t49]))]) C (c_fill l D cyC cyI cyJ cyZ cyO t49 0 (fun _ => 0)) wd_48 wd_49 wd_268 wd_51 ⟨by decide, by decide, rfl⟩ rfl ⟨rfl, rfl, by decide, by decide⟩ ⟨by decide, by decide⟩ [0] [1, 2, 3] rfl rfl ⟨by decide, by decide, by decide⟩ rfl (Nat.le_of_ble_eq_true rfl) dX3_settle_26 (fun u_5 hw_6 => ?_)
  refine j_eq (ws2 := [(t46, .inl (cyI, 12, .inl (fun _ => 0))), (t47, .inl (cyI, 12, .inl (va_cpy (fun _ => 0) (fun _ => 0) 0 0 12))), (t45, .inr (3, [.int 0, .ref t46, .ref t47, .int 1, .int 0, .int 0, .ref t48, .ref t49])), (t49, .inl (cyI, 12, .inl (fun _ => 0)))]) (pc2 := 29) (lv2 := [(0, .ref t45)]) (st2 := []) rfl rfl rfl rfl ?_
  refine j_aload_n (pc := 29) C dX3_settle_29 rfl 0 rfl ?_
  refine j_iconst (pc := 30) (v := 0) C dX3_settle_30 (by decide) ?_
  refine j_iconst (pc := 31) (v := 0) C dX3_settle_31 (by decide) ?_
  refine j_callV (pc := 32) (As := [.int 0, .int 0]) (rest := []) (wr := [(t46, .inl (cyI, 12, .inl (fun _ => 0))), (t47, .inl (cyI, 12, .inl (va_cpy (fun _ => 0) (fun _ => 0) 0 0 12))), (t49, .inl (cyI, 12, .inl (fun _ => 0)))]) C (c_X3_give l D cyC cyI cyJ cyZ cyO t45 t46 t47 t48 t49) wd_269 wd_95 wd_270 wd_271 wd_272 ⟨by decide, by decide, rfl⟩ rfl ⟨rfl, rfl, by decide, by decide⟩ ⟨by decide, by decide⟩ [2] [0, 1, 3] rfl rfl ⟨by decide, by decide, by decide⟩ 2 rfl rfl rfl (Nat.le_of_ble_eq_true rfl) dX3_settle_32 (fun u_7 hw_8 => ?_)
  refine j_eq (ws2 := [(t46, .inl (cyI, 12, .inl (fun _ => 0))), (t47, .inl (cyI, 12, .inl (va_cpy (fun _ => 0) (fun _ => 0) 0 0 12))), (t49, .inl (cyI, 12, .inl (fun _ => 0))), (t45, .inr (3, [.int 0, .ref t46, .ref t47, .int 1, .int 0, .int 0, .ref t48, .ref t49]))]) (pc2 := 35) (lv2 := [(0, .ref t45)]) (st2 := [.int 1]) rfl rfl rfl rfl ?_
  refine j_pop (pc := 35) C dX3_settle_35 rfl ?_
  exact j_vret (pc := 36) C hr hk (fun i => [].getD i 0, fun _ => 0, fun _ _ => 0) rfl trivial [3, 0, 1, 2] (by decide) rfl (by decide) (by decide) dX3_settle_36
set_option maxHeartbeats 4000000 in
set_option maxRecDepth 100000 in
theorem c_X10_rows (l : Launch) (D : va_G) (cyC cyI cyJ cyZ cyO : ClassId) (p0 : Int32) (t0 : Nat) (t1 : Nat) (t21 : Nat) (t32 : Nat) (t37 : Nat) (t42 : Nat) (t43 : Nat) (t45 : Nat) (t50 : Nat) (t54 : Nat) (t58 : Nat) (t46 : Nat) (t47 : Nat) (t48 : Nat) (t49 : Nat) : KK l D (TY cyC cyI cyJ cyZ cyO) yX10_rows cX10_rows 2 (some .int) ({ frames := 3, cells := 0, slots := 0, locals := 60 } : Room) 0 0 [.ref t0, .int p0] [(t0, .inr (10, [.ref t1, .ref t21, .ref t32, .ref t37, .ref t42, .ref t43, .ref t45, .ref t50, .ref t54, .ref t58])), (t45, .inr (3, [.int 0, .ref t46, .ref t47, .int 0, .int 0, .int 0, .ref t48, .ref t49])), (t46, .inl (cyI, 12, .inl (fun _ => 0))), (t47, .inl (cyI, 12, .inl (fun _ => 0))), (t49, .inl (cyI, 12, .inl (fun _ => 0)))] (fun u => some (.int (u.2.1 0))) (fun u => u.2.1 0 = (if 0 ≤ p0 ∧ p0 ≤ 1 then 0 else -1)) (fun u => []) := by
  refine KK.of (lv0 := [(0, .ref t0), (1, .int p0)]) (by decide) rfl (Nat.le_of_ble_eq_true rfl) ?_
  intro p e s m args below meth c A C hr hk hin
  refine j_aload_n (pc := 0) C dX10_rows_0 rfl 0 rfl ?_
  refine j_get (pc := 1) (ci := 10) (v := .ref t45) C inw_10 0 rfl rfl 6 (by decide) wd_98 rfl rfl dX10_rows_1 ?_
  refine j_callV (pc := 4) (As := []) (rest := []) (wr := [(t0, .inr (10, [.ref t1, .ref t21, .ref t32, .ref t37, .ref t42, .ref t43, .ref t45, .ref t50, .ref t54, .ref t58])), (t46, .inl (cyI, 12, .inl (fun _ => 0))), (t47, .inl (cyI, 12, .inl (fun _ => 0))), (t49, .inl (cyI, 12, .inl (fun _ => 0)))]) C (c_X3_isRound l D cyC cyI cyJ cyZ cyO t45 t46 t47 t48 t49) wd_273 wd_95 wd_274 wd_275 wd_276 ⟨by decide, by decide, rfl⟩ rfl ⟨rfl, rfl, by decide, by decide⟩ ⟨by decide, by decide⟩ [1] [0, 2, 3, 4] rfl rfl ⟨by decide, by decide, by decide⟩ 1 rfl rfl rfl (Nat.le_of_ble_eq_true rfl) dX10_rows_4 (fun u_1 hw_2 => ?_)
  refine j_eq (ws2 := [(t0, .inr (10, [.ref t1, .ref t21, .ref t32, .ref t37, .ref t42, .ref t43, .ref t45, .ref t50, .ref t54, .ref t58])), (t46, .inl (cyI, 12, .inl (fun _ => 0))), (t47, .inl (cyI, 12, .inl (fun _ => 0))), (t49, .inl (cyI, 12, .inl (fun _ => 0))), (t45, .inr (3, [.int 0, .ref t46, .ref t47, .int 0, .int 0, .int 0, .ref t48, .ref t49]))]) (pc2 := 7) (lv2 := [(0, .ref t0), (1, .int p0)]) (st2 := [.int 0]) rfl rfl rfl rfl ?_
  refine j_if_eq_t (pc := 7) (tgt := 12) C dX10_rows_7 (by decide) (by decide) ?_
  refine j_aload_n (pc := 12) C dX10_rows_12 rfl 0 rfl ?_
  refine j_get (pc := 13) (ci := 10) (v := .ref t45) C inw_10 0 rfl rfl 6 (by decide) wd_98 rfl rfl dX10_rows_13 ?_
  refine j_callV (pc := 16) (As := []) (rest := []) (wr := [(t0, .inr (10, [.ref t1, .ref t21, .ref t32, .ref t37, .ref t42, .ref t43, .ref t45, .ref t50, .ref t54, .ref t58]))]) C (c_X3_settle l D cyC cyI cyJ cyZ cyO t45 t46 t47 t48 t49) wd_277 wd_95 wd_278 wd_279 wd_280 ⟨by decide, by decide, rfl⟩ rfl ⟨rfl, rfl, by decide, by decide⟩ ⟨by decide, by decide⟩ [4, 1, 2, 3] [0] rfl rfl ⟨by decide, by decide, by decide⟩ 4 rfl rfl rfl (Nat.le_of_ble_eq_true rfl) dX10_rows_16 (fun u_3 hw_4 => ?_)
  refine j_eq (ws2 := [(t0, .inr (10, [.ref t1, .ref t21, .ref t32, .ref t37, .ref t42, .ref t43, .ref t45, .ref t50, .ref t54, .ref t58])), (t45, .inr (3, [.int 0, .ref t46, .ref t47, .int 1, .int 0, .int 0, .ref t48, .ref t49])), (t46, .inl (cyI, 12, .inl (fun _ => 0))), (t47, .inl (cyI, 12, .inl (va_cpy (fun _ => 0) (fun _ => 0) 0 0 12))), (t49, .inl (cyI, 12, .inl (fun _ => 0)))]) (pc2 := 19) (lv2 := [(0, .ref t0), (1, .int p0)]) (st2 := []) rfl rfl rfl rfl ?_
  refine j_iload_n (pc := 19) C dX10_rows_19 rfl 1 rfl ?_
  rcases sw_2 p0 with sw_5 | sw_5 | sw_5
  · skip
    refine j_lk (pc := 20) (off := 44) (tgt := 64) C dX10_rows_20 (by decide) (by show Op.lookupswitch.offset [(0, 28), (1, 36)] 44 _ = 44; rw [Op.lookupswitch.offset_cons, if_neg (by omega), Op.lookupswitch.offset_cons, if_neg (by omega), Op.lookupswitch.offset_nil]) (by decide) ?_
    refine j_iconst (pc := 64) (v := (-1)) C dX10_rows_64 (by decide) ?_
    exact j_iret (pc := 65) C hr hk (fun _ => 0, fun _ => (-1), fun _ _ => 0) rfl (by show ((-1) : Int32) = (if 0 ≤ p0 ∧ p0 ≤ 1 then 0 else -1); have e0 : (0 : Int32).toInt = 0 := rfl; have e1 : (1 : Int32).toInt = 1 := rfl; exact if hE : 0 ≤ p0 ∧ p0 ≤ 1 then (by first | exact (if_pos hE).symm | (exfalso; simp only [i_lt, i_le, i_eq] at hE sw_5; omega)) else (by first | exact (if_neg hE).symm | (exfalso; simp only [i_lt, i_le, i_eq] at hE sw_5; omega))) [] (by decide) rfl (by decide) (by decide) dX10_rows_65
  · skip
    refine j_lk (pc := 20) (off := 28) (tgt := 48) C dX10_rows_20 (by decide) (by rw [sw_5]; decide) (by decide) ?_
    refine j_aload_n (pc := 48) C dX10_rows_48 rfl 0 rfl ?_
    refine j_get (pc := 49) (ci := 10) (v := .ref t45) C inw_10 0 rfl rfl 6 (by decide) wd_98 rfl rfl dX10_rows_49 ?_
    refine j_get (pc := 52) (ci := 3) (v := .int 0) C inw_3 1 rfl rfl 4 (by decide) wd_281 rfl rfl dX10_rows_52 ?_
    exact j_iret (pc := 55) C hr hk (fun _ => 0, fun _ => 0, fun _ _ => 0) rfl (by show (0 : Int32) = (if 0 ≤ p0 ∧ p0 ≤ 1 then 0 else -1); have e0 : (0 : Int32).toInt = 0 := rfl; have e1 : (1 : Int32).toInt = 1 := rfl; exact if hE : 0 ≤ p0 ∧ p0 ≤ 1 then (by first | exact (if_pos hE).symm | (exfalso; simp only [i_lt, i_le, i_eq] at hE sw_5; omega)) else (by first | exact (if_neg hE).symm | (exfalso; simp only [i_lt, i_le, i_eq] at hE sw_5; omega))) [] (by decide) rfl (by decide) (by decide) dX10_rows_55
  · skip
    refine j_lk (pc := 20) (off := 36) (tgt := 56) C dX10_rows_20 (by decide) (by rw [sw_5]; decide) (by decide) ?_
    refine j_aload_n (pc := 56) C dX10_rows_56 rfl 0 rfl ?_
    refine j_get (pc := 57) (ci := 10) (v := .ref t45) C inw_10 0 rfl rfl 6 (by decide) wd_98 rfl rfl dX10_rows_57 ?_
    refine j_get (pc := 60) (ci := 3) (v := .int 0) C inw_3 1 rfl rfl 5 (by decide) wd_282 rfl rfl dX10_rows_60 ?_
    exact j_iret (pc := 63) C hr hk (fun _ => 0, fun _ => 0, fun _ _ => 0) rfl (by show (0 : Int32) = (if 0 ≤ p0 ∧ p0 ≤ 1 then 0 else -1); have e0 : (0 : Int32).toInt = 0 := rfl; have e1 : (1 : Int32).toInt = 1 := rfl; exact if hE : 0 ≤ p0 ∧ p0 ≤ 1 then (by first | exact (if_pos hE).symm | (exfalso; simp only [i_lt, i_le, i_eq] at hE sw_5; omega)) else (by first | exact (if_neg hE).symm | (exfalso; simp only [i_lt, i_le, i_eq] at hE sw_5; omega))) [] (by decide) rfl (by decide) (by decide) dX10_rows_63
set_option maxHeartbeats 4000000 in
set_option maxRecDepth 100000 in
theorem c_X10_isHeight (l : Launch) (D : va_G) (cyC cyI cyJ cyZ cyO : ClassId) (p0 : Int32) : KK l D (TY cyC cyI cyJ cyZ cyO) yX10_isHeight cX10_isHeight 1 (some .boolean) ({ frames := 0, cells := 0, slots := 0, locals := 0 } : Room) 0 0 [.int p0] [] (fun u => some (.int (u.2.1 0))) (fun u => u.2.1 0 = (if 1 ≤ p0 ∧ p0 ≤ 999 then 1 else 0)) (fun u => []) := by
  refine KK.of (lv0 := [(0, .int p0)]) (by decide) rfl (Nat.le_of_ble_eq_true rfl) ?_
  intro p e s m args below meth c A C hr hk hin
  refine j_iload_n (pc := 0) C dX10_isHeight_0 rfl 0 rfl ?_
  refine j_iconst (pc := 1) (v := 1) C dX10_isHeight_1 (by decide) ?_
  refine j_icmp_lt (pc := 2) (tgt := 16) C dX10_isHeight_2 (by decide) (fun c_1 => ?_) (fun c_1 => ?_)
  · skip
    refine j_iconst (pc := 16) (v := 0) C dX10_isHeight_16 (by decide) ?_
    exact j_zret (pc := 17) C hr rfl hk (fun _ => 0, fun _ => 0, fun _ _ => 0) rfl (by show (0 : Int32) = (if 1 ≤ p0 ∧ p0 ≤ 999 then 1 else 0); have e1 : (1 : Int32).toInt = 1 := rfl; have e999 : (999 : Int32).toInt = 999 := rfl; exact if hE : 1 ≤ p0 ∧ p0 ≤ 999 then (by first | exact (if_pos hE).symm | (exfalso; simp only [i_lt, i_le, i_eq] at hE c_1; omega)) else (by first | exact (if_neg hE).symm | (exfalso; simp only [i_lt, i_le, i_eq] at hE c_1; omega))) [] (by decide) rfl (by decide) (by decide) dX10_isHeight_17
  · skip
    refine j_iload_n (pc := 5) C dX10_isHeight_5 rfl 0 rfl ?_
    refine j_sipush (pc := 6) (v := 999) C dX10_isHeight_6 (by decide) ?_
    refine j_icmp_gt (pc := 9) (tgt := 16) C dX10_isHeight_9 (by decide) (fun c_2 => ?_) (fun c_2 => ?_)
    · skip
      refine j_iconst (pc := 16) (v := 0) C dX10_isHeight_16 (by decide) ?_
      exact j_zret (pc := 17) C hr rfl hk (fun _ => 0, fun _ => 0, fun _ _ => 0) rfl (by show (0 : Int32) = (if 1 ≤ p0 ∧ p0 ≤ 999 then 1 else 0); have e1 : (1 : Int32).toInt = 1 := rfl; have e999 : (999 : Int32).toInt = 999 := rfl; exact if hE : 1 ≤ p0 ∧ p0 ≤ 999 then (by first | exact (if_pos hE).symm | (exfalso; simp only [i_lt, i_le, i_eq] at hE c_1 c_2; omega)) else (by first | exact (if_neg hE).symm | (exfalso; simp only [i_lt, i_le, i_eq] at hE c_1 c_2; omega))) [] (by decide) rfl (by decide) (by decide) dX10_isHeight_17
    · skip
      refine j_iconst (pc := 12) (v := 1) C dX10_isHeight_12 (by decide) ?_
      refine j_goto (pc := 13) (tgt := 17) C dX10_isHeight_13 (by decide) ?_
      exact j_zret (pc := 17) C hr rfl hk (fun _ => 0, fun _ => 1, fun _ _ => 0) rfl (by show (1 : Int32) = (if 1 ≤ p0 ∧ p0 ≤ 999 then 1 else 0); have e1 : (1 : Int32).toInt = 1 := rfl; have e999 : (999 : Int32).toInt = 999 := rfl; exact if hE : 1 ≤ p0 ∧ p0 ≤ 999 then (by first | exact (if_pos hE).symm | (exfalso; simp only [i_lt, i_le, i_eq] at hE c_1 c_2; omega)) else (by first | exact (if_neg hE).symm | (exfalso; simp only [i_lt, i_le, i_eq] at hE c_1 c_2; omega))) [] (by decide) rfl (by decide) (by decide) dX10_isHeight_17
set_option maxHeartbeats 4000000 in
set_option maxRecDepth 100000 in
theorem c_X10_sorted (l : Launch) (D : va_G) (cyC cyI cyJ cyZ cyO : ClassId) (p0 : Int32) (p1 : Int32) (p2 : Int32) (t0 : Nat) (t1 : Nat) (t21 : Nat) (t32 : Nat) (t37 : Nat) (t42 : Nat) (t43 : Nat) (t45 : Nat) (t50 : Nat) (t54 : Nat) (t58 : Nat) (t22 : Nat) (t23 : Nat) (t24 : Nat) (t25 : Nat) (t26 : Nat) (t27 : Nat) (t28 : Nat) (t29 : Nat) (t30 : Nat) (t31 : Nat) : KK l D (TY cyC cyI cyJ cyZ cyO) yX10_sorted cX10_sorted 4 (some .int) ({ frames := 1, cells := 0, slots := 0, locals := 20 } : Room) 0 0 [.ref t0, .int p0, .int p1, .int p2] [(t0, .inr (10, [.ref t1, .ref t21, .ref t32, .ref t37, .ref t42, .ref t43, .ref t45, .ref t50, .ref t54, .ref t58])), (t21, .inr (9, [.int 0, .int 0, .int 0, .ref t22, .ref t23, .ref t24, .ref t25, .ref t26, .ref t27, .int 0, .int 0, .ref t28, .ref t29, .ref t30, .ref t31]))] (fun u => some (.int (-1))) (fun u => True) (fun u => []) := by
  refine KK.of (lv0 := [(0, .ref t0), (1, .int p0), (2, .int p1), (3, .int p2)]) (by decide) rfl (Nat.le_of_ble_eq_true rfl) ?_
  intro p e s m args below meth c A C hr hk hin
  refine j_iload_n (pc := 0) C dX10_sorted_0 rfl 2 rfl ?_
  refine j_callS (pc := 1) (As := [.int p1]) (rest := []) (wr := [(t0, .inr (10, [.ref t1, .ref t21, .ref t32, .ref t37, .ref t42, .ref t43, .ref t45, .ref t50, .ref t54, .ref t58])), (t21, .inr (9, [.int 0, .int 0, .int 0, .ref t22, .ref t23, .ref t24, .ref t25, .ref t26, .ref t27, .int 0, .int 0, .ref t28, .ref t29, .ref t30, .ref t31]))]) C (c_X10_isHeight l D cyC cyI cyJ cyZ cyO p1) wd_283 wd_180 wd_284 wd_285 ⟨by decide, by decide, rfl⟩ rfl ⟨rfl, rfl, by decide, by decide⟩ ⟨by decide, by decide⟩ [] [0, 1] rfl rfl ⟨by decide, by decide, by decide⟩ rfl (Nat.le_of_ble_eq_true rfl) dX10_sorted_1 (fun u_1 hw_2 => ?_)
  refine j_eq (ws2 := [(t0, .inr (10, [.ref t1, .ref t21, .ref t32, .ref t37, .ref t42, .ref t43, .ref t45, .ref t50, .ref t54, .ref t58])), (t21, .inr (9, [.int 0, .int 0, .int 0, .ref t22, .ref t23, .ref t24, .ref t25, .ref t26, .ref t27, .int 0, .int 0, .ref t28, .ref t29, .ref t30, .ref t31]))]) (pc2 := 4) (lv2 := [(0, .ref t0), (1, .int p0), (2, .int p1), (3, .int p2)]) (st2 := [.int (u_1.2.1 0)]) rfl rfl rfl rfl ?_
  rcases ite_two hw_2 with ⟨hc_3, hr_4⟩ | ⟨hc_3, hr_4⟩
  · skip
    refine j_eq (ws2 := [(t0, .inr (10, [.ref t1, .ref t21, .ref t32, .ref t37, .ref t42, .ref t43, .ref t45, .ref t50, .ref t54, .ref t58])), (t21, .inr (9, [.int 0, .int 0, .int 0, .ref t22, .ref t23, .ref t24, .ref t25, .ref t26, .ref t27, .int 0, .int 0, .ref t28, .ref t29, .ref t30, .ref t31]))]) (pc2 := 4) (lv2 := [(0, .ref t0), (1, .int p0), (2, .int p1), (3, .int p2)]) (st2 := [.int 1]) rfl rfl rfl (by rw [hr_4]) ?_
    refine j_if_eq_f (pc := 4) (tgt := 37) C dX10_sorted_4 (by decide) (by decide) ?_
    refine j_iload_n (pc := 7) C dX10_sorted_7 rfl 1 rfl ?_
    refine j_iconst (pc := 8) (v := 1) C dX10_sorted_8 (by decide) ?_
    refine j_icmp_lt (pc := 9) (tgt := 37) C dX10_sorted_9 (by decide) (fun c_5 => ?_) (fun c_5 => ?_)
    · skip
      refine j_iconst (pc := 37) (v := (-1)) C dX10_sorted_37 (by decide) ?_
      exact j_iret (pc := 38) C hr hk (fun i => [].getD i 0, fun _ => 0, fun _ _ => 0) rfl trivial [] (by decide) rfl (by decide) (by decide) dX10_sorted_38
    · skip
      refine j_iload_n (pc := 12) C dX10_sorted_12 rfl 1 rfl ?_
      refine j_iconst (pc := 13) (v := 1) C dX10_sorted_13 (by decide) ?_
      refine j_aload_n (pc := 14) C dX10_sorted_14 rfl 0 rfl ?_
      refine j_get (pc := 15) (ci := 10) (v := .ref t21) C inw_10 0 rfl rfl 1 (by decide) wd_77 rfl rfl dX10_sorted_15 ?_
      refine j_get (pc := 18) (ci := 9) (v := .int 0) C inw_9 1 rfl rfl 0 (by decide) wd_286 rfl rfl dX10_sorted_18 ?_
      refine j_ishl (pc := 21) (v := 1) C dX10_sorted_21 (by decide) ?_
      refine j_icmp_ge_t (pc := 22) (tgt := 37) C dX10_sorted_22 (by decide) (br_ltf_ge c_5) ?_
      refine j_iconst (pc := 37) (v := (-1)) C dX10_sorted_37 (by decide) ?_
      exact j_iret (pc := 38) C hr hk (fun i => [].getD i 0, fun _ => 0, fun _ _ => 0) rfl trivial [] (by decide) rfl (by decide) (by decide) dX10_sorted_38
  · skip
    refine j_eq (ws2 := [(t0, .inr (10, [.ref t1, .ref t21, .ref t32, .ref t37, .ref t42, .ref t43, .ref t45, .ref t50, .ref t54, .ref t58])), (t21, .inr (9, [.int 0, .int 0, .int 0, .ref t22, .ref t23, .ref t24, .ref t25, .ref t26, .ref t27, .int 0, .int 0, .ref t28, .ref t29, .ref t30, .ref t31]))]) (pc2 := 4) (lv2 := [(0, .ref t0), (1, .int p0), (2, .int p1), (3, .int p2)]) (st2 := [.int 0]) rfl rfl rfl (by rw [hr_4]) ?_
    refine j_if_eq_t (pc := 4) (tgt := 37) C dX10_sorted_4 (by decide) (by decide) ?_
    refine j_iconst (pc := 37) (v := (-1)) C dX10_sorted_37 (by decide) ?_
    exact j_iret (pc := 38) C hr hk (fun i => [].getD i 0, fun _ => 0, fun _ _ => 0) rfl trivial [] (by decide) rfl (by decide) (by decide) dX10_sorted_38
set_option maxHeartbeats 4000000 in
set_option maxRecDepth 100000 in
theorem c_X0_settle (l : Launch) (D : va_G) (cyC cyI cyJ cyZ cyO : ClassId) (t50 : Nat) (t21 : Nat) (t22 : Nat) (t23 : Nat) (t24 : Nat) (t25 : Nat) (t26 : Nat) (t27 : Nat) (t28 : Nat) (t29 : Nat) (t30 : Nat) (t31 : Nat) (t51 : Nat) (t52 : Nat) (t53 : Nat) : KK l D (TY cyC cyI cyJ cyZ cyO) yX0_settle cX0_settle 4 none ({ frames := 0, cells := 3, slots := 2, locals := 0 } : Room) 3 2 [.ref t50, .ref t21] [(t21, .inr (9, [.int 0, .int 0, .int 0, .ref t22, .ref t23, .ref t24, .ref t25, .ref t26, .ref t27, .int 0, .int 0, .ref t28, .ref t29, .ref t30, .ref t31])), (t50, .inr (0, [.int 0, .int 0, .ref t51, .ref t52, .ref t53])), (t52, .inl (cyI, 0, .inl (fun _ => 0)))] (fun u => none) (fun u => True) (fun u => [(t21, .inr (9, [.int 0, .int 0, .int 0, .ref t22, .ref t23, .ref t24, .ref t25, .ref t26, .ref t27, .int 0, .int 0, .ref t28, .ref t29, .ref t30, .ref t31])), (t50, .inr (0, [.int 1, .int 0, .ref (u.1 2), .ref (u.1 0), .ref (u.1 1)])), (t52, .inl (cyI, 0, .inl (fun _ => 0))), ((u.1 0), .inl (cyI, 1, .inl (fun _ => 0))), ((u.1 1), .inl (cyI, 1, .inl (fun _ => 0))), ((u.1 2), .inl (cyI, 0, .inl (fun _ => 0)))]) := by
  refine KK.of (lv0 := [(0, .ref t50), (1, .ref t21)]) (by decide) rfl (Nat.le_of_ble_eq_true rfl) ?_
  intro p e s m args below meth c A C hr hk hin
  refine j_aload_n (pc := 0) C dX0_settle_0 rfl 0 rfl ?_
  refine j_get (pc := 1) (ci := 0) (v := .int 0) C inw_0 1 rfl rfl 0 (by decide) wd_287 rfl rfl dX0_settle_1 ?_
  refine j_if_eq_t (pc := 4) (tgt := 8) C dX0_settle_4 (by decide) (by decide) ?_
  refine j_aload_n (pc := 8) C dX0_settle_8 rfl 0 rfl ?_
  refine j_iconst (pc := 9) (v := 1) C dX0_settle_9 (by decide) ?_
  refine j_put (pc := 10) (ci := 0) (v := .int 1) (ws' := [(t21, .inr (9, [.int 0, .int 0, .int 0, .ref t22, .ref t23, .ref t24, .ref t25, .ref t26, .ref t27, .int 0, .int 0, .ref t28, .ref t29, .ref t30, .ref t31])), (t50, .inr (0, [.int 1, .int 0, .ref t51, .ref t52, .ref t53])), (t52, .inl (cyI, 0, .inl (fun _ => 0)))]) C inw_0 1 rfl rfl 0 (by decide) wd_287 rfl tyX0_ok nmX0 rfl (tyX0_ok 0 (by decide)) rfl rfl (Nat.le_of_ble_eq_true rfl) dX0_settle_10 rfl ?_
  refine j_aload_n (pc := 13) C dX0_settle_13 rfl 0 rfl ?_
  refine j_aload_n (pc := 14) C dX0_settle_14 rfl 1 rfl ?_
  refine j_get (pc := 15) (ci := 9) (v := .int 0) C inw_9 0 rfl rfl 0 (by decide) wd_288 rfl rfl dX0_settle_15 ?_
  refine j_put (pc := 18) (ci := 0) (v := .int 0) (ws' := [(t21, .inr (9, [.int 0, .int 0, .int 0, .ref t22, .ref t23, .ref t24, .ref t25, .ref t26, .ref t27, .int 0, .int 0, .ref t28, .ref t29, .ref t30, .ref t31])), (t50, .inr (0, [.int 1, .int 0, .ref t51, .ref t52, .ref t53])), (t52, .inl (cyI, 0, .inl (fun _ => 0)))]) C inw_0 1 rfl rfl 1 (by decide) wd_289 rfl tyX0_ok nmX0 rfl (tyX0_ok 1 (by decide)) rfl rfl (Nat.le_of_ble_eq_true rfl) dX0_settle_18 rfl ?_
  refine j_iconst (pc := 21) (v := 1) C dX0_settle_21 (by decide) ?_
  refine j_aload_n (pc := 22) C dX0_settle_22 rfl 0 rfl ?_
  refine j_get (pc := 23) (ci := 0) (v := .int 0) C inw_0 1 rfl rfl 1 (by decide) wd_289 rfl rfl dX0_settle_23 ?_
  refine j_ishl (pc := 26) (v := 1) C dX0_settle_26 (by decide) ?_
  refine j_istore_n (pc := 27) (lv' := [(2, .int 1), (0, .ref t50), (1, .ref t21)]) C dX0_settle_27 rfl (by decide) rfl ?_
  refine j_aload_n (pc := 28) C dX0_settle_28 rfl 1 rfl ?_
  refine j_get (pc := 29) (ci := 0) (v := .ref t52) C inw_0 1 rfl rfl 3 (by decide) wd_61 rfl rfl dX0_settle_29 ?_
  refine j_alen (pc := 32) (v := 0) C 2 1 rfl rfl rfl dX0_settle_32 ?_
  refine j_iload_n (pc := 33) C dX0_settle_33 rfl 0 rfl ?_
  refine j_icmp_ge_f (pc := 34) (tgt := 63) C dX0_settle_34 (by decide) (by decide) ?_
  refine j_aload_n (pc := 37) C dX0_settle_37 rfl 1 rfl ?_
  refine j_iload_n (pc := 38) C dX0_settle_38 rfl 0 rfl ?_
  refine j_newa (pc := 39) (at1 := .int) (ty := .int) (N := 1) (a0 := (1, .inl (fun _ => 0))) C wd_6 rfl 1 rfl (fun _ _ h => h) (fun _ => rfl) (by decide) (by decide) (by decide) (by decide) (by decide) dX0_settle_39 (fun q_1 => ?_)
  refine j_widen (k := 1) (n := 1) (by decide) (by decide) ?_
  refine j_put (pc := 41) (ci := 0) (v := .ref q_1) (ws' := [(t21, .inr (9, [.int 0, .int 0, .int 0, .ref t22, .ref t23, .ref t24, .ref t25, .ref t26, .ref t27, .int 0, .int 0, .ref t28, .ref t29, .ref t30, .ref t31])), (t50, .inr (0, [.int 1, .int 0, .ref t51, .ref q_1, .ref t53])), (t52, .inl (cyI, 0, .inl (fun _ => 0))), (q_1, .inl (cyI, 1, .inl (fun _ => 0)))]) C inw_0 1 rfl rfl 3 (by decide) wd_61 rfl tyX0_ok nmX0 rfl (tyX0_ok 3 (by decide)) rfl rfl (Nat.le_of_ble_eq_true rfl) dX0_settle_41 rfl ?_
  refine j_aload_n (pc := 44) C dX0_settle_44 rfl 1 rfl ?_
  refine j_iload_n (pc := 45) C dX0_settle_45 rfl 0 rfl ?_
  refine j_newa (pc := 46) (at1 := .int) (ty := .int) (N := 1) (a0 := (1, .inl (fun _ => 0))) C wd_6 rfl 1 rfl (fun _ _ h => h) (fun _ => rfl) (by decide) (by decide) (by decide) (by decide) (by decide) dX0_settle_46 (fun q_2 => ?_)
  refine j_widen (k := 2) (n := 2) (by decide) (by decide) ?_
  refine j_put (pc := 48) (ci := 0) (v := .ref q_2) (ws' := [(t21, .inr (9, [.int 0, .int 0, .int 0, .ref t22, .ref t23, .ref t24, .ref t25, .ref t26, .ref t27, .int 0, .int 0, .ref t28, .ref t29, .ref t30, .ref t31])), (t50, .inr (0, [.int 1, .int 0, .ref t51, .ref q_1, .ref q_2])), (t52, .inl (cyI, 0, .inl (fun _ => 0))), (q_1, .inl (cyI, 1, .inl (fun _ => 0))), (q_2, .inl (cyI, 1, .inl (fun _ => 0)))]) C inw_0 1 rfl rfl 4 (by decide) wd_62 rfl tyX0_ok nmX0 rfl (tyX0_ok 4 (by decide)) rfl rfl (Nat.le_of_ble_eq_true rfl) dX0_settle_48 rfl ?_
  refine j_aload_n (pc := 51) C dX0_settle_51 rfl 1 rfl ?_
  refine j_iload_n (pc := 52) C dX0_settle_52 rfl 0 rfl ?_
  refine j_aload_n (pc := 53) C dX0_settle_53 rfl 1 rfl ?_
  refine j_get (pc := 54) (ci := 0) (v := .int 0) C inw_0 1 rfl rfl 1 (by decide) wd_289 rfl rfl dX0_settle_54 ?_
  refine j_imul (pc := 57) (v := 0) C dX0_settle_57 (by decide) ?_
  refine j_newa (pc := 58) (at1 := .int) (ty := .int) (N := 0) (a0 := (0, .inl (fun _ => 0))) C wd_6 rfl 1 rfl (fun _ _ h => h) (fun _ => rfl) (by decide) (by decide) (by decide) (by decide) (by decide) dX0_settle_58 (fun q_3 => ?_)
  refine j_widen (k := 3) (n := 2) (by decide) (by decide) ?_
  refine j_put (pc := 60) (ci := 0) (v := .ref q_3) (ws' := [(t21, .inr (9, [.int 0, .int 0, .int 0, .ref t22, .ref t23, .ref t24, .ref t25, .ref t26, .ref t27, .int 0, .int 0, .ref t28, .ref t29, .ref t30, .ref t31])), (t50, .inr (0, [.int 1, .int 0, .ref q_3, .ref q_1, .ref q_2])), (t52, .inl (cyI, 0, .inl (fun _ => 0))), (q_1, .inl (cyI, 1, .inl (fun _ => 0))), (q_2, .inl (cyI, 1, .inl (fun _ => 0))), (q_3, .inl (cyI, 0, .inl (fun _ => 0)))]) C inw_0 1 rfl rfl 2 (by decide) wd_60 rfl tyX0_ok nmX0 rfl (tyX0_ok 2 (by decide)) rfl rfl (Nat.le_of_ble_eq_true rfl) dX0_settle_60 rfl ?_
  refine j_iconst (pc := 63) (v := 1) C dX0_settle_63 (by decide) ?_
  refine j_istore_n (pc := 64) (lv' := [(3, .int 1), (2, .int 1), (0, .ref t50), (1, .ref t21)]) C dX0_settle_64 rfl (by decide) rfl ?_
  refine j_iload_n (pc := 65) C dX0_settle_65 rfl 0 rfl ?_
  refine j_iload_n (pc := 66) C dX0_settle_66 rfl 1 rfl ?_
  refine j_icmp_ge_t (pc := 67) (tgt := 82) C dX0_settle_67 (by decide) (by decide) ?_
  exact j_vret (pc := 82) C hr hk (fun i => [q_1, q_2, q_3].getD i 0, fun _ => 0, fun _ _ => 0) rfl trivial [0, 1, 2, 3, 4, 5] (by decide) rfl (by decide) (by decide) dX0_settle_82
set_option maxHeartbeats 4000000 in
set_option maxRecDepth 100000 in
theorem c_X0_fewestStacks (l : Launch) (D : va_G) (cyC cyI cyJ cyZ cyO : ClassId) (p0 : Int32) (x0 : Nat) (x1 : Nat) (x2 : Nat) (x3 : Nat) : KK l D (TY cyC cyI cyJ cyZ cyO) yX0_fewestStacks cX0_fewestStacks 4 (some .int) ({ frames := 0, cells := 0, slots := 0, locals := 0 } : Room) 0 0 [.ref x0, .int p0] [(x0, .inr (0, [.int 1, .int 0, .ref x1, .ref x2, .ref x3])), (x3, .inl (cyI, 1, .inl (fun _ => 0)))] (fun u => some (.int 0)) (fun u => True) (fun u => [(x0, .inr (0, [.int 1, .int 0, .ref x1, .ref x2, .ref x3])), (x3, .inl (cyI, 1, .inl (upd (fun _ => 0) 0 0)))]) := by
  refine KK.of (lv0 := [(0, .ref x0), (1, .int p0)]) (by decide) rfl (Nat.le_of_ble_eq_true rfl) ?_
  intro p e s m args below meth c A C hr hk hin
  refine j_iconst (pc := 0) (v := 1) C dX0_fewestStacks_0 (by decide) ?_
  refine j_aload_n (pc := 1) C dX0_fewestStacks_1 rfl 0 rfl ?_
  refine j_get (pc := 2) (ci := 0) (v := .int 0) C inw_0 0 rfl rfl 1 (by decide) wd_289 rfl rfl dX0_fewestStacks_2 ?_
  refine j_ishl (pc := 5) (v := 1) C dX0_fewestStacks_5 (by decide) ?_
  refine j_iconst (pc := 6) (v := 1) C dX0_fewestStacks_6 (by decide) ?_
  refine j_isub (pc := 7) (v := 0) C dX0_fewestStacks_7 (by decide) ?_
  refine j_istore_n (pc := 8) (lv' := [(2, .int 0), (0, .ref x0), (1, .int p0)]) C dX0_fewestStacks_8 rfl (by decide) rfl ?_
  refine j_aload_n (pc := 9) C dX0_fewestStacks_9 rfl 1 rfl ?_
  refine j_get (pc := 10) (ci := 0) (v := .ref x3) C inw_0 0 rfl rfl 4 (by decide) wd_62 rfl rfl dX0_fewestStacks_10 ?_
  refine j_iconst (pc := 13) (v := 0) C dX0_fewestStacks_13 (by decide) ?_
  refine j_iconst (pc := 14) (v := 0) C dX0_fewestStacks_14 (by decide) ?_
  refine j_iast (pc := 15) (k := 0) (ws' := [(x0, .inr (0, [.int 1, .int 0, .ref x1, .ref x2, .ref x3])), (x3, .inl (cyI, 1, .inl (upd (fun _ => 0) 0 0)))]) C 1 1 rfl rfl (by decide) (by decide) (by decide) dX0_fewestStacks_15 rfl ?_
  refine j_iconst (pc := 16) (v := 1) C dX0_fewestStacks_16 (by decide) ?_
  refine j_istore_n (pc := 17) (lv' := [(3, .int 1), (2, .int 0), (0, .ref x0), (1, .int p0)]) C dX0_fewestStacks_17 rfl (by decide) rfl ?_
  refine j_iload_n (pc := 18) C dX0_fewestStacks_18 rfl 0 rfl ?_
  refine j_iload_n (pc := 19) C dX0_fewestStacks_19 rfl 1 rfl ?_
  refine j_icmp_gt_t (pc := 20) (tgt := 52) C dX0_fewestStacks_20 (by decide) (by decide) ?_
  refine j_aload_n (pc := 52) C dX0_fewestStacks_52 rfl 2 rfl ?_
  refine j_get (pc := 53) (ci := 0) (v := .ref x3) C inw_0 0 rfl rfl 4 (by decide) wd_62 rfl rfl dX0_fewestStacks_53 ?_
  refine j_iload_n (pc := 56) C dX0_fewestStacks_56 rfl 1 rfl ?_
  refine j_iald (pc := 57) (v := 0) (k := 0) C 1 1 rfl rfl (by decide) (by decide) (by decide) rfl dX0_fewestStacks_57 ?_
  exact j_iret (pc := 58) C hr hk (fun i => [].getD i 0, fun _ => 0, fun _ _ => 0) rfl trivial [0, 1] (by decide) rfl (by decide) (by decide) dX0_fewestStacks_58
set_option maxHeartbeats 4000000 in
set_option maxRecDepth 100000 in
theorem c_X10_needed (l : Launch) (D : va_G) (cyC cyI cyJ cyZ cyO : ClassId) (p0 : Int32) (t0 : Nat) (t1 : Nat) (t21 : Nat) (t32 : Nat) (t37 : Nat) (t42 : Nat) (t43 : Nat) (t45 : Nat) (t50 : Nat) (t54 : Nat) (t58 : Nat) (t22 : Nat) (t23 : Nat) (t24 : Nat) (t25 : Nat) (t26 : Nat) (t27 : Nat) (t28 : Nat) (t29 : Nat) (t30 : Nat) (t31 : Nat) (t51 : Nat) (t52 : Nat) (t53 : Nat) : KK l D (TY cyC cyI cyJ cyZ cyO) yX10_needed cX10_needed 3 (some .int) ({ frames := 1, cells := 3, slots := 2, locals := 23 } : Room) 3 2 [.ref t0, .int p0] [(t0, .inr (10, [.ref t1, .ref t21, .ref t32, .ref t37, .ref t42, .ref t43, .ref t45, .ref t50, .ref t54, .ref t58])), (t21, .inr (9, [.int 0, .int 0, .int 0, .ref t22, .ref t23, .ref t24, .ref t25, .ref t26, .ref t27, .int 0, .int 0, .ref t28, .ref t29, .ref t30, .ref t31])), (t50, .inr (0, [.int 0, .int 0, .ref t51, .ref t52, .ref t53])), (t52, .inl (cyI, 0, .inl (fun _ => 0)))] (fun u => some (.int (u.2.1 0))) (fun u => u.2.1 0 = (if 1 ≤ p0 ∧ p0 ≤ 999 then 0 else -1)) (fun u => []) := by
  refine KK.of (lv0 := [(0, .ref t0), (1, .int p0)]) (by decide) rfl (Nat.le_of_ble_eq_true rfl) ?_
  intro p e s m args below meth c A C hr hk hin
  refine j_iload_n (pc := 0) C dX10_needed_0 rfl 1 rfl ?_
  refine j_callS (pc := 1) (As := [.int p0]) (rest := []) (wr := [(t0, .inr (10, [.ref t1, .ref t21, .ref t32, .ref t37, .ref t42, .ref t43, .ref t45, .ref t50, .ref t54, .ref t58])), (t21, .inr (9, [.int 0, .int 0, .int 0, .ref t22, .ref t23, .ref t24, .ref t25, .ref t26, .ref t27, .int 0, .int 0, .ref t28, .ref t29, .ref t30, .ref t31])), (t50, .inr (0, [.int 0, .int 0, .ref t51, .ref t52, .ref t53])), (t52, .inl (cyI, 0, .inl (fun _ => 0)))]) C (c_X10_isHeight l D cyC cyI cyJ cyZ cyO p0) wd_283 wd_180 wd_284 wd_285 ⟨by decide, by decide, rfl⟩ rfl ⟨rfl, rfl, by decide, by decide⟩ ⟨by decide, by decide⟩ [] [0, 1, 2, 3] rfl rfl ⟨by decide, by decide, by decide⟩ rfl (Nat.le_of_ble_eq_true rfl) dX10_needed_1 (fun u_1 hw_2 => ?_)
  refine j_eq (ws2 := [(t0, .inr (10, [.ref t1, .ref t21, .ref t32, .ref t37, .ref t42, .ref t43, .ref t45, .ref t50, .ref t54, .ref t58])), (t21, .inr (9, [.int 0, .int 0, .int 0, .ref t22, .ref t23, .ref t24, .ref t25, .ref t26, .ref t27, .int 0, .int 0, .ref t28, .ref t29, .ref t30, .ref t31])), (t50, .inr (0, [.int 0, .int 0, .ref t51, .ref t52, .ref t53])), (t52, .inl (cyI, 0, .inl (fun _ => 0)))]) (pc2 := 4) (lv2 := [(0, .ref t0), (1, .int p0)]) (st2 := [.int (u_1.2.1 0)]) rfl rfl rfl rfl ?_
  rcases ite_two hw_2 with ⟨hc_3, hr_4⟩ | ⟨hc_3, hr_4⟩
  · skip
    refine j_eq (ws2 := [(t0, .inr (10, [.ref t1, .ref t21, .ref t32, .ref t37, .ref t42, .ref t43, .ref t45, .ref t50, .ref t54, .ref t58])), (t21, .inr (9, [.int 0, .int 0, .int 0, .ref t22, .ref t23, .ref t24, .ref t25, .ref t26, .ref t27, .int 0, .int 0, .ref t28, .ref t29, .ref t30, .ref t31])), (t50, .inr (0, [.int 0, .int 0, .ref t51, .ref t52, .ref t53])), (t52, .inl (cyI, 0, .inl (fun _ => 0)))]) (pc2 := 4) (lv2 := [(0, .ref t0), (1, .int p0)]) (st2 := [.int 1]) rfl rfl rfl (by rw [hr_4]) ?_
    refine j_if_ne_t (pc := 4) (tgt := 9) C dX10_needed_4 (by decide) (by decide) ?_
    refine j_iconst (pc := 9) (v := 0) C dX10_needed_9 (by decide) ?_
    refine j_istore_n (pc := 10) (lv' := [(2, .int 0), (0, .ref t0), (1, .int p0)]) C dX10_needed_10 rfl (by decide) rfl ?_
    refine j_iload_n (pc := 11) C dX10_needed_11 rfl 0 rfl ?_
    refine j_aload_n (pc := 12) C dX10_needed_12 rfl 1 rfl ?_
    refine j_get (pc := 13) (ci := 10) (v := .ref t21) C inw_10 0 rfl rfl 1 (by decide) wd_77 rfl rfl dX10_needed_13 ?_
    refine j_get (pc := 16) (ci := 9) (v := .int 0) C inw_9 1 rfl rfl 0 (by decide) wd_286 rfl rfl dX10_needed_16 ?_
    refine j_icmp_ge_t (pc := 19) (tgt := 43) C dX10_needed_19 (by decide) (by decide) ?_
    refine j_aload_n (pc := 43) C dX10_needed_43 rfl 1 rfl ?_
    refine j_get (pc := 44) (ci := 10) (v := .ref t50) C inw_10 0 rfl rfl 7 (by decide) wd_104 rfl rfl dX10_needed_44 ?_
    refine j_aload_n (pc := 47) C dX10_needed_47 rfl 1 rfl ?_
    refine j_get (pc := 48) (ci := 10) (v := .ref t21) C inw_10 0 rfl rfl 1 (by decide) wd_77 rfl rfl dX10_needed_48 ?_
    refine j_callV (pc := 51) (As := [.ref t21]) (rest := []) (wr := [(t0, .inr (10, [.ref t1, .ref t21, .ref t32, .ref t37, .ref t42, .ref t43, .ref t45, .ref t50, .ref t54, .ref t58]))]) C (c_X0_settle l D cyC cyI cyJ cyZ cyO t50 t21 t22 t23 t24 t25 t26 t27 t28 t29 t30 t31 t51 t52 t53) wd_290 wd_101 wd_291 wd_292 wd_293 ⟨by decide, by decide, rfl⟩ rfl ⟨rfl, rfl, by decide, by decide⟩ ⟨by decide, by decide⟩ [1, 2, 3] [0] rfl rfl ⟨by decide, by decide, by decide⟩ 2 rfl rfl rfl (Nat.le_of_ble_eq_true rfl) dX10_needed_51 (fun u_5 hw_6 => ?_)
    refine j_eq (ws2 := [(t0, .inr (10, [.ref t1, .ref t21, .ref t32, .ref t37, .ref t42, .ref t43, .ref t45, .ref t50, .ref t54, .ref t58])), (t21, .inr (9, [.int 0, .int 0, .int 0, .ref t22, .ref t23, .ref t24, .ref t25, .ref t26, .ref t27, .int 0, .int 0, .ref t28, .ref t29, .ref t30, .ref t31])), (t50, .inr (0, [.int 1, .int 0, .ref (u_5.1 2), .ref (u_5.1 0), .ref (u_5.1 1)])), (t52, .inl (cyI, 0, .inl (fun _ => 0))), ((u_5.1 0), .inl (cyI, 1, .inl (fun _ => 0))), ((u_5.1 1), .inl (cyI, 1, .inl (fun _ => 0))), ((u_5.1 2), .inl (cyI, 0, .inl (fun _ => 0)))]) (pc2 := 54) (lv2 := [(2, .int 0), (0, .ref t0), (1, .int p0)]) (st2 := []) rfl rfl rfl rfl ?_
    refine j_widen (k := 3) (n := 2) (by decide) (by decide) ?_
    refine j_aload_n (pc := 54) C dX10_needed_54 rfl 1 rfl ?_
    refine j_get (pc := 55) (ci := 10) (v := .ref t50) C inw_10 0 rfl rfl 7 (by decide) wd_104 rfl rfl dX10_needed_55 ?_
    refine j_iload_n (pc := 58) C dX10_needed_58 rfl 2 rfl ?_
    refine j_callV (pc := 59) (As := [.int p0]) (rest := []) (wr := [(t0, .inr (10, [.ref t1, .ref t21, .ref t32, .ref t37, .ref t42, .ref t43, .ref t45, .ref t50, .ref t54, .ref t58])), (t21, .inr (9, [.int 0, .int 0, .int 0, .ref t22, .ref t23, .ref t24, .ref t25, .ref t26, .ref t27, .int 0, .int 0, .ref t28, .ref t29, .ref t30, .ref t31])), (t52, .inl (cyI, 0, .inl (fun _ => 0))), ((u_5.1 0), .inl (cyI, 1, .inl (fun _ => 0))), ((u_5.1 2), .inl (cyI, 0, .inl (fun _ => 0)))]) C (c_X0_fewestStacks l D cyC cyI cyJ cyZ cyO p0 t50 (u_5.1 2) (u_5.1 0) (u_5.1 1)) wd_294 wd_101 wd_295 wd_296 wd_297 ⟨by decide, by decide, rfl⟩ rfl ⟨rfl, rfl, by decide, by decide⟩ ⟨by decide, by decide⟩ [2, 5] [0, 1, 3, 4, 6] rfl rfl ⟨by decide, by decide, by decide⟩ 2 rfl rfl rfl (Nat.le_of_ble_eq_true rfl) dX10_needed_59 (fun u_7 hw_8 => ?_)
    refine j_eq (ws2 := [(t0, .inr (10, [.ref t1, .ref t21, .ref t32, .ref t37, .ref t42, .ref t43, .ref t45, .ref t50, .ref t54, .ref t58])), (t21, .inr (9, [.int 0, .int 0, .int 0, .ref t22, .ref t23, .ref t24, .ref t25, .ref t26, .ref t27, .int 0, .int 0, .ref t28, .ref t29, .ref t30, .ref t31])), (t52, .inl (cyI, 0, .inl (fun _ => 0))), ((u_5.1 0), .inl (cyI, 1, .inl (fun _ => 0))), ((u_5.1 2), .inl (cyI, 0, .inl (fun _ => 0))), (t50, .inr (0, [.int 1, .int 0, .ref (u_5.1 2), .ref (u_5.1 0), .ref (u_5.1 1)])), ((u_5.1 1), .inl (cyI, 1, .inl (upd (fun _ => 0) 0 0)))]) (pc2 := 62) (lv2 := [(2, .int 0), (0, .ref t0), (1, .int p0)]) (st2 := [.int 0]) rfl rfl rfl rfl ?_
    exact j_iret (pc := 62) C hr hk (fun _ => 0, fun _ => 0, fun _ _ => 0) rfl (by show (0 : Int32) = (if 1 ≤ p0 ∧ p0 ≤ 999 then 0 else -1); have e1 : (1 : Int32).toInt = 1 := rfl; have e999 : (999 : Int32).toInt = 999 := rfl; exact if hE : 1 ≤ p0 ∧ p0 ≤ 999 then (by first | exact (if_pos hE).symm | (exfalso; simp only [i_lt, i_le, i_eq] at hE hc_3; omega)) else (by first | exact (if_neg hE).symm | (exfalso; simp only [i_lt, i_le, i_eq] at hE hc_3; omega))) [] (by decide) rfl (by decide) (by decide) dX10_needed_62
  · skip
    refine j_eq (ws2 := [(t0, .inr (10, [.ref t1, .ref t21, .ref t32, .ref t37, .ref t42, .ref t43, .ref t45, .ref t50, .ref t54, .ref t58])), (t21, .inr (9, [.int 0, .int 0, .int 0, .ref t22, .ref t23, .ref t24, .ref t25, .ref t26, .ref t27, .int 0, .int 0, .ref t28, .ref t29, .ref t30, .ref t31])), (t50, .inr (0, [.int 0, .int 0, .ref t51, .ref t52, .ref t53])), (t52, .inl (cyI, 0, .inl (fun _ => 0)))]) (pc2 := 4) (lv2 := [(0, .ref t0), (1, .int p0)]) (st2 := [.int 0]) rfl rfl rfl (by rw [hr_4]) ?_
    refine j_if_ne_f (pc := 4) (tgt := 9) C dX10_needed_4 (by decide) (by decide) ?_
    refine j_iconst (pc := 7) (v := (-1)) C dX10_needed_7 (by decide) ?_
    exact j_iret (pc := 8) C hr hk (fun _ => 0, fun _ => (-1), fun _ _ => 0) rfl (by show ((-1) : Int32) = (if 1 ≤ p0 ∧ p0 ≤ 999 then 0 else -1); have e1 : (1 : Int32).toInt = 1 := rfl; have e999 : (999 : Int32).toInt = 999 := rfl; exact if hE : 1 ≤ p0 ∧ p0 ≤ 999 then (by first | exact (if_pos hE).symm | (exfalso; simp only [i_lt, i_le, i_eq] at hE hc_3; omega)) else (by first | exact (if_neg hE).symm | (exfalso; simp only [i_lt, i_le, i_eq] at hE hc_3; omega))) [] (by decide) rfl (by decide) (by decide) dX10_needed_8
