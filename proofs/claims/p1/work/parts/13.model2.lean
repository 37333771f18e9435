theorem wd_338 : Cond.code yX11_find cX11_find 5 none ∈ WALL := wl_in (by decide +kernel) (by decide +kernel)
theorem wd_339 : Cond.methodLink RX11 364 yX11_find ∈ WALL := wl_in (by decide +kernel) (by decide +kernel)
theorem wd_340 : Cond.instanceMethod yX11_find ∈ WALL := wl_in (by decide +kernel) (by decide +kernel)
theorem wd_341 : Cond.selects RX11 yX11_find yX11_find ∈ WALL := wl_in (by decide +kernel) (by decide +kernel)
theorem wd_342 : Cond.code yX11_bits cX11_bits 3 (some .int) ∈ WALL := wl_in (by decide +kernel) (by decide +kernel)
theorem wd_343 : Cond.methodLink RX11 370 yX11_bits ∈ WALL := wl_in (by decide +kernel) (by decide +kernel)
theorem wd_344 : Cond.static yX11_bits ∈ WALL := wl_in (by decide +kernel) (by decide +kernel)
theorem wd_345 : Cond.code yX11_within cX11_within 3 (some .boolean) ∈ WALL := wl_in (by decide +kernel) (by decide +kernel)
theorem wd_346 : Cond.methodLink RX11 280 yX11_within ∈ WALL := wl_in (by decide +kernel) (by decide +kernel)
theorem wd_347 : Cond.static yX11_within ∈ WALL := wl_in (by decide +kernel) (by decide +kernel)
theorem wd_348 : Cond.code yX11_isRound cX11_isRound 3 (some .boolean) ∈ WALL := wl_in (by decide +kernel) (by decide +kernel)
theorem wd_349 : Cond.methodLink RX11 376 yX11_isRound ∈ WALL := wl_in (by decide +kernel) (by decide +kernel)
theorem wd_350 : Cond.instanceMethod yX11_isRound ∈ WALL := wl_in (by decide +kernel) (by decide +kernel)
theorem wd_351 : Cond.selects RX11 yX11_isRound yX11_isRound ∈ WALL := wl_in (by decide +kernel) (by decide +kernel)
theorem wd_352 : Cond.code yX11_findApart cX11_findApart 3 (some .int) ∈ WALL := wl_in (by decide +kernel) (by decide +kernel)
theorem wd_353 : Cond.methodLink RX11 379 yX11_findApart ∈ WALL := wl_in (by decide +kernel) (by decide +kernel)
theorem wd_354 : Cond.instanceMethod yX11_findApart ∈ WALL := wl_in (by decide +kernel) (by decide +kernel)
theorem wd_355 : Cond.selects RX11 yX11_findApart yX11_findApart ∈ WALL := wl_in (by decide +kernel) (by decide +kernel)
theorem wd_356 : Cond.constant RX11 363 (100000000) ∈ WALL := wl_in (by decide +kernel) (by decide +kernel)
theorem wd_357 : Cond.code yX11_asks cX11_asks 1 (some .int) ∈ WALL := wl_in (by decide +kernel) (by decide +kernel)
theorem wd_358 : Cond.methodLink RX11 410 yX11_asks ∈ WALL := wl_in (by decide +kernel) (by decide +kernel)
theorem wd_359 : Cond.instanceMethod yX11_asks ∈ WALL := wl_in (by decide +kernel) (by decide +kernel)
theorem wd_360 : Cond.selects RX11 yX11_asks yX11_asks ∈ WALL := wl_in (by decide +kernel) (by decide +kernel)
theorem wd_361 : Cond.fieldLink RX11 11 "BowlShelfModel" "taped" "I" ∈ WALL := wl_in (by decide +kernel) (by decide +kernel)
theorem dX11_find_0 : decode cX11_find 0 = .ok (.aload_n 0, 1) := by decide +kernel
theorem dX11_find_1 : decode cX11_find 1 = .ok (.getfield 145, 3) := by decide +kernel
theorem dX11_find_4 : decode cX11_find 4 = .ok (.ifCond .ne 4, 3) := by decide +kernel
theorem dX11_find_8 : decode cX11_find 8 = .ok (.aload_n 0, 1) := by decide +kernel
theorem dX11_find_9 : decode cX11_find 9 = .ok (.iconst 0, 1) := by decide +kernel
theorem dX11_find_10 : decode cX11_find 10 = .ok (.putfield 145, 3) := by decide +kernel
theorem dX11_find_13 : decode cX11_find 13 = .ok (.aload_n 0, 1) := by decide +kernel
theorem dX11_find_14 : decode cX11_find 14 = .ok (.invokevirtual 264, 3) := by decide +kernel
theorem dX11_find_17 : decode cX11_find 17 = .ok (.istore_n 1, 1) := by decide +kernel
theorem dX11_find_18 : decode cX11_find 18 = .ok (.iconst 0, 1) := by decide +kernel
theorem dX11_find_19 : decode cX11_find 19 = .ok (.istore_n 2, 1) := by decide +kernel
theorem dX11_find_20 : decode cX11_find 20 = .ok (.iload_n 2, 1) := by decide +kernel
theorem dX11_find_21 : decode cX11_find 21 = .ok (.iload_n 1, 1) := by decide +kernel
theorem dX11_find_22 : decode cX11_find 22 = .ok (.if_icmp .ge 74, 3) := by decide +kernel
theorem dX11_find_96 : decode cX11_find 96 = .ok (.iconst 0, 1) := by decide +kernel
theorem dX11_find_97 : decode cX11_find 97 = .ok (.istore_n 2, 1) := by decide +kernel
theorem dX11_find_98 : decode cX11_find 98 = .ok (.iload_n 2, 1) := by decide +kernel
theorem dX11_find_99 : decode cX11_find 99 = .ok (.iload_n 1, 1) := by decide +kernel
theorem dX11_find_100 : decode cX11_find 100 = .ok (.if_icmp .ge 98, 3) := by decide +kernel
theorem dX11_find_198 : decode cX11_find 198 = .ok (.aload_n 0, 1) := by decide +kernel
theorem dX11_find_199 : decode cX11_find 199 = .ok (.getfield 127, 3) := by decide +kernel
theorem dX11_find_202 : decode cX11_find 202 = .ok (.iconst 0, 1) := by decide +kernel
theorem dX11_find_203 : decode cX11_find 203 = .ok (.iconst 0, 1) := by decide +kernel
theorem dX11_find_204 : decode cX11_find 204 = .ok (.iastore, 1) := by decide +kernel
theorem dX11_find_205 : decode cX11_find 205 = .ok (.iconst 1, 1) := by decide +kernel
theorem dX11_find_206 : decode cX11_find 206 = .ok (.istore_n 2, 1) := by decide +kernel
theorem dX11_find_207 : decode cX11_find 207 = .ok (.iload_n 2, 1) := by decide +kernel
theorem dX11_find_208 : decode cX11_find 208 = .ok (.iconst 1, 1) := by decide +kernel
theorem dX11_find_209 : decode cX11_find 209 = .ok (.iload_n 1, 1) := by decide +kernel
theorem dX11_find_210 : decode cX11_find 210 = .ok (.ishl, 1) := by decide +kernel
theorem dX11_find_211 : decode cX11_find 211 = .ok (.if_icmp .ge 14, 3) := by decide +kernel
theorem dX11_find_225 : decode cX11_find 225 = .ok (.return_, 1) := by decide +kernel
theorem dX11_isRound_0 : decode cX11_isRound 0 = .ok (.aload_n 0, 1) := by decide +kernel
theorem dX11_isRound_1 : decode cX11_isRound 1 = .ok (.invokevirtual 364, 3) := by decide +kernel
theorem dX11_isRound_4 : decode cX11_isRound 4 = .ok (.iconst 0, 1) := by decide +kernel
theorem dX11_isRound_5 : decode cX11_isRound 5 = .ok (.istore_n 1, 1) := by decide +kernel
theorem dX11_isRound_6 : decode cX11_isRound 6 = .ok (.iconst 0, 1) := by decide +kernel
theorem dX11_isRound_7 : decode cX11_isRound 7 = .ok (.istore_n 2, 1) := by decide +kernel
theorem dX11_isRound_8 : decode cX11_isRound 8 = .ok (.iload_n 2, 1) := by decide +kernel
theorem dX11_isRound_9 : decode cX11_isRound 9 = .ok (.aload_n 0, 1) := by decide +kernel
theorem dX11_isRound_10 : decode cX11_isRound 10 = .ok (.invokevirtual 264, 3) := by decide +kernel
theorem dX11_isRound_13 : decode cX11_isRound 13 = .ok (.if_icmp .ge 33, 3) := by decide +kernel
theorem dX11_isRound_46 : decode cX11_isRound 46 = .ok (.iload_n 1, 1) := by decide +kernel
theorem dX11_isRound_47 : decode cX11_isRound 47 = .ok (.ireturn, 1) := by decide +kernel
theorem dX11_bits_0 : decode cX11_bits 0 = .ok (.iconst 0, 1) := by decide +kernel
theorem dX11_bits_1 : decode cX11_bits 1 = .ok (.istore_n 1, 1) := by decide +kernel
theorem dX11_bits_2 : decode cX11_bits 2 = .ok (.iconst 0, 1) := by decide +kernel
theorem dX11_bits_3 : decode cX11_bits 3 = .ok (.istore_n 2, 1) := by decide +kernel
theorem dX11_bits_4 : decode cX11_bits 4 = .ok (.iload_n 2, 1) := by decide +kernel
theorem dX11_bits_5 : decode cX11_bits 5 = .ok (.bipush 12, 2) := by decide +kernel
theorem dX11_bits_7 : decode cX11_bits 7 = .ok (.if_icmp .ge 17, 3) := by decide +kernel
theorem dX11_bits_10 : decode cX11_bits 10 = .ok (.iload_n 1, 1) := by decide +kernel
theorem dX11_bits_11 : decode cX11_bits 11 = .ok (.iload_n 0, 1) := by decide +kernel
theorem dX11_bits_12 : decode cX11_bits 12 = .ok (.iload_n 2, 1) := by decide +kernel
theorem dX11_bits_13 : decode cX11_bits 13 = .ok (.ishr, 1) := by decide +kernel
theorem dX11_bits_14 : decode cX11_bits 14 = .ok (.iconst 1, 1) := by decide +kernel
theorem dX11_bits_15 : decode cX11_bits 15 = .ok (.iand, 1) := by decide +kernel
theorem dX11_bits_16 : decode cX11_bits 16 = .ok (.iadd, 1) := by decide +kernel
theorem dX11_bits_17 : decode cX11_bits 17 = .ok (.istore_n 1, 1) := by decide +kernel
theorem dX11_bits_18 : decode cX11_bits 18 = .ok (.iinc 2 1, 3) := by decide +kernel
theorem dX11_bits_21 : decode cX11_bits 21 = .ok (.goto (-17), 3) := by decide +kernel
theorem dX11_bits_24 : decode cX11_bits 24 = .ok (.iload_n 1, 1) := by decide +kernel
theorem dX11_bits_25 : decode cX11_bits 25 = .ok (.ireturn, 1) := by decide +kernel
theorem dX11_findApart_0 : decode cX11_findApart 0 = .ok (.iconst 0, 1) := by decide +kernel
theorem dX11_findApart_1 : decode cX11_findApart 1 = .ok (.istore_n 1, 1) := by decide +kernel
theorem dX11_findApart_2 : decode cX11_findApart 2 = .ok (.iconst 0, 1) := by decide +kernel
theorem dX11_findApart_3 : decode cX11_findApart 3 = .ok (.istore_n 2, 1) := by decide +kernel
theorem dX11_findApart_4 : decode cX11_findApart 4 = .ok (.iload_n 2, 1) := by decide +kernel
theorem dX11_findApart_5 : decode cX11_findApart 5 = .ok (.iconst 1, 1) := by decide +kernel
theorem dX11_findApart_6 : decode cX11_findApart 6 = .ok (.aload_n 0, 1) := by decide +kernel
theorem dX11_findApart_7 : decode cX11_findApart 7 = .ok (.invokevirtual 264, 3) := by decide +kernel
theorem dX11_findApart_10 : decode cX11_findApart 10 = .ok (.ishl, 1) := by decide +kernel
theorem dX11_findApart_11 : decode cX11_findApart 11 = .ok (.if_icmp .ge 34, 3) := by decide +kernel
theorem dX11_findApart_14 : decode cX11_findApart 14 = .ok (.iload_n 2, 1) := by decide +kernel
theorem dX11_findApart_15 : decode cX11_findApart 15 = .ok (.invokestatic 370, 3) := by decide +kernel
theorem dX11_findApart_18 : decode cX11_findApart 18 = .ok (.iload_n 1, 1) := by decide +kernel
theorem dX11_findApart_19 : decode cX11_findApart 19 = .ok (.invokestatic 370, 3) := by decide +kernel
theorem dX11_findApart_22 : decode cX11_findApart 22 = .ok (.if_icmp .le 15, 3) := by decide +kernel
theorem dX11_findApart_37 : decode cX11_findApart 37 = .ok (.iload_n 1, 1) := by decide +kernel
theorem dX11_findApart_38 : decode cX11_findApart 38 = .ok (.istore_n 1, 1) := by decide +kernel
theorem dX11_findApart_39 : decode cX11_findApart 39 = .ok (.iinc 2 1, 3) := by decide +kernel
theorem dX11_findApart_42 : decode cX11_findApart 42 = .ok (.goto (-38), 3) := by decide +kernel
theorem dX11_findApart_45 : decode cX11_findApart 45 = .ok (.iload_n 1, 1) := by decide +kernel
theorem dX11_findApart_46 : decode cX11_findApart 46 = .ok (.ireturn, 1) := by decide +kernel
theorem dX11_rows_0 : decode cX11_rows 0 = .ok (.aload_n 0, 1) := by decide +kernel
theorem dX11_rows_1 : decode cX11_rows 1 = .ok (.iconst 0, 1) := by decide +kernel
theorem dX11_rows_2 : decode cX11_rows 2 = .ok (.putfield 1, 3) := by decide +kernel
theorem dX11_rows_5 : decode cX11_rows 5 = .ok (.iload_n 1, 1) := by decide +kernel
theorem dX11_rows_6 : decode cX11_rows 6 = .ok (.iconst 0, 1) := by decide +kernel
theorem dX11_rows_7 : decode cX11_rows 7 = .ok (.iconst 1, 1) := by decide +kernel
theorem dX11_rows_8 : decode cX11_rows 8 = .ok (.invokestatic 280, 3) := by decide +kernel
theorem dX11_rows_11 : decode cX11_rows 11 = .ok (.ifCond .eq 10, 3) := by decide +kernel
theorem dX11_rows_14 : decode cX11_rows 14 = .ok (.aload_n 0, 1) := by decide +kernel
theorem dX11_rows_15 : decode cX11_rows 15 = .ok (.invokevirtual 376, 3) := by decide +kernel
theorem dX11_rows_18 : decode cX11_rows 18 = .ok (.ifCond .eq 5, 3) := by decide +kernel
theorem dX11_rows_21 : decode cX11_rows 21 = .ok (.iconst (-1), 1) := by decide +kernel
theorem dX11_rows_22 : decode cX11_rows 22 = .ok (.ireturn, 1) := by decide +kernel
theorem dX11_rows_23 : decode cX11_rows 23 = .ok (.aload_n 0, 1) := by decide +kernel
theorem dX11_rows_24 : decode cX11_rows 24 = .ok (.invokevirtual 379, 3) := by decide +kernel
theorem dX11_rows_27 : decode cX11_rows 27 = .ok (.istore_n 2, 1) := by decide +kernel
theorem dX11_rows_28 : decode cX11_rows 28 = .ok (.iload_n 1, 1) := by decide +kernel
theorem dX11_rows_29 : decode cX11_rows 29 = .ok (.ifCond .ne 10, 3) := by decide +kernel
theorem dX11_rows_32 : decode cX11_rows 32 = .ok (.iload_n 2, 1) := by decide +kernel
theorem dX11_rows_33 : decode cX11_rows 33 = .ok (.invokestatic 370, 3) := by decide +kernel
theorem dX11_rows_36 : decode cX11_rows 36 = .ok (.goto 4, 3) := by decide +kernel
theorem dX11_rows_39 : decode cX11_rows 39 = .ok (.iload_n 2, 1) := by decide +kernel
theorem dX11_rows_40 : decode cX11_rows 40 = .ok (.ireturn, 1) := by decide +kernel
theorem dX11_rowOf_0 : decode cX11_rowOf 0 = .ok (.aload_n 0, 1) := by decide +kernel
theorem dX11_rowOf_1 : decode cX11_rowOf 1 = .ok (.iconst 0, 1) := by decide +kernel
theorem dX11_rowOf_2 : decode cX11_rowOf 2 = .ok (.putfield 1, 3) := by decide +kernel
theorem dX11_rowOf_5 : decode cX11_rowOf 5 = .ok (.aload_n 0, 1) := by decide +kernel
theorem dX11_rowOf_6 : decode cX11_rowOf 6 = .ok (.iload_n 1, 1) := by decide +kernel
theorem dX11_rowOf_7 : decode cX11_rowOf 7 = .ok (.invokevirtual 277, 3) := by decide +kernel
theorem dX11_rowOf_10 : decode cX11_rowOf 10 = .ok (.ifCond .eq 10, 3) := by decide +kernel
theorem dX11_rowOf_20 : decode cX11_rowOf 20 = .ok (.iconst (-1), 1) := by decide +kernel
theorem dX11_rowOf_21 : decode cX11_rowOf 21 = .ok (.ireturn, 1) := by decide +kernel
theorem dX11_needed_0 : decode cX11_needed 0 = .ok (.aload_n 0, 1) := by decide +kernel
theorem dX11_needed_1 : decode cX11_needed 1 = .ok (.iconst 0, 1) := by decide +kernel
theorem dX11_needed_2 : decode cX11_needed 2 = .ok (.putfield 1, 3) := by decide +kernel
theorem dX11_needed_5 : decode cX11_needed 5 = .ok (.iload_n 1, 1) := by decide +kernel
theorem dX11_needed_6 : decode cX11_needed 6 = .ok (.iconst 1, 1) := by decide +kernel
theorem dX11_needed_7 : decode cX11_needed 7 = .ok (.sipush 999, 3) := by decide +kernel
theorem dX11_needed_10 : decode cX11_needed 10 = .ok (.invokestatic 280, 3) := by decide +kernel
theorem dX11_needed_13 : decode cX11_needed 13 = .ok (.ifCond .ne 5, 3) := by decide +kernel
theorem dX11_needed_16 : decode cX11_needed 16 = .ok (.iconst (-1), 1) := by decide +kernel
theorem dX11_needed_17 : decode cX11_needed 17 = .ok (.ireturn, 1) := by decide +kernel
theorem dX11_needed_18 : decode cX11_needed 18 = .ok (.aload_n 0, 1) := by decide +kernel
theorem dX11_needed_19 : decode cX11_needed 19 = .ok (.invokevirtual 364, 3) := by decide +kernel
theorem dX11_needed_22 : decode cX11_needed 22 = .ok (.aload_n 0, 1) := by decide +kernel
theorem dX11_needed_23 : decode cX11_needed 23 = .ok (.getfield 133, 3) := by decide +kernel
theorem dX11_needed_26 : decode cX11_needed 26 = .ok (.iconst 0, 1) := by decide +kernel
theorem dX11_needed_27 : decode cX11_needed 27 = .ok (.iconst 0, 1) := by decide +kernel
theorem dX11_needed_28 : decode cX11_needed 28 = .ok (.iastore, 1) := by decide +kernel
theorem dX11_needed_29 : decode cX11_needed 29 = .ok (.iconst 1, 1) := by decide +kernel
theorem dX11_needed_30 : decode cX11_needed 30 = .ok (.istore_n 2, 1) := by decide +kernel
theorem dX11_needed_31 : decode cX11_needed 31 = .ok (.iload_n 2, 1) := by decide +kernel
theorem dX11_needed_32 : decode cX11_needed 32 = .ok (.iconst 1, 1) := by decide +kernel
theorem dX11_needed_33 : decode cX11_needed 33 = .ok (.aload_n 0, 1) := by decide +kernel
theorem dX11_needed_34 : decode cX11_needed 34 = .ok (.invokevirtual 264, 3) := by decide +kernel
theorem dX11_needed_37 : decode cX11_needed 37 = .ok (.ishl, 1) := by decide +kernel
theorem dX11_needed_38 : decode cX11_needed 38 = .ok (.if_icmp .ge 110, 3) := by decide +kernel
theorem dX11_needed_148 : decode cX11_needed 148 = .ok (.aload_n 0, 1) := by decide +kernel
theorem dX11_needed_149 : decode cX11_needed 149 = .ok (.getfield 133, 3) := by decide +kernel
theorem dX11_needed_152 : decode cX11_needed 152 = .ok (.iconst 1, 1) := by decide +kernel
theorem dX11_needed_153 : decode cX11_needed 153 = .ok (.aload_n 0, 1) := by decide +kernel
theorem dX11_needed_154 : decode cX11_needed 154 = .ok (.invokevirtual 264, 3) := by decide +kernel
theorem dX11_needed_157 : decode cX11_needed 157 = .ok (.ishl, 1) := by decide +kernel
theorem dX11_needed_158 : decode cX11_needed 158 = .ok (.iconst 1, 1) := by decide +kernel
theorem dX11_needed_159 : decode cX11_needed 159 = .ok (.isub, 1) := by decide +kernel
theorem dX11_needed_160 : decode cX11_needed 160 = .ok (.iaload, 1) := by decide +kernel
theorem dX11_needed_161 : decode cX11_needed 161 = .ok (.istore_n 2, 1) := by decide +kernel
theorem dX11_needed_162 : decode cX11_needed 162 = .ok (.iload_n 2, 1) := by decide +kernel
theorem dX11_needed_163 : decode cX11_needed 163 = .ok (.ldc_w 363, 3) := by decide +kernel
theorem dX11_needed_166 : decode cX11_needed 166 = .ok (.if_icmp .ge 7, 3) := by decide +kernel
theorem dX11_needed_169 : decode cX11_needed 169 = .ok (.iload_n 2, 1) := by decide +kernel
theorem dX11_needed_170 : decode cX11_needed 170 = .ok (.goto 4, 3) := by decide +kernel
theorem dX11_needed_174 : decode cX11_needed 174 = .ok (.ireturn, 1) := by decide +kernel
theorem dX11_sorted_0 : decode cX11_sorted 0 = .ok (.aload_n 0, 1) := by decide +kernel
theorem dX11_sorted_1 : decode cX11_sorted 1 = .ok (.iconst 0, 1) := by decide +kernel
theorem dX11_sorted_2 : decode cX11_sorted 2 = .ok (.putfield 1, 3) := by decide +kernel
theorem dX11_sorted_5 : decode cX11_sorted 5 = .ok (.aload_n 0, 1) := by decide +kernel
theorem dX11_sorted_6 : decode cX11_sorted 6 = .ok (.invokevirtual 364, 3) := by decide +kernel
theorem dX11_sorted_9 : decode cX11_sorted 9 = .ok (.iload_n 1, 1) := by decide +kernel
theorem dX11_sorted_10 : decode cX11_sorted 10 = .ok (.iconst 1, 1) := by decide +kernel
theorem dX11_sorted_11 : decode cX11_sorted 11 = .ok (.if_icmp .lt 45, 3) := by decide +kernel
theorem dX11_sorted_14 : decode cX11_sorted 14 = .ok (.iload_n 1, 1) := by decide +kernel
theorem dX11_sorted_15 : decode cX11_sorted 15 = .ok (.iconst 1, 1) := by decide +kernel
theorem dX11_sorted_16 : decode cX11_sorted 16 = .ok (.aload_n 0, 1) := by decide +kernel
theorem dX11_sorted_17 : decode cX11_sorted 17 = .ok (.invokevirtual 264, 3) := by decide +kernel
theorem dX11_sorted_20 : decode cX11_sorted 20 = .ok (.ishl, 1) := by decide +kernel
theorem dX11_sorted_21 : decode cX11_sorted 21 = .ok (.if_icmp .ge 35, 3) := by decide +kernel
theorem dX11_sorted_56 : decode cX11_sorted 56 = .ok (.iconst (-1), 1) := by decide +kernel
theorem dX11_sorted_57 : decode cX11_sorted 57 = .ok (.ireturn, 1) := by decide +kernel
theorem dX11_goes_0 : decode cX11_goes 0 = .ok (.aload_n 0, 1) := by decide +kernel
theorem dX11_goes_1 : decode cX11_goes 1 = .ok (.iconst 0, 1) := by decide +kernel
theorem dX11_goes_2 : decode cX11_goes 2 = .ok (.putfield 1, 3) := by decide +kernel
theorem dX11_goes_5 : decode cX11_goes 5 = .ok (.aload_n 0, 1) := by decide +kernel
theorem dX11_goes_6 : decode cX11_goes 6 = .ok (.iload_n 1, 1) := by decide +kernel
theorem dX11_goes_7 : decode cX11_goes 7 = .ok (.invokevirtual 277, 3) := by decide +kernel
theorem dX11_goes_10 : decode cX11_goes 10 = .ok (.ifCond .eq 29, 3) := by decide +kernel
theorem dX11_goes_39 : decode cX11_goes 39 = .ok (.iconst (-1), 1) := by decide +kernel
theorem dX11_goes_40 : decode cX11_goes 40 = .ok (.ireturn, 1) := by decide +kernel
theorem dX11_ask_0 : decode cX11_ask 0 = .ok (.aload_n 0, 1) := by decide +kernel
theorem dX11_ask_1 : decode cX11_ask 1 = .ok (.iconst 0, 1) := by decide +kernel
theorem dX11_ask_2 : decode cX11_ask 2 = .ok (.putfield 1, 3) := by decide +kernel
theorem dX11_ask_5 : decode cX11_ask 5 = .ok (.aload_n 0, 1) := by decide +kernel
theorem dX11_ask_6 : decode cX11_ask 6 = .ok (.iload_n 1, 1) := by decide +kernel
theorem dX11_ask_7 : decode cX11_ask 7 = .ok (.invokevirtual 277, 3) := by decide +kernel
theorem dX11_ask_10 : decode cX11_ask 10 = .ok (.ifCond .eq 12, 3) := by decide +kernel
theorem dX11_ask_22 : decode cX11_ask 22 = .ok (.iconst (-1), 1) := by decide +kernel
theorem dX11_ask_23 : decode cX11_ask 23 = .ok (.ireturn, 1) := by decide +kernel
theorem dX11_clear_0 : decode cX11_clear 0 = .ok (.aload_n 0, 1) := by decide +kernel
theorem dX11_clear_1 : decode cX11_clear 1 = .ok (.iconst 0, 1) := by decide +kernel
theorem dX11_clear_2 : decode cX11_clear 2 = .ok (.putfield 1, 3) := by decide +kernel
theorem dX11_clear_5 : decode cX11_clear 5 = .ok (.aload_n 0, 1) := by decide +kernel
theorem dX11_clear_6 : decode cX11_clear 6 = .ok (.getfield 108, 3) := by decide +kernel
theorem dX11_clear_9 : decode cX11_clear 9 = .ok (.sipush 421, 3) := by decide +kernel
theorem dX11_clear_12 : decode cX11_clear 12 = .ok (.iconst 0, 1) := by decide +kernel
theorem dX11_clear_13 : decode cX11_clear 13 = .ok (.iastore, 1) := by decide +kernel
theorem dX11_clear_14 : decode cX11_clear 14 = .ok (.iconst 1, 1) := by decide +kernel
theorem dX11_clear_15 : decode cX11_clear 15 = .ok (.ireturn, 1) := by decide +kernel
theorem dX11_asked_0 : decode cX11_asked 0 = .ok (.aload_n 0, 1) := by decide +kernel
theorem dX11_asked_1 : decode cX11_asked 1 = .ok (.iconst 0, 1) := by decide +kernel
theorem dX11_asked_2 : decode cX11_asked 2 = .ok (.putfield 1, 3) := by decide +kernel
theorem dX11_asked_5 : decode cX11_asked 5 = .ok (.iconst 0, 1) := by decide +kernel
theorem dX11_asked_6 : decode cX11_asked 6 = .ok (.istore_n 1, 1) := by decide +kernel
theorem dX11_asked_7 : decode cX11_asked 7 = .ok (.iconst 0, 1) := by decide +kernel
theorem dX11_asked_8 : decode cX11_asked 8 = .ok (.istore_n 2, 1) := by decide +kernel
theorem dX11_asked_9 : decode cX11_asked 9 = .ok (.iload_n 2, 1) := by decide +kernel
theorem dX11_asked_10 : decode cX11_asked 10 = .ok (.aload_n 0, 1) := by decide +kernel
theorem dX11_asked_11 : decode cX11_asked 11 = .ok (.invokevirtual 410, 3) := by decide +kernel
theorem dX11_asked_14 : decode cX11_asked 14 = .ok (.if_icmp .ge 39, 3) := by decide +kernel
theorem dX11_asked_53 : decode cX11_asked 53 = .ok (.iload_n 1, 1) := by decide +kernel
theorem dX11_asked_54 : decode cX11_asked 54 = .ok (.ireturn, 1) := by decide +kernel
theorem dX11_best_0 : decode cX11_best 0 = .ok (.aload_n 0, 1) := by decide +kernel
theorem dX11_best_1 : decode cX11_best 1 = .ok (.iconst 0, 1) := by decide +kernel
theorem dX11_best_2 : decode cX11_best 2 = .ok (.putfield 1, 3) := by decide +kernel
theorem dX11_best_5 : decode cX11_best 5 = .ok (.aload_n 0, 1) := by decide +kernel
theorem dX11_best_6 : decode cX11_best 6 = .ok (.iconst 0, 1) := by decide +kernel
theorem dX11_best_7 : decode cX11_best 7 = .ok (.iload_n 1, 1) := by decide +kernel
theorem dX11_best_8 : decode cX11_best 8 = .ok (.iload_n 2, 1) := by decide +kernel
theorem dX11_best_9 : decode cX11_best 9 = .ok (.invokevirtual 318, 3) := by decide +kernel
theorem dX11_best_12 : decode cX11_best 12 = .ok (.ifCond .eq 38, 3) := by decide +kernel
theorem dX11_best_50 : decode cX11_best 50 = .ok (.iconst (-1), 1) := by decide +kernel
theorem dX11_best_51 : decode cX11_best 51 = .ok (.ireturn, 1) := by decide +kernel
theorem dX11_habit_0 : decode cX11_habit 0 = .ok (.aload_n 0, 1) := by decide +kernel
theorem dX11_habit_1 : decode cX11_habit 1 = .ok (.iconst 0, 1) := by decide +kernel
theorem dX11_habit_2 : decode cX11_habit 2 = .ok (.putfield 1, 3) := by decide +kernel
theorem dX11_habit_5 : decode cX11_habit 5 = .ok (.iconst 0, 1) := by decide +kernel
theorem dX11_habit_6 : decode cX11_habit 6 = .ok (.istore_n 2, 1) := by decide +kernel
theorem dX11_habit_7 : decode cX11_habit 7 = .ok (.iconst 0, 1) := by decide +kernel
theorem dX11_habit_8 : decode cX11_habit 8 = .ok (.istore_n 3, 1) := by decide +kernel
theorem dX11_habit_9 : decode cX11_habit 9 = .ok (.iconst 0, 1) := by decide +kernel
theorem dX11_habit_10 : decode cX11_habit 10 = .ok (.istore 4, 2) := by decide +kernel
theorem dX11_habit_12 : decode cX11_habit 12 = .ok (.iload 4, 2) := by decide +kernel
theorem dX11_habit_14 : decode cX11_habit 14 = .ok (.aload_n 0, 1) := by decide +kernel
theorem dX11_habit_15 : decode cX11_habit 15 = .ok (.invokevirtual 264, 3) := by decide +kernel
theorem dX11_habit_18 : decode cX11_habit 18 = .ok (.if_icmp .ge 49, 3) := by decide +kernel
theorem dX11_habit_67 : decode cX11_habit 67 = .ok (.iload_n 1, 1) := by decide +kernel
theorem dX11_habit_68 : decode cX11_habit 68 = .ok (.iconst 0, 1) := by decide +kernel
theorem dX11_habit_69 : decode cX11_habit 69 = .ok (.iconst 1, 1) := by decide +kernel
theorem dX11_habit_70 : decode cX11_habit 70 = .ok (.invokestatic 280, 3) := by decide +kernel
theorem dX11_habit_73 : decode cX11_habit 73 = .ok (.ifCond .eq 7, 3) := by decide +kernel
theorem dX11_habit_76 : decode cX11_habit 76 = .ok (.iload_n 2, 1) := by decide +kernel
theorem dX11_habit_77 : decode cX11_habit 77 = .ok (.ifCond .ne 5, 3) := by decide +kernel
theorem dX11_habit_80 : decode cX11_habit 80 = .ok (.iconst (-1), 1) := by decide +kernel
theorem dX11_habit_81 : decode cX11_habit 81 = .ok (.ireturn, 1) := by decide +kernel
theorem dX11_count_0 : decode cX11_count 0 = .ok (.aload_n 0, 1) := by decide +kernel
theorem dX11_count_1 : decode cX11_count 1 = .ok (.iconst 0, 1) := by decide +kernel
theorem dX11_count_2 : decode cX11_count 2 = .ok (.putfield 1, 3) := by decide +kernel
theorem dX11_count_5 : decode cX11_count 5 = .ok (.iconst 0, 1) := by decide +kernel
theorem dX11_count_6 : decode cX11_count 6 = .ok (.istore_n 2, 1) := by decide +kernel
theorem dX11_count_7 : decode cX11_count 7 = .ok (.iload_n 1, 1) := by decide +kernel
theorem dX11_count_8 : decode cX11_count 8 = .ok (.tableswitch 102 0 5 #[40, 45, 50, 57, 92, 97], 40) := by decide +kernel
theorem dX11_count_48 : decode cX11_count 48 = .ok (.aload_n 0, 1) := by decide +kernel
theorem dX11_count_49 : decode cX11_count 49 = .ok (.invokevirtual 264, 3) := by decide +kernel
theorem dX11_count_52 : decode cX11_count 52 = .ok (.ireturn, 1) := by decide +kernel
theorem dX11_count_53 : decode cX11_count 53 = .ok (.aload_n 0, 1) := by decide +kernel
theorem dX11_count_54 : decode cX11_count 54 = .ok (.invokevirtual 268, 3) := by decide +kernel
theorem dX11_count_57 : decode cX11_count 57 = .ok (.ireturn, 1) := by decide +kernel
theorem dX11_count_58 : decode cX11_count 58 = .ok (.aload_n 0, 1) := by decide +kernel
theorem dX11_count_59 : decode cX11_count 59 = .ok (.getfield 83, 3) := by decide +kernel
theorem dX11_count_62 : decode cX11_count 62 = .ok (.iconst 2, 1) := by decide +kernel
theorem dX11_count_63 : decode cX11_count 63 = .ok (.iaload, 1) := by decide +kernel
theorem dX11_count_64 : decode cX11_count 64 = .ok (.ireturn, 1) := by decide +kernel
theorem dX11_count_65 : decode cX11_count 65 = .ok (.iconst 0, 1) := by decide +kernel
theorem dX11_count_66 : decode cX11_count 66 = .ok (.istore_n 3, 1) := by decide +kernel
theorem dX11_count_67 : decode cX11_count 67 = .ok (.iload_n 3, 1) := by decide +kernel
theorem dX11_count_68 : decode cX11_count 68 = .ok (.aload_n 0, 1) := by decide +kernel
theorem dX11_count_69 : decode cX11_count 69 = .ok (.invokevirtual 264, 3) := by decide +kernel
theorem dX11_count_72 : decode cX11_count 72 = .ok (.if_icmp .ge 26, 3) := by decide +kernel
theorem dX11_count_98 : decode cX11_count 98 = .ok (.iload_n 2, 1) := by decide +kernel
theorem dX11_count_99 : decode cX11_count 99 = .ok (.ireturn, 1) := by decide +kernel
theorem dX11_count_100 : decode cX11_count 100 = .ok (.aload_n 0, 1) := by decide +kernel
theorem dX11_count_101 : decode cX11_count 101 = .ok (.invokevirtual 410, 3) := by decide +kernel
theorem dX11_count_104 : decode cX11_count 104 = .ok (.ireturn, 1) := by decide +kernel
theorem dX11_count_105 : decode cX11_count 105 = .ok (.aload_n 0, 1) := by decide +kernel
theorem dX11_count_106 : decode cX11_count 106 = .ok (.getfield 11, 3) := by decide +kernel
theorem dX11_count_109 : decode cX11_count 109 = .ok (.ireturn, 1) := by decide +kernel
theorem dX11_count_110 : decode cX11_count 110 = .ok (.iconst (-1), 1) := by decide +kernel
theorem dX11_count_111 : decode cX11_count 111 = .ok (.ireturn, 1) := by decide +kernel
set_option maxHeartbeats 4000000 in
set_option maxRecDepth 100000 in
theorem c_X11_find (l : Launch) (D : va_G) (cyC cyI cyJ cyZ cyO : ClassId) (g0 : Nat) (g1 : Nat) (g2 : Nat) (g3 : Nat) (g4 : Nat) (g5 : Nat) (g6 : Nat) (g7 : Nat) (g8 : Nat) (g9 : Nat) (g10 : Nat) (g11 : Nat) (g12 : Nat) (g13 : Nat) (g14 : Nat) (g15 : Nat) (g16 : Nat) (g17 : Nat) (g18 : Nat) (g19 : Nat) (g20 : Nat) (g21 : Nat) (g22 : Nat) (g23 : Nat) (g24 : Nat) (g25 : Nat) : KK l D (TY cyC cyI cyJ cyZ cyO) yX11_find cX11_find 5 none ({ frames := 1, cells := 0, slots := 0, locals := 20 } : Room) 0 0 [.ref g0] [(g0, .inr (11, [.int 0, .ref g1, .int 0, .int 0, .ref g2, .ref g3, .ref g4, .int 0, .int 0, .ref g5, .ref g6, .ref g7, .ref g8, .int 0, .ref g9, .ref g10, .int 1, .ref g11, .ref g12, .ref g13, .ref g14, .ref g15, .int 0, .int 0, .int 0, .ref g16, .int 0, .ref g17, .ref g18, .ref g19, .ref g20, .ref g21, .ref g22, .int 0, .int 0, .int 0, .ref g23, .ref g24, .int 0, .int 0, .int 0, .int 0, .ref g25])), (g6, .inl (cyI, 240, .inl (fun _ => 0))), (g20, .inl (cyI, 4096, .inl (fun _ => 0)))] (fun u => none) (fun u => True) (fun u => [(g0, .inr (11, [.int 0, .ref g1, .int 0, .int 0, .ref g2, .ref g3, .ref g4, .int 0, .int 0, .ref g5, .ref g6, .ref g7, .ref g8, .int 0, .ref g9, .ref g10, .int 0, .ref g11, .ref g12, .ref g13, .ref g14, .ref g15, .int 0, .int 0, .int 0, .ref g16, .int 0, .ref g17, .ref g18, .ref g19, .ref g20, .ref g21, .ref g22, .int 0, .int 0, .int 0, .ref g23, .ref g24, .int 0, .int 0, .int 0, .int 0, .ref g25])), (g6, .inl (cyI, 240, .inl (fun _ => 0))), (g20, .inl (cyI, 4096, .inl (upd (fun _ => 0) 0 0)))]) := by
  refine KK.of (lv0 := [(0, .ref g0)]) (by decide) rfl (Nat.le_of_ble_eq_true rfl) ?_
  intro p e s m args below meth c A C hr hk hin
  refine j_aload_n (pc := 0) C dX11_find_0 rfl 0 rfl ?_
  refine j_get (pc := 1) (ci := 11) (v := .int 1) C inw_11 0 rfl rfl 16 (by decide) wd_168 rfl rfl dX11_find_1 ?_
  refine j_if_ne_t (pc := 4) (tgt := 8) C dX11_find_4 (by decide) (by decide) ?_
  refine j_aload_n (pc := 8) C dX11_find_8 rfl 0 rfl ?_
  refine j_iconst (pc := 9) (v := 0) C dX11_find_9 (by decide) ?_
  refine j_put (pc := 10) (ci := 11) (v := .int 0) (ws' := [(g0, .inr (11, [.int 0, .ref g1, .int 0, .int 0, .ref g2, .ref g3, .ref g4, .int 0, .int 0, .ref g5, .ref g6, .ref g7, .ref g8, .int 0, .ref g9, .ref g10, .int 0, .ref g11, .ref g12, .ref g13, .ref g14, .ref g15, .int 0, .int 0, .int 0, .ref g16, .int 0, .ref g17, .ref g18, .ref g19, .ref g20, .ref g21, .ref g22, .int 0, .int 0, .int 0, .ref g23, .ref g24, .int 0, .int 0, .int 0, .int 0, .ref g25])), (g6, .inl (cyI, 240, .inl (fun _ => 0))), (g20, .inl (cyI, 4096, .inl (fun _ => 0)))]) C inw_11 0 rfl rfl 16 (by decide) wd_168 rfl tyX11_ok nmX11 rfl (tyX11_ok 16 (by decide)) rfl rfl (Nat.le_of_ble_eq_true rfl) dX11_find_10 rfl ?_
  refine j_aload_n (pc := 13) C dX11_find_13 rfl 0 rfl ?_
  refine j_callV (pc := 14) (As := []) (rest := []) (wr := [(g20, .inl (cyI, 4096, .inl (fun _ => 0)))]) C (c_X11_wares l D cyC cyI cyJ cyZ cyO 0 g0 g1 g2 g3 g4 g5 g6 g7 g8 g9 g10 g11 g12 g13 g14 g15 g16 g17 g18 g19 g20 g21 g22 g23 g24 g25) wd_312 wd_313 wd_314 wd_315 wd_316 ⟨by decide, by decide, rfl⟩ rfl ⟨rfl, rfl, by decide, by decide⟩ ⟨by decide, by decide⟩ [0, 1] [2] rfl rfl ⟨by decide, by decide, by decide⟩ 0 rfl rfl rfl (Nat.le_of_ble_eq_true rfl) dX11_find_14 (fun u_1 hw_2 => ?_)
  refine j_eq (ws2 := [(g20, .inl (cyI, 4096, .inl (fun _ => 0))), (g0, .inr (11, [.int 0, .ref g1, .int 0, .int 0, .ref g2, .ref g3, .ref g4, .int 0, .int 0, .ref g5, .ref g6, .ref g7, .ref g8, .int 0, .ref g9, .ref g10, .int 0, .ref g11, .ref g12, .ref g13, .ref g14, .ref g15, .int 0, .int 0, .int 0, .ref g16, .int 0, .ref g17, .ref g18, .ref g19, .ref g20, .ref g21, .ref g22, .int 0, .int 0, .int 0, .ref g23, .ref g24, .int 0, .int 0, .int 0, .int 0, .ref g25])), (g6, .inl (cyI, 240, .inl (fun _ => 0)))]) (pc2 := 17) (lv2 := [(0, .ref g0)]) (st2 := [.int 0]) rfl rfl rfl rfl ?_
  refine j_istore_n (pc := 17) (lv' := [(1, .int 0), (0, .ref g0)]) C dX11_find_17 rfl (by decide) rfl ?_
  refine j_iconst (pc := 18) (v := 0) C dX11_find_18 (by decide) ?_
  refine j_istore_n (pc := 19) (lv' := [(2, .int 0), (1, .int 0), (0, .ref g0)]) C dX11_find_19 rfl (by decide) rfl ?_
  refine j_iload_n (pc := 20) C dX11_find_20 rfl 0 rfl ?_
  refine j_iload_n (pc := 21) C dX11_find_21 rfl 1 rfl ?_
  refine j_icmp_ge_t (pc := 22) (tgt := 96) C dX11_find_22 (by decide) (by decide) ?_
  refine j_iconst (pc := 96) (v := 0) C dX11_find_96 (by decide) ?_
  refine j_istore_n (pc := 97) (lv' := [(2, .int 0), (1, .int 0), (0, .ref g0)]) C dX11_find_97 rfl (by decide) rfl ?_
  refine j_iload_n (pc := 98) C dX11_find_98 rfl 0 rfl ?_
  refine j_iload_n (pc := 99) C dX11_find_99 rfl 1 rfl ?_
  refine j_icmp_ge_t (pc := 100) (tgt := 198) C dX11_find_100 (by decide) (by decide) ?_
  refine j_aload_n (pc := 198) C dX11_find_198 rfl 2 rfl ?_
  refine j_get (pc := 199) (ci := 11) (v := .ref g20) C inw_11 1 rfl rfl 30 (by decide) wd_162 rfl rfl dX11_find_199 ?_
  refine j_iconst (pc := 202) (v := 0) C dX11_find_202 (by decide) ?_
  refine j_iconst (pc := 203) (v := 0) C dX11_find_203 (by decide) ?_
  refine j_iast (pc := 204) (k := 0) (ws' := [(g20, .inl (cyI, 4096, .inl (upd (fun _ => 0) 0 0))), (g0, .inr (11, [.int 0, .ref g1, .int 0, .int 0, .ref g2, .ref g3, .ref g4, .int 0, .int 0, .ref g5, .ref g6, .ref g7, .ref g8, .int 0, .ref g9, .ref g10, .int 0, .ref g11, .ref g12, .ref g13, .ref g14, .ref g15, .int 0, .int 0, .int 0, .ref g16, .int 0, .ref g17, .ref g18, .ref g19, .ref g20, .ref g21, .ref g22, .int 0, .int 0, .int 0, .ref g23, .ref g24, .int 0, .int 0, .int 0, .int 0, .ref g25])), (g6, .inl (cyI, 240, .inl (fun _ => 0)))]) C 0 1 rfl rfl (by decide) (by decide) (by decide) dX11_find_204 rfl ?_
  refine j_iconst (pc := 205) (v := 1) C dX11_find_205 (by decide) ?_
  refine j_istore_n (pc := 206) (lv' := [(2, .int 1), (1, .int 0), (0, .ref g0)]) C dX11_find_206 rfl (by decide) rfl ?_
  refine j_iload_n (pc := 207) C dX11_find_207 rfl 0 rfl ?_
  refine j_iconst (pc := 208) (v := 1) C dX11_find_208 (by decide) ?_
  refine j_iload_n (pc := 209) C dX11_find_209 rfl 1 rfl ?_
  refine j_ishl (pc := 210) (v := 1) C dX11_find_210 (by decide) ?_
  refine j_icmp_ge_t (pc := 211) (tgt := 225) C dX11_find_211 (by decide) (by decide) ?_
  exact j_vret (pc := 225) C hr hk (fun i => [].getD i 0, fun _ => 0, fun _ _ => 0) rfl trivial [1, 2, 0] (by decide) rfl (by decide) (by decide) dX11_find_225
set_option maxHeartbeats 4000000 in
set_option maxRecDepth 100000 in
theorem c_X11_isRound (l : Launch) (D : va_G) (cyC cyI cyJ cyZ cyO : ClassId) (g0 : Nat) (g1 : Nat) (g2 : Nat) (g3 : Nat) (g4 : Nat) (g5 : Nat) (g6 : Nat) (g7 : Nat) (g8 : Nat) (g9 : Nat) (g10 : Nat) (g11 : Nat) (g12 : Nat) (g13 : Nat) (g14 : Nat) (g15 : Nat) (g16 : Nat) (g17 : Nat) (g18 : Nat) (g19 : Nat) (g20 : Nat) (g21 : Nat) (g22 : Nat) (g23 : Nat) (g24 : Nat) (g25 : Nat) : KK l D (TY cyC cyI cyJ cyZ cyO) yX11_isRound cX11_isRound 3 (some .boolean) ({ frames := 2, cells := 0, slots := 0, locals := 44 } : Room) 0 0 [.ref g0] [(g0, .inr (11, [.int 0, .ref g1, .int 0, .int 0, .ref g2, .ref g3, .ref g4, .int 0, .int 0, .ref g5, .ref g6, .ref g7, .ref g8, .int 0, .ref g9, .ref g10, .int 1, .ref g11, .ref g12, .ref g13, .ref g14, .ref g15, .int 0, .int 0, .int 0, .ref g16, .int 0, .ref g17, .ref g18, .ref g19, .ref g20, .ref g21, .ref g22, .int 0, .int 0, .int 0, .ref g23, .ref g24, .int 0, .int 0, .int 0, .int 0, .ref g25])), (g6, .inl (cyI, 240, .inl (fun _ => 0))), (g20, .inl (cyI, 4096, .inl (fun _ => 0)))] (fun u => some (.int 0)) (fun u => True) (fun u => [(g0, .inr (11, [.int 0, .ref g1, .int 0, .int 0, .ref g2, .ref g3, .ref g4, .int 0, .int 0, .ref g5, .ref g6, .ref g7, .ref g8, .int 0, .ref g9, .ref g10, .int 0, .ref g11, .ref g12, .ref g13, .ref g14, .ref g15, .int 0, .int 0, .int 0, .ref g16, .int 0, .ref g17, .ref g18, .ref g19, .ref g20, .ref g21, .ref g22, .int 0, .int 0, .int 0, .ref g23, .ref g24, .int 0, .int 0, .int 0, .int 0, .ref g25])), (g6, .inl (cyI, 240, .inl (fun _ => 0))), (g20, .inl (cyI, 4096, .inl (upd (fun _ => 0) 0 0)))]) := by
  refine KK.of (lv0 := [(0, .ref g0)]) (by decide) rfl (Nat.le_of_ble_eq_true rfl) ?_
  intro p e s m args below meth c A C hr hk hin
  refine j_aload_n (pc := 0) C dX11_isRound_0 rfl 0 rfl ?_
  refine j_callV (pc := 1) (As := []) (rest := []) (wr := []) C (c_X11_find l D cyC cyI cyJ cyZ cyO g0 g1 g2 g3 g4 g5 g6 g7 g8 g9 g10 g11 g12 g13 g14 g15 g16 g17 g18 g19 g20 g21 g22 g23 g24 g25) wd_338 wd_313 wd_339 wd_340 wd_341 ⟨by decide, by decide, rfl⟩ rfl ⟨rfl, rfl, by decide, by decide⟩ ⟨by decide, by decide⟩ [0, 1, 2] [] rfl rfl ⟨by decide, by decide, by decide⟩ 0 rfl rfl rfl (Nat.le_of_ble_eq_true rfl) dX11_isRound_1 (fun u_1 hw_2 => ?_)
  refine j_eq (ws2 := [(g0, .inr (11, [.int 0, .ref g1, .int 0, .int 0, .ref g2, .ref g3, .ref g4, .int 0, .int 0, .ref g5, .ref g6, .ref g7, .ref g8, .int 0, .ref g9, .ref g10, .int 0, .ref g11, .ref g12, .ref g13, .ref g14, .ref g15, .int 0, .int 0, .int 0, .ref g16, .int 0, .ref g17, .ref g18, .ref g19, .ref g20, .ref g21, .ref g22, .int 0, .int 0, .int 0, .ref g23, .ref g24, .int 0, .int 0, .int 0, .int 0, .ref g25])), (g6, .inl (cyI, 240, .inl (fun _ => 0))), (g20, .inl (cyI, 4096, .inl (upd (fun _ => 0) 0 0)))]) (pc2 := 4) (lv2 := [(0, .ref g0)]) (st2 := []) rfl rfl rfl rfl ?_
  refine j_iconst (pc := 4) (v := 0) C dX11_isRound_4 (by decide) ?_
  refine j_istore_n (pc := 5) (lv' := [(1, .int 0), (0, .ref g0)]) C dX11_isRound_5 rfl (by decide) rfl ?_
  refine j_iconst (pc := 6) (v := 0) C dX11_isRound_6 (by decide) ?_
  refine j_istore_n (pc := 7) (lv' := [(2, .int 0), (1, .int 0), (0, .ref g0)]) C dX11_isRound_7 rfl (by decide) rfl ?_
  refine j_iload_n (pc := 8) C dX11_isRound_8 rfl 0 rfl ?_
  refine j_aload_n (pc := 9) C dX11_isRound_9 rfl 2 rfl ?_
  refine j_callV (pc := 10) (As := []) (rest := [.int 0]) (wr := [(g20, .inl (cyI, 4096, .inl (upd (fun _ => 0) 0 0)))]) C (c_X11_wares l D cyC cyI cyJ cyZ cyO 0 g0 g1 g2 g3 g4 g5 g6 g7 g8 g9 g10 g11 g12 g13 g14 g15 g16 g17 g18 g19 g20 g21 g22 g23 g24 g25) wd_312 wd_313 wd_314 wd_315 wd_316 ⟨by decide, by decide, rfl⟩ rfl ⟨rfl, rfl, by decide, by decide⟩ ⟨by decide, by decide⟩ [0, 1] [2] rfl rfl ⟨by decide, by decide, by decide⟩ 0 rfl rfl rfl (Nat.le_of_ble_eq_true rfl) dX11_isRound_10 (fun u_3 hw_4 => ?_)
  refine j_eq (ws2 := [(g20, .inl (cyI, 4096, .inl (upd (fun _ => 0) 0 0))), (g0, .inr (11, [.int 0, .ref g1, .int 0, .int 0, .ref g2, .ref g3, .ref g4, .int 0, .int 0, .ref g5, .ref g6, .ref g7, .ref g8, .int 0, .ref g9, .ref g10, .int 0, .ref g11, .ref g12, .ref g13, .ref g14, .ref g15, .int 0, .int 0, .int 0, .ref g16, .int 0, .ref g17, .ref g18, .ref g19, .ref g20, .ref g21, .ref g22, .int 0, .int 0, .int 0, .ref g23, .ref g24, .int 0, .int 0, .int 0, .int 0, .ref g25])), (g6, .inl (cyI, 240, .inl (fun _ => 0)))]) (pc2 := 13) (lv2 := [(2, .int 0), (1, .int 0), (0, .ref g0)]) (st2 := [.int 0, .int 0]) rfl rfl rfl rfl ?_
  refine j_icmp_ge_t (pc := 13) (tgt := 46) C dX11_isRound_13 (by decide) (by decide) ?_
  refine j_iload_n (pc := 46) C dX11_isRound_46 rfl 1 rfl ?_
  exact j_zret (pc := 47) C hr rfl hk (fun i => [].getD i 0, fun _ => 0, fun _ _ => 0) rfl trivial [1, 2, 0] (by decide) rfl (by decide) (by decide) dX11_isRound_47
set_option maxHeartbeats 4000000 in
set_option maxRecDepth 100000 in
theorem c_X11_bits (l : Launch) (D : va_G) (cyC cyI cyJ cyZ cyO : ClassId) : KK l D (TY cyC cyI cyJ cyZ cyO) yX11_bits cX11_bits 3 (some .int) ({ frames := 0, cells := 0, slots := 0, locals := 0 } : Room) 0 0 [.int 0] [] (fun u => some (.int 0)) (fun u => True) (fun u => []) := by
  refine KK.of (lv0 := [(0, .int 0)]) (by decide) rfl (Nat.le_of_ble_eq_true rfl) ?_
  intro p e s m args below meth c A C hr hk hin
  refine j_iconst (pc := 0) (v := 0) C dX11_bits_0 (by decide) ?_
  refine j_istore_n (pc := 1) (lv' := [(1, .int 0), (0, .int 0)]) C dX11_bits_1 rfl (by decide) rfl ?_
  refine j_iconst (pc := 2) (v := 0) C dX11_bits_2 (by decide) ?_
  refine j_istore_n (pc := 3) (lv' := [(2, .int 0), (1, .int 0), (0, .int 0)]) C dX11_bits_3 rfl (by decide) rfl ?_
  refine j_iload_n (pc := 4) C dX11_bits_4 rfl 0 rfl ?_
  refine j_bipush (pc := 5) (v := 12) C dX11_bits_5 (by decide) ?_
  refine j_icmp_ge_f (pc := 7) (tgt := 24) C dX11_bits_7 (by decide) (by decide) ?_
  refine j_iload_n (pc := 10) C dX11_bits_10 rfl 1 rfl ?_
  refine j_iload_n (pc := 11) C dX11_bits_11 rfl 2 rfl ?_
  refine j_iload_n (pc := 12) C dX11_bits_12 rfl 0 rfl ?_
  refine j_ishr (pc := 13) (v := 0) C dX11_bits_13 (by decide) ?_
  refine j_iconst (pc := 14) (v := 1) C dX11_bits_14 (by decide) ?_
  refine j_iand (pc := 15) (v := 0) C dX11_bits_15 (by decide) ?_
  refine j_iadd (pc := 16) (v := 0) C dX11_bits_16 (by decide) ?_
  refine j_istore_n (pc := 17) (lv' := [(1, .int 0), (2, .int 0), (0, .int 0)]) C dX11_bits_17 rfl (by decide) rfl ?_
  refine j_iinc (pc := 18) (v := 1) (lv' := [(2, .int 1), (1, .int 0), (0, .int 0)]) C dX11_bits_18 1 rfl (by decide) (by decide) rfl ?_
  refine j_goto (pc := 21) (tgt := 4) C dX11_bits_21 (by decide) ?_
  refine j_iload_n (pc := 4) C dX11_bits_4 rfl 0 rfl ?_
  refine j_bipush (pc := 5) (v := 12) C dX11_bits_5 (by decide) ?_
  refine j_icmp_ge_f (pc := 7) (tgt := 24) C dX11_bits_7 (by decide) (by decide) ?_
  refine j_iload_n (pc := 10) C dX11_bits_10 rfl 1 rfl ?_
  refine j_iload_n (pc := 11) C dX11_bits_11 rfl 2 rfl ?_
  refine j_iload_n (pc := 12) C dX11_bits_12 rfl 0 rfl ?_
  refine j_ishr (pc := 13) (v := 0) C dX11_bits_13 (by decide) ?_
  refine j_iconst (pc := 14) (v := 1) C dX11_bits_14 (by decide) ?_
  refine j_iand (pc := 15) (v := 0) C dX11_bits_15 (by decide) ?_
  refine j_iadd (pc := 16) (v := 0) C dX11_bits_16 (by decide) ?_
  refine j_istore_n (pc := 17) (lv' := [(1, .int 0), (2, .int 1), (0, .int 0)]) C dX11_bits_17 rfl (by decide) rfl ?_
  refine j_iinc (pc := 18) (v := 2) (lv' := [(2, .int 2), (1, .int 0), (0, .int 0)]) C dX11_bits_18 1 rfl (by decide) (by decide) rfl ?_
  refine j_goto (pc := 21) (tgt := 4) C dX11_bits_21 (by decide) ?_
  refine j_iload_n (pc := 4) C dX11_bits_4 rfl 0 rfl ?_
  refine j_bipush (pc := 5) (v := 12) C dX11_bits_5 (by decide) ?_
  refine j_icmp_ge_f (pc := 7) (tgt := 24) C dX11_bits_7 (by decide) (by decide) ?_
  refine j_iload_n (pc := 10) C dX11_bits_10 rfl 1 rfl ?_
  refine j_iload_n (pc := 11) C dX11_bits_11 rfl 2 rfl ?_
  refine j_iload_n (pc := 12) C dX11_bits_12 rfl 0 rfl ?_
  refine j_ishr (pc := 13) (v := 0) C dX11_bits_13 (by decide) ?_
  refine j_iconst (pc := 14) (v := 1) C dX11_bits_14 (by decide) ?_
  refine j_iand (pc := 15) (v := 0) C dX11_bits_15 (by decide) ?_
  refine j_iadd (pc := 16) (v := 0) C dX11_bits_16 (by decide) ?_
  refine j_istore_n (pc := 17) (lv' := [(1, .int 0), (2, .int 2), (0, .int 0)]) C dX11_bits_17 rfl (by decide) rfl ?_
  refine j_iinc (pc := 18) (v := 3) (lv' := [(2, .int 3), (1, .int 0), (0, .int 0)]) C dX11_bits_18 1 rfl (by decide) (by decide) rfl ?_
  refine j_goto (pc := 21) (tgt := 4) C dX11_bits_21 (by decide) ?_
  refine j_iload_n (pc := 4) C dX11_bits_4 rfl 0 rfl ?_
  refine j_bipush (pc := 5) (v := 12) C dX11_bits_5 (by decide) ?_
  refine j_icmp_ge_f (pc := 7) (tgt := 24) C dX11_bits_7 (by decide) (by decide) ?_
  refine j_iload_n (pc := 10) C dX11_bits_10 rfl 1 rfl ?_
  refine j_iload_n (pc := 11) C dX11_bits_11 rfl 2 rfl ?_
  refine j_iload_n (pc := 12) C dX11_bits_12 rfl 0 rfl ?_
  refine j_ishr (pc := 13) (v := 0) C dX11_bits_13 (by decide) ?_
  refine j_iconst (pc := 14) (v := 1) C dX11_bits_14 (by decide) ?_
  refine j_iand (pc := 15) (v := 0) C dX11_bits_15 (by decide) ?_
  refine j_iadd (pc := 16) (v := 0) C dX11_bits_16 (by decide) ?_
  refine j_istore_n (pc := 17) (lv' := [(1, .int 0), (2, .int 3), (0, .int 0)]) C dX11_bits_17 rfl (by decide) rfl ?_
  refine j_iinc (pc := 18) (v := 4) (lv' := [(2, .int 4), (1, .int 0), (0, .int 0)]) C dX11_bits_18 1 rfl (by decide) (by decide) rfl ?_
  refine j_goto (pc := 21) (tgt := 4) C dX11_bits_21 (by decide) ?_
  refine j_iload_n (pc := 4) C dX11_bits_4 rfl 0 rfl ?_
  refine j_bipush (pc := 5) (v := 12) C dX11_bits_5 (by decide) ?_
  refine j_icmp_ge_f (pc := 7) (tgt := 24) C dX11_bits_7 (by decide) (by decide) ?_
  refine j_iload_n (pc := 10) C dX11_bits_10 rfl 1 rfl ?_
  refine j_iload_n (pc := 11) C dX11_bits_11 rfl 2 rfl ?_
  refine j_iload_n (pc := 12) C dX11_bits_12 rfl 0 rfl ?_
  refine j_ishr (pc := 13) (v := 0) C dX11_bits_13 (by decide) ?_
  refine j_iconst (pc := 14) (v := 1) C dX11_bits_14 (by decide) ?_
  refine j_iand (pc := 15) (v := 0) C dX11_bits_15 (by decide) ?_
  refine j_iadd (pc := 16) (v := 0) C dX11_bits_16 (by decide) ?_
  refine j_istore_n (pc := 17) (lv' := [(1, .int 0), (2, .int 4), (0, .int 0)]) C dX11_bits_17 rfl (by decide) rfl ?_
  refine j_iinc (pc := 18) (v := 5) (lv' := [(2, .int 5), (1, .int 0), (0, .int 0)]) C dX11_bits_18 1 rfl (by decide) (by decide) rfl ?_
  refine j_goto (pc := 21) (tgt := 4) C dX11_bits_21 (by decide) ?_
  refine j_iload_n (pc := 4) C dX11_bits_4 rfl 0 rfl ?_
  refine j_bipush (pc := 5) (v := 12) C dX11_bits_5 (by decide) ?_
  refine j_icmp_ge_f (pc := 7) (tgt := 24) C dX11_bits_7 (by decide) (by decide) ?_
  refine j_iload_n (pc := 10) C dX11_bits_10 rfl 1 rfl ?_
  refine j_iload_n (pc := 11) C dX11_bits_11 rfl 2 rfl ?_
  refine j_iload_n (pc := 12) C dX11_bits_12 rfl 0 rfl ?_
  refine j_ishr (pc := 13) (v := 0) C dX11_bits_13 (by decide) ?_
  refine j_iconst (pc := 14) (v := 1) C dX11_bits_14 (by decide) ?_
  refine j_iand (pc := 15) (v := 0) C dX11_bits_15 (by decide) ?_
  refine j_iadd (pc := 16) (v := 0) C dX11_bits_16 (by decide) ?_
  refine j_istore_n (pc := 17) (lv' := [(1, .int 0), (2, .int 5), (0, .int 0)]) C dX11_bits_17 rfl (by decide) rfl ?_
  refine j_iinc (pc := 18) (v := 6) (lv' := [(2, .int 6), (1, .int 0), (0, .int 0)]) C dX11_bits_18 1 rfl (by decide) (by decide) rfl ?_
  refine j_goto (pc := 21) (tgt := 4) C dX11_bits_21 (by decide) ?_
  refine j_iload_n (pc := 4) C dX11_bits_4 rfl 0 rfl ?_
  refine j_bipush (pc := 5) (v := 12) C dX11_bits_5 (by decide) ?_
  refine j_icmp_ge_f (pc := 7) (tgt := 24) C dX11_bits_7 (by decide) (by decide) ?_
  refine j_iload_n (pc := 10) C dX11_bits_10 rfl 1 rfl ?_
  refine j_iload_n (pc := 11) C dX11_bits_11 rfl 2 rfl ?_
  refine j_iload_n (pc := 12) C dX11_bits_12 rfl 0 rfl ?_
  refine j_ishr (pc := 13) (v := 0) C dX11_bits_13 (by decide) ?_
  refine j_iconst (pc := 14) (v := 1) C dX11_bits_14 (by decide) ?_
  refine j_iand (pc := 15) (v := 0) C dX11_bits_15 (by decide) ?_
  refine j_iadd (pc := 16) (v := 0) C dX11_bits_16 (by decide) ?_
  refine j_istore_n (pc := 17) (lv' := [(1, .int 0), (2, .int 6), (0, .int 0)]) C dX11_bits_17 rfl (by decide) rfl ?_
  refine j_iinc (pc := 18) (v := 7) (lv' := [(2, .int 7), (1, .int 0), (0, .int 0)]) C dX11_bits_18 1 rfl (by decide) (by decide) rfl ?_
  refine j_goto (pc := 21) (tgt := 4) C dX11_bits_21 (by decide) ?_
  refine j_iload_n (pc := 4) C dX11_bits_4 rfl 0 rfl ?_
  refine j_bipush (pc := 5) (v := 12) C dX11_bits_5 (by decide) ?_
  refine j_icmp_ge_f (pc := 7) (tgt := 24) C dX11_bits_7 (by decide) (by decide) ?_
  refine j_iload_n (pc := 10) C dX11_bits_10 rfl 1 rfl ?_
  refine j_iload_n (pc := 11) C dX11_bits_11 rfl 2 rfl ?_
  refine j_iload_n (pc := 12) C dX11_bits_12 rfl 0 rfl ?_
  refine j_ishr (pc := 13) (v := 0) C dX11_bits_13 (by decide) ?_
  refine j_iconst (pc := 14) (v := 1) C dX11_bits_14 (by decide) ?_
  refine j_iand (pc := 15) (v := 0) C dX11_bits_15 (by decide) ?_
  refine j_iadd (pc := 16) (v := 0) C dX11_bits_16 (by decide) ?_
  refine j_istore_n (pc := 17) (lv' := [(1, .int 0), (2, .int 7), (0, .int 0)]) C dX11_bits_17 rfl (by decide) rfl ?_
  refine j_iinc (pc := 18) (v := 8) (lv' := [(2, .int 8), (1, .int 0), (0, .int 0)]) C dX11_bits_18 1 rfl (by decide) (by decide) rfl ?_
  refine j_goto (pc := 21) (tgt := 4) C dX11_bits_21 (by decide) ?_
  refine j_iload_n (pc := 4) C dX11_bits_4 rfl 0 rfl ?_
  refine j_bipush (pc := 5) (v := 12) C dX11_bits_5 (by decide) ?_
  refine j_icmp_ge_f (pc := 7) (tgt := 24) C dX11_bits_7 (by decide) (by decide) ?_
  refine j_iload_n (pc := 10) C dX11_bits_10 rfl 1 rfl ?_
  refine j_iload_n (pc := 11) C dX11_bits_11 rfl 2 rfl ?_
  refine j_iload_n (pc := 12) C dX11_bits_12 rfl 0 rfl ?_
  refine j_ishr (pc := 13) (v := 0) C dX11_bits_13 (by decide) ?_
  refine j_iconst (pc := 14) (v := 1) C dX11_bits_14 (by decide) ?_
  refine j_iand (pc := 15) (v := 0) C dX11_bits_15 (by decide) ?_
  refine j_iadd (pc := 16) (v := 0) C dX11_bits_16 (by decide) ?_
  refine j_istore_n (pc := 17) (lv' := [(1, .int 0), (2, .int 8), (0, .int 0)]) C dX11_bits_17 rfl (by decide) rfl ?_
  refine j_iinc (pc := 18) (v := 9) (lv' := [(2, .int 9), (1, .int 0), (0, .int 0)]) C dX11_bits_18 1 rfl (by decide) (by decide) rfl ?_
  refine j_goto (pc := 21) (tgt := 4) C dX11_bits_21 (by decide) ?_
  refine j_iload_n (pc := 4) C dX11_bits_4 rfl 0 rfl ?_
  refine j_bipush (pc := 5) (v := 12) C dX11_bits_5 (by decide) ?_
  refine j_icmp_ge_f (pc := 7) (tgt := 24) C dX11_bits_7 (by decide) (by decide) ?_
  refine j_iload_n (pc := 10) C dX11_bits_10 rfl 1 rfl ?_
  refine j_iload_n (pc := 11) C dX11_bits_11 rfl 2 rfl ?_
  refine j_iload_n (pc := 12) C dX11_bits_12 rfl 0 rfl ?_
  refine j_ishr (pc := 13) (v := 0) C dX11_bits_13 (by decide) ?_
  refine j_iconst (pc := 14) (v := 1) C dX11_bits_14 (by decide) ?_
  refine j_iand (pc := 15) (v := 0) C dX11_bits_15 (by decide) ?_
  refine j_iadd (pc := 16) (v := 0) C dX11_bits_16 (by decide) ?_
  refine j_istore_n (pc := 17) (lv' := [(1, .int 0), (2, .int 9), (0, .int 0)]) C dX11_bits_17 rfl (by decide) rfl ?_
  refine j_iinc (pc := 18) (v := 10) (lv' := [(2, .int 10), (1, .int 0), (0, .int 0)]) C dX11_bits_18 1 rfl (by decide) (by decide) rfl ?_
  refine j_goto (pc := 21) (tgt := 4) C dX11_bits_21 (by decide) ?_
  refine j_iload_n (pc := 4) C dX11_bits_4 rfl 0 rfl ?_
  refine j_bipush (pc := 5) (v := 12) C dX11_bits_5 (by decide) ?_
  refine j_icmp_ge_f (pc := 7) (tgt := 24) C dX11_bits_7 (by decide) (by decide) ?_
  refine j_iload_n (pc := 10) C dX11_bits_10 rfl 1 rfl ?_
  refine j_iload_n (pc := 11) C dX11_bits_11 rfl 2 rfl ?_
  refine j_iload_n (pc := 12) C dX11_bits_12 rfl 0 rfl ?_
  refine j_ishr (pc := 13) (v := 0) C dX11_bits_13 (by decide) ?_
  refine j_iconst (pc := 14) (v := 1) C dX11_bits_14 (by decide) ?_
  refine j_iand (pc := 15) (v := 0) C dX11_bits_15 (by decide) ?_
  refine j_iadd (pc := 16) (v := 0) C dX11_bits_16 (by decide) ?_
  refine j_istore_n (pc := 17) (lv' := [(1, .int 0), (2, .int 10), (0, .int 0)]) C dX11_bits_17 rfl (by decide) rfl ?_
  refine j_iinc (pc := 18) (v := 11) (lv' := [(2, .int 11), (1, .int 0), (0, .int 0)]) C dX11_bits_18 1 rfl (by decide) (by decide) rfl ?_
  refine j_goto (pc := 21) (tgt := 4) C dX11_bits_21 (by decide) ?_
  refine j_iload_n (pc := 4) C dX11_bits_4 rfl 0 rfl ?_
  refine j_bipush (pc := 5) (v := 12) C dX11_bits_5 (by decide) ?_
  refine j_icmp_ge_f (pc := 7) (tgt := 24) C dX11_bits_7 (by decide) (by decide) ?_
  refine j_iload_n (pc := 10) C dX11_bits_10 rfl 1 rfl ?_
  refine j_iload_n (pc := 11) C dX11_bits_11 rfl 2 rfl ?_
  refine j_iload_n (pc := 12) C dX11_bits_12 rfl 0 rfl ?_
  refine j_ishr (pc := 13) (v := 0) C dX11_bits_13 (by decide) ?_
  refine j_iconst (pc := 14) (v := 1) C dX11_bits_14 (by decide) ?_
  refine j_iand (pc := 15) (v := 0) C dX11_bits_15 (by decide) ?_
  refine j_iadd (pc := 16) (v := 0) C dX11_bits_16 (by decide) ?_
  refine j_istore_n (pc := 17) (lv' := [(1, .int 0), (2, .int 11), (0, .int 0)]) C dX11_bits_17 rfl (by decide) rfl ?_
  refine j_iinc (pc := 18) (v := 12) (lv' := [(2, .int 12), (1, .int 0), (0, .int 0)]) C dX11_bits_18 1 rfl (by decide) (by decide) rfl ?_
  refine j_goto (pc := 21) (tgt := 4) C dX11_bits_21 (by decide) ?_
  refine j_iload_n (pc := 4) C dX11_bits_4 rfl 0 rfl ?_
  refine j_bipush (pc := 5) (v := 12) C dX11_bits_5 (by decide) ?_
  refine j_icmp_ge_t (pc := 7) (tgt := 24) C dX11_bits_7 (by decide) (by decide) ?_
  refine j_iload_n (pc := 24) C dX11_bits_24 rfl 1 rfl ?_
  exact j_iret (pc := 25) C hr hk (fun i => [].getD i 0, fun _ => 0, fun _ _ => 0) rfl trivial [] (by decide) rfl (by decide) (by decide) dX11_bits_25
set_option maxHeartbeats 4000000 in
set_option maxRecDepth 100000 in
theorem c_X11_findApart (l : Launch) (D : va_G) (cyC cyI cyJ cyZ cyO : ClassId) (g0 : Nat) (g1 : Nat) (g2 : Nat) (g3 : Nat) (g4 : Nat) (g5 : Nat) (g6 : Nat) (g7 : Nat) (g8 : Nat) (g9 : Nat) (g10 : Nat) (g11 : Nat) (g12 : Nat) (g13 : Nat) (g14 : Nat) (g15 : Nat) (g16 : Nat) (g17 : Nat) (g18 : Nat) (g19 : Nat) (g20 : Nat) (g21 : Nat) (g22 : Nat) (g23 : Nat) (g24 : Nat) (g25 : Nat) : KK l D (TY cyC cyI cyJ cyZ cyO) yX11_findApart cX11_findApart 3 (some .int) ({ frames := 1, cells := 0, slots := 0, locals := 22 } : Room) 0 0 [.ref g0] [(g0, .inr (11, [.int 0, .ref g1, .int 0, .int 0, .ref g2, .ref g3, .ref g4, .int 0, .int 0, .ref g5, .ref g6, .ref g7, .ref g8, .int 0, .ref g9, .ref g10, .int 0, .ref g11, .ref g12, .ref g13, .ref g14, .ref g15, .int 0, .int 0, .int 0, .ref g16, .int 0, .ref g17, .ref g18, .ref g19, .ref g20, .ref g21, .ref g22, .int 0, .int 0, .int 0, .ref g23, .ref g24, .int 0, .int 0, .int 0, .int 0, .ref g25])), (g6, .inl (cyI, 240, .inl (fun _ => 0)))] (fun u => some (.int 0)) (fun u => True) (fun u => [(g0, .inr (11, [.int 0, .ref g1, .int 0, .int 0, .ref g2, .ref g3, .ref g4, .int 0, .int 0, .ref g5, .ref g6, .ref g7, .ref g8, .int 0, .ref g9, .ref g10, .int 0, .ref g11, .ref g12, .ref g13, .ref g14, .ref g15, .int 0, .int 0, .int 0, .ref g16, .int 0, .ref g17, .ref g18, .ref g19, .ref g20, .ref g21, .ref g22, .int 0, .int 0, .int 0, .ref g23, .ref g24, .int 0, .int 0, .int 0, .int 0, .ref g25])), (g6, .inl (cyI, 240, .inl (fun _ => 0)))]) := by
  refine KK.of (lv0 := [(0, .ref g0)]) (by decide) rfl (Nat.le_of_ble_eq_true rfl) ?_
  intro p e s m args below meth c A C hr hk hin
  refine j_iconst (pc := 0) (v := 0) C dX11_findApart_0 (by decide) ?_
  refine j_istore_n (pc := 1) (lv' := [(1, .int 0), (0, .ref g0)]) C dX11_findApart_1 rfl (by decide) rfl ?_
  refine j_iconst (pc := 2) (v := 0) C dX11_findApart_2 (by decide) ?_
  refine j_istore_n (pc := 3) (lv' := [(2, .int 0), (1, .int 0), (0, .ref g0)]) C dX11_findApart_3 rfl (by decide) rfl ?_
  refine j_iload_n (pc := 4) C dX11_findApart_4 rfl 0 rfl ?_
  refine j_iconst (pc := 5) (v := 1) C dX11_findApart_5 (by decide) ?_
  refine j_aload_n (pc := 6) C dX11_findApart_6 rfl 2 rfl ?_
  refine j_callV (pc := 7) (As := []) (rest := [.int 1, .int 0]) (wr := []) C (c_X11_wares l D cyC cyI cyJ cyZ cyO 0 g0 g1 g2 g3 g4 g5 g6 g7 g8 g9 g10 g11 g12 g13 g14 g15 g16 g17 g18 g19 g20 g21 g22 g23 g24 g25) wd_312 wd_313 wd_314 wd_315 wd_316 ⟨by decide, by decide, rfl⟩ rfl ⟨rfl, rfl, by decide, by decide⟩ ⟨by decide, by decide⟩ [0, 1] [] rfl rfl ⟨by decide, by decide, by decide⟩ 0 rfl rfl rfl (Nat.le_of_ble_eq_true rfl) dX11_findApart_7 (fun u_1 hw_2 => ?_)
  refine j_eq (ws2 := [(g0, .inr (11, [.int 0, .ref g1, .int 0, .int 0, .ref g2, .ref g3, .ref g4, .int 0, .int 0, .ref g5, .ref g6, .ref g7, .ref g8, .int 0, .ref g9, .ref g10, .int 0, .ref g11, .ref g12, .ref g13, .ref g14, .ref g15, .int 0, .int 0, .int 0, .ref g16, .int 0, .ref g17, .ref g18, .ref g19, .ref g20, .ref g21, .ref g22, .int 0, .int 0, .int 0, .ref g23, .ref g24, .int 0, .int 0, .int 0, .int 0, .ref g25])), (g6, .inl (cyI, 240, .inl (fun _ => 0)))]) (pc2 := 10) (lv2 := [(2, .int 0), (1, .int 0), (0, .ref g0)]) (st2 := [.int 0, .int 1, .int 0]) rfl rfl rfl rfl ?_
  refine j_ishl (pc := 10) (v := 1) C dX11_findApart_10 (by decide) ?_
  refine j_icmp_ge_f (pc := 11) (tgt := 45) C dX11_findApart_11 (by decide) (by decide) ?_
  refine j_iload_n (pc := 14) C dX11_findApart_14 rfl 0 rfl ?_
  refine j_callS (pc := 15) (As := [.int 0]) (rest := []) (wr := [(g0, .inr (11, [.int 0, .ref g1, .int 0, .int 0, .ref g2, .ref g3, .ref g4, .int 0, .int 0, .ref g5, .ref g6, .ref g7, .ref g8, .int 0, .ref g9, .ref g10, .int 0, .ref g11, .ref g12, .ref g13, .ref g14, .ref g15, .int 0, .int 0, .int 0, .ref g16, .int 0, .ref g17, .ref g18, .ref g19, .ref g20, .ref g21, .ref g22, .int 0, .int 0, .int 0, .ref g23, .ref g24, .int 0, .int 0, .int 0, .int 0, .ref g25])), (g6, .inl (cyI, 240, .inl (fun _ => 0)))]) C (c_X11_bits l D cyC cyI cyJ cyZ cyO) wd_342 wd_313 wd_343 wd_344 ⟨by decide, by decide, rfl⟩ rfl ⟨rfl, rfl, by decide, by decide⟩ ⟨by decide, by decide⟩ [] [0, 1] rfl rfl ⟨by decide, by decide, by decide⟩ rfl (Nat.le_of_ble_eq_true rfl) dX11_findApart_15 (fun u_3 hw_4 => ?_)
  refine j_eq (ws2 := [(g0, .inr (11, [.int 0, .ref g1, .int 0, .int 0, .ref g2, .ref g3, .ref g4, .int 0, .int 0, .ref g5, .ref g6, .ref g7, .ref g8, .int 0, .ref g9, .ref g10, .int 0, .ref g11, .ref g12, .ref g13, .ref g14, .ref g15, .int 0, .int 0, .int 0, .ref g16, .int 0, .ref g17, .ref g18, .ref g19, .ref g20, .ref g21, .ref g22, .int 0, .int 0, .int 0, .ref g23, .ref g24, .int 0, .int 0, .int 0, .int 0, .ref g25])), (g6, .inl (cyI, 240, .inl (fun _ => 0)))]) (pc2 := 18) (lv2 := [(2, .int 0), (1, .int 0), (0, .ref g0)]) (st2 := [.int 0]) rfl rfl rfl rfl ?_
  refine j_iload_n (pc := 18) C dX11_findApart_18 rfl 1 rfl ?_
  refine j_callS (pc := 19) (As := [.int 0]) (rest := [.int 0]) (wr := [(g0, .inr (11, [.int 0, .ref g1, .int 0, .int 0, .ref g2, .ref g3, .ref g4, .int 0, .int 0, .ref g5, .ref g6, .ref g7, .ref g8, .int 0, .ref g9, .ref g10, .int 0, .ref g11, .ref g12, .ref g13, .ref g14, .ref g15, .int 0, .int 0, .int 0, .ref g16, .int 0, .ref g17, .ref g18, .ref g19, .ref g20, .ref g21, .ref g22, .int 0, .int 0, .int 0, .ref g23, .ref g24, .int 0, .int 0, .int 0, .int 0, .ref g25])), (g6, .inl (cyI, 240, .inl (fun _ => 0)))]) C (c_X11_bits l D cyC cyI cyJ cyZ cyO) wd_342 wd_313 wd_343 wd_344 ⟨by decide, by decide, rfl⟩ rfl ⟨rfl, rfl, by decide, by decide⟩ ⟨by decide, by decide⟩ [] [0, 1] rfl rfl ⟨by decide, by decide, by decide⟩ rfl (Nat.le_of_ble_eq_true rfl) dX11_findApart_19 (fun u_5 hw_6 => ?_)
  refine j_eq (ws2 := [(g0, .inr (11, [.int 0, .ref g1, .int 0, .int 0, .ref g2, .ref g3, .ref g4, .int 0, .int 0, .ref g5, .ref g6, .ref g7, .ref g8, .int 0, .ref g9, .ref g10, .int 0, .ref g11, .ref g12, .ref g13, .ref g14, .ref g15, .int 0, .int 0, .int 0, .ref g16, .int 0, .ref g17, .ref g18, .ref g19, .ref g20, .ref g21, .ref g22, .int 0, .int 0, .int 0, .ref g23, .ref g24, .int 0, .int 0, .int 0, .int 0, .ref g25])), (g6, .inl (cyI, 240, .inl (fun _ => 0)))]) (pc2 := 22) (lv2 := [(2, .int 0), (1, .int 0), (0, .ref g0)]) (st2 := [.int 0, .int 0]) rfl rfl rfl rfl ?_
  refine j_icmp_le_t (pc := 22) (tgt := 37) C dX11_findApart_22 (by decide) (by decide) ?_
  refine j_iload_n (pc := 37) C dX11_findApart_37 rfl 1 rfl ?_
  refine j_istore_n (pc := 38) (lv' := [(1, .int 0), (2, .int 0), (0, .ref g0)]) C dX11_findApart_38 rfl (by decide) rfl ?_
  refine j_iinc (pc := 39) (v := 1) (lv' := [(2, .int 1), (1, .int 0), (0, .ref g0)]) C dX11_findApart_39 1 rfl (by decide) (by decide) rfl ?_
  refine j_goto (pc := 42) (tgt := 4) C dX11_findApart_42 (by decide) ?_
  refine j_iload_n (pc := 4) C dX11_findApart_4 rfl 0 rfl ?_
  refine j_iconst (pc := 5) (v := 1) C dX11_findApart_5 (by decide) ?_
  refine j_aload_n (pc := 6) C dX11_findApart_6 rfl 2 rfl ?_
  refine j_callV (pc := 7) (As := []) (rest := [.int 1, .int 1]) (wr := []) C (c_X11_wares l D cyC cyI cyJ cyZ cyO 0 g0 g1 g2 g3 g4 g5 g6 g7 g8 g9 g10 g11 g12 g13 g14 g15 g16 g17 g18 g19 g20 g21 g22 g23 g24 g25) wd_312 wd_313 wd_314 wd_315 wd_316 ⟨by decide, by decide, rfl⟩ rfl ⟨rfl, rfl, by decide, by decide⟩ ⟨by decide, by decide⟩ [0, 1] [] rfl rfl ⟨by decide, by decide, by decide⟩ 0 rfl rfl rfl (Nat.le_of_ble_eq_true rfl) dX11_findApart_7 (fun u_7 hw_8 => ?_)
  refine j_eq (ws2 := [(g0, .inr (11, [.int 0, .ref g1, .int 0, .int 0, .ref g2, .ref g3, .ref g4, .int 0, .int 0, .ref g5, .ref g6, .ref g7, .ref g8, .int 0, .ref g9, .ref g10, .int 0, .ref g11, .ref g12, .ref g13, .ref g14, .ref g15, .int 0, .int 0, .int 0, .ref g16, .int 0, .ref g17, .ref g18, .ref g19, .ref g20, .ref g21, .ref g22, .int 0, .int 0, .int 0, .ref g23, .ref g24, .int 0, .int 0, .int 0, .int 0, .ref g25])), (g6, .inl (cyI, 240, .inl (fun _ => 0)))]) (pc2 := 10) (lv2 := [(2, .int 1), (1, .int 0), (0, .ref g0)]) (st2 := [.int 0, .int 1, .int 1]) rfl rfl rfl rfl ?_
  refine j_ishl (pc := 10) (v := 1) C dX11_findApart_10 (by decide) ?_
  refine j_icmp_ge_t (pc := 11) (tgt := 45) C dX11_findApart_11 (by decide) (by decide) ?_
  refine j_iload_n (pc := 45) C dX11_findApart_45 rfl 1 rfl ?_
  exact j_iret (pc := 46) C hr hk (fun i => [].getD i 0, fun _ => 0, fun _ _ => 0) rfl trivial [0, 1] (by decide) rfl (by decide) (by decide) dX11_findApart_46
set_option maxHeartbeats 4000000 in
set_option maxRecDepth 100000 in
theorem c_X11_rows (l : Launch) (D : va_G) (cyC cyI cyJ cyZ cyO : ClassId) (p0 : Int32) (g0 : Nat) (g1 : Nat) (g2 : Nat) (g3 : Nat) (g4 : Nat) (g5 : Nat) (g6 : Nat) (g7 : Nat) (g8 : Nat) (g9 : Nat) (g10 : Nat) (g11 : Nat) (g12 : Nat) (g13 : Nat) (g14 : Nat) (g15 : Nat) (g16 : Nat) (g17 : Nat) (g18 : Nat) (g19 : Nat) (g20 : Nat) (g21 : Nat) (g22 : Nat) (g23 : Nat) (g24 : Nat) (g25 : Nat) : KK l D (TY cyC cyI cyJ cyZ cyO) yX11_rows cX11_rows 3 (some .int) ({ frames := 3, cells := 0, slots := 0, locals := 66 } : Room) 0 0 [.ref g0, .int p0] [(g0, .inr (11, [.int 0, .ref g1, .int 0, .int 0, .ref g2, .ref g3, .ref g4, .int 0, .int 0, .ref g5, .ref g6, .ref g7, .ref g8, .int 0, .ref g9, .ref g10, .int 1, .ref g11, .ref g12, .ref g13, .ref g14, .ref g15, .int 0, .int 0, .int 0, .ref g16, .int 0, .ref g17, .ref g18, .ref g19, .ref g20, .ref g21, .ref g22, .int 0, .int 0, .int 0, .ref g23, .ref g24, .int 0, .int 0, .int 0, .int 0, .ref g25])), (g6, .inl (cyI, 240, .inl (fun _ => 0))), (g20, .inl (cyI, 4096, .inl (fun _ => 0)))] (fun u => some (.int (u.2.1 0))) (fun u => u.2.1 0 = (if 0 ≤ p0 ∧ p0 ≤ 1 then 0 else -1)) (fun u => []) := by
  refine KK.of (lv0 := [(0, .ref g0), (1, .int p0)]) (by decide) rfl (Nat.le_of_ble_eq_true rfl) ?_
  intro p e s m args below meth c A C hr hk hin
  refine j_aload_n (pc := 0) C dX11_rows_0 rfl 0 rfl ?_
  refine j_iconst (pc := 1) (v := 0) C dX11_rows_1 (by decide) ?_
  refine j_put (pc := 2) (ci := 11) (v := .int 0) (ws' := [(g0, .inr (11, [.int 0, .ref g1, .int 0, .int 0, .ref g2, .ref g3, .ref g4, .int 0, .int 0, .ref g5, .ref g6, .ref g7, .ref g8, .int 0, .ref g9, .ref g10, .int 1, .ref g11, .ref g12, .ref g13, .ref g14, .ref g15, .int 0, .int 0, .int 0, .ref g16, .int 0, .ref g17, .ref g18, .ref g19, .ref g20, .ref g21, .ref g22, .int 0, .int 0, .int 0, .ref g23, .ref g24, .int 0, .int 0, .int 0, .int 0, .ref g25])), (g6, .inl (cyI, 240, .inl (fun _ => 0))), (g20, .inl (cyI, 4096, .inl (fun _ => 0)))]) C inw_11 0 rfl rfl 0 (by decide) wd_329 rfl tyX11_ok nmX11 rfl (tyX11_ok 0 (by decide)) rfl rfl (Nat.le_of_ble_eq_true rfl) dX11_rows_2 rfl ?_
  refine j_iload_n (pc := 5) C dX11_rows_5 rfl 1 rfl ?_
  refine j_iconst (pc := 6) (v := 0) C dX11_rows_6 (by decide) ?_
  refine j_iconst (pc := 7) (v := 1) C dX11_rows_7 (by decide) ?_
  refine j_callS (pc := 8) (As := [.int p0, .int 0, .int 1]) (rest := []) (wr := [(g0, .inr (11, [.int 0, .ref g1, .int 0, .int 0, .ref g2, .ref g3, .ref g4, .int 0, .int 0, .ref g5, .ref g6, .ref g7, .ref g8, .int 0, .ref g9, .ref g10, .int 1, .ref g11, .ref g12, .ref g13, .ref g14, .ref g15, .int 0, .int 0, .int 0, .ref g16, .int 0, .ref g17, .ref g18, .ref g19, .ref g20, .ref g21, .ref g22, .int 0, .int 0, .int 0, .ref g23, .ref g24, .int 0, .int 0, .int 0, .int 0, .ref g25])), (g6, .inl (cyI, 240, .inl (fun _ => 0))), (g20, .inl (cyI, 4096, .inl (fun _ => 0)))]) C (c_X11_within l D cyC cyI cyJ cyZ cyO p0 0 1) wd_345 wd_313 wd_346 wd_347 ⟨by decide, by decide, rfl⟩ rfl ⟨rfl, rfl, by decide, by decide⟩ ⟨by decide, by decide⟩ [] [0, 1, 2] rfl rfl ⟨by decide, by decide, by decide⟩ rfl (Nat.le_of_ble_eq_true rfl) dX11_rows_8 (fun u_1 hw_2 => ?_)
  refine j_eq (ws2 := [(g0, .inr (11, [.int 0, .ref g1, .int 0, .int 0, .ref g2, .ref g3, .ref g4, .int 0, .int 0, .ref g5, .ref g6, .ref g7, .ref g8, .int 0, .ref g9, .ref g10, .int 1, .ref g11, .ref g12, .ref g13, .ref g14, .ref g15, .int 0, .int 0, .int 0, .ref g16, .int 0, .ref g17, .ref g18, .ref g19, .ref g20, .ref g21, .ref g22, .int 0, .int 0, .int 0, .ref g23, .ref g24, .int 0, .int 0, .int 0, .int 0, .ref g25])), (g6, .inl (cyI, 240, .inl (fun _ => 0))), (g20, .inl (cyI, 4096, .inl (fun _ => 0)))]) (pc2 := 11) (lv2 := [(0, .ref g0), (1, .int p0)]) (st2 := [.int (u_1.2.1 0)]) rfl rfl rfl rfl ?_
  rcases ite_two hw_2 with ⟨hc_3, hr_4⟩ | ⟨hc_3, hr_4⟩
  · skip
    refine j_eq (ws2 := [(g0, .inr (11, [.int 0, .ref g1, .int 0, .int 0, .ref g2, .ref g3, .ref g4, .int 0, .int 0, .ref g5, .ref g6, .ref g7, .ref g8, .int 0, .ref g9, .ref g10, .int 1, .ref g11, .ref g12, .ref g13, .ref g14, .ref g15, .int 0, .int 0, .int 0, .ref g16, .int 0, .ref g17, .ref g18, .ref g19, .ref g20, .ref g21, .ref g22, .int 0, .int 0, .int 0, .ref g23, .ref g24, .int 0, .int 0, .int 0, .int 0, .ref g25])), (g6, .inl (cyI, 240, .inl (fun _ => 0))), (g20, .inl (cyI, 4096, .inl (fun _ => 0)))]) (pc2 := 11) (lv2 := [(0, .ref g0), (1, .int p0)]) (st2 := [.int 1]) rfl rfl rfl (by rw [hr_4]) ?_
    refine j_if_eq_f (pc := 11) (tgt := 21) C dX11_rows_11 (by decide) (by decide) ?_
    refine j_aload_n (pc := 14) C dX11_rows_14 rfl 0 rfl ?_
    refine j_callV (pc := 15) (As := []) (rest := []) (wr := []) C (c_X11_isRound l D cyC cyI cyJ cyZ cyO g0 g1 g2 g3 g4 g5 g6 g7 g8 g9 g10 g11 g12 g13 g14 g15 g16 g17 g18 g19 g20 g21 g22 g23 g24 g25) wd_348 wd_313 wd_349 wd_350 wd_351 ⟨by decide, by decide, rfl⟩ rfl ⟨rfl, rfl, by decide, by decide⟩ ⟨by decide, by decide⟩ [0, 1, 2] [] rfl rfl ⟨by decide, by decide, by decide⟩ 0 rfl rfl rfl (Nat.le_of_ble_eq_true rfl) dX11_rows_15 (fun u_5 hw_6 => ?_)
    refine j_eq (ws2 := [(g0, .inr (11, [.int 0, .ref g1, .int 0, .int 0, .ref g2, .ref g3, .ref g4, .int 0, .int 0, .ref g5, .ref g6, .ref g7, .ref g8, .int 0, .ref g9, .ref g10, .int 0, .ref g11, .ref g12, .ref g13, .ref g14, .ref g15, .int 0, .int 0, .int 0, .ref g16, .int 0, .ref g17, .ref g18, .ref g19, .ref g20, .ref g21, .ref g22, .int 0, .int 0, .int 0, .ref g23, .ref g24, .int 0, .int 0, .int 0, .int 0, .ref g25])), (g6, .inl (cyI, 240, .inl (fun _ => 0))), (g20, .inl (cyI, 4096, .inl (upd (fun _ => 0) 0 0)))]) (pc2 := 18) (lv2 := [(0, .ref g0), (1, .int p0)]) (st2 := [.int 0]) rfl rfl rfl rfl ?_
    refine j_if_eq_t (pc := 18) (tgt := 23) C dX11_rows_18 (by decide) (by decide) ?_
    refine j_aload_n (pc := 23) C dX11_rows_23 rfl 0 rfl ?_
    refine j_callV (pc := 24) (As := []) (rest := []) (wr := [(g20, .inl (cyI, 4096, .inl (upd (fun _ => 0) 0 0)))]) C (c_X11_findApart l D cyC cyI cyJ cyZ cyO g0 g1 g2 g3 g4 g5 g6 g7 g8 g9 g10 g11 g12 g13 g14 g15 g16 g17 g18 g19 g20 g21 g22 g23 g24 g25) wd_352 wd_313 wd_353 wd_354 wd_355 ⟨by decide, by decide, rfl⟩ rfl ⟨rfl, rfl, by decide, by decide⟩ ⟨by decide, by decide⟩ [0, 1] [2] rfl rfl ⟨by decide, by decide, by decide⟩ 0 rfl rfl rfl (Nat.le_of_ble_eq_true rfl) dX11_rows_24 (fun u_7 hw_8 => ?_)
    refine j_eq (ws2 := [(g20, .inl (cyI, 4096, .inl (upd (fun _ => 0) 0 0))), (g0, .inr (11, [.int 0, .ref g1, .int 0, .int 0, .ref g2, .ref g3, .ref g4, .int 0, .int 0, .ref g5, .ref g6, .ref g7, .ref g8, .int 0, .ref g9, .ref g10, .int 0, .ref g11, .ref g12, .ref g13, .ref g14, .ref g15, .int 0, .int 0, .int 0, .ref g16, .int 0, .ref g17, .ref g18, .ref g19, .ref g20, .ref g21, .ref g22, .int 0, .int 0, .int 0, .ref g23, .ref g24, .int 0, .int 0, .int 0, .int 0, .ref g25])), (g6, .inl (cyI, 240, .inl (fun _ => 0)))]) (pc2 := 27) (lv2 := [(0, .ref g0), (1, .int p0)]) (st2 := [.int 0]) rfl rfl rfl rfl ?_
    refine j_istore_n (pc := 27) (lv' := [(2, .int 0), (0, .ref g0), (1, .int p0)]) C dX11_rows_27 rfl (by decide) rfl ?_
    refine j_iload_n (pc := 28) C dX11_rows_28 rfl 2 rfl ?_
    refine j_if_ne (pc := 29) (tgt := 39) C dX11_rows_29 (by decide) (fun c_9 => ?_) (fun c_9 => ?_)
    · skip
      refine j_iload_n (pc := 39) C dX11_rows_39 rfl 0 rfl ?_
      exact j_iret (pc := 40) C hr hk (fun _ => 0, fun _ => 0, fun _ _ => 0) rfl (by show (0 : Int32) = (if 0 ≤ p0 ∧ p0 ≤ 1 then 0 else -1); have e0 : (0 : Int32).toInt = 0 := rfl; have e1 : (1 : Int32).toInt = 1 := rfl; exact if hE : 0 ≤ p0 ∧ p0 ≤ 1 then (by first | exact (if_pos hE).symm | (exfalso; simp only [i_lt, i_le, i_eq] at hE hc_3 c_9; omega)) else (by first | exact (if_neg hE).symm | (exfalso; simp only [i_lt, i_le, i_eq] at hE hc_3 c_9; omega))) [] (by decide) rfl (by decide) (by decide) dX11_rows_40
    · skip
      refine j_iload_n (pc := 32) C dX11_rows_32 rfl 0 rfl ?_
      refine j_callS (pc := 33) (As := [.int 0]) (rest := []) (wr := [(g20, .inl (cyI, 4096, .inl (upd (fun _ => 0) 0 0))), (g0, .inr (11, [.int 0, .ref g1, .int 0, .int 0, .ref g2, .ref g3, .ref g4, .int 0, .int 0, .ref g5, .ref g6, .ref g7, .ref g8, .int 0, .ref g9, .ref g10, .int 0, .ref g11, .ref g12, .ref g13, .ref g14, .ref g15, .int 0, .int 0, .int 0, .ref g16, .int 0, .ref g17, .ref g18, .ref g19, .ref g20, .ref g21, .ref g22, .int 0, .int 0, .int 0, .ref g23, .ref g24, .int 0, .int 0, .int 0, .int 0, .ref g25])), (g6, .inl (cyI, 240, .inl (fun _ => 0)))]) C (c_X11_bits l D cyC cyI cyJ cyZ cyO) wd_342 wd_313 wd_343 wd_344 ⟨by decide, by decide, rfl⟩ rfl ⟨rfl, rfl, by decide, by decide⟩ ⟨by decide, by decide⟩ [] [0, 1, 2] rfl rfl ⟨by decide, by decide, by decide⟩ rfl (Nat.le_of_ble_eq_true rfl) dX11_rows_33 (fun u_10 hw_11 => ?_)
      refine j_eq (ws2 := [(g20, .inl (cyI, 4096, .inl (upd (fun _ => 0) 0 0))), (g0, .inr (11, [.int 0, .ref g1, .int 0, .int 0, .ref g2, .ref g3, .ref g4, .int 0, .int 0, .ref g5, .ref g6, .ref g7, .ref g8, .int 0, .ref g9, .ref g10, .int 0, .ref g11, .ref g12, .ref g13, .ref g14, .ref g15, .int 0, .int 0, .int 0, .ref g16, .int 0, .ref g17, .ref g18, .ref g19, .ref g20, .ref g21, .ref g22, .int 0, .int 0, .int 0, .ref g23, .ref g24, .int 0, .int 0, .int 0, .int 0, .ref g25])), (g6, .inl (cyI, 240, .inl (fun _ => 0)))]) (pc2 := 36) (lv2 := [(2, .int 0), (0, .ref g0), (1, .int p0)]) (st2 := [.int 0]) rfl rfl rfl rfl ?_
      refine j_goto (pc := 36) (tgt := 40) C dX11_rows_36 (by decide) ?_
      exact j_iret (pc := 40) C hr hk (fun _ => 0, fun _ => 0, fun _ _ => 0) rfl (by show (0 : Int32) = (if 0 ≤ p0 ∧ p0 ≤ 1 then 0 else -1); have e0 : (0 : Int32).toInt = 0 := rfl; have e1 : (1 : Int32).toInt = 1 := rfl; exact if hE : 0 ≤ p0 ∧ p0 ≤ 1 then (by first | exact (if_pos hE).symm | (exfalso; simp only [i_lt, i_le, i_eq] at hE hc_3 c_9; omega)) else (by first | exact (if_neg hE).symm | (exfalso; simp only [i_lt, i_le, i_eq] at hE hc_3 c_9; omega))) [] (by decide) rfl (by decide) (by decide) dX11_rows_40
  · skip
    refine j_eq (ws2 := [(g0, .inr (11, [.int 0, .ref g1, .int 0, .int 0, .ref g2, .ref g3, .ref g4, .int 0, .int 0, .ref g5, .ref g6, .ref g7, .ref g8, .int 0, .ref g9, .ref g10, .int 1, .ref g11, .ref g12, .ref g13, .ref g14, .ref g15, .int 0, .int 0, .int 0, .ref g16, .int 0, .ref g17, .ref g18, .ref g19, .ref g20, .ref g21, .ref g22, .int 0, .int 0, .int 0, .ref g23, .ref g24, .int 0, .int 0, .int 0, .int 0, .ref g25])), (g6, .inl (cyI, 240, .inl (fun _ => 0))), (g20, .inl (cyI, 4096, .inl (fun _ => 0)))]) (pc2 := 11) (lv2 := [(0, .ref g0), (1, .int p0)]) (st2 := [.int 0]) rfl rfl rfl (by rw [hr_4]) ?_
    refine j_if_eq_t (pc := 11) (tgt := 21) C dX11_rows_11 (by decide) (by decide) ?_
    refine j_iconst (pc := 21) (v := (-1)) C dX11_rows_21 (by decide) ?_
    exact j_iret (pc := 22) C hr hk (fun _ => 0, fun _ => (-1), fun _ _ => 0) rfl (by show ((-1) : Int32) = (if 0 ≤ p0 ∧ p0 ≤ 1 then 0 else -1); have e0 : (0 : Int32).toInt = 0 := rfl; have e1 : (1 : Int32).toInt = 1 := rfl; exact if hE : 0 ≤ p0 ∧ p0 ≤ 1 then (by first | exact (if_pos hE).symm | (exfalso; simp only [i_lt, i_le, i_eq] at hE hc_3; omega)) else (by first | exact (if_neg hE).symm | (exfalso; simp only [i_lt, i_le, i_eq] at hE hc_3; omega))) [] (by decide) rfl (by decide) (by decide) dX11_rows_22
set_option maxHeartbeats 4000000 in
set_option maxRecDepth 100000 in
theorem c_X11_rowOf (l : Launch) (D : va_G) (cyC cyI cyJ cyZ cyO : ClassId) (p0 : Int32) (g0 : Nat) (g1 : Nat) (g2 : Nat) (g3 : Nat) (g4 : Nat) (g5 : Nat) (g6 : Nat) (g7 : Nat) (g8 : Nat) (g9 : Nat) (g10 : Nat) (g11 : Nat) (g12 : Nat) (g13 : Nat) (g14 : Nat) (g15 : Nat) (g16 : Nat) (g17 : Nat) (g18 : Nat) (g19 : Nat) (g20 : Nat) (g21 : Nat) (g22 : Nat) (g23 : Nat) (g24 : Nat) (g25 : Nat) : KK l D (TY cyC cyI cyJ cyZ cyO) yX11_rowOf cX11_rowOf 2 (some .int) ({ frames := 2, cells := 0, slots := 0, locals := 41 } : Room) 0 0 [.ref g0, .int p0] [(g0, .inr (11, [.int 0, .ref g1, .int 0, .int 0, .ref g2, .ref g3, .ref g4, .int 0, .int 0, .ref g5, .ref g6, .ref g7, .ref g8, .int 0, .ref g9, .ref g10, .int 1, .ref g11, .ref g12, .ref g13, .ref g14, .ref g15, .int 0, .int 0, .int 0, .ref g16, .int 0, .ref g17, .ref g18, .ref g19, .ref g20, .ref g21, .ref g22, .int 0, .int 0, .int 0, .ref g23, .ref g24, .int 0, .int 0, .int 0, .int 0, .ref g25])), (g6, .inl (cyI, 240, .inl (fun _ => 0)))] (fun u => some (.int (-1))) (fun u => True) (fun u => []) := by
  refine KK.of (lv0 := [(0, .ref g0), (1, .int p0)]) (by decide) rfl (Nat.le_of_ble_eq_true rfl) ?_
  intro p e s m args below meth c A C hr hk hin
  refine j_aload_n (pc := 0) C dX11_rowOf_0 rfl 0 rfl ?_
  refine j_iconst (pc := 1) (v := 0) C dX11_rowOf_1 (by decide) ?_
  refine j_put (pc := 2) (ci := 11) (v := .int 0) (ws' := [(g0, .inr (11, [.int 0, .ref g1, .int 0, .int 0, .ref g2, .ref g3, .ref g4, .int 0, .int 0, .ref g5, .ref g6, .ref g7, .ref g8, .int 0, .ref g9, .ref g10, .int 1, .ref g11, .ref g12, .ref g13, .ref g14, .ref g15, .int 0, .int 0, .int 0, .ref g16, .int 0, .ref g17, .ref g18, .ref g19, .ref g20, .ref g21, .ref g22, .int 0, .int 0, .int 0, .ref g23, .ref g24, .int 0, .int 0, .int 0, .int 0, .ref g25])), (g6, .inl (cyI, 240, .inl (fun _ => 0)))]) C inw_11 0 rfl rfl 0 (by decide) wd_329 rfl tyX11_ok nmX11 rfl (tyX11_ok 0 (by decide)) rfl rfl (Nat.le_of_ble_eq_true rfl) dX11_rowOf_2 rfl ?_
  refine j_aload_n (pc := 5) C dX11_rowOf_5 rfl 0 rfl ?_
  refine j_iload_n (pc := 6) C dX11_rowOf_6 rfl 1 rfl ?_
  refine j_callV (pc := 7) (As := [.int p0]) (rest := []) (wr := []) C (c_X11_isWare l D cyC cyI cyJ cyZ cyO p0 1 g0 g1 g2 g3 g4 g5 g6 g7 g8 g9 g10 g11 g12 g13 g14 g15 g16 g17 g18 g19 g20 g21 g22 g23 g24 g25) wd_325 wd_313 wd_326 wd_327 wd_328 ⟨by decide, by decide, rfl⟩ rfl ⟨rfl, rfl, by decide, by decide⟩ ⟨by decide, by decide⟩ [0, 1] [] rfl rfl ⟨by decide, by decide, by decide⟩ 0 rfl rfl rfl (Nat.le_of_ble_eq_true rfl) dX11_rowOf_7 (fun u_1 hw_2 => ?_)
  refine j_eq (ws2 := [(g0, .inr (11, [.int 0, .ref g1, .int 0, .int 0, .ref g2, .ref g3, .ref g4, .int 0, .int 0, .ref g5, .ref g6, .ref g7, .ref g8, .int 0, .ref g9, .ref g10, .int 1, .ref g11, .ref g12, .ref g13, .ref g14, .ref g15, .int 0, .int 0, .int 0, .ref g16, .int 0, .ref g17, .ref g18, .ref g19, .ref g20, .ref g21, .ref g22, .int 0, .int 0, .int 0, .ref g23, .ref g24, .int 0, .int 0, .int 0, .int 0, .ref g25])), (g6, .inl (cyI, 240, .inl (fun _ => 0)))]) (pc2 := 10) (lv2 := [(0, .ref g0), (1, .int p0)]) (st2 := [.int 0]) rfl rfl rfl rfl ?_
  refine j_if_eq_t (pc := 10) (tgt := 20) C dX11_rowOf_10 (by decide) (by decide) ?_
  refine j_iconst (pc := 20) (v := (-1)) C dX11_rowOf_20 (by decide) ?_
  exact j_iret (pc := 21) C hr hk (fun i => [].getD i 0, fun _ => 0, fun _ _ => 0) rfl trivial [] (by decide) rfl (by decide) (by decide) dX11_rowOf_21
set_option maxHeartbeats 4000000 in
set_option maxRecDepth 100000 in
theorem c_X11_needed (l : Launch) (D : va_G) (cyC cyI cyJ cyZ cyO : ClassId) (p0 : Int32) (g0 : Nat) (g1 : Nat) (g2 : Nat) (g3 : Nat) (g4 : Nat) (g5 : Nat) (g6 : Nat) (g7 : Nat) (g8 : Nat) (g9 : Nat) (g10 : Nat) (g11 : Nat) (g12 : Nat) (g13 : Nat) (g14 : Nat) (g15 : Nat) (g16 : Nat) (g17 : Nat) (g18 : Nat) (g19 : Nat) (g20 : Nat) (g21 : Nat) (g22 : Nat) (g23 : Nat) (g24 : Nat) (g25 : Nat) : KK l D (TY cyC cyI cyJ cyZ cyO) yX11_needed cX11_needed 8 (some .int) ({ frames := 2, cells := 0, slots := 0, locals := 44 } : Room) 0 0 [.ref g0, .int p0] [(g0, .inr (11, [.int 0, .ref g1, .int 0, .int 0, .ref g2, .ref g3, .ref g4, .int 0, .int 0, .ref g5, .ref g6, .ref g7, .ref g8, .int 0, .ref g9, .ref g10, .int 1, .ref g11, .ref g12, .ref g13, .ref g14, .ref g15, .int 0, .int 0, .int 0, .ref g16, .int 0, .ref g17, .ref g18, .ref g19, .ref g20, .ref g21, .ref g22, .int 0, .int 0, .int 0, .ref g23, .ref g24, .int 0, .int 0, .int 0, .int 0, .ref g25])), (g6, .inl (cyI, 240, .inl (fun _ => 0))), (g20, .inl (cyI, 4096, .inl (fun _ => 0))), (g22, .inl (cyI, 4096, .inl (fun _ => 0)))] (fun u => some (.int (u.2.1 0))) (fun u => u.2.1 0 = (if 1 ≤ p0 ∧ p0 ≤ 999 then 0 else -1)) (fun u => []) := by
  refine KK.of (lv0 := [(0, .ref g0), (1, .int p0)]) (by decide) rfl (Nat.le_of_ble_eq_true rfl) ?_
  intro p e s m args below meth c A C hr hk hin
  refine j_aload_n (pc := 0) C dX11_needed_0 rfl 0 rfl ?_
  refine j_iconst (pc := 1) (v := 0) C dX11_needed_1 (by decide) ?_
  refine j_put (pc := 2) (ci := 11) (v := .int 0) (ws' := [(g0, .inr (11, [.int 0, .ref g1, .int 0, .int 0, .ref g2, .ref g3, .ref g4, .int 0, .int 0, .ref g5, .ref g6, .ref g7, .ref g8, .int 0, .ref g9, .ref g10, .int 1, .ref g11, .ref g12, .ref g13, .ref g14, .ref g15, .int 0, .int 0, .int 0, .ref g16, .int 0, .ref g17, .ref g18, .ref g19, .ref g20, .ref g21, .ref g22, .int 0, .int 0, .int 0, .ref g23, .ref g24, .int 0, .int 0, .int 0, .int 0, .ref g25])), (g6, .inl (cyI, 240, .inl (fun _ => 0))), (g20, .inl (cyI, 4096, .inl (fun _ => 0))), (g22, .inl (cyI, 4096, .inl (fun _ => 0)))]) C inw_11 0 rfl rfl 0 (by decide) wd_329 rfl tyX11_ok nmX11 rfl (tyX11_ok 0 (by decide)) rfl rfl (Nat.le_of_ble_eq_true rfl) dX11_needed_2 rfl ?_
  refine j_iload_n (pc := 5) C dX11_needed_5 rfl 1 rfl ?_
  refine j_iconst (pc := 6) (v := 1) C dX11_needed_6 (by decide) ?_
  refine j_sipush (pc := 7) (v := 999) C dX11_needed_7 (by decide) ?_
  refine j_callS (pc := 10) (As := [.int p0, .int 1, .int 999]) (rest := []) (wr := [(g0, .inr (11, [.int 0, .ref g1, .int 0, .int 0, .ref g2, .ref g3, .ref g4, .int 0, .int 0, .ref g5, .ref g6, .ref g7, .ref g8, .int 0, .ref g9, .ref g10, .int 1, .ref g11, .ref g12, .ref g13, .ref g14, .ref g15, .int 0, .int 0, .int 0, .ref g16, .int 0, .ref g17, .ref g18, .ref g19, .ref g20, .ref g21, .ref g22, .int 0, .int 0, .int 0, .ref g23, .ref g24, .int 0, .int 0, .int 0, .int 0, .ref g25])), (g6, .inl (cyI, 240, .inl (fun _ => 0))), (g20, .inl (cyI, 4096, .inl (fun _ => 0))), (g22, .inl (cyI, 4096, .inl (fun _ => 0)))]) C (c_X11_within l D cyC cyI cyJ cyZ cyO p0 1 999) wd_345 wd_313 wd_346 wd_347 ⟨by decide, by decide, rfl⟩ rfl ⟨rfl, rfl, by decide, by decide⟩ ⟨by decide, by decide⟩ [] [0, 1, 2, 3] rfl rfl ⟨by decide, by decide, by decide⟩ rfl (Nat.le_of_ble_eq_true rfl) dX11_needed_10 (fun u_1 hw_2 => ?_)
  refine j_eq (ws2 := [(g0, .inr (11, [.int 0, .ref g1, .int 0, .int 0, .ref g2, .ref g3, .ref g4, .int 0, .int 0, .ref g5, .ref g6, .ref g7, .ref g8, .int 0, .ref g9, .ref g10, .int 1, .ref g11, .ref g12, .ref g13, .ref g14, .ref g15, .int 0, .int 0, .int 0, .ref g16, .int 0, .ref g17, .ref g18, .ref g19, .ref g20, .ref g21, .ref g22, .int 0, .int 0, .int 0, .ref g23, .ref g24, .int 0, .int 0, .int 0, .int 0, .ref g25])), (g6, .inl (cyI, 240, .inl (fun _ => 0))), (g20, .inl (cyI, 4096, .inl (fun _ => 0))), (g22, .inl (cyI, 4096, .inl (fun _ => 0)))]) (pc2 := 13) (lv2 := [(0, .ref g0), (1, .int p0)]) (st2 := [.int (u_1.2.1 0)]) rfl rfl rfl rfl ?_
  rcases ite_two hw_2 with ⟨hc_3, hr_4⟩ | ⟨hc_3, hr_4⟩
  · skip
    refine j_eq (ws2 := [(g0, .inr (11, [.int 0, .ref g1, .int 0, .int 0, .ref g2, .ref g3, .ref g4, .int 0, .int 0, .ref g5, .ref g6, .ref g7, .ref g8, .int 0, .ref g9, .ref g10, .int 1, .ref g11, .ref g12, .ref g13, .ref g14, .ref g15, .int 0, .int 0, .int 0, .ref g16, .int 0, .ref g17, .ref g18, .ref g19, .ref g20, .ref g21, .ref g22, .int 0, .int 0, .int 0, .ref g23, .ref g24, .int 0, .int 0, .int 0, .int 0, .ref g25])), (g6, .inl (cyI, 240, .inl (fun _ => 0))), (g20, .inl (cyI, 4096, .inl (fun _ => 0))), (g22, .inl (cyI, 4096, .inl (fun _ => 0)))]) (pc2 := 13) (lv2 := [(0, .ref g0), (1, .int p0)]) (st2 := [.int 1]) rfl rfl rfl (by rw [hr_4]) ?_
    refine j_if_ne_t (pc := 13) (tgt := 18) C dX11_needed_13 (by decide) (by decide) ?_
    refine j_aload_n (pc := 18) C dX11_needed_18 rfl 0 rfl ?_
    refine j_callV (pc := 19) (As := []) (rest := []) (wr := [(g22, .inl (cyI, 4096, .inl (fun _ => 0)))]) C (c_X11_find l D cyC cyI cyJ cyZ cyO g0 g1 g2 g3 g4 g5 g6 g7 g8 g9 g10 g11 g12 g13 g14 g15 g16 g17 g18 g19 g20 g21 g22 g23 g24 g25) wd_338 wd_313 wd_339 wd_340 wd_341 ⟨by decide, by decide, rfl⟩ rfl ⟨rfl, rfl, by decide, by decide⟩ ⟨by decide, by decide⟩ [0, 1, 2] [3] rfl rfl ⟨by decide, by decide, by decide⟩ 0 rfl rfl rfl (Nat.le_of_ble_eq_true rfl) dX11_needed_19 (fun u_5 hw_6 => ?_)
    refine j_eq (ws2 := [(g22, .inl (cyI, 4096, .inl (fun _ => 0))), (g0, .inr (11, [.int 0, .ref g1, .int 0, .int 0, .ref g2, .ref g3, .ref g4, .int 0, .int 0, .ref g5, .ref g6, .ref g7, .ref g8, .int 0, .ref g9, .ref g10, .int 0, .ref g11, .ref g12, .ref g13, .ref g14, .ref g15, .int 0, .int 0, .int 0, .ref g16, .int 0, .ref g17, .ref g18, .ref g19, .ref g20, .ref g21, .ref g22, .int 0, .int 0, .int 0, .ref g23, .ref g24, .int 0, .int 0, .int 0, .int 0, .ref g25])), (g6, .inl (cyI, 240, .inl (fun _ => 0))), (g20, .inl (cyI, 4096, .inl (upd (fun _ => 0) 0 0)))]) (pc2 := 22) (lv2 := [(0, .ref g0), (1, .int p0)]) (st2 := []) rfl rfl rfl rfl ?_
    refine j_aload_n (pc := 22) C dX11_needed_22 rfl 0 rfl ?_
    refine j_get (pc := 23) (ci := 11) (v := .ref g22) C inw_11 1 rfl rfl 32 (by decide) wd_164 rfl rfl dX11_needed_23 ?_
    refine j_iconst (pc := 26) (v := 0) C dX11_needed_26 (by decide) ?_
    refine j_iconst (pc := 27) (v := 0) C dX11_needed_27 (by decide) ?_
    refine j_iast (pc := 28) (k := 0) (ws' := [(g22, .inl (cyI, 4096, .inl (upd (fun _ => 0) 0 0))), (g0, .inr (11, [.int 0, .ref g1, .int 0, .int 0, .ref g2, .ref g3, .ref g4, .int 0, .int 0, .ref g5, .ref g6, .ref g7, .ref g8, .int 0, .ref g9, .ref g10, .int 0, .ref g11, .ref g12, .ref g13, .ref g14, .ref g15, .int 0, .int 0, .int 0, .ref g16, .int 0, .ref g17, .ref g18, .ref g19, .ref g20, .ref g21, .ref g22, .int 0, .int 0, .int 0, .ref g23, .ref g24, .int 0, .int 0, .int 0, .int 0, .ref g25])), (g6, .inl (cyI, 240, .inl (fun _ => 0))), (g20, .inl (cyI, 4096, .inl (upd (fun _ => 0) 0 0)))]) C 0 1 rfl rfl (by decide) (by decide) (by decide) dX11_needed_28 rfl ?_
    refine j_iconst (pc := 29) (v := 1) C dX11_needed_29 (by decide) ?_
    refine j_istore_n (pc := 30) (lv' := [(2, .int 1), (0, .ref g0), (1, .int p0)]) C dX11_needed_30 rfl (by decide) rfl ?_
    refine j_iload_n (pc := 31) C dX11_needed_31 rfl 0 rfl ?_
    refine j_iconst (pc := 32) (v := 1) C dX11_needed_32 (by decide) ?_
    refine j_aload_n (pc := 33) C dX11_needed_33 rfl 1 rfl ?_
    refine j_callV (pc := 34) (As := []) (rest := [.int 1, .int 1]) (wr := [(g22, .inl (cyI, 4096, .inl (upd (fun _ => 0) 0 0))), (g20, .inl (cyI, 4096, .inl (upd (fun _ => 0) 0 0)))]) C (c_X11_wares l D cyC cyI cyJ cyZ cyO 0 g0 g1 g2 g3 g4 g5 g6 g7 g8 g9 g10 g11 g12 g13 g14 g15 g16 g17 g18 g19 g20 g21 g22 g23 g24 g25) wd_312 wd_313 wd_314 wd_315 wd_316 ⟨by decide, by decide, rfl⟩ rfl ⟨rfl, rfl, by decide, by decide⟩ ⟨by decide, by decide⟩ [1, 2] [0, 3] rfl rfl ⟨by decide, by decide, by decide⟩ 1 rfl rfl rfl (Nat.le_of_ble_eq_true rfl) dX11_needed_34 (fun u_7 hw_8 => ?_)
    refine j_eq (ws2 := [(g22, .inl (cyI, 4096, .inl (upd (fun _ => 0) 0 0))), (g20, .inl (cyI, 4096, .inl (upd (fun _ => 0) 0 0))), (g0, .inr (11, [.int 0, .ref g1, .int 0, .int 0, .ref g2, .ref g3, .ref g4, .int 0, .int 0, .ref g5, .ref g6, .ref g7, .ref g8, .int 0, .ref g9, .ref g10, .int 0, .ref g11, .ref g12, .ref g13, .ref g14, .ref g15, .int 0, .int 0, .int 0, .ref g16, .int 0, .ref g17, .ref g18, .ref g19, .ref g20, .ref g21, .ref g22, .int 0, .int 0, .int 0, .ref g23, .ref g24, .int 0, .int 0, .int 0, .int 0, .ref g25])), (g6, .inl (cyI, 240, .inl (fun _ => 0)))]) (pc2 := 37) (lv2 := [(2, .int 1), (0, .ref g0), (1, .int p0)]) (st2 := [.int 0, .int 1, .int 1]) rfl rfl rfl rfl ?_
    refine j_ishl (pc := 37) (v := 1) C dX11_needed_37 (by decide) ?_
    refine j_icmp_ge_t (pc := 38) (tgt := 148) C dX11_needed_38 (by decide) (by decide) ?_
    refine j_aload_n (pc := 148) C dX11_needed_148 rfl 1 rfl ?_
    refine j_get (pc := 149) (ci := 11) (v := .ref g22) C inw_11 2 rfl rfl 32 (by decide) wd_164 rfl rfl dX11_needed_149 ?_
    refine j_iconst (pc := 152) (v := 1) C dX11_needed_152 (by decide) ?_
    refine j_aload_n (pc := 153) C dX11_needed_153 rfl 1 rfl ?_
    refine j_callV (pc := 154) (As := []) (rest := [.int 1, .ref g22]) (wr := [(g22, .inl (cyI, 4096, .inl (upd (fun _ => 0) 0 0))), (g20, .inl (cyI, 4096, .inl (upd (fun _ => 0) 0 0)))]) C (c_X11_wares l D cyC cyI cyJ cyZ cyO 0 g0 g1 g2 g3 g4 g5 g6 g7 g8 g9 g10 g11 g12 g13 g14 g15 g16 g17 g18 g19 g20 g21 g22 g23 g24 g25) wd_312 wd_313 wd_314 wd_315 wd_316 ⟨by decide, by decide, rfl⟩ rfl ⟨rfl, rfl, by decide, by decide⟩ ⟨by decide, by decide⟩ [2, 3] [0, 1] rfl rfl ⟨by decide, by decide, by decide⟩ 2 rfl rfl rfl (Nat.le_of_ble_eq_true rfl) dX11_needed_154 (fun u_9 hw_10 => ?_)
    refine j_eq (ws2 := [(g22, .inl (cyI, 4096, .inl (upd (fun _ => 0) 0 0))), (g20, .inl (cyI, 4096, .inl (upd (fun _ => 0) 0 0))), (g0, .inr (11, [.int 0, .ref g1, .int 0, .int 0, .ref g2, .ref g3, .ref g4, .int 0, .int 0, .ref g5, .ref g6, .ref g7, .ref g8, .int 0, .ref g9, .ref g10, .int 0, .ref g11, .ref g12, .ref g13, .ref g14, .ref g15, .int 0, .int 0, .int 0, .ref g16, .int 0, .ref g17, .ref g18, .ref g19, .ref g20, .ref g21, .ref g22, .int 0, .int 0, .int 0, .ref g23, .ref g24, .int 0, .int 0, .int 0, .int 0, .ref g25])), (g6, .inl (cyI, 240, .inl (fun _ => 0)))]) (pc2 := 157) (lv2 := [(2, .int 1), (0, .ref g0), (1, .int p0)]) (st2 := [.int 0, .int 1, .ref g22]) rfl rfl rfl rfl ?_
    refine j_ishl (pc := 157) (v := 1) C dX11_needed_157 (by decide) ?_
    refine j_iconst (pc := 158) (v := 1) C dX11_needed_158 (by decide) ?_
    refine j_isub (pc := 159) (v := 0) C dX11_needed_159 (by decide) ?_
    refine j_iald (pc := 160) (v := 0) (k := 0) C 0 1 rfl rfl (by decide) (by decide) (by decide) rfl dX11_needed_160 ?_
    refine j_istore_n (pc := 161) (lv' := [(2, .int 0), (0, .ref g0), (1, .int p0)]) C dX11_needed_161 rfl (by decide) rfl ?_
    refine j_iload_n (pc := 162) C dX11_needed_162 rfl 0 rfl ?_
    refine j_ldcw (pc := 163) C wd_356 dX11_needed_163 ?_
    refine j_icmp_ge_f (pc := 166) (tgt := 173) C dX11_needed_166 (by decide) (by decide) ?_
    refine j_iload_n (pc := 169) C dX11_needed_169 rfl 0 rfl ?_
    refine j_goto (pc := 170) (tgt := 174) C dX11_needed_170 (by decide) ?_
    exact j_iret (pc := 174) C hr hk (fun _ => 0, fun _ => 0, fun _ _ => 0) rfl (by show (0 : Int32) = (if 1 ≤ p0 ∧ p0 ≤ 999 then 0 else -1); have e1 : (1 : Int32).toInt = 1 := rfl; have e999 : (999 : Int32).toInt = 999 := rfl; exact if hE : 1 ≤ p0 ∧ p0 ≤ 999 then (by first | exact (if_pos hE).symm | (exfalso; simp only [i_lt, i_le, i_eq] at hE hc_3; omega)) else (by first | exact (if_neg hE).symm | (exfalso; simp only [i_lt, i_le, i_eq] at hE hc_3; omega))) [] (by decide) rfl (by decide) (by decide) dX11_needed_174
  · skip
    refine j_eq (ws2 := [(g0, .inr (11, [.int 0, .ref g1, .int 0, .int 0, .ref g2, .ref g3, .ref g4, .int 0, .int 0, .ref g5, .ref g6, .ref g7, .ref g8, .int 0, .ref g9, .ref g10, .int 1, .ref g11, .ref g12, .ref g13, .ref g14, .ref g15, .int 0, .int 0, .int 0, .ref g16, .int 0, .ref g17, .ref g18, .ref g19, .ref g20, .ref g21, .ref g22, .int 0, .int 0, .int 0, .ref g23, .ref g24, .int 0, .int 0, .int 0, .int 0, .ref g25])), (g6, .inl (cyI, 240, .inl (fun _ => 0))), (g20, .inl (cyI, 4096, .inl (fun _ => 0))), (g22, .inl (cyI, 4096, .inl (fun _ => 0)))]) (pc2 := 13) (lv2 := [(0, .ref g0), (1, .int p0)]) (st2 := [.int 0]) rfl rfl rfl (by rw [hr_4]) ?_
    refine j_if_ne_f (pc := 13) (tgt := 18) C dX11_needed_13 (by decide) (by decide) ?_
    refine j_iconst (pc := 16) (v := (-1)) C dX11_needed_16 (by decide) ?_
    exact j_iret (pc := 17) C hr hk (fun _ => 0, fun _ => (-1), fun _ _ => 0) rfl (by show ((-1) : Int32) = (if 1 ≤ p0 ∧ p0 ≤ 999 then 0 else -1); have e1 : (1 : Int32).toInt = 1 := rfl; have e999 : (999 : Int32).toInt = 999 := rfl; exact if hE : 1 ≤ p0 ∧ p0 ≤ 999 then (by first | exact (if_pos hE).symm | (exfalso; simp only [i_lt, i_le, i_eq] at hE hc_3; omega)) else (by first | exact (if_neg hE).symm | (exfalso; simp only [i_lt, i_le, i_eq] at hE hc_3; omega))) [] (by decide) rfl (by decide) (by decide) dX11_needed_17
set_option maxHeartbeats 4000000 in
set_option maxRecDepth 100000 in
theorem c_X11_sorted (l : Launch) (D : va_G) (cyC cyI cyJ cyZ cyO : ClassId) (p0 : Int32) (p1 : Int32) (p2 : Int32) (g0 : Nat) (g1 : Nat) (g2 : Nat) (g3 : Nat) (g4 : Nat) (g5 : Nat) (g6 : Nat) (g7 : Nat) (g8 : Nat) (g9 : Nat) (g10 : Nat) (g11 : Nat) (g12 : Nat) (g13 : Nat) (g14 : Nat) (g15 : Nat) (g16 : Nat) (g17 : Nat) (g18 : Nat) (g19 : Nat) (g20 : Nat) (g21 : Nat) (g22 : Nat) (g23 : Nat) (g24 : Nat) (g25 : Nat) : KK l D (TY cyC cyI cyJ cyZ cyO) yX11_sorted cX11_sorted 9 (some .int) ({ frames := 2, cells := 0, slots := 0, locals := 44 } : Room) 0 0 [.ref g0, .int p0, .int p1, .int p2] [(g0, .inr (11, [.int 0, .ref g1, .int 0, .int 0, .ref g2, .ref g3, .ref g4, .int 0, .int 0, .ref g5, .ref g6, .ref g7, .ref g8, .int 0, .ref g9, .ref g10, .int 1, .ref g11, .ref g12, .ref g13, .ref g14, .ref g15, .int 0, .int 0, .int 0, .ref g16, .int 0, .ref g17, .ref g18, .ref g19, .ref g20, .ref g21, .ref g22, .int 0, .int 0, .int 0, .ref g23, .ref g24, .int 0, .int 0, .int 0, .int 0, .ref g25])), (g6, .inl (cyI, 240, .inl (fun _ => 0))), (g20, .inl (cyI, 4096, .inl (fun _ => 0)))] (fun u => some (.int (-1))) (fun u => True) (fun u => []) := by
  refine KK.of (lv0 := [(0, .ref g0), (1, .int p0), (2, .int p1), (3, .int p2)]) (by decide) rfl (Nat.le_of_ble_eq_true rfl) ?_
  intro p e s m args below meth c A C hr hk hin
  refine j_aload_n (pc := 0) C dX11_sorted_0 rfl 0 rfl ?_
  refine j_iconst (pc := 1) (v := 0) C dX11_sorted_1 (by decide) ?_
  refine j_put (pc := 2) (ci := 11) (v := .int 0) (ws' := [(g0, .inr (11, [.int 0, .ref g1, .int 0, .int 0, .ref g2, .ref g3, .ref g4, .int 0, .int 0, .ref g5, .ref g6, .ref g7, .ref g8, .int 0, .ref g9, .ref g10, .int 1, .ref g11, .ref g12, .ref g13, .ref g14, .ref g15, .int 0, .int 0, .int 0, .ref g16, .int 0, .ref g17, .ref g18, .ref g19, .ref g20, .ref g21, .ref g22, .int 0, .int 0, .int 0, .ref g23, .ref g24, .int 0, .int 0, .int 0, .int 0, .ref g25])), (g6, .inl (cyI, 240, .inl (fun _ => 0))), (g20, .inl (cyI, 4096, .inl (fun _ => 0)))]) C inw_11 0 rfl rfl 0 (by decide) wd_329 rfl tyX11_ok nmX11 rfl (tyX11_ok 0 (by decide)) rfl rfl (Nat.le_of_ble_eq_true rfl) dX11_sorted_2 rfl ?_
  refine j_aload_n (pc := 5) C dX11_sorted_5 rfl 0 rfl ?_
  refine j_callV (pc := 6) (As := []) (rest := []) (wr := []) C (c_X11_find l D cyC cyI cyJ cyZ cyO g0 g1 g2 g3 g4 g5 g6 g7 g8 g9 g10 g11 g12 g13 g14 g15 g16 g17 g18 g19 g20 g21 g22 g23 g24 g25) wd_338 wd_313 wd_339 wd_340 wd_341 ⟨by decide, by decide, rfl⟩ rfl ⟨rfl, rfl, by decide, by decide⟩ ⟨by decide, by decide⟩ [0, 1, 2] [] rfl rfl ⟨by decide, by decide, by decide⟩ 0 rfl rfl rfl (Nat.le_of_ble_eq_true rfl) dX11_sorted_6 (fun u_1 hw_2 => ?_)
  refine j_eq (ws2 := [(g0, .inr (11, [.int 0, .ref g1, .int 0, .int 0, .ref g2, .ref g3, .ref g4, .int 0, .int 0, .ref g5, .ref g6, .ref g7, .ref g8, .int 0, .ref g9, .ref g10, .int 0, .ref g11, .ref g12, .ref g13, .ref g14, .ref g15, .int 0, .int 0, .int 0, .ref g16, .int 0, .ref g17, .ref g18, .ref g19, .ref g20, .ref g21, .ref g22, .int 0, .int 0, .int 0, .ref g23, .ref g24, .int 0, .int 0, .int 0, .int 0, .ref g25])), (g6, .inl (cyI, 240, .inl (fun _ => 0))), (g20, .inl (cyI, 4096, .inl (upd (fun _ => 0) 0 0)))]) (pc2 := 9) (lv2 := [(0, .ref g0), (1, .int p0), (2, .int p1), (3, .int p2)]) (st2 := []) rfl rfl rfl rfl ?_
  refine j_iload_n (pc := 9) C dX11_sorted_9 rfl 1 rfl ?_
  refine j_iconst (pc := 10) (v := 1) C dX11_sorted_10 (by decide) ?_
  refine j_icmp_lt (pc := 11) (tgt := 56) C dX11_sorted_11 (by decide) (fun c_3 => ?_) (fun c_3 => ?_)
  · skip
    refine j_iconst (pc := 56) (v := (-1)) C dX11_sorted_56 (by decide) ?_
    exact j_iret (pc := 57) C hr hk (fun i => [].getD i 0, fun _ => 0, fun _ _ => 0) rfl trivial [] (by decide) rfl (by decide) (by decide) dX11_sorted_57
  · skip
    refine j_iload_n (pc := 14) C dX11_sorted_14 rfl 1 rfl ?_
    refine j_iconst (pc := 15) (v := 1) C dX11_sorted_15 (by decide) ?_
    refine j_aload_n (pc := 16) C dX11_sorted_16 rfl 0 rfl ?_
    refine j_callV (pc := 17) (As := []) (rest := [.int 1, .int p0]) (wr := [(g20, .inl (cyI, 4096, .inl (upd (fun _ => 0) 0 0)))]) C (c_X11_wares l D cyC cyI cyJ cyZ cyO 0 g0 g1 g2 g3 g4 g5 g6 g7 g8 g9 g10 g11 g12 g13 g14 g15 g16 g17 g18 g19 g20 g21 g22 g23 g24 g25) wd_312 wd_313 wd_314 wd_315 wd_316 ⟨by decide, by decide, rfl⟩ rfl ⟨rfl, rfl, by decide, by decide⟩ ⟨by decide, by decide⟩ [0, 1] [2] rfl rfl ⟨by decide, by decide, by decide⟩ 0 rfl rfl rfl (Nat.le_of_ble_eq_true rfl) dX11_sorted_17 (fun u_4 hw_5 => ?_)
    refine j_eq (ws2 := [(g20, .inl (cyI, 4096, .inl (upd (fun _ => 0) 0 0))), (g0, .inr (11, [.int 0, .ref g1, .int 0, .int 0, .ref g2, .ref g3, .ref g4, .int 0, .int 0, .ref g5, .ref g6, .ref g7, .ref g8, .int 0, .ref g9, .ref g10, .int 0, .ref g11, .ref g12, .ref g13, .ref g14, .ref g15, .int 0, .int 0, .int 0, .ref g16, .int 0, .ref g17, .ref g18, .ref g19, .ref g20, .ref g21, .ref g22, .int 0, .int 0, .int 0, .ref g23, .ref g24, .int 0, .int 0, .int 0, .int 0, .ref g25])), (g6, .inl (cyI, 240, .inl (fun _ => 0)))]) (pc2 := 20) (lv2 := [(0, .ref g0), (1, .int p0), (2, .int p1), (3, .int p2)]) (st2 := [.int 0, .int 1, .int p0]) rfl rfl rfl rfl ?_
    refine j_ishl (pc := 20) (v := 1) C dX11_sorted_20 (by decide) ?_
    refine j_icmp_ge_t (pc := 21) (tgt := 56) C dX11_sorted_21 (by decide) (br_ltf_ge c_3) ?_
    refine j_iconst (pc := 56) (v := (-1)) C dX11_sorted_56 (by decide) ?_
    exact j_iret (pc := 57) C hr hk (fun i => [].getD i 0, fun _ => 0, fun _ _ => 0) rfl trivial [] (by decide) rfl (by decide) (by decide) dX11_sorted_57
set_option maxHeartbeats 4000000 in
set_option maxRecDepth 100000 in
theorem c_X11_goes (l : Launch) (D : va_G) (cyC cyI cyJ cyZ cyO : ClassId) (p0 : Int32) (p1 : Int32) (g0 : Nat) (g1 : Nat) (g2 : Nat) (g3 : Nat) (g4 : Nat) (g5 : Nat) (g6 : Nat) (g7 : Nat) (g8 : Nat) (g9 : Nat) (g10 : Nat) (g11 : Nat) (g12 : Nat) (g13 : Nat) (g14 : Nat) (g15 : Nat) (g16 : Nat) (g17 : Nat) (g18 : Nat) (g19 : Nat) (g20 : Nat) (g21 : Nat) (g22 : Nat) (g23 : Nat) (g24 : Nat) (g25 : Nat) : KK l D (TY cyC cyI cyJ cyZ cyO) yX11_goes cX11_goes 3 (some .int) ({ frames := 2, cells := 0, slots := 0, locals := 41 } : Room) 0 0 [.ref g0, .int p0, .int p1] [(g0, .inr (11, [.int 0, .ref g1, .int 0, .int 0, .ref g2, .ref g3, .ref g4, .int 0, .int 0, .ref g5, .ref g6, .ref g7, .ref g8, .int 0, .ref g9, .ref g10, .int 1, .ref g11, .ref g12, .ref g13, .ref g14, .ref g15, .int 0, .int 0, .int 0, .ref g16, .int 0, .ref g17, .ref g18, .ref g19, .ref g20, .ref g21, .ref g22, .int 0, .int 0, .int 0, .ref g23, .ref g24, .int 0, .int 0, .int 0, .int 0, .ref g25])), (g6, .inl (cyI, 240, .inl (fun _ => 0)))] (fun u => some (.int (-1))) (fun u => True) (fun u => []) := by
  refine KK.of (lv0 := [(0, .ref g0), (1, .int p0), (2, .int p1)]) (by decide) rfl (Nat.le_of_ble_eq_true rfl) ?_
  intro p e s m args below meth c A C hr hk hin
  refine j_aload_n (pc := 0) C dX11_goes_0 rfl 0 rfl ?_
  refine j_iconst (pc := 1) (v := 0) C dX11_goes_1 (by decide) ?_
  refine j_put (pc := 2) (ci := 11) (v := .int 0) (ws' := [(g0, .inr (11, [.int 0, .ref g1, .int 0, .int 0, .ref g2, .ref g3, .ref g4, .int 0, .int 0, .ref g5, .ref g6, .ref g7, .ref g8, .int 0, .ref g9, .ref g10, .int 1, .ref g11, .ref g12, .ref g13, .ref g14, .ref g15, .int 0, .int 0, .int 0, .ref g16, .int 0, .ref g17, .ref g18, .ref g19, .ref g20, .ref g21, .ref g22, .int 0, .int 0, .int 0, .ref g23, .ref g24, .int 0, .int 0, .int 0, .int 0, .ref g25])), (g6, .inl (cyI, 240, .inl (fun _ => 0)))]) C inw_11 0 rfl rfl 0 (by decide) wd_329 rfl tyX11_ok nmX11 rfl (tyX11_ok 0 (by decide)) rfl rfl (Nat.le_of_ble_eq_true rfl) dX11_goes_2 rfl ?_
  refine j_aload_n (pc := 5) C dX11_goes_5 rfl 0 rfl ?_
  refine j_iload_n (pc := 6) C dX11_goes_6 rfl 1 rfl ?_
  refine j_callV (pc := 7) (As := [.int p0]) (rest := []) (wr := []) C (c_X11_isWare l D cyC cyI cyJ cyZ cyO p0 1 g0 g1 g2 g3 g4 g5 g6 g7 g8 g9 g10 g11 g12 g13 g14 g15 g16 g17 g18 g19 g20 g21 g22 g23 g24 g25) wd_325 wd_313 wd_326 wd_327 wd_328 ⟨by decide, by decide, rfl⟩ rfl ⟨rfl, rfl, by decide, by decide⟩ ⟨by decide, by decide⟩ [0, 1] [] rfl rfl ⟨by decide, by decide, by decide⟩ 0 rfl rfl rfl (Nat.le_of_ble_eq_true rfl) dX11_goes_7 (fun u_1 hw_2 => ?_)
  refine j_eq (ws2 := [(g0, .inr (11, [.int 0, .ref g1, .int 0, .int 0, .ref g2, .ref g3, .ref g4, .int 0, .int 0, .ref g5, .ref g6, .ref g7, .ref g8, .int 0, .ref g9, .ref g10, .int 1, .ref g11, .ref g12, .ref g13, .ref g14, .ref g15, .int 0, .int 0, .int 0, .ref g16, .int 0, .ref g17, .ref g18, .ref g19, .ref g20, .ref g21, .ref g22, .int 0, .int 0, .int 0, .ref g23, .ref g24, .int 0, .int 0, .int 0, .int 0, .ref g25])), (g6, .inl (cyI, 240, .inl (fun _ => 0)))]) (pc2 := 10) (lv2 := [(0, .ref g0), (1, .int p0), (2, .int p1)]) (st2 := [.int 0]) rfl rfl rfl rfl ?_
  refine j_if_eq_t (pc := 10) (tgt := 39) C dX11_goes_10 (by decide) (by decide) ?_
  refine j_iconst (pc := 39) (v := (-1)) C dX11_goes_39 (by decide) ?_
  exact j_iret (pc := 40) C hr hk (fun i => [].getD i 0, fun _ => 0, fun _ _ => 0) rfl trivial [] (by decide) rfl (by decide) (by decide) dX11_goes_40
set_option maxHeartbeats 4000000 in
set_option maxRecDepth 100000 in
theorem c_X11_ask (l : Launch) (D : va_G) (cyC cyI cyJ cyZ cyO : ClassId) (p0 : Int32) (g0 : Nat) (g1 : Nat) (g2 : Nat) (g3 : Nat) (g4 : Nat) (g5 : Nat) (g6 : Nat) (g7 : Nat) (g8 : Nat) (g9 : Nat) (g10 : Nat) (g11 : Nat) (g12 : Nat) (g13 : Nat) (g14 : Nat) (g15 : Nat) (g16 : Nat) (g17 : Nat) (g18 : Nat) (g19 : Nat) (g20 : Nat) (g21 : Nat) (g22 : Nat) (g23 : Nat) (g24 : Nat) (g25 : Nat) : KK l D (TY cyC cyI cyJ cyZ cyO) yX11_ask cX11_ask 2 (some .int) ({ frames := 2, cells := 0, slots := 0, locals := 41 } : Room) 0 0 [.ref g0, .int p0] [(g0, .inr (11, [.int 0, .ref g1, .int 0, .int 0, .ref g2, .ref g3, .ref g4, .int 0, .int 0, .ref g5, .ref g6, .ref g7, .ref g8, .int 0, .ref g9, .ref g10, .int 1, .ref g11, .ref g12, .ref g13, .ref g14, .ref g15, .int 0, .int 0, .int 0, .ref g16, .int 0, .ref g17, .ref g18, .ref g19, .ref g20, .ref g21, .ref g22, .int 0, .int 0, .int 0, .ref g23, .ref g24, .int 0, .int 0, .int 0, .int 0, .ref g25])), (g6, .inl (cyI, 240, .inl (fun _ => 0)))] (fun u => some (.int (-1))) (fun u => True) (fun u => []) := by
  refine KK.of (lv0 := [(0, .ref g0), (1, .int p0)]) (by decide) rfl (Nat.le_of_ble_eq_true rfl) ?_
  intro p e s m args below meth c A C hr hk hin
  refine j_aload_n (pc := 0) C dX11_ask_0 rfl 0 rfl ?_
  refine j_iconst (pc := 1) (v := 0) C dX11_ask_1 (by decide) ?_
  refine j_put (pc := 2) (ci := 11) (v := .int 0) (ws' := [(g0, .inr (11, [.int 0, .ref g1, .int 0, .int 0, .ref g2, .ref g3, .ref g4, .int 0, .int 0, .ref g5, .ref g6, .ref g7, .ref g8, .int 0, .ref g9, .ref g10, .int 1, .ref g11, .ref g12, .ref g13, .ref g14, .ref g15, .int 0, .int 0, .int 0, .ref g16, .int 0, .ref g17, .ref g18, .ref g19, .ref g20, .ref g21, .ref g22, .int 0, .int 0, .int 0, .ref g23, .ref g24, .int 0, .int 0, .int 0, .int 0, .ref g25])), (g6, .inl (cyI, 240, .inl (fun _ => 0)))]) C inw_11 0 rfl rfl 0 (by decide) wd_329 rfl tyX11_ok nmX11 rfl (tyX11_ok 0 (by decide)) rfl rfl (Nat.le_of_ble_eq_true rfl) dX11_ask_2 rfl ?_
  refine j_aload_n (pc := 5) C dX11_ask_5 rfl 0 rfl ?_
  refine j_iload_n (pc := 6) C dX11_ask_6 rfl 1 rfl ?_
  refine j_callV (pc := 7) (As := [.int p0]) (rest := []) (wr := []) C (c_X11_isWare l D cyC cyI cyJ cyZ cyO p0 1 g0 g1 g2 g3 g4 g5 g6 g7 g8 g9 g10 g11 g12 g13 g14 g15 g16 g17 g18 g19 g20 g21 g22 g23 g24 g25) wd_325 wd_313 wd_326 wd_327 wd_328 ⟨by decide, by decide, rfl⟩ rfl ⟨rfl, rfl, by decide, by decide⟩ ⟨by decide, by decide⟩ [0, 1] [] rfl rfl ⟨by decide, by decide, by decide⟩ 0 rfl rfl rfl (Nat.le_of_ble_eq_true rfl) dX11_ask_7 (fun u_1 hw_2 => ?_)
  refine j_eq (ws2 := [(g0, .inr (11, [.int 0, .ref g1, .int 0, .int 0, .ref g2, .ref g3, .ref g4, .int 0, .int 0, .ref g5, .ref g6, .ref g7, .ref g8, .int 0, .ref g9, .ref g10, .int 1, .ref g11, .ref g12, .ref g13, .ref g14, .ref g15, .int 0, .int 0, .int 0, .ref g16, .int 0, .ref g17, .ref g18, .ref g19, .ref g20, .ref g21, .ref g22, .int 0, .int 0, .int 0, .ref g23, .ref g24, .int 0, .int 0, .int 0, .int 0, .ref g25])), (g6, .inl (cyI, 240, .inl (fun _ => 0)))]) (pc2 := 10) (lv2 := [(0, .ref g0), (1, .int p0)]) (st2 := [.int 0]) rfl rfl rfl rfl ?_
  refine j_if_eq_t (pc := 10) (tgt := 22) C dX11_ask_10 (by decide) (by decide) ?_
  refine j_iconst (pc := 22) (v := (-1)) C dX11_ask_22 (by decide) ?_
  exact j_iret (pc := 23) C hr hk (fun i => [].getD i 0, fun _ => 0, fun _ _ => 0) rfl trivial [] (by decide) rfl (by decide) (by decide) dX11_ask_23
set_option maxHeartbeats 4000000 in
set_option maxRecDepth 100000 in
theorem c_X11_clear (l : Launch) (D : va_G) (cyC cyI cyJ cyZ cyO : ClassId) (g0 : Nat) (g1 : Nat) (g2 : Nat) (g3 : Nat) (g4 : Nat) (g5 : Nat) (g6 : Nat) (g7 : Nat) (g8 : Nat) (g9 : Nat) (g10 : Nat) (g11 : Nat) (g12 : Nat) (g13 : Nat) (g14 : Nat) (g15 : Nat) (g16 : Nat) (g17 : Nat) (g18 : Nat) (g19 : Nat) (g20 : Nat) (g21 : Nat) (g22 : Nat) (g23 : Nat) (g24 : Nat) (g25 : Nat) : KK l D (TY cyC cyI cyJ cyZ cyO) yX11_clear cX11_clear 1 (some .boolean) ({ frames := 0, cells := 0, slots := 0, locals := 0 } : Room) 0 0 [.ref g0] [(g0, .inr (11, [.int 0, .ref g1, .int 0, .int 0, .ref g2, .ref g3, .ref g4, .int 0, .int 0, .ref g5, .ref g6, .ref g7, .ref g8, .int 0, .ref g9, .ref g10, .int 1, .ref g11, .ref g12, .ref g13, .ref g14, .ref g15, .int 0, .int 0, .int 0, .ref g16, .int 0, .ref g17, .ref g18, .ref g19, .ref g20, .ref g21, .ref g22, .int 0, .int 0, .int 0, .ref g23, .ref g24, .int 0, .int 0, .int 0, .int 0, .ref g25])), (g14, .inl (cyI, 2760, .inl (fun _ => 0)))] (fun u => some (.int 1)) (fun u => True) (fun u => []) := by
  refine KK.of (lv0 := [(0, .ref g0)]) (by decide) rfl (Nat.le_of_ble_eq_true rfl) ?_
  intro p e s m args below meth c A C hr hk hin
  refine j_aload_n (pc := 0) C dX11_clear_0 rfl 0 rfl ?_
  refine j_iconst (pc := 1) (v := 0) C dX11_clear_1 (by decide) ?_
  refine j_put (pc := 2) (ci := 11) (v := .int 0) (ws' := [(g0, .inr (11, [.int 0, .ref g1, .int 0, .int 0, .ref g2, .ref g3, .ref g4, .int 0, .int 0, .ref g5, .ref g6, .ref g7, .ref g8, .int 0, .ref g9, .ref g10, .int 1, .ref g11, .ref g12, .ref g13, .ref g14, .ref g15, .int 0, .int 0, .int 0, .ref g16, .int 0, .ref g17, .ref g18, .ref g19, .ref g20, .ref g21, .ref g22, .int 0, .int 0, .int 0, .ref g23, .ref g24, .int 0, .int 0, .int 0, .int 0, .ref g25])), (g14, .inl (cyI, 2760, .inl (fun _ => 0)))]) C inw_11 0 rfl rfl 0 (by decide) wd_329 rfl tyX11_ok nmX11 rfl (tyX11_ok 0 (by decide)) rfl rfl (Nat.le_of_ble_eq_true rfl) dX11_clear_2 rfl ?_
  refine j_aload_n (pc := 5) C dX11_clear_5 rfl 0 rfl ?_
  refine j_get (pc := 6) (ci := 11) (v := .ref g14) C inw_11 0 rfl rfl 20 (by decide) wd_155 rfl rfl dX11_clear_6 ?_
  refine j_sipush (pc := 9) (v := 421) C dX11_clear_9 (by decide) ?_
  refine j_iconst (pc := 12) (v := 0) C dX11_clear_12 (by decide) ?_
  refine j_iast (pc := 13) (k := 421) (ws' := [(g0, .inr (11, [.int 0, .ref g1, .int 0, .int 0, .ref g2, .ref g3, .ref g4, .int 0, .int 0, .ref g5, .ref g6, .ref g7, .ref g8, .int 0, .ref g9, .ref g10, .int 1, .ref g11, .ref g12, .ref g13, .ref g14, .ref g15, .int 0, .int 0, .int 0, .ref g16, .int 0, .ref g17, .ref g18, .ref g19, .ref g20, .ref g21, .ref g22, .int 0, .int 0, .int 0, .ref g23, .ref g24, .int 0, .int 0, .int 0, .int 0, .ref g25])), (g14, .inl (cyI, 2760, .inl (upd (fun _ => 0) 421 0)))]) C 1 1 rfl rfl (by decide) (by decide) (by decide) dX11_clear_13 rfl ?_
  refine j_iconst (pc := 14) (v := 1) C dX11_clear_14 (by decide) ?_
  exact j_zret (pc := 15) C hr rfl hk (fun i => [].getD i 0, fun _ => 0, fun _ _ => 0) rfl trivial [] (by decide) rfl (by decide) (by decide) dX11_clear_15
set_option maxHeartbeats 4000000 in
set_option maxRecDepth 100000 in
theorem c_X11_asked (l : Launch) (D : va_G) (cyC cyI cyJ cyZ cyO : ClassId) (g0 : Nat) (g1 : Nat) (g2 : Nat) (g3 : Nat) (g4 : Nat) (g5 : Nat) (g6 : Nat) (g7 : Nat) (g8 : Nat) (g9 : Nat) (g10 : Nat) (g11 : Nat) (g12 : Nat) (g13 : Nat) (g14 : Nat) (g15 : Nat) (g16 : Nat) (g17 : Nat) (g18 : Nat) (g19 : Nat) (g20 : Nat) (g21 : Nat) (g22 : Nat) (g23 : Nat) (g24 : Nat) (g25 : Nat) : KK l D (TY cyC cyI cyJ cyZ cyO) yX11_asked cX11_asked 3 (some .int) ({ frames := 1, cells := 0, slots := 0, locals := 20 } : Room) 0 0 [.ref g0] [(g0, .inr (11, [.int 0, .ref g1, .int 0, .int 0, .ref g2, .ref g3, .ref g4, .int 0, .int 0, .ref g5, .ref g6, .ref g7, .ref g8, .int 0, .ref g9, .ref g10, .int 1, .ref g11, .ref g12, .ref g13, .ref g14, .ref g15, .int 0, .int 0, .int 0, .ref g16, .int 0, .ref g17, .ref g18, .ref g19, .ref g20, .ref g21, .ref g22, .int 0, .int 0, .int 0, .ref g23, .ref g24, .int 0, .int 0, .int 0, .int 0, .ref g25])), (g14, .inl (cyI, 2760, .inl (fun _ => 0)))] (fun u => some (.int 0)) (fun u => True) (fun u => []) := by
  refine KK.of (lv0 := [(0, .ref g0)]) (by decide) rfl (Nat.le_of_ble_eq_true rfl) ?_
  intro p e s m args below meth c A C hr hk hin
  refine j_aload_n (pc := 0) C dX11_asked_0 rfl 0 rfl ?_
  refine j_iconst (pc := 1) (v := 0) C dX11_asked_1 (by decide) ?_
  refine j_put (pc := 2) (ci := 11) (v := .int 0) (ws' := [(g0, .inr (11, [.int 0, .ref g1, .int 0, .int 0, .ref g2, .ref g3, .ref g4, .int 0, .int 0, .ref g5, .ref g6, .ref g7, .ref g8, .int 0, .ref g9, .ref g10, .int 1, .ref g11, .ref g12, .ref g13, .ref g14, .ref g15, .int 0, .int 0, .int 0, .ref g16, .int 0, .ref g17, .ref g18, .ref g19, .ref g20, .ref g21, .ref g22, .int 0, .int 0, .int 0, .ref g23, .ref g24, .int 0, .int 0, .int 0, .int 0, .ref g25])), (g14, .inl (cyI, 2760, .inl (fun _ => 0)))]) C inw_11 0 rfl rfl 0 (by decide) wd_329 rfl tyX11_ok nmX11 rfl (tyX11_ok 0 (by decide)) rfl rfl (Nat.le_of_ble_eq_true rfl) dX11_asked_2 rfl ?_
  refine j_iconst (pc := 5) (v := 0) C dX11_asked_5 (by decide) ?_
  refine j_istore_n (pc := 6) (lv' := [(1, .int 0), (0, .ref g0)]) C dX11_asked_6 rfl (by decide) rfl ?_
  refine j_iconst (pc := 7) (v := 0) C dX11_asked_7 (by decide) ?_
  refine j_istore_n (pc := 8) (lv' := [(2, .int 0), (1, .int 0), (0, .ref g0)]) C dX11_asked_8 rfl (by decide) rfl ?_
  refine j_iload_n (pc := 9) C dX11_asked_9 rfl 0 rfl ?_
  refine j_aload_n (pc := 10) C dX11_asked_10 rfl 2 rfl ?_
  refine j_callV (pc := 11) (As := []) (rest := [.int 0]) (wr := []) C (c_X11_asks l D cyC cyI cyJ cyZ cyO 1 g0 g1 g2 g3 g4 g5 g6 g7 g8 g9 g10 g11 g12 g13 g14 g15 g16 g17 g18 g19 g20 g21 g22 g23 g24 g25) wd_357 wd_313 wd_358 wd_359 wd_360 ⟨by decide, by decide, rfl⟩ rfl ⟨rfl, rfl, by decide, by decide⟩ ⟨by decide, by decide⟩ [0, 1] [] rfl rfl ⟨by decide, by decide, by decide⟩ 0 rfl rfl rfl (Nat.le_of_ble_eq_true rfl) dX11_asked_11 (fun u_1 hw_2 => ?_)
  refine j_eq (ws2 := [(g0, .inr (11, [.int 0, .ref g1, .int 0, .int 0, .ref g2, .ref g3, .ref g4, .int 0, .int 0, .ref g5, .ref g6, .ref g7, .ref g8, .int 0, .ref g9, .ref g10, .int 1, .ref g11, .ref g12, .ref g13, .ref g14, .ref g15, .int 0, .int 0, .int 0, .ref g16, .int 0, .ref g17, .ref g18, .ref g19, .ref g20, .ref g21, .ref g22, .int 0, .int 0, .int 0, .ref g23, .ref g24, .int 0, .int 0, .int 0, .int 0, .ref g25])), (g14, .inl (cyI, 2760, .inl (fun _ => 0)))]) (pc2 := 14) (lv2 := [(2, .int 0), (1, .int 0), (0, .ref g0)]) (st2 := [.int 0, .int 0]) rfl rfl rfl rfl ?_
  refine j_icmp_ge_t (pc := 14) (tgt := 53) C dX11_asked_14 (by decide) (by decide) ?_
  refine j_iload_n (pc := 53) C dX11_asked_53 rfl 1 rfl ?_
  exact j_iret (pc := 54) C hr hk (fun i => [].getD i 0, fun _ => 0, fun _ _ => 0) rfl trivial [] (by decide) rfl (by decide) (by decide) dX11_asked_54
set_option maxHeartbeats 4000000 in
set_option maxRecDepth 100000 in
theorem c_X11_best (l : Launch) (D : va_G) (cyC cyI cyJ cyZ cyO : ClassId) (p0 : Int32) (p1 : Int32) (p2 : Int32) (g0 : Nat) (g1 : Nat) (g2 : Nat) (g3 : Nat) (g4 : Nat) (g5 : Nat) (g6 : Nat) (g7 : Nat) (g8 : Nat) (g9 : Nat) (g10 : Nat) (g11 : Nat) (g12 : Nat) (g13 : Nat) (g14 : Nat) (g15 : Nat) (g16 : Nat) (g17 : Nat) (g18 : Nat) (g19 : Nat) (g20 : Nat) (g21 : Nat) (g22 : Nat) (g23 : Nat) (g24 : Nat) (g25 : Nat) : KK l D (TY cyC cyI cyJ cyZ cyO) yX11_best cX11_best 5 (some .int) ({ frames := 3, cells := 0, slots := 0, locals := 64 } : Room) 0 0 [.ref g0, .int p0, .int p1, .int p2] [(g0, .inr (11, [.int 0, .ref g1, .int 0, .int 0, .ref g2, .ref g3, .ref g4, .int 0, .int 0, .ref g5, .ref g6, .ref g7, .ref g8, .int 0, .ref g9, .ref g10, .int 1, .ref g11, .ref g12, .ref g13, .ref g14, .ref g15, .int 0, .int 0, .int 0, .ref g16, .int 0, .ref g17, .ref g18, .ref g19, .ref g20, .ref g21, .ref g22, .int 0, .int 0, .int 0, .ref g23, .ref g24, .int 0, .int 0, .int 0, .int 0, .ref g25])), (g6, .inl (cyI, 240, .inl (fun _ => 0)))] (fun u => some (.int (-1))) (fun u => True) (fun u => []) := by
  refine KK.of (lv0 := [(0, .ref g0), (1, .int p0), (2, .int p1), (3, .int p2)]) (by decide) rfl (Nat.le_of_ble_eq_true rfl) ?_
  intro p e s m args below meth c A C hr hk hin
  refine j_aload_n (pc := 0) C dX11_best_0 rfl 0 rfl ?_
  refine j_iconst (pc := 1) (v := 0) C dX11_best_1 (by decide) ?_
  refine j_put (pc := 2) (ci := 11) (v := .int 0) (ws' := [(g0, .inr (11, [.int 0, .ref g1, .int 0, .int 0, .ref g2, .ref g3, .ref g4, .int 0, .int 0, .ref g5, .ref g6, .ref g7, .ref g8, .int 0, .ref g9, .ref g10, .int 1, .ref g11, .ref g12, .ref g13, .ref g14, .ref g15, .int 0, .int 0, .int 0, .ref g16, .int 0, .ref g17, .ref g18, .ref g19, .ref g20, .ref g21, .ref g22, .int 0, .int 0, .int 0, .ref g23, .ref g24, .int 0, .int 0, .int 0, .int 0, .ref g25])), (g6, .inl (cyI, 240, .inl (fun _ => 0)))]) C inw_11 0 rfl rfl 0 (by decide) wd_329 rfl tyX11_ok nmX11 rfl (tyX11_ok 0 (by decide)) rfl rfl (Nat.le_of_ble_eq_true rfl) dX11_best_2 rfl ?_
  refine j_aload_n (pc := 5) C dX11_best_5 rfl 0 rfl ?_
  refine j_iconst (pc := 6) (v := 0) C dX11_best_6 (by decide) ?_
  refine j_iload_n (pc := 7) C dX11_best_7 rfl 1 rfl ?_
  refine j_iload_n (pc := 8) C dX11_best_8 rfl 2 rfl ?_
  refine j_callV (pc := 9) (As := [.int 0, .int p0, .int p1]) (rest := []) (wr := []) C (c_X11_isStack l D cyC cyI cyJ cyZ cyO 0 p0 p1 1 g0 g1 g2 g3 g4 g5 g6 g7 g8 g9 g10 g11 g12 g13 g14 g15 g16 g17 g18 g19 g20 g21 g22 g23 g24 g25) wd_334 wd_313 wd_335 wd_336 wd_337 ⟨by decide, by decide, rfl⟩ rfl ⟨rfl, rfl, by decide, by decide⟩ ⟨by decide, by decide⟩ [0, 1] [] rfl rfl ⟨by decide, by decide, by decide⟩ 0 rfl rfl rfl (Nat.le_of_ble_eq_true rfl) dX11_best_9 (fun u_1 hw_2 => ?_)
  refine j_eq (ws2 := [(g0, .inr (11, [.int 0, .ref g1, .int 0, .int 0, .ref g2, .ref g3, .ref g4, .int 0, .int 0, .ref g5, .ref g6, .ref g7, .ref g8, .int 0, .ref g9, .ref g10, .int 1, .ref g11, .ref g12, .ref g13, .ref g14, .ref g15, .int 0, .int 0, .int 0, .ref g16, .int 0, .ref g17, .ref g18, .ref g19, .ref g20, .ref g21, .ref g22, .int 0, .int 0, .int 0, .ref g23, .ref g24, .int 0, .int 0, .int 0, .int 0, .ref g25])), (g6, .inl (cyI, 240, .inl (fun _ => 0)))]) (pc2 := 12) (lv2 := [(0, .ref g0), (1, .int p0), (2, .int p1), (3, .int p2)]) (st2 := [.int 0]) rfl rfl rfl rfl ?_
  refine j_if_eq_t (pc := 12) (tgt := 50) C dX11_best_12 (by decide) (by decide) ?_
  refine j_iconst (pc := 50) (v := (-1)) C dX11_best_50 (by decide) ?_
  exact j_iret (pc := 51) C hr hk (fun i => [].getD i 0, fun _ => 0, fun _ _ => 0) rfl trivial [] (by decide) rfl (by decide) (by decide) dX11_best_51
set_option maxHeartbeats 4000000 in
set_option maxRecDepth 100000 in
theorem c_X11_habit (l : Launch) (D : va_G) (cyC cyI cyJ cyZ cyO : ClassId) (p0 : Int32) (g0 : Nat) (g1 : Nat) (g2 : Nat) (g3 : Nat) (g4 : Nat) (g5 : Nat) (g6 : Nat) (g7 : Nat) (g8 : Nat) (g9 : Nat) (g10 : Nat) (g11 : Nat) (g12 : Nat) (g13 : Nat) (g14 : Nat) (g15 : Nat) (g16 : Nat) (g17 : Nat) (g18 : Nat) (g19 : Nat) (g20 : Nat) (g21 : Nat) (g22 : Nat) (g23 : Nat) (g24 : Nat) (g25 : Nat) : KK l D (TY cyC cyI cyJ cyZ cyO) yX11_habit cX11_habit 7 (some .int) ({ frames := 1, cells := 0, slots := 0, locals := 22 } : Room) 0 0 [.ref g0, .int p0] [(g0, .inr (11, [.int 0, .ref g1, .int 0, .int 0, .ref g2, .ref g3, .ref g4, .int 0, .int 0, .ref g5, .ref g6, .ref g7, .ref g8, .int 0, .ref g9, .ref g10, .int 1, .ref g11, .ref g12, .ref g13, .ref g14, .ref g15, .int 0, .int 0, .int 0, .ref g16, .int 0, .ref g17, .ref g18, .ref g19, .ref g20, .ref g21, .ref g22, .int 0, .int 0, .int 0, .ref g23, .ref g24, .int 0, .int 0, .int 0, .int 0, .ref g25])), (g6, .inl (cyI, 240, .inl (fun _ => 0)))] (fun u => some (.int (-1))) (fun u => True) (fun u => []) := by
  refine KK.of (lv0 := [(0, .ref g0), (1, .int p0)]) (by decide) rfl (Nat.le_of_ble_eq_true rfl) ?_
  intro p e s m args below meth c A C hr hk hin
  refine j_aload_n (pc := 0) C dX11_habit_0 rfl 0 rfl ?_
  refine j_iconst (pc := 1) (v := 0) C dX11_habit_1 (by decide) ?_
  refine j_put (pc := 2) (ci := 11) (v := .int 0) (ws' := [(g0, .inr (11, [.int 0, .ref g1, .int 0, .int 0, .ref g2, .ref g3, .ref g4, .int 0, .int 0, .ref g5, .ref g6, .ref g7, .ref g8, .int 0, .ref g9, .ref g10, .int 1, .ref g11, .ref g12, .ref g13, .ref g14, .ref g15, .int 0, .int 0, .int 0, .ref g16, .int 0, .ref g17, .ref g18, .ref g19, .ref g20, .ref g21, .ref g22, .int 0, .int 0, .int 0, .ref g23, .ref g24, .int 0, .int 0, .int 0, .int 0, .ref g25])), (g6, .inl (cyI, 240, .inl (fun _ => 0)))]) C inw_11 0 rfl rfl 0 (by decide) wd_329 rfl tyX11_ok nmX11 rfl (tyX11_ok 0 (by decide)) rfl rfl (Nat.le_of_ble_eq_true rfl) dX11_habit_2 rfl ?_
  refine j_iconst (pc := 5) (v := 0) C dX11_habit_5 (by decide) ?_
  refine j_istore_n (pc := 6) (lv' := [(2, .int 0), (0, .ref g0), (1, .int p0)]) C dX11_habit_6 rfl (by decide) rfl ?_
  refine j_iconst (pc := 7) (v := 0) C dX11_habit_7 (by decide) ?_
  refine j_istore_n (pc := 8) (lv' := [(3, .int 0), (2, .int 0), (0, .ref g0), (1, .int p0)]) C dX11_habit_8 rfl (by decide) rfl ?_
  refine j_iconst (pc := 9) (v := 0) C dX11_habit_9 (by decide) ?_
  refine j_istore (pc := 10) (lv' := [(4, .int 0), (3, .int 0), (2, .int 0), (0, .ref g0), (1, .int p0)]) C dX11_habit_10 (by decide) rfl ?_
  refine j_iload (pc := 12) C dX11_habit_12 0 rfl ?_
  refine j_aload_n (pc := 14) C dX11_habit_14 rfl 3 rfl ?_
  refine j_callV (pc := 15) (As := []) (rest := [.int 0]) (wr := []) C (c_X11_wares l D cyC cyI cyJ cyZ cyO 1 g0 g1 g2 g3 g4 g5 g6 g7 g8 g9 g10 g11 g12 g13 g14 g15 g16 g17 g18 g19 g20 g21 g22 g23 g24 g25) wd_312 wd_313 wd_314 wd_315 wd_316 ⟨by decide, by decide, rfl⟩ rfl ⟨rfl, rfl, by decide, by decide⟩ ⟨by decide, by decide⟩ [0, 1] [] rfl rfl ⟨by decide, by decide, by decide⟩ 0 rfl rfl rfl (Nat.le_of_ble_eq_true rfl) dX11_habit_15 (fun u_1 hw_2 => ?_)
  refine j_eq (ws2 := [(g0, .inr (11, [.int 0, .ref g1, .int 0, .int 0, .ref g2, .ref g3, .ref g4, .int 0, .int 0, .ref g5, .ref g6, .ref g7, .ref g8, .int 0, .ref g9, .ref g10, .int 1, .ref g11, .ref g12, .ref g13, .ref g14, .ref g15, .int 0, .int 0, .int 0, .ref g16, .int 0, .ref g17, .ref g18, .ref g19, .ref g20, .ref g21, .ref g22, .int 0, .int 0, .int 0, .ref g23, .ref g24, .int 0, .int 0, .int 0, .int 0, .ref g25])), (g6, .inl (cyI, 240, .inl (fun _ => 0)))]) (pc2 := 18) (lv2 := [(4, .int 0), (3, .int 0), (2, .int 0), (0, .ref g0), (1, .int p0)]) (st2 := [.int 0, .int 0]) rfl rfl rfl rfl ?_
  refine j_icmp_ge_t (pc := 18) (tgt := 67) C dX11_habit_18 (by decide) (by decide) ?_
  refine j_iload_n (pc := 67) C dX11_habit_67 rfl 4 rfl ?_
  refine j_iconst (pc := 68) (v := 0) C dX11_habit_68 (by decide) ?_
  refine j_iconst (pc := 69) (v := 1) C dX11_habit_69 (by decide) ?_
  refine j_callS (pc := 70) (As := [.int p0, .int 0, .int 1]) (rest := []) (wr := [(g0, .inr (11, [.int 0, .ref g1, .int 0, .int 0, .ref g2, .ref g3, .ref g4, .int 0, .int 0, .ref g5, .ref g6, .ref g7, .ref g8, .int 0, .ref g9, .ref g10, .int 1, .ref g11, .ref g12, .ref g13, .ref g14, .ref g15, .int 0, .int 0, .int 0, .ref g16, .int 0, .ref g17, .ref g18, .ref g19, .ref g20, .ref g21, .ref g22, .int 0, .int 0, .int 0, .ref g23, .ref g24, .int 0, .int 0, .int 0, .int 0, .ref g25])), (g6, .inl (cyI, 240, .inl (fun _ => 0)))]) C (c_X11_within l D cyC cyI cyJ cyZ cyO p0 0 1) wd_345 wd_313 wd_346 wd_347 ⟨by decide, by decide, rfl⟩ rfl ⟨rfl, rfl, by decide, by decide⟩ ⟨by decide, by decide⟩ [] [0, 1] rfl rfl ⟨by decide, by decide, by decide⟩ rfl (Nat.le_of_ble_eq_true rfl) dX11_habit_70 (fun u_3 hw_4 => ?_)
  refine j_eq (ws2 := [(g0, .inr (11, [.int 0, .ref g1, .int 0, .int 0, .ref g2, .ref g3, .ref g4, .int 0, .int 0, .ref g5, .ref g6, .ref g7, .ref g8, .int 0, .ref g9, .ref g10, .int 1, .ref g11, .ref g12, .ref g13, .ref g14, .ref g15, .int 0, .int 0, .int 0, .ref g16, .int 0, .ref g17, .ref g18, .ref g19, .ref g20, .ref g21, .ref g22, .int 0, .int 0, .int 0, .ref g23, .ref g24, .int 0, .int 0, .int 0, .int 0, .ref g25])), (g6, .inl (cyI, 240, .inl (fun _ => 0)))]) (pc2 := 73) (lv2 := [(4, .int 0), (3, .int 0), (2, .int 0), (0, .ref g0), (1, .int p0)]) (st2 := [.int (u_3.2.1 0)]) rfl rfl rfl rfl ?_
  rcases ite_two hw_4 with ⟨hc_5, hr_6⟩ | ⟨hc_5, hr_6⟩
  · skip
    refine j_eq (ws2 := [(g0, .inr (11, [.int 0, .ref g1, .int 0, .int 0, .ref g2, .ref g3, .ref g4, .int 0, .int 0, .ref g5, .ref g6, .ref g7, .ref g8, .int 0, .ref g9, .ref g10, .int 1, .ref g11, .ref g12, .ref g13, .ref g14, .ref g15, .int 0, .int 0, .int 0, .ref g16, .int 0, .ref g17, .ref g18, .ref g19, .ref g20, .ref g21, .ref g22, .int 0, .int 0, .int 0, .ref g23, .ref g24, .int 0, .int 0, .int 0, .int 0, .ref g25])), (g6, .inl (cyI, 240, .inl (fun _ => 0)))]) (pc2 := 73) (lv2 := [(4, .int 0), (3, .int 0), (2, .int 0), (0, .ref g0), (1, .int p0)]) (st2 := [.int 1]) rfl rfl rfl (by rw [hr_6]) ?_
    refine j_if_eq_f (pc := 73) (tgt := 80) C dX11_habit_73 (by decide) (by decide) ?_
    refine j_iload_n (pc := 76) C dX11_habit_76 rfl 2 rfl ?_
    refine j_if_ne_f (pc := 77) (tgt := 82) C dX11_habit_77 (by decide) (by decide) ?_
    refine j_iconst (pc := 80) (v := (-1)) C dX11_habit_80 (by decide) ?_
    exact j_iret (pc := 81) C hr hk (fun i => [].getD i 0, fun _ => 0, fun _ _ => 0) rfl trivial [] (by decide) rfl (by decide) (by decide) dX11_habit_81
  · skip
    refine j_eq (ws2 := [(g0, .inr (11, [.int 0, .ref g1, .int 0, .int 0, .ref g2, .ref g3, .ref g4, .int 0, .int 0, .ref g5, .ref g6, .ref g7, .ref g8, .int 0, .ref g9, .ref g10, .int 1, .ref g11, .ref g12, .ref g13, .ref g14, .ref g15, .int 0, .int 0, .int 0, .ref g16, .int 0, .ref g17, .ref g18, .ref g19, .ref g20, .ref g21, .ref g22, .int 0, .int 0, .int 0, .ref g23, .ref g24, .int 0, .int 0, .int 0, .int 0, .ref g25])), (g6, .inl (cyI, 240, .inl (fun _ => 0)))]) (pc2 := 73) (lv2 := [(4, .int 0), (3, .int 0), (2, .int 0), (0, .ref g0), (1, .int p0)]) (st2 := [.int 0]) rfl rfl rfl (by rw [hr_6]) ?_
    refine j_if_eq_t (pc := 73) (tgt := 80) C dX11_habit_73 (by decide) (by decide) ?_
    refine j_iconst (pc := 80) (v := (-1)) C dX11_habit_80 (by decide) ?_
    exact j_iret (pc := 81) C hr hk (fun i => [].getD i 0, fun _ => 0, fun _ _ => 0) rfl trivial [] (by decide) rfl (by decide) (by decide) dX11_habit_81
set_option maxHeartbeats 4000000 in
set_option maxRecDepth 100000 in
theorem c_X11_count (l : Launch) (D : va_G) (cyC cyI cyJ cyZ cyO : ClassId) (p0 : Int32) (g0 : Nat) (g1 : Nat) (g2 : Nat) (g3 : Nat) (g4 : Nat) (g5 : Nat) (g6 : Nat) (g7 : Nat) (g8 : Nat) (g9 : Nat) (g10 : Nat) (g11 : Nat) (g12 : Nat) (g13 : Nat) (g14 : Nat) (g15 : Nat) (g16 : Nat) (g17 : Nat) (g18 : Nat) (g19 : Nat) (g20 : Nat) (g21 : Nat) (g22 : Nat) (g23 : Nat) (g24 : Nat) (g25 : Nat) : KK l D (TY cyC cyI cyJ cyZ cyO) yX11_count cX11_count 4 (some .int) ({ frames := 1, cells := 0, slots := 0, locals := 20 } : Room) 0 0 [.ref g0, .int p0] [(g0, .inr (11, [.int 0, .ref g1, .int 0, .int 0, .ref g2, .ref g3, .ref g4, .int 0, .int 0, .ref g5, .ref g6, .ref g7, .ref g8, .int 0, .ref g9, .ref g10, .int 1, .ref g11, .ref g12, .ref g13, .ref g14, .ref g15, .int 0, .int 0, .int 0, .ref g16, .int 0, .ref g17, .ref g18, .ref g19, .ref g20, .ref g21, .ref g22, .int 0, .int 0, .int 0, .ref g23, .ref g24, .int 0, .int 0, .int 0, .int 0, .ref g25])), (g6, .inl (cyI, 240, .inl (fun _ => 0))), (g14, .inl (cyI, 2760, .inl (fun _ => 0)))] (fun u => some (.int (u.2.1 0))) (fun u => u.2.1 0 = (if 0 ≤ p0 ∧ p0 ≤ 5 then 0 else -1)) (fun u => []) := by
  refine KK.of (lv0 := [(0, .ref g0), (1, .int p0)]) (by decide) rfl (Nat.le_of_ble_eq_true rfl) ?_
  intro p e s m args below meth c A C hr hk hin
  refine j_aload_n (pc := 0) C dX11_count_0 rfl 0 rfl ?_
  refine j_iconst (pc := 1) (v := 0) C dX11_count_1 (by decide) ?_
  refine j_put (pc := 2) (ci := 11) (v := .int 0) (ws' := [(g0, .inr (11, [.int 0, .ref g1, .int 0, .int 0, .ref g2, .ref g3, .ref g4, .int 0, .int 0, .ref g5, .ref g6, .ref g7, .ref g8, .int 0, .ref g9, .ref g10, .int 1, .ref g11, .ref g12, .ref g13, .ref g14, .ref g15, .int 0, .int 0, .int 0, .ref g16, .int 0, .ref g17, .ref g18, .ref g19, .ref g20, .ref g21, .ref g22, .int 0, .int 0, .int 0, .ref g23, .ref g24, .int 0, .int 0, .int 0, .int 0, .ref g25])), (g6, .inl (cyI, 240, .inl (fun _ => 0))), (g14, .inl (cyI, 2760, .inl (fun _ => 0)))]) C inw_11 0 rfl rfl 0 (by decide) wd_329 rfl tyX11_ok nmX11 rfl (tyX11_ok 0 (by decide)) rfl rfl (Nat.le_of_ble_eq_true rfl) dX11_count_2 rfl ?_
  refine j_iconst (pc := 5) (v := 0) C dX11_count_5 (by decide) ?_
  refine j_istore_n (pc := 6) (lv' := [(2, .int 0), (0, .ref g0), (1, .int p0)]) C dX11_count_6 rfl (by decide) rfl ?_
  refine j_iload_n (pc := 7) C dX11_count_7 rfl 2 rfl ?_
  rcases sw_6 p0 with sw_1 | sw_1 | sw_1 | sw_1 | sw_1 | sw_1 | sw_1
  · skip
    refine j_tout (pc := 8) (tgt := 110) C dX11_count_8 sw_1 (by decide) ?_
    refine j_iconst (pc := 110) (v := (-1)) C dX11_count_110 (by decide) ?_
    exact j_iret (pc := 111) C hr hk (fun _ => 0, fun _ => (-1), fun _ _ => 0) rfl (by show ((-1) : Int32) = (if 0 ≤ p0 ∧ p0 ≤ 5 then 0 else -1); have e0 : (0 : Int32).toInt = 0 := rfl; have e5 : (5 : Int32).toInt = 5 := rfl; exact if hE : 0 ≤ p0 ∧ p0 ≤ 5 then (by first | exact (if_pos hE).symm | (exfalso; simp only [i_lt, i_le, i_eq] at hE sw_1; omega)) else (by first | exact (if_neg hE).symm | (exfalso; simp only [i_lt, i_le, i_eq] at hE sw_1; omega))) [] (by decide) rfl (by decide) (by decide) dX11_count_111
  · skip
    refine j_tin (pc := 8) (off := 40) (tgt := 48) C dX11_count_8 (by rw [sw_1]; decide) (by rw [sw_1]; decide) (by rw [sw_1]; decide) (by decide) ?_
    refine j_aload_n (pc := 48) C dX11_count_48 rfl 1 rfl ?_
    refine j_callV (pc := 49) (As := []) (rest := []) (wr := [(g14, .inl (cyI, 2760, .inl (fun _ => 0)))]) C (c_X11_wares l D cyC cyI cyJ cyZ cyO 1 g0 g1 g2 g3 g4 g5 g6 g7 g8 g9 g10 g11 g12 g13 g14 g15 g16 g17 g18 g19 g20 g21 g22 g23 g24 g25) wd_312 wd_313 wd_314 wd_315 wd_316 ⟨by decide, by decide, rfl⟩ rfl ⟨rfl, rfl, by decide, by decide⟩ ⟨by decide, by decide⟩ [0, 1] [2] rfl rfl ⟨by decide, by decide, by decide⟩ 0 rfl rfl rfl (Nat.le_of_ble_eq_true rfl) dX11_count_49 (fun u_2 hw_3 => ?_)
    refine j_eq (ws2 := [(g14, .inl (cyI, 2760, .inl (fun _ => 0))), (g0, .inr (11, [.int 0, .ref g1, .int 0, .int 0, .ref g2, .ref g3, .ref g4, .int 0, .int 0, .ref g5, .ref g6, .ref g7, .ref g8, .int 0, .ref g9, .ref g10, .int 1, .ref g11, .ref g12, .ref g13, .ref g14, .ref g15, .int 0, .int 0, .int 0, .ref g16, .int 0, .ref g17, .ref g18, .ref g19, .ref g20, .ref g21, .ref g22, .int 0, .int 0, .int 0, .ref g23, .ref g24, .int 0, .int 0, .int 0, .int 0, .ref g25])), (g6, .inl (cyI, 240, .inl (fun _ => 0)))]) (pc2 := 52) (lv2 := [(2, .int 0), (0, .ref g0), (1, .int p0)]) (st2 := [.int 0]) rfl rfl rfl rfl ?_
    exact j_iret (pc := 52) C hr hk (fun _ => 0, fun _ => 0, fun _ _ => 0) rfl (by show (0 : Int32) = (if 0 ≤ p0 ∧ p0 ≤ 5 then 0 else -1); have e0 : (0 : Int32).toInt = 0 := rfl; have e5 : (5 : Int32).toInt = 5 := rfl; exact if hE : 0 ≤ p0 ∧ p0 ≤ 5 then (by first | exact (if_pos hE).symm | (exfalso; simp only [i_lt, i_le, i_eq] at hE sw_1; omega)) else (by first | exact (if_neg hE).symm | (exfalso; simp only [i_lt, i_le, i_eq] at hE sw_1; omega))) [] (by decide) rfl (by decide) (by decide) dX11_count_52
  · skip
    refine j_tin (pc := 8) (off := 45) (tgt := 53) C dX11_count_8 (by rw [sw_1]; decide) (by rw [sw_1]; decide) (by rw [sw_1]; decide) (by decide) ?_
    refine j_aload_n (pc := 53) C dX11_count_53 rfl 1 rfl ?_
    refine j_callV (pc := 54) (As := []) (rest := []) (wr := [(g14, .inl (cyI, 2760, .inl (fun _ => 0)))]) C (c_X11_shelves l D cyC cyI cyJ cyZ cyO 1 g0 g1 g2 g3 g4 g5 g6 g7 g8 g9 g10 g11 g12 g13 g14 g15 g16 g17 g18 g19 g20 g21 g22 g23 g24 g25) wd_317 wd_313 wd_318 wd_319 wd_320 ⟨by decide, by decide, rfl⟩ rfl ⟨rfl, rfl, by decide, by decide⟩ ⟨by decide, by decide⟩ [0, 1] [2] rfl rfl ⟨by decide, by decide, by decide⟩ 0 rfl rfl rfl (Nat.le_of_ble_eq_true rfl) dX11_count_54 (fun u_4 hw_5 => ?_)
    refine j_eq (ws2 := [(g14, .inl (cyI, 2760, .inl (fun _ => 0))), (g0, .inr (11, [.int 0, .ref g1, .int 0, .int 0, .ref g2, .ref g3, .ref g4, .int 0, .int 0, .ref g5, .ref g6, .ref g7, .ref g8, .int 0, .ref g9, .ref g10, .int 1, .ref g11, .ref g12, .ref g13, .ref g14, .ref g15, .int 0, .int 0, .int 0, .ref g16, .int 0, .ref g17, .ref g18, .ref g19, .ref g20, .ref g21, .ref g22, .int 0, .int 0, .int 0, .ref g23, .ref g24, .int 0, .int 0, .int 0, .int 0, .ref g25])), (g6, .inl (cyI, 240, .inl (fun _ => 0)))]) (pc2 := 57) (lv2 := [(2, .int 0), (0, .ref g0), (1, .int p0)]) (st2 := [.int 0]) rfl rfl rfl rfl ?_
    exact j_iret (pc := 57) C hr hk (fun _ => 0, fun _ => 0, fun _ _ => 0) rfl (by show (0 : Int32) = (if 0 ≤ p0 ∧ p0 ≤ 5 then 0 else -1); have e0 : (0 : Int32).toInt = 0 := rfl; have e1 : (1 : Int32).toInt = 1 := rfl; have e5 : (5 : Int32).toInt = 5 := rfl; exact if hE : 0 ≤ p0 ∧ p0 ≤ 5 then (by first | exact (if_pos hE).symm | (exfalso; simp only [i_lt, i_le, i_eq] at hE sw_1; omega)) else (by first | exact (if_neg hE).symm | (exfalso; simp only [i_lt, i_le, i_eq] at hE sw_1; omega))) [] (by decide) rfl (by decide) (by decide) dX11_count_57
  · skip
    refine j_tin (pc := 8) (off := 50) (tgt := 58) C dX11_count_8 (by rw [sw_1]; decide) (by rw [sw_1]; decide) (by rw [sw_1]; decide) (by decide) ?_
    refine j_aload_n (pc := 58) C dX11_count_58 rfl 1 rfl ?_
    refine j_get (pc := 59) (ci := 11) (v := .ref g6) C inw_11 0 rfl rfl 10 (by decide) wd_146 rfl rfl dX11_count_59 ?_
    refine j_iconst (pc := 62) (v := 2) C dX11_count_62 (by decide) ?_
    refine j_iald (pc := 63) (v := 0) (k := 2) C 1 1 rfl rfl (by decide) (by decide) (by decide) rfl dX11_count_63 ?_
    exact j_iret (pc := 64) C hr hk (fun _ => 0, fun _ => 0, fun _ _ => 0) rfl (by show (0 : Int32) = (if 0 ≤ p0 ∧ p0 ≤ 5 then 0 else -1); have e0 : (0 : Int32).toInt = 0 := rfl; have e2 : (2 : Int32).toInt = 2 := rfl; have e5 : (5 : Int32).toInt = 5 := rfl; exact if hE : 0 ≤ p0 ∧ p0 ≤ 5 then (by first | exact (if_pos hE).symm | (exfalso; simp only [i_lt, i_le, i_eq] at hE sw_1; omega)) else (by first | exact (if_neg hE).symm | (exfalso; simp only [i_lt, i_le, i_eq] at hE sw_1; omega))) [] (by decide) rfl (by decide) (by decide) dX11_count_64
  · skip
    refine j_tin (pc := 8) (off := 57) (tgt := 65) C dX11_count_8 (by rw [sw_1]; decide) (by rw [sw_1]; decide) (by rw [sw_1]; decide) (by decide) ?_
    refine j_iconst (pc := 65) (v := 0) C dX11_count_65 (by decide) ?_
    refine j_istore_n (pc := 66) (lv' := [(3, .int 0), (2, .int 0), (0, .ref g0), (1, .int p0)]) C dX11_count_66 rfl (by decide) rfl ?_
    refine j_iload_n (pc := 67) C dX11_count_67 rfl 0 rfl ?_
    refine j_aload_n (pc := 68) C dX11_count_68 rfl 2 rfl ?_
    refine j_callV (pc := 69) (As := []) (rest := [.int 0]) (wr := [(g14, .inl (cyI, 2760, .inl (fun _ => 0)))]) C (c_X11_wares l D cyC cyI cyJ cyZ cyO 1 g0 g1 g2 g3 g4 g5 g6 g7 g8 g9 g10 g11 g12 g13 g14 g15 g16 g17 g18 g19 g20 g21 g22 g23 g24 g25) wd_312 wd_313 wd_314 wd_315 wd_316 ⟨by decide, by decide, rfl⟩ rfl ⟨rfl, rfl, by decide, by decide⟩ ⟨by decide, by decide⟩ [0, 1] [2] rfl rfl ⟨by decide, by decide, by decide⟩ 0 rfl rfl rfl (Nat.le_of_ble_eq_true rfl) dX11_count_69 (fun u_6 hw_7 => ?_)
    refine j_eq (ws2 := [(g14, .inl (cyI, 2760, .inl (fun _ => 0))), (g0, .inr (11, [.int 0, .ref g1, .int 0, .int 0, .ref g2, .ref g3, .ref g4, .int 0, .int 0, .ref g5, .ref g6, .ref g7, .ref g8, .int 0, .ref g9, .ref g10, .int 1, .ref g11, .ref g12, .ref g13, .ref g14, .ref g15, .int 0, .int 0, .int 0, .ref g16, .int 0, .ref g17, .ref g18, .ref g19, .ref g20, .ref g21, .ref g22, .int 0, .int 0, .int 0, .ref g23, .ref g24, .int 0, .int 0, .int 0, .int 0, .ref g25])), (g6, .inl (cyI, 240, .inl (fun _ => 0)))]) (pc2 := 72) (lv2 := [(3, .int 0), (2, .int 0), (0, .ref g0), (1, .int p0)]) (st2 := [.int 0, .int 0]) rfl rfl rfl rfl ?_
    refine j_icmp_ge_t (pc := 72) (tgt := 98) C dX11_count_72 (by decide) (by decide) ?_
    refine j_iload_n (pc := 98) C dX11_count_98 rfl 1 rfl ?_
    exact j_iret (pc := 99) C hr hk (fun _ => 0, fun _ => 0, fun _ _ => 0) rfl (by show (0 : Int32) = (if 0 ≤ p0 ∧ p0 ≤ 5 then 0 else -1); have e0 : (0 : Int32).toInt = 0 := rfl; have e3 : (3 : Int32).toInt = 3 := rfl; have e5 : (5 : Int32).toInt = 5 := rfl; exact if hE : 0 ≤ p0 ∧ p0 ≤ 5 then (by first | exact (if_pos hE).symm | (exfalso; simp only [i_lt, i_le, i_eq] at hE sw_1; omega)) else (by first | exact (if_neg hE).symm | (exfalso; simp only [i_lt, i_le, i_eq] at hE sw_1; omega))) [] (by decide) rfl (by decide) (by decide) dX11_count_99
  · skip
    refine j_tin (pc := 8) (off := 92) (tgt := 100) C dX11_count_8 (by rw [sw_1]; decide) (by rw [sw_1]; decide) (by rw [sw_1]; decide) (by decide) ?_
    refine j_aload_n (pc := 100) C dX11_count_100 rfl 1 rfl ?_
    refine j_callV (pc := 101) (As := []) (rest := []) (wr := [(g6, .inl (cyI, 240, .inl (fun _ => 0)))]) C (c_X11_asks l D cyC cyI cyJ cyZ cyO 1 g0 g1 g2 g3 g4 g5 g6 g7 g8 g9 g10 g11 g12 g13 g14 g15 g16 g17 g18 g19 g20 g21 g22 g23 g24 g25) wd_357 wd_313 wd_358 wd_359 wd_360 ⟨by decide, by decide, rfl⟩ rfl ⟨rfl, rfl, by decide, by decide⟩ ⟨by decide, by decide⟩ [0, 2] [1] rfl rfl ⟨by decide, by decide, by decide⟩ 0 rfl rfl rfl (Nat.le_of_ble_eq_true rfl) dX11_count_101 (fun u_8 hw_9 => ?_)
    refine j_eq (ws2 := [(g6, .inl (cyI, 240, .inl (fun _ => 0))), (g0, .inr (11, [.int 0, .ref g1, .int 0, .int 0, .ref g2, .ref g3, .ref g4, .int 0, .int 0, .ref g5, .ref g6, .ref g7, .ref g8, .int 0, .ref g9, .ref g10, .int 1, .ref g11, .ref g12, .ref g13, .ref g14, .ref g15, .int 0, .int 0, .int 0, .ref g16, .int 0, .ref g17, .ref g18, .ref g19, .ref g20, .ref g21, .ref g22, .int 0, .int 0, .int 0, .ref g23, .ref g24, .int 0, .int 0, .int 0, .int 0, .ref g25])), (g14, .inl (cyI, 2760, .inl (fun _ => 0)))]) (pc2 := 104) (lv2 := [(2, .int 0), (0, .ref g0), (1, .int p0)]) (st2 := [.int 0]) rfl rfl rfl rfl ?_
    exact j_iret (pc := 104) C hr hk (fun _ => 0, fun _ => 0, fun _ _ => 0) rfl (by show (0 : Int32) = (if 0 ≤ p0 ∧ p0 ≤ 5 then 0 else -1); have e0 : (0 : Int32).toInt = 0 := rfl; have e4 : (4 : Int32).toInt = 4 := rfl; have e5 : (5 : Int32).toInt = 5 := rfl; exact if hE : 0 ≤ p0 ∧ p0 ≤ 5 then (by first | exact (if_pos hE).symm | (exfalso; simp only [i_lt, i_le, i_eq] at hE sw_1; omega)) else (by first | exact (if_neg hE).symm | (exfalso; simp only [i_lt, i_le, i_eq] at hE sw_1; omega))) [] (by decide) rfl (by decide) (by decide) dX11_count_104
  · skip
    refine j_tin (pc := 8) (off := 97) (tgt := 105) C dX11_count_8 (by rw [sw_1]; decide) (by rw [sw_1]; decide) (by rw [sw_1]; decide) (by decide) ?_
    refine j_aload_n (pc := 105) C dX11_count_105 rfl 1 rfl ?_
    refine j_get (pc := 106) (ci := 11) (v := .int 0) C inw_11 0 rfl rfl 2 (by decide) wd_361 rfl rfl dX11_count_106 ?_
    exact j_iret (pc := 109) C hr hk (fun _ => 0, fun _ => 0, fun _ _ => 0) rfl (by show (0 : Int32) = (if 0 ≤ p0 ∧ p0 ≤ 5 then 0 else -1); have e0 : (0 : Int32).toInt = 0 := rfl; have e5 : (5 : Int32).toInt = 5 := rfl; exact if hE : 0 ≤ p0 ∧ p0 ≤ 5 then (by first | exact (if_pos hE).symm | (exfalso; simp only [i_lt, i_le, i_eq] at hE sw_1; omega)) else (by first | exact (if_neg hE).symm | (exfalso; simp only [i_lt, i_le, i_eq] at hE sw_1; omega))) [] (by decide) rfl (by decide) (by decide) dX11_count_109
