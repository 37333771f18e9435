theorem wd_292 : Cond.fieldLink RX9 49 "BowlShelf$Told" "nests" "I" ∈ WALL := wl_in (by decide +kernel) (by decide +kernel)
theorem wd_293 : Cond.fieldLink RX9 55 "BowlShelf$Told" "tops" "I" ∈ WALL := wl_in (by decide +kernel) (by decide +kernel)
theorem wd_294 : Cond.fieldLink RX9 27 "BowlShelf$Told" "habit" "[I" ∈ WALL := wl_in (by decide +kernel) (by decide +kernel)
theorem wd_295 : Cond.methodLink RX9 58 yJ7_fill_53178 ∈ WALL := wl_in (by decide +kernel) (by decide +kernel)
theorem wd_296 : Cond.fieldLink RX5 12 "BowlShelf$Reader" "tape" "LBowlShelf$Tape;" ∈ WALL := wl_in (by decide +kernel) (by decide +kernel)
theorem wd_297 : Cond.fieldLink RX5 83 "BowlShelf$Tape" "place" "I" ∈ WALL := wl_in (by decide +kernel) (by decide +kernel)
theorem wd_298 : Cond.fieldLink RX5 47 "BowlShelf$Reader" "fault" "I" ∈ WALL := wl_in (by decide +kernel) (by decide +kernel)
theorem wd_299 : Cond.fieldLink RX5 35 "BowlShelf$Reader" "told" "LBowlShelf$Told;" ∈ WALL := wl_in (by decide +kernel) (by decide +kernel)
theorem wd_300 : Cond.code yX8_isSign cX8_isSign 2 (some .boolean) ∈ WALL := wl_in (by decide +kernel) (by decide +kernel)
theorem wd_301 : Cond.methodLink RX5 213 yX8_isSign ∈ WALL := wl_in (by decide +kernel) (by decide +kernel)
theorem wd_302 : Cond.instanceMethod yX8_isSign ∈ WALL := wl_in (by decide +kernel) (by decide +kernel)
theorem wd_303 : Cond.selects RX8 yX8_isSign yX8_isSign ∈ WALL := wl_in (by decide +kernel) (by decide +kernel)
theorem wd_304 : Cond.methodLink RX5 189 yX8_advance ∈ WALL := wl_in (by decide +kernel) (by decide +kernel)
theorem wd_305 : Cond.code yX5_wrong cX5_wrong 2 (some .boolean) ∈ WALL := wl_in (by decide +kernel) (by decide +kernel)
theorem wd_306 : Cond.initialized RX5 ∈ WALL := wl_in (by decide +kernel) (by decide +kernel)
theorem wd_307 : Cond.methodLink RX5 120 yX5_wrong ∈ WALL := wl_in (by decide +kernel) (by decide +kernel)
theorem wd_308 : Cond.instanceMethod yX5_wrong ∈ WALL := wl_in (by decide +kernel) (by decide +kernel)
theorem wd_309 : Cond.selects RX5 yX5_wrong yX5_wrong ∈ WALL := wl_in (by decide +kernel) (by decide +kernel)
theorem wd_310 : Cond.fieldLink RX5 53 "BowlShelf$Tape" "kind" "I" ∈ WALL := wl_in (by decide +kernel) (by decide +kernel)
theorem wd_311 : Cond.fieldLink RX5 210 "BowlShelf$Tape" "number" "I" ∈ WALL := wl_in (by decide +kernel) (by decide +kernel)
theorem wd_312 : Cond.methodLink RX5 88 yX8_isWord ∈ WALL := wl_in (by decide +kernel) (by decide +kernel)
theorem wd_313 : Cond.code yX5_readNumber cX5_readNumber 5 (some .boolean) ∈ WALL := wl_in (by decide +kernel) (by decide +kernel)
theorem wd_314 : Cond.methodLink RX5 183 yX5_readNumber ∈ WALL := wl_in (by decide +kernel) (by decide +kernel)
theorem wd_315 : Cond.instanceMethod yX5_readNumber ∈ WALL := wl_in (by decide +kernel) (by decide +kernel)
theorem wd_316 : Cond.selects RX5 yX5_readNumber yX5_readNumber ∈ WALL := wl_in (by decide +kernel) (by decide +kernel)
theorem wd_317 : Cond.code yX8_isName cX8_isName 4 (some .boolean) ∈ WALL := wl_in (by decide +kernel) (by decide +kernel)
theorem wd_318 : Cond.methodLink RX5 199 yX8_isName ∈ WALL := wl_in (by decide +kernel) (by decide +kernel)
theorem wd_319 : Cond.instanceMethod yX8_isName ∈ WALL := wl_in (by decide +kernel) (by decide +kernel)
theorem wd_320 : Cond.selects RX8 yX8_isName yX8_isName ∈ WALL := wl_in (by decide +kernel) (by decide +kernel)
theorem wd_321 : Cond.code yX8_code cX8_code 4 (some .long) ∈ WALL := wl_in (by decide +kernel) (by decide +kernel)
theorem wd_322 : Cond.methodLink RX5 202 yX8_code ∈ WALL := wl_in (by decide +kernel) (by decide +kernel)
theorem wd_323 : Cond.instanceMethod yX8_code ∈ WALL := wl_in (by decide +kernel) (by decide +kernel)
theorem wd_324 : Cond.selects RX8 yX8_code yX8_code ∈ WALL := wl_in (by decide +kernel) (by decide +kernel)
theorem wd_325 : Cond.fieldLink RX5 25 "BowlShelf$Reader" "wareName" "[J" ∈ WALL := wl_in (by decide +kernel) (by decide +kernel)
theorem wd_326 : Cond.fieldLink RX5 76 "BowlShelf$Told" "wares" "I" ∈ WALL := wl_in (by decide +kernel) (by decide +kernel)
theorem wd_327 : Cond.code yX5_indexOf cX5_indexOf 5 (some .int) ∈ WALL := wl_in (by decide +kernel) (by decide +kernel)
theorem wd_328 : Cond.methodLink RX5 206 yX5_indexOf ∈ WALL := wl_in (by decide +kernel) (by decide +kernel)
theorem wd_329 : Cond.static yX5_indexOf ∈ WALL := wl_in (by decide +kernel) (by decide +kernel)
theorem wd_330 : Cond.fieldLink RX5 29 "BowlShelf$Reader" "shelfName" "[J" ∈ WALL := wl_in (by decide +kernel) (by decide +kernel)
theorem wd_331 : Cond.fieldLink RX5 159 "BowlShelf$Told" "shelves" "I" ∈ WALL := wl_in (by decide +kernel) (by decide +kernel)
theorem dX9_empty_0 : decode cX9_empty 0 = .ok (.aload_n 0, 1) := by decide +kernel
theorem dX9_empty_1 : decode cX9_empty 1 = .ok (.iconst 0, 1) := by decide +kernel
theorem dX9_empty_2 : decode cX9_empty 2 = .ok (.putfield 42, 3) := by decide +kernel
theorem dX9_empty_5 : decode cX9_empty 5 = .ok (.aload_n 0, 1) := by decide +kernel
theorem dX9_empty_6 : decode cX9_empty 6 = .ok (.iconst 0, 1) := by decide +kernel
theorem dX9_empty_7 : decode cX9_empty 7 = .ok (.putfield 46, 3) := by decide +kernel
theorem dX9_empty_10 : decode cX9_empty 10 = .ok (.aload_n 0, 1) := by decide +kernel
theorem dX9_empty_11 : decode cX9_empty 11 = .ok (.iconst 0, 1) := by decide +kernel
theorem dX9_empty_12 : decode cX9_empty 12 = .ok (.putfield 49, 3) := by decide +kernel
theorem dX9_empty_15 : decode cX9_empty 15 = .ok (.aload_n 0, 1) := by decide +kernel
theorem dX9_empty_16 : decode cX9_empty 16 = .ok (.iconst 0, 1) := by decide +kernel
theorem dX9_empty_17 : decode cX9_empty 17 = .ok (.putfield 52, 3) := by decide +kernel
theorem dX9_empty_20 : decode cX9_empty 20 = .ok (.aload_n 0, 1) := by decide +kernel
theorem dX9_empty_21 : decode cX9_empty 21 = .ok (.iconst 0, 1) := by decide +kernel
theorem dX9_empty_22 : decode cX9_empty 22 = .ok (.putfield 55, 3) := by decide +kernel
theorem dX9_empty_25 : decode cX9_empty 25 = .ok (.aload_n 0, 1) := by decide +kernel
theorem dX9_empty_26 : decode cX9_empty 26 = .ok (.getfield 27, 3) := by decide +kernel
theorem dX9_empty_29 : decode cX9_empty 29 = .ok (.iconst 0, 1) := by decide +kernel
theorem dX9_empty_30 : decode cX9_empty 30 = .ok (.invokestatic 58, 3) := by decide +kernel
theorem dX9_empty_33 : decode cX9_empty 33 = .ok (.return_, 1) := by decide +kernel
theorem dX5_wrong_0 : decode cX5_wrong 0 = .ok (.aload_n 0, 1) := by decide +kernel
theorem dX5_wrong_1 : decode cX5_wrong 1 = .ok (.iload_n 1, 1) := by decide +kernel
theorem dX5_wrong_2 : decode cX5_wrong 2 = .ok (.bipush 16, 2) := by decide +kernel
theorem dX5_wrong_4 : decode cX5_wrong 4 = .ok (.aload_n 0, 1) := by decide +kernel
theorem dX5_wrong_5 : decode cX5_wrong 5 = .ok (.getfield 12, 3) := by decide +kernel
theorem dX5_wrong_8 : decode cX5_wrong 8 = .ok (.getfield 83, 3) := by decide +kernel
theorem dX5_wrong_11 : decode cX5_wrong 11 = .ok (.imul, 1) := by decide +kernel
theorem dX5_wrong_12 : decode cX5_wrong 12 = .ok (.iadd, 1) := by decide +kernel
theorem dX5_wrong_13 : decode cX5_wrong 13 = .ok (.putfield 47, 3) := by decide +kernel
theorem dX5_wrong_16 : decode cX5_wrong 16 = .ok (.iconst 0, 1) := by decide +kernel
theorem dX5_wrong_17 : decode cX5_wrong 17 = .ok (.ireturn, 1) := by decide +kernel
theorem dX5_exchange_0 : decode cX5_exchange 0 = .ok (.aload_n 0, 1) := by decide +kernel
theorem dX5_exchange_1 : decode cX5_exchange 1 = .ok (.getfield 35, 3) := by decide +kernel
theorem dX5_exchange_4 : decode cX5_exchange 4 = .ok (.astore_n 2, 1) := by decide +kernel
theorem dX5_exchange_5 : decode cX5_exchange 5 = .ok (.aload_n 0, 1) := by decide +kernel
theorem dX5_exchange_6 : decode cX5_exchange 6 = .ok (.aload_n 1, 1) := by decide +kernel
theorem dX5_exchange_7 : decode cX5_exchange 7 = .ok (.putfield 35, 3) := by decide +kernel
theorem dX5_exchange_10 : decode cX5_exchange 10 = .ok (.aload_n 2, 1) := by decide +kernel
theorem dX5_exchange_11 : decode cX5_exchange 11 = .ok (.areturn, 1) := by decide +kernel
theorem dX5_readSign_0 : decode cX5_readSign 0 = .ok (.aload_n 0, 1) := by decide +kernel
theorem dX5_readSign_1 : decode cX5_readSign 1 = .ok (.getfield 12, 3) := by decide +kernel
theorem dX5_readSign_4 : decode cX5_readSign 4 = .ok (.iload_n 1, 1) := by decide +kernel
theorem dX5_readSign_5 : decode cX5_readSign 5 = .ok (.invokevirtual 213, 3) := by decide +kernel
theorem dX5_readSign_8 : decode cX5_readSign 8 = .ok (.ifCond .ne 9, 3) := by decide +kernel
theorem dX5_readSign_11 : decode cX5_readSign 11 = .ok (.aload_n 0, 1) := by decide +kernel
theorem dX5_readSign_12 : decode cX5_readSign 12 = .ok (.iconst 1, 1) := by decide +kernel
theorem dX5_readSign_13 : decode cX5_readSign 13 = .ok (.invokevirtual 120, 3) := by decide +kernel
theorem dX5_readSign_16 : decode cX5_readSign 16 = .ok (.ireturn, 1) := by decide +kernel
theorem dX5_readSign_17 : decode cX5_readSign 17 = .ok (.aload_n 0, 1) := by decide +kernel
theorem dX5_readSign_18 : decode cX5_readSign 18 = .ok (.getfield 12, 3) := by decide +kernel
theorem dX5_readSign_21 : decode cX5_readSign 21 = .ok (.invokevirtual 189, 3) := by decide +kernel
theorem dX5_readSign_24 : decode cX5_readSign 24 = .ok (.iconst 1, 1) := by decide +kernel
theorem dX5_readSign_25 : decode cX5_readSign 25 = .ok (.ireturn, 1) := by decide +kernel
theorem dX5_readNumber_0 : decode cX5_readNumber 0 = .ok (.aload_n 0, 1) := by decide +kernel
theorem dX5_readNumber_1 : decode cX5_readNumber 1 = .ok (.getfield 12, 3) := by decide +kernel
theorem dX5_readNumber_4 : decode cX5_readNumber 4 = .ok (.getfield 53, 3) := by decide +kernel
theorem dX5_readNumber_7 : decode cX5_readNumber 7 = .ok (.iconst 2, 1) := by decide +kernel
theorem dX5_readNumber_8 : decode cX5_readNumber 8 = .ok (.if_icmp .eq 9, 3) := by decide +kernel
theorem dX5_readNumber_11 : decode cX5_readNumber 11 = .ok (.aload_n 0, 1) := by decide +kernel
theorem dX5_readNumber_12 : decode cX5_readNumber 12 = .ok (.iconst 1, 1) := by decide +kernel
theorem dX5_readNumber_13 : decode cX5_readNumber 13 = .ok (.invokevirtual 120, 3) := by decide +kernel
theorem dX5_readNumber_16 : decode cX5_readNumber 16 = .ok (.ireturn, 1) := by decide +kernel
theorem dX5_readNumber_17 : decode cX5_readNumber 17 = .ok (.aload_n 0, 1) := by decide +kernel
theorem dX5_readNumber_18 : decode cX5_readNumber 18 = .ok (.getfield 12, 3) := by decide +kernel
theorem dX5_readNumber_21 : decode cX5_readNumber 21 = .ok (.getfield 210, 3) := by decide +kernel
theorem dX5_readNumber_24 : decode cX5_readNumber 24 = .ok (.iload_n 1, 1) := by decide +kernel
theorem dX5_readNumber_25 : decode cX5_readNumber 25 = .ok (.if_icmp .lt 14, 3) := by decide +kernel
theorem dX5_readNumber_28 : decode cX5_readNumber 28 = .ok (.aload_n 0, 1) := by decide +kernel
theorem dX5_readNumber_29 : decode cX5_readNumber 29 = .ok (.getfield 12, 3) := by decide +kernel
theorem dX5_readNumber_32 : decode cX5_readNumber 32 = .ok (.getfield 210, 3) := by decide +kernel
theorem dX5_readNumber_35 : decode cX5_readNumber 35 = .ok (.iload_n 2, 1) := by decide +kernel
theorem dX5_readNumber_36 : decode cX5_readNumber 36 = .ok (.if_icmp .le 9, 3) := by decide +kernel
theorem dX5_readNumber_39 : decode cX5_readNumber 39 = .ok (.aload_n 0, 1) := by decide +kernel
theorem dX5_readNumber_40 : decode cX5_readNumber 40 = .ok (.iconst 4, 1) := by decide +kernel
theorem dX5_readNumber_41 : decode cX5_readNumber 41 = .ok (.invokevirtual 120, 3) := by decide +kernel
theorem dX5_readNumber_44 : decode cX5_readNumber 44 = .ok (.ireturn, 1) := by decide +kernel
theorem dX5_readNumber_45 : decode cX5_readNumber 45 = .ok (.aload_n 3, 1) := by decide +kernel
theorem dX5_readNumber_46 : decode cX5_readNumber 46 = .ok (.iload 4, 2) := by decide +kernel
theorem dX5_readNumber_48 : decode cX5_readNumber 48 = .ok (.aload_n 0, 1) := by decide +kernel
theorem dX5_readNumber_49 : decode cX5_readNumber 49 = .ok (.getfield 12, 3) := by decide +kernel
theorem dX5_readNumber_52 : decode cX5_readNumber 52 = .ok (.getfield 210, 3) := by decide +kernel
theorem dX5_readNumber_55 : decode cX5_readNumber 55 = .ok (.iastore, 1) := by decide +kernel
theorem dX5_readNumber_56 : decode cX5_readNumber 56 = .ok (.aload_n 0, 1) := by decide +kernel
theorem dX5_readNumber_57 : decode cX5_readNumber 57 = .ok (.getfield 12, 3) := by decide +kernel
theorem dX5_readNumber_60 : decode cX5_readNumber 60 = .ok (.invokevirtual 189, 3) := by decide +kernel
theorem dX5_readNumber_63 : decode cX5_readNumber 63 = .ok (.iconst 1, 1) := by decide +kernel
theorem dX5_readNumber_64 : decode cX5_readNumber 64 = .ok (.ireturn, 1) := by decide +kernel
theorem dX5_readAmount_0 : decode cX5_readAmount 0 = .ok (.aload_n 0, 1) := by decide +kernel
theorem dX5_readAmount_1 : decode cX5_readAmount 1 = .ok (.getfield 12, 3) := by decide +kernel
theorem dX5_readAmount_4 : decode cX5_readAmount 4 = .ok (.aload_n 1, 1) := by decide +kernel
theorem dX5_readAmount_5 : decode cX5_readAmount 5 = .ok (.invokevirtual 88, 3) := by decide +kernel
theorem dX5_readAmount_8 : decode cX5_readAmount 8 = .ok (.ifCond .ne 9, 3) := by decide +kernel
theorem dX5_readAmount_11 : decode cX5_readAmount 11 = .ok (.aload_n 0, 1) := by decide +kernel
theorem dX5_readAmount_12 : decode cX5_readAmount 12 = .ok (.iconst 1, 1) := by decide +kernel
theorem dX5_readAmount_13 : decode cX5_readAmount 13 = .ok (.invokevirtual 120, 3) := by decide +kernel
theorem dX5_readAmount_16 : decode cX5_readAmount 16 = .ok (.ireturn, 1) := by decide +kernel
theorem dX5_readAmount_17 : decode cX5_readAmount 17 = .ok (.aload_n 0, 1) := by decide +kernel
theorem dX5_readAmount_18 : decode cX5_readAmount 18 = .ok (.getfield 12, 3) := by decide +kernel
theorem dX5_readAmount_21 : decode cX5_readAmount 21 = .ok (.invokevirtual 189, 3) := by decide +kernel
theorem dX5_readAmount_24 : decode cX5_readAmount 24 = .ok (.aload_n 0, 1) := by decide +kernel
theorem dX5_readAmount_25 : decode cX5_readAmount 25 = .ok (.iload_n 2, 1) := by decide +kernel
theorem dX5_readAmount_26 : decode cX5_readAmount 26 = .ok (.iload_n 3, 1) := by decide +kernel
theorem dX5_readAmount_27 : decode cX5_readAmount 27 = .ok (.aload 4, 2) := by decide +kernel
theorem dX5_readAmount_29 : decode cX5_readAmount 29 = .ok (.iload 5, 2) := by decide +kernel
theorem dX5_readAmount_31 : decode cX5_readAmount 31 = .ok (.invokevirtual 183, 3) := by decide +kernel
theorem dX5_readAmount_34 : decode cX5_readAmount 34 = .ok (.ireturn, 1) := by decide +kernel
theorem dX5_indexOf_0 : decode cX5_indexOf 0 = .ok (.iconst 0, 1) := by decide +kernel
theorem dX5_indexOf_1 : decode cX5_indexOf 1 = .ok (.istore 4, 2) := by decide +kernel
theorem dX5_indexOf_3 : decode cX5_indexOf 3 = .ok (.iload 4, 2) := by decide +kernel
theorem dX5_indexOf_5 : decode cX5_indexOf 5 = .ok (.iload_n 1, 1) := by decide +kernel
theorem dX5_indexOf_6 : decode cX5_indexOf 6 = .ok (.if_icmp .ge 21, 3) := by decide +kernel
theorem dX5_indexOf_9 : decode cX5_indexOf 9 = .ok (.aload_n 0, 1) := by decide +kernel
theorem dX5_indexOf_10 : decode cX5_indexOf 10 = .ok (.iload 4, 2) := by decide +kernel
theorem dX5_indexOf_12 : decode cX5_indexOf 12 = .ok (.laload, 1) := by decide +kernel
theorem dX5_indexOf_13 : decode cX5_indexOf 13 = .ok (.lload_n 2, 1) := by decide +kernel
theorem dX5_indexOf_14 : decode cX5_indexOf 14 = .ok (.lcmp, 1) := by decide +kernel
theorem dX5_indexOf_15 : decode cX5_indexOf 15 = .ok (.ifCond .ne 6, 3) := by decide +kernel
theorem dX5_indexOf_18 : decode cX5_indexOf 18 = .ok (.iload 4, 2) := by decide +kernel
theorem dX5_indexOf_20 : decode cX5_indexOf 20 = .ok (.ireturn, 1) := by decide +kernel
theorem dX5_indexOf_21 : decode cX5_indexOf 21 = .ok (.iinc 4 1, 3) := by decide +kernel
theorem dX5_indexOf_24 : decode cX5_indexOf 24 = .ok (.goto (-21), 3) := by decide +kernel
theorem dX5_indexOf_27 : decode cX5_indexOf 27 = .ok (.iconst (-1), 1) := by decide +kernel
theorem dX5_indexOf_28 : decode cX5_indexOf 28 = .ok (.ireturn, 1) := by decide +kernel
theorem dX5_readNewName_0 : decode cX5_readNewName 0 = .ok (.aload_n 0, 1) := by decide +kernel
theorem dX5_readNewName_1 : decode cX5_readNewName 1 = .ok (.getfield 12, 3) := by decide +kernel
theorem dX5_readNewName_4 : decode cX5_readNewName 4 = .ok (.invokevirtual 189, 3) := by decide +kernel
theorem dX5_readNewName_7 : decode cX5_readNewName 7 = .ok (.aload_n 0, 1) := by decide +kernel
theorem dX5_readNewName_8 : decode cX5_readNewName 8 = .ok (.getfield 12, 3) := by decide +kernel
theorem dX5_readNewName_11 : decode cX5_readNewName 11 = .ok (.invokevirtual 199, 3) := by decide +kernel
theorem dX5_readNewName_14 : decode cX5_readNewName 14 = .ok (.ifCond .ne 9, 3) := by decide +kernel
theorem dX5_readNewName_17 : decode cX5_readNewName 17 = .ok (.aload_n 0, 1) := by decide +kernel
theorem dX5_readNewName_18 : decode cX5_readNewName 18 = .ok (.iconst 1, 1) := by decide +kernel
theorem dX5_readNewName_19 : decode cX5_readNewName 19 = .ok (.invokevirtual 120, 3) := by decide +kernel
theorem dX5_readNewName_22 : decode cX5_readNewName 22 = .ok (.ireturn, 1) := by decide +kernel
theorem dX5_readNewName_23 : decode cX5_readNewName 23 = .ok (.aload_n 0, 1) := by decide +kernel
theorem dX5_readNewName_24 : decode cX5_readNewName 24 = .ok (.getfield 12, 3) := by decide +kernel
theorem dX5_readNewName_27 : decode cX5_readNewName 27 = .ok (.invokevirtual 202, 3) := by decide +kernel
theorem dX5_readNewName_30 : decode cX5_readNewName 30 = .ok (.lstore_n 3, 1) := by decide +kernel
theorem dX5_readNewName_31 : decode cX5_readNewName 31 = .ok (.aload_n 0, 1) := by decide +kernel
theorem dX5_readNewName_32 : decode cX5_readNewName 32 = .ok (.getfield 25, 3) := by decide +kernel
theorem dX5_readNewName_35 : decode cX5_readNewName 35 = .ok (.aload_n 0, 1) := by decide +kernel
theorem dX5_readNewName_36 : decode cX5_readNewName 36 = .ok (.getfield 35, 3) := by decide +kernel
theorem dX5_readNewName_39 : decode cX5_readNewName 39 = .ok (.getfield 76, 3) := by decide +kernel
theorem dX5_readNewName_42 : decode cX5_readNewName 42 = .ok (.lload_n 3, 1) := by decide +kernel
theorem dX5_readNewName_43 : decode cX5_readNewName 43 = .ok (.invokestatic 206, 3) := by decide +kernel
theorem dX5_readNewName_46 : decode cX5_readNewName 46 = .ok (.iconst (-1), 1) := by decide +kernel
theorem dX5_readNewName_47 : decode cX5_readNewName 47 = .ok (.if_icmp .ne 22, 3) := by decide +kernel
theorem dX5_readNewName_50 : decode cX5_readNewName 50 = .ok (.aload_n 0, 1) := by decide +kernel
theorem dX5_readNewName_51 : decode cX5_readNewName 51 = .ok (.getfield 29, 3) := by decide +kernel
theorem dX5_readNewName_54 : decode cX5_readNewName 54 = .ok (.aload_n 0, 1) := by decide +kernel
theorem dX5_readNewName_55 : decode cX5_readNewName 55 = .ok (.getfield 35, 3) := by decide +kernel
theorem dX5_readNewName_58 : decode cX5_readNewName 58 = .ok (.getfield 159, 3) := by decide +kernel
theorem dX5_readNewName_61 : decode cX5_readNewName 61 = .ok (.lload_n 3, 1) := by decide +kernel
theorem dX5_readNewName_62 : decode cX5_readNewName 62 = .ok (.invokestatic 206, 3) := by decide +kernel
theorem dX5_readNewName_65 : decode cX5_readNewName 65 = .ok (.iconst (-1), 1) := by decide +kernel
theorem dX5_readNewName_66 : decode cX5_readNewName 66 = .ok (.if_icmp .eq 9, 3) := by decide +kernel
theorem dX5_readNewName_69 : decode cX5_readNewName 69 = .ok (.aload_n 0, 1) := by decide +kernel
theorem dX5_readNewName_70 : decode cX5_readNewName 70 = .ok (.iconst 3, 1) := by decide +kernel
theorem dX5_readNewName_71 : decode cX5_readNewName 71 = .ok (.invokevirtual 120, 3) := by decide +kernel
theorem dX5_readNewName_74 : decode cX5_readNewName 74 = .ok (.ireturn, 1) := by decide +kernel
theorem dX5_readNewName_75 : decode cX5_readNewName 75 = .ok (.aload_n 1, 1) := by decide +kernel
theorem dX5_readNewName_76 : decode cX5_readNewName 76 = .ok (.iload_n 2, 1) := by decide +kernel
theorem dX5_readNewName_77 : decode cX5_readNewName 77 = .ok (.lload_n 3, 1) := by decide +kernel
theorem dX5_readNewName_78 : decode cX5_readNewName 78 = .ok (.lastore, 1) := by decide +kernel
theorem dX5_readNewName_79 : decode cX5_readNewName 79 = .ok (.aload_n 0, 1) := by decide +kernel
theorem dX5_readNewName_80 : decode cX5_readNewName 80 = .ok (.getfield 12, 3) := by decide +kernel
theorem dX5_readNewName_83 : decode cX5_readNewName 83 = .ok (.invokevirtual 189, 3) := by decide +kernel
theorem dX5_readNewName_86 : decode cX5_readNewName 86 = .ok (.iconst 1, 1) := by decide +kernel
theorem dX5_readNewName_87 : decode cX5_readNewName 87 = .ok (.ireturn, 1) := by decide +kernel
theorem dX5_readWare_0 : decode cX5_readWare 0 = .ok (.aload_n 0, 1) := by decide +kernel
theorem dX5_readWare_1 : decode cX5_readWare 1 = .ok (.getfield 12, 3) := by decide +kernel
theorem dX5_readWare_4 : decode cX5_readWare 4 = .ok (.invokevirtual 189, 3) := by decide +kernel
theorem dX5_readWare_7 : decode cX5_readWare 7 = .ok (.aload_n 0, 1) := by decide +kernel
theorem dX5_readWare_8 : decode cX5_readWare 8 = .ok (.getfield 12, 3) := by decide +kernel
theorem dX5_readWare_11 : decode cX5_readWare 11 = .ok (.invokevirtual 199, 3) := by decide +kernel
theorem dX5_readWare_14 : decode cX5_readWare 14 = .ok (.ifCond .eq 27, 3) := by decide +kernel
theorem dX5_readWare_17 : decode cX5_readWare 17 = .ok (.aload_n 0, 1) := by decide +kernel
theorem dX5_readWare_18 : decode cX5_readWare 18 = .ok (.getfield 25, 3) := by decide +kernel
theorem dX5_readWare_21 : decode cX5_readWare 21 = .ok (.aload_n 0, 1) := by decide +kernel
theorem dX5_readWare_22 : decode cX5_readWare 22 = .ok (.getfield 35, 3) := by decide +kernel
theorem dX5_readWare_25 : decode cX5_readWare 25 = .ok (.getfield 76, 3) := by decide +kernel
theorem dX5_readWare_28 : decode cX5_readWare 28 = .ok (.aload_n 0, 1) := by decide +kernel
theorem dX5_readWare_29 : decode cX5_readWare 29 = .ok (.getfield 12, 3) := by decide +kernel
theorem dX5_readWare_32 : decode cX5_readWare 32 = .ok (.invokevirtual 202, 3) := by decide +kernel
theorem dX5_readWare_35 : decode cX5_readWare 35 = .ok (.invokestatic 206, 3) := by decide +kernel
theorem dX5_readWare_38 : decode cX5_readWare 38 = .ok (.goto 4, 3) := by decide +kernel
theorem dX5_readWare_41 : decode cX5_readWare 41 = .ok (.iconst (-1), 1) := by decide +kernel
theorem dX5_readWare_42 : decode cX5_readWare 42 = .ok (.istore_n 2, 1) := by decide +kernel
theorem dX5_readWare_43 : decode cX5_readWare 43 = .ok (.aload_n 0, 1) := by decide +kernel
theorem dX5_readWare_44 : decode cX5_readWare 44 = .ok (.getfield 12, 3) := by decide +kernel
theorem dX5_readWare_47 : decode cX5_readWare 47 = .ok (.invokevirtual 199, 3) := by decide +kernel
theorem dX5_readWare_50 : decode cX5_readWare 50 = .ok (.ifCond .ne 12, 3) := by decide +kernel
theorem dX5_readWare_53 : decode cX5_readWare 53 = .ok (.aload_n 0, 1) := by decide +kernel
theorem dX5_readWare_54 : decode cX5_readWare 54 = .ok (.iconst 1, 1) := by decide +kernel
theorem dX5_readWare_55 : decode cX5_readWare 55 = .ok (.invokevirtual 120, 3) := by decide +kernel
theorem dX5_readWare_58 : decode cX5_readWare 58 = .ok (.pop, 1) := by decide +kernel
theorem dX5_readWare_59 : decode cX5_readWare 59 = .ok (.goto 44, 3) := by decide +kernel
theorem dX5_readWare_62 : decode cX5_readWare 62 = .ok (.iload_n 2, 1) := by decide +kernel
theorem dX5_readWare_63 : decode cX5_readWare 63 = .ok (.iconst (-1), 1) := by decide +kernel
theorem dX5_readWare_64 : decode cX5_readWare 64 = .ok (.if_icmp .ne 12, 3) := by decide +kernel
theorem dX5_readWare_67 : decode cX5_readWare 67 = .ok (.aload_n 0, 1) := by decide +kernel
theorem dX5_readWare_68 : decode cX5_readWare 68 = .ok (.iconst 2, 1) := by decide +kernel
theorem dX5_readWare_69 : decode cX5_readWare 69 = .ok (.invokevirtual 120, 3) := by decide +kernel
theorem dX5_readWare_72 : decode cX5_readWare 72 = .ok (.pop, 1) := by decide +kernel
theorem dX5_readWare_73 : decode cX5_readWare 73 = .ok (.goto 30, 3) := by decide +kernel
theorem dX5_readWare_76 : decode cX5_readWare 76 = .ok (.iload_n 1, 1) := by decide +kernel
theorem dX5_readWare_77 : decode cX5_readWare 77 = .ok (.iload_n 2, 1) := by decide +kernel
theorem dX5_readWare_78 : decode cX5_readWare 78 = .ok (.iushr, 1) := by decide +kernel
theorem dX5_readWare_79 : decode cX5_readWare 79 = .ok (.iconst 1, 1) := by decide +kernel
theorem dX5_readWare_80 : decode cX5_readWare 80 = .ok (.iand, 1) := by decide +kernel
theorem dX5_readWare_81 : decode cX5_readWare 81 = .ok (.iconst 1, 1) := by decide +kernel
theorem dX5_readWare_82 : decode cX5_readWare 82 = .ok (.if_icmp .ne 14, 3) := by decide +kernel
theorem dX5_readWare_85 : decode cX5_readWare 85 = .ok (.aload_n 0, 1) := by decide +kernel
theorem dX5_readWare_86 : decode cX5_readWare 86 = .ok (.iconst 3, 1) := by decide +kernel
theorem dX5_readWare_87 : decode cX5_readWare 87 = .ok (.invokevirtual 120, 3) := by decide +kernel
theorem dX5_readWare_90 : decode cX5_readWare 90 = .ok (.pop, 1) := by decide +kernel
theorem dX5_readWare_91 : decode cX5_readWare 91 = .ok (.iconst (-1), 1) := by decide +kernel
theorem dX5_readWare_92 : decode cX5_readWare 92 = .ok (.istore_n 2, 1) := by decide +kernel
theorem dX5_readWare_93 : decode cX5_readWare 93 = .ok (.goto 10, 3) := by decide +kernel
theorem dX5_readWare_96 : decode cX5_readWare 96 = .ok (.aload_n 0, 1) := by decide +kernel
theorem dX5_readWare_97 : decode cX5_readWare 97 = .ok (.getfield 12, 3) := by decide +kernel
theorem dX5_readWare_100 : decode cX5_readWare 100 = .ok (.invokevirtual 189, 3) := by decide +kernel
theorem dX5_readWare_103 : decode cX5_readWare 103 = .ok (.iload_n 2, 1) := by decide +kernel
theorem dX5_readWare_104 : decode cX5_readWare 104 = .ok (.ireturn, 1) := by decide +kernel
set_option maxHeartbeats 4000000 in
set_option maxRecDepth 100000 in
theorem c_X9_empty (l : Launch) (D : DG) (cyC cyI cyJ cyZ cyO : ClassId) (a0 : Nat) (a6 : Nat) (a1 : Nat) (a2 : Nat) (a3 : Nat) (a4 : Nat) (a5 : Nat) (a7 : Nat) (a8 : Nat) (a9 : Nat) (a10 : Nat) (a_wares : Int32) (a_shelves : Int32) (a_nests : Int32) (a_lids : Int32) (a_tops : Int32) (a_habit : Nat → Int32) (h_a_wares : 0 ≤ (a_wares).toInt ∧ (a_wares).toInt ≤ 12) (h_a_shelves : 0 ≤ (a_shelves).toInt ∧ (a_shelves).toInt ≤ 4) (h_a_nests : 0 ≤ (a_nests).toInt ∧ (a_nests).toInt ≤ 4) : KK l D (TY cyC cyI cyJ cyZ cyO) yX9_empty cX9_empty 1 none ({ frames := 1, cells := 0, slots := 0, locals := 23 } : Room) 0 0 [.ref a0] [(a0, .inr (9, [.int a_wares, .int a_shelves, .int a_nests, .ref a1, .ref a2, .ref a3, .ref a4, .ref a5, .ref a6, .int a_lids, .int a_tops, .ref a7, .ref a8, .ref a9, .ref a10])), (a6, .inl (cyI, 12, .inl a_habit))] (fun u => none) (fun u => True) (fun u => [(a0, .inr (9, [.int 0, .int 0, .int 0, .ref a1, .ref a2, .ref a3, .ref a4, .ref a5, .ref a6, .int 0, .int 0, .ref a7, .ref a8, .ref a9, .ref a10])), (a6, .inl (cyI, 12, .inl (fun _ => 0)))]) := by
  refine KK.of (lv0 := [(0, .ref a0)]) (by decide) rfl (Nat.le_of_ble_eq_true rfl) ?_
  intro p e s m args below meth c A C hr hk hin
  refine j_aload_n (pc := 0) C dX9_empty_0 rfl 0 rfl ?_
  refine j_iconst (pc := 1) (v := 0) C dX9_empty_1 (by decide) ?_
  refine j_put (pc := 2) (ci := 9) (v := .int 0) (ws' := [(a0, .inr (9, [.int 0, .int a_shelves, .int a_nests, .ref a1, .ref a2, .ref a3, .ref a4, .ref a5, .ref a6, .int a_lids, .int a_tops, .ref a7, .ref a8, .ref a9, .ref a10])), (a6, .inl (cyI, 12, .inl a_habit))]) C inw_9 0 rfl rfl 0 (by decide) wd_0 rfl tyX9_ok nmX9 rfl (tyX9_ok 0 (by decide)) rfl rfl (Nat.le_of_ble_eq_true rfl) dX9_empty_2 rfl ?_
  refine j_aload_n (pc := 5) C dX9_empty_5 rfl 0 rfl ?_
  refine j_iconst (pc := 6) (v := 0) C dX9_empty_6 (by decide) ?_
  refine j_put (pc := 7) (ci := 9) (v := .int 0) (ws' := [(a0, .inr (9, [.int 0, .int 0, .int a_nests, .ref a1, .ref a2, .ref a3, .ref a4, .ref a5, .ref a6, .int a_lids, .int a_tops, .ref a7, .ref a8, .ref a9, .ref a10])), (a6, .inl (cyI, 12, .inl a_habit))]) C inw_9 0 rfl rfl 1 (by decide) wd_1 rfl tyX9_ok nmX9 rfl (tyX9_ok 1 (by decide)) rfl rfl (Nat.le_of_ble_eq_true rfl) dX9_empty_7 rfl ?_
  refine j_aload_n (pc := 10) C dX9_empty_10 rfl 0 rfl ?_
  refine j_iconst (pc := 11) (v := 0) C dX9_empty_11 (by decide) ?_
  refine j_put (pc := 12) (ci := 9) (v := .int 0) (ws' := [(a0, .inr (9, [.int 0, .int 0, .int 0, .ref a1, .ref a2, .ref a3, .ref a4, .ref a5, .ref a6, .int a_lids, .int a_tops, .ref a7, .ref a8, .ref a9, .ref a10])), (a6, .inl (cyI, 12, .inl a_habit))]) C inw_9 0 rfl rfl 2 (by decide) wd_292 rfl tyX9_ok nmX9 rfl (tyX9_ok 2 (by decide)) rfl rfl (Nat.le_of_ble_eq_true rfl) dX9_empty_12 rfl ?_
  refine j_aload_n (pc := 15) C dX9_empty_15 rfl 0 rfl ?_
  refine j_iconst (pc := 16) (v := 0) C dX9_empty_16 (by decide) ?_
  refine j_put (pc := 17) (ci := 9) (v := .int 0) (ws' := [(a0, .inr (9, [.int 0, .int 0, .int 0, .ref a1, .ref a2, .ref a3, .ref a4, .ref a5, .ref a6, .int 0, .int a_tops, .ref a7, .ref a8, .ref a9, .ref a10])), (a6, .inl (cyI, 12, .inl a_habit))]) C inw_9 0 rfl rfl 9 (by decide) wd_19 rfl tyX9_ok nmX9 rfl (tyX9_ok 9 (by decide)) rfl rfl (Nat.le_of_ble_eq_true rfl) dX9_empty_17 rfl ?_
  refine j_aload_n (pc := 20) C dX9_empty_20 rfl 0 rfl ?_
  refine j_iconst (pc := 21) (v := 0) C dX9_empty_21 (by decide) ?_
  refine j_put (pc := 22) (ci := 9) (v := .int 0) (ws' := [(a0, .inr (9, [.int 0, .int 0, .int 0, .ref a1, .ref a2, .ref a3, .ref a4, .ref a5, .ref a6, .int 0, .int 0, .ref a7, .ref a8, .ref a9, .ref a10])), (a6, .inl (cyI, 12, .inl a_habit))]) C inw_9 0 rfl rfl 10 (by decide) wd_293 rfl tyX9_ok nmX9 rfl (tyX9_ok 10 (by decide)) rfl rfl (Nat.le_of_ble_eq_true rfl) dX9_empty_22 rfl ?_
  refine j_aload_n (pc := 25) C dX9_empty_25 rfl 0 rfl ?_
  refine j_get (pc := 26) (ci := 9) (v := .ref a6) C inw_9 0 rfl rfl 8 (by decide) wd_294 rfl rfl dX9_empty_26 ?_
  refine j_iconst (pc := 29) (v := 0) C dX9_empty_29 (by decide) ?_
  refine j_callS (pc := 30) (As := [.ref a6, .int 0]) (rest := []) (wr := [(a0, .inr (9, [.int 0, .int 0, .int 0, .ref a1, .ref a2, .ref a3, .ref a4, .ref a5, .ref a6, .int 0, .int 0, .ref a7, .ref a8, .ref a9, .ref a10]))]) C (c_fill l D cyC cyI cyJ cyZ cyO a6 0 a_habit) wd_50 wd_51 wd_295 wd_53 ⟨by decide, by decide, rfl⟩ rfl ⟨rfl, rfl, by decide, by decide⟩ ⟨by decide, by decide⟩ [1] [0] rfl rfl ⟨by decide, by decide, by decide⟩ rfl (Nat.le_of_ble_eq_true rfl) dX9_empty_30 (fun u_1 hw_2 => ?_)
  refine j_eq (ws2 := [(a0, .inr (9, [.int 0, .int 0, .int 0, .ref a1, .ref a2, .ref a3, .ref a4, .ref a5, .ref a6, .int 0, .int 0, .ref a7, .ref a8, .ref a9, .ref a10])), (a6, .inl (cyI, 12, .inl (fun _ => 0)))]) (pc2 := 33) (lv2 := [(0, .ref a0)]) (st2 := []) rfl rfl rfl rfl ?_
  exact j_vret (pc := 33) C hr hk (fun i => [].getD i 0, fun i => [].getD i 0, fun i => [].getD i (fun _ => 0), fun i => [].getD i (fun _ => 0)) rfl trivial [0, 1] (by decide) rfl (by decide) (by decide) dX9_empty_33
set_option maxHeartbeats 4000000 in
set_option maxRecDepth 100000 in
theorem c_X5_wrong (l : Launch) (D : DG) (cyC cyI cyJ cyZ cyO : ClassId) (r0 : Nat) (t0 : Nat) (e0 : Nat) (r1 : Nat) (r2 : Nat) (a0 : Nat) (t1 : Nat) (p0 : Int32) (r_habits : Int32) (r_fault : Int32) (t_length : Int32) (t_next : Int32) (t_kind : Int32) (t_place : Int32) (t_number : Int32) (h_t_length : 0 ≤ (t_length).toInt ∧ (t_length).toInt ≤ 1000) (h_t_next : 0 ≤ (t_next).toInt ∧ (t_next).toInt ≤ 1000) (h_t_kind : 0 ≤ (t_kind).toInt ∧ (t_kind).toInt ≤ 4) (h_t_place : 0 ≤ (t_place).toInt ∧ (t_place).toInt ≤ 1000) (h_p0 : 1 ≤ (p0).toInt ∧ (p0).toInt ≤ 5) : KK l D (TY cyC cyI cyJ cyZ cyO) yX5_wrong cX5_wrong 2 (some .boolean) ({ frames := 0, cells := 0, slots := 0, locals := 0 } : Room) 0 0 [.ref r0, .int p0] [(r0, .inr (5, [.ref t0, .ref e0, .ref r1, .ref r2, .ref a0, .int r_habits, .int r_fault])), (t0, .inr (8, [.ref t1, .int t_length, .int t_next, .int t_kind, .int t_place, .int t_number]))] (fun u => some (.int 0)) (fun u => (((u.2.1 0)).toInt = (p0).toInt + 16 * (t_place).toInt)) (fun u => [(r0, .inr (5, [.ref t0, .ref e0, .ref r1, .ref r2, .ref a0, .int r_habits, .int (u.2.1 0)])), (t0, .inr (8, [.ref t1, .int t_length, .int t_next, .int t_kind, .int t_place, .int t_number]))]) := by
  refine KK.of (lv0 := [(0, .ref r0), (1, .int p0)]) (by decide) rfl (Nat.le_of_ble_eq_true rfl) ?_
  intro p e s m args below meth c A C hr hk hin
  refine j_aload_n (pc := 0) C dX5_wrong_0 rfl 0 rfl ?_
  refine j_iload_n (pc := 1) C dX5_wrong_1 rfl 1 rfl ?_
  refine j_bipush (pc := 2) (v := 16) C dX5_wrong_2 (by decide) ?_
  refine j_aload_n (pc := 4) C dX5_wrong_4 rfl 0 rfl ?_
  refine j_get (pc := 5) (ci := 5) (v := .ref t0) C inw_5 0 rfl rfl 0 (by decide) wd_296 rfl rfl dX5_wrong_5 ?_
  refine j_get (pc := 8) (ci := 8) (v := .int t_place) C inw_8 1 rfl rfl 4 (by decide) wd_297 rfl rfl dX5_wrong_8 ?_
  obtain ⟨v_1, ev_1⟩ : ∃ z : Int32, 16 * t_place = z := ⟨_, rfl⟩
  have el_16 : (16 : Int32).toInt = 16 := rfl
  have hv_1 : v_1.toInt = 16 * t_place.toInt := by rw [← ev_1]; exact mulL (c := 16) rfl (by omega) (by omega)
  refine j_imul (pc := 11) (v := v_1) C dX5_wrong_11 ev_1 ?_
  obtain ⟨v_2, ev_2⟩ : ∃ z : Int32, p0 + v_1 = z := ⟨_, rfl⟩
  have hv_2 : v_2.toInt = p0.toInt + v_1.toInt := by rw [← ev_2]; exact fb_addI (by omega) (by omega)
  refine j_iadd (pc := 12) (v := v_2) C dX5_wrong_12 ev_2 ?_
  refine j_put (pc := 13) (ci := 5) (v := .int v_2) (ws' := [(r0, .inr (5, [.ref t0, .ref e0, .ref r1, .ref r2, .ref a0, .int r_habits, .int v_2])), (t0, .inr (8, [.ref t1, .int t_length, .int t_next, .int t_kind, .int t_place, .int t_number]))]) C inw_5 0 rfl rfl 6 (by decide) wd_298 rfl tyX5_ok nmX5 rfl (tyX5_ok 6 (by decide)) rfl rfl (Nat.le_of_ble_eq_true rfl) dX5_wrong_13 rfl ?_
  refine j_iconst (pc := 16) (v := 0) C dX5_wrong_16 (by decide) ?_
  exact j_zret (pc := 17) C hr rfl hk (fun i => [].getD i 0, fun i => [v_2].getD i 0, fun i => [].getD i (fun _ => 0), fun i => [].getD i (fun _ => 0)) rfl (show ((v_2).toInt = (p0).toInt + 16 * (t_place).toInt) from (by omega)) [0, 1] (by decide) rfl (by decide) (by decide) dX5_wrong_17
set_option maxHeartbeats 4000000 in
set_option maxRecDepth 100000 in
theorem c_X5_exchange (l : Launch) (D : DG) (cyC cyI cyJ cyZ cyO : ClassId) (r0 : Nat) (t0 : Nat) (e0 : Nat) (r1 : Nat) (r2 : Nat) (a0 : Nat) (k0 : Nat) (r_habits : Int32) (r_fault : Int32) : KK l D (TY cyC cyI cyJ cyZ cyO) yX5_exchange cX5_exchange 3 (some (.object "BowlShelf$Told")) ({ frames := 0, cells := 0, slots := 0, locals := 0 } : Room) 0 0 [.ref r0, .ref k0] [(r0, .inr (5, [.ref t0, .ref e0, .ref r1, .ref r2, .ref a0, .int r_habits, .int r_fault]))] (fun u => some (.ref a0)) (fun u => True) (fun u => [(r0, .inr (5, [.ref t0, .ref e0, .ref r1, .ref r2, .ref k0, .int r_habits, .int r_fault]))]) := by
  refine KK.of (lv0 := [(0, .ref r0), (1, .ref k0)]) (by decide) rfl (Nat.le_of_ble_eq_true rfl) ?_
  intro p e s m args below meth c A C hr hk hin
  refine j_aload_n (pc := 0) C dX5_exchange_0 rfl 0 rfl ?_
  refine j_get (pc := 1) (ci := 5) (v := .ref a0) C inw_5 0 rfl rfl 4 (by decide) wd_299 rfl rfl dX5_exchange_1 ?_
  refine j_astore_n (pc := 4) (lv' := [(2, .ref a0), (0, .ref r0), (1, .ref k0)]) C dX5_exchange_4 rfl (by decide) rfl ?_
  refine j_aload_n (pc := 5) C dX5_exchange_5 rfl 1 rfl ?_
  refine j_aload_n (pc := 6) C dX5_exchange_6 rfl 2 rfl ?_
  refine j_put (pc := 7) (ci := 5) (v := .ref k0) (ws' := [(r0, .inr (5, [.ref t0, .ref e0, .ref r1, .ref r2, .ref k0, .int r_habits, .int r_fault]))]) C inw_5 0 rfl rfl 4 (by decide) wd_299 rfl tyX5_ok nmX5 rfl (tyX5_ok 4 (by decide)) rfl rfl (Nat.le_of_ble_eq_true rfl) dX5_exchange_7 rfl ?_
  refine j_aload_n (pc := 10) C dX5_exchange_10 rfl 0 rfl ?_
  exact j_aret (pc := 11) C hr (Or.inl ⟨_, rfl⟩) hk (fun i => [].getD i 0, fun i => [].getD i 0, fun i => [].getD i (fun _ => 0), fun i => [].getD i (fun _ => 0)) rfl trivial [0] (by decide) rfl (by decide) (by decide) dX5_exchange_11
set_option maxHeartbeats 4000000 in
set_option maxRecDepth 100000 in
theorem c_X5_readSign (l : Launch) (D : DG) (cyC cyI cyJ cyZ cyO : ClassId) (r0 : Nat) (t0 : Nat) (t1 : Nat) (e0 : Nat) (r1 : Nat) (r2 : Nat) (a0 : Nat) (p0 : Int32) (r_habits : Int32) (r_fault : Int32) (t_length : Int32) (t_next : Int32) (t_kind : Int32) (t_place : Int32) (t_number : Int32) (t_text : Nat → Int32) (h_t_length : 0 ≤ (t_length).toInt ∧ (t_length).toInt ≤ 1000) (h_t_next : 0 ≤ (t_next).toInt ∧ (t_next).toInt ≤ 1000) (h_t_kind : 0 ≤ (t_kind).toInt ∧ (t_kind).toInt ≤ 4) (h_t_place : 0 ≤ (t_place).toInt ∧ (t_place).toInt ≤ 1000) (h_t_text : Iv 1000 (0) (126) t_text) (ht3 : ¬ (t_kind).toInt = 3 ∨ (t_place).toInt ≤ 999) (hTH : TH t_text (t_length).toInt.toNat (t_next).toInt (t_kind).toInt (t_place).toInt (t_number).toInt) : KK l D (TY cyC cyI cyJ cyZ cyO) yX5_readSign cX5_readSign 2 (some .boolean) ({ frames := 5, cells := 0, slots := 0, locals := 113 } : Room) 0 0 [.ref r0, .int p0] [(r0, .inr (5, [.ref t0, .ref e0, .ref r1, .ref r2, .ref a0, .int r_habits, .int r_fault])), (t0, .inr (8, [.ref t1, .int t_length, .int t_next, .int t_kind, .int t_place, .int t_number])), (t1, .inl (cyC, 1000, .inl t_text))] (fun u => some (.int (u.2.1 0))) (fun u => (0 ≤ (u.2.1 0).toInt ∧ (u.2.1 0).toInt ≤ 1) ∧ (0 ≤ (u.2.1 2).toInt ∧ (u.2.1 2).toInt ≤ 1000) ∧ (0 ≤ (u.2.1 3).toInt ∧ (u.2.1 3).toInt ≤ 4) ∧ (0 ≤ (u.2.1 4).toInt ∧ (u.2.1 4).toInt ≤ 1000) ∧ (¬ ((u.2.1 3)).toInt = 3 ∨ ((u.2.1 4)).toInt ≤ 999) ∧ ((t_place).toInt ≤ ((u.2.1 4)).toInt) ∧ (TH t_text (t_length).toInt.toNat ((u.2.1 2)).toInt ((u.2.1 3)).toInt ((u.2.1 4)).toInt ((u.2.1 5)).toInt) ∧ (CP ((u.2.1 0)).toInt ((u.2.1 4)).toInt ((u.2.1 1)).toInt (r_fault).toInt (rSign (TKS t_text (t_length).toInt.toNat) p0 (t_place).toInt.toNat))) (fun u => [(r0, .inr (5, [.ref t0, .ref e0, .ref r1, .ref r2, .ref a0, .int r_habits, .int (u.2.1 1)])), (t0, .inr (8, [.ref t1, .int t_length, .int (u.2.1 2), .int (u.2.1 3), .int (u.2.1 4), .int (u.2.1 5)])), (t1, .inl (cyC, 1000, .inl t_text))]) := by
  refine KK.of (lv0 := [(0, .ref r0), (1, .int p0)]) (by decide) rfl (Nat.le_of_ble_eq_true rfl) ?_
  intro p e s m args below meth c A C hr hk hin
  refine j_aload_n (pc := 0) C dX5_readSign_0 rfl 0 rfl ?_
  refine j_get (pc := 1) (ci := 5) (v := .ref t0) C inw_5 0 rfl rfl 0 (by decide) wd_296 rfl rfl dX5_readSign_1 ?_
  refine j_iload_n (pc := 4) C dX5_readSign_4 rfl 1 rfl ?_
  refine j_callV (pc := 5) (As := [.int p0]) (rest := []) (wr := [(r0, .inr (5, [.ref t0, .ref e0, .ref r1, .ref r2, .ref a0, .int r_habits, .int r_fault]))]) C (c_X8_isSign_f l D cyC cyI cyJ cyZ cyO t0 t1 p0 t_length t_next t_kind t_place t_number t_text h_t_length h_t_next h_t_kind h_t_place h_t_text ht3 hTH) wd_300 wd_258 wd_301 wd_302 wd_303 ⟨by decide, by decide, rfl⟩ rfl ⟨rfl, rfl, by decide, by decide⟩ ⟨by decide, by decide⟩ [1, 2] [0] rfl rfl ⟨by decide, by decide, by decide⟩ 1 rfl rfl rfl (Nat.le_of_ble_eq_true rfl) dX5_readSign_5 (fun u_1 hw_2 => ?_)
  refine j_eq (ws2 := [(r0, .inr (5, [.ref t0, .ref e0, .ref r1, .ref r2, .ref a0, .int r_habits, .int r_fault])), (t0, .inr (8, [.ref t1, .int t_length, .int t_next, .int t_kind, .int t_place, .int t_number])), (t1, .inl (cyC, 1000, .inl t_text))]) (pc2 := 8) (lv2 := [(0, .ref r0), (1, .int p0)]) (st2 := [.int (u_1.2.1 0)]) rfl rfl rfl rfl ?_
  obtain ⟨hw_2_0, hw_2_1⟩ := hw_2
  refine j_if_ne (pc := 8) (tgt := 17) C dX5_readSign_8 (by decide) (fun c_3 => ?_) (fun c_3 => ?_)
  · skip
    have el_0 : (0 : Int32).toInt = 0 := rfl
    rw [i_eq] at c_3
    have k0c_3 : ((u_1.2.1 0)).toInt = 1 := by omega
    refine j_aload_n (pc := 17) C dX5_readSign_17 rfl 0 rfl ?_
    refine j_get (pc := 18) (ci := 5) (v := .ref t0) C inw_5 0 rfl rfl 0 (by decide) wd_296 rfl rfl dX5_readSign_18 ?_
    refine j_callV (pc := 21) (As := []) (rest := []) (wr := [(r0, .inr (5, [.ref t0, .ref e0, .ref r1, .ref r2, .ref a0, .int r_habits, .int r_fault]))]) C (c_X8_advance_f l D cyC cyI cyJ cyZ cyO t0 t1 t_length t_next t_kind t_place t_number t_text h_t_length h_t_next h_t_kind h_t_place h_t_text) wd_277 wd_258 wd_304 wd_279 wd_280 ⟨by decide, by decide, rfl⟩ rfl ⟨rfl, rfl, by decide, by decide⟩ ⟨by decide, by decide⟩ [1, 2] [0] rfl rfl ⟨by decide, by decide, by decide⟩ 1 rfl rfl rfl (Nat.le_of_ble_eq_true rfl) dX5_readSign_21 (fun u_4 hw_5 => ?_)
    refine j_eq (ws2 := [(r0, .inr (5, [.ref t0, .ref e0, .ref r1, .ref r2, .ref a0, .int r_habits, .int r_fault])), (t0, .inr (8, [.ref t1, .int t_length, .int (u_4.2.1 0), .int (u_4.2.1 1), .int (u_4.2.1 2), .int (u_4.2.1 3)])), (t1, .inl (cyC, 1000, .inl t_text))]) (pc2 := 24) (lv2 := [(0, .ref r0), (1, .int p0)]) (st2 := []) rfl rfl rfl rfl ?_
    obtain ⟨hw_5_0, hw_5_1, hw_5_2, hw_5_3, hw_5_4, hw_5_5⟩ := hw_5
    have ha_u_4 := (hw_5_5).trans (TH.adv hTH)
    refine j_iconst (pc := 24) (v := 1) C dX5_readSign_24 (by decide) ?_
    have el_1 : (1 : Int32).toInt = 1 := rfl
    have el_1 : (1 : Int32).toInt = 1 := rfl
    have el_1 : (1 : Int32).toInt = 1 := rfl
    have el_1 : (1 : Int32).toInt = 1 := rfl
    have el_1 : (1 : Int32).toInt = 1 := rfl
    exact j_zret (pc := 25) C hr rfl hk (fun i => [].getD i 0, fun i => [1, r_fault, (u_4.2.1 0), (u_4.2.1 1), (u_4.2.1 2), (u_4.2.1 3)].getD i 0, fun i => [].getD i (fun _ => 0), fun i => [].getD i (fun _ => 0)) rfl (show (0 ≤ ((1 : Int32)).toInt ∧ ((1 : Int32)).toInt ≤ 1) ∧ (0 ≤ ((u_4.2.1 0)).toInt ∧ ((u_4.2.1 0)).toInt ≤ 1000) ∧ (0 ≤ ((u_4.2.1 1)).toInt ∧ ((u_4.2.1 1)).toInt ≤ 4) ∧ (0 ≤ ((u_4.2.1 2)).toInt ∧ ((u_4.2.1 2)).toInt ≤ 1000) ∧ (¬ ((u_4.2.1 1)).toInt = 3 ∨ ((u_4.2.1 2)).toInt ≤ 999) ∧ ((t_place).toInt ≤ ((u_4.2.1 2)).toInt) ∧ (TH t_text (t_length).toInt.toNat ((u_4.2.1 0)).toInt ((u_4.2.1 1)).toInt ((u_4.2.1 2)).toInt ((u_4.2.1 3)).toInt) ∧ (CP ((1 : Int32)).toInt ((u_4.2.1 2)).toInt (r_fault).toInt (r_fault).toInt (rSign (TKS t_text (t_length).toInt.toNat) p0 (t_place).toInt.toNat)) from ⟨by omega, hw_5_0, hw_5_1, hw_5_2, by omega, (by have z9 := rSign_gt (PT_TKS (f := t_text) (n := (t_length).toInt.toNat) (by omega)) (c := p0) (t_place).toInt.toNat (by unfold rSign; rw [if_pos (show isG (TKS t_text (t_length).toInt.toNat) (t_place).toInt.toNat p0 = true from gI_1.mp (by omega))]); have z8 : rSign (TKS t_text (t_length).toInt.toNat) p0 (t_place).toInt.toNat = (nx (TKS t_text (t_length).toInt.toNat) (t_place).toInt.toNat, 0) := (by unfold rSign; rw [if_pos (show isG (TKS t_text (t_length).toInt.toNat) (t_place).toInt.toNat p0 = true from gI_1.mp (by omega))]); rw [z8] at z9; have y9 := ha_u_4; have y8 : (t_place).toInt.toNat < nx (TKS t_text (t_length).toInt.toNat) (t_place).toInt.toNat := z9; omega), hw_5_4, (CP.ok (by omega) (by omega) (by unfold rSign; rw [if_pos (show isG (TKS t_text (t_length).toInt.toNat) (t_place).toInt.toNat p0 = true from gI_1.mp (by omega)), ← ha_u_4]))⟩) [0, 1, 2] (by decide) rfl (by decide) (by decide) dX5_readSign_25
  · skip
    have el_0 : (0 : Int32).toInt = 0 := rfl
    rw [i_eq] at c_3
    refine j_aload_n (pc := 11) C dX5_readSign_11 rfl 0 rfl ?_
    refine j_iconst (pc := 12) (v := 1) C dX5_readSign_12 (by decide) ?_
    refine j_callV (pc := 13) (As := [.int 1]) (rest := []) (wr := [(t1, .inl (cyC, 1000, .inl t_text))]) C (c_X5_wrong l D cyC cyI cyJ cyZ cyO r0 t0 e0 r1 r2 a0 t1 1 r_habits r_fault t_length t_next t_kind t_place t_number h_t_length h_t_next h_t_kind h_t_place (by decide)) wd_305 wd_306 wd_307 wd_308 wd_309 ⟨by decide, by decide, rfl⟩ rfl ⟨rfl, rfl, by decide, by decide⟩ ⟨by decide, by decide⟩ [0, 1] [2] rfl rfl ⟨by decide, by decide, by decide⟩ 0 rfl rfl rfl (Nat.le_of_ble_eq_true rfl) dX5_readSign_13 (fun u_6 hw_7 => ?_)
    refine j_eq (ws2 := [(t1, .inl (cyC, 1000, .inl t_text)), (r0, .inr (5, [.ref t0, .ref e0, .ref r1, .ref r2, .ref a0, .int r_habits, .int (u_6.2.1 0)])), (t0, .inr (8, [.ref t1, .int t_length, .int t_next, .int t_kind, .int t_place, .int t_number]))]) (pc2 := 16) (lv2 := [(0, .ref r0), (1, .int p0)]) (st2 := [.int 0]) rfl rfl rfl rfl ?_
    have hw_7_0 : ((u_6.2.1 0)).toInt = ((1 : Int32)).toInt + 16 * (t_place).toInt := hw_7
    have el_0 : (0 : Int32).toInt = 0 := rfl
    have el_0 : (0 : Int32).toInt = 0 := rfl
    have el_0 : (0 : Int32).toInt = 0 := rfl
    have el_0 : (0 : Int32).toInt = 0 := rfl
    have el_0 : (0 : Int32).toInt = 0 := rfl
    have el_1 : (1 : Int32).toInt = 1 := rfl
    exact j_zret (pc := 16) C hr rfl hk (fun i => [].getD i 0, fun i => [0, (u_6.2.1 0), t_next, t_kind, t_place, t_number].getD i 0, fun i => [].getD i (fun _ => 0), fun i => [].getD i (fun _ => 0)) rfl (show (0 ≤ ((0 : Int32)).toInt ∧ ((0 : Int32)).toInt ≤ 1) ∧ (0 ≤ (t_next).toInt ∧ (t_next).toInt ≤ 1000) ∧ (0 ≤ (t_kind).toInt ∧ (t_kind).toInt ≤ 4) ∧ (0 ≤ (t_place).toInt ∧ (t_place).toInt ≤ 1000) ∧ (¬ (t_kind).toInt = 3 ∨ (t_place).toInt ≤ 999) ∧ ((t_place).toInt ≤ (t_place).toInt) ∧ (TH t_text (t_length).toInt.toNat (t_next).toInt (t_kind).toInt (t_place).toInt (t_number).toInt) ∧ (CP ((0 : Int32)).toInt (t_place).toInt ((u_6.2.1 0)).toInt (r_fault).toInt (rSign (TKS t_text (t_length).toInt.toNat) p0 (t_place).toInt.toNat)) from ⟨by omega, h_t_next, h_t_kind, h_t_place, by omega, (by omega), hTH, (CP.mv (CP.wr (k := 1) (by omega) (by omega) (by omega) (by omega)) (by unfold rSign; rw [if_neg (show ¬ isG (TKS t_text (t_length).toInt.toNat) (t_place).toInt.toNat p0 = true from gI_0.mp (by omega))]))⟩) [1, 2, 0] (by decide) rfl (by decide) (by decide) dX5_readSign_16
set_option maxHeartbeats 4000000 in
set_option maxRecDepth 100000 in
theorem c_X5_readNumber_r (l : Launch) (D : DG) (cyC cyI cyJ cyZ cyO : ClassId) (r0 : Nat) (t0 : Nat) (t1 : Nat) (i1 : Nat) (e0 : Nat) (r1 : Nat) (r2 : Nat) (a0 : Nat) (p3 : Int32) (r_habits : Int32) (r_fault : Int32) (t_length : Int32) (t_next : Int32) (t_kind : Int32) (t_place : Int32) (t_number : Int32) (t_text : Nat → Int32) (i_f : Nat → Int32) (h_t_length : 0 ≤ (t_length).toInt ∧ (t_length).toInt ≤ 1000) (h_t_next : 0 ≤ (t_next).toInt ∧ (t_next).toInt ≤ 1000) (h_t_kind : 0 ≤ (t_kind).toInt ∧ (t_kind).toInt ≤ 4) (h_t_place : 0 ≤ (t_place).toInt ∧ (t_place).toInt ≤ 1000) (h_p3 : 0 ≤ (p3).toInt ∧ (p3).toInt ≤ 3) (h_t_text : Iv 1000 (0) (126) t_text) (h_i_f : Iv 4 (0) (8) i_f) (ht3 : ¬ (t_kind).toInt = 3 ∨ (t_place).toInt ≤ 999) (hTH : TH t_text (t_length).toInt.toNat (t_next).toInt (t_kind).toInt (t_place).toInt (t_number).toInt) : KK l D (TY cyC cyI cyJ cyZ cyO) yX5_readNumber cX5_readNumber 5 (some .boolean) ({ frames := 5, cells := 0, slots := 0, locals := 113 } : Room) 0 0 [.ref r0, .int 1, .int 8, .ref i1, .int p3] [(r0, .inr (5, [.ref t0, .ref e0, .ref r1, .ref r2, .ref a0, .int r_habits, .int r_fault])), (t0, .inr (8, [.ref t1, .int t_length, .int t_next, .int t_kind, .int t_place, .int t_number])), (t1, .inl (cyC, 1000, .inl t_text)), (i1, .inl (cyI, 4, .inl i_f))] (fun u => some (.int (u.2.1 0))) (fun u => (0 ≤ (u.2.1 0).toInt ∧ (u.2.1 0).toInt ≤ 1) ∧ (0 ≤ (u.2.1 2).toInt ∧ (u.2.1 2).toInt ≤ 1000) ∧ (0 ≤ (u.2.1 3).toInt ∧ (u.2.1 3).toInt ≤ 4) ∧ (0 ≤ (u.2.1 4).toInt ∧ (u.2.1 4).toInt ≤ 1000) ∧ (Iv 4 (0) (8) (u.2.2.1 0)) ∧ (¬ ((u.2.1 3)).toInt = 3 ∨ ((u.2.1 4)).toInt ≤ 999) ∧ (IM (((u.2.1 0)).toInt = 1) (((u.2.2.1 0) (p3).toInt.toNat).toInt = nb (TKS t_text (t_length).toInt.toNat) (t_place).toInt.toNat)) ∧ (∀ j : Nat, ¬ j = (p3).toInt.toNat → (u.2.2.1 0) j = i_f j) ∧ (TH t_text (t_length).toInt.toNat ((u.2.1 2)).toInt ((u.2.1 3)).toInt ((u.2.1 4)).toInt ((u.2.1 5)).toInt) ∧ (CP ((u.2.1 0)).toInt ((u.2.1 4)).toInt ((u.2.1 1)).toInt (r_fault).toInt (rNum (TKS t_text (t_length).toInt.toNat) 1 8 (t_place).toInt.toNat))) (fun u => [(r0, .inr (5, [.ref t0, .ref e0, .ref r1, .ref r2, .ref a0, .int r_habits, .int (u.2.1 1)])), (t0, .inr (8, [.ref t1, .int t_length, .int (u.2.1 2), .int (u.2.1 3), .int (u.2.1 4), .int (u.2.1 5)])), (t1, .inl (cyC, 1000, .inl t_text)), (i1, .inl (cyI, 4, .inl (u.2.2.1 0)))]) := by
  refine KK.of (lv0 := [(0, .ref r0), (1, .int 1), (2, .int 8), (3, .ref i1), (4, .int p3)]) (by decide) rfl (Nat.le_of_ble_eq_true rfl) ?_
  intro p e s m args below meth c A C hr hk hin
  refine j_aload_n (pc := 0) C dX5_readNumber_0 rfl 0 rfl ?_
  refine j_get (pc := 1) (ci := 5) (v := .ref t0) C inw_5 0 rfl rfl 0 (by decide) wd_296 rfl rfl dX5_readNumber_1 ?_
  refine j_get (pc := 4) (ci := 8) (v := .int t_kind) C inw_8 1 rfl rfl 3 (by decide) wd_310 rfl rfl dX5_readNumber_4 ?_
  refine j_iconst (pc := 7) (v := 2) C dX5_readNumber_7 (by decide) ?_
  refine j_icmp_eq (pc := 8) (tgt := 17) C dX5_readNumber_8 (by decide) (fun c_1 => ?_) (fun c_1 => ?_)
  · skip
    have el_2 : (2 : Int32).toInt = 2 := rfl
    rw [i_eq] at c_1
    refine j_aload_n (pc := 17) C dX5_readNumber_17 rfl 0 rfl ?_
    refine j_get (pc := 18) (ci := 5) (v := .ref t0) C inw_5 0 rfl rfl 0 (by decide) wd_296 rfl rfl dX5_readNumber_18 ?_
    refine j_get (pc := 21) (ci := 8) (v := .int t_number) C inw_8 1 rfl rfl 5 (by decide) wd_311 rfl rfl dX5_readNumber_21 ?_
    refine j_iload_n (pc := 24) C dX5_readNumber_24 rfl 1 rfl ?_
    refine j_icmp_lt (pc := 25) (tgt := 39) C dX5_readNumber_25 (by decide) (fun c_2 => ?_) (fun c_2 => ?_)
    · skip
      have el_1 : (1 : Int32).toInt = 1 := rfl
      rw [i_lt] at c_2
      refine j_aload_n (pc := 39) C dX5_readNumber_39 rfl 0 rfl ?_
      refine j_iconst (pc := 40) (v := 4) C dX5_readNumber_40 (by decide) ?_
      refine j_callV (pc := 41) (As := [.int 4]) (rest := []) (wr := [(t1, .inl (cyC, 1000, .inl t_text)), (i1, .inl (cyI, 4, .inl i_f))]) C (c_X5_wrong l D cyC cyI cyJ cyZ cyO r0 t0 e0 r1 r2 a0 t1 4 r_habits r_fault t_length t_next t_kind t_place t_number h_t_length h_t_next h_t_kind h_t_place (by decide)) wd_305 wd_306 wd_307 wd_308 wd_309 ⟨by decide, by decide, rfl⟩ rfl ⟨rfl, rfl, by decide, by decide⟩ ⟨by decide, by decide⟩ [0, 1] [2, 3] rfl rfl ⟨by decide, by decide, by decide⟩ 0 rfl rfl rfl (Nat.le_of_ble_eq_true rfl) dX5_readNumber_41 (fun u_3 hw_4 => ?_)
      refine j_eq (ws2 := [(t1, .inl (cyC, 1000, .inl t_text)), (i1, .inl (cyI, 4, .inl i_f)), (r0, .inr (5, [.ref t0, .ref e0, .ref r1, .ref r2, .ref a0, .int r_habits, .int (u_3.2.1 0)])), (t0, .inr (8, [.ref t1, .int t_length, .int t_next, .int t_kind, .int t_place, .int t_number]))]) (pc2 := 44) (lv2 := [(0, .ref r0), (1, .int 1), (2, .int 8), (3, .ref i1), (4, .int p3)]) (st2 := [.int 0]) rfl rfl rfl rfl ?_
      have hw_4_0 : ((u_3.2.1 0)).toInt = ((4 : Int32)).toInt + 16 * (t_place).toInt := hw_4
      have el_0 : (0 : Int32).toInt = 0 := rfl
      have el_0 : (0 : Int32).toInt = 0 := rfl
      have el_0 : (0 : Int32).toInt = 0 := rfl
      have el_0 : (0 : Int32).toInt = 0 := rfl
      have el_0 : (0 : Int32).toInt = 0 := rfl
      have el_0 : (0 : Int32).toInt = 0 := rfl
      have el_4 : (4 : Int32).toInt = 4 := rfl
      exact j_zret (pc := 44) C hr rfl hk (fun i => [].getD i 0, fun i => [0, (u_3.2.1 0), t_next, t_kind, t_place, t_number].getD i 0, fun i => [i_f].getD i (fun _ => 0), fun i => [].getD i (fun _ => 0)) rfl (show (0 ≤ ((0 : Int32)).toInt ∧ ((0 : Int32)).toInt ≤ 1) ∧ (0 ≤ (t_next).toInt ∧ (t_next).toInt ≤ 1000) ∧ (0 ≤ (t_kind).toInt ∧ (t_kind).toInt ≤ 4) ∧ (0 ≤ (t_place).toInt ∧ (t_place).toInt ≤ 1000) ∧ (Iv 4 (0) (8) i_f) ∧ (¬ (t_kind).toInt = 3 ∨ (t_place).toInt ≤ 999) ∧ (IM (((0 : Int32)).toInt = 1) ((i_f (p3).toInt.toNat).toInt = nb (TKS t_text (t_length).toInt.toNat) (t_place).toInt.toNat)) ∧ (∀ j : Nat, ¬ j = (p3).toInt.toNat → i_f j = i_f j) ∧ (TH t_text (t_length).toInt.toNat (t_next).toInt (t_kind).toInt (t_place).toInt (t_number).toInt) ∧ (CP ((0 : Int32)).toInt (t_place).toInt ((u_3.2.1 0)).toInt (r_fault).toInt (rNum (TKS t_text (t_length).toInt.toNat) 1 8 (t_place).toInt.toNat)) from ⟨by omega, h_t_next, h_t_kind, h_t_place, h_i_f, by omega, (fun h => absurd h (by decide)), (fun j hj => rfl), hTH, (CP.mv (CP.wr (k := 4) (by omega) (by omega) (by omega) (by omega)) (by have hn9 := hTH.num (by omega); unfold rNum; rw [if_pos (show ((TKS t_text (t_length).toInt.toNat) (t_place).toInt.toNat).1 = 2 from hTH.kind.trans (by omega)), if_neg (by omega)]))⟩) [2, 3, 0, 1] (by decide) rfl (by decide) (by decide) dX5_readNumber_44
    · skip
      have el_1 : (1 : Int32).toInt = 1 := rfl
      rw [i_lt] at c_2
      refine j_aload_n (pc := 28) C dX5_readNumber_28 rfl 0 rfl ?_
      refine j_get (pc := 29) (ci := 5) (v := .ref t0) C inw_5 0 rfl rfl 0 (by decide) wd_296 rfl rfl dX5_readNumber_29 ?_
      refine j_get (pc := 32) (ci := 8) (v := .int t_number) C inw_8 1 rfl rfl 5 (by decide) wd_311 rfl rfl dX5_readNumber_32 ?_
      refine j_iload_n (pc := 35) C dX5_readNumber_35 rfl 2 rfl ?_
      refine j_icmp_le (pc := 36) (tgt := 45) C dX5_readNumber_36 (by decide) (fun c_5 => ?_) (fun c_5 => ?_)
      · skip
        have el_8 : (8 : Int32).toInt = 8 := rfl
        rw [i_le] at c_5
        refine j_aload_n (pc := 45) C dX5_readNumber_45 rfl 3 rfl ?_
        refine j_iload (pc := 46) C dX5_readNumber_46 4 rfl ?_
        refine j_aload_n (pc := 48) C dX5_readNumber_48 rfl 0 rfl ?_
        refine j_get (pc := 49) (ci := 5) (v := .ref t0) C inw_5 0 rfl rfl 0 (by decide) wd_296 rfl rfl dX5_readNumber_49 ?_
        refine j_get (pc := 52) (ci := 8) (v := .int t_number) C inw_8 1 rfl rfl 5 (by decide) wd_311 rfl rfl dX5_readNumber_52 ?_
        obtain ⟨f_6, ef_6⟩ : ∃ z, z = upd i_f (p3).toInt.toNat t_number := ⟨_, rfl⟩
        have hf_6 : Iv 4 (0) (8) f_6 := by rw [ef_6]; exact Iv.upd h_i_f (by omega) (by omega)
        refine j_iast (pc := 55) (k := (p3).toInt.toNat) (ws' := [(r0, .inr (5, [.ref t0, .ref e0, .ref r1, .ref r2, .ref a0, .int r_habits, .int r_fault])), (t0, .inr (8, [.ref t1, .int t_length, .int t_next, .int t_kind, .int t_place, .int t_number])), (t1, .inl (cyC, 1000, .inl t_text)), (i1, .inl (cyI, 4, .inl f_6))]) C 3 1 rfl rfl (i_nn h_p3.1) rfl (i_lt_n h_p3.1 (Int.lt_of_le_of_lt h_p3.2 (by decide))) dX5_readNumber_55 (by rw [ef_6]; rfl) ?_
        refine j_aload_n (pc := 56) C dX5_readNumber_56 rfl 0 rfl ?_
        refine j_get (pc := 57) (ci := 5) (v := .ref t0) C inw_5 0 rfl rfl 0 (by decide) wd_296 rfl rfl dX5_readNumber_57 ?_
        refine j_callV (pc := 60) (As := []) (rest := []) (wr := [(r0, .inr (5, [.ref t0, .ref e0, .ref r1, .ref r2, .ref a0, .int r_habits, .int r_fault])), (i1, .inl (cyI, 4, .inl f_6))]) C (c_X8_advance_f l D cyC cyI cyJ cyZ cyO t0 t1 t_length t_next t_kind t_place t_number t_text h_t_length h_t_next h_t_kind h_t_place h_t_text) wd_277 wd_258 wd_304 wd_279 wd_280 ⟨by decide, by decide, rfl⟩ rfl ⟨rfl, rfl, by decide, by decide⟩ ⟨by decide, by decide⟩ [1, 2] [0, 3] rfl rfl ⟨by decide, by decide, by decide⟩ 1 rfl rfl rfl (Nat.le_of_ble_eq_true rfl) dX5_readNumber_60 (fun u_7 hw_8 => ?_)
        refine j_eq (ws2 := [(r0, .inr (5, [.ref t0, .ref e0, .ref r1, .ref r2, .ref a0, .int r_habits, .int r_fault])), (i1, .inl (cyI, 4, .inl f_6)), (t0, .inr (8, [.ref t1, .int t_length, .int (u_7.2.1 0), .int (u_7.2.1 1), .int (u_7.2.1 2), .int (u_7.2.1 3)])), (t1, .inl (cyC, 1000, .inl t_text))]) (pc2 := 63) (lv2 := [(0, .ref r0), (1, .int 1), (2, .int 8), (3, .ref i1), (4, .int p3)]) (st2 := []) rfl rfl rfl rfl ?_
        obtain ⟨hw_8_0, hw_8_1, hw_8_2, hw_8_3, hw_8_4, hw_8_5⟩ := hw_8
        have ha_u_7 := (hw_8_5).trans (TH.adv hTH)
        refine j_iconst (pc := 63) (v := 1) C dX5_readNumber_63 (by decide) ?_
        have el_1 : (1 : Int32).toInt = 1 := rfl
        have el_1 : (1 : Int32).toInt = 1 := rfl
        have el_1 : (1 : Int32).toInt = 1 := rfl
        have el_1 : (1 : Int32).toInt = 1 := rfl
        have el_1 : (1 : Int32).toInt = 1 := rfl
        have el_1 : (1 : Int32).toInt = 1 := rfl
        exact j_zret (pc := 64) C hr rfl hk (fun i => [].getD i 0, fun i => [1, r_fault, (u_7.2.1 0), (u_7.2.1 1), (u_7.2.1 2), (u_7.2.1 3)].getD i 0, fun i => [f_6].getD i (fun _ => 0), fun i => [].getD i (fun _ => 0)) rfl (show (0 ≤ ((1 : Int32)).toInt ∧ ((1 : Int32)).toInt ≤ 1) ∧ (0 ≤ ((u_7.2.1 0)).toInt ∧ ((u_7.2.1 0)).toInt ≤ 1000) ∧ (0 ≤ ((u_7.2.1 1)).toInt ∧ ((u_7.2.1 1)).toInt ≤ 4) ∧ (0 ≤ ((u_7.2.1 2)).toInt ∧ ((u_7.2.1 2)).toInt ≤ 1000) ∧ (Iv 4 (0) (8) f_6) ∧ (¬ ((u_7.2.1 1)).toInt = 3 ∨ ((u_7.2.1 2)).toInt ≤ 999) ∧ (IM (((1 : Int32)).toInt = 1) ((f_6 (p3).toInt.toNat).toInt = nb (TKS t_text (t_length).toInt.toNat) (t_place).toInt.toNat)) ∧ (∀ j : Nat, ¬ j = (p3).toInt.toNat → f_6 j = i_f j) ∧ (TH t_text (t_length).toInt.toNat ((u_7.2.1 0)).toInt ((u_7.2.1 1)).toInt ((u_7.2.1 2)).toInt ((u_7.2.1 3)).toInt) ∧ (CP ((1 : Int32)).toInt ((u_7.2.1 2)).toInt (r_fault).toInt (r_fault).toInt (rNum (TKS t_text (t_length).toInt.toNat) 1 8 (t_place).toInt.toNat)) from ⟨by omega, hw_8_0, hw_8_1, hw_8_2, hf_6, by omega, (fun _ => by rw [ef_6, pk_us]; exact (hTH.num (by omega)).symm), (fun j hj => by rw [ef_6]; exact pk_un hj), hw_8_4, (CP.ok (by omega) (by omega) (by have hn9 := hTH.num (by omega); unfold rNum; rw [if_pos (show ((TKS t_text (t_length).toInt.toNat) (t_place).toInt.toNat).1 = 2 from hTH.kind.trans (by omega)), if_pos (by omega), ← ha_u_7]))⟩) [0, 2, 3, 1] (by decide) rfl (by decide) (by decide) dX5_readNumber_64
      · skip
        have el_8 : (8 : Int32).toInt = 8 := rfl
        rw [i_le] at c_5
        refine j_aload_n (pc := 39) C dX5_readNumber_39 rfl 0 rfl ?_
        refine j_iconst (pc := 40) (v := 4) C dX5_readNumber_40 (by decide) ?_
        refine j_callV (pc := 41) (As := [.int 4]) (rest := []) (wr := [(t1, .inl (cyC, 1000, .inl t_text)), (i1, .inl (cyI, 4, .inl i_f))]) C (c_X5_wrong l D cyC cyI cyJ cyZ cyO r0 t0 e0 r1 r2 a0 t1 4 r_habits r_fault t_length t_next t_kind t_place t_number h_t_length h_t_next h_t_kind h_t_place (by decide)) wd_305 wd_306 wd_307 wd_308 wd_309 ⟨by decide, by decide, rfl⟩ rfl ⟨rfl, rfl, by decide, by decide⟩ ⟨by decide, by decide⟩ [0, 1] [2, 3] rfl rfl ⟨by decide, by decide, by decide⟩ 0 rfl rfl rfl (Nat.le_of_ble_eq_true rfl) dX5_readNumber_41 (fun u_9 hw_10 => ?_)
        refine j_eq (ws2 := [(t1, .inl (cyC, 1000, .inl t_text)), (i1, .inl (cyI, 4, .inl i_f)), (r0, .inr (5, [.ref t0, .ref e0, .ref r1, .ref r2, .ref a0, .int r_habits, .int (u_9.2.1 0)])), (t0, .inr (8, [.ref t1, .int t_length, .int t_next, .int t_kind, .int t_place, .int t_number]))]) (pc2 := 44) (lv2 := [(0, .ref r0), (1, .int 1), (2, .int 8), (3, .ref i1), (4, .int p3)]) (st2 := [.int 0]) rfl rfl rfl rfl ?_
        have hw_10_0 : ((u_9.2.1 0)).toInt = ((4 : Int32)).toInt + 16 * (t_place).toInt := hw_10
        have el_0 : (0 : Int32).toInt = 0 := rfl
        have el_0 : (0 : Int32).toInt = 0 := rfl
        have el_0 : (0 : Int32).toInt = 0 := rfl
        have el_0 : (0 : Int32).toInt = 0 := rfl
        have el_0 : (0 : Int32).toInt = 0 := rfl
        have el_0 : (0 : Int32).toInt = 0 := rfl
        have el_4 : (4 : Int32).toInt = 4 := rfl
        exact j_zret (pc := 44) C hr rfl hk (fun i => [].getD i 0, fun i => [0, (u_9.2.1 0), t_next, t_kind, t_place, t_number].getD i 0, fun i => [i_f].getD i (fun _ => 0), fun i => [].getD i (fun _ => 0)) rfl (show (0 ≤ ((0 : Int32)).toInt ∧ ((0 : Int32)).toInt ≤ 1) ∧ (0 ≤ (t_next).toInt ∧ (t_next).toInt ≤ 1000) ∧ (0 ≤ (t_kind).toInt ∧ (t_kind).toInt ≤ 4) ∧ (0 ≤ (t_place).toInt ∧ (t_place).toInt ≤ 1000) ∧ (Iv 4 (0) (8) i_f) ∧ (¬ (t_kind).toInt = 3 ∨ (t_place).toInt ≤ 999) ∧ (IM (((0 : Int32)).toInt = 1) ((i_f (p3).toInt.toNat).toInt = nb (TKS t_text (t_length).toInt.toNat) (t_place).toInt.toNat)) ∧ (∀ j : Nat, ¬ j = (p3).toInt.toNat → i_f j = i_f j) ∧ (TH t_text (t_length).toInt.toNat (t_next).toInt (t_kind).toInt (t_place).toInt (t_number).toInt) ∧ (CP ((0 : Int32)).toInt (t_place).toInt ((u_9.2.1 0)).toInt (r_fault).toInt (rNum (TKS t_text (t_length).toInt.toNat) 1 8 (t_place).toInt.toNat)) from ⟨by omega, h_t_next, h_t_kind, h_t_place, h_i_f, by omega, (fun h => absurd h (by decide)), (fun j hj => rfl), hTH, (CP.mv (CP.wr (k := 4) (by omega) (by omega) (by omega) (by omega)) (by have hn9 := hTH.num (by omega); unfold rNum; rw [if_pos (show ((TKS t_text (t_length).toInt.toNat) (t_place).toInt.toNat).1 = 2 from hTH.kind.trans (by omega)), if_neg (by omega)]))⟩) [2, 3, 0, 1] (by decide) rfl (by decide) (by decide) dX5_readNumber_44
  · skip
    have el_2 : (2 : Int32).toInt = 2 := rfl
    rw [i_eq] at c_1
    refine j_aload_n (pc := 11) C dX5_readNumber_11 rfl 0 rfl ?_
    refine j_iconst (pc := 12) (v := 1) C dX5_readNumber_12 (by decide) ?_
    refine j_callV (pc := 13) (As := [.int 1]) (rest := []) (wr := [(t1, .inl (cyC, 1000, .inl t_text)), (i1, .inl (cyI, 4, .inl i_f))]) C (c_X5_wrong l D cyC cyI cyJ cyZ cyO r0 t0 e0 r1 r2 a0 t1 1 r_habits r_fault t_length t_next t_kind t_place t_number h_t_length h_t_next h_t_kind h_t_place (by decide)) wd_305 wd_306 wd_307 wd_308 wd_309 ⟨by decide, by decide, rfl⟩ rfl ⟨rfl, rfl, by decide, by decide⟩ ⟨by decide, by decide⟩ [0, 1] [2, 3] rfl rfl ⟨by decide, by decide, by decide⟩ 0 rfl rfl rfl (Nat.le_of_ble_eq_true rfl) dX5_readNumber_13 (fun u_11 hw_12 => ?_)
    refine j_eq (ws2 := [(t1, .inl (cyC, 1000, .inl t_text)), (i1, .inl (cyI, 4, .inl i_f)), (r0, .inr (5, [.ref t0, .ref e0, .ref r1, .ref r2, .ref a0, .int r_habits, .int (u_11.2.1 0)])), (t0, .inr (8, [.ref t1, .int t_length, .int t_next, .int t_kind, .int t_place, .int t_number]))]) (pc2 := 16) (lv2 := [(0, .ref r0), (1, .int 1), (2, .int 8), (3, .ref i1), (4, .int p3)]) (st2 := [.int 0]) rfl rfl rfl rfl ?_
    have hw_12_0 : ((u_11.2.1 0)).toInt = ((1 : Int32)).toInt + 16 * (t_place).toInt := hw_12
    have el_0 : (0 : Int32).toInt = 0 := rfl
    have el_0 : (0 : Int32).toInt = 0 := rfl
    have el_0 : (0 : Int32).toInt = 0 := rfl
    have el_0 : (0 : Int32).toInt = 0 := rfl
    have el_0 : (0 : Int32).toInt = 0 := rfl
    have el_0 : (0 : Int32).toInt = 0 := rfl
    have el_1 : (1 : Int32).toInt = 1 := rfl
    exact j_zret (pc := 16) C hr rfl hk (fun i => [].getD i 0, fun i => [0, (u_11.2.1 0), t_next, t_kind, t_place, t_number].getD i 0, fun i => [i_f].getD i (fun _ => 0), fun i => [].getD i (fun _ => 0)) rfl (show (0 ≤ ((0 : Int32)).toInt ∧ ((0 : Int32)).toInt ≤ 1) ∧ (0 ≤ (t_next).toInt ∧ (t_next).toInt ≤ 1000) ∧ (0 ≤ (t_kind).toInt ∧ (t_kind).toInt ≤ 4) ∧ (0 ≤ (t_place).toInt ∧ (t_place).toInt ≤ 1000) ∧ (Iv 4 (0) (8) i_f) ∧ (¬ (t_kind).toInt = 3 ∨ (t_place).toInt ≤ 999) ∧ (IM (((0 : Int32)).toInt = 1) ((i_f (p3).toInt.toNat).toInt = nb (TKS t_text (t_length).toInt.toNat) (t_place).toInt.toNat)) ∧ (∀ j : Nat, ¬ j = (p3).toInt.toNat → i_f j = i_f j) ∧ (TH t_text (t_length).toInt.toNat (t_next).toInt (t_kind).toInt (t_place).toInt (t_number).toInt) ∧ (CP ((0 : Int32)).toInt (t_place).toInt ((u_11.2.1 0)).toInt (r_fault).toInt (rNum (TKS t_text (t_length).toInt.toNat) 1 8 (t_place).toInt.toNat)) from ⟨by omega, h_t_next, h_t_kind, h_t_place, h_i_f, by omega, (fun h => absurd h (by decide)), (fun j hj => rfl), hTH, (CP.mv (CP.wr (k := 1) (by omega) (by omega) (by omega) (by omega)) (by unfold rNum; rw [if_neg (show ¬ ((TKS t_text (t_length).toInt.toNat) (t_place).toInt.toNat).1 = 2 from (by have hk9 := hTH.kind; omega))]))⟩) [2, 3, 0, 1] (by decide) rfl (by decide) (by decide) dX5_readNumber_16
set_option maxHeartbeats 4000000 in
set_option maxRecDepth 100000 in
theorem c_X5_readNumber_4 (l : Launch) (D : DG) (cyC cyI cyJ cyZ cyO : ClassId) (r0 : Nat) (t0 : Nat) (t1 : Nat) (i1 : Nat) (e0 : Nat) (r1 : Nat) (r2 : Nat) (a0 : Nat) (p0 : Int32) (p1 : Int32) (p3 : Int32) (r_habits : Int32) (r_fault : Int32) (t_length : Int32) (t_next : Int32) (t_kind : Int32) (t_place : Int32) (t_number : Int32) (t_text : Nat → Int32) (i_f : Nat → Int32) (h_t_length : 0 ≤ (t_length).toInt ∧ (t_length).toInt ≤ 1000) (h_t_next : 0 ≤ (t_next).toInt ∧ (t_next).toInt ≤ 1000) (h_t_kind : 0 ≤ (t_kind).toInt ∧ (t_kind).toInt ≤ 4) (h_t_place : 0 ≤ (t_place).toInt ∧ (t_place).toInt ≤ 1000) (h_p3 : 0 ≤ (p3).toInt ∧ (p3).toInt ≤ 3) (h_t_text : Iv 1000 (0) (126) t_text) (ht3 : ¬ (t_kind).toInt = 3 ∨ (t_place).toInt ≤ 999) (hTH : TH t_text (t_length).toInt.toNat (t_next).toInt (t_kind).toInt (t_place).toInt (t_number).toInt) : KK l D (TY cyC cyI cyJ cyZ cyO) yX5_readNumber cX5_readNumber 5 (some .boolean) ({ frames := 5, cells := 0, slots := 0, locals := 113 } : Room) 0 0 [.ref r0, .int p0, .int p1, .ref i1, .int p3] [(r0, .inr (5, [.ref t0, .ref e0, .ref r1, .ref r2, .ref a0, .int r_habits, .int r_fault])), (t0, .inr (8, [.ref t1, .int t_length, .int t_next, .int t_kind, .int t_place, .int t_number])), (t1, .inl (cyC, 1000, .inl t_text)), (i1, .inl (cyI, 4, .inl i_f))] (fun u => some (.int (u.2.1 0))) (fun u => (0 ≤ (u.2.1 0).toInt ∧ (u.2.1 0).toInt ≤ 1) ∧ (0 ≤ (u.2.1 2).toInt ∧ (u.2.1 2).toInt ≤ 1000) ∧ (0 ≤ (u.2.1 3).toInt ∧ (u.2.1 3).toInt ≤ 4) ∧ (0 ≤ (u.2.1 4).toInt ∧ (u.2.1 4).toInt ≤ 1000) ∧ (¬ ((u.2.1 3)).toInt = 3 ∨ ((u.2.1 4)).toInt ≤ 999) ∧ (IM (((u.2.1 0)).toInt = 1) (((u.2.2.1 0) (p3).toInt.toNat).toInt = nb (TKS t_text (t_length).toInt.toNat) (t_place).toInt.toNat)) ∧ (∀ j : Nat, ¬ j = (p3).toInt.toNat → (u.2.2.1 0) j = i_f j) ∧ (TH t_text (t_length).toInt.toNat ((u.2.1 2)).toInt ((u.2.1 3)).toInt ((u.2.1 4)).toInt ((u.2.1 5)).toInt) ∧ (CP ((u.2.1 0)).toInt ((u.2.1 4)).toInt ((u.2.1 1)).toInt (r_fault).toInt (rNum (TKS t_text (t_length).toInt.toNat) (p0).toInt (p1).toInt (t_place).toInt.toNat))) (fun u => [(r0, .inr (5, [.ref t0, .ref e0, .ref r1, .ref r2, .ref a0, .int r_habits, .int (u.2.1 1)])), (t0, .inr (8, [.ref t1, .int t_length, .int (u.2.1 2), .int (u.2.1 3), .int (u.2.1 4), .int (u.2.1 5)])), (t1, .inl (cyC, 1000, .inl t_text)), (i1, .inl (cyI, 4, .inl (u.2.2.1 0)))]) := by
  refine KK.of (lv0 := [(0, .ref r0), (1, .int p0), (2, .int p1), (3, .ref i1), (4, .int p3)]) (by decide) rfl (Nat.le_of_ble_eq_true rfl) ?_
  intro p e s m args below meth c A C hr hk hin
  refine j_aload_n (pc := 0) C dX5_readNumber_0 rfl 0 rfl ?_
  refine j_get (pc := 1) (ci := 5) (v := .ref t0) C inw_5 0 rfl rfl 0 (by decide) wd_296 rfl rfl dX5_readNumber_1 ?_
  refine j_get (pc := 4) (ci := 8) (v := .int t_kind) C inw_8 1 rfl rfl 3 (by decide) wd_310 rfl rfl dX5_readNumber_4 ?_
  refine j_iconst (pc := 7) (v := 2) C dX5_readNumber_7 (by decide) ?_
  refine j_icmp_eq (pc := 8) (tgt := 17) C dX5_readNumber_8 (by decide) (fun c_1 => ?_) (fun c_1 => ?_)
  · skip
    have el_2 : (2 : Int32).toInt = 2 := rfl
    rw [i_eq] at c_1
    refine j_aload_n (pc := 17) C dX5_readNumber_17 rfl 0 rfl ?_
    refine j_get (pc := 18) (ci := 5) (v := .ref t0) C inw_5 0 rfl rfl 0 (by decide) wd_296 rfl rfl dX5_readNumber_18 ?_
    refine j_get (pc := 21) (ci := 8) (v := .int t_number) C inw_8 1 rfl rfl 5 (by decide) wd_311 rfl rfl dX5_readNumber_21 ?_
    refine j_iload_n (pc := 24) C dX5_readNumber_24 rfl 1 rfl ?_
    refine j_icmp_lt (pc := 25) (tgt := 39) C dX5_readNumber_25 (by decide) (fun c_2 => ?_) (fun c_2 => ?_)
    · skip
      rw [i_lt] at c_2
      refine j_aload_n (pc := 39) C dX5_readNumber_39 rfl 0 rfl ?_
      refine j_iconst (pc := 40) (v := 4) C dX5_readNumber_40 (by decide) ?_
      refine j_callV (pc := 41) (As := [.int 4]) (rest := []) (wr := [(t1, .inl (cyC, 1000, .inl t_text)), (i1, .inl (cyI, 4, .inl i_f))]) C (c_X5_wrong l D cyC cyI cyJ cyZ cyO r0 t0 e0 r1 r2 a0 t1 4 r_habits r_fault t_length t_next t_kind t_place t_number h_t_length h_t_next h_t_kind h_t_place (by decide)) wd_305 wd_306 wd_307 wd_308 wd_309 ⟨by decide, by decide, rfl⟩ rfl ⟨rfl, rfl, by decide, by decide⟩ ⟨by decide, by decide⟩ [0, 1] [2, 3] rfl rfl ⟨by decide, by decide, by decide⟩ 0 rfl rfl rfl (Nat.le_of_ble_eq_true rfl) dX5_readNumber_41 (fun u_3 hw_4 => ?_)
      refine j_eq (ws2 := [(t1, .inl (cyC, 1000, .inl t_text)), (i1, .inl (cyI, 4, .inl i_f)), (r0, .inr (5, [.ref t0, .ref e0, .ref r1, .ref r2, .ref a0, .int r_habits, .int (u_3.2.1 0)])), (t0, .inr (8, [.ref t1, .int t_length, .int t_next, .int t_kind, .int t_place, .int t_number]))]) (pc2 := 44) (lv2 := [(0, .ref r0), (1, .int p0), (2, .int p1), (3, .ref i1), (4, .int p3)]) (st2 := [.int 0]) rfl rfl rfl rfl ?_
      have hw_4_0 : ((u_3.2.1 0)).toInt = ((4 : Int32)).toInt + 16 * (t_place).toInt := hw_4
      have el_0 : (0 : Int32).toInt = 0 := rfl
      have el_0 : (0 : Int32).toInt = 0 := rfl
      have el_0 : (0 : Int32).toInt = 0 := rfl
      have el_0 : (0 : Int32).toInt = 0 := rfl
      have el_0 : (0 : Int32).toInt = 0 := rfl
      have el_0 : (0 : Int32).toInt = 0 := rfl
      have el_4 : (4 : Int32).toInt = 4 := rfl
      exact j_zret (pc := 44) C hr rfl hk (fun i => [].getD i 0, fun i => [0, (u_3.2.1 0), t_next, t_kind, t_place, t_number].getD i 0, fun i => [i_f].getD i (fun _ => 0), fun i => [].getD i (fun _ => 0)) rfl (show (0 ≤ ((0 : Int32)).toInt ∧ ((0 : Int32)).toInt ≤ 1) ∧ (0 ≤ (t_next).toInt ∧ (t_next).toInt ≤ 1000) ∧ (0 ≤ (t_kind).toInt ∧ (t_kind).toInt ≤ 4) ∧ (0 ≤ (t_place).toInt ∧ (t_place).toInt ≤ 1000) ∧ (¬ (t_kind).toInt = 3 ∨ (t_place).toInt ≤ 999) ∧ (IM (((0 : Int32)).toInt = 1) ((i_f (p3).toInt.toNat).toInt = nb (TKS t_text (t_length).toInt.toNat) (t_place).toInt.toNat)) ∧ (∀ j : Nat, ¬ j = (p3).toInt.toNat → i_f j = i_f j) ∧ (TH t_text (t_length).toInt.toNat (t_next).toInt (t_kind).toInt (t_place).toInt (t_number).toInt) ∧ (CP ((0 : Int32)).toInt (t_place).toInt ((u_3.2.1 0)).toInt (r_fault).toInt (rNum (TKS t_text (t_length).toInt.toNat) (p0).toInt (p1).toInt (t_place).toInt.toNat)) from ⟨by omega, h_t_next, h_t_kind, h_t_place, by omega, (fun h => absurd h (by decide)), (fun j hj => rfl), hTH, (CP.mv (CP.wr (k := 4) (by omega) (by omega) (by omega) (by omega)) (by have hn9 := hTH.num (by omega); unfold rNum; rw [if_pos (show ((TKS t_text (t_length).toInt.toNat) (t_place).toInt.toNat).1 = 2 from hTH.kind.trans (by omega)), if_neg (by omega)]))⟩) [2, 3, 0, 1] (by decide) rfl (by decide) (by decide) dX5_readNumber_44
    · skip
      rw [i_lt] at c_2
      refine j_aload_n (pc := 28) C dX5_readNumber_28 rfl 0 rfl ?_
      refine j_get (pc := 29) (ci := 5) (v := .ref t0) C inw_5 0 rfl rfl 0 (by decide) wd_296 rfl rfl dX5_readNumber_29 ?_
      refine j_get (pc := 32) (ci := 8) (v := .int t_number) C inw_8 1 rfl rfl 5 (by decide) wd_311 rfl rfl dX5_readNumber_32 ?_
      refine j_iload_n (pc := 35) C dX5_readNumber_35 rfl 2 rfl ?_
      refine j_icmp_le (pc := 36) (tgt := 45) C dX5_readNumber_36 (by decide) (fun c_5 => ?_) (fun c_5 => ?_)
      · skip
        rw [i_le] at c_5
        refine j_aload_n (pc := 45) C dX5_readNumber_45 rfl 3 rfl ?_
        refine j_iload (pc := 46) C dX5_readNumber_46 4 rfl ?_
        refine j_aload_n (pc := 48) C dX5_readNumber_48 rfl 0 rfl ?_
        refine j_get (pc := 49) (ci := 5) (v := .ref t0) C inw_5 0 rfl rfl 0 (by decide) wd_296 rfl rfl dX5_readNumber_49 ?_
        refine j_get (pc := 52) (ci := 8) (v := .int t_number) C inw_8 1 rfl rfl 5 (by decide) wd_311 rfl rfl dX5_readNumber_52 ?_
        obtain ⟨f_6, ef_6⟩ : ∃ z, z = upd i_f (p3).toInt.toNat t_number := ⟨_, rfl⟩
        refine j_iast (pc := 55) (k := (p3).toInt.toNat) (ws' := [(r0, .inr (5, [.ref t0, .ref e0, .ref r1, .ref r2, .ref a0, .int r_habits, .int r_fault])), (t0, .inr (8, [.ref t1, .int t_length, .int t_next, .int t_kind, .int t_place, .int t_number])), (t1, .inl (cyC, 1000, .inl t_text)), (i1, .inl (cyI, 4, .inl f_6))]) C 3 1 rfl rfl (i_nn h_p3.1) rfl (i_lt_n h_p3.1 (Int.lt_of_le_of_lt h_p3.2 (by decide))) dX5_readNumber_55 (by rw [ef_6]; rfl) ?_
        refine j_aload_n (pc := 56) C dX5_readNumber_56 rfl 0 rfl ?_
        refine j_get (pc := 57) (ci := 5) (v := .ref t0) C inw_5 0 rfl rfl 0 (by decide) wd_296 rfl rfl dX5_readNumber_57 ?_
        refine j_callV (pc := 60) (As := []) (rest := []) (wr := [(r0, .inr (5, [.ref t0, .ref e0, .ref r1, .ref r2, .ref a0, .int r_habits, .int r_fault])), (i1, .inl (cyI, 4, .inl f_6))]) C (c_X8_advance_f l D cyC cyI cyJ cyZ cyO t0 t1 t_length t_next t_kind t_place t_number t_text h_t_length h_t_next h_t_kind h_t_place h_t_text) wd_277 wd_258 wd_304 wd_279 wd_280 ⟨by decide, by decide, rfl⟩ rfl ⟨rfl, rfl, by decide, by decide⟩ ⟨by decide, by decide⟩ [1, 2] [0, 3] rfl rfl ⟨by decide, by decide, by decide⟩ 1 rfl rfl rfl (Nat.le_of_ble_eq_true rfl) dX5_readNumber_60 (fun u_7 hw_8 => ?_)
        refine j_eq (ws2 := [(r0, .inr (5, [.ref t0, .ref e0, .ref r1, .ref r2, .ref a0, .int r_habits, .int r_fault])), (i1, .inl (cyI, 4, .inl f_6)), (t0, .inr (8, [.ref t1, .int t_length, .int (u_7.2.1 0), .int (u_7.2.1 1), .int (u_7.2.1 2), .int (u_7.2.1 3)])), (t1, .inl (cyC, 1000, .inl t_text))]) (pc2 := 63) (lv2 := [(0, .ref r0), (1, .int p0), (2, .int p1), (3, .ref i1), (4, .int p3)]) (st2 := []) rfl rfl rfl rfl ?_
        obtain ⟨hw_8_0, hw_8_1, hw_8_2, hw_8_3, hw_8_4, hw_8_5⟩ := hw_8
        have ha_u_7 := (hw_8_5).trans (TH.adv hTH)
        refine j_iconst (pc := 63) (v := 1) C dX5_readNumber_63 (by decide) ?_
        have el_1 : (1 : Int32).toInt = 1 := rfl
        have el_1 : (1 : Int32).toInt = 1 := rfl
        have el_1 : (1 : Int32).toInt = 1 := rfl
        have el_1 : (1 : Int32).toInt = 1 := rfl
        have el_1 : (1 : Int32).toInt = 1 := rfl
        have el_1 : (1 : Int32).toInt = 1 := rfl
        exact j_zret (pc := 64) C hr rfl hk (fun i => [].getD i 0, fun i => [1, r_fault, (u_7.2.1 0), (u_7.2.1 1), (u_7.2.1 2), (u_7.2.1 3)].getD i 0, fun i => [f_6].getD i (fun _ => 0), fun i => [].getD i (fun _ => 0)) rfl (show (0 ≤ ((1 : Int32)).toInt ∧ ((1 : Int32)).toInt ≤ 1) ∧ (0 ≤ ((u_7.2.1 0)).toInt ∧ ((u_7.2.1 0)).toInt ≤ 1000) ∧ (0 ≤ ((u_7.2.1 1)).toInt ∧ ((u_7.2.1 1)).toInt ≤ 4) ∧ (0 ≤ ((u_7.2.1 2)).toInt ∧ ((u_7.2.1 2)).toInt ≤ 1000) ∧ (¬ ((u_7.2.1 1)).toInt = 3 ∨ ((u_7.2.1 2)).toInt ≤ 999) ∧ (IM (((1 : Int32)).toInt = 1) ((f_6 (p3).toInt.toNat).toInt = nb (TKS t_text (t_length).toInt.toNat) (t_place).toInt.toNat)) ∧ (∀ j : Nat, ¬ j = (p3).toInt.toNat → f_6 j = i_f j) ∧ (TH t_text (t_length).toInt.toNat ((u_7.2.1 0)).toInt ((u_7.2.1 1)).toInt ((u_7.2.1 2)).toInt ((u_7.2.1 3)).toInt) ∧ (CP ((1 : Int32)).toInt ((u_7.2.1 2)).toInt (r_fault).toInt (r_fault).toInt (rNum (TKS t_text (t_length).toInt.toNat) (p0).toInt (p1).toInt (t_place).toInt.toNat)) from ⟨by omega, hw_8_0, hw_8_1, hw_8_2, by omega, (fun _ => by rw [ef_6, pk_us]; exact (hTH.num (by omega)).symm), (fun j hj => by rw [ef_6]; exact pk_un hj), hw_8_4, (CP.ok (by omega) (by omega) (by have hn9 := hTH.num (by omega); unfold rNum; rw [if_pos (show ((TKS t_text (t_length).toInt.toNat) (t_place).toInt.toNat).1 = 2 from hTH.kind.trans (by omega)), if_pos (by omega), ← ha_u_7]))⟩) [0, 2, 3, 1] (by decide) rfl (by decide) (by decide) dX5_readNumber_64
      · skip
        rw [i_le] at c_5
        refine j_aload_n (pc := 39) C dX5_readNumber_39 rfl 0 rfl ?_
        refine j_iconst (pc := 40) (v := 4) C dX5_readNumber_40 (by decide) ?_
        refine j_callV (pc := 41) (As := [.int 4]) (rest := []) (wr := [(t1, .inl (cyC, 1000, .inl t_text)), (i1, .inl (cyI, 4, .inl i_f))]) C (c_X5_wrong l D cyC cyI cyJ cyZ cyO r0 t0 e0 r1 r2 a0 t1 4 r_habits r_fault t_length t_next t_kind t_place t_number h_t_length h_t_next h_t_kind h_t_place (by decide)) wd_305 wd_306 wd_307 wd_308 wd_309 ⟨by decide, by decide, rfl⟩ rfl ⟨rfl, rfl, by decide, by decide⟩ ⟨by decide, by decide⟩ [0, 1] [2, 3] rfl rfl ⟨by decide, by decide, by decide⟩ 0 rfl rfl rfl (Nat.le_of_ble_eq_true rfl) dX5_readNumber_41 (fun u_9 hw_10 => ?_)
        refine j_eq (ws2 := [(t1, .inl (cyC, 1000, .inl t_text)), (i1, .inl (cyI, 4, .inl i_f)), (r0, .inr (5, [.ref t0, .ref e0, .ref r1, .ref r2, .ref a0, .int r_habits, .int (u_9.2.1 0)])), (t0, .inr (8, [.ref t1, .int t_length, .int t_next, .int t_kind, .int t_place, .int t_number]))]) (pc2 := 44) (lv2 := [(0, .ref r0), (1, .int p0), (2, .int p1), (3, .ref i1), (4, .int p3)]) (st2 := [.int 0]) rfl rfl rfl rfl ?_
        have hw_10_0 : ((u_9.2.1 0)).toInt = ((4 : Int32)).toInt + 16 * (t_place).toInt := hw_10
        have el_0 : (0 : Int32).toInt = 0 := rfl
        have el_0 : (0 : Int32).toInt = 0 := rfl
        have el_0 : (0 : Int32).toInt = 0 := rfl
        have el_0 : (0 : Int32).toInt = 0 := rfl
        have el_0 : (0 : Int32).toInt = 0 := rfl
        have el_0 : (0 : Int32).toInt = 0 := rfl
        have el_4 : (4 : Int32).toInt = 4 := rfl
        exact j_zret (pc := 44) C hr rfl hk (fun i => [].getD i 0, fun i => [0, (u_9.2.1 0), t_next, t_kind, t_place, t_number].getD i 0, fun i => [i_f].getD i (fun _ => 0), fun i => [].getD i (fun _ => 0)) rfl (show (0 ≤ ((0 : Int32)).toInt ∧ ((0 : Int32)).toInt ≤ 1) ∧ (0 ≤ (t_next).toInt ∧ (t_next).toInt ≤ 1000) ∧ (0 ≤ (t_kind).toInt ∧ (t_kind).toInt ≤ 4) ∧ (0 ≤ (t_place).toInt ∧ (t_place).toInt ≤ 1000) ∧ (¬ (t_kind).toInt = 3 ∨ (t_place).toInt ≤ 999) ∧ (IM (((0 : Int32)).toInt = 1) ((i_f (p3).toInt.toNat).toInt = nb (TKS t_text (t_length).toInt.toNat) (t_place).toInt.toNat)) ∧ (∀ j : Nat, ¬ j = (p3).toInt.toNat → i_f j = i_f j) ∧ (TH t_text (t_length).toInt.toNat (t_next).toInt (t_kind).toInt (t_place).toInt (t_number).toInt) ∧ (CP ((0 : Int32)).toInt (t_place).toInt ((u_9.2.1 0)).toInt (r_fault).toInt (rNum (TKS t_text (t_length).toInt.toNat) (p0).toInt (p1).toInt (t_place).toInt.toNat)) from ⟨by omega, h_t_next, h_t_kind, h_t_place, by omega, (fun h => absurd h (by decide)), (fun j hj => rfl), hTH, (CP.mv (CP.wr (k := 4) (by omega) (by omega) (by omega) (by omega)) (by have hn9 := hTH.num (by omega); unfold rNum; rw [if_pos (show ((TKS t_text (t_length).toInt.toNat) (t_place).toInt.toNat).1 = 2 from hTH.kind.trans (by omega)), if_neg (by omega)]))⟩) [2, 3, 0, 1] (by decide) rfl (by decide) (by decide) dX5_readNumber_44
  · skip
    have el_2 : (2 : Int32).toInt = 2 := rfl
    rw [i_eq] at c_1
    refine j_aload_n (pc := 11) C dX5_readNumber_11 rfl 0 rfl ?_
    refine j_iconst (pc := 12) (v := 1) C dX5_readNumber_12 (by decide) ?_
    refine j_callV (pc := 13) (As := [.int 1]) (rest := []) (wr := [(t1, .inl (cyC, 1000, .inl t_text)), (i1, .inl (cyI, 4, .inl i_f))]) C (c_X5_wrong l D cyC cyI cyJ cyZ cyO r0 t0 e0 r1 r2 a0 t1 1 r_habits r_fault t_length t_next t_kind t_place t_number h_t_length h_t_next h_t_kind h_t_place (by decide)) wd_305 wd_306 wd_307 wd_308 wd_309 ⟨by decide, by decide, rfl⟩ rfl ⟨rfl, rfl, by decide, by decide⟩ ⟨by decide, by decide⟩ [0, 1] [2, 3] rfl rfl ⟨by decide, by decide, by decide⟩ 0 rfl rfl rfl (Nat.le_of_ble_eq_true rfl) dX5_readNumber_13 (fun u_11 hw_12 => ?_)
    refine j_eq (ws2 := [(t1, .inl (cyC, 1000, .inl t_text)), (i1, .inl (cyI, 4, .inl i_f)), (r0, .inr (5, [.ref t0, .ref e0, .ref r1, .ref r2, .ref a0, .int r_habits, .int (u_11.2.1 0)])), (t0, .inr (8, [.ref t1, .int t_length, .int t_next, .int t_kind, .int t_place, .int t_number]))]) (pc2 := 16) (lv2 := [(0, .ref r0), (1, .int p0), (2, .int p1), (3, .ref i1), (4, .int p3)]) (st2 := [.int 0]) rfl rfl rfl rfl ?_
    have hw_12_0 : ((u_11.2.1 0)).toInt = ((1 : Int32)).toInt + 16 * (t_place).toInt := hw_12
    have el_0 : (0 : Int32).toInt = 0 := rfl
    have el_0 : (0 : Int32).toInt = 0 := rfl
    have el_0 : (0 : Int32).toInt = 0 := rfl
    have el_0 : (0 : Int32).toInt = 0 := rfl
    have el_0 : (0 : Int32).toInt = 0 := rfl
    have el_0 : (0 : Int32).toInt = 0 := rfl
    have el_1 : (1 : Int32).toInt = 1 := rfl
    exact j_zret (pc := 16) C hr rfl hk (fun i => [].getD i 0, fun i => [0, (u_11.2.1 0), t_next, t_kind, t_place, t_number].getD i 0, fun i => [i_f].getD i (fun _ => 0), fun i => [].getD i (fun _ => 0)) rfl (show (0 ≤ ((0 : Int32)).toInt ∧ ((0 : Int32)).toInt ≤ 1) ∧ (0 ≤ (t_next).toInt ∧ (t_next).toInt ≤ 1000) ∧ (0 ≤ (t_kind).toInt ∧ (t_kind).toInt ≤ 4) ∧ (0 ≤ (t_place).toInt ∧ (t_place).toInt ≤ 1000) ∧ (¬ (t_kind).toInt = 3 ∨ (t_place).toInt ≤ 999) ∧ (IM (((0 : Int32)).toInt = 1) ((i_f (p3).toInt.toNat).toInt = nb (TKS t_text (t_length).toInt.toNat) (t_place).toInt.toNat)) ∧ (∀ j : Nat, ¬ j = (p3).toInt.toNat → i_f j = i_f j) ∧ (TH t_text (t_length).toInt.toNat (t_next).toInt (t_kind).toInt (t_place).toInt (t_number).toInt) ∧ (CP ((0 : Int32)).toInt (t_place).toInt ((u_11.2.1 0)).toInt (r_fault).toInt (rNum (TKS t_text (t_length).toInt.toNat) (p0).toInt (p1).toInt (t_place).toInt.toNat)) from ⟨by omega, h_t_next, h_t_kind, h_t_place, by omega, (fun h => absurd h (by decide)), (fun j hj => rfl), hTH, (CP.mv (CP.wr (k := 1) (by omega) (by omega) (by omega) (by omega)) (by unfold rNum; rw [if_neg (show ¬ ((TKS t_text (t_length).toInt.toNat) (t_place).toInt.toNat).1 = 2 from (by have hk9 := hTH.kind; omega))]))⟩) [2, 3, 0, 1] (by decide) rfl (by decide) (by decide) dX5_readNumber_16
set_option maxHeartbeats 4000000 in
set_option maxRecDepth 100000 in
theorem c_X5_readNumber_12 (l : Launch) (D : DG) (cyC cyI cyJ cyZ cyO : ClassId) (r0 : Nat) (t0 : Nat) (t1 : Nat) (i1 : Nat) (e0 : Nat) (r1 : Nat) (r2 : Nat) (a0 : Nat) (p0 : Int32) (p1 : Int32) (p3 : Int32) (r_habits : Int32) (r_fault : Int32) (t_length : Int32) (t_next : Int32) (t_kind : Int32) (t_place : Int32) (t_number : Int32) (t_text : Nat → Int32) (i_f : Nat → Int32) (h_t_length : 0 ≤ (t_length).toInt ∧ (t_length).toInt ≤ 1000) (h_t_next : 0 ≤ (t_next).toInt ∧ (t_next).toInt ≤ 1000) (h_t_kind : 0 ≤ (t_kind).toInt ∧ (t_kind).toInt ≤ 4) (h_t_place : 0 ≤ (t_place).toInt ∧ (t_place).toInt ≤ 1000) (h_p3 : 0 ≤ (p3).toInt ∧ (p3).toInt ≤ 11) (h_t_text : Iv 1000 (0) (126) t_text) (ht3 : ¬ (t_kind).toInt = 3 ∨ (t_place).toInt ≤ 999) (hTH : TH t_text (t_length).toInt.toNat (t_next).toInt (t_kind).toInt (t_place).toInt (t_number).toInt) : KK l D (TY cyC cyI cyJ cyZ cyO) yX5_readNumber cX5_readNumber 5 (some .boolean) ({ frames := 5, cells := 0, slots := 0, locals := 113 } : Room) 0 0 [.ref r0, .int p0, .int p1, .ref i1, .int p3] [(r0, .inr (5, [.ref t0, .ref e0, .ref r1, .ref r2, .ref a0, .int r_habits, .int r_fault])), (t0, .inr (8, [.ref t1, .int t_length, .int t_next, .int t_kind, .int t_place, .int t_number])), (t1, .inl (cyC, 1000, .inl t_text)), (i1, .inl (cyI, 12, .inl i_f))] (fun u => some (.int (u.2.1 0))) (fun u => (0 ≤ (u.2.1 0).toInt ∧ (u.2.1 0).toInt ≤ 1) ∧ (0 ≤ (u.2.1 2).toInt ∧ (u.2.1 2).toInt ≤ 1000) ∧ (0 ≤ (u.2.1 3).toInt ∧ (u.2.1 3).toInt ≤ 4) ∧ (0 ≤ (u.2.1 4).toInt ∧ (u.2.1 4).toInt ≤ 1000) ∧ (¬ ((u.2.1 3)).toInt = 3 ∨ ((u.2.1 4)).toInt ≤ 999) ∧ (IM (((u.2.1 0)).toInt = 1) (((u.2.2.1 0) (p3).toInt.toNat).toInt = nb (TKS t_text (t_length).toInt.toNat) (t_place).toInt.toNat)) ∧ (∀ j : Nat, ¬ j = (p3).toInt.toNat → (u.2.2.1 0) j = i_f j) ∧ (TH t_text (t_length).toInt.toNat ((u.2.1 2)).toInt ((u.2.1 3)).toInt ((u.2.1 4)).toInt ((u.2.1 5)).toInt) ∧ (CP ((u.2.1 0)).toInt ((u.2.1 4)).toInt ((u.2.1 1)).toInt (r_fault).toInt (rNum (TKS t_text (t_length).toInt.toNat) (p0).toInt (p1).toInt (t_place).toInt.toNat))) (fun u => [(r0, .inr (5, [.ref t0, .ref e0, .ref r1, .ref r2, .ref a0, .int r_habits, .int (u.2.1 1)])), (t0, .inr (8, [.ref t1, .int t_length, .int (u.2.1 2), .int (u.2.1 3), .int (u.2.1 4), .int (u.2.1 5)])), (t1, .inl (cyC, 1000, .inl t_text)), (i1, .inl (cyI, 12, .inl (u.2.2.1 0)))]) := by
  refine KK.of (lv0 := [(0, .ref r0), (1, .int p0), (2, .int p1), (3, .ref i1), (4, .int p3)]) (by decide) rfl (Nat.le_of_ble_eq_true rfl) ?_
  intro p e s m args below meth c A C hr hk hin
  refine j_aload_n (pc := 0) C dX5_readNumber_0 rfl 0 rfl ?_
  refine j_get (pc := 1) (ci := 5) (v := .ref t0) C inw_5 0 rfl rfl 0 (by decide) wd_296 rfl rfl dX5_readNumber_1 ?_
  refine j_get (pc := 4) (ci := 8) (v := .int t_kind) C inw_8 1 rfl rfl 3 (by decide) wd_310 rfl rfl dX5_readNumber_4 ?_
  refine j_iconst (pc := 7) (v := 2) C dX5_readNumber_7 (by decide) ?_
  refine j_icmp_eq (pc := 8) (tgt := 17) C dX5_readNumber_8 (by decide) (fun c_1 => ?_) (fun c_1 => ?_)
  · skip
    have el_2 : (2 : Int32).toInt = 2 := rfl
    rw [i_eq] at c_1
    refine j_aload_n (pc := 17) C dX5_readNumber_17 rfl 0 rfl ?_
    refine j_get (pc := 18) (ci := 5) (v := .ref t0) C inw_5 0 rfl rfl 0 (by decide) wd_296 rfl rfl dX5_readNumber_18 ?_
    refine j_get (pc := 21) (ci := 8) (v := .int t_number) C inw_8 1 rfl rfl 5 (by decide) wd_311 rfl rfl dX5_readNumber_21 ?_
    refine j_iload_n (pc := 24) C dX5_readNumber_24 rfl 1 rfl ?_
    refine j_icmp_lt (pc := 25) (tgt := 39) C dX5_readNumber_25 (by decide) (fun c_2 => ?_) (fun c_2 => ?_)
    · skip
      rw [i_lt] at c_2
      refine j_aload_n (pc := 39) C dX5_readNumber_39 rfl 0 rfl ?_
      refine j_iconst (pc := 40) (v := 4) C dX5_readNumber_40 (by decide) ?_
      refine j_callV (pc := 41) (As := [.int 4]) (rest := []) (wr := [(t1, .inl (cyC, 1000, .inl t_text)), (i1, .inl (cyI, 12, .inl i_f))]) C (c_X5_wrong l D cyC cyI cyJ cyZ cyO r0 t0 e0 r1 r2 a0 t1 4 r_habits r_fault t_length t_next t_kind t_place t_number h_t_length h_t_next h_t_kind h_t_place (by decide)) wd_305 wd_306 wd_307 wd_308 wd_309 ⟨by decide, by decide, rfl⟩ rfl ⟨rfl, rfl, by decide, by decide⟩ ⟨by decide, by decide⟩ [0, 1] [2, 3] rfl rfl ⟨by decide, by decide, by decide⟩ 0 rfl rfl rfl (Nat.le_of_ble_eq_true rfl) dX5_readNumber_41 (fun u_3 hw_4 => ?_)
      refine j_eq (ws2 := [(t1, .inl (cyC, 1000, .inl t_text)), (i1, .inl (cyI, 12, .inl i_f)), (r0, .inr (5, [.ref t0, .ref e0, .ref r1, .ref r2, .ref a0, .int r_habits, .int (u_3.2.1 0)])), (t0, .inr (8, [.ref t1, .int t_length, .int t_next, .int t_kind, .int t_place, .int t_number]))]) (pc2 := 44) (lv2 := [(0, .ref r0), (1, .int p0), (2, .int p1), (3, .ref i1), (4, .int p3)]) (st2 := [.int 0]) rfl rfl rfl rfl ?_
      have hw_4_0 : ((u_3.2.1 0)).toInt = ((4 : Int32)).toInt + 16 * (t_place).toInt := hw_4
      have el_0 : (0 : Int32).toInt = 0 := rfl
      have el_0 : (0 : Int32).toInt = 0 := rfl
      have el_0 : (0 : Int32).toInt = 0 := rfl
      have el_0 : (0 : Int32).toInt = 0 := rfl
      have el_0 : (0 : Int32).toInt = 0 := rfl
      have el_0 : (0 : Int32).toInt = 0 := rfl
      have el_4 : (4 : Int32).toInt = 4 := rfl
      exact j_zret (pc := 44) C hr rfl hk (fun i => [].getD i 0, fun i => [0, (u_3.2.1 0), t_next, t_kind, t_place, t_number].getD i 0, fun i => [i_f].getD i (fun _ => 0), fun i => [].getD i (fun _ => 0)) rfl (show (0 ≤ ((0 : Int32)).toInt ∧ ((0 : Int32)).toInt ≤ 1) ∧ (0 ≤ (t_next).toInt ∧ (t_next).toInt ≤ 1000) ∧ (0 ≤ (t_kind).toInt ∧ (t_kind).toInt ≤ 4) ∧ (0 ≤ (t_place).toInt ∧ (t_place).toInt ≤ 1000) ∧ (¬ (t_kind).toInt = 3 ∨ (t_place).toInt ≤ 999) ∧ (IM (((0 : Int32)).toInt = 1) ((i_f (p3).toInt.toNat).toInt = nb (TKS t_text (t_length).toInt.toNat) (t_place).toInt.toNat)) ∧ (∀ j : Nat, ¬ j = (p3).toInt.toNat → i_f j = i_f j) ∧ (TH t_text (t_length).toInt.toNat (t_next).toInt (t_kind).toInt (t_place).toInt (t_number).toInt) ∧ (CP ((0 : Int32)).toInt (t_place).toInt ((u_3.2.1 0)).toInt (r_fault).toInt (rNum (TKS t_text (t_length).toInt.toNat) (p0).toInt (p1).toInt (t_place).toInt.toNat)) from ⟨by omega, h_t_next, h_t_kind, h_t_place, by omega, (fun h => absurd h (by decide)), (fun j hj => rfl), hTH, (CP.mv (CP.wr (k := 4) (by omega) (by omega) (by omega) (by omega)) (by have hn9 := hTH.num (by omega); unfold rNum; rw [if_pos (show ((TKS t_text (t_length).toInt.toNat) (t_place).toInt.toNat).1 = 2 from hTH.kind.trans (by omega)), if_neg (by omega)]))⟩) [2, 3, 0, 1] (by decide) rfl (by decide) (by decide) dX5_readNumber_44
    · skip
      rw [i_lt] at c_2
      refine j_aload_n (pc := 28) C dX5_readNumber_28 rfl 0 rfl ?_
      refine j_get (pc := 29) (ci := 5) (v := .ref t0) C inw_5 0 rfl rfl 0 (by decide) wd_296 rfl rfl dX5_readNumber_29 ?_
      refine j_get (pc := 32) (ci := 8) (v := .int t_number) C inw_8 1 rfl rfl 5 (by decide) wd_311 rfl rfl dX5_readNumber_32 ?_
      refine j_iload_n (pc := 35) C dX5_readNumber_35 rfl 2 rfl ?_
      refine j_icmp_le (pc := 36) (tgt := 45) C dX5_readNumber_36 (by decide) (fun c_5 => ?_) (fun c_5 => ?_)
      · skip
        rw [i_le] at c_5
        refine j_aload_n (pc := 45) C dX5_readNumber_45 rfl 3 rfl ?_
        refine j_iload (pc := 46) C dX5_readNumber_46 4 rfl ?_
        refine j_aload_n (pc := 48) C dX5_readNumber_48 rfl 0 rfl ?_
        refine j_get (pc := 49) (ci := 5) (v := .ref t0) C inw_5 0 rfl rfl 0 (by decide) wd_296 rfl rfl dX5_readNumber_49 ?_
        refine j_get (pc := 52) (ci := 8) (v := .int t_number) C inw_8 1 rfl rfl 5 (by decide) wd_311 rfl rfl dX5_readNumber_52 ?_
        obtain ⟨f_6, ef_6⟩ : ∃ z, z = upd i_f (p3).toInt.toNat t_number := ⟨_, rfl⟩
        refine j_iast (pc := 55) (k := (p3).toInt.toNat) (ws' := [(r0, .inr (5, [.ref t0, .ref e0, .ref r1, .ref r2, .ref a0, .int r_habits, .int r_fault])), (t0, .inr (8, [.ref t1, .int t_length, .int t_next, .int t_kind, .int t_place, .int t_number])), (t1, .inl (cyC, 1000, .inl t_text)), (i1, .inl (cyI, 12, .inl f_6))]) C 3 1 rfl rfl (i_nn h_p3.1) rfl (i_lt_n h_p3.1 (Int.lt_of_le_of_lt h_p3.2 (by decide))) dX5_readNumber_55 (by rw [ef_6]; rfl) ?_
        refine j_aload_n (pc := 56) C dX5_readNumber_56 rfl 0 rfl ?_
        refine j_get (pc := 57) (ci := 5) (v := .ref t0) C inw_5 0 rfl rfl 0 (by decide) wd_296 rfl rfl dX5_readNumber_57 ?_
        refine j_callV (pc := 60) (As := []) (rest := []) (wr := [(r0, .inr (5, [.ref t0, .ref e0, .ref r1, .ref r2, .ref a0, .int r_habits, .int r_fault])), (i1, .inl (cyI, 12, .inl f_6))]) C (c_X8_advance_f l D cyC cyI cyJ cyZ cyO t0 t1 t_length t_next t_kind t_place t_number t_text h_t_length h_t_next h_t_kind h_t_place h_t_text) wd_277 wd_258 wd_304 wd_279 wd_280 ⟨by decide, by decide, rfl⟩ rfl ⟨rfl, rfl, by decide, by decide⟩ ⟨by decide, by decide⟩ [1, 2] [0, 3] rfl rfl ⟨by decide, by decide, by decide⟩ 1 rfl rfl rfl (Nat.le_of_ble_eq_true rfl) dX5_readNumber_60 (fun u_7 hw_8 => ?_)
        refine j_eq (ws2 := [(r0, .inr (5, [.ref t0, .ref e0, .ref r1, .ref r2, .ref a0, .int r_habits, .int r_fault])), (i1, .inl (cyI, 12, .inl f_6)), (t0, .inr (8, [.ref t1, .int t_length, .int (u_7.2.1 0), .int (u_7.2.1 1), .int (u_7.2.1 2), .int (u_7.2.1 3)])), (t1, .inl (cyC, 1000, .inl t_text))]) (pc2 := 63) (lv2 := [(0, .ref r0), (1, .int p0), (2, .int p1), (3, .ref i1), (4, .int p3)]) (st2 := []) rfl rfl rfl rfl ?_
        obtain ⟨hw_8_0, hw_8_1, hw_8_2, hw_8_3, hw_8_4, hw_8_5⟩ := hw_8
        have ha_u_7 := (hw_8_5).trans (TH.adv hTH)
        refine j_iconst (pc := 63) (v := 1) C dX5_readNumber_63 (by decide) ?_
        have el_1 : (1 : Int32).toInt = 1 := rfl
        have el_1 : (1 : Int32).toInt = 1 := rfl
        have el_1 : (1 : Int32).toInt = 1 := rfl
        have el_1 : (1 : Int32).toInt = 1 := rfl
        have el_1 : (1 : Int32).toInt = 1 := rfl
        have el_1 : (1 : Int32).toInt = 1 := rfl
        exact j_zret (pc := 64) C hr rfl hk (fun i => [].getD i 0, fun i => [1, r_fault, (u_7.2.1 0), (u_7.2.1 1), (u_7.2.1 2), (u_7.2.1 3)].getD i 0, fun i => [f_6].getD i (fun _ => 0), fun i => [].getD i (fun _ => 0)) rfl (show (0 ≤ ((1 : Int32)).toInt ∧ ((1 : Int32)).toInt ≤ 1) ∧ (0 ≤ ((u_7.2.1 0)).toInt ∧ ((u_7.2.1 0)).toInt ≤ 1000) ∧ (0 ≤ ((u_7.2.1 1)).toInt ∧ ((u_7.2.1 1)).toInt ≤ 4) ∧ (0 ≤ ((u_7.2.1 2)).toInt ∧ ((u_7.2.1 2)).toInt ≤ 1000) ∧ (¬ ((u_7.2.1 1)).toInt = 3 ∨ ((u_7.2.1 2)).toInt ≤ 999) ∧ (IM (((1 : Int32)).toInt = 1) ((f_6 (p3).toInt.toNat).toInt = nb (TKS t_text (t_length).toInt.toNat) (t_place).toInt.toNat)) ∧ (∀ j : Nat, ¬ j = (p3).toInt.toNat → f_6 j = i_f j) ∧ (TH t_text (t_length).toInt.toNat ((u_7.2.1 0)).toInt ((u_7.2.1 1)).toInt ((u_7.2.1 2)).toInt ((u_7.2.1 3)).toInt) ∧ (CP ((1 : Int32)).toInt ((u_7.2.1 2)).toInt (r_fault).toInt (r_fault).toInt (rNum (TKS t_text (t_length).toInt.toNat) (p0).toInt (p1).toInt (t_place).toInt.toNat)) from ⟨by omega, hw_8_0, hw_8_1, hw_8_2, by omega, (fun _ => by rw [ef_6, pk_us]; exact (hTH.num (by omega)).symm), (fun j hj => by rw [ef_6]; exact pk_un hj), hw_8_4, (CP.ok (by omega) (by omega) (by have hn9 := hTH.num (by omega); unfold rNum; rw [if_pos (show ((TKS t_text (t_length).toInt.toNat) (t_place).toInt.toNat).1 = 2 from hTH.kind.trans (by omega)), if_pos (by omega), ← ha_u_7]))⟩) [0, 2, 3, 1] (by decide) rfl (by decide) (by decide) dX5_readNumber_64
      · skip
        rw [i_le] at c_5
        refine j_aload_n (pc := 39) C dX5_readNumber_39 rfl 0 rfl ?_
        refine j_iconst (pc := 40) (v := 4) C dX5_readNumber_40 (by decide) ?_
        refine j_callV (pc := 41) (As := [.int 4]) (rest := []) (wr := [(t1, .inl (cyC, 1000, .inl t_text)), (i1, .inl (cyI, 12, .inl i_f))]) C (c_X5_wrong l D cyC cyI cyJ cyZ cyO r0 t0 e0 r1 r2 a0 t1 4 r_habits r_fault t_length t_next t_kind t_place t_number h_t_length h_t_next h_t_kind h_t_place (by decide)) wd_305 wd_306 wd_307 wd_308 wd_309 ⟨by decide, by decide, rfl⟩ rfl ⟨rfl, rfl, by decide, by decide⟩ ⟨by decide, by decide⟩ [0, 1] [2, 3] rfl rfl ⟨by decide, by decide, by decide⟩ 0 rfl rfl rfl (Nat.le_of_ble_eq_true rfl) dX5_readNumber_41 (fun u_9 hw_10 => ?_)
        refine j_eq (ws2 := [(t1, .inl (cyC, 1000, .inl t_text)), (i1, .inl (cyI, 12, .inl i_f)), (r0, .inr (5, [.ref t0, .ref e0, .ref r1, .ref r2, .ref a0, .int r_habits, .int (u_9.2.1 0)])), (t0, .inr (8, [.ref t1, .int t_length, .int t_next, .int t_kind, .int t_place, .int t_number]))]) (pc2 := 44) (lv2 := [(0, .ref r0), (1, .int p0), (2, .int p1), (3, .ref i1), (4, .int p3)]) (st2 := [.int 0]) rfl rfl rfl rfl ?_
        have hw_10_0 : ((u_9.2.1 0)).toInt = ((4 : Int32)).toInt + 16 * (t_place).toInt := hw_10
        have el_0 : (0 : Int32).toInt = 0 := rfl
        have el_0 : (0 : Int32).toInt = 0 := rfl
        have el_0 : (0 : Int32).toInt = 0 := rfl
        have el_0 : (0 : Int32).toInt = 0 := rfl
        have el_0 : (0 : Int32).toInt = 0 := rfl
        have el_0 : (0 : Int32).toInt = 0 := rfl
        have el_4 : (4 : Int32).toInt = 4 := rfl
        exact j_zret (pc := 44) C hr rfl hk (fun i => [].getD i 0, fun i => [0, (u_9.2.1 0), t_next, t_kind, t_place, t_number].getD i 0, fun i => [i_f].getD i (fun _ => 0), fun i => [].getD i (fun _ => 0)) rfl (show (0 ≤ ((0 : Int32)).toInt ∧ ((0 : Int32)).toInt ≤ 1) ∧ (0 ≤ (t_next).toInt ∧ (t_next).toInt ≤ 1000) ∧ (0 ≤ (t_kind).toInt ∧ (t_kind).toInt ≤ 4) ∧ (0 ≤ (t_place).toInt ∧ (t_place).toInt ≤ 1000) ∧ (¬ (t_kind).toInt = 3 ∨ (t_place).toInt ≤ 999) ∧ (IM (((0 : Int32)).toInt = 1) ((i_f (p3).toInt.toNat).toInt = nb (TKS t_text (t_length).toInt.toNat) (t_place).toInt.toNat)) ∧ (∀ j : Nat, ¬ j = (p3).toInt.toNat → i_f j = i_f j) ∧ (TH t_text (t_length).toInt.toNat (t_next).toInt (t_kind).toInt (t_place).toInt (t_number).toInt) ∧ (CP ((0 : Int32)).toInt (t_place).toInt ((u_9.2.1 0)).toInt (r_fault).toInt (rNum (TKS t_text (t_length).toInt.toNat) (p0).toInt (p1).toInt (t_place).toInt.toNat)) from ⟨by omega, h_t_next, h_t_kind, h_t_place, by omega, (fun h => absurd h (by decide)), (fun j hj => rfl), hTH, (CP.mv (CP.wr (k := 4) (by omega) (by omega) (by omega) (by omega)) (by have hn9 := hTH.num (by omega); unfold rNum; rw [if_pos (show ((TKS t_text (t_length).toInt.toNat) (t_place).toInt.toNat).1 = 2 from hTH.kind.trans (by omega)), if_neg (by omega)]))⟩) [2, 3, 0, 1] (by decide) rfl (by decide) (by decide) dX5_readNumber_44
  · skip
    have el_2 : (2 : Int32).toInt = 2 := rfl
    rw [i_eq] at c_1
    refine j_aload_n (pc := 11) C dX5_readNumber_11 rfl 0 rfl ?_
    refine j_iconst (pc := 12) (v := 1) C dX5_readNumber_12 (by decide) ?_
    refine j_callV (pc := 13) (As := [.int 1]) (rest := []) (wr := [(t1, .inl (cyC, 1000, .inl t_text)), (i1, .inl (cyI, 12, .inl i_f))]) C (c_X5_wrong l D cyC cyI cyJ cyZ cyO r0 t0 e0 r1 r2 a0 t1 1 r_habits r_fault t_length t_next t_kind t_place t_number h_t_length h_t_next h_t_kind h_t_place (by decide)) wd_305 wd_306 wd_307 wd_308 wd_309 ⟨by decide, by decide, rfl⟩ rfl ⟨rfl, rfl, by decide, by decide⟩ ⟨by decide, by decide⟩ [0, 1] [2, 3] rfl rfl ⟨by decide, by decide, by decide⟩ 0 rfl rfl rfl (Nat.le_of_ble_eq_true rfl) dX5_readNumber_13 (fun u_11 hw_12 => ?_)
    refine j_eq (ws2 := [(t1, .inl (cyC, 1000, .inl t_text)), (i1, .inl (cyI, 12, .inl i_f)), (r0, .inr (5, [.ref t0, .ref e0, .ref r1, .ref r2, .ref a0, .int r_habits, .int (u_11.2.1 0)])), (t0, .inr (8, [.ref t1, .int t_length, .int t_next, .int t_kind, .int t_place, .int t_number]))]) (pc2 := 16) (lv2 := [(0, .ref r0), (1, .int p0), (2, .int p1), (3, .ref i1), (4, .int p3)]) (st2 := [.int 0]) rfl rfl rfl rfl ?_
    have hw_12_0 : ((u_11.2.1 0)).toInt = ((1 : Int32)).toInt + 16 * (t_place).toInt := hw_12
    have el_0 : (0 : Int32).toInt = 0 := rfl
    have el_0 : (0 : Int32).toInt = 0 := rfl
    have el_0 : (0 : Int32).toInt = 0 := rfl
    have el_0 : (0 : Int32).toInt = 0 := rfl
    have el_0 : (0 : Int32).toInt = 0 := rfl
    have el_0 : (0 : Int32).toInt = 0 := rfl
    have el_1 : (1 : Int32).toInt = 1 := rfl
    exact j_zret (pc := 16) C hr rfl hk (fun i => [].getD i 0, fun i => [0, (u_11.2.1 0), t_next, t_kind, t_place, t_number].getD i 0, fun i => [i_f].getD i (fun _ => 0), fun i => [].getD i (fun _ => 0)) rfl (show (0 ≤ ((0 : Int32)).toInt ∧ ((0 : Int32)).toInt ≤ 1) ∧ (0 ≤ (t_next).toInt ∧ (t_next).toInt ≤ 1000) ∧ (0 ≤ (t_kind).toInt ∧ (t_kind).toInt ≤ 4) ∧ (0 ≤ (t_place).toInt ∧ (t_place).toInt ≤ 1000) ∧ (¬ (t_kind).toInt = 3 ∨ (t_place).toInt ≤ 999) ∧ (IM (((0 : Int32)).toInt = 1) ((i_f (p3).toInt.toNat).toInt = nb (TKS t_text (t_length).toInt.toNat) (t_place).toInt.toNat)) ∧ (∀ j : Nat, ¬ j = (p3).toInt.toNat → i_f j = i_f j) ∧ (TH t_text (t_length).toInt.toNat (t_next).toInt (t_kind).toInt (t_place).toInt (t_number).toInt) ∧ (CP ((0 : Int32)).toInt (t_place).toInt ((u_11.2.1 0)).toInt (r_fault).toInt (rNum (TKS t_text (t_length).toInt.toNat) (p0).toInt (p1).toInt (t_place).toInt.toNat)) from ⟨by omega, h_t_next, h_t_kind, h_t_place, by omega, (fun h => absurd h (by decide)), (fun j hj => rfl), hTH, (CP.mv (CP.wr (k := 1) (by omega) (by omega) (by omega) (by omega)) (by unfold rNum; rw [if_neg (show ¬ ((TKS t_text (t_length).toInt.toNat) (t_place).toInt.toNat).1 = 2 from (by have hk9 := hTH.kind; omega))]))⟩) [2, 3, 0, 1] (by decide) rfl (by decide) (by decide) dX5_readNumber_16
set_option maxHeartbeats 4000000 in
set_option maxRecDepth 100000 in
theorem c_X5_readAmount_r (l : Launch) (D : DG) (cyC cyI cyJ cyZ cyO : ClassId) (r0 : Nat) (t0 : Nat) (t1 : Nat) (i1 : Nat) (e0 : Nat) (r1 : Nat) (r2 : Nat) (a0 : Nat) (i : Nat) (p3 : Int32) (r_habits : Int32) (r_fault : Int32) (t_length : Int32) (t_next : Int32) (t_kind : Int32) (t_place : Int32) (t_number : Int32) (t_text : Nat → Int32) (i_f : Nat → Int32) (h_t_length : 0 ≤ (t_length).toInt ∧ (t_length).toInt ≤ 1000) (h_t_next : 0 ≤ (t_next).toInt ∧ (t_next).toInt ≤ 1000) (h_t_kind : 0 ≤ (t_kind).toInt ∧ (t_kind).toInt ≤ 4) (h_t_place : 0 ≤ (t_place).toInt ∧ (t_place).toInt ≤ 1000) (h_p3 : 0 ≤ (p3).toInt ∧ (p3).toInt ≤ 3) (h_t_text : Iv 1000 (0) (126) t_text) (h_i_f : Iv 4 (0) (8) i_f) (hi_lit : i < 43) (hwl : wLit i) (ht3 : ¬ (t_kind).toInt = 3 ∨ (t_place).toInt ≤ 999) (hTH : TH t_text (t_length).toInt.toNat (t_next).toInt (t_kind).toInt (t_place).toInt (t_number).toInt) : KK l D (TY cyC cyI cyJ cyZ cyO) yX5_readAmount cX5_readAmount 6 (some .boolean) ({ frames := 6, cells := 0, slots := 0, locals := 137 } : Room) 0 0 [.ref r0, .ref (D.2.1 i), .int 1, .int 8, .ref i1, .int p3] [(r0, .inr (5, [.ref t0, .ref e0, .ref r1, .ref r2, .ref a0, .int r_habits, .int r_fault])), (t0, .inr (8, [.ref t1, .int t_length, .int t_next, .int t_kind, .int t_place, .int t_number])), (t1, .inl (cyC, 1000, .inl t_text)), (i1, .inl (cyI, 4, .inl i_f))] (fun u => some (.int (u.2.1 0))) (fun u => (0 ≤ (u.2.1 0).toInt ∧ (u.2.1 0).toInt ≤ 1) ∧ (0 ≤ (u.2.1 2).toInt ∧ (u.2.1 2).toInt ≤ 1000) ∧ (0 ≤ (u.2.1 3).toInt ∧ (u.2.1 3).toInt ≤ 4) ∧ (0 ≤ (u.2.1 4).toInt ∧ (u.2.1 4).toInt ≤ 1000) ∧ (Iv 4 (0) (8) (u.2.2.1 0)) ∧ (¬ ((u.2.1 3)).toInt = 3 ∨ ((u.2.1 4)).toInt ≤ 999) ∧ (IM (((u.2.1 0)).toInt = 1) (((u.2.2.1 0) (p3).toInt.toNat).toInt = nb (TKS t_text (t_length).toInt.toNat) (nx (TKS t_text (t_length).toInt.toNat) (t_place).toInt.toNat))) ∧ (∀ j : Nat, ¬ j = (p3).toInt.toNat → (u.2.2.1 0) j = i_f j) ∧ (TH t_text (t_length).toInt.toNat ((u.2.1 2)).toInt ((u.2.1 3)).toInt ((u.2.1 4)).toInt ((u.2.1 5)).toInt) ∧ (CP ((u.2.1 0)).toInt ((u.2.1 4)).toInt ((u.2.1 1)).toInt (r_fault).toInt (rAmt (TKS t_text (t_length).toInt.toNat) (wnL i) 1 8 (t_place).toInt.toNat))) (fun u => [(r0, .inr (5, [.ref t0, .ref e0, .ref r1, .ref r2, .ref a0, .int r_habits, .int (u.2.1 1)])), (t0, .inr (8, [.ref t1, .int t_length, .int (u.2.1 2), .int (u.2.1 3), .int (u.2.1 4), .int (u.2.1 5)])), (t1, .inl (cyC, 1000, .inl t_text)), (i1, .inl (cyI, 4, .inl (u.2.2.1 0)))]) := by
  refine KK.of (lv0 := [(0, .ref r0), (1, .ref (D.2.1 i)), (2, .int 1), (3, .int 8), (4, .ref i1), (5, .int p3)]) (by decide) rfl (Nat.le_of_ble_eq_true rfl) ?_
  intro p e s m args below meth c A C hr hk hin
  refine j_aload_n (pc := 0) C dX5_readAmount_0 rfl 0 rfl ?_
  refine j_get (pc := 1) (ci := 5) (v := .ref t0) C inw_5 0 rfl rfl 0 (by decide) wd_296 rfl rfl dX5_readAmount_1 ?_
  refine j_aload_n (pc := 4) C dX5_readAmount_4 rfl 1 rfl ?_
  refine j_callV (pc := 5) (As := [.ref (D.2.1 i)]) (rest := []) (wr := [(r0, .inr (5, [.ref t0, .ref e0, .ref r1, .ref r2, .ref a0, .int r_habits, .int r_fault])), (i1, .inl (cyI, 4, .inl i_f))]) C (c_X8_isWord_f l D cyC cyI cyJ cyZ cyO t0 t1 i t_length t_next t_kind t_place t_number t_text h_t_length h_t_next h_t_kind h_t_place h_t_text hi_lit hwl hTH) wd_288 wd_258 wd_312 wd_290 wd_291 ⟨by decide, by decide, rfl⟩ rfl ⟨rfl, rfl, by decide, by decide⟩ ⟨by decide, by decide⟩ [1, 2] [0, 3] rfl rfl ⟨by decide, by decide, by decide⟩ 1 rfl rfl rfl (Nat.le_of_ble_eq_true rfl) dX5_readAmount_5 (fun u_1 hw_2 => ?_)
  refine j_eq (ws2 := [(r0, .inr (5, [.ref t0, .ref e0, .ref r1, .ref r2, .ref a0, .int r_habits, .int r_fault])), (i1, .inl (cyI, 4, .inl i_f)), (t0, .inr (8, [.ref t1, .int t_length, .int t_next, .int t_kind, .int t_place, .int t_number])), (t1, .inl (cyC, 1000, .inl t_text))]) (pc2 := 8) (lv2 := [(0, .ref r0), (1, .ref (D.2.1 i)), (2, .int 1), (3, .int 8), (4, .ref i1), (5, .int p3)]) (st2 := [.int (u_1.2.1 0)]) rfl rfl rfl rfl ?_
  obtain ⟨hw_2_0, hw_2_1⟩ := hw_2
  refine j_if_ne (pc := 8) (tgt := 17) C dX5_readAmount_8 (by decide) (fun c_3 => ?_) (fun c_3 => ?_)
  · skip
    have el_0 : (0 : Int32).toInt = 0 := rfl
    rw [i_eq] at c_3
    have k0c_3 : ((u_1.2.1 0)).toInt = 1 := by omega
    refine j_aload_n (pc := 17) C dX5_readAmount_17 rfl 0 rfl ?_
    refine j_get (pc := 18) (ci := 5) (v := .ref t0) C inw_5 0 rfl rfl 0 (by decide) wd_296 rfl rfl dX5_readAmount_18 ?_
    refine j_callV (pc := 21) (As := []) (rest := []) (wr := [(r0, .inr (5, [.ref t0, .ref e0, .ref r1, .ref r2, .ref a0, .int r_habits, .int r_fault])), (i1, .inl (cyI, 4, .inl i_f))]) C (c_X8_advance_f l D cyC cyI cyJ cyZ cyO t0 t1 t_length t_next t_kind t_place t_number t_text h_t_length h_t_next h_t_kind h_t_place h_t_text) wd_277 wd_258 wd_304 wd_279 wd_280 ⟨by decide, by decide, rfl⟩ rfl ⟨rfl, rfl, by decide, by decide⟩ ⟨by decide, by decide⟩ [2, 3] [0, 1] rfl rfl ⟨by decide, by decide, by decide⟩ 2 rfl rfl rfl (Nat.le_of_ble_eq_true rfl) dX5_readAmount_21 (fun u_4 hw_5 => ?_)
    refine j_eq (ws2 := [(r0, .inr (5, [.ref t0, .ref e0, .ref r1, .ref r2, .ref a0, .int r_habits, .int r_fault])), (i1, .inl (cyI, 4, .inl i_f)), (t0, .inr (8, [.ref t1, .int t_length, .int (u_4.2.1 0), .int (u_4.2.1 1), .int (u_4.2.1 2), .int (u_4.2.1 3)])), (t1, .inl (cyC, 1000, .inl t_text))]) (pc2 := 24) (lv2 := [(0, .ref r0), (1, .ref (D.2.1 i)), (2, .int 1), (3, .int 8), (4, .ref i1), (5, .int p3)]) (st2 := []) rfl rfl rfl rfl ?_
    obtain ⟨hw_5_0, hw_5_1, hw_5_2, hw_5_3, hw_5_4, hw_5_5⟩ := hw_5
    have ha_u_4 := (hw_5_5).trans (TH.adv hTH)
    refine j_aload_n (pc := 24) C dX5_readAmount_24 rfl 0 rfl ?_
    refine j_iload_n (pc := 25) C dX5_readAmount_25 rfl 2 rfl ?_
    refine j_iload_n (pc := 26) C dX5_readAmount_26 rfl 3 rfl ?_
    refine j_aload (pc := 27) C dX5_readAmount_27 4 rfl ?_
    refine j_iload (pc := 29) C dX5_readAmount_29 5 rfl ?_
    refine j_callV (pc := 31) (As := [.int 1, .int 8, .ref i1, .int p3]) (rest := []) (wr := []) C (c_X5_readNumber_r l D cyC cyI cyJ cyZ cyO r0 t0 t1 i1 e0 r1 r2 a0 p3 r_habits r_fault t_length (u_4.2.1 0) (u_4.2.1 1) (u_4.2.1 2) (u_4.2.1 3) t_text i_f h_t_length hw_5_0 hw_5_1 hw_5_2 h_p3 h_t_text h_i_f (by omega) hw_5_4) wd_313 wd_306 wd_314 wd_315 wd_316 ⟨by decide, by decide, rfl⟩ rfl ⟨rfl, rfl, by decide, by decide⟩ ⟨by decide, by decide⟩ [0, 2, 3, 1] [] rfl rfl ⟨by decide, by decide, by decide⟩ 0 rfl rfl rfl (Nat.le_of_ble_eq_true rfl) dX5_readAmount_31 (fun u_6 hw_7 => ?_)
    refine j_eq (ws2 := [(r0, .inr (5, [.ref t0, .ref e0, .ref r1, .ref r2, .ref a0, .int r_habits, .int (u_6.2.1 1)])), (t0, .inr (8, [.ref t1, .int t_length, .int (u_6.2.1 2), .int (u_6.2.1 3), .int (u_6.2.1 4), .int (u_6.2.1 5)])), (t1, .inl (cyC, 1000, .inl t_text)), (i1, .inl (cyI, 4, .inl (u_6.2.2.1 0)))]) (pc2 := 34) (lv2 := [(0, .ref r0), (1, .ref (D.2.1 i)), (2, .int 1), (3, .int 8), (4, .ref i1), (5, .int p3)]) (st2 := [.int (u_6.2.1 0)]) rfl rfl rfl rfl ?_
    obtain ⟨hw_7_0, hw_7_1, hw_7_2, hw_7_3, hw_7_4, hw_7_5, hw_7_6, hw_7_7, hw_7_8, hw_7_9⟩ := hw_7
    exact j_zret (pc := 34) C hr (nb_01 ⟨by omega, by omega⟩).1 hk (fun i => [].getD i 0, fun i => [(u_6.2.1 0), (u_6.2.1 1), (u_6.2.1 2), (u_6.2.1 3), (u_6.2.1 4), (u_6.2.1 5)].getD i 0, fun i => [(u_6.2.2.1 0)].getD i (fun _ => 0), fun i => [].getD i (fun _ => 0)) rfl (show (0 ≤ ((u_6.2.1 0)).toInt ∧ ((u_6.2.1 0)).toInt ≤ 1) ∧ (0 ≤ ((u_6.2.1 2)).toInt ∧ ((u_6.2.1 2)).toInt ≤ 1000) ∧ (0 ≤ ((u_6.2.1 3)).toInt ∧ ((u_6.2.1 3)).toInt ≤ 4) ∧ (0 ≤ ((u_6.2.1 4)).toInt ∧ ((u_6.2.1 4)).toInt ≤ 1000) ∧ (Iv 4 (0) (8) (u_6.2.2.1 0)) ∧ (¬ ((u_6.2.1 3)).toInt = 3 ∨ ((u_6.2.1 4)).toInt ≤ 999) ∧ (IM (((u_6.2.1 0)).toInt = 1) (((u_6.2.2.1 0) (p3).toInt.toNat).toInt = nb (TKS t_text (t_length).toInt.toNat) (nx (TKS t_text (t_length).toInt.toNat) (t_place).toInt.toNat))) ∧ (∀ j : Nat, ¬ j = (p3).toInt.toNat → (u_6.2.2.1 0) j = i_f j) ∧ (TH t_text (t_length).toInt.toNat ((u_6.2.1 2)).toInt ((u_6.2.1 3)).toInt ((u_6.2.1 4)).toInt ((u_6.2.1 5)).toInt) ∧ (CP ((u_6.2.1 0)).toInt ((u_6.2.1 4)).toInt ((u_6.2.1 1)).toInt (r_fault).toInt (rAmt (TKS t_text (t_length).toInt.toNat) (wnL i) 1 8 (t_place).toInt.toNat)) from ⟨hw_7_0, hw_7_1, hw_7_2, hw_7_3, hw_7_4, by omega, (fun h => by rw [← ha_u_4]; exact hw_7_6 h), hw_7_7, hw_7_8, (CP.mv hw_7_9 (by unfold rAmt; rw [if_pos (show isW (TKS t_text (t_length).toInt.toNat) (t_place).toInt.toNat (wnL i) = true from wI_1.mp (by have z9 := hw_2_1; omega)), ← ha_u_4]))⟩) [0, 1, 2, 3] (by decide) rfl (by decide) (by decide) dX5_readAmount_34
  · skip
    have el_0 : (0 : Int32).toInt = 0 := rfl
    rw [i_eq] at c_3
    refine j_aload_n (pc := 11) C dX5_readAmount_11 rfl 0 rfl ?_
    refine j_iconst (pc := 12) (v := 1) C dX5_readAmount_12 (by decide) ?_
    refine j_callV (pc := 13) (As := [.int 1]) (rest := []) (wr := [(i1, .inl (cyI, 4, .inl i_f)), (t1, .inl (cyC, 1000, .inl t_text))]) C (c_X5_wrong l D cyC cyI cyJ cyZ cyO r0 t0 e0 r1 r2 a0 t1 1 r_habits r_fault t_length t_next t_kind t_place t_number h_t_length h_t_next h_t_kind h_t_place (by decide)) wd_305 wd_306 wd_307 wd_308 wd_309 ⟨by decide, by decide, rfl⟩ rfl ⟨rfl, rfl, by decide, by decide⟩ ⟨by decide, by decide⟩ [0, 2] [1, 3] rfl rfl ⟨by decide, by decide, by decide⟩ 0 rfl rfl rfl (Nat.le_of_ble_eq_true rfl) dX5_readAmount_13 (fun u_8 hw_9 => ?_)
    refine j_eq (ws2 := [(i1, .inl (cyI, 4, .inl i_f)), (t1, .inl (cyC, 1000, .inl t_text)), (r0, .inr (5, [.ref t0, .ref e0, .ref r1, .ref r2, .ref a0, .int r_habits, .int (u_8.2.1 0)])), (t0, .inr (8, [.ref t1, .int t_length, .int t_next, .int t_kind, .int t_place, .int t_number]))]) (pc2 := 16) (lv2 := [(0, .ref r0), (1, .ref (D.2.1 i)), (2, .int 1), (3, .int 8), (4, .ref i1), (5, .int p3)]) (st2 := [.int 0]) rfl rfl rfl rfl ?_
    have hw_9_0 : ((u_8.2.1 0)).toInt = ((1 : Int32)).toInt + 16 * (t_place).toInt := hw_9
    have el_0 : (0 : Int32).toInt = 0 := rfl
    have el_0 : (0 : Int32).toInt = 0 := rfl
    have el_0 : (0 : Int32).toInt = 0 := rfl
    have el_0 : (0 : Int32).toInt = 0 := rfl
    have el_0 : (0 : Int32).toInt = 0 := rfl
    have el_0 : (0 : Int32).toInt = 0 := rfl
    have el_1 : (1 : Int32).toInt = 1 := rfl
    exact j_zret (pc := 16) C hr rfl hk (fun i => [].getD i 0, fun i => [0, (u_8.2.1 0), t_next, t_kind, t_place, t_number].getD i 0, fun i => [i_f].getD i (fun _ => 0), fun i => [].getD i (fun _ => 0)) rfl (show (0 ≤ ((0 : Int32)).toInt ∧ ((0 : Int32)).toInt ≤ 1) ∧ (0 ≤ (t_next).toInt ∧ (t_next).toInt ≤ 1000) ∧ (0 ≤ (t_kind).toInt ∧ (t_kind).toInt ≤ 4) ∧ (0 ≤ (t_place).toInt ∧ (t_place).toInt ≤ 1000) ∧ (Iv 4 (0) (8) i_f) ∧ (¬ (t_kind).toInt = 3 ∨ (t_place).toInt ≤ 999) ∧ (IM (((0 : Int32)).toInt = 1) ((i_f (p3).toInt.toNat).toInt = nb (TKS t_text (t_length).toInt.toNat) (nx (TKS t_text (t_length).toInt.toNat) (t_place).toInt.toNat))) ∧ (∀ j : Nat, ¬ j = (p3).toInt.toNat → i_f j = i_f j) ∧ (TH t_text (t_length).toInt.toNat (t_next).toInt (t_kind).toInt (t_place).toInt (t_number).toInt) ∧ (CP ((0 : Int32)).toInt (t_place).toInt ((u_8.2.1 0)).toInt (r_fault).toInt (rAmt (TKS t_text (t_length).toInt.toNat) (wnL i) 1 8 (t_place).toInt.toNat)) from ⟨by omega, h_t_next, h_t_kind, h_t_place, h_i_f, by omega, (fun h => absurd h (by decide)), (fun j hj => rfl), hTH, (CP.mv (CP.wr (k := 1) (by omega) (by omega) (by omega) (by omega)) (by unfold rAmt; rw [if_neg (show ¬ isW (TKS t_text (t_length).toInt.toNat) (t_place).toInt.toNat (wnL i) = true from wI_0.mp (by have z9 := hw_2_1; omega))]))⟩) [2, 3, 1, 0] (by decide) rfl (by decide) (by decide) dX5_readAmount_16
set_option maxHeartbeats 4000000 in
set_option maxRecDepth 100000 in
theorem c_X5_readAmount_4 (l : Launch) (D : DG) (cyC cyI cyJ cyZ cyO : ClassId) (r0 : Nat) (t0 : Nat) (t1 : Nat) (i1 : Nat) (e0 : Nat) (r1 : Nat) (r2 : Nat) (a0 : Nat) (i : Nat) (p0 : Int32) (p1 : Int32) (p3 : Int32) (r_habits : Int32) (r_fault : Int32) (t_length : Int32) (t_next : Int32) (t_kind : Int32) (t_place : Int32) (t_number : Int32) (t_text : Nat → Int32) (i_f : Nat → Int32) (h_t_length : 0 ≤ (t_length).toInt ∧ (t_length).toInt ≤ 1000) (h_t_next : 0 ≤ (t_next).toInt ∧ (t_next).toInt ≤ 1000) (h_t_kind : 0 ≤ (t_kind).toInt ∧ (t_kind).toInt ≤ 4) (h_t_place : 0 ≤ (t_place).toInt ∧ (t_place).toInt ≤ 1000) (h_p3 : 0 ≤ (p3).toInt ∧ (p3).toInt ≤ 3) (h_t_text : Iv 1000 (0) (126) t_text) (hi_lit : i < 43) (hwl : wLit i) (ht3 : ¬ (t_kind).toInt = 3 ∨ (t_place).toInt ≤ 999) (hTH : TH t_text (t_length).toInt.toNat (t_next).toInt (t_kind).toInt (t_place).toInt (t_number).toInt) : KK l D (TY cyC cyI cyJ cyZ cyO) yX5_readAmount cX5_readAmount 6 (some .boolean) ({ frames := 6, cells := 0, slots := 0, locals := 137 } : Room) 0 0 [.ref r0, .ref (D.2.1 i), .int p0, .int p1, .ref i1, .int p3] [(r0, .inr (5, [.ref t0, .ref e0, .ref r1, .ref r2, .ref a0, .int r_habits, .int r_fault])), (t0, .inr (8, [.ref t1, .int t_length, .int t_next, .int t_kind, .int t_place, .int t_number])), (t1, .inl (cyC, 1000, .inl t_text)), (i1, .inl (cyI, 4, .inl i_f))] (fun u => some (.int (u.2.1 0))) (fun u => (0 ≤ (u.2.1 0).toInt ∧ (u.2.1 0).toInt ≤ 1) ∧ (0 ≤ (u.2.1 2).toInt ∧ (u.2.1 2).toInt ≤ 1000) ∧ (0 ≤ (u.2.1 3).toInt ∧ (u.2.1 3).toInt ≤ 4) ∧ (0 ≤ (u.2.1 4).toInt ∧ (u.2.1 4).toInt ≤ 1000) ∧ (¬ ((u.2.1 3)).toInt = 3 ∨ ((u.2.1 4)).toInt ≤ 999) ∧ (IM (((u.2.1 0)).toInt = 1) (((u.2.2.1 0) (p3).toInt.toNat).toInt = nb (TKS t_text (t_length).toInt.toNat) (nx (TKS t_text (t_length).toInt.toNat) (t_place).toInt.toNat))) ∧ (∀ j : Nat, ¬ j = (p3).toInt.toNat → (u.2.2.1 0) j = i_f j) ∧ (TH t_text (t_length).toInt.toNat ((u.2.1 2)).toInt ((u.2.1 3)).toInt ((u.2.1 4)).toInt ((u.2.1 5)).toInt) ∧ (CP ((u.2.1 0)).toInt ((u.2.1 4)).toInt ((u.2.1 1)).toInt (r_fault).toInt (rAmt (TKS t_text (t_length).toInt.toNat) (wnL i) (p0).toInt (p1).toInt (t_place).toInt.toNat))) (fun u => [(r0, .inr (5, [.ref t0, .ref e0, .ref r1, .ref r2, .ref a0, .int r_habits, .int (u.2.1 1)])), (t0, .inr (8, [.ref t1, .int t_length, .int (u.2.1 2), .int (u.2.1 3), .int (u.2.1 4), .int (u.2.1 5)])), (t1, .inl (cyC, 1000, .inl t_text)), (i1, .inl (cyI, 4, .inl (u.2.2.1 0)))]) := by
  refine KK.of (lv0 := [(0, .ref r0), (1, .ref (D.2.1 i)), (2, .int p0), (3, .int p1), (4, .ref i1), (5, .int p3)]) (by decide) rfl (Nat.le_of_ble_eq_true rfl) ?_
  intro p e s m args below meth c A C hr hk hin
  refine j_aload_n (pc := 0) C dX5_readAmount_0 rfl 0 rfl ?_
  refine j_get (pc := 1) (ci := 5) (v := .ref t0) C inw_5 0 rfl rfl 0 (by decide) wd_296 rfl rfl dX5_readAmount_1 ?_
  refine j_aload_n (pc := 4) C dX5_readAmount_4 rfl 1 rfl ?_
  refine j_callV (pc := 5) (As := [.ref (D.2.1 i)]) (rest := []) (wr := [(r0, .inr (5, [.ref t0, .ref e0, .ref r1, .ref r2, .ref a0, .int r_habits, .int r_fault])), (i1, .inl (cyI, 4, .inl i_f))]) C (c_X8_isWord_f l D cyC cyI cyJ cyZ cyO t0 t1 i t_length t_next t_kind t_place t_number t_text h_t_length h_t_next h_t_kind h_t_place h_t_text hi_lit hwl hTH) wd_288 wd_258 wd_312 wd_290 wd_291 ⟨by decide, by decide, rfl⟩ rfl ⟨rfl, rfl, by decide, by decide⟩ ⟨by decide, by decide⟩ [1, 2] [0, 3] rfl rfl ⟨by decide, by decide, by decide⟩ 1 rfl rfl rfl (Nat.le_of_ble_eq_true rfl) dX5_readAmount_5 (fun u_1 hw_2 => ?_)
  refine j_eq (ws2 := [(r0, .inr (5, [.ref t0, .ref e0, .ref r1, .ref r2, .ref a0, .int r_habits, .int r_fault])), (i1, .inl (cyI, 4, .inl i_f)), (t0, .inr (8, [.ref t1, .int t_length, .int t_next, .int t_kind, .int t_place, .int t_number])), (t1, .inl (cyC, 1000, .inl t_text))]) (pc2 := 8) (lv2 := [(0, .ref r0), (1, .ref (D.2.1 i)), (2, .int p0), (3, .int p1), (4, .ref i1), (5, .int p3)]) (st2 := [.int (u_1.2.1 0)]) rfl rfl rfl rfl ?_
  obtain ⟨hw_2_0, hw_2_1⟩ := hw_2
  refine j_if_ne (pc := 8) (tgt := 17) C dX5_readAmount_8 (by decide) (fun c_3 => ?_) (fun c_3 => ?_)
  · skip
    have el_0 : (0 : Int32).toInt = 0 := rfl
    rw [i_eq] at c_3
    have k0c_3 : ((u_1.2.1 0)).toInt = 1 := by omega
    refine j_aload_n (pc := 17) C dX5_readAmount_17 rfl 0 rfl ?_
    refine j_get (pc := 18) (ci := 5) (v := .ref t0) C inw_5 0 rfl rfl 0 (by decide) wd_296 rfl rfl dX5_readAmount_18 ?_
    refine j_callV (pc := 21) (As := []) (rest := []) (wr := [(r0, .inr (5, [.ref t0, .ref e0, .ref r1, .ref r2, .ref a0, .int r_habits, .int r_fault])), (i1, .inl (cyI, 4, .inl i_f))]) C (c_X8_advance_f l D cyC cyI cyJ cyZ cyO t0 t1 t_length t_next t_kind t_place t_number t_text h_t_length h_t_next h_t_kind h_t_place h_t_text) wd_277 wd_258 wd_304 wd_279 wd_280 ⟨by decide, by decide, rfl⟩ rfl ⟨rfl, rfl, by decide, by decide⟩ ⟨by decide, by decide⟩ [2, 3] [0, 1] rfl rfl ⟨by decide, by decide, by decide⟩ 2 rfl rfl rfl (Nat.le_of_ble_eq_true rfl) dX5_readAmount_21 (fun u_4 hw_5 => ?_)
    refine j_eq (ws2 := [(r0, .inr (5, [.ref t0, .ref e0, .ref r1, .ref r2, .ref a0, .int r_habits, .int r_fault])), (i1, .inl (cyI, 4, .inl i_f)), (t0, .inr (8, [.ref t1, .int t_length, .int (u_4.2.1 0), .int (u_4.2.1 1), .int (u_4.2.1 2), .int (u_4.2.1 3)])), (t1, .inl (cyC, 1000, .inl t_text))]) (pc2 := 24) (lv2 := [(0, .ref r0), (1, .ref (D.2.1 i)), (2, .int p0), (3, .int p1), (4, .ref i1), (5, .int p3)]) (st2 := []) rfl rfl rfl rfl ?_
    obtain ⟨hw_5_0, hw_5_1, hw_5_2, hw_5_3, hw_5_4, hw_5_5⟩ := hw_5
    have ha_u_4 := (hw_5_5).trans (TH.adv hTH)
    refine j_aload_n (pc := 24) C dX5_readAmount_24 rfl 0 rfl ?_
    refine j_iload_n (pc := 25) C dX5_readAmount_25 rfl 2 rfl ?_
    refine j_iload_n (pc := 26) C dX5_readAmount_26 rfl 3 rfl ?_
    refine j_aload (pc := 27) C dX5_readAmount_27 4 rfl ?_
    refine j_iload (pc := 29) C dX5_readAmount_29 5 rfl ?_
    refine j_callV (pc := 31) (As := [.int p0, .int p1, .ref i1, .int p3]) (rest := []) (wr := []) C (c_X5_readNumber_4 l D cyC cyI cyJ cyZ cyO r0 t0 t1 i1 e0 r1 r2 a0 p0 p1 p3 r_habits r_fault t_length (u_4.2.1 0) (u_4.2.1 1) (u_4.2.1 2) (u_4.2.1 3) t_text i_f h_t_length hw_5_0 hw_5_1 hw_5_2 h_p3 h_t_text (by omega) hw_5_4) wd_313 wd_306 wd_314 wd_315 wd_316 ⟨by decide, by decide, rfl⟩ rfl ⟨rfl, rfl, by decide, by decide⟩ ⟨by decide, by decide⟩ [0, 2, 3, 1] [] rfl rfl ⟨by decide, by decide, by decide⟩ 0 rfl rfl rfl (Nat.le_of_ble_eq_true rfl) dX5_readAmount_31 (fun u_6 hw_7 => ?_)
    refine j_eq (ws2 := [(r0, .inr (5, [.ref t0, .ref e0, .ref r1, .ref r2, .ref a0, .int r_habits, .int (u_6.2.1 1)])), (t0, .inr (8, [.ref t1, .int t_length, .int (u_6.2.1 2), .int (u_6.2.1 3), .int (u_6.2.1 4), .int (u_6.2.1 5)])), (t1, .inl (cyC, 1000, .inl t_text)), (i1, .inl (cyI, 4, .inl (u_6.2.2.1 0)))]) (pc2 := 34) (lv2 := [(0, .ref r0), (1, .ref (D.2.1 i)), (2, .int p0), (3, .int p1), (4, .ref i1), (5, .int p3)]) (st2 := [.int (u_6.2.1 0)]) rfl rfl rfl rfl ?_
    obtain ⟨hw_7_0, hw_7_1, hw_7_2, hw_7_3, hw_7_4, hw_7_5, hw_7_6, hw_7_7, hw_7_8⟩ := hw_7
    exact j_zret (pc := 34) C hr (nb_01 ⟨by omega, by omega⟩).1 hk (fun i => [].getD i 0, fun i => [(u_6.2.1 0), (u_6.2.1 1), (u_6.2.1 2), (u_6.2.1 3), (u_6.2.1 4), (u_6.2.1 5)].getD i 0, fun i => [(u_6.2.2.1 0)].getD i (fun _ => 0), fun i => [].getD i (fun _ => 0)) rfl (show (0 ≤ ((u_6.2.1 0)).toInt ∧ ((u_6.2.1 0)).toInt ≤ 1) ∧ (0 ≤ ((u_6.2.1 2)).toInt ∧ ((u_6.2.1 2)).toInt ≤ 1000) ∧ (0 ≤ ((u_6.2.1 3)).toInt ∧ ((u_6.2.1 3)).toInt ≤ 4) ∧ (0 ≤ ((u_6.2.1 4)).toInt ∧ ((u_6.2.1 4)).toInt ≤ 1000) ∧ (¬ ((u_6.2.1 3)).toInt = 3 ∨ ((u_6.2.1 4)).toInt ≤ 999) ∧ (IM (((u_6.2.1 0)).toInt = 1) (((u_6.2.2.1 0) (p3).toInt.toNat).toInt = nb (TKS t_text (t_length).toInt.toNat) (nx (TKS t_text (t_length).toInt.toNat) (t_place).toInt.toNat))) ∧ (∀ j : Nat, ¬ j = (p3).toInt.toNat → (u_6.2.2.1 0) j = i_f j) ∧ (TH t_text (t_length).toInt.toNat ((u_6.2.1 2)).toInt ((u_6.2.1 3)).toInt ((u_6.2.1 4)).toInt ((u_6.2.1 5)).toInt) ∧ (CP ((u_6.2.1 0)).toInt ((u_6.2.1 4)).toInt ((u_6.2.1 1)).toInt (r_fault).toInt (rAmt (TKS t_text (t_length).toInt.toNat) (wnL i) (p0).toInt (p1).toInt (t_place).toInt.toNat)) from ⟨hw_7_0, hw_7_1, hw_7_2, hw_7_3, by omega, (fun h => by rw [← ha_u_4]; exact hw_7_5 h), hw_7_6, hw_7_7, (CP.mv hw_7_8 (by unfold rAmt; rw [if_pos (show isW (TKS t_text (t_length).toInt.toNat) (t_place).toInt.toNat (wnL i) = true from wI_1.mp (by have z9 := hw_2_1; omega)), ← ha_u_4]))⟩) [0, 1, 2, 3] (by decide) rfl (by decide) (by decide) dX5_readAmount_34
  · skip
    have el_0 : (0 : Int32).toInt = 0 := rfl
    rw [i_eq] at c_3
    refine j_aload_n (pc := 11) C dX5_readAmount_11 rfl 0 rfl ?_
    refine j_iconst (pc := 12) (v := 1) C dX5_readAmount_12 (by decide) ?_
    refine j_callV (pc := 13) (As := [.int 1]) (rest := []) (wr := [(i1, .inl (cyI, 4, .inl i_f)), (t1, .inl (cyC, 1000, .inl t_text))]) C (c_X5_wrong l D cyC cyI cyJ cyZ cyO r0 t0 e0 r1 r2 a0 t1 1 r_habits r_fault t_length t_next t_kind t_place t_number h_t_length h_t_next h_t_kind h_t_place (by decide)) wd_305 wd_306 wd_307 wd_308 wd_309 ⟨by decide, by decide, rfl⟩ rfl ⟨rfl, rfl, by decide, by decide⟩ ⟨by decide, by decide⟩ [0, 2] [1, 3] rfl rfl ⟨by decide, by decide, by decide⟩ 0 rfl rfl rfl (Nat.le_of_ble_eq_true rfl) dX5_readAmount_13 (fun u_8 hw_9 => ?_)
    refine j_eq (ws2 := [(i1, .inl (cyI, 4, .inl i_f)), (t1, .inl (cyC, 1000, .inl t_text)), (r0, .inr (5, [.ref t0, .ref e0, .ref r1, .ref r2, .ref a0, .int r_habits, .int (u_8.2.1 0)])), (t0, .inr (8, [.ref t1, .int t_length, .int t_next, .int t_kind, .int t_place, .int t_number]))]) (pc2 := 16) (lv2 := [(0, .ref r0), (1, .ref (D.2.1 i)), (2, .int p0), (3, .int p1), (4, .ref i1), (5, .int p3)]) (st2 := [.int 0]) rfl rfl rfl rfl ?_
    have hw_9_0 : ((u_8.2.1 0)).toInt = ((1 : Int32)).toInt + 16 * (t_place).toInt := hw_9
    have el_0 : (0 : Int32).toInt = 0 := rfl
    have el_0 : (0 : Int32).toInt = 0 := rfl
    have el_0 : (0 : Int32).toInt = 0 := rfl
    have el_0 : (0 : Int32).toInt = 0 := rfl
    have el_0 : (0 : Int32).toInt = 0 := rfl
    have el_0 : (0 : Int32).toInt = 0 := rfl
    have el_1 : (1 : Int32).toInt = 1 := rfl
    exact j_zret (pc := 16) C hr rfl hk (fun i => [].getD i 0, fun i => [0, (u_8.2.1 0), t_next, t_kind, t_place, t_number].getD i 0, fun i => [i_f].getD i (fun _ => 0), fun i => [].getD i (fun _ => 0)) rfl (show (0 ≤ ((0 : Int32)).toInt ∧ ((0 : Int32)).toInt ≤ 1) ∧ (0 ≤ (t_next).toInt ∧ (t_next).toInt ≤ 1000) ∧ (0 ≤ (t_kind).toInt ∧ (t_kind).toInt ≤ 4) ∧ (0 ≤ (t_place).toInt ∧ (t_place).toInt ≤ 1000) ∧ (¬ (t_kind).toInt = 3 ∨ (t_place).toInt ≤ 999) ∧ (IM (((0 : Int32)).toInt = 1) ((i_f (p3).toInt.toNat).toInt = nb (TKS t_text (t_length).toInt.toNat) (nx (TKS t_text (t_length).toInt.toNat) (t_place).toInt.toNat))) ∧ (∀ j : Nat, ¬ j = (p3).toInt.toNat → i_f j = i_f j) ∧ (TH t_text (t_length).toInt.toNat (t_next).toInt (t_kind).toInt (t_place).toInt (t_number).toInt) ∧ (CP ((0 : Int32)).toInt (t_place).toInt ((u_8.2.1 0)).toInt (r_fault).toInt (rAmt (TKS t_text (t_length).toInt.toNat) (wnL i) (p0).toInt (p1).toInt (t_place).toInt.toNat)) from ⟨by omega, h_t_next, h_t_kind, h_t_place, by omega, (fun h => absurd h (by decide)), (fun j hj => rfl), hTH, (CP.mv (CP.wr (k := 1) (by omega) (by omega) (by omega) (by omega)) (by unfold rAmt; rw [if_neg (show ¬ isW (TKS t_text (t_length).toInt.toNat) (t_place).toInt.toNat (wnL i) = true from wI_0.mp (by have z9 := hw_2_1; omega))]))⟩) [2, 3, 1, 0] (by decide) rfl (by decide) (by decide) dX5_readAmount_16
set_option maxHeartbeats 4000000 in
set_option maxRecDepth 100000 in
theorem c_X5_readAmount_12 (l : Launch) (D : DG) (cyC cyI cyJ cyZ cyO : ClassId) (r0 : Nat) (t0 : Nat) (t1 : Nat) (i1 : Nat) (e0 : Nat) (r1 : Nat) (r2 : Nat) (a0 : Nat) (i : Nat) (p0 : Int32) (p1 : Int32) (p3 : Int32) (r_habits : Int32) (r_fault : Int32) (t_length : Int32) (t_next : Int32) (t_kind : Int32) (t_place : Int32) (t_number : Int32) (t_text : Nat → Int32) (i_f : Nat → Int32) (h_t_length : 0 ≤ (t_length).toInt ∧ (t_length).toInt ≤ 1000) (h_t_next : 0 ≤ (t_next).toInt ∧ (t_next).toInt ≤ 1000) (h_t_kind : 0 ≤ (t_kind).toInt ∧ (t_kind).toInt ≤ 4) (h_t_place : 0 ≤ (t_place).toInt ∧ (t_place).toInt ≤ 1000) (h_p3 : 0 ≤ (p3).toInt ∧ (p3).toInt ≤ 11) (h_t_text : Iv 1000 (0) (126) t_text) (hi_lit : i < 43) (hwl : wLit i) (ht3 : ¬ (t_kind).toInt = 3 ∨ (t_place).toInt ≤ 999) (hTH : TH t_text (t_length).toInt.toNat (t_next).toInt (t_kind).toInt (t_place).toInt (t_number).toInt) : KK l D (TY cyC cyI cyJ cyZ cyO) yX5_readAmount cX5_readAmount 6 (some .boolean) ({ frames := 6, cells := 0, slots := 0, locals := 137 } : Room) 0 0 [.ref r0, .ref (D.2.1 i), .int p0, .int p1, .ref i1, .int p3] [(r0, .inr (5, [.ref t0, .ref e0, .ref r1, .ref r2, .ref a0, .int r_habits, .int r_fault])), (t0, .inr (8, [.ref t1, .int t_length, .int t_next, .int t_kind, .int t_place, .int t_number])), (t1, .inl (cyC, 1000, .inl t_text)), (i1, .inl (cyI, 12, .inl i_f))] (fun u => some (.int (u.2.1 0))) (fun u => (0 ≤ (u.2.1 0).toInt ∧ (u.2.1 0).toInt ≤ 1) ∧ (0 ≤ (u.2.1 2).toInt ∧ (u.2.1 2).toInt ≤ 1000) ∧ (0 ≤ (u.2.1 3).toInt ∧ (u.2.1 3).toInt ≤ 4) ∧ (0 ≤ (u.2.1 4).toInt ∧ (u.2.1 4).toInt ≤ 1000) ∧ (¬ ((u.2.1 3)).toInt = 3 ∨ ((u.2.1 4)).toInt ≤ 999) ∧ (IM (((u.2.1 0)).toInt = 1) (((u.2.2.1 0) (p3).toInt.toNat).toInt = nb (TKS t_text (t_length).toInt.toNat) (nx (TKS t_text (t_length).toInt.toNat) (t_place).toInt.toNat))) ∧ (∀ j : Nat, ¬ j = (p3).toInt.toNat → (u.2.2.1 0) j = i_f j) ∧ (TH t_text (t_length).toInt.toNat ((u.2.1 2)).toInt ((u.2.1 3)).toInt ((u.2.1 4)).toInt ((u.2.1 5)).toInt) ∧ (CP ((u.2.1 0)).toInt ((u.2.1 4)).toInt ((u.2.1 1)).toInt (r_fault).toInt (rAmt (TKS t_text (t_length).toInt.toNat) (wnL i) (p0).toInt (p1).toInt (t_place).toInt.toNat))) (fun u => [(r0, .inr (5, [.ref t0, .ref e0, .ref r1, .ref r2, .ref a0, .int r_habits, .int (u.2.1 1)])), (t0, .inr (8, [.ref t1, .int t_length, .int (u.2.1 2), .int (u.2.1 3), .int (u.2.1 4), .int (u.2.1 5)])), (t1, .inl (cyC, 1000, .inl t_text)), (i1, .inl (cyI, 12, .inl (u.2.2.1 0)))]) := by
  refine KK.of (lv0 := [(0, .ref r0), (1, .ref (D.2.1 i)), (2, .int p0), (3, .int p1), (4, .ref i1), (5, .int p3)]) (by decide) rfl (Nat.le_of_ble_eq_true rfl) ?_
  intro p e s m args below meth c A C hr hk hin
  refine j_aload_n (pc := 0) C dX5_readAmount_0 rfl 0 rfl ?_
  refine j_get (pc := 1) (ci := 5) (v := .ref t0) C inw_5 0 rfl rfl 0 (by decide) wd_296 rfl rfl dX5_readAmount_1 ?_
  refine j_aload_n (pc := 4) C dX5_readAmount_4 rfl 1 rfl ?_
  refine j_callV (pc := 5) (As := [.ref (D.2.1 i)]) (rest := []) (wr := [(r0, .inr (5, [.ref t0, .ref e0, .ref r1, .ref r2, .ref a0, .int r_habits, .int r_fault])), (i1, .inl (cyI, 12, .inl i_f))]) C (c_X8_isWord_f l D cyC cyI cyJ cyZ cyO t0 t1 i t_length t_next t_kind t_place t_number t_text h_t_length h_t_next h_t_kind h_t_place h_t_text hi_lit hwl hTH) wd_288 wd_258 wd_312 wd_290 wd_291 ⟨by decide, by decide, rfl⟩ rfl ⟨rfl, rfl, by decide, by decide⟩ ⟨by decide, by decide⟩ [1, 2] [0, 3] rfl rfl ⟨by decide, by decide, by decide⟩ 1 rfl rfl rfl (Nat.le_of_ble_eq_true rfl) dX5_readAmount_5 (fun u_1 hw_2 => ?_)
  refine j_eq (ws2 := [(r0, .inr (5, [.ref t0, .ref e0, .ref r1, .ref r2, .ref a0, .int r_habits, .int r_fault])), (i1, .inl (cyI, 12, .inl i_f)), (t0, .inr (8, [.ref t1, .int t_length, .int t_next, .int t_kind, .int t_place, .int t_number])), (t1, .inl (cyC, 1000, .inl t_text))]) (pc2 := 8) (lv2 := [(0, .ref r0), (1, .ref (D.2.1 i)), (2, .int p0), (3, .int p1), (4, .ref i1), (5, .int p3)]) (st2 := [.int (u_1.2.1 0)]) rfl rfl rfl rfl ?_
  obtain ⟨hw_2_0, hw_2_1⟩ := hw_2
  refine j_if_ne (pc := 8) (tgt := 17) C dX5_readAmount_8 (by decide) (fun c_3 => ?_) (fun c_3 => ?_)
  · skip
    have el_0 : (0 : Int32).toInt = 0 := rfl
    rw [i_eq] at c_3
    have k0c_3 : ((u_1.2.1 0)).toInt = 1 := by omega
    refine j_aload_n (pc := 17) C dX5_readAmount_17 rfl 0 rfl ?_
    refine j_get (pc := 18) (ci := 5) (v := .ref t0) C inw_5 0 rfl rfl 0 (by decide) wd_296 rfl rfl dX5_readAmount_18 ?_
    refine j_callV (pc := 21) (As := []) (rest := []) (wr := [(r0, .inr (5, [.ref t0, .ref e0, .ref r1, .ref r2, .ref a0, .int r_habits, .int r_fault])), (i1, .inl (cyI, 12, .inl i_f))]) C (c_X8_advance_f l D cyC cyI cyJ cyZ cyO t0 t1 t_length t_next t_kind t_place t_number t_text h_t_length h_t_next h_t_kind h_t_place h_t_text) wd_277 wd_258 wd_304 wd_279 wd_280 ⟨by decide, by decide, rfl⟩ rfl ⟨rfl, rfl, by decide, by decide⟩ ⟨by decide, by decide⟩ [2, 3] [0, 1] rfl rfl ⟨by decide, by decide, by decide⟩ 2 rfl rfl rfl (Nat.le_of_ble_eq_true rfl) dX5_readAmount_21 (fun u_4 hw_5 => ?_)
    refine j_eq (ws2 := [(r0, .inr (5, [.ref t0, .ref e0, .ref r1, .ref r2, .ref a0, .int r_habits, .int r_fault])), (i1, .inl (cyI, 12, .inl i_f)), (t0, .inr (8, [.ref t1, .int t_length, .int (u_4.2.1 0), .int (u_4.2.1 1), .int (u_4.2.1 2), .int (u_4.2.1 3)])), (t1, .inl (cyC, 1000, .inl t_text))]) (pc2 := 24) (lv2 := [(0, .ref r0), (1, .ref (D.2.1 i)), (2, .int p0), (3, .int p1), (4, .ref i1), (5, .int p3)]) (st2 := []) rfl rfl rfl rfl ?_
    obtain ⟨hw_5_0, hw_5_1, hw_5_2, hw_5_3, hw_5_4, hw_5_5⟩ := hw_5
    have ha_u_4 := (hw_5_5).trans (TH.adv hTH)
    refine j_aload_n (pc := 24) C dX5_readAmount_24 rfl 0 rfl ?_
    refine j_iload_n (pc := 25) C dX5_readAmount_25 rfl 2 rfl ?_
    refine j_iload_n (pc := 26) C dX5_readAmount_26 rfl 3 rfl ?_
    refine j_aload (pc := 27) C dX5_readAmount_27 4 rfl ?_
    refine j_iload (pc := 29) C dX5_readAmount_29 5 rfl ?_
    refine j_callV (pc := 31) (As := [.int p0, .int p1, .ref i1, .int p3]) (rest := []) (wr := []) C (c_X5_readNumber_12 l D cyC cyI cyJ cyZ cyO r0 t0 t1 i1 e0 r1 r2 a0 p0 p1 p3 r_habits r_fault t_length (u_4.2.1 0) (u_4.2.1 1) (u_4.2.1 2) (u_4.2.1 3) t_text i_f h_t_length hw_5_0 hw_5_1 hw_5_2 h_p3 h_t_text (by omega) hw_5_4) wd_313 wd_306 wd_314 wd_315 wd_316 ⟨by decide, by decide, rfl⟩ rfl ⟨rfl, rfl, by decide, by decide⟩ ⟨by decide, by decide⟩ [0, 2, 3, 1] [] rfl rfl ⟨by decide, by decide, by decide⟩ 0 rfl rfl rfl (Nat.le_of_ble_eq_true rfl) dX5_readAmount_31 (fun u_6 hw_7 => ?_)
    refine j_eq (ws2 := [(r0, .inr (5, [.ref t0, .ref e0, .ref r1, .ref r2, .ref a0, .int r_habits, .int (u_6.2.1 1)])), (t0, .inr (8, [.ref t1, .int t_length, .int (u_6.2.1 2), .int (u_6.2.1 3), .int (u_6.2.1 4), .int (u_6.2.1 5)])), (t1, .inl (cyC, 1000, .inl t_text)), (i1, .inl (cyI, 12, .inl (u_6.2.2.1 0)))]) (pc2 := 34) (lv2 := [(0, .ref r0), (1, .ref (D.2.1 i)), (2, .int p0), (3, .int p1), (4, .ref i1), (5, .int p3)]) (st2 := [.int (u_6.2.1 0)]) rfl rfl rfl rfl ?_
    obtain ⟨hw_7_0, hw_7_1, hw_7_2, hw_7_3, hw_7_4, hw_7_5, hw_7_6, hw_7_7, hw_7_8⟩ := hw_7
    exact j_zret (pc := 34) C hr (nb_01 ⟨by omega, by omega⟩).1 hk (fun i => [].getD i 0, fun i => [(u_6.2.1 0), (u_6.2.1 1), (u_6.2.1 2), (u_6.2.1 3), (u_6.2.1 4), (u_6.2.1 5)].getD i 0, fun i => [(u_6.2.2.1 0)].getD i (fun _ => 0), fun i => [].getD i (fun _ => 0)) rfl (show (0 ≤ ((u_6.2.1 0)).toInt ∧ ((u_6.2.1 0)).toInt ≤ 1) ∧ (0 ≤ ((u_6.2.1 2)).toInt ∧ ((u_6.2.1 2)).toInt ≤ 1000) ∧ (0 ≤ ((u_6.2.1 3)).toInt ∧ ((u_6.2.1 3)).toInt ≤ 4) ∧ (0 ≤ ((u_6.2.1 4)).toInt ∧ ((u_6.2.1 4)).toInt ≤ 1000) ∧ (¬ ((u_6.2.1 3)).toInt = 3 ∨ ((u_6.2.1 4)).toInt ≤ 999) ∧ (IM (((u_6.2.1 0)).toInt = 1) (((u_6.2.2.1 0) (p3).toInt.toNat).toInt = nb (TKS t_text (t_length).toInt.toNat) (nx (TKS t_text (t_length).toInt.toNat) (t_place).toInt.toNat))) ∧ (∀ j : Nat, ¬ j = (p3).toInt.toNat → (u_6.2.2.1 0) j = i_f j) ∧ (TH t_text (t_length).toInt.toNat ((u_6.2.1 2)).toInt ((u_6.2.1 3)).toInt ((u_6.2.1 4)).toInt ((u_6.2.1 5)).toInt) ∧ (CP ((u_6.2.1 0)).toInt ((u_6.2.1 4)).toInt ((u_6.2.1 1)).toInt (r_fault).toInt (rAmt (TKS t_text (t_length).toInt.toNat) (wnL i) (p0).toInt (p1).toInt (t_place).toInt.toNat)) from ⟨hw_7_0, hw_7_1, hw_7_2, hw_7_3, by omega, (fun h => by rw [← ha_u_4]; exact hw_7_5 h), hw_7_6, hw_7_7, (CP.mv hw_7_8 (by unfold rAmt; rw [if_pos (show isW (TKS t_text (t_length).toInt.toNat) (t_place).toInt.toNat (wnL i) = true from wI_1.mp (by have z9 := hw_2_1; omega)), ← ha_u_4]))⟩) [0, 1, 2, 3] (by decide) rfl (by decide) (by decide) dX5_readAmount_34
  · skip
    have el_0 : (0 : Int32).toInt = 0 := rfl
    rw [i_eq] at c_3
    refine j_aload_n (pc := 11) C dX5_readAmount_11 rfl 0 rfl ?_
    refine j_iconst (pc := 12) (v := 1) C dX5_readAmount_12 (by decide) ?_
    refine j_callV (pc := 13) (As := [.int 1]) (rest := []) (wr := [(i1, .inl (cyI, 12, .inl i_f)), (t1, .inl (cyC, 1000, .inl t_text))]) C (c_X5_wrong l D cyC cyI cyJ cyZ cyO r0 t0 e0 r1 r2 a0 t1 1 r_habits r_fault t_length t_next t_kind t_place t_number h_t_length h_t_next h_t_kind h_t_place (by decide)) wd_305 wd_306 wd_307 wd_308 wd_309 ⟨by decide, by decide, rfl⟩ rfl ⟨rfl, rfl, by decide, by decide⟩ ⟨by decide, by decide⟩ [0, 2] [1, 3] rfl rfl ⟨by decide, by decide, by decide⟩ 0 rfl rfl rfl (Nat.le_of_ble_eq_true rfl) dX5_readAmount_13 (fun u_8 hw_9 => ?_)
    refine j_eq (ws2 := [(i1, .inl (cyI, 12, .inl i_f)), (t1, .inl (cyC, 1000, .inl t_text)), (r0, .inr (5, [.ref t0, .ref e0, .ref r1, .ref r2, .ref a0, .int r_habits, .int (u_8.2.1 0)])), (t0, .inr (8, [.ref t1, .int t_length, .int t_next, .int t_kind, .int t_place, .int t_number]))]) (pc2 := 16) (lv2 := [(0, .ref r0), (1, .ref (D.2.1 i)), (2, .int p0), (3, .int p1), (4, .ref i1), (5, .int p3)]) (st2 := [.int 0]) rfl rfl rfl rfl ?_
    have hw_9_0 : ((u_8.2.1 0)).toInt = ((1 : Int32)).toInt + 16 * (t_place).toInt := hw_9
    have el_0 : (0 : Int32).toInt = 0 := rfl
    have el_0 : (0 : Int32).toInt = 0 := rfl
    have el_0 : (0 : Int32).toInt = 0 := rfl
    have el_0 : (0 : Int32).toInt = 0 := rfl
    have el_0 : (0 : Int32).toInt = 0 := rfl
    have el_0 : (0 : Int32).toInt = 0 := rfl
    have el_1 : (1 : Int32).toInt = 1 := rfl
    exact j_zret (pc := 16) C hr rfl hk (fun i => [].getD i 0, fun i => [0, (u_8.2.1 0), t_next, t_kind, t_place, t_number].getD i 0, fun i => [i_f].getD i (fun _ => 0), fun i => [].getD i (fun _ => 0)) rfl (show (0 ≤ ((0 : Int32)).toInt ∧ ((0 : Int32)).toInt ≤ 1) ∧ (0 ≤ (t_next).toInt ∧ (t_next).toInt ≤ 1000) ∧ (0 ≤ (t_kind).toInt ∧ (t_kind).toInt ≤ 4) ∧ (0 ≤ (t_place).toInt ∧ (t_place).toInt ≤ 1000) ∧ (¬ (t_kind).toInt = 3 ∨ (t_place).toInt ≤ 999) ∧ (IM (((0 : Int32)).toInt = 1) ((i_f (p3).toInt.toNat).toInt = nb (TKS t_text (t_length).toInt.toNat) (nx (TKS t_text (t_length).toInt.toNat) (t_place).toInt.toNat))) ∧ (∀ j : Nat, ¬ j = (p3).toInt.toNat → i_f j = i_f j) ∧ (TH t_text (t_length).toInt.toNat (t_next).toInt (t_kind).toInt (t_place).toInt (t_number).toInt) ∧ (CP ((0 : Int32)).toInt (t_place).toInt ((u_8.2.1 0)).toInt (r_fault).toInt (rAmt (TKS t_text (t_length).toInt.toNat) (wnL i) (p0).toInt (p1).toInt (t_place).toInt.toNat)) from ⟨by omega, h_t_next, h_t_kind, h_t_place, by omega, (fun h => absurd h (by decide)), (fun j hj => rfl), hTH, (CP.mv (CP.wr (k := 1) (by omega) (by omega) (by omega) (by omega)) (by unfold rAmt; rw [if_neg (show ¬ isW (TKS t_text (t_length).toInt.toNat) (t_place).toInt.toNat (wnL i) = true from wI_0.mp (by have z9 := hw_2_1; omega))]))⟩) [2, 3, 1, 0] (by decide) rfl (by decide) (by decide) dX5_readAmount_16
set_option maxHeartbeats 4000000 in
set_option maxRecDepth 100000 in
theorem c_X5_indexOf_12 (l : Launch) (D : DG) (cyC cyI cyJ cyZ cyO : ClassId) (j0 : Nat) (p1 : Int32) (p2 : Int64) (j_f : Nat → Int64) (h_p1 : 0 ≤ (p1).toInt ∧ (p1).toInt ≤ 12) : KK l D (TY cyC cyI cyJ cyZ cyO) yX5_indexOf cX5_indexOf 5 (some .int) ({ frames := 0, cells := 0, slots := 0, locals := 0 } : Room) 0 0 [.ref j0, .int p1, .long p2] [(j0, .inl (cyJ, 12, .inr (.inl j_f)))] (fun u => some (.int (u.2.1 0))) (fun u => (-1 ≤ (u.2.1 0).toInt ∧ (u.2.1 0).toInt ≤ 11) ∧ (IM ((u.2.1 0).toInt = -1) (∀ j : Nat, j < (p1).toInt.toNat → ¬ j_f j = p2)) ∧ (IM (0 ≤ (u.2.1 0).toInt) ((u.2.1 0).toInt.toNat < (p1).toInt.toNat ∧ j_f (u.2.1 0).toInt.toNat = p2 ∧ ∀ j : Nat, j < (u.2.1 0).toInt.toNat → ¬ j_f j = p2))) (fun u => [(j0, .inl (cyJ, 12, .inr (.inl j_f)))]) := by
  refine KK.of (lv0 := [(0, .ref j0), (1, .int p1), (2, .long p2)]) (by decide) rfl (Nat.le_of_ble_eq_true rfl) ?_
  intro p e s m args below meth c A C hr hk hin
  refine j_iconst (pc := 0) (v := 0) C dX5_indexOf_0 (by decide) ?_
  refine j_istore (pc := 1) (lv' := [(4, .int 0), (0, .ref j0), (1, .int p1), (2, .long p2)]) C dX5_indexOf_1 (by decide) rfl ?_
  have loop_1 : ∀ (k_1 : Nat) (x1_4 : Int32), (0 ≤ (x1_4).toInt ∧ (x1_4).toInt ≤ 12) → (∀ j : Nat, (j : Int) < x1_4.toInt → ¬ j_f j = p2) → (12 - x1_4.toInt).toNat < k_1 → J p l e ({ frames := 0, cells := 0, slots := 0, locals := 0 } : Room) s m args below meth c D A 5 0 0 (QX below D (TY cyC cyI cyJ cyZ cyO) A (fun u => some (.int (u.2.1 0))) (fun u => (-1 ≤ (u.2.1 0).toInt ∧ (u.2.1 0).toInt ≤ 11) ∧ (IM ((u.2.1 0).toInt = -1) (∀ j : Nat, j < (p1).toInt.toNat → ¬ j_f j = p2)) ∧ (IM (0 ≤ (u.2.1 0).toInt) ((u.2.1 0).toInt.toNat < (p1).toInt.toNat ∧ j_f (u.2.1 0).toInt.toNat = p2 ∧ ∀ j : Nat, j < (u.2.1 0).toInt.toNat → ¬ j_f j = p2))) (fun u => [(j0, .inl (cyJ, 12, .inr (.inl j_f)))]) args s 0 0) [(j0, .inl (cyJ, 12, .inr (.inl j_f)))] 3 [(4, .int x1_4), (0, .ref j0), (1, .int p1), (2, .long p2)] [] := by
    intro k_1
    induction k_1 with
    | zero =>
      intro x1_4 hi_1_0 hq_1_0 hm_1
      exact absurd hm_1 (Nat.not_lt_zero _)
    | succ k_1 ih_1 =>
      intro x1_4 hi_1_0 hq_1_0 hm_1
      refine j_iload (pc := 3) C dX5_indexOf_3 0 rfl ?_
      refine j_iload_n (pc := 5) C dX5_indexOf_5 rfl 2 rfl ?_
      refine j_icmp_ge (pc := 6) (tgt := 27) C dX5_indexOf_6 (by decide) (fun c_2 => ?_) (fun c_2 => ?_)
      · skip
        rw [i_le] at c_2
        refine j_iconst (pc := 27) (v := (-1)) C dX5_indexOf_27 (by decide) ?_
        have el_m1 : ((-1) : Int32).toInt = (-1) := rfl
        have el_m1 : ((-1) : Int32).toInt = (-1) := rfl
        have el_m1 : ((-1) : Int32).toInt = (-1) := rfl
        exact j_iret (pc := 28) C hr hk (fun i => [].getD i 0, fun i => [(-1)].getD i 0, fun i => [].getD i (fun _ => 0), fun i => [].getD i (fun _ => 0)) rfl (show (-1 ≤ (((-1) : Int32)).toInt ∧ (((-1) : Int32)).toInt ≤ 11) ∧ (IM (((-1) : Int32).toInt = -1) (∀ j : Nat, j < (p1).toInt.toNat → ¬ j_f j = p2)) ∧ (IM (0 ≤ ((-1) : Int32).toInt) (((-1) : Int32).toInt.toNat < (p1).toInt.toNat ∧ j_f ((-1) : Int32).toInt.toNat = p2 ∧ ∀ j : Nat, j < ((-1) : Int32).toInt.toNat → ¬ j_f j = p2)) from ⟨by omega, (fun _ j hj => hq_1_0 j (by omega)), (fun h => absurd h (by decide))⟩) [0] (by decide) rfl (by decide) (by decide) dX5_indexOf_28
      · skip
        rw [i_le] at c_2
        refine j_aload_n (pc := 9) C dX5_indexOf_9 rfl 1 rfl ?_
        refine j_iload (pc := 10) C dX5_indexOf_10 0 rfl ?_
        obtain ⟨v_3, ev_3⟩ : ∃ z, j_f (x1_4).toInt.toNat = z := ⟨_, rfl⟩
        refine j_lald (pc := 12) (v := v_3) (k := (x1_4).toInt.toNat) C 0 2 rfl rfl (i_nn hi_1_0.1) rfl (i_lt_n hi_1_0.1 (by omega)) ev_3 dX5_indexOf_12 ?_
        refine j_lload_n (pc := 13) C dX5_indexOf_13 rfl 3 rfl ?_
        obtain ⟨v_4, ev_4⟩ : ∃ z : Int32, lc v_3 p2 = z := ⟨_, rfl⟩
        have hv_4 := lc_eq ev_4
        refine j_lcmp (pc := 14) (v := v_4) C dX5_indexOf_14 ev_4 ?_
        refine j_if_ne (pc := 15) (tgt := 21) C dX5_indexOf_15 (by decide) (fun c_5 => ?_) (fun c_5 => ?_)
        · skip
          have el_0 : (0 : Int32).toInt = 0 := rfl
          rw [i_eq] at c_5
          obtain ⟨v_6, ev_6⟩ : ∃ z : Int32, x1_4 + 1 = z := ⟨_, rfl⟩
          have el_1 : (1 : Int32).toInt = 1 := rfl
          have hv_6 : v_6.toInt = x1_4.toInt + (1 : Int32).toInt := by rw [← ev_6]; exact fb_addI (by omega) (by omega)
          refine j_iinc (pc := 21) (v := v_6) (lv' := [(4, .int v_6), (0, .ref j0), (1, .int p1), (2, .long p2)]) C dX5_indexOf_21 0 rfl ev_6 (by decide) rfl ?_
          refine j_goto (pc := 24) (tgt := 3) C dX5_indexOf_24 (by decide) ?_
          exact j_lv [0, 1, 2, 3] rfl (ih_1 v_6 (by omega) (fun j hj => by rcases Int.lt_or_le (j : Int) (x1_4).toInt with q | q; (exact hq_1_0 j q); (rw [show j = (x1_4).toInt.toNat from (by omega), ev_3]; exact fun z => absurd ((hv_4).1.mpr z) (by rw [i_eq]; omega))) (by omega))
        · skip
          have el_0 : (0 : Int32).toInt = 0 := rfl
          rw [i_eq] at c_5
          refine j_iload (pc := 18) C dX5_indexOf_18 0 rfl ?_
          exact j_iret (pc := 20) C hr hk (fun i => [].getD i 0, fun i => [x1_4].getD i 0, fun i => [].getD i (fun _ => 0), fun i => [].getD i (fun _ => 0)) rfl (show (-1 ≤ (x1_4).toInt ∧ (x1_4).toInt ≤ 11) ∧ (IM (x1_4.toInt = -1) (∀ j : Nat, j < (p1).toInt.toNat → ¬ j_f j = p2)) ∧ (IM (0 ≤ x1_4.toInt) (x1_4.toInt.toNat < (p1).toInt.toNat ∧ j_f x1_4.toInt.toNat = p2 ∧ ∀ j : Nat, j < x1_4.toInt.toNat → ¬ j_f j = p2)) from ⟨by omega, (fun h => absurd h (by omega)), (fun _ => ⟨by omega, by (rw [show (x1_4).toInt.toNat = (x1_4).toInt.toNat from (by omega), ev_3]; exact (hv_4).1.mp ((i_eq _ _).mpr (by omega))), fun j hj => hq_1_0 j (by omega)⟩)⟩) [0] (by decide) rfl (by decide) (by decide) dX5_indexOf_20
  have el_0 : (0 : Int32).toInt = 0 := rfl
  exact j_lv [0, 1, 2, 3] rfl (loop_1 4096 0 (by decide) (fun j h0 => absurd h0 (by omega)) (by omega))
set_option maxHeartbeats 4000000 in
set_option maxRecDepth 100000 in
theorem c_X5_indexOf_4 (l : Launch) (D : DG) (cyC cyI cyJ cyZ cyO : ClassId) (j0 : Nat) (p1 : Int32) (p2 : Int64) (j_f : Nat → Int64) (h_p1 : 0 ≤ (p1).toInt ∧ (p1).toInt ≤ 4) : KK l D (TY cyC cyI cyJ cyZ cyO) yX5_indexOf cX5_indexOf 5 (some .int) ({ frames := 0, cells := 0, slots := 0, locals := 0 } : Room) 0 0 [.ref j0, .int p1, .long p2] [(j0, .inl (cyJ, 4, .inr (.inl j_f)))] (fun u => some (.int (u.2.1 0))) (fun u => (-1 ≤ (u.2.1 0).toInt ∧ (u.2.1 0).toInt ≤ 3) ∧ (IM ((u.2.1 0).toInt = -1) (∀ j : Nat, j < (p1).toInt.toNat → ¬ j_f j = p2)) ∧ (IM (0 ≤ (u.2.1 0).toInt) ((u.2.1 0).toInt.toNat < (p1).toInt.toNat ∧ j_f (u.2.1 0).toInt.toNat = p2 ∧ ∀ j : Nat, j < (u.2.1 0).toInt.toNat → ¬ j_f j = p2))) (fun u => [(j0, .inl (cyJ, 4, .inr (.inl j_f)))]) := by
  refine KK.of (lv0 := [(0, .ref j0), (1, .int p1), (2, .long p2)]) (by decide) rfl (Nat.le_of_ble_eq_true rfl) ?_
  intro p e s m args below meth c A C hr hk hin
  refine j_iconst (pc := 0) (v := 0) C dX5_indexOf_0 (by decide) ?_
  refine j_istore (pc := 1) (lv' := [(4, .int 0), (0, .ref j0), (1, .int p1), (2, .long p2)]) C dX5_indexOf_1 (by decide) rfl ?_
  have loop_1 : ∀ (k_1 : Nat) (x1_4 : Int32), (0 ≤ (x1_4).toInt ∧ (x1_4).toInt ≤ 4) → (∀ j : Nat, (j : Int) < x1_4.toInt → ¬ j_f j = p2) → (4 - x1_4.toInt).toNat < k_1 → J p l e ({ frames := 0, cells := 0, slots := 0, locals := 0 } : Room) s m args below meth c D A 5 0 0 (QX below D (TY cyC cyI cyJ cyZ cyO) A (fun u => some (.int (u.2.1 0))) (fun u => (-1 ≤ (u.2.1 0).toInt ∧ (u.2.1 0).toInt ≤ 3) ∧ (IM ((u.2.1 0).toInt = -1) (∀ j : Nat, j < (p1).toInt.toNat → ¬ j_f j = p2)) ∧ (IM (0 ≤ (u.2.1 0).toInt) ((u.2.1 0).toInt.toNat < (p1).toInt.toNat ∧ j_f (u.2.1 0).toInt.toNat = p2 ∧ ∀ j : Nat, j < (u.2.1 0).toInt.toNat → ¬ j_f j = p2))) (fun u => [(j0, .inl (cyJ, 4, .inr (.inl j_f)))]) args s 0 0) [(j0, .inl (cyJ, 4, .inr (.inl j_f)))] 3 [(4, .int x1_4), (0, .ref j0), (1, .int p1), (2, .long p2)] [] := by
    intro k_1
    induction k_1 with
    | zero =>
      intro x1_4 hi_1_0 hq_1_0 hm_1
      exact absurd hm_1 (Nat.not_lt_zero _)
    | succ k_1 ih_1 =>
      intro x1_4 hi_1_0 hq_1_0 hm_1
      refine j_iload (pc := 3) C dX5_indexOf_3 0 rfl ?_
      refine j_iload_n (pc := 5) C dX5_indexOf_5 rfl 2 rfl ?_
      refine j_icmp_ge (pc := 6) (tgt := 27) C dX5_indexOf_6 (by decide) (fun c_2 => ?_) (fun c_2 => ?_)
      · skip
        rw [i_le] at c_2
        refine j_iconst (pc := 27) (v := (-1)) C dX5_indexOf_27 (by decide) ?_
        have el_m1 : ((-1) : Int32).toInt = (-1) := rfl
        have el_m1 : ((-1) : Int32).toInt = (-1) := rfl
        have el_m1 : ((-1) : Int32).toInt = (-1) := rfl
        exact j_iret (pc := 28) C hr hk (fun i => [].getD i 0, fun i => [(-1)].getD i 0, fun i => [].getD i (fun _ => 0), fun i => [].getD i (fun _ => 0)) rfl (show (-1 ≤ (((-1) : Int32)).toInt ∧ (((-1) : Int32)).toInt ≤ 3) ∧ (IM (((-1) : Int32).toInt = -1) (∀ j : Nat, j < (p1).toInt.toNat → ¬ j_f j = p2)) ∧ (IM (0 ≤ ((-1) : Int32).toInt) (((-1) : Int32).toInt.toNat < (p1).toInt.toNat ∧ j_f ((-1) : Int32).toInt.toNat = p2 ∧ ∀ j : Nat, j < ((-1) : Int32).toInt.toNat → ¬ j_f j = p2)) from ⟨by omega, (fun _ j hj => hq_1_0 j (by omega)), (fun h => absurd h (by decide))⟩) [0] (by decide) rfl (by decide) (by decide) dX5_indexOf_28
      · skip
        rw [i_le] at c_2
        refine j_aload_n (pc := 9) C dX5_indexOf_9 rfl 1 rfl ?_
        refine j_iload (pc := 10) C dX5_indexOf_10 0 rfl ?_
        obtain ⟨v_3, ev_3⟩ : ∃ z, j_f (x1_4).toInt.toNat = z := ⟨_, rfl⟩
        refine j_lald (pc := 12) (v := v_3) (k := (x1_4).toInt.toNat) C 0 2 rfl rfl (i_nn hi_1_0.1) rfl (i_lt_n hi_1_0.1 (by omega)) ev_3 dX5_indexOf_12 ?_
        refine j_lload_n (pc := 13) C dX5_indexOf_13 rfl 3 rfl ?_
        obtain ⟨v_4, ev_4⟩ : ∃ z : Int32, lc v_3 p2 = z := ⟨_, rfl⟩
        have hv_4 := lc_eq ev_4
        refine j_lcmp (pc := 14) (v := v_4) C dX5_indexOf_14 ev_4 ?_
        refine j_if_ne (pc := 15) (tgt := 21) C dX5_indexOf_15 (by decide) (fun c_5 => ?_) (fun c_5 => ?_)
        · skip
          have el_0 : (0 : Int32).toInt = 0 := rfl
          rw [i_eq] at c_5
          obtain ⟨v_6, ev_6⟩ : ∃ z : Int32, x1_4 + 1 = z := ⟨_, rfl⟩
          have el_1 : (1 : Int32).toInt = 1 := rfl
          have hv_6 : v_6.toInt = x1_4.toInt + (1 : Int32).toInt := by rw [← ev_6]; exact fb_addI (by omega) (by omega)
          refine j_iinc (pc := 21) (v := v_6) (lv' := [(4, .int v_6), (0, .ref j0), (1, .int p1), (2, .long p2)]) C dX5_indexOf_21 0 rfl ev_6 (by decide) rfl ?_
          refine j_goto (pc := 24) (tgt := 3) C dX5_indexOf_24 (by decide) ?_
          exact j_lv [0, 1, 2, 3] rfl (ih_1 v_6 (by omega) (fun j hj => by rcases Int.lt_or_le (j : Int) (x1_4).toInt with q | q; (exact hq_1_0 j q); (rw [show j = (x1_4).toInt.toNat from (by omega), ev_3]; exact fun z => absurd ((hv_4).1.mpr z) (by rw [i_eq]; omega))) (by omega))
        · skip
          have el_0 : (0 : Int32).toInt = 0 := rfl
          rw [i_eq] at c_5
          refine j_iload (pc := 18) C dX5_indexOf_18 0 rfl ?_
          exact j_iret (pc := 20) C hr hk (fun i => [].getD i 0, fun i => [x1_4].getD i 0, fun i => [].getD i (fun _ => 0), fun i => [].getD i (fun _ => 0)) rfl (show (-1 ≤ (x1_4).toInt ∧ (x1_4).toInt ≤ 3) ∧ (IM (x1_4.toInt = -1) (∀ j : Nat, j < (p1).toInt.toNat → ¬ j_f j = p2)) ∧ (IM (0 ≤ x1_4.toInt) (x1_4.toInt.toNat < (p1).toInt.toNat ∧ j_f x1_4.toInt.toNat = p2 ∧ ∀ j : Nat, j < x1_4.toInt.toNat → ¬ j_f j = p2)) from ⟨by omega, (fun h => absurd h (by omega)), (fun _ => ⟨by omega, by (rw [show (x1_4).toInt.toNat = (x1_4).toInt.toNat from (by omega), ev_3]; exact (hv_4).1.mp ((i_eq _ _).mpr (by omega))), fun j hj => hq_1_0 j (by omega)⟩)⟩) [0] (by decide) rfl (by decide) (by decide) dX5_indexOf_20
  have el_0 : (0 : Int32).toInt = 0 := rfl
  exact j_lv [0, 1, 2, 3] rfl (loop_1 4096 0 (by decide) (fun j h0 => absurd h0 (by omega)) (by omega))
set_option maxHeartbeats 4000000 in
set_option maxRecDepth 100000 in
theorem c_X5_readNewName_w (l : Launch) (D : DG) (cyC cyI cyJ cyZ cyO : ClassId) (r0 : Nat) (r1 : Nat) (r2 : Nat) (t0 : Nat) (t1 : Nat) (a0 : Nat) (e0 : Nat) (a1 : Nat) (a2 : Nat) (a3 : Nat) (a4 : Nat) (a5 : Nat) (a6 : Nat) (a7 : Nat) (a8 : Nat) (a9 : Nat) (a10 : Nat) (p1 : Int32) (r_habits : Int32) (r_fault : Int32) (t_length : Int32) (t_next : Int32) (t_kind : Int32) (t_place : Int32) (t_number : Int32) (a_wares : Int32) (a_shelves : Int32) (a_nests : Int32) (a_lids : Int32) (a_tops : Int32) (r_wn : Nat → Int64) (r_sn : Nat → Int64) (t_text : Nat → Int32) (S : ((Nat → Int64) × Nat × (Nat → Int64) × Nat × (Nat → Bool) × (Nat → Bool) × Nat)) (h_t_length : 0 ≤ (t_length).toInt ∧ (t_length).toInt ≤ 1000) (h_t_next : 0 ≤ (t_next).toInt ∧ (t_next).toInt ≤ 1000) (h_t_kind : 0 ≤ (t_kind).toInt ∧ (t_kind).toInt ≤ 4) (h_t_place : 0 ≤ (t_place).toInt ∧ (t_place).toInt ≤ 1000) (h_a_wares : 0 ≤ (a_wares).toInt ∧ (a_wares).toInt ≤ 12) (h_a_shelves : 0 ≤ (a_shelves).toInt ∧ (a_shelves).toInt ≤ 4) (h_a_nests : 0 ≤ (a_nests).toInt ∧ (a_nests).toInt ≤ 4) (h_p1 : 0 ≤ (p1).toInt ∧ (p1).toInt ≤ 11) (h_t_text : Iv 1000 (0) (126) t_text) (ht3 : ¬ (t_kind).toInt = 3 ∨ (t_place).toInt ≤ 999) (hTH : TH t_text (t_length).toInt.toNat (t_next).toInt (t_kind).toInt (t_place).toInt (t_number).toInt) (hCN : CN r_wn r_sn (a_wares).toInt (a_shelves).toInt S) : KK l D (TY cyC cyI cyJ cyZ cyO) yX5_readNewName cX5_readNewName 5 (some .boolean) ({ frames := 6, cells := 0, slots := 0, locals := 130 } : Room) 0 0 [.ref r0, .ref r1, .int p1] [(r0, .inr (5, [.ref t0, .ref e0, .ref r1, .ref r2, .ref a0, .int r_habits, .int r_fault])), (r1, .inl (cyJ, 12, .inr (.inl r_wn))), (r2, .inl (cyJ, 4, .inr (.inl r_sn))), (t0, .inr (8, [.ref t1, .int t_length, .int t_next, .int t_kind, .int t_place, .int t_number])), (t1, .inl (cyC, 1000, .inl t_text)), (a0, .inr (9, [.int a_wares, .int a_shelves, .int a_nests, .ref a1, .ref a2, .ref a3, .ref a4, .ref a5, .ref a6, .int a_lids, .int a_tops, .ref a7, .ref a8, .ref a9, .ref a10]))] (fun u => some (.int (u.2.1 0))) (fun u => (0 ≤ (u.2.1 0).toInt ∧ (u.2.1 0).toInt ≤ 1) ∧ (0 ≤ (u.2.1 2).toInt ∧ (u.2.1 2).toInt ≤ 1000) ∧ (0 ≤ (u.2.1 3).toInt ∧ (u.2.1 3).toInt ≤ 4) ∧ (0 ≤ (u.2.1 4).toInt ∧ (u.2.1 4).toInt ≤ 1000) ∧ (¬ ((u.2.1 3)).toInt = 3 ∨ ((u.2.1 4)).toInt ≤ 999) ∧ (TH t_text (t_length).toInt.toNat ((u.2.1 2)).toInt ((u.2.1 3)).toInt ((u.2.1 4)).toInt ((u.2.1 5)).toInt) ∧ (CP ((u.2.1 0)).toInt ((u.2.1 4)).toInt ((u.2.1 1)).toInt (r_fault).toInt (rNew (TKS t_text (t_length).toInt.toNat) S (nx (TKS t_text (t_length).toInt.toNat) (t_place).toInt.toNat))) ∧ (∀ j : Nat, ¬ j = (p1).toInt.toNat → (u.2.2.2 0) j = r_wn j) ∧ (IM (((u.2.1 0)).toInt = 1) (NMR ((u.2.2.2 0) (p1).toInt.toNat) ((TKS t_text (t_length).toInt.toNat) (nx (TKS t_text (t_length).toInt.toNat) (t_place).toInt.toNat)).2.1))) (fun u => [(r0, .inr (5, [.ref t0, .ref e0, .ref r1, .ref r2, .ref a0, .int r_habits, .int (u.2.1 1)])), (r1, .inl (cyJ, 12, .inr (.inl (u.2.2.2 0)))), (r2, .inl (cyJ, 4, .inr (.inl r_sn))), (t0, .inr (8, [.ref t1, .int t_length, .int (u.2.1 2), .int (u.2.1 3), .int (u.2.1 4), .int (u.2.1 5)])), (t1, .inl (cyC, 1000, .inl t_text)), (a0, .inr (9, [.int a_wares, .int a_shelves, .int a_nests, .ref a1, .ref a2, .ref a3, .ref a4, .ref a5, .ref a6, .int a_lids, .int a_tops, .ref a7, .ref a8, .ref a9, .ref a10]))]) := by
  refine KK.of (lv0 := [(0, .ref r0), (1, .ref r1), (2, .int p1)]) (by decide) rfl (Nat.le_of_ble_eq_true rfl) ?_
  intro p e s m args below meth c A C hr hk hin
  refine j_aload_n (pc := 0) C dX5_readNewName_0 rfl 0 rfl ?_
  refine j_get (pc := 1) (ci := 5) (v := .ref t0) C inw_5 0 rfl rfl 0 (by decide) wd_296 rfl rfl dX5_readNewName_1 ?_
  refine j_callV (pc := 4) (As := []) (rest := []) (wr := [(r0, .inr (5, [.ref t0, .ref e0, .ref r1, .ref r2, .ref a0, .int r_habits, .int r_fault])), (r1, .inl (cyJ, 12, .inr (.inl r_wn))), (r2, .inl (cyJ, 4, .inr (.inl r_sn))), (a0, .inr (9, [.int a_wares, .int a_shelves, .int a_nests, .ref a1, .ref a2, .ref a3, .ref a4, .ref a5, .ref a6, .int a_lids, .int a_tops, .ref a7, .ref a8, .ref a9, .ref a10]))]) C (c_X8_advance_f l D cyC cyI cyJ cyZ cyO t0 t1 t_length t_next t_kind t_place t_number t_text h_t_length h_t_next h_t_kind h_t_place h_t_text) wd_277 wd_258 wd_304 wd_279 wd_280 ⟨by decide, by decide, rfl⟩ rfl ⟨rfl, rfl, by decide, by decide⟩ ⟨by decide, by decide⟩ [3, 4] [0, 1, 2, 5] rfl rfl ⟨by decide, by decide, by decide⟩ 3 rfl rfl rfl (Nat.le_of_ble_eq_true rfl) dX5_readNewName_4 (fun u_1 hw_2 => ?_)
  refine j_eq (ws2 := [(r0, .inr (5, [.ref t0, .ref e0, .ref r1, .ref r2, .ref a0, .int r_habits, .int r_fault])), (r1, .inl (cyJ, 12, .inr (.inl r_wn))), (r2, .inl (cyJ, 4, .inr (.inl r_sn))), (a0, .inr (9, [.int a_wares, .int a_shelves, .int a_nests, .ref a1, .ref a2, .ref a3, .ref a4, .ref a5, .ref a6, .int a_lids, .int a_tops, .ref a7, .ref a8, .ref a9, .ref a10])), (t0, .inr (8, [.ref t1, .int t_length, .int (u_1.2.1 0), .int (u_1.2.1 1), .int (u_1.2.1 2), .int (u_1.2.1 3)])), (t1, .inl (cyC, 1000, .inl t_text))]) (pc2 := 7) (lv2 := [(0, .ref r0), (1, .ref r1), (2, .int p1)]) (st2 := []) rfl rfl rfl rfl ?_
  obtain ⟨hw_2_0, hw_2_1, hw_2_2, hw_2_3, hw_2_4, hw_2_5⟩ := hw_2
  have ha_u_1 := (hw_2_5).trans (TH.adv hTH)
  refine j_aload_n (pc := 7) C dX5_readNewName_7 rfl 0 rfl ?_
  refine j_get (pc := 8) (ci := 5) (v := .ref t0) C inw_5 0 rfl rfl 0 (by decide) wd_296 rfl rfl dX5_readNewName_8 ?_
  refine j_callV (pc := 11) (As := []) (rest := []) (wr := [(r0, .inr (5, [.ref t0, .ref e0, .ref r1, .ref r2, .ref a0, .int r_habits, .int r_fault])), (r1, .inl (cyJ, 12, .inr (.inl r_wn))), (r2, .inl (cyJ, 4, .inr (.inl r_sn))), (a0, .inr (9, [.int a_wares, .int a_shelves, .int a_nests, .ref a1, .ref a2, .ref a3, .ref a4, .ref a5, .ref a6, .int a_lids, .int a_tops, .ref a7, .ref a8, .ref a9, .ref a10]))]) C (c_X8_isName_f l D cyC cyI cyJ cyZ cyO t0 t1 t_length (u_1.2.1 0) (u_1.2.1 1) (u_1.2.1 2) (u_1.2.1 3) t_text h_t_length hw_2_0 hw_2_1 hw_2_2 h_t_text hw_2_4) wd_317 wd_258 wd_318 wd_319 wd_320 ⟨by decide, by decide, rfl⟩ rfl ⟨rfl, rfl, by decide, by decide⟩ ⟨by decide, by decide⟩ [4, 5] [0, 1, 2, 3] rfl rfl ⟨by decide, by decide, by decide⟩ 4 rfl rfl rfl (Nat.le_of_ble_eq_true rfl) dX5_readNewName_11 (fun u_3 hw_4 => ?_)
  refine j_eq (ws2 := [(r0, .inr (5, [.ref t0, .ref e0, .ref r1, .ref r2, .ref a0, .int r_habits, .int r_fault])), (r1, .inl (cyJ, 12, .inr (.inl r_wn))), (r2, .inl (cyJ, 4, .inr (.inl r_sn))), (a0, .inr (9, [.int a_wares, .int a_shelves, .int a_nests, .ref a1, .ref a2, .ref a3, .ref a4, .ref a5, .ref a6, .int a_lids, .int a_tops, .ref a7, .ref a8, .ref a9, .ref a10])), (t0, .inr (8, [.ref t1, .int t_length, .int (u_1.2.1 0), .int (u_1.2.1 1), .int (u_1.2.1 2), .int (u_1.2.1 3)])), (t1, .inl (cyC, 1000, .inl t_text))]) (pc2 := 14) (lv2 := [(0, .ref r0), (1, .ref r1), (2, .int p1)]) (st2 := [.int (u_3.2.1 0)]) rfl rfl rfl rfl ?_
  obtain ⟨hw_4_0, hw_4_1, hw_4_2⟩ := hw_4
  refine j_if_ne (pc := 14) (tgt := 23) C dX5_readNewName_14 (by decide) (fun c_5 => ?_) (fun c_5 => ?_)
  · skip
    have el_0 : (0 : Int32).toInt = 0 := rfl
    rw [i_eq] at c_5
    have k0c_5 : ((u_3.2.1 0)).toInt = 1 := by omega
    refine j_aload_n (pc := 23) C dX5_readNewName_23 rfl 0 rfl ?_
    refine j_get (pc := 24) (ci := 5) (v := .ref t0) C inw_5 0 rfl rfl 0 (by decide) wd_296 rfl rfl dX5_readNewName_24 ?_
    refine j_callV (pc := 27) (As := []) (rest := []) (wr := [(r0, .inr (5, [.ref t0, .ref e0, .ref r1, .ref r2, .ref a0, .int r_habits, .int r_fault])), (r1, .inl (cyJ, 12, .inr (.inl r_wn))), (r2, .inl (cyJ, 4, .inr (.inl r_sn))), (a0, .inr (9, [.int a_wares, .int a_shelves, .int a_nests, .ref a1, .ref a2, .ref a3, .ref a4, .ref a5, .ref a6, .int a_lids, .int a_tops, .ref a7, .ref a8, .ref a9, .ref a10]))]) C (c_X8_code_f l D cyC cyI cyJ cyZ cyO t0 t1 t_length (u_1.2.1 0) (u_1.2.1 1) (u_1.2.1 2) (u_1.2.1 3) t_text h_t_length hw_2_0 hw_2_1 hw_2_2 h_t_text (by omega) hw_2_4) wd_321 wd_258 wd_322 wd_323 wd_324 ⟨by decide, by decide, rfl⟩ rfl ⟨rfl, rfl, by decide, by decide⟩ ⟨by decide, by decide⟩ [4, 5] [0, 1, 2, 3] rfl rfl ⟨by decide, by decide, by decide⟩ 4 rfl rfl rfl (Nat.le_of_ble_eq_true rfl) dX5_readNewName_27 (fun u_6 hw_7 => ?_)
    refine j_eq (ws2 := [(r0, .inr (5, [.ref t0, .ref e0, .ref r1, .ref r2, .ref a0, .int r_habits, .int r_fault])), (r1, .inl (cyJ, 12, .inr (.inl r_wn))), (r2, .inl (cyJ, 4, .inr (.inl r_sn))), (a0, .inr (9, [.int a_wares, .int a_shelves, .int a_nests, .ref a1, .ref a2, .ref a3, .ref a4, .ref a5, .ref a6, .int a_lids, .int a_tops, .ref a7, .ref a8, .ref a9, .ref a10])), (t0, .inr (8, [.ref t1, .int t_length, .int (u_1.2.1 0), .int (u_1.2.1 1), .int (u_1.2.1 2), .int (u_1.2.1 3)])), (t1, .inl (cyC, 1000, .inl t_text))]) (pc2 := 30) (lv2 := [(0, .ref r0), (1, .ref r1), (2, .int p1)]) (st2 := [.long (u_6.2.2.2 0 0)]) rfl rfl rfl rfl ?_
    have hw_7_0 : NMR (u_6.2.2.2 0 0) ((TKS t_text (t_length).toInt.toNat) ((u_1.2.1 2)).toInt.toNat).2.1 := hw_7
    refine j_lstore_n (pc := 30) (lv' := [(3, .long (u_6.2.2.2 0 0)), (0, .ref r0), (1, .ref r1), (2, .int p1)]) C dX5_readNewName_30 rfl (by decide) rfl ?_
    refine j_aload_n (pc := 31) C dX5_readNewName_31 rfl 1 rfl ?_
    refine j_get (pc := 32) (ci := 5) (v := .ref r1) C inw_5 0 rfl rfl 2 (by decide) wd_325 rfl rfl dX5_readNewName_32 ?_
    refine j_aload_n (pc := 35) C dX5_readNewName_35 rfl 1 rfl ?_
    refine j_get (pc := 36) (ci := 5) (v := .ref a0) C inw_5 0 rfl rfl 4 (by decide) wd_299 rfl rfl dX5_readNewName_36 ?_
    refine j_get (pc := 39) (ci := 9) (v := .int a_wares) C inw_9 3 rfl rfl 0 (by decide) wd_326 rfl rfl dX5_readNewName_39 ?_
    refine j_lload_n (pc := 42) C dX5_readNewName_42 rfl 0 rfl ?_
    refine j_callS (pc := 43) (As := [.ref r1, .int a_wares, .long (u_6.2.2.2 0 0)]) (rest := []) (wr := [(r0, .inr (5, [.ref t0, .ref e0, .ref r1, .ref r2, .ref a0, .int r_habits, .int r_fault])), (r2, .inl (cyJ, 4, .inr (.inl r_sn))), (a0, .inr (9, [.int a_wares, .int a_shelves, .int a_nests, .ref a1, .ref a2, .ref a3, .ref a4, .ref a5, .ref a6, .int a_lids, .int a_tops, .ref a7, .ref a8, .ref a9, .ref a10])), (t0, .inr (8, [.ref t1, .int t_length, .int (u_1.2.1 0), .int (u_1.2.1 1), .int (u_1.2.1 2), .int (u_1.2.1 3)])), (t1, .inl (cyC, 1000, .inl t_text))]) C (c_X5_indexOf_12 l D cyC cyI cyJ cyZ cyO r1 a_wares (u_6.2.2.2 0 0) r_wn h_a_wares) wd_327 wd_306 wd_328 wd_329 ⟨by decide, by decide, rfl⟩ rfl ⟨rfl, rfl, by decide, by decide⟩ ⟨by decide, by decide⟩ [1] [0, 2, 3, 4, 5] rfl rfl ⟨by decide, by decide, by decide⟩ rfl (Nat.le_of_ble_eq_true rfl) dX5_readNewName_43 (fun u_8 hw_9 => ?_)
    refine j_eq (ws2 := [(r0, .inr (5, [.ref t0, .ref e0, .ref r1, .ref r2, .ref a0, .int r_habits, .int r_fault])), (r2, .inl (cyJ, 4, .inr (.inl r_sn))), (a0, .inr (9, [.int a_wares, .int a_shelves, .int a_nests, .ref a1, .ref a2, .ref a3, .ref a4, .ref a5, .ref a6, .int a_lids, .int a_tops, .ref a7, .ref a8, .ref a9, .ref a10])), (t0, .inr (8, [.ref t1, .int t_length, .int (u_1.2.1 0), .int (u_1.2.1 1), .int (u_1.2.1 2), .int (u_1.2.1 3)])), (t1, .inl (cyC, 1000, .inl t_text)), (r1, .inl (cyJ, 12, .inr (.inl r_wn)))]) (pc2 := 46) (lv2 := [(3, .long (u_6.2.2.2 0 0)), (0, .ref r0), (1, .ref r1), (2, .int p1)]) (st2 := [.int (u_8.2.1 0)]) rfl rfl rfl rfl ?_
    obtain ⟨hw_9_0, hw_9_1, hw_9_2⟩ := hw_9
    refine j_iconst (pc := 46) (v := (-1)) C dX5_readNewName_46 (by decide) ?_
    refine j_icmp_ne (pc := 47) (tgt := 69) C dX5_readNewName_47 (by decide) (fun c_10 => ?_) (fun c_10 => ?_)
    · skip
      have el_m1 : ((-1) : Int32).toInt = (-1) := rfl
      rw [i_eq] at c_10
      refine j_aload_n (pc := 69) C dX5_readNewName_69 rfl 1 rfl ?_
      refine j_iconst (pc := 70) (v := 3) C dX5_readNewName_70 (by decide) ?_
      refine j_callV (pc := 71) (As := [.int 3]) (rest := []) (wr := [(r2, .inl (cyJ, 4, .inr (.inl r_sn))), (a0, .inr (9, [.int a_wares, .int a_shelves, .int a_nests, .ref a1, .ref a2, .ref a3, .ref a4, .ref a5, .ref a6, .int a_lids, .int a_tops, .ref a7, .ref a8, .ref a9, .ref a10])), (t1, .inl (cyC, 1000, .inl t_text)), (r1, .inl (cyJ, 12, .inr (.inl r_wn)))]) C (c_X5_wrong l D cyC cyI cyJ cyZ cyO r0 t0 e0 r1 r2 a0 t1 3 r_habits r_fault t_length (u_1.2.1 0) (u_1.2.1 1) (u_1.2.1 2) (u_1.2.1 3) h_t_length hw_2_0 hw_2_1 hw_2_2 (by decide)) wd_305 wd_306 wd_307 wd_308 wd_309 ⟨by decide, by decide, rfl⟩ rfl ⟨rfl, rfl, by decide, by decide⟩ ⟨by decide, by decide⟩ [0, 3] [1, 2, 4, 5] rfl rfl ⟨by decide, by decide, by decide⟩ 0 rfl rfl rfl (Nat.le_of_ble_eq_true rfl) dX5_readNewName_71 (fun u_11 hw_12 => ?_)
      refine j_eq (ws2 := [(r2, .inl (cyJ, 4, .inr (.inl r_sn))), (a0, .inr (9, [.int a_wares, .int a_shelves, .int a_nests, .ref a1, .ref a2, .ref a3, .ref a4, .ref a5, .ref a6, .int a_lids, .int a_tops, .ref a7, .ref a8, .ref a9, .ref a10])), (t1, .inl (cyC, 1000, .inl t_text)), (r1, .inl (cyJ, 12, .inr (.inl r_wn))), (r0, .inr (5, [.ref t0, .ref e0, .ref r1, .ref r2, .ref a0, .int r_habits, .int (u_11.2.1 0)])), (t0, .inr (8, [.ref t1, .int t_length, .int (u_1.2.1 0), .int (u_1.2.1 1), .int (u_1.2.1 2), .int (u_1.2.1 3)]))]) (pc2 := 74) (lv2 := [(3, .long (u_6.2.2.2 0 0)), (0, .ref r0), (1, .ref r1), (2, .int p1)]) (st2 := [.int 0]) rfl rfl rfl rfl ?_
      have hw_12_0 : ((u_11.2.1 0)).toInt = ((3 : Int32)).toInt + 16 * ((u_1.2.1 2)).toInt := hw_12
      have el_0 : (0 : Int32).toInt = 0 := rfl
      have el_0 : (0 : Int32).toInt = 0 := rfl
      have el_0 : (0 : Int32).toInt = 0 := rfl
      have el_0 : (0 : Int32).toInt = 0 := rfl
      have el_3 : (3 : Int32).toInt = 3 := rfl
      have el_0 : (0 : Int32).toInt = 0 := rfl
      have el_0 : (0 : Int32).toInt = 0 := rfl
      exact j_zret (pc := 74) C hr rfl hk (fun i => [].getD i 0, fun i => [0, (u_11.2.1 0), (u_1.2.1 0), (u_1.2.1 1), (u_1.2.1 2), (u_1.2.1 3)].getD i 0, fun i => [].getD i (fun _ => 0), fun i => [r_wn].getD i (fun _ => 0)) rfl (show (0 ≤ ((0 : Int32)).toInt ∧ ((0 : Int32)).toInt ≤ 1) ∧ (0 ≤ ((u_1.2.1 0)).toInt ∧ ((u_1.2.1 0)).toInt ≤ 1000) ∧ (0 ≤ ((u_1.2.1 1)).toInt ∧ ((u_1.2.1 1)).toInt ≤ 4) ∧ (0 ≤ ((u_1.2.1 2)).toInt ∧ ((u_1.2.1 2)).toInt ≤ 1000) ∧ (¬ ((u_1.2.1 1)).toInt = 3 ∨ ((u_1.2.1 2)).toInt ≤ 999) ∧ (TH t_text (t_length).toInt.toNat ((u_1.2.1 0)).toInt ((u_1.2.1 1)).toInt ((u_1.2.1 2)).toInt ((u_1.2.1 3)).toInt) ∧ (CP ((0 : Int32)).toInt ((u_1.2.1 2)).toInt ((u_11.2.1 0)).toInt (r_fault).toInt (rNew (TKS t_text (t_length).toInt.toNat) S (nx (TKS t_text (t_length).toInt.toNat) (t_place).toInt.toNat))) ∧ (∀ j : Nat, ¬ j = (p1).toInt.toNat → r_wn j = r_wn j) ∧ (IM (((0 : Int32)).toInt = 1) (NMR (r_wn (p1).toInt.toNat) ((TKS t_text (t_length).toInt.toNat) (nx (TKS t_text (t_length).toInt.toNat) (t_place).toInt.toNat)).2.1)) from ⟨by omega, hw_2_0, hw_2_1, hw_2_2, by omega, hw_2_4, (CP.mv (CP.wr (k := 3) (by omega) (by omega) (by omega) (by omega)) (by have hc1 := hCN.1; have hc2 := hCN.2.1; have hy0 := hw_9_2 (by omega); have hf0 : fnd S.1 S.2.1 ((TKS t_text (t_length).toInt.toNat) ((u_1.2.1 2)).toInt.toNat).2.1 = (u_8.2.1 0).toInt.toNat := FX2 hCN.2.2.1 hw_7_0 (by omega) hy0.2.1 hy0.2.2; rw [← ha_u_1]; unfold rNew; rw [if_pos (show isNm (TKS t_text (t_length).toInt.toNat) ((u_1.2.1 2)).toInt.toNat = true from nmI_1.mp (by omega)), if_pos (by omega)])), (fun j hj => rfl), (fun h => absurd h (by decide))⟩) [4, 3, 0, 5, 2, 1] (by decide) rfl (by decide) (by decide) dX5_readNewName_74
    · skip
      have el_m1 : ((-1) : Int32).toInt = (-1) := rfl
      rw [i_eq] at c_10
      refine j_aload_n (pc := 50) C dX5_readNewName_50 rfl 1 rfl ?_
      refine j_get (pc := 51) (ci := 5) (v := .ref r2) C inw_5 0 rfl rfl 3 (by decide) wd_330 rfl rfl dX5_readNewName_51 ?_
      refine j_aload_n (pc := 54) C dX5_readNewName_54 rfl 1 rfl ?_
      refine j_get (pc := 55) (ci := 5) (v := .ref a0) C inw_5 0 rfl rfl 4 (by decide) wd_299 rfl rfl dX5_readNewName_55 ?_
      refine j_get (pc := 58) (ci := 9) (v := .int a_shelves) C inw_9 2 rfl rfl 1 (by decide) wd_331 rfl rfl dX5_readNewName_58 ?_
      refine j_lload_n (pc := 61) C dX5_readNewName_61 rfl 0 rfl ?_
      refine j_callS (pc := 62) (As := [.ref r2, .int a_shelves, .long (u_6.2.2.2 0 0)]) (rest := []) (wr := [(r0, .inr (5, [.ref t0, .ref e0, .ref r1, .ref r2, .ref a0, .int r_habits, .int r_fault])), (a0, .inr (9, [.int a_wares, .int a_shelves, .int a_nests, .ref a1, .ref a2, .ref a3, .ref a4, .ref a5, .ref a6, .int a_lids, .int a_tops, .ref a7, .ref a8, .ref a9, .ref a10])), (t0, .inr (8, [.ref t1, .int t_length, .int (u_1.2.1 0), .int (u_1.2.1 1), .int (u_1.2.1 2), .int (u_1.2.1 3)])), (t1, .inl (cyC, 1000, .inl t_text)), (r1, .inl (cyJ, 12, .inr (.inl r_wn)))]) C (c_X5_indexOf_4 l D cyC cyI cyJ cyZ cyO r2 a_shelves (u_6.2.2.2 0 0) r_sn h_a_shelves) wd_327 wd_306 wd_328 wd_329 ⟨by decide, by decide, rfl⟩ rfl ⟨rfl, rfl, by decide, by decide⟩ ⟨by decide, by decide⟩ [1] [0, 2, 3, 4, 5] rfl rfl ⟨by decide, by decide, by decide⟩ rfl (Nat.le_of_ble_eq_true rfl) dX5_readNewName_62 (fun u_13 hw_14 => ?_)
      refine j_eq (ws2 := [(r0, .inr (5, [.ref t0, .ref e0, .ref r1, .ref r2, .ref a0, .int r_habits, .int r_fault])), (a0, .inr (9, [.int a_wares, .int a_shelves, .int a_nests, .ref a1, .ref a2, .ref a3, .ref a4, .ref a5, .ref a6, .int a_lids, .int a_tops, .ref a7, .ref a8, .ref a9, .ref a10])), (t0, .inr (8, [.ref t1, .int t_length, .int (u_1.2.1 0), .int (u_1.2.1 1), .int (u_1.2.1 2), .int (u_1.2.1 3)])), (t1, .inl (cyC, 1000, .inl t_text)), (r1, .inl (cyJ, 12, .inr (.inl r_wn))), (r2, .inl (cyJ, 4, .inr (.inl r_sn)))]) (pc2 := 65) (lv2 := [(3, .long (u_6.2.2.2 0 0)), (0, .ref r0), (1, .ref r1), (2, .int p1)]) (st2 := [.int (u_13.2.1 0)]) rfl rfl rfl rfl ?_
      obtain ⟨hw_14_0, hw_14_1, hw_14_2⟩ := hw_14
      refine j_iconst (pc := 65) (v := (-1)) C dX5_readNewName_65 (by decide) ?_
      refine j_icmp_eq (pc := 66) (tgt := 75) C dX5_readNewName_66 (by decide) (fun c_15 => ?_) (fun c_15 => ?_)
      · skip
        have el_m1 : ((-1) : Int32).toInt = (-1) := rfl
        rw [i_eq] at c_15
        refine j_aload_n (pc := 75) C dX5_readNewName_75 rfl 2 rfl ?_
        refine j_iload_n (pc := 76) C dX5_readNewName_76 rfl 3 rfl ?_
        refine j_lload_n (pc := 77) C dX5_readNewName_77 rfl 0 rfl ?_
        obtain ⟨f_16, ef_16⟩ : ∃ z, z = vp_updL r_wn (p1).toInt.toNat (u_6.2.2.2 0 0) := ⟨_, rfl⟩
        refine j_last (pc := 78) (k := (p1).toInt.toNat) (ws' := [(r0, .inr (5, [.ref t0, .ref e0, .ref r1, .ref r2, .ref a0, .int r_habits, .int r_fault])), (a0, .inr (9, [.int a_wares, .int a_shelves, .int a_nests, .ref a1, .ref a2, .ref a3, .ref a4, .ref a5, .ref a6, .int a_lids, .int a_tops, .ref a7, .ref a8, .ref a9, .ref a10])), (t0, .inr (8, [.ref t1, .int t_length, .int (u_1.2.1 0), .int (u_1.2.1 1), .int (u_1.2.1 2), .int (u_1.2.1 3)])), (t1, .inl (cyC, 1000, .inl t_text)), (r1, .inl (cyJ, 12, .inr (.inl f_16))), (r2, .inl (cyJ, 4, .inr (.inl r_sn)))]) C 4 2 rfl rfl (i_nn h_p1.1) rfl (i_lt_n h_p1.1 (Int.lt_of_le_of_lt h_p1.2 (by decide))) dX5_readNewName_78 (by rw [ef_16]; rfl) ?_
        refine j_aload_n (pc := 79) C dX5_readNewName_79 rfl 1 rfl ?_
        refine j_get (pc := 80) (ci := 5) (v := .ref t0) C inw_5 0 rfl rfl 0 (by decide) wd_296 rfl rfl dX5_readNewName_80 ?_
        refine j_callV (pc := 83) (As := []) (rest := []) (wr := [(r0, .inr (5, [.ref t0, .ref e0, .ref r1, .ref r2, .ref a0, .int r_habits, .int r_fault])), (a0, .inr (9, [.int a_wares, .int a_shelves, .int a_nests, .ref a1, .ref a2, .ref a3, .ref a4, .ref a5, .ref a6, .int a_lids, .int a_tops, .ref a7, .ref a8, .ref a9, .ref a10])), (r1, .inl (cyJ, 12, .inr (.inl f_16))), (r2, .inl (cyJ, 4, .inr (.inl r_sn)))]) C (c_X8_advance_f l D cyC cyI cyJ cyZ cyO t0 t1 t_length (u_1.2.1 0) (u_1.2.1 1) (u_1.2.1 2) (u_1.2.1 3) t_text h_t_length hw_2_0 hw_2_1 hw_2_2 h_t_text) wd_277 wd_258 wd_304 wd_279 wd_280 ⟨by decide, by decide, rfl⟩ rfl ⟨rfl, rfl, by decide, by decide⟩ ⟨by decide, by decide⟩ [2, 3] [0, 1, 4, 5] rfl rfl ⟨by decide, by decide, by decide⟩ 2 rfl rfl rfl (Nat.le_of_ble_eq_true rfl) dX5_readNewName_83 (fun u_17 hw_18 => ?_)
        refine j_eq (ws2 := [(r0, .inr (5, [.ref t0, .ref e0, .ref r1, .ref r2, .ref a0, .int r_habits, .int r_fault])), (a0, .inr (9, [.int a_wares, .int a_shelves, .int a_nests, .ref a1, .ref a2, .ref a3, .ref a4, .ref a5, .ref a6, .int a_lids, .int a_tops, .ref a7, .ref a8, .ref a9, .ref a10])), (r1, .inl (cyJ, 12, .inr (.inl f_16))), (r2, .inl (cyJ, 4, .inr (.inl r_sn))), (t0, .inr (8, [.ref t1, .int t_length, .int (u_17.2.1 0), .int (u_17.2.1 1), .int (u_17.2.1 2), .int (u_17.2.1 3)])), (t1, .inl (cyC, 1000, .inl t_text))]) (pc2 := 86) (lv2 := [(3, .long (u_6.2.2.2 0 0)), (0, .ref r0), (1, .ref r1), (2, .int p1)]) (st2 := []) rfl rfl rfl rfl ?_
        obtain ⟨hw_18_0, hw_18_1, hw_18_2, hw_18_3, hw_18_4, hw_18_5⟩ := hw_18
        have ha_u_17 := (hw_18_5).trans (TH.adv hw_2_4)
        refine j_iconst (pc := 86) (v := 1) C dX5_readNewName_86 (by decide) ?_
        have el_1 : (1 : Int32).toInt = 1 := rfl
        have el_1 : (1 : Int32).toInt = 1 := rfl
        have el_1 : (1 : Int32).toInt = 1 := rfl
        have el_1 : (1 : Int32).toInt = 1 := rfl
        have el_1 : (1 : Int32).toInt = 1 := rfl
        have el_1 : (1 : Int32).toInt = 1 := rfl
        exact j_zret (pc := 87) C hr rfl hk (fun i => [].getD i 0, fun i => [1, r_fault, (u_17.2.1 0), (u_17.2.1 1), (u_17.2.1 2), (u_17.2.1 3)].getD i 0, fun i => [].getD i (fun _ => 0), fun i => [f_16].getD i (fun _ => 0)) rfl (show (0 ≤ ((1 : Int32)).toInt ∧ ((1 : Int32)).toInt ≤ 1) ∧ (0 ≤ ((u_17.2.1 0)).toInt ∧ ((u_17.2.1 0)).toInt ≤ 1000) ∧ (0 ≤ ((u_17.2.1 1)).toInt ∧ ((u_17.2.1 1)).toInt ≤ 4) ∧ (0 ≤ ((u_17.2.1 2)).toInt ∧ ((u_17.2.1 2)).toInt ≤ 1000) ∧ (¬ ((u_17.2.1 1)).toInt = 3 ∨ ((u_17.2.1 2)).toInt ≤ 999) ∧ (TH t_text (t_length).toInt.toNat ((u_17.2.1 0)).toInt ((u_17.2.1 1)).toInt ((u_17.2.1 2)).toInt ((u_17.2.1 3)).toInt) ∧ (CP ((1 : Int32)).toInt ((u_17.2.1 2)).toInt (r_fault).toInt (r_fault).toInt (rNew (TKS t_text (t_length).toInt.toNat) S (nx (TKS t_text (t_length).toInt.toNat) (t_place).toInt.toNat))) ∧ (∀ j : Nat, ¬ j = (p1).toInt.toNat → f_16 j = r_wn j) ∧ (IM (((1 : Int32)).toInt = 1) (NMR (f_16 (p1).toInt.toNat) ((TKS t_text (t_length).toInt.toNat) (nx (TKS t_text (t_length).toInt.toNat) (t_place).toInt.toNat)).2.1)) from ⟨by omega, hw_18_0, hw_18_1, hw_18_2, by omega, hw_18_4, (CP.ok (by omega) (by omega) (by have hc1 := hCN.1; have hc2 := hCN.2.1; have hf0 : fnd S.1 S.2.1 ((TKS t_text (t_length).toInt.toNat) ((u_1.2.1 2)).toInt.toNat).2.1 = S.2.1 := FX1 hCN.2.2.1 hw_7_0 (fun j hj => hw_9_1 (by omega) j (by omega)); have hf1 : fnd S.2.2.1 S.2.2.2.1 ((TKS t_text (t_length).toInt.toNat) ((u_1.2.1 2)).toInt.toNat).2.1 = S.2.2.2.1 := FX1 hCN.2.2.2 hw_7_0 (fun j hj => hw_14_1 (by omega) j (by omega)); rw [← ha_u_1]; unfold rNew; rw [if_pos (show isNm (TKS t_text (t_length).toInt.toNat) ((u_1.2.1 2)).toInt.toNat = true from nmI_1.mp (by omega)), if_neg (by omega), ← ha_u_17])), (fun j hj => by rw [ef_16]; exact pk_uLn hj), (fun _ => by rw [ef_16, pk_uLs, ← ha_u_1]; exact hw_7_0)⟩) [0, 2, 3, 4, 5, 1] (by decide) rfl (by decide) (by decide) dX5_readNewName_87
      · skip
        have el_m1 : ((-1) : Int32).toInt = (-1) := rfl
        rw [i_eq] at c_15
        refine j_aload_n (pc := 69) C dX5_readNewName_69 rfl 1 rfl ?_
        refine j_iconst (pc := 70) (v := 3) C dX5_readNewName_70 (by decide) ?_
        refine j_callV (pc := 71) (As := [.int 3]) (rest := []) (wr := [(a0, .inr (9, [.int a_wares, .int a_shelves, .int a_nests, .ref a1, .ref a2, .ref a3, .ref a4, .ref a5, .ref a6, .int a_lids, .int a_tops, .ref a7, .ref a8, .ref a9, .ref a10])), (t1, .inl (cyC, 1000, .inl t_text)), (r1, .inl (cyJ, 12, .inr (.inl r_wn))), (r2, .inl (cyJ, 4, .inr (.inl r_sn)))]) C (c_X5_wrong l D cyC cyI cyJ cyZ cyO r0 t0 e0 r1 r2 a0 t1 3 r_habits r_fault t_length (u_1.2.1 0) (u_1.2.1 1) (u_1.2.1 2) (u_1.2.1 3) h_t_length hw_2_0 hw_2_1 hw_2_2 (by decide)) wd_305 wd_306 wd_307 wd_308 wd_309 ⟨by decide, by decide, rfl⟩ rfl ⟨rfl, rfl, by decide, by decide⟩ ⟨by decide, by decide⟩ [0, 2] [1, 3, 4, 5] rfl rfl ⟨by decide, by decide, by decide⟩ 0 rfl rfl rfl (Nat.le_of_ble_eq_true rfl) dX5_readNewName_71 (fun u_19 hw_20 => ?_)
        refine j_eq (ws2 := [(a0, .inr (9, [.int a_wares, .int a_shelves, .int a_nests, .ref a1, .ref a2, .ref a3, .ref a4, .ref a5, .ref a6, .int a_lids, .int a_tops, .ref a7, .ref a8, .ref a9, .ref a10])), (t1, .inl (cyC, 1000, .inl t_text)), (r1, .inl (cyJ, 12, .inr (.inl r_wn))), (r2, .inl (cyJ, 4, .inr (.inl r_sn))), (r0, .inr (5, [.ref t0, .ref e0, .ref r1, .ref r2, .ref a0, .int r_habits, .int (u_19.2.1 0)])), (t0, .inr (8, [.ref t1, .int t_length, .int (u_1.2.1 0), .int (u_1.2.1 1), .int (u_1.2.1 2), .int (u_1.2.1 3)]))]) (pc2 := 74) (lv2 := [(3, .long (u_6.2.2.2 0 0)), (0, .ref r0), (1, .ref r1), (2, .int p1)]) (st2 := [.int 0]) rfl rfl rfl rfl ?_
        have hw_20_0 : ((u_19.2.1 0)).toInt = ((3 : Int32)).toInt + 16 * ((u_1.2.1 2)).toInt := hw_20
        have el_0 : (0 : Int32).toInt = 0 := rfl
        have el_0 : (0 : Int32).toInt = 0 := rfl
        have el_0 : (0 : Int32).toInt = 0 := rfl
        have el_0 : (0 : Int32).toInt = 0 := rfl
        have el_3 : (3 : Int32).toInt = 3 := rfl
        have el_0 : (0 : Int32).toInt = 0 := rfl
        have el_0 : (0 : Int32).toInt = 0 := rfl
        exact j_zret (pc := 74) C hr rfl hk (fun i => [].getD i 0, fun i => [0, (u_19.2.1 0), (u_1.2.1 0), (u_1.2.1 1), (u_1.2.1 2), (u_1.2.1 3)].getD i 0, fun i => [].getD i (fun _ => 0), fun i => [r_wn].getD i (fun _ => 0)) rfl (show (0 ≤ ((0 : Int32)).toInt ∧ ((0 : Int32)).toInt ≤ 1) ∧ (0 ≤ ((u_1.2.1 0)).toInt ∧ ((u_1.2.1 0)).toInt ≤ 1000) ∧ (0 ≤ ((u_1.2.1 1)).toInt ∧ ((u_1.2.1 1)).toInt ≤ 4) ∧ (0 ≤ ((u_1.2.1 2)).toInt ∧ ((u_1.2.1 2)).toInt ≤ 1000) ∧ (¬ ((u_1.2.1 1)).toInt = 3 ∨ ((u_1.2.1 2)).toInt ≤ 999) ∧ (TH t_text (t_length).toInt.toNat ((u_1.2.1 0)).toInt ((u_1.2.1 1)).toInt ((u_1.2.1 2)).toInt ((u_1.2.1 3)).toInt) ∧ (CP ((0 : Int32)).toInt ((u_1.2.1 2)).toInt ((u_19.2.1 0)).toInt (r_fault).toInt (rNew (TKS t_text (t_length).toInt.toNat) S (nx (TKS t_text (t_length).toInt.toNat) (t_place).toInt.toNat))) ∧ (∀ j : Nat, ¬ j = (p1).toInt.toNat → r_wn j = r_wn j) ∧ (IM (((0 : Int32)).toInt = 1) (NMR (r_wn (p1).toInt.toNat) ((TKS t_text (t_length).toInt.toNat) (nx (TKS t_text (t_length).toInt.toNat) (t_place).toInt.toNat)).2.1)) from ⟨by omega, hw_2_0, hw_2_1, hw_2_2, by omega, hw_2_4, (CP.mv (CP.wr (k := 3) (by omega) (by omega) (by omega) (by omega)) (by have hc1 := hCN.1; have hc2 := hCN.2.1; have hf0 : fnd S.1 S.2.1 ((TKS t_text (t_length).toInt.toNat) ((u_1.2.1 2)).toInt.toNat).2.1 = S.2.1 := FX1 hCN.2.2.1 hw_7_0 (fun j hj => hw_9_1 (by omega) j (by omega)); have hy1 := hw_14_2 (by omega); have hf1 : fnd S.2.2.1 S.2.2.2.1 ((TKS t_text (t_length).toInt.toNat) ((u_1.2.1 2)).toInt.toNat).2.1 = (u_13.2.1 0).toInt.toNat := FX2 hCN.2.2.2 hw_7_0 (by omega) hy1.2.1 hy1.2.2; rw [← ha_u_1]; unfold rNew; rw [if_pos (show isNm (TKS t_text (t_length).toInt.toNat) ((u_1.2.1 2)).toInt.toNat = true from nmI_1.mp (by omega)), if_pos (by omega)])), (fun j hj => rfl), (fun h => absurd h (by decide))⟩) [4, 2, 3, 5, 1, 0] (by decide) rfl (by decide) (by decide) dX5_readNewName_74
  · skip
    have el_0 : (0 : Int32).toInt = 0 := rfl
    rw [i_eq] at c_5
    refine j_aload_n (pc := 17) C dX5_readNewName_17 rfl 0 rfl ?_
    refine j_iconst (pc := 18) (v := 1) C dX5_readNewName_18 (by decide) ?_
    refine j_callV (pc := 19) (As := [.int 1]) (rest := []) (wr := [(r1, .inl (cyJ, 12, .inr (.inl r_wn))), (r2, .inl (cyJ, 4, .inr (.inl r_sn))), (a0, .inr (9, [.int a_wares, .int a_shelves, .int a_nests, .ref a1, .ref a2, .ref a3, .ref a4, .ref a5, .ref a6, .int a_lids, .int a_tops, .ref a7, .ref a8, .ref a9, .ref a10])), (t1, .inl (cyC, 1000, .inl t_text))]) C (c_X5_wrong l D cyC cyI cyJ cyZ cyO r0 t0 e0 r1 r2 a0 t1 1 r_habits r_fault t_length (u_1.2.1 0) (u_1.2.1 1) (u_1.2.1 2) (u_1.2.1 3) h_t_length hw_2_0 hw_2_1 hw_2_2 (by decide)) wd_305 wd_306 wd_307 wd_308 wd_309 ⟨by decide, by decide, rfl⟩ rfl ⟨rfl, rfl, by decide, by decide⟩ ⟨by decide, by decide⟩ [0, 4] [1, 2, 3, 5] rfl rfl ⟨by decide, by decide, by decide⟩ 0 rfl rfl rfl (Nat.le_of_ble_eq_true rfl) dX5_readNewName_19 (fun u_21 hw_22 => ?_)
    refine j_eq (ws2 := [(r1, .inl (cyJ, 12, .inr (.inl r_wn))), (r2, .inl (cyJ, 4, .inr (.inl r_sn))), (a0, .inr (9, [.int a_wares, .int a_shelves, .int a_nests, .ref a1, .ref a2, .ref a3, .ref a4, .ref a5, .ref a6, .int a_lids, .int a_tops, .ref a7, .ref a8, .ref a9, .ref a10])), (t1, .inl (cyC, 1000, .inl t_text)), (r0, .inr (5, [.ref t0, .ref e0, .ref r1, .ref r2, .ref a0, .int r_habits, .int (u_21.2.1 0)])), (t0, .inr (8, [.ref t1, .int t_length, .int (u_1.2.1 0), .int (u_1.2.1 1), .int (u_1.2.1 2), .int (u_1.2.1 3)]))]) (pc2 := 22) (lv2 := [(0, .ref r0), (1, .ref r1), (2, .int p1)]) (st2 := [.int 0]) rfl rfl rfl rfl ?_
    have hw_22_0 : ((u_21.2.1 0)).toInt = ((1 : Int32)).toInt + 16 * ((u_1.2.1 2)).toInt := hw_22
    have el_0 : (0 : Int32).toInt = 0 := rfl
    have el_0 : (0 : Int32).toInt = 0 := rfl
    have el_0 : (0 : Int32).toInt = 0 := rfl
    have el_0 : (0 : Int32).toInt = 0 := rfl
    have el_1 : (1 : Int32).toInt = 1 := rfl
    have el_0 : (0 : Int32).toInt = 0 := rfl
    have el_0 : (0 : Int32).toInt = 0 := rfl
    exact j_zret (pc := 22) C hr rfl hk (fun i => [].getD i 0, fun i => [0, (u_21.2.1 0), (u_1.2.1 0), (u_1.2.1 1), (u_1.2.1 2), (u_1.2.1 3)].getD i 0, fun i => [].getD i (fun _ => 0), fun i => [r_wn].getD i (fun _ => 0)) rfl (show (0 ≤ ((0 : Int32)).toInt ∧ ((0 : Int32)).toInt ≤ 1) ∧ (0 ≤ ((u_1.2.1 0)).toInt ∧ ((u_1.2.1 0)).toInt ≤ 1000) ∧ (0 ≤ ((u_1.2.1 1)).toInt ∧ ((u_1.2.1 1)).toInt ≤ 4) ∧ (0 ≤ ((u_1.2.1 2)).toInt ∧ ((u_1.2.1 2)).toInt ≤ 1000) ∧ (¬ ((u_1.2.1 1)).toInt = 3 ∨ ((u_1.2.1 2)).toInt ≤ 999) ∧ (TH t_text (t_length).toInt.toNat ((u_1.2.1 0)).toInt ((u_1.2.1 1)).toInt ((u_1.2.1 2)).toInt ((u_1.2.1 3)).toInt) ∧ (CP ((0 : Int32)).toInt ((u_1.2.1 2)).toInt ((u_21.2.1 0)).toInt (r_fault).toInt (rNew (TKS t_text (t_length).toInt.toNat) S (nx (TKS t_text (t_length).toInt.toNat) (t_place).toInt.toNat))) ∧ (∀ j : Nat, ¬ j = (p1).toInt.toNat → r_wn j = r_wn j) ∧ (IM (((0 : Int32)).toInt = 1) (NMR (r_wn (p1).toInt.toNat) ((TKS t_text (t_length).toInt.toNat) (nx (TKS t_text (t_length).toInt.toNat) (t_place).toInt.toNat)).2.1)) from ⟨by omega, hw_2_0, hw_2_1, hw_2_2, by omega, hw_2_4, (CP.mv (CP.wr (k := 1) (by omega) (by omega) (by omega) (by omega)) (by rw [← ha_u_1]; unfold rNew; rw [if_neg (show ¬ isNm (TKS t_text (t_length).toInt.toNat) ((u_1.2.1 2)).toInt.toNat = true from nmI_0.mp (by omega))])), (fun j hj => rfl), (fun h => absurd h (by decide))⟩) [4, 0, 1, 5, 3, 2] (by decide) rfl (by decide) (by decide) dX5_readNewName_22
set_option maxHeartbeats 4000000 in
set_option maxRecDepth 100000 in
theorem c_X5_readNewName_s (l : Launch) (D : DG) (cyC cyI cyJ cyZ cyO : ClassId) (r0 : Nat) (r1 : Nat) (r2 : Nat) (t0 : Nat) (t1 : Nat) (a0 : Nat) (e0 : Nat) (a1 : Nat) (a2 : Nat) (a3 : Nat) (a4 : Nat) (a5 : Nat) (a6 : Nat) (a7 : Nat) (a8 : Nat) (a9 : Nat) (a10 : Nat) (p1 : Int32) (r_habits : Int32) (r_fault : Int32) (t_length : Int32) (t_next : Int32) (t_kind : Int32) (t_place : Int32) (t_number : Int32) (a_wares : Int32) (a_shelves : Int32) (a_nests : Int32) (a_lids : Int32) (a_tops : Int32) (r_wn : Nat → Int64) (r_sn : Nat → Int64) (t_text : Nat → Int32) (S : ((Nat → Int64) × Nat × (Nat → Int64) × Nat × (Nat → Bool) × (Nat → Bool) × Nat)) (h_t_length : 0 ≤ (t_length).toInt ∧ (t_length).toInt ≤ 1000) (h_t_next : 0 ≤ (t_next).toInt ∧ (t_next).toInt ≤ 1000) (h_t_kind : 0 ≤ (t_kind).toInt ∧ (t_kind).toInt ≤ 4) (h_t_place : 0 ≤ (t_place).toInt ∧ (t_place).toInt ≤ 1000) (h_a_wares : 0 ≤ (a_wares).toInt ∧ (a_wares).toInt ≤ 12) (h_a_shelves : 0 ≤ (a_shelves).toInt ∧ (a_shelves).toInt ≤ 4) (h_a_nests : 0 ≤ (a_nests).toInt ∧ (a_nests).toInt ≤ 4) (h_p1 : 0 ≤ (p1).toInt ∧ (p1).toInt ≤ 3) (h_t_text : Iv 1000 (0) (126) t_text) (ht3 : ¬ (t_kind).toInt = 3 ∨ (t_place).toInt ≤ 999) (hTH : TH t_text (t_length).toInt.toNat (t_next).toInt (t_kind).toInt (t_place).toInt (t_number).toInt) (hCN : CN r_wn r_sn (a_wares).toInt (a_shelves).toInt S) : KK l D (TY cyC cyI cyJ cyZ cyO) yX5_readNewName cX5_readNewName 5 (some .boolean) ({ frames := 6, cells := 0, slots := 0, locals := 130 } : Room) 0 0 [.ref r0, .ref r2, .int p1] [(r0, .inr (5, [.ref t0, .ref e0, .ref r1, .ref r2, .ref a0, .int r_habits, .int r_fault])), (r1, .inl (cyJ, 12, .inr (.inl r_wn))), (r2, .inl (cyJ, 4, .inr (.inl r_sn))), (t0, .inr (8, [.ref t1, .int t_length, .int t_next, .int t_kind, .int t_place, .int t_number])), (t1, .inl (cyC, 1000, .inl t_text)), (a0, .inr (9, [.int a_wares, .int a_shelves, .int a_nests, .ref a1, .ref a2, .ref a3, .ref a4, .ref a5, .ref a6, .int a_lids, .int a_tops, .ref a7, .ref a8, .ref a9, .ref a10]))] (fun u => some (.int (u.2.1 0))) (fun u => (0 ≤ (u.2.1 0).toInt ∧ (u.2.1 0).toInt ≤ 1) ∧ (0 ≤ (u.2.1 2).toInt ∧ (u.2.1 2).toInt ≤ 1000) ∧ (0 ≤ (u.2.1 3).toInt ∧ (u.2.1 3).toInt ≤ 4) ∧ (0 ≤ (u.2.1 4).toInt ∧ (u.2.1 4).toInt ≤ 1000) ∧ (¬ ((u.2.1 3)).toInt = 3 ∨ ((u.2.1 4)).toInt ≤ 999) ∧ (TH t_text (t_length).toInt.toNat ((u.2.1 2)).toInt ((u.2.1 3)).toInt ((u.2.1 4)).toInt ((u.2.1 5)).toInt) ∧ (CP ((u.2.1 0)).toInt ((u.2.1 4)).toInt ((u.2.1 1)).toInt (r_fault).toInt (rNew (TKS t_text (t_length).toInt.toNat) S (nx (TKS t_text (t_length).toInt.toNat) (t_place).toInt.toNat))) ∧ (∀ j : Nat, ¬ j = (p1).toInt.toNat → (u.2.2.2 0) j = r_sn j) ∧ (IM (((u.2.1 0)).toInt = 1) (NMR ((u.2.2.2 0) (p1).toInt.toNat) ((TKS t_text (t_length).toInt.toNat) (nx (TKS t_text (t_length).toInt.toNat) (t_place).toInt.toNat)).2.1))) (fun u => [(r0, .inr (5, [.ref t0, .ref e0, .ref r1, .ref r2, .ref a0, .int r_habits, .int (u.2.1 1)])), (r1, .inl (cyJ, 12, .inr (.inl r_wn))), (r2, .inl (cyJ, 4, .inr (.inl (u.2.2.2 0)))), (t0, .inr (8, [.ref t1, .int t_length, .int (u.2.1 2), .int (u.2.1 3), .int (u.2.1 4), .int (u.2.1 5)])), (t1, .inl (cyC, 1000, .inl t_text)), (a0, .inr (9, [.int a_wares, .int a_shelves, .int a_nests, .ref a1, .ref a2, .ref a3, .ref a4, .ref a5, .ref a6, .int a_lids, .int a_tops, .ref a7, .ref a8, .ref a9, .ref a10]))]) := by
  refine KK.of (lv0 := [(0, .ref r0), (1, .ref r2), (2, .int p1)]) (by decide) rfl (Nat.le_of_ble_eq_true rfl) ?_
  intro p e s m args below meth c A C hr hk hin
  refine j_aload_n (pc := 0) C dX5_readNewName_0 rfl 0 rfl ?_
  refine j_get (pc := 1) (ci := 5) (v := .ref t0) C inw_5 0 rfl rfl 0 (by decide) wd_296 rfl rfl dX5_readNewName_1 ?_
  refine j_callV (pc := 4) (As := []) (rest := []) (wr := [(r0, .inr (5, [.ref t0, .ref e0, .ref r1, .ref r2, .ref a0, .int r_habits, .int r_fault])), (r1, .inl (cyJ, 12, .inr (.inl r_wn))), (r2, .inl (cyJ, 4, .inr (.inl r_sn))), (a0, .inr (9, [.int a_wares, .int a_shelves, .int a_nests, .ref a1, .ref a2, .ref a3, .ref a4, .ref a5, .ref a6, .int a_lids, .int a_tops, .ref a7, .ref a8, .ref a9, .ref a10]))]) C (c_X8_advance_f l D cyC cyI cyJ cyZ cyO t0 t1 t_length t_next t_kind t_place t_number t_text h_t_length h_t_next h_t_kind h_t_place h_t_text) wd_277 wd_258 wd_304 wd_279 wd_280 ⟨by decide, by decide, rfl⟩ rfl ⟨rfl, rfl, by decide, by decide⟩ ⟨by decide, by decide⟩ [3, 4] [0, 1, 2, 5] rfl rfl ⟨by decide, by decide, by decide⟩ 3 rfl rfl rfl (Nat.le_of_ble_eq_true rfl) dX5_readNewName_4 (fun u_1 hw_2 => ?_)
  refine j_eq (ws2 := [(r0, .inr (5, [.ref t0, .ref e0, .ref r1, .ref r2, .ref a0, .int r_habits, .int r_fault])), (r1, .inl (cyJ, 12, .inr (.inl r_wn))), (r2, .inl (cyJ, 4, .inr (.inl r_sn))), (a0, .inr (9, [.int a_wares, .int a_shelves, .int a_nests, .ref a1, .ref a2, .ref a3, .ref a4, .ref a5, .ref a6, .int a_lids, .int a_tops, .ref a7, .ref a8, .ref a9, .ref a10])), (t0, .inr (8, [.ref t1, .int t_length, .int (u_1.2.1 0), .int (u_1.2.1 1), .int (u_1.2.1 2), .int (u_1.2.1 3)])), (t1, .inl (cyC, 1000, .inl t_text))]) (pc2 := 7) (lv2 := [(0, .ref r0), (1, .ref r2), (2, .int p1)]) (st2 := []) rfl rfl rfl rfl ?_
  obtain ⟨hw_2_0, hw_2_1, hw_2_2, hw_2_3, hw_2_4, hw_2_5⟩ := hw_2
  have ha_u_1 := (hw_2_5).trans (TH.adv hTH)
  refine j_aload_n (pc := 7) C dX5_readNewName_7 rfl 0 rfl ?_
  refine j_get (pc := 8) (ci := 5) (v := .ref t0) C inw_5 0 rfl rfl 0 (by decide) wd_296 rfl rfl dX5_readNewName_8 ?_
  refine j_callV (pc := 11) (As := []) (rest := []) (wr := [(r0, .inr (5, [.ref t0, .ref e0, .ref r1, .ref r2, .ref a0, .int r_habits, .int r_fault])), (r1, .inl (cyJ, 12, .inr (.inl r_wn))), (r2, .inl (cyJ, 4, .inr (.inl r_sn))), (a0, .inr (9, [.int a_wares, .int a_shelves, .int a_nests, .ref a1, .ref a2, .ref a3, .ref a4, .ref a5, .ref a6, .int a_lids, .int a_tops, .ref a7, .ref a8, .ref a9, .ref a10]))]) C (c_X8_isName_f l D cyC cyI cyJ cyZ cyO t0 t1 t_length (u_1.2.1 0) (u_1.2.1 1) (u_1.2.1 2) (u_1.2.1 3) t_text h_t_length hw_2_0 hw_2_1 hw_2_2 h_t_text hw_2_4) wd_317 wd_258 wd_318 wd_319 wd_320 ⟨by decide, by decide, rfl⟩ rfl ⟨rfl, rfl, by decide, by decide⟩ ⟨by decide, by decide⟩ [4, 5] [0, 1, 2, 3] rfl rfl ⟨by decide, by decide, by decide⟩ 4 rfl rfl rfl (Nat.le_of_ble_eq_true rfl) dX5_readNewName_11 (fun u_3 hw_4 => ?_)
  refine j_eq (ws2 := [(r0, .inr (5, [.ref t0, .ref e0, .ref r1, .ref r2, .ref a0, .int r_habits, .int r_fault])), (r1, .inl (cyJ, 12, .inr (.inl r_wn))), (r2, .inl (cyJ, 4, .inr (.inl r_sn))), (a0, .inr (9, [.int a_wares, .int a_shelves, .int a_nests, .ref a1, .ref a2, .ref a3, .ref a4, .ref a5, .ref a6, .int a_lids, .int a_tops, .ref a7, .ref a8, .ref a9, .ref a10])), (t0, .inr (8, [.ref t1, .int t_length, .int (u_1.2.1 0), .int (u_1.2.1 1), .int (u_1.2.1 2), .int (u_1.2.1 3)])), (t1, .inl (cyC, 1000, .inl t_text))]) (pc2 := 14) (lv2 := [(0, .ref r0), (1, .ref r2), (2, .int p1)]) (st2 := [.int (u_3.2.1 0)]) rfl rfl rfl rfl ?_
  obtain ⟨hw_4_0, hw_4_1, hw_4_2⟩ := hw_4
  refine j_if_ne (pc := 14) (tgt := 23) C dX5_readNewName_14 (by decide) (fun c_5 => ?_) (fun c_5 => ?_)
  · skip
    have el_0 : (0 : Int32).toInt = 0 := rfl
    rw [i_eq] at c_5
    have k0c_5 : ((u_3.2.1 0)).toInt = 1 := by omega
    refine j_aload_n (pc := 23) C dX5_readNewName_23 rfl 0 rfl ?_
    refine j_get (pc := 24) (ci := 5) (v := .ref t0) C inw_5 0 rfl rfl 0 (by decide) wd_296 rfl rfl dX5_readNewName_24 ?_
    refine j_callV (pc := 27) (As := []) (rest := []) (wr := [(r0, .inr (5, [.ref t0, .ref e0, .ref r1, .ref r2, .ref a0, .int r_habits, .int r_fault])), (r1, .inl (cyJ, 12, .inr (.inl r_wn))), (r2, .inl (cyJ, 4, .inr (.inl r_sn))), (a0, .inr (9, [.int a_wares, .int a_shelves, .int a_nests, .ref a1, .ref a2, .ref a3, .ref a4, .ref a5, .ref a6, .int a_lids, .int a_tops, .ref a7, .ref a8, .ref a9, .ref a10]))]) C (c_X8_code_f l D cyC cyI cyJ cyZ cyO t0 t1 t_length (u_1.2.1 0) (u_1.2.1 1) (u_1.2.1 2) (u_1.2.1 3) t_text h_t_length hw_2_0 hw_2_1 hw_2_2 h_t_text (by omega) hw_2_4) wd_321 wd_258 wd_322 wd_323 wd_324 ⟨by decide, by decide, rfl⟩ rfl ⟨rfl, rfl, by decide, by decide⟩ ⟨by decide, by decide⟩ [4, 5] [0, 1, 2, 3] rfl rfl ⟨by decide, by decide, by decide⟩ 4 rfl rfl rfl (Nat.le_of_ble_eq_true rfl) dX5_readNewName_27 (fun u_6 hw_7 => ?_)
    refine j_eq (ws2 := [(r0, .inr (5, [.ref t0, .ref e0, .ref r1, .ref r2, .ref a0, .int r_habits, .int r_fault])), (r1, .inl (cyJ, 12, .inr (.inl r_wn))), (r2, .inl (cyJ, 4, .inr (.inl r_sn))), (a0, .inr (9, [.int a_wares, .int a_shelves, .int a_nests, .ref a1, .ref a2, .ref a3, .ref a4, .ref a5, .ref a6, .int a_lids, .int a_tops, .ref a7, .ref a8, .ref a9, .ref a10])), (t0, .inr (8, [.ref t1, .int t_length, .int (u_1.2.1 0), .int (u_1.2.1 1), .int (u_1.2.1 2), .int (u_1.2.1 3)])), (t1, .inl (cyC, 1000, .inl t_text))]) (pc2 := 30) (lv2 := [(0, .ref r0), (1, .ref r2), (2, .int p1)]) (st2 := [.long (u_6.2.2.2 0 0)]) rfl rfl rfl rfl ?_
    have hw_7_0 : NMR (u_6.2.2.2 0 0) ((TKS t_text (t_length).toInt.toNat) ((u_1.2.1 2)).toInt.toNat).2.1 := hw_7
    refine j_lstore_n (pc := 30) (lv' := [(3, .long (u_6.2.2.2 0 0)), (0, .ref r0), (1, .ref r2), (2, .int p1)]) C dX5_readNewName_30 rfl (by decide) rfl ?_
    refine j_aload_n (pc := 31) C dX5_readNewName_31 rfl 1 rfl ?_
    refine j_get (pc := 32) (ci := 5) (v := .ref r1) C inw_5 0 rfl rfl 2 (by decide) wd_325 rfl rfl dX5_readNewName_32 ?_
    refine j_aload_n (pc := 35) C dX5_readNewName_35 rfl 1 rfl ?_
    refine j_get (pc := 36) (ci := 5) (v := .ref a0) C inw_5 0 rfl rfl 4 (by decide) wd_299 rfl rfl dX5_readNewName_36 ?_
    refine j_get (pc := 39) (ci := 9) (v := .int a_wares) C inw_9 3 rfl rfl 0 (by decide) wd_326 rfl rfl dX5_readNewName_39 ?_
    refine j_lload_n (pc := 42) C dX5_readNewName_42 rfl 0 rfl ?_
    refine j_callS (pc := 43) (As := [.ref r1, .int a_wares, .long (u_6.2.2.2 0 0)]) (rest := []) (wr := [(r0, .inr (5, [.ref t0, .ref e0, .ref r1, .ref r2, .ref a0, .int r_habits, .int r_fault])), (r2, .inl (cyJ, 4, .inr (.inl r_sn))), (a0, .inr (9, [.int a_wares, .int a_shelves, .int a_nests, .ref a1, .ref a2, .ref a3, .ref a4, .ref a5, .ref a6, .int a_lids, .int a_tops, .ref a7, .ref a8, .ref a9, .ref a10])), (t0, .inr (8, [.ref t1, .int t_length, .int (u_1.2.1 0), .int (u_1.2.1 1), .int (u_1.2.1 2), .int (u_1.2.1 3)])), (t1, .inl (cyC, 1000, .inl t_text))]) C (c_X5_indexOf_12 l D cyC cyI cyJ cyZ cyO r1 a_wares (u_6.2.2.2 0 0) r_wn h_a_wares) wd_327 wd_306 wd_328 wd_329 ⟨by decide, by decide, rfl⟩ rfl ⟨rfl, rfl, by decide, by decide⟩ ⟨by decide, by decide⟩ [1] [0, 2, 3, 4, 5] rfl rfl ⟨by decide, by decide, by decide⟩ rfl (Nat.le_of_ble_eq_true rfl) dX5_readNewName_43 (fun u_8 hw_9 => ?_)
    refine j_eq (ws2 := [(r0, .inr (5, [.ref t0, .ref e0, .ref r1, .ref r2, .ref a0, .int r_habits, .int r_fault])), (r2, .inl (cyJ, 4, .inr (.inl r_sn))), (a0, .inr (9, [.int a_wares, .int a_shelves, .int a_nests, .ref a1, .ref a2, .ref a3, .ref a4, .ref a5, .ref a6, .int a_lids, .int a_tops, .ref a7, .ref a8, .ref a9, .ref a10])), (t0, .inr (8, [.ref t1, .int t_length, .int (u_1.2.1 0), .int (u_1.2.1 1), .int (u_1.2.1 2), .int (u_1.2.1 3)])), (t1, .inl (cyC, 1000, .inl t_text)), (r1, .inl (cyJ, 12, .inr (.inl r_wn)))]) (pc2 := 46) (lv2 := [(3, .long (u_6.2.2.2 0 0)), (0, .ref r0), (1, .ref r2), (2, .int p1)]) (st2 := [.int (u_8.2.1 0)]) rfl rfl rfl rfl ?_
    obtain ⟨hw_9_0, hw_9_1, hw_9_2⟩ := hw_9
    refine j_iconst (pc := 46) (v := (-1)) C dX5_readNewName_46 (by decide) ?_
    refine j_icmp_ne (pc := 47) (tgt := 69) C dX5_readNewName_47 (by decide) (fun c_10 => ?_) (fun c_10 => ?_)
    · skip
      have el_m1 : ((-1) : Int32).toInt = (-1) := rfl
      rw [i_eq] at c_10
      refine j_aload_n (pc := 69) C dX5_readNewName_69 rfl 1 rfl ?_
      refine j_iconst (pc := 70) (v := 3) C dX5_readNewName_70 (by decide) ?_
      refine j_callV (pc := 71) (As := [.int 3]) (rest := []) (wr := [(r2, .inl (cyJ, 4, .inr (.inl r_sn))), (a0, .inr (9, [.int a_wares, .int a_shelves, .int a_nests, .ref a1, .ref a2, .ref a3, .ref a4, .ref a5, .ref a6, .int a_lids, .int a_tops, .ref a7, .ref a8, .ref a9, .ref a10])), (t1, .inl (cyC, 1000, .inl t_text)), (r1, .inl (cyJ, 12, .inr (.inl r_wn)))]) C (c_X5_wrong l D cyC cyI cyJ cyZ cyO r0 t0 e0 r1 r2 a0 t1 3 r_habits r_fault t_length (u_1.2.1 0) (u_1.2.1 1) (u_1.2.1 2) (u_1.2.1 3) h_t_length hw_2_0 hw_2_1 hw_2_2 (by decide)) wd_305 wd_306 wd_307 wd_308 wd_309 ⟨by decide, by decide, rfl⟩ rfl ⟨rfl, rfl, by decide, by decide⟩ ⟨by decide, by decide⟩ [0, 3] [1, 2, 4, 5] rfl rfl ⟨by decide, by decide, by decide⟩ 0 rfl rfl rfl (Nat.le_of_ble_eq_true rfl) dX5_readNewName_71 (fun u_11 hw_12 => ?_)
      refine j_eq (ws2 := [(r2, .inl (cyJ, 4, .inr (.inl r_sn))), (a0, .inr (9, [.int a_wares, .int a_shelves, .int a_nests, .ref a1, .ref a2, .ref a3, .ref a4, .ref a5, .ref a6, .int a_lids, .int a_tops, .ref a7, .ref a8, .ref a9, .ref a10])), (t1, .inl (cyC, 1000, .inl t_text)), (r1, .inl (cyJ, 12, .inr (.inl r_wn))), (r0, .inr (5, [.ref t0, .ref e0, .ref r1, .ref r2, .ref a0, .int r_habits, .int (u_11.2.1 0)])), (t0, .inr (8, [.ref t1, .int t_length, .int (u_1.2.1 0), .int (u_1.2.1 1), .int (u_1.2.1 2), .int (u_1.2.1 3)]))]) (pc2 := 74) (lv2 := [(3, .long (u_6.2.2.2 0 0)), (0, .ref r0), (1, .ref r2), (2, .int p1)]) (st2 := [.int 0]) rfl rfl rfl rfl ?_
      have hw_12_0 : ((u_11.2.1 0)).toInt = ((3 : Int32)).toInt + 16 * ((u_1.2.1 2)).toInt := hw_12
      have el_0 : (0 : Int32).toInt = 0 := rfl
      have el_0 : (0 : Int32).toInt = 0 := rfl
      have el_0 : (0 : Int32).toInt = 0 := rfl
      have el_0 : (0 : Int32).toInt = 0 := rfl
      have el_3 : (3 : Int32).toInt = 3 := rfl
      have el_0 : (0 : Int32).toInt = 0 := rfl
      have el_0 : (0 : Int32).toInt = 0 := rfl
      exact j_zret (pc := 74) C hr rfl hk (fun i => [].getD i 0, fun i => [0, (u_11.2.1 0), (u_1.2.1 0), (u_1.2.1 1), (u_1.2.1 2), (u_1.2.1 3)].getD i 0, fun i => [].getD i (fun _ => 0), fun i => [r_sn].getD i (fun _ => 0)) rfl (show (0 ≤ ((0 : Int32)).toInt ∧ ((0 : Int32)).toInt ≤ 1) ∧ (0 ≤ ((u_1.2.1 0)).toInt ∧ ((u_1.2.1 0)).toInt ≤ 1000) ∧ (0 ≤ ((u_1.2.1 1)).toInt ∧ ((u_1.2.1 1)).toInt ≤ 4) ∧ (0 ≤ ((u_1.2.1 2)).toInt ∧ ((u_1.2.1 2)).toInt ≤ 1000) ∧ (¬ ((u_1.2.1 1)).toInt = 3 ∨ ((u_1.2.1 2)).toInt ≤ 999) ∧ (TH t_text (t_length).toInt.toNat ((u_1.2.1 0)).toInt ((u_1.2.1 1)).toInt ((u_1.2.1 2)).toInt ((u_1.2.1 3)).toInt) ∧ (CP ((0 : Int32)).toInt ((u_1.2.1 2)).toInt ((u_11.2.1 0)).toInt (r_fault).toInt (rNew (TKS t_text (t_length).toInt.toNat) S (nx (TKS t_text (t_length).toInt.toNat) (t_place).toInt.toNat))) ∧ (∀ j : Nat, ¬ j = (p1).toInt.toNat → r_sn j = r_sn j) ∧ (IM (((0 : Int32)).toInt = 1) (NMR (r_sn (p1).toInt.toNat) ((TKS t_text (t_length).toInt.toNat) (nx (TKS t_text (t_length).toInt.toNat) (t_place).toInt.toNat)).2.1)) from ⟨by omega, hw_2_0, hw_2_1, hw_2_2, by omega, hw_2_4, (CP.mv (CP.wr (k := 3) (by omega) (by omega) (by omega) (by omega)) (by have hc1 := hCN.1; have hc2 := hCN.2.1; have hy0 := hw_9_2 (by omega); have hf0 : fnd S.1 S.2.1 ((TKS t_text (t_length).toInt.toNat) ((u_1.2.1 2)).toInt.toNat).2.1 = (u_8.2.1 0).toInt.toNat := FX2 hCN.2.2.1 hw_7_0 (by omega) hy0.2.1 hy0.2.2; rw [← ha_u_1]; unfold rNew; rw [if_pos (show isNm (TKS t_text (t_length).toInt.toNat) ((u_1.2.1 2)).toInt.toNat = true from nmI_1.mp (by omega)), if_pos (by omega)])), (fun j hj => rfl), (fun h => absurd h (by decide))⟩) [4, 3, 0, 5, 2, 1] (by decide) rfl (by decide) (by decide) dX5_readNewName_74
    · skip
      have el_m1 : ((-1) : Int32).toInt = (-1) := rfl
      rw [i_eq] at c_10
      refine j_aload_n (pc := 50) C dX5_readNewName_50 rfl 1 rfl ?_
      refine j_get (pc := 51) (ci := 5) (v := .ref r2) C inw_5 0 rfl rfl 3 (by decide) wd_330 rfl rfl dX5_readNewName_51 ?_
      refine j_aload_n (pc := 54) C dX5_readNewName_54 rfl 1 rfl ?_
      refine j_get (pc := 55) (ci := 5) (v := .ref a0) C inw_5 0 rfl rfl 4 (by decide) wd_299 rfl rfl dX5_readNewName_55 ?_
      refine j_get (pc := 58) (ci := 9) (v := .int a_shelves) C inw_9 2 rfl rfl 1 (by decide) wd_331 rfl rfl dX5_readNewName_58 ?_
      refine j_lload_n (pc := 61) C dX5_readNewName_61 rfl 0 rfl ?_
      refine j_callS (pc := 62) (As := [.ref r2, .int a_shelves, .long (u_6.2.2.2 0 0)]) (rest := []) (wr := [(r0, .inr (5, [.ref t0, .ref e0, .ref r1, .ref r2, .ref a0, .int r_habits, .int r_fault])), (a0, .inr (9, [.int a_wares, .int a_shelves, .int a_nests, .ref a1, .ref a2, .ref a3, .ref a4, .ref a5, .ref a6, .int a_lids, .int a_tops, .ref a7, .ref a8, .ref a9, .ref a10])), (t0, .inr (8, [.ref t1, .int t_length, .int (u_1.2.1 0), .int (u_1.2.1 1), .int (u_1.2.1 2), .int (u_1.2.1 3)])), (t1, .inl (cyC, 1000, .inl t_text)), (r1, .inl (cyJ, 12, .inr (.inl r_wn)))]) C (c_X5_indexOf_4 l D cyC cyI cyJ cyZ cyO r2 a_shelves (u_6.2.2.2 0 0) r_sn h_a_shelves) wd_327 wd_306 wd_328 wd_329 ⟨by decide, by decide, rfl⟩ rfl ⟨rfl, rfl, by decide, by decide⟩ ⟨by decide, by decide⟩ [1] [0, 2, 3, 4, 5] rfl rfl ⟨by decide, by decide, by decide⟩ rfl (Nat.le_of_ble_eq_true rfl) dX5_readNewName_62 (fun u_13 hw_14 => ?_)
      refine j_eq (ws2 := [(r0, .inr (5, [.ref t0, .ref e0, .ref r1, .ref r2, .ref a0, .int r_habits, .int r_fault])), (a0, .inr (9, [.int a_wares, .int a_shelves, .int a_nests, .ref a1, .ref a2, .ref a3, .ref a4, .ref a5, .ref a6, .int a_lids, .int a_tops, .ref a7, .ref a8, .ref a9, .ref a10])), (t0, .inr (8, [.ref t1, .int t_length, .int (u_1.2.1 0), .int (u_1.2.1 1), .int (u_1.2.1 2), .int (u_1.2.1 3)])), (t1, .inl (cyC, 1000, .inl t_text)), (r1, .inl (cyJ, 12, .inr (.inl r_wn))), (r2, .inl (cyJ, 4, .inr (.inl r_sn)))]) (pc2 := 65) (lv2 := [(3, .long (u_6.2.2.2 0 0)), (0, .ref r0), (1, .ref r2), (2, .int p1)]) (st2 := [.int (u_13.2.1 0)]) rfl rfl rfl rfl ?_
      obtain ⟨hw_14_0, hw_14_1, hw_14_2⟩ := hw_14
      refine j_iconst (pc := 65) (v := (-1)) C dX5_readNewName_65 (by decide) ?_
      refine j_icmp_eq (pc := 66) (tgt := 75) C dX5_readNewName_66 (by decide) (fun c_15 => ?_) (fun c_15 => ?_)
      · skip
        have el_m1 : ((-1) : Int32).toInt = (-1) := rfl
        rw [i_eq] at c_15
        refine j_aload_n (pc := 75) C dX5_readNewName_75 rfl 2 rfl ?_
        refine j_iload_n (pc := 76) C dX5_readNewName_76 rfl 3 rfl ?_
        refine j_lload_n (pc := 77) C dX5_readNewName_77 rfl 0 rfl ?_
        obtain ⟨f_16, ef_16⟩ : ∃ z, z = vp_updL r_sn (p1).toInt.toNat (u_6.2.2.2 0 0) := ⟨_, rfl⟩
        refine j_last (pc := 78) (k := (p1).toInt.toNat) (ws' := [(r0, .inr (5, [.ref t0, .ref e0, .ref r1, .ref r2, .ref a0, .int r_habits, .int r_fault])), (a0, .inr (9, [.int a_wares, .int a_shelves, .int a_nests, .ref a1, .ref a2, .ref a3, .ref a4, .ref a5, .ref a6, .int a_lids, .int a_tops, .ref a7, .ref a8, .ref a9, .ref a10])), (t0, .inr (8, [.ref t1, .int t_length, .int (u_1.2.1 0), .int (u_1.2.1 1), .int (u_1.2.1 2), .int (u_1.2.1 3)])), (t1, .inl (cyC, 1000, .inl t_text)), (r1, .inl (cyJ, 12, .inr (.inl r_wn))), (r2, .inl (cyJ, 4, .inr (.inl f_16)))]) C 5 2 rfl rfl (i_nn h_p1.1) rfl (i_lt_n h_p1.1 (Int.lt_of_le_of_lt h_p1.2 (by decide))) dX5_readNewName_78 (by rw [ef_16]; rfl) ?_
        refine j_aload_n (pc := 79) C dX5_readNewName_79 rfl 1 rfl ?_
        refine j_get (pc := 80) (ci := 5) (v := .ref t0) C inw_5 0 rfl rfl 0 (by decide) wd_296 rfl rfl dX5_readNewName_80 ?_
        refine j_callV (pc := 83) (As := []) (rest := []) (wr := [(r0, .inr (5, [.ref t0, .ref e0, .ref r1, .ref r2, .ref a0, .int r_habits, .int r_fault])), (a0, .inr (9, [.int a_wares, .int a_shelves, .int a_nests, .ref a1, .ref a2, .ref a3, .ref a4, .ref a5, .ref a6, .int a_lids, .int a_tops, .ref a7, .ref a8, .ref a9, .ref a10])), (r1, .inl (cyJ, 12, .inr (.inl r_wn))), (r2, .inl (cyJ, 4, .inr (.inl f_16)))]) C (c_X8_advance_f l D cyC cyI cyJ cyZ cyO t0 t1 t_length (u_1.2.1 0) (u_1.2.1 1) (u_1.2.1 2) (u_1.2.1 3) t_text h_t_length hw_2_0 hw_2_1 hw_2_2 h_t_text) wd_277 wd_258 wd_304 wd_279 wd_280 ⟨by decide, by decide, rfl⟩ rfl ⟨rfl, rfl, by decide, by decide⟩ ⟨by decide, by decide⟩ [2, 3] [0, 1, 4, 5] rfl rfl ⟨by decide, by decide, by decide⟩ 2 rfl rfl rfl (Nat.le_of_ble_eq_true rfl) dX5_readNewName_83 (fun u_17 hw_18 => ?_)
        refine j_eq (ws2 := [(r0, .inr (5, [.ref t0, .ref e0, .ref r1, .ref r2, .ref a0, .int r_habits, .int r_fault])), (a0, .inr (9, [.int a_wares, .int a_shelves, .int a_nests, .ref a1, .ref a2, .ref a3, .ref a4, .ref a5, .ref a6, .int a_lids, .int a_tops, .ref a7, .ref a8, .ref a9, .ref a10])), (r1, .inl (cyJ, 12, .inr (.inl r_wn))), (r2, .inl (cyJ, 4, .inr (.inl f_16))), (t0, .inr (8, [.ref t1, .int t_length, .int (u_17.2.1 0), .int (u_17.2.1 1), .int (u_17.2.1 2), .int (u_17.2.1 3)])), (t1, .inl (cyC, 1000, .inl t_text))]) (pc2 := 86) (lv2 := [(3, .long (u_6.2.2.2 0 0)), (0, .ref r0), (1, .ref r2), (2, .int p1)]) (st2 := []) rfl rfl rfl rfl ?_
        obtain ⟨hw_18_0, hw_18_1, hw_18_2, hw_18_3, hw_18_4, hw_18_5⟩ := hw_18
        have ha_u_17 := (hw_18_5).trans (TH.adv hw_2_4)
        refine j_iconst (pc := 86) (v := 1) C dX5_readNewName_86 (by decide) ?_
        have el_1 : (1 : Int32).toInt = 1 := rfl
        have el_1 : (1 : Int32).toInt = 1 := rfl
        have el_1 : (1 : Int32).toInt = 1 := rfl
        have el_1 : (1 : Int32).toInt = 1 := rfl
        have el_1 : (1 : Int32).toInt = 1 := rfl
        have el_1 : (1 : Int32).toInt = 1 := rfl
        exact j_zret (pc := 87) C hr rfl hk (fun i => [].getD i 0, fun i => [1, r_fault, (u_17.2.1 0), (u_17.2.1 1), (u_17.2.1 2), (u_17.2.1 3)].getD i 0, fun i => [].getD i (fun _ => 0), fun i => [f_16].getD i (fun _ => 0)) rfl (show (0 ≤ ((1 : Int32)).toInt ∧ ((1 : Int32)).toInt ≤ 1) ∧ (0 ≤ ((u_17.2.1 0)).toInt ∧ ((u_17.2.1 0)).toInt ≤ 1000) ∧ (0 ≤ ((u_17.2.1 1)).toInt ∧ ((u_17.2.1 1)).toInt ≤ 4) ∧ (0 ≤ ((u_17.2.1 2)).toInt ∧ ((u_17.2.1 2)).toInt ≤ 1000) ∧ (¬ ((u_17.2.1 1)).toInt = 3 ∨ ((u_17.2.1 2)).toInt ≤ 999) ∧ (TH t_text (t_length).toInt.toNat ((u_17.2.1 0)).toInt ((u_17.2.1 1)).toInt ((u_17.2.1 2)).toInt ((u_17.2.1 3)).toInt) ∧ (CP ((1 : Int32)).toInt ((u_17.2.1 2)).toInt (r_fault).toInt (r_fault).toInt (rNew (TKS t_text (t_length).toInt.toNat) S (nx (TKS t_text (t_length).toInt.toNat) (t_place).toInt.toNat))) ∧ (∀ j : Nat, ¬ j = (p1).toInt.toNat → f_16 j = r_sn j) ∧ (IM (((1 : Int32)).toInt = 1) (NMR (f_16 (p1).toInt.toNat) ((TKS t_text (t_length).toInt.toNat) (nx (TKS t_text (t_length).toInt.toNat) (t_place).toInt.toNat)).2.1)) from ⟨by omega, hw_18_0, hw_18_1, hw_18_2, by omega, hw_18_4, (CP.ok (by omega) (by omega) (by have hc1 := hCN.1; have hc2 := hCN.2.1; have hf0 : fnd S.1 S.2.1 ((TKS t_text (t_length).toInt.toNat) ((u_1.2.1 2)).toInt.toNat).2.1 = S.2.1 := FX1 hCN.2.2.1 hw_7_0 (fun j hj => hw_9_1 (by omega) j (by omega)); have hf1 : fnd S.2.2.1 S.2.2.2.1 ((TKS t_text (t_length).toInt.toNat) ((u_1.2.1 2)).toInt.toNat).2.1 = S.2.2.2.1 := FX1 hCN.2.2.2 hw_7_0 (fun j hj => hw_14_1 (by omega) j (by omega)); rw [← ha_u_1]; unfold rNew; rw [if_pos (show isNm (TKS t_text (t_length).toInt.toNat) ((u_1.2.1 2)).toInt.toNat = true from nmI_1.mp (by omega)), if_neg (by omega), ← ha_u_17])), (fun j hj => by rw [ef_16]; exact pk_uLn hj), (fun _ => by rw [ef_16, pk_uLs, ← ha_u_1]; exact hw_7_0)⟩) [0, 2, 3, 4, 5, 1] (by decide) rfl (by decide) (by decide) dX5_readNewName_87
      · skip
        have el_m1 : ((-1) : Int32).toInt = (-1) := rfl
        rw [i_eq] at c_15
        refine j_aload_n (pc := 69) C dX5_readNewName_69 rfl 1 rfl ?_
        refine j_iconst (pc := 70) (v := 3) C dX5_readNewName_70 (by decide) ?_
        refine j_callV (pc := 71) (As := [.int 3]) (rest := []) (wr := [(a0, .inr (9, [.int a_wares, .int a_shelves, .int a_nests, .ref a1, .ref a2, .ref a3, .ref a4, .ref a5, .ref a6, .int a_lids, .int a_tops, .ref a7, .ref a8, .ref a9, .ref a10])), (t1, .inl (cyC, 1000, .inl t_text)), (r1, .inl (cyJ, 12, .inr (.inl r_wn))), (r2, .inl (cyJ, 4, .inr (.inl r_sn)))]) C (c_X5_wrong l D cyC cyI cyJ cyZ cyO r0 t0 e0 r1 r2 a0 t1 3 r_habits r_fault t_length (u_1.2.1 0) (u_1.2.1 1) (u_1.2.1 2) (u_1.2.1 3) h_t_length hw_2_0 hw_2_1 hw_2_2 (by decide)) wd_305 wd_306 wd_307 wd_308 wd_309 ⟨by decide, by decide, rfl⟩ rfl ⟨rfl, rfl, by decide, by decide⟩ ⟨by decide, by decide⟩ [0, 2] [1, 3, 4, 5] rfl rfl ⟨by decide, by decide, by decide⟩ 0 rfl rfl rfl (Nat.le_of_ble_eq_true rfl) dX5_readNewName_71 (fun u_19 hw_20 => ?_)
        refine j_eq (ws2 := [(a0, .inr (9, [.int a_wares, .int a_shelves, .int a_nests, .ref a1, .ref a2, .ref a3, .ref a4, .ref a5, .ref a6, .int a_lids, .int a_tops, .ref a7, .ref a8, .ref a9, .ref a10])), (t1, .inl (cyC, 1000, .inl t_text)), (r1, .inl (cyJ, 12, .inr (.inl r_wn))), (r2, .inl (cyJ, 4, .inr (.inl r_sn))), (r0, .inr (5, [.ref t0, .ref e0, .ref r1, .ref r2, .ref a0, .int r_habits, .int (u_19.2.1 0)])), (t0, .inr (8, [.ref t1, .int t_length, .int (u_1.2.1 0), .int (u_1.2.1 1), .int (u_1.2.1 2), .int (u_1.2.1 3)]))]) (pc2 := 74) (lv2 := [(3, .long (u_6.2.2.2 0 0)), (0, .ref r0), (1, .ref r2), (2, .int p1)]) (st2 := [.int 0]) rfl rfl rfl rfl ?_
        have hw_20_0 : ((u_19.2.1 0)).toInt = ((3 : Int32)).toInt + 16 * ((u_1.2.1 2)).toInt := hw_20
        have el_0 : (0 : Int32).toInt = 0 := rfl
        have el_0 : (0 : Int32).toInt = 0 := rfl
        have el_0 : (0 : Int32).toInt = 0 := rfl
        have el_0 : (0 : Int32).toInt = 0 := rfl
        have el_3 : (3 : Int32).toInt = 3 := rfl
        have el_0 : (0 : Int32).toInt = 0 := rfl
        have el_0 : (0 : Int32).toInt = 0 := rfl
        exact j_zret (pc := 74) C hr rfl hk (fun i => [].getD i 0, fun i => [0, (u_19.2.1 0), (u_1.2.1 0), (u_1.2.1 1), (u_1.2.1 2), (u_1.2.1 3)].getD i 0, fun i => [].getD i (fun _ => 0), fun i => [r_sn].getD i (fun _ => 0)) rfl (show (0 ≤ ((0 : Int32)).toInt ∧ ((0 : Int32)).toInt ≤ 1) ∧ (0 ≤ ((u_1.2.1 0)).toInt ∧ ((u_1.2.1 0)).toInt ≤ 1000) ∧ (0 ≤ ((u_1.2.1 1)).toInt ∧ ((u_1.2.1 1)).toInt ≤ 4) ∧ (0 ≤ ((u_1.2.1 2)).toInt ∧ ((u_1.2.1 2)).toInt ≤ 1000) ∧ (¬ ((u_1.2.1 1)).toInt = 3 ∨ ((u_1.2.1 2)).toInt ≤ 999) ∧ (TH t_text (t_length).toInt.toNat ((u_1.2.1 0)).toInt ((u_1.2.1 1)).toInt ((u_1.2.1 2)).toInt ((u_1.2.1 3)).toInt) ∧ (CP ((0 : Int32)).toInt ((u_1.2.1 2)).toInt ((u_19.2.1 0)).toInt (r_fault).toInt (rNew (TKS t_text (t_length).toInt.toNat) S (nx (TKS t_text (t_length).toInt.toNat) (t_place).toInt.toNat))) ∧ (∀ j : Nat, ¬ j = (p1).toInt.toNat → r_sn j = r_sn j) ∧ (IM (((0 : Int32)).toInt = 1) (NMR (r_sn (p1).toInt.toNat) ((TKS t_text (t_length).toInt.toNat) (nx (TKS t_text (t_length).toInt.toNat) (t_place).toInt.toNat)).2.1)) from ⟨by omega, hw_2_0, hw_2_1, hw_2_2, by omega, hw_2_4, (CP.mv (CP.wr (k := 3) (by omega) (by omega) (by omega) (by omega)) (by have hc1 := hCN.1; have hc2 := hCN.2.1; have hf0 : fnd S.1 S.2.1 ((TKS t_text (t_length).toInt.toNat) ((u_1.2.1 2)).toInt.toNat).2.1 = S.2.1 := FX1 hCN.2.2.1 hw_7_0 (fun j hj => hw_9_1 (by omega) j (by omega)); have hy1 := hw_14_2 (by omega); have hf1 : fnd S.2.2.1 S.2.2.2.1 ((TKS t_text (t_length).toInt.toNat) ((u_1.2.1 2)).toInt.toNat).2.1 = (u_13.2.1 0).toInt.toNat := FX2 hCN.2.2.2 hw_7_0 (by omega) hy1.2.1 hy1.2.2; rw [← ha_u_1]; unfold rNew; rw [if_pos (show isNm (TKS t_text (t_length).toInt.toNat) ((u_1.2.1 2)).toInt.toNat = true from nmI_1.mp (by omega)), if_pos (by omega)])), (fun j hj => rfl), (fun h => absurd h (by decide))⟩) [4, 2, 3, 5, 1, 0] (by decide) rfl (by decide) (by decide) dX5_readNewName_74
  · skip
    have el_0 : (0 : Int32).toInt = 0 := rfl
    rw [i_eq] at c_5
    refine j_aload_n (pc := 17) C dX5_readNewName_17 rfl 0 rfl ?_
    refine j_iconst (pc := 18) (v := 1) C dX5_readNewName_18 (by decide) ?_
    refine j_callV (pc := 19) (As := [.int 1]) (rest := []) (wr := [(r1, .inl (cyJ, 12, .inr (.inl r_wn))), (r2, .inl (cyJ, 4, .inr (.inl r_sn))), (a0, .inr (9, [.int a_wares, .int a_shelves, .int a_nests, .ref a1, .ref a2, .ref a3, .ref a4, .ref a5, .ref a6, .int a_lids, .int a_tops, .ref a7, .ref a8, .ref a9, .ref a10])), (t1, .inl (cyC, 1000, .inl t_text))]) C (c_X5_wrong l D cyC cyI cyJ cyZ cyO r0 t0 e0 r1 r2 a0 t1 1 r_habits r_fault t_length (u_1.2.1 0) (u_1.2.1 1) (u_1.2.1 2) (u_1.2.1 3) h_t_length hw_2_0 hw_2_1 hw_2_2 (by decide)) wd_305 wd_306 wd_307 wd_308 wd_309 ⟨by decide, by decide, rfl⟩ rfl ⟨rfl, rfl, by decide, by decide⟩ ⟨by decide, by decide⟩ [0, 4] [1, 2, 3, 5] rfl rfl ⟨by decide, by decide, by decide⟩ 0 rfl rfl rfl (Nat.le_of_ble_eq_true rfl) dX5_readNewName_19 (fun u_21 hw_22 => ?_)
    refine j_eq (ws2 := [(r1, .inl (cyJ, 12, .inr (.inl r_wn))), (r2, .inl (cyJ, 4, .inr (.inl r_sn))), (a0, .inr (9, [.int a_wares, .int a_shelves, .int a_nests, .ref a1, .ref a2, .ref a3, .ref a4, .ref a5, .ref a6, .int a_lids, .int a_tops, .ref a7, .ref a8, .ref a9, .ref a10])), (t1, .inl (cyC, 1000, .inl t_text)), (r0, .inr (5, [.ref t0, .ref e0, .ref r1, .ref r2, .ref a0, .int r_habits, .int (u_21.2.1 0)])), (t0, .inr (8, [.ref t1, .int t_length, .int (u_1.2.1 0), .int (u_1.2.1 1), .int (u_1.2.1 2), .int (u_1.2.1 3)]))]) (pc2 := 22) (lv2 := [(0, .ref r0), (1, .ref r2), (2, .int p1)]) (st2 := [.int 0]) rfl rfl rfl rfl ?_
    have hw_22_0 : ((u_21.2.1 0)).toInt = ((1 : Int32)).toInt + 16 * ((u_1.2.1 2)).toInt := hw_22
    have el_0 : (0 : Int32).toInt = 0 := rfl
    have el_0 : (0 : Int32).toInt = 0 := rfl
    have el_0 : (0 : Int32).toInt = 0 := rfl
    have el_0 : (0 : Int32).toInt = 0 := rfl
    have el_1 : (1 : Int32).toInt = 1 := rfl
    have el_0 : (0 : Int32).toInt = 0 := rfl
    have el_0 : (0 : Int32).toInt = 0 := rfl
    exact j_zret (pc := 22) C hr rfl hk (fun i => [].getD i 0, fun i => [0, (u_21.2.1 0), (u_1.2.1 0), (u_1.2.1 1), (u_1.2.1 2), (u_1.2.1 3)].getD i 0, fun i => [].getD i (fun _ => 0), fun i => [r_sn].getD i (fun _ => 0)) rfl (show (0 ≤ ((0 : Int32)).toInt ∧ ((0 : Int32)).toInt ≤ 1) ∧ (0 ≤ ((u_1.2.1 0)).toInt ∧ ((u_1.2.1 0)).toInt ≤ 1000) ∧ (0 ≤ ((u_1.2.1 1)).toInt ∧ ((u_1.2.1 1)).toInt ≤ 4) ∧ (0 ≤ ((u_1.2.1 2)).toInt ∧ ((u_1.2.1 2)).toInt ≤ 1000) ∧ (¬ ((u_1.2.1 1)).toInt = 3 ∨ ((u_1.2.1 2)).toInt ≤ 999) ∧ (TH t_text (t_length).toInt.toNat ((u_1.2.1 0)).toInt ((u_1.2.1 1)).toInt ((u_1.2.1 2)).toInt ((u_1.2.1 3)).toInt) ∧ (CP ((0 : Int32)).toInt ((u_1.2.1 2)).toInt ((u_21.2.1 0)).toInt (r_fault).toInt (rNew (TKS t_text (t_length).toInt.toNat) S (nx (TKS t_text (t_length).toInt.toNat) (t_place).toInt.toNat))) ∧ (∀ j : Nat, ¬ j = (p1).toInt.toNat → r_sn j = r_sn j) ∧ (IM (((0 : Int32)).toInt = 1) (NMR (r_sn (p1).toInt.toNat) ((TKS t_text (t_length).toInt.toNat) (nx (TKS t_text (t_length).toInt.toNat) (t_place).toInt.toNat)).2.1)) from ⟨by omega, hw_2_0, hw_2_1, hw_2_2, by omega, hw_2_4, (CP.mv (CP.wr (k := 1) (by omega) (by omega) (by omega) (by omega)) (by rw [← ha_u_1]; unfold rNew; rw [if_neg (show ¬ isNm (TKS t_text (t_length).toInt.toNat) ((u_1.2.1 2)).toInt.toNat = true from nmI_0.mp (by omega))])), (fun j hj => rfl), (fun h => absurd h (by decide))⟩) [4, 0, 1, 5, 3, 2] (by decide) rfl (by decide) (by decide) dX5_readNewName_22
set_option maxHeartbeats 4000000 in
set_option maxRecDepth 100000 in
theorem c_X5_readWare (l : Launch) (D : DG) (cyC cyI cyJ cyZ cyO : ClassId) (r0 : Nat) (r1 : Nat) (r2 : Nat) (t0 : Nat) (t1 : Nat) (a0 : Nat) (e0 : Nat) (a1 : Nat) (a2 : Nat) (a3 : Nat) (a4 : Nat) (a5 : Nat) (a6 : Nat) (a7 : Nat) (a8 : Nat) (a9 : Nat) (a10 : Nat) (p0 : Int32) (r_habits : Int32) (r_fault : Int32) (t_length : Int32) (t_next : Int32) (t_kind : Int32) (t_place : Int32) (t_number : Int32) (a_wares : Int32) (a_shelves : Int32) (a_nests : Int32) (a_lids : Int32) (a_tops : Int32) (r_wn : Nat → Int64) (r_sn : Nat → Int64) (t_text : Nat → Int32) (S : ((Nat → Int64) × Nat × (Nat → Int64) × Nat × (Nat → Bool) × (Nat → Bool) × Nat)) (a : Nat → Bool) (h_t_length : 0 ≤ (t_length).toInt ∧ (t_length).toInt ≤ 1000) (h_t_next : 0 ≤ (t_next).toInt ∧ (t_next).toInt ≤ 1000) (h_t_kind : 0 ≤ (t_kind).toInt ∧ (t_kind).toInt ≤ 4) (h_t_place : 0 ≤ (t_place).toInt ∧ (t_place).toInt ≤ 1000) (h_a_wares : 0 ≤ (a_wares).toInt ∧ (a_wares).toInt ≤ 12) (h_a_shelves : 0 ≤ (a_shelves).toInt ∧ (a_shelves).toInt ≤ 4) (h_a_nests : 0 ≤ (a_nests).toInt ∧ (a_nests).toInt ≤ 4) (h_t_text : Iv 1000 (0) (126) t_text) (ht3 : ¬ (t_kind).toInt = 3 ∨ (t_place).toInt ≤ 999) (hTH : TH t_text (t_length).toInt.toNat (t_next).toInt (t_kind).toInt (t_place).toInt (t_number).toInt) (hCN : CN r_wn r_sn (a_wares).toInt (a_shelves).toInt S) (hab : ∀ j : Nat, j < 12 → BT p0 j = a j) : KK l D (TY cyC cyI cyJ cyZ cyO) yX5_readWare cX5_readWare 3 (some .int) ({ frames := 6, cells := 0, slots := 0, locals := 130 } : Room) 0 0 [.ref r0, .int p0] [(r0, .inr (5, [.ref t0, .ref e0, .ref r1, .ref r2, .ref a0, .int r_habits, .int r_fault])), (r1, .inl (cyJ, 12, .inr (.inl r_wn))), (r2, .inl (cyJ, 4, .inr (.inl r_sn))), (t0, .inr (8, [.ref t1, .int t_length, .int t_next, .int t_kind, .int t_place, .int t_number])), (t1, .inl (cyC, 1000, .inl t_text)), (a0, .inr (9, [.int a_wares, .int a_shelves, .int a_nests, .ref a1, .ref a2, .ref a3, .ref a4, .ref a5, .ref a6, .int a_lids, .int a_tops, .ref a7, .ref a8, .ref a9, .ref a10]))] (fun u => some (.int (u.2.1 0))) (fun u => (-1 ≤ (u.2.1 0).toInt ∧ (u.2.1 0).toInt ≤ 11) ∧ (0 ≤ (u.2.1 2).toInt ∧ (u.2.1 2).toInt ≤ 1000) ∧ (0 ≤ (u.2.1 3).toInt ∧ (u.2.1 3).toInt ≤ 4) ∧ (0 ≤ (u.2.1 4).toInt ∧ (u.2.1 4).toInt ≤ 1000) ∧ (¬ ((u.2.1 3)).toInt = 3 ∨ ((u.2.1 4)).toInt ≤ 999) ∧ (TH t_text (t_length).toInt.toNat ((u.2.1 2)).toInt ((u.2.1 3)).toInt ((u.2.1 4)).toInt ((u.2.1 5)).toInt) ∧ (RW ((u.2.1 0)).toInt ((u.2.1 4)).toInt ((u.2.1 1)).toInt (r_fault).toInt (fnd S.1 S.2.1 ((TKS t_text (t_length).toInt.toNat) (nx (TKS t_text (t_length).toInt.toNat) (t_place).toInt.toNat)).2.1) (rOld (TKS t_text (t_length).toInt.toNat) S a (nx (TKS t_text (t_length).toInt.toNat) (t_place).toInt.toNat)))) (fun u => [(r0, .inr (5, [.ref t0, .ref e0, .ref r1, .ref r2, .ref a0, .int r_habits, .int (u.2.1 1)])), (r1, .inl (cyJ, 12, .inr (.inl r_wn))), (r2, .inl (cyJ, 4, .inr (.inl r_sn))), (t0, .inr (8, [.ref t1, .int t_length, .int (u.2.1 2), .int (u.2.1 3), .int (u.2.1 4), .int (u.2.1 5)])), (t1, .inl (cyC, 1000, .inl t_text)), (a0, .inr (9, [.int a_wares, .int a_shelves, .int a_nests, .ref a1, .ref a2, .ref a3, .ref a4, .ref a5, .ref a6, .int a_lids, .int a_tops, .ref a7, .ref a8, .ref a9, .ref a10]))]) := by
  refine KK.of (lv0 := [(0, .ref r0), (1, .int p0)]) (by decide) rfl (Nat.le_of_ble_eq_true rfl) ?_
  intro p e s m args below meth c A C hr hk hin
  refine j_aload_n (pc := 0) C dX5_readWare_0 rfl 0 rfl ?_
  refine j_get (pc := 1) (ci := 5) (v := .ref t0) C inw_5 0 rfl rfl 0 (by decide) wd_296 rfl rfl dX5_readWare_1 ?_
  refine j_callV (pc := 4) (As := []) (rest := []) (wr := [(r0, .inr (5, [.ref t0, .ref e0, .ref r1, .ref r2, .ref a0, .int r_habits, .int r_fault])), (r1, .inl (cyJ, 12, .inr (.inl r_wn))), (r2, .inl (cyJ, 4, .inr (.inl r_sn))), (a0, .inr (9, [.int a_wares, .int a_shelves, .int a_nests, .ref a1, .ref a2, .ref a3, .ref a4, .ref a5, .ref a6, .int a_lids, .int a_tops, .ref a7, .ref a8, .ref a9, .ref a10]))]) C (c_X8_advance_f l D cyC cyI cyJ cyZ cyO t0 t1 t_length t_next t_kind t_place t_number t_text h_t_length h_t_next h_t_kind h_t_place h_t_text) wd_277 wd_258 wd_304 wd_279 wd_280 ⟨by decide, by decide, rfl⟩ rfl ⟨rfl, rfl, by decide, by decide⟩ ⟨by decide, by decide⟩ [3, 4] [0, 1, 2, 5] rfl rfl ⟨by decide, by decide, by decide⟩ 3 rfl rfl rfl (Nat.le_of_ble_eq_true rfl) dX5_readWare_4 (fun u_1 hw_2 => ?_)
  refine j_eq (ws2 := [(r0, .inr (5, [.ref t0, .ref e0, .ref r1, .ref r2, .ref a0, .int r_habits, .int r_fault])), (r1, .inl (cyJ, 12, .inr (.inl r_wn))), (r2, .inl (cyJ, 4, .inr (.inl r_sn))), (a0, .inr (9, [.int a_wares, .int a_shelves, .int a_nests, .ref a1, .ref a2, .ref a3, .ref a4, .ref a5, .ref a6, .int a_lids, .int a_tops, .ref a7, .ref a8, .ref a9, .ref a10])), (t0, .inr (8, [.ref t1, .int t_length, .int (u_1.2.1 0), .int (u_1.2.1 1), .int (u_1.2.1 2), .int (u_1.2.1 3)])), (t1, .inl (cyC, 1000, .inl t_text))]) (pc2 := 7) (lv2 := [(0, .ref r0), (1, .int p0)]) (st2 := []) rfl rfl rfl rfl ?_
  obtain ⟨hw_2_0, hw_2_1, hw_2_2, hw_2_3, hw_2_4, hw_2_5⟩ := hw_2
  have ha_u_1 := (hw_2_5).trans (TH.adv hTH)
  refine j_aload_n (pc := 7) C dX5_readWare_7 rfl 0 rfl ?_
  refine j_get (pc := 8) (ci := 5) (v := .ref t0) C inw_5 0 rfl rfl 0 (by decide) wd_296 rfl rfl dX5_readWare_8 ?_
  refine j_callV (pc := 11) (As := []) (rest := []) (wr := [(r0, .inr (5, [.ref t0, .ref e0, .ref r1, .ref r2, .ref a0, .int r_habits, .int r_fault])), (r1, .inl (cyJ, 12, .inr (.inl r_wn))), (r2, .inl (cyJ, 4, .inr (.inl r_sn))), (a0, .inr (9, [.int a_wares, .int a_shelves, .int a_nests, .ref a1, .ref a2, .ref a3, .ref a4, .ref a5, .ref a6, .int a_lids, .int a_tops, .ref a7, .ref a8, .ref a9, .ref a10]))]) C (c_X8_isName_f l D cyC cyI cyJ cyZ cyO t0 t1 t_length (u_1.2.1 0) (u_1.2.1 1) (u_1.2.1 2) (u_1.2.1 3) t_text h_t_length hw_2_0 hw_2_1 hw_2_2 h_t_text hw_2_4) wd_317 wd_258 wd_318 wd_319 wd_320 ⟨by decide, by decide, rfl⟩ rfl ⟨rfl, rfl, by decide, by decide⟩ ⟨by decide, by decide⟩ [4, 5] [0, 1, 2, 3] rfl rfl ⟨by decide, by decide, by decide⟩ 4 rfl rfl rfl (Nat.le_of_ble_eq_true rfl) dX5_readWare_11 (fun u_3 hw_4 => ?_)
  refine j_eq (ws2 := [(r0, .inr (5, [.ref t0, .ref e0, .ref r1, .ref r2, .ref a0, .int r_habits, .int r_fault])), (r1, .inl (cyJ, 12, .inr (.inl r_wn))), (r2, .inl (cyJ, 4, .inr (.inl r_sn))), (a0, .inr (9, [.int a_wares, .int a_shelves, .int a_nests, .ref a1, .ref a2, .ref a3, .ref a4, .ref a5, .ref a6, .int a_lids, .int a_tops, .ref a7, .ref a8, .ref a9, .ref a10])), (t0, .inr (8, [.ref t1, .int t_length, .int (u_1.2.1 0), .int (u_1.2.1 1), .int (u_1.2.1 2), .int (u_1.2.1 3)])), (t1, .inl (cyC, 1000, .inl t_text))]) (pc2 := 14) (lv2 := [(0, .ref r0), (1, .int p0)]) (st2 := [.int (u_3.2.1 0)]) rfl rfl rfl rfl ?_
  obtain ⟨hw_4_0, hw_4_1, hw_4_2⟩ := hw_4
  refine j_if_eq (pc := 14) (tgt := 41) C dX5_readWare_14 (by decide) (fun c_5 => ?_) (fun c_5 => ?_)
  · skip
    have el_0 : (0 : Int32).toInt = 0 := rfl
    rw [i_eq] at c_5
    refine j_iconst (pc := 41) (v := (-1)) C dX5_readWare_41 (by decide) ?_
    refine j_istore_n (pc := 42) (lv' := [(2, .int (-1)), (0, .ref r0), (1, .int p0)]) C dX5_readWare_42 rfl (by decide) rfl ?_
    refine j_aload_n (pc := 43) C dX5_readWare_43 rfl 1 rfl ?_
    refine j_get (pc := 44) (ci := 5) (v := .ref t0) C inw_5 0 rfl rfl 0 (by decide) wd_296 rfl rfl dX5_readWare_44 ?_
    refine j_callV (pc := 47) (As := []) (rest := []) (wr := [(r0, .inr (5, [.ref t0, .ref e0, .ref r1, .ref r2, .ref a0, .int r_habits, .int r_fault])), (r1, .inl (cyJ, 12, .inr (.inl r_wn))), (r2, .inl (cyJ, 4, .inr (.inl r_sn))), (a0, .inr (9, [.int a_wares, .int a_shelves, .int a_nests, .ref a1, .ref a2, .ref a3, .ref a4, .ref a5, .ref a6, .int a_lids, .int a_tops, .ref a7, .ref a8, .ref a9, .ref a10]))]) C (c_X8_isName_f l D cyC cyI cyJ cyZ cyO t0 t1 t_length (u_1.2.1 0) (u_1.2.1 1) (u_1.2.1 2) (u_1.2.1 3) t_text h_t_length hw_2_0 hw_2_1 hw_2_2 h_t_text hw_2_4) wd_317 wd_258 wd_318 wd_319 wd_320 ⟨by decide, by decide, rfl⟩ rfl ⟨rfl, rfl, by decide, by decide⟩ ⟨by decide, by decide⟩ [4, 5] [0, 1, 2, 3] rfl rfl ⟨by decide, by decide, by decide⟩ 4 rfl rfl rfl (Nat.le_of_ble_eq_true rfl) dX5_readWare_47 (fun u_6 hw_7 => ?_)
    refine j_eq (ws2 := [(r0, .inr (5, [.ref t0, .ref e0, .ref r1, .ref r2, .ref a0, .int r_habits, .int r_fault])), (r1, .inl (cyJ, 12, .inr (.inl r_wn))), (r2, .inl (cyJ, 4, .inr (.inl r_sn))), (a0, .inr (9, [.int a_wares, .int a_shelves, .int a_nests, .ref a1, .ref a2, .ref a3, .ref a4, .ref a5, .ref a6, .int a_lids, .int a_tops, .ref a7, .ref a8, .ref a9, .ref a10])), (t0, .inr (8, [.ref t1, .int t_length, .int (u_1.2.1 0), .int (u_1.2.1 1), .int (u_1.2.1 2), .int (u_1.2.1 3)])), (t1, .inl (cyC, 1000, .inl t_text))]) (pc2 := 50) (lv2 := [(2, .int (-1)), (0, .ref r0), (1, .int p0)]) (st2 := [.int (u_6.2.1 0)]) rfl rfl rfl rfl ?_
    obtain ⟨hw_7_0, hw_7_1, hw_7_2⟩ := hw_7
    have el_0 : (0 : Int32).toInt = 0 := rfl
    refine j_if_ne_f (pc := 50) (tgt := 62) C dX5_readWare_50 (by decide) (by rw [i_eq]; omega) ?_
    refine j_aload_n (pc := 53) C dX5_readWare_53 rfl 1 rfl ?_
    refine j_iconst (pc := 54) (v := 1) C dX5_readWare_54 (by decide) ?_
    refine j_callV (pc := 55) (As := [.int 1]) (rest := []) (wr := [(r1, .inl (cyJ, 12, .inr (.inl r_wn))), (r2, .inl (cyJ, 4, .inr (.inl r_sn))), (a0, .inr (9, [.int a_wares, .int a_shelves, .int a_nests, .ref a1, .ref a2, .ref a3, .ref a4, .ref a5, .ref a6, .int a_lids, .int a_tops, .ref a7, .ref a8, .ref a9, .ref a10])), (t1, .inl (cyC, 1000, .inl t_text))]) C (c_X5_wrong l D cyC cyI cyJ cyZ cyO r0 t0 e0 r1 r2 a0 t1 1 r_habits r_fault t_length (u_1.2.1 0) (u_1.2.1 1) (u_1.2.1 2) (u_1.2.1 3) h_t_length hw_2_0 hw_2_1 hw_2_2 (by decide)) wd_305 wd_306 wd_307 wd_308 wd_309 ⟨by decide, by decide, rfl⟩ rfl ⟨rfl, rfl, by decide, by decide⟩ ⟨by decide, by decide⟩ [0, 4] [1, 2, 3, 5] rfl rfl ⟨by decide, by decide, by decide⟩ 0 rfl rfl rfl (Nat.le_of_ble_eq_true rfl) dX5_readWare_55 (fun u_8 hw_9 => ?_)
    refine j_eq (ws2 := [(r1, .inl (cyJ, 12, .inr (.inl r_wn))), (r2, .inl (cyJ, 4, .inr (.inl r_sn))), (a0, .inr (9, [.int a_wares, .int a_shelves, .int a_nests, .ref a1, .ref a2, .ref a3, .ref a4, .ref a5, .ref a6, .int a_lids, .int a_tops, .ref a7, .ref a8, .ref a9, .ref a10])), (t1, .inl (cyC, 1000, .inl t_text)), (r0, .inr (5, [.ref t0, .ref e0, .ref r1, .ref r2, .ref a0, .int r_habits, .int (u_8.2.1 0)])), (t0, .inr (8, [.ref t1, .int t_length, .int (u_1.2.1 0), .int (u_1.2.1 1), .int (u_1.2.1 2), .int (u_1.2.1 3)]))]) (pc2 := 58) (lv2 := [(2, .int (-1)), (0, .ref r0), (1, .int p0)]) (st2 := [.int 0]) rfl rfl rfl rfl ?_
    have hw_9_0 : ((u_8.2.1 0)).toInt = ((1 : Int32)).toInt + 16 * ((u_1.2.1 2)).toInt := hw_9
    refine j_pop (pc := 58) C dX5_readWare_58 rfl ?_
    refine j_goto (pc := 59) (tgt := 103) C dX5_readWare_59 (by decide) ?_
    refine j_iload_n (pc := 103) C dX5_readWare_103 rfl 0 rfl ?_
    have el_m1 : ((-1) : Int32).toInt = (-1) := rfl
    have el_m1 : ((-1) : Int32).toInt = (-1) := rfl
    have el_m1 : ((-1) : Int32).toInt = (-1) := rfl
    have el_m1 : ((-1) : Int32).toInt = (-1) := rfl
    have el_1 : (1 : Int32).toInt = 1 := rfl
    exact j_iret (pc := 104) C hr hk (fun i => [].getD i 0, fun i => [(-1), (u_8.2.1 0), (u_1.2.1 0), (u_1.2.1 1), (u_1.2.1 2), (u_1.2.1 3)].getD i 0, fun i => [].getD i (fun _ => 0), fun i => [].getD i (fun _ => 0)) rfl (show (-1 ≤ (((-1) : Int32)).toInt ∧ (((-1) : Int32)).toInt ≤ 11) ∧ (0 ≤ ((u_1.2.1 0)).toInt ∧ ((u_1.2.1 0)).toInt ≤ 1000) ∧ (0 ≤ ((u_1.2.1 1)).toInt ∧ ((u_1.2.1 1)).toInt ≤ 4) ∧ (0 ≤ ((u_1.2.1 2)).toInt ∧ ((u_1.2.1 2)).toInt ≤ 1000) ∧ (¬ ((u_1.2.1 1)).toInt = 3 ∨ ((u_1.2.1 2)).toInt ≤ 999) ∧ (TH t_text (t_length).toInt.toNat ((u_1.2.1 0)).toInt ((u_1.2.1 1)).toInt ((u_1.2.1 2)).toInt ((u_1.2.1 3)).toInt) ∧ (RW (((-1) : Int32)).toInt ((u_1.2.1 2)).toInt ((u_8.2.1 0)).toInt (r_fault).toInt (fnd S.1 S.2.1 ((TKS t_text (t_length).toInt.toNat) (nx (TKS t_text (t_length).toInt.toNat) (t_place).toInt.toNat)).2.1) (rOld (TKS t_text (t_length).toInt.toNat) S a (nx (TKS t_text (t_length).toInt.toNat) (t_place).toInt.toNat))) from ⟨by omega, hw_2_0, hw_2_1, hw_2_2, by omega, hw_2_4, (RW.mv (RW.wr (k := 1) (by omega) (by omega) (by omega) (by omega)) (by rw [← ha_u_1]; unfold rOld; rw [if_neg (show ¬ isNm (TKS t_text (t_length).toInt.toNat) ((u_1.2.1 2)).toInt.toNat = true from nmI_0.mp (by omega))]))⟩) [4, 0, 1, 5, 3, 2] (by decide) rfl (by decide) (by decide) dX5_readWare_104
  · skip
    have el_0 : (0 : Int32).toInt = 0 := rfl
    rw [i_eq] at c_5
    have k0c_5 : ((u_3.2.1 0)).toInt = 1 := by omega
    refine j_aload_n (pc := 17) C dX5_readWare_17 rfl 0 rfl ?_
    refine j_get (pc := 18) (ci := 5) (v := .ref r1) C inw_5 0 rfl rfl 2 (by decide) wd_325 rfl rfl dX5_readWare_18 ?_
    refine j_aload_n (pc := 21) C dX5_readWare_21 rfl 0 rfl ?_
    refine j_get (pc := 22) (ci := 5) (v := .ref a0) C inw_5 0 rfl rfl 4 (by decide) wd_299 rfl rfl dX5_readWare_22 ?_
    refine j_get (pc := 25) (ci := 9) (v := .int a_wares) C inw_9 3 rfl rfl 0 (by decide) wd_326 rfl rfl dX5_readWare_25 ?_
    refine j_aload_n (pc := 28) C dX5_readWare_28 rfl 0 rfl ?_
    refine j_get (pc := 29) (ci := 5) (v := .ref t0) C inw_5 0 rfl rfl 0 (by decide) wd_296 rfl rfl dX5_readWare_29 ?_
    refine j_callV (pc := 32) (As := []) (rest := [.int a_wares, .ref r1]) (wr := [(r0, .inr (5, [.ref t0, .ref e0, .ref r1, .ref r2, .ref a0, .int r_habits, .int r_fault])), (r1, .inl (cyJ, 12, .inr (.inl r_wn))), (r2, .inl (cyJ, 4, .inr (.inl r_sn))), (a0, .inr (9, [.int a_wares, .int a_shelves, .int a_nests, .ref a1, .ref a2, .ref a3, .ref a4, .ref a5, .ref a6, .int a_lids, .int a_tops, .ref a7, .ref a8, .ref a9, .ref a10]))]) C (c_X8_code_f l D cyC cyI cyJ cyZ cyO t0 t1 t_length (u_1.2.1 0) (u_1.2.1 1) (u_1.2.1 2) (u_1.2.1 3) t_text h_t_length hw_2_0 hw_2_1 hw_2_2 h_t_text (by omega) hw_2_4) wd_321 wd_258 wd_322 wd_323 wd_324 ⟨by decide, by decide, rfl⟩ rfl ⟨rfl, rfl, by decide, by decide⟩ ⟨by decide, by decide⟩ [4, 5] [0, 1, 2, 3] rfl rfl ⟨by decide, by decide, by decide⟩ 4 rfl rfl rfl (Nat.le_of_ble_eq_true rfl) dX5_readWare_32 (fun u_10 hw_11 => ?_)
    refine j_eq (ws2 := [(r0, .inr (5, [.ref t0, .ref e0, .ref r1, .ref r2, .ref a0, .int r_habits, .int r_fault])), (r1, .inl (cyJ, 12, .inr (.inl r_wn))), (r2, .inl (cyJ, 4, .inr (.inl r_sn))), (a0, .inr (9, [.int a_wares, .int a_shelves, .int a_nests, .ref a1, .ref a2, .ref a3, .ref a4, .ref a5, .ref a6, .int a_lids, .int a_tops, .ref a7, .ref a8, .ref a9, .ref a10])), (t0, .inr (8, [.ref t1, .int t_length, .int (u_1.2.1 0), .int (u_1.2.1 1), .int (u_1.2.1 2), .int (u_1.2.1 3)])), (t1, .inl (cyC, 1000, .inl t_text))]) (pc2 := 35) (lv2 := [(0, .ref r0), (1, .int p0)]) (st2 := [.long (u_10.2.2.2 0 0), .int a_wares, .ref r1]) rfl rfl rfl rfl ?_
    have hw_11_0 : NMR (u_10.2.2.2 0 0) ((TKS t_text (t_length).toInt.toNat) ((u_1.2.1 2)).toInt.toNat).2.1 := hw_11
    refine j_callS (pc := 35) (As := [.ref r1, .int a_wares, .long (u_10.2.2.2 0 0)]) (rest := []) (wr := [(r0, .inr (5, [.ref t0, .ref e0, .ref r1, .ref r2, .ref a0, .int r_habits, .int r_fault])), (r2, .inl (cyJ, 4, .inr (.inl r_sn))), (a0, .inr (9, [.int a_wares, .int a_shelves, .int a_nests, .ref a1, .ref a2, .ref a3, .ref a4, .ref a5, .ref a6, .int a_lids, .int a_tops, .ref a7, .ref a8, .ref a9, .ref a10])), (t0, .inr (8, [.ref t1, .int t_length, .int (u_1.2.1 0), .int (u_1.2.1 1), .int (u_1.2.1 2), .int (u_1.2.1 3)])), (t1, .inl (cyC, 1000, .inl t_text))]) C (c_X5_indexOf_12 l D cyC cyI cyJ cyZ cyO r1 a_wares (u_10.2.2.2 0 0) r_wn h_a_wares) wd_327 wd_306 wd_328 wd_329 ⟨by decide, by decide, rfl⟩ rfl ⟨rfl, rfl, by decide, by decide⟩ ⟨by decide, by decide⟩ [1] [0, 2, 3, 4, 5] rfl rfl ⟨by decide, by decide, by decide⟩ rfl (Nat.le_of_ble_eq_true rfl) dX5_readWare_35 (fun u_12 hw_13 => ?_)
    refine j_eq (ws2 := [(r0, .inr (5, [.ref t0, .ref e0, .ref r1, .ref r2, .ref a0, .int r_habits, .int r_fault])), (r2, .inl (cyJ, 4, .inr (.inl r_sn))), (a0, .inr (9, [.int a_wares, .int a_shelves, .int a_nests, .ref a1, .ref a2, .ref a3, .ref a4, .ref a5, .ref a6, .int a_lids, .int a_tops, .ref a7, .ref a8, .ref a9, .ref a10])), (t0, .inr (8, [.ref t1, .int t_length, .int (u_1.2.1 0), .int (u_1.2.1 1), .int (u_1.2.1 2), .int (u_1.2.1 3)])), (t1, .inl (cyC, 1000, .inl t_text)), (r1, .inl (cyJ, 12, .inr (.inl r_wn)))]) (pc2 := 38) (lv2 := [(0, .ref r0), (1, .int p0)]) (st2 := [.int (u_12.2.1 0)]) rfl rfl rfl rfl ?_
    obtain ⟨hw_13_0, hw_13_1, hw_13_2⟩ := hw_13
    refine j_goto (pc := 38) (tgt := 42) C dX5_readWare_38 (by decide) ?_
    refine j_istore_n (pc := 42) (lv' := [(2, .int (u_12.2.1 0)), (0, .ref r0), (1, .int p0)]) C dX5_readWare_42 rfl (by decide) rfl ?_
    refine j_aload_n (pc := 43) C dX5_readWare_43 rfl 1 rfl ?_
    refine j_get (pc := 44) (ci := 5) (v := .ref t0) C inw_5 0 rfl rfl 0 (by decide) wd_296 rfl rfl dX5_readWare_44 ?_
    refine j_callV (pc := 47) (As := []) (rest := []) (wr := [(r0, .inr (5, [.ref t0, .ref e0, .ref r1, .ref r2, .ref a0, .int r_habits, .int r_fault])), (r2, .inl (cyJ, 4, .inr (.inl r_sn))), (a0, .inr (9, [.int a_wares, .int a_shelves, .int a_nests, .ref a1, .ref a2, .ref a3, .ref a4, .ref a5, .ref a6, .int a_lids, .int a_tops, .ref a7, .ref a8, .ref a9, .ref a10])), (r1, .inl (cyJ, 12, .inr (.inl r_wn)))]) C (c_X8_isName_f l D cyC cyI cyJ cyZ cyO t0 t1 t_length (u_1.2.1 0) (u_1.2.1 1) (u_1.2.1 2) (u_1.2.1 3) t_text h_t_length hw_2_0 hw_2_1 hw_2_2 h_t_text hw_2_4) wd_317 wd_258 wd_318 wd_319 wd_320 ⟨by decide, by decide, rfl⟩ rfl ⟨rfl, rfl, by decide, by decide⟩ ⟨by decide, by decide⟩ [3, 4] [0, 1, 2, 5] rfl rfl ⟨by decide, by decide, by decide⟩ 3 rfl rfl rfl (Nat.le_of_ble_eq_true rfl) dX5_readWare_47 (fun u_14 hw_15 => ?_)
    refine j_eq (ws2 := [(r0, .inr (5, [.ref t0, .ref e0, .ref r1, .ref r2, .ref a0, .int r_habits, .int r_fault])), (r2, .inl (cyJ, 4, .inr (.inl r_sn))), (a0, .inr (9, [.int a_wares, .int a_shelves, .int a_nests, .ref a1, .ref a2, .ref a3, .ref a4, .ref a5, .ref a6, .int a_lids, .int a_tops, .ref a7, .ref a8, .ref a9, .ref a10])), (r1, .inl (cyJ, 12, .inr (.inl r_wn))), (t0, .inr (8, [.ref t1, .int t_length, .int (u_1.2.1 0), .int (u_1.2.1 1), .int (u_1.2.1 2), .int (u_1.2.1 3)])), (t1, .inl (cyC, 1000, .inl t_text))]) (pc2 := 50) (lv2 := [(2, .int (u_12.2.1 0)), (0, .ref r0), (1, .int p0)]) (st2 := [.int (u_14.2.1 0)]) rfl rfl rfl rfl ?_
    obtain ⟨hw_15_0, hw_15_1, hw_15_2⟩ := hw_15
    have el_0 : (0 : Int32).toInt = 0 := rfl
    refine j_if_ne_t (pc := 50) (tgt := 62) C dX5_readWare_50 (by decide) (by rw [i_eq]; omega) ?_
    refine j_iload_n (pc := 62) C dX5_readWare_62 rfl 0 rfl ?_
    refine j_iconst (pc := 63) (v := (-1)) C dX5_readWare_63 (by decide) ?_
    refine j_icmp_ne (pc := 64) (tgt := 76) C dX5_readWare_64 (by decide) (fun c_16 => ?_) (fun c_16 => ?_)
    · skip
      have el_m1 : ((-1) : Int32).toInt = (-1) := rfl
      rw [i_eq] at c_16
      refine j_iload_n (pc := 76) C dX5_readWare_76 rfl 2 rfl ?_
      refine j_iload_n (pc := 77) C dX5_readWare_77 rfl 0 rfl ?_
      obtain ⟨v_17, ev_17⟩ : ∃ z : Int32, ((p0 : Int32).toUInt32 >>> (((u_12.2.1 0) : Int32).toUInt32 &&& Int32.toUInt32 31)).toInt32 = z := ⟨_, rfl⟩
      refine j_iushr (pc := 78) (v := v_17) C dX5_readWare_78 ev_17 ?_
      refine j_iconst (pc := 79) (v := 1) C dX5_readWare_79 (by decide) ?_
      obtain ⟨v_18, ev_18⟩ : ∃ z : Int32, v_17 &&& 1 = z := ⟨_, rfl⟩
      have el_1 : (1 : Int32).toInt = 1 := rfl
      have hv_18 : 0 ≤ v_18.toInt ∧ v_18.toInt ≤ 1 := by rw [← ev_18]; exact and1_r _
      refine j_iand (pc := 80) (v := v_18) C dX5_readWare_80 ev_18 ?_
      have hb9 : v_18.toInt = if BT p0 ((u_12.2.1 0)).toInt.toNat = true then 1 else 0 := by rw [← ev_18, ← ev_17]; exact bt_rd (by omega) (by omega)
      refine j_iconst (pc := 81) (v := 1) C dX5_readWare_81 (by decide) ?_
      refine j_icmp_ne (pc := 82) (tgt := 96) C dX5_readWare_82 (by decide) (fun c_19 => ?_) (fun c_19 => ?_)
      · skip
        have el_1 : (1 : Int32).toInt = 1 := rfl
        rw [i_eq] at c_19
        have k0c_19 : v_18.toInt = 0 := by omega
        refine j_aload_n (pc := 96) C dX5_readWare_96 rfl 1 rfl ?_
        refine j_get (pc := 97) (ci := 5) (v := .ref t0) C inw_5 0 rfl rfl 0 (by decide) wd_296 rfl rfl dX5_readWare_97 ?_
        refine j_callV (pc := 100) (As := []) (rest := []) (wr := [(r0, .inr (5, [.ref t0, .ref e0, .ref r1, .ref r2, .ref a0, .int r_habits, .int r_fault])), (r2, .inl (cyJ, 4, .inr (.inl r_sn))), (a0, .inr (9, [.int a_wares, .int a_shelves, .int a_nests, .ref a1, .ref a2, .ref a3, .ref a4, .ref a5, .ref a6, .int a_lids, .int a_tops, .ref a7, .ref a8, .ref a9, .ref a10])), (r1, .inl (cyJ, 12, .inr (.inl r_wn)))]) C (c_X8_advance_f l D cyC cyI cyJ cyZ cyO t0 t1 t_length (u_1.2.1 0) (u_1.2.1 1) (u_1.2.1 2) (u_1.2.1 3) t_text h_t_length hw_2_0 hw_2_1 hw_2_2 h_t_text) wd_277 wd_258 wd_304 wd_279 wd_280 ⟨by decide, by decide, rfl⟩ rfl ⟨rfl, rfl, by decide, by decide⟩ ⟨by decide, by decide⟩ [4, 5] [0, 1, 2, 3] rfl rfl ⟨by decide, by decide, by decide⟩ 4 rfl rfl rfl (Nat.le_of_ble_eq_true rfl) dX5_readWare_100 (fun u_20 hw_21 => ?_)
        refine j_eq (ws2 := [(r0, .inr (5, [.ref t0, .ref e0, .ref r1, .ref r2, .ref a0, .int r_habits, .int r_fault])), (r2, .inl (cyJ, 4, .inr (.inl r_sn))), (a0, .inr (9, [.int a_wares, .int a_shelves, .int a_nests, .ref a1, .ref a2, .ref a3, .ref a4, .ref a5, .ref a6, .int a_lids, .int a_tops, .ref a7, .ref a8, .ref a9, .ref a10])), (r1, .inl (cyJ, 12, .inr (.inl r_wn))), (t0, .inr (8, [.ref t1, .int t_length, .int (u_20.2.1 0), .int (u_20.2.1 1), .int (u_20.2.1 2), .int (u_20.2.1 3)])), (t1, .inl (cyC, 1000, .inl t_text))]) (pc2 := 103) (lv2 := [(2, .int (u_12.2.1 0)), (0, .ref r0), (1, .int p0)]) (st2 := []) rfl rfl rfl rfl ?_
        obtain ⟨hw_21_0, hw_21_1, hw_21_2, hw_21_3, hw_21_4, hw_21_5⟩ := hw_21
        have ha_u_20 := (hw_21_5).trans (TH.adv hw_2_4)
        refine j_iload_n (pc := 103) C dX5_readWare_103 rfl 0 rfl ?_
        exact j_iret (pc := 104) C hr hk (fun i => [].getD i 0, fun i => [(u_12.2.1 0), r_fault, (u_20.2.1 0), (u_20.2.1 1), (u_20.2.1 2), (u_20.2.1 3)].getD i 0, fun i => [].getD i (fun _ => 0), fun i => [].getD i (fun _ => 0)) rfl (show (-1 ≤ ((u_12.2.1 0)).toInt ∧ ((u_12.2.1 0)).toInt ≤ 11) ∧ (0 ≤ ((u_20.2.1 0)).toInt ∧ ((u_20.2.1 0)).toInt ≤ 1000) ∧ (0 ≤ ((u_20.2.1 1)).toInt ∧ ((u_20.2.1 1)).toInt ≤ 4) ∧ (0 ≤ ((u_20.2.1 2)).toInt ∧ ((u_20.2.1 2)).toInt ≤ 1000) ∧ (¬ ((u_20.2.1 1)).toInt = 3 ∨ ((u_20.2.1 2)).toInt ≤ 999) ∧ (TH t_text (t_length).toInt.toNat ((u_20.2.1 0)).toInt ((u_20.2.1 1)).toInt ((u_20.2.1 2)).toInt ((u_20.2.1 3)).toInt) ∧ (RW ((u_12.2.1 0)).toInt ((u_20.2.1 2)).toInt (r_fault).toInt (r_fault).toInt (fnd S.1 S.2.1 ((TKS t_text (t_length).toInt.toNat) (nx (TKS t_text (t_length).toInt.toNat) (t_place).toInt.toNat)).2.1) (rOld (TKS t_text (t_length).toInt.toNat) S a (nx (TKS t_text (t_length).toInt.toNat) (t_place).toInt.toNat))) from ⟨hw_13_0, hw_21_0, hw_21_1, hw_21_2, by omega, hw_21_4, ⟨fun _ => by have hc1 := hCN.1; have hc2 := hCN.2.1; have hy0 := hw_13_2 (by omega); have hf0 : fnd S.1 S.2.1 ((TKS t_text (t_length).toInt.toNat) ((u_1.2.1 2)).toInt.toNat).2.1 = (u_12.2.1 0).toInt.toNat := FX2 hCN.2.2.1 hw_11_0 (by omega) hy0.2.1 hy0.2.2; have ht9 : ¬ a (fnd S.1 S.2.1 ((TKS t_text (t_length).toInt.toNat) ((u_1.2.1 2)).toInt.toNat).2.1) = true := (by rw [hf0, ← hab _ (by omega)]; intro q; rw [if_pos q] at hb9; omega); refine ⟨?_, by omega, by (rw [← ha_u_1, hf0]; omega)⟩; rw [← ha_u_1]; unfold rOld; rw [if_pos (show isNm (TKS t_text (t_length).toInt.toNat) ((u_1.2.1 2)).toInt.toNat = true from nmI_1.mp (by omega)), if_pos (by omega), if_neg ht9, ← ha_u_20], fun h => absurd h (by omega)⟩⟩) [0, 3, 1, 4, 5, 2] (by decide) rfl (by decide) (by decide) dX5_readWare_104
      · skip
        have el_1 : (1 : Int32).toInt = 1 := rfl
        rw [i_eq] at c_19
        refine j_aload_n (pc := 85) C dX5_readWare_85 rfl 1 rfl ?_
        refine j_iconst (pc := 86) (v := 3) C dX5_readWare_86 (by decide) ?_
        refine j_callV (pc := 87) (As := [.int 3]) (rest := []) (wr := [(r2, .inl (cyJ, 4, .inr (.inl r_sn))), (a0, .inr (9, [.int a_wares, .int a_shelves, .int a_nests, .ref a1, .ref a2, .ref a3, .ref a4, .ref a5, .ref a6, .int a_lids, .int a_tops, .ref a7, .ref a8, .ref a9, .ref a10])), (r1, .inl (cyJ, 12, .inr (.inl r_wn))), (t1, .inl (cyC, 1000, .inl t_text))]) C (c_X5_wrong l D cyC cyI cyJ cyZ cyO r0 t0 e0 r1 r2 a0 t1 3 r_habits r_fault t_length (u_1.2.1 0) (u_1.2.1 1) (u_1.2.1 2) (u_1.2.1 3) h_t_length hw_2_0 hw_2_1 hw_2_2 (by decide)) wd_305 wd_306 wd_307 wd_308 wd_309 ⟨by decide, by decide, rfl⟩ rfl ⟨rfl, rfl, by decide, by decide⟩ ⟨by decide, by decide⟩ [0, 4] [1, 2, 3, 5] rfl rfl ⟨by decide, by decide, by decide⟩ 0 rfl rfl rfl (Nat.le_of_ble_eq_true rfl) dX5_readWare_87 (fun u_22 hw_23 => ?_)
        refine j_eq (ws2 := [(r2, .inl (cyJ, 4, .inr (.inl r_sn))), (a0, .inr (9, [.int a_wares, .int a_shelves, .int a_nests, .ref a1, .ref a2, .ref a3, .ref a4, .ref a5, .ref a6, .int a_lids, .int a_tops, .ref a7, .ref a8, .ref a9, .ref a10])), (r1, .inl (cyJ, 12, .inr (.inl r_wn))), (t1, .inl (cyC, 1000, .inl t_text)), (r0, .inr (5, [.ref t0, .ref e0, .ref r1, .ref r2, .ref a0, .int r_habits, .int (u_22.2.1 0)])), (t0, .inr (8, [.ref t1, .int t_length, .int (u_1.2.1 0), .int (u_1.2.1 1), .int (u_1.2.1 2), .int (u_1.2.1 3)]))]) (pc2 := 90) (lv2 := [(2, .int (u_12.2.1 0)), (0, .ref r0), (1, .int p0)]) (st2 := [.int 0]) rfl rfl rfl rfl ?_
        have hw_23_0 : ((u_22.2.1 0)).toInt = ((3 : Int32)).toInt + 16 * ((u_1.2.1 2)).toInt := hw_23
        refine j_pop (pc := 90) C dX5_readWare_90 rfl ?_
        refine j_iconst (pc := 91) (v := (-1)) C dX5_readWare_91 (by decide) ?_
        refine j_istore_n (pc := 92) (lv' := [(2, .int (-1)), (0, .ref r0), (1, .int p0)]) C dX5_readWare_92 rfl (by decide) rfl ?_
        refine j_goto (pc := 93) (tgt := 103) C dX5_readWare_93 (by decide) ?_
        refine j_iload_n (pc := 103) C dX5_readWare_103 rfl 0 rfl ?_
        have el_m1 : ((-1) : Int32).toInt = (-1) := rfl
        have el_m1 : ((-1) : Int32).toInt = (-1) := rfl
        have el_m1 : ((-1) : Int32).toInt = (-1) := rfl
        have el_m1 : ((-1) : Int32).toInt = (-1) := rfl
        have el_3 : (3 : Int32).toInt = 3 := rfl
        exact j_iret (pc := 104) C hr hk (fun i => [].getD i 0, fun i => [(-1), (u_22.2.1 0), (u_1.2.1 0), (u_1.2.1 1), (u_1.2.1 2), (u_1.2.1 3)].getD i 0, fun i => [].getD i (fun _ => 0), fun i => [].getD i (fun _ => 0)) rfl (show (-1 ≤ (((-1) : Int32)).toInt ∧ (((-1) : Int32)).toInt ≤ 11) ∧ (0 ≤ ((u_1.2.1 0)).toInt ∧ ((u_1.2.1 0)).toInt ≤ 1000) ∧ (0 ≤ ((u_1.2.1 1)).toInt ∧ ((u_1.2.1 1)).toInt ≤ 4) ∧ (0 ≤ ((u_1.2.1 2)).toInt ∧ ((u_1.2.1 2)).toInt ≤ 1000) ∧ (¬ ((u_1.2.1 1)).toInt = 3 ∨ ((u_1.2.1 2)).toInt ≤ 999) ∧ (TH t_text (t_length).toInt.toNat ((u_1.2.1 0)).toInt ((u_1.2.1 1)).toInt ((u_1.2.1 2)).toInt ((u_1.2.1 3)).toInt) ∧ (RW (((-1) : Int32)).toInt ((u_1.2.1 2)).toInt ((u_22.2.1 0)).toInt (r_fault).toInt (fnd S.1 S.2.1 ((TKS t_text (t_length).toInt.toNat) (nx (TKS t_text (t_length).toInt.toNat) (t_place).toInt.toNat)).2.1) (rOld (TKS t_text (t_length).toInt.toNat) S a (nx (TKS t_text (t_length).toInt.toNat) (t_place).toInt.toNat))) from ⟨by omega, hw_2_0, hw_2_1, hw_2_2, by omega, hw_2_4, (RW.mv (RW.wr (k := 3) (by omega) (by omega) (by omega) (by omega)) (by have hc1 := hCN.1; have hc2 := hCN.2.1; have hy0 := hw_13_2 (by omega); have hf0 : fnd S.1 S.2.1 ((TKS t_text (t_length).toInt.toNat) ((u_1.2.1 2)).toInt.toNat).2.1 = (u_12.2.1 0).toInt.toNat := FX2 hCN.2.2.1 hw_11_0 (by omega) hy0.2.1 hy0.2.2; have ht9 : a (fnd S.1 S.2.1 ((TKS t_text (t_length).toInt.toNat) ((u_1.2.1 2)).toInt.toNat).2.1) = true := (by rw [hf0, ← hab _ (by omega)]; by_cases q : BT p0 ((u_12.2.1 0)).toInt.toNat = true; (exact q); (rw [if_neg q] at hb9; omega)); rw [← ha_u_1]; unfold rOld; rw [if_pos (show isNm (TKS t_text (t_length).toInt.toNat) ((u_1.2.1 2)).toInt.toNat = true from nmI_1.mp (by omega)), if_pos (by omega), if_pos ht9]))⟩) [4, 2, 0, 5, 3, 1] (by decide) rfl (by decide) (by decide) dX5_readWare_104
    · skip
      have el_m1 : ((-1) : Int32).toInt = (-1) := rfl
      rw [i_eq] at c_16
      refine j_aload_n (pc := 67) C dX5_readWare_67 rfl 1 rfl ?_
      refine j_iconst (pc := 68) (v := 2) C dX5_readWare_68 (by decide) ?_
      refine j_callV (pc := 69) (As := [.int 2]) (rest := []) (wr := [(r2, .inl (cyJ, 4, .inr (.inl r_sn))), (a0, .inr (9, [.int a_wares, .int a_shelves, .int a_nests, .ref a1, .ref a2, .ref a3, .ref a4, .ref a5, .ref a6, .int a_lids, .int a_tops, .ref a7, .ref a8, .ref a9, .ref a10])), (r1, .inl (cyJ, 12, .inr (.inl r_wn))), (t1, .inl (cyC, 1000, .inl t_text))]) C (c_X5_wrong l D cyC cyI cyJ cyZ cyO r0 t0 e0 r1 r2 a0 t1 2 r_habits r_fault t_length (u_1.2.1 0) (u_1.2.1 1) (u_1.2.1 2) (u_1.2.1 3) h_t_length hw_2_0 hw_2_1 hw_2_2 (by decide)) wd_305 wd_306 wd_307 wd_308 wd_309 ⟨by decide, by decide, rfl⟩ rfl ⟨rfl, rfl, by decide, by decide⟩ ⟨by decide, by decide⟩ [0, 4] [1, 2, 3, 5] rfl rfl ⟨by decide, by decide, by decide⟩ 0 rfl rfl rfl (Nat.le_of_ble_eq_true rfl) dX5_readWare_69 (fun u_24 hw_25 => ?_)
      refine j_eq (ws2 := [(r2, .inl (cyJ, 4, .inr (.inl r_sn))), (a0, .inr (9, [.int a_wares, .int a_shelves, .int a_nests, .ref a1, .ref a2, .ref a3, .ref a4, .ref a5, .ref a6, .int a_lids, .int a_tops, .ref a7, .ref a8, .ref a9, .ref a10])), (r1, .inl (cyJ, 12, .inr (.inl r_wn))), (t1, .inl (cyC, 1000, .inl t_text)), (r0, .inr (5, [.ref t0, .ref e0, .ref r1, .ref r2, .ref a0, .int r_habits, .int (u_24.2.1 0)])), (t0, .inr (8, [.ref t1, .int t_length, .int (u_1.2.1 0), .int (u_1.2.1 1), .int (u_1.2.1 2), .int (u_1.2.1 3)]))]) (pc2 := 72) (lv2 := [(2, .int (u_12.2.1 0)), (0, .ref r0), (1, .int p0)]) (st2 := [.int 0]) rfl rfl rfl rfl ?_
      have hw_25_0 : ((u_24.2.1 0)).toInt = ((2 : Int32)).toInt + 16 * ((u_1.2.1 2)).toInt := hw_25
      refine j_pop (pc := 72) C dX5_readWare_72 rfl ?_
      refine j_goto (pc := 73) (tgt := 103) C dX5_readWare_73 (by decide) ?_
      refine j_iload_n (pc := 103) C dX5_readWare_103 rfl 0 rfl ?_
      have el_2 : (2 : Int32).toInt = 2 := rfl
      exact j_iret (pc := 104) C hr hk (fun i => [].getD i 0, fun i => [(u_12.2.1 0), (u_24.2.1 0), (u_1.2.1 0), (u_1.2.1 1), (u_1.2.1 2), (u_1.2.1 3)].getD i 0, fun i => [].getD i (fun _ => 0), fun i => [].getD i (fun _ => 0)) rfl (show (-1 ≤ ((u_12.2.1 0)).toInt ∧ ((u_12.2.1 0)).toInt ≤ 11) ∧ (0 ≤ ((u_1.2.1 0)).toInt ∧ ((u_1.2.1 0)).toInt ≤ 1000) ∧ (0 ≤ ((u_1.2.1 1)).toInt ∧ ((u_1.2.1 1)).toInt ≤ 4) ∧ (0 ≤ ((u_1.2.1 2)).toInt ∧ ((u_1.2.1 2)).toInt ≤ 1000) ∧ (¬ ((u_1.2.1 1)).toInt = 3 ∨ ((u_1.2.1 2)).toInt ≤ 999) ∧ (TH t_text (t_length).toInt.toNat ((u_1.2.1 0)).toInt ((u_1.2.1 1)).toInt ((u_1.2.1 2)).toInt ((u_1.2.1 3)).toInt) ∧ (RW ((u_12.2.1 0)).toInt ((u_1.2.1 2)).toInt ((u_24.2.1 0)).toInt (r_fault).toInt (fnd S.1 S.2.1 ((TKS t_text (t_length).toInt.toNat) (nx (TKS t_text (t_length).toInt.toNat) (t_place).toInt.toNat)).2.1) (rOld (TKS t_text (t_length).toInt.toNat) S a (nx (TKS t_text (t_length).toInt.toNat) (t_place).toInt.toNat))) from ⟨hw_13_0, hw_2_0, hw_2_1, hw_2_2, by omega, hw_2_4, (RW.mv (RW.wr (k := 2) (by omega) (by omega) (by omega) (by omega)) (by have hc1 := hCN.1; have hc2 := hCN.2.1; have hf0 : fnd S.1 S.2.1 ((TKS t_text (t_length).toInt.toNat) ((u_1.2.1 2)).toInt.toNat).2.1 = S.2.1 := FX1 hCN.2.2.1 hw_11_0 (fun j hj => hw_13_1 (by omega) j (by omega)); rw [← ha_u_1]; unfold rOld; rw [if_pos (show isNm (TKS t_text (t_length).toInt.toNat) ((u_1.2.1 2)).toInt.toNat = true from nmI_1.mp (by omega)), if_neg (by omega)]))⟩) [4, 2, 0, 5, 3, 1] (by decide) rfl (by decide) (by decide) dX5_readWare_104
