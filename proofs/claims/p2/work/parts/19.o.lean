theorem wd_357 : Cond.fieldLink RX5 187 "BowlShelf$Told" "nests" "I" ∈ WALL := wl_in (by decide +kernel) (by decide +kernel)
theorem wd_358 : Cond.code yX1_close cX1_close 1 none ∈ WALL := wl_in (by decide +kernel) (by decide +kernel)
theorem wd_359 : Cond.methodLink RX5 196 yX1_close ∈ WALL := wl_in (by decide +kernel) (by decide +kernel)
theorem wd_360 : Cond.instanceMethod yX1_close ∈ WALL := wl_in (by decide +kernel) (by decide +kernel)
theorem wd_361 : Cond.selects RX1 yX1_close yX1_close ∈ WALL := wl_in (by decide +kernel) (by decide +kernel)
theorem wd_362 : Cond.fieldLink RX5 43 "BowlShelf$Reader" "habits" "I" ∈ WALL := wl_in (by decide +kernel) (by decide +kernel)
theorem wd_363 : Cond.code yX5_readWare cX5_readWare 3 (some .int) ∈ WALL := wl_in (by decide +kernel) (by decide +kernel)
theorem wd_364 : Cond.methodLink RX5 177 yX5_readWare ∈ WALL := wl_in (by decide +kernel) (by decide +kernel)
theorem wd_365 : Cond.instanceMethod yX5_readWare ∈ WALL := wl_in (by decide +kernel) (by decide +kernel)
theorem wd_366 : Cond.selects RX5 yX5_readWare yX5_readWare ∈ WALL := wl_in (by decide +kernel) (by decide +kernel)
theorem wd_367 : Cond.fieldLink RX5 181 "BowlShelf$Told" "habit" "[I" ∈ WALL := wl_in (by decide +kernel) (by decide +kernel)
theorem wd_368 : Cond.fieldLink RX5 174 "BowlShelf$Told" "tops" "I" ∈ WALL := wl_in (by decide +kernel) (by decide +kernel)
theorem wd_369 : Cond.code yX5_readNewName cX5_readNewName 5 (some .boolean) ∈ WALL := wl_in (by decide +kernel) (by decide +kernel)
theorem wd_370 : Cond.methodLink RX5 124 yX5_readNewName ∈ WALL := wl_in (by decide +kernel) (by decide +kernel)
theorem wd_371 : Cond.instanceMethod yX5_readNewName ∈ WALL := wl_in (by decide +kernel) (by decide +kernel)
theorem wd_372 : Cond.selects RX5 yX5_readNewName yX5_readNewName ∈ WALL := wl_in (by decide +kernel) (by decide +kernel)
theorem wd_373 : Cond.fieldLink RX5 164 "BowlShelf$Told" "height" "[I" ∈ WALL := wl_in (by decide +kernel) (by decide +kernel)
theorem wd_374 : Cond.code yX5_readAmount cX5_readAmount 6 (some .boolean) ∈ WALL := wl_in (by decide +kernel) (by decide +kernel)
theorem wd_375 : Cond.methodLink RX5 132 yX5_readAmount ∈ WALL := wl_in (by decide +kernel) (by decide +kernel)
theorem wd_376 : Cond.instanceMethod yX5_readAmount ∈ WALL := wl_in (by decide +kernel) (by decide +kernel)
theorem wd_377 : Cond.selects RX5 yX5_readAmount yX5_readAmount ∈ WALL := wl_in (by decide +kernel) (by decide +kernel)
theorem wd_378 : Cond.fieldLink RX5 168 "BowlShelf$Told" "reach" "[I" ∈ WALL := wl_in (by decide +kernel) (by decide +kernel)
theorem wd_379 : Cond.fieldLink RX5 172 "BowlShelf$Told" "room" "[I" ∈ WALL := wl_in (by decide +kernel) (by decide +kernel)
theorem wd_380 : Cond.fieldLink RX5 138 "BowlShelf$Told" "deep" "[I" ∈ WALL := wl_in (by decide +kernel) (by decide +kernel)
theorem wd_381 : Cond.fieldLink RX5 146 "BowlShelf$Told" "bears" "[I" ∈ WALL := wl_in (by decide +kernel) (by decide +kernel)
theorem wd_382 : Cond.fieldLink RX5 156 "BowlShelf$Told" "lids" "I" ∈ WALL := wl_in (by decide +kernel) (by decide +kernel)
theorem wd_383 : Cond.fieldLink RX5 130 "BowlShelf$Told" "wide" "[I" ∈ WALL := wl_in (by decide +kernel) (by decide +kernel)
theorem wd_384 : Cond.fieldLink RX5 142 "BowlShelf$Told" "weight" "[I" ∈ WALL := wl_in (by decide +kernel) (by decide +kernel)
theorem wd_385 : Cond.fieldLink RX5 150 "BowlShelf$Told" "breaks" "[I" ∈ WALL := wl_in (by decide +kernel) (by decide +kernel)
theorem wd_386 : Cond.code yX5_readNest cX5_readNest 1 (some .boolean) ∈ WALL := wl_in (by decide +kernel) (by decide +kernel)
theorem wd_387 : Cond.methodLink RX5 117 yX5_readNest ∈ WALL := wl_in (by decide +kernel) (by decide +kernel)
theorem wd_388 : Cond.instanceMethod yX5_readNest ∈ WALL := wl_in (by decide +kernel) (by decide +kernel)
theorem wd_389 : Cond.selects RX5 yX5_readNest yX5_readNest ∈ WALL := wl_in (by decide +kernel) (by decide +kernel)
theorem wd_390 : Cond.code yX5_readHabit cX5_readHabit 2 (some .boolean) ∈ WALL := wl_in (by decide +kernel) (by decide +kernel)
theorem wd_391 : Cond.methodLink RX5 112 yX5_readHabit ∈ WALL := wl_in (by decide +kernel) (by decide +kernel)
theorem wd_392 : Cond.instanceMethod yX5_readHabit ∈ WALL := wl_in (by decide +kernel) (by decide +kernel)
theorem wd_393 : Cond.selects RX5 yX5_readHabit yX5_readHabit ∈ WALL := wl_in (by decide +kernel) (by decide +kernel)
theorem wd_394 : Cond.code yX5_readTop cX5_readTop 2 (some .boolean) ∈ WALL := wl_in (by decide +kernel) (by decide +kernel)
theorem wd_395 : Cond.methodLink RX5 107 yX5_readTop ∈ WALL := wl_in (by decide +kernel) (by decide +kernel)
theorem wd_396 : Cond.instanceMethod yX5_readTop ∈ WALL := wl_in (by decide +kernel) (by decide +kernel)
theorem wd_397 : Cond.selects RX5 yX5_readTop yX5_readTop ∈ WALL := wl_in (by decide +kernel) (by decide +kernel)
theorem wd_398 : Cond.code yX5_readShelf cX5_readShelf 3 (some .boolean) ∈ WALL := wl_in (by decide +kernel) (by decide +kernel)
theorem wd_399 : Cond.methodLink RX5 102 yX5_readShelf ∈ WALL := wl_in (by decide +kernel) (by decide +kernel)
theorem wd_400 : Cond.instanceMethod yX5_readShelf ∈ WALL := wl_in (by decide +kernel) (by decide +kernel)
theorem wd_401 : Cond.selects RX5 yX5_readShelf yX5_readShelf ∈ WALL := wl_in (by decide +kernel) (by decide +kernel)
theorem wd_402 : Cond.code yX5_readLid cX5_readLid 3 (some .boolean) ∈ WALL := wl_in (by decide +kernel) (by decide +kernel)
theorem wd_403 : Cond.methodLink RX5 97 yX5_readLid ∈ WALL := wl_in (by decide +kernel) (by decide +kernel)
theorem wd_404 : Cond.instanceMethod yX5_readLid ∈ WALL := wl_in (by decide +kernel) (by decide +kernel)
theorem wd_405 : Cond.selects RX5 yX5_readLid yX5_readLid ∈ WALL := wl_in (by decide +kernel) (by decide +kernel)
theorem wd_406 : Cond.code yX5_readBowl cX5_readBowl 3 (some .boolean) ∈ WALL := wl_in (by decide +kernel) (by decide +kernel)
theorem wd_407 : Cond.methodLink RX5 92 yX5_readBowl ∈ WALL := wl_in (by decide +kernel) (by decide +kernel)
theorem wd_408 : Cond.instanceMethod yX5_readBowl ∈ WALL := wl_in (by decide +kernel) (by decide +kernel)
theorem wd_409 : Cond.selects RX5 yX5_readBowl yX5_readBowl ∈ WALL := wl_in (by decide +kernel) (by decide +kernel)
theorem dX5_readNest_0 : decode cX5_readNest 0 = .ok (.aload_n 0, 1) := by decide +kernel
theorem dX5_readNest_1 : decode cX5_readNest 1 = .ok (.getfield 35, 3) := by decide +kernel
theorem dX5_readNest_4 : decode cX5_readNest 4 = .ok (.getfield 187, 3) := by decide +kernel
theorem dX5_readNest_7 : decode cX5_readNest 7 = .ok (.iconst 4, 1) := by decide +kernel
theorem dX5_readNest_8 : decode cX5_readNest 8 = .ok (.if_icmp .lt 9, 3) := by decide +kernel
theorem dX5_readNest_11 : decode cX5_readNest 11 = .ok (.aload_n 0, 1) := by decide +kernel
theorem dX5_readNest_12 : decode cX5_readNest 12 = .ok (.iconst 5, 1) := by decide +kernel
theorem dX5_readNest_13 : decode cX5_readNest 13 = .ok (.invokevirtual 120, 3) := by decide +kernel
theorem dX5_readNest_16 : decode cX5_readNest 16 = .ok (.ireturn, 1) := by decide +kernel
theorem dX5_readNest_17 : decode cX5_readNest 17 = .ok (.aload_n 0, 1) := by decide +kernel
theorem dX5_readNest_18 : decode cX5_readNest 18 = .ok (.getfield 12, 3) := by decide +kernel
theorem dX5_readNest_21 : decode cX5_readNest 21 = .ok (.invokevirtual 189, 3) := by decide +kernel
theorem dX5_readNest_24 : decode cX5_readNest 24 = .ok (.aload_n 0, 1) := by decide +kernel
theorem dX5_readNest_25 : decode cX5_readNest 25 = .ok (.iconst 0, 1) := by decide +kernel
theorem dX5_readNest_26 : decode cX5_readNest 26 = .ok (.iconst 0, 1) := by decide +kernel
theorem dX5_readNest_27 : decode cX5_readNest 27 = .ok (.invokevirtual 192, 3) := by decide +kernel
theorem dX5_readNest_30 : decode cX5_readNest 30 = .ok (.ifCond .eq 12, 3) := by decide +kernel
theorem dX5_readNest_33 : decode cX5_readNest 33 = .ok (.aload_n 0, 1) := by decide +kernel
theorem dX5_readNest_34 : decode cX5_readNest 34 = .ok (.bipush 59, 2) := by decide +kernel
theorem dX5_readNest_36 : decode cX5_readNest 36 = .ok (.invokevirtual 152, 3) := by decide +kernel
theorem dX5_readNest_39 : decode cX5_readNest 39 = .ok (.ifCond .ne 5, 3) := by decide +kernel
theorem dX5_readNest_42 : decode cX5_readNest 42 = .ok (.iconst 0, 1) := by decide +kernel
theorem dX5_readNest_43 : decode cX5_readNest 43 = .ok (.ireturn, 1) := by decide +kernel
theorem dX5_readNest_44 : decode cX5_readNest 44 = .ok (.aload_n 0, 1) := by decide +kernel
theorem dX5_readNest_45 : decode cX5_readNest 45 = .ok (.getfield 21, 3) := by decide +kernel
theorem dX5_readNest_48 : decode cX5_readNest 48 = .ok (.invokevirtual 196, 3) := by decide +kernel
theorem dX5_readNest_51 : decode cX5_readNest 51 = .ok (.aload_n 0, 1) := by decide +kernel
theorem dX5_readNest_52 : decode cX5_readNest 52 = .ok (.getfield 35, 3) := by decide +kernel
theorem dX5_readNest_55 : decode cX5_readNest 55 = .ok (.dup, 1) := by decide +kernel
theorem dX5_readNest_56 : decode cX5_readNest 56 = .ok (.getfield 187, 3) := by decide +kernel
theorem dX5_readNest_59 : decode cX5_readNest 59 = .ok (.iconst 1, 1) := by decide +kernel
theorem dX5_readNest_60 : decode cX5_readNest 60 = .ok (.iadd, 1) := by decide +kernel
theorem dX5_readNest_61 : decode cX5_readNest 61 = .ok (.putfield 187, 3) := by decide +kernel
theorem dX5_readNest_64 : decode cX5_readNest 64 = .ok (.iconst 1, 1) := by decide +kernel
theorem dX5_readNest_65 : decode cX5_readNest 65 = .ok (.ireturn, 1) := by decide +kernel
theorem dX5_readHabit_0 : decode cX5_readHabit 0 = .ok (.aload_n 0, 1) := by decide +kernel
theorem dX5_readHabit_1 : decode cX5_readHabit 1 = .ok (.aload_n 0, 1) := by decide +kernel
theorem dX5_readHabit_2 : decode cX5_readHabit 2 = .ok (.getfield 43, 3) := by decide +kernel
theorem dX5_readHabit_5 : decode cX5_readHabit 5 = .ok (.invokevirtual 177, 3) := by decide +kernel
theorem dX5_readHabit_8 : decode cX5_readHabit 8 = .ok (.istore_n 1, 1) := by decide +kernel
theorem dX5_readHabit_9 : decode cX5_readHabit 9 = .ok (.iload_n 1, 1) := by decide +kernel
theorem dX5_readHabit_10 : decode cX5_readHabit 10 = .ok (.iconst (-1), 1) := by decide +kernel
theorem dX5_readHabit_11 : decode cX5_readHabit 11 = .ok (.if_icmp .ne 5, 3) := by decide +kernel
theorem dX5_readHabit_14 : decode cX5_readHabit 14 = .ok (.iconst 0, 1) := by decide +kernel
theorem dX5_readHabit_15 : decode cX5_readHabit 15 = .ok (.ireturn, 1) := by decide +kernel
theorem dX5_readHabit_16 : decode cX5_readHabit 16 = .ok (.aload_n 0, 1) := by decide +kernel
theorem dX5_readHabit_17 : decode cX5_readHabit 17 = .ok (.dup, 1) := by decide +kernel
theorem dX5_readHabit_18 : decode cX5_readHabit 18 = .ok (.getfield 43, 3) := by decide +kernel
theorem dX5_readHabit_21 : decode cX5_readHabit 21 = .ok (.iconst 1, 1) := by decide +kernel
theorem dX5_readHabit_22 : decode cX5_readHabit 22 = .ok (.iload_n 1, 1) := by decide +kernel
theorem dX5_readHabit_23 : decode cX5_readHabit 23 = .ok (.ishl, 1) := by decide +kernel
theorem dX5_readHabit_24 : decode cX5_readHabit 24 = .ok (.ior, 1) := by decide +kernel
theorem dX5_readHabit_25 : decode cX5_readHabit 25 = .ok (.putfield 43, 3) := by decide +kernel
theorem dX5_readHabit_28 : decode cX5_readHabit 28 = .ok (.aload_n 0, 1) := by decide +kernel
theorem dX5_readHabit_29 : decode cX5_readHabit 29 = .ok (.iconst 0, 1) := by decide +kernel
theorem dX5_readHabit_30 : decode cX5_readHabit 30 = .ok (.bipush 99, 2) := by decide +kernel
theorem dX5_readHabit_32 : decode cX5_readHabit 32 = .ok (.aload_n 0, 1) := by decide +kernel
theorem dX5_readHabit_33 : decode cX5_readHabit 33 = .ok (.getfield 35, 3) := by decide +kernel
theorem dX5_readHabit_36 : decode cX5_readHabit 36 = .ok (.getfield 181, 3) := by decide +kernel
theorem dX5_readHabit_39 : decode cX5_readHabit 39 = .ok (.iload_n 1, 1) := by decide +kernel
theorem dX5_readHabit_40 : decode cX5_readHabit 40 = .ok (.invokevirtual 183, 3) := by decide +kernel
theorem dX5_readHabit_43 : decode cX5_readHabit 43 = .ok (.ifCond .eq 16, 3) := by decide +kernel
theorem dX5_readHabit_46 : decode cX5_readHabit 46 = .ok (.aload_n 0, 1) := by decide +kernel
theorem dX5_readHabit_47 : decode cX5_readHabit 47 = .ok (.bipush 59, 2) := by decide +kernel
theorem dX5_readHabit_49 : decode cX5_readHabit 49 = .ok (.invokevirtual 152, 3) := by decide +kernel
theorem dX5_readHabit_52 : decode cX5_readHabit 52 = .ok (.ifCond .eq 7, 3) := by decide +kernel
theorem dX5_readHabit_55 : decode cX5_readHabit 55 = .ok (.iconst 1, 1) := by decide +kernel
theorem dX5_readHabit_56 : decode cX5_readHabit 56 = .ok (.goto 4, 3) := by decide +kernel
theorem dX5_readHabit_59 : decode cX5_readHabit 59 = .ok (.iconst 0, 1) := by decide +kernel
theorem dX5_readHabit_60 : decode cX5_readHabit 60 = .ok (.ireturn, 1) := by decide +kernel
theorem dX5_readTop_0 : decode cX5_readTop 0 = .ok (.aload_n 0, 1) := by decide +kernel
theorem dX5_readTop_1 : decode cX5_readTop 1 = .ok (.aload_n 0, 1) := by decide +kernel
theorem dX5_readTop_2 : decode cX5_readTop 2 = .ok (.getfield 35, 3) := by decide +kernel
theorem dX5_readTop_5 : decode cX5_readTop 5 = .ok (.getfield 174, 3) := by decide +kernel
theorem dX5_readTop_8 : decode cX5_readTop 8 = .ok (.invokevirtual 177, 3) := by decide +kernel
theorem dX5_readTop_11 : decode cX5_readTop 11 = .ok (.istore_n 1, 1) := by decide +kernel
theorem dX5_readTop_12 : decode cX5_readTop 12 = .ok (.iload_n 1, 1) := by decide +kernel
theorem dX5_readTop_13 : decode cX5_readTop 13 = .ok (.iconst (-1), 1) := by decide +kernel
theorem dX5_readTop_14 : decode cX5_readTop 14 = .ok (.if_icmp .ne 5, 3) := by decide +kernel
theorem dX5_readTop_17 : decode cX5_readTop 17 = .ok (.iconst 0, 1) := by decide +kernel
theorem dX5_readTop_18 : decode cX5_readTop 18 = .ok (.ireturn, 1) := by decide +kernel
theorem dX5_readTop_19 : decode cX5_readTop 19 = .ok (.aload_n 0, 1) := by decide +kernel
theorem dX5_readTop_20 : decode cX5_readTop 20 = .ok (.getfield 35, 3) := by decide +kernel
theorem dX5_readTop_23 : decode cX5_readTop 23 = .ok (.dup, 1) := by decide +kernel
theorem dX5_readTop_24 : decode cX5_readTop 24 = .ok (.getfield 174, 3) := by decide +kernel
theorem dX5_readTop_27 : decode cX5_readTop 27 = .ok (.iconst 1, 1) := by decide +kernel
theorem dX5_readTop_28 : decode cX5_readTop 28 = .ok (.iload_n 1, 1) := by decide +kernel
theorem dX5_readTop_29 : decode cX5_readTop 29 = .ok (.ishl, 1) := by decide +kernel
theorem dX5_readTop_30 : decode cX5_readTop 30 = .ok (.ior, 1) := by decide +kernel
theorem dX5_readTop_31 : decode cX5_readTop 31 = .ok (.putfield 174, 3) := by decide +kernel
theorem dX5_readTop_34 : decode cX5_readTop 34 = .ok (.aload_n 0, 1) := by decide +kernel
theorem dX5_readTop_35 : decode cX5_readTop 35 = .ok (.bipush 59, 2) := by decide +kernel
theorem dX5_readTop_37 : decode cX5_readTop 37 = .ok (.invokevirtual 152, 3) := by decide +kernel
theorem dX5_readTop_40 : decode cX5_readTop 40 = .ok (.ireturn, 1) := by decide +kernel
theorem dX5_readShelf_0 : decode cX5_readShelf 0 = .ok (.aload_n 0, 1) := by decide +kernel
theorem dX5_readShelf_1 : decode cX5_readShelf 1 = .ok (.getfield 35, 3) := by decide +kernel
theorem dX5_readShelf_4 : decode cX5_readShelf 4 = .ok (.getfield 159, 3) := by decide +kernel
theorem dX5_readShelf_7 : decode cX5_readShelf 7 = .ok (.istore_n 1, 1) := by decide +kernel
theorem dX5_readShelf_8 : decode cX5_readShelf 8 = .ok (.iload_n 1, 1) := by decide +kernel
theorem dX5_readShelf_9 : decode cX5_readShelf 9 = .ok (.iconst 4, 1) := by decide +kernel
theorem dX5_readShelf_10 : decode cX5_readShelf 10 = .ok (.if_icmp .lt 9, 3) := by decide +kernel
theorem dX5_readShelf_13 : decode cX5_readShelf 13 = .ok (.aload_n 0, 1) := by decide +kernel
theorem dX5_readShelf_14 : decode cX5_readShelf 14 = .ok (.iconst 5, 1) := by decide +kernel
theorem dX5_readShelf_15 : decode cX5_readShelf 15 = .ok (.invokevirtual 120, 3) := by decide +kernel
theorem dX5_readShelf_18 : decode cX5_readShelf 18 = .ok (.ireturn, 1) := by decide +kernel
theorem dX5_readShelf_19 : decode cX5_readShelf 19 = .ok (.aload_n 0, 1) := by decide +kernel
theorem dX5_readShelf_20 : decode cX5_readShelf 20 = .ok (.aload_n 0, 1) := by decide +kernel
theorem dX5_readShelf_21 : decode cX5_readShelf 21 = .ok (.getfield 29, 3) := by decide +kernel
theorem dX5_readShelf_24 : decode cX5_readShelf 24 = .ok (.iload_n 1, 1) := by decide +kernel
theorem dX5_readShelf_25 : decode cX5_readShelf 25 = .ok (.invokevirtual 124, 3) := by decide +kernel
theorem dX5_readShelf_28 : decode cX5_readShelf 28 = .ok (.ifCond .eq 77, 3) := by decide +kernel
theorem dX5_readShelf_31 : decode cX5_readShelf 31 = .ok (.aload_n 0, 1) := by decide +kernel
theorem dX5_readShelf_32 : decode cX5_readShelf 32 = .ok (.ldc 162, 2) := by decide +kernel
theorem dX5_readShelf_34 : decode cX5_readShelf 34 = .ok (.iconst 1, 1) := by decide +kernel
theorem dX5_readShelf_35 : decode cX5_readShelf 35 = .ok (.sipush 999, 3) := by decide +kernel
theorem dX5_readShelf_38 : decode cX5_readShelf 38 = .ok (.aload_n 0, 1) := by decide +kernel
theorem dX5_readShelf_39 : decode cX5_readShelf 39 = .ok (.getfield 35, 3) := by decide +kernel
theorem dX5_readShelf_42 : decode cX5_readShelf 42 = .ok (.getfield 164, 3) := by decide +kernel
theorem dX5_readShelf_45 : decode cX5_readShelf 45 = .ok (.iload_n 1, 1) := by decide +kernel
theorem dX5_readShelf_46 : decode cX5_readShelf 46 = .ok (.invokevirtual 132, 3) := by decide +kernel
theorem dX5_readShelf_49 : decode cX5_readShelf 49 = .ok (.ifCond .eq 56, 3) := by decide +kernel
theorem dX5_readShelf_52 : decode cX5_readShelf 52 = .ok (.aload_n 0, 1) := by decide +kernel
theorem dX5_readShelf_53 : decode cX5_readShelf 53 = .ok (.ldc 166, 2) := by decide +kernel
theorem dX5_readShelf_55 : decode cX5_readShelf 55 = .ok (.iconst 0, 1) := by decide +kernel
theorem dX5_readShelf_56 : decode cX5_readShelf 56 = .ok (.bipush 99, 2) := by decide +kernel
theorem dX5_readShelf_58 : decode cX5_readShelf 58 = .ok (.aload_n 0, 1) := by decide +kernel
theorem dX5_readShelf_59 : decode cX5_readShelf 59 = .ok (.getfield 35, 3) := by decide +kernel
theorem dX5_readShelf_62 : decode cX5_readShelf 62 = .ok (.getfield 168, 3) := by decide +kernel
theorem dX5_readShelf_65 : decode cX5_readShelf 65 = .ok (.iload_n 1, 1) := by decide +kernel
theorem dX5_readShelf_66 : decode cX5_readShelf 66 = .ok (.invokevirtual 132, 3) := by decide +kernel
theorem dX5_readShelf_69 : decode cX5_readShelf 69 = .ok (.ifCond .eq 36, 3) := by decide +kernel
theorem dX5_readShelf_72 : decode cX5_readShelf 72 = .ok (.aload_n 0, 1) := by decide +kernel
theorem dX5_readShelf_73 : decode cX5_readShelf 73 = .ok (.ldc 170, 2) := by decide +kernel
theorem dX5_readShelf_75 : decode cX5_readShelf 75 = .ok (.iconst 1, 1) := by decide +kernel
theorem dX5_readShelf_76 : decode cX5_readShelf 76 = .ok (.bipush 8, 2) := by decide +kernel
theorem dX5_readShelf_78 : decode cX5_readShelf 78 = .ok (.aload_n 0, 1) := by decide +kernel
theorem dX5_readShelf_79 : decode cX5_readShelf 79 = .ok (.getfield 35, 3) := by decide +kernel
theorem dX5_readShelf_82 : decode cX5_readShelf 82 = .ok (.getfield 172, 3) := by decide +kernel
theorem dX5_readShelf_85 : decode cX5_readShelf 85 = .ok (.iload_n 1, 1) := by decide +kernel
theorem dX5_readShelf_86 : decode cX5_readShelf 86 = .ok (.invokevirtual 132, 3) := by decide +kernel
theorem dX5_readShelf_89 : decode cX5_readShelf 89 = .ok (.ifCond .eq 16, 3) := by decide +kernel
theorem dX5_readShelf_92 : decode cX5_readShelf 92 = .ok (.aload_n 0, 1) := by decide +kernel
theorem dX5_readShelf_93 : decode cX5_readShelf 93 = .ok (.bipush 59, 2) := by decide +kernel
theorem dX5_readShelf_95 : decode cX5_readShelf 95 = .ok (.invokevirtual 152, 3) := by decide +kernel
theorem dX5_readShelf_98 : decode cX5_readShelf 98 = .ok (.ifCond .eq 7, 3) := by decide +kernel
theorem dX5_readShelf_101 : decode cX5_readShelf 101 = .ok (.iconst 1, 1) := by decide +kernel
theorem dX5_readShelf_102 : decode cX5_readShelf 102 = .ok (.goto 4, 3) := by decide +kernel
theorem dX5_readShelf_105 : decode cX5_readShelf 105 = .ok (.iconst 0, 1) := by decide +kernel
theorem dX5_readShelf_106 : decode cX5_readShelf 106 = .ok (.istore_n 2, 1) := by decide +kernel
theorem dX5_readShelf_107 : decode cX5_readShelf 107 = .ok (.aload_n 0, 1) := by decide +kernel
theorem dX5_readShelf_108 : decode cX5_readShelf 108 = .ok (.getfield 35, 3) := by decide +kernel
theorem dX5_readShelf_111 : decode cX5_readShelf 111 = .ok (.dup, 1) := by decide +kernel
theorem dX5_readShelf_112 : decode cX5_readShelf 112 = .ok (.getfield 159, 3) := by decide +kernel
theorem dX5_readShelf_115 : decode cX5_readShelf 115 = .ok (.iload_n 2, 1) := by decide +kernel
theorem dX5_readShelf_116 : decode cX5_readShelf 116 = .ok (.ifCond .eq 7, 3) := by decide +kernel
theorem dX5_readShelf_119 : decode cX5_readShelf 119 = .ok (.iconst 1, 1) := by decide +kernel
theorem dX5_readShelf_120 : decode cX5_readShelf 120 = .ok (.goto 4, 3) := by decide +kernel
theorem dX5_readShelf_123 : decode cX5_readShelf 123 = .ok (.iconst 0, 1) := by decide +kernel
theorem dX5_readShelf_124 : decode cX5_readShelf 124 = .ok (.iadd, 1) := by decide +kernel
theorem dX5_readShelf_125 : decode cX5_readShelf 125 = .ok (.putfield 159, 3) := by decide +kernel
theorem dX5_readShelf_128 : decode cX5_readShelf 128 = .ok (.iload_n 2, 1) := by decide +kernel
theorem dX5_readShelf_129 : decode cX5_readShelf 129 = .ok (.ireturn, 1) := by decide +kernel
theorem dX5_readLid_0 : decode cX5_readLid 0 = .ok (.aload_n 0, 1) := by decide +kernel
theorem dX5_readLid_1 : decode cX5_readLid 1 = .ok (.getfield 35, 3) := by decide +kernel
theorem dX5_readLid_4 : decode cX5_readLid 4 = .ok (.getfield 76, 3) := by decide +kernel
theorem dX5_readLid_7 : decode cX5_readLid 7 = .ok (.istore_n 1, 1) := by decide +kernel
theorem dX5_readLid_8 : decode cX5_readLid 8 = .ok (.iload_n 1, 1) := by decide +kernel
theorem dX5_readLid_9 : decode cX5_readLid 9 = .ok (.bipush 12, 2) := by decide +kernel
theorem dX5_readLid_11 : decode cX5_readLid 11 = .ok (.if_icmp .lt 9, 3) := by decide +kernel
theorem dX5_readLid_14 : decode cX5_readLid 14 = .ok (.aload_n 0, 1) := by decide +kernel
theorem dX5_readLid_15 : decode cX5_readLid 15 = .ok (.iconst 5, 1) := by decide +kernel
theorem dX5_readLid_16 : decode cX5_readLid 16 = .ok (.invokevirtual 120, 3) := by decide +kernel
theorem dX5_readLid_19 : decode cX5_readLid 19 = .ok (.ireturn, 1) := by decide +kernel
theorem dX5_readLid_20 : decode cX5_readLid 20 = .ok (.aload_n 0, 1) := by decide +kernel
theorem dX5_readLid_21 : decode cX5_readLid 21 = .ok (.aload_n 0, 1) := by decide +kernel
theorem dX5_readLid_22 : decode cX5_readLid 22 = .ok (.getfield 25, 3) := by decide +kernel
theorem dX5_readLid_25 : decode cX5_readLid 25 = .ok (.iload_n 1, 1) := by decide +kernel
theorem dX5_readLid_26 : decode cX5_readLid 26 = .ok (.invokevirtual 124, 3) := by decide +kernel
theorem dX5_readLid_29 : decode cX5_readLid 29 = .ok (.ifCond .eq 76, 3) := by decide +kernel
theorem dX5_readLid_32 : decode cX5_readLid 32 = .ok (.aload_n 0, 1) := by decide +kernel
theorem dX5_readLid_33 : decode cX5_readLid 33 = .ok (.ldc 128, 2) := by decide +kernel
theorem dX5_readLid_35 : decode cX5_readLid 35 = .ok (.iconst 1, 1) := by decide +kernel
theorem dX5_readLid_36 : decode cX5_readLid 36 = .ok (.bipush 99, 2) := by decide +kernel
theorem dX5_readLid_38 : decode cX5_readLid 38 = .ok (.aload_n 0, 1) := by decide +kernel
theorem dX5_readLid_39 : decode cX5_readLid 39 = .ok (.getfield 35, 3) := by decide +kernel
theorem dX5_readLid_42 : decode cX5_readLid 42 = .ok (.getfield 130, 3) := by decide +kernel
theorem dX5_readLid_45 : decode cX5_readLid 45 = .ok (.iload_n 1, 1) := by decide +kernel
theorem dX5_readLid_46 : decode cX5_readLid 46 = .ok (.invokevirtual 132, 3) := by decide +kernel
theorem dX5_readLid_49 : decode cX5_readLid 49 = .ok (.ifCond .eq 56, 3) := by decide +kernel
theorem dX5_readLid_52 : decode cX5_readLid 52 = .ok (.aload_n 0, 1) := by decide +kernel
theorem dX5_readLid_53 : decode cX5_readLid 53 = .ok (.ldc 140, 2) := by decide +kernel
theorem dX5_readLid_55 : decode cX5_readLid 55 = .ok (.iconst 1, 1) := by decide +kernel
theorem dX5_readLid_56 : decode cX5_readLid 56 = .ok (.bipush 99, 2) := by decide +kernel
theorem dX5_readLid_58 : decode cX5_readLid 58 = .ok (.aload_n 0, 1) := by decide +kernel
theorem dX5_readLid_59 : decode cX5_readLid 59 = .ok (.getfield 35, 3) := by decide +kernel
theorem dX5_readLid_62 : decode cX5_readLid 62 = .ok (.getfield 142, 3) := by decide +kernel
theorem dX5_readLid_65 : decode cX5_readLid 65 = .ok (.iload_n 1, 1) := by decide +kernel
theorem dX5_readLid_66 : decode cX5_readLid 66 = .ok (.invokevirtual 132, 3) := by decide +kernel
theorem dX5_readLid_69 : decode cX5_readLid 69 = .ok (.ifCond .eq 36, 3) := by decide +kernel
theorem dX5_readLid_72 : decode cX5_readLid 72 = .ok (.aload_n 0, 1) := by decide +kernel
theorem dX5_readLid_73 : decode cX5_readLid 73 = .ok (.ldc 148, 2) := by decide +kernel
theorem dX5_readLid_75 : decode cX5_readLid 75 = .ok (.iconst 0, 1) := by decide +kernel
theorem dX5_readLid_76 : decode cX5_readLid 76 = .ok (.bipush 99, 2) := by decide +kernel
theorem dX5_readLid_78 : decode cX5_readLid 78 = .ok (.aload_n 0, 1) := by decide +kernel
theorem dX5_readLid_79 : decode cX5_readLid 79 = .ok (.getfield 35, 3) := by decide +kernel
theorem dX5_readLid_82 : decode cX5_readLid 82 = .ok (.getfield 150, 3) := by decide +kernel
theorem dX5_readLid_85 : decode cX5_readLid 85 = .ok (.iload_n 1, 1) := by decide +kernel
theorem dX5_readLid_86 : decode cX5_readLid 86 = .ok (.invokevirtual 132, 3) := by decide +kernel
theorem dX5_readLid_89 : decode cX5_readLid 89 = .ok (.ifCond .eq 16, 3) := by decide +kernel
theorem dX5_readLid_92 : decode cX5_readLid 92 = .ok (.aload_n 0, 1) := by decide +kernel
theorem dX5_readLid_93 : decode cX5_readLid 93 = .ok (.bipush 59, 2) := by decide +kernel
theorem dX5_readLid_95 : decode cX5_readLid 95 = .ok (.invokevirtual 152, 3) := by decide +kernel
theorem dX5_readLid_98 : decode cX5_readLid 98 = .ok (.ifCond .eq 7, 3) := by decide +kernel
theorem dX5_readLid_101 : decode cX5_readLid 101 = .ok (.iconst 1, 1) := by decide +kernel
theorem dX5_readLid_102 : decode cX5_readLid 102 = .ok (.goto 4, 3) := by decide +kernel
theorem dX5_readLid_105 : decode cX5_readLid 105 = .ok (.iconst 0, 1) := by decide +kernel
theorem dX5_readLid_106 : decode cX5_readLid 106 = .ok (.istore_n 2, 1) := by decide +kernel
theorem dX5_readLid_107 : decode cX5_readLid 107 = .ok (.aload_n 0, 1) := by decide +kernel
theorem dX5_readLid_108 : decode cX5_readLid 108 = .ok (.getfield 35, 3) := by decide +kernel
theorem dX5_readLid_111 : decode cX5_readLid 111 = .ok (.getfield 138, 3) := by decide +kernel
theorem dX5_readLid_114 : decode cX5_readLid 114 = .ok (.iload_n 1, 1) := by decide +kernel
theorem dX5_readLid_115 : decode cX5_readLid 115 = .ok (.iconst 1, 1) := by decide +kernel
theorem dX5_readLid_116 : decode cX5_readLid 116 = .ok (.iastore, 1) := by decide +kernel
theorem dX5_readLid_117 : decode cX5_readLid 117 = .ok (.aload_n 0, 1) := by decide +kernel
theorem dX5_readLid_118 : decode cX5_readLid 118 = .ok (.getfield 35, 3) := by decide +kernel
theorem dX5_readLid_121 : decode cX5_readLid 121 = .ok (.getfield 146, 3) := by decide +kernel
theorem dX5_readLid_124 : decode cX5_readLid 124 = .ok (.iload_n 1, 1) := by decide +kernel
theorem dX5_readLid_125 : decode cX5_readLid 125 = .ok (.iconst 0, 1) := by decide +kernel
theorem dX5_readLid_126 : decode cX5_readLid 126 = .ok (.iastore, 1) := by decide +kernel
theorem dX5_readLid_127 : decode cX5_readLid 127 = .ok (.aload_n 0, 1) := by decide +kernel
theorem dX5_readLid_128 : decode cX5_readLid 128 = .ok (.getfield 35, 3) := by decide +kernel
theorem dX5_readLid_131 : decode cX5_readLid 131 = .ok (.dup, 1) := by decide +kernel
theorem dX5_readLid_132 : decode cX5_readLid 132 = .ok (.getfield 156, 3) := by decide +kernel
theorem dX5_readLid_135 : decode cX5_readLid 135 = .ok (.iconst 1, 1) := by decide +kernel
theorem dX5_readLid_136 : decode cX5_readLid 136 = .ok (.iload_n 1, 1) := by decide +kernel
theorem dX5_readLid_137 : decode cX5_readLid 137 = .ok (.ishl, 1) := by decide +kernel
theorem dX5_readLid_138 : decode cX5_readLid 138 = .ok (.ior, 1) := by decide +kernel
theorem dX5_readLid_139 : decode cX5_readLid 139 = .ok (.putfield 156, 3) := by decide +kernel
theorem dX5_readLid_142 : decode cX5_readLid 142 = .ok (.aload_n 0, 1) := by decide +kernel
theorem dX5_readLid_143 : decode cX5_readLid 143 = .ok (.getfield 35, 3) := by decide +kernel
theorem dX5_readLid_146 : decode cX5_readLid 146 = .ok (.dup, 1) := by decide +kernel
theorem dX5_readLid_147 : decode cX5_readLid 147 = .ok (.getfield 76, 3) := by decide +kernel
theorem dX5_readLid_150 : decode cX5_readLid 150 = .ok (.iload_n 2, 1) := by decide +kernel
theorem dX5_readLid_151 : decode cX5_readLid 151 = .ok (.ifCond .eq 7, 3) := by decide +kernel
theorem dX5_readLid_154 : decode cX5_readLid 154 = .ok (.iconst 1, 1) := by decide +kernel
theorem dX5_readLid_155 : decode cX5_readLid 155 = .ok (.goto 4, 3) := by decide +kernel
theorem dX5_readLid_158 : decode cX5_readLid 158 = .ok (.iconst 0, 1) := by decide +kernel
theorem dX5_readLid_159 : decode cX5_readLid 159 = .ok (.iadd, 1) := by decide +kernel
theorem dX5_readLid_160 : decode cX5_readLid 160 = .ok (.putfield 76, 3) := by decide +kernel
theorem dX5_readLid_163 : decode cX5_readLid 163 = .ok (.iload_n 2, 1) := by decide +kernel
theorem dX5_readLid_164 : decode cX5_readLid 164 = .ok (.ireturn, 1) := by decide +kernel
theorem dX5_readBowl_0 : decode cX5_readBowl 0 = .ok (.aload_n 0, 1) := by decide +kernel
theorem dX5_readBowl_1 : decode cX5_readBowl 1 = .ok (.getfield 35, 3) := by decide +kernel
theorem dX5_readBowl_4 : decode cX5_readBowl 4 = .ok (.getfield 76, 3) := by decide +kernel
theorem dX5_readBowl_7 : decode cX5_readBowl 7 = .ok (.istore_n 1, 1) := by decide +kernel
theorem dX5_readBowl_8 : decode cX5_readBowl 8 = .ok (.iload_n 1, 1) := by decide +kernel
theorem dX5_readBowl_9 : decode cX5_readBowl 9 = .ok (.bipush 12, 2) := by decide +kernel
theorem dX5_readBowl_11 : decode cX5_readBowl 11 = .ok (.if_icmp .lt 9, 3) := by decide +kernel
theorem dX5_readBowl_14 : decode cX5_readBowl 14 = .ok (.aload_n 0, 1) := by decide +kernel
theorem dX5_readBowl_15 : decode cX5_readBowl 15 = .ok (.iconst 5, 1) := by decide +kernel
theorem dX5_readBowl_16 : decode cX5_readBowl 16 = .ok (.invokevirtual 120, 3) := by decide +kernel
theorem dX5_readBowl_19 : decode cX5_readBowl 19 = .ok (.ireturn, 1) := by decide +kernel
theorem dX5_readBowl_20 : decode cX5_readBowl 20 = .ok (.aload_n 0, 1) := by decide +kernel
theorem dX5_readBowl_21 : decode cX5_readBowl 21 = .ok (.aload_n 0, 1) := by decide +kernel
theorem dX5_readBowl_22 : decode cX5_readBowl 22 = .ok (.getfield 25, 3) := by decide +kernel
theorem dX5_readBowl_25 : decode cX5_readBowl 25 = .ok (.iload_n 1, 1) := by decide +kernel
theorem dX5_readBowl_26 : decode cX5_readBowl 26 = .ok (.invokevirtual 124, 3) := by decide +kernel
theorem dX5_readBowl_29 : decode cX5_readBowl 29 = .ok (.ifCond .eq 117, 3) := by decide +kernel
theorem dX5_readBowl_32 : decode cX5_readBowl 32 = .ok (.aload_n 0, 1) := by decide +kernel
theorem dX5_readBowl_33 : decode cX5_readBowl 33 = .ok (.ldc 128, 2) := by decide +kernel
theorem dX5_readBowl_35 : decode cX5_readBowl 35 = .ok (.iconst 1, 1) := by decide +kernel
theorem dX5_readBowl_36 : decode cX5_readBowl 36 = .ok (.bipush 99, 2) := by decide +kernel
theorem dX5_readBowl_38 : decode cX5_readBowl 38 = .ok (.aload_n 0, 1) := by decide +kernel
theorem dX5_readBowl_39 : decode cX5_readBowl 39 = .ok (.getfield 35, 3) := by decide +kernel
theorem dX5_readBowl_42 : decode cX5_readBowl 42 = .ok (.getfield 130, 3) := by decide +kernel
theorem dX5_readBowl_45 : decode cX5_readBowl 45 = .ok (.iload_n 1, 1) := by decide +kernel
theorem dX5_readBowl_46 : decode cX5_readBowl 46 = .ok (.invokevirtual 132, 3) := by decide +kernel
theorem dX5_readBowl_49 : decode cX5_readBowl 49 = .ok (.ifCond .eq 97, 3) := by decide +kernel
theorem dX5_readBowl_52 : decode cX5_readBowl 52 = .ok (.aload_n 0, 1) := by decide +kernel
theorem dX5_readBowl_53 : decode cX5_readBowl 53 = .ok (.ldc 136, 2) := by decide +kernel
theorem dX5_readBowl_55 : decode cX5_readBowl 55 = .ok (.iconst 1, 1) := by decide +kernel
theorem dX5_readBowl_56 : decode cX5_readBowl 56 = .ok (.bipush 99, 2) := by decide +kernel
theorem dX5_readBowl_58 : decode cX5_readBowl 58 = .ok (.aload_n 0, 1) := by decide +kernel
theorem dX5_readBowl_59 : decode cX5_readBowl 59 = .ok (.getfield 35, 3) := by decide +kernel
theorem dX5_readBowl_62 : decode cX5_readBowl 62 = .ok (.getfield 138, 3) := by decide +kernel
theorem dX5_readBowl_65 : decode cX5_readBowl 65 = .ok (.iload_n 1, 1) := by decide +kernel
theorem dX5_readBowl_66 : decode cX5_readBowl 66 = .ok (.invokevirtual 132, 3) := by decide +kernel
theorem dX5_readBowl_69 : decode cX5_readBowl 69 = .ok (.ifCond .eq 77, 3) := by decide +kernel
theorem dX5_readBowl_72 : decode cX5_readBowl 72 = .ok (.aload_n 0, 1) := by decide +kernel
theorem dX5_readBowl_73 : decode cX5_readBowl 73 = .ok (.ldc 140, 2) := by decide +kernel
theorem dX5_readBowl_75 : decode cX5_readBowl 75 = .ok (.iconst 1, 1) := by decide +kernel
theorem dX5_readBowl_76 : decode cX5_readBowl 76 = .ok (.bipush 99, 2) := by decide +kernel
theorem dX5_readBowl_78 : decode cX5_readBowl 78 = .ok (.aload_n 0, 1) := by decide +kernel
theorem dX5_readBowl_79 : decode cX5_readBowl 79 = .ok (.getfield 35, 3) := by decide +kernel
theorem dX5_readBowl_82 : decode cX5_readBowl 82 = .ok (.getfield 142, 3) := by decide +kernel
theorem dX5_readBowl_85 : decode cX5_readBowl 85 = .ok (.iload_n 1, 1) := by decide +kernel
theorem dX5_readBowl_86 : decode cX5_readBowl 86 = .ok (.invokevirtual 132, 3) := by decide +kernel
theorem dX5_readBowl_89 : decode cX5_readBowl 89 = .ok (.ifCond .eq 57, 3) := by decide +kernel
theorem dX5_readBowl_92 : decode cX5_readBowl 92 = .ok (.aload_n 0, 1) := by decide +kernel
theorem dX5_readBowl_93 : decode cX5_readBowl 93 = .ok (.ldc 144, 2) := by decide +kernel
theorem dX5_readBowl_95 : decode cX5_readBowl 95 = .ok (.iconst 0, 1) := by decide +kernel
theorem dX5_readBowl_96 : decode cX5_readBowl 96 = .ok (.sipush 999, 3) := by decide +kernel
theorem dX5_readBowl_99 : decode cX5_readBowl 99 = .ok (.aload_n 0, 1) := by decide +kernel
theorem dX5_readBowl_100 : decode cX5_readBowl 100 = .ok (.getfield 35, 3) := by decide +kernel
theorem dX5_readBowl_103 : decode cX5_readBowl 103 = .ok (.getfield 146, 3) := by decide +kernel
theorem dX5_readBowl_106 : decode cX5_readBowl 106 = .ok (.iload_n 1, 1) := by decide +kernel
theorem dX5_readBowl_107 : decode cX5_readBowl 107 = .ok (.invokevirtual 132, 3) := by decide +kernel
theorem dX5_readBowl_110 : decode cX5_readBowl 110 = .ok (.ifCond .eq 36, 3) := by decide +kernel
theorem dX5_readBowl_113 : decode cX5_readBowl 113 = .ok (.aload_n 0, 1) := by decide +kernel
theorem dX5_readBowl_114 : decode cX5_readBowl 114 = .ok (.ldc 148, 2) := by decide +kernel
theorem dX5_readBowl_116 : decode cX5_readBowl 116 = .ok (.iconst 0, 1) := by decide +kernel
theorem dX5_readBowl_117 : decode cX5_readBowl 117 = .ok (.bipush 99, 2) := by decide +kernel
theorem dX5_readBowl_119 : decode cX5_readBowl 119 = .ok (.aload_n 0, 1) := by decide +kernel
theorem dX5_readBowl_120 : decode cX5_readBowl 120 = .ok (.getfield 35, 3) := by decide +kernel
theorem dX5_readBowl_123 : decode cX5_readBowl 123 = .ok (.getfield 150, 3) := by decide +kernel
theorem dX5_readBowl_126 : decode cX5_readBowl 126 = .ok (.iload_n 1, 1) := by decide +kernel
theorem dX5_readBowl_127 : decode cX5_readBowl 127 = .ok (.invokevirtual 132, 3) := by decide +kernel
theorem dX5_readBowl_130 : decode cX5_readBowl 130 = .ok (.ifCond .eq 16, 3) := by decide +kernel
theorem dX5_readBowl_133 : decode cX5_readBowl 133 = .ok (.aload_n 0, 1) := by decide +kernel
theorem dX5_readBowl_134 : decode cX5_readBowl 134 = .ok (.bipush 59, 2) := by decide +kernel
theorem dX5_readBowl_136 : decode cX5_readBowl 136 = .ok (.invokevirtual 152, 3) := by decide +kernel
theorem dX5_readBowl_139 : decode cX5_readBowl 139 = .ok (.ifCond .eq 7, 3) := by decide +kernel
theorem dX5_readBowl_142 : decode cX5_readBowl 142 = .ok (.iconst 1, 1) := by decide +kernel
theorem dX5_readBowl_143 : decode cX5_readBowl 143 = .ok (.goto 4, 3) := by decide +kernel
theorem dX5_readBowl_146 : decode cX5_readBowl 146 = .ok (.iconst 0, 1) := by decide +kernel
theorem dX5_readBowl_147 : decode cX5_readBowl 147 = .ok (.istore_n 2, 1) := by decide +kernel
theorem dX5_readBowl_148 : decode cX5_readBowl 148 = .ok (.aload_n 0, 1) := by decide +kernel
theorem dX5_readBowl_149 : decode cX5_readBowl 149 = .ok (.getfield 35, 3) := by decide +kernel
theorem dX5_readBowl_152 : decode cX5_readBowl 152 = .ok (.dup, 1) := by decide +kernel
theorem dX5_readBowl_153 : decode cX5_readBowl 153 = .ok (.getfield 76, 3) := by decide +kernel
theorem dX5_readBowl_156 : decode cX5_readBowl 156 = .ok (.iload_n 2, 1) := by decide +kernel
theorem dX5_readBowl_157 : decode cX5_readBowl 157 = .ok (.ifCond .eq 7, 3) := by decide +kernel
theorem dX5_readBowl_160 : decode cX5_readBowl 160 = .ok (.iconst 1, 1) := by decide +kernel
theorem dX5_readBowl_161 : decode cX5_readBowl 161 = .ok (.goto 4, 3) := by decide +kernel
theorem dX5_readBowl_164 : decode cX5_readBowl 164 = .ok (.iconst 0, 1) := by decide +kernel
theorem dX5_readBowl_165 : decode cX5_readBowl 165 = .ok (.iadd, 1) := by decide +kernel
theorem dX5_readBowl_166 : decode cX5_readBowl 166 = .ok (.putfield 76, 3) := by decide +kernel
theorem dX5_readBowl_169 : decode cX5_readBowl 169 = .ok (.iload_n 2, 1) := by decide +kernel
theorem dX5_readBowl_170 : decode cX5_readBowl 170 = .ok (.ireturn, 1) := by decide +kernel
theorem dX5_readStatement_0 : decode cX5_readStatement 0 = .ok (.aload_n 0, 1) := by decide +kernel
theorem dX5_readStatement_1 : decode cX5_readStatement 1 = .ok (.getfield 12, 3) := by decide +kernel
theorem dX5_readStatement_4 : decode cX5_readStatement 4 = .ok (.ldc 86, 2) := by decide +kernel
theorem dX5_readStatement_6 : decode cX5_readStatement 6 = .ok (.invokevirtual 88, 3) := by decide +kernel
theorem dX5_readStatement_9 : decode cX5_readStatement 9 = .ok (.ifCond .eq 8, 3) := by decide +kernel
theorem dX5_readStatement_12 : decode cX5_readStatement 12 = .ok (.aload_n 0, 1) := by decide +kernel
theorem dX5_readStatement_13 : decode cX5_readStatement 13 = .ok (.invokevirtual 92, 3) := by decide +kernel
theorem dX5_readStatement_16 : decode cX5_readStatement 16 = .ok (.ireturn, 1) := by decide +kernel
theorem dX5_readStatement_17 : decode cX5_readStatement 17 = .ok (.aload_n 0, 1) := by decide +kernel
theorem dX5_readStatement_18 : decode cX5_readStatement 18 = .ok (.getfield 12, 3) := by decide +kernel
theorem dX5_readStatement_21 : decode cX5_readStatement 21 = .ok (.ldc 95, 2) := by decide +kernel
theorem dX5_readStatement_23 : decode cX5_readStatement 23 = .ok (.invokevirtual 88, 3) := by decide +kernel
theorem dX5_readStatement_26 : decode cX5_readStatement 26 = .ok (.ifCond .eq 8, 3) := by decide +kernel
theorem dX5_readStatement_29 : decode cX5_readStatement 29 = .ok (.aload_n 0, 1) := by decide +kernel
theorem dX5_readStatement_30 : decode cX5_readStatement 30 = .ok (.invokevirtual 97, 3) := by decide +kernel
theorem dX5_readStatement_33 : decode cX5_readStatement 33 = .ok (.ireturn, 1) := by decide +kernel
theorem dX5_readStatement_34 : decode cX5_readStatement 34 = .ok (.aload_n 0, 1) := by decide +kernel
theorem dX5_readStatement_35 : decode cX5_readStatement 35 = .ok (.getfield 12, 3) := by decide +kernel
theorem dX5_readStatement_38 : decode cX5_readStatement 38 = .ok (.ldc 100, 2) := by decide +kernel
theorem dX5_readStatement_40 : decode cX5_readStatement 40 = .ok (.invokevirtual 88, 3) := by decide +kernel
theorem dX5_readStatement_43 : decode cX5_readStatement 43 = .ok (.ifCond .eq 8, 3) := by decide +kernel
theorem dX5_readStatement_46 : decode cX5_readStatement 46 = .ok (.aload_n 0, 1) := by decide +kernel
theorem dX5_readStatement_47 : decode cX5_readStatement 47 = .ok (.invokevirtual 102, 3) := by decide +kernel
theorem dX5_readStatement_50 : decode cX5_readStatement 50 = .ok (.ireturn, 1) := by decide +kernel
theorem dX5_readStatement_51 : decode cX5_readStatement 51 = .ok (.aload_n 0, 1) := by decide +kernel
theorem dX5_readStatement_52 : decode cX5_readStatement 52 = .ok (.getfield 12, 3) := by decide +kernel
theorem dX5_readStatement_55 : decode cX5_readStatement 55 = .ok (.ldc 105, 2) := by decide +kernel
theorem dX5_readStatement_57 : decode cX5_readStatement 57 = .ok (.invokevirtual 88, 3) := by decide +kernel
theorem dX5_readStatement_60 : decode cX5_readStatement 60 = .ok (.ifCond .eq 8, 3) := by decide +kernel
theorem dX5_readStatement_63 : decode cX5_readStatement 63 = .ok (.aload_n 0, 1) := by decide +kernel
theorem dX5_readStatement_64 : decode cX5_readStatement 64 = .ok (.invokevirtual 107, 3) := by decide +kernel
theorem dX5_readStatement_67 : decode cX5_readStatement 67 = .ok (.ireturn, 1) := by decide +kernel
theorem dX5_readStatement_68 : decode cX5_readStatement 68 = .ok (.aload_n 0, 1) := by decide +kernel
theorem dX5_readStatement_69 : decode cX5_readStatement 69 = .ok (.getfield 12, 3) := by decide +kernel
theorem dX5_readStatement_72 : decode cX5_readStatement 72 = .ok (.ldc 110, 2) := by decide +kernel
theorem dX5_readStatement_74 : decode cX5_readStatement 74 = .ok (.invokevirtual 88, 3) := by decide +kernel
theorem dX5_readStatement_77 : decode cX5_readStatement 77 = .ok (.ifCond .eq 8, 3) := by decide +kernel
theorem dX5_readStatement_80 : decode cX5_readStatement 80 = .ok (.aload_n 0, 1) := by decide +kernel
theorem dX5_readStatement_81 : decode cX5_readStatement 81 = .ok (.invokevirtual 112, 3) := by decide +kernel
theorem dX5_readStatement_84 : decode cX5_readStatement 84 = .ok (.ireturn, 1) := by decide +kernel
theorem dX5_readStatement_85 : decode cX5_readStatement 85 = .ok (.aload_n 0, 1) := by decide +kernel
theorem dX5_readStatement_86 : decode cX5_readStatement 86 = .ok (.getfield 12, 3) := by decide +kernel
theorem dX5_readStatement_89 : decode cX5_readStatement 89 = .ok (.ldc 115, 2) := by decide +kernel
theorem dX5_readStatement_91 : decode cX5_readStatement 91 = .ok (.invokevirtual 88, 3) := by decide +kernel
theorem dX5_readStatement_94 : decode cX5_readStatement 94 = .ok (.ifCond .eq 10, 3) := by decide +kernel
theorem dX5_readStatement_97 : decode cX5_readStatement 97 = .ok (.aload_n 0, 1) := by decide +kernel
theorem dX5_readStatement_98 : decode cX5_readStatement 98 = .ok (.invokevirtual 117, 3) := by decide +kernel
theorem dX5_readStatement_101 : decode cX5_readStatement 101 = .ok (.goto 8, 3) := by decide +kernel
theorem dX5_readStatement_104 : decode cX5_readStatement 104 = .ok (.aload_n 0, 1) := by decide +kernel
theorem dX5_readStatement_105 : decode cX5_readStatement 105 = .ok (.iconst 1, 1) := by decide +kernel
theorem dX5_readStatement_106 : decode cX5_readStatement 106 = .ok (.invokevirtual 120, 3) := by decide +kernel
theorem dX5_readStatement_109 : decode cX5_readStatement 109 = .ok (.ireturn, 1) := by decide +kernel
set_option maxHeartbeats 4000000 in
set_option maxRecDepth 100000 in
theorem c_X5_readNest (l : Launch) (D : DG) (cyC cyI cyJ cyZ cyO : ClassId) (r0 : Nat) (t0 : Nat) (t1 : Nat) (e0 : Nat) (e1 : Nat) (e2 : Nat) (a0 : Nat) (r1 : Nat) (r2 : Nat) (e3 : Nat) (a1 : Nat) (a2 : Nat) (a3 : Nat) (a4 : Nat) (a5 : Nat) (a6 : Nat) (a7 : Nat) (a8 : Nat) (a9 : Nat) (a10 : Nat) (r_habits : Int32) (r_fault : Int32) (t_length : Int32) (t_next : Int32) (t_kind : Int32) (t_place : Int32) (t_number : Int32) (e_size : Int32) (e_nests : Int32) (a_wares : Int32) (a_shelves : Int32) (a_nests : Int32) (a_lids : Int32) (a_tops : Int32) (t_text : Nat → Int32) (e_steps : Nat → Int32) (e_end : Nat → Int32) (h_t_length : 0 ≤ (t_length).toInt ∧ (t_length).toInt ≤ 1000) (h_t_next : 0 ≤ (t_next).toInt ∧ (t_next).toInt ≤ 1000) (h_t_kind : 0 ≤ (t_kind).toInt ∧ (t_kind).toInt ≤ 4) (h_t_place : 0 ≤ (t_place).toInt ∧ (t_place).toInt ≤ 1000) (h_e_size : 0 ≤ (e_size).toInt ∧ (e_size).toInt ≤ 1000) (h_e_nests : 0 ≤ (e_nests).toInt ∧ (e_nests).toInt ≤ 4) (h_a_wares : 0 ≤ (a_wares).toInt ∧ (a_wares).toInt ≤ 12) (h_a_shelves : 0 ≤ (a_shelves).toInt ∧ (a_shelves).toInt ≤ 4) (h_a_nests : 0 ≤ (a_nests).toInt ∧ (a_nests).toInt ≤ 4) (h_e_end : Iv 4 (0) (1000) e_end) (ht3 : ¬ (t_kind).toInt = 3 ∨ (t_place).toInt ≤ 999) : KK l D (TY cyC cyI cyJ cyZ cyO) yX5_readNest cX5_readNest 1 (some .boolean) ({ frames := 42, cells := 0, slots := 0, locals := 1057 } : Room) 0 0 [.ref r0] [(r0, .inr (5, [.ref t0, .ref e0, .ref r1, .ref r2, .ref a0, .int r_habits, .int r_fault])), (t0, .inr (8, [.ref t1, .int t_length, .int t_next, .int t_kind, .int t_place, .int t_number])), (t1, .inl (cyC, 1000, .inl t_text)), (e0, .inr (1, [.int e_size, .int e_nests, .ref e1, .ref e2, .ref e3])), (e1, .inl (cyI, 1000, .inl e_steps)), (e2, .inl (cyI, 4, .inl e_end)), (a0, .inr (9, [.int a_wares, .int a_shelves, .int a_nests, .ref a1, .ref a2, .ref a3, .ref a4, .ref a5, .ref a6, .int a_lids, .int a_tops, .ref a7, .ref a8, .ref a9, .ref a10]))] (fun u => some (.int (u.2.1 0))) (fun u => (0 ≤ (u.2.1 0).toInt ∧ (u.2.1 0).toInt ≤ 1) ∧ (0 ≤ (u.2.1 2).toInt ∧ (u.2.1 2).toInt ≤ 1000) ∧ (0 ≤ (u.2.1 3).toInt ∧ (u.2.1 3).toInt ≤ 4) ∧ (0 ≤ (u.2.1 4).toInt ∧ (u.2.1 4).toInt ≤ 1000) ∧ (0 ≤ (u.2.1 6).toInt ∧ (u.2.1 6).toInt ≤ 1000) ∧ (0 ≤ (u.2.1 7).toInt ∧ (u.2.1 7).toInt ≤ 4) ∧ (Iv 4 (0) (1000) (u.2.2.1 1)) ∧ (0 ≤ (u.2.1 8).toInt ∧ (u.2.1 8).toInt ≤ 4) ∧ (¬ ((u.2.1 3)).toInt = 3 ∨ ((u.2.1 4)).toInt ≤ 999)) (fun u => [(r0, .inr (5, [.ref t0, .ref e0, .ref r1, .ref r2, .ref a0, .int r_habits, .int (u.2.1 1)])), (t0, .inr (8, [.ref t1, .int t_length, .int (u.2.1 2), .int (u.2.1 3), .int (u.2.1 4), .int (u.2.1 5)])), (t1, .inl (cyC, 1000, .inl t_text)), (e0, .inr (1, [.int (u.2.1 6), .int (u.2.1 7), .ref e1, .ref e2, .ref e3])), (e1, .inl (cyI, 1000, .inl (u.2.2.1 0))), (e2, .inl (cyI, 4, .inl (u.2.2.1 1))), (a0, .inr (9, [.int a_wares, .int a_shelves, .int (u.2.1 8), .ref a1, .ref a2, .ref a3, .ref a4, .ref a5, .ref a6, .int a_lids, .int a_tops, .ref a7, .ref a8, .ref a9, .ref a10]))]) := by
  refine KK.of (lv0 := [(0, .ref r0)]) (by decide) rfl (Nat.le_of_ble_eq_true rfl) ?_
  intro p e s m args below meth c A C hr hk hin
  refine j_aload_n (pc := 0) C dX5_readNest_0 rfl 0 rfl ?_
  refine j_get (pc := 1) (ci := 5) (v := .ref a0) C inw_5 0 rfl rfl 4 (by decide) wd_299 rfl rfl dX5_readNest_1 ?_
  refine j_get (pc := 4) (ci := 9) (v := .int a_nests) C inw_9 6 rfl rfl 2 (by decide) wd_357 rfl rfl dX5_readNest_4 ?_
  refine j_iconst (pc := 7) (v := 4) C dX5_readNest_7 (by decide) ?_
  refine j_icmp_lt (pc := 8) (tgt := 17) C dX5_readNest_8 (by decide) (fun c_1 => ?_) (fun c_1 => ?_)
  · skip
    have el_4 : (4 : Int32).toInt = 4 := rfl
    rw [i_lt] at c_1
    refine j_aload_n (pc := 17) C dX5_readNest_17 rfl 0 rfl ?_
    refine j_get (pc := 18) (ci := 5) (v := .ref t0) C inw_5 0 rfl rfl 0 (by decide) wd_296 rfl rfl dX5_readNest_18 ?_
    refine j_callV (pc := 21) (As := []) (rest := []) (wr := [(r0, .inr (5, [.ref t0, .ref e0, .ref r1, .ref r2, .ref a0, .int r_habits, .int r_fault])), (e0, .inr (1, [.int e_size, .int e_nests, .ref e1, .ref e2, .ref e3])), (e1, .inl (cyI, 1000, .inl e_steps)), (e2, .inl (cyI, 4, .inl e_end)), (a0, .inr (9, [.int a_wares, .int a_shelves, .int a_nests, .ref a1, .ref a2, .ref a3, .ref a4, .ref a5, .ref a6, .int a_lids, .int a_tops, .ref a7, .ref a8, .ref a9, .ref a10]))]) C (c_X8_advance l D cyC cyI cyJ cyZ cyO t0 t1 t_length t_next t_kind t_place t_number t_text (by omega) (by omega) (by omega) (by omega)) wd_277 wd_258 wd_304 wd_279 wd_280 ⟨by decide, by decide, rfl⟩ rfl ⟨rfl, rfl, by decide, by decide⟩ ⟨by decide, by decide⟩ [1, 2] [0, 3, 4, 5, 6] rfl rfl ⟨by decide, by decide, by decide⟩ 1 rfl rfl rfl (Nat.le_of_ble_eq_true rfl) dX5_readNest_21 (fun u_2 hw_3 => ?_)
    refine j_eq (ws2 := [(r0, .inr (5, [.ref t0, .ref e0, .ref r1, .ref r2, .ref a0, .int r_habits, .int r_fault])), (e0, .inr (1, [.int e_size, .int e_nests, .ref e1, .ref e2, .ref e3])), (e1, .inl (cyI, 1000, .inl e_steps)), (e2, .inl (cyI, 4, .inl e_end)), (a0, .inr (9, [.int a_wares, .int a_shelves, .int a_nests, .ref a1, .ref a2, .ref a3, .ref a4, .ref a5, .ref a6, .int a_lids, .int a_tops, .ref a7, .ref a8, .ref a9, .ref a10])), (t0, .inr (8, [.ref t1, .int t_length, .int (u_2.2.1 0), .int (u_2.2.1 1), .int (u_2.2.1 2), .int (u_2.2.1 3)])), (t1, .inl (cyC, 1000, .inl t_text))]) (pc2 := 24) (lv2 := [(0, .ref r0)]) (st2 := []) rfl rfl rfl rfl ?_
    obtain ⟨hw_3_0, hw_3_1, hw_3_2, hw_3_3⟩ := hw_3
    refine j_aload_n (pc := 24) C dX5_readNest_24 rfl 0 rfl ?_
    refine j_iconst (pc := 25) (v := 0) C dX5_readNest_25 (by decide) ?_
    refine j_iconst (pc := 26) (v := 0) C dX5_readNest_26 (by decide) ?_
    refine j_callV (pc := 27) (As := [.int 0, .int 0]) (rest := []) (wr := [(e2, .inl (cyI, 4, .inl e_end)), (a0, .inr (9, [.int a_wares, .int a_shelves, .int a_nests, .ref a1, .ref a2, .ref a3, .ref a4, .ref a5, .ref a6, .int a_lids, .int a_tops, .ref a7, .ref a8, .ref a9, .ref a10]))]) C (c_X5_readChain_0_0 l D cyC cyI cyJ cyZ cyO r0 t0 t1 e0 e1 r1 r2 a0 e2 e3 r_habits r_fault t_length (u_2.2.1 0) (u_2.2.1 1) (u_2.2.1 2) (u_2.2.1 3) e_size e_nests t_text e_steps (by omega) (by omega) (by omega) (by omega) (by omega) (by omega) (by omega)) wd_340 wd_306 wd_341 wd_342 wd_343 ⟨by decide, by decide, rfl⟩ rfl ⟨rfl, rfl, by decide, by decide⟩ ⟨by decide, by decide⟩ [0, 5, 6, 1, 2] [3, 4] rfl rfl ⟨by decide, by decide, by decide⟩ 0 rfl rfl rfl (Nat.le_of_ble_eq_true rfl) dX5_readNest_27 (fun u_4 hw_5 => ?_)
    refine j_eq (ws2 := [(e2, .inl (cyI, 4, .inl e_end)), (a0, .inr (9, [.int a_wares, .int a_shelves, .int a_nests, .ref a1, .ref a2, .ref a3, .ref a4, .ref a5, .ref a6, .int a_lids, .int a_tops, .ref a7, .ref a8, .ref a9, .ref a10])), (r0, .inr (5, [.ref t0, .ref e0, .ref r1, .ref r2, .ref a0, .int r_habits, .int (u_4.2.1 1)])), (t0, .inr (8, [.ref t1, .int t_length, .int (u_4.2.1 2), .int (u_4.2.1 3), .int (u_4.2.1 4), .int (u_4.2.1 5)])), (t1, .inl (cyC, 1000, .inl t_text)), (e0, .inr (1, [.int (u_4.2.1 6), .int e_nests, .ref e1, .ref e2, .ref e3])), (e1, .inl (cyI, 1000, .inl (u_4.2.2.1 0)))]) (pc2 := 30) (lv2 := [(0, .ref r0)]) (st2 := [.int (u_4.2.1 0)]) rfl rfl rfl rfl ?_
    obtain ⟨hw_5_0, hw_5_1, hw_5_2, hw_5_3, hw_5_4, hw_5_5⟩ := hw_5
    refine j_if_eq (pc := 30) (tgt := 42) C dX5_readNest_30 (by decide) (fun c_6 => ?_) (fun c_6 => ?_)
    · skip
      have el_0 : (0 : Int32).toInt = 0 := rfl
      rw [i_eq] at c_6
      refine j_iconst (pc := 42) (v := 0) C dX5_readNest_42 (by decide) ?_
      have el_0 : (0 : Int32).toInt = 0 := rfl
      have el_0 : (0 : Int32).toInt = 0 := rfl
      exact j_zret (pc := 43) C hr rfl hk (fun i => [].getD i 0, fun i => [0, (u_4.2.1 1), (u_4.2.1 2), (u_4.2.1 3), (u_4.2.1 4), (u_4.2.1 5), (u_4.2.1 6), e_nests, a_nests].getD i 0, fun i => [(u_4.2.2.1 0), e_end].getD i (fun _ => 0), fun i => [].getD i (fun _ => 0)) rfl (show (0 ≤ ((0 : Int32)).toInt ∧ ((0 : Int32)).toInt ≤ 1) ∧ (0 ≤ ((u_4.2.1 2)).toInt ∧ ((u_4.2.1 2)).toInt ≤ 1000) ∧ (0 ≤ ((u_4.2.1 3)).toInt ∧ ((u_4.2.1 3)).toInt ≤ 4) ∧ (0 ≤ ((u_4.2.1 4)).toInt ∧ ((u_4.2.1 4)).toInt ≤ 1000) ∧ (0 ≤ ((u_4.2.1 6)).toInt ∧ ((u_4.2.1 6)).toInt ≤ 1000) ∧ (0 ≤ (e_nests).toInt ∧ (e_nests).toInt ≤ 4) ∧ (Iv 4 (0) (1000) e_end) ∧ (0 ≤ (a_nests).toInt ∧ (a_nests).toInt ≤ 4) ∧ (¬ ((u_4.2.1 3)).toInt = 3 ∨ ((u_4.2.1 4)).toInt ≤ 999) from ⟨by omega, by omega, by omega, by omega, by omega, by omega, h_e_end, by omega, by omega⟩) [2, 3, 4, 5, 6, 0, 1] (by decide) rfl (by decide) (by decide) dX5_readNest_43
    · skip
      have el_0 : (0 : Int32).toInt = 0 := rfl
      rw [i_eq] at c_6
      refine j_aload_n (pc := 33) C dX5_readNest_33 rfl 0 rfl ?_
      refine j_bipush (pc := 34) (v := 59) C dX5_readNest_34 (by decide) ?_
      refine j_callV (pc := 36) (As := [.int 59]) (rest := []) (wr := [(e2, .inl (cyI, 4, .inl e_end)), (a0, .inr (9, [.int a_wares, .int a_shelves, .int a_nests, .ref a1, .ref a2, .ref a3, .ref a4, .ref a5, .ref a6, .int a_lids, .int a_tops, .ref a7, .ref a8, .ref a9, .ref a10])), (e0, .inr (1, [.int (u_4.2.1 6), .int e_nests, .ref e1, .ref e2, .ref e3])), (e1, .inl (cyI, 1000, .inl (u_4.2.2.1 0)))]) C (c_X5_readSign l D cyC cyI cyJ cyZ cyO r0 t0 t1 e0 r1 r2 a0 59 r_habits (u_4.2.1 1) t_length (u_4.2.1 2) (u_4.2.1 3) (u_4.2.1 4) (u_4.2.1 5) t_text (by omega) (by omega) (by omega) (by omega) (by omega)) wd_353 wd_306 wd_354 wd_355 wd_356 ⟨by decide, by decide, rfl⟩ rfl ⟨rfl, rfl, by decide, by decide⟩ ⟨by decide, by decide⟩ [2, 3, 4] [0, 1, 5, 6] rfl rfl ⟨by decide, by decide, by decide⟩ 2 rfl rfl rfl (Nat.le_of_ble_eq_true rfl) dX5_readNest_36 (fun u_7 hw_8 => ?_)
      refine j_eq (ws2 := [(e2, .inl (cyI, 4, .inl e_end)), (a0, .inr (9, [.int a_wares, .int a_shelves, .int a_nests, .ref a1, .ref a2, .ref a3, .ref a4, .ref a5, .ref a6, .int a_lids, .int a_tops, .ref a7, .ref a8, .ref a9, .ref a10])), (e0, .inr (1, [.int (u_4.2.1 6), .int e_nests, .ref e1, .ref e2, .ref e3])), (e1, .inl (cyI, 1000, .inl (u_4.2.2.1 0))), (r0, .inr (5, [.ref t0, .ref e0, .ref r1, .ref r2, .ref a0, .int r_habits, .int (u_7.2.1 1)])), (t0, .inr (8, [.ref t1, .int t_length, .int (u_7.2.1 2), .int (u_7.2.1 3), .int (u_7.2.1 4), .int (u_7.2.1 5)])), (t1, .inl (cyC, 1000, .inl t_text))]) (pc2 := 39) (lv2 := [(0, .ref r0)]) (st2 := [.int (u_7.2.1 0)]) rfl rfl rfl rfl ?_
      obtain ⟨hw_8_0, hw_8_1, hw_8_2, hw_8_3, hw_8_4⟩ := hw_8
      refine j_if_ne (pc := 39) (tgt := 44) C dX5_readNest_39 (by decide) (fun c_9 => ?_) (fun c_9 => ?_)
      · skip
        have el_0 : (0 : Int32).toInt = 0 := rfl
        rw [i_eq] at c_9
        refine j_aload_n (pc := 44) C dX5_readNest_44 rfl 0 rfl ?_
        refine j_get (pc := 45) (ci := 5) (v := .ref e0) C inw_5 4 rfl rfl 1 (by decide) wd_344 rfl rfl dX5_readNest_45 ?_
        refine j_callV (pc := 48) (As := []) (rest := []) (wr := [(a0, .inr (9, [.int a_wares, .int a_shelves, .int a_nests, .ref a1, .ref a2, .ref a3, .ref a4, .ref a5, .ref a6, .int a_lids, .int a_tops, .ref a7, .ref a8, .ref a9, .ref a10])), (e1, .inl (cyI, 1000, .inl (u_4.2.2.1 0))), (r0, .inr (5, [.ref t0, .ref e0, .ref r1, .ref r2, .ref a0, .int r_habits, .int (u_7.2.1 1)])), (t0, .inr (8, [.ref t1, .int t_length, .int (u_7.2.1 2), .int (u_7.2.1 3), .int (u_7.2.1 4), .int (u_7.2.1 5)])), (t1, .inl (cyC, 1000, .inl t_text))]) C (c_X1_close l D cyC cyI cyJ cyZ cyO e0 e2 e1 e3 (u_4.2.1 6) e_nests e_end (by omega) (by omega) h_e_end) wd_358 wd_200 wd_359 wd_360 wd_361 ⟨by decide, by decide, rfl⟩ rfl ⟨rfl, rfl, by decide, by decide⟩ ⟨by decide, by decide⟩ [2, 0] [1, 3, 4, 5, 6] rfl rfl ⟨by decide, by decide, by decide⟩ 2 rfl rfl rfl (Nat.le_of_ble_eq_true rfl) dX5_readNest_48 (fun u_10 hw_11 => ?_)
        refine j_eq (ws2 := [(a0, .inr (9, [.int a_wares, .int a_shelves, .int a_nests, .ref a1, .ref a2, .ref a3, .ref a4, .ref a5, .ref a6, .int a_lids, .int a_tops, .ref a7, .ref a8, .ref a9, .ref a10])), (e1, .inl (cyI, 1000, .inl (u_4.2.2.1 0))), (r0, .inr (5, [.ref t0, .ref e0, .ref r1, .ref r2, .ref a0, .int r_habits, .int (u_7.2.1 1)])), (t0, .inr (8, [.ref t1, .int t_length, .int (u_7.2.1 2), .int (u_7.2.1 3), .int (u_7.2.1 4), .int (u_7.2.1 5)])), (t1, .inl (cyC, 1000, .inl t_text)), (e0, .inr (1, [.int (u_4.2.1 6), .int (u_10.2.1 0), .ref e1, .ref e2, .ref e3])), (e2, .inl (cyI, 4, .inl (u_10.2.2.1 0)))]) (pc2 := 51) (lv2 := [(0, .ref r0)]) (st2 := []) rfl rfl rfl rfl ?_
        obtain ⟨hw_11_0, hw_11_1⟩ := hw_11
        refine j_aload_n (pc := 51) C dX5_readNest_51 rfl 0 rfl ?_
        refine j_get (pc := 52) (ci := 5) (v := .ref a0) C inw_5 2 rfl rfl 4 (by decide) wd_299 rfl rfl dX5_readNest_52 ?_
        refine j_dup (pc := 55) C dX5_readNest_55 rfl ?_
        refine j_get (pc := 56) (ci := 9) (v := .int a_nests) C inw_9 0 rfl rfl 2 (by decide) wd_357 rfl rfl dX5_readNest_56 ?_
        refine j_iconst (pc := 59) (v := 1) C dX5_readNest_59 (by decide) ?_
        obtain ⟨v_12, ev_12⟩ : ∃ z : Int32, a_nests + 1 = z := ⟨_, rfl⟩
        have el_1 : (1 : Int32).toInt = 1 := rfl
        have hv_12 : v_12.toInt = a_nests.toInt + (1 : Int32).toInt := by rw [← ev_12]; exact fb_addI (by omega) (by omega)
        refine j_iadd (pc := 60) (v := v_12) C dX5_readNest_60 ev_12 ?_
        refine j_put (pc := 61) (ci := 9) (v := .int v_12) (ws' := [(a0, .inr (9, [.int a_wares, .int a_shelves, .int v_12, .ref a1, .ref a2, .ref a3, .ref a4, .ref a5, .ref a6, .int a_lids, .int a_tops, .ref a7, .ref a8, .ref a9, .ref a10])), (e1, .inl (cyI, 1000, .inl (u_4.2.2.1 0))), (r0, .inr (5, [.ref t0, .ref e0, .ref r1, .ref r2, .ref a0, .int r_habits, .int (u_7.2.1 1)])), (t0, .inr (8, [.ref t1, .int t_length, .int (u_7.2.1 2), .int (u_7.2.1 3), .int (u_7.2.1 4), .int (u_7.2.1 5)])), (t1, .inl (cyC, 1000, .inl t_text)), (e0, .inr (1, [.int (u_4.2.1 6), .int (u_10.2.1 0), .ref e1, .ref e2, .ref e3])), (e2, .inl (cyI, 4, .inl (u_10.2.2.1 0)))]) C inw_9 0 rfl rfl 2 (by decide) wd_357 rfl tyX9_ok nmX9 rfl (tyX9_ok 2 (by decide)) rfl rfl (Nat.le_of_ble_eq_true rfl) dX5_readNest_61 rfl ?_
        refine j_iconst (pc := 64) (v := 1) C dX5_readNest_64 (by decide) ?_
        have el_1 : (1 : Int32).toInt = 1 := rfl
        have el_1 : (1 : Int32).toInt = 1 := rfl
        exact j_zret (pc := 65) C hr rfl hk (fun i => [].getD i 0, fun i => [1, (u_7.2.1 1), (u_7.2.1 2), (u_7.2.1 3), (u_7.2.1 4), (u_7.2.1 5), (u_4.2.1 6), (u_10.2.1 0), v_12].getD i 0, fun i => [(u_4.2.2.1 0), (u_10.2.2.1 0)].getD i (fun _ => 0), fun i => [].getD i (fun _ => 0)) rfl (show (0 ≤ ((1 : Int32)).toInt ∧ ((1 : Int32)).toInt ≤ 1) ∧ (0 ≤ ((u_7.2.1 2)).toInt ∧ ((u_7.2.1 2)).toInt ≤ 1000) ∧ (0 ≤ ((u_7.2.1 3)).toInt ∧ ((u_7.2.1 3)).toInt ≤ 4) ∧ (0 ≤ ((u_7.2.1 4)).toInt ∧ ((u_7.2.1 4)).toInt ≤ 1000) ∧ (0 ≤ ((u_4.2.1 6)).toInt ∧ ((u_4.2.1 6)).toInt ≤ 1000) ∧ (0 ≤ ((u_10.2.1 0)).toInt ∧ ((u_10.2.1 0)).toInt ≤ 4) ∧ (Iv 4 (0) (1000) (u_10.2.2.1 0)) ∧ (0 ≤ (v_12).toInt ∧ (v_12).toInt ≤ 4) ∧ (¬ ((u_7.2.1 3)).toInt = 3 ∨ ((u_7.2.1 4)).toInt ≤ 999) from ⟨by omega, by omega, by omega, by omega, by omega, by omega, hw_11_1, by omega, by omega⟩) [2, 3, 4, 5, 1, 6, 0] (by decide) rfl (by decide) (by decide) dX5_readNest_65
      · skip
        have el_0 : (0 : Int32).toInt = 0 := rfl
        rw [i_eq] at c_9
        refine j_iconst (pc := 42) (v := 0) C dX5_readNest_42 (by decide) ?_
        have el_0 : (0 : Int32).toInt = 0 := rfl
        have el_0 : (0 : Int32).toInt = 0 := rfl
        exact j_zret (pc := 43) C hr rfl hk (fun i => [].getD i 0, fun i => [0, (u_7.2.1 1), (u_7.2.1 2), (u_7.2.1 3), (u_7.2.1 4), (u_7.2.1 5), (u_4.2.1 6), e_nests, a_nests].getD i 0, fun i => [(u_4.2.2.1 0), e_end].getD i (fun _ => 0), fun i => [].getD i (fun _ => 0)) rfl (show (0 ≤ ((0 : Int32)).toInt ∧ ((0 : Int32)).toInt ≤ 1) ∧ (0 ≤ ((u_7.2.1 2)).toInt ∧ ((u_7.2.1 2)).toInt ≤ 1000) ∧ (0 ≤ ((u_7.2.1 3)).toInt ∧ ((u_7.2.1 3)).toInt ≤ 4) ∧ (0 ≤ ((u_7.2.1 4)).toInt ∧ ((u_7.2.1 4)).toInt ≤ 1000) ∧ (0 ≤ ((u_4.2.1 6)).toInt ∧ ((u_4.2.1 6)).toInt ≤ 1000) ∧ (0 ≤ (e_nests).toInt ∧ (e_nests).toInt ≤ 4) ∧ (Iv 4 (0) (1000) e_end) ∧ (0 ≤ (a_nests).toInt ∧ (a_nests).toInt ≤ 4) ∧ (¬ ((u_7.2.1 3)).toInt = 3 ∨ ((u_7.2.1 4)).toInt ≤ 999) from ⟨by omega, by omega, by omega, by omega, by omega, by omega, h_e_end, by omega, by omega⟩) [4, 5, 6, 2, 3, 0, 1] (by decide) rfl (by decide) (by decide) dX5_readNest_43
  · skip
    have el_4 : (4 : Int32).toInt = 4 := rfl
    rw [i_lt] at c_1
    refine j_aload_n (pc := 11) C dX5_readNest_11 rfl 0 rfl ?_
    refine j_iconst (pc := 12) (v := 5) C dX5_readNest_12 (by decide) ?_
    refine j_callV (pc := 13) (As := [.int 5]) (rest := []) (wr := [(t1, .inl (cyC, 1000, .inl t_text)), (e0, .inr (1, [.int e_size, .int e_nests, .ref e1, .ref e2, .ref e3])), (e1, .inl (cyI, 1000, .inl e_steps)), (e2, .inl (cyI, 4, .inl e_end)), (a0, .inr (9, [.int a_wares, .int a_shelves, .int a_nests, .ref a1, .ref a2, .ref a3, .ref a4, .ref a5, .ref a6, .int a_lids, .int a_tops, .ref a7, .ref a8, .ref a9, .ref a10]))]) C (c_X5_wrong l D cyC cyI cyJ cyZ cyO r0 t0 e0 r1 r2 a0 t1 5 r_habits r_fault t_length t_next t_kind t_place t_number (by omega) (by omega) (by omega) (by omega)) wd_305 wd_306 wd_307 wd_308 wd_309 ⟨by decide, by decide, rfl⟩ rfl ⟨rfl, rfl, by decide, by decide⟩ ⟨by decide, by decide⟩ [0, 1] [2, 3, 4, 5, 6] rfl rfl ⟨by decide, by decide, by decide⟩ 0 rfl rfl rfl (Nat.le_of_ble_eq_true rfl) dX5_readNest_13 (fun u_13 hw_14 => ?_)
    refine j_eq (ws2 := [(t1, .inl (cyC, 1000, .inl t_text)), (e0, .inr (1, [.int e_size, .int e_nests, .ref e1, .ref e2, .ref e3])), (e1, .inl (cyI, 1000, .inl e_steps)), (e2, .inl (cyI, 4, .inl e_end)), (a0, .inr (9, [.int a_wares, .int a_shelves, .int a_nests, .ref a1, .ref a2, .ref a3, .ref a4, .ref a5, .ref a6, .int a_lids, .int a_tops, .ref a7, .ref a8, .ref a9, .ref a10])), (r0, .inr (5, [.ref t0, .ref e0, .ref r1, .ref r2, .ref a0, .int r_habits, .int (u_13.2.1 0)])), (t0, .inr (8, [.ref t1, .int t_length, .int t_next, .int t_kind, .int t_place, .int t_number]))]) (pc2 := 16) (lv2 := [(0, .ref r0)]) (st2 := [.int 0]) rfl rfl rfl rfl ?_
    have el_0 : (0 : Int32).toInt = 0 := rfl
    have el_0 : (0 : Int32).toInt = 0 := rfl
    exact j_zret (pc := 16) C hr rfl hk (fun i => [].getD i 0, fun i => [0, (u_13.2.1 0), t_next, t_kind, t_place, t_number, e_size, e_nests, a_nests].getD i 0, fun i => [e_steps, e_end].getD i (fun _ => 0), fun i => [].getD i (fun _ => 0)) rfl (show (0 ≤ ((0 : Int32)).toInt ∧ ((0 : Int32)).toInt ≤ 1) ∧ (0 ≤ (t_next).toInt ∧ (t_next).toInt ≤ 1000) ∧ (0 ≤ (t_kind).toInt ∧ (t_kind).toInt ≤ 4) ∧ (0 ≤ (t_place).toInt ∧ (t_place).toInt ≤ 1000) ∧ (0 ≤ (e_size).toInt ∧ (e_size).toInt ≤ 1000) ∧ (0 ≤ (e_nests).toInt ∧ (e_nests).toInt ≤ 4) ∧ (Iv 4 (0) (1000) e_end) ∧ (0 ≤ (a_nests).toInt ∧ (a_nests).toInt ≤ 4) ∧ (¬ (t_kind).toInt = 3 ∨ (t_place).toInt ≤ 999) from ⟨by omega, by omega, by omega, by omega, by omega, by omega, h_e_end, by omega, by omega⟩) [5, 6, 0, 1, 2, 3, 4] (by decide) rfl (by decide) (by decide) dX5_readNest_16
set_option maxHeartbeats 4000000 in
set_option maxRecDepth 100000 in
theorem c_X5_readHabit (l : Launch) (D : DG) (cyC cyI cyJ cyZ cyO : ClassId) (r0 : Nat) (r1 : Nat) (t0 : Nat) (t1 : Nat) (a0 : Nat) (a6 : Nat) (e0 : Nat) (r2 : Nat) (a1 : Nat) (a2 : Nat) (a3 : Nat) (a4 : Nat) (a5 : Nat) (a7 : Nat) (a8 : Nat) (a9 : Nat) (a10 : Nat) (r_habits : Int32) (r_fault : Int32) (t_length : Int32) (t_next : Int32) (t_kind : Int32) (t_place : Int32) (t_number : Int32) (a_wares : Int32) (a_shelves : Int32) (a_nests : Int32) (a_lids : Int32) (a_tops : Int32) (r_wn : Nat → Int64) (t_text : Nat → Int32) (a_habit : Nat → Int32) (h_t_length : 0 ≤ (t_length).toInt ∧ (t_length).toInt ≤ 1000) (h_t_next : 0 ≤ (t_next).toInt ∧ (t_next).toInt ≤ 1000) (h_t_kind : 0 ≤ (t_kind).toInt ∧ (t_kind).toInt ≤ 4) (h_t_place : 0 ≤ (t_place).toInt ∧ (t_place).toInt ≤ 1000) (h_a_wares : 0 ≤ (a_wares).toInt ∧ (a_wares).toInt ≤ 12) (h_a_shelves : 0 ≤ (a_shelves).toInt ∧ (a_shelves).toInt ≤ 4) (h_a_nests : 0 ≤ (a_nests).toInt ∧ (a_nests).toInt ≤ 4) (ht3 : ¬ (t_kind).toInt = 3 ∨ (t_place).toInt ≤ 999) : KK l D (TY cyC cyI cyJ cyZ cyO) yX5_readHabit cX5_readHabit 2 (some .boolean) ({ frames := 7, cells := 0, slots := 0, locals := 152 } : Room) 0 0 [.ref r0] [(r0, .inr (5, [.ref t0, .ref e0, .ref r1, .ref r2, .ref a0, .int r_habits, .int r_fault])), (r1, .inl (cyJ, 12, .inr (.inl r_wn))), (t0, .inr (8, [.ref t1, .int t_length, .int t_next, .int t_kind, .int t_place, .int t_number])), (t1, .inl (cyC, 1000, .inl t_text)), (a0, .inr (9, [.int a_wares, .int a_shelves, .int a_nests, .ref a1, .ref a2, .ref a3, .ref a4, .ref a5, .ref a6, .int a_lids, .int a_tops, .ref a7, .ref a8, .ref a9, .ref a10])), (a6, .inl (cyI, 12, .inl a_habit))] (fun u => some (.int (u.2.1 0))) (fun u => (0 ≤ (u.2.1 0).toInt ∧ (u.2.1 0).toInt ≤ 1) ∧ (0 ≤ (u.2.1 3).toInt ∧ (u.2.1 3).toInt ≤ 1000) ∧ (0 ≤ (u.2.1 4).toInt ∧ (u.2.1 4).toInt ≤ 4) ∧ (0 ≤ (u.2.1 5).toInt ∧ (u.2.1 5).toInt ≤ 1000) ∧ (¬ ((u.2.1 4)).toInt = 3 ∨ ((u.2.1 5)).toInt ≤ 999)) (fun u => [(r0, .inr (5, [.ref t0, .ref e0, .ref r1, .ref r2, .ref a0, .int (u.2.1 1), .int (u.2.1 2)])), (r1, .inl (cyJ, 12, .inr (.inl r_wn))), (t0, .inr (8, [.ref t1, .int t_length, .int (u.2.1 3), .int (u.2.1 4), .int (u.2.1 5), .int (u.2.1 6)])), (t1, .inl (cyC, 1000, .inl t_text)), (a0, .inr (9, [.int a_wares, .int a_shelves, .int a_nests, .ref a1, .ref a2, .ref a3, .ref a4, .ref a5, .ref a6, .int a_lids, .int a_tops, .ref a7, .ref a8, .ref a9, .ref a10])), (a6, .inl (cyI, 12, .inl (u.2.2.1 0)))]) := by
  refine KK.of (lv0 := [(0, .ref r0)]) (by decide) rfl (Nat.le_of_ble_eq_true rfl) ?_
  intro p e s m args below meth c A C hr hk hin
  refine j_aload_n (pc := 0) C dX5_readHabit_0 rfl 0 rfl ?_
  refine j_aload_n (pc := 1) C dX5_readHabit_1 rfl 0 rfl ?_
  refine j_get (pc := 2) (ci := 5) (v := .int r_habits) C inw_5 0 rfl rfl 5 (by decide) wd_362 rfl rfl dX5_readHabit_2 ?_
  refine j_callV (pc := 5) (As := [.int r_habits]) (rest := []) (wr := [(a6, .inl (cyI, 12, .inl a_habit))]) C (c_X5_readWare l D cyC cyI cyJ cyZ cyO r0 r1 t0 t1 a0 e0 r2 a1 a2 a3 a4 a5 a6 a7 a8 a9 a10 r_habits r_habits r_fault t_length t_next t_kind t_place t_number a_wares a_shelves a_nests a_lids a_tops r_wn t_text (by omega) (by omega) (by omega) (by omega) (by omega) (by omega) (by omega) (by omega)) wd_363 wd_306 wd_364 wd_365 wd_366 ⟨by decide, by decide, rfl⟩ rfl ⟨rfl, rfl, by decide, by decide⟩ ⟨by decide, by decide⟩ [0, 1, 2, 3, 4] [5] rfl rfl ⟨by decide, by decide, by decide⟩ 0 rfl rfl rfl (Nat.le_of_ble_eq_true rfl) dX5_readHabit_5 (fun u_1 hw_2 => ?_)
  refine j_eq (ws2 := [(a6, .inl (cyI, 12, .inl a_habit)), (r0, .inr (5, [.ref t0, .ref e0, .ref r1, .ref r2, .ref a0, .int r_habits, .int (u_1.2.1 1)])), (r1, .inl (cyJ, 12, .inr (.inl r_wn))), (t0, .inr (8, [.ref t1, .int t_length, .int (u_1.2.1 2), .int (u_1.2.1 3), .int (u_1.2.1 4), .int (u_1.2.1 5)])), (t1, .inl (cyC, 1000, .inl t_text)), (a0, .inr (9, [.int a_wares, .int a_shelves, .int a_nests, .ref a1, .ref a2, .ref a3, .ref a4, .ref a5, .ref a6, .int a_lids, .int a_tops, .ref a7, .ref a8, .ref a9, .ref a10]))]) (pc2 := 8) (lv2 := [(0, .ref r0)]) (st2 := [.int (u_1.2.1 0)]) rfl rfl rfl rfl ?_
  obtain ⟨hw_2_0, hw_2_1, hw_2_2, hw_2_3, hw_2_4⟩ := hw_2
  refine j_istore_n (pc := 8) (lv' := [(1, .int (u_1.2.1 0)), (0, .ref r0)]) C dX5_readHabit_8 rfl (by decide) rfl ?_
  refine j_iload_n (pc := 9) C dX5_readHabit_9 rfl 0 rfl ?_
  refine j_iconst (pc := 10) (v := (-1)) C dX5_readHabit_10 (by decide) ?_
  refine j_icmp_ne (pc := 11) (tgt := 16) C dX5_readHabit_11 (by decide) (fun c_3 => ?_) (fun c_3 => ?_)
  · skip
    have el_m1 : ((-1) : Int32).toInt = (-1) := rfl
    rw [i_eq] at c_3
    refine j_aload_n (pc := 16) C dX5_readHabit_16 rfl 1 rfl ?_
    refine j_dup (pc := 17) C dX5_readHabit_17 rfl ?_
    refine j_get (pc := 18) (ci := 5) (v := .int r_habits) C inw_5 1 rfl rfl 5 (by decide) wd_362 rfl rfl dX5_readHabit_18 ?_
    refine j_iconst (pc := 21) (v := 1) C dX5_readHabit_21 (by decide) ?_
    refine j_iload_n (pc := 22) C dX5_readHabit_22 rfl 0 rfl ?_
    obtain ⟨v_4, ev_4⟩ : ∃ z : Int32, 1 <<< ((u_1.2.1 0) &&& 31) = z := ⟨_, rfl⟩
    have el_1 : (1 : Int32).toInt = 1 := rfl
    have hv_4 : 1 ≤ v_4.toInt ∧ v_4.toInt ≤ 2048 := by rw [← ev_4]; exact shl1_iv 0 11 (by omega) (by omega) (by omega)
    refine j_ishl (pc := 23) (v := v_4) C dX5_readHabit_23 ev_4 ?_
    obtain ⟨v_5, ev_5⟩ : ∃ z : Int32, r_habits ||| v_4 = z := ⟨_, rfl⟩
    refine j_ior (pc := 24) (v := v_5) C dX5_readHabit_24 ev_5 ?_
    refine j_put (pc := 25) (ci := 5) (v := .int v_5) (ws' := [(a6, .inl (cyI, 12, .inl a_habit)), (r0, .inr (5, [.ref t0, .ref e0, .ref r1, .ref r2, .ref a0, .int v_5, .int (u_1.2.1 1)])), (r1, .inl (cyJ, 12, .inr (.inl r_wn))), (t0, .inr (8, [.ref t1, .int t_length, .int (u_1.2.1 2), .int (u_1.2.1 3), .int (u_1.2.1 4), .int (u_1.2.1 5)])), (t1, .inl (cyC, 1000, .inl t_text)), (a0, .inr (9, [.int a_wares, .int a_shelves, .int a_nests, .ref a1, .ref a2, .ref a3, .ref a4, .ref a5, .ref a6, .int a_lids, .int a_tops, .ref a7, .ref a8, .ref a9, .ref a10]))]) C inw_5 1 rfl rfl 5 (by decide) wd_362 rfl tyX5_ok nmX5 rfl (tyX5_ok 5 (by decide)) rfl rfl (Nat.le_of_ble_eq_true rfl) dX5_readHabit_25 rfl ?_
    refine j_aload_n (pc := 28) C dX5_readHabit_28 rfl 1 rfl ?_
    refine j_iconst (pc := 29) (v := 0) C dX5_readHabit_29 (by decide) ?_
    refine j_bipush (pc := 30) (v := 99) C dX5_readHabit_30 (by decide) ?_
    refine j_aload_n (pc := 32) C dX5_readHabit_32 rfl 1 rfl ?_
    refine j_get (pc := 33) (ci := 5) (v := .ref a0) C inw_5 1 rfl rfl 4 (by decide) wd_299 rfl rfl dX5_readHabit_33 ?_
    refine j_get (pc := 36) (ci := 9) (v := .ref a6) C inw_9 5 rfl rfl 8 (by decide) wd_367 rfl rfl dX5_readHabit_36 ?_
    refine j_iload_n (pc := 39) C dX5_readHabit_39 rfl 0 rfl ?_
    refine j_callV (pc := 40) (As := [.int 0, .int 99, .ref a6, .int (u_1.2.1 0)]) (rest := []) (wr := [(r1, .inl (cyJ, 12, .inr (.inl r_wn))), (a0, .inr (9, [.int a_wares, .int a_shelves, .int a_nests, .ref a1, .ref a2, .ref a3, .ref a4, .ref a5, .ref a6, .int a_lids, .int a_tops, .ref a7, .ref a8, .ref a9, .ref a10]))]) C (c_X5_readNumber_12 l D cyC cyI cyJ cyZ cyO r0 t0 t1 a6 e0 r1 r2 a0 0 99 (u_1.2.1 0) v_5 (u_1.2.1 1) t_length (u_1.2.1 2) (u_1.2.1 3) (u_1.2.1 4) (u_1.2.1 5) t_text a_habit (by omega) (by omega) (by omega) (by omega) (by omega) (by omega)) wd_313 wd_306 wd_314 wd_315 wd_316 ⟨by decide, by decide, rfl⟩ rfl ⟨rfl, rfl, by decide, by decide⟩ ⟨by decide, by decide⟩ [1, 3, 4, 0] [2, 5] rfl rfl ⟨by decide, by decide, by decide⟩ 1 rfl rfl rfl (Nat.le_of_ble_eq_true rfl) dX5_readHabit_40 (fun u_6 hw_7 => ?_)
    refine j_eq (ws2 := [(r1, .inl (cyJ, 12, .inr (.inl r_wn))), (a0, .inr (9, [.int a_wares, .int a_shelves, .int a_nests, .ref a1, .ref a2, .ref a3, .ref a4, .ref a5, .ref a6, .int a_lids, .int a_tops, .ref a7, .ref a8, .ref a9, .ref a10])), (r0, .inr (5, [.ref t0, .ref e0, .ref r1, .ref r2, .ref a0, .int v_5, .int (u_6.2.1 1)])), (t0, .inr (8, [.ref t1, .int t_length, .int (u_6.2.1 2), .int (u_6.2.1 3), .int (u_6.2.1 4), .int (u_6.2.1 5)])), (t1, .inl (cyC, 1000, .inl t_text)), (a6, .inl (cyI, 12, .inl (u_6.2.2.1 0)))]) (pc2 := 43) (lv2 := [(1, .int (u_1.2.1 0)), (0, .ref r0)]) (st2 := [.int (u_6.2.1 0)]) rfl rfl rfl rfl ?_
    obtain ⟨hw_7_0, hw_7_1, hw_7_2, hw_7_3, hw_7_4⟩ := hw_7
    refine j_if_eq (pc := 43) (tgt := 59) C dX5_readHabit_43 (by decide) (fun c_8 => ?_) (fun c_8 => ?_)
    · skip
      have el_0 : (0 : Int32).toInt = 0 := rfl
      rw [i_eq] at c_8
      refine j_iconst (pc := 59) (v := 0) C dX5_readHabit_59 (by decide) ?_
      have el_0 : (0 : Int32).toInt = 0 := rfl
      have el_0 : (0 : Int32).toInt = 0 := rfl
      exact j_zret (pc := 60) C hr rfl hk (fun i => [].getD i 0, fun i => [0, v_5, (u_6.2.1 1), (u_6.2.1 2), (u_6.2.1 3), (u_6.2.1 4), (u_6.2.1 5)].getD i 0, fun i => [(u_6.2.2.1 0)].getD i (fun _ => 0), fun i => [].getD i (fun _ => 0)) rfl (show (0 ≤ ((0 : Int32)).toInt ∧ ((0 : Int32)).toInt ≤ 1) ∧ (0 ≤ ((u_6.2.1 2)).toInt ∧ ((u_6.2.1 2)).toInt ≤ 1000) ∧ (0 ≤ ((u_6.2.1 3)).toInt ∧ ((u_6.2.1 3)).toInt ≤ 4) ∧ (0 ≤ ((u_6.2.1 4)).toInt ∧ ((u_6.2.1 4)).toInt ≤ 1000) ∧ (¬ ((u_6.2.1 3)).toInt = 3 ∨ ((u_6.2.1 4)).toInt ≤ 999) from ⟨by omega, by omega, by omega, by omega, by omega⟩) [2, 0, 3, 4, 1, 5] (by decide) rfl (by decide) (by decide) dX5_readHabit_60
    · skip
      have el_0 : (0 : Int32).toInt = 0 := rfl
      rw [i_eq] at c_8
      refine j_aload_n (pc := 46) C dX5_readHabit_46 rfl 1 rfl ?_
      refine j_bipush (pc := 47) (v := 59) C dX5_readHabit_47 (by decide) ?_
      refine j_callV (pc := 49) (As := [.int 59]) (rest := []) (wr := [(r1, .inl (cyJ, 12, .inr (.inl r_wn))), (a0, .inr (9, [.int a_wares, .int a_shelves, .int a_nests, .ref a1, .ref a2, .ref a3, .ref a4, .ref a5, .ref a6, .int a_lids, .int a_tops, .ref a7, .ref a8, .ref a9, .ref a10])), (a6, .inl (cyI, 12, .inl (u_6.2.2.1 0)))]) C (c_X5_readSign l D cyC cyI cyJ cyZ cyO r0 t0 t1 e0 r1 r2 a0 59 v_5 (u_6.2.1 1) t_length (u_6.2.1 2) (u_6.2.1 3) (u_6.2.1 4) (u_6.2.1 5) t_text (by omega) (by omega) (by omega) (by omega) (by omega)) wd_353 wd_306 wd_354 wd_355 wd_356 ⟨by decide, by decide, rfl⟩ rfl ⟨rfl, rfl, by decide, by decide⟩ ⟨by decide, by decide⟩ [2, 3, 4] [0, 1, 5] rfl rfl ⟨by decide, by decide, by decide⟩ 2 rfl rfl rfl (Nat.le_of_ble_eq_true rfl) dX5_readHabit_49 (fun u_9 hw_10 => ?_)
      refine j_eq (ws2 := [(r1, .inl (cyJ, 12, .inr (.inl r_wn))), (a0, .inr (9, [.int a_wares, .int a_shelves, .int a_nests, .ref a1, .ref a2, .ref a3, .ref a4, .ref a5, .ref a6, .int a_lids, .int a_tops, .ref a7, .ref a8, .ref a9, .ref a10])), (a6, .inl (cyI, 12, .inl (u_6.2.2.1 0))), (r0, .inr (5, [.ref t0, .ref e0, .ref r1, .ref r2, .ref a0, .int v_5, .int (u_9.2.1 1)])), (t0, .inr (8, [.ref t1, .int t_length, .int (u_9.2.1 2), .int (u_9.2.1 3), .int (u_9.2.1 4), .int (u_9.2.1 5)])), (t1, .inl (cyC, 1000, .inl t_text))]) (pc2 := 52) (lv2 := [(1, .int (u_1.2.1 0)), (0, .ref r0)]) (st2 := [.int (u_9.2.1 0)]) rfl rfl rfl rfl ?_
      obtain ⟨hw_10_0, hw_10_1, hw_10_2, hw_10_3, hw_10_4⟩ := hw_10
      refine j_if_eq (pc := 52) (tgt := 59) C dX5_readHabit_52 (by decide) (fun c_11 => ?_) (fun c_11 => ?_)
      · skip
        have el_0 : (0 : Int32).toInt = 0 := rfl
        rw [i_eq] at c_11
        refine j_iconst (pc := 59) (v := 0) C dX5_readHabit_59 (by decide) ?_
        have el_0 : (0 : Int32).toInt = 0 := rfl
        have el_0 : (0 : Int32).toInt = 0 := rfl
        exact j_zret (pc := 60) C hr rfl hk (fun i => [].getD i 0, fun i => [0, v_5, (u_9.2.1 1), (u_9.2.1 2), (u_9.2.1 3), (u_9.2.1 4), (u_9.2.1 5)].getD i 0, fun i => [(u_6.2.2.1 0)].getD i (fun _ => 0), fun i => [].getD i (fun _ => 0)) rfl (show (0 ≤ ((0 : Int32)).toInt ∧ ((0 : Int32)).toInt ≤ 1) ∧ (0 ≤ ((u_9.2.1 2)).toInt ∧ ((u_9.2.1 2)).toInt ≤ 1000) ∧ (0 ≤ ((u_9.2.1 3)).toInt ∧ ((u_9.2.1 3)).toInt ≤ 4) ∧ (0 ≤ ((u_9.2.1 4)).toInt ∧ ((u_9.2.1 4)).toInt ≤ 1000) ∧ (¬ ((u_9.2.1 3)).toInt = 3 ∨ ((u_9.2.1 4)).toInt ≤ 999) from ⟨by omega, by omega, by omega, by omega, by omega⟩) [3, 0, 4, 5, 1, 2] (by decide) rfl (by decide) (by decide) dX5_readHabit_60
      · skip
        have el_0 : (0 : Int32).toInt = 0 := rfl
        rw [i_eq] at c_11
        refine j_iconst (pc := 55) (v := 1) C dX5_readHabit_55 (by decide) ?_
        refine j_goto (pc := 56) (tgt := 60) C dX5_readHabit_56 (by decide) ?_
        have el_1 : (1 : Int32).toInt = 1 := rfl
        have el_1 : (1 : Int32).toInt = 1 := rfl
        exact j_zret (pc := 60) C hr rfl hk (fun i => [].getD i 0, fun i => [1, v_5, (u_9.2.1 1), (u_9.2.1 2), (u_9.2.1 3), (u_9.2.1 4), (u_9.2.1 5)].getD i 0, fun i => [(u_6.2.2.1 0)].getD i (fun _ => 0), fun i => [].getD i (fun _ => 0)) rfl (show (0 ≤ ((1 : Int32)).toInt ∧ ((1 : Int32)).toInt ≤ 1) ∧ (0 ≤ ((u_9.2.1 2)).toInt ∧ ((u_9.2.1 2)).toInt ≤ 1000) ∧ (0 ≤ ((u_9.2.1 3)).toInt ∧ ((u_9.2.1 3)).toInt ≤ 4) ∧ (0 ≤ ((u_9.2.1 4)).toInt ∧ ((u_9.2.1 4)).toInt ≤ 1000) ∧ (¬ ((u_9.2.1 3)).toInt = 3 ∨ ((u_9.2.1 4)).toInt ≤ 999) from ⟨by omega, by omega, by omega, by omega, by omega⟩) [3, 0, 4, 5, 1, 2] (by decide) rfl (by decide) (by decide) dX5_readHabit_60
  · skip
    have el_m1 : ((-1) : Int32).toInt = (-1) := rfl
    rw [i_eq] at c_3
    refine j_iconst (pc := 14) (v := 0) C dX5_readHabit_14 (by decide) ?_
    have el_0 : (0 : Int32).toInt = 0 := rfl
    have el_0 : (0 : Int32).toInt = 0 := rfl
    exact j_zret (pc := 15) C hr rfl hk (fun i => [].getD i 0, fun i => [0, r_habits, (u_1.2.1 1), (u_1.2.1 2), (u_1.2.1 3), (u_1.2.1 4), (u_1.2.1 5)].getD i 0, fun i => [a_habit].getD i (fun _ => 0), fun i => [].getD i (fun _ => 0)) rfl (show (0 ≤ ((0 : Int32)).toInt ∧ ((0 : Int32)).toInt ≤ 1) ∧ (0 ≤ ((u_1.2.1 2)).toInt ∧ ((u_1.2.1 2)).toInt ≤ 1000) ∧ (0 ≤ ((u_1.2.1 3)).toInt ∧ ((u_1.2.1 3)).toInt ≤ 4) ∧ (0 ≤ ((u_1.2.1 4)).toInt ∧ ((u_1.2.1 4)).toInt ≤ 1000) ∧ (¬ ((u_1.2.1 3)).toInt = 3 ∨ ((u_1.2.1 4)).toInt ≤ 999) from ⟨by omega, by omega, by omega, by omega, by omega⟩) [1, 2, 3, 4, 5, 0] (by decide) rfl (by decide) (by decide) dX5_readHabit_15
set_option maxHeartbeats 4000000 in
set_option maxRecDepth 100000 in
theorem c_X5_readTop (l : Launch) (D : DG) (cyC cyI cyJ cyZ cyO : ClassId) (r0 : Nat) (r1 : Nat) (t0 : Nat) (t1 : Nat) (a0 : Nat) (e0 : Nat) (r2 : Nat) (a1 : Nat) (a2 : Nat) (a3 : Nat) (a4 : Nat) (a5 : Nat) (a6 : Nat) (a7 : Nat) (a8 : Nat) (a9 : Nat) (a10 : Nat) (r_habits : Int32) (r_fault : Int32) (t_length : Int32) (t_next : Int32) (t_kind : Int32) (t_place : Int32) (t_number : Int32) (a_wares : Int32) (a_shelves : Int32) (a_nests : Int32) (a_lids : Int32) (a_tops : Int32) (r_wn : Nat → Int64) (t_text : Nat → Int32) (h_t_length : 0 ≤ (t_length).toInt ∧ (t_length).toInt ≤ 1000) (h_t_next : 0 ≤ (t_next).toInt ∧ (t_next).toInt ≤ 1000) (h_t_kind : 0 ≤ (t_kind).toInt ∧ (t_kind).toInt ≤ 4) (h_t_place : 0 ≤ (t_place).toInt ∧ (t_place).toInt ≤ 1000) (h_a_wares : 0 ≤ (a_wares).toInt ∧ (a_wares).toInt ≤ 12) (h_a_shelves : 0 ≤ (a_shelves).toInt ∧ (a_shelves).toInt ≤ 4) (h_a_nests : 0 ≤ (a_nests).toInt ∧ (a_nests).toInt ≤ 4) (ht3 : ¬ (t_kind).toInt = 3 ∨ (t_place).toInt ≤ 999) : KK l D (TY cyC cyI cyJ cyZ cyO) yX5_readTop cX5_readTop 2 (some .boolean) ({ frames := 7, cells := 0, slots := 0, locals := 152 } : Room) 0 0 [.ref r0] [(r0, .inr (5, [.ref t0, .ref e0, .ref r1, .ref r2, .ref a0, .int r_habits, .int r_fault])), (r1, .inl (cyJ, 12, .inr (.inl r_wn))), (t0, .inr (8, [.ref t1, .int t_length, .int t_next, .int t_kind, .int t_place, .int t_number])), (t1, .inl (cyC, 1000, .inl t_text)), (a0, .inr (9, [.int a_wares, .int a_shelves, .int a_nests, .ref a1, .ref a2, .ref a3, .ref a4, .ref a5, .ref a6, .int a_lids, .int a_tops, .ref a7, .ref a8, .ref a9, .ref a10]))] (fun u => some (.int (u.2.1 0))) (fun u => (0 ≤ (u.2.1 0).toInt ∧ (u.2.1 0).toInt ≤ 1) ∧ (0 ≤ (u.2.1 2).toInt ∧ (u.2.1 2).toInt ≤ 1000) ∧ (0 ≤ (u.2.1 3).toInt ∧ (u.2.1 3).toInt ≤ 4) ∧ (0 ≤ (u.2.1 4).toInt ∧ (u.2.1 4).toInt ≤ 1000) ∧ (¬ ((u.2.1 3)).toInt = 3 ∨ ((u.2.1 4)).toInt ≤ 999)) (fun u => [(r0, .inr (5, [.ref t0, .ref e0, .ref r1, .ref r2, .ref a0, .int r_habits, .int (u.2.1 1)])), (r1, .inl (cyJ, 12, .inr (.inl r_wn))), (t0, .inr (8, [.ref t1, .int t_length, .int (u.2.1 2), .int (u.2.1 3), .int (u.2.1 4), .int (u.2.1 5)])), (t1, .inl (cyC, 1000, .inl t_text)), (a0, .inr (9, [.int a_wares, .int a_shelves, .int a_nests, .ref a1, .ref a2, .ref a3, .ref a4, .ref a5, .ref a6, .int a_lids, .int (u.2.1 6), .ref a7, .ref a8, .ref a9, .ref a10]))]) := by
  refine KK.of (lv0 := [(0, .ref r0)]) (by decide) rfl (Nat.le_of_ble_eq_true rfl) ?_
  intro p e s m args below meth c A C hr hk hin
  refine j_aload_n (pc := 0) C dX5_readTop_0 rfl 0 rfl ?_
  refine j_aload_n (pc := 1) C dX5_readTop_1 rfl 0 rfl ?_
  refine j_get (pc := 2) (ci := 5) (v := .ref a0) C inw_5 0 rfl rfl 4 (by decide) wd_299 rfl rfl dX5_readTop_2 ?_
  refine j_get (pc := 5) (ci := 9) (v := .int a_tops) C inw_9 4 rfl rfl 10 (by decide) wd_368 rfl rfl dX5_readTop_5 ?_
  refine j_callV (pc := 8) (As := [.int a_tops]) (rest := []) (wr := []) C (c_X5_readWare l D cyC cyI cyJ cyZ cyO r0 r1 t0 t1 a0 e0 r2 a1 a2 a3 a4 a5 a6 a7 a8 a9 a10 a_tops r_habits r_fault t_length t_next t_kind t_place t_number a_wares a_shelves a_nests a_lids a_tops r_wn t_text (by omega) (by omega) (by omega) (by omega) (by omega) (by omega) (by omega) (by omega)) wd_363 wd_306 wd_364 wd_365 wd_366 ⟨by decide, by decide, rfl⟩ rfl ⟨rfl, rfl, by decide, by decide⟩ ⟨by decide, by decide⟩ [0, 1, 2, 3, 4] [] rfl rfl ⟨by decide, by decide, by decide⟩ 0 rfl rfl rfl (Nat.le_of_ble_eq_true rfl) dX5_readTop_8 (fun u_1 hw_2 => ?_)
  refine j_eq (ws2 := [(r0, .inr (5, [.ref t0, .ref e0, .ref r1, .ref r2, .ref a0, .int r_habits, .int (u_1.2.1 1)])), (r1, .inl (cyJ, 12, .inr (.inl r_wn))), (t0, .inr (8, [.ref t1, .int t_length, .int (u_1.2.1 2), .int (u_1.2.1 3), .int (u_1.2.1 4), .int (u_1.2.1 5)])), (t1, .inl (cyC, 1000, .inl t_text)), (a0, .inr (9, [.int a_wares, .int a_shelves, .int a_nests, .ref a1, .ref a2, .ref a3, .ref a4, .ref a5, .ref a6, .int a_lids, .int a_tops, .ref a7, .ref a8, .ref a9, .ref a10]))]) (pc2 := 11) (lv2 := [(0, .ref r0)]) (st2 := [.int (u_1.2.1 0)]) rfl rfl rfl rfl ?_
  obtain ⟨hw_2_0, hw_2_1, hw_2_2, hw_2_3, hw_2_4⟩ := hw_2
  refine j_istore_n (pc := 11) (lv' := [(1, .int (u_1.2.1 0)), (0, .ref r0)]) C dX5_readTop_11 rfl (by decide) rfl ?_
  refine j_iload_n (pc := 12) C dX5_readTop_12 rfl 0 rfl ?_
  refine j_iconst (pc := 13) (v := (-1)) C dX5_readTop_13 (by decide) ?_
  refine j_icmp_ne (pc := 14) (tgt := 19) C dX5_readTop_14 (by decide) (fun c_3 => ?_) (fun c_3 => ?_)
  · skip
    have el_m1 : ((-1) : Int32).toInt = (-1) := rfl
    rw [i_eq] at c_3
    refine j_aload_n (pc := 19) C dX5_readTop_19 rfl 1 rfl ?_
    refine j_get (pc := 20) (ci := 5) (v := .ref a0) C inw_5 0 rfl rfl 4 (by decide) wd_299 rfl rfl dX5_readTop_20 ?_
    refine j_dup (pc := 23) C dX5_readTop_23 rfl ?_
    refine j_get (pc := 24) (ci := 9) (v := .int a_tops) C inw_9 4 rfl rfl 10 (by decide) wd_368 rfl rfl dX5_readTop_24 ?_
    refine j_iconst (pc := 27) (v := 1) C dX5_readTop_27 (by decide) ?_
    refine j_iload_n (pc := 28) C dX5_readTop_28 rfl 0 rfl ?_
    obtain ⟨v_4, ev_4⟩ : ∃ z : Int32, 1 <<< ((u_1.2.1 0) &&& 31) = z := ⟨_, rfl⟩
    have el_1 : (1 : Int32).toInt = 1 := rfl
    have hv_4 : 1 ≤ v_4.toInt ∧ v_4.toInt ≤ 2048 := by rw [← ev_4]; exact shl1_iv 0 11 (by omega) (by omega) (by omega)
    refine j_ishl (pc := 29) (v := v_4) C dX5_readTop_29 ev_4 ?_
    obtain ⟨v_5, ev_5⟩ : ∃ z : Int32, a_tops ||| v_4 = z := ⟨_, rfl⟩
    refine j_ior (pc := 30) (v := v_5) C dX5_readTop_30 ev_5 ?_
    refine j_put (pc := 31) (ci := 9) (v := .int v_5) (ws' := [(r0, .inr (5, [.ref t0, .ref e0, .ref r1, .ref r2, .ref a0, .int r_habits, .int (u_1.2.1 1)])), (r1, .inl (cyJ, 12, .inr (.inl r_wn))), (t0, .inr (8, [.ref t1, .int t_length, .int (u_1.2.1 2), .int (u_1.2.1 3), .int (u_1.2.1 4), .int (u_1.2.1 5)])), (t1, .inl (cyC, 1000, .inl t_text)), (a0, .inr (9, [.int a_wares, .int a_shelves, .int a_nests, .ref a1, .ref a2, .ref a3, .ref a4, .ref a5, .ref a6, .int a_lids, .int v_5, .ref a7, .ref a8, .ref a9, .ref a10]))]) C inw_9 4 rfl rfl 10 (by decide) wd_368 rfl tyX9_ok nmX9 rfl (tyX9_ok 10 (by decide)) rfl rfl (Nat.le_of_ble_eq_true rfl) dX5_readTop_31 rfl ?_
    refine j_aload_n (pc := 34) C dX5_readTop_34 rfl 1 rfl ?_
    refine j_bipush (pc := 35) (v := 59) C dX5_readTop_35 (by decide) ?_
    refine j_callV (pc := 37) (As := [.int 59]) (rest := []) (wr := [(r1, .inl (cyJ, 12, .inr (.inl r_wn))), (a0, .inr (9, [.int a_wares, .int a_shelves, .int a_nests, .ref a1, .ref a2, .ref a3, .ref a4, .ref a5, .ref a6, .int a_lids, .int v_5, .ref a7, .ref a8, .ref a9, .ref a10]))]) C (c_X5_readSign l D cyC cyI cyJ cyZ cyO r0 t0 t1 e0 r1 r2 a0 59 r_habits (u_1.2.1 1) t_length (u_1.2.1 2) (u_1.2.1 3) (u_1.2.1 4) (u_1.2.1 5) t_text (by omega) (by omega) (by omega) (by omega) (by omega)) wd_353 wd_306 wd_354 wd_355 wd_356 ⟨by decide, by decide, rfl⟩ rfl ⟨rfl, rfl, by decide, by decide⟩ ⟨by decide, by decide⟩ [0, 2, 3] [1, 4] rfl rfl ⟨by decide, by decide, by decide⟩ 0 rfl rfl rfl (Nat.le_of_ble_eq_true rfl) dX5_readTop_37 (fun u_6 hw_7 => ?_)
    refine j_eq (ws2 := [(r1, .inl (cyJ, 12, .inr (.inl r_wn))), (a0, .inr (9, [.int a_wares, .int a_shelves, .int a_nests, .ref a1, .ref a2, .ref a3, .ref a4, .ref a5, .ref a6, .int a_lids, .int v_5, .ref a7, .ref a8, .ref a9, .ref a10])), (r0, .inr (5, [.ref t0, .ref e0, .ref r1, .ref r2, .ref a0, .int r_habits, .int (u_6.2.1 1)])), (t0, .inr (8, [.ref t1, .int t_length, .int (u_6.2.1 2), .int (u_6.2.1 3), .int (u_6.2.1 4), .int (u_6.2.1 5)])), (t1, .inl (cyC, 1000, .inl t_text))]) (pc2 := 40) (lv2 := [(1, .int (u_1.2.1 0)), (0, .ref r0)]) (st2 := [.int (u_6.2.1 0)]) rfl rfl rfl rfl ?_
    obtain ⟨hw_7_0, hw_7_1, hw_7_2, hw_7_3, hw_7_4⟩ := hw_7
    exact j_zret (pc := 40) C hr (nb_01 ⟨by omega, by omega⟩).1 hk (fun i => [].getD i 0, fun i => [(u_6.2.1 0), (u_6.2.1 1), (u_6.2.1 2), (u_6.2.1 3), (u_6.2.1 4), (u_6.2.1 5), v_5].getD i 0, fun i => [].getD i (fun _ => 0), fun i => [].getD i (fun _ => 0)) rfl (show (0 ≤ ((u_6.2.1 0)).toInt ∧ ((u_6.2.1 0)).toInt ≤ 1) ∧ (0 ≤ ((u_6.2.1 2)).toInt ∧ ((u_6.2.1 2)).toInt ≤ 1000) ∧ (0 ≤ ((u_6.2.1 3)).toInt ∧ ((u_6.2.1 3)).toInt ≤ 4) ∧ (0 ≤ ((u_6.2.1 4)).toInt ∧ ((u_6.2.1 4)).toInt ≤ 1000) ∧ (¬ ((u_6.2.1 3)).toInt = 3 ∨ ((u_6.2.1 4)).toInt ≤ 999) from ⟨by omega, by omega, by omega, by omega, by omega⟩) [2, 0, 3, 4, 1] (by decide) rfl (by decide) (by decide) dX5_readTop_40
  · skip
    have el_m1 : ((-1) : Int32).toInt = (-1) := rfl
    rw [i_eq] at c_3
    refine j_iconst (pc := 17) (v := 0) C dX5_readTop_17 (by decide) ?_
    have el_0 : (0 : Int32).toInt = 0 := rfl
    have el_0 : (0 : Int32).toInt = 0 := rfl
    exact j_zret (pc := 18) C hr rfl hk (fun i => [].getD i 0, fun i => [0, (u_1.2.1 1), (u_1.2.1 2), (u_1.2.1 3), (u_1.2.1 4), (u_1.2.1 5), a_tops].getD i 0, fun i => [].getD i (fun _ => 0), fun i => [].getD i (fun _ => 0)) rfl (show (0 ≤ ((0 : Int32)).toInt ∧ ((0 : Int32)).toInt ≤ 1) ∧ (0 ≤ ((u_1.2.1 2)).toInt ∧ ((u_1.2.1 2)).toInt ≤ 1000) ∧ (0 ≤ ((u_1.2.1 3)).toInt ∧ ((u_1.2.1 3)).toInt ≤ 4) ∧ (0 ≤ ((u_1.2.1 4)).toInt ∧ ((u_1.2.1 4)).toInt ≤ 1000) ∧ (¬ ((u_1.2.1 3)).toInt = 3 ∨ ((u_1.2.1 4)).toInt ≤ 999) from ⟨by omega, by omega, by omega, by omega, by omega⟩) [0, 1, 2, 3, 4] (by decide) rfl (by decide) (by decide) dX5_readTop_18
set_option maxHeartbeats 4000000 in
set_option maxRecDepth 100000 in
theorem c_X5_readShelf (l : Launch) (D : DG) (cyC cyI cyJ cyZ cyO : ClassId) (r0 : Nat) (r1 : Nat) (r2 : Nat) (t0 : Nat) (t1 : Nat) (a0 : Nat) (a8 : Nat) (a9 : Nat) (a10 : Nat) (e0 : Nat) (a1 : Nat) (a2 : Nat) (a3 : Nat) (a4 : Nat) (a5 : Nat) (a6 : Nat) (a7 : Nat) (r_habits : Int32) (r_fault : Int32) (t_length : Int32) (t_next : Int32) (t_kind : Int32) (t_place : Int32) (t_number : Int32) (a_wares : Int32) (a_shelves : Int32) (a_nests : Int32) (a_lids : Int32) (a_tops : Int32) (r_wn : Nat → Int64) (r_sn : Nat → Int64) (t_text : Nat → Int32) (a_height : Nat → Int32) (a_reach : Nat → Int32) (a_room : Nat → Int32) (h_t_length : 0 ≤ (t_length).toInt ∧ (t_length).toInt ≤ 1000) (h_t_next : 0 ≤ (t_next).toInt ∧ (t_next).toInt ≤ 1000) (h_t_kind : 0 ≤ (t_kind).toInt ∧ (t_kind).toInt ≤ 4) (h_t_place : 0 ≤ (t_place).toInt ∧ (t_place).toInt ≤ 1000) (h_a_wares : 0 ≤ (a_wares).toInt ∧ (a_wares).toInt ≤ 12) (h_a_shelves : 0 ≤ (a_shelves).toInt ∧ (a_shelves).toInt ≤ 4) (h_a_nests : 0 ≤ (a_nests).toInt ∧ (a_nests).toInt ≤ 4) (h_a_room : Iv 4 (0) (8) a_room) (ht3 : ¬ (t_kind).toInt = 3 ∨ (t_place).toInt ≤ 999) : KK l D (TY cyC cyI cyJ cyZ cyO) yX5_readShelf cX5_readShelf 3 (some .boolean) ({ frames := 7, cells := 0, slots := 0, locals := 162 } : Room) 0 0 [.ref r0] [(r0, .inr (5, [.ref t0, .ref e0, .ref r1, .ref r2, .ref a0, .int r_habits, .int r_fault])), (r1, .inl (cyJ, 12, .inr (.inl r_wn))), (r2, .inl (cyJ, 4, .inr (.inl r_sn))), (t0, .inr (8, [.ref t1, .int t_length, .int t_next, .int t_kind, .int t_place, .int t_number])), (t1, .inl (cyC, 1000, .inl t_text)), (a0, .inr (9, [.int a_wares, .int a_shelves, .int a_nests, .ref a1, .ref a2, .ref a3, .ref a4, .ref a5, .ref a6, .int a_lids, .int a_tops, .ref a7, .ref a8, .ref a9, .ref a10])), (a8, .inl (cyI, 4, .inl a_height)), (a9, .inl (cyI, 4, .inl a_reach)), (a10, .inl (cyI, 4, .inl a_room))] (fun u => some (.int (u.2.1 0))) (fun u => (0 ≤ (u.2.1 0).toInt ∧ (u.2.1 0).toInt ≤ 1) ∧ (0 ≤ (u.2.1 2).toInt ∧ (u.2.1 2).toInt ≤ 1000) ∧ (0 ≤ (u.2.1 3).toInt ∧ (u.2.1 3).toInt ≤ 4) ∧ (0 ≤ (u.2.1 4).toInt ∧ (u.2.1 4).toInt ≤ 1000) ∧ (0 ≤ (u.2.1 6).toInt ∧ (u.2.1 6).toInt ≤ 4) ∧ (Iv 4 (0) (8) (u.2.2.1 2)) ∧ (¬ ((u.2.1 3)).toInt = 3 ∨ ((u.2.1 4)).toInt ≤ 999)) (fun u => [(r0, .inr (5, [.ref t0, .ref e0, .ref r1, .ref r2, .ref a0, .int r_habits, .int (u.2.1 1)])), (r1, .inl (cyJ, 12, .inr (.inl r_wn))), (r2, .inl (cyJ, 4, .inr (.inl (u.2.2.2 0)))), (t0, .inr (8, [.ref t1, .int t_length, .int (u.2.1 2), .int (u.2.1 3), .int (u.2.1 4), .int (u.2.1 5)])), (t1, .inl (cyC, 1000, .inl t_text)), (a0, .inr (9, [.int a_wares, .int (u.2.1 6), .int a_nests, .ref a1, .ref a2, .ref a3, .ref a4, .ref a5, .ref a6, .int a_lids, .int a_tops, .ref a7, .ref a8, .ref a9, .ref a10])), (a8, .inl (cyI, 4, .inl (u.2.2.1 0))), (a9, .inl (cyI, 4, .inl (u.2.2.1 1))), (a10, .inl (cyI, 4, .inl (u.2.2.1 2)))]) := by
  refine KK.of (lv0 := [(0, .ref r0)]) (by decide) rfl (Nat.le_of_ble_eq_true rfl) ?_
  intro p e s m args below meth c A C hr hk hin
  refine j_aload_n (pc := 0) C dX5_readShelf_0 rfl 0 rfl ?_
  refine j_get (pc := 1) (ci := 5) (v := .ref a0) C inw_5 0 rfl rfl 4 (by decide) wd_299 rfl rfl dX5_readShelf_1 ?_
  refine j_get (pc := 4) (ci := 9) (v := .int a_shelves) C inw_9 5 rfl rfl 1 (by decide) wd_331 rfl rfl dX5_readShelf_4 ?_
  refine j_istore_n (pc := 7) (lv' := [(1, .int a_shelves), (0, .ref r0)]) C dX5_readShelf_7 rfl (by decide) rfl ?_
  refine j_iload_n (pc := 8) C dX5_readShelf_8 rfl 0 rfl ?_
  refine j_iconst (pc := 9) (v := 4) C dX5_readShelf_9 (by decide) ?_
  refine j_icmp_lt (pc := 10) (tgt := 19) C dX5_readShelf_10 (by decide) (fun c_1 => ?_) (fun c_1 => ?_)
  · skip
    have el_4 : (4 : Int32).toInt = 4 := rfl
    rw [i_lt] at c_1
    refine j_aload_n (pc := 19) C dX5_readShelf_19 rfl 1 rfl ?_
    refine j_aload_n (pc := 20) C dX5_readShelf_20 rfl 1 rfl ?_
    refine j_get (pc := 21) (ci := 5) (v := .ref r2) C inw_5 0 rfl rfl 3 (by decide) wd_330 rfl rfl dX5_readShelf_21 ?_
    refine j_iload_n (pc := 24) C dX5_readShelf_24 rfl 0 rfl ?_
    refine j_callV (pc := 25) (As := [.ref r2, .int a_shelves]) (rest := []) (wr := [(a8, .inl (cyI, 4, .inl a_height)), (a9, .inl (cyI, 4, .inl a_reach)), (a10, .inl (cyI, 4, .inl a_room))]) C (c_X5_readNewName_s l D cyC cyI cyJ cyZ cyO r0 r1 r2 t0 t1 a0 e0 a1 a2 a3 a4 a5 a6 a7 a8 a9 a10 a_shelves r_habits r_fault t_length t_next t_kind t_place t_number a_wares a_shelves a_nests a_lids a_tops r_wn r_sn t_text (by omega) (by omega) (by omega) (by omega) (by omega) (by omega) (by omega) (by omega) (by omega)) wd_369 wd_306 wd_370 wd_371 wd_372 ⟨by decide, by decide, rfl⟩ rfl ⟨rfl, rfl, by decide, by decide⟩ ⟨by decide, by decide⟩ [0, 1, 2, 3, 4, 5] [6, 7, 8] rfl rfl ⟨by decide, by decide, by decide⟩ 0 rfl rfl rfl (Nat.le_of_ble_eq_true rfl) dX5_readShelf_25 (fun u_2 hw_3 => ?_)
    refine j_eq (ws2 := [(a8, .inl (cyI, 4, .inl a_height)), (a9, .inl (cyI, 4, .inl a_reach)), (a10, .inl (cyI, 4, .inl a_room)), (r0, .inr (5, [.ref t0, .ref e0, .ref r1, .ref r2, .ref a0, .int r_habits, .int (u_2.2.1 1)])), (r1, .inl (cyJ, 12, .inr (.inl r_wn))), (r2, .inl (cyJ, 4, .inr (.inl (u_2.2.2.2 0)))), (t0, .inr (8, [.ref t1, .int t_length, .int (u_2.2.1 2), .int (u_2.2.1 3), .int (u_2.2.1 4), .int (u_2.2.1 5)])), (t1, .inl (cyC, 1000, .inl t_text)), (a0, .inr (9, [.int a_wares, .int a_shelves, .int a_nests, .ref a1, .ref a2, .ref a3, .ref a4, .ref a5, .ref a6, .int a_lids, .int a_tops, .ref a7, .ref a8, .ref a9, .ref a10]))]) (pc2 := 28) (lv2 := [(1, .int a_shelves), (0, .ref r0)]) (st2 := [.int (u_2.2.1 0)]) rfl rfl rfl rfl ?_
    obtain ⟨hw_3_0, hw_3_1, hw_3_2, hw_3_3, hw_3_4⟩ := hw_3
    refine j_if_eq (pc := 28) (tgt := 105) C dX5_readShelf_28 (by decide) (fun c_4 => ?_) (fun c_4 => ?_)
    · skip
      have el_0 : (0 : Int32).toInt = 0 := rfl
      rw [i_eq] at c_4
      refine j_iconst (pc := 105) (v := 0) C dX5_readShelf_105 (by decide) ?_
      refine j_istore_n (pc := 106) (lv' := [(2, .int 0), (1, .int a_shelves), (0, .ref r0)]) C dX5_readShelf_106 rfl (by decide) rfl ?_
      refine j_aload_n (pc := 107) C dX5_readShelf_107 rfl 2 rfl ?_
      refine j_get (pc := 108) (ci := 5) (v := .ref a0) C inw_5 3 rfl rfl 4 (by decide) wd_299 rfl rfl dX5_readShelf_108 ?_
      refine j_dup (pc := 111) C dX5_readShelf_111 rfl ?_
      refine j_get (pc := 112) (ci := 9) (v := .int a_shelves) C inw_9 8 rfl rfl 1 (by decide) wd_331 rfl rfl dX5_readShelf_112 ?_
      refine j_iload_n (pc := 115) C dX5_readShelf_115 rfl 0 rfl ?_
      refine j_if_eq_t (pc := 116) (tgt := 123) C dX5_readShelf_116 (by decide) (by decide) ?_
      refine j_iconst (pc := 123) (v := 0) C dX5_readShelf_123 (by decide) ?_
      obtain ⟨v_5, ev_5⟩ : ∃ z : Int32, a_shelves + 0 = z := ⟨_, rfl⟩
      have el_0 : (0 : Int32).toInt = 0 := rfl
      have hv_5 : v_5.toInt = a_shelves.toInt + (0 : Int32).toInt := by rw [← ev_5]; exact fb_addI (by omega) (by omega)
      refine j_iadd (pc := 124) (v := v_5) C dX5_readShelf_124 ev_5 ?_
      refine j_put (pc := 125) (ci := 9) (v := .int v_5) (ws' := [(a8, .inl (cyI, 4, .inl a_height)), (a9, .inl (cyI, 4, .inl a_reach)), (a10, .inl (cyI, 4, .inl a_room)), (r0, .inr (5, [.ref t0, .ref e0, .ref r1, .ref r2, .ref a0, .int r_habits, .int (u_2.2.1 1)])), (r1, .inl (cyJ, 12, .inr (.inl r_wn))), (r2, .inl (cyJ, 4, .inr (.inl (u_2.2.2.2 0)))), (t0, .inr (8, [.ref t1, .int t_length, .int (u_2.2.1 2), .int (u_2.2.1 3), .int (u_2.2.1 4), .int (u_2.2.1 5)])), (t1, .inl (cyC, 1000, .inl t_text)), (a0, .inr (9, [.int a_wares, .int v_5, .int a_nests, .ref a1, .ref a2, .ref a3, .ref a4, .ref a5, .ref a6, .int a_lids, .int a_tops, .ref a7, .ref a8, .ref a9, .ref a10]))]) C inw_9 8 rfl rfl 1 (by decide) wd_331 rfl tyX9_ok nmX9 rfl (tyX9_ok 1 (by decide)) rfl rfl (Nat.le_of_ble_eq_true rfl) dX5_readShelf_125 rfl ?_
      refine j_iload_n (pc := 128) C dX5_readShelf_128 rfl 0 rfl ?_
      have el_0 : (0 : Int32).toInt = 0 := rfl
      have el_0 : (0 : Int32).toInt = 0 := rfl
      exact j_zret (pc := 129) C hr rfl hk (fun i => [].getD i 0, fun i => [0, (u_2.2.1 1), (u_2.2.1 2), (u_2.2.1 3), (u_2.2.1 4), (u_2.2.1 5), v_5].getD i 0, fun i => [a_height, a_reach, a_room].getD i (fun _ => 0), fun i => [(u_2.2.2.2 0)].getD i (fun _ => 0)) rfl (show (0 ≤ ((0 : Int32)).toInt ∧ ((0 : Int32)).toInt ≤ 1) ∧ (0 ≤ ((u_2.2.1 2)).toInt ∧ ((u_2.2.1 2)).toInt ≤ 1000) ∧ (0 ≤ ((u_2.2.1 3)).toInt ∧ ((u_2.2.1 3)).toInt ≤ 4) ∧ (0 ≤ ((u_2.2.1 4)).toInt ∧ ((u_2.2.1 4)).toInt ≤ 1000) ∧ (0 ≤ (v_5).toInt ∧ (v_5).toInt ≤ 4) ∧ (Iv 4 (0) (8) a_room) ∧ (¬ ((u_2.2.1 3)).toInt = 3 ∨ ((u_2.2.1 4)).toInt ≤ 999) from ⟨by omega, by omega, by omega, by omega, by omega, h_a_room, by omega⟩) [3, 4, 5, 6, 7, 8, 0, 1, 2] (by decide) rfl (by decide) (by decide) dX5_readShelf_129
    · skip
      have el_0 : (0 : Int32).toInt = 0 := rfl
      rw [i_eq] at c_4
      refine j_aload_n (pc := 31) C dX5_readShelf_31 rfl 1 rfl ?_
      refine j_ldcS (pc := 32) (i := 13) C (by decide) rfl dX5_readShelf_32 ?_
      refine j_iconst (pc := 34) (v := 1) C dX5_readShelf_34 (by decide) ?_
      refine j_sipush (pc := 35) (v := 999) C dX5_readShelf_35 (by decide) ?_
      refine j_aload_n (pc := 38) C dX5_readShelf_38 rfl 1 rfl ?_
      refine j_get (pc := 39) (ci := 5) (v := .ref a0) C inw_5 3 rfl rfl 4 (by decide) wd_299 rfl rfl dX5_readShelf_39 ?_
      refine j_get (pc := 42) (ci := 9) (v := .ref a8) C inw_9 8 rfl rfl 12 (by decide) wd_373 rfl rfl dX5_readShelf_42 ?_
      refine j_iload_n (pc := 45) C dX5_readShelf_45 rfl 0 rfl ?_
      refine j_callV (pc := 46) (As := [.ref (D.2.1 13), .int 1, .int 999, .ref a8, .int a_shelves]) (rest := []) (wr := [(a9, .inl (cyI, 4, .inl a_reach)), (a10, .inl (cyI, 4, .inl a_room)), (r1, .inl (cyJ, 12, .inr (.inl r_wn))), (r2, .inl (cyJ, 4, .inr (.inl (u_2.2.2.2 0)))), (a0, .inr (9, [.int a_wares, .int a_shelves, .int a_nests, .ref a1, .ref a2, .ref a3, .ref a4, .ref a5, .ref a6, .int a_lids, .int a_tops, .ref a7, .ref a8, .ref a9, .ref a10]))]) C (c_X5_readAmount_4 l D cyC cyI cyJ cyZ cyO r0 t0 t1 a8 e0 r1 r2 a0 13 1 999 a_shelves r_habits (u_2.2.1 1) t_length (u_2.2.1 2) (u_2.2.1 3) (u_2.2.1 4) (u_2.2.1 5) t_text a_height (by omega) (by omega) (by omega) (by omega) (by omega) (by decide) (by omega)) wd_374 wd_306 wd_375 wd_376 wd_377 ⟨by decide, by decide, rfl⟩ rfl ⟨rfl, rfl, by decide, by decide⟩ ⟨by decide, by decide⟩ [3, 6, 7, 0] [1, 2, 4, 5, 8] rfl rfl ⟨by decide, by decide, by decide⟩ 3 rfl rfl rfl (Nat.le_of_ble_eq_true rfl) dX5_readShelf_46 (fun u_6 hw_7 => ?_)
      refine j_eq (ws2 := [(a9, .inl (cyI, 4, .inl a_reach)), (a10, .inl (cyI, 4, .inl a_room)), (r1, .inl (cyJ, 12, .inr (.inl r_wn))), (r2, .inl (cyJ, 4, .inr (.inl (u_2.2.2.2 0)))), (a0, .inr (9, [.int a_wares, .int a_shelves, .int a_nests, .ref a1, .ref a2, .ref a3, .ref a4, .ref a5, .ref a6, .int a_lids, .int a_tops, .ref a7, .ref a8, .ref a9, .ref a10])), (r0, .inr (5, [.ref t0, .ref e0, .ref r1, .ref r2, .ref a0, .int r_habits, .int (u_6.2.1 1)])), (t0, .inr (8, [.ref t1, .int t_length, .int (u_6.2.1 2), .int (u_6.2.1 3), .int (u_6.2.1 4), .int (u_6.2.1 5)])), (t1, .inl (cyC, 1000, .inl t_text)), (a8, .inl (cyI, 4, .inl (u_6.2.2.1 0)))]) (pc2 := 49) (lv2 := [(1, .int a_shelves), (0, .ref r0)]) (st2 := [.int (u_6.2.1 0)]) rfl rfl rfl rfl ?_
      obtain ⟨hw_7_0, hw_7_1, hw_7_2, hw_7_3, hw_7_4⟩ := hw_7
      refine j_if_eq (pc := 49) (tgt := 105) C dX5_readShelf_49 (by decide) (fun c_8 => ?_) (fun c_8 => ?_)
      · skip
        have el_0 : (0 : Int32).toInt = 0 := rfl
        rw [i_eq] at c_8
        refine j_iconst (pc := 105) (v := 0) C dX5_readShelf_105 (by decide) ?_
        refine j_istore_n (pc := 106) (lv' := [(2, .int 0), (1, .int a_shelves), (0, .ref r0)]) C dX5_readShelf_106 rfl (by decide) rfl ?_
        refine j_aload_n (pc := 107) C dX5_readShelf_107 rfl 2 rfl ?_
        refine j_get (pc := 108) (ci := 5) (v := .ref a0) C inw_5 5 rfl rfl 4 (by decide) wd_299 rfl rfl dX5_readShelf_108 ?_
        refine j_dup (pc := 111) C dX5_readShelf_111 rfl ?_
        refine j_get (pc := 112) (ci := 9) (v := .int a_shelves) C inw_9 4 rfl rfl 1 (by decide) wd_331 rfl rfl dX5_readShelf_112 ?_
        refine j_iload_n (pc := 115) C dX5_readShelf_115 rfl 0 rfl ?_
        refine j_if_eq_t (pc := 116) (tgt := 123) C dX5_readShelf_116 (by decide) (by decide) ?_
        refine j_iconst (pc := 123) (v := 0) C dX5_readShelf_123 (by decide) ?_
        obtain ⟨v_9, ev_9⟩ : ∃ z : Int32, a_shelves + 0 = z := ⟨_, rfl⟩
        have el_0 : (0 : Int32).toInt = 0 := rfl
        have hv_9 : v_9.toInt = a_shelves.toInt + (0 : Int32).toInt := by rw [← ev_9]; exact fb_addI (by omega) (by omega)
        refine j_iadd (pc := 124) (v := v_9) C dX5_readShelf_124 ev_9 ?_
        refine j_put (pc := 125) (ci := 9) (v := .int v_9) (ws' := [(a9, .inl (cyI, 4, .inl a_reach)), (a10, .inl (cyI, 4, .inl a_room)), (r1, .inl (cyJ, 12, .inr (.inl r_wn))), (r2, .inl (cyJ, 4, .inr (.inl (u_2.2.2.2 0)))), (a0, .inr (9, [.int a_wares, .int v_9, .int a_nests, .ref a1, .ref a2, .ref a3, .ref a4, .ref a5, .ref a6, .int a_lids, .int a_tops, .ref a7, .ref a8, .ref a9, .ref a10])), (r0, .inr (5, [.ref t0, .ref e0, .ref r1, .ref r2, .ref a0, .int r_habits, .int (u_6.2.1 1)])), (t0, .inr (8, [.ref t1, .int t_length, .int (u_6.2.1 2), .int (u_6.2.1 3), .int (u_6.2.1 4), .int (u_6.2.1 5)])), (t1, .inl (cyC, 1000, .inl t_text)), (a8, .inl (cyI, 4, .inl (u_6.2.2.1 0)))]) C inw_9 4 rfl rfl 1 (by decide) wd_331 rfl tyX9_ok nmX9 rfl (tyX9_ok 1 (by decide)) rfl rfl (Nat.le_of_ble_eq_true rfl) dX5_readShelf_125 rfl ?_
        refine j_iload_n (pc := 128) C dX5_readShelf_128 rfl 0 rfl ?_
        have el_0 : (0 : Int32).toInt = 0 := rfl
        have el_0 : (0 : Int32).toInt = 0 := rfl
        exact j_zret (pc := 129) C hr rfl hk (fun i => [].getD i 0, fun i => [0, (u_6.2.1 1), (u_6.2.1 2), (u_6.2.1 3), (u_6.2.1 4), (u_6.2.1 5), v_9].getD i 0, fun i => [(u_6.2.2.1 0), a_reach, a_room].getD i (fun _ => 0), fun i => [(u_2.2.2.2 0)].getD i (fun _ => 0)) rfl (show (0 ≤ ((0 : Int32)).toInt ∧ ((0 : Int32)).toInt ≤ 1) ∧ (0 ≤ ((u_6.2.1 2)).toInt ∧ ((u_6.2.1 2)).toInt ≤ 1000) ∧ (0 ≤ ((u_6.2.1 3)).toInt ∧ ((u_6.2.1 3)).toInt ≤ 4) ∧ (0 ≤ ((u_6.2.1 4)).toInt ∧ ((u_6.2.1 4)).toInt ≤ 1000) ∧ (0 ≤ (v_9).toInt ∧ (v_9).toInt ≤ 4) ∧ (Iv 4 (0) (8) a_room) ∧ (¬ ((u_6.2.1 3)).toInt = 3 ∨ ((u_6.2.1 4)).toInt ≤ 999) from ⟨by omega, by omega, by omega, by omega, by omega, h_a_room, by omega⟩) [5, 2, 3, 6, 7, 4, 8, 0, 1] (by decide) rfl (by decide) (by decide) dX5_readShelf_129
      · skip
        have el_0 : (0 : Int32).toInt = 0 := rfl
        rw [i_eq] at c_8
        refine j_aload_n (pc := 52) C dX5_readShelf_52 rfl 1 rfl ?_
        refine j_ldcS (pc := 53) (i := 14) C (by decide) rfl dX5_readShelf_53 ?_
        refine j_iconst (pc := 55) (v := 0) C dX5_readShelf_55 (by decide) ?_
        refine j_bipush (pc := 56) (v := 99) C dX5_readShelf_56 (by decide) ?_
        refine j_aload_n (pc := 58) C dX5_readShelf_58 rfl 1 rfl ?_
        refine j_get (pc := 59) (ci := 5) (v := .ref a0) C inw_5 5 rfl rfl 4 (by decide) wd_299 rfl rfl dX5_readShelf_59 ?_
        refine j_get (pc := 62) (ci := 9) (v := .ref a9) C inw_9 4 rfl rfl 13 (by decide) wd_378 rfl rfl dX5_readShelf_62 ?_
        refine j_iload_n (pc := 65) C dX5_readShelf_65 rfl 0 rfl ?_
        refine j_callV (pc := 66) (As := [.ref (D.2.1 14), .int 0, .int 99, .ref a9, .int a_shelves]) (rest := []) (wr := [(a10, .inl (cyI, 4, .inl a_room)), (r1, .inl (cyJ, 12, .inr (.inl r_wn))), (r2, .inl (cyJ, 4, .inr (.inl (u_2.2.2.2 0)))), (a0, .inr (9, [.int a_wares, .int a_shelves, .int a_nests, .ref a1, .ref a2, .ref a3, .ref a4, .ref a5, .ref a6, .int a_lids, .int a_tops, .ref a7, .ref a8, .ref a9, .ref a10])), (a8, .inl (cyI, 4, .inl (u_6.2.2.1 0)))]) C (c_X5_readAmount_4 l D cyC cyI cyJ cyZ cyO r0 t0 t1 a9 e0 r1 r2 a0 14 0 99 a_shelves r_habits (u_6.2.1 1) t_length (u_6.2.1 2) (u_6.2.1 3) (u_6.2.1 4) (u_6.2.1 5) t_text a_reach (by omega) (by omega) (by omega) (by omega) (by omega) (by decide) (by omega)) wd_374 wd_306 wd_375 wd_376 wd_377 ⟨by decide, by decide, rfl⟩ rfl ⟨rfl, rfl, by decide, by decide⟩ ⟨by decide, by decide⟩ [5, 6, 7, 0] [1, 2, 3, 4, 8] rfl rfl ⟨by decide, by decide, by decide⟩ 5 rfl rfl rfl (Nat.le_of_ble_eq_true rfl) dX5_readShelf_66 (fun u_10 hw_11 => ?_)
        refine j_eq (ws2 := [(a10, .inl (cyI, 4, .inl a_room)), (r1, .inl (cyJ, 12, .inr (.inl r_wn))), (r2, .inl (cyJ, 4, .inr (.inl (u_2.2.2.2 0)))), (a0, .inr (9, [.int a_wares, .int a_shelves, .int a_nests, .ref a1, .ref a2, .ref a3, .ref a4, .ref a5, .ref a6, .int a_lids, .int a_tops, .ref a7, .ref a8, .ref a9, .ref a10])), (a8, .inl (cyI, 4, .inl (u_6.2.2.1 0))), (r0, .inr (5, [.ref t0, .ref e0, .ref r1, .ref r2, .ref a0, .int r_habits, .int (u_10.2.1 1)])), (t0, .inr (8, [.ref t1, .int t_length, .int (u_10.2.1 2), .int (u_10.2.1 3), .int (u_10.2.1 4), .int (u_10.2.1 5)])), (t1, .inl (cyC, 1000, .inl t_text)), (a9, .inl (cyI, 4, .inl (u_10.2.2.1 0)))]) (pc2 := 69) (lv2 := [(1, .int a_shelves), (0, .ref r0)]) (st2 := [.int (u_10.2.1 0)]) rfl rfl rfl rfl ?_
        obtain ⟨hw_11_0, hw_11_1, hw_11_2, hw_11_3, hw_11_4⟩ := hw_11
        refine j_if_eq (pc := 69) (tgt := 105) C dX5_readShelf_69 (by decide) (fun c_12 => ?_) (fun c_12 => ?_)
        · skip
          have el_0 : (0 : Int32).toInt = 0 := rfl
          rw [i_eq] at c_12
          refine j_iconst (pc := 105) (v := 0) C dX5_readShelf_105 (by decide) ?_
          refine j_istore_n (pc := 106) (lv' := [(2, .int 0), (1, .int a_shelves), (0, .ref r0)]) C dX5_readShelf_106 rfl (by decide) rfl ?_
          refine j_aload_n (pc := 107) C dX5_readShelf_107 rfl 2 rfl ?_
          refine j_get (pc := 108) (ci := 5) (v := .ref a0) C inw_5 5 rfl rfl 4 (by decide) wd_299 rfl rfl dX5_readShelf_108 ?_
          refine j_dup (pc := 111) C dX5_readShelf_111 rfl ?_
          refine j_get (pc := 112) (ci := 9) (v := .int a_shelves) C inw_9 3 rfl rfl 1 (by decide) wd_331 rfl rfl dX5_readShelf_112 ?_
          refine j_iload_n (pc := 115) C dX5_readShelf_115 rfl 0 rfl ?_
          refine j_if_eq_t (pc := 116) (tgt := 123) C dX5_readShelf_116 (by decide) (by decide) ?_
          refine j_iconst (pc := 123) (v := 0) C dX5_readShelf_123 (by decide) ?_
          obtain ⟨v_13, ev_13⟩ : ∃ z : Int32, a_shelves + 0 = z := ⟨_, rfl⟩
          have el_0 : (0 : Int32).toInt = 0 := rfl
          have hv_13 : v_13.toInt = a_shelves.toInt + (0 : Int32).toInt := by rw [← ev_13]; exact fb_addI (by omega) (by omega)
          refine j_iadd (pc := 124) (v := v_13) C dX5_readShelf_124 ev_13 ?_
          refine j_put (pc := 125) (ci := 9) (v := .int v_13) (ws' := [(a10, .inl (cyI, 4, .inl a_room)), (r1, .inl (cyJ, 12, .inr (.inl r_wn))), (r2, .inl (cyJ, 4, .inr (.inl (u_2.2.2.2 0)))), (a0, .inr (9, [.int a_wares, .int v_13, .int a_nests, .ref a1, .ref a2, .ref a3, .ref a4, .ref a5, .ref a6, .int a_lids, .int a_tops, .ref a7, .ref a8, .ref a9, .ref a10])), (a8, .inl (cyI, 4, .inl (u_6.2.2.1 0))), (r0, .inr (5, [.ref t0, .ref e0, .ref r1, .ref r2, .ref a0, .int r_habits, .int (u_10.2.1 1)])), (t0, .inr (8, [.ref t1, .int t_length, .int (u_10.2.1 2), .int (u_10.2.1 3), .int (u_10.2.1 4), .int (u_10.2.1 5)])), (t1, .inl (cyC, 1000, .inl t_text)), (a9, .inl (cyI, 4, .inl (u_10.2.2.1 0)))]) C inw_9 3 rfl rfl 1 (by decide) wd_331 rfl tyX9_ok nmX9 rfl (tyX9_ok 1 (by decide)) rfl rfl (Nat.le_of_ble_eq_true rfl) dX5_readShelf_125 rfl ?_
          refine j_iload_n (pc := 128) C dX5_readShelf_128 rfl 0 rfl ?_
          have el_0 : (0 : Int32).toInt = 0 := rfl
          have el_0 : (0 : Int32).toInt = 0 := rfl
          exact j_zret (pc := 129) C hr rfl hk (fun i => [].getD i 0, fun i => [0, (u_10.2.1 1), (u_10.2.1 2), (u_10.2.1 3), (u_10.2.1 4), (u_10.2.1 5), v_13].getD i 0, fun i => [(u_6.2.2.1 0), (u_10.2.2.1 0), a_room].getD i (fun _ => 0), fun i => [(u_2.2.2.2 0)].getD i (fun _ => 0)) rfl (show (0 ≤ ((0 : Int32)).toInt ∧ ((0 : Int32)).toInt ≤ 1) ∧ (0 ≤ ((u_10.2.1 2)).toInt ∧ ((u_10.2.1 2)).toInt ≤ 1000) ∧ (0 ≤ ((u_10.2.1 3)).toInt ∧ ((u_10.2.1 3)).toInt ≤ 4) ∧ (0 ≤ ((u_10.2.1 4)).toInt ∧ ((u_10.2.1 4)).toInt ≤ 1000) ∧ (0 ≤ (v_13).toInt ∧ (v_13).toInt ≤ 4) ∧ (Iv 4 (0) (8) a_room) ∧ (¬ ((u_10.2.1 3)).toInt = 3 ∨ ((u_10.2.1 4)).toInt ≤ 999) from ⟨by omega, by omega, by omega, by omega, by omega, h_a_room, by omega⟩) [5, 1, 2, 6, 7, 3, 4, 8, 0] (by decide) rfl (by decide) (by decide) dX5_readShelf_129
        · skip
          have el_0 : (0 : Int32).toInt = 0 := rfl
          rw [i_eq] at c_12
          refine j_aload_n (pc := 72) C dX5_readShelf_72 rfl 1 rfl ?_
          refine j_ldcS (pc := 73) (i := 15) C (by decide) rfl dX5_readShelf_73 ?_
          refine j_iconst (pc := 75) (v := 1) C dX5_readShelf_75 (by decide) ?_
          refine j_bipush (pc := 76) (v := 8) C dX5_readShelf_76 (by decide) ?_
          refine j_aload_n (pc := 78) C dX5_readShelf_78 rfl 1 rfl ?_
          refine j_get (pc := 79) (ci := 5) (v := .ref a0) C inw_5 5 rfl rfl 4 (by decide) wd_299 rfl rfl dX5_readShelf_79 ?_
          refine j_get (pc := 82) (ci := 9) (v := .ref a10) C inw_9 3 rfl rfl 14 (by decide) wd_379 rfl rfl dX5_readShelf_82 ?_
          refine j_iload_n (pc := 85) C dX5_readShelf_85 rfl 0 rfl ?_
          refine j_callV (pc := 86) (As := [.ref (D.2.1 15), .int 1, .int 8, .ref a10, .int a_shelves]) (rest := []) (wr := [(r1, .inl (cyJ, 12, .inr (.inl r_wn))), (r2, .inl (cyJ, 4, .inr (.inl (u_2.2.2.2 0)))), (a0, .inr (9, [.int a_wares, .int a_shelves, .int a_nests, .ref a1, .ref a2, .ref a3, .ref a4, .ref a5, .ref a6, .int a_lids, .int a_tops, .ref a7, .ref a8, .ref a9, .ref a10])), (a8, .inl (cyI, 4, .inl (u_6.2.2.1 0))), (a9, .inl (cyI, 4, .inl (u_10.2.2.1 0)))]) C (c_X5_readAmount_r l D cyC cyI cyJ cyZ cyO r0 t0 t1 a10 e0 r1 r2 a0 15 a_shelves r_habits (u_10.2.1 1) t_length (u_10.2.1 2) (u_10.2.1 3) (u_10.2.1 4) (u_10.2.1 5) t_text a_room (by omega) (by omega) (by omega) (by omega) (by omega) h_a_room (by decide) (by omega)) wd_374 wd_306 wd_375 wd_376 wd_377 ⟨by decide, by decide, rfl⟩ rfl ⟨rfl, rfl, by decide, by decide⟩ ⟨by decide, by decide⟩ [5, 6, 7, 0] [1, 2, 3, 4, 8] rfl rfl ⟨by decide, by decide, by decide⟩ 5 rfl rfl rfl (Nat.le_of_ble_eq_true rfl) dX5_readShelf_86 (fun u_14 hw_15 => ?_)
          refine j_eq (ws2 := [(r1, .inl (cyJ, 12, .inr (.inl r_wn))), (r2, .inl (cyJ, 4, .inr (.inl (u_2.2.2.2 0)))), (a0, .inr (9, [.int a_wares, .int a_shelves, .int a_nests, .ref a1, .ref a2, .ref a3, .ref a4, .ref a5, .ref a6, .int a_lids, .int a_tops, .ref a7, .ref a8, .ref a9, .ref a10])), (a8, .inl (cyI, 4, .inl (u_6.2.2.1 0))), (a9, .inl (cyI, 4, .inl (u_10.2.2.1 0))), (r0, .inr (5, [.ref t0, .ref e0, .ref r1, .ref r2, .ref a0, .int r_habits, .int (u_14.2.1 1)])), (t0, .inr (8, [.ref t1, .int t_length, .int (u_14.2.1 2), .int (u_14.2.1 3), .int (u_14.2.1 4), .int (u_14.2.1 5)])), (t1, .inl (cyC, 1000, .inl t_text)), (a10, .inl (cyI, 4, .inl (u_14.2.2.1 0)))]) (pc2 := 89) (lv2 := [(1, .int a_shelves), (0, .ref r0)]) (st2 := [.int (u_14.2.1 0)]) rfl rfl rfl rfl ?_
          obtain ⟨hw_15_0, hw_15_1, hw_15_2, hw_15_3, hw_15_4, hw_15_5⟩ := hw_15
          refine j_if_eq (pc := 89) (tgt := 105) C dX5_readShelf_89 (by decide) (fun c_16 => ?_) (fun c_16 => ?_)
          · skip
            have el_0 : (0 : Int32).toInt = 0 := rfl
            rw [i_eq] at c_16
            refine j_iconst (pc := 105) (v := 0) C dX5_readShelf_105 (by decide) ?_
            refine j_istore_n (pc := 106) (lv' := [(2, .int 0), (1, .int a_shelves), (0, .ref r0)]) C dX5_readShelf_106 rfl (by decide) rfl ?_
            refine j_aload_n (pc := 107) C dX5_readShelf_107 rfl 2 rfl ?_
            refine j_get (pc := 108) (ci := 5) (v := .ref a0) C inw_5 5 rfl rfl 4 (by decide) wd_299 rfl rfl dX5_readShelf_108 ?_
            refine j_dup (pc := 111) C dX5_readShelf_111 rfl ?_
            refine j_get (pc := 112) (ci := 9) (v := .int a_shelves) C inw_9 2 rfl rfl 1 (by decide) wd_331 rfl rfl dX5_readShelf_112 ?_
            refine j_iload_n (pc := 115) C dX5_readShelf_115 rfl 0 rfl ?_
            refine j_if_eq_t (pc := 116) (tgt := 123) C dX5_readShelf_116 (by decide) (by decide) ?_
            refine j_iconst (pc := 123) (v := 0) C dX5_readShelf_123 (by decide) ?_
            obtain ⟨v_17, ev_17⟩ : ∃ z : Int32, a_shelves + 0 = z := ⟨_, rfl⟩
            have el_0 : (0 : Int32).toInt = 0 := rfl
            have hv_17 : v_17.toInt = a_shelves.toInt + (0 : Int32).toInt := by rw [← ev_17]; exact fb_addI (by omega) (by omega)
            refine j_iadd (pc := 124) (v := v_17) C dX5_readShelf_124 ev_17 ?_
            refine j_put (pc := 125) (ci := 9) (v := .int v_17) (ws' := [(r1, .inl (cyJ, 12, .inr (.inl r_wn))), (r2, .inl (cyJ, 4, .inr (.inl (u_2.2.2.2 0)))), (a0, .inr (9, [.int a_wares, .int v_17, .int a_nests, .ref a1, .ref a2, .ref a3, .ref a4, .ref a5, .ref a6, .int a_lids, .int a_tops, .ref a7, .ref a8, .ref a9, .ref a10])), (a8, .inl (cyI, 4, .inl (u_6.2.2.1 0))), (a9, .inl (cyI, 4, .inl (u_10.2.2.1 0))), (r0, .inr (5, [.ref t0, .ref e0, .ref r1, .ref r2, .ref a0, .int r_habits, .int (u_14.2.1 1)])), (t0, .inr (8, [.ref t1, .int t_length, .int (u_14.2.1 2), .int (u_14.2.1 3), .int (u_14.2.1 4), .int (u_14.2.1 5)])), (t1, .inl (cyC, 1000, .inl t_text)), (a10, .inl (cyI, 4, .inl (u_14.2.2.1 0)))]) C inw_9 2 rfl rfl 1 (by decide) wd_331 rfl tyX9_ok nmX9 rfl (tyX9_ok 1 (by decide)) rfl rfl (Nat.le_of_ble_eq_true rfl) dX5_readShelf_125 rfl ?_
            refine j_iload_n (pc := 128) C dX5_readShelf_128 rfl 0 rfl ?_
            have el_0 : (0 : Int32).toInt = 0 := rfl
            have el_0 : (0 : Int32).toInt = 0 := rfl
            exact j_zret (pc := 129) C hr rfl hk (fun i => [].getD i 0, fun i => [0, (u_14.2.1 1), (u_14.2.1 2), (u_14.2.1 3), (u_14.2.1 4), (u_14.2.1 5), v_17].getD i 0, fun i => [(u_6.2.2.1 0), (u_10.2.2.1 0), (u_14.2.2.1 0)].getD i (fun _ => 0), fun i => [(u_2.2.2.2 0)].getD i (fun _ => 0)) rfl (show (0 ≤ ((0 : Int32)).toInt ∧ ((0 : Int32)).toInt ≤ 1) ∧ (0 ≤ ((u_14.2.1 2)).toInt ∧ ((u_14.2.1 2)).toInt ≤ 1000) ∧ (0 ≤ ((u_14.2.1 3)).toInt ∧ ((u_14.2.1 3)).toInt ≤ 4) ∧ (0 ≤ ((u_14.2.1 4)).toInt ∧ ((u_14.2.1 4)).toInt ≤ 1000) ∧ (0 ≤ (v_17).toInt ∧ (v_17).toInt ≤ 4) ∧ (Iv 4 (0) (8) (u_14.2.2.1 0)) ∧ (¬ ((u_14.2.1 3)).toInt = 3 ∨ ((u_14.2.1 4)).toInt ≤ 999) from ⟨by omega, by omega, by omega, by omega, by omega, hw_15_4, by omega⟩) [5, 0, 1, 6, 7, 2, 3, 4, 8] (by decide) rfl (by decide) (by decide) dX5_readShelf_129
          · skip
            have el_0 : (0 : Int32).toInt = 0 := rfl
            rw [i_eq] at c_16
            refine j_aload_n (pc := 92) C dX5_readShelf_92 rfl 1 rfl ?_
            refine j_bipush (pc := 93) (v := 59) C dX5_readShelf_93 (by decide) ?_
            refine j_callV (pc := 95) (As := [.int 59]) (rest := []) (wr := [(r1, .inl (cyJ, 12, .inr (.inl r_wn))), (r2, .inl (cyJ, 4, .inr (.inl (u_2.2.2.2 0)))), (a0, .inr (9, [.int a_wares, .int a_shelves, .int a_nests, .ref a1, .ref a2, .ref a3, .ref a4, .ref a5, .ref a6, .int a_lids, .int a_tops, .ref a7, .ref a8, .ref a9, .ref a10])), (a8, .inl (cyI, 4, .inl (u_6.2.2.1 0))), (a9, .inl (cyI, 4, .inl (u_10.2.2.1 0))), (a10, .inl (cyI, 4, .inl (u_14.2.2.1 0)))]) C (c_X5_readSign l D cyC cyI cyJ cyZ cyO r0 t0 t1 e0 r1 r2 a0 59 r_habits (u_14.2.1 1) t_length (u_14.2.1 2) (u_14.2.1 3) (u_14.2.1 4) (u_14.2.1 5) t_text (by omega) (by omega) (by omega) (by omega) (by omega)) wd_353 wd_306 wd_354 wd_355 wd_356 ⟨by decide, by decide, rfl⟩ rfl ⟨rfl, rfl, by decide, by decide⟩ ⟨by decide, by decide⟩ [5, 6, 7] [0, 1, 2, 3, 4, 8] rfl rfl ⟨by decide, by decide, by decide⟩ 5 rfl rfl rfl (Nat.le_of_ble_eq_true rfl) dX5_readShelf_95 (fun u_18 hw_19 => ?_)
            refine j_eq (ws2 := [(r1, .inl (cyJ, 12, .inr (.inl r_wn))), (r2, .inl (cyJ, 4, .inr (.inl (u_2.2.2.2 0)))), (a0, .inr (9, [.int a_wares, .int a_shelves, .int a_nests, .ref a1, .ref a2, .ref a3, .ref a4, .ref a5, .ref a6, .int a_lids, .int a_tops, .ref a7, .ref a8, .ref a9, .ref a10])), (a8, .inl (cyI, 4, .inl (u_6.2.2.1 0))), (a9, .inl (cyI, 4, .inl (u_10.2.2.1 0))), (a10, .inl (cyI, 4, .inl (u_14.2.2.1 0))), (r0, .inr (5, [.ref t0, .ref e0, .ref r1, .ref r2, .ref a0, .int r_habits, .int (u_18.2.1 1)])), (t0, .inr (8, [.ref t1, .int t_length, .int (u_18.2.1 2), .int (u_18.2.1 3), .int (u_18.2.1 4), .int (u_18.2.1 5)])), (t1, .inl (cyC, 1000, .inl t_text))]) (pc2 := 98) (lv2 := [(1, .int a_shelves), (0, .ref r0)]) (st2 := [.int (u_18.2.1 0)]) rfl rfl rfl rfl ?_
            obtain ⟨hw_19_0, hw_19_1, hw_19_2, hw_19_3, hw_19_4⟩ := hw_19
            refine j_if_eq (pc := 98) (tgt := 105) C dX5_readShelf_98 (by decide) (fun c_20 => ?_) (fun c_20 => ?_)
            · skip
              have el_0 : (0 : Int32).toInt = 0 := rfl
              rw [i_eq] at c_20
              refine j_iconst (pc := 105) (v := 0) C dX5_readShelf_105 (by decide) ?_
              refine j_istore_n (pc := 106) (lv' := [(2, .int 0), (1, .int a_shelves), (0, .ref r0)]) C dX5_readShelf_106 rfl (by decide) rfl ?_
              refine j_aload_n (pc := 107) C dX5_readShelf_107 rfl 2 rfl ?_
              refine j_get (pc := 108) (ci := 5) (v := .ref a0) C inw_5 6 rfl rfl 4 (by decide) wd_299 rfl rfl dX5_readShelf_108 ?_
              refine j_dup (pc := 111) C dX5_readShelf_111 rfl ?_
              refine j_get (pc := 112) (ci := 9) (v := .int a_shelves) C inw_9 2 rfl rfl 1 (by decide) wd_331 rfl rfl dX5_readShelf_112 ?_
              refine j_iload_n (pc := 115) C dX5_readShelf_115 rfl 0 rfl ?_
              refine j_if_eq_t (pc := 116) (tgt := 123) C dX5_readShelf_116 (by decide) (by decide) ?_
              refine j_iconst (pc := 123) (v := 0) C dX5_readShelf_123 (by decide) ?_
              obtain ⟨v_21, ev_21⟩ : ∃ z : Int32, a_shelves + 0 = z := ⟨_, rfl⟩
              have el_0 : (0 : Int32).toInt = 0 := rfl
              have hv_21 : v_21.toInt = a_shelves.toInt + (0 : Int32).toInt := by rw [← ev_21]; exact fb_addI (by omega) (by omega)
              refine j_iadd (pc := 124) (v := v_21) C dX5_readShelf_124 ev_21 ?_
              refine j_put (pc := 125) (ci := 9) (v := .int v_21) (ws' := [(r1, .inl (cyJ, 12, .inr (.inl r_wn))), (r2, .inl (cyJ, 4, .inr (.inl (u_2.2.2.2 0)))), (a0, .inr (9, [.int a_wares, .int v_21, .int a_nests, .ref a1, .ref a2, .ref a3, .ref a4, .ref a5, .ref a6, .int a_lids, .int a_tops, .ref a7, .ref a8, .ref a9, .ref a10])), (a8, .inl (cyI, 4, .inl (u_6.2.2.1 0))), (a9, .inl (cyI, 4, .inl (u_10.2.2.1 0))), (a10, .inl (cyI, 4, .inl (u_14.2.2.1 0))), (r0, .inr (5, [.ref t0, .ref e0, .ref r1, .ref r2, .ref a0, .int r_habits, .int (u_18.2.1 1)])), (t0, .inr (8, [.ref t1, .int t_length, .int (u_18.2.1 2), .int (u_18.2.1 3), .int (u_18.2.1 4), .int (u_18.2.1 5)])), (t1, .inl (cyC, 1000, .inl t_text))]) C inw_9 2 rfl rfl 1 (by decide) wd_331 rfl tyX9_ok nmX9 rfl (tyX9_ok 1 (by decide)) rfl rfl (Nat.le_of_ble_eq_true rfl) dX5_readShelf_125 rfl ?_
              refine j_iload_n (pc := 128) C dX5_readShelf_128 rfl 0 rfl ?_
              have el_0 : (0 : Int32).toInt = 0 := rfl
              have el_0 : (0 : Int32).toInt = 0 := rfl
              exact j_zret (pc := 129) C hr rfl hk (fun i => [].getD i 0, fun i => [0, (u_18.2.1 1), (u_18.2.1 2), (u_18.2.1 3), (u_18.2.1 4), (u_18.2.1 5), v_21].getD i 0, fun i => [(u_6.2.2.1 0), (u_10.2.2.1 0), (u_14.2.2.1 0)].getD i (fun _ => 0), fun i => [(u_2.2.2.2 0)].getD i (fun _ => 0)) rfl (show (0 ≤ ((0 : Int32)).toInt ∧ ((0 : Int32)).toInt ≤ 1) ∧ (0 ≤ ((u_18.2.1 2)).toInt ∧ ((u_18.2.1 2)).toInt ≤ 1000) ∧ (0 ≤ ((u_18.2.1 3)).toInt ∧ ((u_18.2.1 3)).toInt ≤ 4) ∧ (0 ≤ ((u_18.2.1 4)).toInt ∧ ((u_18.2.1 4)).toInt ≤ 1000) ∧ (0 ≤ (v_21).toInt ∧ (v_21).toInt ≤ 4) ∧ (Iv 4 (0) (8) (u_14.2.2.1 0)) ∧ (¬ ((u_18.2.1 3)).toInt = 3 ∨ ((u_18.2.1 4)).toInt ≤ 999) from ⟨by omega, by omega, by omega, by omega, by omega, hw_15_4, by omega⟩) [6, 0, 1, 7, 8, 2, 3, 4, 5] (by decide) rfl (by decide) (by decide) dX5_readShelf_129
            · skip
              have el_0 : (0 : Int32).toInt = 0 := rfl
              rw [i_eq] at c_20
              refine j_iconst (pc := 101) (v := 1) C dX5_readShelf_101 (by decide) ?_
              refine j_goto (pc := 102) (tgt := 106) C dX5_readShelf_102 (by decide) ?_
              refine j_istore_n (pc := 106) (lv' := [(2, .int 1), (1, .int a_shelves), (0, .ref r0)]) C dX5_readShelf_106 rfl (by decide) rfl ?_
              refine j_aload_n (pc := 107) C dX5_readShelf_107 rfl 2 rfl ?_
              refine j_get (pc := 108) (ci := 5) (v := .ref a0) C inw_5 6 rfl rfl 4 (by decide) wd_299 rfl rfl dX5_readShelf_108 ?_
              refine j_dup (pc := 111) C dX5_readShelf_111 rfl ?_
              refine j_get (pc := 112) (ci := 9) (v := .int a_shelves) C inw_9 2 rfl rfl 1 (by decide) wd_331 rfl rfl dX5_readShelf_112 ?_
              refine j_iload_n (pc := 115) C dX5_readShelf_115 rfl 0 rfl ?_
              refine j_if_eq_f (pc := 116) (tgt := 123) C dX5_readShelf_116 (by decide) (by decide) ?_
              refine j_iconst (pc := 119) (v := 1) C dX5_readShelf_119 (by decide) ?_
              refine j_goto (pc := 120) (tgt := 124) C dX5_readShelf_120 (by decide) ?_
              obtain ⟨v_22, ev_22⟩ : ∃ z : Int32, a_shelves + 1 = z := ⟨_, rfl⟩
              have el_1 : (1 : Int32).toInt = 1 := rfl
              have hv_22 : v_22.toInt = a_shelves.toInt + (1 : Int32).toInt := by rw [← ev_22]; exact fb_addI (by omega) (by omega)
              refine j_iadd (pc := 124) (v := v_22) C dX5_readShelf_124 ev_22 ?_
              refine j_put (pc := 125) (ci := 9) (v := .int v_22) (ws' := [(r1, .inl (cyJ, 12, .inr (.inl r_wn))), (r2, .inl (cyJ, 4, .inr (.inl (u_2.2.2.2 0)))), (a0, .inr (9, [.int a_wares, .int v_22, .int a_nests, .ref a1, .ref a2, .ref a3, .ref a4, .ref a5, .ref a6, .int a_lids, .int a_tops, .ref a7, .ref a8, .ref a9, .ref a10])), (a8, .inl (cyI, 4, .inl (u_6.2.2.1 0))), (a9, .inl (cyI, 4, .inl (u_10.2.2.1 0))), (a10, .inl (cyI, 4, .inl (u_14.2.2.1 0))), (r0, .inr (5, [.ref t0, .ref e0, .ref r1, .ref r2, .ref a0, .int r_habits, .int (u_18.2.1 1)])), (t0, .inr (8, [.ref t1, .int t_length, .int (u_18.2.1 2), .int (u_18.2.1 3), .int (u_18.2.1 4), .int (u_18.2.1 5)])), (t1, .inl (cyC, 1000, .inl t_text))]) C inw_9 2 rfl rfl 1 (by decide) wd_331 rfl tyX9_ok nmX9 rfl (tyX9_ok 1 (by decide)) rfl rfl (Nat.le_of_ble_eq_true rfl) dX5_readShelf_125 rfl ?_
              refine j_iload_n (pc := 128) C dX5_readShelf_128 rfl 0 rfl ?_
              have el_1 : (1 : Int32).toInt = 1 := rfl
              have el_1 : (1 : Int32).toInt = 1 := rfl
              exact j_zret (pc := 129) C hr rfl hk (fun i => [].getD i 0, fun i => [1, (u_18.2.1 1), (u_18.2.1 2), (u_18.2.1 3), (u_18.2.1 4), (u_18.2.1 5), v_22].getD i 0, fun i => [(u_6.2.2.1 0), (u_10.2.2.1 0), (u_14.2.2.1 0)].getD i (fun _ => 0), fun i => [(u_2.2.2.2 0)].getD i (fun _ => 0)) rfl (show (0 ≤ ((1 : Int32)).toInt ∧ ((1 : Int32)).toInt ≤ 1) ∧ (0 ≤ ((u_18.2.1 2)).toInt ∧ ((u_18.2.1 2)).toInt ≤ 1000) ∧ (0 ≤ ((u_18.2.1 3)).toInt ∧ ((u_18.2.1 3)).toInt ≤ 4) ∧ (0 ≤ ((u_18.2.1 4)).toInt ∧ ((u_18.2.1 4)).toInt ≤ 1000) ∧ (0 ≤ (v_22).toInt ∧ (v_22).toInt ≤ 4) ∧ (Iv 4 (0) (8) (u_14.2.2.1 0)) ∧ (¬ ((u_18.2.1 3)).toInt = 3 ∨ ((u_18.2.1 4)).toInt ≤ 999) from ⟨by omega, by omega, by omega, by omega, by omega, hw_15_4, by omega⟩) [6, 0, 1, 7, 8, 2, 3, 4, 5] (by decide) rfl (by decide) (by decide) dX5_readShelf_129
  · skip
    have el_4 : (4 : Int32).toInt = 4 := rfl
    rw [i_lt] at c_1
    refine j_aload_n (pc := 13) C dX5_readShelf_13 rfl 1 rfl ?_
    refine j_iconst (pc := 14) (v := 5) C dX5_readShelf_14 (by decide) ?_
    refine j_callV (pc := 15) (As := [.int 5]) (rest := []) (wr := [(r1, .inl (cyJ, 12, .inr (.inl r_wn))), (r2, .inl (cyJ, 4, .inr (.inl r_sn))), (t1, .inl (cyC, 1000, .inl t_text)), (a0, .inr (9, [.int a_wares, .int a_shelves, .int a_nests, .ref a1, .ref a2, .ref a3, .ref a4, .ref a5, .ref a6, .int a_lids, .int a_tops, .ref a7, .ref a8, .ref a9, .ref a10])), (a8, .inl (cyI, 4, .inl a_height)), (a9, .inl (cyI, 4, .inl a_reach)), (a10, .inl (cyI, 4, .inl a_room))]) C (c_X5_wrong l D cyC cyI cyJ cyZ cyO r0 t0 e0 r1 r2 a0 t1 5 r_habits r_fault t_length t_next t_kind t_place t_number (by omega) (by omega) (by omega) (by omega)) wd_305 wd_306 wd_307 wd_308 wd_309 ⟨by decide, by decide, rfl⟩ rfl ⟨rfl, rfl, by decide, by decide⟩ ⟨by decide, by decide⟩ [0, 3] [1, 2, 4, 5, 6, 7, 8] rfl rfl ⟨by decide, by decide, by decide⟩ 0 rfl rfl rfl (Nat.le_of_ble_eq_true rfl) dX5_readShelf_15 (fun u_23 hw_24 => ?_)
    refine j_eq (ws2 := [(r1, .inl (cyJ, 12, .inr (.inl r_wn))), (r2, .inl (cyJ, 4, .inr (.inl r_sn))), (t1, .inl (cyC, 1000, .inl t_text)), (a0, .inr (9, [.int a_wares, .int a_shelves, .int a_nests, .ref a1, .ref a2, .ref a3, .ref a4, .ref a5, .ref a6, .int a_lids, .int a_tops, .ref a7, .ref a8, .ref a9, .ref a10])), (a8, .inl (cyI, 4, .inl a_height)), (a9, .inl (cyI, 4, .inl a_reach)), (a10, .inl (cyI, 4, .inl a_room)), (r0, .inr (5, [.ref t0, .ref e0, .ref r1, .ref r2, .ref a0, .int r_habits, .int (u_23.2.1 0)])), (t0, .inr (8, [.ref t1, .int t_length, .int t_next, .int t_kind, .int t_place, .int t_number]))]) (pc2 := 18) (lv2 := [(1, .int a_shelves), (0, .ref r0)]) (st2 := [.int 0]) rfl rfl rfl rfl ?_
    have el_0 : (0 : Int32).toInt = 0 := rfl
    have el_0 : (0 : Int32).toInt = 0 := rfl
    exact j_zret (pc := 18) C hr rfl hk (fun i => [].getD i 0, fun i => [0, (u_23.2.1 0), t_next, t_kind, t_place, t_number, a_shelves].getD i 0, fun i => [a_height, a_reach, a_room].getD i (fun _ => 0), fun i => [r_sn].getD i (fun _ => 0)) rfl (show (0 ≤ ((0 : Int32)).toInt ∧ ((0 : Int32)).toInt ≤ 1) ∧ (0 ≤ (t_next).toInt ∧ (t_next).toInt ≤ 1000) ∧ (0 ≤ (t_kind).toInt ∧ (t_kind).toInt ≤ 4) ∧ (0 ≤ (t_place).toInt ∧ (t_place).toInt ≤ 1000) ∧ (0 ≤ (a_shelves).toInt ∧ (a_shelves).toInt ≤ 4) ∧ (Iv 4 (0) (8) a_room) ∧ (¬ (t_kind).toInt = 3 ∨ (t_place).toInt ≤ 999) from ⟨by omega, by omega, by omega, by omega, by omega, h_a_room, by omega⟩) [7, 0, 1, 8, 2, 3, 4, 5, 6] (by decide) rfl (by decide) (by decide) dX5_readShelf_18
set_option maxHeartbeats 4000000 in
set_option maxRecDepth 100000 in
theorem c_X5_readLid (l : Launch) (D : DG) (cyC cyI cyJ cyZ cyO : ClassId) (r0 : Nat) (r1 : Nat) (r2 : Nat) (t0 : Nat) (t1 : Nat) (a0 : Nat) (a1 : Nat) (a2 : Nat) (a3 : Nat) (a4 : Nat) (a5 : Nat) (e0 : Nat) (a6 : Nat) (a7 : Nat) (a8 : Nat) (a9 : Nat) (a10 : Nat) (r_habits : Int32) (r_fault : Int32) (t_length : Int32) (t_next : Int32) (t_kind : Int32) (t_place : Int32) (t_number : Int32) (a_wares : Int32) (a_shelves : Int32) (a_nests : Int32) (a_lids : Int32) (a_tops : Int32) (r_wn : Nat → Int64) (r_sn : Nat → Int64) (t_text : Nat → Int32) (a_wide : Nat → Int32) (a_deep : Nat → Int32) (a_weight : Nat → Int32) (a_bears : Nat → Int32) (a_breaks : Nat → Int32) (h_t_length : 0 ≤ (t_length).toInt ∧ (t_length).toInt ≤ 1000) (h_t_next : 0 ≤ (t_next).toInt ∧ (t_next).toInt ≤ 1000) (h_t_kind : 0 ≤ (t_kind).toInt ∧ (t_kind).toInt ≤ 4) (h_t_place : 0 ≤ (t_place).toInt ∧ (t_place).toInt ≤ 1000) (h_a_wares : 0 ≤ (a_wares).toInt ∧ (a_wares).toInt ≤ 12) (h_a_shelves : 0 ≤ (a_shelves).toInt ∧ (a_shelves).toInt ≤ 4) (h_a_nests : 0 ≤ (a_nests).toInt ∧ (a_nests).toInt ≤ 4) (ht3 : ¬ (t_kind).toInt = 3 ∨ (t_place).toInt ≤ 999) : KK l D (TY cyC cyI cyJ cyZ cyO) yX5_readLid cX5_readLid 3 (some .boolean) ({ frames := 7, cells := 0, slots := 0, locals := 162 } : Room) 0 0 [.ref r0] [(r0, .inr (5, [.ref t0, .ref e0, .ref r1, .ref r2, .ref a0, .int r_habits, .int r_fault])), (r1, .inl (cyJ, 12, .inr (.inl r_wn))), (r2, .inl (cyJ, 4, .inr (.inl r_sn))), (t0, .inr (8, [.ref t1, .int t_length, .int t_next, .int t_kind, .int t_place, .int t_number])), (t1, .inl (cyC, 1000, .inl t_text)), (a0, .inr (9, [.int a_wares, .int a_shelves, .int a_nests, .ref a1, .ref a2, .ref a3, .ref a4, .ref a5, .ref a6, .int a_lids, .int a_tops, .ref a7, .ref a8, .ref a9, .ref a10])), (a1, .inl (cyI, 12, .inl a_wide)), (a2, .inl (cyI, 12, .inl a_deep)), (a3, .inl (cyI, 12, .inl a_weight)), (a4, .inl (cyI, 12, .inl a_bears)), (a5, .inl (cyI, 12, .inl a_breaks))] (fun u => some (.int (u.2.1 0))) (fun u => (0 ≤ (u.2.1 0).toInt ∧ (u.2.1 0).toInt ≤ 1) ∧ (0 ≤ (u.2.1 2).toInt ∧ (u.2.1 2).toInt ≤ 1000) ∧ (0 ≤ (u.2.1 3).toInt ∧ (u.2.1 3).toInt ≤ 4) ∧ (0 ≤ (u.2.1 4).toInt ∧ (u.2.1 4).toInt ≤ 1000) ∧ (0 ≤ (u.2.1 6).toInt ∧ (u.2.1 6).toInt ≤ 12) ∧ (¬ ((u.2.1 3)).toInt = 3 ∨ ((u.2.1 4)).toInt ≤ 999)) (fun u => [(r0, .inr (5, [.ref t0, .ref e0, .ref r1, .ref r2, .ref a0, .int r_habits, .int (u.2.1 1)])), (r1, .inl (cyJ, 12, .inr (.inl (u.2.2.2 0)))), (r2, .inl (cyJ, 4, .inr (.inl r_sn))), (t0, .inr (8, [.ref t1, .int t_length, .int (u.2.1 2), .int (u.2.1 3), .int (u.2.1 4), .int (u.2.1 5)])), (t1, .inl (cyC, 1000, .inl t_text)), (a0, .inr (9, [.int (u.2.1 6), .int a_shelves, .int a_nests, .ref a1, .ref a2, .ref a3, .ref a4, .ref a5, .ref a6, .int (u.2.1 7), .int a_tops, .ref a7, .ref a8, .ref a9, .ref a10])), (a1, .inl (cyI, 12, .inl (u.2.2.1 0))), (a2, .inl (cyI, 12, .inl (u.2.2.1 1))), (a3, .inl (cyI, 12, .inl (u.2.2.1 2))), (a4, .inl (cyI, 12, .inl (u.2.2.1 3))), (a5, .inl (cyI, 12, .inl (u.2.2.1 4)))]) := by
  refine KK.of (lv0 := [(0, .ref r0)]) (by decide) rfl (Nat.le_of_ble_eq_true rfl) ?_
  intro p e s m args below meth c A C hr hk hin
  refine j_aload_n (pc := 0) C dX5_readLid_0 rfl 0 rfl ?_
  refine j_get (pc := 1) (ci := 5) (v := .ref a0) C inw_5 0 rfl rfl 4 (by decide) wd_299 rfl rfl dX5_readLid_1 ?_
  refine j_get (pc := 4) (ci := 9) (v := .int a_wares) C inw_9 5 rfl rfl 0 (by decide) wd_326 rfl rfl dX5_readLid_4 ?_
  refine j_istore_n (pc := 7) (lv' := [(1, .int a_wares), (0, .ref r0)]) C dX5_readLid_7 rfl (by decide) rfl ?_
  refine j_iload_n (pc := 8) C dX5_readLid_8 rfl 0 rfl ?_
  refine j_bipush (pc := 9) (v := 12) C dX5_readLid_9 (by decide) ?_
  refine j_icmp_lt (pc := 11) (tgt := 20) C dX5_readLid_11 (by decide) (fun c_1 => ?_) (fun c_1 => ?_)
  · skip
    have el_12 : (12 : Int32).toInt = 12 := rfl
    rw [i_lt] at c_1
    refine j_aload_n (pc := 20) C dX5_readLid_20 rfl 1 rfl ?_
    refine j_aload_n (pc := 21) C dX5_readLid_21 rfl 1 rfl ?_
    refine j_get (pc := 22) (ci := 5) (v := .ref r1) C inw_5 0 rfl rfl 2 (by decide) wd_325 rfl rfl dX5_readLid_22 ?_
    refine j_iload_n (pc := 25) C dX5_readLid_25 rfl 0 rfl ?_
    refine j_callV (pc := 26) (As := [.ref r1, .int a_wares]) (rest := []) (wr := [(a1, .inl (cyI, 12, .inl a_wide)), (a2, .inl (cyI, 12, .inl a_deep)), (a3, .inl (cyI, 12, .inl a_weight)), (a4, .inl (cyI, 12, .inl a_bears)), (a5, .inl (cyI, 12, .inl a_breaks))]) C (c_X5_readNewName_w l D cyC cyI cyJ cyZ cyO r0 r1 r2 t0 t1 a0 e0 a1 a2 a3 a4 a5 a6 a7 a8 a9 a10 a_wares r_habits r_fault t_length t_next t_kind t_place t_number a_wares a_shelves a_nests a_lids a_tops r_wn r_sn t_text (by omega) (by omega) (by omega) (by omega) (by omega) (by omega) (by omega) (by omega) (by omega)) wd_369 wd_306 wd_370 wd_371 wd_372 ⟨by decide, by decide, rfl⟩ rfl ⟨rfl, rfl, by decide, by decide⟩ ⟨by decide, by decide⟩ [0, 1, 2, 3, 4, 5] [6, 7, 8, 9, 10] rfl rfl ⟨by decide, by decide, by decide⟩ 0 rfl rfl rfl (Nat.le_of_ble_eq_true rfl) dX5_readLid_26 (fun u_2 hw_3 => ?_)
    refine j_eq (ws2 := [(a1, .inl (cyI, 12, .inl a_wide)), (a2, .inl (cyI, 12, .inl a_deep)), (a3, .inl (cyI, 12, .inl a_weight)), (a4, .inl (cyI, 12, .inl a_bears)), (a5, .inl (cyI, 12, .inl a_breaks)), (r0, .inr (5, [.ref t0, .ref e0, .ref r1, .ref r2, .ref a0, .int r_habits, .int (u_2.2.1 1)])), (r1, .inl (cyJ, 12, .inr (.inl (u_2.2.2.2 0)))), (r2, .inl (cyJ, 4, .inr (.inl r_sn))), (t0, .inr (8, [.ref t1, .int t_length, .int (u_2.2.1 2), .int (u_2.2.1 3), .int (u_2.2.1 4), .int (u_2.2.1 5)])), (t1, .inl (cyC, 1000, .inl t_text)), (a0, .inr (9, [.int a_wares, .int a_shelves, .int a_nests, .ref a1, .ref a2, .ref a3, .ref a4, .ref a5, .ref a6, .int a_lids, .int a_tops, .ref a7, .ref a8, .ref a9, .ref a10]))]) (pc2 := 29) (lv2 := [(1, .int a_wares), (0, .ref r0)]) (st2 := [.int (u_2.2.1 0)]) rfl rfl rfl rfl ?_
    obtain ⟨hw_3_0, hw_3_1, hw_3_2, hw_3_3, hw_3_4⟩ := hw_3
    refine j_if_eq (pc := 29) (tgt := 105) C dX5_readLid_29 (by decide) (fun c_4 => ?_) (fun c_4 => ?_)
    · skip
      have el_0 : (0 : Int32).toInt = 0 := rfl
      rw [i_eq] at c_4
      refine j_iconst (pc := 105) (v := 0) C dX5_readLid_105 (by decide) ?_
      refine j_istore_n (pc := 106) (lv' := [(2, .int 0), (1, .int a_wares), (0, .ref r0)]) C dX5_readLid_106 rfl (by decide) rfl ?_
      refine j_aload_n (pc := 107) C dX5_readLid_107 rfl 2 rfl ?_
      refine j_get (pc := 108) (ci := 5) (v := .ref a0) C inw_5 5 rfl rfl 4 (by decide) wd_299 rfl rfl dX5_readLid_108 ?_
      refine j_get (pc := 111) (ci := 9) (v := .ref a2) C inw_9 10 rfl rfl 4 (by decide) wd_380 rfl rfl dX5_readLid_111 ?_
      refine j_iload_n (pc := 114) C dX5_readLid_114 rfl 1 rfl ?_
      refine j_iconst (pc := 115) (v := 1) C dX5_readLid_115 (by decide) ?_
      obtain ⟨f_5, ef_5⟩ : ∃ z, z = upd a_deep (a_wares).toInt.toNat 1 := ⟨_, rfl⟩
      refine j_iast (pc := 116) (k := (a_wares).toInt.toNat) (ws' := [(a1, .inl (cyI, 12, .inl a_wide)), (a2, .inl (cyI, 12, .inl f_5)), (a3, .inl (cyI, 12, .inl a_weight)), (a4, .inl (cyI, 12, .inl a_bears)), (a5, .inl (cyI, 12, .inl a_breaks)), (r0, .inr (5, [.ref t0, .ref e0, .ref r1, .ref r2, .ref a0, .int r_habits, .int (u_2.2.1 1)])), (r1, .inl (cyJ, 12, .inr (.inl (u_2.2.2.2 0)))), (r2, .inl (cyJ, 4, .inr (.inl r_sn))), (t0, .inr (8, [.ref t1, .int t_length, .int (u_2.2.1 2), .int (u_2.2.1 3), .int (u_2.2.1 4), .int (u_2.2.1 5)])), (t1, .inl (cyC, 1000, .inl t_text)), (a0, .inr (9, [.int a_wares, .int a_shelves, .int a_nests, .ref a1, .ref a2, .ref a3, .ref a4, .ref a5, .ref a6, .int a_lids, .int a_tops, .ref a7, .ref a8, .ref a9, .ref a10]))]) C 1 1 rfl rfl (i_nn (by omega)) rfl (i_lt_n (by omega) (by omega)) dX5_readLid_116 (by rw [ef_5]; rfl) ?_
      refine j_aload_n (pc := 117) C dX5_readLid_117 rfl 2 rfl ?_
      refine j_get (pc := 118) (ci := 5) (v := .ref a0) C inw_5 5 rfl rfl 4 (by decide) wd_299 rfl rfl dX5_readLid_118 ?_
      refine j_get (pc := 121) (ci := 9) (v := .ref a4) C inw_9 10 rfl rfl 6 (by decide) wd_381 rfl rfl dX5_readLid_121 ?_
      refine j_iload_n (pc := 124) C dX5_readLid_124 rfl 1 rfl ?_
      refine j_iconst (pc := 125) (v := 0) C dX5_readLid_125 (by decide) ?_
      obtain ⟨f_6, ef_6⟩ : ∃ z, z = upd a_bears (a_wares).toInt.toNat 0 := ⟨_, rfl⟩
      refine j_iast (pc := 126) (k := (a_wares).toInt.toNat) (ws' := [(a1, .inl (cyI, 12, .inl a_wide)), (a2, .inl (cyI, 12, .inl f_5)), (a3, .inl (cyI, 12, .inl a_weight)), (a4, .inl (cyI, 12, .inl f_6)), (a5, .inl (cyI, 12, .inl a_breaks)), (r0, .inr (5, [.ref t0, .ref e0, .ref r1, .ref r2, .ref a0, .int r_habits, .int (u_2.2.1 1)])), (r1, .inl (cyJ, 12, .inr (.inl (u_2.2.2.2 0)))), (r2, .inl (cyJ, 4, .inr (.inl r_sn))), (t0, .inr (8, [.ref t1, .int t_length, .int (u_2.2.1 2), .int (u_2.2.1 3), .int (u_2.2.1 4), .int (u_2.2.1 5)])), (t1, .inl (cyC, 1000, .inl t_text)), (a0, .inr (9, [.int a_wares, .int a_shelves, .int a_nests, .ref a1, .ref a2, .ref a3, .ref a4, .ref a5, .ref a6, .int a_lids, .int a_tops, .ref a7, .ref a8, .ref a9, .ref a10]))]) C 3 1 rfl rfl (i_nn (by omega)) rfl (i_lt_n (by omega) (by omega)) dX5_readLid_126 (by rw [ef_6]; rfl) ?_
      refine j_aload_n (pc := 127) C dX5_readLid_127 rfl 2 rfl ?_
      refine j_get (pc := 128) (ci := 5) (v := .ref a0) C inw_5 5 rfl rfl 4 (by decide) wd_299 rfl rfl dX5_readLid_128 ?_
      refine j_dup (pc := 131) C dX5_readLid_131 rfl ?_
      refine j_get (pc := 132) (ci := 9) (v := .int a_lids) C inw_9 10 rfl rfl 9 (by decide) wd_382 rfl rfl dX5_readLid_132 ?_
      refine j_iconst (pc := 135) (v := 1) C dX5_readLid_135 (by decide) ?_
      refine j_iload_n (pc := 136) C dX5_readLid_136 rfl 1 rfl ?_
      obtain ⟨v_7, ev_7⟩ : ∃ z : Int32, 1 <<< (a_wares &&& 31) = z := ⟨_, rfl⟩
      have el_1 : (1 : Int32).toInt = 1 := rfl
      have hv_7 : 1 ≤ v_7.toInt ∧ v_7.toInt ≤ 2048 := by rw [← ev_7]; exact shl1_iv 0 11 (by omega) (by omega) (by omega)
      refine j_ishl (pc := 137) (v := v_7) C dX5_readLid_137 ev_7 ?_
      obtain ⟨v_8, ev_8⟩ : ∃ z : Int32, a_lids ||| v_7 = z := ⟨_, rfl⟩
      refine j_ior (pc := 138) (v := v_8) C dX5_readLid_138 ev_8 ?_
      refine j_put (pc := 139) (ci := 9) (v := .int v_8) (ws' := [(a1, .inl (cyI, 12, .inl a_wide)), (a2, .inl (cyI, 12, .inl f_5)), (a3, .inl (cyI, 12, .inl a_weight)), (a4, .inl (cyI, 12, .inl f_6)), (a5, .inl (cyI, 12, .inl a_breaks)), (r0, .inr (5, [.ref t0, .ref e0, .ref r1, .ref r2, .ref a0, .int r_habits, .int (u_2.2.1 1)])), (r1, .inl (cyJ, 12, .inr (.inl (u_2.2.2.2 0)))), (r2, .inl (cyJ, 4, .inr (.inl r_sn))), (t0, .inr (8, [.ref t1, .int t_length, .int (u_2.2.1 2), .int (u_2.2.1 3), .int (u_2.2.1 4), .int (u_2.2.1 5)])), (t1, .inl (cyC, 1000, .inl t_text)), (a0, .inr (9, [.int a_wares, .int a_shelves, .int a_nests, .ref a1, .ref a2, .ref a3, .ref a4, .ref a5, .ref a6, .int v_8, .int a_tops, .ref a7, .ref a8, .ref a9, .ref a10]))]) C inw_9 10 rfl rfl 9 (by decide) wd_382 rfl tyX9_ok nmX9 rfl (tyX9_ok 9 (by decide)) rfl rfl (Nat.le_of_ble_eq_true rfl) dX5_readLid_139 rfl ?_
      refine j_aload_n (pc := 142) C dX5_readLid_142 rfl 2 rfl ?_
      refine j_get (pc := 143) (ci := 5) (v := .ref a0) C inw_5 5 rfl rfl 4 (by decide) wd_299 rfl rfl dX5_readLid_143 ?_
      refine j_dup (pc := 146) C dX5_readLid_146 rfl ?_
      refine j_get (pc := 147) (ci := 9) (v := .int a_wares) C inw_9 10 rfl rfl 0 (by decide) wd_326 rfl rfl dX5_readLid_147 ?_
      refine j_iload_n (pc := 150) C dX5_readLid_150 rfl 0 rfl ?_
      refine j_if_eq_t (pc := 151) (tgt := 158) C dX5_readLid_151 (by decide) (by decide) ?_
      refine j_iconst (pc := 158) (v := 0) C dX5_readLid_158 (by decide) ?_
      obtain ⟨v_9, ev_9⟩ : ∃ z : Int32, a_wares + 0 = z := ⟨_, rfl⟩
      have el_0 : (0 : Int32).toInt = 0 := rfl
      have hv_9 : v_9.toInt = a_wares.toInt + (0 : Int32).toInt := by rw [← ev_9]; exact fb_addI (by omega) (by omega)
      refine j_iadd (pc := 159) (v := v_9) C dX5_readLid_159 ev_9 ?_
      refine j_put (pc := 160) (ci := 9) (v := .int v_9) (ws' := [(a1, .inl (cyI, 12, .inl a_wide)), (a2, .inl (cyI, 12, .inl f_5)), (a3, .inl (cyI, 12, .inl a_weight)), (a4, .inl (cyI, 12, .inl f_6)), (a5, .inl (cyI, 12, .inl a_breaks)), (r0, .inr (5, [.ref t0, .ref e0, .ref r1, .ref r2, .ref a0, .int r_habits, .int (u_2.2.1 1)])), (r1, .inl (cyJ, 12, .inr (.inl (u_2.2.2.2 0)))), (r2, .inl (cyJ, 4, .inr (.inl r_sn))), (t0, .inr (8, [.ref t1, .int t_length, .int (u_2.2.1 2), .int (u_2.2.1 3), .int (u_2.2.1 4), .int (u_2.2.1 5)])), (t1, .inl (cyC, 1000, .inl t_text)), (a0, .inr (9, [.int v_9, .int a_shelves, .int a_nests, .ref a1, .ref a2, .ref a3, .ref a4, .ref a5, .ref a6, .int v_8, .int a_tops, .ref a7, .ref a8, .ref a9, .ref a10]))]) C inw_9 10 rfl rfl 0 (by decide) wd_326 rfl tyX9_ok nmX9 rfl (tyX9_ok 0 (by decide)) rfl rfl (Nat.le_of_ble_eq_true rfl) dX5_readLid_160 rfl ?_
      refine j_iload_n (pc := 163) C dX5_readLid_163 rfl 0 rfl ?_
      have el_0 : (0 : Int32).toInt = 0 := rfl
      have el_0 : (0 : Int32).toInt = 0 := rfl
      exact j_zret (pc := 164) C hr rfl hk (fun i => [].getD i 0, fun i => [0, (u_2.2.1 1), (u_2.2.1 2), (u_2.2.1 3), (u_2.2.1 4), (u_2.2.1 5), v_9, v_8].getD i 0, fun i => [a_wide, f_5, a_weight, f_6, a_breaks].getD i (fun _ => 0), fun i => [(u_2.2.2.2 0)].getD i (fun _ => 0)) rfl (show (0 ≤ ((0 : Int32)).toInt ∧ ((0 : Int32)).toInt ≤ 1) ∧ (0 ≤ ((u_2.2.1 2)).toInt ∧ ((u_2.2.1 2)).toInt ≤ 1000) ∧ (0 ≤ ((u_2.2.1 3)).toInt ∧ ((u_2.2.1 3)).toInt ≤ 4) ∧ (0 ≤ ((u_2.2.1 4)).toInt ∧ ((u_2.2.1 4)).toInt ≤ 1000) ∧ (0 ≤ (v_9).toInt ∧ (v_9).toInt ≤ 12) ∧ (¬ ((u_2.2.1 3)).toInt = 3 ∨ ((u_2.2.1 4)).toInt ≤ 999) from ⟨by omega, by omega, by omega, by omega, by omega, by omega⟩) [5, 6, 7, 8, 9, 10, 0, 1, 2, 3, 4] (by decide) rfl (by decide) (by decide) dX5_readLid_164
    · skip
      have el_0 : (0 : Int32).toInt = 0 := rfl
      rw [i_eq] at c_4
      refine j_aload_n (pc := 32) C dX5_readLid_32 rfl 1 rfl ?_
      refine j_ldcS (pc := 33) (i := 8) C (by decide) rfl dX5_readLid_33 ?_
      refine j_iconst (pc := 35) (v := 1) C dX5_readLid_35 (by decide) ?_
      refine j_bipush (pc := 36) (v := 99) C dX5_readLid_36 (by decide) ?_
      refine j_aload_n (pc := 38) C dX5_readLid_38 rfl 1 rfl ?_
      refine j_get (pc := 39) (ci := 5) (v := .ref a0) C inw_5 5 rfl rfl 4 (by decide) wd_299 rfl rfl dX5_readLid_39 ?_
      refine j_get (pc := 42) (ci := 9) (v := .ref a1) C inw_9 10 rfl rfl 3 (by decide) wd_383 rfl rfl dX5_readLid_42 ?_
      refine j_iload_n (pc := 45) C dX5_readLid_45 rfl 0 rfl ?_
      refine j_callV (pc := 46) (As := [.ref (D.2.1 8), .int 1, .int 99, .ref a1, .int a_wares]) (rest := []) (wr := [(a2, .inl (cyI, 12, .inl a_deep)), (a3, .inl (cyI, 12, .inl a_weight)), (a4, .inl (cyI, 12, .inl a_bears)), (a5, .inl (cyI, 12, .inl a_breaks)), (r1, .inl (cyJ, 12, .inr (.inl (u_2.2.2.2 0)))), (r2, .inl (cyJ, 4, .inr (.inl r_sn))), (a0, .inr (9, [.int a_wares, .int a_shelves, .int a_nests, .ref a1, .ref a2, .ref a3, .ref a4, .ref a5, .ref a6, .int a_lids, .int a_tops, .ref a7, .ref a8, .ref a9, .ref a10]))]) C (c_X5_readAmount_12 l D cyC cyI cyJ cyZ cyO r0 t0 t1 a1 e0 r1 r2 a0 8 1 99 a_wares r_habits (u_2.2.1 1) t_length (u_2.2.1 2) (u_2.2.1 3) (u_2.2.1 4) (u_2.2.1 5) t_text a_wide (by omega) (by omega) (by omega) (by omega) (by omega) (by decide) (by omega)) wd_374 wd_306 wd_375 wd_376 wd_377 ⟨by decide, by decide, rfl⟩ rfl ⟨rfl, rfl, by decide, by decide⟩ ⟨by decide, by decide⟩ [5, 8, 9, 0] [1, 2, 3, 4, 6, 7, 10] rfl rfl ⟨by decide, by decide, by decide⟩ 5 rfl rfl rfl (Nat.le_of_ble_eq_true rfl) dX5_readLid_46 (fun u_10 hw_11 => ?_)
      refine j_eq (ws2 := [(a2, .inl (cyI, 12, .inl a_deep)), (a3, .inl (cyI, 12, .inl a_weight)), (a4, .inl (cyI, 12, .inl a_bears)), (a5, .inl (cyI, 12, .inl a_breaks)), (r1, .inl (cyJ, 12, .inr (.inl (u_2.2.2.2 0)))), (r2, .inl (cyJ, 4, .inr (.inl r_sn))), (a0, .inr (9, [.int a_wares, .int a_shelves, .int a_nests, .ref a1, .ref a2, .ref a3, .ref a4, .ref a5, .ref a6, .int a_lids, .int a_tops, .ref a7, .ref a8, .ref a9, .ref a10])), (r0, .inr (5, [.ref t0, .ref e0, .ref r1, .ref r2, .ref a0, .int r_habits, .int (u_10.2.1 1)])), (t0, .inr (8, [.ref t1, .int t_length, .int (u_10.2.1 2), .int (u_10.2.1 3), .int (u_10.2.1 4), .int (u_10.2.1 5)])), (t1, .inl (cyC, 1000, .inl t_text)), (a1, .inl (cyI, 12, .inl (u_10.2.2.1 0)))]) (pc2 := 49) (lv2 := [(1, .int a_wares), (0, .ref r0)]) (st2 := [.int (u_10.2.1 0)]) rfl rfl rfl rfl ?_
      obtain ⟨hw_11_0, hw_11_1, hw_11_2, hw_11_3, hw_11_4⟩ := hw_11
      refine j_if_eq (pc := 49) (tgt := 105) C dX5_readLid_49 (by decide) (fun c_12 => ?_) (fun c_12 => ?_)
      · skip
        have el_0 : (0 : Int32).toInt = 0 := rfl
        rw [i_eq] at c_12
        refine j_iconst (pc := 105) (v := 0) C dX5_readLid_105 (by decide) ?_
        refine j_istore_n (pc := 106) (lv' := [(2, .int 0), (1, .int a_wares), (0, .ref r0)]) C dX5_readLid_106 rfl (by decide) rfl ?_
        refine j_aload_n (pc := 107) C dX5_readLid_107 rfl 2 rfl ?_
        refine j_get (pc := 108) (ci := 5) (v := .ref a0) C inw_5 7 rfl rfl 4 (by decide) wd_299 rfl rfl dX5_readLid_108 ?_
        refine j_get (pc := 111) (ci := 9) (v := .ref a2) C inw_9 6 rfl rfl 4 (by decide) wd_380 rfl rfl dX5_readLid_111 ?_
        refine j_iload_n (pc := 114) C dX5_readLid_114 rfl 1 rfl ?_
        refine j_iconst (pc := 115) (v := 1) C dX5_readLid_115 (by decide) ?_
        obtain ⟨f_13, ef_13⟩ : ∃ z, z = upd a_deep (a_wares).toInt.toNat 1 := ⟨_, rfl⟩
        refine j_iast (pc := 116) (k := (a_wares).toInt.toNat) (ws' := [(a2, .inl (cyI, 12, .inl f_13)), (a3, .inl (cyI, 12, .inl a_weight)), (a4, .inl (cyI, 12, .inl a_bears)), (a5, .inl (cyI, 12, .inl a_breaks)), (r1, .inl (cyJ, 12, .inr (.inl (u_2.2.2.2 0)))), (r2, .inl (cyJ, 4, .inr (.inl r_sn))), (a0, .inr (9, [.int a_wares, .int a_shelves, .int a_nests, .ref a1, .ref a2, .ref a3, .ref a4, .ref a5, .ref a6, .int a_lids, .int a_tops, .ref a7, .ref a8, .ref a9, .ref a10])), (r0, .inr (5, [.ref t0, .ref e0, .ref r1, .ref r2, .ref a0, .int r_habits, .int (u_10.2.1 1)])), (t0, .inr (8, [.ref t1, .int t_length, .int (u_10.2.1 2), .int (u_10.2.1 3), .int (u_10.2.1 4), .int (u_10.2.1 5)])), (t1, .inl (cyC, 1000, .inl t_text)), (a1, .inl (cyI, 12, .inl (u_10.2.2.1 0)))]) C 0 1 rfl rfl (i_nn (by omega)) rfl (i_lt_n (by omega) (by omega)) dX5_readLid_116 (by rw [ef_13]; rfl) ?_
        refine j_aload_n (pc := 117) C dX5_readLid_117 rfl 2 rfl ?_
        refine j_get (pc := 118) (ci := 5) (v := .ref a0) C inw_5 7 rfl rfl 4 (by decide) wd_299 rfl rfl dX5_readLid_118 ?_
        refine j_get (pc := 121) (ci := 9) (v := .ref a4) C inw_9 6 rfl rfl 6 (by decide) wd_381 rfl rfl dX5_readLid_121 ?_
        refine j_iload_n (pc := 124) C dX5_readLid_124 rfl 1 rfl ?_
        refine j_iconst (pc := 125) (v := 0) C dX5_readLid_125 (by decide) ?_
        obtain ⟨f_14, ef_14⟩ : ∃ z, z = upd a_bears (a_wares).toInt.toNat 0 := ⟨_, rfl⟩
        refine j_iast (pc := 126) (k := (a_wares).toInt.toNat) (ws' := [(a2, .inl (cyI, 12, .inl f_13)), (a3, .inl (cyI, 12, .inl a_weight)), (a4, .inl (cyI, 12, .inl f_14)), (a5, .inl (cyI, 12, .inl a_breaks)), (r1, .inl (cyJ, 12, .inr (.inl (u_2.2.2.2 0)))), (r2, .inl (cyJ, 4, .inr (.inl r_sn))), (a0, .inr (9, [.int a_wares, .int a_shelves, .int a_nests, .ref a1, .ref a2, .ref a3, .ref a4, .ref a5, .ref a6, .int a_lids, .int a_tops, .ref a7, .ref a8, .ref a9, .ref a10])), (r0, .inr (5, [.ref t0, .ref e0, .ref r1, .ref r2, .ref a0, .int r_habits, .int (u_10.2.1 1)])), (t0, .inr (8, [.ref t1, .int t_length, .int (u_10.2.1 2), .int (u_10.2.1 3), .int (u_10.2.1 4), .int (u_10.2.1 5)])), (t1, .inl (cyC, 1000, .inl t_text)), (a1, .inl (cyI, 12, .inl (u_10.2.2.1 0)))]) C 2 1 rfl rfl (i_nn (by omega)) rfl (i_lt_n (by omega) (by omega)) dX5_readLid_126 (by rw [ef_14]; rfl) ?_
        refine j_aload_n (pc := 127) C dX5_readLid_127 rfl 2 rfl ?_
        refine j_get (pc := 128) (ci := 5) (v := .ref a0) C inw_5 7 rfl rfl 4 (by decide) wd_299 rfl rfl dX5_readLid_128 ?_
        refine j_dup (pc := 131) C dX5_readLid_131 rfl ?_
        refine j_get (pc := 132) (ci := 9) (v := .int a_lids) C inw_9 6 rfl rfl 9 (by decide) wd_382 rfl rfl dX5_readLid_132 ?_
        refine j_iconst (pc := 135) (v := 1) C dX5_readLid_135 (by decide) ?_
        refine j_iload_n (pc := 136) C dX5_readLid_136 rfl 1 rfl ?_
        obtain ⟨v_15, ev_15⟩ : ∃ z : Int32, 1 <<< (a_wares &&& 31) = z := ⟨_, rfl⟩
        have el_1 : (1 : Int32).toInt = 1 := rfl
        have hv_15 : 1 ≤ v_15.toInt ∧ v_15.toInt ≤ 2048 := by rw [← ev_15]; exact shl1_iv 0 11 (by omega) (by omega) (by omega)
        refine j_ishl (pc := 137) (v := v_15) C dX5_readLid_137 ev_15 ?_
        obtain ⟨v_16, ev_16⟩ : ∃ z : Int32, a_lids ||| v_15 = z := ⟨_, rfl⟩
        refine j_ior (pc := 138) (v := v_16) C dX5_readLid_138 ev_16 ?_
        refine j_put (pc := 139) (ci := 9) (v := .int v_16) (ws' := [(a2, .inl (cyI, 12, .inl f_13)), (a3, .inl (cyI, 12, .inl a_weight)), (a4, .inl (cyI, 12, .inl f_14)), (a5, .inl (cyI, 12, .inl a_breaks)), (r1, .inl (cyJ, 12, .inr (.inl (u_2.2.2.2 0)))), (r2, .inl (cyJ, 4, .inr (.inl r_sn))), (a0, .inr (9, [.int a_wares, .int a_shelves, .int a_nests, .ref a1, .ref a2, .ref a3, .ref a4, .ref a5, .ref a6, .int v_16, .int a_tops, .ref a7, .ref a8, .ref a9, .ref a10])), (r0, .inr (5, [.ref t0, .ref e0, .ref r1, .ref r2, .ref a0, .int r_habits, .int (u_10.2.1 1)])), (t0, .inr (8, [.ref t1, .int t_length, .int (u_10.2.1 2), .int (u_10.2.1 3), .int (u_10.2.1 4), .int (u_10.2.1 5)])), (t1, .inl (cyC, 1000, .inl t_text)), (a1, .inl (cyI, 12, .inl (u_10.2.2.1 0)))]) C inw_9 6 rfl rfl 9 (by decide) wd_382 rfl tyX9_ok nmX9 rfl (tyX9_ok 9 (by decide)) rfl rfl (Nat.le_of_ble_eq_true rfl) dX5_readLid_139 rfl ?_
        refine j_aload_n (pc := 142) C dX5_readLid_142 rfl 2 rfl ?_
        refine j_get (pc := 143) (ci := 5) (v := .ref a0) C inw_5 7 rfl rfl 4 (by decide) wd_299 rfl rfl dX5_readLid_143 ?_
        refine j_dup (pc := 146) C dX5_readLid_146 rfl ?_
        refine j_get (pc := 147) (ci := 9) (v := .int a_wares) C inw_9 6 rfl rfl 0 (by decide) wd_326 rfl rfl dX5_readLid_147 ?_
        refine j_iload_n (pc := 150) C dX5_readLid_150 rfl 0 rfl ?_
        refine j_if_eq_t (pc := 151) (tgt := 158) C dX5_readLid_151 (by decide) (by decide) ?_
        refine j_iconst (pc := 158) (v := 0) C dX5_readLid_158 (by decide) ?_
        obtain ⟨v_17, ev_17⟩ : ∃ z : Int32, a_wares + 0 = z := ⟨_, rfl⟩
        have el_0 : (0 : Int32).toInt = 0 := rfl
        have hv_17 : v_17.toInt = a_wares.toInt + (0 : Int32).toInt := by rw [← ev_17]; exact fb_addI (by omega) (by omega)
        refine j_iadd (pc := 159) (v := v_17) C dX5_readLid_159 ev_17 ?_
        refine j_put (pc := 160) (ci := 9) (v := .int v_17) (ws' := [(a2, .inl (cyI, 12, .inl f_13)), (a3, .inl (cyI, 12, .inl a_weight)), (a4, .inl (cyI, 12, .inl f_14)), (a5, .inl (cyI, 12, .inl a_breaks)), (r1, .inl (cyJ, 12, .inr (.inl (u_2.2.2.2 0)))), (r2, .inl (cyJ, 4, .inr (.inl r_sn))), (a0, .inr (9, [.int v_17, .int a_shelves, .int a_nests, .ref a1, .ref a2, .ref a3, .ref a4, .ref a5, .ref a6, .int v_16, .int a_tops, .ref a7, .ref a8, .ref a9, .ref a10])), (r0, .inr (5, [.ref t0, .ref e0, .ref r1, .ref r2, .ref a0, .int r_habits, .int (u_10.2.1 1)])), (t0, .inr (8, [.ref t1, .int t_length, .int (u_10.2.1 2), .int (u_10.2.1 3), .int (u_10.2.1 4), .int (u_10.2.1 5)])), (t1, .inl (cyC, 1000, .inl t_text)), (a1, .inl (cyI, 12, .inl (u_10.2.2.1 0)))]) C inw_9 6 rfl rfl 0 (by decide) wd_326 rfl tyX9_ok nmX9 rfl (tyX9_ok 0 (by decide)) rfl rfl (Nat.le_of_ble_eq_true rfl) dX5_readLid_160 rfl ?_
        refine j_iload_n (pc := 163) C dX5_readLid_163 rfl 0 rfl ?_
        have el_0 : (0 : Int32).toInt = 0 := rfl
        have el_0 : (0 : Int32).toInt = 0 := rfl
        exact j_zret (pc := 164) C hr rfl hk (fun i => [].getD i 0, fun i => [0, (u_10.2.1 1), (u_10.2.1 2), (u_10.2.1 3), (u_10.2.1 4), (u_10.2.1 5), v_17, v_16].getD i 0, fun i => [(u_10.2.2.1 0), f_13, a_weight, f_14, a_breaks].getD i (fun _ => 0), fun i => [(u_2.2.2.2 0)].getD i (fun _ => 0)) rfl (show (0 ≤ ((0 : Int32)).toInt ∧ ((0 : Int32)).toInt ≤ 1) ∧ (0 ≤ ((u_10.2.1 2)).toInt ∧ ((u_10.2.1 2)).toInt ≤ 1000) ∧ (0 ≤ ((u_10.2.1 3)).toInt ∧ ((u_10.2.1 3)).toInt ≤ 4) ∧ (0 ≤ ((u_10.2.1 4)).toInt ∧ ((u_10.2.1 4)).toInt ≤ 1000) ∧ (0 ≤ (v_17).toInt ∧ (v_17).toInt ≤ 12) ∧ (¬ ((u_10.2.1 3)).toInt = 3 ∨ ((u_10.2.1 4)).toInt ≤ 999) from ⟨by omega, by omega, by omega, by omega, by omega, by omega⟩) [7, 4, 5, 8, 9, 6, 10, 0, 1, 2, 3] (by decide) rfl (by decide) (by decide) dX5_readLid_164
      · skip
        have el_0 : (0 : Int32).toInt = 0 := rfl
        rw [i_eq] at c_12
        refine j_aload_n (pc := 52) C dX5_readLid_52 rfl 1 rfl ?_
        refine j_ldcS (pc := 53) (i := 10) C (by decide) rfl dX5_readLid_53 ?_
        refine j_iconst (pc := 55) (v := 1) C dX5_readLid_55 (by decide) ?_
        refine j_bipush (pc := 56) (v := 99) C dX5_readLid_56 (by decide) ?_
        refine j_aload_n (pc := 58) C dX5_readLid_58 rfl 1 rfl ?_
        refine j_get (pc := 59) (ci := 5) (v := .ref a0) C inw_5 7 rfl rfl 4 (by decide) wd_299 rfl rfl dX5_readLid_59 ?_
        refine j_get (pc := 62) (ci := 9) (v := .ref a3) C inw_9 6 rfl rfl 5 (by decide) wd_384 rfl rfl dX5_readLid_62 ?_
        refine j_iload_n (pc := 65) C dX5_readLid_65 rfl 0 rfl ?_
        refine j_callV (pc := 66) (As := [.ref (D.2.1 10), .int 1, .int 99, .ref a3, .int a_wares]) (rest := []) (wr := [(a2, .inl (cyI, 12, .inl a_deep)), (a4, .inl (cyI, 12, .inl a_bears)), (a5, .inl (cyI, 12, .inl a_breaks)), (r1, .inl (cyJ, 12, .inr (.inl (u_2.2.2.2 0)))), (r2, .inl (cyJ, 4, .inr (.inl r_sn))), (a0, .inr (9, [.int a_wares, .int a_shelves, .int a_nests, .ref a1, .ref a2, .ref a3, .ref a4, .ref a5, .ref a6, .int a_lids, .int a_tops, .ref a7, .ref a8, .ref a9, .ref a10])), (a1, .inl (cyI, 12, .inl (u_10.2.2.1 0)))]) C (c_X5_readAmount_12 l D cyC cyI cyJ cyZ cyO r0 t0 t1 a3 e0 r1 r2 a0 10 1 99 a_wares r_habits (u_10.2.1 1) t_length (u_10.2.1 2) (u_10.2.1 3) (u_10.2.1 4) (u_10.2.1 5) t_text a_weight (by omega) (by omega) (by omega) (by omega) (by omega) (by decide) (by omega)) wd_374 wd_306 wd_375 wd_376 wd_377 ⟨by decide, by decide, rfl⟩ rfl ⟨rfl, rfl, by decide, by decide⟩ ⟨by decide, by decide⟩ [7, 8, 9, 1] [0, 2, 3, 4, 5, 6, 10] rfl rfl ⟨by decide, by decide, by decide⟩ 7 rfl rfl rfl (Nat.le_of_ble_eq_true rfl) dX5_readLid_66 (fun u_18 hw_19 => ?_)
        refine j_eq (ws2 := [(a2, .inl (cyI, 12, .inl a_deep)), (a4, .inl (cyI, 12, .inl a_bears)), (a5, .inl (cyI, 12, .inl a_breaks)), (r1, .inl (cyJ, 12, .inr (.inl (u_2.2.2.2 0)))), (r2, .inl (cyJ, 4, .inr (.inl r_sn))), (a0, .inr (9, [.int a_wares, .int a_shelves, .int a_nests, .ref a1, .ref a2, .ref a3, .ref a4, .ref a5, .ref a6, .int a_lids, .int a_tops, .ref a7, .ref a8, .ref a9, .ref a10])), (a1, .inl (cyI, 12, .inl (u_10.2.2.1 0))), (r0, .inr (5, [.ref t0, .ref e0, .ref r1, .ref r2, .ref a0, .int r_habits, .int (u_18.2.1 1)])), (t0, .inr (8, [.ref t1, .int t_length, .int (u_18.2.1 2), .int (u_18.2.1 3), .int (u_18.2.1 4), .int (u_18.2.1 5)])), (t1, .inl (cyC, 1000, .inl t_text)), (a3, .inl (cyI, 12, .inl (u_18.2.2.1 0)))]) (pc2 := 69) (lv2 := [(1, .int a_wares), (0, .ref r0)]) (st2 := [.int (u_18.2.1 0)]) rfl rfl rfl rfl ?_
        obtain ⟨hw_19_0, hw_19_1, hw_19_2, hw_19_3, hw_19_4⟩ := hw_19
        refine j_if_eq (pc := 69) (tgt := 105) C dX5_readLid_69 (by decide) (fun c_20 => ?_) (fun c_20 => ?_)
        · skip
          have el_0 : (0 : Int32).toInt = 0 := rfl
          rw [i_eq] at c_20
          refine j_iconst (pc := 105) (v := 0) C dX5_readLid_105 (by decide) ?_
          refine j_istore_n (pc := 106) (lv' := [(2, .int 0), (1, .int a_wares), (0, .ref r0)]) C dX5_readLid_106 rfl (by decide) rfl ?_
          refine j_aload_n (pc := 107) C dX5_readLid_107 rfl 2 rfl ?_
          refine j_get (pc := 108) (ci := 5) (v := .ref a0) C inw_5 7 rfl rfl 4 (by decide) wd_299 rfl rfl dX5_readLid_108 ?_
          refine j_get (pc := 111) (ci := 9) (v := .ref a2) C inw_9 5 rfl rfl 4 (by decide) wd_380 rfl rfl dX5_readLid_111 ?_
          refine j_iload_n (pc := 114) C dX5_readLid_114 rfl 1 rfl ?_
          refine j_iconst (pc := 115) (v := 1) C dX5_readLid_115 (by decide) ?_
          obtain ⟨f_21, ef_21⟩ : ∃ z, z = upd a_deep (a_wares).toInt.toNat 1 := ⟨_, rfl⟩
          refine j_iast (pc := 116) (k := (a_wares).toInt.toNat) (ws' := [(a2, .inl (cyI, 12, .inl f_21)), (a4, .inl (cyI, 12, .inl a_bears)), (a5, .inl (cyI, 12, .inl a_breaks)), (r1, .inl (cyJ, 12, .inr (.inl (u_2.2.2.2 0)))), (r2, .inl (cyJ, 4, .inr (.inl r_sn))), (a0, .inr (9, [.int a_wares, .int a_shelves, .int a_nests, .ref a1, .ref a2, .ref a3, .ref a4, .ref a5, .ref a6, .int a_lids, .int a_tops, .ref a7, .ref a8, .ref a9, .ref a10])), (a1, .inl (cyI, 12, .inl (u_10.2.2.1 0))), (r0, .inr (5, [.ref t0, .ref e0, .ref r1, .ref r2, .ref a0, .int r_habits, .int (u_18.2.1 1)])), (t0, .inr (8, [.ref t1, .int t_length, .int (u_18.2.1 2), .int (u_18.2.1 3), .int (u_18.2.1 4), .int (u_18.2.1 5)])), (t1, .inl (cyC, 1000, .inl t_text)), (a3, .inl (cyI, 12, .inl (u_18.2.2.1 0)))]) C 0 1 rfl rfl (i_nn (by omega)) rfl (i_lt_n (by omega) (by omega)) dX5_readLid_116 (by rw [ef_21]; rfl) ?_
          refine j_aload_n (pc := 117) C dX5_readLid_117 rfl 2 rfl ?_
          refine j_get (pc := 118) (ci := 5) (v := .ref a0) C inw_5 7 rfl rfl 4 (by decide) wd_299 rfl rfl dX5_readLid_118 ?_
          refine j_get (pc := 121) (ci := 9) (v := .ref a4) C inw_9 5 rfl rfl 6 (by decide) wd_381 rfl rfl dX5_readLid_121 ?_
          refine j_iload_n (pc := 124) C dX5_readLid_124 rfl 1 rfl ?_
          refine j_iconst (pc := 125) (v := 0) C dX5_readLid_125 (by decide) ?_
          obtain ⟨f_22, ef_22⟩ : ∃ z, z = upd a_bears (a_wares).toInt.toNat 0 := ⟨_, rfl⟩
          refine j_iast (pc := 126) (k := (a_wares).toInt.toNat) (ws' := [(a2, .inl (cyI, 12, .inl f_21)), (a4, .inl (cyI, 12, .inl f_22)), (a5, .inl (cyI, 12, .inl a_breaks)), (r1, .inl (cyJ, 12, .inr (.inl (u_2.2.2.2 0)))), (r2, .inl (cyJ, 4, .inr (.inl r_sn))), (a0, .inr (9, [.int a_wares, .int a_shelves, .int a_nests, .ref a1, .ref a2, .ref a3, .ref a4, .ref a5, .ref a6, .int a_lids, .int a_tops, .ref a7, .ref a8, .ref a9, .ref a10])), (a1, .inl (cyI, 12, .inl (u_10.2.2.1 0))), (r0, .inr (5, [.ref t0, .ref e0, .ref r1, .ref r2, .ref a0, .int r_habits, .int (u_18.2.1 1)])), (t0, .inr (8, [.ref t1, .int t_length, .int (u_18.2.1 2), .int (u_18.2.1 3), .int (u_18.2.1 4), .int (u_18.2.1 5)])), (t1, .inl (cyC, 1000, .inl t_text)), (a3, .inl (cyI, 12, .inl (u_18.2.2.1 0)))]) C 1 1 rfl rfl (i_nn (by omega)) rfl (i_lt_n (by omega) (by omega)) dX5_readLid_126 (by rw [ef_22]; rfl) ?_
          refine j_aload_n (pc := 127) C dX5_readLid_127 rfl 2 rfl ?_
          refine j_get (pc := 128) (ci := 5) (v := .ref a0) C inw_5 7 rfl rfl 4 (by decide) wd_299 rfl rfl dX5_readLid_128 ?_
          refine j_dup (pc := 131) C dX5_readLid_131 rfl ?_
          refine j_get (pc := 132) (ci := 9) (v := .int a_lids) C inw_9 5 rfl rfl 9 (by decide) wd_382 rfl rfl dX5_readLid_132 ?_
          refine j_iconst (pc := 135) (v := 1) C dX5_readLid_135 (by decide) ?_
          refine j_iload_n (pc := 136) C dX5_readLid_136 rfl 1 rfl ?_
          obtain ⟨v_23, ev_23⟩ : ∃ z : Int32, 1 <<< (a_wares &&& 31) = z := ⟨_, rfl⟩
          have el_1 : (1 : Int32).toInt = 1 := rfl
          have hv_23 : 1 ≤ v_23.toInt ∧ v_23.toInt ≤ 2048 := by rw [← ev_23]; exact shl1_iv 0 11 (by omega) (by omega) (by omega)
          refine j_ishl (pc := 137) (v := v_23) C dX5_readLid_137 ev_23 ?_
          obtain ⟨v_24, ev_24⟩ : ∃ z : Int32, a_lids ||| v_23 = z := ⟨_, rfl⟩
          refine j_ior (pc := 138) (v := v_24) C dX5_readLid_138 ev_24 ?_
          refine j_put (pc := 139) (ci := 9) (v := .int v_24) (ws' := [(a2, .inl (cyI, 12, .inl f_21)), (a4, .inl (cyI, 12, .inl f_22)), (a5, .inl (cyI, 12, .inl a_breaks)), (r1, .inl (cyJ, 12, .inr (.inl (u_2.2.2.2 0)))), (r2, .inl (cyJ, 4, .inr (.inl r_sn))), (a0, .inr (9, [.int a_wares, .int a_shelves, .int a_nests, .ref a1, .ref a2, .ref a3, .ref a4, .ref a5, .ref a6, .int v_24, .int a_tops, .ref a7, .ref a8, .ref a9, .ref a10])), (a1, .inl (cyI, 12, .inl (u_10.2.2.1 0))), (r0, .inr (5, [.ref t0, .ref e0, .ref r1, .ref r2, .ref a0, .int r_habits, .int (u_18.2.1 1)])), (t0, .inr (8, [.ref t1, .int t_length, .int (u_18.2.1 2), .int (u_18.2.1 3), .int (u_18.2.1 4), .int (u_18.2.1 5)])), (t1, .inl (cyC, 1000, .inl t_text)), (a3, .inl (cyI, 12, .inl (u_18.2.2.1 0)))]) C inw_9 5 rfl rfl 9 (by decide) wd_382 rfl tyX9_ok nmX9 rfl (tyX9_ok 9 (by decide)) rfl rfl (Nat.le_of_ble_eq_true rfl) dX5_readLid_139 rfl ?_
          refine j_aload_n (pc := 142) C dX5_readLid_142 rfl 2 rfl ?_
          refine j_get (pc := 143) (ci := 5) (v := .ref a0) C inw_5 7 rfl rfl 4 (by decide) wd_299 rfl rfl dX5_readLid_143 ?_
          refine j_dup (pc := 146) C dX5_readLid_146 rfl ?_
          refine j_get (pc := 147) (ci := 9) (v := .int a_wares) C inw_9 5 rfl rfl 0 (by decide) wd_326 rfl rfl dX5_readLid_147 ?_
          refine j_iload_n (pc := 150) C dX5_readLid_150 rfl 0 rfl ?_
          refine j_if_eq_t (pc := 151) (tgt := 158) C dX5_readLid_151 (by decide) (by decide) ?_
          refine j_iconst (pc := 158) (v := 0) C dX5_readLid_158 (by decide) ?_
          obtain ⟨v_25, ev_25⟩ : ∃ z : Int32, a_wares + 0 = z := ⟨_, rfl⟩
          have el_0 : (0 : Int32).toInt = 0 := rfl
          have hv_25 : v_25.toInt = a_wares.toInt + (0 : Int32).toInt := by rw [← ev_25]; exact fb_addI (by omega) (by omega)
          refine j_iadd (pc := 159) (v := v_25) C dX5_readLid_159 ev_25 ?_
          refine j_put (pc := 160) (ci := 9) (v := .int v_25) (ws' := [(a2, .inl (cyI, 12, .inl f_21)), (a4, .inl (cyI, 12, .inl f_22)), (a5, .inl (cyI, 12, .inl a_breaks)), (r1, .inl (cyJ, 12, .inr (.inl (u_2.2.2.2 0)))), (r2, .inl (cyJ, 4, .inr (.inl r_sn))), (a0, .inr (9, [.int v_25, .int a_shelves, .int a_nests, .ref a1, .ref a2, .ref a3, .ref a4, .ref a5, .ref a6, .int v_24, .int a_tops, .ref a7, .ref a8, .ref a9, .ref a10])), (a1, .inl (cyI, 12, .inl (u_10.2.2.1 0))), (r0, .inr (5, [.ref t0, .ref e0, .ref r1, .ref r2, .ref a0, .int r_habits, .int (u_18.2.1 1)])), (t0, .inr (8, [.ref t1, .int t_length, .int (u_18.2.1 2), .int (u_18.2.1 3), .int (u_18.2.1 4), .int (u_18.2.1 5)])), (t1, .inl (cyC, 1000, .inl t_text)), (a3, .inl (cyI, 12, .inl (u_18.2.2.1 0)))]) C inw_9 5 rfl rfl 0 (by decide) wd_326 rfl tyX9_ok nmX9 rfl (tyX9_ok 0 (by decide)) rfl rfl (Nat.le_of_ble_eq_true rfl) dX5_readLid_160 rfl ?_
          refine j_iload_n (pc := 163) C dX5_readLid_163 rfl 0 rfl ?_
          have el_0 : (0 : Int32).toInt = 0 := rfl
          have el_0 : (0 : Int32).toInt = 0 := rfl
          exact j_zret (pc := 164) C hr rfl hk (fun i => [].getD i 0, fun i => [0, (u_18.2.1 1), (u_18.2.1 2), (u_18.2.1 3), (u_18.2.1 4), (u_18.2.1 5), v_25, v_24].getD i 0, fun i => [(u_10.2.2.1 0), f_21, (u_18.2.2.1 0), f_22, a_breaks].getD i (fun _ => 0), fun i => [(u_2.2.2.2 0)].getD i (fun _ => 0)) rfl (show (0 ≤ ((0 : Int32)).toInt ∧ ((0 : Int32)).toInt ≤ 1) ∧ (0 ≤ ((u_18.2.1 2)).toInt ∧ ((u_18.2.1 2)).toInt ≤ 1000) ∧ (0 ≤ ((u_18.2.1 3)).toInt ∧ ((u_18.2.1 3)).toInt ≤ 4) ∧ (0 ≤ ((u_18.2.1 4)).toInt ∧ ((u_18.2.1 4)).toInt ≤ 1000) ∧ (0 ≤ (v_25).toInt ∧ (v_25).toInt ≤ 12) ∧ (¬ ((u_18.2.1 3)).toInt = 3 ∨ ((u_18.2.1 4)).toInt ≤ 999) from ⟨by omega, by omega, by omega, by omega, by omega, by omega⟩) [7, 3, 4, 8, 9, 5, 6, 0, 10, 1, 2] (by decide) rfl (by decide) (by decide) dX5_readLid_164
        · skip
          have el_0 : (0 : Int32).toInt = 0 := rfl
          rw [i_eq] at c_20
          refine j_aload_n (pc := 72) C dX5_readLid_72 rfl 1 rfl ?_
          refine j_ldcS (pc := 73) (i := 12) C (by decide) rfl dX5_readLid_73 ?_
          refine j_iconst (pc := 75) (v := 0) C dX5_readLid_75 (by decide) ?_
          refine j_bipush (pc := 76) (v := 99) C dX5_readLid_76 (by decide) ?_
          refine j_aload_n (pc := 78) C dX5_readLid_78 rfl 1 rfl ?_
          refine j_get (pc := 79) (ci := 5) (v := .ref a0) C inw_5 7 rfl rfl 4 (by decide) wd_299 rfl rfl dX5_readLid_79 ?_
          refine j_get (pc := 82) (ci := 9) (v := .ref a5) C inw_9 5 rfl rfl 7 (by decide) wd_385 rfl rfl dX5_readLid_82 ?_
          refine j_iload_n (pc := 85) C dX5_readLid_85 rfl 0 rfl ?_
          refine j_callV (pc := 86) (As := [.ref (D.2.1 12), .int 0, .int 99, .ref a5, .int a_wares]) (rest := []) (wr := [(a2, .inl (cyI, 12, .inl a_deep)), (a4, .inl (cyI, 12, .inl a_bears)), (r1, .inl (cyJ, 12, .inr (.inl (u_2.2.2.2 0)))), (r2, .inl (cyJ, 4, .inr (.inl r_sn))), (a0, .inr (9, [.int a_wares, .int a_shelves, .int a_nests, .ref a1, .ref a2, .ref a3, .ref a4, .ref a5, .ref a6, .int a_lids, .int a_tops, .ref a7, .ref a8, .ref a9, .ref a10])), (a1, .inl (cyI, 12, .inl (u_10.2.2.1 0))), (a3, .inl (cyI, 12, .inl (u_18.2.2.1 0)))]) C (c_X5_readAmount_12 l D cyC cyI cyJ cyZ cyO r0 t0 t1 a5 e0 r1 r2 a0 12 0 99 a_wares r_habits (u_18.2.1 1) t_length (u_18.2.1 2) (u_18.2.1 3) (u_18.2.1 4) (u_18.2.1 5) t_text a_breaks (by omega) (by omega) (by omega) (by omega) (by omega) (by decide) (by omega)) wd_374 wd_306 wd_375 wd_376 wd_377 ⟨by decide, by decide, rfl⟩ rfl ⟨rfl, rfl, by decide, by decide⟩ ⟨by decide, by decide⟩ [7, 8, 9, 2] [0, 1, 3, 4, 5, 6, 10] rfl rfl ⟨by decide, by decide, by decide⟩ 7 rfl rfl rfl (Nat.le_of_ble_eq_true rfl) dX5_readLid_86 (fun u_26 hw_27 => ?_)
          refine j_eq (ws2 := [(a2, .inl (cyI, 12, .inl a_deep)), (a4, .inl (cyI, 12, .inl a_bears)), (r1, .inl (cyJ, 12, .inr (.inl (u_2.2.2.2 0)))), (r2, .inl (cyJ, 4, .inr (.inl r_sn))), (a0, .inr (9, [.int a_wares, .int a_shelves, .int a_nests, .ref a1, .ref a2, .ref a3, .ref a4, .ref a5, .ref a6, .int a_lids, .int a_tops, .ref a7, .ref a8, .ref a9, .ref a10])), (a1, .inl (cyI, 12, .inl (u_10.2.2.1 0))), (a3, .inl (cyI, 12, .inl (u_18.2.2.1 0))), (r0, .inr (5, [.ref t0, .ref e0, .ref r1, .ref r2, .ref a0, .int r_habits, .int (u_26.2.1 1)])), (t0, .inr (8, [.ref t1, .int t_length, .int (u_26.2.1 2), .int (u_26.2.1 3), .int (u_26.2.1 4), .int (u_26.2.1 5)])), (t1, .inl (cyC, 1000, .inl t_text)), (a5, .inl (cyI, 12, .inl (u_26.2.2.1 0)))]) (pc2 := 89) (lv2 := [(1, .int a_wares), (0, .ref r0)]) (st2 := [.int (u_26.2.1 0)]) rfl rfl rfl rfl ?_
          obtain ⟨hw_27_0, hw_27_1, hw_27_2, hw_27_3, hw_27_4⟩ := hw_27
          refine j_if_eq (pc := 89) (tgt := 105) C dX5_readLid_89 (by decide) (fun c_28 => ?_) (fun c_28 => ?_)
          · skip
            have el_0 : (0 : Int32).toInt = 0 := rfl
            rw [i_eq] at c_28
            refine j_iconst (pc := 105) (v := 0) C dX5_readLid_105 (by decide) ?_
            refine j_istore_n (pc := 106) (lv' := [(2, .int 0), (1, .int a_wares), (0, .ref r0)]) C dX5_readLid_106 rfl (by decide) rfl ?_
            refine j_aload_n (pc := 107) C dX5_readLid_107 rfl 2 rfl ?_
            refine j_get (pc := 108) (ci := 5) (v := .ref a0) C inw_5 7 rfl rfl 4 (by decide) wd_299 rfl rfl dX5_readLid_108 ?_
            refine j_get (pc := 111) (ci := 9) (v := .ref a2) C inw_9 4 rfl rfl 4 (by decide) wd_380 rfl rfl dX5_readLid_111 ?_
            refine j_iload_n (pc := 114) C dX5_readLid_114 rfl 1 rfl ?_
            refine j_iconst (pc := 115) (v := 1) C dX5_readLid_115 (by decide) ?_
            obtain ⟨f_29, ef_29⟩ : ∃ z, z = upd a_deep (a_wares).toInt.toNat 1 := ⟨_, rfl⟩
            refine j_iast (pc := 116) (k := (a_wares).toInt.toNat) (ws' := [(a2, .inl (cyI, 12, .inl f_29)), (a4, .inl (cyI, 12, .inl a_bears)), (r1, .inl (cyJ, 12, .inr (.inl (u_2.2.2.2 0)))), (r2, .inl (cyJ, 4, .inr (.inl r_sn))), (a0, .inr (9, [.int a_wares, .int a_shelves, .int a_nests, .ref a1, .ref a2, .ref a3, .ref a4, .ref a5, .ref a6, .int a_lids, .int a_tops, .ref a7, .ref a8, .ref a9, .ref a10])), (a1, .inl (cyI, 12, .inl (u_10.2.2.1 0))), (a3, .inl (cyI, 12, .inl (u_18.2.2.1 0))), (r0, .inr (5, [.ref t0, .ref e0, .ref r1, .ref r2, .ref a0, .int r_habits, .int (u_26.2.1 1)])), (t0, .inr (8, [.ref t1, .int t_length, .int (u_26.2.1 2), .int (u_26.2.1 3), .int (u_26.2.1 4), .int (u_26.2.1 5)])), (t1, .inl (cyC, 1000, .inl t_text)), (a5, .inl (cyI, 12, .inl (u_26.2.2.1 0)))]) C 0 1 rfl rfl (i_nn (by omega)) rfl (i_lt_n (by omega) (by omega)) dX5_readLid_116 (by rw [ef_29]; rfl) ?_
            refine j_aload_n (pc := 117) C dX5_readLid_117 rfl 2 rfl ?_
            refine j_get (pc := 118) (ci := 5) (v := .ref a0) C inw_5 7 rfl rfl 4 (by decide) wd_299 rfl rfl dX5_readLid_118 ?_
            refine j_get (pc := 121) (ci := 9) (v := .ref a4) C inw_9 4 rfl rfl 6 (by decide) wd_381 rfl rfl dX5_readLid_121 ?_
            refine j_iload_n (pc := 124) C dX5_readLid_124 rfl 1 rfl ?_
            refine j_iconst (pc := 125) (v := 0) C dX5_readLid_125 (by decide) ?_
            obtain ⟨f_30, ef_30⟩ : ∃ z, z = upd a_bears (a_wares).toInt.toNat 0 := ⟨_, rfl⟩
            refine j_iast (pc := 126) (k := (a_wares).toInt.toNat) (ws' := [(a2, .inl (cyI, 12, .inl f_29)), (a4, .inl (cyI, 12, .inl f_30)), (r1, .inl (cyJ, 12, .inr (.inl (u_2.2.2.2 0)))), (r2, .inl (cyJ, 4, .inr (.inl r_sn))), (a0, .inr (9, [.int a_wares, .int a_shelves, .int a_nests, .ref a1, .ref a2, .ref a3, .ref a4, .ref a5, .ref a6, .int a_lids, .int a_tops, .ref a7, .ref a8, .ref a9, .ref a10])), (a1, .inl (cyI, 12, .inl (u_10.2.2.1 0))), (a3, .inl (cyI, 12, .inl (u_18.2.2.1 0))), (r0, .inr (5, [.ref t0, .ref e0, .ref r1, .ref r2, .ref a0, .int r_habits, .int (u_26.2.1 1)])), (t0, .inr (8, [.ref t1, .int t_length, .int (u_26.2.1 2), .int (u_26.2.1 3), .int (u_26.2.1 4), .int (u_26.2.1 5)])), (t1, .inl (cyC, 1000, .inl t_text)), (a5, .inl (cyI, 12, .inl (u_26.2.2.1 0)))]) C 1 1 rfl rfl (i_nn (by omega)) rfl (i_lt_n (by omega) (by omega)) dX5_readLid_126 (by rw [ef_30]; rfl) ?_
            refine j_aload_n (pc := 127) C dX5_readLid_127 rfl 2 rfl ?_
            refine j_get (pc := 128) (ci := 5) (v := .ref a0) C inw_5 7 rfl rfl 4 (by decide) wd_299 rfl rfl dX5_readLid_128 ?_
            refine j_dup (pc := 131) C dX5_readLid_131 rfl ?_
            refine j_get (pc := 132) (ci := 9) (v := .int a_lids) C inw_9 4 rfl rfl 9 (by decide) wd_382 rfl rfl dX5_readLid_132 ?_
            refine j_iconst (pc := 135) (v := 1) C dX5_readLid_135 (by decide) ?_
            refine j_iload_n (pc := 136) C dX5_readLid_136 rfl 1 rfl ?_
            obtain ⟨v_31, ev_31⟩ : ∃ z : Int32, 1 <<< (a_wares &&& 31) = z := ⟨_, rfl⟩
            have el_1 : (1 : Int32).toInt = 1 := rfl
            have hv_31 : 1 ≤ v_31.toInt ∧ v_31.toInt ≤ 2048 := by rw [← ev_31]; exact shl1_iv 0 11 (by omega) (by omega) (by omega)
            refine j_ishl (pc := 137) (v := v_31) C dX5_readLid_137 ev_31 ?_
            obtain ⟨v_32, ev_32⟩ : ∃ z : Int32, a_lids ||| v_31 = z := ⟨_, rfl⟩
            refine j_ior (pc := 138) (v := v_32) C dX5_readLid_138 ev_32 ?_
            refine j_put (pc := 139) (ci := 9) (v := .int v_32) (ws' := [(a2, .inl (cyI, 12, .inl f_29)), (a4, .inl (cyI, 12, .inl f_30)), (r1, .inl (cyJ, 12, .inr (.inl (u_2.2.2.2 0)))), (r2, .inl (cyJ, 4, .inr (.inl r_sn))), (a0, .inr (9, [.int a_wares, .int a_shelves, .int a_nests, .ref a1, .ref a2, .ref a3, .ref a4, .ref a5, .ref a6, .int v_32, .int a_tops, .ref a7, .ref a8, .ref a9, .ref a10])), (a1, .inl (cyI, 12, .inl (u_10.2.2.1 0))), (a3, .inl (cyI, 12, .inl (u_18.2.2.1 0))), (r0, .inr (5, [.ref t0, .ref e0, .ref r1, .ref r2, .ref a0, .int r_habits, .int (u_26.2.1 1)])), (t0, .inr (8, [.ref t1, .int t_length, .int (u_26.2.1 2), .int (u_26.2.1 3), .int (u_26.2.1 4), .int (u_26.2.1 5)])), (t1, .inl (cyC, 1000, .inl t_text)), (a5, .inl (cyI, 12, .inl (u_26.2.2.1 0)))]) C inw_9 4 rfl rfl 9 (by decide) wd_382 rfl tyX9_ok nmX9 rfl (tyX9_ok 9 (by decide)) rfl rfl (Nat.le_of_ble_eq_true rfl) dX5_readLid_139 rfl ?_
            refine j_aload_n (pc := 142) C dX5_readLid_142 rfl 2 rfl ?_
            refine j_get (pc := 143) (ci := 5) (v := .ref a0) C inw_5 7 rfl rfl 4 (by decide) wd_299 rfl rfl dX5_readLid_143 ?_
            refine j_dup (pc := 146) C dX5_readLid_146 rfl ?_
            refine j_get (pc := 147) (ci := 9) (v := .int a_wares) C inw_9 4 rfl rfl 0 (by decide) wd_326 rfl rfl dX5_readLid_147 ?_
            refine j_iload_n (pc := 150) C dX5_readLid_150 rfl 0 rfl ?_
            refine j_if_eq_t (pc := 151) (tgt := 158) C dX5_readLid_151 (by decide) (by decide) ?_
            refine j_iconst (pc := 158) (v := 0) C dX5_readLid_158 (by decide) ?_
            obtain ⟨v_33, ev_33⟩ : ∃ z : Int32, a_wares + 0 = z := ⟨_, rfl⟩
            have el_0 : (0 : Int32).toInt = 0 := rfl
            have hv_33 : v_33.toInt = a_wares.toInt + (0 : Int32).toInt := by rw [← ev_33]; exact fb_addI (by omega) (by omega)
            refine j_iadd (pc := 159) (v := v_33) C dX5_readLid_159 ev_33 ?_
            refine j_put (pc := 160) (ci := 9) (v := .int v_33) (ws' := [(a2, .inl (cyI, 12, .inl f_29)), (a4, .inl (cyI, 12, .inl f_30)), (r1, .inl (cyJ, 12, .inr (.inl (u_2.2.2.2 0)))), (r2, .inl (cyJ, 4, .inr (.inl r_sn))), (a0, .inr (9, [.int v_33, .int a_shelves, .int a_nests, .ref a1, .ref a2, .ref a3, .ref a4, .ref a5, .ref a6, .int v_32, .int a_tops, .ref a7, .ref a8, .ref a9, .ref a10])), (a1, .inl (cyI, 12, .inl (u_10.2.2.1 0))), (a3, .inl (cyI, 12, .inl (u_18.2.2.1 0))), (r0, .inr (5, [.ref t0, .ref e0, .ref r1, .ref r2, .ref a0, .int r_habits, .int (u_26.2.1 1)])), (t0, .inr (8, [.ref t1, .int t_length, .int (u_26.2.1 2), .int (u_26.2.1 3), .int (u_26.2.1 4), .int (u_26.2.1 5)])), (t1, .inl (cyC, 1000, .inl t_text)), (a5, .inl (cyI, 12, .inl (u_26.2.2.1 0)))]) C inw_9 4 rfl rfl 0 (by decide) wd_326 rfl tyX9_ok nmX9 rfl (tyX9_ok 0 (by decide)) rfl rfl (Nat.le_of_ble_eq_true rfl) dX5_readLid_160 rfl ?_
            refine j_iload_n (pc := 163) C dX5_readLid_163 rfl 0 rfl ?_
            have el_0 : (0 : Int32).toInt = 0 := rfl
            have el_0 : (0 : Int32).toInt = 0 := rfl
            exact j_zret (pc := 164) C hr rfl hk (fun i => [].getD i 0, fun i => [0, (u_26.2.1 1), (u_26.2.1 2), (u_26.2.1 3), (u_26.2.1 4), (u_26.2.1 5), v_33, v_32].getD i 0, fun i => [(u_10.2.2.1 0), f_29, (u_18.2.2.1 0), f_30, (u_26.2.2.1 0)].getD i (fun _ => 0), fun i => [(u_2.2.2.2 0)].getD i (fun _ => 0)) rfl (show (0 ≤ ((0 : Int32)).toInt ∧ ((0 : Int32)).toInt ≤ 1) ∧ (0 ≤ ((u_26.2.1 2)).toInt ∧ ((u_26.2.1 2)).toInt ≤ 1000) ∧ (0 ≤ ((u_26.2.1 3)).toInt ∧ ((u_26.2.1 3)).toInt ≤ 4) ∧ (0 ≤ ((u_26.2.1 4)).toInt ∧ ((u_26.2.1 4)).toInt ≤ 1000) ∧ (0 ≤ (v_33).toInt ∧ (v_33).toInt ≤ 12) ∧ (¬ ((u_26.2.1 3)).toInt = 3 ∨ ((u_26.2.1 4)).toInt ≤ 999) from ⟨by omega, by omega, by omega, by omega, by omega, by omega⟩) [7, 2, 3, 8, 9, 4, 5, 0, 6, 1, 10] (by decide) rfl (by decide) (by decide) dX5_readLid_164
          · skip
            have el_0 : (0 : Int32).toInt = 0 := rfl
            rw [i_eq] at c_28
            refine j_aload_n (pc := 92) C dX5_readLid_92 rfl 1 rfl ?_
            refine j_bipush (pc := 93) (v := 59) C dX5_readLid_93 (by decide) ?_
            refine j_callV (pc := 95) (As := [.int 59]) (rest := []) (wr := [(a2, .inl (cyI, 12, .inl a_deep)), (a4, .inl (cyI, 12, .inl a_bears)), (r1, .inl (cyJ, 12, .inr (.inl (u_2.2.2.2 0)))), (r2, .inl (cyJ, 4, .inr (.inl r_sn))), (a0, .inr (9, [.int a_wares, .int a_shelves, .int a_nests, .ref a1, .ref a2, .ref a3, .ref a4, .ref a5, .ref a6, .int a_lids, .int a_tops, .ref a7, .ref a8, .ref a9, .ref a10])), (a1, .inl (cyI, 12, .inl (u_10.2.2.1 0))), (a3, .inl (cyI, 12, .inl (u_18.2.2.1 0))), (a5, .inl (cyI, 12, .inl (u_26.2.2.1 0)))]) C (c_X5_readSign l D cyC cyI cyJ cyZ cyO r0 t0 t1 e0 r1 r2 a0 59 r_habits (u_26.2.1 1) t_length (u_26.2.1 2) (u_26.2.1 3) (u_26.2.1 4) (u_26.2.1 5) t_text (by omega) (by omega) (by omega) (by omega) (by omega)) wd_353 wd_306 wd_354 wd_355 wd_356 ⟨by decide, by decide, rfl⟩ rfl ⟨rfl, rfl, by decide, by decide⟩ ⟨by decide, by decide⟩ [7, 8, 9] [0, 1, 2, 3, 4, 5, 6, 10] rfl rfl ⟨by decide, by decide, by decide⟩ 7 rfl rfl rfl (Nat.le_of_ble_eq_true rfl) dX5_readLid_95 (fun u_34 hw_35 => ?_)
            refine j_eq (ws2 := [(a2, .inl (cyI, 12, .inl a_deep)), (a4, .inl (cyI, 12, .inl a_bears)), (r1, .inl (cyJ, 12, .inr (.inl (u_2.2.2.2 0)))), (r2, .inl (cyJ, 4, .inr (.inl r_sn))), (a0, .inr (9, [.int a_wares, .int a_shelves, .int a_nests, .ref a1, .ref a2, .ref a3, .ref a4, .ref a5, .ref a6, .int a_lids, .int a_tops, .ref a7, .ref a8, .ref a9, .ref a10])), (a1, .inl (cyI, 12, .inl (u_10.2.2.1 0))), (a3, .inl (cyI, 12, .inl (u_18.2.2.1 0))), (a5, .inl (cyI, 12, .inl (u_26.2.2.1 0))), (r0, .inr (5, [.ref t0, .ref e0, .ref r1, .ref r2, .ref a0, .int r_habits, .int (u_34.2.1 1)])), (t0, .inr (8, [.ref t1, .int t_length, .int (u_34.2.1 2), .int (u_34.2.1 3), .int (u_34.2.1 4), .int (u_34.2.1 5)])), (t1, .inl (cyC, 1000, .inl t_text))]) (pc2 := 98) (lv2 := [(1, .int a_wares), (0, .ref r0)]) (st2 := [.int (u_34.2.1 0)]) rfl rfl rfl rfl ?_
            obtain ⟨hw_35_0, hw_35_1, hw_35_2, hw_35_3, hw_35_4⟩ := hw_35
            refine j_if_eq (pc := 98) (tgt := 105) C dX5_readLid_98 (by decide) (fun c_36 => ?_) (fun c_36 => ?_)
            · skip
              have el_0 : (0 : Int32).toInt = 0 := rfl
              rw [i_eq] at c_36
              refine j_iconst (pc := 105) (v := 0) C dX5_readLid_105 (by decide) ?_
              refine j_istore_n (pc := 106) (lv' := [(2, .int 0), (1, .int a_wares), (0, .ref r0)]) C dX5_readLid_106 rfl (by decide) rfl ?_
              refine j_aload_n (pc := 107) C dX5_readLid_107 rfl 2 rfl ?_
              refine j_get (pc := 108) (ci := 5) (v := .ref a0) C inw_5 8 rfl rfl 4 (by decide) wd_299 rfl rfl dX5_readLid_108 ?_
              refine j_get (pc := 111) (ci := 9) (v := .ref a2) C inw_9 4 rfl rfl 4 (by decide) wd_380 rfl rfl dX5_readLid_111 ?_
              refine j_iload_n (pc := 114) C dX5_readLid_114 rfl 1 rfl ?_
              refine j_iconst (pc := 115) (v := 1) C dX5_readLid_115 (by decide) ?_
              obtain ⟨f_37, ef_37⟩ : ∃ z, z = upd a_deep (a_wares).toInt.toNat 1 := ⟨_, rfl⟩
              refine j_iast (pc := 116) (k := (a_wares).toInt.toNat) (ws' := [(a2, .inl (cyI, 12, .inl f_37)), (a4, .inl (cyI, 12, .inl a_bears)), (r1, .inl (cyJ, 12, .inr (.inl (u_2.2.2.2 0)))), (r2, .inl (cyJ, 4, .inr (.inl r_sn))), (a0, .inr (9, [.int a_wares, .int a_shelves, .int a_nests, .ref a1, .ref a2, .ref a3, .ref a4, .ref a5, .ref a6, .int a_lids, .int a_tops, .ref a7, .ref a8, .ref a9, .ref a10])), (a1, .inl (cyI, 12, .inl (u_10.2.2.1 0))), (a3, .inl (cyI, 12, .inl (u_18.2.2.1 0))), (a5, .inl (cyI, 12, .inl (u_26.2.2.1 0))), (r0, .inr (5, [.ref t0, .ref e0, .ref r1, .ref r2, .ref a0, .int r_habits, .int (u_34.2.1 1)])), (t0, .inr (8, [.ref t1, .int t_length, .int (u_34.2.1 2), .int (u_34.2.1 3), .int (u_34.2.1 4), .int (u_34.2.1 5)])), (t1, .inl (cyC, 1000, .inl t_text))]) C 0 1 rfl rfl (i_nn (by omega)) rfl (i_lt_n (by omega) (by omega)) dX5_readLid_116 (by rw [ef_37]; rfl) ?_
              refine j_aload_n (pc := 117) C dX5_readLid_117 rfl 2 rfl ?_
              refine j_get (pc := 118) (ci := 5) (v := .ref a0) C inw_5 8 rfl rfl 4 (by decide) wd_299 rfl rfl dX5_readLid_118 ?_
              refine j_get (pc := 121) (ci := 9) (v := .ref a4) C inw_9 4 rfl rfl 6 (by decide) wd_381 rfl rfl dX5_readLid_121 ?_
              refine j_iload_n (pc := 124) C dX5_readLid_124 rfl 1 rfl ?_
              refine j_iconst (pc := 125) (v := 0) C dX5_readLid_125 (by decide) ?_
              obtain ⟨f_38, ef_38⟩ : ∃ z, z = upd a_bears (a_wares).toInt.toNat 0 := ⟨_, rfl⟩
              refine j_iast (pc := 126) (k := (a_wares).toInt.toNat) (ws' := [(a2, .inl (cyI, 12, .inl f_37)), (a4, .inl (cyI, 12, .inl f_38)), (r1, .inl (cyJ, 12, .inr (.inl (u_2.2.2.2 0)))), (r2, .inl (cyJ, 4, .inr (.inl r_sn))), (a0, .inr (9, [.int a_wares, .int a_shelves, .int a_nests, .ref a1, .ref a2, .ref a3, .ref a4, .ref a5, .ref a6, .int a_lids, .int a_tops, .ref a7, .ref a8, .ref a9, .ref a10])), (a1, .inl (cyI, 12, .inl (u_10.2.2.1 0))), (a3, .inl (cyI, 12, .inl (u_18.2.2.1 0))), (a5, .inl (cyI, 12, .inl (u_26.2.2.1 0))), (r0, .inr (5, [.ref t0, .ref e0, .ref r1, .ref r2, .ref a0, .int r_habits, .int (u_34.2.1 1)])), (t0, .inr (8, [.ref t1, .int t_length, .int (u_34.2.1 2), .int (u_34.2.1 3), .int (u_34.2.1 4), .int (u_34.2.1 5)])), (t1, .inl (cyC, 1000, .inl t_text))]) C 1 1 rfl rfl (i_nn (by omega)) rfl (i_lt_n (by omega) (by omega)) dX5_readLid_126 (by rw [ef_38]; rfl) ?_
              refine j_aload_n (pc := 127) C dX5_readLid_127 rfl 2 rfl ?_
              refine j_get (pc := 128) (ci := 5) (v := .ref a0) C inw_5 8 rfl rfl 4 (by decide) wd_299 rfl rfl dX5_readLid_128 ?_
              refine j_dup (pc := 131) C dX5_readLid_131 rfl ?_
              refine j_get (pc := 132) (ci := 9) (v := .int a_lids) C inw_9 4 rfl rfl 9 (by decide) wd_382 rfl rfl dX5_readLid_132 ?_
              refine j_iconst (pc := 135) (v := 1) C dX5_readLid_135 (by decide) ?_
              refine j_iload_n (pc := 136) C dX5_readLid_136 rfl 1 rfl ?_
              obtain ⟨v_39, ev_39⟩ : ∃ z : Int32, 1 <<< (a_wares &&& 31) = z := ⟨_, rfl⟩
              have el_1 : (1 : Int32).toInt = 1 := rfl
              have hv_39 : 1 ≤ v_39.toInt ∧ v_39.toInt ≤ 2048 := by rw [← ev_39]; exact shl1_iv 0 11 (by omega) (by omega) (by omega)
              refine j_ishl (pc := 137) (v := v_39) C dX5_readLid_137 ev_39 ?_
              obtain ⟨v_40, ev_40⟩ : ∃ z : Int32, a_lids ||| v_39 = z := ⟨_, rfl⟩
              refine j_ior (pc := 138) (v := v_40) C dX5_readLid_138 ev_40 ?_
              refine j_put (pc := 139) (ci := 9) (v := .int v_40) (ws' := [(a2, .inl (cyI, 12, .inl f_37)), (a4, .inl (cyI, 12, .inl f_38)), (r1, .inl (cyJ, 12, .inr (.inl (u_2.2.2.2 0)))), (r2, .inl (cyJ, 4, .inr (.inl r_sn))), (a0, .inr (9, [.int a_wares, .int a_shelves, .int a_nests, .ref a1, .ref a2, .ref a3, .ref a4, .ref a5, .ref a6, .int v_40, .int a_tops, .ref a7, .ref a8, .ref a9, .ref a10])), (a1, .inl (cyI, 12, .inl (u_10.2.2.1 0))), (a3, .inl (cyI, 12, .inl (u_18.2.2.1 0))), (a5, .inl (cyI, 12, .inl (u_26.2.2.1 0))), (r0, .inr (5, [.ref t0, .ref e0, .ref r1, .ref r2, .ref a0, .int r_habits, .int (u_34.2.1 1)])), (t0, .inr (8, [.ref t1, .int t_length, .int (u_34.2.1 2), .int (u_34.2.1 3), .int (u_34.2.1 4), .int (u_34.2.1 5)])), (t1, .inl (cyC, 1000, .inl t_text))]) C inw_9 4 rfl rfl 9 (by decide) wd_382 rfl tyX9_ok nmX9 rfl (tyX9_ok 9 (by decide)) rfl rfl (Nat.le_of_ble_eq_true rfl) dX5_readLid_139 rfl ?_
              refine j_aload_n (pc := 142) C dX5_readLid_142 rfl 2 rfl ?_
              refine j_get (pc := 143) (ci := 5) (v := .ref a0) C inw_5 8 rfl rfl 4 (by decide) wd_299 rfl rfl dX5_readLid_143 ?_
              refine j_dup (pc := 146) C dX5_readLid_146 rfl ?_
              refine j_get (pc := 147) (ci := 9) (v := .int a_wares) C inw_9 4 rfl rfl 0 (by decide) wd_326 rfl rfl dX5_readLid_147 ?_
              refine j_iload_n (pc := 150) C dX5_readLid_150 rfl 0 rfl ?_
              refine j_if_eq_t (pc := 151) (tgt := 158) C dX5_readLid_151 (by decide) (by decide) ?_
              refine j_iconst (pc := 158) (v := 0) C dX5_readLid_158 (by decide) ?_
              obtain ⟨v_41, ev_41⟩ : ∃ z : Int32, a_wares + 0 = z := ⟨_, rfl⟩
              have el_0 : (0 : Int32).toInt = 0 := rfl
              have hv_41 : v_41.toInt = a_wares.toInt + (0 : Int32).toInt := by rw [← ev_41]; exact fb_addI (by omega) (by omega)
              refine j_iadd (pc := 159) (v := v_41) C dX5_readLid_159 ev_41 ?_
              refine j_put (pc := 160) (ci := 9) (v := .int v_41) (ws' := [(a2, .inl (cyI, 12, .inl f_37)), (a4, .inl (cyI, 12, .inl f_38)), (r1, .inl (cyJ, 12, .inr (.inl (u_2.2.2.2 0)))), (r2, .inl (cyJ, 4, .inr (.inl r_sn))), (a0, .inr (9, [.int v_41, .int a_shelves, .int a_nests, .ref a1, .ref a2, .ref a3, .ref a4, .ref a5, .ref a6, .int v_40, .int a_tops, .ref a7, .ref a8, .ref a9, .ref a10])), (a1, .inl (cyI, 12, .inl (u_10.2.2.1 0))), (a3, .inl (cyI, 12, .inl (u_18.2.2.1 0))), (a5, .inl (cyI, 12, .inl (u_26.2.2.1 0))), (r0, .inr (5, [.ref t0, .ref e0, .ref r1, .ref r2, .ref a0, .int r_habits, .int (u_34.2.1 1)])), (t0, .inr (8, [.ref t1, .int t_length, .int (u_34.2.1 2), .int (u_34.2.1 3), .int (u_34.2.1 4), .int (u_34.2.1 5)])), (t1, .inl (cyC, 1000, .inl t_text))]) C inw_9 4 rfl rfl 0 (by decide) wd_326 rfl tyX9_ok nmX9 rfl (tyX9_ok 0 (by decide)) rfl rfl (Nat.le_of_ble_eq_true rfl) dX5_readLid_160 rfl ?_
              refine j_iload_n (pc := 163) C dX5_readLid_163 rfl 0 rfl ?_
              have el_0 : (0 : Int32).toInt = 0 := rfl
              have el_0 : (0 : Int32).toInt = 0 := rfl
              exact j_zret (pc := 164) C hr rfl hk (fun i => [].getD i 0, fun i => [0, (u_34.2.1 1), (u_34.2.1 2), (u_34.2.1 3), (u_34.2.1 4), (u_34.2.1 5), v_41, v_40].getD i 0, fun i => [(u_10.2.2.1 0), f_37, (u_18.2.2.1 0), f_38, (u_26.2.2.1 0)].getD i (fun _ => 0), fun i => [(u_2.2.2.2 0)].getD i (fun _ => 0)) rfl (show (0 ≤ ((0 : Int32)).toInt ∧ ((0 : Int32)).toInt ≤ 1) ∧ (0 ≤ ((u_34.2.1 2)).toInt ∧ ((u_34.2.1 2)).toInt ≤ 1000) ∧ (0 ≤ ((u_34.2.1 3)).toInt ∧ ((u_34.2.1 3)).toInt ≤ 4) ∧ (0 ≤ ((u_34.2.1 4)).toInt ∧ ((u_34.2.1 4)).toInt ≤ 1000) ∧ (0 ≤ (v_41).toInt ∧ (v_41).toInt ≤ 12) ∧ (¬ ((u_34.2.1 3)).toInt = 3 ∨ ((u_34.2.1 4)).toInt ≤ 999) from ⟨by omega, by omega, by omega, by omega, by omega, by omega⟩) [8, 2, 3, 9, 10, 4, 5, 0, 6, 1, 7] (by decide) rfl (by decide) (by decide) dX5_readLid_164
            · skip
              have el_0 : (0 : Int32).toInt = 0 := rfl
              rw [i_eq] at c_36
              refine j_iconst (pc := 101) (v := 1) C dX5_readLid_101 (by decide) ?_
              refine j_goto (pc := 102) (tgt := 106) C dX5_readLid_102 (by decide) ?_
              refine j_istore_n (pc := 106) (lv' := [(2, .int 1), (1, .int a_wares), (0, .ref r0)]) C dX5_readLid_106 rfl (by decide) rfl ?_
              refine j_aload_n (pc := 107) C dX5_readLid_107 rfl 2 rfl ?_
              refine j_get (pc := 108) (ci := 5) (v := .ref a0) C inw_5 8 rfl rfl 4 (by decide) wd_299 rfl rfl dX5_readLid_108 ?_
              refine j_get (pc := 111) (ci := 9) (v := .ref a2) C inw_9 4 rfl rfl 4 (by decide) wd_380 rfl rfl dX5_readLid_111 ?_
              refine j_iload_n (pc := 114) C dX5_readLid_114 rfl 1 rfl ?_
              refine j_iconst (pc := 115) (v := 1) C dX5_readLid_115 (by decide) ?_
              obtain ⟨f_42, ef_42⟩ : ∃ z, z = upd a_deep (a_wares).toInt.toNat 1 := ⟨_, rfl⟩
              refine j_iast (pc := 116) (k := (a_wares).toInt.toNat) (ws' := [(a2, .inl (cyI, 12, .inl f_42)), (a4, .inl (cyI, 12, .inl a_bears)), (r1, .inl (cyJ, 12, .inr (.inl (u_2.2.2.2 0)))), (r2, .inl (cyJ, 4, .inr (.inl r_sn))), (a0, .inr (9, [.int a_wares, .int a_shelves, .int a_nests, .ref a1, .ref a2, .ref a3, .ref a4, .ref a5, .ref a6, .int a_lids, .int a_tops, .ref a7, .ref a8, .ref a9, .ref a10])), (a1, .inl (cyI, 12, .inl (u_10.2.2.1 0))), (a3, .inl (cyI, 12, .inl (u_18.2.2.1 0))), (a5, .inl (cyI, 12, .inl (u_26.2.2.1 0))), (r0, .inr (5, [.ref t0, .ref e0, .ref r1, .ref r2, .ref a0, .int r_habits, .int (u_34.2.1 1)])), (t0, .inr (8, [.ref t1, .int t_length, .int (u_34.2.1 2), .int (u_34.2.1 3), .int (u_34.2.1 4), .int (u_34.2.1 5)])), (t1, .inl (cyC, 1000, .inl t_text))]) C 0 1 rfl rfl (i_nn (by omega)) rfl (i_lt_n (by omega) (by omega)) dX5_readLid_116 (by rw [ef_42]; rfl) ?_
              refine j_aload_n (pc := 117) C dX5_readLid_117 rfl 2 rfl ?_
              refine j_get (pc := 118) (ci := 5) (v := .ref a0) C inw_5 8 rfl rfl 4 (by decide) wd_299 rfl rfl dX5_readLid_118 ?_
              refine j_get (pc := 121) (ci := 9) (v := .ref a4) C inw_9 4 rfl rfl 6 (by decide) wd_381 rfl rfl dX5_readLid_121 ?_
              refine j_iload_n (pc := 124) C dX5_readLid_124 rfl 1 rfl ?_
              refine j_iconst (pc := 125) (v := 0) C dX5_readLid_125 (by decide) ?_
              obtain ⟨f_43, ef_43⟩ : ∃ z, z = upd a_bears (a_wares).toInt.toNat 0 := ⟨_, rfl⟩
              refine j_iast (pc := 126) (k := (a_wares).toInt.toNat) (ws' := [(a2, .inl (cyI, 12, .inl f_42)), (a4, .inl (cyI, 12, .inl f_43)), (r1, .inl (cyJ, 12, .inr (.inl (u_2.2.2.2 0)))), (r2, .inl (cyJ, 4, .inr (.inl r_sn))), (a0, .inr (9, [.int a_wares, .int a_shelves, .int a_nests, .ref a1, .ref a2, .ref a3, .ref a4, .ref a5, .ref a6, .int a_lids, .int a_tops, .ref a7, .ref a8, .ref a9, .ref a10])), (a1, .inl (cyI, 12, .inl (u_10.2.2.1 0))), (a3, .inl (cyI, 12, .inl (u_18.2.2.1 0))), (a5, .inl (cyI, 12, .inl (u_26.2.2.1 0))), (r0, .inr (5, [.ref t0, .ref e0, .ref r1, .ref r2, .ref a0, .int r_habits, .int (u_34.2.1 1)])), (t0, .inr (8, [.ref t1, .int t_length, .int (u_34.2.1 2), .int (u_34.2.1 3), .int (u_34.2.1 4), .int (u_34.2.1 5)])), (t1, .inl (cyC, 1000, .inl t_text))]) C 1 1 rfl rfl (i_nn (by omega)) rfl (i_lt_n (by omega) (by omega)) dX5_readLid_126 (by rw [ef_43]; rfl) ?_
              refine j_aload_n (pc := 127) C dX5_readLid_127 rfl 2 rfl ?_
              refine j_get (pc := 128) (ci := 5) (v := .ref a0) C inw_5 8 rfl rfl 4 (by decide) wd_299 rfl rfl dX5_readLid_128 ?_
              refine j_dup (pc := 131) C dX5_readLid_131 rfl ?_
              refine j_get (pc := 132) (ci := 9) (v := .int a_lids) C inw_9 4 rfl rfl 9 (by decide) wd_382 rfl rfl dX5_readLid_132 ?_
              refine j_iconst (pc := 135) (v := 1) C dX5_readLid_135 (by decide) ?_
              refine j_iload_n (pc := 136) C dX5_readLid_136 rfl 1 rfl ?_
              obtain ⟨v_44, ev_44⟩ : ∃ z : Int32, 1 <<< (a_wares &&& 31) = z := ⟨_, rfl⟩
              have el_1 : (1 : Int32).toInt = 1 := rfl
              have hv_44 : 1 ≤ v_44.toInt ∧ v_44.toInt ≤ 2048 := by rw [← ev_44]; exact shl1_iv 0 11 (by omega) (by omega) (by omega)
              refine j_ishl (pc := 137) (v := v_44) C dX5_readLid_137 ev_44 ?_
              obtain ⟨v_45, ev_45⟩ : ∃ z : Int32, a_lids ||| v_44 = z := ⟨_, rfl⟩
              refine j_ior (pc := 138) (v := v_45) C dX5_readLid_138 ev_45 ?_
              refine j_put (pc := 139) (ci := 9) (v := .int v_45) (ws' := [(a2, .inl (cyI, 12, .inl f_42)), (a4, .inl (cyI, 12, .inl f_43)), (r1, .inl (cyJ, 12, .inr (.inl (u_2.2.2.2 0)))), (r2, .inl (cyJ, 4, .inr (.inl r_sn))), (a0, .inr (9, [.int a_wares, .int a_shelves, .int a_nests, .ref a1, .ref a2, .ref a3, .ref a4, .ref a5, .ref a6, .int v_45, .int a_tops, .ref a7, .ref a8, .ref a9, .ref a10])), (a1, .inl (cyI, 12, .inl (u_10.2.2.1 0))), (a3, .inl (cyI, 12, .inl (u_18.2.2.1 0))), (a5, .inl (cyI, 12, .inl (u_26.2.2.1 0))), (r0, .inr (5, [.ref t0, .ref e0, .ref r1, .ref r2, .ref a0, .int r_habits, .int (u_34.2.1 1)])), (t0, .inr (8, [.ref t1, .int t_length, .int (u_34.2.1 2), .int (u_34.2.1 3), .int (u_34.2.1 4), .int (u_34.2.1 5)])), (t1, .inl (cyC, 1000, .inl t_text))]) C inw_9 4 rfl rfl 9 (by decide) wd_382 rfl tyX9_ok nmX9 rfl (tyX9_ok 9 (by decide)) rfl rfl (Nat.le_of_ble_eq_true rfl) dX5_readLid_139 rfl ?_
              refine j_aload_n (pc := 142) C dX5_readLid_142 rfl 2 rfl ?_
              refine j_get (pc := 143) (ci := 5) (v := .ref a0) C inw_5 8 rfl rfl 4 (by decide) wd_299 rfl rfl dX5_readLid_143 ?_
              refine j_dup (pc := 146) C dX5_readLid_146 rfl ?_
              refine j_get (pc := 147) (ci := 9) (v := .int a_wares) C inw_9 4 rfl rfl 0 (by decide) wd_326 rfl rfl dX5_readLid_147 ?_
              refine j_iload_n (pc := 150) C dX5_readLid_150 rfl 0 rfl ?_
              refine j_if_eq_f (pc := 151) (tgt := 158) C dX5_readLid_151 (by decide) (by decide) ?_
              refine j_iconst (pc := 154) (v := 1) C dX5_readLid_154 (by decide) ?_
              refine j_goto (pc := 155) (tgt := 159) C dX5_readLid_155 (by decide) ?_
              obtain ⟨v_46, ev_46⟩ : ∃ z : Int32, a_wares + 1 = z := ⟨_, rfl⟩
              have el_1 : (1 : Int32).toInt = 1 := rfl
              have hv_46 : v_46.toInt = a_wares.toInt + (1 : Int32).toInt := by rw [← ev_46]; exact fb_addI (by omega) (by omega)
              refine j_iadd (pc := 159) (v := v_46) C dX5_readLid_159 ev_46 ?_
              refine j_put (pc := 160) (ci := 9) (v := .int v_46) (ws' := [(a2, .inl (cyI, 12, .inl f_42)), (a4, .inl (cyI, 12, .inl f_43)), (r1, .inl (cyJ, 12, .inr (.inl (u_2.2.2.2 0)))), (r2, .inl (cyJ, 4, .inr (.inl r_sn))), (a0, .inr (9, [.int v_46, .int a_shelves, .int a_nests, .ref a1, .ref a2, .ref a3, .ref a4, .ref a5, .ref a6, .int v_45, .int a_tops, .ref a7, .ref a8, .ref a9, .ref a10])), (a1, .inl (cyI, 12, .inl (u_10.2.2.1 0))), (a3, .inl (cyI, 12, .inl (u_18.2.2.1 0))), (a5, .inl (cyI, 12, .inl (u_26.2.2.1 0))), (r0, .inr (5, [.ref t0, .ref e0, .ref r1, .ref r2, .ref a0, .int r_habits, .int (u_34.2.1 1)])), (t0, .inr (8, [.ref t1, .int t_length, .int (u_34.2.1 2), .int (u_34.2.1 3), .int (u_34.2.1 4), .int (u_34.2.1 5)])), (t1, .inl (cyC, 1000, .inl t_text))]) C inw_9 4 rfl rfl 0 (by decide) wd_326 rfl tyX9_ok nmX9 rfl (tyX9_ok 0 (by decide)) rfl rfl (Nat.le_of_ble_eq_true rfl) dX5_readLid_160 rfl ?_
              refine j_iload_n (pc := 163) C dX5_readLid_163 rfl 0 rfl ?_
              have el_1 : (1 : Int32).toInt = 1 := rfl
              have el_1 : (1 : Int32).toInt = 1 := rfl
              exact j_zret (pc := 164) C hr rfl hk (fun i => [].getD i 0, fun i => [1, (u_34.2.1 1), (u_34.2.1 2), (u_34.2.1 3), (u_34.2.1 4), (u_34.2.1 5), v_46, v_45].getD i 0, fun i => [(u_10.2.2.1 0), f_42, (u_18.2.2.1 0), f_43, (u_26.2.2.1 0)].getD i (fun _ => 0), fun i => [(u_2.2.2.2 0)].getD i (fun _ => 0)) rfl (show (0 ≤ ((1 : Int32)).toInt ∧ ((1 : Int32)).toInt ≤ 1) ∧ (0 ≤ ((u_34.2.1 2)).toInt ∧ ((u_34.2.1 2)).toInt ≤ 1000) ∧ (0 ≤ ((u_34.2.1 3)).toInt ∧ ((u_34.2.1 3)).toInt ≤ 4) ∧ (0 ≤ ((u_34.2.1 4)).toInt ∧ ((u_34.2.1 4)).toInt ≤ 1000) ∧ (0 ≤ (v_46).toInt ∧ (v_46).toInt ≤ 12) ∧ (¬ ((u_34.2.1 3)).toInt = 3 ∨ ((u_34.2.1 4)).toInt ≤ 999) from ⟨by omega, by omega, by omega, by omega, by omega, by omega⟩) [8, 2, 3, 9, 10, 4, 5, 0, 6, 1, 7] (by decide) rfl (by decide) (by decide) dX5_readLid_164
  · skip
    have el_12 : (12 : Int32).toInt = 12 := rfl
    rw [i_lt] at c_1
    refine j_aload_n (pc := 14) C dX5_readLid_14 rfl 1 rfl ?_
    refine j_iconst (pc := 15) (v := 5) C dX5_readLid_15 (by decide) ?_
    refine j_callV (pc := 16) (As := [.int 5]) (rest := []) (wr := [(r1, .inl (cyJ, 12, .inr (.inl r_wn))), (r2, .inl (cyJ, 4, .inr (.inl r_sn))), (t1, .inl (cyC, 1000, .inl t_text)), (a0, .inr (9, [.int a_wares, .int a_shelves, .int a_nests, .ref a1, .ref a2, .ref a3, .ref a4, .ref a5, .ref a6, .int a_lids, .int a_tops, .ref a7, .ref a8, .ref a9, .ref a10])), (a1, .inl (cyI, 12, .inl a_wide)), (a2, .inl (cyI, 12, .inl a_deep)), (a3, .inl (cyI, 12, .inl a_weight)), (a4, .inl (cyI, 12, .inl a_bears)), (a5, .inl (cyI, 12, .inl a_breaks))]) C (c_X5_wrong l D cyC cyI cyJ cyZ cyO r0 t0 e0 r1 r2 a0 t1 5 r_habits r_fault t_length t_next t_kind t_place t_number (by omega) (by omega) (by omega) (by omega)) wd_305 wd_306 wd_307 wd_308 wd_309 ⟨by decide, by decide, rfl⟩ rfl ⟨rfl, rfl, by decide, by decide⟩ ⟨by decide, by decide⟩ [0, 3] [1, 2, 4, 5, 6, 7, 8, 9, 10] rfl rfl ⟨by decide, by decide, by decide⟩ 0 rfl rfl rfl (Nat.le_of_ble_eq_true rfl) dX5_readLid_16 (fun u_47 hw_48 => ?_)
    refine j_eq (ws2 := [(r1, .inl (cyJ, 12, .inr (.inl r_wn))), (r2, .inl (cyJ, 4, .inr (.inl r_sn))), (t1, .inl (cyC, 1000, .inl t_text)), (a0, .inr (9, [.int a_wares, .int a_shelves, .int a_nests, .ref a1, .ref a2, .ref a3, .ref a4, .ref a5, .ref a6, .int a_lids, .int a_tops, .ref a7, .ref a8, .ref a9, .ref a10])), (a1, .inl (cyI, 12, .inl a_wide)), (a2, .inl (cyI, 12, .inl a_deep)), (a3, .inl (cyI, 12, .inl a_weight)), (a4, .inl (cyI, 12, .inl a_bears)), (a5, .inl (cyI, 12, .inl a_breaks)), (r0, .inr (5, [.ref t0, .ref e0, .ref r1, .ref r2, .ref a0, .int r_habits, .int (u_47.2.1 0)])), (t0, .inr (8, [.ref t1, .int t_length, .int t_next, .int t_kind, .int t_place, .int t_number]))]) (pc2 := 19) (lv2 := [(1, .int a_wares), (0, .ref r0)]) (st2 := [.int 0]) rfl rfl rfl rfl ?_
    have el_0 : (0 : Int32).toInt = 0 := rfl
    have el_0 : (0 : Int32).toInt = 0 := rfl
    exact j_zret (pc := 19) C hr rfl hk (fun i => [].getD i 0, fun i => [0, (u_47.2.1 0), t_next, t_kind, t_place, t_number, a_wares, a_lids].getD i 0, fun i => [a_wide, a_deep, a_weight, a_bears, a_breaks].getD i (fun _ => 0), fun i => [r_wn].getD i (fun _ => 0)) rfl (show (0 ≤ ((0 : Int32)).toInt ∧ ((0 : Int32)).toInt ≤ 1) ∧ (0 ≤ (t_next).toInt ∧ (t_next).toInt ≤ 1000) ∧ (0 ≤ (t_kind).toInt ∧ (t_kind).toInt ≤ 4) ∧ (0 ≤ (t_place).toInt ∧ (t_place).toInt ≤ 1000) ∧ (0 ≤ (a_wares).toInt ∧ (a_wares).toInt ≤ 12) ∧ (¬ (t_kind).toInt = 3 ∨ (t_place).toInt ≤ 999) from ⟨by omega, by omega, by omega, by omega, by omega, by omega⟩) [9, 0, 1, 10, 2, 3, 4, 5, 6, 7, 8] (by decide) rfl (by decide) (by decide) dX5_readLid_19
set_option maxHeartbeats 4000000 in
set_option maxRecDepth 100000 in
theorem c_X5_readBowl (l : Launch) (D : DG) (cyC cyI cyJ cyZ cyO : ClassId) (r0 : Nat) (r1 : Nat) (r2 : Nat) (t0 : Nat) (t1 : Nat) (a0 : Nat) (a1 : Nat) (a2 : Nat) (a3 : Nat) (a4 : Nat) (a5 : Nat) (e0 : Nat) (a6 : Nat) (a7 : Nat) (a8 : Nat) (a9 : Nat) (a10 : Nat) (r_habits : Int32) (r_fault : Int32) (t_length : Int32) (t_next : Int32) (t_kind : Int32) (t_place : Int32) (t_number : Int32) (a_wares : Int32) (a_shelves : Int32) (a_nests : Int32) (a_lids : Int32) (a_tops : Int32) (r_wn : Nat → Int64) (r_sn : Nat → Int64) (t_text : Nat → Int32) (a_wide : Nat → Int32) (a_deep : Nat → Int32) (a_weight : Nat → Int32) (a_bears : Nat → Int32) (a_breaks : Nat → Int32) (h_t_length : 0 ≤ (t_length).toInt ∧ (t_length).toInt ≤ 1000) (h_t_next : 0 ≤ (t_next).toInt ∧ (t_next).toInt ≤ 1000) (h_t_kind : 0 ≤ (t_kind).toInt ∧ (t_kind).toInt ≤ 4) (h_t_place : 0 ≤ (t_place).toInt ∧ (t_place).toInt ≤ 1000) (h_a_wares : 0 ≤ (a_wares).toInt ∧ (a_wares).toInt ≤ 12) (h_a_shelves : 0 ≤ (a_shelves).toInt ∧ (a_shelves).toInt ≤ 4) (h_a_nests : 0 ≤ (a_nests).toInt ∧ (a_nests).toInt ≤ 4) (ht3 : ¬ (t_kind).toInt = 3 ∨ (t_place).toInt ≤ 999) : KK l D (TY cyC cyI cyJ cyZ cyO) yX5_readBowl cX5_readBowl 3 (some .boolean) ({ frames := 7, cells := 0, slots := 0, locals := 162 } : Room) 0 0 [.ref r0] [(r0, .inr (5, [.ref t0, .ref e0, .ref r1, .ref r2, .ref a0, .int r_habits, .int r_fault])), (r1, .inl (cyJ, 12, .inr (.inl r_wn))), (r2, .inl (cyJ, 4, .inr (.inl r_sn))), (t0, .inr (8, [.ref t1, .int t_length, .int t_next, .int t_kind, .int t_place, .int t_number])), (t1, .inl (cyC, 1000, .inl t_text)), (a0, .inr (9, [.int a_wares, .int a_shelves, .int a_nests, .ref a1, .ref a2, .ref a3, .ref a4, .ref a5, .ref a6, .int a_lids, .int a_tops, .ref a7, .ref a8, .ref a9, .ref a10])), (a1, .inl (cyI, 12, .inl a_wide)), (a2, .inl (cyI, 12, .inl a_deep)), (a3, .inl (cyI, 12, .inl a_weight)), (a4, .inl (cyI, 12, .inl a_bears)), (a5, .inl (cyI, 12, .inl a_breaks))] (fun u => some (.int (u.2.1 0))) (fun u => (0 ≤ (u.2.1 0).toInt ∧ (u.2.1 0).toInt ≤ 1) ∧ (0 ≤ (u.2.1 2).toInt ∧ (u.2.1 2).toInt ≤ 1000) ∧ (0 ≤ (u.2.1 3).toInt ∧ (u.2.1 3).toInt ≤ 4) ∧ (0 ≤ (u.2.1 4).toInt ∧ (u.2.1 4).toInt ≤ 1000) ∧ (0 ≤ (u.2.1 6).toInt ∧ (u.2.1 6).toInt ≤ 12) ∧ (¬ ((u.2.1 3)).toInt = 3 ∨ ((u.2.1 4)).toInt ≤ 999)) (fun u => [(r0, .inr (5, [.ref t0, .ref e0, .ref r1, .ref r2, .ref a0, .int r_habits, .int (u.2.1 1)])), (r1, .inl (cyJ, 12, .inr (.inl (u.2.2.2 0)))), (r2, .inl (cyJ, 4, .inr (.inl r_sn))), (t0, .inr (8, [.ref t1, .int t_length, .int (u.2.1 2), .int (u.2.1 3), .int (u.2.1 4), .int (u.2.1 5)])), (t1, .inl (cyC, 1000, .inl t_text)), (a0, .inr (9, [.int (u.2.1 6), .int a_shelves, .int a_nests, .ref a1, .ref a2, .ref a3, .ref a4, .ref a5, .ref a6, .int a_lids, .int a_tops, .ref a7, .ref a8, .ref a9, .ref a10])), (a1, .inl (cyI, 12, .inl (u.2.2.1 0))), (a2, .inl (cyI, 12, .inl (u.2.2.1 1))), (a3, .inl (cyI, 12, .inl (u.2.2.1 2))), (a4, .inl (cyI, 12, .inl (u.2.2.1 3))), (a5, .inl (cyI, 12, .inl (u.2.2.1 4)))]) := by
  refine KK.of (lv0 := [(0, .ref r0)]) (by decide) rfl (Nat.le_of_ble_eq_true rfl) ?_
  intro p e s m args below meth c A C hr hk hin
  refine j_aload_n (pc := 0) C dX5_readBowl_0 rfl 0 rfl ?_
  refine j_get (pc := 1) (ci := 5) (v := .ref a0) C inw_5 0 rfl rfl 4 (by decide) wd_299 rfl rfl dX5_readBowl_1 ?_
  refine j_get (pc := 4) (ci := 9) (v := .int a_wares) C inw_9 5 rfl rfl 0 (by decide) wd_326 rfl rfl dX5_readBowl_4 ?_
  refine j_istore_n (pc := 7) (lv' := [(1, .int a_wares), (0, .ref r0)]) C dX5_readBowl_7 rfl (by decide) rfl ?_
  refine j_iload_n (pc := 8) C dX5_readBowl_8 rfl 0 rfl ?_
  refine j_bipush (pc := 9) (v := 12) C dX5_readBowl_9 (by decide) ?_
  refine j_icmp_lt (pc := 11) (tgt := 20) C dX5_readBowl_11 (by decide) (fun c_1 => ?_) (fun c_1 => ?_)
  · skip
    have el_12 : (12 : Int32).toInt = 12 := rfl
    rw [i_lt] at c_1
    refine j_aload_n (pc := 20) C dX5_readBowl_20 rfl 1 rfl ?_
    refine j_aload_n (pc := 21) C dX5_readBowl_21 rfl 1 rfl ?_
    refine j_get (pc := 22) (ci := 5) (v := .ref r1) C inw_5 0 rfl rfl 2 (by decide) wd_325 rfl rfl dX5_readBowl_22 ?_
    refine j_iload_n (pc := 25) C dX5_readBowl_25 rfl 0 rfl ?_
    refine j_callV (pc := 26) (As := [.ref r1, .int a_wares]) (rest := []) (wr := [(a1, .inl (cyI, 12, .inl a_wide)), (a2, .inl (cyI, 12, .inl a_deep)), (a3, .inl (cyI, 12, .inl a_weight)), (a4, .inl (cyI, 12, .inl a_bears)), (a5, .inl (cyI, 12, .inl a_breaks))]) C (c_X5_readNewName_w l D cyC cyI cyJ cyZ cyO r0 r1 r2 t0 t1 a0 e0 a1 a2 a3 a4 a5 a6 a7 a8 a9 a10 a_wares r_habits r_fault t_length t_next t_kind t_place t_number a_wares a_shelves a_nests a_lids a_tops r_wn r_sn t_text (by omega) (by omega) (by omega) (by omega) (by omega) (by omega) (by omega) (by omega) (by omega)) wd_369 wd_306 wd_370 wd_371 wd_372 ⟨by decide, by decide, rfl⟩ rfl ⟨rfl, rfl, by decide, by decide⟩ ⟨by decide, by decide⟩ [0, 1, 2, 3, 4, 5] [6, 7, 8, 9, 10] rfl rfl ⟨by decide, by decide, by decide⟩ 0 rfl rfl rfl (Nat.le_of_ble_eq_true rfl) dX5_readBowl_26 (fun u_2 hw_3 => ?_)
    refine j_eq (ws2 := [(a1, .inl (cyI, 12, .inl a_wide)), (a2, .inl (cyI, 12, .inl a_deep)), (a3, .inl (cyI, 12, .inl a_weight)), (a4, .inl (cyI, 12, .inl a_bears)), (a5, .inl (cyI, 12, .inl a_breaks)), (r0, .inr (5, [.ref t0, .ref e0, .ref r1, .ref r2, .ref a0, .int r_habits, .int (u_2.2.1 1)])), (r1, .inl (cyJ, 12, .inr (.inl (u_2.2.2.2 0)))), (r2, .inl (cyJ, 4, .inr (.inl r_sn))), (t0, .inr (8, [.ref t1, .int t_length, .int (u_2.2.1 2), .int (u_2.2.1 3), .int (u_2.2.1 4), .int (u_2.2.1 5)])), (t1, .inl (cyC, 1000, .inl t_text)), (a0, .inr (9, [.int a_wares, .int a_shelves, .int a_nests, .ref a1, .ref a2, .ref a3, .ref a4, .ref a5, .ref a6, .int a_lids, .int a_tops, .ref a7, .ref a8, .ref a9, .ref a10]))]) (pc2 := 29) (lv2 := [(1, .int a_wares), (0, .ref r0)]) (st2 := [.int (u_2.2.1 0)]) rfl rfl rfl rfl ?_
    obtain ⟨hw_3_0, hw_3_1, hw_3_2, hw_3_3, hw_3_4⟩ := hw_3
    refine j_if_eq (pc := 29) (tgt := 146) C dX5_readBowl_29 (by decide) (fun c_4 => ?_) (fun c_4 => ?_)
    · skip
      have el_0 : (0 : Int32).toInt = 0 := rfl
      rw [i_eq] at c_4
      refine j_iconst (pc := 146) (v := 0) C dX5_readBowl_146 (by decide) ?_
      refine j_istore_n (pc := 147) (lv' := [(2, .int 0), (1, .int a_wares), (0, .ref r0)]) C dX5_readBowl_147 rfl (by decide) rfl ?_
      refine j_aload_n (pc := 148) C dX5_readBowl_148 rfl 2 rfl ?_
      refine j_get (pc := 149) (ci := 5) (v := .ref a0) C inw_5 5 rfl rfl 4 (by decide) wd_299 rfl rfl dX5_readBowl_149 ?_
      refine j_dup (pc := 152) C dX5_readBowl_152 rfl ?_
      refine j_get (pc := 153) (ci := 9) (v := .int a_wares) C inw_9 10 rfl rfl 0 (by decide) wd_326 rfl rfl dX5_readBowl_153 ?_
      refine j_iload_n (pc := 156) C dX5_readBowl_156 rfl 0 rfl ?_
      refine j_if_eq_t (pc := 157) (tgt := 164) C dX5_readBowl_157 (by decide) (by decide) ?_
      refine j_iconst (pc := 164) (v := 0) C dX5_readBowl_164 (by decide) ?_
      obtain ⟨v_5, ev_5⟩ : ∃ z : Int32, a_wares + 0 = z := ⟨_, rfl⟩
      have el_0 : (0 : Int32).toInt = 0 := rfl
      have hv_5 : v_5.toInt = a_wares.toInt + (0 : Int32).toInt := by rw [← ev_5]; exact fb_addI (by omega) (by omega)
      refine j_iadd (pc := 165) (v := v_5) C dX5_readBowl_165 ev_5 ?_
      refine j_put (pc := 166) (ci := 9) (v := .int v_5) (ws' := [(a1, .inl (cyI, 12, .inl a_wide)), (a2, .inl (cyI, 12, .inl a_deep)), (a3, .inl (cyI, 12, .inl a_weight)), (a4, .inl (cyI, 12, .inl a_bears)), (a5, .inl (cyI, 12, .inl a_breaks)), (r0, .inr (5, [.ref t0, .ref e0, .ref r1, .ref r2, .ref a0, .int r_habits, .int (u_2.2.1 1)])), (r1, .inl (cyJ, 12, .inr (.inl (u_2.2.2.2 0)))), (r2, .inl (cyJ, 4, .inr (.inl r_sn))), (t0, .inr (8, [.ref t1, .int t_length, .int (u_2.2.1 2), .int (u_2.2.1 3), .int (u_2.2.1 4), .int (u_2.2.1 5)])), (t1, .inl (cyC, 1000, .inl t_text)), (a0, .inr (9, [.int v_5, .int a_shelves, .int a_nests, .ref a1, .ref a2, .ref a3, .ref a4, .ref a5, .ref a6, .int a_lids, .int a_tops, .ref a7, .ref a8, .ref a9, .ref a10]))]) C inw_9 10 rfl rfl 0 (by decide) wd_326 rfl tyX9_ok nmX9 rfl (tyX9_ok 0 (by decide)) rfl rfl (Nat.le_of_ble_eq_true rfl) dX5_readBowl_166 rfl ?_
      refine j_iload_n (pc := 169) C dX5_readBowl_169 rfl 0 rfl ?_
      have el_0 : (0 : Int32).toInt = 0 := rfl
      have el_0 : (0 : Int32).toInt = 0 := rfl
      exact j_zret (pc := 170) C hr rfl hk (fun i => [].getD i 0, fun i => [0, (u_2.2.1 1), (u_2.2.1 2), (u_2.2.1 3), (u_2.2.1 4), (u_2.2.1 5), v_5].getD i 0, fun i => [a_wide, a_deep, a_weight, a_bears, a_breaks].getD i (fun _ => 0), fun i => [(u_2.2.2.2 0)].getD i (fun _ => 0)) rfl (show (0 ≤ ((0 : Int32)).toInt ∧ ((0 : Int32)).toInt ≤ 1) ∧ (0 ≤ ((u_2.2.1 2)).toInt ∧ ((u_2.2.1 2)).toInt ≤ 1000) ∧ (0 ≤ ((u_2.2.1 3)).toInt ∧ ((u_2.2.1 3)).toInt ≤ 4) ∧ (0 ≤ ((u_2.2.1 4)).toInt ∧ ((u_2.2.1 4)).toInt ≤ 1000) ∧ (0 ≤ (v_5).toInt ∧ (v_5).toInt ≤ 12) ∧ (¬ ((u_2.2.1 3)).toInt = 3 ∨ ((u_2.2.1 4)).toInt ≤ 999) from ⟨by omega, by omega, by omega, by omega, by omega, by omega⟩) [5, 6, 7, 8, 9, 10, 0, 1, 2, 3, 4] (by decide) rfl (by decide) (by decide) dX5_readBowl_170
    · skip
      have el_0 : (0 : Int32).toInt = 0 := rfl
      rw [i_eq] at c_4
      refine j_aload_n (pc := 32) C dX5_readBowl_32 rfl 1 rfl ?_
      refine j_ldcS (pc := 33) (i := 8) C (by decide) rfl dX5_readBowl_33 ?_
      refine j_iconst (pc := 35) (v := 1) C dX5_readBowl_35 (by decide) ?_
      refine j_bipush (pc := 36) (v := 99) C dX5_readBowl_36 (by decide) ?_
      refine j_aload_n (pc := 38) C dX5_readBowl_38 rfl 1 rfl ?_
      refine j_get (pc := 39) (ci := 5) (v := .ref a0) C inw_5 5 rfl rfl 4 (by decide) wd_299 rfl rfl dX5_readBowl_39 ?_
      refine j_get (pc := 42) (ci := 9) (v := .ref a1) C inw_9 10 rfl rfl 3 (by decide) wd_383 rfl rfl dX5_readBowl_42 ?_
      refine j_iload_n (pc := 45) C dX5_readBowl_45 rfl 0 rfl ?_
      refine j_callV (pc := 46) (As := [.ref (D.2.1 8), .int 1, .int 99, .ref a1, .int a_wares]) (rest := []) (wr := [(a2, .inl (cyI, 12, .inl a_deep)), (a3, .inl (cyI, 12, .inl a_weight)), (a4, .inl (cyI, 12, .inl a_bears)), (a5, .inl (cyI, 12, .inl a_breaks)), (r1, .inl (cyJ, 12, .inr (.inl (u_2.2.2.2 0)))), (r2, .inl (cyJ, 4, .inr (.inl r_sn))), (a0, .inr (9, [.int a_wares, .int a_shelves, .int a_nests, .ref a1, .ref a2, .ref a3, .ref a4, .ref a5, .ref a6, .int a_lids, .int a_tops, .ref a7, .ref a8, .ref a9, .ref a10]))]) C (c_X5_readAmount_12 l D cyC cyI cyJ cyZ cyO r0 t0 t1 a1 e0 r1 r2 a0 8 1 99 a_wares r_habits (u_2.2.1 1) t_length (u_2.2.1 2) (u_2.2.1 3) (u_2.2.1 4) (u_2.2.1 5) t_text a_wide (by omega) (by omega) (by omega) (by omega) (by omega) (by decide) (by omega)) wd_374 wd_306 wd_375 wd_376 wd_377 ⟨by decide, by decide, rfl⟩ rfl ⟨rfl, rfl, by decide, by decide⟩ ⟨by decide, by decide⟩ [5, 8, 9, 0] [1, 2, 3, 4, 6, 7, 10] rfl rfl ⟨by decide, by decide, by decide⟩ 5 rfl rfl rfl (Nat.le_of_ble_eq_true rfl) dX5_readBowl_46 (fun u_6 hw_7 => ?_)
      refine j_eq (ws2 := [(a2, .inl (cyI, 12, .inl a_deep)), (a3, .inl (cyI, 12, .inl a_weight)), (a4, .inl (cyI, 12, .inl a_bears)), (a5, .inl (cyI, 12, .inl a_breaks)), (r1, .inl (cyJ, 12, .inr (.inl (u_2.2.2.2 0)))), (r2, .inl (cyJ, 4, .inr (.inl r_sn))), (a0, .inr (9, [.int a_wares, .int a_shelves, .int a_nests, .ref a1, .ref a2, .ref a3, .ref a4, .ref a5, .ref a6, .int a_lids, .int a_tops, .ref a7, .ref a8, .ref a9, .ref a10])), (r0, .inr (5, [.ref t0, .ref e0, .ref r1, .ref r2, .ref a0, .int r_habits, .int (u_6.2.1 1)])), (t0, .inr (8, [.ref t1, .int t_length, .int (u_6.2.1 2), .int (u_6.2.1 3), .int (u_6.2.1 4), .int (u_6.2.1 5)])), (t1, .inl (cyC, 1000, .inl t_text)), (a1, .inl (cyI, 12, .inl (u_6.2.2.1 0)))]) (pc2 := 49) (lv2 := [(1, .int a_wares), (0, .ref r0)]) (st2 := [.int (u_6.2.1 0)]) rfl rfl rfl rfl ?_
      obtain ⟨hw_7_0, hw_7_1, hw_7_2, hw_7_3, hw_7_4⟩ := hw_7
      refine j_if_eq (pc := 49) (tgt := 146) C dX5_readBowl_49 (by decide) (fun c_8 => ?_) (fun c_8 => ?_)
      · skip
        have el_0 : (0 : Int32).toInt = 0 := rfl
        rw [i_eq] at c_8
        refine j_iconst (pc := 146) (v := 0) C dX5_readBowl_146 (by decide) ?_
        refine j_istore_n (pc := 147) (lv' := [(2, .int 0), (1, .int a_wares), (0, .ref r0)]) C dX5_readBowl_147 rfl (by decide) rfl ?_
        refine j_aload_n (pc := 148) C dX5_readBowl_148 rfl 2 rfl ?_
        refine j_get (pc := 149) (ci := 5) (v := .ref a0) C inw_5 7 rfl rfl 4 (by decide) wd_299 rfl rfl dX5_readBowl_149 ?_
        refine j_dup (pc := 152) C dX5_readBowl_152 rfl ?_
        refine j_get (pc := 153) (ci := 9) (v := .int a_wares) C inw_9 6 rfl rfl 0 (by decide) wd_326 rfl rfl dX5_readBowl_153 ?_
        refine j_iload_n (pc := 156) C dX5_readBowl_156 rfl 0 rfl ?_
        refine j_if_eq_t (pc := 157) (tgt := 164) C dX5_readBowl_157 (by decide) (by decide) ?_
        refine j_iconst (pc := 164) (v := 0) C dX5_readBowl_164 (by decide) ?_
        obtain ⟨v_9, ev_9⟩ : ∃ z : Int32, a_wares + 0 = z := ⟨_, rfl⟩
        have el_0 : (0 : Int32).toInt = 0 := rfl
        have hv_9 : v_9.toInt = a_wares.toInt + (0 : Int32).toInt := by rw [← ev_9]; exact fb_addI (by omega) (by omega)
        refine j_iadd (pc := 165) (v := v_9) C dX5_readBowl_165 ev_9 ?_
        refine j_put (pc := 166) (ci := 9) (v := .int v_9) (ws' := [(a2, .inl (cyI, 12, .inl a_deep)), (a3, .inl (cyI, 12, .inl a_weight)), (a4, .inl (cyI, 12, .inl a_bears)), (a5, .inl (cyI, 12, .inl a_breaks)), (r1, .inl (cyJ, 12, .inr (.inl (u_2.2.2.2 0)))), (r2, .inl (cyJ, 4, .inr (.inl r_sn))), (a0, .inr (9, [.int v_9, .int a_shelves, .int a_nests, .ref a1, .ref a2, .ref a3, .ref a4, .ref a5, .ref a6, .int a_lids, .int a_tops, .ref a7, .ref a8, .ref a9, .ref a10])), (r0, .inr (5, [.ref t0, .ref e0, .ref r1, .ref r2, .ref a0, .int r_habits, .int (u_6.2.1 1)])), (t0, .inr (8, [.ref t1, .int t_length, .int (u_6.2.1 2), .int (u_6.2.1 3), .int (u_6.2.1 4), .int (u_6.2.1 5)])), (t1, .inl (cyC, 1000, .inl t_text)), (a1, .inl (cyI, 12, .inl (u_6.2.2.1 0)))]) C inw_9 6 rfl rfl 0 (by decide) wd_326 rfl tyX9_ok nmX9 rfl (tyX9_ok 0 (by decide)) rfl rfl (Nat.le_of_ble_eq_true rfl) dX5_readBowl_166 rfl ?_
        refine j_iload_n (pc := 169) C dX5_readBowl_169 rfl 0 rfl ?_
        have el_0 : (0 : Int32).toInt = 0 := rfl
        have el_0 : (0 : Int32).toInt = 0 := rfl
        exact j_zret (pc := 170) C hr rfl hk (fun i => [].getD i 0, fun i => [0, (u_6.2.1 1), (u_6.2.1 2), (u_6.2.1 3), (u_6.2.1 4), (u_6.2.1 5), v_9].getD i 0, fun i => [(u_6.2.2.1 0), a_deep, a_weight, a_bears, a_breaks].getD i (fun _ => 0), fun i => [(u_2.2.2.2 0)].getD i (fun _ => 0)) rfl (show (0 ≤ ((0 : Int32)).toInt ∧ ((0 : Int32)).toInt ≤ 1) ∧ (0 ≤ ((u_6.2.1 2)).toInt ∧ ((u_6.2.1 2)).toInt ≤ 1000) ∧ (0 ≤ ((u_6.2.1 3)).toInt ∧ ((u_6.2.1 3)).toInt ≤ 4) ∧ (0 ≤ ((u_6.2.1 4)).toInt ∧ ((u_6.2.1 4)).toInt ≤ 1000) ∧ (0 ≤ (v_9).toInt ∧ (v_9).toInt ≤ 12) ∧ (¬ ((u_6.2.1 3)).toInt = 3 ∨ ((u_6.2.1 4)).toInt ≤ 999) from ⟨by omega, by omega, by omega, by omega, by omega, by omega⟩) [7, 4, 5, 8, 9, 6, 10, 0, 1, 2, 3] (by decide) rfl (by decide) (by decide) dX5_readBowl_170
      · skip
        have el_0 : (0 : Int32).toInt = 0 := rfl
        rw [i_eq] at c_8
        refine j_aload_n (pc := 52) C dX5_readBowl_52 rfl 1 rfl ?_
        refine j_ldcS (pc := 53) (i := 9) C (by decide) rfl dX5_readBowl_53 ?_
        refine j_iconst (pc := 55) (v := 1) C dX5_readBowl_55 (by decide) ?_
        refine j_bipush (pc := 56) (v := 99) C dX5_readBowl_56 (by decide) ?_
        refine j_aload_n (pc := 58) C dX5_readBowl_58 rfl 1 rfl ?_
        refine j_get (pc := 59) (ci := 5) (v := .ref a0) C inw_5 7 rfl rfl 4 (by decide) wd_299 rfl rfl dX5_readBowl_59 ?_
        refine j_get (pc := 62) (ci := 9) (v := .ref a2) C inw_9 6 rfl rfl 4 (by decide) wd_380 rfl rfl dX5_readBowl_62 ?_
        refine j_iload_n (pc := 65) C dX5_readBowl_65 rfl 0 rfl ?_
        refine j_callV (pc := 66) (As := [.ref (D.2.1 9), .int 1, .int 99, .ref a2, .int a_wares]) (rest := []) (wr := [(a3, .inl (cyI, 12, .inl a_weight)), (a4, .inl (cyI, 12, .inl a_bears)), (a5, .inl (cyI, 12, .inl a_breaks)), (r1, .inl (cyJ, 12, .inr (.inl (u_2.2.2.2 0)))), (r2, .inl (cyJ, 4, .inr (.inl r_sn))), (a0, .inr (9, [.int a_wares, .int a_shelves, .int a_nests, .ref a1, .ref a2, .ref a3, .ref a4, .ref a5, .ref a6, .int a_lids, .int a_tops, .ref a7, .ref a8, .ref a9, .ref a10])), (a1, .inl (cyI, 12, .inl (u_6.2.2.1 0)))]) C (c_X5_readAmount_12 l D cyC cyI cyJ cyZ cyO r0 t0 t1 a2 e0 r1 r2 a0 9 1 99 a_wares r_habits (u_6.2.1 1) t_length (u_6.2.1 2) (u_6.2.1 3) (u_6.2.1 4) (u_6.2.1 5) t_text a_deep (by omega) (by omega) (by omega) (by omega) (by omega) (by decide) (by omega)) wd_374 wd_306 wd_375 wd_376 wd_377 ⟨by decide, by decide, rfl⟩ rfl ⟨rfl, rfl, by decide, by decide⟩ ⟨by decide, by decide⟩ [7, 8, 9, 0] [1, 2, 3, 4, 5, 6, 10] rfl rfl ⟨by decide, by decide, by decide⟩ 7 rfl rfl rfl (Nat.le_of_ble_eq_true rfl) dX5_readBowl_66 (fun u_10 hw_11 => ?_)
        refine j_eq (ws2 := [(a3, .inl (cyI, 12, .inl a_weight)), (a4, .inl (cyI, 12, .inl a_bears)), (a5, .inl (cyI, 12, .inl a_breaks)), (r1, .inl (cyJ, 12, .inr (.inl (u_2.2.2.2 0)))), (r2, .inl (cyJ, 4, .inr (.inl r_sn))), (a0, .inr (9, [.int a_wares, .int a_shelves, .int a_nests, .ref a1, .ref a2, .ref a3, .ref a4, .ref a5, .ref a6, .int a_lids, .int a_tops, .ref a7, .ref a8, .ref a9, .ref a10])), (a1, .inl (cyI, 12, .inl (u_6.2.2.1 0))), (r0, .inr (5, [.ref t0, .ref e0, .ref r1, .ref r2, .ref a0, .int r_habits, .int (u_10.2.1 1)])), (t0, .inr (8, [.ref t1, .int t_length, .int (u_10.2.1 2), .int (u_10.2.1 3), .int (u_10.2.1 4), .int (u_10.2.1 5)])), (t1, .inl (cyC, 1000, .inl t_text)), (a2, .inl (cyI, 12, .inl (u_10.2.2.1 0)))]) (pc2 := 69) (lv2 := [(1, .int a_wares), (0, .ref r0)]) (st2 := [.int (u_10.2.1 0)]) rfl rfl rfl rfl ?_
        obtain ⟨hw_11_0, hw_11_1, hw_11_2, hw_11_3, hw_11_4⟩ := hw_11
        refine j_if_eq (pc := 69) (tgt := 146) C dX5_readBowl_69 (by decide) (fun c_12 => ?_) (fun c_12 => ?_)
        · skip
          have el_0 : (0 : Int32).toInt = 0 := rfl
          rw [i_eq] at c_12
          refine j_iconst (pc := 146) (v := 0) C dX5_readBowl_146 (by decide) ?_
          refine j_istore_n (pc := 147) (lv' := [(2, .int 0), (1, .int a_wares), (0, .ref r0)]) C dX5_readBowl_147 rfl (by decide) rfl ?_
          refine j_aload_n (pc := 148) C dX5_readBowl_148 rfl 2 rfl ?_
          refine j_get (pc := 149) (ci := 5) (v := .ref a0) C inw_5 7 rfl rfl 4 (by decide) wd_299 rfl rfl dX5_readBowl_149 ?_
          refine j_dup (pc := 152) C dX5_readBowl_152 rfl ?_
          refine j_get (pc := 153) (ci := 9) (v := .int a_wares) C inw_9 5 rfl rfl 0 (by decide) wd_326 rfl rfl dX5_readBowl_153 ?_
          refine j_iload_n (pc := 156) C dX5_readBowl_156 rfl 0 rfl ?_
          refine j_if_eq_t (pc := 157) (tgt := 164) C dX5_readBowl_157 (by decide) (by decide) ?_
          refine j_iconst (pc := 164) (v := 0) C dX5_readBowl_164 (by decide) ?_
          obtain ⟨v_13, ev_13⟩ : ∃ z : Int32, a_wares + 0 = z := ⟨_, rfl⟩
          have el_0 : (0 : Int32).toInt = 0 := rfl
          have hv_13 : v_13.toInt = a_wares.toInt + (0 : Int32).toInt := by rw [← ev_13]; exact fb_addI (by omega) (by omega)
          refine j_iadd (pc := 165) (v := v_13) C dX5_readBowl_165 ev_13 ?_
          refine j_put (pc := 166) (ci := 9) (v := .int v_13) (ws' := [(a3, .inl (cyI, 12, .inl a_weight)), (a4, .inl (cyI, 12, .inl a_bears)), (a5, .inl (cyI, 12, .inl a_breaks)), (r1, .inl (cyJ, 12, .inr (.inl (u_2.2.2.2 0)))), (r2, .inl (cyJ, 4, .inr (.inl r_sn))), (a0, .inr (9, [.int v_13, .int a_shelves, .int a_nests, .ref a1, .ref a2, .ref a3, .ref a4, .ref a5, .ref a6, .int a_lids, .int a_tops, .ref a7, .ref a8, .ref a9, .ref a10])), (a1, .inl (cyI, 12, .inl (u_6.2.2.1 0))), (r0, .inr (5, [.ref t0, .ref e0, .ref r1, .ref r2, .ref a0, .int r_habits, .int (u_10.2.1 1)])), (t0, .inr (8, [.ref t1, .int t_length, .int (u_10.2.1 2), .int (u_10.2.1 3), .int (u_10.2.1 4), .int (u_10.2.1 5)])), (t1, .inl (cyC, 1000, .inl t_text)), (a2, .inl (cyI, 12, .inl (u_10.2.2.1 0)))]) C inw_9 5 rfl rfl 0 (by decide) wd_326 rfl tyX9_ok nmX9 rfl (tyX9_ok 0 (by decide)) rfl rfl (Nat.le_of_ble_eq_true rfl) dX5_readBowl_166 rfl ?_
          refine j_iload_n (pc := 169) C dX5_readBowl_169 rfl 0 rfl ?_
          have el_0 : (0 : Int32).toInt = 0 := rfl
          have el_0 : (0 : Int32).toInt = 0 := rfl
          exact j_zret (pc := 170) C hr rfl hk (fun i => [].getD i 0, fun i => [0, (u_10.2.1 1), (u_10.2.1 2), (u_10.2.1 3), (u_10.2.1 4), (u_10.2.1 5), v_13].getD i 0, fun i => [(u_6.2.2.1 0), (u_10.2.2.1 0), a_weight, a_bears, a_breaks].getD i (fun _ => 0), fun i => [(u_2.2.2.2 0)].getD i (fun _ => 0)) rfl (show (0 ≤ ((0 : Int32)).toInt ∧ ((0 : Int32)).toInt ≤ 1) ∧ (0 ≤ ((u_10.2.1 2)).toInt ∧ ((u_10.2.1 2)).toInt ≤ 1000) ∧ (0 ≤ ((u_10.2.1 3)).toInt ∧ ((u_10.2.1 3)).toInt ≤ 4) ∧ (0 ≤ ((u_10.2.1 4)).toInt ∧ ((u_10.2.1 4)).toInt ≤ 1000) ∧ (0 ≤ (v_13).toInt ∧ (v_13).toInt ≤ 12) ∧ (¬ ((u_10.2.1 3)).toInt = 3 ∨ ((u_10.2.1 4)).toInt ≤ 999) from ⟨by omega, by omega, by omega, by omega, by omega, by omega⟩) [7, 3, 4, 8, 9, 5, 6, 10, 0, 1, 2] (by decide) rfl (by decide) (by decide) dX5_readBowl_170
        · skip
          have el_0 : (0 : Int32).toInt = 0 := rfl
          rw [i_eq] at c_12
          refine j_aload_n (pc := 72) C dX5_readBowl_72 rfl 1 rfl ?_
          refine j_ldcS (pc := 73) (i := 10) C (by decide) rfl dX5_readBowl_73 ?_
          refine j_iconst (pc := 75) (v := 1) C dX5_readBowl_75 (by decide) ?_
          refine j_bipush (pc := 76) (v := 99) C dX5_readBowl_76 (by decide) ?_
          refine j_aload_n (pc := 78) C dX5_readBowl_78 rfl 1 rfl ?_
          refine j_get (pc := 79) (ci := 5) (v := .ref a0) C inw_5 7 rfl rfl 4 (by decide) wd_299 rfl rfl dX5_readBowl_79 ?_
          refine j_get (pc := 82) (ci := 9) (v := .ref a3) C inw_9 5 rfl rfl 5 (by decide) wd_384 rfl rfl dX5_readBowl_82 ?_
          refine j_iload_n (pc := 85) C dX5_readBowl_85 rfl 0 rfl ?_
          refine j_callV (pc := 86) (As := [.ref (D.2.1 10), .int 1, .int 99, .ref a3, .int a_wares]) (rest := []) (wr := [(a4, .inl (cyI, 12, .inl a_bears)), (a5, .inl (cyI, 12, .inl a_breaks)), (r1, .inl (cyJ, 12, .inr (.inl (u_2.2.2.2 0)))), (r2, .inl (cyJ, 4, .inr (.inl r_sn))), (a0, .inr (9, [.int a_wares, .int a_shelves, .int a_nests, .ref a1, .ref a2, .ref a3, .ref a4, .ref a5, .ref a6, .int a_lids, .int a_tops, .ref a7, .ref a8, .ref a9, .ref a10])), (a1, .inl (cyI, 12, .inl (u_6.2.2.1 0))), (a2, .inl (cyI, 12, .inl (u_10.2.2.1 0)))]) C (c_X5_readAmount_12 l D cyC cyI cyJ cyZ cyO r0 t0 t1 a3 e0 r1 r2 a0 10 1 99 a_wares r_habits (u_10.2.1 1) t_length (u_10.2.1 2) (u_10.2.1 3) (u_10.2.1 4) (u_10.2.1 5) t_text a_weight (by omega) (by omega) (by omega) (by omega) (by omega) (by decide) (by omega)) wd_374 wd_306 wd_375 wd_376 wd_377 ⟨by decide, by decide, rfl⟩ rfl ⟨rfl, rfl, by decide, by decide⟩ ⟨by decide, by decide⟩ [7, 8, 9, 0] [1, 2, 3, 4, 5, 6, 10] rfl rfl ⟨by decide, by decide, by decide⟩ 7 rfl rfl rfl (Nat.le_of_ble_eq_true rfl) dX5_readBowl_86 (fun u_14 hw_15 => ?_)
          refine j_eq (ws2 := [(a4, .inl (cyI, 12, .inl a_bears)), (a5, .inl (cyI, 12, .inl a_breaks)), (r1, .inl (cyJ, 12, .inr (.inl (u_2.2.2.2 0)))), (r2, .inl (cyJ, 4, .inr (.inl r_sn))), (a0, .inr (9, [.int a_wares, .int a_shelves, .int a_nests, .ref a1, .ref a2, .ref a3, .ref a4, .ref a5, .ref a6, .int a_lids, .int a_tops, .ref a7, .ref a8, .ref a9, .ref a10])), (a1, .inl (cyI, 12, .inl (u_6.2.2.1 0))), (a2, .inl (cyI, 12, .inl (u_10.2.2.1 0))), (r0, .inr (5, [.ref t0, .ref e0, .ref r1, .ref r2, .ref a0, .int r_habits, .int (u_14.2.1 1)])), (t0, .inr (8, [.ref t1, .int t_length, .int (u_14.2.1 2), .int (u_14.2.1 3), .int (u_14.2.1 4), .int (u_14.2.1 5)])), (t1, .inl (cyC, 1000, .inl t_text)), (a3, .inl (cyI, 12, .inl (u_14.2.2.1 0)))]) (pc2 := 89) (lv2 := [(1, .int a_wares), (0, .ref r0)]) (st2 := [.int (u_14.2.1 0)]) rfl rfl rfl rfl ?_
          obtain ⟨hw_15_0, hw_15_1, hw_15_2, hw_15_3, hw_15_4⟩ := hw_15
          refine j_if_eq (pc := 89) (tgt := 146) C dX5_readBowl_89 (by decide) (fun c_16 => ?_) (fun c_16 => ?_)
          · skip
            have el_0 : (0 : Int32).toInt = 0 := rfl
            rw [i_eq] at c_16
            refine j_iconst (pc := 146) (v := 0) C dX5_readBowl_146 (by decide) ?_
            refine j_istore_n (pc := 147) (lv' := [(2, .int 0), (1, .int a_wares), (0, .ref r0)]) C dX5_readBowl_147 rfl (by decide) rfl ?_
            refine j_aload_n (pc := 148) C dX5_readBowl_148 rfl 2 rfl ?_
            refine j_get (pc := 149) (ci := 5) (v := .ref a0) C inw_5 7 rfl rfl 4 (by decide) wd_299 rfl rfl dX5_readBowl_149 ?_
            refine j_dup (pc := 152) C dX5_readBowl_152 rfl ?_
            refine j_get (pc := 153) (ci := 9) (v := .int a_wares) C inw_9 4 rfl rfl 0 (by decide) wd_326 rfl rfl dX5_readBowl_153 ?_
            refine j_iload_n (pc := 156) C dX5_readBowl_156 rfl 0 rfl ?_
            refine j_if_eq_t (pc := 157) (tgt := 164) C dX5_readBowl_157 (by decide) (by decide) ?_
            refine j_iconst (pc := 164) (v := 0) C dX5_readBowl_164 (by decide) ?_
            obtain ⟨v_17, ev_17⟩ : ∃ z : Int32, a_wares + 0 = z := ⟨_, rfl⟩
            have el_0 : (0 : Int32).toInt = 0 := rfl
            have hv_17 : v_17.toInt = a_wares.toInt + (0 : Int32).toInt := by rw [← ev_17]; exact fb_addI (by omega) (by omega)
            refine j_iadd (pc := 165) (v := v_17) C dX5_readBowl_165 ev_17 ?_
            refine j_put (pc := 166) (ci := 9) (v := .int v_17) (ws' := [(a4, .inl (cyI, 12, .inl a_bears)), (a5, .inl (cyI, 12, .inl a_breaks)), (r1, .inl (cyJ, 12, .inr (.inl (u_2.2.2.2 0)))), (r2, .inl (cyJ, 4, .inr (.inl r_sn))), (a0, .inr (9, [.int v_17, .int a_shelves, .int a_nests, .ref a1, .ref a2, .ref a3, .ref a4, .ref a5, .ref a6, .int a_lids, .int a_tops, .ref a7, .ref a8, .ref a9, .ref a10])), (a1, .inl (cyI, 12, .inl (u_6.2.2.1 0))), (a2, .inl (cyI, 12, .inl (u_10.2.2.1 0))), (r0, .inr (5, [.ref t0, .ref e0, .ref r1, .ref r2, .ref a0, .int r_habits, .int (u_14.2.1 1)])), (t0, .inr (8, [.ref t1, .int t_length, .int (u_14.2.1 2), .int (u_14.2.1 3), .int (u_14.2.1 4), .int (u_14.2.1 5)])), (t1, .inl (cyC, 1000, .inl t_text)), (a3, .inl (cyI, 12, .inl (u_14.2.2.1 0)))]) C inw_9 4 rfl rfl 0 (by decide) wd_326 rfl tyX9_ok nmX9 rfl (tyX9_ok 0 (by decide)) rfl rfl (Nat.le_of_ble_eq_true rfl) dX5_readBowl_166 rfl ?_
            refine j_iload_n (pc := 169) C dX5_readBowl_169 rfl 0 rfl ?_
            have el_0 : (0 : Int32).toInt = 0 := rfl
            have el_0 : (0 : Int32).toInt = 0 := rfl
            exact j_zret (pc := 170) C hr rfl hk (fun i => [].getD i 0, fun i => [0, (u_14.2.1 1), (u_14.2.1 2), (u_14.2.1 3), (u_14.2.1 4), (u_14.2.1 5), v_17].getD i 0, fun i => [(u_6.2.2.1 0), (u_10.2.2.1 0), (u_14.2.2.1 0), a_bears, a_breaks].getD i (fun _ => 0), fun i => [(u_2.2.2.2 0)].getD i (fun _ => 0)) rfl (show (0 ≤ ((0 : Int32)).toInt ∧ ((0 : Int32)).toInt ≤ 1) ∧ (0 ≤ ((u_14.2.1 2)).toInt ∧ ((u_14.2.1 2)).toInt ≤ 1000) ∧ (0 ≤ ((u_14.2.1 3)).toInt ∧ ((u_14.2.1 3)).toInt ≤ 4) ∧ (0 ≤ ((u_14.2.1 4)).toInt ∧ ((u_14.2.1 4)).toInt ≤ 1000) ∧ (0 ≤ (v_17).toInt ∧ (v_17).toInt ≤ 12) ∧ (¬ ((u_14.2.1 3)).toInt = 3 ∨ ((u_14.2.1 4)).toInt ≤ 999) from ⟨by omega, by omega, by omega, by omega, by omega, by omega⟩) [7, 2, 3, 8, 9, 4, 5, 6, 10, 0, 1] (by decide) rfl (by decide) (by decide) dX5_readBowl_170
          · skip
            have el_0 : (0 : Int32).toInt = 0 := rfl
            rw [i_eq] at c_16
            refine j_aload_n (pc := 92) C dX5_readBowl_92 rfl 1 rfl ?_
            refine j_ldcS (pc := 93) (i := 11) C (by decide) rfl dX5_readBowl_93 ?_
            refine j_iconst (pc := 95) (v := 0) C dX5_readBowl_95 (by decide) ?_
            refine j_sipush (pc := 96) (v := 999) C dX5_readBowl_96 (by decide) ?_
            refine j_aload_n (pc := 99) C dX5_readBowl_99 rfl 1 rfl ?_
            refine j_get (pc := 100) (ci := 5) (v := .ref a0) C inw_5 7 rfl rfl 4 (by decide) wd_299 rfl rfl dX5_readBowl_100 ?_
            refine j_get (pc := 103) (ci := 9) (v := .ref a4) C inw_9 4 rfl rfl 6 (by decide) wd_381 rfl rfl dX5_readBowl_103 ?_
            refine j_iload_n (pc := 106) C dX5_readBowl_106 rfl 0 rfl ?_
            refine j_callV (pc := 107) (As := [.ref (D.2.1 11), .int 0, .int 999, .ref a4, .int a_wares]) (rest := []) (wr := [(a5, .inl (cyI, 12, .inl a_breaks)), (r1, .inl (cyJ, 12, .inr (.inl (u_2.2.2.2 0)))), (r2, .inl (cyJ, 4, .inr (.inl r_sn))), (a0, .inr (9, [.int a_wares, .int a_shelves, .int a_nests, .ref a1, .ref a2, .ref a3, .ref a4, .ref a5, .ref a6, .int a_lids, .int a_tops, .ref a7, .ref a8, .ref a9, .ref a10])), (a1, .inl (cyI, 12, .inl (u_6.2.2.1 0))), (a2, .inl (cyI, 12, .inl (u_10.2.2.1 0))), (a3, .inl (cyI, 12, .inl (u_14.2.2.1 0)))]) C (c_X5_readAmount_12 l D cyC cyI cyJ cyZ cyO r0 t0 t1 a4 e0 r1 r2 a0 11 0 999 a_wares r_habits (u_14.2.1 1) t_length (u_14.2.1 2) (u_14.2.1 3) (u_14.2.1 4) (u_14.2.1 5) t_text a_bears (by omega) (by omega) (by omega) (by omega) (by omega) (by decide) (by omega)) wd_374 wd_306 wd_375 wd_376 wd_377 ⟨by decide, by decide, rfl⟩ rfl ⟨rfl, rfl, by decide, by decide⟩ ⟨by decide, by decide⟩ [7, 8, 9, 0] [1, 2, 3, 4, 5, 6, 10] rfl rfl ⟨by decide, by decide, by decide⟩ 7 rfl rfl rfl (Nat.le_of_ble_eq_true rfl) dX5_readBowl_107 (fun u_18 hw_19 => ?_)
            refine j_eq (ws2 := [(a5, .inl (cyI, 12, .inl a_breaks)), (r1, .inl (cyJ, 12, .inr (.inl (u_2.2.2.2 0)))), (r2, .inl (cyJ, 4, .inr (.inl r_sn))), (a0, .inr (9, [.int a_wares, .int a_shelves, .int a_nests, .ref a1, .ref a2, .ref a3, .ref a4, .ref a5, .ref a6, .int a_lids, .int a_tops, .ref a7, .ref a8, .ref a9, .ref a10])), (a1, .inl (cyI, 12, .inl (u_6.2.2.1 0))), (a2, .inl (cyI, 12, .inl (u_10.2.2.1 0))), (a3, .inl (cyI, 12, .inl (u_14.2.2.1 0))), (r0, .inr (5, [.ref t0, .ref e0, .ref r1, .ref r2, .ref a0, .int r_habits, .int (u_18.2.1 1)])), (t0, .inr (8, [.ref t1, .int t_length, .int (u_18.2.1 2), .int (u_18.2.1 3), .int (u_18.2.1 4), .int (u_18.2.1 5)])), (t1, .inl (cyC, 1000, .inl t_text)), (a4, .inl (cyI, 12, .inl (u_18.2.2.1 0)))]) (pc2 := 110) (lv2 := [(1, .int a_wares), (0, .ref r0)]) (st2 := [.int (u_18.2.1 0)]) rfl rfl rfl rfl ?_
            obtain ⟨hw_19_0, hw_19_1, hw_19_2, hw_19_3, hw_19_4⟩ := hw_19
            refine j_if_eq (pc := 110) (tgt := 146) C dX5_readBowl_110 (by decide) (fun c_20 => ?_) (fun c_20 => ?_)
            · skip
              have el_0 : (0 : Int32).toInt = 0 := rfl
              rw [i_eq] at c_20
              refine j_iconst (pc := 146) (v := 0) C dX5_readBowl_146 (by decide) ?_
              refine j_istore_n (pc := 147) (lv' := [(2, .int 0), (1, .int a_wares), (0, .ref r0)]) C dX5_readBowl_147 rfl (by decide) rfl ?_
              refine j_aload_n (pc := 148) C dX5_readBowl_148 rfl 2 rfl ?_
              refine j_get (pc := 149) (ci := 5) (v := .ref a0) C inw_5 7 rfl rfl 4 (by decide) wd_299 rfl rfl dX5_readBowl_149 ?_
              refine j_dup (pc := 152) C dX5_readBowl_152 rfl ?_
              refine j_get (pc := 153) (ci := 9) (v := .int a_wares) C inw_9 3 rfl rfl 0 (by decide) wd_326 rfl rfl dX5_readBowl_153 ?_
              refine j_iload_n (pc := 156) C dX5_readBowl_156 rfl 0 rfl ?_
              refine j_if_eq_t (pc := 157) (tgt := 164) C dX5_readBowl_157 (by decide) (by decide) ?_
              refine j_iconst (pc := 164) (v := 0) C dX5_readBowl_164 (by decide) ?_
              obtain ⟨v_21, ev_21⟩ : ∃ z : Int32, a_wares + 0 = z := ⟨_, rfl⟩
              have el_0 : (0 : Int32).toInt = 0 := rfl
              have hv_21 : v_21.toInt = a_wares.toInt + (0 : Int32).toInt := by rw [← ev_21]; exact fb_addI (by omega) (by omega)
              refine j_iadd (pc := 165) (v := v_21) C dX5_readBowl_165 ev_21 ?_
              refine j_put (pc := 166) (ci := 9) (v := .int v_21) (ws' := [(a5, .inl (cyI, 12, .inl a_breaks)), (r1, .inl (cyJ, 12, .inr (.inl (u_2.2.2.2 0)))), (r2, .inl (cyJ, 4, .inr (.inl r_sn))), (a0, .inr (9, [.int v_21, .int a_shelves, .int a_nests, .ref a1, .ref a2, .ref a3, .ref a4, .ref a5, .ref a6, .int a_lids, .int a_tops, .ref a7, .ref a8, .ref a9, .ref a10])), (a1, .inl (cyI, 12, .inl (u_6.2.2.1 0))), (a2, .inl (cyI, 12, .inl (u_10.2.2.1 0))), (a3, .inl (cyI, 12, .inl (u_14.2.2.1 0))), (r0, .inr (5, [.ref t0, .ref e0, .ref r1, .ref r2, .ref a0, .int r_habits, .int (u_18.2.1 1)])), (t0, .inr (8, [.ref t1, .int t_length, .int (u_18.2.1 2), .int (u_18.2.1 3), .int (u_18.2.1 4), .int (u_18.2.1 5)])), (t1, .inl (cyC, 1000, .inl t_text)), (a4, .inl (cyI, 12, .inl (u_18.2.2.1 0)))]) C inw_9 3 rfl rfl 0 (by decide) wd_326 rfl tyX9_ok nmX9 rfl (tyX9_ok 0 (by decide)) rfl rfl (Nat.le_of_ble_eq_true rfl) dX5_readBowl_166 rfl ?_
              refine j_iload_n (pc := 169) C dX5_readBowl_169 rfl 0 rfl ?_
              have el_0 : (0 : Int32).toInt = 0 := rfl
              have el_0 : (0 : Int32).toInt = 0 := rfl
              exact j_zret (pc := 170) C hr rfl hk (fun i => [].getD i 0, fun i => [0, (u_18.2.1 1), (u_18.2.1 2), (u_18.2.1 3), (u_18.2.1 4), (u_18.2.1 5), v_21].getD i 0, fun i => [(u_6.2.2.1 0), (u_10.2.2.1 0), (u_14.2.2.1 0), (u_18.2.2.1 0), a_breaks].getD i (fun _ => 0), fun i => [(u_2.2.2.2 0)].getD i (fun _ => 0)) rfl (show (0 ≤ ((0 : Int32)).toInt ∧ ((0 : Int32)).toInt ≤ 1) ∧ (0 ≤ ((u_18.2.1 2)).toInt ∧ ((u_18.2.1 2)).toInt ≤ 1000) ∧ (0 ≤ ((u_18.2.1 3)).toInt ∧ ((u_18.2.1 3)).toInt ≤ 4) ∧ (0 ≤ ((u_18.2.1 4)).toInt ∧ ((u_18.2.1 4)).toInt ≤ 1000) ∧ (0 ≤ (v_21).toInt ∧ (v_21).toInt ≤ 12) ∧ (¬ ((u_18.2.1 3)).toInt = 3 ∨ ((u_18.2.1 4)).toInt ≤ 999) from ⟨by omega, by omega, by omega, by omega, by omega, by omega⟩) [7, 1, 2, 8, 9, 3, 4, 5, 6, 10, 0] (by decide) rfl (by decide) (by decide) dX5_readBowl_170
            · skip
              have el_0 : (0 : Int32).toInt = 0 := rfl
              rw [i_eq] at c_20
              refine j_aload_n (pc := 113) C dX5_readBowl_113 rfl 1 rfl ?_
              refine j_ldcS (pc := 114) (i := 12) C (by decide) rfl dX5_readBowl_114 ?_
              refine j_iconst (pc := 116) (v := 0) C dX5_readBowl_116 (by decide) ?_
              refine j_bipush (pc := 117) (v := 99) C dX5_readBowl_117 (by decide) ?_
              refine j_aload_n (pc := 119) C dX5_readBowl_119 rfl 1 rfl ?_
              refine j_get (pc := 120) (ci := 5) (v := .ref a0) C inw_5 7 rfl rfl 4 (by decide) wd_299 rfl rfl dX5_readBowl_120 ?_
              refine j_get (pc := 123) (ci := 9) (v := .ref a5) C inw_9 3 rfl rfl 7 (by decide) wd_385 rfl rfl dX5_readBowl_123 ?_
              refine j_iload_n (pc := 126) C dX5_readBowl_126 rfl 0 rfl ?_
              refine j_callV (pc := 127) (As := [.ref (D.2.1 12), .int 0, .int 99, .ref a5, .int a_wares]) (rest := []) (wr := [(r1, .inl (cyJ, 12, .inr (.inl (u_2.2.2.2 0)))), (r2, .inl (cyJ, 4, .inr (.inl r_sn))), (a0, .inr (9, [.int a_wares, .int a_shelves, .int a_nests, .ref a1, .ref a2, .ref a3, .ref a4, .ref a5, .ref a6, .int a_lids, .int a_tops, .ref a7, .ref a8, .ref a9, .ref a10])), (a1, .inl (cyI, 12, .inl (u_6.2.2.1 0))), (a2, .inl (cyI, 12, .inl (u_10.2.2.1 0))), (a3, .inl (cyI, 12, .inl (u_14.2.2.1 0))), (a4, .inl (cyI, 12, .inl (u_18.2.2.1 0)))]) C (c_X5_readAmount_12 l D cyC cyI cyJ cyZ cyO r0 t0 t1 a5 e0 r1 r2 a0 12 0 99 a_wares r_habits (u_18.2.1 1) t_length (u_18.2.1 2) (u_18.2.1 3) (u_18.2.1 4) (u_18.2.1 5) t_text a_breaks (by omega) (by omega) (by omega) (by omega) (by omega) (by decide) (by omega)) wd_374 wd_306 wd_375 wd_376 wd_377 ⟨by decide, by decide, rfl⟩ rfl ⟨rfl, rfl, by decide, by decide⟩ ⟨by decide, by decide⟩ [7, 8, 9, 0] [1, 2, 3, 4, 5, 6, 10] rfl rfl ⟨by decide, by decide, by decide⟩ 7 rfl rfl rfl (Nat.le_of_ble_eq_true rfl) dX5_readBowl_127 (fun u_22 hw_23 => ?_)
              refine j_eq (ws2 := [(r1, .inl (cyJ, 12, .inr (.inl (u_2.2.2.2 0)))), (r2, .inl (cyJ, 4, .inr (.inl r_sn))), (a0, .inr (9, [.int a_wares, .int a_shelves, .int a_nests, .ref a1, .ref a2, .ref a3, .ref a4, .ref a5, .ref a6, .int a_lids, .int a_tops, .ref a7, .ref a8, .ref a9, .ref a10])), (a1, .inl (cyI, 12, .inl (u_6.2.2.1 0))), (a2, .inl (cyI, 12, .inl (u_10.2.2.1 0))), (a3, .inl (cyI, 12, .inl (u_14.2.2.1 0))), (a4, .inl (cyI, 12, .inl (u_18.2.2.1 0))), (r0, .inr (5, [.ref t0, .ref e0, .ref r1, .ref r2, .ref a0, .int r_habits, .int (u_22.2.1 1)])), (t0, .inr (8, [.ref t1, .int t_length, .int (u_22.2.1 2), .int (u_22.2.1 3), .int (u_22.2.1 4), .int (u_22.2.1 5)])), (t1, .inl (cyC, 1000, .inl t_text)), (a5, .inl (cyI, 12, .inl (u_22.2.2.1 0)))]) (pc2 := 130) (lv2 := [(1, .int a_wares), (0, .ref r0)]) (st2 := [.int (u_22.2.1 0)]) rfl rfl rfl rfl ?_
              obtain ⟨hw_23_0, hw_23_1, hw_23_2, hw_23_3, hw_23_4⟩ := hw_23
              refine j_if_eq (pc := 130) (tgt := 146) C dX5_readBowl_130 (by decide) (fun c_24 => ?_) (fun c_24 => ?_)
              · skip
                have el_0 : (0 : Int32).toInt = 0 := rfl
                rw [i_eq] at c_24
                refine j_iconst (pc := 146) (v := 0) C dX5_readBowl_146 (by decide) ?_
                refine j_istore_n (pc := 147) (lv' := [(2, .int 0), (1, .int a_wares), (0, .ref r0)]) C dX5_readBowl_147 rfl (by decide) rfl ?_
                refine j_aload_n (pc := 148) C dX5_readBowl_148 rfl 2 rfl ?_
                refine j_get (pc := 149) (ci := 5) (v := .ref a0) C inw_5 7 rfl rfl 4 (by decide) wd_299 rfl rfl dX5_readBowl_149 ?_
                refine j_dup (pc := 152) C dX5_readBowl_152 rfl ?_
                refine j_get (pc := 153) (ci := 9) (v := .int a_wares) C inw_9 2 rfl rfl 0 (by decide) wd_326 rfl rfl dX5_readBowl_153 ?_
                refine j_iload_n (pc := 156) C dX5_readBowl_156 rfl 0 rfl ?_
                refine j_if_eq_t (pc := 157) (tgt := 164) C dX5_readBowl_157 (by decide) (by decide) ?_
                refine j_iconst (pc := 164) (v := 0) C dX5_readBowl_164 (by decide) ?_
                obtain ⟨v_25, ev_25⟩ : ∃ z : Int32, a_wares + 0 = z := ⟨_, rfl⟩
                have el_0 : (0 : Int32).toInt = 0 := rfl
                have hv_25 : v_25.toInt = a_wares.toInt + (0 : Int32).toInt := by rw [← ev_25]; exact fb_addI (by omega) (by omega)
                refine j_iadd (pc := 165) (v := v_25) C dX5_readBowl_165 ev_25 ?_
                refine j_put (pc := 166) (ci := 9) (v := .int v_25) (ws' := [(r1, .inl (cyJ, 12, .inr (.inl (u_2.2.2.2 0)))), (r2, .inl (cyJ, 4, .inr (.inl r_sn))), (a0, .inr (9, [.int v_25, .int a_shelves, .int a_nests, .ref a1, .ref a2, .ref a3, .ref a4, .ref a5, .ref a6, .int a_lids, .int a_tops, .ref a7, .ref a8, .ref a9, .ref a10])), (a1, .inl (cyI, 12, .inl (u_6.2.2.1 0))), (a2, .inl (cyI, 12, .inl (u_10.2.2.1 0))), (a3, .inl (cyI, 12, .inl (u_14.2.2.1 0))), (a4, .inl (cyI, 12, .inl (u_18.2.2.1 0))), (r0, .inr (5, [.ref t0, .ref e0, .ref r1, .ref r2, .ref a0, .int r_habits, .int (u_22.2.1 1)])), (t0, .inr (8, [.ref t1, .int t_length, .int (u_22.2.1 2), .int (u_22.2.1 3), .int (u_22.2.1 4), .int (u_22.2.1 5)])), (t1, .inl (cyC, 1000, .inl t_text)), (a5, .inl (cyI, 12, .inl (u_22.2.2.1 0)))]) C inw_9 2 rfl rfl 0 (by decide) wd_326 rfl tyX9_ok nmX9 rfl (tyX9_ok 0 (by decide)) rfl rfl (Nat.le_of_ble_eq_true rfl) dX5_readBowl_166 rfl ?_
                refine j_iload_n (pc := 169) C dX5_readBowl_169 rfl 0 rfl ?_
                have el_0 : (0 : Int32).toInt = 0 := rfl
                have el_0 : (0 : Int32).toInt = 0 := rfl
                exact j_zret (pc := 170) C hr rfl hk (fun i => [].getD i 0, fun i => [0, (u_22.2.1 1), (u_22.2.1 2), (u_22.2.1 3), (u_22.2.1 4), (u_22.2.1 5), v_25].getD i 0, fun i => [(u_6.2.2.1 0), (u_10.2.2.1 0), (u_14.2.2.1 0), (u_18.2.2.1 0), (u_22.2.2.1 0)].getD i (fun _ => 0), fun i => [(u_2.2.2.2 0)].getD i (fun _ => 0)) rfl (show (0 ≤ ((0 : Int32)).toInt ∧ ((0 : Int32)).toInt ≤ 1) ∧ (0 ≤ ((u_22.2.1 2)).toInt ∧ ((u_22.2.1 2)).toInt ≤ 1000) ∧ (0 ≤ ((u_22.2.1 3)).toInt ∧ ((u_22.2.1 3)).toInt ≤ 4) ∧ (0 ≤ ((u_22.2.1 4)).toInt ∧ ((u_22.2.1 4)).toInt ≤ 1000) ∧ (0 ≤ (v_25).toInt ∧ (v_25).toInt ≤ 12) ∧ (¬ ((u_22.2.1 3)).toInt = 3 ∨ ((u_22.2.1 4)).toInt ≤ 999) from ⟨by omega, by omega, by omega, by omega, by omega, by omega⟩) [7, 0, 1, 8, 9, 2, 3, 4, 5, 6, 10] (by decide) rfl (by decide) (by decide) dX5_readBowl_170
              · skip
                have el_0 : (0 : Int32).toInt = 0 := rfl
                rw [i_eq] at c_24
                refine j_aload_n (pc := 133) C dX5_readBowl_133 rfl 1 rfl ?_
                refine j_bipush (pc := 134) (v := 59) C dX5_readBowl_134 (by decide) ?_
                refine j_callV (pc := 136) (As := [.int 59]) (rest := []) (wr := [(r1, .inl (cyJ, 12, .inr (.inl (u_2.2.2.2 0)))), (r2, .inl (cyJ, 4, .inr (.inl r_sn))), (a0, .inr (9, [.int a_wares, .int a_shelves, .int a_nests, .ref a1, .ref a2, .ref a3, .ref a4, .ref a5, .ref a6, .int a_lids, .int a_tops, .ref a7, .ref a8, .ref a9, .ref a10])), (a1, .inl (cyI, 12, .inl (u_6.2.2.1 0))), (a2, .inl (cyI, 12, .inl (u_10.2.2.1 0))), (a3, .inl (cyI, 12, .inl (u_14.2.2.1 0))), (a4, .inl (cyI, 12, .inl (u_18.2.2.1 0))), (a5, .inl (cyI, 12, .inl (u_22.2.2.1 0)))]) C (c_X5_readSign l D cyC cyI cyJ cyZ cyO r0 t0 t1 e0 r1 r2 a0 59 r_habits (u_22.2.1 1) t_length (u_22.2.1 2) (u_22.2.1 3) (u_22.2.1 4) (u_22.2.1 5) t_text (by omega) (by omega) (by omega) (by omega) (by omega)) wd_353 wd_306 wd_354 wd_355 wd_356 ⟨by decide, by decide, rfl⟩ rfl ⟨rfl, rfl, by decide, by decide⟩ ⟨by decide, by decide⟩ [7, 8, 9] [0, 1, 2, 3, 4, 5, 6, 10] rfl rfl ⟨by decide, by decide, by decide⟩ 7 rfl rfl rfl (Nat.le_of_ble_eq_true rfl) dX5_readBowl_136 (fun u_26 hw_27 => ?_)
                refine j_eq (ws2 := [(r1, .inl (cyJ, 12, .inr (.inl (u_2.2.2.2 0)))), (r2, .inl (cyJ, 4, .inr (.inl r_sn))), (a0, .inr (9, [.int a_wares, .int a_shelves, .int a_nests, .ref a1, .ref a2, .ref a3, .ref a4, .ref a5, .ref a6, .int a_lids, .int a_tops, .ref a7, .ref a8, .ref a9, .ref a10])), (a1, .inl (cyI, 12, .inl (u_6.2.2.1 0))), (a2, .inl (cyI, 12, .inl (u_10.2.2.1 0))), (a3, .inl (cyI, 12, .inl (u_14.2.2.1 0))), (a4, .inl (cyI, 12, .inl (u_18.2.2.1 0))), (a5, .inl (cyI, 12, .inl (u_22.2.2.1 0))), (r0, .inr (5, [.ref t0, .ref e0, .ref r1, .ref r2, .ref a0, .int r_habits, .int (u_26.2.1 1)])), (t0, .inr (8, [.ref t1, .int t_length, .int (u_26.2.1 2), .int (u_26.2.1 3), .int (u_26.2.1 4), .int (u_26.2.1 5)])), (t1, .inl (cyC, 1000, .inl t_text))]) (pc2 := 139) (lv2 := [(1, .int a_wares), (0, .ref r0)]) (st2 := [.int (u_26.2.1 0)]) rfl rfl rfl rfl ?_
                obtain ⟨hw_27_0, hw_27_1, hw_27_2, hw_27_3, hw_27_4⟩ := hw_27
                refine j_if_eq (pc := 139) (tgt := 146) C dX5_readBowl_139 (by decide) (fun c_28 => ?_) (fun c_28 => ?_)
                · skip
                  have el_0 : (0 : Int32).toInt = 0 := rfl
                  rw [i_eq] at c_28
                  refine j_iconst (pc := 146) (v := 0) C dX5_readBowl_146 (by decide) ?_
                  refine j_istore_n (pc := 147) (lv' := [(2, .int 0), (1, .int a_wares), (0, .ref r0)]) C dX5_readBowl_147 rfl (by decide) rfl ?_
                  refine j_aload_n (pc := 148) C dX5_readBowl_148 rfl 2 rfl ?_
                  refine j_get (pc := 149) (ci := 5) (v := .ref a0) C inw_5 8 rfl rfl 4 (by decide) wd_299 rfl rfl dX5_readBowl_149 ?_
                  refine j_dup (pc := 152) C dX5_readBowl_152 rfl ?_
                  refine j_get (pc := 153) (ci := 9) (v := .int a_wares) C inw_9 2 rfl rfl 0 (by decide) wd_326 rfl rfl dX5_readBowl_153 ?_
                  refine j_iload_n (pc := 156) C dX5_readBowl_156 rfl 0 rfl ?_
                  refine j_if_eq_t (pc := 157) (tgt := 164) C dX5_readBowl_157 (by decide) (by decide) ?_
                  refine j_iconst (pc := 164) (v := 0) C dX5_readBowl_164 (by decide) ?_
                  obtain ⟨v_29, ev_29⟩ : ∃ z : Int32, a_wares + 0 = z := ⟨_, rfl⟩
                  have el_0 : (0 : Int32).toInt = 0 := rfl
                  have hv_29 : v_29.toInt = a_wares.toInt + (0 : Int32).toInt := by rw [← ev_29]; exact fb_addI (by omega) (by omega)
                  refine j_iadd (pc := 165) (v := v_29) C dX5_readBowl_165 ev_29 ?_
                  refine j_put (pc := 166) (ci := 9) (v := .int v_29) (ws' := [(r1, .inl (cyJ, 12, .inr (.inl (u_2.2.2.2 0)))), (r2, .inl (cyJ, 4, .inr (.inl r_sn))), (a0, .inr (9, [.int v_29, .int a_shelves, .int a_nests, .ref a1, .ref a2, .ref a3, .ref a4, .ref a5, .ref a6, .int a_lids, .int a_tops, .ref a7, .ref a8, .ref a9, .ref a10])), (a1, .inl (cyI, 12, .inl (u_6.2.2.1 0))), (a2, .inl (cyI, 12, .inl (u_10.2.2.1 0))), (a3, .inl (cyI, 12, .inl (u_14.2.2.1 0))), (a4, .inl (cyI, 12, .inl (u_18.2.2.1 0))), (a5, .inl (cyI, 12, .inl (u_22.2.2.1 0))), (r0, .inr (5, [.ref t0, .ref e0, .ref r1, .ref r2, .ref a0, .int r_habits, .int (u_26.2.1 1)])), (t0, .inr (8, [.ref t1, .int t_length, .int (u_26.2.1 2), .int (u_26.2.1 3), .int (u_26.2.1 4), .int (u_26.2.1 5)])), (t1, .inl (cyC, 1000, .inl t_text))]) C inw_9 2 rfl rfl 0 (by decide) wd_326 rfl tyX9_ok nmX9 rfl (tyX9_ok 0 (by decide)) rfl rfl (Nat.le_of_ble_eq_true rfl) dX5_readBowl_166 rfl ?_
                  refine j_iload_n (pc := 169) C dX5_readBowl_169 rfl 0 rfl ?_
                  have el_0 : (0 : Int32).toInt = 0 := rfl
                  have el_0 : (0 : Int32).toInt = 0 := rfl
                  exact j_zret (pc := 170) C hr rfl hk (fun i => [].getD i 0, fun i => [0, (u_26.2.1 1), (u_26.2.1 2), (u_26.2.1 3), (u_26.2.1 4), (u_26.2.1 5), v_29].getD i 0, fun i => [(u_6.2.2.1 0), (u_10.2.2.1 0), (u_14.2.2.1 0), (u_18.2.2.1 0), (u_22.2.2.1 0)].getD i (fun _ => 0), fun i => [(u_2.2.2.2 0)].getD i (fun _ => 0)) rfl (show (0 ≤ ((0 : Int32)).toInt ∧ ((0 : Int32)).toInt ≤ 1) ∧ (0 ≤ ((u_26.2.1 2)).toInt ∧ ((u_26.2.1 2)).toInt ≤ 1000) ∧ (0 ≤ ((u_26.2.1 3)).toInt ∧ ((u_26.2.1 3)).toInt ≤ 4) ∧ (0 ≤ ((u_26.2.1 4)).toInt ∧ ((u_26.2.1 4)).toInt ≤ 1000) ∧ (0 ≤ (v_29).toInt ∧ (v_29).toInt ≤ 12) ∧ (¬ ((u_26.2.1 3)).toInt = 3 ∨ ((u_26.2.1 4)).toInt ≤ 999) from ⟨by omega, by omega, by omega, by omega, by omega, by omega⟩) [8, 0, 1, 9, 10, 2, 3, 4, 5, 6, 7] (by decide) rfl (by decide) (by decide) dX5_readBowl_170
                · skip
                  have el_0 : (0 : Int32).toInt = 0 := rfl
                  rw [i_eq] at c_28
                  refine j_iconst (pc := 142) (v := 1) C dX5_readBowl_142 (by decide) ?_
                  refine j_goto (pc := 143) (tgt := 147) C dX5_readBowl_143 (by decide) ?_
                  refine j_istore_n (pc := 147) (lv' := [(2, .int 1), (1, .int a_wares), (0, .ref r0)]) C dX5_readBowl_147 rfl (by decide) rfl ?_
                  refine j_aload_n (pc := 148) C dX5_readBowl_148 rfl 2 rfl ?_
                  refine j_get (pc := 149) (ci := 5) (v := .ref a0) C inw_5 8 rfl rfl 4 (by decide) wd_299 rfl rfl dX5_readBowl_149 ?_
                  refine j_dup (pc := 152) C dX5_readBowl_152 rfl ?_
                  refine j_get (pc := 153) (ci := 9) (v := .int a_wares) C inw_9 2 rfl rfl 0 (by decide) wd_326 rfl rfl dX5_readBowl_153 ?_
                  refine j_iload_n (pc := 156) C dX5_readBowl_156 rfl 0 rfl ?_
                  refine j_if_eq_f (pc := 157) (tgt := 164) C dX5_readBowl_157 (by decide) (by decide) ?_
                  refine j_iconst (pc := 160) (v := 1) C dX5_readBowl_160 (by decide) ?_
                  refine j_goto (pc := 161) (tgt := 165) C dX5_readBowl_161 (by decide) ?_
                  obtain ⟨v_30, ev_30⟩ : ∃ z : Int32, a_wares + 1 = z := ⟨_, rfl⟩
                  have el_1 : (1 : Int32).toInt = 1 := rfl
                  have hv_30 : v_30.toInt = a_wares.toInt + (1 : Int32).toInt := by rw [← ev_30]; exact fb_addI (by omega) (by omega)
                  refine j_iadd (pc := 165) (v := v_30) C dX5_readBowl_165 ev_30 ?_
                  refine j_put (pc := 166) (ci := 9) (v := .int v_30) (ws' := [(r1, .inl (cyJ, 12, .inr (.inl (u_2.2.2.2 0)))), (r2, .inl (cyJ, 4, .inr (.inl r_sn))), (a0, .inr (9, [.int v_30, .int a_shelves, .int a_nests, .ref a1, .ref a2, .ref a3, .ref a4, .ref a5, .ref a6, .int a_lids, .int a_tops, .ref a7, .ref a8, .ref a9, .ref a10])), (a1, .inl (cyI, 12, .inl (u_6.2.2.1 0))), (a2, .inl (cyI, 12, .inl (u_10.2.2.1 0))), (a3, .inl (cyI, 12, .inl (u_14.2.2.1 0))), (a4, .inl (cyI, 12, .inl (u_18.2.2.1 0))), (a5, .inl (cyI, 12, .inl (u_22.2.2.1 0))), (r0, .inr (5, [.ref t0, .ref e0, .ref r1, .ref r2, .ref a0, .int r_habits, .int (u_26.2.1 1)])), (t0, .inr (8, [.ref t1, .int t_length, .int (u_26.2.1 2), .int (u_26.2.1 3), .int (u_26.2.1 4), .int (u_26.2.1 5)])), (t1, .inl (cyC, 1000, .inl t_text))]) C inw_9 2 rfl rfl 0 (by decide) wd_326 rfl tyX9_ok nmX9 rfl (tyX9_ok 0 (by decide)) rfl rfl (Nat.le_of_ble_eq_true rfl) dX5_readBowl_166 rfl ?_
                  refine j_iload_n (pc := 169) C dX5_readBowl_169 rfl 0 rfl ?_
                  have el_1 : (1 : Int32).toInt = 1 := rfl
                  have el_1 : (1 : Int32).toInt = 1 := rfl
                  exact j_zret (pc := 170) C hr rfl hk (fun i => [].getD i 0, fun i => [1, (u_26.2.1 1), (u_26.2.1 2), (u_26.2.1 3), (u_26.2.1 4), (u_26.2.1 5), v_30].getD i 0, fun i => [(u_6.2.2.1 0), (u_10.2.2.1 0), (u_14.2.2.1 0), (u_18.2.2.1 0), (u_22.2.2.1 0)].getD i (fun _ => 0), fun i => [(u_2.2.2.2 0)].getD i (fun _ => 0)) rfl (show (0 ≤ ((1 : Int32)).toInt ∧ ((1 : Int32)).toInt ≤ 1) ∧ (0 ≤ ((u_26.2.1 2)).toInt ∧ ((u_26.2.1 2)).toInt ≤ 1000) ∧ (0 ≤ ((u_26.2.1 3)).toInt ∧ ((u_26.2.1 3)).toInt ≤ 4) ∧ (0 ≤ ((u_26.2.1 4)).toInt ∧ ((u_26.2.1 4)).toInt ≤ 1000) ∧ (0 ≤ (v_30).toInt ∧ (v_30).toInt ≤ 12) ∧ (¬ ((u_26.2.1 3)).toInt = 3 ∨ ((u_26.2.1 4)).toInt ≤ 999) from ⟨by omega, by omega, by omega, by omega, by omega, by omega⟩) [8, 0, 1, 9, 10, 2, 3, 4, 5, 6, 7] (by decide) rfl (by decide) (by decide) dX5_readBowl_170
  · skip
    have el_12 : (12 : Int32).toInt = 12 := rfl
    rw [i_lt] at c_1
    refine j_aload_n (pc := 14) C dX5_readBowl_14 rfl 1 rfl ?_
    refine j_iconst (pc := 15) (v := 5) C dX5_readBowl_15 (by decide) ?_
    refine j_callV (pc := 16) (As := [.int 5]) (rest := []) (wr := [(r1, .inl (cyJ, 12, .inr (.inl r_wn))), (r2, .inl (cyJ, 4, .inr (.inl r_sn))), (t1, .inl (cyC, 1000, .inl t_text)), (a0, .inr (9, [.int a_wares, .int a_shelves, .int a_nests, .ref a1, .ref a2, .ref a3, .ref a4, .ref a5, .ref a6, .int a_lids, .int a_tops, .ref a7, .ref a8, .ref a9, .ref a10])), (a1, .inl (cyI, 12, .inl a_wide)), (a2, .inl (cyI, 12, .inl a_deep)), (a3, .inl (cyI, 12, .inl a_weight)), (a4, .inl (cyI, 12, .inl a_bears)), (a5, .inl (cyI, 12, .inl a_breaks))]) C (c_X5_wrong l D cyC cyI cyJ cyZ cyO r0 t0 e0 r1 r2 a0 t1 5 r_habits r_fault t_length t_next t_kind t_place t_number (by omega) (by omega) (by omega) (by omega)) wd_305 wd_306 wd_307 wd_308 wd_309 ⟨by decide, by decide, rfl⟩ rfl ⟨rfl, rfl, by decide, by decide⟩ ⟨by decide, by decide⟩ [0, 3] [1, 2, 4, 5, 6, 7, 8, 9, 10] rfl rfl ⟨by decide, by decide, by decide⟩ 0 rfl rfl rfl (Nat.le_of_ble_eq_true rfl) dX5_readBowl_16 (fun u_31 hw_32 => ?_)
    refine j_eq (ws2 := [(r1, .inl (cyJ, 12, .inr (.inl r_wn))), (r2, .inl (cyJ, 4, .inr (.inl r_sn))), (t1, .inl (cyC, 1000, .inl t_text)), (a0, .inr (9, [.int a_wares, .int a_shelves, .int a_nests, .ref a1, .ref a2, .ref a3, .ref a4, .ref a5, .ref a6, .int a_lids, .int a_tops, .ref a7, .ref a8, .ref a9, .ref a10])), (a1, .inl (cyI, 12, .inl a_wide)), (a2, .inl (cyI, 12, .inl a_deep)), (a3, .inl (cyI, 12, .inl a_weight)), (a4, .inl (cyI, 12, .inl a_bears)), (a5, .inl (cyI, 12, .inl a_breaks)), (r0, .inr (5, [.ref t0, .ref e0, .ref r1, .ref r2, .ref a0, .int r_habits, .int (u_31.2.1 0)])), (t0, .inr (8, [.ref t1, .int t_length, .int t_next, .int t_kind, .int t_place, .int t_number]))]) (pc2 := 19) (lv2 := [(1, .int a_wares), (0, .ref r0)]) (st2 := [.int 0]) rfl rfl rfl rfl ?_
    have el_0 : (0 : Int32).toInt = 0 := rfl
    have el_0 : (0 : Int32).toInt = 0 := rfl
    exact j_zret (pc := 19) C hr rfl hk (fun i => [].getD i 0, fun i => [0, (u_31.2.1 0), t_next, t_kind, t_place, t_number, a_wares].getD i 0, fun i => [a_wide, a_deep, a_weight, a_bears, a_breaks].getD i (fun _ => 0), fun i => [r_wn].getD i (fun _ => 0)) rfl (show (0 ≤ ((0 : Int32)).toInt ∧ ((0 : Int32)).toInt ≤ 1) ∧ (0 ≤ (t_next).toInt ∧ (t_next).toInt ≤ 1000) ∧ (0 ≤ (t_kind).toInt ∧ (t_kind).toInt ≤ 4) ∧ (0 ≤ (t_place).toInt ∧ (t_place).toInt ≤ 1000) ∧ (0 ≤ (a_wares).toInt ∧ (a_wares).toInt ≤ 12) ∧ (¬ (t_kind).toInt = 3 ∨ (t_place).toInt ≤ 999) from ⟨by omega, by omega, by omega, by omega, by omega, by omega⟩) [9, 0, 1, 10, 2, 3, 4, 5, 6, 7, 8] (by decide) rfl (by decide) (by decide) dX5_readBowl_19
set_option maxHeartbeats 4000000 in
set_option maxRecDepth 100000 in
theorem c_X5_readStatement (l : Launch) (D : DG) (cyC cyI cyJ cyZ cyO : ClassId) (r0 : Nat) (r1 : Nat) (r2 : Nat) (t0 : Nat) (t1 : Nat) (e0 : Nat) (e1 : Nat) (e2 : Nat) (a0 : Nat) (a1 : Nat) (a2 : Nat) (a3 : Nat) (a4 : Nat) (a5 : Nat) (a6 : Nat) (a8 : Nat) (a9 : Nat) (a10 : Nat) (e3 : Nat) (a7 : Nat) (r_habits : Int32) (r_fault : Int32) (t_length : Int32) (t_next : Int32) (t_kind : Int32) (t_place : Int32) (t_number : Int32) (e_size : Int32) (e_nests : Int32) (a_wares : Int32) (a_shelves : Int32) (a_nests : Int32) (a_lids : Int32) (a_tops : Int32) (r_wn : Nat → Int64) (r_sn : Nat → Int64) (t_text : Nat → Int32) (e_steps : Nat → Int32) (e_end : Nat → Int32) (a_wide : Nat → Int32) (a_deep : Nat → Int32) (a_weight : Nat → Int32) (a_bears : Nat → Int32) (a_breaks : Nat → Int32) (a_habit : Nat → Int32) (a_height : Nat → Int32) (a_reach : Nat → Int32) (a_room : Nat → Int32) (h_t_length : 0 ≤ (t_length).toInt ∧ (t_length).toInt ≤ 1000) (h_t_next : 0 ≤ (t_next).toInt ∧ (t_next).toInt ≤ 1000) (h_t_kind : 0 ≤ (t_kind).toInt ∧ (t_kind).toInt ≤ 4) (h_t_place : 0 ≤ (t_place).toInt ∧ (t_place).toInt ≤ 1000) (h_e_size : 0 ≤ (e_size).toInt ∧ (e_size).toInt ≤ 1000) (h_e_nests : 0 ≤ (e_nests).toInt ∧ (e_nests).toInt ≤ 4) (h_a_wares : 0 ≤ (a_wares).toInt ∧ (a_wares).toInt ≤ 12) (h_a_shelves : 0 ≤ (a_shelves).toInt ∧ (a_shelves).toInt ≤ 4) (h_a_nests : 0 ≤ (a_nests).toInt ∧ (a_nests).toInt ≤ 4) (h_e_end : Iv 4 (0) (1000) e_end) (h_a_room : Iv 4 (0) (8) a_room) (ht3 : ¬ (t_kind).toInt = 3 ∨ (t_place).toInt ≤ 999) : KK l D (TY cyC cyI cyJ cyZ cyO) yX5_readStatement cX5_readStatement 1 (some .boolean) ({ frames := 43, cells := 0, slots := 0, locals := 1077 } : Room) 0 0 [.ref r0] [(r0, .inr (5, [.ref t0, .ref e0, .ref r1, .ref r2, .ref a0, .int r_habits, .int r_fault])), (r1, .inl (cyJ, 12, .inr (.inl r_wn))), (r2, .inl (cyJ, 4, .inr (.inl r_sn))), (t0, .inr (8, [.ref t1, .int t_length, .int t_next, .int t_kind, .int t_place, .int t_number])), (t1, .inl (cyC, 1000, .inl t_text)), (e0, .inr (1, [.int e_size, .int e_nests, .ref e1, .ref e2, .ref e3])), (e1, .inl (cyI, 1000, .inl e_steps)), (e2, .inl (cyI, 4, .inl e_end)), (a0, .inr (9, [.int a_wares, .int a_shelves, .int a_nests, .ref a1, .ref a2, .ref a3, .ref a4, .ref a5, .ref a6, .int a_lids, .int a_tops, .ref a7, .ref a8, .ref a9, .ref a10])), (a1, .inl (cyI, 12, .inl a_wide)), (a2, .inl (cyI, 12, .inl a_deep)), (a3, .inl (cyI, 12, .inl a_weight)), (a4, .inl (cyI, 12, .inl a_bears)), (a5, .inl (cyI, 12, .inl a_breaks)), (a6, .inl (cyI, 12, .inl a_habit)), (a8, .inl (cyI, 4, .inl a_height)), (a9, .inl (cyI, 4, .inl a_reach)), (a10, .inl (cyI, 4, .inl a_room))] (fun u => some (.int (u.2.1 0))) (fun u => (0 ≤ (u.2.1 0).toInt ∧ (u.2.1 0).toInt ≤ 1) ∧ (0 ≤ (u.2.1 3).toInt ∧ (u.2.1 3).toInt ≤ 1000) ∧ (0 ≤ (u.2.1 4).toInt ∧ (u.2.1 4).toInt ≤ 4) ∧ (0 ≤ (u.2.1 5).toInt ∧ (u.2.1 5).toInt ≤ 1000) ∧ (0 ≤ (u.2.1 7).toInt ∧ (u.2.1 7).toInt ≤ 1000) ∧ (0 ≤ (u.2.1 8).toInt ∧ (u.2.1 8).toInt ≤ 4) ∧ (Iv 4 (0) (1000) (u.2.2.1 1)) ∧ (0 ≤ (u.2.1 9).toInt ∧ (u.2.1 9).toInt ≤ 12) ∧ (0 ≤ (u.2.1 10).toInt ∧ (u.2.1 10).toInt ≤ 4) ∧ (0 ≤ (u.2.1 11).toInt ∧ (u.2.1 11).toInt ≤ 4) ∧ (Iv 4 (0) (8) (u.2.2.1 10)) ∧ (¬ ((u.2.1 4)).toInt = 3 ∨ ((u.2.1 5)).toInt ≤ 999)) (fun u => [(r0, .inr (5, [.ref t0, .ref e0, .ref r1, .ref r2, .ref a0, .int (u.2.1 1), .int (u.2.1 2)])), (r1, .inl (cyJ, 12, .inr (.inl (u.2.2.2 0)))), (r2, .inl (cyJ, 4, .inr (.inl (u.2.2.2 1)))), (t0, .inr (8, [.ref t1, .int t_length, .int (u.2.1 3), .int (u.2.1 4), .int (u.2.1 5), .int (u.2.1 6)])), (t1, .inl (cyC, 1000, .inl t_text)), (e0, .inr (1, [.int (u.2.1 7), .int (u.2.1 8), .ref e1, .ref e2, .ref e3])), (e1, .inl (cyI, 1000, .inl (u.2.2.1 0))), (e2, .inl (cyI, 4, .inl (u.2.2.1 1))), (a0, .inr (9, [.int (u.2.1 9), .int (u.2.1 10), .int (u.2.1 11), .ref a1, .ref a2, .ref a3, .ref a4, .ref a5, .ref a6, .int (u.2.1 12), .int (u.2.1 13), .ref a7, .ref a8, .ref a9, .ref a10])), (a1, .inl (cyI, 12, .inl (u.2.2.1 2))), (a2, .inl (cyI, 12, .inl (u.2.2.1 3))), (a3, .inl (cyI, 12, .inl (u.2.2.1 4))), (a4, .inl (cyI, 12, .inl (u.2.2.1 5))), (a5, .inl (cyI, 12, .inl (u.2.2.1 6))), (a6, .inl (cyI, 12, .inl (u.2.2.1 7))), (a8, .inl (cyI, 4, .inl (u.2.2.1 8))), (a9, .inl (cyI, 4, .inl (u.2.2.1 9))), (a10, .inl (cyI, 4, .inl (u.2.2.1 10)))]) := by
  refine KK.of (lv0 := [(0, .ref r0)]) (by decide) rfl (Nat.le_of_ble_eq_true rfl) ?_
  intro p e s m args below meth c A C hr hk hin
  refine j_aload_n (pc := 0) C dX5_readStatement_0 rfl 0 rfl ?_
  refine j_get (pc := 1) (ci := 5) (v := .ref t0) C inw_5 0 rfl rfl 0 (by decide) wd_296 rfl rfl dX5_readStatement_1 ?_
  refine j_ldcS (pc := 4) (i := 2) C (by decide) rfl dX5_readStatement_4 ?_
  refine j_callV (pc := 6) (As := [.ref (D.2.1 2)]) (rest := []) (wr := [(r0, .inr (5, [.ref t0, .ref e0, .ref r1, .ref r2, .ref a0, .int r_habits, .int r_fault])), (r1, .inl (cyJ, 12, .inr (.inl r_wn))), (r2, .inl (cyJ, 4, .inr (.inl r_sn))), (e0, .inr (1, [.int e_size, .int e_nests, .ref e1, .ref e2, .ref e3])), (e1, .inl (cyI, 1000, .inl e_steps)), (e2, .inl (cyI, 4, .inl e_end)), (a0, .inr (9, [.int a_wares, .int a_shelves, .int a_nests, .ref a1, .ref a2, .ref a3, .ref a4, .ref a5, .ref a6, .int a_lids, .int a_tops, .ref a7, .ref a8, .ref a9, .ref a10])), (a1, .inl (cyI, 12, .inl a_wide)), (a2, .inl (cyI, 12, .inl a_deep)), (a3, .inl (cyI, 12, .inl a_weight)), (a4, .inl (cyI, 12, .inl a_bears)), (a5, .inl (cyI, 12, .inl a_breaks)), (a6, .inl (cyI, 12, .inl a_habit)), (a8, .inl (cyI, 4, .inl a_height)), (a9, .inl (cyI, 4, .inl a_reach)), (a10, .inl (cyI, 4, .inl a_room))]) C (c_X8_isWord l D cyC cyI cyJ cyZ cyO t0 t1 2 t_length t_next t_kind t_place t_number t_text (by omega) (by omega) (by omega) (by omega) (by decide)) wd_288 wd_258 wd_312 wd_290 wd_291 ⟨by decide, by decide, rfl⟩ rfl ⟨rfl, rfl, by decide, by decide⟩ ⟨by decide, by decide⟩ [3, 4] [0, 1, 2, 5, 6, 7, 8, 9, 10, 11, 12, 13, 14, 15, 16, 17] rfl rfl ⟨by decide, by decide, by decide⟩ 3 rfl rfl rfl (Nat.le_of_ble_eq_true rfl) dX5_readStatement_6 (fun u_1 hw_2 => ?_)
  refine j_eq (ws2 := [(r0, .inr (5, [.ref t0, .ref e0, .ref r1, .ref r2, .ref a0, .int r_habits, .int r_fault])), (r1, .inl (cyJ, 12, .inr (.inl r_wn))), (r2, .inl (cyJ, 4, .inr (.inl r_sn))), (e0, .inr (1, [.int e_size, .int e_nests, .ref e1, .ref e2, .ref e3])), (e1, .inl (cyI, 1000, .inl e_steps)), (e2, .inl (cyI, 4, .inl e_end)), (a0, .inr (9, [.int a_wares, .int a_shelves, .int a_nests, .ref a1, .ref a2, .ref a3, .ref a4, .ref a5, .ref a6, .int a_lids, .int a_tops, .ref a7, .ref a8, .ref a9, .ref a10])), (a1, .inl (cyI, 12, .inl a_wide)), (a2, .inl (cyI, 12, .inl a_deep)), (a3, .inl (cyI, 12, .inl a_weight)), (a4, .inl (cyI, 12, .inl a_bears)), (a5, .inl (cyI, 12, .inl a_breaks)), (a6, .inl (cyI, 12, .inl a_habit)), (a8, .inl (cyI, 4, .inl a_height)), (a9, .inl (cyI, 4, .inl a_reach)), (a10, .inl (cyI, 4, .inl a_room)), (t0, .inr (8, [.ref t1, .int t_length, .int t_next, .int t_kind, .int t_place, .int t_number])), (t1, .inl (cyC, 1000, .inl t_text))]) (pc2 := 9) (lv2 := [(0, .ref r0)]) (st2 := [.int (u_1.2.1 0)]) rfl rfl rfl rfl ?_
  have hw_2_0 : 0 ≤ (u_1.2.1 0).toInt ∧ (u_1.2.1 0).toInt ≤ 1 := hw_2
  refine j_if_eq (pc := 9) (tgt := 17) C dX5_readStatement_9 (by decide) (fun c_3 => ?_) (fun c_3 => ?_)
  · skip
    have el_0 : (0 : Int32).toInt = 0 := rfl
    rw [i_eq] at c_3
    refine j_aload_n (pc := 17) C dX5_readStatement_17 rfl 0 rfl ?_
    refine j_get (pc := 18) (ci := 5) (v := .ref t0) C inw_5 0 rfl rfl 0 (by decide) wd_296 rfl rfl dX5_readStatement_18 ?_
    refine j_ldcS (pc := 21) (i := 3) C (by decide) rfl dX5_readStatement_21 ?_
    refine j_callV (pc := 23) (As := [.ref (D.2.1 3)]) (rest := []) (wr := [(r0, .inr (5, [.ref t0, .ref e0, .ref r1, .ref r2, .ref a0, .int r_habits, .int r_fault])), (r1, .inl (cyJ, 12, .inr (.inl r_wn))), (r2, .inl (cyJ, 4, .inr (.inl r_sn))), (e0, .inr (1, [.int e_size, .int e_nests, .ref e1, .ref e2, .ref e3])), (e1, .inl (cyI, 1000, .inl e_steps)), (e2, .inl (cyI, 4, .inl e_end)), (a0, .inr (9, [.int a_wares, .int a_shelves, .int a_nests, .ref a1, .ref a2, .ref a3, .ref a4, .ref a5, .ref a6, .int a_lids, .int a_tops, .ref a7, .ref a8, .ref a9, .ref a10])), (a1, .inl (cyI, 12, .inl a_wide)), (a2, .inl (cyI, 12, .inl a_deep)), (a3, .inl (cyI, 12, .inl a_weight)), (a4, .inl (cyI, 12, .inl a_bears)), (a5, .inl (cyI, 12, .inl a_breaks)), (a6, .inl (cyI, 12, .inl a_habit)), (a8, .inl (cyI, 4, .inl a_height)), (a9, .inl (cyI, 4, .inl a_reach)), (a10, .inl (cyI, 4, .inl a_room))]) C (c_X8_isWord l D cyC cyI cyJ cyZ cyO t0 t1 3 t_length t_next t_kind t_place t_number t_text (by omega) (by omega) (by omega) (by omega) (by decide)) wd_288 wd_258 wd_312 wd_290 wd_291 ⟨by decide, by decide, rfl⟩ rfl ⟨rfl, rfl, by decide, by decide⟩ ⟨by decide, by decide⟩ [16, 17] [0, 1, 2, 3, 4, 5, 6, 7, 8, 9, 10, 11, 12, 13, 14, 15] rfl rfl ⟨by decide, by decide, by decide⟩ 16 rfl rfl rfl (Nat.le_of_ble_eq_true rfl) dX5_readStatement_23 (fun u_4 hw_5 => ?_)
    refine j_eq (ws2 := [(r0, .inr (5, [.ref t0, .ref e0, .ref r1, .ref r2, .ref a0, .int r_habits, .int r_fault])), (r1, .inl (cyJ, 12, .inr (.inl r_wn))), (r2, .inl (cyJ, 4, .inr (.inl r_sn))), (e0, .inr (1, [.int e_size, .int e_nests, .ref e1, .ref e2, .ref e3])), (e1, .inl (cyI, 1000, .inl e_steps)), (e2, .inl (cyI, 4, .inl e_end)), (a0, .inr (9, [.int a_wares, .int a_shelves, .int a_nests, .ref a1, .ref a2, .ref a3, .ref a4, .ref a5, .ref a6, .int a_lids, .int a_tops, .ref a7, .ref a8, .ref a9, .ref a10])), (a1, .inl (cyI, 12, .inl a_wide)), (a2, .inl (cyI, 12, .inl a_deep)), (a3, .inl (cyI, 12, .inl a_weight)), (a4, .inl (cyI, 12, .inl a_bears)), (a5, .inl (cyI, 12, .inl a_breaks)), (a6, .inl (cyI, 12, .inl a_habit)), (a8, .inl (cyI, 4, .inl a_height)), (a9, .inl (cyI, 4, .inl a_reach)), (a10, .inl (cyI, 4, .inl a_room)), (t0, .inr (8, [.ref t1, .int t_length, .int t_next, .int t_kind, .int t_place, .int t_number])), (t1, .inl (cyC, 1000, .inl t_text))]) (pc2 := 26) (lv2 := [(0, .ref r0)]) (st2 := [.int (u_4.2.1 0)]) rfl rfl rfl rfl ?_
    have hw_5_0 : 0 ≤ (u_4.2.1 0).toInt ∧ (u_4.2.1 0).toInt ≤ 1 := hw_5
    refine j_if_eq (pc := 26) (tgt := 34) C dX5_readStatement_26 (by decide) (fun c_6 => ?_) (fun c_6 => ?_)
    · skip
      have el_0 : (0 : Int32).toInt = 0 := rfl
      rw [i_eq] at c_6
      refine j_aload_n (pc := 34) C dX5_readStatement_34 rfl 0 rfl ?_
      refine j_get (pc := 35) (ci := 5) (v := .ref t0) C inw_5 0 rfl rfl 0 (by decide) wd_296 rfl rfl dX5_readStatement_35 ?_
      refine j_ldcS (pc := 38) (i := 4) C (by decide) rfl dX5_readStatement_38 ?_
      refine j_callV (pc := 40) (As := [.ref (D.2.1 4)]) (rest := []) (wr := [(r0, .inr (5, [.ref t0, .ref e0, .ref r1, .ref r2, .ref a0, .int r_habits, .int r_fault])), (r1, .inl (cyJ, 12, .inr (.inl r_wn))), (r2, .inl (cyJ, 4, .inr (.inl r_sn))), (e0, .inr (1, [.int e_size, .int e_nests, .ref e1, .ref e2, .ref e3])), (e1, .inl (cyI, 1000, .inl e_steps)), (e2, .inl (cyI, 4, .inl e_end)), (a0, .inr (9, [.int a_wares, .int a_shelves, .int a_nests, .ref a1, .ref a2, .ref a3, .ref a4, .ref a5, .ref a6, .int a_lids, .int a_tops, .ref a7, .ref a8, .ref a9, .ref a10])), (a1, .inl (cyI, 12, .inl a_wide)), (a2, .inl (cyI, 12, .inl a_deep)), (a3, .inl (cyI, 12, .inl a_weight)), (a4, .inl (cyI, 12, .inl a_bears)), (a5, .inl (cyI, 12, .inl a_breaks)), (a6, .inl (cyI, 12, .inl a_habit)), (a8, .inl (cyI, 4, .inl a_height)), (a9, .inl (cyI, 4, .inl a_reach)), (a10, .inl (cyI, 4, .inl a_room))]) C (c_X8_isWord l D cyC cyI cyJ cyZ cyO t0 t1 4 t_length t_next t_kind t_place t_number t_text (by omega) (by omega) (by omega) (by omega) (by decide)) wd_288 wd_258 wd_312 wd_290 wd_291 ⟨by decide, by decide, rfl⟩ rfl ⟨rfl, rfl, by decide, by decide⟩ ⟨by decide, by decide⟩ [16, 17] [0, 1, 2, 3, 4, 5, 6, 7, 8, 9, 10, 11, 12, 13, 14, 15] rfl rfl ⟨by decide, by decide, by decide⟩ 16 rfl rfl rfl (Nat.le_of_ble_eq_true rfl) dX5_readStatement_40 (fun u_7 hw_8 => ?_)
      refine j_eq (ws2 := [(r0, .inr (5, [.ref t0, .ref e0, .ref r1, .ref r2, .ref a0, .int r_habits, .int r_fault])), (r1, .inl (cyJ, 12, .inr (.inl r_wn))), (r2, .inl (cyJ, 4, .inr (.inl r_sn))), (e0, .inr (1, [.int e_size, .int e_nests, .ref e1, .ref e2, .ref e3])), (e1, .inl (cyI, 1000, .inl e_steps)), (e2, .inl (cyI, 4, .inl e_end)), (a0, .inr (9, [.int a_wares, .int a_shelves, .int a_nests, .ref a1, .ref a2, .ref a3, .ref a4, .ref a5, .ref a6, .int a_lids, .int a_tops, .ref a7, .ref a8, .ref a9, .ref a10])), (a1, .inl (cyI, 12, .inl a_wide)), (a2, .inl (cyI, 12, .inl a_deep)), (a3, .inl (cyI, 12, .inl a_weight)), (a4, .inl (cyI, 12, .inl a_bears)), (a5, .inl (cyI, 12, .inl a_breaks)), (a6, .inl (cyI, 12, .inl a_habit)), (a8, .inl (cyI, 4, .inl a_height)), (a9, .inl (cyI, 4, .inl a_reach)), (a10, .inl (cyI, 4, .inl a_room)), (t0, .inr (8, [.ref t1, .int t_length, .int t_next, .int t_kind, .int t_place, .int t_number])), (t1, .inl (cyC, 1000, .inl t_text))]) (pc2 := 43) (lv2 := [(0, .ref r0)]) (st2 := [.int (u_7.2.1 0)]) rfl rfl rfl rfl ?_
      have hw_8_0 : 0 ≤ (u_7.2.1 0).toInt ∧ (u_7.2.1 0).toInt ≤ 1 := hw_8
      refine j_if_eq (pc := 43) (tgt := 51) C dX5_readStatement_43 (by decide) (fun c_9 => ?_) (fun c_9 => ?_)
      · skip
        have el_0 : (0 : Int32).toInt = 0 := rfl
        rw [i_eq] at c_9
        refine j_aload_n (pc := 51) C dX5_readStatement_51 rfl 0 rfl ?_
        refine j_get (pc := 52) (ci := 5) (v := .ref t0) C inw_5 0 rfl rfl 0 (by decide) wd_296 rfl rfl dX5_readStatement_52 ?_
        refine j_ldcS (pc := 55) (i := 5) C (by decide) rfl dX5_readStatement_55 ?_
        refine j_callV (pc := 57) (As := [.ref (D.2.1 5)]) (rest := []) (wr := [(r0, .inr (5, [.ref t0, .ref e0, .ref r1, .ref r2, .ref a0, .int r_habits, .int r_fault])), (r1, .inl (cyJ, 12, .inr (.inl r_wn))), (r2, .inl (cyJ, 4, .inr (.inl r_sn))), (e0, .inr (1, [.int e_size, .int e_nests, .ref e1, .ref e2, .ref e3])), (e1, .inl (cyI, 1000, .inl e_steps)), (e2, .inl (cyI, 4, .inl e_end)), (a0, .inr (9, [.int a_wares, .int a_shelves, .int a_nests, .ref a1, .ref a2, .ref a3, .ref a4, .ref a5, .ref a6, .int a_lids, .int a_tops, .ref a7, .ref a8, .ref a9, .ref a10])), (a1, .inl (cyI, 12, .inl a_wide)), (a2, .inl (cyI, 12, .inl a_deep)), (a3, .inl (cyI, 12, .inl a_weight)), (a4, .inl (cyI, 12, .inl a_bears)), (a5, .inl (cyI, 12, .inl a_breaks)), (a6, .inl (cyI, 12, .inl a_habit)), (a8, .inl (cyI, 4, .inl a_height)), (a9, .inl (cyI, 4, .inl a_reach)), (a10, .inl (cyI, 4, .inl a_room))]) C (c_X8_isWord l D cyC cyI cyJ cyZ cyO t0 t1 5 t_length t_next t_kind t_place t_number t_text (by omega) (by omega) (by omega) (by omega) (by decide)) wd_288 wd_258 wd_312 wd_290 wd_291 ⟨by decide, by decide, rfl⟩ rfl ⟨rfl, rfl, by decide, by decide⟩ ⟨by decide, by decide⟩ [16, 17] [0, 1, 2, 3, 4, 5, 6, 7, 8, 9, 10, 11, 12, 13, 14, 15] rfl rfl ⟨by decide, by decide, by decide⟩ 16 rfl rfl rfl (Nat.le_of_ble_eq_true rfl) dX5_readStatement_57 (fun u_10 hw_11 => ?_)
        refine j_eq (ws2 := [(r0, .inr (5, [.ref t0, .ref e0, .ref r1, .ref r2, .ref a0, .int r_habits, .int r_fault])), (r1, .inl (cyJ, 12, .inr (.inl r_wn))), (r2, .inl (cyJ, 4, .inr (.inl r_sn))), (e0, .inr (1, [.int e_size, .int e_nests, .ref e1, .ref e2, .ref e3])), (e1, .inl (cyI, 1000, .inl e_steps)), (e2, .inl (cyI, 4, .inl e_end)), (a0, .inr (9, [.int a_wares, .int a_shelves, .int a_nests, .ref a1, .ref a2, .ref a3, .ref a4, .ref a5, .ref a6, .int a_lids, .int a_tops, .ref a7, .ref a8, .ref a9, .ref a10])), (a1, .inl (cyI, 12, .inl a_wide)), (a2, .inl (cyI, 12, .inl a_deep)), (a3, .inl (cyI, 12, .inl a_weight)), (a4, .inl (cyI, 12, .inl a_bears)), (a5, .inl (cyI, 12, .inl a_breaks)), (a6, .inl (cyI, 12, .inl a_habit)), (a8, .inl (cyI, 4, .inl a_height)), (a9, .inl (cyI, 4, .inl a_reach)), (a10, .inl (cyI, 4, .inl a_room)), (t0, .inr (8, [.ref t1, .int t_length, .int t_next, .int t_kind, .int t_place, .int t_number])), (t1, .inl (cyC, 1000, .inl t_text))]) (pc2 := 60) (lv2 := [(0, .ref r0)]) (st2 := [.int (u_10.2.1 0)]) rfl rfl rfl rfl ?_
        have hw_11_0 : 0 ≤ (u_10.2.1 0).toInt ∧ (u_10.2.1 0).toInt ≤ 1 := hw_11
        refine j_if_eq (pc := 60) (tgt := 68) C dX5_readStatement_60 (by decide) (fun c_12 => ?_) (fun c_12 => ?_)
        · skip
          have el_0 : (0 : Int32).toInt = 0 := rfl
          rw [i_eq] at c_12
          refine j_aload_n (pc := 68) C dX5_readStatement_68 rfl 0 rfl ?_
          refine j_get (pc := 69) (ci := 5) (v := .ref t0) C inw_5 0 rfl rfl 0 (by decide) wd_296 rfl rfl dX5_readStatement_69 ?_
          refine j_ldcS (pc := 72) (i := 6) C (by decide) rfl dX5_readStatement_72 ?_
          refine j_callV (pc := 74) (As := [.ref (D.2.1 6)]) (rest := []) (wr := [(r0, .inr (5, [.ref t0, .ref e0, .ref r1, .ref r2, .ref a0, .int r_habits, .int r_fault])), (r1, .inl (cyJ, 12, .inr (.inl r_wn))), (r2, .inl (cyJ, 4, .inr (.inl r_sn))), (e0, .inr (1, [.int e_size, .int e_nests, .ref e1, .ref e2, .ref e3])), (e1, .inl (cyI, 1000, .inl e_steps)), (e2, .inl (cyI, 4, .inl e_end)), (a0, .inr (9, [.int a_wares, .int a_shelves, .int a_nests, .ref a1, .ref a2, .ref a3, .ref a4, .ref a5, .ref a6, .int a_lids, .int a_tops, .ref a7, .ref a8, .ref a9, .ref a10])), (a1, .inl (cyI, 12, .inl a_wide)), (a2, .inl (cyI, 12, .inl a_deep)), (a3, .inl (cyI, 12, .inl a_weight)), (a4, .inl (cyI, 12, .inl a_bears)), (a5, .inl (cyI, 12, .inl a_breaks)), (a6, .inl (cyI, 12, .inl a_habit)), (a8, .inl (cyI, 4, .inl a_height)), (a9, .inl (cyI, 4, .inl a_reach)), (a10, .inl (cyI, 4, .inl a_room))]) C (c_X8_isWord l D cyC cyI cyJ cyZ cyO t0 t1 6 t_length t_next t_kind t_place t_number t_text (by omega) (by omega) (by omega) (by omega) (by decide)) wd_288 wd_258 wd_312 wd_290 wd_291 ⟨by decide, by decide, rfl⟩ rfl ⟨rfl, rfl, by decide, by decide⟩ ⟨by decide, by decide⟩ [16, 17] [0, 1, 2, 3, 4, 5, 6, 7, 8, 9, 10, 11, 12, 13, 14, 15] rfl rfl ⟨by decide, by decide, by decide⟩ 16 rfl rfl rfl (Nat.le_of_ble_eq_true rfl) dX5_readStatement_74 (fun u_13 hw_14 => ?_)
          refine j_eq (ws2 := [(r0, .inr (5, [.ref t0, .ref e0, .ref r1, .ref r2, .ref a0, .int r_habits, .int r_fault])), (r1, .inl (cyJ, 12, .inr (.inl r_wn))), (r2, .inl (cyJ, 4, .inr (.inl r_sn))), (e0, .inr (1, [.int e_size, .int e_nests, .ref e1, .ref e2, .ref e3])), (e1, .inl (cyI, 1000, .inl e_steps)), (e2, .inl (cyI, 4, .inl e_end)), (a0, .inr (9, [.int a_wares, .int a_shelves, .int a_nests, .ref a1, .ref a2, .ref a3, .ref a4, .ref a5, .ref a6, .int a_lids, .int a_tops, .ref a7, .ref a8, .ref a9, .ref a10])), (a1, .inl (cyI, 12, .inl a_wide)), (a2, .inl (cyI, 12, .inl a_deep)), (a3, .inl (cyI, 12, .inl a_weight)), (a4, .inl (cyI, 12, .inl a_bears)), (a5, .inl (cyI, 12, .inl a_breaks)), (a6, .inl (cyI, 12, .inl a_habit)), (a8, .inl (cyI, 4, .inl a_height)), (a9, .inl (cyI, 4, .inl a_reach)), (a10, .inl (cyI, 4, .inl a_room)), (t0, .inr (8, [.ref t1, .int t_length, .int t_next, .int t_kind, .int t_place, .int t_number])), (t1, .inl (cyC, 1000, .inl t_text))]) (pc2 := 77) (lv2 := [(0, .ref r0)]) (st2 := [.int (u_13.2.1 0)]) rfl rfl rfl rfl ?_
          have hw_14_0 : 0 ≤ (u_13.2.1 0).toInt ∧ (u_13.2.1 0).toInt ≤ 1 := hw_14
          refine j_if_eq (pc := 77) (tgt := 85) C dX5_readStatement_77 (by decide) (fun c_15 => ?_) (fun c_15 => ?_)
          · skip
            have el_0 : (0 : Int32).toInt = 0 := rfl
            rw [i_eq] at c_15
            refine j_aload_n (pc := 85) C dX5_readStatement_85 rfl 0 rfl ?_
            refine j_get (pc := 86) (ci := 5) (v := .ref t0) C inw_5 0 rfl rfl 0 (by decide) wd_296 rfl rfl dX5_readStatement_86 ?_
            refine j_ldcS (pc := 89) (i := 7) C (by decide) rfl dX5_readStatement_89 ?_
            refine j_callV (pc := 91) (As := [.ref (D.2.1 7)]) (rest := []) (wr := [(r0, .inr (5, [.ref t0, .ref e0, .ref r1, .ref r2, .ref a0, .int r_habits, .int r_fault])), (r1, .inl (cyJ, 12, .inr (.inl r_wn))), (r2, .inl (cyJ, 4, .inr (.inl r_sn))), (e0, .inr (1, [.int e_size, .int e_nests, .ref e1, .ref e2, .ref e3])), (e1, .inl (cyI, 1000, .inl e_steps)), (e2, .inl (cyI, 4, .inl e_end)), (a0, .inr (9, [.int a_wares, .int a_shelves, .int a_nests, .ref a1, .ref a2, .ref a3, .ref a4, .ref a5, .ref a6, .int a_lids, .int a_tops, .ref a7, .ref a8, .ref a9, .ref a10])), (a1, .inl (cyI, 12, .inl a_wide)), (a2, .inl (cyI, 12, .inl a_deep)), (a3, .inl (cyI, 12, .inl a_weight)), (a4, .inl (cyI, 12, .inl a_bears)), (a5, .inl (cyI, 12, .inl a_breaks)), (a6, .inl (cyI, 12, .inl a_habit)), (a8, .inl (cyI, 4, .inl a_height)), (a9, .inl (cyI, 4, .inl a_reach)), (a10, .inl (cyI, 4, .inl a_room))]) C (c_X8_isWord l D cyC cyI cyJ cyZ cyO t0 t1 7 t_length t_next t_kind t_place t_number t_text (by omega) (by omega) (by omega) (by omega) (by decide)) wd_288 wd_258 wd_312 wd_290 wd_291 ⟨by decide, by decide, rfl⟩ rfl ⟨rfl, rfl, by decide, by decide⟩ ⟨by decide, by decide⟩ [16, 17] [0, 1, 2, 3, 4, 5, 6, 7, 8, 9, 10, 11, 12, 13, 14, 15] rfl rfl ⟨by decide, by decide, by decide⟩ 16 rfl rfl rfl (Nat.le_of_ble_eq_true rfl) dX5_readStatement_91 (fun u_16 hw_17 => ?_)
            refine j_eq (ws2 := [(r0, .inr (5, [.ref t0, .ref e0, .ref r1, .ref r2, .ref a0, .int r_habits, .int r_fault])), (r1, .inl (cyJ, 12, .inr (.inl r_wn))), (r2, .inl (cyJ, 4, .inr (.inl r_sn))), (e0, .inr (1, [.int e_size, .int e_nests, .ref e1, .ref e2, .ref e3])), (e1, .inl (cyI, 1000, .inl e_steps)), (e2, .inl (cyI, 4, .inl e_end)), (a0, .inr (9, [.int a_wares, .int a_shelves, .int a_nests, .ref a1, .ref a2, .ref a3, .ref a4, .ref a5, .ref a6, .int a_lids, .int a_tops, .ref a7, .ref a8, .ref a9, .ref a10])), (a1, .inl (cyI, 12, .inl a_wide)), (a2, .inl (cyI, 12, .inl a_deep)), (a3, .inl (cyI, 12, .inl a_weight)), (a4, .inl (cyI, 12, .inl a_bears)), (a5, .inl (cyI, 12, .inl a_breaks)), (a6, .inl (cyI, 12, .inl a_habit)), (a8, .inl (cyI, 4, .inl a_height)), (a9, .inl (cyI, 4, .inl a_reach)), (a10, .inl (cyI, 4, .inl a_room)), (t0, .inr (8, [.ref t1, .int t_length, .int t_next, .int t_kind, .int t_place, .int t_number])), (t1, .inl (cyC, 1000, .inl t_text))]) (pc2 := 94) (lv2 := [(0, .ref r0)]) (st2 := [.int (u_16.2.1 0)]) rfl rfl rfl rfl ?_
            have hw_17_0 : 0 ≤ (u_16.2.1 0).toInt ∧ (u_16.2.1 0).toInt ≤ 1 := hw_17
            refine j_if_eq (pc := 94) (tgt := 104) C dX5_readStatement_94 (by decide) (fun c_18 => ?_) (fun c_18 => ?_)
            · skip
              have el_0 : (0 : Int32).toInt = 0 := rfl
              rw [i_eq] at c_18
              refine j_aload_n (pc := 104) C dX5_readStatement_104 rfl 0 rfl ?_
              refine j_iconst (pc := 105) (v := 1) C dX5_readStatement_105 (by decide) ?_
              refine j_callV (pc := 106) (As := [.int 1]) (rest := []) (wr := [(r1, .inl (cyJ, 12, .inr (.inl r_wn))), (r2, .inl (cyJ, 4, .inr (.inl r_sn))), (e0, .inr (1, [.int e_size, .int e_nests, .ref e1, .ref e2, .ref e3])), (e1, .inl (cyI, 1000, .inl e_steps)), (e2, .inl (cyI, 4, .inl e_end)), (a0, .inr (9, [.int a_wares, .int a_shelves, .int a_nests, .ref a1, .ref a2, .ref a3, .ref a4, .ref a5, .ref a6, .int a_lids, .int a_tops, .ref a7, .ref a8, .ref a9, .ref a10])), (a1, .inl (cyI, 12, .inl a_wide)), (a2, .inl (cyI, 12, .inl a_deep)), (a3, .inl (cyI, 12, .inl a_weight)), (a4, .inl (cyI, 12, .inl a_bears)), (a5, .inl (cyI, 12, .inl a_breaks)), (a6, .inl (cyI, 12, .inl a_habit)), (a8, .inl (cyI, 4, .inl a_height)), (a9, .inl (cyI, 4, .inl a_reach)), (a10, .inl (cyI, 4, .inl a_room)), (t1, .inl (cyC, 1000, .inl t_text))]) C (c_X5_wrong l D cyC cyI cyJ cyZ cyO r0 t0 e0 r1 r2 a0 t1 1 r_habits r_fault t_length t_next t_kind t_place t_number (by omega) (by omega) (by omega) (by omega)) wd_305 wd_306 wd_307 wd_308 wd_309 ⟨by decide, by decide, rfl⟩ rfl ⟨rfl, rfl, by decide, by decide⟩ ⟨by decide, by decide⟩ [0, 16] [1, 2, 3, 4, 5, 6, 7, 8, 9, 10, 11, 12, 13, 14, 15, 17] rfl rfl ⟨by decide, by decide, by decide⟩ 0 rfl rfl rfl (Nat.le_of_ble_eq_true rfl) dX5_readStatement_106 (fun u_19 hw_20 => ?_)
              refine j_eq (ws2 := [(r1, .inl (cyJ, 12, .inr (.inl r_wn))), (r2, .inl (cyJ, 4, .inr (.inl r_sn))), (e0, .inr (1, [.int e_size, .int e_nests, .ref e1, .ref e2, .ref e3])), (e1, .inl (cyI, 1000, .inl e_steps)), (e2, .inl (cyI, 4, .inl e_end)), (a0, .inr (9, [.int a_wares, .int a_shelves, .int a_nests, .ref a1, .ref a2, .ref a3, .ref a4, .ref a5, .ref a6, .int a_lids, .int a_tops, .ref a7, .ref a8, .ref a9, .ref a10])), (a1, .inl (cyI, 12, .inl a_wide)), (a2, .inl (cyI, 12, .inl a_deep)), (a3, .inl (cyI, 12, .inl a_weight)), (a4, .inl (cyI, 12, .inl a_bears)), (a5, .inl (cyI, 12, .inl a_breaks)), (a6, .inl (cyI, 12, .inl a_habit)), (a8, .inl (cyI, 4, .inl a_height)), (a9, .inl (cyI, 4, .inl a_reach)), (a10, .inl (cyI, 4, .inl a_room)), (t1, .inl (cyC, 1000, .inl t_text)), (r0, .inr (5, [.ref t0, .ref e0, .ref r1, .ref r2, .ref a0, .int r_habits, .int (u_19.2.1 0)])), (t0, .inr (8, [.ref t1, .int t_length, .int t_next, .int t_kind, .int t_place, .int t_number]))]) (pc2 := 109) (lv2 := [(0, .ref r0)]) (st2 := [.int 0]) rfl rfl rfl rfl ?_
              have el_0 : (0 : Int32).toInt = 0 := rfl
              have el_0 : (0 : Int32).toInt = 0 := rfl
              exact j_zret (pc := 109) C hr rfl hk (fun i => [].getD i 0, fun i => [0, r_habits, (u_19.2.1 0), t_next, t_kind, t_place, t_number, e_size, e_nests, a_wares, a_shelves, a_nests, a_lids, a_tops].getD i 0, fun i => [e_steps, e_end, a_wide, a_deep, a_weight, a_bears, a_breaks, a_habit, a_height, a_reach, a_room].getD i (fun _ => 0), fun i => [r_wn, r_sn].getD i (fun _ => 0)) rfl (show (0 ≤ ((0 : Int32)).toInt ∧ ((0 : Int32)).toInt ≤ 1) ∧ (0 ≤ (t_next).toInt ∧ (t_next).toInt ≤ 1000) ∧ (0 ≤ (t_kind).toInt ∧ (t_kind).toInt ≤ 4) ∧ (0 ≤ (t_place).toInt ∧ (t_place).toInt ≤ 1000) ∧ (0 ≤ (e_size).toInt ∧ (e_size).toInt ≤ 1000) ∧ (0 ≤ (e_nests).toInt ∧ (e_nests).toInt ≤ 4) ∧ (Iv 4 (0) (1000) e_end) ∧ (0 ≤ (a_wares).toInt ∧ (a_wares).toInt ≤ 12) ∧ (0 ≤ (a_shelves).toInt ∧ (a_shelves).toInt ≤ 4) ∧ (0 ≤ (a_nests).toInt ∧ (a_nests).toInt ≤ 4) ∧ (Iv 4 (0) (8) a_room) ∧ (¬ (t_kind).toInt = 3 ∨ (t_place).toInt ≤ 999) from ⟨by omega, by omega, by omega, by omega, by omega, by omega, h_e_end, by omega, by omega, by omega, h_a_room, by omega⟩) [16, 0, 1, 17, 15, 2, 3, 4, 5, 6, 7, 8, 9, 10, 11, 12, 13, 14] (by decide) rfl (by decide) (by decide) dX5_readStatement_109
            · skip
              have el_0 : (0 : Int32).toInt = 0 := rfl
              rw [i_eq] at c_18
              refine j_aload_n (pc := 97) C dX5_readStatement_97 rfl 0 rfl ?_
              refine j_callV (pc := 98) (As := []) (rest := []) (wr := [(r1, .inl (cyJ, 12, .inr (.inl r_wn))), (r2, .inl (cyJ, 4, .inr (.inl r_sn))), (a1, .inl (cyI, 12, .inl a_wide)), (a2, .inl (cyI, 12, .inl a_deep)), (a3, .inl (cyI, 12, .inl a_weight)), (a4, .inl (cyI, 12, .inl a_bears)), (a5, .inl (cyI, 12, .inl a_breaks)), (a6, .inl (cyI, 12, .inl a_habit)), (a8, .inl (cyI, 4, .inl a_height)), (a9, .inl (cyI, 4, .inl a_reach)), (a10, .inl (cyI, 4, .inl a_room))]) C (c_X5_readNest l D cyC cyI cyJ cyZ cyO r0 t0 t1 e0 e1 e2 a0 r1 r2 e3 a1 a2 a3 a4 a5 a6 a7 a8 a9 a10 r_habits r_fault t_length t_next t_kind t_place t_number e_size e_nests a_wares a_shelves a_nests a_lids a_tops t_text e_steps e_end (by omega) (by omega) (by omega) (by omega) (by omega) (by omega) (by omega) (by omega) (by omega) h_e_end (by omega)) wd_386 wd_306 wd_387 wd_388 wd_389 ⟨by decide, by decide, rfl⟩ rfl ⟨rfl, rfl, by decide, by decide⟩ ⟨by decide, by decide⟩ [0, 16, 17, 3, 4, 5, 6] [1, 2, 7, 8, 9, 10, 11, 12, 13, 14, 15] rfl rfl ⟨by decide, by decide, by decide⟩ 0 rfl rfl rfl (Nat.le_of_ble_eq_true rfl) dX5_readStatement_98 (fun u_21 hw_22 => ?_)
              refine j_eq (ws2 := [(r1, .inl (cyJ, 12, .inr (.inl r_wn))), (r2, .inl (cyJ, 4, .inr (.inl r_sn))), (a1, .inl (cyI, 12, .inl a_wide)), (a2, .inl (cyI, 12, .inl a_deep)), (a3, .inl (cyI, 12, .inl a_weight)), (a4, .inl (cyI, 12, .inl a_bears)), (a5, .inl (cyI, 12, .inl a_breaks)), (a6, .inl (cyI, 12, .inl a_habit)), (a8, .inl (cyI, 4, .inl a_height)), (a9, .inl (cyI, 4, .inl a_reach)), (a10, .inl (cyI, 4, .inl a_room)), (r0, .inr (5, [.ref t0, .ref e0, .ref r1, .ref r2, .ref a0, .int r_habits, .int (u_21.2.1 1)])), (t0, .inr (8, [.ref t1, .int t_length, .int (u_21.2.1 2), .int (u_21.2.1 3), .int (u_21.2.1 4), .int (u_21.2.1 5)])), (t1, .inl (cyC, 1000, .inl t_text)), (e0, .inr (1, [.int (u_21.2.1 6), .int (u_21.2.1 7), .ref e1, .ref e2, .ref e3])), (e1, .inl (cyI, 1000, .inl (u_21.2.2.1 0))), (e2, .inl (cyI, 4, .inl (u_21.2.2.1 1))), (a0, .inr (9, [.int a_wares, .int a_shelves, .int (u_21.2.1 8), .ref a1, .ref a2, .ref a3, .ref a4, .ref a5, .ref a6, .int a_lids, .int a_tops, .ref a7, .ref a8, .ref a9, .ref a10]))]) (pc2 := 101) (lv2 := [(0, .ref r0)]) (st2 := [.int (u_21.2.1 0)]) rfl rfl rfl rfl ?_
              obtain ⟨hw_22_0, hw_22_1, hw_22_2, hw_22_3, hw_22_4, hw_22_5, hw_22_6, hw_22_7, hw_22_8⟩ := hw_22
              refine j_goto (pc := 101) (tgt := 109) C dX5_readStatement_101 (by decide) ?_
              exact j_zret (pc := 109) C hr (nb_01 ⟨by omega, by omega⟩).1 hk (fun i => [].getD i 0, fun i => [(u_21.2.1 0), r_habits, (u_21.2.1 1), (u_21.2.1 2), (u_21.2.1 3), (u_21.2.1 4), (u_21.2.1 5), (u_21.2.1 6), (u_21.2.1 7), a_wares, a_shelves, (u_21.2.1 8), a_lids, a_tops].getD i 0, fun i => [(u_21.2.2.1 0), (u_21.2.2.1 1), a_wide, a_deep, a_weight, a_bears, a_breaks, a_habit, a_height, a_reach, a_room].getD i (fun _ => 0), fun i => [r_wn, r_sn].getD i (fun _ => 0)) rfl (show (0 ≤ ((u_21.2.1 0)).toInt ∧ ((u_21.2.1 0)).toInt ≤ 1) ∧ (0 ≤ ((u_21.2.1 2)).toInt ∧ ((u_21.2.1 2)).toInt ≤ 1000) ∧ (0 ≤ ((u_21.2.1 3)).toInt ∧ ((u_21.2.1 3)).toInt ≤ 4) ∧ (0 ≤ ((u_21.2.1 4)).toInt ∧ ((u_21.2.1 4)).toInt ≤ 1000) ∧ (0 ≤ ((u_21.2.1 6)).toInt ∧ ((u_21.2.1 6)).toInt ≤ 1000) ∧ (0 ≤ ((u_21.2.1 7)).toInt ∧ ((u_21.2.1 7)).toInt ≤ 4) ∧ (Iv 4 (0) (1000) (u_21.2.2.1 1)) ∧ (0 ≤ (a_wares).toInt ∧ (a_wares).toInt ≤ 12) ∧ (0 ≤ (a_shelves).toInt ∧ (a_shelves).toInt ≤ 4) ∧ (0 ≤ ((u_21.2.1 8)).toInt ∧ ((u_21.2.1 8)).toInt ≤ 4) ∧ (Iv 4 (0) (8) a_room) ∧ (¬ ((u_21.2.1 3)).toInt = 3 ∨ ((u_21.2.1 4)).toInt ≤ 999) from ⟨by omega, by omega, by omega, by omega, by omega, by omega, hw_22_6, by omega, by omega, by omega, h_a_room, by omega⟩) [11, 0, 1, 12, 13, 14, 15, 16, 17, 2, 3, 4, 5, 6, 7, 8, 9, 10] (by decide) rfl (by decide) (by decide) dX5_readStatement_109
          · skip
            have el_0 : (0 : Int32).toInt = 0 := rfl
            rw [i_eq] at c_15
            refine j_aload_n (pc := 80) C dX5_readStatement_80 rfl 0 rfl ?_
            refine j_callV (pc := 81) (As := []) (rest := []) (wr := [(r2, .inl (cyJ, 4, .inr (.inl r_sn))), (e0, .inr (1, [.int e_size, .int e_nests, .ref e1, .ref e2, .ref e3])), (e1, .inl (cyI, 1000, .inl e_steps)), (e2, .inl (cyI, 4, .inl e_end)), (a1, .inl (cyI, 12, .inl a_wide)), (a2, .inl (cyI, 12, .inl a_deep)), (a3, .inl (cyI, 12, .inl a_weight)), (a4, .inl (cyI, 12, .inl a_bears)), (a5, .inl (cyI, 12, .inl a_breaks)), (a8, .inl (cyI, 4, .inl a_height)), (a9, .inl (cyI, 4, .inl a_reach)), (a10, .inl (cyI, 4, .inl a_room))]) C (c_X5_readHabit l D cyC cyI cyJ cyZ cyO r0 r1 t0 t1 a0 a6 e0 r2 a1 a2 a3 a4 a5 a7 a8 a9 a10 r_habits r_fault t_length t_next t_kind t_place t_number a_wares a_shelves a_nests a_lids a_tops r_wn t_text a_habit (by omega) (by omega) (by omega) (by omega) (by omega) (by omega) (by omega) (by omega)) wd_390 wd_306 wd_391 wd_392 wd_393 ⟨by decide, by decide, rfl⟩ rfl ⟨rfl, rfl, by decide, by decide⟩ ⟨by decide, by decide⟩ [0, 1, 16, 17, 6, 12] [2, 3, 4, 5, 7, 8, 9, 10, 11, 13, 14, 15] rfl rfl ⟨by decide, by decide, by decide⟩ 0 rfl rfl rfl (Nat.le_of_ble_eq_true rfl) dX5_readStatement_81 (fun u_23 hw_24 => ?_)
            refine j_eq (ws2 := [(r2, .inl (cyJ, 4, .inr (.inl r_sn))), (e0, .inr (1, [.int e_size, .int e_nests, .ref e1, .ref e2, .ref e3])), (e1, .inl (cyI, 1000, .inl e_steps)), (e2, .inl (cyI, 4, .inl e_end)), (a1, .inl (cyI, 12, .inl a_wide)), (a2, .inl (cyI, 12, .inl a_deep)), (a3, .inl (cyI, 12, .inl a_weight)), (a4, .inl (cyI, 12, .inl a_bears)), (a5, .inl (cyI, 12, .inl a_breaks)), (a8, .inl (cyI, 4, .inl a_height)), (a9, .inl (cyI, 4, .inl a_reach)), (a10, .inl (cyI, 4, .inl a_room)), (r0, .inr (5, [.ref t0, .ref e0, .ref r1, .ref r2, .ref a0, .int (u_23.2.1 1), .int (u_23.2.1 2)])), (r1, .inl (cyJ, 12, .inr (.inl r_wn))), (t0, .inr (8, [.ref t1, .int t_length, .int (u_23.2.1 3), .int (u_23.2.1 4), .int (u_23.2.1 5), .int (u_23.2.1 6)])), (t1, .inl (cyC, 1000, .inl t_text)), (a0, .inr (9, [.int a_wares, .int a_shelves, .int a_nests, .ref a1, .ref a2, .ref a3, .ref a4, .ref a5, .ref a6, .int a_lids, .int a_tops, .ref a7, .ref a8, .ref a9, .ref a10])), (a6, .inl (cyI, 12, .inl (u_23.2.2.1 0)))]) (pc2 := 84) (lv2 := [(0, .ref r0)]) (st2 := [.int (u_23.2.1 0)]) rfl rfl rfl rfl ?_
            obtain ⟨hw_24_0, hw_24_1, hw_24_2, hw_24_3, hw_24_4⟩ := hw_24
            exact j_zret (pc := 84) C hr (nb_01 ⟨by omega, by omega⟩).1 hk (fun i => [].getD i 0, fun i => [(u_23.2.1 0), (u_23.2.1 1), (u_23.2.1 2), (u_23.2.1 3), (u_23.2.1 4), (u_23.2.1 5), (u_23.2.1 6), e_size, e_nests, a_wares, a_shelves, a_nests, a_lids, a_tops].getD i 0, fun i => [e_steps, e_end, a_wide, a_deep, a_weight, a_bears, a_breaks, (u_23.2.2.1 0), a_height, a_reach, a_room].getD i (fun _ => 0), fun i => [r_wn, r_sn].getD i (fun _ => 0)) rfl (show (0 ≤ ((u_23.2.1 0)).toInt ∧ ((u_23.2.1 0)).toInt ≤ 1) ∧ (0 ≤ ((u_23.2.1 3)).toInt ∧ ((u_23.2.1 3)).toInt ≤ 1000) ∧ (0 ≤ ((u_23.2.1 4)).toInt ∧ ((u_23.2.1 4)).toInt ≤ 4) ∧ (0 ≤ ((u_23.2.1 5)).toInt ∧ ((u_23.2.1 5)).toInt ≤ 1000) ∧ (0 ≤ (e_size).toInt ∧ (e_size).toInt ≤ 1000) ∧ (0 ≤ (e_nests).toInt ∧ (e_nests).toInt ≤ 4) ∧ (Iv 4 (0) (1000) e_end) ∧ (0 ≤ (a_wares).toInt ∧ (a_wares).toInt ≤ 12) ∧ (0 ≤ (a_shelves).toInt ∧ (a_shelves).toInt ≤ 4) ∧ (0 ≤ (a_nests).toInt ∧ (a_nests).toInt ≤ 4) ∧ (Iv 4 (0) (8) a_room) ∧ (¬ ((u_23.2.1 4)).toInt = 3 ∨ ((u_23.2.1 5)).toInt ≤ 999) from ⟨by omega, by omega, by omega, by omega, by omega, by omega, h_e_end, by omega, by omega, by omega, h_a_room, by omega⟩) [12, 13, 0, 14, 15, 1, 2, 3, 16, 4, 5, 6, 7, 8, 17, 9, 10, 11] (by decide) rfl (by decide) (by decide) dX5_readStatement_84
        · skip
          have el_0 : (0 : Int32).toInt = 0 := rfl
          rw [i_eq] at c_12
          refine j_aload_n (pc := 63) C dX5_readStatement_63 rfl 0 rfl ?_
          refine j_callV (pc := 64) (As := []) (rest := []) (wr := [(r2, .inl (cyJ, 4, .inr (.inl r_sn))), (e0, .inr (1, [.int e_size, .int e_nests, .ref e1, .ref e2, .ref e3])), (e1, .inl (cyI, 1000, .inl e_steps)), (e2, .inl (cyI, 4, .inl e_end)), (a1, .inl (cyI, 12, .inl a_wide)), (a2, .inl (cyI, 12, .inl a_deep)), (a3, .inl (cyI, 12, .inl a_weight)), (a4, .inl (cyI, 12, .inl a_bears)), (a5, .inl (cyI, 12, .inl a_breaks)), (a6, .inl (cyI, 12, .inl a_habit)), (a8, .inl (cyI, 4, .inl a_height)), (a9, .inl (cyI, 4, .inl a_reach)), (a10, .inl (cyI, 4, .inl a_room))]) C (c_X5_readTop l D cyC cyI cyJ cyZ cyO r0 r1 t0 t1 a0 e0 r2 a1 a2 a3 a4 a5 a6 a7 a8 a9 a10 r_habits r_fault t_length t_next t_kind t_place t_number a_wares a_shelves a_nests a_lids a_tops r_wn t_text (by omega) (by omega) (by omega) (by omega) (by omega) (by omega) (by omega) (by omega)) wd_394 wd_306 wd_395 wd_396 wd_397 ⟨by decide, by decide, rfl⟩ rfl ⟨rfl, rfl, by decide, by decide⟩ ⟨by decide, by decide⟩ [0, 1, 16, 17, 6] [2, 3, 4, 5, 7, 8, 9, 10, 11, 12, 13, 14, 15] rfl rfl ⟨by decide, by decide, by decide⟩ 0 rfl rfl rfl (Nat.le_of_ble_eq_true rfl) dX5_readStatement_64 (fun u_25 hw_26 => ?_)
          refine j_eq (ws2 := [(r2, .inl (cyJ, 4, .inr (.inl r_sn))), (e0, .inr (1, [.int e_size, .int e_nests, .ref e1, .ref e2, .ref e3])), (e1, .inl (cyI, 1000, .inl e_steps)), (e2, .inl (cyI, 4, .inl e_end)), (a1, .inl (cyI, 12, .inl a_wide)), (a2, .inl (cyI, 12, .inl a_deep)), (a3, .inl (cyI, 12, .inl a_weight)), (a4, .inl (cyI, 12, .inl a_bears)), (a5, .inl (cyI, 12, .inl a_breaks)), (a6, .inl (cyI, 12, .inl a_habit)), (a8, .inl (cyI, 4, .inl a_height)), (a9, .inl (cyI, 4, .inl a_reach)), (a10, .inl (cyI, 4, .inl a_room)), (r0, .inr (5, [.ref t0, .ref e0, .ref r1, .ref r2, .ref a0, .int r_habits, .int (u_25.2.1 1)])), (r1, .inl (cyJ, 12, .inr (.inl r_wn))), (t0, .inr (8, [.ref t1, .int t_length, .int (u_25.2.1 2), .int (u_25.2.1 3), .int (u_25.2.1 4), .int (u_25.2.1 5)])), (t1, .inl (cyC, 1000, .inl t_text)), (a0, .inr (9, [.int a_wares, .int a_shelves, .int a_nests, .ref a1, .ref a2, .ref a3, .ref a4, .ref a5, .ref a6, .int a_lids, .int (u_25.2.1 6), .ref a7, .ref a8, .ref a9, .ref a10]))]) (pc2 := 67) (lv2 := [(0, .ref r0)]) (st2 := [.int (u_25.2.1 0)]) rfl rfl rfl rfl ?_
          obtain ⟨hw_26_0, hw_26_1, hw_26_2, hw_26_3, hw_26_4⟩ := hw_26
          exact j_zret (pc := 67) C hr (nb_01 ⟨by omega, by omega⟩).1 hk (fun i => [].getD i 0, fun i => [(u_25.2.1 0), r_habits, (u_25.2.1 1), (u_25.2.1 2), (u_25.2.1 3), (u_25.2.1 4), (u_25.2.1 5), e_size, e_nests, a_wares, a_shelves, a_nests, a_lids, (u_25.2.1 6)].getD i 0, fun i => [e_steps, e_end, a_wide, a_deep, a_weight, a_bears, a_breaks, a_habit, a_height, a_reach, a_room].getD i (fun _ => 0), fun i => [r_wn, r_sn].getD i (fun _ => 0)) rfl (show (0 ≤ ((u_25.2.1 0)).toInt ∧ ((u_25.2.1 0)).toInt ≤ 1) ∧ (0 ≤ ((u_25.2.1 2)).toInt ∧ ((u_25.2.1 2)).toInt ≤ 1000) ∧ (0 ≤ ((u_25.2.1 3)).toInt ∧ ((u_25.2.1 3)).toInt ≤ 4) ∧ (0 ≤ ((u_25.2.1 4)).toInt ∧ ((u_25.2.1 4)).toInt ≤ 1000) ∧ (0 ≤ (e_size).toInt ∧ (e_size).toInt ≤ 1000) ∧ (0 ≤ (e_nests).toInt ∧ (e_nests).toInt ≤ 4) ∧ (Iv 4 (0) (1000) e_end) ∧ (0 ≤ (a_wares).toInt ∧ (a_wares).toInt ≤ 12) ∧ (0 ≤ (a_shelves).toInt ∧ (a_shelves).toInt ≤ 4) ∧ (0 ≤ (a_nests).toInt ∧ (a_nests).toInt ≤ 4) ∧ (Iv 4 (0) (8) a_room) ∧ (¬ ((u_25.2.1 3)).toInt = 3 ∨ ((u_25.2.1 4)).toInt ≤ 999) from ⟨by omega, by omega, by omega, by omega, by omega, by omega, h_e_end, by omega, by omega, by omega, h_a_room, by omega⟩) [13, 14, 0, 15, 16, 1, 2, 3, 17, 4, 5, 6, 7, 8, 9, 10, 11, 12] (by decide) rfl (by decide) (by decide) dX5_readStatement_67
      · skip
        have el_0 : (0 : Int32).toInt = 0 := rfl
        rw [i_eq] at c_9
        refine j_aload_n (pc := 46) C dX5_readStatement_46 rfl 0 rfl ?_
        refine j_callV (pc := 47) (As := []) (rest := []) (wr := [(e0, .inr (1, [.int e_size, .int e_nests, .ref e1, .ref e2, .ref e3])), (e1, .inl (cyI, 1000, .inl e_steps)), (e2, .inl (cyI, 4, .inl e_end)), (a1, .inl (cyI, 12, .inl a_wide)), (a2, .inl (cyI, 12, .inl a_deep)), (a3, .inl (cyI, 12, .inl a_weight)), (a4, .inl (cyI, 12, .inl a_bears)), (a5, .inl (cyI, 12, .inl a_breaks)), (a6, .inl (cyI, 12, .inl a_habit))]) C (c_X5_readShelf l D cyC cyI cyJ cyZ cyO r0 r1 r2 t0 t1 a0 a8 a9 a10 e0 a1 a2 a3 a4 a5 a6 a7 r_habits r_fault t_length t_next t_kind t_place t_number a_wares a_shelves a_nests a_lids a_tops r_wn r_sn t_text a_height a_reach a_room (by omega) (by omega) (by omega) (by omega) (by omega) (by omega) (by omega) h_a_room (by omega)) wd_398 wd_306 wd_399 wd_400 wd_401 ⟨by decide, by decide, rfl⟩ rfl ⟨rfl, rfl, by decide, by decide⟩ ⟨by decide, by decide⟩ [0, 1, 2, 16, 17, 6, 13, 14, 15] [3, 4, 5, 7, 8, 9, 10, 11, 12] rfl rfl ⟨by decide, by decide, by decide⟩ 0 rfl rfl rfl (Nat.le_of_ble_eq_true rfl) dX5_readStatement_47 (fun u_27 hw_28 => ?_)
        refine j_eq (ws2 := [(e0, .inr (1, [.int e_size, .int e_nests, .ref e1, .ref e2, .ref e3])), (e1, .inl (cyI, 1000, .inl e_steps)), (e2, .inl (cyI, 4, .inl e_end)), (a1, .inl (cyI, 12, .inl a_wide)), (a2, .inl (cyI, 12, .inl a_deep)), (a3, .inl (cyI, 12, .inl a_weight)), (a4, .inl (cyI, 12, .inl a_bears)), (a5, .inl (cyI, 12, .inl a_breaks)), (a6, .inl (cyI, 12, .inl a_habit)), (r0, .inr (5, [.ref t0, .ref e0, .ref r1, .ref r2, .ref a0, .int r_habits, .int (u_27.2.1 1)])), (r1, .inl (cyJ, 12, .inr (.inl r_wn))), (r2, .inl (cyJ, 4, .inr (.inl (u_27.2.2.2 0)))), (t0, .inr (8, [.ref t1, .int t_length, .int (u_27.2.1 2), .int (u_27.2.1 3), .int (u_27.2.1 4), .int (u_27.2.1 5)])), (t1, .inl (cyC, 1000, .inl t_text)), (a0, .inr (9, [.int a_wares, .int (u_27.2.1 6), .int a_nests, .ref a1, .ref a2, .ref a3, .ref a4, .ref a5, .ref a6, .int a_lids, .int a_tops, .ref a7, .ref a8, .ref a9, .ref a10])), (a8, .inl (cyI, 4, .inl (u_27.2.2.1 0))), (a9, .inl (cyI, 4, .inl (u_27.2.2.1 1))), (a10, .inl (cyI, 4, .inl (u_27.2.2.1 2)))]) (pc2 := 50) (lv2 := [(0, .ref r0)]) (st2 := [.int (u_27.2.1 0)]) rfl rfl rfl rfl ?_
        obtain ⟨hw_28_0, hw_28_1, hw_28_2, hw_28_3, hw_28_4, hw_28_5, hw_28_6⟩ := hw_28
        exact j_zret (pc := 50) C hr (nb_01 ⟨by omega, by omega⟩).1 hk (fun i => [].getD i 0, fun i => [(u_27.2.1 0), r_habits, (u_27.2.1 1), (u_27.2.1 2), (u_27.2.1 3), (u_27.2.1 4), (u_27.2.1 5), e_size, e_nests, a_wares, (u_27.2.1 6), a_nests, a_lids, a_tops].getD i 0, fun i => [e_steps, e_end, a_wide, a_deep, a_weight, a_bears, a_breaks, a_habit, (u_27.2.2.1 0), (u_27.2.2.1 1), (u_27.2.2.1 2)].getD i (fun _ => 0), fun i => [r_wn, (u_27.2.2.2 0)].getD i (fun _ => 0)) rfl (show (0 ≤ ((u_27.2.1 0)).toInt ∧ ((u_27.2.1 0)).toInt ≤ 1) ∧ (0 ≤ ((u_27.2.1 2)).toInt ∧ ((u_27.2.1 2)).toInt ≤ 1000) ∧ (0 ≤ ((u_27.2.1 3)).toInt ∧ ((u_27.2.1 3)).toInt ≤ 4) ∧ (0 ≤ ((u_27.2.1 4)).toInt ∧ ((u_27.2.1 4)).toInt ≤ 1000) ∧ (0 ≤ (e_size).toInt ∧ (e_size).toInt ≤ 1000) ∧ (0 ≤ (e_nests).toInt ∧ (e_nests).toInt ≤ 4) ∧ (Iv 4 (0) (1000) e_end) ∧ (0 ≤ (a_wares).toInt ∧ (a_wares).toInt ≤ 12) ∧ (0 ≤ ((u_27.2.1 6)).toInt ∧ ((u_27.2.1 6)).toInt ≤ 4) ∧ (0 ≤ (a_nests).toInt ∧ (a_nests).toInt ≤ 4) ∧ (Iv 4 (0) (8) (u_27.2.2.1 2)) ∧ (¬ ((u_27.2.1 3)).toInt = 3 ∨ ((u_27.2.1 4)).toInt ≤ 999) from ⟨by omega, by omega, by omega, by omega, by omega, by omega, h_e_end, by omega, by omega, by omega, hw_28_5, by omega⟩) [9, 10, 11, 12, 13, 0, 1, 2, 14, 3, 4, 5, 6, 7, 8, 15, 16, 17] (by decide) rfl (by decide) (by decide) dX5_readStatement_50
    · skip
      have el_0 : (0 : Int32).toInt = 0 := rfl
      rw [i_eq] at c_6
      refine j_aload_n (pc := 29) C dX5_readStatement_29 rfl 0 rfl ?_
      refine j_callV (pc := 30) (As := []) (rest := []) (wr := [(e0, .inr (1, [.int e_size, .int e_nests, .ref e1, .ref e2, .ref e3])), (e1, .inl (cyI, 1000, .inl e_steps)), (e2, .inl (cyI, 4, .inl e_end)), (a6, .inl (cyI, 12, .inl a_habit)), (a8, .inl (cyI, 4, .inl a_height)), (a9, .inl (cyI, 4, .inl a_reach)), (a10, .inl (cyI, 4, .inl a_room))]) C (c_X5_readLid l D cyC cyI cyJ cyZ cyO r0 r1 r2 t0 t1 a0 a1 a2 a3 a4 a5 e0 a6 a7 a8 a9 a10 r_habits r_fault t_length t_next t_kind t_place t_number a_wares a_shelves a_nests a_lids a_tops r_wn r_sn t_text a_wide a_deep a_weight a_bears a_breaks (by omega) (by omega) (by omega) (by omega) (by omega) (by omega) (by omega) (by omega)) wd_402 wd_306 wd_403 wd_404 wd_405 ⟨by decide, by decide, rfl⟩ rfl ⟨rfl, rfl, by decide, by decide⟩ ⟨by decide, by decide⟩ [0, 1, 2, 16, 17, 6, 7, 8, 9, 10, 11] [3, 4, 5, 12, 13, 14, 15] rfl rfl ⟨by decide, by decide, by decide⟩ 0 rfl rfl rfl (Nat.le_of_ble_eq_true rfl) dX5_readStatement_30 (fun u_29 hw_30 => ?_)
      refine j_eq (ws2 := [(e0, .inr (1, [.int e_size, .int e_nests, .ref e1, .ref e2, .ref e3])), (e1, .inl (cyI, 1000, .inl e_steps)), (e2, .inl (cyI, 4, .inl e_end)), (a6, .inl (cyI, 12, .inl a_habit)), (a8, .inl (cyI, 4, .inl a_height)), (a9, .inl (cyI, 4, .inl a_reach)), (a10, .inl (cyI, 4, .inl a_room)), (r0, .inr (5, [.ref t0, .ref e0, .ref r1, .ref r2, .ref a0, .int r_habits, .int (u_29.2.1 1)])), (r1, .inl (cyJ, 12, .inr (.inl (u_29.2.2.2 0)))), (r2, .inl (cyJ, 4, .inr (.inl r_sn))), (t0, .inr (8, [.ref t1, .int t_length, .int (u_29.2.1 2), .int (u_29.2.1 3), .int (u_29.2.1 4), .int (u_29.2.1 5)])), (t1, .inl (cyC, 1000, .inl t_text)), (a0, .inr (9, [.int (u_29.2.1 6), .int a_shelves, .int a_nests, .ref a1, .ref a2, .ref a3, .ref a4, .ref a5, .ref a6, .int (u_29.2.1 7), .int a_tops, .ref a7, .ref a8, .ref a9, .ref a10])), (a1, .inl (cyI, 12, .inl (u_29.2.2.1 0))), (a2, .inl (cyI, 12, .inl (u_29.2.2.1 1))), (a3, .inl (cyI, 12, .inl (u_29.2.2.1 2))), (a4, .inl (cyI, 12, .inl (u_29.2.2.1 3))), (a5, .inl (cyI, 12, .inl (u_29.2.2.1 4)))]) (pc2 := 33) (lv2 := [(0, .ref r0)]) (st2 := [.int (u_29.2.1 0)]) rfl rfl rfl rfl ?_
      obtain ⟨hw_30_0, hw_30_1, hw_30_2, hw_30_3, hw_30_4, hw_30_5⟩ := hw_30
      exact j_zret (pc := 33) C hr (nb_01 ⟨by omega, by omega⟩).1 hk (fun i => [].getD i 0, fun i => [(u_29.2.1 0), r_habits, (u_29.2.1 1), (u_29.2.1 2), (u_29.2.1 3), (u_29.2.1 4), (u_29.2.1 5), e_size, e_nests, (u_29.2.1 6), a_shelves, a_nests, (u_29.2.1 7), a_tops].getD i 0, fun i => [e_steps, e_end, (u_29.2.2.1 0), (u_29.2.2.1 1), (u_29.2.2.1 2), (u_29.2.2.1 3), (u_29.2.2.1 4), a_habit, a_height, a_reach, a_room].getD i (fun _ => 0), fun i => [(u_29.2.2.2 0), r_sn].getD i (fun _ => 0)) rfl (show (0 ≤ ((u_29.2.1 0)).toInt ∧ ((u_29.2.1 0)).toInt ≤ 1) ∧ (0 ≤ ((u_29.2.1 2)).toInt ∧ ((u_29.2.1 2)).toInt ≤ 1000) ∧ (0 ≤ ((u_29.2.1 3)).toInt ∧ ((u_29.2.1 3)).toInt ≤ 4) ∧ (0 ≤ ((u_29.2.1 4)).toInt ∧ ((u_29.2.1 4)).toInt ≤ 1000) ∧ (0 ≤ (e_size).toInt ∧ (e_size).toInt ≤ 1000) ∧ (0 ≤ (e_nests).toInt ∧ (e_nests).toInt ≤ 4) ∧ (Iv 4 (0) (1000) e_end) ∧ (0 ≤ ((u_29.2.1 6)).toInt ∧ ((u_29.2.1 6)).toInt ≤ 12) ∧ (0 ≤ (a_shelves).toInt ∧ (a_shelves).toInt ≤ 4) ∧ (0 ≤ (a_nests).toInt ∧ (a_nests).toInt ≤ 4) ∧ (Iv 4 (0) (8) a_room) ∧ (¬ ((u_29.2.1 3)).toInt = 3 ∨ ((u_29.2.1 4)).toInt ≤ 999) from ⟨by omega, by omega, by omega, by omega, by omega, by omega, h_e_end, by omega, by omega, by omega, h_a_room, by omega⟩) [7, 8, 9, 10, 11, 0, 1, 2, 12, 13, 14, 15, 16, 17, 3, 4, 5, 6] (by decide) rfl (by decide) (by decide) dX5_readStatement_33
  · skip
    have el_0 : (0 : Int32).toInt = 0 := rfl
    rw [i_eq] at c_3
    refine j_aload_n (pc := 12) C dX5_readStatement_12 rfl 0 rfl ?_
    refine j_callV (pc := 13) (As := []) (rest := []) (wr := [(e0, .inr (1, [.int e_size, .int e_nests, .ref e1, .ref e2, .ref e3])), (e1, .inl (cyI, 1000, .inl e_steps)), (e2, .inl (cyI, 4, .inl e_end)), (a6, .inl (cyI, 12, .inl a_habit)), (a8, .inl (cyI, 4, .inl a_height)), (a9, .inl (cyI, 4, .inl a_reach)), (a10, .inl (cyI, 4, .inl a_room))]) C (c_X5_readBowl l D cyC cyI cyJ cyZ cyO r0 r1 r2 t0 t1 a0 a1 a2 a3 a4 a5 e0 a6 a7 a8 a9 a10 r_habits r_fault t_length t_next t_kind t_place t_number a_wares a_shelves a_nests a_lids a_tops r_wn r_sn t_text a_wide a_deep a_weight a_bears a_breaks (by omega) (by omega) (by omega) (by omega) (by omega) (by omega) (by omega) (by omega)) wd_406 wd_306 wd_407 wd_408 wd_409 ⟨by decide, by decide, rfl⟩ rfl ⟨rfl, rfl, by decide, by decide⟩ ⟨by decide, by decide⟩ [0, 1, 2, 16, 17, 6, 7, 8, 9, 10, 11] [3, 4, 5, 12, 13, 14, 15] rfl rfl ⟨by decide, by decide, by decide⟩ 0 rfl rfl rfl (Nat.le_of_ble_eq_true rfl) dX5_readStatement_13 (fun u_31 hw_32 => ?_)
    refine j_eq (ws2 := [(e0, .inr (1, [.int e_size, .int e_nests, .ref e1, .ref e2, .ref e3])), (e1, .inl (cyI, 1000, .inl e_steps)), (e2, .inl (cyI, 4, .inl e_end)), (a6, .inl (cyI, 12, .inl a_habit)), (a8, .inl (cyI, 4, .inl a_height)), (a9, .inl (cyI, 4, .inl a_reach)), (a10, .inl (cyI, 4, .inl a_room)), (r0, .inr (5, [.ref t0, .ref e0, .ref r1, .ref r2, .ref a0, .int r_habits, .int (u_31.2.1 1)])), (r1, .inl (cyJ, 12, .inr (.inl (u_31.2.2.2 0)))), (r2, .inl (cyJ, 4, .inr (.inl r_sn))), (t0, .inr (8, [.ref t1, .int t_length, .int (u_31.2.1 2), .int (u_31.2.1 3), .int (u_31.2.1 4), .int (u_31.2.1 5)])), (t1, .inl (cyC, 1000, .inl t_text)), (a0, .inr (9, [.int (u_31.2.1 6), .int a_shelves, .int a_nests, .ref a1, .ref a2, .ref a3, .ref a4, .ref a5, .ref a6, .int a_lids, .int a_tops, .ref a7, .ref a8, .ref a9, .ref a10])), (a1, .inl (cyI, 12, .inl (u_31.2.2.1 0))), (a2, .inl (cyI, 12, .inl (u_31.2.2.1 1))), (a3, .inl (cyI, 12, .inl (u_31.2.2.1 2))), (a4, .inl (cyI, 12, .inl (u_31.2.2.1 3))), (a5, .inl (cyI, 12, .inl (u_31.2.2.1 4)))]) (pc2 := 16) (lv2 := [(0, .ref r0)]) (st2 := [.int (u_31.2.1 0)]) rfl rfl rfl rfl ?_
    obtain ⟨hw_32_0, hw_32_1, hw_32_2, hw_32_3, hw_32_4, hw_32_5⟩ := hw_32
    exact j_zret (pc := 16) C hr (nb_01 ⟨by omega, by omega⟩).1 hk (fun i => [].getD i 0, fun i => [(u_31.2.1 0), r_habits, (u_31.2.1 1), (u_31.2.1 2), (u_31.2.1 3), (u_31.2.1 4), (u_31.2.1 5), e_size, e_nests, (u_31.2.1 6), a_shelves, a_nests, a_lids, a_tops].getD i 0, fun i => [e_steps, e_end, (u_31.2.2.1 0), (u_31.2.2.1 1), (u_31.2.2.1 2), (u_31.2.2.1 3), (u_31.2.2.1 4), a_habit, a_height, a_reach, a_room].getD i (fun _ => 0), fun i => [(u_31.2.2.2 0), r_sn].getD i (fun _ => 0)) rfl (show (0 ≤ ((u_31.2.1 0)).toInt ∧ ((u_31.2.1 0)).toInt ≤ 1) ∧ (0 ≤ ((u_31.2.1 2)).toInt ∧ ((u_31.2.1 2)).toInt ≤ 1000) ∧ (0 ≤ ((u_31.2.1 3)).toInt ∧ ((u_31.2.1 3)).toInt ≤ 4) ∧ (0 ≤ ((u_31.2.1 4)).toInt ∧ ((u_31.2.1 4)).toInt ≤ 1000) ∧ (0 ≤ (e_size).toInt ∧ (e_size).toInt ≤ 1000) ∧ (0 ≤ (e_nests).toInt ∧ (e_nests).toInt ≤ 4) ∧ (Iv 4 (0) (1000) e_end) ∧ (0 ≤ ((u_31.2.1 6)).toInt ∧ ((u_31.2.1 6)).toInt ≤ 12) ∧ (0 ≤ (a_shelves).toInt ∧ (a_shelves).toInt ≤ 4) ∧ (0 ≤ (a_nests).toInt ∧ (a_nests).toInt ≤ 4) ∧ (Iv 4 (0) (8) a_room) ∧ (¬ ((u_31.2.1 3)).toInt = 3 ∨ ((u_31.2.1 4)).toInt ≤ 999) from ⟨by omega, by omega, by omega, by omega, by omega, by omega, h_e_end, by omega, by omega, by omega, h_a_room, by omega⟩) [7, 8, 9, 10, 11, 0, 1, 2, 12, 13, 14, 15, 16, 17, 3, 4, 5, 6] (by decide) rfl (by decide) (by decide) dX5_readStatement_16
