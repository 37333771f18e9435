theorem wd_437 : Cond.methodLink RX10 153 yX7_stacks ∈ WALL := wl_in (by decide +kernel) (by decide +kernel)
theorem wd_438 : Cond.fieldLink RX10 40 "BowlShelf" "pile" "LBowlShelf$Pile;" ∈ WALL := wl_in (by decide +kernel) (by decide +kernel)
theorem wd_439 : Cond.code yX4_take cX4_take 5 none ∈ WALL := wl_in (by decide +kernel) (by decide +kernel)
theorem wd_440 : Cond.methodLink RX10 173 yX4_take ∈ WALL := wl_in (by decide +kernel) (by decide +kernel)
theorem wd_441 : Cond.instanceMethod yX4_take ∈ WALL := wl_in (by decide +kernel) (by decide +kernel)
theorem wd_442 : Cond.selects RX4 yX4_take yX4_take ∈ WALL := wl_in (by decide +kernel) (by decide +kernel)
theorem wd_443 : Cond.code yX4_add cX4_add 2 none ∈ WALL := wl_in (by decide +kernel) (by decide +kernel)
theorem wd_444 : Cond.methodLink RX10 177 yX4_add ∈ WALL := wl_in (by decide +kernel) (by decide +kernel)
theorem wd_445 : Cond.instanceMethod yX4_add ∈ WALL := wl_in (by decide +kernel) (by decide +kernel)
theorem wd_446 : Cond.selects RX4 yX4_add yX4_add ∈ WALL := wl_in (by decide +kernel) (by decide +kernel)
theorem wd_447 : Cond.fieldLink RX10 19 "BowlShelf" "told" "LBowlShelf$Told;" ∈ WALL := wl_in (by decide +kernel) (by decide +kernel)
theorem wd_448 : Cond.fieldLink RX10 144 "BowlShelf$Told" "height" "[I" ∈ WALL := wl_in (by decide +kernel) (by decide +kernel)
theorem wd_449 : Cond.code yX4_refusal cX4_refusal 4 (some .int) ∈ WALL := wl_in (by decide +kernel) (by decide +kernel)
theorem wd_450 : Cond.methodLink RX10 178 yX4_refusal ∈ WALL := wl_in (by decide +kernel) (by decide +kernel)
theorem wd_451 : Cond.instanceMethod yX4_refusal ∈ WALL := wl_in (by decide +kernel) (by decide +kernel)
theorem wd_452 : Cond.selects RX4 yX4_refusal yX4_refusal ∈ WALL := wl_in (by decide +kernel) (by decide +kernel)
theorem wd_453 : Cond.fieldLink RX10 150 "BowlShelf$Told" "room" "[I" ∈ WALL := wl_in (by decide +kernel) (by decide +kernel)
theorem wd_454 : Cond.fieldLink RX10 181 "BowlShelf$Standing" "shelf" "[I" ∈ WALL := wl_in (by decide +kernel) (by decide +kernel)
theorem wd_455 : Cond.fieldLink RX10 184 "BowlShelf$Standing" "stack" "[I" ∈ WALL := wl_in (by decide +kernel) (by decide +kernel)
theorem wd_456 : Cond.fieldLink RX10 187 "BowlShelf$Standing" "level" "[I" ∈ WALL := wl_in (by decide +kernel) (by decide +kernel)
theorem wd_457 : Cond.fieldLink RX10 147 "BowlShelf$Told" "reach" "[I" ∈ WALL := wl_in (by decide +kernel) (by decide +kernel)
theorem wd_458 : Cond.code yX4_price cX4_price 5 (some .int) ∈ WALL := wl_in (by decide +kernel) (by decide +kernel)
theorem wd_459 : Cond.methodLink RX10 190 yX4_price ∈ WALL := wl_in (by decide +kernel) (by decide +kernel)
theorem wd_460 : Cond.instanceMethod yX4_price ∈ WALL := wl_in (by decide +kernel) (by decide +kernel)
theorem wd_461 : Cond.selects RX4 yX4_price yX4_price ∈ WALL := wl_in (by decide +kernel) (by decide +kernel)
theorem wd_462 : Cond.code yX9_isShelf cX9_isShelf 2 (some .boolean) ∈ WALL := wl_in (by decide +kernel) (by decide +kernel)
theorem wd_463 : Cond.methodLink RX10 141 yX9_isShelf ∈ WALL := wl_in (by decide +kernel) (by decide +kernel)
theorem wd_464 : Cond.instanceMethod yX9_isShelf ∈ WALL := wl_in (by decide +kernel) (by decide +kernel)
theorem wd_465 : Cond.selects RX9 yX9_isShelf yX9_isShelf ∈ WALL := wl_in (by decide +kernel) (by decide +kernel)
theorem wd_466 : Cond.fieldLink RX10 26 "BowlShelf" "now" "LBowlShelf$Standing;" ∈ WALL := wl_in (by decide +kernel) (by decide +kernel)
theorem wd_467 : Cond.code yX9_isWare cX9_isWare 2 (some .boolean) ∈ WALL := wl_in (by decide +kernel) (by decide +kernel)
theorem wd_468 : Cond.methodLink RX10 112 yX9_isWare ∈ WALL := wl_in (by decide +kernel) (by decide +kernel)
theorem wd_469 : Cond.instanceMethod yX9_isWare ∈ WALL := wl_in (by decide +kernel) (by decide +kernel)
theorem wd_470 : Cond.selects RX9 yX9_isWare yX9_isWare ∈ WALL := wl_in (by decide +kernel) (by decide +kernel)
theorem wd_471 : Cond.fieldLink RX10 116 "BowlShelf$Told" "wide" "[I" ∈ WALL := wl_in (by decide +kernel) (by decide +kernel)
theorem wd_472 : Cond.fieldLink RX10 120 "BowlShelf$Told" "deep" "[I" ∈ WALL := wl_in (by decide +kernel) (by decide +kernel)
theorem wd_473 : Cond.fieldLink RX10 123 "BowlShelf$Told" "weight" "[I" ∈ WALL := wl_in (by decide +kernel) (by decide +kernel)
theorem wd_474 : Cond.fieldLink RX10 126 "BowlShelf$Told" "bears" "[I" ∈ WALL := wl_in (by decide +kernel) (by decide +kernel)
theorem wd_475 : Cond.fieldLink RX10 129 "BowlShelf$Told" "breaks" "[I" ∈ WALL := wl_in (by decide +kernel) (by decide +kernel)
theorem wd_476 : Cond.fieldLink RX10 132 "BowlShelf$Told" "habit" "[I" ∈ WALL := wl_in (by decide +kernel) (by decide +kernel)
theorem wd_477 : Cond.fieldLink RX10 135 "BowlShelf$Told" "lids" "I" ∈ WALL := wl_in (by decide +kernel) (by decide +kernel)
theorem wd_478 : Cond.fieldLink RX10 138 "BowlShelf$Told" "tops" "I" ∈ WALL := wl_in (by decide +kernel) (by decide +kernel)
theorem wd_479 : Cond.fieldLink RX10 157 "BowlShelf$Told" "mayOn" "[I" ∈ WALL := wl_in (by decide +kernel) (by decide +kernel)
theorem wd_480 : Cond.methodLink RX10 160 yX7_isOut ∈ WALL := wl_in (by decide +kernel) (by decide +kernel)
theorem wd_481 : Cond.code yX10_refusal cX10_refusal 5 (some .int) ∈ WALL := wl_in (by decide +kernel) (by decide +kernel)
theorem wd_482 : Cond.initialized RX10 ∈ WALL := wl_in (by decide +kernel) (by decide +kernel)
theorem wd_483 : Cond.methodLink RX10 163 yX10_refusal ∈ WALL := wl_in (by decide +kernel) (by decide +kernel)
theorem wd_484 : Cond.instanceMethod yX10_refusal ∈ WALL := wl_in (by decide +kernel) (by decide +kernel)
theorem wd_485 : Cond.selects RX10 yX10_refusal yX10_refusal ∈ WALL := wl_in (by decide +kernel) (by decide +kernel)
theorem wd_486 : Cond.fieldLink RX10 167 "BowlShelf$Standing" "cost" "I" ∈ WALL := wl_in (by decide +kernel) (by decide +kernel)
theorem wd_487 : Cond.code yX7_add cX7_add 4 none ∈ WALL := wl_in (by decide +kernel) (by decide +kernel)
theorem wd_488 : Cond.methodLink RX10 170 yX7_add ∈ WALL := wl_in (by decide +kernel) (by decide +kernel)
theorem wd_489 : Cond.instanceMethod yX7_add ∈ WALL := wl_in (by decide +kernel) (by decide +kernel)
theorem wd_490 : Cond.selects RX7 yX7_add yX7_add ∈ WALL := wl_in (by decide +kernel) (by decide +kernel)
theorem wd_491 : Cond.code yX4_remove cX4_remove 3 none ∈ WALL := wl_in (by decide +kernel) (by decide +kernel)
theorem wd_492 : Cond.methodLink RX10 194 yX4_remove ∈ WALL := wl_in (by decide +kernel) (by decide +kernel)
theorem wd_493 : Cond.instanceMethod yX4_remove ∈ WALL := wl_in (by decide +kernel) (by decide +kernel)
theorem wd_494 : Cond.selects RX4 yX4_remove yX4_remove ∈ WALL := wl_in (by decide +kernel) (by decide +kernel)
theorem wd_495 : Cond.code yX7_remove cX7_remove 3 none ∈ WALL := wl_in (by decide +kernel) (by decide +kernel)
theorem wd_496 : Cond.methodLink RX10 197 yX7_remove ∈ WALL := wl_in (by decide +kernel) (by decide +kernel)
theorem wd_497 : Cond.instanceMethod yX7_remove ∈ WALL := wl_in (by decide +kernel) (by decide +kernel)
theorem wd_498 : Cond.selects RX7 yX7_remove yX7_remove ∈ WALL := wl_in (by decide +kernel) (by decide +kernel)
theorem wd_499 : Cond.code yX10_isStack cX10_isStack 3 (some .boolean) ∈ WALL := wl_in (by decide +kernel) (by decide +kernel)
theorem wd_500 : Cond.methodLink RX10 198 yX10_isStack ∈ WALL := wl_in (by decide +kernel) (by decide +kernel)
theorem wd_501 : Cond.instanceMethod yX10_isStack ∈ WALL := wl_in (by decide +kernel) (by decide +kernel)
theorem wd_502 : Cond.selects RX10 yX10_isStack yX10_isStack ∈ WALL := wl_in (by decide +kernel) (by decide +kernel)
theorem wd_503 : Cond.methodLink RX10 202 yX4_highestRim ∈ WALL := wl_in (by decide +kernel) (by decide +kernel)
theorem wd_504 : Cond.methodLink RX10 206 yX4_weightFrom ∈ WALL := wl_in (by decide +kernel) (by decide +kernel)
theorem wd_505 : Cond.fieldLink RX10 209 "BowlShelf$Pile" "size" "I" ∈ WALL := wl_in (by decide +kernel) (by decide +kernel)
theorem wd_506 : Cond.code yX7_move cX7_move 6 none ∈ WALL := wl_in (by decide +kernel) (by decide +kernel)
theorem wd_507 : Cond.methodLink RX10 212 yX7_move ∈ WALL := wl_in (by decide +kernel) (by decide +kernel)
theorem wd_508 : Cond.instanceMethod yX7_move ∈ WALL := wl_in (by decide +kernel) (by decide +kernel)
theorem wd_509 : Cond.selects RX7 yX7_move yX7_move ∈ WALL := wl_in (by decide +kernel) (by decide +kernel)
theorem dX10_refusal_0 : decode cX10_refusal 0 = .ok (.iload 4, 2) := by decide +kernel
theorem dX10_refusal_2 : decode cX10_refusal 2 = .ok (.aload_n 1, 1) := by decide +kernel
theorem dX10_refusal_3 : decode cX10_refusal 3 = .ok (.iload_n 3, 1) := by decide +kernel
theorem dX10_refusal_4 : decode cX10_refusal 4 = .ok (.invokevirtual 153, 3) := by decide +kernel
theorem dX10_refusal_7 : decode cX10_refusal 7 = .ok (.if_icmp .ne 19, 3) := by decide +kernel
theorem dX10_refusal_10 : decode cX10_refusal 10 = .ok (.iload 4, 2) := by decide +kernel
theorem dX10_refusal_12 : decode cX10_refusal 12 = .ok (.aload_n 0, 1) := by decide +kernel
theorem dX10_refusal_13 : decode cX10_refusal 13 = .ok (.getfield 19, 3) := by decide +kernel
theorem dX10_refusal_16 : decode cX10_refusal 16 = .ok (.getfield 150, 3) := by decide +kernel
theorem dX10_refusal_19 : decode cX10_refusal 19 = .ok (.iload_n 3, 1) := by decide +kernel
theorem dX10_refusal_20 : decode cX10_refusal 20 = .ok (.iaload, 1) := by decide +kernel
theorem dX10_refusal_21 : decode cX10_refusal 21 = .ok (.if_icmp .lt 5, 3) := by decide +kernel
theorem dX10_refusal_24 : decode cX10_refusal 24 = .ok (.iconst 3, 1) := by decide +kernel
theorem dX10_refusal_25 : decode cX10_refusal 25 = .ok (.ireturn, 1) := by decide +kernel
theorem dX10_refusal_26 : decode cX10_refusal 26 = .ok (.aload_n 0, 1) := by decide +kernel
theorem dX10_refusal_27 : decode cX10_refusal 27 = .ok (.getfield 40, 3) := by decide +kernel
theorem dX10_refusal_30 : decode cX10_refusal 30 = .ok (.aload_n 1, 1) := by decide +kernel
theorem dX10_refusal_31 : decode cX10_refusal 31 = .ok (.iload_n 3, 1) := by decide +kernel
theorem dX10_refusal_32 : decode cX10_refusal 32 = .ok (.iload 4, 2) := by decide +kernel
theorem dX10_refusal_34 : decode cX10_refusal 34 = .ok (.invokevirtual 173, 3) := by decide +kernel
theorem dX10_refusal_37 : decode cX10_refusal 37 = .ok (.aload_n 0, 1) := by decide +kernel
theorem dX10_refusal_38 : decode cX10_refusal 38 = .ok (.getfield 40, 3) := by decide +kernel
theorem dX10_refusal_41 : decode cX10_refusal 41 = .ok (.iload_n 2, 1) := by decide +kernel
theorem dX10_refusal_42 : decode cX10_refusal 42 = .ok (.invokevirtual 177, 3) := by decide +kernel
theorem dX10_refusal_45 : decode cX10_refusal 45 = .ok (.aload_n 0, 1) := by decide +kernel
theorem dX10_refusal_46 : decode cX10_refusal 46 = .ok (.getfield 40, 3) := by decide +kernel
theorem dX10_refusal_49 : decode cX10_refusal 49 = .ok (.aload_n 0, 1) := by decide +kernel
theorem dX10_refusal_50 : decode cX10_refusal 50 = .ok (.getfield 19, 3) := by decide +kernel
theorem dX10_refusal_53 : decode cX10_refusal 53 = .ok (.aload_n 0, 1) := by decide +kernel
theorem dX10_refusal_54 : decode cX10_refusal 54 = .ok (.getfield 19, 3) := by decide +kernel
theorem dX10_refusal_57 : decode cX10_refusal 57 = .ok (.getfield 144, 3) := by decide +kernel
theorem dX10_refusal_60 : decode cX10_refusal 60 = .ok (.iload_n 3, 1) := by decide +kernel
theorem dX10_refusal_61 : decode cX10_refusal 61 = .ok (.iaload, 1) := by decide +kernel
theorem dX10_refusal_62 : decode cX10_refusal 62 = .ok (.invokevirtual 178, 3) := by decide +kernel
theorem dX10_refusal_65 : decode cX10_refusal 65 = .ok (.ireturn, 1) := by decide +kernel
theorem dX10_price_0 : decode cX10_price 0 = .ok (.aload_n 1, 1) := by decide +kernel
theorem dX10_price_1 : decode cX10_price 1 = .ok (.getfield 181, 3) := by decide +kernel
theorem dX10_price_4 : decode cX10_price 4 = .ok (.iload_n 2, 1) := by decide +kernel
theorem dX10_price_5 : decode cX10_price 5 = .ok (.iaload, 1) := by decide +kernel
theorem dX10_price_6 : decode cX10_price 6 = .ok (.istore_n 3, 1) := by decide +kernel
theorem dX10_price_7 : decode cX10_price 7 = .ok (.aload_n 0, 1) := by decide +kernel
theorem dX10_price_8 : decode cX10_price 8 = .ok (.getfield 40, 3) := by decide +kernel
theorem dX10_price_11 : decode cX10_price 11 = .ok (.aload_n 1, 1) := by decide +kernel
theorem dX10_price_12 : decode cX10_price 12 = .ok (.iload_n 3, 1) := by decide +kernel
theorem dX10_price_13 : decode cX10_price 13 = .ok (.aload_n 1, 1) := by decide +kernel
theorem dX10_price_14 : decode cX10_price 14 = .ok (.getfield 184, 3) := by decide +kernel
theorem dX10_price_17 : decode cX10_price 17 = .ok (.iload_n 2, 1) := by decide +kernel
theorem dX10_price_18 : decode cX10_price 18 = .ok (.iaload, 1) := by decide +kernel
theorem dX10_price_19 : decode cX10_price 19 = .ok (.invokevirtual 173, 3) := by decide +kernel
theorem dX10_price_22 : decode cX10_price 22 = .ok (.aload_n 0, 1) := by decide +kernel
theorem dX10_price_23 : decode cX10_price 23 = .ok (.getfield 40, 3) := by decide +kernel
theorem dX10_price_26 : decode cX10_price 26 = .ok (.aload_n 0, 1) := by decide +kernel
theorem dX10_price_27 : decode cX10_price 27 = .ok (.getfield 19, 3) := by decide +kernel
theorem dX10_price_30 : decode cX10_price 30 = .ok (.aload_n 1, 1) := by decide +kernel
theorem dX10_price_31 : decode cX10_price 31 = .ok (.getfield 187, 3) := by decide +kernel
theorem dX10_price_34 : decode cX10_price 34 = .ok (.iload_n 2, 1) := by decide +kernel
theorem dX10_price_35 : decode cX10_price 35 = .ok (.iaload, 1) := by decide +kernel
theorem dX10_price_36 : decode cX10_price 36 = .ok (.aload_n 0, 1) := by decide +kernel
theorem dX10_price_37 : decode cX10_price 37 = .ok (.getfield 19, 3) := by decide +kernel
theorem dX10_price_40 : decode cX10_price 40 = .ok (.getfield 147, 3) := by decide +kernel
theorem dX10_price_43 : decode cX10_price 43 = .ok (.iload_n 3, 1) := by decide +kernel
theorem dX10_price_44 : decode cX10_price 44 = .ok (.iaload, 1) := by decide +kernel
theorem dX10_price_45 : decode cX10_price 45 = .ok (.invokevirtual 190, 3) := by decide +kernel
theorem dX10_price_48 : decode cX10_price 48 = .ok (.ireturn, 1) := by decide +kernel
theorem dX10_isStack_0 : decode cX10_isStack 0 = .ok (.aload_n 0, 1) := by decide +kernel
theorem dX10_isStack_1 : decode cX10_isStack 1 = .ok (.getfield 19, 3) := by decide +kernel
theorem dX10_isStack_4 : decode cX10_isStack 4 = .ok (.iload_n 1, 1) := by decide +kernel
theorem dX10_isStack_5 : decode cX10_isStack 5 = .ok (.invokevirtual 141, 3) := by decide +kernel
theorem dX10_isStack_8 : decode cX10_isStack 8 = .ok (.ifCond .eq 23, 3) := by decide +kernel
theorem dX10_isStack_11 : decode cX10_isStack 11 = .ok (.iload_n 2, 1) := by decide +kernel
theorem dX10_isStack_12 : decode cX10_isStack 12 = .ok (.ifCond .lt 19, 3) := by decide +kernel
theorem dX10_isStack_15 : decode cX10_isStack 15 = .ok (.iload_n 2, 1) := by decide +kernel
theorem dX10_isStack_16 : decode cX10_isStack 16 = .ok (.aload_n 0, 1) := by decide +kernel
theorem dX10_isStack_17 : decode cX10_isStack 17 = .ok (.getfield 26, 3) := by decide +kernel
theorem dX10_isStack_20 : decode cX10_isStack 20 = .ok (.iload_n 1, 1) := by decide +kernel
theorem dX10_isStack_21 : decode cX10_isStack 21 = .ok (.invokevirtual 153, 3) := by decide +kernel
theorem dX10_isStack_24 : decode cX10_isStack 24 = .ok (.if_icmp .ge 7, 3) := by decide +kernel
theorem dX10_isStack_27 : decode cX10_isStack 27 = .ok (.iconst 1, 1) := by decide +kernel
theorem dX10_isStack_28 : decode cX10_isStack 28 = .ok (.goto 4, 3) := by decide +kernel
theorem dX10_isStack_31 : decode cX10_isStack 31 = .ok (.iconst 0, 1) := by decide +kernel
theorem dX10_isStack_32 : decode cX10_isStack 32 = .ok (.ireturn, 1) := by decide +kernel
theorem dX10_ware_0 : decode cX10_ware 0 = .ok (.aload_n 0, 1) := by decide +kernel
theorem dX10_ware_1 : decode cX10_ware 1 = .ok (.getfield 19, 3) := by decide +kernel
theorem dX10_ware_4 : decode cX10_ware 4 = .ok (.iload_n 1, 1) := by decide +kernel
theorem dX10_ware_5 : decode cX10_ware 5 = .ok (.invokevirtual 112, 3) := by decide +kernel
theorem dX10_ware_8 : decode cX10_ware 8 = .ok (.ifCond .ne 5, 3) := by decide +kernel
theorem dX10_ware_11 : decode cX10_ware 11 = .ok (.iconst (-1), 1) := by decide +kernel
theorem dX10_ware_12 : decode cX10_ware 12 = .ok (.ireturn, 1) := by decide +kernel
theorem dX10_ware_13 : decode cX10_ware 13 = .ok (.iload_n 2, 1) := by decide +kernel
theorem dX10_ware_14 : decode cX10_ware 14 = .ok (.tableswitch 130 0 7 #[46, 56, 66, 76, 86, 96, 106, 118], 46) := by decide +kernel
theorem dX10_ware_60 : decode cX10_ware 60 = .ok (.aload_n 0, 1) := by decide +kernel
theorem dX10_ware_61 : decode cX10_ware 61 = .ok (.getfield 19, 3) := by decide +kernel
theorem dX10_ware_64 : decode cX10_ware 64 = .ok (.getfield 116, 3) := by decide +kernel
theorem dX10_ware_67 : decode cX10_ware 67 = .ok (.iload_n 1, 1) := by decide +kernel
theorem dX10_ware_68 : decode cX10_ware 68 = .ok (.iaload, 1) := by decide +kernel
theorem dX10_ware_69 : decode cX10_ware 69 = .ok (.ireturn, 1) := by decide +kernel
theorem dX10_ware_70 : decode cX10_ware 70 = .ok (.aload_n 0, 1) := by decide +kernel
theorem dX10_ware_71 : decode cX10_ware 71 = .ok (.getfield 19, 3) := by decide +kernel
theorem dX10_ware_74 : decode cX10_ware 74 = .ok (.getfield 120, 3) := by decide +kernel
theorem dX10_ware_77 : decode cX10_ware 77 = .ok (.iload_n 1, 1) := by decide +kernel
theorem dX10_ware_78 : decode cX10_ware 78 = .ok (.iaload, 1) := by decide +kernel
theorem dX10_ware_79 : decode cX10_ware 79 = .ok (.ireturn, 1) := by decide +kernel
theorem dX10_ware_80 : decode cX10_ware 80 = .ok (.aload_n 0, 1) := by decide +kernel
theorem dX10_ware_81 : decode cX10_ware 81 = .ok (.getfield 19, 3) := by decide +kernel
theorem dX10_ware_84 : decode cX10_ware 84 = .ok (.getfield 123, 3) := by decide +kernel
theorem dX10_ware_87 : decode cX10_ware 87 = .ok (.iload_n 1, 1) := by decide +kernel
theorem dX10_ware_88 : decode cX10_ware 88 = .ok (.iaload, 1) := by decide +kernel
theorem dX10_ware_89 : decode cX10_ware 89 = .ok (.ireturn, 1) := by decide +kernel
theorem dX10_ware_90 : decode cX10_ware 90 = .ok (.aload_n 0, 1) := by decide +kernel
theorem dX10_ware_91 : decode cX10_ware 91 = .ok (.getfield 19, 3) := by decide +kernel
theorem dX10_ware_94 : decode cX10_ware 94 = .ok (.getfield 126, 3) := by decide +kernel
theorem dX10_ware_97 : decode cX10_ware 97 = .ok (.iload_n 1, 1) := by decide +kernel
theorem dX10_ware_98 : decode cX10_ware 98 = .ok (.iaload, 1) := by decide +kernel
theorem dX10_ware_99 : decode cX10_ware 99 = .ok (.ireturn, 1) := by decide +kernel
theorem dX10_ware_100 : decode cX10_ware 100 = .ok (.aload_n 0, 1) := by decide +kernel
theorem dX10_ware_101 : decode cX10_ware 101 = .ok (.getfield 19, 3) := by decide +kernel
theorem dX10_ware_104 : decode cX10_ware 104 = .ok (.getfield 129, 3) := by decide +kernel
theorem dX10_ware_107 : decode cX10_ware 107 = .ok (.iload_n 1, 1) := by decide +kernel
theorem dX10_ware_108 : decode cX10_ware 108 = .ok (.iaload, 1) := by decide +kernel
theorem dX10_ware_109 : decode cX10_ware 109 = .ok (.ireturn, 1) := by decide +kernel
theorem dX10_ware_110 : decode cX10_ware 110 = .ok (.aload_n 0, 1) := by decide +kernel
theorem dX10_ware_111 : decode cX10_ware 111 = .ok (.getfield 19, 3) := by decide +kernel
theorem dX10_ware_114 : decode cX10_ware 114 = .ok (.getfield 132, 3) := by decide +kernel
theorem dX10_ware_117 : decode cX10_ware 117 = .ok (.iload_n 1, 1) := by decide +kernel
theorem dX10_ware_118 : decode cX10_ware 118 = .ok (.iaload, 1) := by decide +kernel
theorem dX10_ware_119 : decode cX10_ware 119 = .ok (.ireturn, 1) := by decide +kernel
theorem dX10_ware_120 : decode cX10_ware 120 = .ok (.aload_n 0, 1) := by decide +kernel
theorem dX10_ware_121 : decode cX10_ware 121 = .ok (.getfield 19, 3) := by decide +kernel
theorem dX10_ware_124 : decode cX10_ware 124 = .ok (.getfield 135, 3) := by decide +kernel
theorem dX10_ware_127 : decode cX10_ware 127 = .ok (.iload_n 1, 1) := by decide +kernel
theorem dX10_ware_128 : decode cX10_ware 128 = .ok (.iushr, 1) := by decide +kernel
theorem dX10_ware_129 : decode cX10_ware 129 = .ok (.iconst 1, 1) := by decide +kernel
theorem dX10_ware_130 : decode cX10_ware 130 = .ok (.iand, 1) := by decide +kernel
theorem dX10_ware_131 : decode cX10_ware 131 = .ok (.ireturn, 1) := by decide +kernel
theorem dX10_ware_132 : decode cX10_ware 132 = .ok (.aload_n 0, 1) := by decide +kernel
theorem dX10_ware_133 : decode cX10_ware 133 = .ok (.getfield 19, 3) := by decide +kernel
theorem dX10_ware_136 : decode cX10_ware 136 = .ok (.getfield 138, 3) := by decide +kernel
theorem dX10_ware_139 : decode cX10_ware 139 = .ok (.iload_n 1, 1) := by decide +kernel
theorem dX10_ware_140 : decode cX10_ware 140 = .ok (.iushr, 1) := by decide +kernel
theorem dX10_ware_141 : decode cX10_ware 141 = .ok (.iconst 1, 1) := by decide +kernel
theorem dX10_ware_142 : decode cX10_ware 142 = .ok (.iand, 1) := by decide +kernel
theorem dX10_ware_143 : decode cX10_ware 143 = .ok (.ireturn, 1) := by decide +kernel
theorem dX10_ware_144 : decode cX10_ware 144 = .ok (.iconst (-1), 1) := by decide +kernel
theorem dX10_ware_145 : decode cX10_ware 145 = .ok (.ireturn, 1) := by decide +kernel
theorem dX10_shelf_0 : decode cX10_shelf 0 = .ok (.aload_n 0, 1) := by decide +kernel
theorem dX10_shelf_1 : decode cX10_shelf 1 = .ok (.getfield 19, 3) := by decide +kernel
theorem dX10_shelf_4 : decode cX10_shelf 4 = .ok (.iload_n 1, 1) := by decide +kernel
theorem dX10_shelf_5 : decode cX10_shelf 5 = .ok (.invokevirtual 141, 3) := by decide +kernel
theorem dX10_shelf_8 : decode cX10_shelf 8 = .ok (.ifCond .ne 5, 3) := by decide +kernel
theorem dX10_shelf_11 : decode cX10_shelf 11 = .ok (.iconst (-1), 1) := by decide +kernel
theorem dX10_shelf_12 : decode cX10_shelf 12 = .ok (.ireturn, 1) := by decide +kernel
theorem dX10_shelf_13 : decode cX10_shelf 13 = .ok (.iload_n 2, 1) := by decide +kernel
theorem dX10_shelf_14 : decode cX10_shelf 14 = .ok (.tableswitch 69 0 3 #[30, 40, 50, 60], 30) := by decide +kernel
theorem dX10_shelf_44 : decode cX10_shelf 44 = .ok (.aload_n 0, 1) := by decide +kernel
theorem dX10_shelf_45 : decode cX10_shelf 45 = .ok (.getfield 19, 3) := by decide +kernel
theorem dX10_shelf_48 : decode cX10_shelf 48 = .ok (.getfield 144, 3) := by decide +kernel
theorem dX10_shelf_51 : decode cX10_shelf 51 = .ok (.iload_n 1, 1) := by decide +kernel
theorem dX10_shelf_52 : decode cX10_shelf 52 = .ok (.iaload, 1) := by decide +kernel
theorem dX10_shelf_53 : decode cX10_shelf 53 = .ok (.ireturn, 1) := by decide +kernel
theorem dX10_shelf_54 : decode cX10_shelf 54 = .ok (.aload_n 0, 1) := by decide +kernel
theorem dX10_shelf_55 : decode cX10_shelf 55 = .ok (.getfield 19, 3) := by decide +kernel
theorem dX10_shelf_58 : decode cX10_shelf 58 = .ok (.getfield 147, 3) := by decide +kernel
theorem dX10_shelf_61 : decode cX10_shelf 61 = .ok (.iload_n 1, 1) := by decide +kernel
theorem dX10_shelf_62 : decode cX10_shelf 62 = .ok (.iaload, 1) := by decide +kernel
theorem dX10_shelf_63 : decode cX10_shelf 63 = .ok (.ireturn, 1) := by decide +kernel
theorem dX10_shelf_64 : decode cX10_shelf 64 = .ok (.aload_n 0, 1) := by decide +kernel
theorem dX10_shelf_65 : decode cX10_shelf 65 = .ok (.getfield 19, 3) := by decide +kernel
theorem dX10_shelf_68 : decode cX10_shelf 68 = .ok (.getfield 150, 3) := by decide +kernel
theorem dX10_shelf_71 : decode cX10_shelf 71 = .ok (.iload_n 1, 1) := by decide +kernel
theorem dX10_shelf_72 : decode cX10_shelf 72 = .ok (.iaload, 1) := by decide +kernel
theorem dX10_shelf_73 : decode cX10_shelf 73 = .ok (.ireturn, 1) := by decide +kernel
theorem dX10_shelf_74 : decode cX10_shelf 74 = .ok (.aload_n 0, 1) := by decide +kernel
theorem dX10_shelf_75 : decode cX10_shelf 75 = .ok (.getfield 26, 3) := by decide +kernel
theorem dX10_shelf_78 : decode cX10_shelf 78 = .ok (.iload_n 1, 1) := by decide +kernel
theorem dX10_shelf_79 : decode cX10_shelf 79 = .ok (.invokevirtual 153, 3) := by decide +kernel
theorem dX10_shelf_82 : decode cX10_shelf 82 = .ok (.ireturn, 1) := by decide +kernel
theorem dX10_shelf_83 : decode cX10_shelf 83 = .ok (.iconst (-1), 1) := by decide +kernel
theorem dX10_shelf_84 : decode cX10_shelf 84 = .ok (.ireturn, 1) := by decide +kernel
theorem dX10_may_0 : decode cX10_may 0 = .ok (.aload_n 0, 1) := by decide +kernel
theorem dX10_may_1 : decode cX10_may 1 = .ok (.getfield 19, 3) := by decide +kernel
theorem dX10_may_4 : decode cX10_may 4 = .ok (.iload_n 1, 1) := by decide +kernel
theorem dX10_may_5 : decode cX10_may 5 = .ok (.invokevirtual 112, 3) := by decide +kernel
theorem dX10_may_8 : decode cX10_may 8 = .ok (.ifCond .eq 19, 3) := by decide +kernel
theorem dX10_may_11 : decode cX10_may 11 = .ok (.aload_n 0, 1) := by decide +kernel
theorem dX10_may_12 : decode cX10_may 12 = .ok (.getfield 19, 3) := by decide +kernel
theorem dX10_may_15 : decode cX10_may 15 = .ok (.iload_n 2, 1) := by decide +kernel
theorem dX10_may_16 : decode cX10_may 16 = .ok (.invokevirtual 112, 3) := by decide +kernel
theorem dX10_may_19 : decode cX10_may 19 = .ok (.ifCond .eq 8, 3) := by decide +kernel
theorem dX10_may_22 : decode cX10_may 22 = .ok (.iload_n 1, 1) := by decide +kernel
theorem dX10_may_23 : decode cX10_may 23 = .ok (.iload_n 2, 1) := by decide +kernel
theorem dX10_may_24 : decode cX10_may 24 = .ok (.if_icmp .ne 5, 3) := by decide +kernel
theorem dX10_may_27 : decode cX10_may 27 = .ok (.iconst (-1), 1) := by decide +kernel
theorem dX10_may_28 : decode cX10_may 28 = .ok (.ireturn, 1) := by decide +kernel
theorem dX10_may_29 : decode cX10_may 29 = .ok (.aload_n 0, 1) := by decide +kernel
theorem dX10_may_30 : decode cX10_may 30 = .ok (.getfield 19, 3) := by decide +kernel
theorem dX10_may_33 : decode cX10_may 33 = .ok (.getfield 157, 3) := by decide +kernel
theorem dX10_may_36 : decode cX10_may 36 = .ok (.iload_n 2, 1) := by decide +kernel
theorem dX10_may_37 : decode cX10_may 37 = .ok (.iaload, 1) := by decide +kernel
theorem dX10_may_38 : decode cX10_may 38 = .ok (.iload_n 1, 1) := by decide +kernel
theorem dX10_may_39 : decode cX10_may 39 = .ok (.iushr, 1) := by decide +kernel
theorem dX10_may_40 : decode cX10_may 40 = .ok (.iconst 1, 1) := by decide +kernel
theorem dX10_may_41 : decode cX10_may 41 = .ok (.iand, 1) := by decide +kernel
theorem dX10_may_42 : decode cX10_may 42 = .ok (.ireturn, 1) := by decide +kernel
theorem dX10_put_0 : decode cX10_put 0 = .ok (.aload_n 0, 1) := by decide +kernel
theorem dX10_put_1 : decode cX10_put 1 = .ok (.getfield 19, 3) := by decide +kernel
theorem dX10_put_4 : decode cX10_put 4 = .ok (.iload_n 1, 1) := by decide +kernel
theorem dX10_put_5 : decode cX10_put 5 = .ok (.invokevirtual 112, 3) := by decide +kernel
theorem dX10_put_8 : decode cX10_put 8 = .ok (.ifCond .eq 14, 3) := by decide +kernel
theorem dX10_put_11 : decode cX10_put 11 = .ok (.aload_n 0, 1) := by decide +kernel
theorem dX10_put_12 : decode cX10_put 12 = .ok (.getfield 19, 3) := by decide +kernel
theorem dX10_put_15 : decode cX10_put 15 = .ok (.iload_n 2, 1) := by decide +kernel
theorem dX10_put_16 : decode cX10_put 16 = .ok (.invokevirtual 141, 3) := by decide +kernel
theorem dX10_put_19 : decode cX10_put 19 = .ok (.ifCond .ne 5, 3) := by decide +kernel
theorem dX10_put_22 : decode cX10_put 22 = .ok (.iconst 1, 1) := by decide +kernel
theorem dX10_put_23 : decode cX10_put 23 = .ok (.ireturn, 1) := by decide +kernel
theorem dX10_put_24 : decode cX10_put 24 = .ok (.aload_n 0, 1) := by decide +kernel
theorem dX10_put_25 : decode cX10_put 25 = .ok (.getfield 26, 3) := by decide +kernel
theorem dX10_put_28 : decode cX10_put 28 = .ok (.iload_n 2, 1) := by decide +kernel
theorem dX10_put_29 : decode cX10_put 29 = .ok (.invokevirtual 153, 3) := by decide +kernel
theorem dX10_put_32 : decode cX10_put 32 = .ok (.istore 4, 2) := by decide +kernel
theorem dX10_put_34 : decode cX10_put 34 = .ok (.iload_n 3, 1) := by decide +kernel
theorem dX10_put_35 : decode cX10_put 35 = .ok (.iconst (-1), 1) := by decide +kernel
theorem dX10_put_36 : decode cX10_put 36 = .ok (.if_icmp .lt 9, 3) := by decide +kernel
theorem dX10_put_39 : decode cX10_put 39 = .ok (.iload_n 3, 1) := by decide +kernel
theorem dX10_put_40 : decode cX10_put 40 = .ok (.iload 4, 2) := by decide +kernel
theorem dX10_put_42 : decode cX10_put 42 = .ok (.if_icmp .lt 5, 3) := by decide +kernel
theorem dX10_put_45 : decode cX10_put 45 = .ok (.iconst 1, 1) := by decide +kernel
theorem dX10_put_46 : decode cX10_put 46 = .ok (.ireturn, 1) := by decide +kernel
theorem dX10_put_47 : decode cX10_put 47 = .ok (.aload_n 0, 1) := by decide +kernel
theorem dX10_put_48 : decode cX10_put 48 = .ok (.getfield 26, 3) := by decide +kernel
theorem dX10_put_51 : decode cX10_put 51 = .ok (.iload_n 1, 1) := by decide +kernel
theorem dX10_put_52 : decode cX10_put 52 = .ok (.invokevirtual 160, 3) := by decide +kernel
theorem dX10_put_55 : decode cX10_put 55 = .ok (.ifCond .ne 5, 3) := by decide +kernel
theorem dX10_put_58 : decode cX10_put 58 = .ok (.iconst 2, 1) := by decide +kernel
theorem dX10_put_59 : decode cX10_put 59 = .ok (.ireturn, 1) := by decide +kernel
theorem dX10_put_60 : decode cX10_put 60 = .ok (.iload_n 3, 1) := by decide +kernel
theorem dX10_put_61 : decode cX10_put 61 = .ok (.iconst (-1), 1) := by decide +kernel
theorem dX10_put_62 : decode cX10_put 62 = .ok (.if_icmp .ne 8, 3) := by decide +kernel
theorem dX10_put_65 : decode cX10_put 65 = .ok (.iload 4, 2) := by decide +kernel
theorem dX10_put_67 : decode cX10_put 67 = .ok (.goto 4, 3) := by decide +kernel
theorem dX10_put_70 : decode cX10_put 70 = .ok (.iload_n 3, 1) := by decide +kernel
theorem dX10_put_71 : decode cX10_put 71 = .ok (.istore 5, 2) := by decide +kernel
theorem dX10_put_73 : decode cX10_put 73 = .ok (.aload_n 0, 1) := by decide +kernel
theorem dX10_put_74 : decode cX10_put 74 = .ok (.aload_n 0, 1) := by decide +kernel
theorem dX10_put_75 : decode cX10_put 75 = .ok (.getfield 26, 3) := by decide +kernel
theorem dX10_put_78 : decode cX10_put 78 = .ok (.iload_n 1, 1) := by decide +kernel
theorem dX10_put_79 : decode cX10_put 79 = .ok (.iload_n 2, 1) := by decide +kernel
theorem dX10_put_80 : decode cX10_put 80 = .ok (.iload 5, 2) := by decide +kernel
theorem dX10_put_82 : decode cX10_put 82 = .ok (.invokevirtual 163, 3) := by decide +kernel
theorem dX10_put_85 : decode cX10_put 85 = .ok (.istore 6, 2) := by decide +kernel
theorem dX10_put_87 : decode cX10_put 87 = .ok (.iload 6, 2) := by decide +kernel
theorem dX10_put_89 : decode cX10_put 89 = .ok (.ifCond .ne 45, 3) := by decide +kernel
theorem dX10_put_92 : decode cX10_put 92 = .ok (.aload_n 0, 1) := by decide +kernel
theorem dX10_put_93 : decode cX10_put 93 = .ok (.getfield 26, 3) := by decide +kernel
theorem dX10_put_96 : decode cX10_put 96 = .ok (.dup, 1) := by decide +kernel
theorem dX10_put_97 : decode cX10_put 97 = .ok (.getfield 167, 3) := by decide +kernel
theorem dX10_put_100 : decode cX10_put 100 = .ok (.aload_n 0, 1) := by decide +kernel
theorem dX10_put_101 : decode cX10_put 101 = .ok (.getfield 19, 3) := by decide +kernel
theorem dX10_put_104 : decode cX10_put 104 = .ok (.getfield 123, 3) := by decide +kernel
theorem dX10_put_107 : decode cX10_put 107 = .ok (.iload_n 1, 1) := by decide +kernel
theorem dX10_put_108 : decode cX10_put 108 = .ok (.iaload, 1) := by decide +kernel
theorem dX10_put_109 : decode cX10_put 109 = .ok (.aload_n 0, 1) := by decide +kernel
theorem dX10_put_110 : decode cX10_put 110 = .ok (.getfield 19, 3) := by decide +kernel
theorem dX10_put_113 : decode cX10_put 113 = .ok (.getfield 147, 3) := by decide +kernel
theorem dX10_put_116 : decode cX10_put 116 = .ok (.iload_n 2, 1) := by decide +kernel
theorem dX10_put_117 : decode cX10_put 117 = .ok (.iaload, 1) := by decide +kernel
theorem dX10_put_118 : decode cX10_put 118 = .ok (.iadd, 1) := by decide +kernel
theorem dX10_put_119 : decode cX10_put 119 = .ok (.iadd, 1) := by decide +kernel
theorem dX10_put_120 : decode cX10_put 120 = .ok (.putfield 167, 3) := by decide +kernel
theorem dX10_put_123 : decode cX10_put 123 = .ok (.aload_n 0, 1) := by decide +kernel
theorem dX10_put_124 : decode cX10_put 124 = .ok (.getfield 26, 3) := by decide +kernel
theorem dX10_put_127 : decode cX10_put 127 = .ok (.iload_n 1, 1) := by decide +kernel
theorem dX10_put_128 : decode cX10_put 128 = .ok (.iload_n 2, 1) := by decide +kernel
theorem dX10_put_129 : decode cX10_put 129 = .ok (.iload 5, 2) := by decide +kernel
theorem dX10_put_131 : decode cX10_put 131 = .ok (.invokevirtual 170, 3) := by decide +kernel
theorem dX10_put_134 : decode cX10_put 134 = .ok (.iload 6, 2) := by decide +kernel
theorem dX10_put_136 : decode cX10_put 136 = .ok (.ireturn, 1) := by decide +kernel
theorem dX10_draw_0 : decode cX10_draw 0 = .ok (.aload_n 0, 1) := by decide +kernel
theorem dX10_draw_1 : decode cX10_draw 1 = .ok (.getfield 19, 3) := by decide +kernel
theorem dX10_draw_4 : decode cX10_draw 4 = .ok (.iload_n 1, 1) := by decide +kernel
theorem dX10_draw_5 : decode cX10_draw 5 = .ok (.invokevirtual 112, 3) := by decide +kernel
theorem dX10_draw_8 : decode cX10_draw 8 = .ok (.ifCond .ne 5, 3) := by decide +kernel
theorem dX10_draw_11 : decode cX10_draw 11 = .ok (.iconst 1, 1) := by decide +kernel
theorem dX10_draw_12 : decode cX10_draw 12 = .ok (.ireturn, 1) := by decide +kernel
theorem dX10_draw_13 : decode cX10_draw 13 = .ok (.aload_n 0, 1) := by decide +kernel
theorem dX10_draw_14 : decode cX10_draw 14 = .ok (.getfield 26, 3) := by decide +kernel
theorem dX10_draw_17 : decode cX10_draw 17 = .ok (.iload_n 1, 1) := by decide +kernel
theorem dX10_draw_18 : decode cX10_draw 18 = .ok (.invokevirtual 160, 3) := by decide +kernel
theorem dX10_draw_21 : decode cX10_draw 21 = .ok (.ifCond .eq 5, 3) := by decide +kernel
theorem dX10_draw_24 : decode cX10_draw 24 = .ok (.iconst 2, 1) := by decide +kernel
theorem dX10_draw_25 : decode cX10_draw 25 = .ok (.ireturn, 1) := by decide +kernel
theorem dX10_draw_26 : decode cX10_draw 26 = .ok (.aload_n 0, 1) := by decide +kernel
theorem dX10_draw_27 : decode cX10_draw 27 = .ok (.getfield 26, 3) := by decide +kernel
theorem dX10_draw_30 : decode cX10_draw 30 = .ok (.getfield 181, 3) := by decide +kernel
theorem dX10_draw_33 : decode cX10_draw 33 = .ok (.iload_n 1, 1) := by decide +kernel
theorem dX10_draw_34 : decode cX10_draw 34 = .ok (.iaload, 1) := by decide +kernel
theorem dX10_draw_35 : decode cX10_draw 35 = .ok (.istore_n 2, 1) := by decide +kernel
theorem dX10_draw_36 : decode cX10_draw 36 = .ok (.aload_n 0, 1) := by decide +kernel
theorem dX10_draw_37 : decode cX10_draw 37 = .ok (.getfield 40, 3) := by decide +kernel
theorem dX10_draw_40 : decode cX10_draw 40 = .ok (.aload_n 0, 1) := by decide +kernel
theorem dX10_draw_41 : decode cX10_draw 41 = .ok (.getfield 26, 3) := by decide +kernel
theorem dX10_draw_44 : decode cX10_draw 44 = .ok (.iload_n 2, 1) := by decide +kernel
theorem dX10_draw_45 : decode cX10_draw 45 = .ok (.aload_n 0, 1) := by decide +kernel
theorem dX10_draw_46 : decode cX10_draw 46 = .ok (.getfield 26, 3) := by decide +kernel
theorem dX10_draw_49 : decode cX10_draw 49 = .ok (.getfield 184, 3) := by decide +kernel
theorem dX10_draw_52 : decode cX10_draw 52 = .ok (.iload_n 1, 1) := by decide +kernel
theorem dX10_draw_53 : decode cX10_draw 53 = .ok (.iaload, 1) := by decide +kernel
theorem dX10_draw_54 : decode cX10_draw 54 = .ok (.invokevirtual 173, 3) := by decide +kernel
theorem dX10_draw_57 : decode cX10_draw 57 = .ok (.aload_n 0, 1) := by decide +kernel
theorem dX10_draw_58 : decode cX10_draw 58 = .ok (.getfield 40, 3) := by decide +kernel
theorem dX10_draw_61 : decode cX10_draw 61 = .ok (.aload_n 0, 1) := by decide +kernel
theorem dX10_draw_62 : decode cX10_draw 62 = .ok (.getfield 19, 3) := by decide +kernel
theorem dX10_draw_65 : decode cX10_draw 65 = .ok (.aload_n 0, 1) := by decide +kernel
theorem dX10_draw_66 : decode cX10_draw 66 = .ok (.getfield 26, 3) := by decide +kernel
theorem dX10_draw_69 : decode cX10_draw 69 = .ok (.getfield 187, 3) := by decide +kernel
theorem dX10_draw_72 : decode cX10_draw 72 = .ok (.iload_n 1, 1) := by decide +kernel
theorem dX10_draw_73 : decode cX10_draw 73 = .ok (.iaload, 1) := by decide +kernel
theorem dX10_draw_74 : decode cX10_draw 74 = .ok (.aload_n 0, 1) := by decide +kernel
theorem dX10_draw_75 : decode cX10_draw 75 = .ok (.getfield 19, 3) := by decide +kernel
theorem dX10_draw_78 : decode cX10_draw 78 = .ok (.getfield 147, 3) := by decide +kernel
theorem dX10_draw_81 : decode cX10_draw 81 = .ok (.iload_n 2, 1) := by decide +kernel
theorem dX10_draw_82 : decode cX10_draw 82 = .ok (.iaload, 1) := by decide +kernel
theorem dX10_draw_83 : decode cX10_draw 83 = .ok (.invokevirtual 190, 3) := by decide +kernel
theorem dX10_draw_86 : decode cX10_draw 86 = .ok (.istore_n 3, 1) := by decide +kernel
theorem dX10_draw_87 : decode cX10_draw 87 = .ok (.aload_n 0, 1) := by decide +kernel
theorem dX10_draw_88 : decode cX10_draw 88 = .ok (.getfield 40, 3) := by decide +kernel
theorem dX10_draw_91 : decode cX10_draw 91 = .ok (.aload_n 0, 1) := by decide +kernel
theorem dX10_draw_92 : decode cX10_draw 92 = .ok (.getfield 26, 3) := by decide +kernel
theorem dX10_draw_95 : decode cX10_draw 95 = .ok (.getfield 187, 3) := by decide +kernel
theorem dX10_draw_98 : decode cX10_draw 98 = .ok (.iload_n 1, 1) := by decide +kernel
theorem dX10_draw_99 : decode cX10_draw 99 = .ok (.iaload, 1) := by decide +kernel
theorem dX10_draw_100 : decode cX10_draw 100 = .ok (.invokevirtual 194, 3) := by decide +kernel
theorem dX10_draw_103 : decode cX10_draw 103 = .ok (.aload_n 0, 1) := by decide +kernel
theorem dX10_draw_104 : decode cX10_draw 104 = .ok (.getfield 40, 3) := by decide +kernel
theorem dX10_draw_107 : decode cX10_draw 107 = .ok (.aload_n 0, 1) := by decide +kernel
theorem dX10_draw_108 : decode cX10_draw 108 = .ok (.getfield 19, 3) := by decide +kernel
theorem dX10_draw_111 : decode cX10_draw 111 = .ok (.aload_n 0, 1) := by decide +kernel
theorem dX10_draw_112 : decode cX10_draw 112 = .ok (.getfield 19, 3) := by decide +kernel
theorem dX10_draw_115 : decode cX10_draw 115 = .ok (.getfield 144, 3) := by decide +kernel
theorem dX10_draw_118 : decode cX10_draw 118 = .ok (.iload_n 2, 1) := by decide +kernel
theorem dX10_draw_119 : decode cX10_draw 119 = .ok (.iaload, 1) := by decide +kernel
theorem dX10_draw_120 : decode cX10_draw 120 = .ok (.invokevirtual 178, 3) := by decide +kernel
theorem dX10_draw_123 : decode cX10_draw 123 = .ok (.istore 4, 2) := by decide +kernel
theorem dX10_draw_125 : decode cX10_draw 125 = .ok (.iload 4, 2) := by decide +kernel
theorem dX10_draw_127 : decode cX10_draw 127 = .ok (.ifCond .ne 24, 3) := by decide +kernel
theorem dX10_draw_130 : decode cX10_draw 130 = .ok (.aload_n 0, 1) := by decide +kernel
theorem dX10_draw_131 : decode cX10_draw 131 = .ok (.getfield 26, 3) := by decide +kernel
theorem dX10_draw_134 : decode cX10_draw 134 = .ok (.dup, 1) := by decide +kernel
theorem dX10_draw_135 : decode cX10_draw 135 = .ok (.getfield 167, 3) := by decide +kernel
theorem dX10_draw_138 : decode cX10_draw 138 = .ok (.iload_n 3, 1) := by decide +kernel
theorem dX10_draw_139 : decode cX10_draw 139 = .ok (.iadd, 1) := by decide +kernel
theorem dX10_draw_140 : decode cX10_draw 140 = .ok (.putfield 167, 3) := by decide +kernel
theorem dX10_draw_143 : decode cX10_draw 143 = .ok (.aload_n 0, 1) := by decide +kernel
theorem dX10_draw_144 : decode cX10_draw 144 = .ok (.getfield 26, 3) := by decide +kernel
theorem dX10_draw_147 : decode cX10_draw 147 = .ok (.iload_n 1, 1) := by decide +kernel
theorem dX10_draw_148 : decode cX10_draw 148 = .ok (.invokevirtual 197, 3) := by decide +kernel
theorem dX10_draw_151 : decode cX10_draw 151 = .ok (.iload 4, 2) := by decide +kernel
theorem dX10_draw_153 : decode cX10_draw 153 = .ok (.ireturn, 1) := by decide +kernel
theorem dX10_carry_0 : decode cX10_carry 0 = .ok (.aload_n 0, 1) := by decide +kernel
theorem dX10_carry_1 : decode cX10_carry 1 = .ok (.iload_n 1, 1) := by decide +kernel
theorem dX10_carry_2 : decode cX10_carry 2 = .ok (.iload_n 2, 1) := by decide +kernel
theorem dX10_carry_3 : decode cX10_carry 3 = .ok (.invokevirtual 198, 3) := by decide +kernel
theorem dX10_carry_6 : decode cX10_carry 6 = .ok (.ifCond .eq 19, 3) := by decide +kernel
theorem dX10_carry_9 : decode cX10_carry 9 = .ok (.aload_n 0, 1) := by decide +kernel
theorem dX10_carry_10 : decode cX10_carry 10 = .ok (.getfield 19, 3) := by decide +kernel
theorem dX10_carry_13 : decode cX10_carry 13 = .ok (.iload_n 3, 1) := by decide +kernel
theorem dX10_carry_14 : decode cX10_carry 14 = .ok (.invokevirtual 141, 3) := by decide +kernel
theorem dX10_carry_17 : decode cX10_carry 17 = .ok (.ifCond .eq 8, 3) := by decide +kernel
theorem dX10_carry_20 : decode cX10_carry 20 = .ok (.iload_n 1, 1) := by decide +kernel
theorem dX10_carry_21 : decode cX10_carry 21 = .ok (.iload_n 3, 1) := by decide +kernel
theorem dX10_carry_22 : decode cX10_carry 22 = .ok (.if_icmp .ne 5, 3) := by decide +kernel
theorem dX10_carry_25 : decode cX10_carry 25 = .ok (.iconst 1, 1) := by decide +kernel
theorem dX10_carry_26 : decode cX10_carry 26 = .ok (.ireturn, 1) := by decide +kernel
theorem dX10_carry_27 : decode cX10_carry 27 = .ok (.aload_n 0, 1) := by decide +kernel
theorem dX10_carry_28 : decode cX10_carry 28 = .ok (.getfield 26, 3) := by decide +kernel
theorem dX10_carry_31 : decode cX10_carry 31 = .ok (.iload_n 3, 1) := by decide +kernel
theorem dX10_carry_32 : decode cX10_carry 32 = .ok (.invokevirtual 153, 3) := by decide +kernel
theorem dX10_carry_35 : decode cX10_carry 35 = .ok (.aload_n 0, 1) := by decide +kernel
theorem dX10_carry_36 : decode cX10_carry 36 = .ok (.getfield 19, 3) := by decide +kernel
theorem dX10_carry_39 : decode cX10_carry 39 = .ok (.getfield 150, 3) := by decide +kernel
theorem dX10_carry_42 : decode cX10_carry 42 = .ok (.iload_n 3, 1) := by decide +kernel
theorem dX10_carry_43 : decode cX10_carry 43 = .ok (.iaload, 1) := by decide +kernel
theorem dX10_carry_44 : decode cX10_carry 44 = .ok (.if_icmp .lt 5, 3) := by decide +kernel
theorem dX10_carry_47 : decode cX10_carry 47 = .ok (.iconst 3, 1) := by decide +kernel
theorem dX10_carry_48 : decode cX10_carry 48 = .ok (.ireturn, 1) := by decide +kernel
theorem dX10_carry_49 : decode cX10_carry 49 = .ok (.aload_n 0, 1) := by decide +kernel
theorem dX10_carry_50 : decode cX10_carry 50 = .ok (.getfield 40, 3) := by decide +kernel
theorem dX10_carry_53 : decode cX10_carry 53 = .ok (.aload_n 0, 1) := by decide +kernel
theorem dX10_carry_54 : decode cX10_carry 54 = .ok (.getfield 26, 3) := by decide +kernel
theorem dX10_carry_57 : decode cX10_carry 57 = .ok (.iload_n 1, 1) := by decide +kernel
theorem dX10_carry_58 : decode cX10_carry 58 = .ok (.iload_n 2, 1) := by decide +kernel
theorem dX10_carry_59 : decode cX10_carry 59 = .ok (.invokevirtual 173, 3) := by decide +kernel
theorem dX10_carry_62 : decode cX10_carry 62 = .ok (.aload_n 0, 1) := by decide +kernel
theorem dX10_carry_63 : decode cX10_carry 63 = .ok (.getfield 40, 3) := by decide +kernel
theorem dX10_carry_66 : decode cX10_carry 66 = .ok (.aload_n 0, 1) := by decide +kernel
theorem dX10_carry_67 : decode cX10_carry 67 = .ok (.getfield 19, 3) := by decide +kernel
theorem dX10_carry_70 : decode cX10_carry 70 = .ok (.invokevirtual 202, 3) := by decide +kernel
theorem dX10_carry_73 : decode cX10_carry 73 = .ok (.aload_n 0, 1) := by decide +kernel
theorem dX10_carry_74 : decode cX10_carry 74 = .ok (.getfield 19, 3) := by decide +kernel
theorem dX10_carry_77 : decode cX10_carry 77 = .ok (.getfield 144, 3) := by decide +kernel
theorem dX10_carry_80 : decode cX10_carry 80 = .ok (.iload_n 3, 1) := by decide +kernel
theorem dX10_carry_81 : decode cX10_carry 81 = .ok (.iaload, 1) := by decide +kernel
theorem dX10_carry_82 : decode cX10_carry 82 = .ok (.if_icmp .le 6, 3) := by decide +kernel
theorem dX10_carry_85 : decode cX10_carry 85 = .ok (.bipush 6, 2) := by decide +kernel
theorem dX10_carry_87 : decode cX10_carry 87 = .ok (.ireturn, 1) := by decide +kernel
theorem dX10_carry_88 : decode cX10_carry 88 = .ok (.aload_n 0, 1) := by decide +kernel
theorem dX10_carry_89 : decode cX10_carry 89 = .ok (.getfield 26, 3) := by decide +kernel
theorem dX10_carry_92 : decode cX10_carry 92 = .ok (.dup, 1) := by decide +kernel
theorem dX10_carry_93 : decode cX10_carry 93 = .ok (.getfield 167, 3) := by decide +kernel
theorem dX10_carry_96 : decode cX10_carry 96 = .ok (.iconst 2, 1) := by decide +kernel
theorem dX10_carry_97 : decode cX10_carry 97 = .ok (.aload_n 0, 1) := by decide +kernel
theorem dX10_carry_98 : decode cX10_carry 98 = .ok (.getfield 40, 3) := by decide +kernel
theorem dX10_carry_101 : decode cX10_carry 101 = .ok (.aload_n 0, 1) := by decide +kernel
theorem dX10_carry_102 : decode cX10_carry 102 = .ok (.getfield 19, 3) := by decide +kernel
theorem dX10_carry_105 : decode cX10_carry 105 = .ok (.iconst 0, 1) := by decide +kernel
theorem dX10_carry_106 : decode cX10_carry 106 = .ok (.invokevirtual 206, 3) := by decide +kernel
theorem dX10_carry_109 : decode cX10_carry 109 = .ok (.imul, 1) := by decide +kernel
theorem dX10_carry_110 : decode cX10_carry 110 = .ok (.aload_n 0, 1) := by decide +kernel
theorem dX10_carry_111 : decode cX10_carry 111 = .ok (.getfield 40, 3) := by decide +kernel
theorem dX10_carry_114 : decode cX10_carry 114 = .ok (.getfield 209, 3) := by decide +kernel
theorem dX10_carry_117 : decode cX10_carry 117 = .ok (.aload_n 0, 1) := by decide +kernel
theorem dX10_carry_118 : decode cX10_carry 118 = .ok (.getfield 19, 3) := by decide +kernel
theorem dX10_carry_121 : decode cX10_carry 121 = .ok (.getfield 147, 3) := by decide +kernel
theorem dX10_carry_124 : decode cX10_carry 124 = .ok (.iload_n 1, 1) := by decide +kernel
theorem dX10_carry_125 : decode cX10_carry 125 = .ok (.iaload, 1) := by decide +kernel
theorem dX10_carry_126 : decode cX10_carry 126 = .ok (.aload_n 0, 1) := by decide +kernel
theorem dX10_carry_127 : decode cX10_carry 127 = .ok (.getfield 19, 3) := by decide +kernel
theorem dX10_carry_130 : decode cX10_carry 130 = .ok (.getfield 147, 3) := by decide +kernel
theorem dX10_carry_133 : decode cX10_carry 133 = .ok (.iload_n 3, 1) := by decide +kernel
theorem dX10_carry_134 : decode cX10_carry 134 = .ok (.iaload, 1) := by decide +kernel
theorem dX10_carry_135 : decode cX10_carry 135 = .ok (.iadd, 1) := by decide +kernel
theorem dX10_carry_136 : decode cX10_carry 136 = .ok (.imul, 1) := by decide +kernel
theorem dX10_carry_137 : decode cX10_carry 137 = .ok (.iadd, 1) := by decide +kernel
theorem dX10_carry_138 : decode cX10_carry 138 = .ok (.iadd, 1) := by decide +kernel
theorem dX10_carry_139 : decode cX10_carry 139 = .ok (.putfield 167, 3) := by decide +kernel
theorem dX10_carry_142 : decode cX10_carry 142 = .ok (.aload_n 0, 1) := by decide +kernel
theorem dX10_carry_143 : decode cX10_carry 143 = .ok (.getfield 26, 3) := by decide +kernel
theorem dX10_carry_146 : decode cX10_carry 146 = .ok (.iload_n 1, 1) := by decide +kernel
theorem dX10_carry_147 : decode cX10_carry 147 = .ok (.iload_n 2, 1) := by decide +kernel
theorem dX10_carry_148 : decode cX10_carry 148 = .ok (.iload_n 3, 1) := by decide +kernel
theorem dX10_carry_149 : decode cX10_carry 149 = .ok (.invokevirtual 212, 3) := by decide +kernel
theorem dX10_carry_152 : decode cX10_carry 152 = .ok (.iconst 0, 1) := by decide +kernel
theorem dX10_carry_153 : decode cX10_carry 153 = .ok (.ireturn, 1) := by decide +kernel
/-- the four marks -/
def mk4 (a b c d : Nat) : Nat → Option Nat
  | 0 => some a
  | 1 => some b
  | 2 => some c
  | 3 => some d
  | _ => none
set_option maxHeartbeats 4000000 in
set_option maxRecDepth 100000 in
theorem c_X10_refusal (l : Launch) (D : DG) (cyC cyI cyJ cyZ cyO : ClassId) (x0 : Nat) (a0 : Nat) (a1 : Nat) (a2 : Nat) (a3 : Nat) (a4 : Nat) (a7 : Nat) (a8 : Nat) (a10 : Nat) (q0 : Nat) (q1 : Nat) (g0 : Nat) (g1 : Nat) (g2 : Nat) (g3 : Nat) (r0 : Nat) (n0 : Nat) (k0 : Nat) (x1 : Nat) (o0 : Nat) (h0 : Nat) (s0 : Nat) (d0 : Nat) (a5 : Nat) (a6 : Nat) (a9 : Nat) (g4 : Nat) (p1 : Int32) (p2 : Int32) (p3 : Int32) (a_wares : Int32) (a_shelves : Int32) (a_nests : Int32) (a_lids : Int32) (a_tops : Int32) (q_size : Int32) (g_askings : Int32) (g_cost : Int32) (g_laid : Int32) (a_wide : Nat → Int32) (a_deep : Nat → Int32) (a_weight : Nat → Int32) (a_bears : Nat → Int32) (a_mayOn : Nat → Int32) (a_height : Nat → Int32) (a_room : Nat → Int32) (q_ware : Nat → Int32) (g_shelf : Nat → Int32) (g_stack : Nat → Int32) (g_level : Nat → Int32) (h_a_wares : 0 ≤ (a_wares).toInt ∧ (a_wares).toInt ≤ 12) (h_a_shelves : 0 ≤ (a_shelves).toInt ∧ (a_shelves).toInt ≤ 4) (h_a_nests : 0 ≤ (a_nests).toInt ∧ (a_nests).toInt ≤ 4) (h_q_size : 0 ≤ (q_size).toInt ∧ (q_size).toInt ≤ 12) (h_g_askings : 0 ≤ (g_askings).toInt ∧ (g_askings).toInt ≤ 30) (h_g_laid : 0 ≤ (g_laid).toInt ∧ (g_laid).toInt ≤ 1) (h_p1 : 0 ≤ (p1).toInt ∧ (p1).toInt ≤ 11) (h_p2 : 0 ≤ (p2).toInt ∧ (p2).toInt ≤ 3) (h_p3 : 0 ≤ (p3).toInt ∧ (p3).toInt ≤ 8) (h_a_room : Iv 4 (0) (8) a_room) (h_q_ware : Iv 12 (0) (11) q_ware) (h_g_shelf : Iv 12 (-1) (3) g_shelf) (h_g_stack : Iv 12 (0) (7) g_stack) (h_g_level : Iv 12 (0) (11) g_level) (hp3 : (p3).toInt ≤ (stF g_shelf g_stack p2 12).toInt) : KK l D (TY cyC cyI cyJ cyZ cyO) yX10_refusal cX10_refusal 5 (some .int) ({ frames := 3, cells := 0, slots := 0, locals := 70 } : Room) 0 0 [.ref x0, .ref g0, .int p1, .int p2, .int p3] [(x0, .inr (10, [.ref r0, .ref a0, .ref n0, .ref k0, .ref x1, .ref q0, .ref o0, .ref h0, .ref s0, .ref d0])), (a0, .inr (9, [.int a_wares, .int a_shelves, .int a_nests, .ref a1, .ref a2, .ref a3, .ref a4, .ref a5, .ref a6, .int a_lids, .int a_tops, .ref a7, .ref a8, .ref a9, .ref a10])), (a1, .inl (cyI, 12, .inl a_wide)), (a2, .inl (cyI, 12, .inl a_deep)), (a3, .inl (cyI, 12, .inl a_weight)), (a4, .inl (cyI, 12, .inl a_bears)), (a7, .inl (cyI, 12, .inl a_mayOn)), (a8, .inl (cyI, 4, .inl a_height)), (a10, .inl (cyI, 4, .inl a_room)), (q0, .inr (4, [.ref q1, .int q_size])), (q1, .inl (cyI, 12, .inl q_ware)), (g0, .inr (7, [.ref g1, .ref g2, .ref g3, .ref g4, .int g_askings, .int g_cost, .int g_laid])), (g1, .inl (cyI, 12, .inl g_shelf)), (g2, .inl (cyI, 12, .inl g_stack)), (g3, .inl (cyI, 12, .inl g_level))] (fun u => some (.int (u.2.1 0))) (fun u => (0 ≤ (u.2.1 0).toInt ∧ (u.2.1 0).toInt ≤ 6) ∧ (0 ≤ (u.2.1 1).toInt ∧ (u.2.1 1).toInt ≤ 12) ∧ (Iv 12 (0) (11) (u.2.2.1 0)) ∧ (¬ (u.2.1 0).toInt = 0 ∨ (p3).toInt ≤ 7) ∧ (RFP ((p3).toInt = (stF g_shelf g_stack p2 12).toInt ∧ (a_room (p2).toInt.toNat).toInt ≤ (p3).toInt) (∀ (r : Nat → Int32) (n : Nat), ROW g_shelf g_stack g_level p2 p3 r n → n ≤ 11 → RFZ (fun u l => BT (a_mayOn l) u) a_weight a_bears a_deep (rsC a_wide a_deep a_lids) (upd r n p1) (n + 1) (a_height (p2).toInt.toNat) (u.2.1 0).toInt) (u.2.1 0).toInt)) (fun u => [(x0, .inr (10, [.ref r0, .ref a0, .ref n0, .ref k0, .ref x1, .ref q0, .ref o0, .ref h0, .ref s0, .ref d0])), (a0, .inr (9, [.int a_wares, .int a_shelves, .int a_nests, .ref a1, .ref a2, .ref a3, .ref a4, .ref a5, .ref a6, .int a_lids, .int a_tops, .ref a7, .ref a8, .ref a9, .ref a10])), (a1, .inl (cyI, 12, .inl a_wide)), (a2, .inl (cyI, 12, .inl a_deep)), (a3, .inl (cyI, 12, .inl a_weight)), (a4, .inl (cyI, 12, .inl a_bears)), (a7, .inl (cyI, 12, .inl a_mayOn)), (a8, .inl (cyI, 4, .inl a_height)), (a10, .inl (cyI, 4, .inl a_room)), (q0, .inr (4, [.ref q1, .int (u.2.1 1)])), (q1, .inl (cyI, 12, .inl (u.2.2.1 0))), (g0, .inr (7, [.ref g1, .ref g2, .ref g3, .ref g4, .int g_askings, .int g_cost, .int g_laid])), (g1, .inl (cyI, 12, .inl g_shelf)), (g2, .inl (cyI, 12, .inl g_stack)), (g3, .inl (cyI, 12, .inl g_level))]) := by
  refine KK.of (lv0 := [(0, .ref x0), (1, .ref g0), (2, .int p1), (3, .int p2), (4, .int p3)]) (by decide) rfl (Nat.le_of_ble_eq_true rfl) ?_
  intro p e s m args below meth c A C hr hk hin
  refine j_iload (pc := 0) C dX10_refusal_0 4 rfl ?_
  refine j_aload_n (pc := 2) C dX10_refusal_2 rfl 1 rfl ?_
  refine j_iload_n (pc := 3) C dX10_refusal_3 rfl 3 rfl ?_
  refine j_callV (pc := 4) (As := [.int p2]) (rest := [.int p3]) (wr := [(x0, .inr (10, [.ref r0, .ref a0, .ref n0, .ref k0, .ref x1, .ref q0, .ref o0, .ref h0, .ref s0, .ref d0])), (a0, .inr (9, [.int a_wares, .int a_shelves, .int a_nests, .ref a1, .ref a2, .ref a3, .ref a4, .ref a5, .ref a6, .int a_lids, .int a_tops, .ref a7, .ref a8, .ref a9, .ref a10])), (a1, .inl (cyI, 12, .inl a_wide)), (a2, .inl (cyI, 12, .inl a_deep)), (a3, .inl (cyI, 12, .inl a_weight)), (a4, .inl (cyI, 12, .inl a_bears)), (a7, .inl (cyI, 12, .inl a_mayOn)), (a8, .inl (cyI, 4, .inl a_height)), (a10, .inl (cyI, 4, .inl a_room)), (q0, .inr (4, [.ref q1, .int q_size])), (q1, .inl (cyI, 12, .inl q_ware)), (g3, .inl (cyI, 12, .inl g_level))]) C (c_X7_stacks l D cyC cyI cyJ cyZ cyO g0 g1 g2 g3 g4 p2 g_askings g_cost g_laid g_shelf g_stack h_g_askings h_g_laid h_g_shelf h_g_stack) wd_66 wd_9 wd_437 wd_68 wd_69 ⟨by decide, by decide, rfl⟩ rfl ⟨rfl, rfl, by decide, by decide⟩ ⟨by decide, by decide⟩ [11, 12, 13] [0, 1, 2, 3, 4, 5, 6, 7, 8, 9, 10, 14] rfl rfl ⟨by decide, by decide, by decide⟩ 11 rfl rfl rfl (Nat.le_of_ble_eq_true rfl) dX10_refusal_4 (fun u_1 hw_2 => ?_)
  refine j_eq (ws2 := [(x0, .inr (10, [.ref r0, .ref a0, .ref n0, .ref k0, .ref x1, .ref q0, .ref o0, .ref h0, .ref s0, .ref d0])), (a0, .inr (9, [.int a_wares, .int a_shelves, .int a_nests, .ref a1, .ref a2, .ref a3, .ref a4, .ref a5, .ref a6, .int a_lids, .int a_tops, .ref a7, .ref a8, .ref a9, .ref a10])), (a1, .inl (cyI, 12, .inl a_wide)), (a2, .inl (cyI, 12, .inl a_deep)), (a3, .inl (cyI, 12, .inl a_weight)), (a4, .inl (cyI, 12, .inl a_bears)), (a7, .inl (cyI, 12, .inl a_mayOn)), (a8, .inl (cyI, 4, .inl a_height)), (a10, .inl (cyI, 4, .inl a_room)), (q0, .inr (4, [.ref q1, .int q_size])), (q1, .inl (cyI, 12, .inl q_ware)), (g3, .inl (cyI, 12, .inl g_level)), (g0, .inr (7, [.ref g1, .ref g2, .ref g3, .ref g4, .int g_askings, .int g_cost, .int g_laid])), (g1, .inl (cyI, 12, .inl g_shelf)), (g2, .inl (cyI, 12, .inl g_stack))]) (pc2 := 7) (lv2 := [(0, .ref x0), (1, .ref g0), (2, .int p1), (3, .int p2), (4, .int p3)]) (st2 := [.int (u_1.2.1 0), .int p3]) rfl rfl rfl rfl ?_
  obtain ⟨hw_2_0, hw_2_1⟩ := hw_2
  have hz9 := congrArg Int32.toInt hw_2_1
  refine j_icmp_ne (pc := 7) (tgt := 26) C dX10_refusal_7 (by decide) (fun c_3 => ?_) (fun c_3 => ?_)
  · skip
    rw [i_eq] at c_3
    refine j_aload_n (pc := 26) C dX10_refusal_26 rfl 0 rfl ?_
    refine j_get (pc := 27) (ci := 10) (v := .ref q0) C inw_10 0 rfl rfl 5 (by decide) wd_438 rfl rfl dX10_refusal_27 ?_
    refine j_aload_n (pc := 30) C dX10_refusal_30 rfl 1 rfl ?_
    refine j_iload_n (pc := 31) C dX10_refusal_31 rfl 3 rfl ?_
    refine j_iload (pc := 32) C dX10_refusal_32 4 rfl ?_
    refine j_callV (pc := 34) (As := [.ref g0, .int p2, .int p3]) (rest := []) (wr := [(x0, .inr (10, [.ref r0, .ref a0, .ref n0, .ref k0, .ref x1, .ref q0, .ref o0, .ref h0, .ref s0, .ref d0])), (a0, .inr (9, [.int a_wares, .int a_shelves, .int a_nests, .ref a1, .ref a2, .ref a3, .ref a4, .ref a5, .ref a6, .int a_lids, .int a_tops, .ref a7, .ref a8, .ref a9, .ref a10])), (a1, .inl (cyI, 12, .inl a_wide)), (a2, .inl (cyI, 12, .inl a_deep)), (a3, .inl (cyI, 12, .inl a_weight)), (a4, .inl (cyI, 12, .inl a_bears)), (a7, .inl (cyI, 12, .inl a_mayOn)), (a8, .inl (cyI, 4, .inl a_height)), (a10, .inl (cyI, 4, .inl a_room))]) C (c_X4_take l D cyC cyI cyJ cyZ cyO q0 q1 g0 g1 g2 g3 g4 p2 p3 q_size g_askings g_cost g_laid q_ware g_shelf g_stack g_level h_q_size h_g_askings h_g_laid h_q_ware h_g_shelf h_g_stack h_g_level) wd_439 wd_40 wd_440 wd_441 wd_442 ⟨by decide, by decide, rfl⟩ rfl ⟨rfl, rfl, by decide, by decide⟩ ⟨by decide, by decide⟩ [9, 10, 12, 13, 14, 11] [0, 1, 2, 3, 4, 5, 6, 7, 8] rfl rfl ⟨by decide, by decide, by decide⟩ 9 rfl rfl rfl (Nat.le_of_ble_eq_true rfl) dX10_refusal_34 (fun u_4 hw_5 => ?_)
    refine j_eq (ws2 := [(x0, .inr (10, [.ref r0, .ref a0, .ref n0, .ref k0, .ref x1, .ref q0, .ref o0, .ref h0, .ref s0, .ref d0])), (a0, .inr (9, [.int a_wares, .int a_shelves, .int a_nests, .ref a1, .ref a2, .ref a3, .ref a4, .ref a5, .ref a6, .int a_lids, .int a_tops, .ref a7, .ref a8, .ref a9, .ref a10])), (a1, .inl (cyI, 12, .inl a_wide)), (a2, .inl (cyI, 12, .inl a_deep)), (a3, .inl (cyI, 12, .inl a_weight)), (a4, .inl (cyI, 12, .inl a_bears)), (a7, .inl (cyI, 12, .inl a_mayOn)), (a8, .inl (cyI, 4, .inl a_height)), (a10, .inl (cyI, 4, .inl a_room)), (q0, .inr (4, [.ref q1, .int (u_4.2.1 0)])), (q1, .inl (cyI, 12, .inl (u_4.2.2.1 0))), (g0, .inr (7, [.ref g1, .ref g2, .ref g3, .ref g4, .int g_askings, .int g_cost, .int g_laid])), (g1, .inl (cyI, 12, .inl g_shelf)), (g2, .inl (cyI, 12, .inl g_stack)), (g3, .inl (cyI, 12, .inl g_level))]) (pc2 := 37) (lv2 := [(0, .ref x0), (1, .ref g0), (2, .int p1), (3, .int p2), (4, .int p3)]) (st2 := []) rfl rfl rfl rfl ?_
    obtain ⟨hw_5_0, hw_5_1, hw_5_2, hw_5_3⟩ := hw_5
    refine j_aload_n (pc := 37) C dX10_refusal_37 rfl 0 rfl ?_
    refine j_get (pc := 38) (ci := 10) (v := .ref q0) C inw_10 0 rfl rfl 5 (by decide) wd_438 rfl rfl dX10_refusal_38 ?_
    refine j_iload_n (pc := 41) C dX10_refusal_41 rfl 2 rfl ?_
    refine j_callV (pc := 42) (As := [.int p1]) (rest := []) (wr := [(x0, .inr (10, [.ref r0, .ref a0, .ref n0, .ref k0, .ref x1, .ref q0, .ref o0, .ref h0, .ref s0, .ref d0])), (a0, .inr (9, [.int a_wares, .int a_shelves, .int a_nests, .ref a1, .ref a2, .ref a3, .ref a4, .ref a5, .ref a6, .int a_lids, .int a_tops, .ref a7, .ref a8, .ref a9, .ref a10])), (a1, .inl (cyI, 12, .inl a_wide)), (a2, .inl (cyI, 12, .inl a_deep)), (a3, .inl (cyI, 12, .inl a_weight)), (a4, .inl (cyI, 12, .inl a_bears)), (a7, .inl (cyI, 12, .inl a_mayOn)), (a8, .inl (cyI, 4, .inl a_height)), (a10, .inl (cyI, 4, .inl a_room)), (g0, .inr (7, [.ref g1, .ref g2, .ref g3, .ref g4, .int g_askings, .int g_cost, .int g_laid])), (g1, .inl (cyI, 12, .inl g_shelf)), (g2, .inl (cyI, 12, .inl g_stack)), (g3, .inl (cyI, 12, .inl g_level))]) C (c_X4_add l D cyC cyI cyJ cyZ cyO q0 q1 p1 (u_4.2.1 0) (u_4.2.2.1 0) hw_5_0 h_p1 hw_5_1) wd_443 wd_40 wd_444 wd_445 wd_446 ⟨by decide, by decide, rfl⟩ rfl ⟨rfl, rfl, by decide, by decide⟩ ⟨by decide, by decide⟩ [9, 10] [0, 1, 2, 3, 4, 5, 6, 7, 8, 11, 12, 13, 14] rfl rfl ⟨by decide, by decide, by decide⟩ 9 rfl rfl rfl (Nat.le_of_ble_eq_true rfl) dX10_refusal_42 (fun u_6 hw_7 => ?_)
    refine j_eq (ws2 := [(x0, .inr (10, [.ref r0, .ref a0, .ref n0, .ref k0, .ref x1, .ref q0, .ref o0, .ref h0, .ref s0, .ref d0])), (a0, .inr (9, [.int a_wares, .int a_shelves, .int a_nests, .ref a1, .ref a2, .ref a3, .ref a4, .ref a5, .ref a6, .int a_lids, .int a_tops, .ref a7, .ref a8, .ref a9, .ref a10])), (a1, .inl (cyI, 12, .inl a_wide)), (a2, .inl (cyI, 12, .inl a_deep)), (a3, .inl (cyI, 12, .inl a_weight)), (a4, .inl (cyI, 12, .inl a_bears)), (a7, .inl (cyI, 12, .inl a_mayOn)), (a8, .inl (cyI, 4, .inl a_height)), (a10, .inl (cyI, 4, .inl a_room)), (g0, .inr (7, [.ref g1, .ref g2, .ref g3, .ref g4, .int g_askings, .int g_cost, .int g_laid])), (g1, .inl (cyI, 12, .inl g_shelf)), (g2, .inl (cyI, 12, .inl g_stack)), (g3, .inl (cyI, 12, .inl g_level)), (q0, .inr (4, [.ref q1, .int (u_6.2.1 0)])), (q1, .inl (cyI, 12, .inl (u_6.2.2.1 0)))]) (pc2 := 45) (lv2 := [(0, .ref x0), (1, .ref g0), (2, .int p1), (3, .int p2), (4, .int p3)]) (st2 := []) rfl rfl rfl rfl ?_
    obtain ⟨hw_7_0, hw_7_1, hw_7_2⟩ := hw_7
    refine j_aload_n (pc := 45) C dX10_refusal_45 rfl 0 rfl ?_
    refine j_get (pc := 46) (ci := 10) (v := .ref q0) C inw_10 0 rfl rfl 5 (by decide) wd_438 rfl rfl dX10_refusal_46 ?_
    refine j_aload_n (pc := 49) C dX10_refusal_49 rfl 0 rfl ?_
    refine j_get (pc := 50) (ci := 10) (v := .ref a0) C inw_10 0 rfl rfl 1 (by decide) wd_447 rfl rfl dX10_refusal_50 ?_
    refine j_aload_n (pc := 53) C dX10_refusal_53 rfl 0 rfl ?_
    refine j_get (pc := 54) (ci := 10) (v := .ref a0) C inw_10 0 rfl rfl 1 (by decide) wd_447 rfl rfl dX10_refusal_54 ?_
    refine j_get (pc := 57) (ci := 9) (v := .ref a8) C inw_9 1 rfl rfl 12 (by decide) wd_448 rfl rfl dX10_refusal_57 ?_
    refine j_iload_n (pc := 60) C dX10_refusal_60 rfl 3 rfl ?_
    obtain ⟨v_8, ev_8⟩ : ∃ z, a_height (p2).toInt.toNat = z := ⟨_, rfl⟩
    have env_8 : (a_height (p2).toInt.toNat).toInt = v_8.toInt := by rw [ev_8]
    refine j_iald (pc := 61) (v := v_8) (k := (p2).toInt.toNat) C 7 1 rfl rfl (i_nn h_p2.1) rfl (i_lt_n h_p2.1 (Int.lt_of_le_of_lt h_p2.2 (by decide))) ev_8 dX10_refusal_61 ?_
    refine j_callV (pc := 62) (As := [.ref a0, .int v_8]) (rest := []) (wr := [(x0, .inr (10, [.ref r0, .ref a0, .ref n0, .ref k0, .ref x1, .ref q0, .ref o0, .ref h0, .ref s0, .ref d0])), (a8, .inl (cyI, 4, .inl a_height)), (a10, .inl (cyI, 4, .inl a_room)), (g0, .inr (7, [.ref g1, .ref g2, .ref g3, .ref g4, .int g_askings, .int g_cost, .int g_laid])), (g1, .inl (cyI, 12, .inl g_shelf)), (g2, .inl (cyI, 12, .inl g_stack)), (g3, .inl (cyI, 12, .inl g_level))]) C (c_X4_refusal l D cyC cyI cyJ cyZ cyO q0 q1 a0 a1 a2 a3 a4 a7 a5 a6 a8 a9 a10 v_8 (u_6.2.1 0) a_wares a_shelves a_nests a_lids a_tops (u_6.2.2.1 0) a_wide a_deep a_weight a_bears a_mayOn hw_7_0 h_a_wares h_a_shelves h_a_nests hw_7_1) wd_449 wd_40 wd_450 wd_451 wd_452 ⟨by decide, by decide, rfl⟩ rfl ⟨rfl, rfl, by decide, by decide⟩ ⟨by decide, by decide⟩ [13, 14, 1, 2, 3, 4, 5, 6] [0, 7, 8, 9, 10, 11, 12] rfl rfl ⟨by decide, by decide, by decide⟩ 13 rfl rfl rfl (Nat.le_of_ble_eq_true rfl) dX10_refusal_62 (fun u_9 hw_10 => ?_)
    refine j_eq (ws2 := [(x0, .inr (10, [.ref r0, .ref a0, .ref n0, .ref k0, .ref x1, .ref q0, .ref o0, .ref h0, .ref s0, .ref d0])), (a8, .inl (cyI, 4, .inl a_height)), (a10, .inl (cyI, 4, .inl a_room)), (g0, .inr (7, [.ref g1, .ref g2, .ref g3, .ref g4, .int g_askings, .int g_cost, .int g_laid])), (g1, .inl (cyI, 12, .inl g_shelf)), (g2, .inl (cyI, 12, .inl g_stack)), (g3, .inl (cyI, 12, .inl g_level)), (q0, .inr (4, [.ref q1, .int (u_6.2.1 0)])), (q1, .inl (cyI, 12, .inl (u_6.2.2.1 0))), (a0, .inr (9, [.int a_wares, .int a_shelves, .int a_nests, .ref a1, .ref a2, .ref a3, .ref a4, .ref a5, .ref a6, .int a_lids, .int a_tops, .ref a7, .ref a8, .ref a9, .ref a10])), (a1, .inl (cyI, 12, .inl a_wide)), (a2, .inl (cyI, 12, .inl a_deep)), (a3, .inl (cyI, 12, .inl a_weight)), (a4, .inl (cyI, 12, .inl a_bears)), (a7, .inl (cyI, 12, .inl a_mayOn))]) (pc2 := 65) (lv2 := [(0, .ref x0), (1, .ref g0), (2, .int p1), (3, .int p2), (4, .int p3)]) (st2 := [.int (u_9.2.1 0)]) rfl rfl rfl rfl ?_
    obtain ⟨hw_10_0, hw_10_1⟩ := hw_10
    exact j_iret (pc := 65) C hr hk (fun i => [].getD i 0, fun i => [(u_9.2.1 0), (u_6.2.1 0)].getD i 0, fun i => [(u_6.2.2.1 0)].getD i (fun _ => 0), fun i => [].getD i (fun _ => 0)) rfl (show (0 ≤ ((u_9.2.1 0)).toInt ∧ ((u_9.2.1 0)).toInt ≤ 6) ∧ (0 ≤ ((u_6.2.1 0)).toInt ∧ ((u_6.2.1 0)).toInt ≤ 12) ∧ (Iv 12 (0) (11) (u_6.2.2.1 0)) ∧ (¬ (u_9.2.1 0).toInt = 0 ∨ (p3).toInt ≤ 7) ∧ (RFP ((p3).toInt = (stF g_shelf g_stack p2 12).toInt ∧ (a_room (p2).toInt.toNat).toInt ≤ (p3).toInt) (∀ (r : Nat → Int32) (n : Nat), ROW g_shelf g_stack g_level p2 p3 r n → n ≤ 11 → RFZ (fun u l => BT (a_mayOn l) u) a_weight a_bears a_deep (rsC a_wide a_deep a_lids) (upd r n p1) (n + 1) (a_height (p2).toInt.toNat) (u_9.2.1 0).toInt) (u_9.2.1 0).toInt) from ⟨hw_10_0, hw_7_0, hw_7_1, by omega, (Or.inr ⟨fun z => by have z1 := z.1; have z2 := z.2; omega, fun r n hR h11 => by obtain ⟨y1, y2⟩ := hw_5_3 r n hR; obtain ⟨y3, y4⟩ := hw_7_2 (by omega); rw [ev_8]; exact RFZ.cg hw_10_1 (by omega) (fun p hp => by rw [y4, show ((u_4.2.1 0)).toInt.toNat = n from (by omega)]; by_cases q : p = n; (rw [q, pk_us, pk_us]); (rw [pk_un q, pk_un q]; exact y2 p (by omega)))⟩)⟩) [0, 9, 10, 11, 12, 13, 14, 1, 2, 7, 8, 3, 4, 5, 6] (by decide) rfl (by decide) (by decide) dX10_refusal_65
  · skip
    rw [i_eq] at c_3
    refine j_iload (pc := 10) C dX10_refusal_10 4 rfl ?_
    refine j_aload_n (pc := 12) C dX10_refusal_12 rfl 0 rfl ?_
    refine j_get (pc := 13) (ci := 10) (v := .ref a0) C inw_10 0 rfl rfl 1 (by decide) wd_447 rfl rfl dX10_refusal_13 ?_
    refine j_get (pc := 16) (ci := 9) (v := .ref a10) C inw_9 1 rfl rfl 14 (by decide) wd_453 rfl rfl dX10_refusal_16 ?_
    refine j_iload_n (pc := 19) C dX10_refusal_19 rfl 3 rfl ?_
    obtain ⟨v_11, ev_11⟩ : ∃ z, a_room (p2).toInt.toNat = z := ⟨_, rfl⟩
    have env_11 : (a_room (p2).toInt.toNat).toInt = v_11.toInt := by rw [ev_11]
    have hv_11 := h_a_room (p2).toInt.toNat (i_lt_n h_p2.1 (Int.lt_of_le_of_lt h_p2.2 (by decide))); rw [ev_11] at hv_11
    refine j_iald (pc := 20) (v := v_11) (k := (p2).toInt.toNat) C 8 1 rfl rfl (i_nn h_p2.1) rfl (i_lt_n h_p2.1 (Int.lt_of_le_of_lt h_p2.2 (by decide))) ev_11 dX10_refusal_20 ?_
    refine j_icmp_lt (pc := 21) (tgt := 26) C dX10_refusal_21 (by decide) (fun c_12 => ?_) (fun c_12 => ?_)
    · skip
      rw [i_lt] at c_12
      refine j_aload_n (pc := 26) C dX10_refusal_26 rfl 0 rfl ?_
      refine j_get (pc := 27) (ci := 10) (v := .ref q0) C inw_10 0 rfl rfl 5 (by decide) wd_438 rfl rfl dX10_refusal_27 ?_
      refine j_aload_n (pc := 30) C dX10_refusal_30 rfl 1 rfl ?_
      refine j_iload_n (pc := 31) C dX10_refusal_31 rfl 3 rfl ?_
      refine j_iload (pc := 32) C dX10_refusal_32 4 rfl ?_
      refine j_callV (pc := 34) (As := [.ref g0, .int p2, .int p3]) (rest := []) (wr := [(x0, .inr (10, [.ref r0, .ref a0, .ref n0, .ref k0, .ref x1, .ref q0, .ref o0, .ref h0, .ref s0, .ref d0])), (a0, .inr (9, [.int a_wares, .int a_shelves, .int a_nests, .ref a1, .ref a2, .ref a3, .ref a4, .ref a5, .ref a6, .int a_lids, .int a_tops, .ref a7, .ref a8, .ref a9, .ref a10])), (a1, .inl (cyI, 12, .inl a_wide)), (a2, .inl (cyI, 12, .inl a_deep)), (a3, .inl (cyI, 12, .inl a_weight)), (a4, .inl (cyI, 12, .inl a_bears)), (a7, .inl (cyI, 12, .inl a_mayOn)), (a8, .inl (cyI, 4, .inl a_height)), (a10, .inl (cyI, 4, .inl a_room))]) C (c_X4_take l D cyC cyI cyJ cyZ cyO q0 q1 g0 g1 g2 g3 g4 p2 p3 q_size g_askings g_cost g_laid q_ware g_shelf g_stack g_level h_q_size h_g_askings h_g_laid h_q_ware h_g_shelf h_g_stack h_g_level) wd_439 wd_40 wd_440 wd_441 wd_442 ⟨by decide, by decide, rfl⟩ rfl ⟨rfl, rfl, by decide, by decide⟩ ⟨by decide, by decide⟩ [9, 10, 12, 13, 14, 11] [0, 1, 2, 3, 4, 5, 6, 7, 8] rfl rfl ⟨by decide, by decide, by decide⟩ 9 rfl rfl rfl (Nat.le_of_ble_eq_true rfl) dX10_refusal_34 (fun u_13 hw_14 => ?_)
      refine j_eq (ws2 := [(x0, .inr (10, [.ref r0, .ref a0, .ref n0, .ref k0, .ref x1, .ref q0, .ref o0, .ref h0, .ref s0, .ref d0])), (a0, .inr (9, [.int a_wares, .int a_shelves, .int a_nests, .ref a1, .ref a2, .ref a3, .ref a4, .ref a5, .ref a6, .int a_lids, .int a_tops, .ref a7, .ref a8, .ref a9, .ref a10])), (a1, .inl (cyI, 12, .inl a_wide)), (a2, .inl (cyI, 12, .inl a_deep)), (a3, .inl (cyI, 12, .inl a_weight)), (a4, .inl (cyI, 12, .inl a_bears)), (a7, .inl (cyI, 12, .inl a_mayOn)), (a8, .inl (cyI, 4, .inl a_height)), (a10, .inl (cyI, 4, .inl a_room)), (q0, .inr (4, [.ref q1, .int (u_13.2.1 0)])), (q1, .inl (cyI, 12, .inl (u_13.2.2.1 0))), (g0, .inr (7, [.ref g1, .ref g2, .ref g3, .ref g4, .int g_askings, .int g_cost, .int g_laid])), (g1, .inl (cyI, 12, .inl g_shelf)), (g2, .inl (cyI, 12, .inl g_stack)), (g3, .inl (cyI, 12, .inl g_level))]) (pc2 := 37) (lv2 := [(0, .ref x0), (1, .ref g0), (2, .int p1), (3, .int p2), (4, .int p3)]) (st2 := []) rfl rfl rfl rfl ?_
      obtain ⟨hw_14_0, hw_14_1, hw_14_2, hw_14_3⟩ := hw_14
      refine j_aload_n (pc := 37) C dX10_refusal_37 rfl 0 rfl ?_
      refine j_get (pc := 38) (ci := 10) (v := .ref q0) C inw_10 0 rfl rfl 5 (by decide) wd_438 rfl rfl dX10_refusal_38 ?_
      refine j_iload_n (pc := 41) C dX10_refusal_41 rfl 2 rfl ?_
      refine j_callV (pc := 42) (As := [.int p1]) (rest := []) (wr := [(x0, .inr (10, [.ref r0, .ref a0, .ref n0, .ref k0, .ref x1, .ref q0, .ref o0, .ref h0, .ref s0, .ref d0])), (a0, .inr (9, [.int a_wares, .int a_shelves, .int a_nests, .ref a1, .ref a2, .ref a3, .ref a4, .ref a5, .ref a6, .int a_lids, .int a_tops, .ref a7, .ref a8, .ref a9, .ref a10])), (a1, .inl (cyI, 12, .inl a_wide)), (a2, .inl (cyI, 12, .inl a_deep)), (a3, .inl (cyI, 12, .inl a_weight)), (a4, .inl (cyI, 12, .inl a_bears)), (a7, .inl (cyI, 12, .inl a_mayOn)), (a8, .inl (cyI, 4, .inl a_height)), (a10, .inl (cyI, 4, .inl a_room)), (g0, .inr (7, [.ref g1, .ref g2, .ref g3, .ref g4, .int g_askings, .int g_cost, .int g_laid])), (g1, .inl (cyI, 12, .inl g_shelf)), (g2, .inl (cyI, 12, .inl g_stack)), (g3, .inl (cyI, 12, .inl g_level))]) C (c_X4_add l D cyC cyI cyJ cyZ cyO q0 q1 p1 (u_13.2.1 0) (u_13.2.2.1 0) hw_14_0 h_p1 hw_14_1) wd_443 wd_40 wd_444 wd_445 wd_446 ⟨by decide, by decide, rfl⟩ rfl ⟨rfl, rfl, by decide, by decide⟩ ⟨by decide, by decide⟩ [9, 10] [0, 1, 2, 3, 4, 5, 6, 7, 8, 11, 12, 13, 14] rfl rfl ⟨by decide, by decide, by decide⟩ 9 rfl rfl rfl (Nat.le_of_ble_eq_true rfl) dX10_refusal_42 (fun u_15 hw_16 => ?_)
      refine j_eq (ws2 := [(x0, .inr (10, [.ref r0, .ref a0, .ref n0, .ref k0, .ref x1, .ref q0, .ref o0, .ref h0, .ref s0, .ref d0])), (a0, .inr (9, [.int a_wares, .int a_shelves, .int a_nests, .ref a1, .ref a2, .ref a3, .ref a4, .ref a5, .ref a6, .int a_lids, .int a_tops, .ref a7, .ref a8, .ref a9, .ref a10])), (a1, .inl (cyI, 12, .inl a_wide)), (a2, .inl (cyI, 12, .inl a_deep)), (a3, .inl (cyI, 12, .inl a_weight)), (a4, .inl (cyI, 12, .inl a_bears)), (a7, .inl (cyI, 12, .inl a_mayOn)), (a8, .inl (cyI, 4, .inl a_height)), (a10, .inl (cyI, 4, .inl a_room)), (g0, .inr (7, [.ref g1, .ref g2, .ref g3, .ref g4, .int g_askings, .int g_cost, .int g_laid])), (g1, .inl (cyI, 12, .inl g_shelf)), (g2, .inl (cyI, 12, .inl g_stack)), (g3, .inl (cyI, 12, .inl g_level)), (q0, .inr (4, [.ref q1, .int (u_15.2.1 0)])), (q1, .inl (cyI, 12, .inl (u_15.2.2.1 0)))]) (pc2 := 45) (lv2 := [(0, .ref x0), (1, .ref g0), (2, .int p1), (3, .int p2), (4, .int p3)]) (st2 := []) rfl rfl rfl rfl ?_
      obtain ⟨hw_16_0, hw_16_1, hw_16_2⟩ := hw_16
      refine j_aload_n (pc := 45) C dX10_refusal_45 rfl 0 rfl ?_
      refine j_get (pc := 46) (ci := 10) (v := .ref q0) C inw_10 0 rfl rfl 5 (by decide) wd_438 rfl rfl dX10_refusal_46 ?_
      refine j_aload_n (pc := 49) C dX10_refusal_49 rfl 0 rfl ?_
      refine j_get (pc := 50) (ci := 10) (v := .ref a0) C inw_10 0 rfl rfl 1 (by decide) wd_447 rfl rfl dX10_refusal_50 ?_
      refine j_aload_n (pc := 53) C dX10_refusal_53 rfl 0 rfl ?_
      refine j_get (pc := 54) (ci := 10) (v := .ref a0) C inw_10 0 rfl rfl 1 (by decide) wd_447 rfl rfl dX10_refusal_54 ?_
      refine j_get (pc := 57) (ci := 9) (v := .ref a8) C inw_9 1 rfl rfl 12 (by decide) wd_448 rfl rfl dX10_refusal_57 ?_
      refine j_iload_n (pc := 60) C dX10_refusal_60 rfl 3 rfl ?_
      obtain ⟨v_17, ev_17⟩ : ∃ z, a_height (p2).toInt.toNat = z := ⟨_, rfl⟩
      have env_17 : (a_height (p2).toInt.toNat).toInt = v_17.toInt := by rw [ev_17]
      refine j_iald (pc := 61) (v := v_17) (k := (p2).toInt.toNat) C 7 1 rfl rfl (i_nn h_p2.1) rfl (i_lt_n h_p2.1 (Int.lt_of_le_of_lt h_p2.2 (by decide))) ev_17 dX10_refusal_61 ?_
      refine j_callV (pc := 62) (As := [.ref a0, .int v_17]) (rest := []) (wr := [(x0, .inr (10, [.ref r0, .ref a0, .ref n0, .ref k0, .ref x1, .ref q0, .ref o0, .ref h0, .ref s0, .ref d0])), (a8, .inl (cyI, 4, .inl a_height)), (a10, .inl (cyI, 4, .inl a_room)), (g0, .inr (7, [.ref g1, .ref g2, .ref g3, .ref g4, .int g_askings, .int g_cost, .int g_laid])), (g1, .inl (cyI, 12, .inl g_shelf)), (g2, .inl (cyI, 12, .inl g_stack)), (g3, .inl (cyI, 12, .inl g_level))]) C (c_X4_refusal l D cyC cyI cyJ cyZ cyO q0 q1 a0 a1 a2 a3 a4 a7 a5 a6 a8 a9 a10 v_17 (u_15.2.1 0) a_wares a_shelves a_nests a_lids a_tops (u_15.2.2.1 0) a_wide a_deep a_weight a_bears a_mayOn hw_16_0 h_a_wares h_a_shelves h_a_nests hw_16_1) wd_449 wd_40 wd_450 wd_451 wd_452 ⟨by decide, by decide, rfl⟩ rfl ⟨rfl, rfl, by decide, by decide⟩ ⟨by decide, by decide⟩ [13, 14, 1, 2, 3, 4, 5, 6] [0, 7, 8, 9, 10, 11, 12] rfl rfl ⟨by decide, by decide, by decide⟩ 13 rfl rfl rfl (Nat.le_of_ble_eq_true rfl) dX10_refusal_62 (fun u_18 hw_19 => ?_)
      refine j_eq (ws2 := [(x0, .inr (10, [.ref r0, .ref a0, .ref n0, .ref k0, .ref x1, .ref q0, .ref o0, .ref h0, .ref s0, .ref d0])), (a8, .inl (cyI, 4, .inl a_height)), (a10, .inl (cyI, 4, .inl a_room)), (g0, .inr (7, [.ref g1, .ref g2, .ref g3, .ref g4, .int g_askings, .int g_cost, .int g_laid])), (g1, .inl (cyI, 12, .inl g_shelf)), (g2, .inl (cyI, 12, .inl g_stack)), (g3, .inl (cyI, 12, .inl g_level)), (q0, .inr (4, [.ref q1, .int (u_15.2.1 0)])), (q1, .inl (cyI, 12, .inl (u_15.2.2.1 0))), (a0, .inr (9, [.int a_wares, .int a_shelves, .int a_nests, .ref a1, .ref a2, .ref a3, .ref a4, .ref a5, .ref a6, .int a_lids, .int a_tops, .ref a7, .ref a8, .ref a9, .ref a10])), (a1, .inl (cyI, 12, .inl a_wide)), (a2, .inl (cyI, 12, .inl a_deep)), (a3, .inl (cyI, 12, .inl a_weight)), (a4, .inl (cyI, 12, .inl a_bears)), (a7, .inl (cyI, 12, .inl a_mayOn))]) (pc2 := 65) (lv2 := [(0, .ref x0), (1, .ref g0), (2, .int p1), (3, .int p2), (4, .int p3)]) (st2 := [.int (u_18.2.1 0)]) rfl rfl rfl rfl ?_
      obtain ⟨hw_19_0, hw_19_1⟩ := hw_19
      exact j_iret (pc := 65) C hr hk (fun i => [].getD i 0, fun i => [(u_18.2.1 0), (u_15.2.1 0)].getD i 0, fun i => [(u_15.2.2.1 0)].getD i (fun _ => 0), fun i => [].getD i (fun _ => 0)) rfl (show (0 ≤ ((u_18.2.1 0)).toInt ∧ ((u_18.2.1 0)).toInt ≤ 6) ∧ (0 ≤ ((u_15.2.1 0)).toInt ∧ ((u_15.2.1 0)).toInt ≤ 12) ∧ (Iv 12 (0) (11) (u_15.2.2.1 0)) ∧ (¬ (u_18.2.1 0).toInt = 0 ∨ (p3).toInt ≤ 7) ∧ (RFP ((p3).toInt = (stF g_shelf g_stack p2 12).toInt ∧ (a_room (p2).toInt.toNat).toInt ≤ (p3).toInt) (∀ (r : Nat → Int32) (n : Nat), ROW g_shelf g_stack g_level p2 p3 r n → n ≤ 11 → RFZ (fun u l => BT (a_mayOn l) u) a_weight a_bears a_deep (rsC a_wide a_deep a_lids) (upd r n p1) (n + 1) (a_height (p2).toInt.toNat) (u_18.2.1 0).toInt) (u_18.2.1 0).toInt) from ⟨hw_19_0, hw_16_0, hw_16_1, by omega, (Or.inr ⟨fun z => by have z1 := z.1; have z2 := z.2; omega, fun r n hR h11 => by obtain ⟨y1, y2⟩ := hw_14_3 r n hR; obtain ⟨y3, y4⟩ := hw_16_2 (by omega); rw [ev_17]; exact RFZ.cg hw_19_1 (by omega) (fun p hp => by rw [y4, show ((u_13.2.1 0)).toInt.toNat = n from (by omega)]; by_cases q : p = n; (rw [q, pk_us, pk_us]); (rw [pk_un q, pk_un q]; exact y2 p (by omega)))⟩)⟩) [0, 9, 10, 11, 12, 13, 14, 1, 2, 7, 8, 3, 4, 5, 6] (by decide) rfl (by decide) (by decide) dX10_refusal_65
    · skip
      rw [i_lt] at c_12
      refine j_iconst (pc := 24) (v := 3) C dX10_refusal_24 (by decide) ?_
      have el_3 : (3 : Int32).toInt = 3 := rfl
      have el_3 : (3 : Int32).toInt = 3 := rfl
      have el_3 : (3 : Int32).toInt = 3 := rfl
      exact j_iret (pc := 25) C hr hk (fun i => [].getD i 0, fun i => [3, q_size].getD i 0, fun i => [q_ware].getD i (fun _ => 0), fun i => [].getD i (fun _ => 0)) rfl (show (0 ≤ ((3 : Int32)).toInt ∧ ((3 : Int32)).toInt ≤ 6) ∧ (0 ≤ (q_size).toInt ∧ (q_size).toInt ≤ 12) ∧ (Iv 12 (0) (11) q_ware) ∧ (¬ (3 : Int32).toInt = 0 ∨ (p3).toInt ≤ 7) ∧ (RFP ((p3).toInt = (stF g_shelf g_stack p2 12).toInt ∧ (a_room (p2).toInt.toNat).toInt ≤ (p3).toInt) (∀ (r : Nat → Int32) (n : Nat), ROW g_shelf g_stack g_level p2 p3 r n → n ≤ 11 → RFZ (fun u l => BT (a_mayOn l) u) a_weight a_bears a_deep (rsC a_wide a_deep a_lids) (upd r n p1) (n + 1) (a_height (p2).toInt.toNat) (3 : Int32).toInt) (3 : Int32).toInt) from ⟨by omega, h_q_size, h_q_ware, by omega, (Or.inl ⟨rfl, ⟨by omega, by omega⟩⟩)⟩) [0, 1, 2, 3, 4, 5, 6, 7, 8, 9, 10, 12, 13, 14, 11] (by decide) rfl (by decide) (by decide) dX10_refusal_25
set_option maxHeartbeats 4000000 in
set_option maxRecDepth 100000 in
theorem c_X10_price (l : Launch) (D : DG) (cyC cyI cyJ cyZ cyO : ClassId) (x0 : Nat) (a0 : Nat) (a3 : Nat) (a9 : Nat) (q0 : Nat) (q1 : Nat) (g0 : Nat) (g1 : Nat) (g2 : Nat) (g3 : Nat) (r0 : Nat) (n0 : Nat) (k0 : Nat) (x1 : Nat) (o0 : Nat) (h0 : Nat) (s0 : Nat) (d0 : Nat) (a1 : Nat) (a2 : Nat) (a4 : Nat) (a5 : Nat) (a6 : Nat) (a7 : Nat) (a8 : Nat) (a10 : Nat) (g4 : Nat) (p1 : Int32) (a_wares : Int32) (a_shelves : Int32) (a_nests : Int32) (a_lids : Int32) (a_tops : Int32) (q_size : Int32) (g_askings : Int32) (g_cost : Int32) (g_laid : Int32) (a_weight : Nat → Int32) (a_reach : Nat → Int32) (q_ware : Nat → Int32) (g_shelf : Nat → Int32) (g_stack : Nat → Int32) (g_level : Nat → Int32) (h_a_wares : 0 ≤ (a_wares).toInt ∧ (a_wares).toInt ≤ 12) (h_a_shelves : 0 ≤ (a_shelves).toInt ∧ (a_shelves).toInt ≤ 4) (h_a_nests : 0 ≤ (a_nests).toInt ∧ (a_nests).toInt ≤ 4) (h_q_size : 0 ≤ (q_size).toInt ∧ (q_size).toInt ≤ 12) (h_g_askings : 0 ≤ (g_askings).toInt ∧ (g_askings).toInt ≤ 30) (h_g_laid : 0 ≤ (g_laid).toInt ∧ (g_laid).toInt ≤ 1) (h_p1 : 0 ≤ (p1).toInt ∧ (p1).toInt ≤ 11) (h_q_ware : Iv 12 (0) (11) q_ware) (h_g_shelf : Iv 12 (-1) (3) g_shelf) (h_g_stack : Iv 12 (0) (7) g_stack) (h_g_level : Iv 12 (0) (11) g_level) (hin9 : 0 ≤ (g_shelf (p1).toInt.toNat).toInt) : KK l D (TY cyC cyI cyJ cyZ cyO) yX10_price cX10_price 4 (some .int) ({ frames := 2, cells := 0, slots := 0, locals := 48 } : Room) 0 0 [.ref x0, .ref g0, .int p1] [(x0, .inr (10, [.ref r0, .ref a0, .ref n0, .ref k0, .ref x1, .ref q0, .ref o0, .ref h0, .ref s0, .ref d0])), (a0, .inr (9, [.int a_wares, .int a_shelves, .int a_nests, .ref a1, .ref a2, .ref a3, .ref a4, .ref a5, .ref a6, .int a_lids, .int a_tops, .ref a7, .ref a8, .ref a9, .ref a10])), (a3, .inl (cyI, 12, .inl a_weight)), (a9, .inl (cyI, 4, .inl a_reach)), (q0, .inr (4, [.ref q1, .int q_size])), (q1, .inl (cyI, 12, .inl q_ware)), (g0, .inr (7, [.ref g1, .ref g2, .ref g3, .ref g4, .int g_askings, .int g_cost, .int g_laid])), (g1, .inl (cyI, 12, .inl g_shelf)), (g2, .inl (cyI, 12, .inl g_stack)), (g3, .inl (cyI, 12, .inl g_level))] (fun u => some (.int (u.2.1 0))) (fun u => (0 ≤ (u.2.1 1).toInt ∧ (u.2.1 1).toInt ≤ 12) ∧ (Iv 12 (0) (11) (u.2.2.1 0)) ∧ (∀ (r : Nat → Int32) (n : Nat), ROW g_shelf g_stack g_level (g_shelf (p1).toInt.toNat) (g_stack (p1).toInt.toNat) r n → (u.2.1 0) = prC a_weight r (g_level (p1).toInt.toNat) (nI n) (a_reach (g_shelf (p1).toInt.toNat).toInt.toNat))) (fun u => [(x0, .inr (10, [.ref r0, .ref a0, .ref n0, .ref k0, .ref x1, .ref q0, .ref o0, .ref h0, .ref s0, .ref d0])), (a0, .inr (9, [.int a_wares, .int a_shelves, .int a_nests, .ref a1, .ref a2, .ref a3, .ref a4, .ref a5, .ref a6, .int a_lids, .int a_tops, .ref a7, .ref a8, .ref a9, .ref a10])), (a3, .inl (cyI, 12, .inl a_weight)), (a9, .inl (cyI, 4, .inl a_reach)), (q0, .inr (4, [.ref q1, .int (u.2.1 1)])), (q1, .inl (cyI, 12, .inl (u.2.2.1 0))), (g0, .inr (7, [.ref g1, .ref g2, .ref g3, .ref g4, .int g_askings, .int g_cost, .int g_laid])), (g1, .inl (cyI, 12, .inl g_shelf)), (g2, .inl (cyI, 12, .inl g_stack)), (g3, .inl (cyI, 12, .inl g_level))]) := by
  refine KK.of (lv0 := [(0, .ref x0), (1, .ref g0), (2, .int p1)]) (by decide) rfl (Nat.le_of_ble_eq_true rfl) ?_
  intro p e s m args below meth c A C hr hk hin
  refine j_aload_n (pc := 0) C dX10_price_0 rfl 1 rfl ?_
  refine j_get (pc := 1) (ci := 7) (v := .ref g1) C inw_7 6 rfl rfl 0 (by decide) wd_454 rfl rfl dX10_price_1 ?_
  refine j_iload_n (pc := 4) C dX10_price_4 rfl 2 rfl ?_
  obtain ⟨v_1, ev_1⟩ : ∃ z, g_shelf (p1).toInt.toNat = z := ⟨_, rfl⟩
  have env_1 : (g_shelf (p1).toInt.toNat).toInt = v_1.toInt := by rw [ev_1]
  have hv_1 := h_g_shelf (p1).toInt.toNat (i_lt_n h_p1.1 (Int.lt_of_le_of_lt h_p1.2 (by decide))); rw [ev_1] at hv_1
  refine j_iald (pc := 5) (v := v_1) (k := (p1).toInt.toNat) C 7 1 rfl rfl (i_nn h_p1.1) rfl (i_lt_n h_p1.1 (Int.lt_of_le_of_lt h_p1.2 (by decide))) ev_1 dX10_price_5 ?_
  refine j_istore_n (pc := 6) (lv' := [(3, .int v_1), (0, .ref x0), (1, .ref g0), (2, .int p1)]) C dX10_price_6 rfl (by decide) rfl ?_
  refine j_aload_n (pc := 7) C dX10_price_7 rfl 1 rfl ?_
  refine j_get (pc := 8) (ci := 10) (v := .ref q0) C inw_10 0 rfl rfl 5 (by decide) wd_438 rfl rfl dX10_price_8 ?_
  refine j_aload_n (pc := 11) C dX10_price_11 rfl 2 rfl ?_
  refine j_iload_n (pc := 12) C dX10_price_12 rfl 0 rfl ?_
  refine j_aload_n (pc := 13) C dX10_price_13 rfl 2 rfl ?_
  refine j_get (pc := 14) (ci := 7) (v := .ref g2) C inw_7 6 rfl rfl 1 (by decide) wd_455 rfl rfl dX10_price_14 ?_
  refine j_iload_n (pc := 17) C dX10_price_17 rfl 3 rfl ?_
  obtain ⟨v_2, ev_2⟩ : ∃ z, g_stack (p1).toInt.toNat = z := ⟨_, rfl⟩
  have env_2 : (g_stack (p1).toInt.toNat).toInt = v_2.toInt := by rw [ev_2]
  have hv_2 := h_g_stack (p1).toInt.toNat (i_lt_n h_p1.1 (Int.lt_of_le_of_lt h_p1.2 (by decide))); rw [ev_2] at hv_2
  refine j_iald (pc := 18) (v := v_2) (k := (p1).toInt.toNat) C 8 1 rfl rfl (i_nn h_p1.1) rfl (i_lt_n h_p1.1 (Int.lt_of_le_of_lt h_p1.2 (by decide))) ev_2 dX10_price_18 ?_
  refine j_callV (pc := 19) (As := [.ref g0, .int v_1, .int v_2]) (rest := []) (wr := [(x0, .inr (10, [.ref r0, .ref a0, .ref n0, .ref k0, .ref x1, .ref q0, .ref o0, .ref h0, .ref s0, .ref d0])), (a0, .inr (9, [.int a_wares, .int a_shelves, .int a_nests, .ref a1, .ref a2, .ref a3, .ref a4, .ref a5, .ref a6, .int a_lids, .int a_tops, .ref a7, .ref a8, .ref a9, .ref a10])), (a3, .inl (cyI, 12, .inl a_weight)), (a9, .inl (cyI, 4, .inl a_reach))]) C (c_X4_take l D cyC cyI cyJ cyZ cyO q0 q1 g0 g1 g2 g3 g4 v_1 v_2 q_size g_askings g_cost g_laid q_ware g_shelf g_stack g_level h_q_size h_g_askings h_g_laid h_q_ware h_g_shelf h_g_stack h_g_level) wd_439 wd_40 wd_440 wd_441 wd_442 ⟨by decide, by decide, rfl⟩ rfl ⟨rfl, rfl, by decide, by decide⟩ ⟨by decide, by decide⟩ [4, 5, 6, 7, 8, 9] [0, 1, 2, 3] rfl rfl ⟨by decide, by decide, by decide⟩ 4 rfl rfl rfl (Nat.le_of_ble_eq_true rfl) dX10_price_19 (fun u_3 hw_4 => ?_)
  refine j_eq (ws2 := [(x0, .inr (10, [.ref r0, .ref a0, .ref n0, .ref k0, .ref x1, .ref q0, .ref o0, .ref h0, .ref s0, .ref d0])), (a0, .inr (9, [.int a_wares, .int a_shelves, .int a_nests, .ref a1, .ref a2, .ref a3, .ref a4, .ref a5, .ref a6, .int a_lids, .int a_tops, .ref a7, .ref a8, .ref a9, .ref a10])), (a3, .inl (cyI, 12, .inl a_weight)), (a9, .inl (cyI, 4, .inl a_reach)), (q0, .inr (4, [.ref q1, .int (u_3.2.1 0)])), (q1, .inl (cyI, 12, .inl (u_3.2.2.1 0))), (g0, .inr (7, [.ref g1, .ref g2, .ref g3, .ref g4, .int g_askings, .int g_cost, .int g_laid])), (g1, .inl (cyI, 12, .inl g_shelf)), (g2, .inl (cyI, 12, .inl g_stack)), (g3, .inl (cyI, 12, .inl g_level))]) (pc2 := 22) (lv2 := [(3, .int v_1), (0, .ref x0), (1, .ref g0), (2, .int p1)]) (st2 := []) rfl rfl rfl rfl ?_
  obtain ⟨hw_4_0, hw_4_1, hw_4_2, hw_4_3⟩ := hw_4
  refine j_aload_n (pc := 22) C dX10_price_22 rfl 1 rfl ?_
  refine j_get (pc := 23) (ci := 10) (v := .ref q0) C inw_10 0 rfl rfl 5 (by decide) wd_438 rfl rfl dX10_price_23 ?_
  refine j_aload_n (pc := 26) C dX10_price_26 rfl 1 rfl ?_
  refine j_get (pc := 27) (ci := 10) (v := .ref a0) C inw_10 0 rfl rfl 1 (by decide) wd_447 rfl rfl dX10_price_27 ?_
  refine j_aload_n (pc := 30) C dX10_price_30 rfl 2 rfl ?_
  refine j_get (pc := 31) (ci := 7) (v := .ref g3) C inw_7 6 rfl rfl 2 (by decide) wd_456 rfl rfl dX10_price_31 ?_
  refine j_iload_n (pc := 34) C dX10_price_34 rfl 3 rfl ?_
  obtain ⟨v_5, ev_5⟩ : ∃ z, g_level (p1).toInt.toNat = z := ⟨_, rfl⟩
  have env_5 : (g_level (p1).toInt.toNat).toInt = v_5.toInt := by rw [ev_5]
  have hv_5 := h_g_level (p1).toInt.toNat (i_lt_n h_p1.1 (Int.lt_of_le_of_lt h_p1.2 (by decide))); rw [ev_5] at hv_5
  refine j_iald (pc := 35) (v := v_5) (k := (p1).toInt.toNat) C 9 1 rfl rfl (i_nn h_p1.1) rfl (i_lt_n h_p1.1 (Int.lt_of_le_of_lt h_p1.2 (by decide))) ev_5 dX10_price_35 ?_
  refine j_aload_n (pc := 36) C dX10_price_36 rfl 1 rfl ?_
  refine j_get (pc := 37) (ci := 10) (v := .ref a0) C inw_10 0 rfl rfl 1 (by decide) wd_447 rfl rfl dX10_price_37 ?_
  refine j_get (pc := 40) (ci := 9) (v := .ref a9) C inw_9 1 rfl rfl 13 (by decide) wd_457 rfl rfl dX10_price_40 ?_
  refine j_iload_n (pc := 43) C dX10_price_43 rfl 0 rfl ?_
  obtain ⟨v_6, ev_6⟩ : ∃ z, a_reach (v_1).toInt.toNat = z := ⟨_, rfl⟩
  have env_6 : (a_reach (v_1).toInt.toNat).toInt = v_6.toInt := by rw [ev_6]
  refine j_iald (pc := 44) (v := v_6) (k := (v_1).toInt.toNat) C 3 1 rfl rfl (i_nn (by omega)) rfl (i_lt_n (by omega) (Int.lt_of_le_of_lt hv_1.2 (by decide))) ev_6 dX10_price_44 ?_
  refine j_callV (pc := 45) (As := [.ref a0, .int v_5, .int v_6]) (rest := []) (wr := [(x0, .inr (10, [.ref r0, .ref a0, .ref n0, .ref k0, .ref x1, .ref q0, .ref o0, .ref h0, .ref s0, .ref d0])), (a9, .inl (cyI, 4, .inl a_reach)), (g0, .inr (7, [.ref g1, .ref g2, .ref g3, .ref g4, .int g_askings, .int g_cost, .int g_laid])), (g1, .inl (cyI, 12, .inl g_shelf)), (g2, .inl (cyI, 12, .inl g_stack)), (g3, .inl (cyI, 12, .inl g_level))]) C (c_X4_price l D cyC cyI cyJ cyZ cyO q0 q1 a0 a3 a1 a2 a4 a5 a6 a7 a8 a9 a10 v_5 v_6 (u_3.2.1 0) a_wares a_shelves a_nests a_lids a_tops (u_3.2.2.1 0) a_weight hw_4_0 h_a_wares h_a_shelves h_a_nests hv_5 hw_4_1) wd_458 wd_40 wd_459 wd_460 wd_461 ⟨by decide, by decide, rfl⟩ rfl ⟨rfl, rfl, by decide, by decide⟩ ⟨by decide, by decide⟩ [4, 5, 1, 2] [0, 3, 6, 7, 8, 9] rfl rfl ⟨by decide, by decide, by decide⟩ 4 rfl rfl rfl (Nat.le_of_ble_eq_true rfl) dX10_price_45 (fun u_7 hw_8 => ?_)
  refine j_eq (ws2 := [(x0, .inr (10, [.ref r0, .ref a0, .ref n0, .ref k0, .ref x1, .ref q0, .ref o0, .ref h0, .ref s0, .ref d0])), (a9, .inl (cyI, 4, .inl a_reach)), (g0, .inr (7, [.ref g1, .ref g2, .ref g3, .ref g4, .int g_askings, .int g_cost, .int g_laid])), (g1, .inl (cyI, 12, .inl g_shelf)), (g2, .inl (cyI, 12, .inl g_stack)), (g3, .inl (cyI, 12, .inl g_level)), (q0, .inr (4, [.ref q1, .int (u_3.2.1 0)])), (q1, .inl (cyI, 12, .inl (u_3.2.2.1 0))), (a0, .inr (9, [.int a_wares, .int a_shelves, .int a_nests, .ref a1, .ref a2, .ref a3, .ref a4, .ref a5, .ref a6, .int a_lids, .int a_tops, .ref a7, .ref a8, .ref a9, .ref a10])), (a3, .inl (cyI, 12, .inl a_weight))]) (pc2 := 48) (lv2 := [(3, .int v_1), (0, .ref x0), (1, .ref g0), (2, .int p1)]) (st2 := [.int (u_7.2.1 0)]) rfl rfl rfl rfl ?_
  have hw_8_0 : (u_7.2.1 0) = prC a_weight (u_3.2.2.1 0) v_5 (u_3.2.1 0) v_6 := hw_8
  exact j_iret (pc := 48) C hr hk (fun i => [].getD i 0, fun i => [(u_7.2.1 0), (u_3.2.1 0)].getD i 0, fun i => [(u_3.2.2.1 0)].getD i (fun _ => 0), fun i => [].getD i (fun _ => 0)) rfl (show (0 ≤ ((u_3.2.1 0)).toInt ∧ ((u_3.2.1 0)).toInt ≤ 12) ∧ (Iv 12 (0) (11) (u_3.2.2.1 0)) ∧ (∀ (r : Nat → Int32) (n : Nat), ROW g_shelf g_stack g_level (g_shelf (p1).toInt.toNat) (g_stack (p1).toInt.toNat) r n → (u_7.2.1 0) = prC a_weight r (g_level (p1).toInt.toNat) (nI n) (a_reach (g_shelf (p1).toInt.toNat).toInt.toNat)) from ⟨hw_4_0, hw_4_1, (fun r n hR => by rw [ev_1, ev_2] at hR; rw [ev_1, ev_5, ev_6]; obtain ⟨y1, y2⟩ := hw_4_3 r n hR; have y3 := hR.le; have y4 : (u_3.2.1 0) = nI n := (i_eq _ _).mpr (by rw [nI_toInt (by omega)]; exact y1); have y5 := hR.at (w := (p1).toInt.toNat) (by omega) ev_1 ev_2; rw [ev_5] at y5; rw [hw_8_0, ← y4]; exact prC_cong (by omega) (by omega) (fun q hq => by rw [y2 q (by omega)]))⟩) [0, 8, 9, 1, 6, 7, 2, 3, 4, 5] (by decide) rfl (by decide) (by decide) dX10_price_48
set_option maxHeartbeats 4000000 in
set_option maxRecDepth 100000 in
theorem c_X10_isStack (l : Launch) (D : DG) (cyC cyI cyJ cyZ cyO : ClassId) (x0 : Nat) (a0 : Nat) (n0 : Nat) (n1 : Nat) (n2 : Nat) (r0 : Nat) (k0 : Nat) (x1 : Nat) (q0 : Nat) (o0 : Nat) (h0 : Nat) (s0 : Nat) (d0 : Nat) (a1 : Nat) (a2 : Nat) (a3 : Nat) (a4 : Nat) (a5 : Nat) (a6 : Nat) (a7 : Nat) (a8 : Nat) (a9 : Nat) (a10 : Nat) (n3 : Nat) (n4 : Nat) (p0 : Int32) (p1 : Int32) (a_wares : Int32) (a_shelves : Int32) (a_nests : Int32) (a_lids : Int32) (a_tops : Int32) (n_askings : Int32) (n_cost : Int32) (n_laid : Int32) (n_shelf : Nat → Int32) (n_stack : Nat → Int32) (h_a_wares : 0 ≤ (a_wares).toInt ∧ (a_wares).toInt ≤ 12) (h_a_shelves : 0 ≤ (a_shelves).toInt ∧ (a_shelves).toInt ≤ 4) (h_a_nests : 0 ≤ (a_nests).toInt ∧ (a_nests).toInt ≤ 4) (h_n_askings : 0 ≤ (n_askings).toInt ∧ (n_askings).toInt ≤ 30) (h_n_laid : 0 ≤ (n_laid).toInt ∧ (n_laid).toInt ≤ 1) (h_n_shelf : Iv 12 (-1) (3) n_shelf) (h_n_stack : Iv 12 (0) (7) n_stack) : KK l D (TY cyC cyI cyJ cyZ cyO) yX10_isStack cX10_isStack 3 (some .boolean) ({ frames := 2, cells := 0, slots := 0, locals := 36 } : Room) 0 0 [.ref x0, .int p0, .int p1] [(x0, .inr (10, [.ref r0, .ref a0, .ref n0, .ref k0, .ref x1, .ref q0, .ref o0, .ref h0, .ref s0, .ref d0])), (a0, .inr (9, [.int a_wares, .int a_shelves, .int a_nests, .ref a1, .ref a2, .ref a3, .ref a4, .ref a5, .ref a6, .int a_lids, .int a_tops, .ref a7, .ref a8, .ref a9, .ref a10])), (n0, .inr (7, [.ref n1, .ref n2, .ref n3, .ref n4, .int n_askings, .int n_cost, .int n_laid])), (n1, .inl (cyI, 12, .inl n_shelf)), (n2, .inl (cyI, 12, .inl n_stack))] (fun u => some (.int (u.2.1 0))) (fun u => (0 ≤ (u.2.1 0).toInt ∧ (u.2.1 0).toInt ≤ 1) ∧ ((u.2.1 0).toInt = 0 ∨ 0 ≤ (p0).toInt ∧ (p0).toInt ≤ 3 ∧ 0 ≤ (p1).toInt ∧ (p1).toInt ≤ 7) ∧ (YST (u.2.1 0).toInt (p0).toInt (p1).toInt (a_shelves).toInt (stF n_shelf n_stack p0 12).toInt) ∧ (NST (u.2.1 0).toInt (p0).toInt (p1).toInt (a_shelves).toInt (stF n_shelf n_stack p0 12).toInt)) (fun u => [(x0, .inr (10, [.ref r0, .ref a0, .ref n0, .ref k0, .ref x1, .ref q0, .ref o0, .ref h0, .ref s0, .ref d0])), (a0, .inr (9, [.int a_wares, .int a_shelves, .int a_nests, .ref a1, .ref a2, .ref a3, .ref a4, .ref a5, .ref a6, .int a_lids, .int a_tops, .ref a7, .ref a8, .ref a9, .ref a10])), (n0, .inr (7, [.ref n1, .ref n2, .ref n3, .ref n4, .int n_askings, .int n_cost, .int n_laid])), (n1, .inl (cyI, 12, .inl n_shelf)), (n2, .inl (cyI, 12, .inl n_stack))]) := by
  refine KK.of (lv0 := [(0, .ref x0), (1, .int p0), (2, .int p1)]) (by decide) rfl (Nat.le_of_ble_eq_true rfl) ?_
  intro p e s m args below meth c A C hr hk hin
  refine j_aload_n (pc := 0) C dX10_isStack_0 rfl 0 rfl ?_
  refine j_get (pc := 1) (ci := 10) (v := .ref a0) C inw_10 0 rfl rfl 1 (by decide) wd_447 rfl rfl dX10_isStack_1 ?_
  refine j_iload_n (pc := 4) C dX10_isStack_4 rfl 1 rfl ?_
  refine j_callV (pc := 5) (As := [.int p0]) (rest := []) (wr := [(x0, .inr (10, [.ref r0, .ref a0, .ref n0, .ref k0, .ref x1, .ref q0, .ref o0, .ref h0, .ref s0, .ref d0])), (n0, .inr (7, [.ref n1, .ref n2, .ref n3, .ref n4, .int n_askings, .int n_cost, .int n_laid])), (n1, .inl (cyI, 12, .inl n_shelf)), (n2, .inl (cyI, 12, .inl n_stack))]) C (c_X9_isShelf l D cyC cyI cyJ cyZ cyO a0 a1 a2 a3 a4 a5 a6 a7 a8 a9 a10 p0 a_wares a_shelves a_nests a_lids a_tops h_a_wares h_a_shelves h_a_nests) wd_462 wd_33 wd_463 wd_464 wd_465 ⟨by decide, by decide, rfl⟩ rfl ⟨rfl, rfl, by decide, by decide⟩ ⟨by decide, by decide⟩ [1] [0, 2, 3, 4] rfl rfl ⟨by decide, by decide, by decide⟩ 1 rfl rfl rfl (Nat.le_of_ble_eq_true rfl) dX10_isStack_5 (fun u_1 hw_2 => ?_)
  refine j_eq (ws2 := [(x0, .inr (10, [.ref r0, .ref a0, .ref n0, .ref k0, .ref x1, .ref q0, .ref o0, .ref h0, .ref s0, .ref d0])), (n0, .inr (7, [.ref n1, .ref n2, .ref n3, .ref n4, .int n_askings, .int n_cost, .int n_laid])), (n1, .inl (cyI, 12, .inl n_shelf)), (n2, .inl (cyI, 12, .inl n_stack)), (a0, .inr (9, [.int a_wares, .int a_shelves, .int a_nests, .ref a1, .ref a2, .ref a3, .ref a4, .ref a5, .ref a6, .int a_lids, .int a_tops, .ref a7, .ref a8, .ref a9, .ref a10]))]) (pc2 := 8) (lv2 := [(0, .ref x0), (1, .int p0), (2, .int p1)]) (st2 := [.int (u_1.2.1 0)]) rfl rfl rfl rfl ?_
  obtain ⟨hw_2_0, hw_2_1, hw_2_2⟩ := hw_2
  refine j_if_eq (pc := 8) (tgt := 31) C dX10_isStack_8 (by decide) (fun c_3 => ?_) (fun c_3 => ?_)
  · skip
    have el_0 : (0 : Int32).toInt = 0 := rfl
    rw [i_eq] at c_3
    refine j_iconst (pc := 31) (v := 0) C dX10_isStack_31 (by decide) ?_
    have el_0 : (0 : Int32).toInt = 0 := rfl
    have el_0 : (0 : Int32).toInt = 0 := rfl
    have el_0 : (0 : Int32).toInt = 0 := rfl
    have el_0 : (0 : Int32).toInt = 0 := rfl
    exact j_zret (pc := 32) C hr rfl hk (fun i => [].getD i 0, fun i => [0].getD i 0, fun i => [].getD i (fun _ => 0), fun i => [].getD i (fun _ => 0)) rfl (show (0 ≤ ((0 : Int32)).toInt ∧ ((0 : Int32)).toInt ≤ 1) ∧ ((0 : Int32).toInt = 0 ∨ 0 ≤ (p0).toInt ∧ (p0).toInt ≤ 3 ∧ 0 ≤ (p1).toInt ∧ (p1).toInt ≤ 7) ∧ (YST (0 : Int32).toInt (p0).toInt (p1).toInt (a_shelves).toInt (stF n_shelf n_stack p0 12).toInt) ∧ (NST (0 : Int32).toInt (p0).toInt (p1).toInt (a_shelves).toInt (stF n_shelf n_stack p0 12).toInt) from ⟨by omega, by omega, (fun z9 => absurd z9 (by decide)), (fun _ z9 => by omega)⟩) [0, 4, 1, 2, 3] (by decide) rfl (by decide) (by decide) dX10_isStack_32
  · skip
    have el_0 : (0 : Int32).toInt = 0 := rfl
    rw [i_eq] at c_3
    have k0c_3 : ((u_1.2.1 0)).toInt = 1 := by omega
    refine j_iload_n (pc := 11) C dX10_isStack_11 rfl 2 rfl ?_
    refine j_if_lt (pc := 12) (tgt := 31) C dX10_isStack_12 (by decide) (fun c_4 => ?_) (fun c_4 => ?_)
    · skip
      have el_0 : (0 : Int32).toInt = 0 := rfl
      rw [i_lt] at c_4
      refine j_iconst (pc := 31) (v := 0) C dX10_isStack_31 (by decide) ?_
      have el_0 : (0 : Int32).toInt = 0 := rfl
      have el_0 : (0 : Int32).toInt = 0 := rfl
      have el_0 : (0 : Int32).toInt = 0 := rfl
      have el_0 : (0 : Int32).toInt = 0 := rfl
      exact j_zret (pc := 32) C hr rfl hk (fun i => [].getD i 0, fun i => [0].getD i 0, fun i => [].getD i (fun _ => 0), fun i => [].getD i (fun _ => 0)) rfl (show (0 ≤ ((0 : Int32)).toInt ∧ ((0 : Int32)).toInt ≤ 1) ∧ ((0 : Int32).toInt = 0 ∨ 0 ≤ (p0).toInt ∧ (p0).toInt ≤ 3 ∧ 0 ≤ (p1).toInt ∧ (p1).toInt ≤ 7) ∧ (YST (0 : Int32).toInt (p0).toInt (p1).toInt (a_shelves).toInt (stF n_shelf n_stack p0 12).toInt) ∧ (NST (0 : Int32).toInt (p0).toInt (p1).toInt (a_shelves).toInt (stF n_shelf n_stack p0 12).toInt) from ⟨by omega, by omega, (fun z9 => absurd z9 (by decide)), (fun _ z9 => by omega)⟩) [0, 4, 1, 2, 3] (by decide) rfl (by decide) (by decide) dX10_isStack_32
    · skip
      have el_0 : (0 : Int32).toInt = 0 := rfl
      rw [i_lt] at c_4
      refine j_iload_n (pc := 15) C dX10_isStack_15 rfl 2 rfl ?_
      refine j_aload_n (pc := 16) C dX10_isStack_16 rfl 0 rfl ?_
      refine j_get (pc := 17) (ci := 10) (v := .ref n0) C inw_10 0 rfl rfl 2 (by decide) wd_466 rfl rfl dX10_isStack_17 ?_
      refine j_iload_n (pc := 20) C dX10_isStack_20 rfl 1 rfl ?_
      refine j_callV (pc := 21) (As := [.int p0]) (rest := [.int p1]) (wr := [(x0, .inr (10, [.ref r0, .ref a0, .ref n0, .ref k0, .ref x1, .ref q0, .ref o0, .ref h0, .ref s0, .ref d0])), (a0, .inr (9, [.int a_wares, .int a_shelves, .int a_nests, .ref a1, .ref a2, .ref a3, .ref a4, .ref a5, .ref a6, .int a_lids, .int a_tops, .ref a7, .ref a8, .ref a9, .ref a10]))]) C (c_X7_stacks l D cyC cyI cyJ cyZ cyO n0 n1 n2 n3 n4 p0 n_askings n_cost n_laid n_shelf n_stack h_n_askings h_n_laid h_n_shelf h_n_stack) wd_66 wd_9 wd_437 wd_68 wd_69 ⟨by decide, by decide, rfl⟩ rfl ⟨rfl, rfl, by decide, by decide⟩ ⟨by decide, by decide⟩ [1, 2, 3] [0, 4] rfl rfl ⟨by decide, by decide, by decide⟩ 1 rfl rfl rfl (Nat.le_of_ble_eq_true rfl) dX10_isStack_21 (fun u_5 hw_6 => ?_)
      refine j_eq (ws2 := [(x0, .inr (10, [.ref r0, .ref a0, .ref n0, .ref k0, .ref x1, .ref q0, .ref o0, .ref h0, .ref s0, .ref d0])), (a0, .inr (9, [.int a_wares, .int a_shelves, .int a_nests, .ref a1, .ref a2, .ref a3, .ref a4, .ref a5, .ref a6, .int a_lids, .int a_tops, .ref a7, .ref a8, .ref a9, .ref a10])), (n0, .inr (7, [.ref n1, .ref n2, .ref n3, .ref n4, .int n_askings, .int n_cost, .int n_laid])), (n1, .inl (cyI, 12, .inl n_shelf)), (n2, .inl (cyI, 12, .inl n_stack))]) (pc2 := 24) (lv2 := [(0, .ref x0), (1, .int p0), (2, .int p1)]) (st2 := [.int (u_5.2.1 0), .int p1]) rfl rfl rfl rfl ?_
      obtain ⟨hw_6_0, hw_6_1⟩ := hw_6
      refine j_icmp_ge (pc := 24) (tgt := 31) C dX10_isStack_24 (by decide) (fun c_7 => ?_) (fun c_7 => ?_)
      · skip
        rw [i_le] at c_7
        refine j_iconst (pc := 31) (v := 0) C dX10_isStack_31 (by decide) ?_
        have el_0 : (0 : Int32).toInt = 0 := rfl
        have el_0 : (0 : Int32).toInt = 0 := rfl
        have el_0 : (0 : Int32).toInt = 0 := rfl
        have el_0 : (0 : Int32).toInt = 0 := rfl
        exact j_zret (pc := 32) C hr rfl hk (fun i => [].getD i 0, fun i => [0].getD i 0, fun i => [].getD i (fun _ => 0), fun i => [].getD i (fun _ => 0)) rfl (show (0 ≤ ((0 : Int32)).toInt ∧ ((0 : Int32)).toInt ≤ 1) ∧ ((0 : Int32).toInt = 0 ∨ 0 ≤ (p0).toInt ∧ (p0).toInt ≤ 3 ∧ 0 ≤ (p1).toInt ∧ (p1).toInt ≤ 7) ∧ (YST (0 : Int32).toInt (p0).toInt (p1).toInt (a_shelves).toInt (stF n_shelf n_stack p0 12).toInt) ∧ (NST (0 : Int32).toInt (p0).toInt (p1).toInt (a_shelves).toInt (stF n_shelf n_stack p0 12).toInt) from ⟨by omega, by omega, (fun z9 => absurd z9 (by decide)), (fun _ z9 => by have y9 := congrArg Int32.toInt hw_6_1; omega)⟩) [0, 1, 2, 3, 4] (by decide) rfl (by decide) (by decide) dX10_isStack_32
      · skip
        rw [i_le] at c_7
        refine j_iconst (pc := 27) (v := 1) C dX10_isStack_27 (by decide) ?_
        refine j_goto (pc := 28) (tgt := 32) C dX10_isStack_28 (by decide) ?_
        have el_1 : (1 : Int32).toInt = 1 := rfl
        have el_1 : (1 : Int32).toInt = 1 := rfl
        have el_1 : (1 : Int32).toInt = 1 := rfl
        have el_1 : (1 : Int32).toInt = 1 := rfl
        exact j_zret (pc := 32) C hr rfl hk (fun i => [].getD i 0, fun i => [1].getD i 0, fun i => [].getD i (fun _ => 0), fun i => [].getD i (fun _ => 0)) rfl (show (0 ≤ ((1 : Int32)).toInt ∧ ((1 : Int32)).toInt ≤ 1) ∧ ((1 : Int32).toInt = 0 ∨ 0 ≤ (p0).toInt ∧ (p0).toInt ≤ 3 ∧ 0 ≤ (p1).toInt ∧ (p1).toInt ≤ 7) ∧ (YST (1 : Int32).toInt (p0).toInt (p1).toInt (a_shelves).toInt (stF n_shelf n_stack p0 12).toInt) ∧ (NST (1 : Int32).toInt (p0).toInt (p1).toInt (a_shelves).toInt (stF n_shelf n_stack p0 12).toInt) from ⟨by omega, by omega, (fun _ => by have y9 := congrArg Int32.toInt hw_6_1; omega), (fun z9 => absurd z9 (by decide))⟩) [0, 1, 2, 3, 4] (by decide) rfl (by decide) (by decide) dX10_isStack_32
/-- what is told of a ware, by the class and by the reference -/
def wC (p q w : Int) (wd dp wt br bk hb : Nat → Int32) (lids tops : Int32) : Int := if 0 ≤ p ∧ p < w ∧ 0 ≤ q ∧ q ≤ 7 then (if q = 0 then (wd p.toNat).toInt else if q = 1 then (dp p.toNat).toInt else if q = 2 then (wt p.toNat).toInt else if q = 3 then (br p.toNat).toInt else if q = 4 then (bk p.toNat).toInt else if q = 5 then (hb p.toNat).toInt else if q = 6 then (if BT lids p.toNat = true then 1 else 0) else if BT tops p.toNat = true then 1 else 0) else -1
def wM (p q : Int) (t : Nat → Int32) : Int := if 0 ≤ p ∧ p < (t 0).toInt ∧ 0 ≤ q ∧ q ≤ 7 then (t (3 + 8 * p.toNat + q.toNat)).toInt else -1
def TD (w : Int) (wd dp wt br bk hb : Nat → Int32) (lids tops : Int32) (t : Nat → Int32) : Prop := w = (t 0).toInt ∧ ∀ j : Nat, (j : Int) < w → (wd j).toInt = (t (3 + 8 * j)).toInt ∧ (dp j).toInt = (t (3 + 8 * j + 1)).toInt ∧ (wt j).toInt = (t (3 + 8 * j + 2)).toInt ∧ (br j).toInt = (t (3 + 8 * j + 3)).toInt ∧ (bk j).toInt = (t (3 + 8 * j + 4)).toInt ∧ (hb j).toInt = (t (3 + 8 * j + 5)).toInt ∧ (if BT lids j = true then (1 : Int) else 0) = (t (3 + 8 * j + 6)).toInt ∧ (if BT tops j = true then (1 : Int) else 0) = (t (3 + 8 * j + 7)).toInt
theorem wC_wM {p q w : Int} {wd dp wt br bk hb : Nat → Int32} {lids tops : Int32} {t : Nat → Int32} (h : TD w wd dp wt br bk hb lids tops t) : wC p q w wd dp wt br bk hb lids tops = wM p q t := by
  obtain ⟨e, h⟩ := h
  unfold wC wM
  rw [← e]
  by_cases c : 0 ≤ p ∧ p < w ∧ 0 ≤ q ∧ q ≤ 7
  · rw [if_pos c, if_pos c]
    obtain ⟨a0, a1, a2, a3, a4, a5, a6, a7⟩ := h p.toNat (by omega)
    have k : q = 0 ∨ q = 1 ∨ q = 2 ∨ q = 3 ∨ q = 4 ∨ q = 5 ∨ q = 6 ∨ q = 7 := by omega
    rcases k with rfl | rfl | rfl | rfl | rfl | rfl | rfl | rfl
    · exact a0
    · exact a1
    · exact a2
    · exact a3
    · exact a4
    · exact a5
    · exact a6
    · exact a7
  · rw [if_neg c, if_neg c]
set_option maxHeartbeats 4000000 in
set_option maxRecDepth 100000 in
theorem c_X10_ware (l : Launch) (D : DG) (cyC cyI cyJ cyZ cyO : ClassId) (x0 : Nat) (a0 : Nat) (a1 : Nat) (a2 : Nat) (a3 : Nat) (a4 : Nat) (a5 : Nat) (a6 : Nat) (r0 : Nat) (n0 : Nat) (k0 : Nat) (x1 : Nat) (q0 : Nat) (o0 : Nat) (h0 : Nat) (s0 : Nat) (d0 : Nat) (a7 : Nat) (a8 : Nat) (a9 : Nat) (a10 : Nat) (p0 : Int32) (p1 : Int32) (a_wares : Int32) (a_shelves : Int32) (a_nests : Int32) (a_lids : Int32) (a_tops : Int32) (a_wide : Nat → Int32) (a_deep : Nat → Int32) (a_weight : Nat → Int32) (a_bears : Nat → Int32) (a_breaks : Nat → Int32) (a_habit : Nat → Int32) (h_a_wares : 0 ≤ (a_wares).toInt ∧ (a_wares).toInt ≤ 12) (h_a_shelves : 0 ≤ (a_shelves).toInt ∧ (a_shelves).toInt ≤ 4) (h_a_nests : 0 ≤ (a_nests).toInt ∧ (a_nests).toInt ≤ 4) : KK l D (TY cyC cyI cyJ cyZ cyO) yX10_ware cX10_ware 3 (some .int) ({ frames := 1, cells := 0, slots := 0, locals := 21 } : Room) 0 0 [.ref x0, .int p0, .int p1] [(x0, .inr (10, [.ref r0, .ref a0, .ref n0, .ref k0, .ref x1, .ref q0, .ref o0, .ref h0, .ref s0, .ref d0])), (a0, .inr (9, [.int a_wares, .int a_shelves, .int a_nests, .ref a1, .ref a2, .ref a3, .ref a4, .ref a5, .ref a6, .int a_lids, .int a_tops, .ref a7, .ref a8, .ref a9, .ref a10])), (a1, .inl (cyI, 12, .inl a_wide)), (a2, .inl (cyI, 12, .inl a_deep)), (a3, .inl (cyI, 12, .inl a_weight)), (a4, .inl (cyI, 12, .inl a_bears)), (a5, .inl (cyI, 12, .inl a_breaks)), (a6, .inl (cyI, 12, .inl a_habit))] (fun u => some (.int (u.2.1 0))) (fun u => ((u.2.1 0).toInt = wC (p0).toInt (p1).toInt (a_wares).toInt a_wide a_deep a_weight a_bears a_breaks a_habit a_lids a_tops)) (fun u => [(x0, .inr (10, [.ref r0, .ref a0, .ref n0, .ref k0, .ref x1, .ref q0, .ref o0, .ref h0, .ref s0, .ref d0])), (a0, .inr (9, [.int a_wares, .int a_shelves, .int a_nests, .ref a1, .ref a2, .ref a3, .ref a4, .ref a5, .ref a6, .int a_lids, .int a_tops, .ref a7, .ref a8, .ref a9, .ref a10])), (a1, .inl (cyI, 12, .inl a_wide)), (a2, .inl (cyI, 12, .inl a_deep)), (a3, .inl (cyI, 12, .inl a_weight)), (a4, .inl (cyI, 12, .inl a_bears)), (a5, .inl (cyI, 12, .inl a_breaks)), (a6, .inl (cyI, 12, .inl a_habit))]) := by
  refine KK.of (lv0 := [(0, .ref x0), (1, .int p0), (2, .int p1)]) (by decide) rfl (Nat.le_of_ble_eq_true rfl) ?_
  intro p e s m args below meth c A C hr hk hin
  refine j_aload_n (pc := 0) C dX10_ware_0 rfl 0 rfl ?_
  refine j_get (pc := 1) (ci := 10) (v := .ref a0) C inw_10 0 rfl rfl 1 (by decide) wd_447 rfl rfl dX10_ware_1 ?_
  refine j_iload_n (pc := 4) C dX10_ware_4 rfl 1 rfl ?_
  refine j_callV (pc := 5) (As := [.int p0]) (rest := []) (wr := [(x0, .inr (10, [.ref r0, .ref a0, .ref n0, .ref k0, .ref x1, .ref q0, .ref o0, .ref h0, .ref s0, .ref d0])), (a1, .inl (cyI, 12, .inl a_wide)), (a2, .inl (cyI, 12, .inl a_deep)), (a3, .inl (cyI, 12, .inl a_weight)), (a4, .inl (cyI, 12, .inl a_bears)), (a5, .inl (cyI, 12, .inl a_breaks)), (a6, .inl (cyI, 12, .inl a_habit))]) C (c_X9_isWare l D cyC cyI cyJ cyZ cyO a0 a1 a2 a3 a4 a5 a6 a7 a8 a9 a10 p0 a_wares a_shelves a_nests a_lids a_tops h_a_wares h_a_shelves h_a_nests) wd_467 wd_33 wd_468 wd_469 wd_470 ⟨by decide, by decide, rfl⟩ rfl ⟨rfl, rfl, by decide, by decide⟩ ⟨by decide, by decide⟩ [1] [0, 2, 3, 4, 5, 6, 7] rfl rfl ⟨by decide, by decide, by decide⟩ 1 rfl rfl rfl (Nat.le_of_ble_eq_true rfl) dX10_ware_5 (fun u_1 hw_2 => ?_)
  refine j_eq (ws2 := [(x0, .inr (10, [.ref r0, .ref a0, .ref n0, .ref k0, .ref x1, .ref q0, .ref o0, .ref h0, .ref s0, .ref d0])), (a1, .inl (cyI, 12, .inl a_wide)), (a2, .inl (cyI, 12, .inl a_deep)), (a3, .inl (cyI, 12, .inl a_weight)), (a4, .inl (cyI, 12, .inl a_bears)), (a5, .inl (cyI, 12, .inl a_breaks)), (a6, .inl (cyI, 12, .inl a_habit)), (a0, .inr (9, [.int a_wares, .int a_shelves, .int a_nests, .ref a1, .ref a2, .ref a3, .ref a4, .ref a5, .ref a6, .int a_lids, .int a_tops, .ref a7, .ref a8, .ref a9, .ref a10]))]) (pc2 := 8) (lv2 := [(0, .ref x0), (1, .int p0), (2, .int p1)]) (st2 := [.int (u_1.2.1 0)]) rfl rfl rfl rfl ?_
  obtain ⟨hw_2_0, hw_2_1, hw_2_2⟩ := hw_2
  refine j_if_ne (pc := 8) (tgt := 13) C dX10_ware_8 (by decide) (fun c_3 => ?_) (fun c_3 => ?_)
  · skip
    have el_0 : (0 : Int32).toInt = 0 := rfl
    rw [i_eq] at c_3
    have k0c_3 : ((u_1.2.1 0)).toInt = 1 := by omega
    refine j_iload_n (pc := 13) C dX10_ware_13 rfl 2 rfl ?_
    rcases (by omega : p1.toInt = 0 ∨ p1.toInt = 1 ∨ p1.toInt = 2 ∨ p1.toInt = 3 ∨ p1.toInt = 4 ∨ p1.toInt = 5 ∨ p1.toInt = 6 ∨ p1.toInt = 7 ∨ (¬ p1.toInt = 0 ∧ ¬ p1.toInt = 1 ∧ ¬ p1.toInt = 2 ∧ ¬ p1.toInt = 3 ∧ ¬ p1.toInt = 4 ∧ ¬ p1.toInt = 5 ∧ ¬ p1.toInt = 6 ∧ ¬ p1.toInt = 7)) with sw_4 | sw_4 | sw_4 | sw_4 | sw_4 | sw_4 | sw_4 | sw_4 | sw_4
    · skip
      refine j_tin (pc := 14) (off := 46) (tgt := 60) C dX10_ware_14 (by omega) (by omega) (by rw [sw_4]; decide) (by decide) ?_
      refine j_aload_n (pc := 60) C dX10_ware_60 rfl 0 rfl ?_
      refine j_get (pc := 61) (ci := 10) (v := .ref a0) C inw_10 0 rfl rfl 1 (by decide) wd_447 rfl rfl dX10_ware_61 ?_
      refine j_get (pc := 64) (ci := 9) (v := .ref a1) C inw_9 7 rfl rfl 3 (by decide) wd_471 rfl rfl dX10_ware_64 ?_
      refine j_iload_n (pc := 67) C dX10_ware_67 rfl 1 rfl ?_
      obtain ⟨v_5, ev_5⟩ : ∃ z, a_wide (p0).toInt.toNat = z := ⟨_, rfl⟩
      have env_5 : (a_wide (p0).toInt.toNat).toInt = v_5.toInt := by rw [ev_5]
      refine j_iald (pc := 68) (v := v_5) (k := (p0).toInt.toNat) C 1 1 rfl rfl (i_nn (by omega)) rfl (i_lt_n (by omega) (by omega)) ev_5 dX10_ware_68 ?_
      exact j_iret (pc := 69) C hr hk (fun i => [].getD i 0, fun i => [v_5].getD i 0, fun i => [].getD i (fun _ => 0), fun i => [].getD i (fun _ => 0)) rfl (show (v_5.toInt = wC (p0).toInt (p1).toInt (a_wares).toInt a_wide a_deep a_weight a_bears a_breaks a_habit a_lids a_tops) from ((by have z9 : wC (p0).toInt (p1).toInt (a_wares).toInt a_wide a_deep a_weight a_bears a_breaks a_habit a_lids a_tops = (a_wide (p0).toInt.toNat).toInt := (by unfold wC; rw [if_pos (by omega), if_pos (by omega)]); omega))) [0, 7, 1, 2, 3, 4, 5, 6] (by decide) rfl (by decide) (by decide) dX10_ware_69
    · skip
      refine j_tin (pc := 14) (off := 56) (tgt := 70) C dX10_ware_14 (by omega) (by omega) (by rw [sw_4]; decide) (by decide) ?_
      refine j_aload_n (pc := 70) C dX10_ware_70 rfl 0 rfl ?_
      refine j_get (pc := 71) (ci := 10) (v := .ref a0) C inw_10 0 rfl rfl 1 (by decide) wd_447 rfl rfl dX10_ware_71 ?_
      refine j_get (pc := 74) (ci := 9) (v := .ref a2) C inw_9 7 rfl rfl 4 (by decide) wd_472 rfl rfl dX10_ware_74 ?_
      refine j_iload_n (pc := 77) C dX10_ware_77 rfl 1 rfl ?_
      obtain ⟨v_6, ev_6⟩ : ∃ z, a_deep (p0).toInt.toNat = z := ⟨_, rfl⟩
      have env_6 : (a_deep (p0).toInt.toNat).toInt = v_6.toInt := by rw [ev_6]
      refine j_iald (pc := 78) (v := v_6) (k := (p0).toInt.toNat) C 2 1 rfl rfl (i_nn (by omega)) rfl (i_lt_n (by omega) (by omega)) ev_6 dX10_ware_78 ?_
      exact j_iret (pc := 79) C hr hk (fun i => [].getD i 0, fun i => [v_6].getD i 0, fun i => [].getD i (fun _ => 0), fun i => [].getD i (fun _ => 0)) rfl (show (v_6.toInt = wC (p0).toInt (p1).toInt (a_wares).toInt a_wide a_deep a_weight a_bears a_breaks a_habit a_lids a_tops) from ((by have z9 : wC (p0).toInt (p1).toInt (a_wares).toInt a_wide a_deep a_weight a_bears a_breaks a_habit a_lids a_tops = (a_deep (p0).toInt.toNat).toInt := (by unfold wC; rw [if_pos (by omega), if_neg (by omega), if_pos (by omega)]); omega))) [0, 7, 1, 2, 3, 4, 5, 6] (by decide) rfl (by decide) (by decide) dX10_ware_79
    · skip
      refine j_tin (pc := 14) (off := 66) (tgt := 80) C dX10_ware_14 (by omega) (by omega) (by rw [sw_4]; decide) (by decide) ?_
      refine j_aload_n (pc := 80) C dX10_ware_80 rfl 0 rfl ?_
      refine j_get (pc := 81) (ci := 10) (v := .ref a0) C inw_10 0 rfl rfl 1 (by decide) wd_447 rfl rfl dX10_ware_81 ?_
      refine j_get (pc := 84) (ci := 9) (v := .ref a3) C inw_9 7 rfl rfl 5 (by decide) wd_473 rfl rfl dX10_ware_84 ?_
      refine j_iload_n (pc := 87) C dX10_ware_87 rfl 1 rfl ?_
      obtain ⟨v_7, ev_7⟩ : ∃ z, a_weight (p0).toInt.toNat = z := ⟨_, rfl⟩
      have env_7 : (a_weight (p0).toInt.toNat).toInt = v_7.toInt := by rw [ev_7]
      refine j_iald (pc := 88) (v := v_7) (k := (p0).toInt.toNat) C 3 1 rfl rfl (i_nn (by omega)) rfl (i_lt_n (by omega) (by omega)) ev_7 dX10_ware_88 ?_
      exact j_iret (pc := 89) C hr hk (fun i => [].getD i 0, fun i => [v_7].getD i 0, fun i => [].getD i (fun _ => 0), fun i => [].getD i (fun _ => 0)) rfl (show (v_7.toInt = wC (p0).toInt (p1).toInt (a_wares).toInt a_wide a_deep a_weight a_bears a_breaks a_habit a_lids a_tops) from ((by have z9 : wC (p0).toInt (p1).toInt (a_wares).toInt a_wide a_deep a_weight a_bears a_breaks a_habit a_lids a_tops = (a_weight (p0).toInt.toNat).toInt := (by unfold wC; rw [if_pos (by omega), if_neg (by omega), if_neg (by omega), if_pos (by omega)]); omega))) [0, 7, 1, 2, 3, 4, 5, 6] (by decide) rfl (by decide) (by decide) dX10_ware_89
    · skip
      refine j_tin (pc := 14) (off := 76) (tgt := 90) C dX10_ware_14 (by omega) (by omega) (by rw [sw_4]; decide) (by decide) ?_
      refine j_aload_n (pc := 90) C dX10_ware_90 rfl 0 rfl ?_
      refine j_get (pc := 91) (ci := 10) (v := .ref a0) C inw_10 0 rfl rfl 1 (by decide) wd_447 rfl rfl dX10_ware_91 ?_
      refine j_get (pc := 94) (ci := 9) (v := .ref a4) C inw_9 7 rfl rfl 6 (by decide) wd_474 rfl rfl dX10_ware_94 ?_
      refine j_iload_n (pc := 97) C dX10_ware_97 rfl 1 rfl ?_
      obtain ⟨v_8, ev_8⟩ : ∃ z, a_bears (p0).toInt.toNat = z := ⟨_, rfl⟩
      have env_8 : (a_bears (p0).toInt.toNat).toInt = v_8.toInt := by rw [ev_8]
      refine j_iald (pc := 98) (v := v_8) (k := (p0).toInt.toNat) C 4 1 rfl rfl (i_nn (by omega)) rfl (i_lt_n (by omega) (by omega)) ev_8 dX10_ware_98 ?_
      exact j_iret (pc := 99) C hr hk (fun i => [].getD i 0, fun i => [v_8].getD i 0, fun i => [].getD i (fun _ => 0), fun i => [].getD i (fun _ => 0)) rfl (show (v_8.toInt = wC (p0).toInt (p1).toInt (a_wares).toInt a_wide a_deep a_weight a_bears a_breaks a_habit a_lids a_tops) from ((by have z9 : wC (p0).toInt (p1).toInt (a_wares).toInt a_wide a_deep a_weight a_bears a_breaks a_habit a_lids a_tops = (a_bears (p0).toInt.toNat).toInt := (by unfold wC; rw [if_pos (by omega), if_neg (by omega), if_neg (by omega), if_neg (by omega), if_pos (by omega)]); omega))) [0, 7, 1, 2, 3, 4, 5, 6] (by decide) rfl (by decide) (by decide) dX10_ware_99
    · skip
      refine j_tin (pc := 14) (off := 86) (tgt := 100) C dX10_ware_14 (by omega) (by omega) (by rw [sw_4]; decide) (by decide) ?_
      refine j_aload_n (pc := 100) C dX10_ware_100 rfl 0 rfl ?_
      refine j_get (pc := 101) (ci := 10) (v := .ref a0) C inw_10 0 rfl rfl 1 (by decide) wd_447 rfl rfl dX10_ware_101 ?_
      refine j_get (pc := 104) (ci := 9) (v := .ref a5) C inw_9 7 rfl rfl 7 (by decide) wd_475 rfl rfl dX10_ware_104 ?_
      refine j_iload_n (pc := 107) C dX10_ware_107 rfl 1 rfl ?_
      obtain ⟨v_9, ev_9⟩ : ∃ z, a_breaks (p0).toInt.toNat = z := ⟨_, rfl⟩
      have env_9 : (a_breaks (p0).toInt.toNat).toInt = v_9.toInt := by rw [ev_9]
      refine j_iald (pc := 108) (v := v_9) (k := (p0).toInt.toNat) C 5 1 rfl rfl (i_nn (by omega)) rfl (i_lt_n (by omega) (by omega)) ev_9 dX10_ware_108 ?_
      exact j_iret (pc := 109) C hr hk (fun i => [].getD i 0, fun i => [v_9].getD i 0, fun i => [].getD i (fun _ => 0), fun i => [].getD i (fun _ => 0)) rfl (show (v_9.toInt = wC (p0).toInt (p1).toInt (a_wares).toInt a_wide a_deep a_weight a_bears a_breaks a_habit a_lids a_tops) from ((by have z9 : wC (p0).toInt (p1).toInt (a_wares).toInt a_wide a_deep a_weight a_bears a_breaks a_habit a_lids a_tops = (a_breaks (p0).toInt.toNat).toInt := (by unfold wC; rw [if_pos (by omega), if_neg (by omega), if_neg (by omega), if_neg (by omega), if_neg (by omega), if_pos (by omega)]); omega))) [0, 7, 1, 2, 3, 4, 5, 6] (by decide) rfl (by decide) (by decide) dX10_ware_109
    · skip
      refine j_tin (pc := 14) (off := 96) (tgt := 110) C dX10_ware_14 (by omega) (by omega) (by rw [sw_4]; decide) (by decide) ?_
      refine j_aload_n (pc := 110) C dX10_ware_110 rfl 0 rfl ?_
      refine j_get (pc := 111) (ci := 10) (v := .ref a0) C inw_10 0 rfl rfl 1 (by decide) wd_447 rfl rfl dX10_ware_111 ?_
      refine j_get (pc := 114) (ci := 9) (v := .ref a6) C inw_9 7 rfl rfl 8 (by decide) wd_476 rfl rfl dX10_ware_114 ?_
      refine j_iload_n (pc := 117) C dX10_ware_117 rfl 1 rfl ?_
      obtain ⟨v_10, ev_10⟩ : ∃ z, a_habit (p0).toInt.toNat = z := ⟨_, rfl⟩
      have env_10 : (a_habit (p0).toInt.toNat).toInt = v_10.toInt := by rw [ev_10]
      refine j_iald (pc := 118) (v := v_10) (k := (p0).toInt.toNat) C 6 1 rfl rfl (i_nn (by omega)) rfl (i_lt_n (by omega) (by omega)) ev_10 dX10_ware_118 ?_
      exact j_iret (pc := 119) C hr hk (fun i => [].getD i 0, fun i => [v_10].getD i 0, fun i => [].getD i (fun _ => 0), fun i => [].getD i (fun _ => 0)) rfl (show (v_10.toInt = wC (p0).toInt (p1).toInt (a_wares).toInt a_wide a_deep a_weight a_bears a_breaks a_habit a_lids a_tops) from ((by have z9 : wC (p0).toInt (p1).toInt (a_wares).toInt a_wide a_deep a_weight a_bears a_breaks a_habit a_lids a_tops = (a_habit (p0).toInt.toNat).toInt := (by unfold wC; rw [if_pos (by omega), if_neg (by omega), if_neg (by omega), if_neg (by omega), if_neg (by omega), if_neg (by omega), if_pos (by omega)]); omega))) [0, 7, 1, 2, 3, 4, 5, 6] (by decide) rfl (by decide) (by decide) dX10_ware_119
    · skip
      refine j_tin (pc := 14) (off := 106) (tgt := 120) C dX10_ware_14 (by omega) (by omega) (by rw [sw_4]; decide) (by decide) ?_
      refine j_aload_n (pc := 120) C dX10_ware_120 rfl 0 rfl ?_
      refine j_get (pc := 121) (ci := 10) (v := .ref a0) C inw_10 0 rfl rfl 1 (by decide) wd_447 rfl rfl dX10_ware_121 ?_
      refine j_get (pc := 124) (ci := 9) (v := .int a_lids) C inw_9 7 rfl rfl 9 (by decide) wd_477 rfl rfl dX10_ware_124 ?_
      refine j_iload_n (pc := 127) C dX10_ware_127 rfl 1 rfl ?_
      obtain ⟨v_11, ev_11⟩ : ∃ z : Int32, ((a_lids : Int32).toUInt32 >>> ((p0 : Int32).toUInt32 &&& Int32.toUInt32 31)).toInt32 = z := ⟨_, rfl⟩
      refine j_iushr (pc := 128) (v := v_11) C dX10_ware_128 ev_11 ?_
      refine j_iconst (pc := 129) (v := 1) C dX10_ware_129 (by decide) ?_
      obtain ⟨v_12, ev_12⟩ : ∃ z : Int32, v_11 &&& 1 = z := ⟨_, rfl⟩
      have el_1 : (1 : Int32).toInt = 1 := rfl
      have hv_12 : 0 ≤ v_12.toInt ∧ v_12.toInt ≤ 1 := by rw [← ev_12]; exact and1_r _
      refine j_iand (pc := 130) (v := v_12) C dX10_ware_130 ev_12 ?_
      exact j_iret (pc := 131) C hr hk (fun i => [].getD i 0, fun i => [v_12].getD i 0, fun i => [].getD i (fun _ => 0), fun i => [].getD i (fun _ => 0)) rfl (show (v_12.toInt = wC (p0).toInt (p1).toInt (a_wares).toInt a_wide a_deep a_weight a_bears a_breaks a_habit a_lids a_tops) from ((by have z8 : (v_12).toInt = (if BT a_lids (p0).toInt.toNat = true then 1 else 0 : Int) := (by rw [← ev_12, ← ev_11]; exact bt_rd (by omega) (by omega)); have z9 : wC (p0).toInt (p1).toInt (a_wares).toInt a_wide a_deep a_weight a_bears a_breaks a_habit a_lids a_tops = (if BT a_lids (p0).toInt.toNat = true then 1 else 0 : Int) := (by unfold wC; rw [if_pos (by omega), if_neg (by omega), if_neg (by omega), if_neg (by omega), if_neg (by omega), if_neg (by omega), if_neg (by omega), if_pos (by omega)]); omega))) [0, 7, 1, 2, 3, 4, 5, 6] (by decide) rfl (by decide) (by decide) dX10_ware_131
    · skip
      refine j_tin (pc := 14) (off := 118) (tgt := 132) C dX10_ware_14 (by omega) (by omega) (by rw [sw_4]; decide) (by decide) ?_
      refine j_aload_n (pc := 132) C dX10_ware_132 rfl 0 rfl ?_
      refine j_get (pc := 133) (ci := 10) (v := .ref a0) C inw_10 0 rfl rfl 1 (by decide) wd_447 rfl rfl dX10_ware_133 ?_
      refine j_get (pc := 136) (ci := 9) (v := .int a_tops) C inw_9 7 rfl rfl 10 (by decide) wd_478 rfl rfl dX10_ware_136 ?_
      refine j_iload_n (pc := 139) C dX10_ware_139 rfl 1 rfl ?_
      obtain ⟨v_13, ev_13⟩ : ∃ z : Int32, ((a_tops : Int32).toUInt32 >>> ((p0 : Int32).toUInt32 &&& Int32.toUInt32 31)).toInt32 = z := ⟨_, rfl⟩
      refine j_iushr (pc := 140) (v := v_13) C dX10_ware_140 ev_13 ?_
      refine j_iconst (pc := 141) (v := 1) C dX10_ware_141 (by decide) ?_
      obtain ⟨v_14, ev_14⟩ : ∃ z : Int32, v_13 &&& 1 = z := ⟨_, rfl⟩
      have el_1 : (1 : Int32).toInt = 1 := rfl
      have hv_14 : 0 ≤ v_14.toInt ∧ v_14.toInt ≤ 1 := by rw [← ev_14]; exact and1_r _
      refine j_iand (pc := 142) (v := v_14) C dX10_ware_142 ev_14 ?_
      exact j_iret (pc := 143) C hr hk (fun i => [].getD i 0, fun i => [v_14].getD i 0, fun i => [].getD i (fun _ => 0), fun i => [].getD i (fun _ => 0)) rfl (show (v_14.toInt = wC (p0).toInt (p1).toInt (a_wares).toInt a_wide a_deep a_weight a_bears a_breaks a_habit a_lids a_tops) from ((by have z8 : (v_14).toInt = (if BT a_tops (p0).toInt.toNat = true then 1 else 0 : Int) := (by rw [← ev_14, ← ev_13]; exact bt_rd (by omega) (by omega)); have z9 : wC (p0).toInt (p1).toInt (a_wares).toInt a_wide a_deep a_weight a_bears a_breaks a_habit a_lids a_tops = (if BT a_tops (p0).toInt.toNat = true then 1 else 0 : Int) := (by unfold wC; rw [if_pos (by omega), if_neg (by omega), if_neg (by omega), if_neg (by omega), if_neg (by omega), if_neg (by omega), if_neg (by omega), if_neg (by omega)]); omega))) [0, 7, 1, 2, 3, 4, 5, 6] (by decide) rfl (by decide) (by decide) dX10_ware_143
    · skip
      refine j_tout (pc := 14) (tgt := 144) C dX10_ware_14 (by omega) (by decide) ?_
      refine j_iconst (pc := 144) (v := (-1)) C dX10_ware_144 (by decide) ?_
      have el_m1 : ((-1) : Int32).toInt = (-1) := rfl
      exact j_iret (pc := 145) C hr hk (fun i => [].getD i 0, fun i => [(-1)].getD i 0, fun i => [].getD i (fun _ => 0), fun i => [].getD i (fun _ => 0)) rfl (show (((-1) : Int32).toInt = wC (p0).toInt (p1).toInt (a_wares).toInt a_wide a_deep a_weight a_bears a_breaks a_habit a_lids a_tops) from ((by have z9 : wC (p0).toInt (p1).toInt (a_wares).toInt a_wide a_deep a_weight a_bears a_breaks a_habit a_lids a_tops = -1 := if_neg (by omega); omega))) [0, 7, 1, 2, 3, 4, 5, 6] (by decide) rfl (by decide) (by decide) dX10_ware_145
  · skip
    have el_0 : (0 : Int32).toInt = 0 := rfl
    rw [i_eq] at c_3
    refine j_iconst (pc := 11) (v := (-1)) C dX10_ware_11 (by decide) ?_
    have el_m1 : ((-1) : Int32).toInt = (-1) := rfl
    exact j_iret (pc := 12) C hr hk (fun i => [].getD i 0, fun i => [(-1)].getD i 0, fun i => [].getD i (fun _ => 0), fun i => [].getD i (fun _ => 0)) rfl (show (((-1) : Int32).toInt = wC (p0).toInt (p1).toInt (a_wares).toInt a_wide a_deep a_weight a_bears a_breaks a_habit a_lids a_tops) from ((by have z9 : wC (p0).toInt (p1).toInt (a_wares).toInt a_wide a_deep a_weight a_bears a_breaks a_habit a_lids a_tops = -1 := if_neg (by omega); omega))) [0, 7, 1, 2, 3, 4, 5, 6] (by decide) rfl (by decide) (by decide) dX10_ware_12
set_option maxHeartbeats 4000000 in
set_option maxRecDepth 100000 in
theorem c_X10_shelf (l : Launch) (D : DG) (cyC cyI cyJ cyZ cyO : ClassId) (x0 : Nat) (a0 : Nat) (a8 : Nat) (a9 : Nat) (a10 : Nat) (n0 : Nat) (n1 : Nat) (n2 : Nat) (r0 : Nat) (k0 : Nat) (x1 : Nat) (q0 : Nat) (o0 : Nat) (h0 : Nat) (s0 : Nat) (d0 : Nat) (a1 : Nat) (a2 : Nat) (a3 : Nat) (a4 : Nat) (a5 : Nat) (a6 : Nat) (a7 : Nat) (n3 : Nat) (n4 : Nat) (p0 : Int32) (p1 : Int32) (a_wares : Int32) (a_shelves : Int32) (a_nests : Int32) (a_lids : Int32) (a_tops : Int32) (n_askings : Int32) (n_cost : Int32) (n_laid : Int32) (a_height : Nat → Int32) (a_reach : Nat → Int32) (a_room : Nat → Int32) (n_shelf : Nat → Int32) (n_stack : Nat → Int32) (h_a_wares : 0 ≤ (a_wares).toInt ∧ (a_wares).toInt ≤ 12) (h_a_shelves : 0 ≤ (a_shelves).toInt ∧ (a_shelves).toInt ≤ 4) (h_a_nests : 0 ≤ (a_nests).toInt ∧ (a_nests).toInt ≤ 4) (h_n_askings : 0 ≤ (n_askings).toInt ∧ (n_askings).toInt ≤ 30) (h_n_laid : 0 ≤ (n_laid).toInt ∧ (n_laid).toInt ≤ 1) (h_a_room : Iv 4 (0) (8) a_room) (h_n_shelf : Iv 12 (-1) (3) n_shelf) (h_n_stack : Iv 12 (0) (7) n_stack) : KK l D (TY cyC cyI cyJ cyZ cyO) yX10_shelf cX10_shelf 3 (some .int) ({ frames := 2, cells := 0, slots := 0, locals := 36 } : Room) 0 0 [.ref x0, .int p0, .int p1] [(x0, .inr (10, [.ref r0, .ref a0, .ref n0, .ref k0, .ref x1, .ref q0, .ref o0, .ref h0, .ref s0, .ref d0])), (a0, .inr (9, [.int a_wares, .int a_shelves, .int a_nests, .ref a1, .ref a2, .ref a3, .ref a4, .ref a5, .ref a6, .int a_lids, .int a_tops, .ref a7, .ref a8, .ref a9, .ref a10])), (a8, .inl (cyI, 4, .inl a_height)), (a9, .inl (cyI, 4, .inl a_reach)), (a10, .inl (cyI, 4, .inl a_room)), (n0, .inr (7, [.ref n1, .ref n2, .ref n3, .ref n4, .int n_askings, .int n_cost, .int n_laid])), (n1, .inl (cyI, 12, .inl n_shelf)), (n2, .inl (cyI, 12, .inl n_stack))] (fun u => some (.int (u.2.1 0))) (fun u => (GRD (0 ≤ (p0).toInt ∧ (p0).toInt < (a_shelves).toInt) (-1) (fun x => x = shF (p1).toInt (a_height (p0).toInt.toNat).toInt (a_reach (p0).toInt.toNat).toInt (a_room (p0).toInt.toNat).toInt (stF n_shelf n_stack p0 12).toInt) (u.2.1 0).toInt)) (fun u => [(x0, .inr (10, [.ref r0, .ref a0, .ref n0, .ref k0, .ref x1, .ref q0, .ref o0, .ref h0, .ref s0, .ref d0])), (a0, .inr (9, [.int a_wares, .int a_shelves, .int a_nests, .ref a1, .ref a2, .ref a3, .ref a4, .ref a5, .ref a6, .int a_lids, .int a_tops, .ref a7, .ref a8, .ref a9, .ref a10])), (a8, .inl (cyI, 4, .inl a_height)), (a9, .inl (cyI, 4, .inl a_reach)), (a10, .inl (cyI, 4, .inl a_room)), (n0, .inr (7, [.ref n1, .ref n2, .ref n3, .ref n4, .int n_askings, .int n_cost, .int n_laid])), (n1, .inl (cyI, 12, .inl n_shelf)), (n2, .inl (cyI, 12, .inl n_stack))]) := by
  refine KK.of (lv0 := [(0, .ref x0), (1, .int p0), (2, .int p1)]) (by decide) rfl (Nat.le_of_ble_eq_true rfl) ?_
  intro p e s m args below meth c A C hr hk hin
  refine j_aload_n (pc := 0) C dX10_shelf_0 rfl 0 rfl ?_
  refine j_get (pc := 1) (ci := 10) (v := .ref a0) C inw_10 0 rfl rfl 1 (by decide) wd_447 rfl rfl dX10_shelf_1 ?_
  refine j_iload_n (pc := 4) C dX10_shelf_4 rfl 1 rfl ?_
  refine j_callV (pc := 5) (As := [.int p0]) (rest := []) (wr := [(x0, .inr (10, [.ref r0, .ref a0, .ref n0, .ref k0, .ref x1, .ref q0, .ref o0, .ref h0, .ref s0, .ref d0])), (a8, .inl (cyI, 4, .inl a_height)), (a9, .inl (cyI, 4, .inl a_reach)), (a10, .inl (cyI, 4, .inl a_room)), (n0, .inr (7, [.ref n1, .ref n2, .ref n3, .ref n4, .int n_askings, .int n_cost, .int n_laid])), (n1, .inl (cyI, 12, .inl n_shelf)), (n2, .inl (cyI, 12, .inl n_stack))]) C (c_X9_isShelf l D cyC cyI cyJ cyZ cyO a0 a1 a2 a3 a4 a5 a6 a7 a8 a9 a10 p0 a_wares a_shelves a_nests a_lids a_tops h_a_wares h_a_shelves h_a_nests) wd_462 wd_33 wd_463 wd_464 wd_465 ⟨by decide, by decide, rfl⟩ rfl ⟨rfl, rfl, by decide, by decide⟩ ⟨by decide, by decide⟩ [1] [0, 2, 3, 4, 5, 6, 7] rfl rfl ⟨by decide, by decide, by decide⟩ 1 rfl rfl rfl (Nat.le_of_ble_eq_true rfl) dX10_shelf_5 (fun u_1 hw_2 => ?_)
  refine j_eq (ws2 := [(x0, .inr (10, [.ref r0, .ref a0, .ref n0, .ref k0, .ref x1, .ref q0, .ref o0, .ref h0, .ref s0, .ref d0])), (a8, .inl (cyI, 4, .inl a_height)), (a9, .inl (cyI, 4, .inl a_reach)), (a10, .inl (cyI, 4, .inl a_room)), (n0, .inr (7, [.ref n1, .ref n2, .ref n3, .ref n4, .int n_askings, .int n_cost, .int n_laid])), (n1, .inl (cyI, 12, .inl n_shelf)), (n2, .inl (cyI, 12, .inl n_stack)), (a0, .inr (9, [.int a_wares, .int a_shelves, .int a_nests, .ref a1, .ref a2, .ref a3, .ref a4, .ref a5, .ref a6, .int a_lids, .int a_tops, .ref a7, .ref a8, .ref a9, .ref a10]))]) (pc2 := 8) (lv2 := [(0, .ref x0), (1, .int p0), (2, .int p1)]) (st2 := [.int (u_1.2.1 0)]) rfl rfl rfl rfl ?_
  obtain ⟨hw_2_0, hw_2_1, hw_2_2⟩ := hw_2
  refine j_if_ne (pc := 8) (tgt := 13) C dX10_shelf_8 (by decide) (fun c_3 => ?_) (fun c_3 => ?_)
  · skip
    have el_0 : (0 : Int32).toInt = 0 := rfl
    rw [i_eq] at c_3
    have k0c_3 : ((u_1.2.1 0)).toInt = 1 := by omega
    refine j_iload_n (pc := 13) C dX10_shelf_13 rfl 2 rfl ?_
    rcases (by omega : p1.toInt = 0 ∨ p1.toInt = 1 ∨ p1.toInt = 2 ∨ p1.toInt = 3 ∨ (¬ p1.toInt = 0 ∧ ¬ p1.toInt = 1 ∧ ¬ p1.toInt = 2 ∧ ¬ p1.toInt = 3)) with sw_4 | sw_4 | sw_4 | sw_4 | sw_4
    · skip
      refine j_tin (pc := 14) (off := 30) (tgt := 44) C dX10_shelf_14 (by omega) (by omega) (by rw [sw_4]; decide) (by decide) ?_
      refine j_aload_n (pc := 44) C dX10_shelf_44 rfl 0 rfl ?_
      refine j_get (pc := 45) (ci := 10) (v := .ref a0) C inw_10 0 rfl rfl 1 (by decide) wd_447 rfl rfl dX10_shelf_45 ?_
      refine j_get (pc := 48) (ci := 9) (v := .ref a8) C inw_9 7 rfl rfl 12 (by decide) wd_448 rfl rfl dX10_shelf_48 ?_
      refine j_iload_n (pc := 51) C dX10_shelf_51 rfl 1 rfl ?_
      obtain ⟨v_5, ev_5⟩ : ∃ z, a_height (p0).toInt.toNat = z := ⟨_, rfl⟩
      have env_5 : (a_height (p0).toInt.toNat).toInt = v_5.toInt := by rw [ev_5]
      refine j_iald (pc := 52) (v := v_5) (k := (p0).toInt.toNat) C 1 1 rfl rfl (i_nn (by omega)) rfl (i_lt_n (by omega) (by omega)) ev_5 dX10_shelf_52 ?_
      exact j_iret (pc := 53) C hr hk (fun i => [].getD i 0, fun i => [v_5].getD i 0, fun i => [].getD i (fun _ => 0), fun i => [].getD i (fun _ => 0)) rfl (show (GRD (0 ≤ (p0).toInt ∧ (p0).toInt < (a_shelves).toInt) (-1) (fun x => x = shF (p1).toInt (a_height (p0).toInt.toNat).toInt (a_reach (p0).toInt.toNat).toInt (a_room (p0).toInt.toNat).toInt (stF n_shelf n_stack p0 12).toInt) v_5.toInt) from ((Or.inr ⟨⟨by omega, by omega⟩, by unfold shF; rw [if_pos (by omega)]; rw [ev_5]⟩))) [0, 7, 1, 2, 3, 4, 5, 6] (by decide) rfl (by decide) (by decide) dX10_shelf_53
    · skip
      refine j_tin (pc := 14) (off := 40) (tgt := 54) C dX10_shelf_14 (by omega) (by omega) (by rw [sw_4]; decide) (by decide) ?_
      refine j_aload_n (pc := 54) C dX10_shelf_54 rfl 0 rfl ?_
      refine j_get (pc := 55) (ci := 10) (v := .ref a0) C inw_10 0 rfl rfl 1 (by decide) wd_447 rfl rfl dX10_shelf_55 ?_
      refine j_get (pc := 58) (ci := 9) (v := .ref a9) C inw_9 7 rfl rfl 13 (by decide) wd_457 rfl rfl dX10_shelf_58 ?_
      refine j_iload_n (pc := 61) C dX10_shelf_61 rfl 1 rfl ?_
      obtain ⟨v_6, ev_6⟩ : ∃ z, a_reach (p0).toInt.toNat = z := ⟨_, rfl⟩
      have env_6 : (a_reach (p0).toInt.toNat).toInt = v_6.toInt := by rw [ev_6]
      refine j_iald (pc := 62) (v := v_6) (k := (p0).toInt.toNat) C 2 1 rfl rfl (i_nn (by omega)) rfl (i_lt_n (by omega) (by omega)) ev_6 dX10_shelf_62 ?_
      exact j_iret (pc := 63) C hr hk (fun i => [].getD i 0, fun i => [v_6].getD i 0, fun i => [].getD i (fun _ => 0), fun i => [].getD i (fun _ => 0)) rfl (show (GRD (0 ≤ (p0).toInt ∧ (p0).toInt < (a_shelves).toInt) (-1) (fun x => x = shF (p1).toInt (a_height (p0).toInt.toNat).toInt (a_reach (p0).toInt.toNat).toInt (a_room (p0).toInt.toNat).toInt (stF n_shelf n_stack p0 12).toInt) v_6.toInt) from ((Or.inr ⟨⟨by omega, by omega⟩, by unfold shF; rw [if_neg (by omega), if_pos (by omega)]; rw [ev_6]⟩))) [0, 7, 1, 2, 3, 4, 5, 6] (by decide) rfl (by decide) (by decide) dX10_shelf_63
    · skip
      refine j_tin (pc := 14) (off := 50) (tgt := 64) C dX10_shelf_14 (by omega) (by omega) (by rw [sw_4]; decide) (by decide) ?_
      refine j_aload_n (pc := 64) C dX10_shelf_64 rfl 0 rfl ?_
      refine j_get (pc := 65) (ci := 10) (v := .ref a0) C inw_10 0 rfl rfl 1 (by decide) wd_447 rfl rfl dX10_shelf_65 ?_
      refine j_get (pc := 68) (ci := 9) (v := .ref a10) C inw_9 7 rfl rfl 14 (by decide) wd_453 rfl rfl dX10_shelf_68 ?_
      refine j_iload_n (pc := 71) C dX10_shelf_71 rfl 1 rfl ?_
      obtain ⟨v_7, ev_7⟩ : ∃ z, a_room (p0).toInt.toNat = z := ⟨_, rfl⟩
      have env_7 : (a_room (p0).toInt.toNat).toInt = v_7.toInt := by rw [ev_7]
      have hv_7 := h_a_room (p0).toInt.toNat (i_lt_n (by omega) (by omega)); rw [ev_7] at hv_7
      refine j_iald (pc := 72) (v := v_7) (k := (p0).toInt.toNat) C 3 1 rfl rfl (i_nn (by omega)) rfl (i_lt_n (by omega) (by omega)) ev_7 dX10_shelf_72 ?_
      exact j_iret (pc := 73) C hr hk (fun i => [].getD i 0, fun i => [v_7].getD i 0, fun i => [].getD i (fun _ => 0), fun i => [].getD i (fun _ => 0)) rfl (show (GRD (0 ≤ (p0).toInt ∧ (p0).toInt < (a_shelves).toInt) (-1) (fun x => x = shF (p1).toInt (a_height (p0).toInt.toNat).toInt (a_reach (p0).toInt.toNat).toInt (a_room (p0).toInt.toNat).toInt (stF n_shelf n_stack p0 12).toInt) v_7.toInt) from ((Or.inr ⟨⟨by omega, by omega⟩, by unfold shF; rw [if_neg (by omega), if_neg (by omega), if_pos (by omega)]; rw [ev_7]⟩))) [0, 7, 1, 2, 3, 4, 5, 6] (by decide) rfl (by decide) (by decide) dX10_shelf_73
    · skip
      refine j_tin (pc := 14) (off := 60) (tgt := 74) C dX10_shelf_14 (by omega) (by omega) (by rw [sw_4]; decide) (by decide) ?_
      refine j_aload_n (pc := 74) C dX10_shelf_74 rfl 0 rfl ?_
      refine j_get (pc := 75) (ci := 10) (v := .ref n0) C inw_10 0 rfl rfl 2 (by decide) wd_466 rfl rfl dX10_shelf_75 ?_
      refine j_iload_n (pc := 78) C dX10_shelf_78 rfl 1 rfl ?_
      refine j_callV (pc := 79) (As := [.int p0]) (rest := []) (wr := [(x0, .inr (10, [.ref r0, .ref a0, .ref n0, .ref k0, .ref x1, .ref q0, .ref o0, .ref h0, .ref s0, .ref d0])), (a8, .inl (cyI, 4, .inl a_height)), (a9, .inl (cyI, 4, .inl a_reach)), (a10, .inl (cyI, 4, .inl a_room)), (a0, .inr (9, [.int a_wares, .int a_shelves, .int a_nests, .ref a1, .ref a2, .ref a3, .ref a4, .ref a5, .ref a6, .int a_lids, .int a_tops, .ref a7, .ref a8, .ref a9, .ref a10]))]) C (c_X7_stacks l D cyC cyI cyJ cyZ cyO n0 n1 n2 n3 n4 p0 n_askings n_cost n_laid n_shelf n_stack h_n_askings h_n_laid h_n_shelf h_n_stack) wd_66 wd_9 wd_437 wd_68 wd_69 ⟨by decide, by decide, rfl⟩ rfl ⟨rfl, rfl, by decide, by decide⟩ ⟨by decide, by decide⟩ [4, 5, 6] [0, 1, 2, 3, 7] rfl rfl ⟨by decide, by decide, by decide⟩ 4 rfl rfl rfl (Nat.le_of_ble_eq_true rfl) dX10_shelf_79 (fun u_8 hw_9 => ?_)
      refine j_eq (ws2 := [(x0, .inr (10, [.ref r0, .ref a0, .ref n0, .ref k0, .ref x1, .ref q0, .ref o0, .ref h0, .ref s0, .ref d0])), (a8, .inl (cyI, 4, .inl a_height)), (a9, .inl (cyI, 4, .inl a_reach)), (a10, .inl (cyI, 4, .inl a_room)), (a0, .inr (9, [.int a_wares, .int a_shelves, .int a_nests, .ref a1, .ref a2, .ref a3, .ref a4, .ref a5, .ref a6, .int a_lids, .int a_tops, .ref a7, .ref a8, .ref a9, .ref a10])), (n0, .inr (7, [.ref n1, .ref n2, .ref n3, .ref n4, .int n_askings, .int n_cost, .int n_laid])), (n1, .inl (cyI, 12, .inl n_shelf)), (n2, .inl (cyI, 12, .inl n_stack))]) (pc2 := 82) (lv2 := [(0, .ref x0), (1, .int p0), (2, .int p1)]) (st2 := [.int (u_8.2.1 0)]) rfl rfl rfl rfl ?_
      obtain ⟨hw_9_0, hw_9_1⟩ := hw_9
      exact j_iret (pc := 82) C hr hk (fun i => [].getD i 0, fun i => [(u_8.2.1 0)].getD i 0, fun i => [].getD i (fun _ => 0), fun i => [].getD i (fun _ => 0)) rfl (show (GRD (0 ≤ (p0).toInt ∧ (p0).toInt < (a_shelves).toInt) (-1) (fun x => x = shF (p1).toInt (a_height (p0).toInt.toNat).toInt (a_reach (p0).toInt.toNat).toInt (a_room (p0).toInt.toNat).toInt (stF n_shelf n_stack p0 12).toInt) (u_8.2.1 0).toInt) from ((Or.inr ⟨⟨by omega, by omega⟩, by unfold shF; rw [if_neg (by omega), if_neg (by omega), if_neg (by omega), if_pos (by omega)]; rw [hw_9_1]⟩))) [0, 4, 1, 2, 3, 5, 6, 7] (by decide) rfl (by decide) (by decide) dX10_shelf_82
    · skip
      refine j_tout (pc := 14) (tgt := 83) C dX10_shelf_14 (by omega) (by decide) ?_
      refine j_iconst (pc := 83) (v := (-1)) C dX10_shelf_83 (by decide) ?_
      have el_m1 : ((-1) : Int32).toInt = (-1) := rfl
      exact j_iret (pc := 84) C hr hk (fun i => [].getD i 0, fun i => [(-1)].getD i 0, fun i => [].getD i (fun _ => 0), fun i => [].getD i (fun _ => 0)) rfl (show (GRD (0 ≤ (p0).toInt ∧ (p0).toInt < (a_shelves).toInt) (-1) (fun x => x = shF (p1).toInt (a_height (p0).toInt.toNat).toInt (a_reach (p0).toInt.toNat).toInt (a_room (p0).toInt.toNat).toInt (stF n_shelf n_stack p0 12).toInt) ((-1) : Int32).toInt) from ((Or.inr ⟨⟨by omega, by omega⟩, by unfold shF; rw [if_neg (by omega), if_neg (by omega), if_neg (by omega), if_neg (by omega)]; rfl⟩))) [0, 7, 1, 2, 3, 4, 5, 6] (by decide) rfl (by decide) (by decide) dX10_shelf_84
  · skip
    have el_0 : (0 : Int32).toInt = 0 := rfl
    rw [i_eq] at c_3
    refine j_iconst (pc := 11) (v := (-1)) C dX10_shelf_11 (by decide) ?_
    have el_m1 : ((-1) : Int32).toInt = (-1) := rfl
    exact j_iret (pc := 12) C hr hk (fun i => [].getD i 0, fun i => [(-1)].getD i 0, fun i => [].getD i (fun _ => 0), fun i => [].getD i (fun _ => 0)) rfl (show (GRD (0 ≤ (p0).toInt ∧ (p0).toInt < (a_shelves).toInt) (-1) (fun x => x = shF (p1).toInt (a_height (p0).toInt.toNat).toInt (a_reach (p0).toInt.toNat).toInt (a_room (p0).toInt.toNat).toInt (stF n_shelf n_stack p0 12).toInt) ((-1) : Int32).toInt) from ((Or.inl ⟨rfl, fun z => by omega⟩))) [0, 7, 1, 2, 3, 4, 5, 6] (by decide) rfl (by decide) (by decide) dX10_shelf_12
set_option maxHeartbeats 4000000 in
set_option maxRecDepth 100000 in
theorem c_X10_may (l : Launch) (D : DG) (cyC cyI cyJ cyZ cyO : ClassId) (x0 : Nat) (a0 : Nat) (a7 : Nat) (r0 : Nat) (n0 : Nat) (k0 : Nat) (x1 : Nat) (q0 : Nat) (o0 : Nat) (h0 : Nat) (s0 : Nat) (d0 : Nat) (a1 : Nat) (a2 : Nat) (a3 : Nat) (a4 : Nat) (a5 : Nat) (a6 : Nat) (a8 : Nat) (a9 : Nat) (a10 : Nat) (p0 : Int32) (p1 : Int32) (a_wares : Int32) (a_shelves : Int32) (a_nests : Int32) (a_lids : Int32) (a_tops : Int32) (a_mayOn : Nat → Int32) (h_a_wares : 0 ≤ (a_wares).toInt ∧ (a_wares).toInt ≤ 12) (h_a_shelves : 0 ≤ (a_shelves).toInt ∧ (a_shelves).toInt ≤ 4) (h_a_nests : 0 ≤ (a_nests).toInt ∧ (a_nests).toInt ≤ 4) : KK l D (TY cyC cyI cyJ cyZ cyO) yX10_may cX10_may 3 (some .int) ({ frames := 1, cells := 0, slots := 0, locals := 21 } : Room) 0 0 [.ref x0, .int p0, .int p1] [(x0, .inr (10, [.ref r0, .ref a0, .ref n0, .ref k0, .ref x1, .ref q0, .ref o0, .ref h0, .ref s0, .ref d0])), (a0, .inr (9, [.int a_wares, .int a_shelves, .int a_nests, .ref a1, .ref a2, .ref a3, .ref a4, .ref a5, .ref a6, .int a_lids, .int a_tops, .ref a7, .ref a8, .ref a9, .ref a10])), (a7, .inl (cyI, 12, .inl a_mayOn))] (fun u => some (.int (u.2.1 0))) (fun u => ((u.2.1 0).toInt = maC (a_wares).toInt a_mayOn (p0).toInt (p1).toInt)) (fun u => [(x0, .inr (10, [.ref r0, .ref a0, .ref n0, .ref k0, .ref x1, .ref q0, .ref o0, .ref h0, .ref s0, .ref d0])), (a0, .inr (9, [.int a_wares, .int a_shelves, .int a_nests, .ref a1, .ref a2, .ref a3, .ref a4, .ref a5, .ref a6, .int a_lids, .int a_tops, .ref a7, .ref a8, .ref a9, .ref a10])), (a7, .inl (cyI, 12, .inl a_mayOn))]) := by
  refine KK.of (lv0 := [(0, .ref x0), (1, .int p0), (2, .int p1)]) (by decide) rfl (Nat.le_of_ble_eq_true rfl) ?_
  intro p e s m args below meth c A C hr hk hin
  refine j_aload_n (pc := 0) C dX10_may_0 rfl 0 rfl ?_
  refine j_get (pc := 1) (ci := 10) (v := .ref a0) C inw_10 0 rfl rfl 1 (by decide) wd_447 rfl rfl dX10_may_1 ?_
  refine j_iload_n (pc := 4) C dX10_may_4 rfl 1 rfl ?_
  refine j_callV (pc := 5) (As := [.int p0]) (rest := []) (wr := [(x0, .inr (10, [.ref r0, .ref a0, .ref n0, .ref k0, .ref x1, .ref q0, .ref o0, .ref h0, .ref s0, .ref d0])), (a7, .inl (cyI, 12, .inl a_mayOn))]) C (c_X9_isWare l D cyC cyI cyJ cyZ cyO a0 a1 a2 a3 a4 a5 a6 a7 a8 a9 a10 p0 a_wares a_shelves a_nests a_lids a_tops h_a_wares h_a_shelves h_a_nests) wd_467 wd_33 wd_468 wd_469 wd_470 ⟨by decide, by decide, rfl⟩ rfl ⟨rfl, rfl, by decide, by decide⟩ ⟨by decide, by decide⟩ [1] [0, 2] rfl rfl ⟨by decide, by decide, by decide⟩ 1 rfl rfl rfl (Nat.le_of_ble_eq_true rfl) dX10_may_5 (fun u_1 hw_2 => ?_)
  refine j_eq (ws2 := [(x0, .inr (10, [.ref r0, .ref a0, .ref n0, .ref k0, .ref x1, .ref q0, .ref o0, .ref h0, .ref s0, .ref d0])), (a7, .inl (cyI, 12, .inl a_mayOn)), (a0, .inr (9, [.int a_wares, .int a_shelves, .int a_nests, .ref a1, .ref a2, .ref a3, .ref a4, .ref a5, .ref a6, .int a_lids, .int a_tops, .ref a7, .ref a8, .ref a9, .ref a10]))]) (pc2 := 8) (lv2 := [(0, .ref x0), (1, .int p0), (2, .int p1)]) (st2 := [.int (u_1.2.1 0)]) rfl rfl rfl rfl ?_
  obtain ⟨hw_2_0, hw_2_1, hw_2_2⟩ := hw_2
  refine j_if_eq (pc := 8) (tgt := 27) C dX10_may_8 (by decide) (fun c_3 => ?_) (fun c_3 => ?_)
  · skip
    have el_0 : (0 : Int32).toInt = 0 := rfl
    rw [i_eq] at c_3
    refine j_iconst (pc := 27) (v := (-1)) C dX10_may_27 (by decide) ?_
    have el_m1 : ((-1) : Int32).toInt = (-1) := rfl
    exact j_iret (pc := 28) C hr hk (fun i => [].getD i 0, fun i => [(-1)].getD i 0, fun i => [].getD i (fun _ => 0), fun i => [].getD i (fun _ => 0)) rfl (show (((-1) : Int32).toInt = maC (a_wares).toInt a_mayOn (p0).toInt (p1).toInt) from ((by have z9 : maC (a_wares).toInt a_mayOn (p0).toInt (p1).toInt = -1 := if_neg (by omega); rw [z9]; rfl))) [0, 2, 1] (by decide) rfl (by decide) (by decide) dX10_may_28
  · skip
    have el_0 : (0 : Int32).toInt = 0 := rfl
    rw [i_eq] at c_3
    have k0c_3 : ((u_1.2.1 0)).toInt = 1 := by omega
    refine j_aload_n (pc := 11) C dX10_may_11 rfl 0 rfl ?_
    refine j_get (pc := 12) (ci := 10) (v := .ref a0) C inw_10 0 rfl rfl 1 (by decide) wd_447 rfl rfl dX10_may_12 ?_
    refine j_iload_n (pc := 15) C dX10_may_15 rfl 2 rfl ?_
    refine j_callV (pc := 16) (As := [.int p1]) (rest := []) (wr := [(x0, .inr (10, [.ref r0, .ref a0, .ref n0, .ref k0, .ref x1, .ref q0, .ref o0, .ref h0, .ref s0, .ref d0])), (a7, .inl (cyI, 12, .inl a_mayOn))]) C (c_X9_isWare l D cyC cyI cyJ cyZ cyO a0 a1 a2 a3 a4 a5 a6 a7 a8 a9 a10 p1 a_wares a_shelves a_nests a_lids a_tops h_a_wares h_a_shelves h_a_nests) wd_467 wd_33 wd_468 wd_469 wd_470 ⟨by decide, by decide, rfl⟩ rfl ⟨rfl, rfl, by decide, by decide⟩ ⟨by decide, by decide⟩ [2] [0, 1] rfl rfl ⟨by decide, by decide, by decide⟩ 2 rfl rfl rfl (Nat.le_of_ble_eq_true rfl) dX10_may_16 (fun u_4 hw_5 => ?_)
    refine j_eq (ws2 := [(x0, .inr (10, [.ref r0, .ref a0, .ref n0, .ref k0, .ref x1, .ref q0, .ref o0, .ref h0, .ref s0, .ref d0])), (a7, .inl (cyI, 12, .inl a_mayOn)), (a0, .inr (9, [.int a_wares, .int a_shelves, .int a_nests, .ref a1, .ref a2, .ref a3, .ref a4, .ref a5, .ref a6, .int a_lids, .int a_tops, .ref a7, .ref a8, .ref a9, .ref a10]))]) (pc2 := 19) (lv2 := [(0, .ref x0), (1, .int p0), (2, .int p1)]) (st2 := [.int (u_4.2.1 0)]) rfl rfl rfl rfl ?_
    obtain ⟨hw_5_0, hw_5_1, hw_5_2⟩ := hw_5
    refine j_if_eq (pc := 19) (tgt := 27) C dX10_may_19 (by decide) (fun c_6 => ?_) (fun c_6 => ?_)
    · skip
      have el_0 : (0 : Int32).toInt = 0 := rfl
      rw [i_eq] at c_6
      refine j_iconst (pc := 27) (v := (-1)) C dX10_may_27 (by decide) ?_
      have el_m1 : ((-1) : Int32).toInt = (-1) := rfl
      exact j_iret (pc := 28) C hr hk (fun i => [].getD i 0, fun i => [(-1)].getD i 0, fun i => [].getD i (fun _ => 0), fun i => [].getD i (fun _ => 0)) rfl (show (((-1) : Int32).toInt = maC (a_wares).toInt a_mayOn (p0).toInt (p1).toInt) from ((by have z9 : maC (a_wares).toInt a_mayOn (p0).toInt (p1).toInt = -1 := if_neg (by omega); rw [z9]; rfl))) [0, 2, 1] (by decide) rfl (by decide) (by decide) dX10_may_28
    · skip
      have el_0 : (0 : Int32).toInt = 0 := rfl
      rw [i_eq] at c_6
      have k0c_6 : ((u_4.2.1 0)).toInt = 1 := by omega
      refine j_iload_n (pc := 22) C dX10_may_22 rfl 1 rfl ?_
      refine j_iload_n (pc := 23) C dX10_may_23 rfl 2 rfl ?_
      refine j_icmp_ne (pc := 24) (tgt := 29) C dX10_may_24 (by decide) (fun c_7 => ?_) (fun c_7 => ?_)
      · skip
        rw [i_eq] at c_7
        refine j_aload_n (pc := 29) C dX10_may_29 rfl 0 rfl ?_
        refine j_get (pc := 30) (ci := 10) (v := .ref a0) C inw_10 0 rfl rfl 1 (by decide) wd_447 rfl rfl dX10_may_30 ?_
        refine j_get (pc := 33) (ci := 9) (v := .ref a7) C inw_9 2 rfl rfl 11 (by decide) wd_479 rfl rfl dX10_may_33 ?_
        refine j_iload_n (pc := 36) C dX10_may_36 rfl 2 rfl ?_
        obtain ⟨v_8, ev_8⟩ : ∃ z, a_mayOn (p1).toInt.toNat = z := ⟨_, rfl⟩
        have env_8 : (a_mayOn (p1).toInt.toNat).toInt = v_8.toInt := by rw [ev_8]
        refine j_iald (pc := 37) (v := v_8) (k := (p1).toInt.toNat) C 1 1 rfl rfl (i_nn (by omega)) rfl (i_lt_n (by omega) (by omega)) ev_8 dX10_may_37 ?_
        refine j_iload_n (pc := 38) C dX10_may_38 rfl 1 rfl ?_
        obtain ⟨v_9, ev_9⟩ : ∃ z : Int32, ((v_8 : Int32).toUInt32 >>> ((p0 : Int32).toUInt32 &&& Int32.toUInt32 31)).toInt32 = z := ⟨_, rfl⟩
        refine j_iushr (pc := 39) (v := v_9) C dX10_may_39 ev_9 ?_
        refine j_iconst (pc := 40) (v := 1) C dX10_may_40 (by decide) ?_
        obtain ⟨v_10, ev_10⟩ : ∃ z : Int32, v_9 &&& 1 = z := ⟨_, rfl⟩
        have el_1 : (1 : Int32).toInt = 1 := rfl
        have hv_10 : 0 ≤ v_10.toInt ∧ v_10.toInt ≤ 1 := by rw [← ev_10]; exact and1_r _
        refine j_iand (pc := 41) (v := v_10) C dX10_may_41 ev_10 ?_
        exact j_iret (pc := 42) C hr hk (fun i => [].getD i 0, fun i => [v_10].getD i 0, fun i => [].getD i (fun _ => 0), fun i => [].getD i (fun _ => 0)) rfl (show (v_10.toInt = maC (a_wares).toInt a_mayOn (p0).toInt (p1).toInt) from ((by have z8 : (v_10).toInt = (if BT (a_mayOn (p1).toInt.toNat) (p0).toInt.toNat = true then 1 else 0 : Int) := (by rw [← ev_10, ← ev_9, ← ev_8]; exact bt_rd (by omega) (by omega)); have z9 : maC (a_wares).toInt a_mayOn (p0).toInt (p1).toInt = (if BT (a_mayOn (p1).toInt.toNat) (p0).toInt.toNat = true then 1 else 0 : Int) := if_pos (by omega); rw [z9]; exact z8))) [0, 2, 1] (by decide) rfl (by decide) (by decide) dX10_may_42
      · skip
        rw [i_eq] at c_7
        refine j_iconst (pc := 27) (v := (-1)) C dX10_may_27 (by decide) ?_
        have el_m1 : ((-1) : Int32).toInt = (-1) := rfl
        exact j_iret (pc := 28) C hr hk (fun i => [].getD i 0, fun i => [(-1)].getD i 0, fun i => [].getD i (fun _ => 0), fun i => [].getD i (fun _ => 0)) rfl (show (((-1) : Int32).toInt = maC (a_wares).toInt a_mayOn (p0).toInt (p1).toInt) from ((by have z9 : maC (a_wares).toInt a_mayOn (p0).toInt (p1).toInt = -1 := if_neg (by omega); rw [z9]; rfl))) [0, 2, 1] (by decide) rfl (by decide) (by decide) dX10_may_28
set_option maxHeartbeats 4000000 in
set_option maxRecDepth 100000 in
theorem c_X10_put (l : Launch) (D : DG) (cyC cyI cyJ cyZ cyO : ClassId) (x0 : Nat) (a0 : Nat) (a1 : Nat) (a2 : Nat) (a3 : Nat) (a4 : Nat) (a7 : Nat) (a8 : Nat) (a9 : Nat) (a10 : Nat) (n0 : Nat) (n1 : Nat) (n2 : Nat) (n3 : Nat) (q0 : Nat) (q1 : Nat) (r0 : Nat) (k0 : Nat) (x1 : Nat) (o0 : Nat) (h0 : Nat) (s0 : Nat) (d0 : Nat) (a5 : Nat) (a6 : Nat) (n4 : Nat) (p0 : Int32) (p1 : Int32) (p2 : Int32) (a_wares : Int32) (a_shelves : Int32) (a_nests : Int32) (a_lids : Int32) (a_tops : Int32) (n_askings : Int32) (n_cost : Int32) (n_laid : Int32) (q_size : Int32) (a_wide : Nat → Int32) (a_deep : Nat → Int32) (a_weight : Nat → Int32) (a_bears : Nat → Int32) (a_mayOn : Nat → Int32) (a_height : Nat → Int32) (a_reach : Nat → Int32) (a_room : Nat → Int32) (n_shelf : Nat → Int32) (n_stack : Nat → Int32) (n_level : Nat → Int32) (q_ware : Nat → Int32) (h_a_wares : 0 ≤ (a_wares).toInt ∧ (a_wares).toInt ≤ 12) (h_a_shelves : 0 ≤ (a_shelves).toInt ∧ (a_shelves).toInt ≤ 4) (h_a_nests : 0 ≤ (a_nests).toInt ∧ (a_nests).toInt ≤ 4) (h_n_askings : 0 ≤ (n_askings).toInt ∧ (n_askings).toInt ≤ 30) (h_n_laid : 0 ≤ (n_laid).toInt ∧ (n_laid).toInt ≤ 1) (h_q_size : 0 ≤ (q_size).toInt ∧ (q_size).toInt ≤ 12) (h_a_room : Iv 4 (0) (8) a_room) (h_n_shelf : Iv 12 (-1) (3) n_shelf) (h_n_stack : Iv 12 (0) (7) n_stack) (h_n_level : Iv 12 (0) (11) n_level) (h_q_ware : Iv 12 (0) (11) q_ware) : KK l D (TY cyC cyI cyJ cyZ cyO) yX10_put cX10_put 7 (some .int) ({ frames := 4, cells := 0, slots := 0, locals := 94 } : Room) 0 0 [.ref x0, .int p0, .int p1, .int p2] [(x0, .inr (10, [.ref r0, .ref a0, .ref n0, .ref k0, .ref x1, .ref q0, .ref o0, .ref h0, .ref s0, .ref d0])), (a0, .inr (9, [.int a_wares, .int a_shelves, .int a_nests, .ref a1, .ref a2, .ref a3, .ref a4, .ref a5, .ref a6, .int a_lids, .int a_tops, .ref a7, .ref a8, .ref a9, .ref a10])), (a1, .inl (cyI, 12, .inl a_wide)), (a2, .inl (cyI, 12, .inl a_deep)), (a3, .inl (cyI, 12, .inl a_weight)), (a4, .inl (cyI, 12, .inl a_bears)), (a7, .inl (cyI, 12, .inl a_mayOn)), (a8, .inl (cyI, 4, .inl a_height)), (a9, .inl (cyI, 4, .inl a_reach)), (a10, .inl (cyI, 4, .inl a_room)), (n0, .inr (7, [.ref n1, .ref n2, .ref n3, .ref n4, .int n_askings, .int n_cost, .int n_laid])), (n1, .inl (cyI, 12, .inl n_shelf)), (n2, .inl (cyI, 12, .inl n_stack)), (n3, .inl (cyI, 12, .inl n_level)), (q0, .inr (4, [.ref q1, .int q_size])), (q1, .inl (cyI, 12, .inl q_ware))] (fun u => some (.int (u.2.1 0))) (fun u => (0 ≤ (u.2.1 0).toInt ∧ (u.2.1 0).toInt ≤ 6) ∧ (Iv 12 (-1) (3) (u.2.2.1 0)) ∧ (Iv 12 (0) (7) (u.2.2.1 1)) ∧ (Iv 12 (0) (11) (u.2.2.1 2)) ∧ (0 ≤ (u.2.1 2).toInt ∧ (u.2.1 2).toInt ≤ 12) ∧ (Iv 12 (0) (11) (u.2.2.1 3)) ∧ (PUTR (OKP (p0).toInt (p1).toInt (p2).toInt (a_wares).toInt (a_shelves).toInt (stF n_shelf n_stack p1 12).toInt) ((n_shelf (p0).toInt.toNat).toInt = -1) ((p2).toInt = -1 ∧ (a_room (p1).toInt.toNat).toInt ≤ (stF n_shelf n_stack p1 12).toInt) (fun x => ∀ k : Int32, k.toInt = plc (p2).toInt (stF n_shelf n_stack p1 12).toInt → ∀ (r : Nat → Int32) (n : Nat), ROW n_shelf n_stack n_level p1 k r n → n ≤ 11 → RFZ (fun u l => BT (a_mayOn l) u) a_weight a_bears a_deep (rsC a_wide a_deep a_lids) (upd r n p0) (n + 1) (a_height (p1).toInt.toNat) x) (u.2.1 0).toInt) ∧ (IM ((u.2.1 0).toInt = 0) (∀ k : Int32, k.toInt = plc (p2).toInt (stF n_shelf n_stack p1 12).toInt → (u.2.2.1 0) = upd n_shelf (p0).toInt.toNat p1 ∧ (u.2.2.1 1) = upd n_stack (p0).toInt.toNat k ∧ (∀ j : Nat, ¬ j = (p0).toInt.toNat → (u.2.2.1 2) j = n_level j) ∧ ((u.2.2.1 2) (p0).toInt.toNat).toInt = ((cnB (std n_shelf n_stack p1 k) 12 : Nat) : Int))) ∧ (IM (¬ (u.2.1 0).toInt = 0) ((u.2.2.1 0) = n_shelf ∧ (u.2.2.1 1) = n_stack ∧ (u.2.2.1 2) = n_level))) (fun u => [(x0, .inr (10, [.ref r0, .ref a0, .ref n0, .ref k0, .ref x1, .ref q0, .ref o0, .ref h0, .ref s0, .ref d0])), (a0, .inr (9, [.int a_wares, .int a_shelves, .int a_nests, .ref a1, .ref a2, .ref a3, .ref a4, .ref a5, .ref a6, .int a_lids, .int a_tops, .ref a7, .ref a8, .ref a9, .ref a10])), (a1, .inl (cyI, 12, .inl a_wide)), (a2, .inl (cyI, 12, .inl a_deep)), (a3, .inl (cyI, 12, .inl a_weight)), (a4, .inl (cyI, 12, .inl a_bears)), (a7, .inl (cyI, 12, .inl a_mayOn)), (a8, .inl (cyI, 4, .inl a_height)), (a9, .inl (cyI, 4, .inl a_reach)), (a10, .inl (cyI, 4, .inl a_room)), (n0, .inr (7, [.ref n1, .ref n2, .ref n3, .ref n4, .int n_askings, .int (u.2.1 1), .int n_laid])), (n1, .inl (cyI, 12, .inl (u.2.2.1 0))), (n2, .inl (cyI, 12, .inl (u.2.2.1 1))), (n3, .inl (cyI, 12, .inl (u.2.2.1 2))), (q0, .inr (4, [.ref q1, .int (u.2.1 2)])), (q1, .inl (cyI, 12, .inl (u.2.2.1 3)))]) := by
  refine KK.of (lv0 := [(0, .ref x0), (1, .int p0), (2, .int p1), (3, .int p2)]) (by decide) rfl (Nat.le_of_ble_eq_true rfl) ?_
  intro p e s m args below meth c A C hr hk hin
  refine j_aload_n (pc := 0) C dX10_put_0 rfl 0 rfl ?_
  refine j_get (pc := 1) (ci := 10) (v := .ref a0) C inw_10 0 rfl rfl 1 (by decide) wd_447 rfl rfl dX10_put_1 ?_
  refine j_iload_n (pc := 4) C dX10_put_4 rfl 1 rfl ?_
  refine j_callV (pc := 5) (As := [.int p0]) (rest := []) (wr := [(x0, .inr (10, [.ref r0, .ref a0, .ref n0, .ref k0, .ref x1, .ref q0, .ref o0, .ref h0, .ref s0, .ref d0])), (a1, .inl (cyI, 12, .inl a_wide)), (a2, .inl (cyI, 12, .inl a_deep)), (a3, .inl (cyI, 12, .inl a_weight)), (a4, .inl (cyI, 12, .inl a_bears)), (a7, .inl (cyI, 12, .inl a_mayOn)), (a8, .inl (cyI, 4, .inl a_height)), (a9, .inl (cyI, 4, .inl a_reach)), (a10, .inl (cyI, 4, .inl a_room)), (n0, .inr (7, [.ref n1, .ref n2, .ref n3, .ref n4, .int n_askings, .int n_cost, .int n_laid])), (n1, .inl (cyI, 12, .inl n_shelf)), (n2, .inl (cyI, 12, .inl n_stack)), (n3, .inl (cyI, 12, .inl n_level)), (q0, .inr (4, [.ref q1, .int q_size])), (q1, .inl (cyI, 12, .inl q_ware))]) C (c_X9_isWare l D cyC cyI cyJ cyZ cyO a0 a1 a2 a3 a4 a5 a6 a7 a8 a9 a10 p0 a_wares a_shelves a_nests a_lids a_tops h_a_wares h_a_shelves h_a_nests) wd_467 wd_33 wd_468 wd_469 wd_470 ⟨by decide, by decide, rfl⟩ rfl ⟨rfl, rfl, by decide, by decide⟩ ⟨by decide, by decide⟩ [1] [0, 2, 3, 4, 5, 6, 7, 8, 9, 10, 11, 12, 13, 14, 15] rfl rfl ⟨by decide, by decide, by decide⟩ 1 rfl rfl rfl (Nat.le_of_ble_eq_true rfl) dX10_put_5 (fun u_1 hw_2 => ?_)
  refine j_eq (ws2 := [(x0, .inr (10, [.ref r0, .ref a0, .ref n0, .ref k0, .ref x1, .ref q0, .ref o0, .ref h0, .ref s0, .ref d0])), (a1, .inl (cyI, 12, .inl a_wide)), (a2, .inl (cyI, 12, .inl a_deep)), (a3, .inl (cyI, 12, .inl a_weight)), (a4, .inl (cyI, 12, .inl a_bears)), (a7, .inl (cyI, 12, .inl a_mayOn)), (a8, .inl (cyI, 4, .inl a_height)), (a9, .inl (cyI, 4, .inl a_reach)), (a10, .inl (cyI, 4, .inl a_room)), (n0, .inr (7, [.ref n1, .ref n2, .ref n3, .ref n4, .int n_askings, .int n_cost, .int n_laid])), (n1, .inl (cyI, 12, .inl n_shelf)), (n2, .inl (cyI, 12, .inl n_stack)), (n3, .inl (cyI, 12, .inl n_level)), (q0, .inr (4, [.ref q1, .int q_size])), (q1, .inl (cyI, 12, .inl q_ware)), (a0, .inr (9, [.int a_wares, .int a_shelves, .int a_nests, .ref a1, .ref a2, .ref a3, .ref a4, .ref a5, .ref a6, .int a_lids, .int a_tops, .ref a7, .ref a8, .ref a9, .ref a10]))]) (pc2 := 8) (lv2 := [(0, .ref x0), (1, .int p0), (2, .int p1), (3, .int p2)]) (st2 := [.int (u_1.2.1 0)]) rfl rfl rfl rfl ?_
  obtain ⟨hw_2_0, hw_2_1, hw_2_2⟩ := hw_2
  refine j_if_eq (pc := 8) (tgt := 22) C dX10_put_8 (by decide) (fun c_3 => ?_) (fun c_3 => ?_)
  · skip
    have el_0 : (0 : Int32).toInt = 0 := rfl
    rw [i_eq] at c_3
    refine j_iconst (pc := 22) (v := 1) C dX10_put_22 (by decide) ?_
    have el_1 : (1 : Int32).toInt = 1 := rfl
    have el_1 : (1 : Int32).toInt = 1 := rfl
    have el_1 : (1 : Int32).toInt = 1 := rfl
    have el_1 : (1 : Int32).toInt = 1 := rfl
    exact j_iret (pc := 23) C hr hk (fun i => [].getD i 0, fun i => [1, n_cost, q_size].getD i 0, fun i => [n_shelf, n_stack, n_level, q_ware].getD i (fun _ => 0), fun i => [].getD i (fun _ => 0)) rfl (show (0 ≤ ((1 : Int32)).toInt ∧ ((1 : Int32)).toInt ≤ 6) ∧ (Iv 12 (-1) (3) n_shelf) ∧ (Iv 12 (0) (7) n_stack) ∧ (Iv 12 (0) (11) n_level) ∧ (0 ≤ (q_size).toInt ∧ (q_size).toInt ≤ 12) ∧ (Iv 12 (0) (11) q_ware) ∧ (PUTR (OKP (p0).toInt (p1).toInt (p2).toInt (a_wares).toInt (a_shelves).toInt (stF n_shelf n_stack p1 12).toInt) ((n_shelf (p0).toInt.toNat).toInt = -1) ((p2).toInt = -1 ∧ (a_room (p1).toInt.toNat).toInt ≤ (stF n_shelf n_stack p1 12).toInt) (fun x => ∀ k : Int32, k.toInt = plc (p2).toInt (stF n_shelf n_stack p1 12).toInt → ∀ (r : Nat → Int32) (n : Nat), ROW n_shelf n_stack n_level p1 k r n → n ≤ 11 → RFZ (fun u l => BT (a_mayOn l) u) a_weight a_bears a_deep (rsC a_wide a_deep a_lids) (upd r n p0) (n + 1) (a_height (p1).toInt.toNat) x) (1 : Int32).toInt) ∧ (IM ((1 : Int32).toInt = 0) (∀ k : Int32, k.toInt = plc (p2).toInt (stF n_shelf n_stack p1 12).toInt → n_shelf = upd n_shelf (p0).toInt.toNat p1 ∧ n_stack = upd n_stack (p0).toInt.toNat k ∧ (∀ j : Nat, ¬ j = (p0).toInt.toNat → n_level j = n_level j) ∧ (n_level (p0).toInt.toNat).toInt = ((cnB (std n_shelf n_stack p1 k) 12 : Nat) : Int))) ∧ (IM (¬ (1 : Int32).toInt = 0) (n_shelf = n_shelf ∧ n_stack = n_stack ∧ n_level = n_level)) from ⟨by omega, h_n_shelf, h_n_stack, h_n_level, h_q_size, h_q_ware, (Or.inl ⟨rfl, fun z => by skip; obtain ⟨z1, z2, z3, z4⟩ := z; omega⟩), (fun z9 => absurd z9 (by decide)), (fun _ => ⟨rfl, rfl, rfl⟩)⟩) [0, 15, 1, 2, 3, 4, 5, 6, 7, 8, 9, 10, 11, 12, 13, 14] (by decide) rfl (by decide) (by decide) dX10_put_23
  · skip
    have el_0 : (0 : Int32).toInt = 0 := rfl
    rw [i_eq] at c_3
    have k0c_3 : ((u_1.2.1 0)).toInt = 1 := by omega
    refine j_aload_n (pc := 11) C dX10_put_11 rfl 0 rfl ?_
    refine j_get (pc := 12) (ci := 10) (v := .ref a0) C inw_10 0 rfl rfl 1 (by decide) wd_447 rfl rfl dX10_put_12 ?_
    refine j_iload_n (pc := 15) C dX10_put_15 rfl 2 rfl ?_
    refine j_callV (pc := 16) (As := [.int p1]) (rest := []) (wr := [(x0, .inr (10, [.ref r0, .ref a0, .ref n0, .ref k0, .ref x1, .ref q0, .ref o0, .ref h0, .ref s0, .ref d0])), (a1, .inl (cyI, 12, .inl a_wide)), (a2, .inl (cyI, 12, .inl a_deep)), (a3, .inl (cyI, 12, .inl a_weight)), (a4, .inl (cyI, 12, .inl a_bears)), (a7, .inl (cyI, 12, .inl a_mayOn)), (a8, .inl (cyI, 4, .inl a_height)), (a9, .inl (cyI, 4, .inl a_reach)), (a10, .inl (cyI, 4, .inl a_room)), (n0, .inr (7, [.ref n1, .ref n2, .ref n3, .ref n4, .int n_askings, .int n_cost, .int n_laid])), (n1, .inl (cyI, 12, .inl n_shelf)), (n2, .inl (cyI, 12, .inl n_stack)), (n3, .inl (cyI, 12, .inl n_level)), (q0, .inr (4, [.ref q1, .int q_size])), (q1, .inl (cyI, 12, .inl q_ware))]) C (c_X9_isShelf l D cyC cyI cyJ cyZ cyO a0 a1 a2 a3 a4 a5 a6 a7 a8 a9 a10 p1 a_wares a_shelves a_nests a_lids a_tops h_a_wares h_a_shelves h_a_nests) wd_462 wd_33 wd_463 wd_464 wd_465 ⟨by decide, by decide, rfl⟩ rfl ⟨rfl, rfl, by decide, by decide⟩ ⟨by decide, by decide⟩ [15] [0, 1, 2, 3, 4, 5, 6, 7, 8, 9, 10, 11, 12, 13, 14] rfl rfl ⟨by decide, by decide, by decide⟩ 15 rfl rfl rfl (Nat.le_of_ble_eq_true rfl) dX10_put_16 (fun u_4 hw_5 => ?_)
    refine j_eq (ws2 := [(x0, .inr (10, [.ref r0, .ref a0, .ref n0, .ref k0, .ref x1, .ref q0, .ref o0, .ref h0, .ref s0, .ref d0])), (a1, .inl (cyI, 12, .inl a_wide)), (a2, .inl (cyI, 12, .inl a_deep)), (a3, .inl (cyI, 12, .inl a_weight)), (a4, .inl (cyI, 12, .inl a_bears)), (a7, .inl (cyI, 12, .inl a_mayOn)), (a8, .inl (cyI, 4, .inl a_height)), (a9, .inl (cyI, 4, .inl a_reach)), (a10, .inl (cyI, 4, .inl a_room)), (n0, .inr (7, [.ref n1, .ref n2, .ref n3, .ref n4, .int n_askings, .int n_cost, .int n_laid])), (n1, .inl (cyI, 12, .inl n_shelf)), (n2, .inl (cyI, 12, .inl n_stack)), (n3, .inl (cyI, 12, .inl n_level)), (q0, .inr (4, [.ref q1, .int q_size])), (q1, .inl (cyI, 12, .inl q_ware)), (a0, .inr (9, [.int a_wares, .int a_shelves, .int a_nests, .ref a1, .ref a2, .ref a3, .ref a4, .ref a5, .ref a6, .int a_lids, .int a_tops, .ref a7, .ref a8, .ref a9, .ref a10]))]) (pc2 := 19) (lv2 := [(0, .ref x0), (1, .int p0), (2, .int p1), (3, .int p2)]) (st2 := [.int (u_4.2.1 0)]) rfl rfl rfl rfl ?_
    obtain ⟨hw_5_0, hw_5_1, hw_5_2⟩ := hw_5
    refine j_if_ne (pc := 19) (tgt := 24) C dX10_put_19 (by decide) (fun c_6 => ?_) (fun c_6 => ?_)
    · skip
      have el_0 : (0 : Int32).toInt = 0 := rfl
      rw [i_eq] at c_6
      have k0c_6 : ((u_4.2.1 0)).toInt = 1 := by omega
      refine j_aload_n (pc := 24) C dX10_put_24 rfl 0 rfl ?_
      refine j_get (pc := 25) (ci := 10) (v := .ref n0) C inw_10 0 rfl rfl 2 (by decide) wd_466 rfl rfl dX10_put_25 ?_
      refine j_iload_n (pc := 28) C dX10_put_28 rfl 2 rfl ?_
      refine j_callV (pc := 29) (As := [.int p1]) (rest := []) (wr := [(x0, .inr (10, [.ref r0, .ref a0, .ref n0, .ref k0, .ref x1, .ref q0, .ref o0, .ref h0, .ref s0, .ref d0])), (a1, .inl (cyI, 12, .inl a_wide)), (a2, .inl (cyI, 12, .inl a_deep)), (a3, .inl (cyI, 12, .inl a_weight)), (a4, .inl (cyI, 12, .inl a_bears)), (a7, .inl (cyI, 12, .inl a_mayOn)), (a8, .inl (cyI, 4, .inl a_height)), (a9, .inl (cyI, 4, .inl a_reach)), (a10, .inl (cyI, 4, .inl a_room)), (n3, .inl (cyI, 12, .inl n_level)), (q0, .inr (4, [.ref q1, .int q_size])), (q1, .inl (cyI, 12, .inl q_ware)), (a0, .inr (9, [.int a_wares, .int a_shelves, .int a_nests, .ref a1, .ref a2, .ref a3, .ref a4, .ref a5, .ref a6, .int a_lids, .int a_tops, .ref a7, .ref a8, .ref a9, .ref a10]))]) C (c_X7_stacks l D cyC cyI cyJ cyZ cyO n0 n1 n2 n3 n4 p1 n_askings n_cost n_laid n_shelf n_stack h_n_askings h_n_laid h_n_shelf h_n_stack) wd_66 wd_9 wd_437 wd_68 wd_69 ⟨by decide, by decide, rfl⟩ rfl ⟨rfl, rfl, by decide, by decide⟩ ⟨by decide, by decide⟩ [9, 10, 11] [0, 1, 2, 3, 4, 5, 6, 7, 8, 12, 13, 14, 15] rfl rfl ⟨by decide, by decide, by decide⟩ 9 rfl rfl rfl (Nat.le_of_ble_eq_true rfl) dX10_put_29 (fun u_7 hw_8 => ?_)
      refine j_eq (ws2 := [(x0, .inr (10, [.ref r0, .ref a0, .ref n0, .ref k0, .ref x1, .ref q0, .ref o0, .ref h0, .ref s0, .ref d0])), (a1, .inl (cyI, 12, .inl a_wide)), (a2, .inl (cyI, 12, .inl a_deep)), (a3, .inl (cyI, 12, .inl a_weight)), (a4, .inl (cyI, 12, .inl a_bears)), (a7, .inl (cyI, 12, .inl a_mayOn)), (a8, .inl (cyI, 4, .inl a_height)), (a9, .inl (cyI, 4, .inl a_reach)), (a10, .inl (cyI, 4, .inl a_room)), (n3, .inl (cyI, 12, .inl n_level)), (q0, .inr (4, [.ref q1, .int q_size])), (q1, .inl (cyI, 12, .inl q_ware)), (a0, .inr (9, [.int a_wares, .int a_shelves, .int a_nests, .ref a1, .ref a2, .ref a3, .ref a4, .ref a5, .ref a6, .int a_lids, .int a_tops, .ref a7, .ref a8, .ref a9, .ref a10])), (n0, .inr (7, [.ref n1, .ref n2, .ref n3, .ref n4, .int n_askings, .int n_cost, .int n_laid])), (n1, .inl (cyI, 12, .inl n_shelf)), (n2, .inl (cyI, 12, .inl n_stack))]) (pc2 := 32) (lv2 := [(0, .ref x0), (1, .int p0), (2, .int p1), (3, .int p2)]) (st2 := [.int (u_7.2.1 0)]) rfl rfl rfl rfl ?_
      obtain ⟨hw_8_0, hw_8_1⟩ := hw_8
      refine j_istore (pc := 32) (lv' := [(4, .int (u_7.2.1 0)), (0, .ref x0), (1, .int p0), (2, .int p1), (3, .int p2)]) C dX10_put_32 (by decide) rfl ?_
      refine j_iload_n (pc := 34) C dX10_put_34 rfl 4 rfl ?_
      refine j_iconst (pc := 35) (v := (-1)) C dX10_put_35 (by decide) ?_
      refine j_icmp_lt (pc := 36) (tgt := 45) C dX10_put_36 (by decide) (fun c_9 => ?_) (fun c_9 => ?_)
      · skip
        have el_m1 : ((-1) : Int32).toInt = (-1) := rfl
        rw [i_lt] at c_9
        refine j_iconst (pc := 45) (v := 1) C dX10_put_45 (by decide) ?_
        have el_1 : (1 : Int32).toInt = 1 := rfl
        have el_1 : (1 : Int32).toInt = 1 := rfl
        have el_1 : (1 : Int32).toInt = 1 := rfl
        have el_1 : (1 : Int32).toInt = 1 := rfl
        exact j_iret (pc := 46) C hr hk (fun i => [].getD i 0, fun i => [1, n_cost, q_size].getD i 0, fun i => [n_shelf, n_stack, n_level, q_ware].getD i (fun _ => 0), fun i => [].getD i (fun _ => 0)) rfl (show (0 ≤ ((1 : Int32)).toInt ∧ ((1 : Int32)).toInt ≤ 6) ∧ (Iv 12 (-1) (3) n_shelf) ∧ (Iv 12 (0) (7) n_stack) ∧ (Iv 12 (0) (11) n_level) ∧ (0 ≤ (q_size).toInt ∧ (q_size).toInt ≤ 12) ∧ (Iv 12 (0) (11) q_ware) ∧ (PUTR (OKP (p0).toInt (p1).toInt (p2).toInt (a_wares).toInt (a_shelves).toInt (stF n_shelf n_stack p1 12).toInt) ((n_shelf (p0).toInt.toNat).toInt = -1) ((p2).toInt = -1 ∧ (a_room (p1).toInt.toNat).toInt ≤ (stF n_shelf n_stack p1 12).toInt) (fun x => ∀ k : Int32, k.toInt = plc (p2).toInt (stF n_shelf n_stack p1 12).toInt → ∀ (r : Nat → Int32) (n : Nat), ROW n_shelf n_stack n_level p1 k r n → n ≤ 11 → RFZ (fun u l => BT (a_mayOn l) u) a_weight a_bears a_deep (rsC a_wide a_deep a_lids) (upd r n p0) (n + 1) (a_height (p1).toInt.toNat) x) (1 : Int32).toInt) ∧ (IM ((1 : Int32).toInt = 0) (∀ k : Int32, k.toInt = plc (p2).toInt (stF n_shelf n_stack p1 12).toInt → n_shelf = upd n_shelf (p0).toInt.toNat p1 ∧ n_stack = upd n_stack (p0).toInt.toNat k ∧ (∀ j : Nat, ¬ j = (p0).toInt.toNat → n_level j = n_level j) ∧ (n_level (p0).toInt.toNat).toInt = ((cnB (std n_shelf n_stack p1 k) 12 : Nat) : Int))) ∧ (IM (¬ (1 : Int32).toInt = 0) (n_shelf = n_shelf ∧ n_stack = n_stack ∧ n_level = n_level)) from ⟨by omega, h_n_shelf, h_n_stack, h_n_level, h_q_size, h_q_ware, (Or.inl ⟨rfl, fun z => by have y9 := congrArg Int32.toInt hw_8_1; obtain ⟨z1, z2, z3, z4⟩ := z; omega⟩), (fun z9 => absurd z9 (by decide)), (fun _ => ⟨rfl, rfl, rfl⟩)⟩) [0, 12, 1, 2, 3, 4, 5, 6, 7, 8, 13, 14, 15, 9, 10, 11] (by decide) rfl (by decide) (by decide) dX10_put_46
      · skip
        have el_m1 : ((-1) : Int32).toInt = (-1) := rfl
        rw [i_lt] at c_9
        refine j_iload_n (pc := 39) C dX10_put_39 rfl 4 rfl ?_
        refine j_iload (pc := 40) C dX10_put_40 0 rfl ?_
        refine j_icmp_lt (pc := 42) (tgt := 47) C dX10_put_42 (by decide) (fun c_10 => ?_) (fun c_10 => ?_)
        · skip
          rw [i_lt] at c_10
          refine j_aload_n (pc := 47) C dX10_put_47 rfl 1 rfl ?_
          refine j_get (pc := 48) (ci := 10) (v := .ref n0) C inw_10 0 rfl rfl 2 (by decide) wd_466 rfl rfl dX10_put_48 ?_
          refine j_iload_n (pc := 51) C dX10_put_51 rfl 2 rfl ?_
          refine j_callV (pc := 52) (As := [.int p0]) (rest := []) (wr := [(x0, .inr (10, [.ref r0, .ref a0, .ref n0, .ref k0, .ref x1, .ref q0, .ref o0, .ref h0, .ref s0, .ref d0])), (a1, .inl (cyI, 12, .inl a_wide)), (a2, .inl (cyI, 12, .inl a_deep)), (a3, .inl (cyI, 12, .inl a_weight)), (a4, .inl (cyI, 12, .inl a_bears)), (a7, .inl (cyI, 12, .inl a_mayOn)), (a8, .inl (cyI, 4, .inl a_height)), (a9, .inl (cyI, 4, .inl a_reach)), (a10, .inl (cyI, 4, .inl a_room)), (n3, .inl (cyI, 12, .inl n_level)), (q0, .inr (4, [.ref q1, .int q_size])), (q1, .inl (cyI, 12, .inl q_ware)), (a0, .inr (9, [.int a_wares, .int a_shelves, .int a_nests, .ref a1, .ref a2, .ref a3, .ref a4, .ref a5, .ref a6, .int a_lids, .int a_tops, .ref a7, .ref a8, .ref a9, .ref a10])), (n2, .inl (cyI, 12, .inl n_stack))]) C (c_X7_isOut l D cyC cyI cyJ cyZ cyO n0 n1 n2 n3 n4 p0 n_askings n_cost n_laid n_shelf h_n_askings h_n_laid (by omega) h_n_shelf) wd_13 wd_9 wd_480 wd_15 wd_16 ⟨by decide, by decide, rfl⟩ rfl ⟨rfl, rfl, by decide, by decide⟩ ⟨by decide, by decide⟩ [13, 14] [0, 1, 2, 3, 4, 5, 6, 7, 8, 9, 10, 11, 12, 15] rfl rfl ⟨by decide, by decide, by decide⟩ 13 rfl rfl rfl (Nat.le_of_ble_eq_true rfl) dX10_put_52 (fun u_11 hw_12 => ?_)
          refine j_eq (ws2 := [(x0, .inr (10, [.ref r0, .ref a0, .ref n0, .ref k0, .ref x1, .ref q0, .ref o0, .ref h0, .ref s0, .ref d0])), (a1, .inl (cyI, 12, .inl a_wide)), (a2, .inl (cyI, 12, .inl a_deep)), (a3, .inl (cyI, 12, .inl a_weight)), (a4, .inl (cyI, 12, .inl a_bears)), (a7, .inl (cyI, 12, .inl a_mayOn)), (a8, .inl (cyI, 4, .inl a_height)), (a9, .inl (cyI, 4, .inl a_reach)), (a10, .inl (cyI, 4, .inl a_room)), (n3, .inl (cyI, 12, .inl n_level)), (q0, .inr (4, [.ref q1, .int q_size])), (q1, .inl (cyI, 12, .inl q_ware)), (a0, .inr (9, [.int a_wares, .int a_shelves, .int a_nests, .ref a1, .ref a2, .ref a3, .ref a4, .ref a5, .ref a6, .int a_lids, .int a_tops, .ref a7, .ref a8, .ref a9, .ref a10])), (n2, .inl (cyI, 12, .inl n_stack)), (n0, .inr (7, [.ref n1, .ref n2, .ref n3, .ref n4, .int n_askings, .int n_cost, .int n_laid])), (n1, .inl (cyI, 12, .inl n_shelf))]) (pc2 := 55) (lv2 := [(4, .int (u_7.2.1 0)), (0, .ref x0), (1, .int p0), (2, .int p1), (3, .int p2)]) (st2 := [.int (u_11.2.1 0)]) rfl rfl rfl rfl ?_
          obtain ⟨hw_12_0, hw_12_1, hw_12_2⟩ := hw_12
          refine j_if_ne (pc := 55) (tgt := 60) C dX10_put_55 (by decide) (fun c_13 => ?_) (fun c_13 => ?_)
          · skip
            have el_0 : (0 : Int32).toInt = 0 := rfl
            rw [i_eq] at c_13
            have k0c_13 : ((u_11.2.1 0)).toInt = 1 := by omega
            refine j_iload_n (pc := 60) C dX10_put_60 rfl 4 rfl ?_
            refine j_iconst (pc := 61) (v := (-1)) C dX10_put_61 (by decide) ?_
            refine j_icmp_ne (pc := 62) (tgt := 70) C dX10_put_62 (by decide) (fun c_14 => ?_) (fun c_14 => ?_)
            · skip
              have el_m1 : ((-1) : Int32).toInt = (-1) := rfl
              rw [i_eq] at c_14
              refine j_iload_n (pc := 70) C dX10_put_70 rfl 4 rfl ?_
              refine j_istore (pc := 71) (lv' := [(5, .int p2), (4, .int (u_7.2.1 0)), (0, .ref x0), (1, .int p0), (2, .int p1), (3, .int p2)]) C dX10_put_71 (by decide) rfl ?_
              refine j_aload_n (pc := 73) C dX10_put_73 rfl 2 rfl ?_
              refine j_aload_n (pc := 74) C dX10_put_74 rfl 2 rfl ?_
              refine j_get (pc := 75) (ci := 10) (v := .ref n0) C inw_10 0 rfl rfl 2 (by decide) wd_466 rfl rfl dX10_put_75 ?_
              refine j_iload_n (pc := 78) C dX10_put_78 rfl 3 rfl ?_
              refine j_iload_n (pc := 79) C dX10_put_79 rfl 4 rfl ?_
              refine j_iload (pc := 80) C dX10_put_80 0 rfl ?_
              refine j_callV (pc := 82) (As := [.ref n0, .int p0, .int p1, .int p2]) (rest := []) (wr := [(a9, .inl (cyI, 4, .inl a_reach))]) C (c_X10_refusal l D cyC cyI cyJ cyZ cyO x0 a0 a1 a2 a3 a4 a7 a8 a10 q0 q1 n0 n1 n2 n3 r0 n0 k0 x1 o0 h0 s0 d0 a5 a6 a9 n4 p0 p1 p2 a_wares a_shelves a_nests a_lids a_tops q_size n_askings n_cost n_laid a_wide a_deep a_weight a_bears a_mayOn a_height a_room q_ware n_shelf n_stack n_level h_a_wares h_a_shelves h_a_nests h_q_size h_n_askings h_n_laid (by omega) (by omega) (by omega) h_a_room h_q_ware h_n_shelf h_n_stack h_n_level (by have h9 := congrArg Int32.toInt hw_8_1; omega)) wd_481 wd_482 wd_483 wd_484 wd_485 ⟨by decide, by decide, rfl⟩ rfl ⟨rfl, rfl, by decide, by decide⟩ ⟨by decide, by decide⟩ [0, 12, 1, 2, 3, 4, 5, 6, 8, 10, 11, 14, 15, 13, 9] [7] rfl rfl ⟨by decide, by decide, by decide⟩ 0 rfl rfl rfl (Nat.le_of_ble_eq_true rfl) dX10_put_82 (fun u_15 hw_16 => ?_)
              refine j_eq (ws2 := [(a9, .inl (cyI, 4, .inl a_reach)), (x0, .inr (10, [.ref r0, .ref a0, .ref n0, .ref k0, .ref x1, .ref q0, .ref o0, .ref h0, .ref s0, .ref d0])), (a0, .inr (9, [.int a_wares, .int a_shelves, .int a_nests, .ref a1, .ref a2, .ref a3, .ref a4, .ref a5, .ref a6, .int a_lids, .int a_tops, .ref a7, .ref a8, .ref a9, .ref a10])), (a1, .inl (cyI, 12, .inl a_wide)), (a2, .inl (cyI, 12, .inl a_deep)), (a3, .inl (cyI, 12, .inl a_weight)), (a4, .inl (cyI, 12, .inl a_bears)), (a7, .inl (cyI, 12, .inl a_mayOn)), (a8, .inl (cyI, 4, .inl a_height)), (a10, .inl (cyI, 4, .inl a_room)), (q0, .inr (4, [.ref q1, .int (u_15.2.1 1)])), (q1, .inl (cyI, 12, .inl (u_15.2.2.1 0))), (n0, .inr (7, [.ref n1, .ref n2, .ref n3, .ref n4, .int n_askings, .int n_cost, .int n_laid])), (n1, .inl (cyI, 12, .inl n_shelf)), (n2, .inl (cyI, 12, .inl n_stack)), (n3, .inl (cyI, 12, .inl n_level))]) (pc2 := 85) (lv2 := [(5, .int p2), (4, .int (u_7.2.1 0)), (0, .ref x0), (1, .int p0), (2, .int p1), (3, .int p2)]) (st2 := [.int (u_15.2.1 0)]) rfl rfl rfl rfl ?_
              obtain ⟨hw_16_0, hw_16_1, hw_16_2, hw_16_3, hw_16_4⟩ := hw_16
              refine j_istore (pc := 85) (lv' := [(6, .int (u_15.2.1 0)), (5, .int p2), (4, .int (u_7.2.1 0)), (0, .ref x0), (1, .int p0), (2, .int p1), (3, .int p2)]) C dX10_put_85 (by decide) rfl ?_
              refine j_iload (pc := 87) C dX10_put_87 0 rfl ?_
              refine j_if_ne (pc := 89) (tgt := 134) C dX10_put_89 (by decide) (fun c_17 => ?_) (fun c_17 => ?_)
              · skip
                have el_0 : (0 : Int32).toInt = 0 := rfl
                rw [i_eq] at c_17
                refine j_iload (pc := 134) C dX10_put_134 0 rfl ?_
                exact j_iret (pc := 136) C hr hk (fun i => [].getD i 0, fun i => [(u_15.2.1 0), n_cost, (u_15.2.1 1)].getD i 0, fun i => [n_shelf, n_stack, n_level, (u_15.2.2.1 0)].getD i (fun _ => 0), fun i => [].getD i (fun _ => 0)) rfl (show (0 ≤ ((u_15.2.1 0)).toInt ∧ ((u_15.2.1 0)).toInt ≤ 6) ∧ (Iv 12 (-1) (3) n_shelf) ∧ (Iv 12 (0) (7) n_stack) ∧ (Iv 12 (0) (11) n_level) ∧ (0 ≤ ((u_15.2.1 1)).toInt ∧ ((u_15.2.1 1)).toInt ≤ 12) ∧ (Iv 12 (0) (11) (u_15.2.2.1 0)) ∧ (PUTR (OKP (p0).toInt (p1).toInt (p2).toInt (a_wares).toInt (a_shelves).toInt (stF n_shelf n_stack p1 12).toInt) ((n_shelf (p0).toInt.toNat).toInt = -1) ((p2).toInt = -1 ∧ (a_room (p1).toInt.toNat).toInt ≤ (stF n_shelf n_stack p1 12).toInt) (fun x => ∀ k : Int32, k.toInt = plc (p2).toInt (stF n_shelf n_stack p1 12).toInt → ∀ (r : Nat → Int32) (n : Nat), ROW n_shelf n_stack n_level p1 k r n → n ≤ 11 → RFZ (fun u l => BT (a_mayOn l) u) a_weight a_bears a_deep (rsC a_wide a_deep a_lids) (upd r n p0) (n + 1) (a_height (p1).toInt.toNat) x) (u_15.2.1 0).toInt) ∧ (IM ((u_15.2.1 0).toInt = 0) (∀ k : Int32, k.toInt = plc (p2).toInt (stF n_shelf n_stack p1 12).toInt → n_shelf = upd n_shelf (p0).toInt.toNat p1 ∧ n_stack = upd n_stack (p0).toInt.toNat k ∧ (∀ j : Nat, ¬ j = (p0).toInt.toNat → n_level j = n_level j) ∧ (n_level (p0).toInt.toNat).toInt = ((cnB (std n_shelf n_stack p1 k) 12 : Nat) : Int))) ∧ (IM (¬ (u_15.2.1 0).toInt = 0) (n_shelf = n_shelf ∧ n_stack = n_stack ∧ n_level = n_level)) from ⟨hw_16_0, h_n_shelf, h_n_stack, h_n_level, hw_16_1, hw_16_2, (Or.inr ⟨(show (OKP (p0).toInt (p1).toInt (p2).toInt (a_wares).toInt (a_shelves).toInt (stF n_shelf n_stack p1 12).toInt) from ⟨⟨by omega, by omega⟩, ⟨by omega, by omega⟩, by omega, by (have y9 := congrArg Int32.toInt hw_8_1; omega)⟩), Or.inr ⟨(by rcases hw_12_1 with h | h; (exfalso; omega); (rw [h]; rfl)), by have y9 := congrArg Int32.toInt hw_8_1; have yp : plc (p2).toInt (stF n_shelf n_stack p1 12).toInt = (p2).toInt := if_neg (by omega); rcases hw_16_4 with ⟨a9, b9⟩ | ⟨a9, b9⟩; (exact Or.inl ⟨a9, ⟨by have b1 := b9.1; omega, by have b1 := b9.1; have b2 := b9.2; omega⟩⟩); (exact Or.inr ⟨fun z => a9 ⟨by have z1 := z.1; omega, by have z1 := z.1; have z2 := z.2; omega⟩, fun k hk r n hR h11 => by rw [show k = p2 from (i_eq _ _).mpr (by omega)] at hR; exact b9 r n hR h11⟩)⟩⟩), (fun z9 => by exfalso; omega), (fun _ => ⟨rfl, rfl, rfl⟩)⟩) [1, 2, 3, 4, 5, 6, 7, 8, 0, 9, 12, 13, 14, 15, 10, 11] (by decide) rfl (by decide) (by decide) dX10_put_136
              · skip
                have el_0 : (0 : Int32).toInt = 0 := rfl
                rw [i_eq] at c_17
                refine j_aload_n (pc := 92) C dX10_put_92 rfl 3 rfl ?_
                refine j_get (pc := 93) (ci := 10) (v := .ref n0) C inw_10 1 rfl rfl 2 (by decide) wd_466 rfl rfl dX10_put_93 ?_
                refine j_dup (pc := 96) C dX10_put_96 rfl ?_
                refine j_get (pc := 97) (ci := 7) (v := .int n_cost) C inw_7 12 rfl rfl 5 (by decide) wd_486 rfl rfl dX10_put_97 ?_
                refine j_aload_n (pc := 100) C dX10_put_100 rfl 3 rfl ?_
                refine j_get (pc := 101) (ci := 10) (v := .ref a0) C inw_10 1 rfl rfl 1 (by decide) wd_447 rfl rfl dX10_put_101 ?_
                refine j_get (pc := 104) (ci := 9) (v := .ref a3) C inw_9 2 rfl rfl 5 (by decide) wd_473 rfl rfl dX10_put_104 ?_
                refine j_iload_n (pc := 107) C dX10_put_107 rfl 4 rfl ?_
                obtain ⟨v_18, ev_18⟩ : ∃ z, a_weight (p0).toInt.toNat = z := ⟨_, rfl⟩
                have env_18 : (a_weight (p0).toInt.toNat).toInt = v_18.toInt := by rw [ev_18]
                refine j_iald (pc := 108) (v := v_18) (k := (p0).toInt.toNat) C 5 1 rfl rfl (i_nn (by omega)) rfl (i_lt_n (by omega) (by omega)) ev_18 dX10_put_108 ?_
                refine j_aload_n (pc := 109) C dX10_put_109 rfl 3 rfl ?_
                refine j_get (pc := 110) (ci := 10) (v := .ref a0) C inw_10 1 rfl rfl 1 (by decide) wd_447 rfl rfl dX10_put_110 ?_
                refine j_get (pc := 113) (ci := 9) (v := .ref a9) C inw_9 2 rfl rfl 13 (by decide) wd_457 rfl rfl dX10_put_113 ?_
                refine j_iload_n (pc := 116) C dX10_put_116 rfl 5 rfl ?_
                obtain ⟨v_19, ev_19⟩ : ∃ z, a_reach (p1).toInt.toNat = z := ⟨_, rfl⟩
                have env_19 : (a_reach (p1).toInt.toNat).toInt = v_19.toInt := by rw [ev_19]
                refine j_iald (pc := 117) (v := v_19) (k := (p1).toInt.toNat) C 0 1 rfl rfl (i_nn (by omega)) rfl (i_lt_n (by omega) (by omega)) ev_19 dX10_put_117 ?_
                obtain ⟨v_20, ev_20⟩ : ∃ z : Int32, v_18 + v_19 = z := ⟨_, rfl⟩
                refine j_iadd (pc := 118) (v := v_20) C dX10_put_118 ev_20 ?_
                obtain ⟨v_21, ev_21⟩ : ∃ z : Int32, n_cost + v_20 = z := ⟨_, rfl⟩
                refine j_iadd (pc := 119) (v := v_21) C dX10_put_119 ev_21 ?_
                refine j_put (pc := 120) (ci := 7) (v := .int v_21) (ws' := [(a9, .inl (cyI, 4, .inl a_reach)), (x0, .inr (10, [.ref r0, .ref a0, .ref n0, .ref k0, .ref x1, .ref q0, .ref o0, .ref h0, .ref s0, .ref d0])), (a0, .inr (9, [.int a_wares, .int a_shelves, .int a_nests, .ref a1, .ref a2, .ref a3, .ref a4, .ref a5, .ref a6, .int a_lids, .int a_tops, .ref a7, .ref a8, .ref a9, .ref a10])), (a1, .inl (cyI, 12, .inl a_wide)), (a2, .inl (cyI, 12, .inl a_deep)), (a3, .inl (cyI, 12, .inl a_weight)), (a4, .inl (cyI, 12, .inl a_bears)), (a7, .inl (cyI, 12, .inl a_mayOn)), (a8, .inl (cyI, 4, .inl a_height)), (a10, .inl (cyI, 4, .inl a_room)), (q0, .inr (4, [.ref q1, .int (u_15.2.1 1)])), (q1, .inl (cyI, 12, .inl (u_15.2.2.1 0))), (n0, .inr (7, [.ref n1, .ref n2, .ref n3, .ref n4, .int n_askings, .int v_21, .int n_laid])), (n1, .inl (cyI, 12, .inl n_shelf)), (n2, .inl (cyI, 12, .inl n_stack)), (n3, .inl (cyI, 12, .inl n_level))]) C inw_7 12 rfl rfl 5 (by decide) wd_486 rfl tyX7_ok nmX7 rfl (tyX7_ok 5 (by decide)) rfl rfl (Nat.le_of_ble_eq_true rfl) dX10_put_120 rfl ?_
                refine j_aload_n (pc := 123) C dX10_put_123 rfl 3 rfl ?_
                refine j_get (pc := 124) (ci := 10) (v := .ref n0) C inw_10 1 rfl rfl 2 (by decide) wd_466 rfl rfl dX10_put_124 ?_
                refine j_iload_n (pc := 127) C dX10_put_127 rfl 4 rfl ?_
                refine j_iload_n (pc := 128) C dX10_put_128 rfl 5 rfl ?_
                refine j_iload (pc := 129) C dX10_put_129 1 rfl ?_
                refine j_callV (pc := 131) (As := [.int p0, .int p1, .int p2]) (rest := []) (wr := [(a9, .inl (cyI, 4, .inl a_reach)), (x0, .inr (10, [.ref r0, .ref a0, .ref n0, .ref k0, .ref x1, .ref q0, .ref o0, .ref h0, .ref s0, .ref d0])), (a0, .inr (9, [.int a_wares, .int a_shelves, .int a_nests, .ref a1, .ref a2, .ref a3, .ref a4, .ref a5, .ref a6, .int a_lids, .int a_tops, .ref a7, .ref a8, .ref a9, .ref a10])), (a1, .inl (cyI, 12, .inl a_wide)), (a2, .inl (cyI, 12, .inl a_deep)), (a3, .inl (cyI, 12, .inl a_weight)), (a4, .inl (cyI, 12, .inl a_bears)), (a7, .inl (cyI, 12, .inl a_mayOn)), (a8, .inl (cyI, 4, .inl a_height)), (a10, .inl (cyI, 4, .inl a_room)), (q0, .inr (4, [.ref q1, .int (u_15.2.1 1)])), (q1, .inl (cyI, 12, .inl (u_15.2.2.1 0)))]) C (c_X7_add l D cyC cyI cyJ cyZ cyO n0 n1 n2 n3 n4 p0 p1 p2 n_askings v_21 n_laid n_shelf n_stack n_level h_n_askings h_n_laid (by omega) (by omega) (by omega) h_n_shelf h_n_stack h_n_level (by rcases hw_12_1 with h | h; (exfalso; omega); exact h)) wd_487 wd_9 wd_488 wd_489 wd_490 ⟨by decide, by decide, rfl⟩ rfl ⟨rfl, rfl, by decide, by decide⟩ ⟨by decide, by decide⟩ [12, 13, 14, 15] [0, 1, 2, 3, 4, 5, 6, 7, 8, 9, 10, 11] rfl rfl ⟨by decide, by decide, by decide⟩ 12 rfl rfl rfl (Nat.le_of_ble_eq_true rfl) dX10_put_131 (fun u_22 hw_23 => ?_)
                refine j_eq (ws2 := [(a9, .inl (cyI, 4, .inl a_reach)), (x0, .inr (10, [.ref r0, .ref a0, .ref n0, .ref k0, .ref x1, .ref q0, .ref o0, .ref h0, .ref s0, .ref d0])), (a0, .inr (9, [.int a_wares, .int a_shelves, .int a_nests, .ref a1, .ref a2, .ref a3, .ref a4, .ref a5, .ref a6, .int a_lids, .int a_tops, .ref a7, .ref a8, .ref a9, .ref a10])), (a1, .inl (cyI, 12, .inl a_wide)), (a2, .inl (cyI, 12, .inl a_deep)), (a3, .inl (cyI, 12, .inl a_weight)), (a4, .inl (cyI, 12, .inl a_bears)), (a7, .inl (cyI, 12, .inl a_mayOn)), (a8, .inl (cyI, 4, .inl a_height)), (a10, .inl (cyI, 4, .inl a_room)), (q0, .inr (4, [.ref q1, .int (u_15.2.1 1)])), (q1, .inl (cyI, 12, .inl (u_15.2.2.1 0))), (n0, .inr (7, [.ref n1, .ref n2, .ref n3, .ref n4, .int n_askings, .int v_21, .int n_laid])), (n1, .inl (cyI, 12, .inl (u_22.2.2.1 0))), (n2, .inl (cyI, 12, .inl (u_22.2.2.1 1))), (n3, .inl (cyI, 12, .inl (u_22.2.2.1 2)))]) (pc2 := 134) (lv2 := [(6, .int (u_15.2.1 0)), (5, .int p2), (4, .int (u_7.2.1 0)), (0, .ref x0), (1, .int p0), (2, .int p1), (3, .int p2)]) (st2 := []) rfl rfl rfl rfl ?_
                obtain ⟨hw_23_0, hw_23_1, hw_23_2, hw_23_3, hw_23_4, hw_23_5, hw_23_6⟩ := hw_23
                refine j_iload (pc := 134) C dX10_put_134 0 rfl ?_
                exact j_iret (pc := 136) C hr hk (fun i => [].getD i 0, fun i => [(u_15.2.1 0), v_21, (u_15.2.1 1)].getD i 0, fun i => [(u_22.2.2.1 0), (u_22.2.2.1 1), (u_22.2.2.1 2), (u_15.2.2.1 0)].getD i (fun _ => 0), fun i => [].getD i (fun _ => 0)) rfl (show (0 ≤ ((u_15.2.1 0)).toInt ∧ ((u_15.2.1 0)).toInt ≤ 6) ∧ (Iv 12 (-1) (3) (u_22.2.2.1 0)) ∧ (Iv 12 (0) (7) (u_22.2.2.1 1)) ∧ (Iv 12 (0) (11) (u_22.2.2.1 2)) ∧ (0 ≤ ((u_15.2.1 1)).toInt ∧ ((u_15.2.1 1)).toInt ≤ 12) ∧ (Iv 12 (0) (11) (u_15.2.2.1 0)) ∧ (PUTR (OKP (p0).toInt (p1).toInt (p2).toInt (a_wares).toInt (a_shelves).toInt (stF n_shelf n_stack p1 12).toInt) ((n_shelf (p0).toInt.toNat).toInt = -1) ((p2).toInt = -1 ∧ (a_room (p1).toInt.toNat).toInt ≤ (stF n_shelf n_stack p1 12).toInt) (fun x => ∀ k : Int32, k.toInt = plc (p2).toInt (stF n_shelf n_stack p1 12).toInt → ∀ (r : Nat → Int32) (n : Nat), ROW n_shelf n_stack n_level p1 k r n → n ≤ 11 → RFZ (fun u l => BT (a_mayOn l) u) a_weight a_bears a_deep (rsC a_wide a_deep a_lids) (upd r n p0) (n + 1) (a_height (p1).toInt.toNat) x) (u_15.2.1 0).toInt) ∧ (IM ((u_15.2.1 0).toInt = 0) (∀ k : Int32, k.toInt = plc (p2).toInt (stF n_shelf n_stack p1 12).toInt → (u_22.2.2.1 0) = upd n_shelf (p0).toInt.toNat p1 ∧ (u_22.2.2.1 1) = upd n_stack (p0).toInt.toNat k ∧ (∀ j : Nat, ¬ j = (p0).toInt.toNat → (u_22.2.2.1 2) j = n_level j) ∧ ((u_22.2.2.1 2) (p0).toInt.toNat).toInt = ((cnB (std n_shelf n_stack p1 k) 12 : Nat) : Int))) ∧ (IM (¬ (u_15.2.1 0).toInt = 0) ((u_22.2.2.1 0) = n_shelf ∧ (u_22.2.2.1 1) = n_stack ∧ (u_22.2.2.1 2) = n_level)) from ⟨hw_16_0, hw_23_0, hw_23_1, hw_23_2, hw_16_1, hw_16_2, (Or.inr ⟨(show (OKP (p0).toInt (p1).toInt (p2).toInt (a_wares).toInt (a_shelves).toInt (stF n_shelf n_stack p1 12).toInt) from ⟨⟨by omega, by omega⟩, ⟨by omega, by omega⟩, by omega, by (have y9 := congrArg Int32.toInt hw_8_1; omega)⟩), Or.inr ⟨(by rcases hw_12_1 with h | h; (exfalso; omega); (rw [h]; rfl)), by have y9 := congrArg Int32.toInt hw_8_1; have yp : plc (p2).toInt (stF n_shelf n_stack p1 12).toInt = (p2).toInt := if_neg (by omega); rcases hw_16_4 with ⟨a9, b9⟩ | ⟨a9, b9⟩; (exact Or.inl ⟨a9, ⟨by have b1 := b9.1; omega, by have b1 := b9.1; have b2 := b9.2; omega⟩⟩); (exact Or.inr ⟨fun z => a9 ⟨by have z1 := z.1; omega, by have z1 := z.1; have z2 := z.2; omega⟩, fun k hk r n hR h11 => by rw [show k = p2 from (i_eq _ _).mpr (by omega)] at hR; exact b9 r n hR h11⟩)⟩⟩), (fun _ k hk => by have y9 := congrArg Int32.toInt hw_8_1; have yp : plc (p2).toInt (stF n_shelf n_stack p1 12).toInt = (p2).toInt := if_neg (by omega); rw [show k = p2 from (i_eq _ _).mpr (by omega)]; exact ⟨hw_23_3, hw_23_4, hw_23_5, hw_23_6⟩), (fun z9 => by exfalso; omega)⟩) [1, 2, 3, 4, 5, 6, 7, 8, 0, 9, 12, 13, 14, 15, 10, 11] (by decide) rfl (by decide) (by decide) dX10_put_136
            · skip
              have el_m1 : ((-1) : Int32).toInt = (-1) := rfl
              rw [i_eq] at c_14
              refine j_iload (pc := 65) C dX10_put_65 0 rfl ?_
              refine j_goto (pc := 67) (tgt := 71) C dX10_put_67 (by decide) ?_
              refine j_istore (pc := 71) (lv' := [(5, .int (u_7.2.1 0)), (4, .int (u_7.2.1 0)), (0, .ref x0), (1, .int p0), (2, .int p1), (3, .int p2)]) C dX10_put_71 (by decide) rfl ?_
              refine j_aload_n (pc := 73) C dX10_put_73 rfl 2 rfl ?_
              refine j_aload_n (pc := 74) C dX10_put_74 rfl 2 rfl ?_
              refine j_get (pc := 75) (ci := 10) (v := .ref n0) C inw_10 0 rfl rfl 2 (by decide) wd_466 rfl rfl dX10_put_75 ?_
              refine j_iload_n (pc := 78) C dX10_put_78 rfl 3 rfl ?_
              refine j_iload_n (pc := 79) C dX10_put_79 rfl 4 rfl ?_
              refine j_iload (pc := 80) C dX10_put_80 0 rfl ?_
              refine j_callV (pc := 82) (As := [.ref n0, .int p0, .int p1, .int (u_7.2.1 0)]) (rest := []) (wr := [(a9, .inl (cyI, 4, .inl a_reach))]) C (c_X10_refusal l D cyC cyI cyJ cyZ cyO x0 a0 a1 a2 a3 a4 a7 a8 a10 q0 q1 n0 n1 n2 n3 r0 n0 k0 x1 o0 h0 s0 d0 a5 a6 a9 n4 p0 p1 (u_7.2.1 0) a_wares a_shelves a_nests a_lids a_tops q_size n_askings n_cost n_laid a_wide a_deep a_weight a_bears a_mayOn a_height a_room q_ware n_shelf n_stack n_level h_a_wares h_a_shelves h_a_nests h_q_size h_n_askings h_n_laid (by omega) (by omega) hw_8_0 h_a_room h_q_ware h_n_shelf h_n_stack h_n_level (by have h9 := congrArg Int32.toInt hw_8_1; omega)) wd_481 wd_482 wd_483 wd_484 wd_485 ⟨by decide, by decide, rfl⟩ rfl ⟨rfl, rfl, by decide, by decide⟩ ⟨by decide, by decide⟩ [0, 12, 1, 2, 3, 4, 5, 6, 8, 10, 11, 14, 15, 13, 9] [7] rfl rfl ⟨by decide, by decide, by decide⟩ 0 rfl rfl rfl (Nat.le_of_ble_eq_true rfl) dX10_put_82 (fun u_24 hw_25 => ?_)
              refine j_eq (ws2 := [(a9, .inl (cyI, 4, .inl a_reach)), (x0, .inr (10, [.ref r0, .ref a0, .ref n0, .ref k0, .ref x1, .ref q0, .ref o0, .ref h0, .ref s0, .ref d0])), (a0, .inr (9, [.int a_wares, .int a_shelves, .int a_nests, .ref a1, .ref a2, .ref a3, .ref a4, .ref a5, .ref a6, .int a_lids, .int a_tops, .ref a7, .ref a8, .ref a9, .ref a10])), (a1, .inl (cyI, 12, .inl a_wide)), (a2, .inl (cyI, 12, .inl a_deep)), (a3, .inl (cyI, 12, .inl a_weight)), (a4, .inl (cyI, 12, .inl a_bears)), (a7, .inl (cyI, 12, .inl a_mayOn)), (a8, .inl (cyI, 4, .inl a_height)), (a10, .inl (cyI, 4, .inl a_room)), (q0, .inr (4, [.ref q1, .int (u_24.2.1 1)])), (q1, .inl (cyI, 12, .inl (u_24.2.2.1 0))), (n0, .inr (7, [.ref n1, .ref n2, .ref n3, .ref n4, .int n_askings, .int n_cost, .int n_laid])), (n1, .inl (cyI, 12, .inl n_shelf)), (n2, .inl (cyI, 12, .inl n_stack)), (n3, .inl (cyI, 12, .inl n_level))]) (pc2 := 85) (lv2 := [(5, .int (u_7.2.1 0)), (4, .int (u_7.2.1 0)), (0, .ref x0), (1, .int p0), (2, .int p1), (3, .int p2)]) (st2 := [.int (u_24.2.1 0)]) rfl rfl rfl rfl ?_
              obtain ⟨hw_25_0, hw_25_1, hw_25_2, hw_25_3, hw_25_4⟩ := hw_25
              refine j_istore (pc := 85) (lv' := [(6, .int (u_24.2.1 0)), (5, .int (u_7.2.1 0)), (4, .int (u_7.2.1 0)), (0, .ref x0), (1, .int p0), (2, .int p1), (3, .int p2)]) C dX10_put_85 (by decide) rfl ?_
              refine j_iload (pc := 87) C dX10_put_87 0 rfl ?_
              refine j_if_ne (pc := 89) (tgt := 134) C dX10_put_89 (by decide) (fun c_26 => ?_) (fun c_26 => ?_)
              · skip
                have el_0 : (0 : Int32).toInt = 0 := rfl
                rw [i_eq] at c_26
                refine j_iload (pc := 134) C dX10_put_134 0 rfl ?_
                exact j_iret (pc := 136) C hr hk (fun i => [].getD i 0, fun i => [(u_24.2.1 0), n_cost, (u_24.2.1 1)].getD i 0, fun i => [n_shelf, n_stack, n_level, (u_24.2.2.1 0)].getD i (fun _ => 0), fun i => [].getD i (fun _ => 0)) rfl (show (0 ≤ ((u_24.2.1 0)).toInt ∧ ((u_24.2.1 0)).toInt ≤ 6) ∧ (Iv 12 (-1) (3) n_shelf) ∧ (Iv 12 (0) (7) n_stack) ∧ (Iv 12 (0) (11) n_level) ∧ (0 ≤ ((u_24.2.1 1)).toInt ∧ ((u_24.2.1 1)).toInt ≤ 12) ∧ (Iv 12 (0) (11) (u_24.2.2.1 0)) ∧ (PUTR (OKP (p0).toInt (p1).toInt (p2).toInt (a_wares).toInt (a_shelves).toInt (stF n_shelf n_stack p1 12).toInt) ((n_shelf (p0).toInt.toNat).toInt = -1) ((p2).toInt = -1 ∧ (a_room (p1).toInt.toNat).toInt ≤ (stF n_shelf n_stack p1 12).toInt) (fun x => ∀ k : Int32, k.toInt = plc (p2).toInt (stF n_shelf n_stack p1 12).toInt → ∀ (r : Nat → Int32) (n : Nat), ROW n_shelf n_stack n_level p1 k r n → n ≤ 11 → RFZ (fun u l => BT (a_mayOn l) u) a_weight a_bears a_deep (rsC a_wide a_deep a_lids) (upd r n p0) (n + 1) (a_height (p1).toInt.toNat) x) (u_24.2.1 0).toInt) ∧ (IM ((u_24.2.1 0).toInt = 0) (∀ k : Int32, k.toInt = plc (p2).toInt (stF n_shelf n_stack p1 12).toInt → n_shelf = upd n_shelf (p0).toInt.toNat p1 ∧ n_stack = upd n_stack (p0).toInt.toNat k ∧ (∀ j : Nat, ¬ j = (p0).toInt.toNat → n_level j = n_level j) ∧ (n_level (p0).toInt.toNat).toInt = ((cnB (std n_shelf n_stack p1 k) 12 : Nat) : Int))) ∧ (IM (¬ (u_24.2.1 0).toInt = 0) (n_shelf = n_shelf ∧ n_stack = n_stack ∧ n_level = n_level)) from ⟨hw_25_0, h_n_shelf, h_n_stack, h_n_level, hw_25_1, hw_25_2, (Or.inr ⟨(show (OKP (p0).toInt (p1).toInt (p2).toInt (a_wares).toInt (a_shelves).toInt (stF n_shelf n_stack p1 12).toInt) from ⟨⟨by omega, by omega⟩, ⟨by omega, by omega⟩, by omega, by (have y9 := congrArg Int32.toInt hw_8_1; omega)⟩), Or.inr ⟨(by rcases hw_12_1 with h | h; (exfalso; omega); (rw [h]; rfl)), by have y9 := congrArg Int32.toInt hw_8_1; have yp : plc (p2).toInt (stF n_shelf n_stack p1 12).toInt = (stF n_shelf n_stack p1 12).toInt := if_pos (by omega); rcases hw_25_4 with ⟨a9, b9⟩ | ⟨a9, b9⟩; (exact Or.inl ⟨a9, ⟨by have b1 := b9.1; omega, by have b1 := b9.1; have b2 := b9.2; omega⟩⟩); (exact Or.inr ⟨fun z => a9 ⟨by have z1 := z.1; omega, by have z1 := z.1; have z2 := z.2; omega⟩, fun k hk r n hR h11 => by rw [show k = (u_7.2.1 0) from (i_eq _ _).mpr (by omega)] at hR; exact b9 r n hR h11⟩)⟩⟩), (fun z9 => by exfalso; omega), (fun _ => ⟨rfl, rfl, rfl⟩)⟩) [1, 2, 3, 4, 5, 6, 7, 8, 0, 9, 12, 13, 14, 15, 10, 11] (by decide) rfl (by decide) (by decide) dX10_put_136
              · skip
                have el_0 : (0 : Int32).toInt = 0 := rfl
                rw [i_eq] at c_26
                refine j_aload_n (pc := 92) C dX10_put_92 rfl 3 rfl ?_
                refine j_get (pc := 93) (ci := 10) (v := .ref n0) C inw_10 1 rfl rfl 2 (by decide) wd_466 rfl rfl dX10_put_93 ?_
                refine j_dup (pc := 96) C dX10_put_96 rfl ?_
                refine j_get (pc := 97) (ci := 7) (v := .int n_cost) C inw_7 12 rfl rfl 5 (by decide) wd_486 rfl rfl dX10_put_97 ?_
                refine j_aload_n (pc := 100) C dX10_put_100 rfl 3 rfl ?_
                refine j_get (pc := 101) (ci := 10) (v := .ref a0) C inw_10 1 rfl rfl 1 (by decide) wd_447 rfl rfl dX10_put_101 ?_
                refine j_get (pc := 104) (ci := 9) (v := .ref a3) C inw_9 2 rfl rfl 5 (by decide) wd_473 rfl rfl dX10_put_104 ?_
                refine j_iload_n (pc := 107) C dX10_put_107 rfl 4 rfl ?_
                obtain ⟨v_27, ev_27⟩ : ∃ z, a_weight (p0).toInt.toNat = z := ⟨_, rfl⟩
                have env_27 : (a_weight (p0).toInt.toNat).toInt = v_27.toInt := by rw [ev_27]
                refine j_iald (pc := 108) (v := v_27) (k := (p0).toInt.toNat) C 5 1 rfl rfl (i_nn (by omega)) rfl (i_lt_n (by omega) (by omega)) ev_27 dX10_put_108 ?_
                refine j_aload_n (pc := 109) C dX10_put_109 rfl 3 rfl ?_
                refine j_get (pc := 110) (ci := 10) (v := .ref a0) C inw_10 1 rfl rfl 1 (by decide) wd_447 rfl rfl dX10_put_110 ?_
                refine j_get (pc := 113) (ci := 9) (v := .ref a9) C inw_9 2 rfl rfl 13 (by decide) wd_457 rfl rfl dX10_put_113 ?_
                refine j_iload_n (pc := 116) C dX10_put_116 rfl 5 rfl ?_
                obtain ⟨v_28, ev_28⟩ : ∃ z, a_reach (p1).toInt.toNat = z := ⟨_, rfl⟩
                have env_28 : (a_reach (p1).toInt.toNat).toInt = v_28.toInt := by rw [ev_28]
                refine j_iald (pc := 117) (v := v_28) (k := (p1).toInt.toNat) C 0 1 rfl rfl (i_nn (by omega)) rfl (i_lt_n (by omega) (by omega)) ev_28 dX10_put_117 ?_
                obtain ⟨v_29, ev_29⟩ : ∃ z : Int32, v_27 + v_28 = z := ⟨_, rfl⟩
                refine j_iadd (pc := 118) (v := v_29) C dX10_put_118 ev_29 ?_
                obtain ⟨v_30, ev_30⟩ : ∃ z : Int32, n_cost + v_29 = z := ⟨_, rfl⟩
                refine j_iadd (pc := 119) (v := v_30) C dX10_put_119 ev_30 ?_
                refine j_put (pc := 120) (ci := 7) (v := .int v_30) (ws' := [(a9, .inl (cyI, 4, .inl a_reach)), (x0, .inr (10, [.ref r0, .ref a0, .ref n0, .ref k0, .ref x1, .ref q0, .ref o0, .ref h0, .ref s0, .ref d0])), (a0, .inr (9, [.int a_wares, .int a_shelves, .int a_nests, .ref a1, .ref a2, .ref a3, .ref a4, .ref a5, .ref a6, .int a_lids, .int a_tops, .ref a7, .ref a8, .ref a9, .ref a10])), (a1, .inl (cyI, 12, .inl a_wide)), (a2, .inl (cyI, 12, .inl a_deep)), (a3, .inl (cyI, 12, .inl a_weight)), (a4, .inl (cyI, 12, .inl a_bears)), (a7, .inl (cyI, 12, .inl a_mayOn)), (a8, .inl (cyI, 4, .inl a_height)), (a10, .inl (cyI, 4, .inl a_room)), (q0, .inr (4, [.ref q1, .int (u_24.2.1 1)])), (q1, .inl (cyI, 12, .inl (u_24.2.2.1 0))), (n0, .inr (7, [.ref n1, .ref n2, .ref n3, .ref n4, .int n_askings, .int v_30, .int n_laid])), (n1, .inl (cyI, 12, .inl n_shelf)), (n2, .inl (cyI, 12, .inl n_stack)), (n3, .inl (cyI, 12, .inl n_level))]) C inw_7 12 rfl rfl 5 (by decide) wd_486 rfl tyX7_ok nmX7 rfl (tyX7_ok 5 (by decide)) rfl rfl (Nat.le_of_ble_eq_true rfl) dX10_put_120 rfl ?_
                refine j_aload_n (pc := 123) C dX10_put_123 rfl 3 rfl ?_
                refine j_get (pc := 124) (ci := 10) (v := .ref n0) C inw_10 1 rfl rfl 2 (by decide) wd_466 rfl rfl dX10_put_124 ?_
                refine j_iload_n (pc := 127) C dX10_put_127 rfl 4 rfl ?_
                refine j_iload_n (pc := 128) C dX10_put_128 rfl 5 rfl ?_
                refine j_iload (pc := 129) C dX10_put_129 1 rfl ?_
                refine j_callV (pc := 131) (As := [.int p0, .int p1, .int (u_7.2.1 0)]) (rest := []) (wr := [(a9, .inl (cyI, 4, .inl a_reach)), (x0, .inr (10, [.ref r0, .ref a0, .ref n0, .ref k0, .ref x1, .ref q0, .ref o0, .ref h0, .ref s0, .ref d0])), (a0, .inr (9, [.int a_wares, .int a_shelves, .int a_nests, .ref a1, .ref a2, .ref a3, .ref a4, .ref a5, .ref a6, .int a_lids, .int a_tops, .ref a7, .ref a8, .ref a9, .ref a10])), (a1, .inl (cyI, 12, .inl a_wide)), (a2, .inl (cyI, 12, .inl a_deep)), (a3, .inl (cyI, 12, .inl a_weight)), (a4, .inl (cyI, 12, .inl a_bears)), (a7, .inl (cyI, 12, .inl a_mayOn)), (a8, .inl (cyI, 4, .inl a_height)), (a10, .inl (cyI, 4, .inl a_room)), (q0, .inr (4, [.ref q1, .int (u_24.2.1 1)])), (q1, .inl (cyI, 12, .inl (u_24.2.2.1 0)))]) C (c_X7_add l D cyC cyI cyJ cyZ cyO n0 n1 n2 n3 n4 p0 p1 (u_7.2.1 0) n_askings v_30 n_laid n_shelf n_stack n_level h_n_askings h_n_laid (by omega) (by omega) (by omega) h_n_shelf h_n_stack h_n_level (by rcases hw_12_1 with h | h; (exfalso; omega); exact h)) wd_487 wd_9 wd_488 wd_489 wd_490 ⟨by decide, by decide, rfl⟩ rfl ⟨rfl, rfl, by decide, by decide⟩ ⟨by decide, by decide⟩ [12, 13, 14, 15] [0, 1, 2, 3, 4, 5, 6, 7, 8, 9, 10, 11] rfl rfl ⟨by decide, by decide, by decide⟩ 12 rfl rfl rfl (Nat.le_of_ble_eq_true rfl) dX10_put_131 (fun u_31 hw_32 => ?_)
                refine j_eq (ws2 := [(a9, .inl (cyI, 4, .inl a_reach)), (x0, .inr (10, [.ref r0, .ref a0, .ref n0, .ref k0, .ref x1, .ref q0, .ref o0, .ref h0, .ref s0, .ref d0])), (a0, .inr (9, [.int a_wares, .int a_shelves, .int a_nests, .ref a1, .ref a2, .ref a3, .ref a4, .ref a5, .ref a6, .int a_lids, .int a_tops, .ref a7, .ref a8, .ref a9, .ref a10])), (a1, .inl (cyI, 12, .inl a_wide)), (a2, .inl (cyI, 12, .inl a_deep)), (a3, .inl (cyI, 12, .inl a_weight)), (a4, .inl (cyI, 12, .inl a_bears)), (a7, .inl (cyI, 12, .inl a_mayOn)), (a8, .inl (cyI, 4, .inl a_height)), (a10, .inl (cyI, 4, .inl a_room)), (q0, .inr (4, [.ref q1, .int (u_24.2.1 1)])), (q1, .inl (cyI, 12, .inl (u_24.2.2.1 0))), (n0, .inr (7, [.ref n1, .ref n2, .ref n3, .ref n4, .int n_askings, .int v_30, .int n_laid])), (n1, .inl (cyI, 12, .inl (u_31.2.2.1 0))), (n2, .inl (cyI, 12, .inl (u_31.2.2.1 1))), (n3, .inl (cyI, 12, .inl (u_31.2.2.1 2)))]) (pc2 := 134) (lv2 := [(6, .int (u_24.2.1 0)), (5, .int (u_7.2.1 0)), (4, .int (u_7.2.1 0)), (0, .ref x0), (1, .int p0), (2, .int p1), (3, .int p2)]) (st2 := []) rfl rfl rfl rfl ?_
                obtain ⟨hw_32_0, hw_32_1, hw_32_2, hw_32_3, hw_32_4, hw_32_5, hw_32_6⟩ := hw_32
                refine j_iload (pc := 134) C dX10_put_134 0 rfl ?_
                exact j_iret (pc := 136) C hr hk (fun i => [].getD i 0, fun i => [(u_24.2.1 0), v_30, (u_24.2.1 1)].getD i 0, fun i => [(u_31.2.2.1 0), (u_31.2.2.1 1), (u_31.2.2.1 2), (u_24.2.2.1 0)].getD i (fun _ => 0), fun i => [].getD i (fun _ => 0)) rfl (show (0 ≤ ((u_24.2.1 0)).toInt ∧ ((u_24.2.1 0)).toInt ≤ 6) ∧ (Iv 12 (-1) (3) (u_31.2.2.1 0)) ∧ (Iv 12 (0) (7) (u_31.2.2.1 1)) ∧ (Iv 12 (0) (11) (u_31.2.2.1 2)) ∧ (0 ≤ ((u_24.2.1 1)).toInt ∧ ((u_24.2.1 1)).toInt ≤ 12) ∧ (Iv 12 (0) (11) (u_24.2.2.1 0)) ∧ (PUTR (OKP (p0).toInt (p1).toInt (p2).toInt (a_wares).toInt (a_shelves).toInt (stF n_shelf n_stack p1 12).toInt) ((n_shelf (p0).toInt.toNat).toInt = -1) ((p2).toInt = -1 ∧ (a_room (p1).toInt.toNat).toInt ≤ (stF n_shelf n_stack p1 12).toInt) (fun x => ∀ k : Int32, k.toInt = plc (p2).toInt (stF n_shelf n_stack p1 12).toInt → ∀ (r : Nat → Int32) (n : Nat), ROW n_shelf n_stack n_level p1 k r n → n ≤ 11 → RFZ (fun u l => BT (a_mayOn l) u) a_weight a_bears a_deep (rsC a_wide a_deep a_lids) (upd r n p0) (n + 1) (a_height (p1).toInt.toNat) x) (u_24.2.1 0).toInt) ∧ (IM ((u_24.2.1 0).toInt = 0) (∀ k : Int32, k.toInt = plc (p2).toInt (stF n_shelf n_stack p1 12).toInt → (u_31.2.2.1 0) = upd n_shelf (p0).toInt.toNat p1 ∧ (u_31.2.2.1 1) = upd n_stack (p0).toInt.toNat k ∧ (∀ j : Nat, ¬ j = (p0).toInt.toNat → (u_31.2.2.1 2) j = n_level j) ∧ ((u_31.2.2.1 2) (p0).toInt.toNat).toInt = ((cnB (std n_shelf n_stack p1 k) 12 : Nat) : Int))) ∧ (IM (¬ (u_24.2.1 0).toInt = 0) ((u_31.2.2.1 0) = n_shelf ∧ (u_31.2.2.1 1) = n_stack ∧ (u_31.2.2.1 2) = n_level)) from ⟨hw_25_0, hw_32_0, hw_32_1, hw_32_2, hw_25_1, hw_25_2, (Or.inr ⟨(show (OKP (p0).toInt (p1).toInt (p2).toInt (a_wares).toInt (a_shelves).toInt (stF n_shelf n_stack p1 12).toInt) from ⟨⟨by omega, by omega⟩, ⟨by omega, by omega⟩, by omega, by (have y9 := congrArg Int32.toInt hw_8_1; omega)⟩), Or.inr ⟨(by rcases hw_12_1 with h | h; (exfalso; omega); (rw [h]; rfl)), by have y9 := congrArg Int32.toInt hw_8_1; have yp : plc (p2).toInt (stF n_shelf n_stack p1 12).toInt = (stF n_shelf n_stack p1 12).toInt := if_pos (by omega); rcases hw_25_4 with ⟨a9, b9⟩ | ⟨a9, b9⟩; (exact Or.inl ⟨a9, ⟨by have b1 := b9.1; omega, by have b1 := b9.1; have b2 := b9.2; omega⟩⟩); (exact Or.inr ⟨fun z => a9 ⟨by have z1 := z.1; omega, by have z1 := z.1; have z2 := z.2; omega⟩, fun k hk r n hR h11 => by rw [show k = (u_7.2.1 0) from (i_eq _ _).mpr (by omega)] at hR; exact b9 r n hR h11⟩)⟩⟩), (fun _ k hk => by have y9 := congrArg Int32.toInt hw_8_1; have yp : plc (p2).toInt (stF n_shelf n_stack p1 12).toInt = (stF n_shelf n_stack p1 12).toInt := if_pos (by omega); rw [show k = (u_7.2.1 0) from (i_eq _ _).mpr (by omega)]; exact ⟨hw_32_3, hw_32_4, hw_32_5, hw_32_6⟩), (fun z9 => by exfalso; omega)⟩) [1, 2, 3, 4, 5, 6, 7, 8, 0, 9, 12, 13, 14, 15, 10, 11] (by decide) rfl (by decide) (by decide) dX10_put_136
          · skip
            have el_0 : (0 : Int32).toInt = 0 := rfl
            rw [i_eq] at c_13
            refine j_iconst (pc := 58) (v := 2) C dX10_put_58 (by decide) ?_
            have el_2 : (2 : Int32).toInt = 2 := rfl
            have el_2 : (2 : Int32).toInt = 2 := rfl
            have el_2 : (2 : Int32).toInt = 2 := rfl
            have el_2 : (2 : Int32).toInt = 2 := rfl
            exact j_iret (pc := 59) C hr hk (fun i => [].getD i 0, fun i => [2, n_cost, q_size].getD i 0, fun i => [n_shelf, n_stack, n_level, q_ware].getD i (fun _ => 0), fun i => [].getD i (fun _ => 0)) rfl (show (0 ≤ ((2 : Int32)).toInt ∧ ((2 : Int32)).toInt ≤ 6) ∧ (Iv 12 (-1) (3) n_shelf) ∧ (Iv 12 (0) (7) n_stack) ∧ (Iv 12 (0) (11) n_level) ∧ (0 ≤ (q_size).toInt ∧ (q_size).toInt ≤ 12) ∧ (Iv 12 (0) (11) q_ware) ∧ (PUTR (OKP (p0).toInt (p1).toInt (p2).toInt (a_wares).toInt (a_shelves).toInt (stF n_shelf n_stack p1 12).toInt) ((n_shelf (p0).toInt.toNat).toInt = -1) ((p2).toInt = -1 ∧ (a_room (p1).toInt.toNat).toInt ≤ (stF n_shelf n_stack p1 12).toInt) (fun x => ∀ k : Int32, k.toInt = plc (p2).toInt (stF n_shelf n_stack p1 12).toInt → ∀ (r : Nat → Int32) (n : Nat), ROW n_shelf n_stack n_level p1 k r n → n ≤ 11 → RFZ (fun u l => BT (a_mayOn l) u) a_weight a_bears a_deep (rsC a_wide a_deep a_lids) (upd r n p0) (n + 1) (a_height (p1).toInt.toNat) x) (2 : Int32).toInt) ∧ (IM ((2 : Int32).toInt = 0) (∀ k : Int32, k.toInt = plc (p2).toInt (stF n_shelf n_stack p1 12).toInt → n_shelf = upd n_shelf (p0).toInt.toNat p1 ∧ n_stack = upd n_stack (p0).toInt.toNat k ∧ (∀ j : Nat, ¬ j = (p0).toInt.toNat → n_level j = n_level j) ∧ (n_level (p0).toInt.toNat).toInt = ((cnB (std n_shelf n_stack p1 k) 12 : Nat) : Int))) ∧ (IM (¬ (2 : Int32).toInt = 0) (n_shelf = n_shelf ∧ n_stack = n_stack ∧ n_level = n_level)) from ⟨by omega, h_n_shelf, h_n_stack, h_n_level, h_q_size, h_q_ware, (Or.inr ⟨(show (OKP (p0).toInt (p1).toInt (p2).toInt (a_wares).toInt (a_shelves).toInt (stF n_shelf n_stack p1 12).toInt) from ⟨⟨by omega, by omega⟩, ⟨by omega, by omega⟩, by omega, by (have y9 := congrArg Int32.toInt hw_8_1; omega)⟩), Or.inl ⟨rfl, by omega⟩⟩), (fun z9 => absurd z9 (by decide)), (fun _ => ⟨rfl, rfl, rfl⟩)⟩) [0, 12, 1, 2, 3, 4, 5, 6, 7, 8, 14, 15, 13, 9, 10, 11] (by decide) rfl (by decide) (by decide) dX10_put_59
        · skip
          rw [i_lt] at c_10
          refine j_iconst (pc := 45) (v := 1) C dX10_put_45 (by decide) ?_
          have el_1 : (1 : Int32).toInt = 1 := rfl
          have el_1 : (1 : Int32).toInt = 1 := rfl
          have el_1 : (1 : Int32).toInt = 1 := rfl
          have el_1 : (1 : Int32).toInt = 1 := rfl
          exact j_iret (pc := 46) C hr hk (fun i => [].getD i 0, fun i => [1, n_cost, q_size].getD i 0, fun i => [n_shelf, n_stack, n_level, q_ware].getD i (fun _ => 0), fun i => [].getD i (fun _ => 0)) rfl (show (0 ≤ ((1 : Int32)).toInt ∧ ((1 : Int32)).toInt ≤ 6) ∧ (Iv 12 (-1) (3) n_shelf) ∧ (Iv 12 (0) (7) n_stack) ∧ (Iv 12 (0) (11) n_level) ∧ (0 ≤ (q_size).toInt ∧ (q_size).toInt ≤ 12) ∧ (Iv 12 (0) (11) q_ware) ∧ (PUTR (OKP (p0).toInt (p1).toInt (p2).toInt (a_wares).toInt (a_shelves).toInt (stF n_shelf n_stack p1 12).toInt) ((n_shelf (p0).toInt.toNat).toInt = -1) ((p2).toInt = -1 ∧ (a_room (p1).toInt.toNat).toInt ≤ (stF n_shelf n_stack p1 12).toInt) (fun x => ∀ k : Int32, k.toInt = plc (p2).toInt (stF n_shelf n_stack p1 12).toInt → ∀ (r : Nat → Int32) (n : Nat), ROW n_shelf n_stack n_level p1 k r n → n ≤ 11 → RFZ (fun u l => BT (a_mayOn l) u) a_weight a_bears a_deep (rsC a_wide a_deep a_lids) (upd r n p0) (n + 1) (a_height (p1).toInt.toNat) x) (1 : Int32).toInt) ∧ (IM ((1 : Int32).toInt = 0) (∀ k : Int32, k.toInt = plc (p2).toInt (stF n_shelf n_stack p1 12).toInt → n_shelf = upd n_shelf (p0).toInt.toNat p1 ∧ n_stack = upd n_stack (p0).toInt.toNat k ∧ (∀ j : Nat, ¬ j = (p0).toInt.toNat → n_level j = n_level j) ∧ (n_level (p0).toInt.toNat).toInt = ((cnB (std n_shelf n_stack p1 k) 12 : Nat) : Int))) ∧ (IM (¬ (1 : Int32).toInt = 0) (n_shelf = n_shelf ∧ n_stack = n_stack ∧ n_level = n_level)) from ⟨by omega, h_n_shelf, h_n_stack, h_n_level, h_q_size, h_q_ware, (Or.inl ⟨rfl, fun z => by have y9 := congrArg Int32.toInt hw_8_1; obtain ⟨z1, z2, z3, z4⟩ := z; omega⟩), (fun z9 => absurd z9 (by decide)), (fun _ => ⟨rfl, rfl, rfl⟩)⟩) [0, 12, 1, 2, 3, 4, 5, 6, 7, 8, 13, 14, 15, 9, 10, 11] (by decide) rfl (by decide) (by decide) dX10_put_46
    · skip
      have el_0 : (0 : Int32).toInt = 0 := rfl
      rw [i_eq] at c_6
      refine j_iconst (pc := 22) (v := 1) C dX10_put_22 (by decide) ?_
      have el_1 : (1 : Int32).toInt = 1 := rfl
      have el_1 : (1 : Int32).toInt = 1 := rfl
      have el_1 : (1 : Int32).toInt = 1 := rfl
      have el_1 : (1 : Int32).toInt = 1 := rfl
      exact j_iret (pc := 23) C hr hk (fun i => [].getD i 0, fun i => [1, n_cost, q_size].getD i 0, fun i => [n_shelf, n_stack, n_level, q_ware].getD i (fun _ => 0), fun i => [].getD i (fun _ => 0)) rfl (show (0 ≤ ((1 : Int32)).toInt ∧ ((1 : Int32)).toInt ≤ 6) ∧ (Iv 12 (-1) (3) n_shelf) ∧ (Iv 12 (0) (7) n_stack) ∧ (Iv 12 (0) (11) n_level) ∧ (0 ≤ (q_size).toInt ∧ (q_size).toInt ≤ 12) ∧ (Iv 12 (0) (11) q_ware) ∧ (PUTR (OKP (p0).toInt (p1).toInt (p2).toInt (a_wares).toInt (a_shelves).toInt (stF n_shelf n_stack p1 12).toInt) ((n_shelf (p0).toInt.toNat).toInt = -1) ((p2).toInt = -1 ∧ (a_room (p1).toInt.toNat).toInt ≤ (stF n_shelf n_stack p1 12).toInt) (fun x => ∀ k : Int32, k.toInt = plc (p2).toInt (stF n_shelf n_stack p1 12).toInt → ∀ (r : Nat → Int32) (n : Nat), ROW n_shelf n_stack n_level p1 k r n → n ≤ 11 → RFZ (fun u l => BT (a_mayOn l) u) a_weight a_bears a_deep (rsC a_wide a_deep a_lids) (upd r n p0) (n + 1) (a_height (p1).toInt.toNat) x) (1 : Int32).toInt) ∧ (IM ((1 : Int32).toInt = 0) (∀ k : Int32, k.toInt = plc (p2).toInt (stF n_shelf n_stack p1 12).toInt → n_shelf = upd n_shelf (p0).toInt.toNat p1 ∧ n_stack = upd n_stack (p0).toInt.toNat k ∧ (∀ j : Nat, ¬ j = (p0).toInt.toNat → n_level j = n_level j) ∧ (n_level (p0).toInt.toNat).toInt = ((cnB (std n_shelf n_stack p1 k) 12 : Nat) : Int))) ∧ (IM (¬ (1 : Int32).toInt = 0) (n_shelf = n_shelf ∧ n_stack = n_stack ∧ n_level = n_level)) from ⟨by omega, h_n_shelf, h_n_stack, h_n_level, h_q_size, h_q_ware, (Or.inl ⟨rfl, fun z => by skip; obtain ⟨z1, z2, z3, z4⟩ := z; omega⟩), (fun z9 => absurd z9 (by decide)), (fun _ => ⟨rfl, rfl, rfl⟩)⟩) [0, 15, 1, 2, 3, 4, 5, 6, 7, 8, 9, 10, 11, 12, 13, 14] (by decide) rfl (by decide) (by decide) dX10_put_23
set_option maxHeartbeats 4000000 in
set_option maxRecDepth 100000 in
theorem c_X10_draw (l : Launch) (D : DG) (cyC cyI cyJ cyZ cyO : ClassId) (x0 : Nat) (a0 : Nat) (a1 : Nat) (a2 : Nat) (a3 : Nat) (a4 : Nat) (a7 : Nat) (a8 : Nat) (a9 : Nat) (n0 : Nat) (n1 : Nat) (n2 : Nat) (n3 : Nat) (q0 : Nat) (q1 : Nat) (r0 : Nat) (k0 : Nat) (x1 : Nat) (o0 : Nat) (h0 : Nat) (s0 : Nat) (d0 : Nat) (a5 : Nat) (a6 : Nat) (a10 : Nat) (n4 : Nat) (p0 : Int32) (a_wares : Int32) (a_shelves : Int32) (a_nests : Int32) (a_lids : Int32) (a_tops : Int32) (n_askings : Int32) (n_cost : Int32) (n_laid : Int32) (q_size : Int32) (a_wide : Nat → Int32) (a_deep : Nat → Int32) (a_weight : Nat → Int32) (a_bears : Nat → Int32) (a_mayOn : Nat → Int32) (a_height : Nat → Int32) (a_reach : Nat → Int32) (n_shelf : Nat → Int32) (n_stack : Nat → Int32) (n_level : Nat → Int32) (q_ware : Nat → Int32) (h_a_wares : 0 ≤ (a_wares).toInt ∧ (a_wares).toInt ≤ 12) (h_a_shelves : 0 ≤ (a_shelves).toInt ∧ (a_shelves).toInt ≤ 4) (h_a_nests : 0 ≤ (a_nests).toInt ∧ (a_nests).toInt ≤ 4) (h_n_askings : 0 ≤ (n_askings).toInt ∧ (n_askings).toInt ≤ 30) (h_n_laid : 0 ≤ (n_laid).toInt ∧ (n_laid).toInt ≤ 1) (h_q_size : 0 ≤ (q_size).toInt ∧ (q_size).toInt ≤ 12) (h_n_shelf : Iv 12 (-1) (3) n_shelf) (h_n_stack : Iv 12 (0) (7) n_stack) (h_n_level : Iv 12 (0) (11) n_level) (h_q_ware : Iv 12 (0) (11) q_ware) : KK l D (TY cyC cyI cyJ cyZ cyO) yX10_draw cX10_draw 5 (some .int) ({ frames := 3, cells := 0, slots := 0, locals := 70 } : Room) 0 0 [.ref x0, .int p0] [(x0, .inr (10, [.ref r0, .ref a0, .ref n0, .ref k0, .ref x1, .ref q0, .ref o0, .ref h0, .ref s0, .ref d0])), (a0, .inr (9, [.int a_wares, .int a_shelves, .int a_nests, .ref a1, .ref a2, .ref a3, .ref a4, .ref a5, .ref a6, .int a_lids, .int a_tops, .ref a7, .ref a8, .ref a9, .ref a10])), (a1, .inl (cyI, 12, .inl a_wide)), (a2, .inl (cyI, 12, .inl a_deep)), (a3, .inl (cyI, 12, .inl a_weight)), (a4, .inl (cyI, 12, .inl a_bears)), (a7, .inl (cyI, 12, .inl a_mayOn)), (a8, .inl (cyI, 4, .inl a_height)), (a9, .inl (cyI, 4, .inl a_reach)), (n0, .inr (7, [.ref n1, .ref n2, .ref n3, .ref n4, .int n_askings, .int n_cost, .int n_laid])), (n1, .inl (cyI, 12, .inl n_shelf)), (n2, .inl (cyI, 12, .inl n_stack)), (n3, .inl (cyI, 12, .inl n_level)), (q0, .inr (4, [.ref q1, .int q_size])), (q1, .inl (cyI, 12, .inl q_ware))] (fun u => some (.int (u.2.1 0))) (fun u => (0 ≤ (u.2.1 0).toInt ∧ (u.2.1 0).toInt ≤ 6) ∧ (Iv 12 (-1) (3) (u.2.2.1 0)) ∧ (Iv 12 (0) (7) (u.2.2.1 1)) ∧ (Iv 12 (0) (11) (u.2.2.1 2)) ∧ (0 ≤ (u.2.1 2).toInt ∧ (u.2.1 2).toInt ≤ 12) ∧ (Iv 12 (0) (11) (u.2.2.1 3)) ∧ (PUTR (0 ≤ (p0).toInt ∧ (p0).toInt < (a_wares).toInt) (¬ (n_shelf (p0).toInt.toNat).toInt = -1) False (fun x => ∀ (r : Nat → Int32) (n : Nat), ROW n_shelf n_stack n_level (n_shelf (p0).toInt.toNat) (n_stack (p0).toInt.toNat) r n → RFZ (fun u l => BT (a_mayOn l) u) a_weight a_bears a_deep (rsC a_wide a_deep a_lids) (fun p => r (if (p : Int) < (n_level (p0).toInt.toNat).toInt then p else p + 1)) (n - 1) (a_height (n_shelf (p0).toInt.toNat).toInt.toNat) x) (u.2.1 0).toInt) ∧ (IM ((u.2.1 0).toInt = 0) ((u.2.2.1 0) = upd n_shelf (p0).toInt.toNat (-1) ∧ (∀ j : Nat, j < 12 → ((u.2.2.1 2) j).toInt = (snk n_shelf n_stack n_level (p0).toInt.toNat) j) ∧ ∀ j : Nat, j < 12 → ((u.2.2.1 1) j).toInt = rmS (u.2.2.1 0) n_stack (n_shelf (p0).toInt.toNat) (n_stack (p0).toInt.toNat) j)) ∧ (IM (¬ (u.2.1 0).toInt = 0) ((u.2.2.1 0) = n_shelf ∧ (u.2.2.1 1) = n_stack ∧ (u.2.2.1 2) = n_level))) (fun u => [(x0, .inr (10, [.ref r0, .ref a0, .ref n0, .ref k0, .ref x1, .ref q0, .ref o0, .ref h0, .ref s0, .ref d0])), (a0, .inr (9, [.int a_wares, .int a_shelves, .int a_nests, .ref a1, .ref a2, .ref a3, .ref a4, .ref a5, .ref a6, .int a_lids, .int a_tops, .ref a7, .ref a8, .ref a9, .ref a10])), (a1, .inl (cyI, 12, .inl a_wide)), (a2, .inl (cyI, 12, .inl a_deep)), (a3, .inl (cyI, 12, .inl a_weight)), (a4, .inl (cyI, 12, .inl a_bears)), (a7, .inl (cyI, 12, .inl a_mayOn)), (a8, .inl (cyI, 4, .inl a_height)), (a9, .inl (cyI, 4, .inl a_reach)), (n0, .inr (7, [.ref n1, .ref n2, .ref n3, .ref n4, .int n_askings, .int (u.2.1 1), .int n_laid])), (n1, .inl (cyI, 12, .inl (u.2.2.1 0))), (n2, .inl (cyI, 12, .inl (u.2.2.1 1))), (n3, .inl (cyI, 12, .inl (u.2.2.1 2))), (q0, .inr (4, [.ref q1, .int (u.2.1 2)])), (q1, .inl (cyI, 12, .inl (u.2.2.1 3)))]) := by
  refine KK.of (lv0 := [(0, .ref x0), (1, .int p0)]) (by decide) rfl (Nat.le_of_ble_eq_true rfl) ?_
  intro p e s m args below meth c A C hr hk hin
  refine j_aload_n (pc := 0) C dX10_draw_0 rfl 0 rfl ?_
  refine j_get (pc := 1) (ci := 10) (v := .ref a0) C inw_10 0 rfl rfl 1 (by decide) wd_447 rfl rfl dX10_draw_1 ?_
  refine j_iload_n (pc := 4) C dX10_draw_4 rfl 1 rfl ?_
  refine j_callV (pc := 5) (As := [.int p0]) (rest := []) (wr := [(x0, .inr (10, [.ref r0, .ref a0, .ref n0, .ref k0, .ref x1, .ref q0, .ref o0, .ref h0, .ref s0, .ref d0])), (a1, .inl (cyI, 12, .inl a_wide)), (a2, .inl (cyI, 12, .inl a_deep)), (a3, .inl (cyI, 12, .inl a_weight)), (a4, .inl (cyI, 12, .inl a_bears)), (a7, .inl (cyI, 12, .inl a_mayOn)), (a8, .inl (cyI, 4, .inl a_height)), (a9, .inl (cyI, 4, .inl a_reach)), (n0, .inr (7, [.ref n1, .ref n2, .ref n3, .ref n4, .int n_askings, .int n_cost, .int n_laid])), (n1, .inl (cyI, 12, .inl n_shelf)), (n2, .inl (cyI, 12, .inl n_stack)), (n3, .inl (cyI, 12, .inl n_level)), (q0, .inr (4, [.ref q1, .int q_size])), (q1, .inl (cyI, 12, .inl q_ware))]) C (c_X9_isWare l D cyC cyI cyJ cyZ cyO a0 a1 a2 a3 a4 a5 a6 a7 a8 a9 a10 p0 a_wares a_shelves a_nests a_lids a_tops h_a_wares h_a_shelves h_a_nests) wd_467 wd_33 wd_468 wd_469 wd_470 ⟨by decide, by decide, rfl⟩ rfl ⟨rfl, rfl, by decide, by decide⟩ ⟨by decide, by decide⟩ [1] [0, 2, 3, 4, 5, 6, 7, 8, 9, 10, 11, 12, 13, 14] rfl rfl ⟨by decide, by decide, by decide⟩ 1 rfl rfl rfl (Nat.le_of_ble_eq_true rfl) dX10_draw_5 (fun u_1 hw_2 => ?_)
  refine j_eq (ws2 := [(x0, .inr (10, [.ref r0, .ref a0, .ref n0, .ref k0, .ref x1, .ref q0, .ref o0, .ref h0, .ref s0, .ref d0])), (a1, .inl (cyI, 12, .inl a_wide)), (a2, .inl (cyI, 12, .inl a_deep)), (a3, .inl (cyI, 12, .inl a_weight)), (a4, .inl (cyI, 12, .inl a_bears)), (a7, .inl (cyI, 12, .inl a_mayOn)), (a8, .inl (cyI, 4, .inl a_height)), (a9, .inl (cyI, 4, .inl a_reach)), (n0, .inr (7, [.ref n1, .ref n2, .ref n3, .ref n4, .int n_askings, .int n_cost, .int n_laid])), (n1, .inl (cyI, 12, .inl n_shelf)), (n2, .inl (cyI, 12, .inl n_stack)), (n3, .inl (cyI, 12, .inl n_level)), (q0, .inr (4, [.ref q1, .int q_size])), (q1, .inl (cyI, 12, .inl q_ware)), (a0, .inr (9, [.int a_wares, .int a_shelves, .int a_nests, .ref a1, .ref a2, .ref a3, .ref a4, .ref a5, .ref a6, .int a_lids, .int a_tops, .ref a7, .ref a8, .ref a9, .ref a10]))]) (pc2 := 8) (lv2 := [(0, .ref x0), (1, .int p0)]) (st2 := [.int (u_1.2.1 0)]) rfl rfl rfl rfl ?_
  obtain ⟨hw_2_0, hw_2_1, hw_2_2⟩ := hw_2
  refine j_if_ne (pc := 8) (tgt := 13) C dX10_draw_8 (by decide) (fun c_3 => ?_) (fun c_3 => ?_)
  · skip
    have el_0 : (0 : Int32).toInt = 0 := rfl
    rw [i_eq] at c_3
    have k0c_3 : ((u_1.2.1 0)).toInt = 1 := by omega
    refine j_aload_n (pc := 13) C dX10_draw_13 rfl 0 rfl ?_
    refine j_get (pc := 14) (ci := 10) (v := .ref n0) C inw_10 0 rfl rfl 2 (by decide) wd_466 rfl rfl dX10_draw_14 ?_
    refine j_iload_n (pc := 17) C dX10_draw_17 rfl 1 rfl ?_
    refine j_callV (pc := 18) (As := [.int p0]) (rest := []) (wr := [(x0, .inr (10, [.ref r0, .ref a0, .ref n0, .ref k0, .ref x1, .ref q0, .ref o0, .ref h0, .ref s0, .ref d0])), (a1, .inl (cyI, 12, .inl a_wide)), (a2, .inl (cyI, 12, .inl a_deep)), (a3, .inl (cyI, 12, .inl a_weight)), (a4, .inl (cyI, 12, .inl a_bears)), (a7, .inl (cyI, 12, .inl a_mayOn)), (a8, .inl (cyI, 4, .inl a_height)), (a9, .inl (cyI, 4, .inl a_reach)), (n2, .inl (cyI, 12, .inl n_stack)), (n3, .inl (cyI, 12, .inl n_level)), (q0, .inr (4, [.ref q1, .int q_size])), (q1, .inl (cyI, 12, .inl q_ware)), (a0, .inr (9, [.int a_wares, .int a_shelves, .int a_nests, .ref a1, .ref a2, .ref a3, .ref a4, .ref a5, .ref a6, .int a_lids, .int a_tops, .ref a7, .ref a8, .ref a9, .ref a10]))]) C (c_X7_isOut l D cyC cyI cyJ cyZ cyO n0 n1 n2 n3 n4 p0 n_askings n_cost n_laid n_shelf h_n_askings h_n_laid (by omega) h_n_shelf) wd_13 wd_9 wd_480 wd_15 wd_16 ⟨by decide, by decide, rfl⟩ rfl ⟨rfl, rfl, by decide, by decide⟩ ⟨by decide, by decide⟩ [8, 9] [0, 1, 2, 3, 4, 5, 6, 7, 10, 11, 12, 13, 14] rfl rfl ⟨by decide, by decide, by decide⟩ 8 rfl rfl rfl (Nat.le_of_ble_eq_true rfl) dX10_draw_18 (fun u_4 hw_5 => ?_)
    refine j_eq (ws2 := [(x0, .inr (10, [.ref r0, .ref a0, .ref n0, .ref k0, .ref x1, .ref q0, .ref o0, .ref h0, .ref s0, .ref d0])), (a1, .inl (cyI, 12, .inl a_wide)), (a2, .inl (cyI, 12, .inl a_deep)), (a3, .inl (cyI, 12, .inl a_weight)), (a4, .inl (cyI, 12, .inl a_bears)), (a7, .inl (cyI, 12, .inl a_mayOn)), (a8, .inl (cyI, 4, .inl a_height)), (a9, .inl (cyI, 4, .inl a_reach)), (n2, .inl (cyI, 12, .inl n_stack)), (n3, .inl (cyI, 12, .inl n_level)), (q0, .inr (4, [.ref q1, .int q_size])), (q1, .inl (cyI, 12, .inl q_ware)), (a0, .inr (9, [.int a_wares, .int a_shelves, .int a_nests, .ref a1, .ref a2, .ref a3, .ref a4, .ref a5, .ref a6, .int a_lids, .int a_tops, .ref a7, .ref a8, .ref a9, .ref a10])), (n0, .inr (7, [.ref n1, .ref n2, .ref n3, .ref n4, .int n_askings, .int n_cost, .int n_laid])), (n1, .inl (cyI, 12, .inl n_shelf))]) (pc2 := 21) (lv2 := [(0, .ref x0), (1, .int p0)]) (st2 := [.int (u_4.2.1 0)]) rfl rfl rfl rfl ?_
    obtain ⟨hw_5_0, hw_5_1, hw_5_2⟩ := hw_5
    refine j_if_eq (pc := 21) (tgt := 26) C dX10_draw_21 (by decide) (fun c_6 => ?_) (fun c_6 => ?_)
    · skip
      have el_0 : (0 : Int32).toInt = 0 := rfl
      rw [i_eq] at c_6
      refine j_aload_n (pc := 26) C dX10_draw_26 rfl 0 rfl ?_
      refine j_get (pc := 27) (ci := 10) (v := .ref n0) C inw_10 0 rfl rfl 2 (by decide) wd_466 rfl rfl dX10_draw_27 ?_
      refine j_get (pc := 30) (ci := 7) (v := .ref n1) C inw_7 13 rfl rfl 0 (by decide) wd_454 rfl rfl dX10_draw_30 ?_
      refine j_iload_n (pc := 33) C dX10_draw_33 rfl 1 rfl ?_
      obtain ⟨v_7, ev_7⟩ : ∃ z, n_shelf (p0).toInt.toNat = z := ⟨_, rfl⟩
      have env_7 : (n_shelf (p0).toInt.toNat).toInt = v_7.toInt := by rw [ev_7]
      have hv_7 := h_n_shelf (p0).toInt.toNat (i_lt_n (by omega) (by omega)); rw [ev_7] at hv_7
      refine j_iald (pc := 34) (v := v_7) (k := (p0).toInt.toNat) C 14 1 rfl rfl (i_nn (by omega)) rfl (i_lt_n (by omega) (by omega)) ev_7 dX10_draw_34 ?_
      refine j_istore_n (pc := 35) (lv' := [(2, .int v_7), (0, .ref x0), (1, .int p0)]) C dX10_draw_35 rfl (by decide) rfl ?_
      refine j_aload_n (pc := 36) C dX10_draw_36 rfl 1 rfl ?_
      refine j_get (pc := 37) (ci := 10) (v := .ref q0) C inw_10 0 rfl rfl 5 (by decide) wd_438 rfl rfl dX10_draw_37 ?_
      refine j_aload_n (pc := 40) C dX10_draw_40 rfl 1 rfl ?_
      refine j_get (pc := 41) (ci := 10) (v := .ref n0) C inw_10 0 rfl rfl 2 (by decide) wd_466 rfl rfl dX10_draw_41 ?_
      refine j_iload_n (pc := 44) C dX10_draw_44 rfl 0 rfl ?_
      refine j_aload_n (pc := 45) C dX10_draw_45 rfl 1 rfl ?_
      refine j_get (pc := 46) (ci := 10) (v := .ref n0) C inw_10 0 rfl rfl 2 (by decide) wd_466 rfl rfl dX10_draw_46 ?_
      refine j_get (pc := 49) (ci := 7) (v := .ref n2) C inw_7 13 rfl rfl 1 (by decide) wd_455 rfl rfl dX10_draw_49 ?_
      refine j_iload_n (pc := 52) C dX10_draw_52 rfl 2 rfl ?_
      obtain ⟨v_8, ev_8⟩ : ∃ z, n_stack (p0).toInt.toNat = z := ⟨_, rfl⟩
      have env_8 : (n_stack (p0).toInt.toNat).toInt = v_8.toInt := by rw [ev_8]
      have hv_8 := h_n_stack (p0).toInt.toNat (i_lt_n (by omega) (by omega)); rw [ev_8] at hv_8
      refine j_iald (pc := 53) (v := v_8) (k := (p0).toInt.toNat) C 8 1 rfl rfl (i_nn (by omega)) rfl (i_lt_n (by omega) (by omega)) ev_8 dX10_draw_53 ?_
      refine j_callV (pc := 54) (As := [.ref n0, .int v_7, .int v_8]) (rest := []) (wr := [(x0, .inr (10, [.ref r0, .ref a0, .ref n0, .ref k0, .ref x1, .ref q0, .ref o0, .ref h0, .ref s0, .ref d0])), (a1, .inl (cyI, 12, .inl a_wide)), (a2, .inl (cyI, 12, .inl a_deep)), (a3, .inl (cyI, 12, .inl a_weight)), (a4, .inl (cyI, 12, .inl a_bears)), (a7, .inl (cyI, 12, .inl a_mayOn)), (a8, .inl (cyI, 4, .inl a_height)), (a9, .inl (cyI, 4, .inl a_reach)), (a0, .inr (9, [.int a_wares, .int a_shelves, .int a_nests, .ref a1, .ref a2, .ref a3, .ref a4, .ref a5, .ref a6, .int a_lids, .int a_tops, .ref a7, .ref a8, .ref a9, .ref a10]))]) C (c_X4_take l D cyC cyI cyJ cyZ cyO q0 q1 n0 n1 n2 n3 n4 v_7 v_8 q_size n_askings n_cost n_laid q_ware n_shelf n_stack n_level h_q_size h_n_askings h_n_laid h_q_ware h_n_shelf h_n_stack h_n_level) wd_439 wd_40 wd_440 wd_441 wd_442 ⟨by decide, by decide, rfl⟩ rfl ⟨rfl, rfl, by decide, by decide⟩ ⟨by decide, by decide⟩ [10, 11, 13, 14, 8, 9] [0, 1, 2, 3, 4, 5, 6, 7, 12] rfl rfl ⟨by decide, by decide, by decide⟩ 10 rfl rfl rfl (Nat.le_of_ble_eq_true rfl) dX10_draw_54 (fun u_9 hw_10 => ?_)
      refine j_eq (ws2 := [(x0, .inr (10, [.ref r0, .ref a0, .ref n0, .ref k0, .ref x1, .ref q0, .ref o0, .ref h0, .ref s0, .ref d0])), (a1, .inl (cyI, 12, .inl a_wide)), (a2, .inl (cyI, 12, .inl a_deep)), (a3, .inl (cyI, 12, .inl a_weight)), (a4, .inl (cyI, 12, .inl a_bears)), (a7, .inl (cyI, 12, .inl a_mayOn)), (a8, .inl (cyI, 4, .inl a_height)), (a9, .inl (cyI, 4, .inl a_reach)), (a0, .inr (9, [.int a_wares, .int a_shelves, .int a_nests, .ref a1, .ref a2, .ref a3, .ref a4, .ref a5, .ref a6, .int a_lids, .int a_tops, .ref a7, .ref a8, .ref a9, .ref a10])), (q0, .inr (4, [.ref q1, .int (u_9.2.1 0)])), (q1, .inl (cyI, 12, .inl (u_9.2.2.1 0))), (n0, .inr (7, [.ref n1, .ref n2, .ref n3, .ref n4, .int n_askings, .int n_cost, .int n_laid])), (n1, .inl (cyI, 12, .inl n_shelf)), (n2, .inl (cyI, 12, .inl n_stack)), (n3, .inl (cyI, 12, .inl n_level))]) (pc2 := 57) (lv2 := [(2, .int v_7), (0, .ref x0), (1, .int p0)]) (st2 := []) rfl rfl rfl rfl ?_
      obtain ⟨hw_10_0, hw_10_1, hw_10_2, hw_10_3⟩ := hw_10
      refine j_aload_n (pc := 57) C dX10_draw_57 rfl 1 rfl ?_
      refine j_get (pc := 58) (ci := 10) (v := .ref q0) C inw_10 0 rfl rfl 5 (by decide) wd_438 rfl rfl dX10_draw_58 ?_
      refine j_aload_n (pc := 61) C dX10_draw_61 rfl 1 rfl ?_
      refine j_get (pc := 62) (ci := 10) (v := .ref a0) C inw_10 0 rfl rfl 1 (by decide) wd_447 rfl rfl dX10_draw_62 ?_
      refine j_aload_n (pc := 65) C dX10_draw_65 rfl 1 rfl ?_
      refine j_get (pc := 66) (ci := 10) (v := .ref n0) C inw_10 0 rfl rfl 2 (by decide) wd_466 rfl rfl dX10_draw_66 ?_
      refine j_get (pc := 69) (ci := 7) (v := .ref n3) C inw_7 11 rfl rfl 2 (by decide) wd_456 rfl rfl dX10_draw_69 ?_
      refine j_iload_n (pc := 72) C dX10_draw_72 rfl 2 rfl ?_
      obtain ⟨v_11, ev_11⟩ : ∃ z, n_level (p0).toInt.toNat = z := ⟨_, rfl⟩
      have env_11 : (n_level (p0).toInt.toNat).toInt = v_11.toInt := by rw [ev_11]
      have hv_11 := h_n_level (p0).toInt.toNat (i_lt_n (by omega) (by omega)); rw [ev_11] at hv_11
      refine j_iald (pc := 73) (v := v_11) (k := (p0).toInt.toNat) C 14 1 rfl rfl (i_nn (by omega)) rfl (i_lt_n (by omega) (by omega)) ev_11 dX10_draw_73 ?_
      refine j_aload_n (pc := 74) C dX10_draw_74 rfl 1 rfl ?_
      refine j_get (pc := 75) (ci := 10) (v := .ref a0) C inw_10 0 rfl rfl 1 (by decide) wd_447 rfl rfl dX10_draw_75 ?_
      refine j_get (pc := 78) (ci := 9) (v := .ref a9) C inw_9 8 rfl rfl 13 (by decide) wd_457 rfl rfl dX10_draw_78 ?_
      refine j_iload_n (pc := 81) C dX10_draw_81 rfl 0 rfl ?_
      obtain ⟨v_12, ev_12⟩ : ∃ z, a_reach (v_7).toInt.toNat = z := ⟨_, rfl⟩
      have env_12 : (a_reach (v_7).toInt.toNat).toInt = v_12.toInt := by rw [ev_12]
      refine j_iald (pc := 82) (v := v_12) (k := (v_7).toInt.toNat) C 7 1 rfl rfl (i_nn (by omega)) rfl (i_lt_n (by omega) (Int.lt_of_le_of_lt hv_7.2 (by decide))) ev_12 dX10_draw_82 ?_
      refine j_callV (pc := 83) (As := [.ref a0, .int v_11, .int v_12]) (rest := []) (wr := [(x0, .inr (10, [.ref r0, .ref a0, .ref n0, .ref k0, .ref x1, .ref q0, .ref o0, .ref h0, .ref s0, .ref d0])), (a1, .inl (cyI, 12, .inl a_wide)), (a2, .inl (cyI, 12, .inl a_deep)), (a4, .inl (cyI, 12, .inl a_bears)), (a7, .inl (cyI, 12, .inl a_mayOn)), (a8, .inl (cyI, 4, .inl a_height)), (a9, .inl (cyI, 4, .inl a_reach)), (n0, .inr (7, [.ref n1, .ref n2, .ref n3, .ref n4, .int n_askings, .int n_cost, .int n_laid])), (n1, .inl (cyI, 12, .inl n_shelf)), (n2, .inl (cyI, 12, .inl n_stack)), (n3, .inl (cyI, 12, .inl n_level))]) C (c_X4_price l D cyC cyI cyJ cyZ cyO q0 q1 a0 a3 a1 a2 a4 a5 a6 a7 a8 a9 a10 v_11 v_12 (u_9.2.1 0) a_wares a_shelves a_nests a_lids a_tops (u_9.2.2.1 0) a_weight hw_10_0 h_a_wares h_a_shelves h_a_nests hv_11 hw_10_1) wd_458 wd_40 wd_459 wd_460 wd_461 ⟨by decide, by decide, rfl⟩ rfl ⟨rfl, rfl, by decide, by decide⟩ ⟨by decide, by decide⟩ [9, 10, 8, 3] [0, 1, 2, 4, 5, 6, 7, 11, 12, 13, 14] rfl rfl ⟨by decide, by decide, by decide⟩ 9 rfl rfl rfl (Nat.le_of_ble_eq_true rfl) dX10_draw_83 (fun u_13 hw_14 => ?_)
      refine j_eq (ws2 := [(x0, .inr (10, [.ref r0, .ref a0, .ref n0, .ref k0, .ref x1, .ref q0, .ref o0, .ref h0, .ref s0, .ref d0])), (a1, .inl (cyI, 12, .inl a_wide)), (a2, .inl (cyI, 12, .inl a_deep)), (a4, .inl (cyI, 12, .inl a_bears)), (a7, .inl (cyI, 12, .inl a_mayOn)), (a8, .inl (cyI, 4, .inl a_height)), (a9, .inl (cyI, 4, .inl a_reach)), (n0, .inr (7, [.ref n1, .ref n2, .ref n3, .ref n4, .int n_askings, .int n_cost, .int n_laid])), (n1, .inl (cyI, 12, .inl n_shelf)), (n2, .inl (cyI, 12, .inl n_stack)), (n3, .inl (cyI, 12, .inl n_level)), (q0, .inr (4, [.ref q1, .int (u_9.2.1 0)])), (q1, .inl (cyI, 12, .inl (u_9.2.2.1 0))), (a0, .inr (9, [.int a_wares, .int a_shelves, .int a_nests, .ref a1, .ref a2, .ref a3, .ref a4, .ref a5, .ref a6, .int a_lids, .int a_tops, .ref a7, .ref a8, .ref a9, .ref a10])), (a3, .inl (cyI, 12, .inl a_weight))]) (pc2 := 86) (lv2 := [(2, .int v_7), (0, .ref x0), (1, .int p0)]) (st2 := [.int (u_13.2.1 0)]) rfl rfl rfl rfl ?_
      have hw_14_0 : (u_13.2.1 0) = prC a_weight (u_9.2.2.1 0) v_11 (u_9.2.1 0) v_12 := hw_14
      refine j_istore_n (pc := 86) (lv' := [(3, .int (u_13.2.1 0)), (2, .int v_7), (0, .ref x0), (1, .int p0)]) C dX10_draw_86 rfl (by decide) rfl ?_
      refine j_aload_n (pc := 87) C dX10_draw_87 rfl 2 rfl ?_
      refine j_get (pc := 88) (ci := 10) (v := .ref q0) C inw_10 0 rfl rfl 5 (by decide) wd_438 rfl rfl dX10_draw_88 ?_
      refine j_aload_n (pc := 91) C dX10_draw_91 rfl 2 rfl ?_
      refine j_get (pc := 92) (ci := 10) (v := .ref n0) C inw_10 0 rfl rfl 2 (by decide) wd_466 rfl rfl dX10_draw_92 ?_
      refine j_get (pc := 95) (ci := 7) (v := .ref n3) C inw_7 7 rfl rfl 2 (by decide) wd_456 rfl rfl dX10_draw_95 ?_
      refine j_iload_n (pc := 98) C dX10_draw_98 rfl 3 rfl ?_
      refine j_iald (pc := 99) (v := v_11) (k := (p0).toInt.toNat) C 10 1 rfl rfl (i_nn (by omega)) rfl (i_lt_n (by omega) (by omega)) ev_11 dX10_draw_99 ?_
      have hz9 := hw_10_2 (p0).toInt.toNat (by omega) ev_7 ev_8
      refine j_callV (pc := 100) (As := [.int v_11]) (rest := []) (wr := [(x0, .inr (10, [.ref r0, .ref a0, .ref n0, .ref k0, .ref x1, .ref q0, .ref o0, .ref h0, .ref s0, .ref d0])), (a1, .inl (cyI, 12, .inl a_wide)), (a2, .inl (cyI, 12, .inl a_deep)), (a4, .inl (cyI, 12, .inl a_bears)), (a7, .inl (cyI, 12, .inl a_mayOn)), (a8, .inl (cyI, 4, .inl a_height)), (a9, .inl (cyI, 4, .inl a_reach)), (n0, .inr (7, [.ref n1, .ref n2, .ref n3, .ref n4, .int n_askings, .int n_cost, .int n_laid])), (n1, .inl (cyI, 12, .inl n_shelf)), (n2, .inl (cyI, 12, .inl n_stack)), (n3, .inl (cyI, 12, .inl n_level)), (a0, .inr (9, [.int a_wares, .int a_shelves, .int a_nests, .ref a1, .ref a2, .ref a3, .ref a4, .ref a5, .ref a6, .int a_lids, .int a_tops, .ref a7, .ref a8, .ref a9, .ref a10])), (a3, .inl (cyI, 12, .inl a_weight))]) C (c_X4_remove l D cyC cyI cyJ cyZ cyO q0 q1 v_11 (u_9.2.1 0) (u_9.2.2.1 0) (by omega) hv_11 hw_10_1) wd_491 wd_40 wd_492 wd_493 wd_494 ⟨by decide, by decide, rfl⟩ rfl ⟨rfl, rfl, by decide, by decide⟩ ⟨by decide, by decide⟩ [11, 12] [0, 1, 2, 3, 4, 5, 6, 7, 8, 9, 10, 13, 14] rfl rfl ⟨by decide, by decide, by decide⟩ 11 rfl rfl rfl (Nat.le_of_ble_eq_true rfl) dX10_draw_100 (fun u_15 hw_16 => ?_)
      refine j_eq (ws2 := [(x0, .inr (10, [.ref r0, .ref a0, .ref n0, .ref k0, .ref x1, .ref q0, .ref o0, .ref h0, .ref s0, .ref d0])), (a1, .inl (cyI, 12, .inl a_wide)), (a2, .inl (cyI, 12, .inl a_deep)), (a4, .inl (cyI, 12, .inl a_bears)), (a7, .inl (cyI, 12, .inl a_mayOn)), (a8, .inl (cyI, 4, .inl a_height)), (a9, .inl (cyI, 4, .inl a_reach)), (n0, .inr (7, [.ref n1, .ref n2, .ref n3, .ref n4, .int n_askings, .int n_cost, .int n_laid])), (n1, .inl (cyI, 12, .inl n_shelf)), (n2, .inl (cyI, 12, .inl n_stack)), (n3, .inl (cyI, 12, .inl n_level)), (a0, .inr (9, [.int a_wares, .int a_shelves, .int a_nests, .ref a1, .ref a2, .ref a3, .ref a4, .ref a5, .ref a6, .int a_lids, .int a_tops, .ref a7, .ref a8, .ref a9, .ref a10])), (a3, .inl (cyI, 12, .inl a_weight)), (q0, .inr (4, [.ref q1, .int (u_15.2.1 0)])), (q1, .inl (cyI, 12, .inl (u_15.2.2.1 0)))]) (pc2 := 103) (lv2 := [(3, .int (u_13.2.1 0)), (2, .int v_7), (0, .ref x0), (1, .int p0)]) (st2 := []) rfl rfl rfl rfl ?_
      obtain ⟨hw_16_0, hw_16_1, hw_16_2, hw_16_3⟩ := hw_16
      refine j_aload_n (pc := 103) C dX10_draw_103 rfl 2 rfl ?_
      refine j_get (pc := 104) (ci := 10) (v := .ref q0) C inw_10 0 rfl rfl 5 (by decide) wd_438 rfl rfl dX10_draw_104 ?_
      refine j_aload_n (pc := 107) C dX10_draw_107 rfl 2 rfl ?_
      refine j_get (pc := 108) (ci := 10) (v := .ref a0) C inw_10 0 rfl rfl 1 (by decide) wd_447 rfl rfl dX10_draw_108 ?_
      refine j_aload_n (pc := 111) C dX10_draw_111 rfl 2 rfl ?_
      refine j_get (pc := 112) (ci := 10) (v := .ref a0) C inw_10 0 rfl rfl 1 (by decide) wd_447 rfl rfl dX10_draw_112 ?_
      refine j_get (pc := 115) (ci := 9) (v := .ref a8) C inw_9 11 rfl rfl 12 (by decide) wd_448 rfl rfl dX10_draw_115 ?_
      refine j_iload_n (pc := 118) C dX10_draw_118 rfl 1 rfl ?_
      obtain ⟨v_17, ev_17⟩ : ∃ z, a_height (v_7).toInt.toNat = z := ⟨_, rfl⟩
      have env_17 : (a_height (v_7).toInt.toNat).toInt = v_17.toInt := by rw [ev_17]
      refine j_iald (pc := 119) (v := v_17) (k := (v_7).toInt.toNat) C 5 1 rfl rfl (i_nn (by omega)) rfl (i_lt_n (by omega) (Int.lt_of_le_of_lt hv_7.2 (by decide))) ev_17 dX10_draw_119 ?_
      refine j_callV (pc := 120) (As := [.ref a0, .int v_17]) (rest := []) (wr := [(x0, .inr (10, [.ref r0, .ref a0, .ref n0, .ref k0, .ref x1, .ref q0, .ref o0, .ref h0, .ref s0, .ref d0])), (a8, .inl (cyI, 4, .inl a_height)), (a9, .inl (cyI, 4, .inl a_reach)), (n0, .inr (7, [.ref n1, .ref n2, .ref n3, .ref n4, .int n_askings, .int n_cost, .int n_laid])), (n1, .inl (cyI, 12, .inl n_shelf)), (n2, .inl (cyI, 12, .inl n_stack)), (n3, .inl (cyI, 12, .inl n_level))]) C (c_X4_refusal l D cyC cyI cyJ cyZ cyO q0 q1 a0 a1 a2 a3 a4 a7 a5 a6 a8 a9 a10 v_17 (u_15.2.1 0) a_wares a_shelves a_nests a_lids a_tops (u_15.2.2.1 0) a_wide a_deep a_weight a_bears a_mayOn (by omega) h_a_wares h_a_shelves h_a_nests hw_16_1) wd_449 wd_40 wd_450 wd_451 wd_452 ⟨by decide, by decide, rfl⟩ rfl ⟨rfl, rfl, by decide, by decide⟩ ⟨by decide, by decide⟩ [13, 14, 11, 1, 2, 12, 3, 4] [0, 5, 6, 7, 8, 9, 10] rfl rfl ⟨by decide, by decide, by decide⟩ 13 rfl rfl rfl (Nat.le_of_ble_eq_true rfl) dX10_draw_120 (fun u_18 hw_19 => ?_)
      refine j_eq (ws2 := [(x0, .inr (10, [.ref r0, .ref a0, .ref n0, .ref k0, .ref x1, .ref q0, .ref o0, .ref h0, .ref s0, .ref d0])), (a8, .inl (cyI, 4, .inl a_height)), (a9, .inl (cyI, 4, .inl a_reach)), (n0, .inr (7, [.ref n1, .ref n2, .ref n3, .ref n4, .int n_askings, .int n_cost, .int n_laid])), (n1, .inl (cyI, 12, .inl n_shelf)), (n2, .inl (cyI, 12, .inl n_stack)), (n3, .inl (cyI, 12, .inl n_level)), (q0, .inr (4, [.ref q1, .int (u_15.2.1 0)])), (q1, .inl (cyI, 12, .inl (u_15.2.2.1 0))), (a0, .inr (9, [.int a_wares, .int a_shelves, .int a_nests, .ref a1, .ref a2, .ref a3, .ref a4, .ref a5, .ref a6, .int a_lids, .int a_tops, .ref a7, .ref a8, .ref a9, .ref a10])), (a1, .inl (cyI, 12, .inl a_wide)), (a2, .inl (cyI, 12, .inl a_deep)), (a3, .inl (cyI, 12, .inl a_weight)), (a4, .inl (cyI, 12, .inl a_bears)), (a7, .inl (cyI, 12, .inl a_mayOn))]) (pc2 := 123) (lv2 := [(3, .int (u_13.2.1 0)), (2, .int v_7), (0, .ref x0), (1, .int p0)]) (st2 := [.int (u_18.2.1 0)]) rfl rfl rfl rfl ?_
      obtain ⟨hw_19_0, hw_19_1⟩ := hw_19
      refine j_istore (pc := 123) (lv' := [(4, .int (u_18.2.1 0)), (3, .int (u_13.2.1 0)), (2, .int v_7), (0, .ref x0), (1, .int p0)]) C dX10_draw_123 (by decide) rfl ?_
      refine j_iload (pc := 125) C dX10_draw_125 0 rfl ?_
      refine j_if_ne (pc := 127) (tgt := 151) C dX10_draw_127 (by decide) (fun c_20 => ?_) (fun c_20 => ?_)
      · skip
        have el_0 : (0 : Int32).toInt = 0 := rfl
        rw [i_eq] at c_20
        refine j_iload (pc := 151) C dX10_draw_151 0 rfl ?_
        exact j_iret (pc := 153) C hr hk (fun i => [].getD i 0, fun i => [(u_18.2.1 0), n_cost, (u_15.2.1 0)].getD i 0, fun i => [n_shelf, n_stack, n_level, (u_15.2.2.1 0)].getD i (fun _ => 0), fun i => [].getD i (fun _ => 0)) rfl (show (0 ≤ ((u_18.2.1 0)).toInt ∧ ((u_18.2.1 0)).toInt ≤ 6) ∧ (Iv 12 (-1) (3) n_shelf) ∧ (Iv 12 (0) (7) n_stack) ∧ (Iv 12 (0) (11) n_level) ∧ (0 ≤ ((u_15.2.1 0)).toInt ∧ ((u_15.2.1 0)).toInt ≤ 12) ∧ (Iv 12 (0) (11) (u_15.2.2.1 0)) ∧ (PUTR (0 ≤ (p0).toInt ∧ (p0).toInt < (a_wares).toInt) (¬ (n_shelf (p0).toInt.toNat).toInt = -1) False (fun x => ∀ (r : Nat → Int32) (n : Nat), ROW n_shelf n_stack n_level (n_shelf (p0).toInt.toNat) (n_stack (p0).toInt.toNat) r n → RFZ (fun u l => BT (a_mayOn l) u) a_weight a_bears a_deep (rsC a_wide a_deep a_lids) (fun p => r (if (p : Int) < (n_level (p0).toInt.toNat).toInt then p else p + 1)) (n - 1) (a_height (n_shelf (p0).toInt.toNat).toInt.toNat) x) (u_18.2.1 0).toInt) ∧ (IM ((u_18.2.1 0).toInt = 0) (n_shelf = upd n_shelf (p0).toInt.toNat (-1) ∧ (∀ j : Nat, j < 12 → (n_level j).toInt = (snk n_shelf n_stack n_level (p0).toInt.toNat) j) ∧ ∀ j : Nat, j < 12 → (n_stack j).toInt = rmS n_shelf n_stack (n_shelf (p0).toInt.toNat) (n_stack (p0).toInt.toNat) j)) ∧ (IM (¬ (u_18.2.1 0).toInt = 0) (n_shelf = n_shelf ∧ n_stack = n_stack ∧ n_level = n_level)) from ⟨hw_19_0, h_n_shelf, h_n_stack, h_n_level, by omega, hw_16_1, (Or.inr ⟨⟨by omega, by omega⟩, Or.inr ⟨fun z => by omega, Or.inr ⟨fun z => z, fun r n hR => by rw [ev_7, ev_8] at hR; rw [ev_7, ev_11, ev_17]; obtain ⟨y1, y2⟩ := hw_10_3 r n hR; have y5 := hR.at (w := (p0).toInt.toNat) (by omega) ev_7 ev_8; rw [ev_11] at y5; have y3 := hw_16_2; have y4 := hw_16_3 (by omega); exact RFZ.cg hw_19_1 (by omega) (fun p hp => by rw [y4 p (by omega)]; by_cases q : (p : Int) < (v_11).toInt; (rw [if_pos q]; exact y2 p (by omega)); (rw [if_neg q]; exact y2 (p + 1) (by omega)))⟩⟩⟩), (fun z9 => by exfalso; omega), (fun _ => ⟨rfl, rfl, rfl⟩)⟩) [0, 9, 10, 11, 12, 13, 14, 1, 2, 3, 4, 5, 6, 7, 8] (by decide) rfl (by decide) (by decide) dX10_draw_153
      · skip
        have el_0 : (0 : Int32).toInt = 0 := rfl
        rw [i_eq] at c_20
        refine j_aload_n (pc := 130) C dX10_draw_130 rfl 3 rfl ?_
        refine j_get (pc := 131) (ci := 10) (v := .ref n0) C inw_10 0 rfl rfl 2 (by decide) wd_466 rfl rfl dX10_draw_131 ?_
        refine j_dup (pc := 134) C dX10_draw_134 rfl ?_
        refine j_get (pc := 135) (ci := 7) (v := .int n_cost) C inw_7 3 rfl rfl 5 (by decide) wd_486 rfl rfl dX10_draw_135 ?_
        refine j_iload_n (pc := 138) C dX10_draw_138 rfl 1 rfl ?_
        obtain ⟨v_21, ev_21⟩ : ∃ z : Int32, n_cost + (u_13.2.1 0) = z := ⟨_, rfl⟩
        refine j_iadd (pc := 139) (v := v_21) C dX10_draw_139 ev_21 ?_
        refine j_put (pc := 140) (ci := 7) (v := .int v_21) (ws' := [(x0, .inr (10, [.ref r0, .ref a0, .ref n0, .ref k0, .ref x1, .ref q0, .ref o0, .ref h0, .ref s0, .ref d0])), (a8, .inl (cyI, 4, .inl a_height)), (a9, .inl (cyI, 4, .inl a_reach)), (n0, .inr (7, [.ref n1, .ref n2, .ref n3, .ref n4, .int n_askings, .int v_21, .int n_laid])), (n1, .inl (cyI, 12, .inl n_shelf)), (n2, .inl (cyI, 12, .inl n_stack)), (n3, .inl (cyI, 12, .inl n_level)), (q0, .inr (4, [.ref q1, .int (u_15.2.1 0)])), (q1, .inl (cyI, 12, .inl (u_15.2.2.1 0))), (a0, .inr (9, [.int a_wares, .int a_shelves, .int a_nests, .ref a1, .ref a2, .ref a3, .ref a4, .ref a5, .ref a6, .int a_lids, .int a_tops, .ref a7, .ref a8, .ref a9, .ref a10])), (a1, .inl (cyI, 12, .inl a_wide)), (a2, .inl (cyI, 12, .inl a_deep)), (a3, .inl (cyI, 12, .inl a_weight)), (a4, .inl (cyI, 12, .inl a_bears)), (a7, .inl (cyI, 12, .inl a_mayOn))]) C inw_7 3 rfl rfl 5 (by decide) wd_486 rfl tyX7_ok nmX7 rfl (tyX7_ok 5 (by decide)) rfl rfl (Nat.le_of_ble_eq_true rfl) dX10_draw_140 rfl ?_
        refine j_aload_n (pc := 143) C dX10_draw_143 rfl 3 rfl ?_
        refine j_get (pc := 144) (ci := 10) (v := .ref n0) C inw_10 0 rfl rfl 2 (by decide) wd_466 rfl rfl dX10_draw_144 ?_
        refine j_iload_n (pc := 147) C dX10_draw_147 rfl 4 rfl ?_
        refine j_callV (pc := 148) (As := [.int p0]) (rest := []) (wr := [(x0, .inr (10, [.ref r0, .ref a0, .ref n0, .ref k0, .ref x1, .ref q0, .ref o0, .ref h0, .ref s0, .ref d0])), (a8, .inl (cyI, 4, .inl a_height)), (a9, .inl (cyI, 4, .inl a_reach)), (q0, .inr (4, [.ref q1, .int (u_15.2.1 0)])), (q1, .inl (cyI, 12, .inl (u_15.2.2.1 0))), (a0, .inr (9, [.int a_wares, .int a_shelves, .int a_nests, .ref a1, .ref a2, .ref a3, .ref a4, .ref a5, .ref a6, .int a_lids, .int a_tops, .ref a7, .ref a8, .ref a9, .ref a10])), (a1, .inl (cyI, 12, .inl a_wide)), (a2, .inl (cyI, 12, .inl a_deep)), (a3, .inl (cyI, 12, .inl a_weight)), (a4, .inl (cyI, 12, .inl a_bears)), (a7, .inl (cyI, 12, .inl a_mayOn))]) C (c_X7_remove l D cyC cyI cyJ cyZ cyO n0 n1 n2 n3 n4 p0 n_askings v_21 n_laid n_shelf n_stack n_level h_n_askings h_n_laid (by omega) h_n_shelf h_n_stack h_n_level) wd_495 wd_9 wd_496 wd_497 wd_498 ⟨by decide, by decide, rfl⟩ rfl ⟨rfl, rfl, by decide, by decide⟩ ⟨by decide, by decide⟩ [3, 4, 5, 6] [0, 1, 2, 7, 8, 9, 10, 11, 12, 13, 14] rfl rfl ⟨by decide, by decide, by decide⟩ 3 rfl rfl rfl (Nat.le_of_ble_eq_true rfl) dX10_draw_148 (fun u_22 hw_23 => ?_)
        refine j_eq (ws2 := [(x0, .inr (10, [.ref r0, .ref a0, .ref n0, .ref k0, .ref x1, .ref q0, .ref o0, .ref h0, .ref s0, .ref d0])), (a8, .inl (cyI, 4, .inl a_height)), (a9, .inl (cyI, 4, .inl a_reach)), (q0, .inr (4, [.ref q1, .int (u_15.2.1 0)])), (q1, .inl (cyI, 12, .inl (u_15.2.2.1 0))), (a0, .inr (9, [.int a_wares, .int a_shelves, .int a_nests, .ref a1, .ref a2, .ref a3, .ref a4, .ref a5, .ref a6, .int a_lids, .int a_tops, .ref a7, .ref a8, .ref a9, .ref a10])), (a1, .inl (cyI, 12, .inl a_wide)), (a2, .inl (cyI, 12, .inl a_deep)), (a3, .inl (cyI, 12, .inl a_weight)), (a4, .inl (cyI, 12, .inl a_bears)), (a7, .inl (cyI, 12, .inl a_mayOn)), (n0, .inr (7, [.ref n1, .ref n2, .ref n3, .ref n4, .int n_askings, .int v_21, .int n_laid])), (n1, .inl (cyI, 12, .inl (u_22.2.2.1 0))), (n2, .inl (cyI, 12, .inl (u_22.2.2.1 1))), (n3, .inl (cyI, 12, .inl (u_22.2.2.1 2)))]) (pc2 := 151) (lv2 := [(4, .int (u_18.2.1 0)), (3, .int (u_13.2.1 0)), (2, .int v_7), (0, .ref x0), (1, .int p0)]) (st2 := []) rfl rfl rfl rfl ?_
        obtain ⟨hw_23_0, hw_23_1, hw_23_2, hw_23_3, hw_23_4, hw_23_5⟩ := hw_23
        refine j_iload (pc := 151) C dX10_draw_151 0 rfl ?_
        exact j_iret (pc := 153) C hr hk (fun i => [].getD i 0, fun i => [(u_18.2.1 0), v_21, (u_15.2.1 0)].getD i 0, fun i => [(u_22.2.2.1 0), (u_22.2.2.1 1), (u_22.2.2.1 2), (u_15.2.2.1 0)].getD i (fun _ => 0), fun i => [].getD i (fun _ => 0)) rfl (show (0 ≤ ((u_18.2.1 0)).toInt ∧ ((u_18.2.1 0)).toInt ≤ 6) ∧ (Iv 12 (-1) (3) (u_22.2.2.1 0)) ∧ (Iv 12 (0) (7) (u_22.2.2.1 1)) ∧ (Iv 12 (0) (11) (u_22.2.2.1 2)) ∧ (0 ≤ ((u_15.2.1 0)).toInt ∧ ((u_15.2.1 0)).toInt ≤ 12) ∧ (Iv 12 (0) (11) (u_15.2.2.1 0)) ∧ (PUTR (0 ≤ (p0).toInt ∧ (p0).toInt < (a_wares).toInt) (¬ (n_shelf (p0).toInt.toNat).toInt = -1) False (fun x => ∀ (r : Nat → Int32) (n : Nat), ROW n_shelf n_stack n_level (n_shelf (p0).toInt.toNat) (n_stack (p0).toInt.toNat) r n → RFZ (fun u l => BT (a_mayOn l) u) a_weight a_bears a_deep (rsC a_wide a_deep a_lids) (fun p => r (if (p : Int) < (n_level (p0).toInt.toNat).toInt then p else p + 1)) (n - 1) (a_height (n_shelf (p0).toInt.toNat).toInt.toNat) x) (u_18.2.1 0).toInt) ∧ (IM ((u_18.2.1 0).toInt = 0) ((u_22.2.2.1 0) = upd n_shelf (p0).toInt.toNat (-1) ∧ (∀ j : Nat, j < 12 → ((u_22.2.2.1 2) j).toInt = (snk n_shelf n_stack n_level (p0).toInt.toNat) j) ∧ ∀ j : Nat, j < 12 → ((u_22.2.2.1 1) j).toInt = rmS (u_22.2.2.1 0) n_stack (n_shelf (p0).toInt.toNat) (n_stack (p0).toInt.toNat) j)) ∧ (IM (¬ (u_18.2.1 0).toInt = 0) ((u_22.2.2.1 0) = n_shelf ∧ (u_22.2.2.1 1) = n_stack ∧ (u_22.2.2.1 2) = n_level)) from ⟨hw_19_0, hw_23_0, hw_23_1, hw_23_2, by omega, hw_16_1, (Or.inr ⟨⟨by omega, by omega⟩, Or.inr ⟨fun z => by omega, Or.inr ⟨fun z => z, fun r n hR => by rw [ev_7, ev_8] at hR; rw [ev_7, ev_11, ev_17]; obtain ⟨y1, y2⟩ := hw_10_3 r n hR; have y5 := hR.at (w := (p0).toInt.toNat) (by omega) ev_7 ev_8; rw [ev_11] at y5; have y3 := hw_16_2; have y4 := hw_16_3 (by omega); exact RFZ.cg hw_19_1 (by omega) (fun p hp => by rw [y4 p (by omega)]; by_cases q : (p : Int) < (v_11).toInt; (rw [if_pos q]; exact y2 p (by omega)); (rw [if_neg q]; exact y2 (p + 1) (by omega)))⟩⟩⟩), (fun _ => ⟨hw_23_3, hw_23_4, hw_23_5⟩), (fun z9 => by exfalso; omega)⟩) [0, 5, 6, 7, 8, 9, 10, 1, 2, 11, 12, 13, 14, 3, 4] (by decide) rfl (by decide) (by decide) dX10_draw_153
    · skip
      have el_0 : (0 : Int32).toInt = 0 := rfl
      rw [i_eq] at c_6
      have k0c_6 : ((u_4.2.1 0)).toInt = 1 := by omega
      refine j_iconst (pc := 24) (v := 2) C dX10_draw_24 (by decide) ?_
      have el_2 : (2 : Int32).toInt = 2 := rfl
      have el_2 : (2 : Int32).toInt = 2 := rfl
      have el_2 : (2 : Int32).toInt = 2 := rfl
      have el_2 : (2 : Int32).toInt = 2 := rfl
      exact j_iret (pc := 25) C hr hk (fun i => [].getD i 0, fun i => [2, n_cost, q_size].getD i 0, fun i => [n_shelf, n_stack, n_level, q_ware].getD i (fun _ => 0), fun i => [].getD i (fun _ => 0)) rfl (show (0 ≤ ((2 : Int32)).toInt ∧ ((2 : Int32)).toInt ≤ 6) ∧ (Iv 12 (-1) (3) n_shelf) ∧ (Iv 12 (0) (7) n_stack) ∧ (Iv 12 (0) (11) n_level) ∧ (0 ≤ (q_size).toInt ∧ (q_size).toInt ≤ 12) ∧ (Iv 12 (0) (11) q_ware) ∧ (PUTR (0 ≤ (p0).toInt ∧ (p0).toInt < (a_wares).toInt) (¬ (n_shelf (p0).toInt.toNat).toInt = -1) False (fun x => ∀ (r : Nat → Int32) (n : Nat), ROW n_shelf n_stack n_level (n_shelf (p0).toInt.toNat) (n_stack (p0).toInt.toNat) r n → RFZ (fun u l => BT (a_mayOn l) u) a_weight a_bears a_deep (rsC a_wide a_deep a_lids) (fun p => r (if (p : Int) < (n_level (p0).toInt.toNat).toInt then p else p + 1)) (n - 1) (a_height (n_shelf (p0).toInt.toNat).toInt.toNat) x) (2 : Int32).toInt) ∧ (IM ((2 : Int32).toInt = 0) (n_shelf = upd n_shelf (p0).toInt.toNat (-1) ∧ (∀ j : Nat, j < 12 → (n_level j).toInt = (snk n_shelf n_stack n_level (p0).toInt.toNat) j) ∧ ∀ j : Nat, j < 12 → (n_stack j).toInt = rmS n_shelf n_stack (n_shelf (p0).toInt.toNat) (n_stack (p0).toInt.toNat) j)) ∧ (IM (¬ (2 : Int32).toInt = 0) (n_shelf = n_shelf ∧ n_stack = n_stack ∧ n_level = n_level)) from ⟨by omega, h_n_shelf, h_n_stack, h_n_level, h_q_size, h_q_ware, (Or.inr ⟨⟨by omega, by omega⟩, Or.inl ⟨rfl, fun z => z (by rcases hw_5_1 with h | h; (exfalso; omega); (rw [h]; rfl))⟩⟩), (fun z9 => absurd z9 (by decide)), (fun _ => ⟨rfl, rfl, rfl⟩)⟩) [0, 12, 1, 2, 3, 4, 5, 6, 7, 13, 14, 8, 9, 10, 11] (by decide) rfl (by decide) (by decide) dX10_draw_25
  · skip
    have el_0 : (0 : Int32).toInt = 0 := rfl
    rw [i_eq] at c_3
    refine j_iconst (pc := 11) (v := 1) C dX10_draw_11 (by decide) ?_
    have el_1 : (1 : Int32).toInt = 1 := rfl
    have el_1 : (1 : Int32).toInt = 1 := rfl
    have el_1 : (1 : Int32).toInt = 1 := rfl
    have el_1 : (1 : Int32).toInt = 1 := rfl
    exact j_iret (pc := 12) C hr hk (fun i => [].getD i 0, fun i => [1, n_cost, q_size].getD i 0, fun i => [n_shelf, n_stack, n_level, q_ware].getD i (fun _ => 0), fun i => [].getD i (fun _ => 0)) rfl (show (0 ≤ ((1 : Int32)).toInt ∧ ((1 : Int32)).toInt ≤ 6) ∧ (Iv 12 (-1) (3) n_shelf) ∧ (Iv 12 (0) (7) n_stack) ∧ (Iv 12 (0) (11) n_level) ∧ (0 ≤ (q_size).toInt ∧ (q_size).toInt ≤ 12) ∧ (Iv 12 (0) (11) q_ware) ∧ (PUTR (0 ≤ (p0).toInt ∧ (p0).toInt < (a_wares).toInt) (¬ (n_shelf (p0).toInt.toNat).toInt = -1) False (fun x => ∀ (r : Nat → Int32) (n : Nat), ROW n_shelf n_stack n_level (n_shelf (p0).toInt.toNat) (n_stack (p0).toInt.toNat) r n → RFZ (fun u l => BT (a_mayOn l) u) a_weight a_bears a_deep (rsC a_wide a_deep a_lids) (fun p => r (if (p : Int) < (n_level (p0).toInt.toNat).toInt then p else p + 1)) (n - 1) (a_height (n_shelf (p0).toInt.toNat).toInt.toNat) x) (1 : Int32).toInt) ∧ (IM ((1 : Int32).toInt = 0) (n_shelf = upd n_shelf (p0).toInt.toNat (-1) ∧ (∀ j : Nat, j < 12 → (n_level j).toInt = (snk n_shelf n_stack n_level (p0).toInt.toNat) j) ∧ ∀ j : Nat, j < 12 → (n_stack j).toInt = rmS n_shelf n_stack (n_shelf (p0).toInt.toNat) (n_stack (p0).toInt.toNat) j)) ∧ (IM (¬ (1 : Int32).toInt = 0) (n_shelf = n_shelf ∧ n_stack = n_stack ∧ n_level = n_level)) from ⟨by omega, h_n_shelf, h_n_stack, h_n_level, h_q_size, h_q_ware, (Or.inl ⟨rfl, fun z => by obtain ⟨z1, z2⟩ := z; omega⟩), (fun z9 => absurd z9 (by decide)), (fun _ => ⟨rfl, rfl, rfl⟩)⟩) [0, 14, 1, 2, 3, 4, 5, 6, 7, 8, 9, 10, 11, 12, 13] (by decide) rfl (by decide) (by decide) dX10_draw_12
set_option maxHeartbeats 4000000 in
set_option maxRecDepth 100000 in
theorem c_X10_carry (l : Launch) (D : DG) (cyC cyI cyJ cyZ cyO : ClassId) (x0 : Nat) (a0 : Nat) (a1 : Nat) (a2 : Nat) (a3 : Nat) (a8 : Nat) (a9 : Nat) (a10 : Nat) (n0 : Nat) (n1 : Nat) (n2 : Nat) (n3 : Nat) (q0 : Nat) (q1 : Nat) (r0 : Nat) (k0 : Nat) (x1 : Nat) (o0 : Nat) (h0 : Nat) (s0 : Nat) (d0 : Nat) (a4 : Nat) (a5 : Nat) (a6 : Nat) (a7 : Nat) (n4 : Nat) (p0 : Int32) (p1 : Int32) (p2 : Int32) (a_wares : Int32) (a_shelves : Int32) (a_nests : Int32) (a_lids : Int32) (a_tops : Int32) (n_askings : Int32) (n_cost : Int32) (n_laid : Int32) (q_size : Int32) (a_wide : Nat → Int32) (a_deep : Nat → Int32) (a_weight : Nat → Int32) (a_height : Nat → Int32) (a_reach : Nat → Int32) (a_room : Nat → Int32) (n_shelf : Nat → Int32) (n_stack : Nat → Int32) (n_level : Nat → Int32) (q_ware : Nat → Int32) (h_a_wares : 0 ≤ (a_wares).toInt ∧ (a_wares).toInt ≤ 12) (h_a_shelves : 0 ≤ (a_shelves).toInt ∧ (a_shelves).toInt ≤ 4) (h_a_nests : 0 ≤ (a_nests).toInt ∧ (a_nests).toInt ≤ 4) (h_n_askings : 0 ≤ (n_askings).toInt ∧ (n_askings).toInt ≤ 30) (h_n_laid : 0 ≤ (n_laid).toInt ∧ (n_laid).toInt ≤ 1) (h_q_size : 0 ≤ (q_size).toInt ∧ (q_size).toInt ≤ 12) (h_a_room : Iv 4 (0) (8) a_room) (h_n_shelf : Iv 12 (-1) (3) n_shelf) (h_n_stack : Iv 12 (0) (7) n_stack) (h_n_level : Iv 12 (0) (11) n_level) (h_q_ware : Iv 12 (0) (11) q_ware) : KK l D (TY cyC cyI cyJ cyZ cyO) yX10_carry cX10_carry 4 (some .int) ({ frames := 3, cells := 0, slots := 0, locals := 61 } : Room) 0 0 [.ref x0, .int p0, .int p1, .int p2] [(x0, .inr (10, [.ref r0, .ref a0, .ref n0, .ref k0, .ref x1, .ref q0, .ref o0, .ref h0, .ref s0, .ref d0])), (a0, .inr (9, [.int a_wares, .int a_shelves, .int a_nests, .ref a1, .ref a2, .ref a3, .ref a4, .ref a5, .ref a6, .int a_lids, .int a_tops, .ref a7, .ref a8, .ref a9, .ref a10])), (a1, .inl (cyI, 12, .inl a_wide)), (a2, .inl (cyI, 12, .inl a_deep)), (a3, .inl (cyI, 12, .inl a_weight)), (a8, .inl (cyI, 4, .inl a_height)), (a9, .inl (cyI, 4, .inl a_reach)), (a10, .inl (cyI, 4, .inl a_room)), (n0, .inr (7, [.ref n1, .ref n2, .ref n3, .ref n4, .int n_askings, .int n_cost, .int n_laid])), (n1, .inl (cyI, 12, .inl n_shelf)), (n2, .inl (cyI, 12, .inl n_stack)), (n3, .inl (cyI, 12, .inl n_level)), (q0, .inr (4, [.ref q1, .int q_size])), (q1, .inl (cyI, 12, .inl q_ware))] (fun u => some (.int (u.2.1 0))) (fun u => (0 ≤ (u.2.1 0).toInt ∧ (u.2.1 0).toInt ≤ 6) ∧ (Iv 12 (-1) (3) (u.2.2.1 0)) ∧ (Iv 12 (0) (7) (u.2.2.1 1)) ∧ (0 ≤ (u.2.1 2).toInt ∧ (u.2.1 2).toInt ≤ 12) ∧ (Iv 12 (0) (11) (u.2.2.1 2)) ∧ (PUTR ((0 ≤ (p0).toInt ∧ (p0).toInt < (a_shelves).toInt ∧ 0 ≤ (p1).toInt ∧ (p1).toInt < (stF n_shelf n_stack p0 12).toInt) ∧ (0 ≤ (p2).toInt ∧ (p2).toInt < (a_shelves).toInt) ∧ ¬ (p0).toInt = (p2).toInt) True ((a_room (p2).toInt.toNat).toInt ≤ (stF n_shelf n_stack p2 12).toInt) (fun x => ∀ (r : Nat → Int32) (n : Nat), ROW n_shelf n_stack n_level p0 p1 r n → (x = 6 ∧ a_height (p2).toInt.toNat < hiF (rsC a_wide a_deep a_lids) a_deep r n) ∨ (x = 0 ∧ ¬ a_height (p2).toInt.toNat < hiF (rsC a_wide a_deep a_lids) a_deep r n)) (u.2.1 0).toInt) ∧ (IM ((u.2.1 0).toInt = 0) ((∀ j : Nat, j < 12 → ((u.2.2.1 0) j).toInt = (mvS n_shelf n_stack p0 p1 p2) j) ∧ ∀ j : Nat, j < 12 → ((u.2.2.1 1) j).toInt = mvG n_shelf n_stack p0 p1 p2 (stF n_shelf n_stack p2 12) j)) ∧ (IM (¬ (u.2.1 0).toInt = 0) ((u.2.2.1 0) = n_shelf ∧ (u.2.2.1 1) = n_stack))) (fun u => [(x0, .inr (10, [.ref r0, .ref a0, .ref n0, .ref k0, .ref x1, .ref q0, .ref o0, .ref h0, .ref s0, .ref d0])), (a0, .inr (9, [.int a_wares, .int a_shelves, .int a_nests, .ref a1, .ref a2, .ref a3, .ref a4, .ref a5, .ref a6, .int a_lids, .int a_tops, .ref a7, .ref a8, .ref a9, .ref a10])), (a1, .inl (cyI, 12, .inl a_wide)), (a2, .inl (cyI, 12, .inl a_deep)), (a3, .inl (cyI, 12, .inl a_weight)), (a8, .inl (cyI, 4, .inl a_height)), (a9, .inl (cyI, 4, .inl a_reach)), (a10, .inl (cyI, 4, .inl a_room)), (n0, .inr (7, [.ref n1, .ref n2, .ref n3, .ref n4, .int n_askings, .int (u.2.1 1), .int n_laid])), (n1, .inl (cyI, 12, .inl (u.2.2.1 0))), (n2, .inl (cyI, 12, .inl (u.2.2.1 1))), (n3, .inl (cyI, 12, .inl n_level)), (q0, .inr (4, [.ref q1, .int (u.2.1 2)])), (q1, .inl (cyI, 12, .inl (u.2.2.1 2)))]) := by
  refine KK.of (lv0 := [(0, .ref x0), (1, .int p0), (2, .int p1), (3, .int p2)]) (by decide) rfl (Nat.le_of_ble_eq_true rfl) ?_
  intro p e s m args below meth c A C hr hk hin
  refine j_aload_n (pc := 0) C dX10_carry_0 rfl 0 rfl ?_
  refine j_iload_n (pc := 1) C dX10_carry_1 rfl 1 rfl ?_
  refine j_iload_n (pc := 2) C dX10_carry_2 rfl 2 rfl ?_
  refine j_callV (pc := 3) (As := [.int p0, .int p1]) (rest := []) (wr := [(a1, .inl (cyI, 12, .inl a_wide)), (a2, .inl (cyI, 12, .inl a_deep)), (a3, .inl (cyI, 12, .inl a_weight)), (a8, .inl (cyI, 4, .inl a_height)), (a9, .inl (cyI, 4, .inl a_reach)), (a10, .inl (cyI, 4, .inl a_room)), (n3, .inl (cyI, 12, .inl n_level)), (q0, .inr (4, [.ref q1, .int q_size])), (q1, .inl (cyI, 12, .inl q_ware))]) C (c_X10_isStack l D cyC cyI cyJ cyZ cyO x0 a0 n0 n1 n2 r0 k0 x1 q0 o0 h0 s0 d0 a1 a2 a3 a4 a5 a6 a7 a8 a9 a10 n3 n4 p0 p1 a_wares a_shelves a_nests a_lids a_tops n_askings n_cost n_laid n_shelf n_stack h_a_wares h_a_shelves h_a_nests h_n_askings h_n_laid h_n_shelf h_n_stack) wd_499 wd_482 wd_500 wd_501 wd_502 ⟨by decide, by decide, rfl⟩ rfl ⟨rfl, rfl, by decide, by decide⟩ ⟨by decide, by decide⟩ [0, 1, 8, 9, 10] [2, 3, 4, 5, 6, 7, 11, 12, 13] rfl rfl ⟨by decide, by decide, by decide⟩ 0 rfl rfl rfl (Nat.le_of_ble_eq_true rfl) dX10_carry_3 (fun u_1 hw_2 => ?_)
  refine j_eq (ws2 := [(a1, .inl (cyI, 12, .inl a_wide)), (a2, .inl (cyI, 12, .inl a_deep)), (a3, .inl (cyI, 12, .inl a_weight)), (a8, .inl (cyI, 4, .inl a_height)), (a9, .inl (cyI, 4, .inl a_reach)), (a10, .inl (cyI, 4, .inl a_room)), (n3, .inl (cyI, 12, .inl n_level)), (q0, .inr (4, [.ref q1, .int q_size])), (q1, .inl (cyI, 12, .inl q_ware)), (x0, .inr (10, [.ref r0, .ref a0, .ref n0, .ref k0, .ref x1, .ref q0, .ref o0, .ref h0, .ref s0, .ref d0])), (a0, .inr (9, [.int a_wares, .int a_shelves, .int a_nests, .ref a1, .ref a2, .ref a3, .ref a4, .ref a5, .ref a6, .int a_lids, .int a_tops, .ref a7, .ref a8, .ref a9, .ref a10])), (n0, .inr (7, [.ref n1, .ref n2, .ref n3, .ref n4, .int n_askings, .int n_cost, .int n_laid])), (n1, .inl (cyI, 12, .inl n_shelf)), (n2, .inl (cyI, 12, .inl n_stack))]) (pc2 := 6) (lv2 := [(0, .ref x0), (1, .int p0), (2, .int p1), (3, .int p2)]) (st2 := [.int (u_1.2.1 0)]) rfl rfl rfl rfl ?_
  obtain ⟨hw_2_0, hw_2_1, hw_2_2, hw_2_3⟩ := hw_2
  refine j_if_eq (pc := 6) (tgt := 25) C dX10_carry_6 (by decide) (fun c_3 => ?_) (fun c_3 => ?_)
  · skip
    have el_0 : (0 : Int32).toInt = 0 := rfl
    rw [i_eq] at c_3
    refine j_iconst (pc := 25) (v := 1) C dX10_carry_25 (by decide) ?_
    have el_1 : (1 : Int32).toInt = 1 := rfl
    have el_1 : (1 : Int32).toInt = 1 := rfl
    have el_1 : (1 : Int32).toInt = 1 := rfl
    have el_1 : (1 : Int32).toInt = 1 := rfl
    exact j_iret (pc := 26) C hr hk (fun i => [].getD i 0, fun i => [1, n_cost, q_size].getD i 0, fun i => [n_shelf, n_stack, q_ware].getD i (fun _ => 0), fun i => [].getD i (fun _ => 0)) rfl (show (0 ≤ ((1 : Int32)).toInt ∧ ((1 : Int32)).toInt ≤ 6) ∧ (Iv 12 (-1) (3) n_shelf) ∧ (Iv 12 (0) (7) n_stack) ∧ (0 ≤ (q_size).toInt ∧ (q_size).toInt ≤ 12) ∧ (Iv 12 (0) (11) q_ware) ∧ (PUTR ((0 ≤ (p0).toInt ∧ (p0).toInt < (a_shelves).toInt ∧ 0 ≤ (p1).toInt ∧ (p1).toInt < (stF n_shelf n_stack p0 12).toInt) ∧ (0 ≤ (p2).toInt ∧ (p2).toInt < (a_shelves).toInt) ∧ ¬ (p0).toInt = (p2).toInt) True ((a_room (p2).toInt.toNat).toInt ≤ (stF n_shelf n_stack p2 12).toInt) (fun x => ∀ (r : Nat → Int32) (n : Nat), ROW n_shelf n_stack n_level p0 p1 r n → (x = 6 ∧ a_height (p2).toInt.toNat < hiF (rsC a_wide a_deep a_lids) a_deep r n) ∨ (x = 0 ∧ ¬ a_height (p2).toInt.toNat < hiF (rsC a_wide a_deep a_lids) a_deep r n)) (1 : Int32).toInt) ∧ (IM ((1 : Int32).toInt = 0) ((∀ j : Nat, j < 12 → (n_shelf j).toInt = (mvS n_shelf n_stack p0 p1 p2) j) ∧ ∀ j : Nat, j < 12 → (n_stack j).toInt = mvG n_shelf n_stack p0 p1 p2 (stF n_shelf n_stack p2 12) j)) ∧ (IM (¬ (1 : Int32).toInt = 0) (n_shelf = n_shelf ∧ n_stack = n_stack)) from ⟨by omega, h_n_shelf, h_n_stack, h_q_size, h_q_ware, (Or.inl ⟨rfl, fun z => by obtain ⟨z1, z2, z3⟩ := z; rcases (by omega : (u_1.2.1 0).toInt = 0 ∨ (u_1.2.1 0).toInt = 1) with q | q; (exact hw_2_3 q z1); omega⟩), (fun z9 => absurd z9 (by decide)), (fun _ => ⟨rfl, rfl⟩)⟩) [9, 10, 0, 1, 2, 3, 4, 5, 11, 12, 13, 6, 7, 8] (by decide) rfl (by decide) (by decide) dX10_carry_26
  · skip
    have el_0 : (0 : Int32).toInt = 0 := rfl
    rw [i_eq] at c_3
    have k0c_3 : ((u_1.2.1 0)).toInt = 1 := by omega
    refine j_aload_n (pc := 9) C dX10_carry_9 rfl 0 rfl ?_
    refine j_get (pc := 10) (ci := 10) (v := .ref a0) C inw_10 9 rfl rfl 1 (by decide) wd_447 rfl rfl dX10_carry_10 ?_
    refine j_iload_n (pc := 13) C dX10_carry_13 rfl 3 rfl ?_
    refine j_callV (pc := 14) (As := [.int p2]) (rest := []) (wr := [(a1, .inl (cyI, 12, .inl a_wide)), (a2, .inl (cyI, 12, .inl a_deep)), (a3, .inl (cyI, 12, .inl a_weight)), (a8, .inl (cyI, 4, .inl a_height)), (a9, .inl (cyI, 4, .inl a_reach)), (a10, .inl (cyI, 4, .inl a_room)), (n3, .inl (cyI, 12, .inl n_level)), (q0, .inr (4, [.ref q1, .int q_size])), (q1, .inl (cyI, 12, .inl q_ware)), (x0, .inr (10, [.ref r0, .ref a0, .ref n0, .ref k0, .ref x1, .ref q0, .ref o0, .ref h0, .ref s0, .ref d0])), (n0, .inr (7, [.ref n1, .ref n2, .ref n3, .ref n4, .int n_askings, .int n_cost, .int n_laid])), (n1, .inl (cyI, 12, .inl n_shelf)), (n2, .inl (cyI, 12, .inl n_stack))]) C (c_X9_isShelf l D cyC cyI cyJ cyZ cyO a0 a1 a2 a3 a4 a5 a6 a7 a8 a9 a10 p2 a_wares a_shelves a_nests a_lids a_tops h_a_wares h_a_shelves h_a_nests) wd_462 wd_33 wd_463 wd_464 wd_465 ⟨by decide, by decide, rfl⟩ rfl ⟨rfl, rfl, by decide, by decide⟩ ⟨by decide, by decide⟩ [10] [0, 1, 2, 3, 4, 5, 6, 7, 8, 9, 11, 12, 13] rfl rfl ⟨by decide, by decide, by decide⟩ 10 rfl rfl rfl (Nat.le_of_ble_eq_true rfl) dX10_carry_14 (fun u_4 hw_5 => ?_)
    refine j_eq (ws2 := [(a1, .inl (cyI, 12, .inl a_wide)), (a2, .inl (cyI, 12, .inl a_deep)), (a3, .inl (cyI, 12, .inl a_weight)), (a8, .inl (cyI, 4, .inl a_height)), (a9, .inl (cyI, 4, .inl a_reach)), (a10, .inl (cyI, 4, .inl a_room)), (n3, .inl (cyI, 12, .inl n_level)), (q0, .inr (4, [.ref q1, .int q_size])), (q1, .inl (cyI, 12, .inl q_ware)), (x0, .inr (10, [.ref r0, .ref a0, .ref n0, .ref k0, .ref x1, .ref q0, .ref o0, .ref h0, .ref s0, .ref d0])), (n0, .inr (7, [.ref n1, .ref n2, .ref n3, .ref n4, .int n_askings, .int n_cost, .int n_laid])), (n1, .inl (cyI, 12, .inl n_shelf)), (n2, .inl (cyI, 12, .inl n_stack)), (a0, .inr (9, [.int a_wares, .int a_shelves, .int a_nests, .ref a1, .ref a2, .ref a3, .ref a4, .ref a5, .ref a6, .int a_lids, .int a_tops, .ref a7, .ref a8, .ref a9, .ref a10]))]) (pc2 := 17) (lv2 := [(0, .ref x0), (1, .int p0), (2, .int p1), (3, .int p2)]) (st2 := [.int (u_4.2.1 0)]) rfl rfl rfl rfl ?_
    obtain ⟨hw_5_0, hw_5_1, hw_5_2⟩ := hw_5
    refine j_if_eq (pc := 17) (tgt := 25) C dX10_carry_17 (by decide) (fun c_6 => ?_) (fun c_6 => ?_)
    · skip
      have el_0 : (0 : Int32).toInt = 0 := rfl
      rw [i_eq] at c_6
      refine j_iconst (pc := 25) (v := 1) C dX10_carry_25 (by decide) ?_
      have el_1 : (1 : Int32).toInt = 1 := rfl
      have el_1 : (1 : Int32).toInt = 1 := rfl
      have el_1 : (1 : Int32).toInt = 1 := rfl
      have el_1 : (1 : Int32).toInt = 1 := rfl
      exact j_iret (pc := 26) C hr hk (fun i => [].getD i 0, fun i => [1, n_cost, q_size].getD i 0, fun i => [n_shelf, n_stack, q_ware].getD i (fun _ => 0), fun i => [].getD i (fun _ => 0)) rfl (show (0 ≤ ((1 : Int32)).toInt ∧ ((1 : Int32)).toInt ≤ 6) ∧ (Iv 12 (-1) (3) n_shelf) ∧ (Iv 12 (0) (7) n_stack) ∧ (0 ≤ (q_size).toInt ∧ (q_size).toInt ≤ 12) ∧ (Iv 12 (0) (11) q_ware) ∧ (PUTR ((0 ≤ (p0).toInt ∧ (p0).toInt < (a_shelves).toInt ∧ 0 ≤ (p1).toInt ∧ (p1).toInt < (stF n_shelf n_stack p0 12).toInt) ∧ (0 ≤ (p2).toInt ∧ (p2).toInt < (a_shelves).toInt) ∧ ¬ (p0).toInt = (p2).toInt) True ((a_room (p2).toInt.toNat).toInt ≤ (stF n_shelf n_stack p2 12).toInt) (fun x => ∀ (r : Nat → Int32) (n : Nat), ROW n_shelf n_stack n_level p0 p1 r n → (x = 6 ∧ a_height (p2).toInt.toNat < hiF (rsC a_wide a_deep a_lids) a_deep r n) ∨ (x = 0 ∧ ¬ a_height (p2).toInt.toNat < hiF (rsC a_wide a_deep a_lids) a_deep r n)) (1 : Int32).toInt) ∧ (IM ((1 : Int32).toInt = 0) ((∀ j : Nat, j < 12 → (n_shelf j).toInt = (mvS n_shelf n_stack p0 p1 p2) j) ∧ ∀ j : Nat, j < 12 → (n_stack j).toInt = mvG n_shelf n_stack p0 p1 p2 (stF n_shelf n_stack p2 12) j)) ∧ (IM (¬ (1 : Int32).toInt = 0) (n_shelf = n_shelf ∧ n_stack = n_stack)) from ⟨by omega, h_n_shelf, h_n_stack, h_q_size, h_q_ware, (Or.inl ⟨rfl, fun z => by obtain ⟨z1, z2, z3⟩ := z; rcases (by omega : (u_1.2.1 0).toInt = 0 ∨ (u_1.2.1 0).toInt = 1) with q | q; (exact hw_2_3 q z1); omega⟩), (fun z9 => absurd z9 (by decide)), (fun _ => ⟨rfl, rfl⟩)⟩) [9, 13, 0, 1, 2, 3, 4, 5, 10, 11, 12, 6, 7, 8] (by decide) rfl (by decide) (by decide) dX10_carry_26
    · skip
      have el_0 : (0 : Int32).toInt = 0 := rfl
      rw [i_eq] at c_6
      have k0c_6 : ((u_4.2.1 0)).toInt = 1 := by omega
      refine j_iload_n (pc := 20) C dX10_carry_20 rfl 1 rfl ?_
      refine j_iload_n (pc := 21) C dX10_carry_21 rfl 3 rfl ?_
      refine j_icmp_ne (pc := 22) (tgt := 27) C dX10_carry_22 (by decide) (fun c_7 => ?_) (fun c_7 => ?_)
      · skip
        rw [i_eq] at c_7
        refine j_aload_n (pc := 27) C dX10_carry_27 rfl 0 rfl ?_
        refine j_get (pc := 28) (ci := 10) (v := .ref n0) C inw_10 9 rfl rfl 2 (by decide) wd_466 rfl rfl dX10_carry_28 ?_
        refine j_iload_n (pc := 31) C dX10_carry_31 rfl 3 rfl ?_
        refine j_callV (pc := 32) (As := [.int p2]) (rest := []) (wr := [(a1, .inl (cyI, 12, .inl a_wide)), (a2, .inl (cyI, 12, .inl a_deep)), (a3, .inl (cyI, 12, .inl a_weight)), (a8, .inl (cyI, 4, .inl a_height)), (a9, .inl (cyI, 4, .inl a_reach)), (a10, .inl (cyI, 4, .inl a_room)), (n3, .inl (cyI, 12, .inl n_level)), (q0, .inr (4, [.ref q1, .int q_size])), (q1, .inl (cyI, 12, .inl q_ware)), (x0, .inr (10, [.ref r0, .ref a0, .ref n0, .ref k0, .ref x1, .ref q0, .ref o0, .ref h0, .ref s0, .ref d0])), (a0, .inr (9, [.int a_wares, .int a_shelves, .int a_nests, .ref a1, .ref a2, .ref a3, .ref a4, .ref a5, .ref a6, .int a_lids, .int a_tops, .ref a7, .ref a8, .ref a9, .ref a10]))]) C (c_X7_stacks l D cyC cyI cyJ cyZ cyO n0 n1 n2 n3 n4 p2 n_askings n_cost n_laid n_shelf n_stack h_n_askings h_n_laid h_n_shelf h_n_stack) wd_66 wd_9 wd_437 wd_68 wd_69 ⟨by decide, by decide, rfl⟩ rfl ⟨rfl, rfl, by decide, by decide⟩ ⟨by decide, by decide⟩ [10, 11, 12] [0, 1, 2, 3, 4, 5, 6, 7, 8, 9, 13] rfl rfl ⟨by decide, by decide, by decide⟩ 10 rfl rfl rfl (Nat.le_of_ble_eq_true rfl) dX10_carry_32 (fun u_8 hw_9 => ?_)
        refine j_eq (ws2 := [(a1, .inl (cyI, 12, .inl a_wide)), (a2, .inl (cyI, 12, .inl a_deep)), (a3, .inl (cyI, 12, .inl a_weight)), (a8, .inl (cyI, 4, .inl a_height)), (a9, .inl (cyI, 4, .inl a_reach)), (a10, .inl (cyI, 4, .inl a_room)), (n3, .inl (cyI, 12, .inl n_level)), (q0, .inr (4, [.ref q1, .int q_size])), (q1, .inl (cyI, 12, .inl q_ware)), (x0, .inr (10, [.ref r0, .ref a0, .ref n0, .ref k0, .ref x1, .ref q0, .ref o0, .ref h0, .ref s0, .ref d0])), (a0, .inr (9, [.int a_wares, .int a_shelves, .int a_nests, .ref a1, .ref a2, .ref a3, .ref a4, .ref a5, .ref a6, .int a_lids, .int a_tops, .ref a7, .ref a8, .ref a9, .ref a10])), (n0, .inr (7, [.ref n1, .ref n2, .ref n3, .ref n4, .int n_askings, .int n_cost, .int n_laid])), (n1, .inl (cyI, 12, .inl n_shelf)), (n2, .inl (cyI, 12, .inl n_stack))]) (pc2 := 35) (lv2 := [(0, .ref x0), (1, .int p0), (2, .int p1), (3, .int p2)]) (st2 := [.int (u_8.2.1 0)]) rfl rfl rfl rfl ?_
        obtain ⟨hw_9_0, hw_9_1⟩ := hw_9
        refine j_aload_n (pc := 35) C dX10_carry_35 rfl 0 rfl ?_
        refine j_get (pc := 36) (ci := 10) (v := .ref a0) C inw_10 9 rfl rfl 1 (by decide) wd_447 rfl rfl dX10_carry_36 ?_
        refine j_get (pc := 39) (ci := 9) (v := .ref a10) C inw_9 10 rfl rfl 14 (by decide) wd_453 rfl rfl dX10_carry_39 ?_
        refine j_iload_n (pc := 42) C dX10_carry_42 rfl 3 rfl ?_
        obtain ⟨v_10, ev_10⟩ : ∃ z, a_room (p2).toInt.toNat = z := ⟨_, rfl⟩
        have env_10 : (a_room (p2).toInt.toNat).toInt = v_10.toInt := by rw [ev_10]
        have hv_10 := h_a_room (p2).toInt.toNat (i_lt_n (by omega) (by omega)); rw [ev_10] at hv_10
        refine j_iald (pc := 43) (v := v_10) (k := (p2).toInt.toNat) C 5 1 rfl rfl (i_nn (by omega)) rfl (i_lt_n (by omega) (by omega)) ev_10 dX10_carry_43 ?_
        refine j_icmp_lt (pc := 44) (tgt := 49) C dX10_carry_44 (by decide) (fun c_11 => ?_) (fun c_11 => ?_)
        · skip
          rw [i_lt] at c_11
          refine j_aload_n (pc := 49) C dX10_carry_49 rfl 0 rfl ?_
          refine j_get (pc := 50) (ci := 10) (v := .ref q0) C inw_10 9 rfl rfl 5 (by decide) wd_438 rfl rfl dX10_carry_50 ?_
          refine j_aload_n (pc := 53) C dX10_carry_53 rfl 0 rfl ?_
          refine j_get (pc := 54) (ci := 10) (v := .ref n0) C inw_10 9 rfl rfl 2 (by decide) wd_466 rfl rfl dX10_carry_54 ?_
          refine j_iload_n (pc := 57) C dX10_carry_57 rfl 1 rfl ?_
          refine j_iload_n (pc := 58) C dX10_carry_58 rfl 2 rfl ?_
          refine j_callV (pc := 59) (As := [.ref n0, .int p0, .int p1]) (rest := []) (wr := [(a1, .inl (cyI, 12, .inl a_wide)), (a2, .inl (cyI, 12, .inl a_deep)), (a3, .inl (cyI, 12, .inl a_weight)), (a8, .inl (cyI, 4, .inl a_height)), (a9, .inl (cyI, 4, .inl a_reach)), (a10, .inl (cyI, 4, .inl a_room)), (x0, .inr (10, [.ref r0, .ref a0, .ref n0, .ref k0, .ref x1, .ref q0, .ref o0, .ref h0, .ref s0, .ref d0])), (a0, .inr (9, [.int a_wares, .int a_shelves, .int a_nests, .ref a1, .ref a2, .ref a3, .ref a4, .ref a5, .ref a6, .int a_lids, .int a_tops, .ref a7, .ref a8, .ref a9, .ref a10]))]) C (c_X4_take l D cyC cyI cyJ cyZ cyO q0 q1 n0 n1 n2 n3 n4 p0 p1 q_size n_askings n_cost n_laid q_ware n_shelf n_stack n_level h_q_size h_n_askings h_n_laid h_q_ware h_n_shelf h_n_stack h_n_level) wd_439 wd_40 wd_440 wd_441 wd_442 ⟨by decide, by decide, rfl⟩ rfl ⟨rfl, rfl, by decide, by decide⟩ ⟨by decide, by decide⟩ [7, 8, 11, 12, 13, 6] [0, 1, 2, 3, 4, 5, 9, 10] rfl rfl ⟨by decide, by decide, by decide⟩ 7 rfl rfl rfl (Nat.le_of_ble_eq_true rfl) dX10_carry_59 (fun u_12 hw_13 => ?_)
          refine j_eq (ws2 := [(a1, .inl (cyI, 12, .inl a_wide)), (a2, .inl (cyI, 12, .inl a_deep)), (a3, .inl (cyI, 12, .inl a_weight)), (a8, .inl (cyI, 4, .inl a_height)), (a9, .inl (cyI, 4, .inl a_reach)), (a10, .inl (cyI, 4, .inl a_room)), (x0, .inr (10, [.ref r0, .ref a0, .ref n0, .ref k0, .ref x1, .ref q0, .ref o0, .ref h0, .ref s0, .ref d0])), (a0, .inr (9, [.int a_wares, .int a_shelves, .int a_nests, .ref a1, .ref a2, .ref a3, .ref a4, .ref a5, .ref a6, .int a_lids, .int a_tops, .ref a7, .ref a8, .ref a9, .ref a10])), (q0, .inr (4, [.ref q1, .int (u_12.2.1 0)])), (q1, .inl (cyI, 12, .inl (u_12.2.2.1 0))), (n0, .inr (7, [.ref n1, .ref n2, .ref n3, .ref n4, .int n_askings, .int n_cost, .int n_laid])), (n1, .inl (cyI, 12, .inl n_shelf)), (n2, .inl (cyI, 12, .inl n_stack)), (n3, .inl (cyI, 12, .inl n_level))]) (pc2 := 62) (lv2 := [(0, .ref x0), (1, .int p0), (2, .int p1), (3, .int p2)]) (st2 := []) rfl rfl rfl rfl ?_
          obtain ⟨hw_13_0, hw_13_1, hw_13_2, hw_13_3⟩ := hw_13
          refine j_aload_n (pc := 62) C dX10_carry_62 rfl 0 rfl ?_
          refine j_get (pc := 63) (ci := 10) (v := .ref q0) C inw_10 6 rfl rfl 5 (by decide) wd_438 rfl rfl dX10_carry_63 ?_
          refine j_aload_n (pc := 66) C dX10_carry_66 rfl 0 rfl ?_
          refine j_get (pc := 67) (ci := 10) (v := .ref a0) C inw_10 6 rfl rfl 1 (by decide) wd_447 rfl rfl dX10_carry_67 ?_
          refine j_callV (pc := 70) (As := [.ref a0]) (rest := []) (wr := [(a3, .inl (cyI, 12, .inl a_weight)), (a8, .inl (cyI, 4, .inl a_height)), (a9, .inl (cyI, 4, .inl a_reach)), (a10, .inl (cyI, 4, .inl a_room)), (x0, .inr (10, [.ref r0, .ref a0, .ref n0, .ref k0, .ref x1, .ref q0, .ref o0, .ref h0, .ref s0, .ref d0])), (n0, .inr (7, [.ref n1, .ref n2, .ref n3, .ref n4, .int n_askings, .int n_cost, .int n_laid])), (n1, .inl (cyI, 12, .inl n_shelf)), (n2, .inl (cyI, 12, .inl n_stack)), (n3, .inl (cyI, 12, .inl n_level))]) C (c_X4_highestRim l D cyC cyI cyJ cyZ cyO q0 q1 a0 a1 a2 a3 a4 a5 a6 a7 a8 a9 a10 (u_12.2.1 0) a_wares a_shelves a_nests a_lids a_tops (u_12.2.2.1 0) a_wide a_deep hw_13_0 h_a_wares h_a_shelves h_a_nests hw_13_1) wd_44 wd_40 wd_503 wd_46 wd_47 ⟨by decide, by decide, rfl⟩ rfl ⟨rfl, rfl, by decide, by decide⟩ ⟨by decide, by decide⟩ [8, 9, 7, 0, 1] [2, 3, 4, 5, 6, 10, 11, 12, 13] rfl rfl ⟨by decide, by decide, by decide⟩ 8 rfl rfl rfl (Nat.le_of_ble_eq_true rfl) dX10_carry_70 (fun u_14 hw_15 => ?_)
          refine j_eq (ws2 := [(a3, .inl (cyI, 12, .inl a_weight)), (a8, .inl (cyI, 4, .inl a_height)), (a9, .inl (cyI, 4, .inl a_reach)), (a10, .inl (cyI, 4, .inl a_room)), (x0, .inr (10, [.ref r0, .ref a0, .ref n0, .ref k0, .ref x1, .ref q0, .ref o0, .ref h0, .ref s0, .ref d0])), (n0, .inr (7, [.ref n1, .ref n2, .ref n3, .ref n4, .int n_askings, .int n_cost, .int n_laid])), (n1, .inl (cyI, 12, .inl n_shelf)), (n2, .inl (cyI, 12, .inl n_stack)), (n3, .inl (cyI, 12, .inl n_level)), (q0, .inr (4, [.ref q1, .int (u_12.2.1 0)])), (q1, .inl (cyI, 12, .inl (u_12.2.2.1 0))), (a0, .inr (9, [.int a_wares, .int a_shelves, .int a_nests, .ref a1, .ref a2, .ref a3, .ref a4, .ref a5, .ref a6, .int a_lids, .int a_tops, .ref a7, .ref a8, .ref a9, .ref a10])), (a1, .inl (cyI, 12, .inl a_wide)), (a2, .inl (cyI, 12, .inl a_deep))]) (pc2 := 73) (lv2 := [(0, .ref x0), (1, .int p0), (2, .int p1), (3, .int p2)]) (st2 := [.int (u_14.2.1 0)]) rfl rfl rfl rfl ?_
          have hw_15_0 : (u_14.2.1 0) = hiF (rsC a_wide a_deep a_lids) a_deep (u_12.2.2.1 0) ((u_12.2.1 0)).toInt.toNat := hw_15
          refine j_aload_n (pc := 73) C dX10_carry_73 rfl 0 rfl ?_
          refine j_get (pc := 74) (ci := 10) (v := .ref a0) C inw_10 4 rfl rfl 1 (by decide) wd_447 rfl rfl dX10_carry_74 ?_
          refine j_get (pc := 77) (ci := 9) (v := .ref a8) C inw_9 11 rfl rfl 12 (by decide) wd_448 rfl rfl dX10_carry_77 ?_
          refine j_iload_n (pc := 80) C dX10_carry_80 rfl 3 rfl ?_
          obtain ⟨v_16, ev_16⟩ : ∃ z, a_height (p2).toInt.toNat = z := ⟨_, rfl⟩
          have env_16 : (a_height (p2).toInt.toNat).toInt = v_16.toInt := by rw [ev_16]
          refine j_iald (pc := 81) (v := v_16) (k := (p2).toInt.toNat) C 1 1 rfl rfl (i_nn (by omega)) rfl (i_lt_n (by omega) (by omega)) ev_16 dX10_carry_81 ?_
          refine j_icmp_le (pc := 82) (tgt := 88) C dX10_carry_82 (by decide) (fun c_17 => ?_) (fun c_17 => ?_)
          · skip
            rw [i_le] at c_17
            refine j_aload_n (pc := 88) C dX10_carry_88 rfl 0 rfl ?_
            refine j_get (pc := 89) (ci := 10) (v := .ref n0) C inw_10 4 rfl rfl 2 (by decide) wd_466 rfl rfl dX10_carry_89 ?_
            refine j_dup (pc := 92) C dX10_carry_92 rfl ?_
            refine j_get (pc := 93) (ci := 7) (v := .int n_cost) C inw_7 5 rfl rfl 5 (by decide) wd_486 rfl rfl dX10_carry_93 ?_
            refine j_iconst (pc := 96) (v := 2) C dX10_carry_96 (by decide) ?_
            refine j_aload_n (pc := 97) C dX10_carry_97 rfl 0 rfl ?_
            refine j_get (pc := 98) (ci := 10) (v := .ref q0) C inw_10 4 rfl rfl 5 (by decide) wd_438 rfl rfl dX10_carry_98 ?_
            refine j_aload_n (pc := 101) C dX10_carry_101 rfl 0 rfl ?_
            refine j_get (pc := 102) (ci := 10) (v := .ref a0) C inw_10 4 rfl rfl 1 (by decide) wd_447 rfl rfl dX10_carry_102 ?_
            refine j_iconst (pc := 105) (v := 0) C dX10_carry_105 (by decide) ?_
            refine j_callV (pc := 106) (As := [.ref a0, .int 0]) (rest := [.int 2, .int n_cost, .ref n0]) (wr := [(a8, .inl (cyI, 4, .inl a_height)), (a9, .inl (cyI, 4, .inl a_reach)), (a10, .inl (cyI, 4, .inl a_room)), (x0, .inr (10, [.ref r0, .ref a0, .ref n0, .ref k0, .ref x1, .ref q0, .ref o0, .ref h0, .ref s0, .ref d0])), (n0, .inr (7, [.ref n1, .ref n2, .ref n3, .ref n4, .int n_askings, .int n_cost, .int n_laid])), (n1, .inl (cyI, 12, .inl n_shelf)), (n2, .inl (cyI, 12, .inl n_stack)), (n3, .inl (cyI, 12, .inl n_level)), (a1, .inl (cyI, 12, .inl a_wide)), (a2, .inl (cyI, 12, .inl a_deep))]) C (c_X4_weightFrom l D cyC cyI cyJ cyZ cyO q0 q1 a0 a3 a1 a2 a4 a5 a6 a7 a8 a9 a10 0 (u_12.2.1 0) a_wares a_shelves a_nests a_lids a_tops (u_12.2.2.1 0) a_weight hw_13_0 h_a_wares h_a_shelves h_a_nests (by decide) hw_13_1) wd_39 wd_40 wd_504 wd_42 wd_43 ⟨by decide, by decide, rfl⟩ rfl ⟨rfl, rfl, by decide, by decide⟩ ⟨by decide, by decide⟩ [9, 10, 11, 0] [1, 2, 3, 4, 5, 6, 7, 8, 12, 13] rfl rfl ⟨by decide, by decide, by decide⟩ 9 rfl rfl rfl (Nat.le_of_ble_eq_true rfl) dX10_carry_106 (fun u_18 hw_19 => ?_)
            refine j_eq (ws2 := [(a8, .inl (cyI, 4, .inl a_height)), (a9, .inl (cyI, 4, .inl a_reach)), (a10, .inl (cyI, 4, .inl a_room)), (x0, .inr (10, [.ref r0, .ref a0, .ref n0, .ref k0, .ref x1, .ref q0, .ref o0, .ref h0, .ref s0, .ref d0])), (n0, .inr (7, [.ref n1, .ref n2, .ref n3, .ref n4, .int n_askings, .int n_cost, .int n_laid])), (n1, .inl (cyI, 12, .inl n_shelf)), (n2, .inl (cyI, 12, .inl n_stack)), (n3, .inl (cyI, 12, .inl n_level)), (a1, .inl (cyI, 12, .inl a_wide)), (a2, .inl (cyI, 12, .inl a_deep)), (q0, .inr (4, [.ref q1, .int (u_12.2.1 0)])), (q1, .inl (cyI, 12, .inl (u_12.2.2.1 0))), (a0, .inr (9, [.int a_wares, .int a_shelves, .int a_nests, .ref a1, .ref a2, .ref a3, .ref a4, .ref a5, .ref a6, .int a_lids, .int a_tops, .ref a7, .ref a8, .ref a9, .ref a10])), (a3, .inl (cyI, 12, .inl a_weight))]) (pc2 := 109) (lv2 := [(0, .ref x0), (1, .int p0), (2, .int p1), (3, .int p2)]) (st2 := [.int (u_18.2.1 0), .int 2, .int n_cost, .ref n0]) rfl rfl rfl rfl ?_
            have hw_19_0 : (u_18.2.1 0) = wtF a_weight (u_12.2.2.1 0) ((0 : Int32)).toInt.toNat ((u_12.2.1 0)).toInt.toNat := hw_19
            obtain ⟨v_20, ev_20⟩ : ∃ z : Int32, 2 * (u_18.2.1 0) = z := ⟨_, rfl⟩
            have el_2 : (2 : Int32).toInt = 2 := rfl
            refine j_imul (pc := 109) (v := v_20) C dX10_carry_109 ev_20 ?_
            refine j_aload_n (pc := 110) C dX10_carry_110 rfl 0 rfl ?_
            refine j_get (pc := 111) (ci := 10) (v := .ref q0) C inw_10 3 rfl rfl 5 (by decide) wd_438 rfl rfl dX10_carry_111 ?_
            refine j_get (pc := 114) (ci := 4) (v := .int (u_12.2.1 0)) C inw_4 10 rfl rfl 1 (by decide) wd_505 rfl rfl dX10_carry_114 ?_
            refine j_aload_n (pc := 117) C dX10_carry_117 rfl 0 rfl ?_
            refine j_get (pc := 118) (ci := 10) (v := .ref a0) C inw_10 3 rfl rfl 1 (by decide) wd_447 rfl rfl dX10_carry_118 ?_
            refine j_get (pc := 121) (ci := 9) (v := .ref a9) C inw_9 12 rfl rfl 13 (by decide) wd_457 rfl rfl dX10_carry_121 ?_
            refine j_iload_n (pc := 124) C dX10_carry_124 rfl 1 rfl ?_
            obtain ⟨v_21, ev_21⟩ : ∃ z, a_reach (p0).toInt.toNat = z := ⟨_, rfl⟩
            have env_21 : (a_reach (p0).toInt.toNat).toInt = v_21.toInt := by rw [ev_21]
            refine j_iald (pc := 125) (v := v_21) (k := (p0).toInt.toNat) C 1 1 rfl rfl (i_nn (by omega)) rfl (i_lt_n (by omega) (by omega)) ev_21 dX10_carry_125 ?_
            refine j_aload_n (pc := 126) C dX10_carry_126 rfl 0 rfl ?_
            refine j_get (pc := 127) (ci := 10) (v := .ref a0) C inw_10 3 rfl rfl 1 (by decide) wd_447 rfl rfl dX10_carry_127 ?_
            refine j_get (pc := 130) (ci := 9) (v := .ref a9) C inw_9 12 rfl rfl 13 (by decide) wd_457 rfl rfl dX10_carry_130 ?_
            refine j_iload_n (pc := 133) C dX10_carry_133 rfl 3 rfl ?_
            obtain ⟨v_22, ev_22⟩ : ∃ z, a_reach (p2).toInt.toNat = z := ⟨_, rfl⟩
            have env_22 : (a_reach (p2).toInt.toNat).toInt = v_22.toInt := by rw [ev_22]
            refine j_iald (pc := 134) (v := v_22) (k := (p2).toInt.toNat) C 1 1 rfl rfl (i_nn (by omega)) rfl (i_lt_n (by omega) (by omega)) ev_22 dX10_carry_134 ?_
            obtain ⟨v_23, ev_23⟩ : ∃ z : Int32, v_21 + v_22 = z := ⟨_, rfl⟩
            refine j_iadd (pc := 135) (v := v_23) C dX10_carry_135 ev_23 ?_
            obtain ⟨v_24, ev_24⟩ : ∃ z : Int32, (u_12.2.1 0) * v_23 = z := ⟨_, rfl⟩
            refine j_imul (pc := 136) (v := v_24) C dX10_carry_136 ev_24 ?_
            obtain ⟨v_25, ev_25⟩ : ∃ z : Int32, v_20 + v_24 = z := ⟨_, rfl⟩
            refine j_iadd (pc := 137) (v := v_25) C dX10_carry_137 ev_25 ?_
            obtain ⟨v_26, ev_26⟩ : ∃ z : Int32, n_cost + v_25 = z := ⟨_, rfl⟩
            refine j_iadd (pc := 138) (v := v_26) C dX10_carry_138 ev_26 ?_
            refine j_put (pc := 139) (ci := 7) (v := .int v_26) (ws' := [(a8, .inl (cyI, 4, .inl a_height)), (a9, .inl (cyI, 4, .inl a_reach)), (a10, .inl (cyI, 4, .inl a_room)), (x0, .inr (10, [.ref r0, .ref a0, .ref n0, .ref k0, .ref x1, .ref q0, .ref o0, .ref h0, .ref s0, .ref d0])), (n0, .inr (7, [.ref n1, .ref n2, .ref n3, .ref n4, .int n_askings, .int v_26, .int n_laid])), (n1, .inl (cyI, 12, .inl n_shelf)), (n2, .inl (cyI, 12, .inl n_stack)), (n3, .inl (cyI, 12, .inl n_level)), (a1, .inl (cyI, 12, .inl a_wide)), (a2, .inl (cyI, 12, .inl a_deep)), (q0, .inr (4, [.ref q1, .int (u_12.2.1 0)])), (q1, .inl (cyI, 12, .inl (u_12.2.2.1 0))), (a0, .inr (9, [.int a_wares, .int a_shelves, .int a_nests, .ref a1, .ref a2, .ref a3, .ref a4, .ref a5, .ref a6, .int a_lids, .int a_tops, .ref a7, .ref a8, .ref a9, .ref a10])), (a3, .inl (cyI, 12, .inl a_weight))]) C inw_7 4 rfl rfl 5 (by decide) wd_486 rfl tyX7_ok nmX7 rfl (tyX7_ok 5 (by decide)) rfl rfl (Nat.le_of_ble_eq_true rfl) dX10_carry_139 rfl ?_
            refine j_aload_n (pc := 142) C dX10_carry_142 rfl 0 rfl ?_
            refine j_get (pc := 143) (ci := 10) (v := .ref n0) C inw_10 3 rfl rfl 2 (by decide) wd_466 rfl rfl dX10_carry_143 ?_
            refine j_iload_n (pc := 146) C dX10_carry_146 rfl 1 rfl ?_
            refine j_iload_n (pc := 147) C dX10_carry_147 rfl 2 rfl ?_
            refine j_iload_n (pc := 148) C dX10_carry_148 rfl 3 rfl ?_
            refine j_callV (pc := 149) (As := [.int p0, .int p1, .int p2]) (rest := []) (wr := [(a8, .inl (cyI, 4, .inl a_height)), (a9, .inl (cyI, 4, .inl a_reach)), (a10, .inl (cyI, 4, .inl a_room)), (x0, .inr (10, [.ref r0, .ref a0, .ref n0, .ref k0, .ref x1, .ref q0, .ref o0, .ref h0, .ref s0, .ref d0])), (n3, .inl (cyI, 12, .inl n_level)), (a1, .inl (cyI, 12, .inl a_wide)), (a2, .inl (cyI, 12, .inl a_deep)), (q0, .inr (4, [.ref q1, .int (u_12.2.1 0)])), (q1, .inl (cyI, 12, .inl (u_12.2.2.1 0))), (a0, .inr (9, [.int a_wares, .int a_shelves, .int a_nests, .ref a1, .ref a2, .ref a3, .ref a4, .ref a5, .ref a6, .int a_lids, .int a_tops, .ref a7, .ref a8, .ref a9, .ref a10])), (a3, .inl (cyI, 12, .inl a_weight))]) C (c_X7_move l D cyC cyI cyJ cyZ cyO n0 n1 n2 n3 n4 p0 p1 p2 n_askings v_26 n_laid n_shelf n_stack h_n_askings h_n_laid (by omega) (by omega) (by omega) h_n_shelf h_n_stack (by rw [← hw_9_1]; omega)) wd_506 wd_9 wd_507 wd_508 wd_509 ⟨by decide, by decide, rfl⟩ rfl ⟨rfl, rfl, by decide, by decide⟩ ⟨by decide, by decide⟩ [4, 5, 6] [0, 1, 2, 3, 7, 8, 9, 10, 11, 12, 13] rfl rfl ⟨by decide, by decide, by decide⟩ 4 rfl rfl rfl (Nat.le_of_ble_eq_true rfl) dX10_carry_149 (fun u_27 hw_28 => ?_)
            refine j_eq (ws2 := [(a8, .inl (cyI, 4, .inl a_height)), (a9, .inl (cyI, 4, .inl a_reach)), (a10, .inl (cyI, 4, .inl a_room)), (x0, .inr (10, [.ref r0, .ref a0, .ref n0, .ref k0, .ref x1, .ref q0, .ref o0, .ref h0, .ref s0, .ref d0])), (n3, .inl (cyI, 12, .inl n_level)), (a1, .inl (cyI, 12, .inl a_wide)), (a2, .inl (cyI, 12, .inl a_deep)), (q0, .inr (4, [.ref q1, .int (u_12.2.1 0)])), (q1, .inl (cyI, 12, .inl (u_12.2.2.1 0))), (a0, .inr (9, [.int a_wares, .int a_shelves, .int a_nests, .ref a1, .ref a2, .ref a3, .ref a4, .ref a5, .ref a6, .int a_lids, .int a_tops, .ref a7, .ref a8, .ref a9, .ref a10])), (a3, .inl (cyI, 12, .inl a_weight)), (n0, .inr (7, [.ref n1, .ref n2, .ref n3, .ref n4, .int n_askings, .int v_26, .int n_laid])), (n1, .inl (cyI, 12, .inl (u_27.2.2.1 0))), (n2, .inl (cyI, 12, .inl (u_27.2.2.1 1)))]) (pc2 := 152) (lv2 := [(0, .ref x0), (1, .int p0), (2, .int p1), (3, .int p2)]) (st2 := []) rfl rfl rfl rfl ?_
            obtain ⟨hw_28_0, hw_28_1, hw_28_2, hw_28_3⟩ := hw_28
            refine j_iconst (pc := 152) (v := 0) C dX10_carry_152 (by decide) ?_
            have el_0 : (0 : Int32).toInt = 0 := rfl
            have el_0 : (0 : Int32).toInt = 0 := rfl
            have el_6 : (6 : Int32).toInt = 6 := rfl
            have el_0 : (0 : Int32).toInt = 0 := rfl
            have el_0 : (0 : Int32).toInt = 0 := rfl
            have el_0 : (0 : Int32).toInt = 0 := rfl
            exact j_iret (pc := 153) C hr hk (fun i => [].getD i 0, fun i => [0, v_26, (u_12.2.1 0)].getD i 0, fun i => [(u_27.2.2.1 0), (u_27.2.2.1 1), (u_12.2.2.1 0)].getD i (fun _ => 0), fun i => [].getD i (fun _ => 0)) rfl (show (0 ≤ ((0 : Int32)).toInt ∧ ((0 : Int32)).toInt ≤ 6) ∧ (Iv 12 (-1) (3) (u_27.2.2.1 0)) ∧ (Iv 12 (0) (7) (u_27.2.2.1 1)) ∧ (0 ≤ ((u_12.2.1 0)).toInt ∧ ((u_12.2.1 0)).toInt ≤ 12) ∧ (Iv 12 (0) (11) (u_12.2.2.1 0)) ∧ (PUTR ((0 ≤ (p0).toInt ∧ (p0).toInt < (a_shelves).toInt ∧ 0 ≤ (p1).toInt ∧ (p1).toInt < (stF n_shelf n_stack p0 12).toInt) ∧ (0 ≤ (p2).toInt ∧ (p2).toInt < (a_shelves).toInt) ∧ ¬ (p0).toInt = (p2).toInt) True ((a_room (p2).toInt.toNat).toInt ≤ (stF n_shelf n_stack p2 12).toInt) (fun x => ∀ (r : Nat → Int32) (n : Nat), ROW n_shelf n_stack n_level p0 p1 r n → (x = 6 ∧ a_height (p2).toInt.toNat < hiF (rsC a_wide a_deep a_lids) a_deep r n) ∨ (x = 0 ∧ ¬ a_height (p2).toInt.toNat < hiF (rsC a_wide a_deep a_lids) a_deep r n)) (0 : Int32).toInt) ∧ (IM ((0 : Int32).toInt = 0) ((∀ j : Nat, j < 12 → ((u_27.2.2.1 0) j).toInt = (mvS n_shelf n_stack p0 p1 p2) j) ∧ ∀ j : Nat, j < 12 → ((u_27.2.2.1 1) j).toInt = mvG n_shelf n_stack p0 p1 p2 (stF n_shelf n_stack p2 12) j)) ∧ (IM (¬ (0 : Int32).toInt = 0) ((u_27.2.2.1 0) = n_shelf ∧ (u_27.2.2.1 1) = n_stack)) from ⟨by omega, hw_28_0, hw_28_1, hw_13_0, hw_13_1, (Or.inr ⟨⟨hw_2_2 (by omega), ⟨by omega, by omega⟩, by omega⟩, Or.inr ⟨trivial, Or.inr ⟨by (have s0 := congrArg Int32.toInt hw_9_1; omega), fun r n hR => by obtain ⟨y1, y2⟩ := hw_13_3 r n hR; have y3 := hw_15_0; rw [show ((u_12.2.1 0)).toInt.toNat = n from (by omega), hiF_cong (rs := (rsC a_wide a_deep a_lids)) (rs' := (rsC a_wide a_deep a_lids)) (dp := a_deep) (dp' := a_deep) (r' := r) n (fun q hq => by rw [y2 q (by omega), y2 (q + 1) (by omega)]) (fun q hq => by rw [y2 q hq])] at y3; rw [← y3, ev_16]; exact Or.inr ⟨rfl, by rw [i_lt]; omega⟩⟩⟩⟩), (fun _ => ⟨hw_28_2, hw_28_3⟩), (fun z9 => by exfalso; omega)⟩) [3, 9, 5, 6, 10, 0, 1, 2, 11, 12, 13, 4, 7, 8] (by decide) rfl (by decide) (by decide) dX10_carry_153
          · skip
            rw [i_le] at c_17
            refine j_bipush (pc := 85) (v := 6) C dX10_carry_85 (by decide) ?_
            have el_6 : (6 : Int32).toInt = 6 := rfl
            have el_6 : (6 : Int32).toInt = 6 := rfl
            have el_6 : (6 : Int32).toInt = 6 := rfl
            have el_0 : (0 : Int32).toInt = 0 := rfl
            have el_6 : (6 : Int32).toInt = 6 := rfl
            have el_6 : (6 : Int32).toInt = 6 := rfl
            exact j_iret (pc := 87) C hr hk (fun i => [].getD i 0, fun i => [6, n_cost, (u_12.2.1 0)].getD i 0, fun i => [n_shelf, n_stack, (u_12.2.2.1 0)].getD i (fun _ => 0), fun i => [].getD i (fun _ => 0)) rfl (show (0 ≤ ((6 : Int32)).toInt ∧ ((6 : Int32)).toInt ≤ 6) ∧ (Iv 12 (-1) (3) n_shelf) ∧ (Iv 12 (0) (7) n_stack) ∧ (0 ≤ ((u_12.2.1 0)).toInt ∧ ((u_12.2.1 0)).toInt ≤ 12) ∧ (Iv 12 (0) (11) (u_12.2.2.1 0)) ∧ (PUTR ((0 ≤ (p0).toInt ∧ (p0).toInt < (a_shelves).toInt ∧ 0 ≤ (p1).toInt ∧ (p1).toInt < (stF n_shelf n_stack p0 12).toInt) ∧ (0 ≤ (p2).toInt ∧ (p2).toInt < (a_shelves).toInt) ∧ ¬ (p0).toInt = (p2).toInt) True ((a_room (p2).toInt.toNat).toInt ≤ (stF n_shelf n_stack p2 12).toInt) (fun x => ∀ (r : Nat → Int32) (n : Nat), ROW n_shelf n_stack n_level p0 p1 r n → (x = 6 ∧ a_height (p2).toInt.toNat < hiF (rsC a_wide a_deep a_lids) a_deep r n) ∨ (x = 0 ∧ ¬ a_height (p2).toInt.toNat < hiF (rsC a_wide a_deep a_lids) a_deep r n)) (6 : Int32).toInt) ∧ (IM ((6 : Int32).toInt = 0) ((∀ j : Nat, j < 12 → (n_shelf j).toInt = (mvS n_shelf n_stack p0 p1 p2) j) ∧ ∀ j : Nat, j < 12 → (n_stack j).toInt = mvG n_shelf n_stack p0 p1 p2 (stF n_shelf n_stack p2 12) j)) ∧ (IM (¬ (6 : Int32).toInt = 0) (n_shelf = n_shelf ∧ n_stack = n_stack)) from ⟨by omega, h_n_shelf, h_n_stack, hw_13_0, hw_13_1, (Or.inr ⟨⟨hw_2_2 (by omega), ⟨by omega, by omega⟩, by omega⟩, Or.inr ⟨trivial, Or.inr ⟨by (have s0 := congrArg Int32.toInt hw_9_1; omega), fun r n hR => by obtain ⟨y1, y2⟩ := hw_13_3 r n hR; have y3 := hw_15_0; rw [show ((u_12.2.1 0)).toInt.toNat = n from (by omega), hiF_cong (rs := (rsC a_wide a_deep a_lids)) (rs' := (rsC a_wide a_deep a_lids)) (dp := a_deep) (dp' := a_deep) (r' := r) n (fun q hq => by rw [y2 q (by omega), y2 (q + 1) (by omega)]) (fun q hq => by rw [y2 q hq])] at y3; rw [← y3, ev_16]; exact Or.inl ⟨rfl, by rw [i_lt]; omega⟩⟩⟩⟩), (fun z9 => absurd z9 (by decide)), (fun _ => ⟨rfl, rfl⟩)⟩) [4, 11, 12, 13, 0, 1, 2, 3, 5, 6, 7, 8, 9, 10] (by decide) rfl (by decide) (by decide) dX10_carry_87
        · skip
          rw [i_lt] at c_11
          refine j_iconst (pc := 47) (v := 3) C dX10_carry_47 (by decide) ?_
          have el_3 : (3 : Int32).toInt = 3 := rfl
          have el_3 : (3 : Int32).toInt = 3 := rfl
          have el_3 : (3 : Int32).toInt = 3 := rfl
          have el_3 : (3 : Int32).toInt = 3 := rfl
          exact j_iret (pc := 48) C hr hk (fun i => [].getD i 0, fun i => [3, n_cost, q_size].getD i 0, fun i => [n_shelf, n_stack, q_ware].getD i (fun _ => 0), fun i => [].getD i (fun _ => 0)) rfl (show (0 ≤ ((3 : Int32)).toInt ∧ ((3 : Int32)).toInt ≤ 6) ∧ (Iv 12 (-1) (3) n_shelf) ∧ (Iv 12 (0) (7) n_stack) ∧ (0 ≤ (q_size).toInt ∧ (q_size).toInt ≤ 12) ∧ (Iv 12 (0) (11) q_ware) ∧ (PUTR ((0 ≤ (p0).toInt ∧ (p0).toInt < (a_shelves).toInt ∧ 0 ≤ (p1).toInt ∧ (p1).toInt < (stF n_shelf n_stack p0 12).toInt) ∧ (0 ≤ (p2).toInt ∧ (p2).toInt < (a_shelves).toInt) ∧ ¬ (p0).toInt = (p2).toInt) True ((a_room (p2).toInt.toNat).toInt ≤ (stF n_shelf n_stack p2 12).toInt) (fun x => ∀ (r : Nat → Int32) (n : Nat), ROW n_shelf n_stack n_level p0 p1 r n → (x = 6 ∧ a_height (p2).toInt.toNat < hiF (rsC a_wide a_deep a_lids) a_deep r n) ∨ (x = 0 ∧ ¬ a_height (p2).toInt.toNat < hiF (rsC a_wide a_deep a_lids) a_deep r n)) (3 : Int32).toInt) ∧ (IM ((3 : Int32).toInt = 0) ((∀ j : Nat, j < 12 → (n_shelf j).toInt = (mvS n_shelf n_stack p0 p1 p2) j) ∧ ∀ j : Nat, j < 12 → (n_stack j).toInt = mvG n_shelf n_stack p0 p1 p2 (stF n_shelf n_stack p2 12) j)) ∧ (IM (¬ (3 : Int32).toInt = 0) (n_shelf = n_shelf ∧ n_stack = n_stack)) from ⟨by omega, h_n_shelf, h_n_stack, h_q_size, h_q_ware, (Or.inr ⟨⟨hw_2_2 (by omega), ⟨by omega, by omega⟩, by omega⟩, Or.inr ⟨trivial, Or.inl ⟨rfl, by (have s0 := congrArg Int32.toInt hw_9_1; omega)⟩⟩⟩), (fun z9 => absurd z9 (by decide)), (fun _ => ⟨rfl, rfl⟩)⟩) [9, 10, 0, 1, 2, 3, 4, 5, 11, 12, 13, 6, 7, 8] (by decide) rfl (by decide) (by decide) dX10_carry_48
      · skip
        rw [i_eq] at c_7
        refine j_iconst (pc := 25) (v := 1) C dX10_carry_25 (by decide) ?_
        have el_1 : (1 : Int32).toInt = 1 := rfl
        have el_1 : (1 : Int32).toInt = 1 := rfl
        have el_1 : (1 : Int32).toInt = 1 := rfl
        have el_1 : (1 : Int32).toInt = 1 := rfl
        exact j_iret (pc := 26) C hr hk (fun i => [].getD i 0, fun i => [1, n_cost, q_size].getD i 0, fun i => [n_shelf, n_stack, q_ware].getD i (fun _ => 0), fun i => [].getD i (fun _ => 0)) rfl (show (0 ≤ ((1 : Int32)).toInt ∧ ((1 : Int32)).toInt ≤ 6) ∧ (Iv 12 (-1) (3) n_shelf) ∧ (Iv 12 (0) (7) n_stack) ∧ (0 ≤ (q_size).toInt ∧ (q_size).toInt ≤ 12) ∧ (Iv 12 (0) (11) q_ware) ∧ (PUTR ((0 ≤ (p0).toInt ∧ (p0).toInt < (a_shelves).toInt ∧ 0 ≤ (p1).toInt ∧ (p1).toInt < (stF n_shelf n_stack p0 12).toInt) ∧ (0 ≤ (p2).toInt ∧ (p2).toInt < (a_shelves).toInt) ∧ ¬ (p0).toInt = (p2).toInt) True ((a_room (p2).toInt.toNat).toInt ≤ (stF n_shelf n_stack p2 12).toInt) (fun x => ∀ (r : Nat → Int32) (n : Nat), ROW n_shelf n_stack n_level p0 p1 r n → (x = 6 ∧ a_height (p2).toInt.toNat < hiF (rsC a_wide a_deep a_lids) a_deep r n) ∨ (x = 0 ∧ ¬ a_height (p2).toInt.toNat < hiF (rsC a_wide a_deep a_lids) a_deep r n)) (1 : Int32).toInt) ∧ (IM ((1 : Int32).toInt = 0) ((∀ j : Nat, j < 12 → (n_shelf j).toInt = (mvS n_shelf n_stack p0 p1 p2) j) ∧ ∀ j : Nat, j < 12 → (n_stack j).toInt = mvG n_shelf n_stack p0 p1 p2 (stF n_shelf n_stack p2 12) j)) ∧ (IM (¬ (1 : Int32).toInt = 0) (n_shelf = n_shelf ∧ n_stack = n_stack)) from ⟨by omega, h_n_shelf, h_n_stack, h_q_size, h_q_ware, (Or.inl ⟨rfl, fun z => by obtain ⟨z1, z2, z3⟩ := z; rcases (by omega : (u_1.2.1 0).toInt = 0 ∨ (u_1.2.1 0).toInt = 1) with q | q; (exact hw_2_3 q z1); omega⟩), (fun z9 => absurd z9 (by decide)), (fun _ => ⟨rfl, rfl⟩)⟩) [9, 13, 0, 1, 2, 3, 4, 5, 10, 11, 12, 6, 7, 8] (by decide) rfl (by decide) (by decide) dX10_carry_26
