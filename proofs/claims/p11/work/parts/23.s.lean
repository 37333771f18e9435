theorem wd_544 : Cond.fieldLink RX10 30 "BowlShelf" "trial" "LBowlShelf$Standing;" ∈ WALL := wl_in (by decide +kernel) (by decide +kernel)
theorem wd_545 : Cond.code yX7_raise cX7_raise 2 none ∈ WALL := wl_in (by decide +kernel) (by decide +kernel)
theorem wd_546 : Cond.methodLink RX10 297 yX7_raise ∈ WALL := wl_in (by decide +kernel) (by decide +kernel)
theorem wd_547 : Cond.instanceMethod yX7_raise ∈ WALL := wl_in (by decide +kernel) (by decide +kernel)
theorem wd_548 : Cond.selects RX7 yX7_raise yX7_raise ∈ WALL := wl_in (by decide +kernel) (by decide +kernel)
theorem wd_549 : Cond.code yX7_copy cX7_copy 2 none ∈ WALL := wl_in (by decide +kernel) (by decide +kernel)
theorem wd_550 : Cond.methodLink RX10 269 yX7_copy ∈ WALL := wl_in (by decide +kernel) (by decide +kernel)
theorem wd_551 : Cond.instanceMethod yX7_copy ∈ WALL := wl_in (by decide +kernel) (by decide +kernel)
theorem wd_552 : Cond.selects RX7 yX7_copy yX7_copy ∈ WALL := wl_in (by decide +kernel) (by decide +kernel)
theorem wd_553 : Cond.code yX10_raise cX10_raise 4 none ∈ WALL := wl_in (by decide +kernel) (by decide +kernel)
theorem wd_554 : Cond.methodLink RX10 294 yX10_raise ∈ WALL := wl_in (by decide +kernel) (by decide +kernel)
theorem wd_555 : Cond.instanceMethod yX10_raise ∈ WALL := wl_in (by decide +kernel) (by decide +kernel)
theorem wd_556 : Cond.selects RX10 yX10_raise yX10_raise ∈ WALL := wl_in (by decide +kernel) (by decide +kernel)
theorem wd_557 : Cond.code yX10_divisor cX10_divisor 4 (some .int) ∈ WALL := wl_in (by decide +kernel) (by decide +kernel)
theorem wd_558 : Cond.methodLink RX10 298 yX10_divisor ∈ WALL := wl_in (by decide +kernel) (by decide +kernel)
theorem wd_559 : Cond.static yX10_divisor ∈ WALL := wl_in (by decide +kernel) (by decide +kernel)
theorem wd_560 : Cond.fieldLink RX10 61 "BowlShelf" "search" "LBowlShelf$Search;" ∈ WALL := wl_in (by decide +kernel) (by decide +kernel)
theorem wd_561 : Cond.code yX6_find cX6_find 8 (some .boolean) ∈ WALL := wl_in (by decide +kernel) (by decide +kernel)
theorem wd_562 : Cond.methodLink RX10 287 yX6_find ∈ WALL := wl_in (by decide +kernel) (by decide +kernel)
theorem wd_563 : Cond.instanceMethod yX6_find ∈ WALL := wl_in (by decide +kernel) (by decide +kernel)
theorem wd_564 : Cond.selects RX6 yX6_find yX6_find ∈ WALL := wl_in (by decide +kernel) (by decide +kernel)
theorem wd_565 : Cond.fieldLink RX10 292 "BowlShelf$Search" "order" "[I" ∈ WALL := wl_in (by decide +kernel) (by decide +kernel)
theorem wd_566 : Cond.fieldLink RX10 291 "BowlShelf$Search" "cost" "I" ∈ WALL := wl_in (by decide +kernel) (by decide +kernel)
theorem wd_567 : Cond.code yX10_hasPlace cX10_hasPlace 6 (some .boolean) ∈ WALL := wl_in (by decide +kernel) (by decide +kernel)
theorem wd_568 : Cond.methodLink RX10 277 yX10_hasPlace ∈ WALL := wl_in (by decide +kernel) (by decide +kernel)
theorem wd_569 : Cond.instanceMethod yX10_hasPlace ∈ WALL := wl_in (by decide +kernel) (by decide +kernel)
theorem wd_570 : Cond.selects RX10 yX10_hasPlace yX10_hasPlace ∈ WALL := wl_in (by decide +kernel) (by decide +kernel)
theorem wd_571 : Cond.code yX10_stranded cX10_stranded 4 (some .int) ∈ WALL := wl_in (by decide +kernel) (by decide +kernel)
theorem wd_572 : Cond.methodLink RX10 273 yX10_stranded ∈ WALL := wl_in (by decide +kernel) (by decide +kernel)
theorem wd_573 : Cond.instanceMethod yX10_stranded ∈ WALL := wl_in (by decide +kernel) (by decide +kernel)
theorem wd_574 : Cond.selects RX10 yX10_stranded yX10_stranded ∈ WALL := wl_in (by decide +kernel) (by decide +kernel)
theorem wd_575 : Cond.code yX10_bestPlace cX10_bestPlace 8 (some .int) ∈ WALL := wl_in (by decide +kernel) (by decide +kernel)
theorem wd_576 : Cond.methodLink RX10 263 yX10_bestPlace ∈ WALL := wl_in (by decide +kernel) (by decide +kernel)
theorem wd_577 : Cond.instanceMethod yX10_bestPlace ∈ WALL := wl_in (by decide +kernel) (by decide +kernel)
theorem wd_578 : Cond.selects RX10 yX10_bestPlace yX10_bestPlace ∈ WALL := wl_in (by decide +kernel) (by decide +kernel)
theorem dX10_raise_0 : decode cX10_raise 0 = .ok (.aload_n 0, 1) := by decide +kernel
theorem dX10_raise_1 : decode cX10_raise 1 = .ok (.getfield 30, 3) := by decide +kernel
theorem dX10_raise_4 : decode cX10_raise 4 = .ok (.getfield 181, 3) := by decide +kernel
theorem dX10_raise_7 : decode cX10_raise 7 = .ok (.iload_n 1, 1) := by decide +kernel
theorem dX10_raise_8 : decode cX10_raise 8 = .ok (.iaload, 1) := by decide +kernel
theorem dX10_raise_9 : decode cX10_raise 9 = .ok (.istore_n 2, 1) := by decide +kernel
theorem dX10_raise_10 : decode cX10_raise 10 = .ok (.aload_n 0, 1) := by decide +kernel
theorem dX10_raise_11 : decode cX10_raise 11 = .ok (.getfield 30, 3) := by decide +kernel
theorem dX10_raise_14 : decode cX10_raise 14 = .ok (.getfield 184, 3) := by decide +kernel
theorem dX10_raise_17 : decode cX10_raise 17 = .ok (.iload_n 1, 1) := by decide +kernel
theorem dX10_raise_18 : decode cX10_raise 18 = .ok (.iaload, 1) := by decide +kernel
theorem dX10_raise_19 : decode cX10_raise 19 = .ok (.istore_n 3, 1) := by decide +kernel
theorem dX10_raise_20 : decode cX10_raise 20 = .ok (.aload_n 0, 1) := by decide +kernel
theorem dX10_raise_21 : decode cX10_raise 21 = .ok (.getfield 40, 3) := by decide +kernel
theorem dX10_raise_24 : decode cX10_raise 24 = .ok (.aload_n 0, 1) := by decide +kernel
theorem dX10_raise_25 : decode cX10_raise 25 = .ok (.getfield 30, 3) := by decide +kernel
theorem dX10_raise_28 : decode cX10_raise 28 = .ok (.iload_n 2, 1) := by decide +kernel
theorem dX10_raise_29 : decode cX10_raise 29 = .ok (.iload_n 3, 1) := by decide +kernel
theorem dX10_raise_30 : decode cX10_raise 30 = .ok (.invokevirtual 173, 3) := by decide +kernel
theorem dX10_raise_33 : decode cX10_raise 33 = .ok (.aload_n 0, 1) := by decide +kernel
theorem dX10_raise_34 : decode cX10_raise 34 = .ok (.getfield 40, 3) := by decide +kernel
theorem dX10_raise_37 : decode cX10_raise 37 = .ok (.aload_n 0, 1) := by decide +kernel
theorem dX10_raise_38 : decode cX10_raise 38 = .ok (.getfield 30, 3) := by decide +kernel
theorem dX10_raise_41 : decode cX10_raise 41 = .ok (.getfield 187, 3) := by decide +kernel
theorem dX10_raise_44 : decode cX10_raise 44 = .ok (.iload_n 1, 1) := by decide +kernel
theorem dX10_raise_45 : decode cX10_raise 45 = .ok (.iaload, 1) := by decide +kernel
theorem dX10_raise_46 : decode cX10_raise 46 = .ok (.invokevirtual 194, 3) := by decide +kernel
theorem dX10_raise_49 : decode cX10_raise 49 = .ok (.aload_n 0, 1) := by decide +kernel
theorem dX10_raise_50 : decode cX10_raise 50 = .ok (.getfield 40, 3) := by decide +kernel
theorem dX10_raise_53 : decode cX10_raise 53 = .ok (.iload_n 1, 1) := by decide +kernel
theorem dX10_raise_54 : decode cX10_raise 54 = .ok (.invokevirtual 177, 3) := by decide +kernel
theorem dX10_raise_57 : decode cX10_raise 57 = .ok (.aload_n 0, 1) := by decide +kernel
theorem dX10_raise_58 : decode cX10_raise 58 = .ok (.getfield 40, 3) := by decide +kernel
theorem dX10_raise_61 : decode cX10_raise 61 = .ok (.aload_n 0, 1) := by decide +kernel
theorem dX10_raise_62 : decode cX10_raise 62 = .ok (.getfield 19, 3) := by decide +kernel
theorem dX10_raise_65 : decode cX10_raise 65 = .ok (.aload_n 0, 1) := by decide +kernel
theorem dX10_raise_66 : decode cX10_raise 66 = .ok (.getfield 19, 3) := by decide +kernel
theorem dX10_raise_69 : decode cX10_raise 69 = .ok (.getfield 144, 3) := by decide +kernel
theorem dX10_raise_72 : decode cX10_raise 72 = .ok (.iload_n 2, 1) := by decide +kernel
theorem dX10_raise_73 : decode cX10_raise 73 = .ok (.iaload, 1) := by decide +kernel
theorem dX10_raise_74 : decode cX10_raise 74 = .ok (.invokevirtual 178, 3) := by decide +kernel
theorem dX10_raise_77 : decode cX10_raise 77 = .ok (.ifCond .ne 11, 3) := by decide +kernel
theorem dX10_raise_80 : decode cX10_raise 80 = .ok (.aload_n 0, 1) := by decide +kernel
theorem dX10_raise_81 : decode cX10_raise 81 = .ok (.getfield 30, 3) := by decide +kernel
theorem dX10_raise_84 : decode cX10_raise 84 = .ok (.iload_n 1, 1) := by decide +kernel
theorem dX10_raise_85 : decode cX10_raise 85 = .ok (.invokevirtual 297, 3) := by decide +kernel
theorem dX10_raise_88 : decode cX10_raise 88 = .ok (.return_, 1) := by decide +kernel
theorem dX10_onTop_0 : decode cX10_onTop 0 = .ok (.aload_n 0, 1) := by decide +kernel
theorem dX10_onTop_1 : decode cX10_onTop 1 = .ok (.getfield 30, 3) := by decide +kernel
theorem dX10_onTop_4 : decode cX10_onTop 4 = .ok (.aload_n 0, 1) := by decide +kernel
theorem dX10_onTop_5 : decode cX10_onTop 5 = .ok (.getfield 26, 3) := by decide +kernel
theorem dX10_onTop_8 : decode cX10_onTop 8 = .ok (.invokevirtual 269, 3) := by decide +kernel
theorem dX10_onTop_11 : decode cX10_onTop 11 = .ok (.iconst 0, 1) := by decide +kernel
theorem dX10_onTop_12 : decode cX10_onTop 12 = .ok (.istore_n 1, 1) := by decide +kernel
theorem dX10_onTop_13 : decode cX10_onTop 13 = .ok (.iconst 0, 1) := by decide +kernel
theorem dX10_onTop_14 : decode cX10_onTop 14 = .ok (.istore_n 2, 1) := by decide +kernel
theorem dX10_onTop_15 : decode cX10_onTop 15 = .ok (.iload_n 2, 1) := by decide +kernel
theorem dX10_onTop_16 : decode cX10_onTop 16 = .ok (.aload_n 0, 1) := by decide +kernel
theorem dX10_onTop_17 : decode cX10_onTop 17 = .ok (.getfield 30, 3) := by decide +kernel
theorem dX10_onTop_20 : decode cX10_onTop 20 = .ok (.getfield 281, 3) := by decide +kernel
theorem dX10_onTop_23 : decode cX10_onTop 23 = .ok (.if_icmp .ge 47, 3) := by decide +kernel
theorem dX10_onTop_26 : decode cX10_onTop 26 = .ok (.aload_n 0, 1) := by decide +kernel
theorem dX10_onTop_27 : decode cX10_onTop 27 = .ok (.getfield 30, 3) := by decide +kernel
theorem dX10_onTop_30 : decode cX10_onTop 30 = .ok (.getfield 284, 3) := by decide +kernel
theorem dX10_onTop_33 : decode cX10_onTop 33 = .ok (.iload_n 2, 1) := by decide +kernel
theorem dX10_onTop_34 : decode cX10_onTop 34 = .ok (.iaload, 1) := by decide +kernel
theorem dX10_onTop_35 : decode cX10_onTop 35 = .ok (.istore_n 3, 1) := by decide +kernel
theorem dX10_onTop_36 : decode cX10_onTop 36 = .ok (.aload_n 0, 1) := by decide +kernel
theorem dX10_onTop_37 : decode cX10_onTop 37 = .ok (.getfield 30, 3) := by decide +kernel
theorem dX10_onTop_40 : decode cX10_onTop 40 = .ok (.iload_n 3, 1) := by decide +kernel
theorem dX10_onTop_41 : decode cX10_onTop 41 = .ok (.invokevirtual 160, 3) := by decide +kernel
theorem dX10_onTop_44 : decode cX10_onTop 44 = .ok (.ifCond .ne 20, 3) := by decide +kernel
theorem dX10_onTop_47 : decode cX10_onTop 47 = .ok (.iload_n 1, 1) := by decide +kernel
theorem dX10_onTop_48 : decode cX10_onTop 48 = .ok (.aload_n 0, 1) := by decide +kernel
theorem dX10_onTop_49 : decode cX10_onTop 49 = .ok (.aload_n 0, 1) := by decide +kernel
theorem dX10_onTop_50 : decode cX10_onTop 50 = .ok (.getfield 30, 3) := by decide +kernel
theorem dX10_onTop_53 : decode cX10_onTop 53 = .ok (.iload_n 3, 1) := by decide +kernel
theorem dX10_onTop_54 : decode cX10_onTop 54 = .ok (.invokevirtual 221, 3) := by decide +kernel
theorem dX10_onTop_57 : decode cX10_onTop 57 = .ok (.iadd, 1) := by decide +kernel
theorem dX10_onTop_58 : decode cX10_onTop 58 = .ok (.istore_n 1, 1) := by decide +kernel
theorem dX10_onTop_59 : decode cX10_onTop 59 = .ok (.aload_n 0, 1) := by decide +kernel
theorem dX10_onTop_60 : decode cX10_onTop 60 = .ok (.iload_n 3, 1) := by decide +kernel
theorem dX10_onTop_61 : decode cX10_onTop 61 = .ok (.invokevirtual 294, 3) := by decide +kernel
theorem dX10_onTop_64 : decode cX10_onTop 64 = .ok (.iinc 2 1, 3) := by decide +kernel
theorem dX10_onTop_67 : decode cX10_onTop 67 = .ok (.goto (-52), 3) := by decide +kernel
theorem dX10_onTop_70 : decode cX10_onTop 70 = .ok (.iload_n 1, 1) := by decide +kernel
theorem dX10_onTop_71 : decode cX10_onTop 71 = .ok (.ireturn, 1) := by decide +kernel
theorem dX10_divisor_0 : decode cX10_divisor 0 = .ok (.iconst 0, 1) := by decide +kernel
theorem dX10_divisor_1 : decode cX10_divisor 1 = .ok (.istore_n 2, 1) := by decide +kernel
theorem dX10_divisor_2 : decode cX10_divisor 2 = .ok (.iload_n 2, 1) := by decide +kernel
theorem dX10_divisor_3 : decode cX10_divisor 3 = .ok (.bipush 64, 2) := by decide +kernel
theorem dX10_divisor_5 : decode cX10_divisor 5 = .ok (.if_icmp .ge 21, 3) := by decide +kernel
theorem dX10_divisor_8 : decode cX10_divisor 8 = .ok (.iload_n 1, 1) := by decide +kernel
theorem dX10_divisor_9 : decode cX10_divisor 9 = .ok (.ifCond .eq 17, 3) := by decide +kernel
theorem dX10_divisor_12 : decode cX10_divisor 12 = .ok (.iload_n 0, 1) := by decide +kernel
theorem dX10_divisor_13 : decode cX10_divisor 13 = .ok (.iload_n 1, 1) := by decide +kernel
theorem dX10_divisor_14 : decode cX10_divisor 14 = .ok (.irem, 1) := by decide +kernel
theorem dX10_divisor_15 : decode cX10_divisor 15 = .ok (.istore_n 3, 1) := by decide +kernel
theorem dX10_divisor_16 : decode cX10_divisor 16 = .ok (.iload_n 1, 1) := by decide +kernel
theorem dX10_divisor_17 : decode cX10_divisor 17 = .ok (.istore_n 0, 1) := by decide +kernel
theorem dX10_divisor_18 : decode cX10_divisor 18 = .ok (.iload_n 3, 1) := by decide +kernel
theorem dX10_divisor_19 : decode cX10_divisor 19 = .ok (.istore_n 1, 1) := by decide +kernel
theorem dX10_divisor_20 : decode cX10_divisor 20 = .ok (.iinc 2 1, 3) := by decide +kernel
theorem dX10_divisor_23 : decode cX10_divisor 23 = .ok (.goto (-21), 3) := by decide +kernel
theorem dX10_divisor_26 : decode cX10_divisor 26 = .ok (.iload_n 0, 1) := by decide +kernel
theorem dX10_divisor_27 : decode cX10_divisor 27 = .ok (.ireturn, 1) := by decide +kernel
theorem dX10_habit_0 : decode cX10_habit 0 = .ok (.iconst 0, 1) := by decide +kernel
theorem dX10_habit_1 : decode cX10_habit 1 = .ok (.istore_n 2, 1) := by decide +kernel
theorem dX10_habit_2 : decode cX10_habit 2 = .ok (.iconst 0, 1) := by decide +kernel
theorem dX10_habit_3 : decode cX10_habit 3 = .ok (.istore_n 3, 1) := by decide +kernel
theorem dX10_habit_4 : decode cX10_habit 4 = .ok (.iconst 0, 1) := by decide +kernel
theorem dX10_habit_5 : decode cX10_habit 5 = .ok (.istore 4, 2) := by decide +kernel
theorem dX10_habit_7 : decode cX10_habit 7 = .ok (.iload 4, 2) := by decide +kernel
theorem dX10_habit_9 : decode cX10_habit 9 = .ok (.aload_n 0, 1) := by decide +kernel
theorem dX10_habit_10 : decode cX10_habit 10 = .ok (.getfield 19, 3) := by decide +kernel
theorem dX10_habit_13 : decode cX10_habit 13 = .ok (.getfield 246, 3) := by decide +kernel
theorem dX10_habit_16 : decode cX10_habit 16 = .ok (.if_icmp .ge 58, 3) := by decide +kernel
theorem dX10_habit_19 : decode cX10_habit 19 = .ok (.iload_n 3, 1) := by decide +kernel
theorem dX10_habit_20 : decode cX10_habit 20 = .ok (.aload_n 0, 1) := by decide +kernel
theorem dX10_habit_21 : decode cX10_habit 21 = .ok (.getfield 19, 3) := by decide +kernel
theorem dX10_habit_24 : decode cX10_habit 24 = .ok (.getfield 132, 3) := by decide +kernel
theorem dX10_habit_27 : decode cX10_habit 27 = .ok (.iload 4, 2) := by decide +kernel
theorem dX10_habit_29 : decode cX10_habit 29 = .ok (.iaload, 1) := by decide +kernel
theorem dX10_habit_30 : decode cX10_habit 30 = .ok (.iadd, 1) := by decide +kernel
theorem dX10_habit_31 : decode cX10_habit 31 = .ok (.istore_n 3, 1) := by decide +kernel
theorem dX10_habit_32 : decode cX10_habit 32 = .ok (.aload_n 0, 1) := by decide +kernel
theorem dX10_habit_33 : decode cX10_habit 33 = .ok (.getfield 26, 3) := by decide +kernel
theorem dX10_habit_36 : decode cX10_habit 36 = .ok (.iload 4, 2) := by decide +kernel
theorem dX10_habit_38 : decode cX10_habit 38 = .ok (.invokevirtual 160, 3) := by decide +kernel
theorem dX10_habit_41 : decode cX10_habit 41 = .ok (.ifCond .ne 27, 3) := by decide +kernel
theorem dX10_habit_44 : decode cX10_habit 44 = .ok (.iload_n 2, 1) := by decide +kernel
theorem dX10_habit_45 : decode cX10_habit 45 = .ok (.aload_n 0, 1) := by decide +kernel
theorem dX10_habit_46 : decode cX10_habit 46 = .ok (.getfield 19, 3) := by decide +kernel
theorem dX10_habit_49 : decode cX10_habit 49 = .ok (.getfield 132, 3) := by decide +kernel
theorem dX10_habit_52 : decode cX10_habit 52 = .ok (.iload 4, 2) := by decide +kernel
theorem dX10_habit_54 : decode cX10_habit 54 = .ok (.iaload, 1) := by decide +kernel
theorem dX10_habit_55 : decode cX10_habit 55 = .ok (.aload_n 0, 1) := by decide +kernel
theorem dX10_habit_56 : decode cX10_habit 56 = .ok (.aload_n 0, 1) := by decide +kernel
theorem dX10_habit_57 : decode cX10_habit 57 = .ok (.getfield 26, 3) := by decide +kernel
theorem dX10_habit_60 : decode cX10_habit 60 = .ok (.iload 4, 2) := by decide +kernel
theorem dX10_habit_62 : decode cX10_habit 62 = .ok (.invokevirtual 221, 3) := by decide +kernel
theorem dX10_habit_65 : decode cX10_habit 65 = .ok (.imul, 1) := by decide +kernel
theorem dX10_habit_66 : decode cX10_habit 66 = .ok (.iadd, 1) := by decide +kernel
theorem dX10_habit_67 : decode cX10_habit 67 = .ok (.istore_n 2, 1) := by decide +kernel
theorem dX10_habit_68 : decode cX10_habit 68 = .ok (.iinc 4 1, 3) := by decide +kernel
theorem dX10_habit_71 : decode cX10_habit 71 = .ok (.goto (-64), 3) := by decide +kernel
theorem dX10_habit_74 : decode cX10_habit 74 = .ok (.iload_n 3, 1) := by decide +kernel
theorem dX10_habit_75 : decode cX10_habit 75 = .ok (.ifCond .eq 12, 3) := by decide +kernel
theorem dX10_habit_78 : decode cX10_habit 78 = .ok (.iload_n 1, 1) := by decide +kernel
theorem dX10_habit_79 : decode cX10_habit 79 = .ok (.ifCond .lt 8, 3) := by decide +kernel
theorem dX10_habit_82 : decode cX10_habit 82 = .ok (.iload_n 1, 1) := by decide +kernel
theorem dX10_habit_83 : decode cX10_habit 83 = .ok (.iconst 1, 1) := by decide +kernel
theorem dX10_habit_84 : decode cX10_habit 84 = .ok (.if_icmp .le 5, 3) := by decide +kernel
theorem dX10_habit_87 : decode cX10_habit 87 = .ok (.iconst (-1), 1) := by decide +kernel
theorem dX10_habit_88 : decode cX10_habit 88 = .ok (.ireturn, 1) := by decide +kernel
theorem dX10_habit_89 : decode cX10_habit 89 = .ok (.iload_n 2, 1) := by decide +kernel
theorem dX10_habit_90 : decode cX10_habit 90 = .ok (.iload_n 3, 1) := by decide +kernel
theorem dX10_habit_91 : decode cX10_habit 91 = .ok (.invokestatic 298, 3) := by decide +kernel
theorem dX10_habit_94 : decode cX10_habit 94 = .ok (.istore 4, 2) := by decide +kernel
theorem dX10_habit_96 : decode cX10_habit 96 = .ok (.iload 4, 2) := by decide +kernel
theorem dX10_habit_98 : decode cX10_habit 98 = .ok (.ifCond .ne 5, 3) := by decide +kernel
theorem dX10_habit_101 : decode cX10_habit 101 = .ok (.iconst (-1), 1) := by decide +kernel
theorem dX10_habit_102 : decode cX10_habit 102 = .ok (.ireturn, 1) := by decide +kernel
theorem dX10_habit_103 : decode cX10_habit 103 = .ok (.iload_n 1, 1) := by decide +kernel
theorem dX10_habit_104 : decode cX10_habit 104 = .ok (.ifCond .ne 7, 3) := by decide +kernel
theorem dX10_habit_107 : decode cX10_habit 107 = .ok (.iload_n 2, 1) := by decide +kernel
theorem dX10_habit_108 : decode cX10_habit 108 = .ok (.goto 4, 3) := by decide +kernel
theorem dX10_habit_111 : decode cX10_habit 111 = .ok (.iload_n 3, 1) := by decide +kernel
theorem dX10_habit_112 : decode cX10_habit 112 = .ok (.iload 4, 2) := by decide +kernel
theorem dX10_habit_114 : decode cX10_habit 114 = .ok (.idiv, 1) := by decide +kernel
theorem dX10_habit_115 : decode cX10_habit 115 = .ok (.ireturn, 1) := by decide +kernel
theorem dX10_best_0 : decode cX10_best 0 = .ok (.aload_n 0, 1) := by decide +kernel
theorem dX10_best_1 : decode cX10_best 1 = .ok (.iload_n 1, 1) := by decide +kernel
theorem dX10_best_2 : decode cX10_best 2 = .ok (.iload_n 2, 1) := by decide +kernel
theorem dX10_best_3 : decode cX10_best 3 = .ok (.invokevirtual 198, 3) := by decide +kernel
theorem dX10_best_6 : decode cX10_best 6 = .ok (.ifCond .ne 5, 3) := by decide +kernel
theorem dX10_best_9 : decode cX10_best 9 = .ok (.iconst (-1), 1) := by decide +kernel
theorem dX10_best_10 : decode cX10_best 10 = .ok (.ireturn, 1) := by decide +kernel
theorem dX10_best_11 : decode cX10_best 11 = .ok (.aload_n 0, 1) := by decide +kernel
theorem dX10_best_12 : decode cX10_best 12 = .ok (.getfield 40, 3) := by decide +kernel
theorem dX10_best_15 : decode cX10_best 15 = .ok (.aload_n 0, 1) := by decide +kernel
theorem dX10_best_16 : decode cX10_best 16 = .ok (.getfield 26, 3) := by decide +kernel
theorem dX10_best_19 : decode cX10_best 19 = .ok (.iload_n 1, 1) := by decide +kernel
theorem dX10_best_20 : decode cX10_best 20 = .ok (.iload_n 2, 1) := by decide +kernel
theorem dX10_best_21 : decode cX10_best 21 = .ok (.invokevirtual 173, 3) := by decide +kernel
theorem dX10_best_24 : decode cX10_best 24 = .ok (.iload_n 3, 1) := by decide +kernel
theorem dX10_best_25 : decode cX10_best 25 = .ok (.ifCond .lt 26, 3) := by decide +kernel
theorem dX10_best_28 : decode cX10_best 28 = .ok (.iload_n 3, 1) := by decide +kernel
theorem dX10_best_29 : decode cX10_best 29 = .ok (.aload_n 0, 1) := by decide +kernel
theorem dX10_best_30 : decode cX10_best 30 = .ok (.getfield 40, 3) := by decide +kernel
theorem dX10_best_33 : decode cX10_best 33 = .ok (.getfield 209, 3) := by decide +kernel
theorem dX10_best_36 : decode cX10_best 36 = .ok (.if_icmp .gt 15, 3) := by decide +kernel
theorem dX10_best_39 : decode cX10_best 39 = .ok (.aload_n 0, 1) := by decide +kernel
theorem dX10_best_40 : decode cX10_best 40 = .ok (.getfield 40, 3) := by decide +kernel
theorem dX10_best_43 : decode cX10_best 43 = .ok (.getfield 209, 3) := by decide +kernel
theorem dX10_best_46 : decode cX10_best 46 = .ok (.bipush 7, 2) := by decide +kernel
theorem dX10_best_48 : decode cX10_best 48 = .ok (.if_icmp .le 5, 3) := by decide +kernel
theorem dX10_best_51 : decode cX10_best 51 = .ok (.iconst (-1), 1) := by decide +kernel
theorem dX10_best_52 : decode cX10_best 52 = .ok (.ireturn, 1) := by decide +kernel
theorem dX10_best_53 : decode cX10_best 53 = .ok (.aload_n 0, 1) := by decide +kernel
theorem dX10_best_54 : decode cX10_best 54 = .ok (.getfield 61, 3) := by decide +kernel
theorem dX10_best_57 : decode cX10_best 57 = .ok (.aload_n 0, 1) := by decide +kernel
theorem dX10_best_58 : decode cX10_best 58 = .ok (.getfield 19, 3) := by decide +kernel
theorem dX10_best_61 : decode cX10_best 61 = .ok (.aload_n 0, 1) := by decide +kernel
theorem dX10_best_62 : decode cX10_best 62 = .ok (.getfield 26, 3) := by decide +kernel
theorem dX10_best_65 : decode cX10_best 65 = .ok (.aload_n 0, 1) := by decide +kernel
theorem dX10_best_66 : decode cX10_best 66 = .ok (.getfield 40, 3) := by decide +kernel
theorem dX10_best_69 : decode cX10_best 69 = .ok (.iload_n 1, 1) := by decide +kernel
theorem dX10_best_70 : decode cX10_best 70 = .ok (.invokevirtual 287, 3) := by decide +kernel
theorem dX10_best_73 : decode cX10_best 73 = .ok (.ifCond .ne 5, 3) := by decide +kernel
theorem dX10_best_76 : decode cX10_best 76 = .ok (.iconst (-1), 1) := by decide +kernel
theorem dX10_best_77 : decode cX10_best 77 = .ok (.ireturn, 1) := by decide +kernel
theorem dX10_best_78 : decode cX10_best 78 = .ok (.iload_n 3, 1) := by decide +kernel
theorem dX10_best_79 : decode cX10_best 79 = .ok (.ifCond .ne 13, 3) := by decide +kernel
theorem dX10_best_82 : decode cX10_best 82 = .ok (.aload_n 0, 1) := by decide +kernel
theorem dX10_best_83 : decode cX10_best 83 = .ok (.getfield 61, 3) := by decide +kernel
theorem dX10_best_86 : decode cX10_best 86 = .ok (.getfield 291, 3) := by decide +kernel
theorem dX10_best_89 : decode cX10_best 89 = .ok (.goto 14, 3) := by decide +kernel
theorem dX10_best_92 : decode cX10_best 92 = .ok (.aload_n 0, 1) := by decide +kernel
theorem dX10_best_93 : decode cX10_best 93 = .ok (.getfield 61, 3) := by decide +kernel
theorem dX10_best_96 : decode cX10_best 96 = .ok (.getfield 292, 3) := by decide +kernel
theorem dX10_best_99 : decode cX10_best 99 = .ok (.iload_n 3, 1) := by decide +kernel
theorem dX10_best_100 : decode cX10_best 100 = .ok (.iconst 1, 1) := by decide +kernel
theorem dX10_best_101 : decode cX10_best 101 = .ok (.isub, 1) := by decide +kernel
theorem dX10_best_102 : decode cX10_best 102 = .ok (.iaload, 1) := by decide +kernel
theorem dX10_best_103 : decode cX10_best 103 = .ok (.ireturn, 1) := by decide +kernel
theorem dX10_hasPlace_0 : decode cX10_hasPlace 0 = .ok (.iconst 0, 1) := by decide +kernel
theorem dX10_hasPlace_1 : decode cX10_hasPlace 1 = .ok (.istore_n 3, 1) := by decide +kernel
theorem dX10_hasPlace_2 : decode cX10_hasPlace 2 = .ok (.iload_n 3, 1) := by decide +kernel
theorem dX10_hasPlace_3 : decode cX10_hasPlace 3 = .ok (.aload_n 0, 1) := by decide +kernel
theorem dX10_hasPlace_4 : decode cX10_hasPlace 4 = .ok (.getfield 19, 3) := by decide +kernel
theorem dX10_hasPlace_7 : decode cX10_hasPlace 7 = .ok (.getfield 266, 3) := by decide +kernel
theorem dX10_hasPlace_10 : decode cX10_hasPlace 10 = .ok (.if_icmp .ge 46, 3) := by decide +kernel
theorem dX10_hasPlace_13 : decode cX10_hasPlace 13 = .ok (.aload_n 1, 1) := by decide +kernel
theorem dX10_hasPlace_14 : decode cX10_hasPlace 14 = .ok (.iload_n 3, 1) := by decide +kernel
theorem dX10_hasPlace_15 : decode cX10_hasPlace 15 = .ok (.invokevirtual 153, 3) := by decide +kernel
theorem dX10_hasPlace_18 : decode cX10_hasPlace 18 = .ok (.istore 4, 2) := by decide +kernel
theorem dX10_hasPlace_20 : decode cX10_hasPlace 20 = .ok (.iconst 0, 1) := by decide +kernel
theorem dX10_hasPlace_21 : decode cX10_hasPlace 21 = .ok (.istore 5, 2) := by decide +kernel
theorem dX10_hasPlace_23 : decode cX10_hasPlace 23 = .ok (.iload 5, 2) := by decide +kernel
theorem dX10_hasPlace_25 : decode cX10_hasPlace 25 = .ok (.iload 4, 2) := by decide +kernel
theorem dX10_hasPlace_27 : decode cX10_hasPlace 27 = .ok (.if_icmp .gt 23, 3) := by decide +kernel
theorem dX10_hasPlace_30 : decode cX10_hasPlace 30 = .ok (.aload_n 0, 1) := by decide +kernel
theorem dX10_hasPlace_31 : decode cX10_hasPlace 31 = .ok (.aload_n 1, 1) := by decide +kernel
theorem dX10_hasPlace_32 : decode cX10_hasPlace 32 = .ok (.iload_n 2, 1) := by decide +kernel
theorem dX10_hasPlace_33 : decode cX10_hasPlace 33 = .ok (.iload_n 3, 1) := by decide +kernel
theorem dX10_hasPlace_34 : decode cX10_hasPlace 34 = .ok (.iload 5, 2) := by decide +kernel
theorem dX10_hasPlace_36 : decode cX10_hasPlace 36 = .ok (.invokevirtual 163, 3) := by decide +kernel
theorem dX10_hasPlace_39 : decode cX10_hasPlace 39 = .ok (.ifCond .ne 5, 3) := by decide +kernel
theorem dX10_hasPlace_42 : decode cX10_hasPlace 42 = .ok (.iconst 1, 1) := by decide +kernel
theorem dX10_hasPlace_43 : decode cX10_hasPlace 43 = .ok (.ireturn, 1) := by decide +kernel
theorem dX10_hasPlace_44 : decode cX10_hasPlace 44 = .ok (.iinc 5 1, 3) := by decide +kernel
theorem dX10_hasPlace_47 : decode cX10_hasPlace 47 = .ok (.goto (-24), 3) := by decide +kernel
theorem dX10_hasPlace_50 : decode cX10_hasPlace 50 = .ok (.iinc 3 1, 3) := by decide +kernel
theorem dX10_hasPlace_53 : decode cX10_hasPlace 53 = .ok (.goto (-51), 3) := by decide +kernel
theorem dX10_hasPlace_56 : decode cX10_hasPlace 56 = .ok (.iconst 0, 1) := by decide +kernel
theorem dX10_hasPlace_57 : decode cX10_hasPlace 57 = .ok (.ireturn, 1) := by decide +kernel
theorem dX10_stranded_0 : decode cX10_stranded 0 = .ok (.iconst 0, 1) := by decide +kernel
theorem dX10_stranded_1 : decode cX10_stranded 1 = .ok (.istore_n 2, 1) := by decide +kernel
theorem dX10_stranded_2 : decode cX10_stranded 2 = .ok (.iconst 0, 1) := by decide +kernel
theorem dX10_stranded_3 : decode cX10_stranded 3 = .ok (.istore_n 3, 1) := by decide +kernel
theorem dX10_stranded_4 : decode cX10_stranded 4 = .ok (.iload_n 3, 1) := by decide +kernel
theorem dX10_stranded_5 : decode cX10_stranded 5 = .ok (.aload_n 0, 1) := by decide +kernel
theorem dX10_stranded_6 : decode cX10_stranded 6 = .ok (.getfield 19, 3) := by decide +kernel
theorem dX10_stranded_9 : decode cX10_stranded 9 = .ok (.getfield 246, 3) := by decide +kernel
theorem dX10_stranded_12 : decode cX10_stranded 12 = .ok (.if_icmp .ge 29, 3) := by decide +kernel
theorem dX10_stranded_15 : decode cX10_stranded 15 = .ok (.aload_n 1, 1) := by decide +kernel
theorem dX10_stranded_16 : decode cX10_stranded 16 = .ok (.iload_n 3, 1) := by decide +kernel
theorem dX10_stranded_17 : decode cX10_stranded 17 = .ok (.invokevirtual 160, 3) := by decide +kernel
theorem dX10_stranded_20 : decode cX10_stranded 20 = .ok (.ifCond .eq 15, 3) := by decide +kernel
theorem dX10_stranded_23 : decode cX10_stranded 23 = .ok (.aload_n 0, 1) := by decide +kernel
theorem dX10_stranded_24 : decode cX10_stranded 24 = .ok (.aload_n 1, 1) := by decide +kernel
theorem dX10_stranded_25 : decode cX10_stranded 25 = .ok (.iload_n 3, 1) := by decide +kernel
theorem dX10_stranded_26 : decode cX10_stranded 26 = .ok (.invokevirtual 277, 3) := by decide +kernel
theorem dX10_stranded_29 : decode cX10_stranded 29 = .ok (.ifCond .ne 6, 3) := by decide +kernel
theorem dX10_stranded_32 : decode cX10_stranded 32 = .ok (.iinc 2 1, 3) := by decide +kernel
theorem dX10_stranded_35 : decode cX10_stranded 35 = .ok (.iinc 3 1, 3) := by decide +kernel
theorem dX10_stranded_38 : decode cX10_stranded 38 = .ok (.goto (-34), 3) := by decide +kernel
theorem dX10_stranded_41 : decode cX10_stranded 41 = .ok (.iload_n 2, 1) := by decide +kernel
theorem dX10_stranded_42 : decode cX10_stranded 42 = .ok (.ireturn, 1) := by decide +kernel
theorem dX10_bestPlace_0 : decode cX10_bestPlace 0 = .ok (.iconst (-1), 1) := by decide +kernel
theorem dX10_bestPlace_1 : decode cX10_bestPlace 1 = .ok (.istore_n 2, 1) := by decide +kernel
theorem dX10_bestPlace_2 : decode cX10_bestPlace 2 = .ok (.iconst 0, 1) := by decide +kernel
theorem dX10_bestPlace_3 : decode cX10_bestPlace 3 = .ok (.istore_n 3, 1) := by decide +kernel
theorem dX10_bestPlace_4 : decode cX10_bestPlace 4 = .ok (.iload_n 3, 1) := by decide +kernel
theorem dX10_bestPlace_5 : decode cX10_bestPlace 5 = .ok (.aload_n 0, 1) := by decide +kernel
theorem dX10_bestPlace_6 : decode cX10_bestPlace 6 = .ok (.getfield 19, 3) := by decide +kernel
theorem dX10_bestPlace_9 : decode cX10_bestPlace 9 = .ok (.getfield 266, 3) := by decide +kernel
theorem dX10_bestPlace_12 : decode cX10_bestPlace 12 = .ok (.if_icmp .ge 137, 3) := by decide +kernel
theorem dX10_bestPlace_15 : decode cX10_bestPlace 15 = .ok (.aload_n 0, 1) := by decide +kernel
theorem dX10_bestPlace_16 : decode cX10_bestPlace 16 = .ok (.getfield 19, 3) := by decide +kernel
theorem dX10_bestPlace_19 : decode cX10_bestPlace 19 = .ok (.getfield 123, 3) := by decide +kernel
theorem dX10_bestPlace_22 : decode cX10_bestPlace 22 = .ok (.iload_n 1, 1) := by decide +kernel
theorem dX10_bestPlace_23 : decode cX10_bestPlace 23 = .ok (.iaload, 1) := by decide +kernel
theorem dX10_bestPlace_24 : decode cX10_bestPlace 24 = .ok (.aload_n 0, 1) := by decide +kernel
theorem dX10_bestPlace_25 : decode cX10_bestPlace 25 = .ok (.getfield 19, 3) := by decide +kernel
theorem dX10_bestPlace_28 : decode cX10_bestPlace 28 = .ok (.getfield 147, 3) := by decide +kernel
theorem dX10_bestPlace_31 : decode cX10_bestPlace 31 = .ok (.iload_n 3, 1) := by decide +kernel
theorem dX10_bestPlace_32 : decode cX10_bestPlace 32 = .ok (.iaload, 1) := by decide +kernel
theorem dX10_bestPlace_33 : decode cX10_bestPlace 33 = .ok (.iadd, 1) := by decide +kernel
theorem dX10_bestPlace_34 : decode cX10_bestPlace 34 = .ok (.istore 4, 2) := by decide +kernel
theorem dX10_bestPlace_36 : decode cX10_bestPlace 36 = .ok (.aload_n 0, 1) := by decide +kernel
theorem dX10_bestPlace_37 : decode cX10_bestPlace 37 = .ok (.getfield 26, 3) := by decide +kernel
theorem dX10_bestPlace_40 : decode cX10_bestPlace 40 = .ok (.iload_n 3, 1) := by decide +kernel
theorem dX10_bestPlace_41 : decode cX10_bestPlace 41 = .ok (.invokevirtual 153, 3) := by decide +kernel
theorem dX10_bestPlace_44 : decode cX10_bestPlace 44 = .ok (.istore 5, 2) := by decide +kernel
theorem dX10_bestPlace_46 : decode cX10_bestPlace 46 = .ok (.iconst 0, 1) := by decide +kernel
theorem dX10_bestPlace_47 : decode cX10_bestPlace 47 = .ok (.istore 6, 2) := by decide +kernel
theorem dX10_bestPlace_49 : decode cX10_bestPlace 49 = .ok (.iload 6, 2) := by decide +kernel
theorem dX10_bestPlace_51 : decode cX10_bestPlace 51 = .ok (.iload 5, 2) := by decide +kernel
theorem dX10_bestPlace_53 : decode cX10_bestPlace 53 = .ok (.if_icmp .gt 90, 3) := by decide +kernel
theorem dX10_bestPlace_56 : decode cX10_bestPlace 56 = .ok (.aload_n 0, 1) := by decide +kernel
theorem dX10_bestPlace_57 : decode cX10_bestPlace 57 = .ok (.aload_n 0, 1) := by decide +kernel
theorem dX10_bestPlace_58 : decode cX10_bestPlace 58 = .ok (.getfield 26, 3) := by decide +kernel
theorem dX10_bestPlace_61 : decode cX10_bestPlace 61 = .ok (.iload_n 1, 1) := by decide +kernel
theorem dX10_bestPlace_62 : decode cX10_bestPlace 62 = .ok (.iload_n 3, 1) := by decide +kernel
theorem dX10_bestPlace_63 : decode cX10_bestPlace 63 = .ok (.iload 6, 2) := by decide +kernel
theorem dX10_bestPlace_65 : decode cX10_bestPlace 65 = .ok (.invokevirtual 163, 3) := by decide +kernel
theorem dX10_bestPlace_68 : decode cX10_bestPlace 68 = .ok (.ifCond .ne 69, 3) := by decide +kernel
theorem dX10_bestPlace_71 : decode cX10_bestPlace 71 = .ok (.aload_n 0, 1) := by decide +kernel
theorem dX10_bestPlace_72 : decode cX10_bestPlace 72 = .ok (.getfield 30, 3) := by decide +kernel
theorem dX10_bestPlace_75 : decode cX10_bestPlace 75 = .ok (.aload_n 0, 1) := by decide +kernel
theorem dX10_bestPlace_76 : decode cX10_bestPlace 76 = .ok (.getfield 26, 3) := by decide +kernel
theorem dX10_bestPlace_79 : decode cX10_bestPlace 79 = .ok (.invokevirtual 269, 3) := by decide +kernel
theorem dX10_bestPlace_82 : decode cX10_bestPlace 82 = .ok (.aload_n 0, 1) := by decide +kernel
theorem dX10_bestPlace_83 : decode cX10_bestPlace 83 = .ok (.getfield 30, 3) := by decide +kernel
theorem dX10_bestPlace_86 : decode cX10_bestPlace 86 = .ok (.iload_n 1, 1) := by decide +kernel
theorem dX10_bestPlace_87 : decode cX10_bestPlace 87 = .ok (.iload_n 3, 1) := by decide +kernel
theorem dX10_bestPlace_88 : decode cX10_bestPlace 88 = .ok (.iload 6, 2) := by decide +kernel
theorem dX10_bestPlace_90 : decode cX10_bestPlace 90 = .ok (.invokevirtual 170, 3) := by decide +kernel
theorem dX10_bestPlace_93 : decode cX10_bestPlace 93 = .ok (.aload_n 0, 1) := by decide +kernel
theorem dX10_bestPlace_94 : decode cX10_bestPlace 94 = .ok (.aload_n 0, 1) := by decide +kernel
theorem dX10_bestPlace_95 : decode cX10_bestPlace 95 = .ok (.getfield 30, 3) := by decide +kernel
theorem dX10_bestPlace_98 : decode cX10_bestPlace 98 = .ok (.invokevirtual 273, 3) := by decide +kernel
theorem dX10_bestPlace_101 : decode cX10_bestPlace 101 = .ok (.bipush 16, 2) := by decide +kernel
theorem dX10_bestPlace_103 : decode cX10_bestPlace 103 = .ok (.ishl, 1) := by decide +kernel
theorem dX10_bestPlace_104 : decode cX10_bestPlace 104 = .ok (.iload 4, 2) := by decide +kernel
theorem dX10_bestPlace_106 : decode cX10_bestPlace 106 = .ok (.bipush 8, 2) := by decide +kernel
theorem dX10_bestPlace_108 : decode cX10_bestPlace 108 = .ok (.ishl, 1) := by decide +kernel
theorem dX10_bestPlace_109 : decode cX10_bestPlace 109 = .ok (.ior, 1) := by decide +kernel
theorem dX10_bestPlace_110 : decode cX10_bestPlace 110 = .ok (.iload_n 3, 1) := by decide +kernel
theorem dX10_bestPlace_111 : decode cX10_bestPlace 111 = .ok (.iconst 4, 1) := by decide +kernel
theorem dX10_bestPlace_112 : decode cX10_bestPlace 112 = .ok (.ishl, 1) := by decide +kernel
theorem dX10_bestPlace_113 : decode cX10_bestPlace 113 = .ok (.ior, 1) := by decide +kernel
theorem dX10_bestPlace_114 : decode cX10_bestPlace 114 = .ok (.iload 6, 2) := by decide +kernel
theorem dX10_bestPlace_116 : decode cX10_bestPlace 116 = .ok (.ior, 1) := by decide +kernel
theorem dX10_bestPlace_117 : decode cX10_bestPlace 117 = .ok (.istore 7, 2) := by decide +kernel
theorem dX10_bestPlace_119 : decode cX10_bestPlace 119 = .ok (.iload_n 2, 1) := by decide +kernel
theorem dX10_bestPlace_120 : decode cX10_bestPlace 120 = .ok (.iconst (-1), 1) := by decide +kernel
theorem dX10_bestPlace_121 : decode cX10_bestPlace 121 = .ok (.if_icmp .eq 9, 3) := by decide +kernel
theorem dX10_bestPlace_124 : decode cX10_bestPlace 124 = .ok (.iload 7, 2) := by decide +kernel
theorem dX10_bestPlace_126 : decode cX10_bestPlace 126 = .ok (.iload_n 2, 1) := by decide +kernel
theorem dX10_bestPlace_127 : decode cX10_bestPlace 127 = .ok (.if_icmp .ge 8, 3) := by decide +kernel
theorem dX10_bestPlace_130 : decode cX10_bestPlace 130 = .ok (.iload 7, 2) := by decide +kernel
theorem dX10_bestPlace_132 : decode cX10_bestPlace 132 = .ok (.goto 4, 3) := by decide +kernel
theorem dX10_bestPlace_135 : decode cX10_bestPlace 135 = .ok (.iload_n 2, 1) := by decide +kernel
theorem dX10_bestPlace_136 : decode cX10_bestPlace 136 = .ok (.istore_n 2, 1) := by decide +kernel
theorem dX10_bestPlace_137 : decode cX10_bestPlace 137 = .ok (.iinc 6 1, 3) := by decide +kernel
theorem dX10_bestPlace_140 : decode cX10_bestPlace 140 = .ok (.goto (-91), 3) := by decide +kernel
theorem dX10_bestPlace_143 : decode cX10_bestPlace 143 = .ok (.iinc 3 1, 3) := by decide +kernel
theorem dX10_bestPlace_146 : decode cX10_bestPlace 146 = .ok (.goto (-142), 3) := by decide +kernel
theorem dX10_bestPlace_149 : decode cX10_bestPlace 149 = .ok (.iload_n 2, 1) := by decide +kernel
theorem dX10_bestPlace_150 : decode cX10_bestPlace 150 = .ok (.ireturn, 1) := by decide +kernel
theorem dX10_goes_0 : decode cX10_goes 0 = .ok (.aload_n 0, 1) := by decide +kernel
theorem dX10_goes_1 : decode cX10_goes 1 = .ok (.getfield 19, 3) := by decide +kernel
theorem dX10_goes_4 : decode cX10_goes 4 = .ok (.iload_n 1, 1) := by decide +kernel
theorem dX10_goes_5 : decode cX10_goes 5 = .ok (.invokevirtual 112, 3) := by decide +kernel
theorem dX10_goes_8 : decode cX10_goes 8 = .ok (.ifCond .eq 14, 3) := by decide +kernel
theorem dX10_goes_11 : decode cX10_goes 11 = .ok (.aload_n 0, 1) := by decide +kernel
theorem dX10_goes_12 : decode cX10_goes 12 = .ok (.getfield 26, 3) := by decide +kernel
theorem dX10_goes_15 : decode cX10_goes 15 = .ok (.iload_n 1, 1) := by decide +kernel
theorem dX10_goes_16 : decode cX10_goes 16 = .ok (.invokevirtual 160, 3) := by decide +kernel
theorem dX10_goes_19 : decode cX10_goes 19 = .ok (.ifCond .ne 5, 3) := by decide +kernel
theorem dX10_goes_22 : decode cX10_goes 22 = .ok (.iconst (-1), 1) := by decide +kernel
theorem dX10_goes_23 : decode cX10_goes 23 = .ok (.ireturn, 1) := by decide +kernel
theorem dX10_goes_24 : decode cX10_goes 24 = .ok (.aload_n 0, 1) := by decide +kernel
theorem dX10_goes_25 : decode cX10_goes 25 = .ok (.iload_n 1, 1) := by decide +kernel
theorem dX10_goes_26 : decode cX10_goes 26 = .ok (.invokevirtual 263, 3) := by decide +kernel
theorem dX10_goes_29 : decode cX10_goes 29 = .ok (.istore_n 3, 1) := by decide +kernel
theorem dX10_goes_30 : decode cX10_goes 30 = .ok (.iload_n 3, 1) := by decide +kernel
theorem dX10_goes_31 : decode cX10_goes 31 = .ok (.iconst (-1), 1) := by decide +kernel
theorem dX10_goes_32 : decode cX10_goes 32 = .ok (.if_icmp .ne 5, 3) := by decide +kernel
theorem dX10_goes_35 : decode cX10_goes 35 = .ok (.iconst (-1), 1) := by decide +kernel
theorem dX10_goes_36 : decode cX10_goes 36 = .ok (.ireturn, 1) := by decide +kernel
theorem dX10_goes_37 : decode cX10_goes 37 = .ok (.iload_n 2, 1) := by decide +kernel
theorem dX10_goes_38 : decode cX10_goes 38 = .ok (.tableswitch 43 0 2 #[26, 33, 38], 26) := by decide +kernel
theorem dX10_goes_64 : decode cX10_goes 64 = .ok (.iload_n 3, 1) := by decide +kernel
theorem dX10_goes_65 : decode cX10_goes 65 = .ok (.iconst 4, 1) := by decide +kernel
theorem dX10_goes_66 : decode cX10_goes 66 = .ok (.iushr, 1) := by decide +kernel
theorem dX10_goes_67 : decode cX10_goes 67 = .ok (.bipush 15, 2) := by decide +kernel
theorem dX10_goes_69 : decode cX10_goes 69 = .ok (.iand, 1) := by decide +kernel
theorem dX10_goes_70 : decode cX10_goes 70 = .ok (.ireturn, 1) := by decide +kernel
theorem dX10_goes_71 : decode cX10_goes 71 = .ok (.iload_n 3, 1) := by decide +kernel
theorem dX10_goes_72 : decode cX10_goes 72 = .ok (.bipush 15, 2) := by decide +kernel
theorem dX10_goes_74 : decode cX10_goes 74 = .ok (.iand, 1) := by decide +kernel
theorem dX10_goes_75 : decode cX10_goes 75 = .ok (.ireturn, 1) := by decide +kernel
theorem dX10_goes_76 : decode cX10_goes 76 = .ok (.iload_n 3, 1) := by decide +kernel
theorem dX10_goes_77 : decode cX10_goes 77 = .ok (.bipush 16, 2) := by decide +kernel
theorem dX10_goes_79 : decode cX10_goes 79 = .ok (.iushr, 1) := by decide +kernel
theorem dX10_goes_80 : decode cX10_goes 80 = .ok (.ireturn, 1) := by decide +kernel
theorem dX10_goes_81 : decode cX10_goes 81 = .ok (.iconst (-1), 1) := by decide +kernel
theorem dX10_goes_82 : decode cX10_goes 82 = .ok (.ireturn, 1) := by decide +kernel
set_option maxHeartbeats 4000000 in
set_option maxRecDepth 100000 in
theorem c_X10_raise (l : Launch) (D : DG) (cyC cyI cyJ cyZ cyO : ClassId) (x0 : Nat) (a0 : Nat) (a1 : Nat) (a2 : Nat) (a3 : Nat) (a4 : Nat) (a7 : Nat) (a8 : Nat) (k0 : Nat) (k1 : Nat) (k2 : Nat) (k3 : Nat) (q0 : Nat) (q1 : Nat) (r0 : Nat) (n0 : Nat) (x1 : Nat) (o0 : Nat) (h0 : Nat) (s0 : Nat) (d0 : Nat) (a5 : Nat) (a6 : Nat) (a9 : Nat) (a10 : Nat) (k4 : Nat) (p0 : Int32) (a_wares : Int32) (a_shelves : Int32) (a_nests : Int32) (a_lids : Int32) (a_tops : Int32) (k_askings : Int32) (k_cost : Int32) (k_laid : Int32) (q_size : Int32) (a_wide : Nat → Int32) (a_deep : Nat → Int32) (a_weight : Nat → Int32) (a_bears : Nat → Int32) (a_mayOn : Nat → Int32) (a_height : Nat → Int32) (k_shelf : Nat → Int32) (k_stack : Nat → Int32) (k_level : Nat → Int32) (q_ware : Nat → Int32) (h_a_wares : 0 ≤ (a_wares).toInt ∧ (a_wares).toInt ≤ 12) (h_a_shelves : 0 ≤ (a_shelves).toInt ∧ (a_shelves).toInt ≤ 4) (h_a_nests : 0 ≤ (a_nests).toInt ∧ (a_nests).toInt ≤ 4) (h_k_askings : 0 ≤ (k_askings).toInt ∧ (k_askings).toInt ≤ 30) (h_k_laid : 0 ≤ (k_laid).toInt ∧ (k_laid).toInt ≤ 1) (h_q_size : 0 ≤ (q_size).toInt ∧ (q_size).toInt ≤ 12) (h_p0 : 0 ≤ (p0).toInt ∧ (p0).toInt ≤ 11) (h_k_shelf : Iv 12 (-1) (3) k_shelf) (h_k_stack : Iv 12 (0) (7) k_stack) (h_k_level : Iv 12 (0) (11) k_level) (h_q_ware : Iv 12 (0) (11) q_ware) (hin9 : 0 ≤ (k_shelf (p0).toInt.toNat).toInt) : KK l D (TY cyC cyI cyJ cyZ cyO) yX10_raise cX10_raise 4 none ({ frames := 3, cells := 0, slots := 0, locals := 70 } : Room) 0 0 [.ref x0, .int p0] [(x0, .inr (10, [.ref r0, .ref a0, .ref n0, .ref k0, .ref x1, .ref q0, .ref o0, .ref h0, .ref s0, .ref d0])), (a0, .inr (9, [.int a_wares, .int a_shelves, .int a_nests, .ref a1, .ref a2, .ref a3, .ref a4, .ref a5, .ref a6, .int a_lids, .int a_tops, .ref a7, .ref a8, .ref a9, .ref a10])), (a1, .inl (cyI, 12, .inl a_wide)), (a2, .inl (cyI, 12, .inl a_deep)), (a3, .inl (cyI, 12, .inl a_weight)), (a4, .inl (cyI, 12, .inl a_bears)), (a7, .inl (cyI, 12, .inl a_mayOn)), (a8, .inl (cyI, 4, .inl a_height)), (k0, .inr (7, [.ref k1, .ref k2, .ref k3, .ref k4, .int k_askings, .int k_cost, .int k_laid])), (k1, .inl (cyI, 12, .inl k_shelf)), (k2, .inl (cyI, 12, .inl k_stack)), (k3, .inl (cyI, 12, .inl k_level)), (q0, .inr (4, [.ref q1, .int q_size])), (q1, .inl (cyI, 12, .inl q_ware))] (fun u => none) (fun u => (Iv 12 (0) (11) (u.2.2.1 0)) ∧ (0 ≤ (u.2.1 0).toInt ∧ (u.2.1 0).toInt ≤ 12) ∧ (Iv 12 (0) (11) (u.2.2.1 1))) (fun u => [(x0, .inr (10, [.ref r0, .ref a0, .ref n0, .ref k0, .ref x1, .ref q0, .ref o0, .ref h0, .ref s0, .ref d0])), (a0, .inr (9, [.int a_wares, .int a_shelves, .int a_nests, .ref a1, .ref a2, .ref a3, .ref a4, .ref a5, .ref a6, .int a_lids, .int a_tops, .ref a7, .ref a8, .ref a9, .ref a10])), (a1, .inl (cyI, 12, .inl a_wide)), (a2, .inl (cyI, 12, .inl a_deep)), (a3, .inl (cyI, 12, .inl a_weight)), (a4, .inl (cyI, 12, .inl a_bears)), (a7, .inl (cyI, 12, .inl a_mayOn)), (a8, .inl (cyI, 4, .inl a_height)), (k0, .inr (7, [.ref k1, .ref k2, .ref k3, .ref k4, .int k_askings, .int k_cost, .int k_laid])), (k1, .inl (cyI, 12, .inl k_shelf)), (k2, .inl (cyI, 12, .inl k_stack)), (k3, .inl (cyI, 12, .inl (u.2.2.1 0))), (q0, .inr (4, [.ref q1, .int (u.2.1 0)])), (q1, .inl (cyI, 12, .inl (u.2.2.1 1)))]) := by
  refine KK.of (lv0 := [(0, .ref x0), (1, .int p0)]) (by decide) rfl (Nat.le_of_ble_eq_true rfl) ?_
  intro p e s m args below meth c A C hr hk hin
  refine j_aload_n (pc := 0) C dX10_raise_0 rfl 0 rfl ?_
  refine j_get (pc := 1) (ci := 10) (v := .ref k0) C inw_10 0 rfl rfl 3 (by decide) wd_544 rfl rfl dX10_raise_1 ?_
  refine j_get (pc := 4) (ci := 7) (v := .ref k1) C inw_7 8 rfl rfl 0 (by decide) wd_454 rfl rfl dX10_raise_4 ?_
  refine j_iload_n (pc := 7) C dX10_raise_7 rfl 1 rfl ?_
  obtain ⟨v_1, ev_1⟩ : ∃ z, k_shelf (p0).toInt.toNat = z := ⟨_, rfl⟩
  have env_1 : (k_shelf (p0).toInt.toNat).toInt = v_1.toInt := by rw [ev_1]
  have hv_1 := h_k_shelf (p0).toInt.toNat (i_lt_n h_p0.1 (Int.lt_of_le_of_lt h_p0.2 (by decide))); rw [ev_1] at hv_1
  refine j_iald (pc := 8) (v := v_1) (k := (p0).toInt.toNat) C 9 1 rfl rfl (i_nn h_p0.1) rfl (i_lt_n h_p0.1 (Int.lt_of_le_of_lt h_p0.2 (by decide))) ev_1 dX10_raise_8 ?_
  refine j_istore_n (pc := 9) (lv' := [(2, .int v_1), (0, .ref x0), (1, .int p0)]) C dX10_raise_9 rfl (by decide) rfl ?_
  refine j_aload_n (pc := 10) C dX10_raise_10 rfl 1 rfl ?_
  refine j_get (pc := 11) (ci := 10) (v := .ref k0) C inw_10 0 rfl rfl 3 (by decide) wd_544 rfl rfl dX10_raise_11 ?_
  refine j_get (pc := 14) (ci := 7) (v := .ref k2) C inw_7 8 rfl rfl 1 (by decide) wd_455 rfl rfl dX10_raise_14 ?_
  refine j_iload_n (pc := 17) C dX10_raise_17 rfl 2 rfl ?_
  obtain ⟨v_2, ev_2⟩ : ∃ z, k_stack (p0).toInt.toNat = z := ⟨_, rfl⟩
  have env_2 : (k_stack (p0).toInt.toNat).toInt = v_2.toInt := by rw [ev_2]
  have hv_2 := h_k_stack (p0).toInt.toNat (i_lt_n h_p0.1 (Int.lt_of_le_of_lt h_p0.2 (by decide))); rw [ev_2] at hv_2
  refine j_iald (pc := 18) (v := v_2) (k := (p0).toInt.toNat) C 10 1 rfl rfl (i_nn h_p0.1) rfl (i_lt_n h_p0.1 (Int.lt_of_le_of_lt h_p0.2 (by decide))) ev_2 dX10_raise_18 ?_
  refine j_istore_n (pc := 19) (lv' := [(3, .int v_2), (2, .int v_1), (0, .ref x0), (1, .int p0)]) C dX10_raise_19 rfl (by decide) rfl ?_
  refine j_aload_n (pc := 20) C dX10_raise_20 rfl 2 rfl ?_
  refine j_get (pc := 21) (ci := 10) (v := .ref q0) C inw_10 0 rfl rfl 5 (by decide) wd_438 rfl rfl dX10_raise_21 ?_
  refine j_aload_n (pc := 24) C dX10_raise_24 rfl 2 rfl ?_
  refine j_get (pc := 25) (ci := 10) (v := .ref k0) C inw_10 0 rfl rfl 3 (by decide) wd_544 rfl rfl dX10_raise_25 ?_
  refine j_iload_n (pc := 28) C dX10_raise_28 rfl 1 rfl ?_
  refine j_iload_n (pc := 29) C dX10_raise_29 rfl 0 rfl ?_
  refine j_callV (pc := 30) (As := [.ref k0, .int v_1, .int v_2]) (rest := []) (wr := [(x0, .inr (10, [.ref r0, .ref a0, .ref n0, .ref k0, .ref x1, .ref q0, .ref o0, .ref h0, .ref s0, .ref d0])), (a0, .inr (9, [.int a_wares, .int a_shelves, .int a_nests, .ref a1, .ref a2, .ref a3, .ref a4, .ref a5, .ref a6, .int a_lids, .int a_tops, .ref a7, .ref a8, .ref a9, .ref a10])), (a1, .inl (cyI, 12, .inl a_wide)), (a2, .inl (cyI, 12, .inl a_deep)), (a3, .inl (cyI, 12, .inl a_weight)), (a4, .inl (cyI, 12, .inl a_bears)), (a7, .inl (cyI, 12, .inl a_mayOn)), (a8, .inl (cyI, 4, .inl a_height))]) C (c_X4_take l D cyC cyI cyJ cyZ cyO q0 q1 k0 k1 k2 k3 k4 v_1 v_2 q_size k_askings k_cost k_laid q_ware k_shelf k_stack k_level h_q_size h_k_askings h_k_laid h_q_ware h_k_shelf h_k_stack h_k_level) wd_439 wd_40 wd_440 wd_441 wd_442 ⟨by decide, by decide, rfl⟩ rfl ⟨rfl, rfl, by decide, by decide⟩ ⟨by decide, by decide⟩ [12, 13, 8, 9, 10, 11] [0, 1, 2, 3, 4, 5, 6, 7] rfl rfl ⟨by decide, by decide, by decide⟩ 12 rfl rfl rfl (Nat.le_of_ble_eq_true rfl) dX10_raise_30 (fun u_3 hw_4 => ?_)
  refine j_eq (ws2 := [(x0, .inr (10, [.ref r0, .ref a0, .ref n0, .ref k0, .ref x1, .ref q0, .ref o0, .ref h0, .ref s0, .ref d0])), (a0, .inr (9, [.int a_wares, .int a_shelves, .int a_nests, .ref a1, .ref a2, .ref a3, .ref a4, .ref a5, .ref a6, .int a_lids, .int a_tops, .ref a7, .ref a8, .ref a9, .ref a10])), (a1, .inl (cyI, 12, .inl a_wide)), (a2, .inl (cyI, 12, .inl a_deep)), (a3, .inl (cyI, 12, .inl a_weight)), (a4, .inl (cyI, 12, .inl a_bears)), (a7, .inl (cyI, 12, .inl a_mayOn)), (a8, .inl (cyI, 4, .inl a_height)), (q0, .inr (4, [.ref q1, .int (u_3.2.1 0)])), (q1, .inl (cyI, 12, .inl (u_3.2.2.1 0))), (k0, .inr (7, [.ref k1, .ref k2, .ref k3, .ref k4, .int k_askings, .int k_cost, .int k_laid])), (k1, .inl (cyI, 12, .inl k_shelf)), (k2, .inl (cyI, 12, .inl k_stack)), (k3, .inl (cyI, 12, .inl k_level))]) (pc2 := 33) (lv2 := [(3, .int v_2), (2, .int v_1), (0, .ref x0), (1, .int p0)]) (st2 := []) rfl rfl rfl rfl ?_
  obtain ⟨hw_4_0, hw_4_1, hw_4_2, hw_4_3⟩ := hw_4
  refine j_aload_n (pc := 33) C dX10_raise_33 rfl 2 rfl ?_
  refine j_get (pc := 34) (ci := 10) (v := .ref q0) C inw_10 0 rfl rfl 5 (by decide) wd_438 rfl rfl dX10_raise_34 ?_
  refine j_aload_n (pc := 37) C dX10_raise_37 rfl 2 rfl ?_
  refine j_get (pc := 38) (ci := 10) (v := .ref k0) C inw_10 0 rfl rfl 3 (by decide) wd_544 rfl rfl dX10_raise_38 ?_
  refine j_get (pc := 41) (ci := 7) (v := .ref k3) C inw_7 10 rfl rfl 2 (by decide) wd_456 rfl rfl dX10_raise_41 ?_
  refine j_iload_n (pc := 44) C dX10_raise_44 rfl 3 rfl ?_
  obtain ⟨v_5, ev_5⟩ : ∃ z, k_level (p0).toInt.toNat = z := ⟨_, rfl⟩
  have env_5 : (k_level (p0).toInt.toNat).toInt = v_5.toInt := by rw [ev_5]
  have hv_5 := h_k_level (p0).toInt.toNat (i_lt_n h_p0.1 (Int.lt_of_le_of_lt h_p0.2 (by decide))); rw [ev_5] at hv_5
  refine j_iald (pc := 45) (v := v_5) (k := (p0).toInt.toNat) C 13 1 rfl rfl (i_nn h_p0.1) rfl (i_lt_n h_p0.1 (Int.lt_of_le_of_lt h_p0.2 (by decide))) ev_5 dX10_raise_45 ?_
  have hz9 := hw_4_2 (p0).toInt.toNat (by omega) ev_1 ev_2
  refine j_callV (pc := 46) (As := [.int v_5]) (rest := []) (wr := [(x0, .inr (10, [.ref r0, .ref a0, .ref n0, .ref k0, .ref x1, .ref q0, .ref o0, .ref h0, .ref s0, .ref d0])), (a0, .inr (9, [.int a_wares, .int a_shelves, .int a_nests, .ref a1, .ref a2, .ref a3, .ref a4, .ref a5, .ref a6, .int a_lids, .int a_tops, .ref a7, .ref a8, .ref a9, .ref a10])), (a1, .inl (cyI, 12, .inl a_wide)), (a2, .inl (cyI, 12, .inl a_deep)), (a3, .inl (cyI, 12, .inl a_weight)), (a4, .inl (cyI, 12, .inl a_bears)), (a7, .inl (cyI, 12, .inl a_mayOn)), (a8, .inl (cyI, 4, .inl a_height)), (k0, .inr (7, [.ref k1, .ref k2, .ref k3, .ref k4, .int k_askings, .int k_cost, .int k_laid])), (k1, .inl (cyI, 12, .inl k_shelf)), (k2, .inl (cyI, 12, .inl k_stack)), (k3, .inl (cyI, 12, .inl k_level))]) C (c_X4_remove l D cyC cyI cyJ cyZ cyO q0 q1 v_5 (u_3.2.1 0) (u_3.2.2.1 0) (by omega) hv_5 hw_4_1) wd_491 wd_40 wd_492 wd_493 wd_494 ⟨by decide, by decide, rfl⟩ rfl ⟨rfl, rfl, by decide, by decide⟩ ⟨by decide, by decide⟩ [8, 9] [0, 1, 2, 3, 4, 5, 6, 7, 10, 11, 12, 13] rfl rfl ⟨by decide, by decide, by decide⟩ 8 rfl rfl rfl (Nat.le_of_ble_eq_true rfl) dX10_raise_46 (fun u_6 hw_7 => ?_)
  refine j_eq (ws2 := [(x0, .inr (10, [.ref r0, .ref a0, .ref n0, .ref k0, .ref x1, .ref q0, .ref o0, .ref h0, .ref s0, .ref d0])), (a0, .inr (9, [.int a_wares, .int a_shelves, .int a_nests, .ref a1, .ref a2, .ref a3, .ref a4, .ref a5, .ref a6, .int a_lids, .int a_tops, .ref a7, .ref a8, .ref a9, .ref a10])), (a1, .inl (cyI, 12, .inl a_wide)), (a2, .inl (cyI, 12, .inl a_deep)), (a3, .inl (cyI, 12, .inl a_weight)), (a4, .inl (cyI, 12, .inl a_bears)), (a7, .inl (cyI, 12, .inl a_mayOn)), (a8, .inl (cyI, 4, .inl a_height)), (k0, .inr (7, [.ref k1, .ref k2, .ref k3, .ref k4, .int k_askings, .int k_cost, .int k_laid])), (k1, .inl (cyI, 12, .inl k_shelf)), (k2, .inl (cyI, 12, .inl k_stack)), (k3, .inl (cyI, 12, .inl k_level)), (q0, .inr (4, [.ref q1, .int (u_6.2.1 0)])), (q1, .inl (cyI, 12, .inl (u_6.2.2.1 0)))]) (pc2 := 49) (lv2 := [(3, .int v_2), (2, .int v_1), (0, .ref x0), (1, .int p0)]) (st2 := []) rfl rfl rfl rfl ?_
  obtain ⟨hw_7_0, hw_7_1, hw_7_2, hw_7_3⟩ := hw_7
  refine j_aload_n (pc := 49) C dX10_raise_49 rfl 2 rfl ?_
  refine j_get (pc := 50) (ci := 10) (v := .ref q0) C inw_10 0 rfl rfl 5 (by decide) wd_438 rfl rfl dX10_raise_50 ?_
  refine j_iload_n (pc := 53) C dX10_raise_53 rfl 3 rfl ?_
  refine j_callV (pc := 54) (As := [.int p0]) (rest := []) (wr := [(x0, .inr (10, [.ref r0, .ref a0, .ref n0, .ref k0, .ref x1, .ref q0, .ref o0, .ref h0, .ref s0, .ref d0])), (a0, .inr (9, [.int a_wares, .int a_shelves, .int a_nests, .ref a1, .ref a2, .ref a3, .ref a4, .ref a5, .ref a6, .int a_lids, .int a_tops, .ref a7, .ref a8, .ref a9, .ref a10])), (a1, .inl (cyI, 12, .inl a_wide)), (a2, .inl (cyI, 12, .inl a_deep)), (a3, .inl (cyI, 12, .inl a_weight)), (a4, .inl (cyI, 12, .inl a_bears)), (a7, .inl (cyI, 12, .inl a_mayOn)), (a8, .inl (cyI, 4, .inl a_height)), (k0, .inr (7, [.ref k1, .ref k2, .ref k3, .ref k4, .int k_askings, .int k_cost, .int k_laid])), (k1, .inl (cyI, 12, .inl k_shelf)), (k2, .inl (cyI, 12, .inl k_stack)), (k3, .inl (cyI, 12, .inl k_level))]) C (c_X4_add l D cyC cyI cyJ cyZ cyO q0 q1 p0 (u_6.2.1 0) (u_6.2.2.1 0) (by omega) h_p0 hw_7_1) wd_443 wd_40 wd_444 wd_445 wd_446 ⟨by decide, by decide, rfl⟩ rfl ⟨rfl, rfl, by decide, by decide⟩ ⟨by decide, by decide⟩ [12, 13] [0, 1, 2, 3, 4, 5, 6, 7, 8, 9, 10, 11] rfl rfl ⟨by decide, by decide, by decide⟩ 12 rfl rfl rfl (Nat.le_of_ble_eq_true rfl) dX10_raise_54 (fun u_8 hw_9 => ?_)
  refine j_eq (ws2 := [(x0, .inr (10, [.ref r0, .ref a0, .ref n0, .ref k0, .ref x1, .ref q0, .ref o0, .ref h0, .ref s0, .ref d0])), (a0, .inr (9, [.int a_wares, .int a_shelves, .int a_nests, .ref a1, .ref a2, .ref a3, .ref a4, .ref a5, .ref a6, .int a_lids, .int a_tops, .ref a7, .ref a8, .ref a9, .ref a10])), (a1, .inl (cyI, 12, .inl a_wide)), (a2, .inl (cyI, 12, .inl a_deep)), (a3, .inl (cyI, 12, .inl a_weight)), (a4, .inl (cyI, 12, .inl a_bears)), (a7, .inl (cyI, 12, .inl a_mayOn)), (a8, .inl (cyI, 4, .inl a_height)), (k0, .inr (7, [.ref k1, .ref k2, .ref k3, .ref k4, .int k_askings, .int k_cost, .int k_laid])), (k1, .inl (cyI, 12, .inl k_shelf)), (k2, .inl (cyI, 12, .inl k_stack)), (k3, .inl (cyI, 12, .inl k_level)), (q0, .inr (4, [.ref q1, .int (u_8.2.1 0)])), (q1, .inl (cyI, 12, .inl (u_8.2.2.1 0)))]) (pc2 := 57) (lv2 := [(3, .int v_2), (2, .int v_1), (0, .ref x0), (1, .int p0)]) (st2 := []) rfl rfl rfl rfl ?_
  obtain ⟨hw_9_0, hw_9_1, hw_9_2⟩ := hw_9
  refine j_aload_n (pc := 57) C dX10_raise_57 rfl 2 rfl ?_
  refine j_get (pc := 58) (ci := 10) (v := .ref q0) C inw_10 0 rfl rfl 5 (by decide) wd_438 rfl rfl dX10_raise_58 ?_
  refine j_aload_n (pc := 61) C dX10_raise_61 rfl 2 rfl ?_
  refine j_get (pc := 62) (ci := 10) (v := .ref a0) C inw_10 0 rfl rfl 1 (by decide) wd_447 rfl rfl dX10_raise_62 ?_
  refine j_aload_n (pc := 65) C dX10_raise_65 rfl 2 rfl ?_
  refine j_get (pc := 66) (ci := 10) (v := .ref a0) C inw_10 0 rfl rfl 1 (by decide) wd_447 rfl rfl dX10_raise_66 ?_
  refine j_get (pc := 69) (ci := 9) (v := .ref a8) C inw_9 1 rfl rfl 12 (by decide) wd_448 rfl rfl dX10_raise_69 ?_
  refine j_iload_n (pc := 72) C dX10_raise_72 rfl 1 rfl ?_
  obtain ⟨v_10, ev_10⟩ : ∃ z, a_height (v_1).toInt.toNat = z := ⟨_, rfl⟩
  have env_10 : (a_height (v_1).toInt.toNat).toInt = v_10.toInt := by rw [ev_10]
  refine j_iald (pc := 73) (v := v_10) (k := (v_1).toInt.toNat) C 7 1 rfl rfl (i_nn (by omega)) rfl (i_lt_n (by omega) (Int.lt_of_le_of_lt hv_1.2 (by decide))) ev_10 dX10_raise_73 ?_
  refine j_callV (pc := 74) (As := [.ref a0, .int v_10]) (rest := []) (wr := [(x0, .inr (10, [.ref r0, .ref a0, .ref n0, .ref k0, .ref x1, .ref q0, .ref o0, .ref h0, .ref s0, .ref d0])), (a8, .inl (cyI, 4, .inl a_height)), (k0, .inr (7, [.ref k1, .ref k2, .ref k3, .ref k4, .int k_askings, .int k_cost, .int k_laid])), (k1, .inl (cyI, 12, .inl k_shelf)), (k2, .inl (cyI, 12, .inl k_stack)), (k3, .inl (cyI, 12, .inl k_level))]) C (c_X4_refusal l D cyC cyI cyJ cyZ cyO q0 q1 a0 a1 a2 a3 a4 a7 a5 a6 a8 a9 a10 v_10 (u_8.2.1 0) a_wares a_shelves a_nests a_lids a_tops (u_8.2.2.1 0) a_wide a_deep a_weight a_bears a_mayOn hw_9_0 h_a_wares h_a_shelves h_a_nests hw_9_1) wd_449 wd_40 wd_450 wd_451 wd_452 ⟨by decide, by decide, rfl⟩ rfl ⟨rfl, rfl, by decide, by decide⟩ ⟨by decide, by decide⟩ [12, 13, 1, 2, 3, 4, 5, 6] [0, 7, 8, 9, 10, 11] rfl rfl ⟨by decide, by decide, by decide⟩ 12 rfl rfl rfl (Nat.le_of_ble_eq_true rfl) dX10_raise_74 (fun u_11 hw_12 => ?_)
  refine j_eq (ws2 := [(x0, .inr (10, [.ref r0, .ref a0, .ref n0, .ref k0, .ref x1, .ref q0, .ref o0, .ref h0, .ref s0, .ref d0])), (a8, .inl (cyI, 4, .inl a_height)), (k0, .inr (7, [.ref k1, .ref k2, .ref k3, .ref k4, .int k_askings, .int k_cost, .int k_laid])), (k1, .inl (cyI, 12, .inl k_shelf)), (k2, .inl (cyI, 12, .inl k_stack)), (k3, .inl (cyI, 12, .inl k_level)), (q0, .inr (4, [.ref q1, .int (u_8.2.1 0)])), (q1, .inl (cyI, 12, .inl (u_8.2.2.1 0))), (a0, .inr (9, [.int a_wares, .int a_shelves, .int a_nests, .ref a1, .ref a2, .ref a3, .ref a4, .ref a5, .ref a6, .int a_lids, .int a_tops, .ref a7, .ref a8, .ref a9, .ref a10])), (a1, .inl (cyI, 12, .inl a_wide)), (a2, .inl (cyI, 12, .inl a_deep)), (a3, .inl (cyI, 12, .inl a_weight)), (a4, .inl (cyI, 12, .inl a_bears)), (a7, .inl (cyI, 12, .inl a_mayOn))]) (pc2 := 77) (lv2 := [(3, .int v_2), (2, .int v_1), (0, .ref x0), (1, .int p0)]) (st2 := [.int (u_11.2.1 0)]) rfl rfl rfl rfl ?_
  obtain ⟨hw_12_0, hw_12_1⟩ := hw_12
  refine j_if_ne (pc := 77) (tgt := 88) C dX10_raise_77 (by decide) (fun c_13 => ?_) (fun c_13 => ?_)
  · skip
    have el_0 : (0 : Int32).toInt = 0 := rfl
    rw [i_eq] at c_13
    exact j_vret (pc := 88) C hr hk (fun i => [].getD i 0, fun i => [(u_8.2.1 0)].getD i 0, fun i => [k_level, (u_8.2.2.1 0)].getD i (fun _ => 0), fun i => [].getD i (fun _ => 0)) rfl (show (Iv 12 (0) (11) k_level) ∧ (0 ≤ ((u_8.2.1 0)).toInt ∧ ((u_8.2.1 0)).toInt ≤ 12) ∧ (Iv 12 (0) (11) (u_8.2.2.1 0)) from ⟨h_k_level, hw_9_0, hw_9_1⟩) [0, 8, 9, 10, 11, 12, 13, 1, 2, 3, 4, 5, 6, 7] (by decide) rfl (by decide) (by decide) dX10_raise_88
  · skip
    have el_0 : (0 : Int32).toInt = 0 := rfl
    rw [i_eq] at c_13
    refine j_aload_n (pc := 80) C dX10_raise_80 rfl 2 rfl ?_
    refine j_get (pc := 81) (ci := 10) (v := .ref k0) C inw_10 0 rfl rfl 3 (by decide) wd_544 rfl rfl dX10_raise_81 ?_
    refine j_iload_n (pc := 84) C dX10_raise_84 rfl 3 rfl ?_
    refine j_callV (pc := 85) (As := [.int p0]) (rest := []) (wr := [(x0, .inr (10, [.ref r0, .ref a0, .ref n0, .ref k0, .ref x1, .ref q0, .ref o0, .ref h0, .ref s0, .ref d0])), (a8, .inl (cyI, 4, .inl a_height)), (q0, .inr (4, [.ref q1, .int (u_8.2.1 0)])), (q1, .inl (cyI, 12, .inl (u_8.2.2.1 0))), (a0, .inr (9, [.int a_wares, .int a_shelves, .int a_nests, .ref a1, .ref a2, .ref a3, .ref a4, .ref a5, .ref a6, .int a_lids, .int a_tops, .ref a7, .ref a8, .ref a9, .ref a10])), (a1, .inl (cyI, 12, .inl a_wide)), (a2, .inl (cyI, 12, .inl a_deep)), (a3, .inl (cyI, 12, .inl a_weight)), (a4, .inl (cyI, 12, .inl a_bears)), (a7, .inl (cyI, 12, .inl a_mayOn))]) C (c_X7_raise l D cyC cyI cyJ cyZ cyO k0 k1 k2 k3 k4 p0 k_askings k_cost k_laid k_shelf k_stack k_level h_k_askings h_k_laid h_p0 h_k_shelf h_k_stack h_k_level) wd_545 wd_9 wd_546 wd_547 wd_548 ⟨by decide, by decide, rfl⟩ rfl ⟨rfl, rfl, by decide, by decide⟩ ⟨by decide, by decide⟩ [2, 3, 4, 5] [0, 1, 6, 7, 8, 9, 10, 11, 12, 13] rfl rfl ⟨by decide, by decide, by decide⟩ 2 rfl rfl rfl (Nat.le_of_ble_eq_true rfl) dX10_raise_85 (fun u_14 hw_15 => ?_)
    refine j_eq (ws2 := [(x0, .inr (10, [.ref r0, .ref a0, .ref n0, .ref k0, .ref x1, .ref q0, .ref o0, .ref h0, .ref s0, .ref d0])), (a8, .inl (cyI, 4, .inl a_height)), (q0, .inr (4, [.ref q1, .int (u_8.2.1 0)])), (q1, .inl (cyI, 12, .inl (u_8.2.2.1 0))), (a0, .inr (9, [.int a_wares, .int a_shelves, .int a_nests, .ref a1, .ref a2, .ref a3, .ref a4, .ref a5, .ref a6, .int a_lids, .int a_tops, .ref a7, .ref a8, .ref a9, .ref a10])), (a1, .inl (cyI, 12, .inl a_wide)), (a2, .inl (cyI, 12, .inl a_deep)), (a3, .inl (cyI, 12, .inl a_weight)), (a4, .inl (cyI, 12, .inl a_bears)), (a7, .inl (cyI, 12, .inl a_mayOn)), (k0, .inr (7, [.ref k1, .ref k2, .ref k3, .ref k4, .int k_askings, .int k_cost, .int k_laid])), (k1, .inl (cyI, 12, .inl k_shelf)), (k2, .inl (cyI, 12, .inl k_stack)), (k3, .inl (cyI, 12, .inl (u_14.2.2.1 0)))]) (pc2 := 88) (lv2 := [(3, .int v_2), (2, .int v_1), (0, .ref x0), (1, .int p0)]) (st2 := []) rfl rfl rfl rfl ?_
    obtain ⟨hw_15_0, hw_15_1⟩ := hw_15
    exact j_vret (pc := 88) C hr hk (fun i => [].getD i 0, fun i => [(u_8.2.1 0)].getD i 0, fun i => [(u_14.2.2.1 0), (u_8.2.2.1 0)].getD i (fun _ => 0), fun i => [].getD i (fun _ => 0)) rfl (show (Iv 12 (0) (11) (u_14.2.2.1 0)) ∧ (0 ≤ ((u_8.2.1 0)).toInt ∧ ((u_8.2.1 0)).toInt ≤ 12) ∧ (Iv 12 (0) (11) (u_8.2.2.1 0)) from ⟨hw_15_0, hw_9_0, hw_9_1⟩) [0, 4, 5, 6, 7, 8, 9, 1, 10, 11, 12, 13, 2, 3] (by decide) rfl (by decide) (by decide) dX10_raise_88
set_option maxHeartbeats 4000000 in
set_option maxRecDepth 100000 in
theorem c_X10_onTop (l : Launch) (D : DG) (cyC cyI cyJ cyZ cyO : ClassId) (x0 : Nat) (a0 : Nat) (a1 : Nat) (a2 : Nat) (a3 : Nat) (a4 : Nat) (a7 : Nat) (a8 : Nat) (a9 : Nat) (n0 : Nat) (n1 : Nat) (n2 : Nat) (n3 : Nat) (n4 : Nat) (k0 : Nat) (k1 : Nat) (k2 : Nat) (k3 : Nat) (k4 : Nat) (q0 : Nat) (q1 : Nat) (r0 : Nat) (x1 : Nat) (o0 : Nat) (h0 : Nat) (s0 : Nat) (d0 : Nat) (a5 : Nat) (a6 : Nat) (a10 : Nat) (a_wares : Int32) (a_shelves : Int32) (a_nests : Int32) (a_lids : Int32) (a_tops : Int32) (n_askings : Int32) (n_cost : Int32) (n_laid : Int32) (k_askings : Int32) (k_cost : Int32) (k_laid : Int32) (q_size : Int32) (a_wide : Nat → Int32) (a_deep : Nat → Int32) (a_weight : Nat → Int32) (a_bears : Nat → Int32) (a_mayOn : Nat → Int32) (a_height : Nat → Int32) (a_reach : Nat → Int32) (n_shelf : Nat → Int32) (n_stack : Nat → Int32) (n_level : Nat → Int32) (n_asking : Nat → Int32) (k_shelf : Nat → Int32) (k_stack : Nat → Int32) (k_level : Nat → Int32) (k_asking : Nat → Int32) (q_ware : Nat → Int32) (h_a_wares : 0 ≤ (a_wares).toInt ∧ (a_wares).toInt ≤ 12) (h_a_shelves : 0 ≤ (a_shelves).toInt ∧ (a_shelves).toInt ≤ 4) (h_a_nests : 0 ≤ (a_nests).toInt ∧ (a_nests).toInt ≤ 4) (h_n_askings : 0 ≤ (n_askings).toInt ∧ (n_askings).toInt ≤ 30) (h_n_laid : 0 ≤ (n_laid).toInt ∧ (n_laid).toInt ≤ 1) (h_k_askings : 0 ≤ (k_askings).toInt ∧ (k_askings).toInt ≤ 30) (h_k_laid : 0 ≤ (k_laid).toInt ∧ (k_laid).toInt ≤ 1) (h_q_size : 0 ≤ (q_size).toInt ∧ (q_size).toInt ≤ 12) (h_n_shelf : Iv 12 (-1) (3) n_shelf) (h_n_stack : Iv 12 (0) (7) n_stack) (h_n_level : Iv 12 (0) (11) n_level) (h_n_asking : Iv 30 (0) (11) n_asking) (h_k_shelf : Iv 12 (-1) (3) k_shelf) (h_k_stack : Iv 12 (0) (7) k_stack) (h_k_level : Iv 12 (0) (11) k_level) (h_k_asking : Iv 30 (0) (11) k_asking) (h_q_ware : Iv 12 (0) (11) q_ware) : KK l D (TY cyC cyI cyJ cyZ cyO) yX10_onTop cX10_onTop 4 (some .int) ({ frames := 4, cells := 0, slots := 0, locals := 93 } : Room) 0 0 [.ref x0] [(x0, .inr (10, [.ref r0, .ref a0, .ref n0, .ref k0, .ref x1, .ref q0, .ref o0, .ref h0, .ref s0, .ref d0])), (a0, .inr (9, [.int a_wares, .int a_shelves, .int a_nests, .ref a1, .ref a2, .ref a3, .ref a4, .ref a5, .ref a6, .int a_lids, .int a_tops, .ref a7, .ref a8, .ref a9, .ref a10])), (a1, .inl (cyI, 12, .inl a_wide)), (a2, .inl (cyI, 12, .inl a_deep)), (a3, .inl (cyI, 12, .inl a_weight)), (a4, .inl (cyI, 12, .inl a_bears)), (a7, .inl (cyI, 12, .inl a_mayOn)), (a8, .inl (cyI, 4, .inl a_height)), (a9, .inl (cyI, 4, .inl a_reach)), (n0, .inr (7, [.ref n1, .ref n2, .ref n3, .ref n4, .int n_askings, .int n_cost, .int n_laid])), (n1, .inl (cyI, 12, .inl n_shelf)), (n2, .inl (cyI, 12, .inl n_stack)), (n3, .inl (cyI, 12, .inl n_level)), (n4, .inl (cyI, 30, .inl n_asking)), (k0, .inr (7, [.ref k1, .ref k2, .ref k3, .ref k4, .int k_askings, .int k_cost, .int k_laid])), (k1, .inl (cyI, 12, .inl k_shelf)), (k2, .inl (cyI, 12, .inl k_stack)), (k3, .inl (cyI, 12, .inl k_level)), (k4, .inl (cyI, 30, .inl k_asking)), (q0, .inr (4, [.ref q1, .int q_size])), (q1, .inl (cyI, 12, .inl q_ware))] (fun u => some (.int (u.2.1 0))) (fun u => (Iv 12 (0) (11) (u.2.2.1 0)) ∧ (0 ≤ (u.2.1 1).toInt ∧ (u.2.1 1).toInt ≤ 12) ∧ (Iv 12 (0) (11) (u.2.2.1 1))) (fun u => [(x0, .inr (10, [.ref r0, .ref a0, .ref n0, .ref k0, .ref x1, .ref q0, .ref o0, .ref h0, .ref s0, .ref d0])), (a0, .inr (9, [.int a_wares, .int a_shelves, .int a_nests, .ref a1, .ref a2, .ref a3, .ref a4, .ref a5, .ref a6, .int a_lids, .int a_tops, .ref a7, .ref a8, .ref a9, .ref a10])), (a1, .inl (cyI, 12, .inl a_wide)), (a2, .inl (cyI, 12, .inl a_deep)), (a3, .inl (cyI, 12, .inl a_weight)), (a4, .inl (cyI, 12, .inl a_bears)), (a7, .inl (cyI, 12, .inl a_mayOn)), (a8, .inl (cyI, 4, .inl a_height)), (a9, .inl (cyI, 4, .inl a_reach)), (n0, .inr (7, [.ref n1, .ref n2, .ref n3, .ref n4, .int n_askings, .int n_cost, .int n_laid])), (n1, .inl (cyI, 12, .inl n_shelf)), (n2, .inl (cyI, 12, .inl n_stack)), (n3, .inl (cyI, 12, .inl n_level)), (n4, .inl (cyI, 30, .inl n_asking)), (k0, .inr (7, [.ref k1, .ref k2, .ref k3, .ref k4, .int n_askings, .int n_cost, .int k_laid])), (k1, .inl (cyI, 12, .inl n_shelf)), (k2, .inl (cyI, 12, .inl n_stack)), (k3, .inl (cyI, 12, .inl (u.2.2.1 0))), (k4, .inl (cyI, 30, .inl n_asking)), (q0, .inr (4, [.ref q1, .int (u.2.1 1)])), (q1, .inl (cyI, 12, .inl (u.2.2.1 1)))]) := by
  refine KK.of (lv0 := [(0, .ref x0)]) (by decide) rfl (Nat.le_of_ble_eq_true rfl) ?_
  intro p e s m args below meth c A C hr hk hin
  refine j_aload_n (pc := 0) C dX10_onTop_0 rfl 0 rfl ?_
  refine j_get (pc := 1) (ci := 10) (v := .ref k0) C inw_10 0 rfl rfl 3 (by decide) wd_544 rfl rfl dX10_onTop_1 ?_
  refine j_aload_n (pc := 4) C dX10_onTop_4 rfl 0 rfl ?_
  refine j_get (pc := 5) (ci := 10) (v := .ref n0) C inw_10 0 rfl rfl 2 (by decide) wd_466 rfl rfl dX10_onTop_5 ?_
  refine j_callV (pc := 8) (As := [.ref n0]) (rest := []) (wr := [(x0, .inr (10, [.ref r0, .ref a0, .ref n0, .ref k0, .ref x1, .ref q0, .ref o0, .ref h0, .ref s0, .ref d0])), (a0, .inr (9, [.int a_wares, .int a_shelves, .int a_nests, .ref a1, .ref a2, .ref a3, .ref a4, .ref a5, .ref a6, .int a_lids, .int a_tops, .ref a7, .ref a8, .ref a9, .ref a10])), (a1, .inl (cyI, 12, .inl a_wide)), (a2, .inl (cyI, 12, .inl a_deep)), (a3, .inl (cyI, 12, .inl a_weight)), (a4, .inl (cyI, 12, .inl a_bears)), (a7, .inl (cyI, 12, .inl a_mayOn)), (a8, .inl (cyI, 4, .inl a_height)), (a9, .inl (cyI, 4, .inl a_reach)), (q0, .inr (4, [.ref q1, .int q_size])), (q1, .inl (cyI, 12, .inl q_ware))]) C (c_X7_copy l D cyC cyI cyJ cyZ cyO k0 k1 k2 k3 k4 n0 n1 n2 n3 n4 k_askings k_cost k_laid n_askings n_cost n_laid k_shelf k_stack k_level k_asking n_shelf n_stack n_level n_asking h_k_askings h_k_laid h_n_askings h_n_laid h_k_shelf h_k_stack h_k_level h_k_asking h_n_shelf h_n_stack h_n_level h_n_asking) wd_549 wd_9 wd_550 wd_551 wd_552 ⟨by decide, by decide, rfl⟩ rfl ⟨rfl, rfl, by decide, by decide⟩ ⟨by decide, by decide⟩ [14, 15, 16, 17, 18, 9, 10, 11, 12, 13] [0, 1, 2, 3, 4, 5, 6, 7, 8, 19, 20] rfl rfl ⟨by decide, by decide, by decide⟩ 14 rfl rfl rfl (Nat.le_of_ble_eq_true rfl) dX10_onTop_8 (fun u_1 hw_2 => ?_)
  refine j_eq (ws2 := [(x0, .inr (10, [.ref r0, .ref a0, .ref n0, .ref k0, .ref x1, .ref q0, .ref o0, .ref h0, .ref s0, .ref d0])), (a0, .inr (9, [.int a_wares, .int a_shelves, .int a_nests, .ref a1, .ref a2, .ref a3, .ref a4, .ref a5, .ref a6, .int a_lids, .int a_tops, .ref a7, .ref a8, .ref a9, .ref a10])), (a1, .inl (cyI, 12, .inl a_wide)), (a2, .inl (cyI, 12, .inl a_deep)), (a3, .inl (cyI, 12, .inl a_weight)), (a4, .inl (cyI, 12, .inl a_bears)), (a7, .inl (cyI, 12, .inl a_mayOn)), (a8, .inl (cyI, 4, .inl a_height)), (a9, .inl (cyI, 4, .inl a_reach)), (q0, .inr (4, [.ref q1, .int q_size])), (q1, .inl (cyI, 12, .inl q_ware)), (k0, .inr (7, [.ref k1, .ref k2, .ref k3, .ref k4, .int n_askings, .int n_cost, .int k_laid])), (k1, .inl (cyI, 12, .inl n_shelf)), (k2, .inl (cyI, 12, .inl n_stack)), (k3, .inl (cyI, 12, .inl n_level)), (k4, .inl (cyI, 30, .inl n_asking)), (n0, .inr (7, [.ref n1, .ref n2, .ref n3, .ref n4, .int n_askings, .int n_cost, .int n_laid])), (n1, .inl (cyI, 12, .inl n_shelf)), (n2, .inl (cyI, 12, .inl n_stack)), (n3, .inl (cyI, 12, .inl n_level)), (n4, .inl (cyI, 30, .inl n_asking))]) (pc2 := 11) (lv2 := [(0, .ref x0)]) (st2 := []) rfl rfl rfl rfl ?_
  refine j_iconst (pc := 11) (v := 0) C dX10_onTop_11 (by decide) ?_
  refine j_istore_n (pc := 12) (lv' := [(1, .int 0), (0, .ref x0)]) C dX10_onTop_12 rfl (by decide) rfl ?_
  refine j_iconst (pc := 13) (v := 0) C dX10_onTop_13 (by decide) ?_
  refine j_istore_n (pc := 14) (lv' := [(2, .int 0), (1, .int 0), (0, .ref x0)]) C dX10_onTop_14 rfl (by decide) rfl ?_
  have loop_3 : ∀ (k_3 : Nat) (x3_2 : Int32) (x3_1 : Int32) (y3_q0_1 : Int32) (g3_q1 : Nat → Int32) (g3_k3 : Nat → Int32), (0 ≤ (x3_2).toInt ∧ (x3_2).toInt ≤ 30) → (0 ≤ (y3_q0_1).toInt ∧ (y3_q0_1).toInt ≤ 12) → (Iv 12 (0) (11) g3_q1) → (Iv 12 (0) (11) g3_k3) → (30 - x3_2.toInt).toNat < k_3 → J p l e ({ frames := 4, cells := 0, slots := 0, locals := 93 } : Room) s m args below meth c D A 4 0 0 (QX below D (TY cyC cyI cyJ cyZ cyO) A (fun u => some (.int (u.2.1 0))) (fun u => (Iv 12 (0) (11) (u.2.2.1 0)) ∧ (0 ≤ (u.2.1 1).toInt ∧ (u.2.1 1).toInt ≤ 12) ∧ (Iv 12 (0) (11) (u.2.2.1 1))) (fun u => [(x0, .inr (10, [.ref r0, .ref a0, .ref n0, .ref k0, .ref x1, .ref q0, .ref o0, .ref h0, .ref s0, .ref d0])), (a0, .inr (9, [.int a_wares, .int a_shelves, .int a_nests, .ref a1, .ref a2, .ref a3, .ref a4, .ref a5, .ref a6, .int a_lids, .int a_tops, .ref a7, .ref a8, .ref a9, .ref a10])), (a1, .inl (cyI, 12, .inl a_wide)), (a2, .inl (cyI, 12, .inl a_deep)), (a3, .inl (cyI, 12, .inl a_weight)), (a4, .inl (cyI, 12, .inl a_bears)), (a7, .inl (cyI, 12, .inl a_mayOn)), (a8, .inl (cyI, 4, .inl a_height)), (a9, .inl (cyI, 4, .inl a_reach)), (n0, .inr (7, [.ref n1, .ref n2, .ref n3, .ref n4, .int n_askings, .int n_cost, .int n_laid])), (n1, .inl (cyI, 12, .inl n_shelf)), (n2, .inl (cyI, 12, .inl n_stack)), (n3, .inl (cyI, 12, .inl n_level)), (n4, .inl (cyI, 30, .inl n_asking)), (k0, .inr (7, [.ref k1, .ref k2, .ref k3, .ref k4, .int n_askings, .int n_cost, .int k_laid])), (k1, .inl (cyI, 12, .inl n_shelf)), (k2, .inl (cyI, 12, .inl n_stack)), (k3, .inl (cyI, 12, .inl (u.2.2.1 0))), (k4, .inl (cyI, 30, .inl n_asking)), (q0, .inr (4, [.ref q1, .int (u.2.1 1)])), (q1, .inl (cyI, 12, .inl (u.2.2.1 1)))]) args s 0 0) [(x0, .inr (10, [.ref r0, .ref a0, .ref n0, .ref k0, .ref x1, .ref q0, .ref o0, .ref h0, .ref s0, .ref d0])), (a0, .inr (9, [.int a_wares, .int a_shelves, .int a_nests, .ref a1, .ref a2, .ref a3, .ref a4, .ref a5, .ref a6, .int a_lids, .int a_tops, .ref a7, .ref a8, .ref a9, .ref a10])), (a1, .inl (cyI, 12, .inl a_wide)), (a2, .inl (cyI, 12, .inl a_deep)), (a3, .inl (cyI, 12, .inl a_weight)), (a4, .inl (cyI, 12, .inl a_bears)), (a7, .inl (cyI, 12, .inl a_mayOn)), (a8, .inl (cyI, 4, .inl a_height)), (a9, .inl (cyI, 4, .inl a_reach)), (q0, .inr (4, [.ref q1, .int y3_q0_1])), (q1, .inl (cyI, 12, .inl g3_q1)), (k0, .inr (7, [.ref k1, .ref k2, .ref k3, .ref k4, .int n_askings, .int n_cost, .int k_laid])), (k1, .inl (cyI, 12, .inl n_shelf)), (k2, .inl (cyI, 12, .inl n_stack)), (k3, .inl (cyI, 12, .inl g3_k3)), (k4, .inl (cyI, 30, .inl n_asking)), (n0, .inr (7, [.ref n1, .ref n2, .ref n3, .ref n4, .int n_askings, .int n_cost, .int n_laid])), (n1, .inl (cyI, 12, .inl n_shelf)), (n2, .inl (cyI, 12, .inl n_stack)), (n3, .inl (cyI, 12, .inl n_level)), (n4, .inl (cyI, 30, .inl n_asking))] 15 [(2, .int x3_2), (1, .int x3_1), (0, .ref x0)] [] := by
    intro k_3
    induction k_3 with
    | zero =>
      intro x3_2 x3_1 y3_q0_1 g3_q1 g3_k3 hi_3_0 hi_3_2 hi_3_3 hi_3_4 hm_3
      exact absurd hm_3 (Nat.not_lt_zero _)
    | succ k_3 ih_3 =>
      intro x3_2 x3_1 y3_q0_1 g3_q1 g3_k3 hi_3_0 hi_3_2 hi_3_3 hi_3_4 hm_3
      refine j_iload_n (pc := 15) C dX10_onTop_15 rfl 0 rfl ?_
      refine j_aload_n (pc := 16) C dX10_onTop_16 rfl 2 rfl ?_
      refine j_get (pc := 17) (ci := 10) (v := .ref k0) C inw_10 0 rfl rfl 3 (by decide) wd_544 rfl rfl dX10_onTop_17 ?_
      refine j_get (pc := 20) (ci := 7) (v := .int n_askings) C inw_7 11 rfl rfl 4 (by decide) wd_532 rfl rfl dX10_onTop_20 ?_
      refine j_icmp_ge (pc := 23) (tgt := 70) C dX10_onTop_23 (by decide) (fun c_4 => ?_) (fun c_4 => ?_)
      · skip
        rw [i_le] at c_4
        refine j_iload_n (pc := 70) C dX10_onTop_70 rfl 1 rfl ?_
        exact j_iret (pc := 71) C hr hk (fun i => [].getD i 0, fun i => [x3_1, y3_q0_1].getD i 0, fun i => [g3_k3, g3_q1].getD i (fun _ => 0), fun i => [].getD i (fun _ => 0)) rfl (show (Iv 12 (0) (11) g3_k3) ∧ (0 ≤ (y3_q0_1).toInt ∧ (y3_q0_1).toInt ≤ 12) ∧ (Iv 12 (0) (11) g3_q1) from ⟨hi_3_4, hi_3_2, hi_3_3⟩) [0, 1, 2, 3, 4, 5, 6, 7, 8, 16, 17, 18, 19, 20, 11, 12, 13, 14, 15, 9, 10] (by decide) rfl (by decide) (by decide) dX10_onTop_71
      · skip
        rw [i_le] at c_4
        refine j_aload_n (pc := 26) C dX10_onTop_26 rfl 2 rfl ?_
        refine j_get (pc := 27) (ci := 10) (v := .ref k0) C inw_10 0 rfl rfl 3 (by decide) wd_544 rfl rfl dX10_onTop_27 ?_
        refine j_get (pc := 30) (ci := 7) (v := .ref k4) C inw_7 11 rfl rfl 3 (by decide) wd_533 rfl rfl dX10_onTop_30 ?_
        refine j_iload_n (pc := 33) C dX10_onTop_33 rfl 0 rfl ?_
        obtain ⟨v_5, ev_5⟩ : ∃ z, n_asking (x3_2).toInt.toNat = z := ⟨_, rfl⟩
        have env_5 : (n_asking (x3_2).toInt.toNat).toInt = v_5.toInt := by rw [ev_5]
        have hv_5 := h_n_asking (x3_2).toInt.toNat (i_lt_n hi_3_0.1 (by omega)); rw [ev_5] at hv_5
        refine j_iald (pc := 34) (v := v_5) (k := (x3_2).toInt.toNat) C 15 1 rfl rfl (i_nn hi_3_0.1) rfl (i_lt_n hi_3_0.1 (by omega)) ev_5 dX10_onTop_34 ?_
        refine j_istore_n (pc := 35) (lv' := [(3, .int v_5), (2, .int x3_2), (1, .int x3_1), (0, .ref x0)]) C dX10_onTop_35 rfl (by decide) rfl ?_
        refine j_aload_n (pc := 36) C dX10_onTop_36 rfl 3 rfl ?_
        refine j_get (pc := 37) (ci := 10) (v := .ref k0) C inw_10 0 rfl rfl 3 (by decide) wd_544 rfl rfl dX10_onTop_37 ?_
        refine j_iload_n (pc := 40) C dX10_onTop_40 rfl 0 rfl ?_
        refine j_callV (pc := 41) (As := [.int v_5]) (rest := []) (wr := [(x0, .inr (10, [.ref r0, .ref a0, .ref n0, .ref k0, .ref x1, .ref q0, .ref o0, .ref h0, .ref s0, .ref d0])), (a0, .inr (9, [.int a_wares, .int a_shelves, .int a_nests, .ref a1, .ref a2, .ref a3, .ref a4, .ref a5, .ref a6, .int a_lids, .int a_tops, .ref a7, .ref a8, .ref a9, .ref a10])), (a1, .inl (cyI, 12, .inl a_wide)), (a2, .inl (cyI, 12, .inl a_deep)), (a3, .inl (cyI, 12, .inl a_weight)), (a4, .inl (cyI, 12, .inl a_bears)), (a7, .inl (cyI, 12, .inl a_mayOn)), (a8, .inl (cyI, 4, .inl a_height)), (a9, .inl (cyI, 4, .inl a_reach)), (q0, .inr (4, [.ref q1, .int y3_q0_1])), (q1, .inl (cyI, 12, .inl g3_q1)), (k2, .inl (cyI, 12, .inl n_stack)), (k3, .inl (cyI, 12, .inl g3_k3)), (k4, .inl (cyI, 30, .inl n_asking)), (n0, .inr (7, [.ref n1, .ref n2, .ref n3, .ref n4, .int n_askings, .int n_cost, .int n_laid])), (n1, .inl (cyI, 12, .inl n_shelf)), (n2, .inl (cyI, 12, .inl n_stack)), (n3, .inl (cyI, 12, .inl n_level)), (n4, .inl (cyI, 30, .inl n_asking))]) C (c_X7_isOut l D cyC cyI cyJ cyZ cyO k0 k1 k2 k3 k4 v_5 n_askings n_cost k_laid n_shelf h_n_askings h_k_laid hv_5 h_n_shelf) wd_13 wd_9 wd_480 wd_15 wd_16 ⟨by decide, by decide, rfl⟩ rfl ⟨rfl, rfl, by decide, by decide⟩ ⟨by decide, by decide⟩ [11, 12] [0, 1, 2, 3, 4, 5, 6, 7, 8, 9, 10, 13, 14, 15, 16, 17, 18, 19, 20] rfl rfl ⟨by decide, by decide, by decide⟩ 11 rfl rfl rfl (Nat.le_of_ble_eq_true rfl) dX10_onTop_41 (fun u_6 hw_7 => ?_)
        refine j_eq (ws2 := [(x0, .inr (10, [.ref r0, .ref a0, .ref n0, .ref k0, .ref x1, .ref q0, .ref o0, .ref h0, .ref s0, .ref d0])), (a0, .inr (9, [.int a_wares, .int a_shelves, .int a_nests, .ref a1, .ref a2, .ref a3, .ref a4, .ref a5, .ref a6, .int a_lids, .int a_tops, .ref a7, .ref a8, .ref a9, .ref a10])), (a1, .inl (cyI, 12, .inl a_wide)), (a2, .inl (cyI, 12, .inl a_deep)), (a3, .inl (cyI, 12, .inl a_weight)), (a4, .inl (cyI, 12, .inl a_bears)), (a7, .inl (cyI, 12, .inl a_mayOn)), (a8, .inl (cyI, 4, .inl a_height)), (a9, .inl (cyI, 4, .inl a_reach)), (q0, .inr (4, [.ref q1, .int y3_q0_1])), (q1, .inl (cyI, 12, .inl g3_q1)), (k2, .inl (cyI, 12, .inl n_stack)), (k3, .inl (cyI, 12, .inl g3_k3)), (k4, .inl (cyI, 30, .inl n_asking)), (n0, .inr (7, [.ref n1, .ref n2, .ref n3, .ref n4, .int n_askings, .int n_cost, .int n_laid])), (n1, .inl (cyI, 12, .inl n_shelf)), (n2, .inl (cyI, 12, .inl n_stack)), (n3, .inl (cyI, 12, .inl n_level)), (n4, .inl (cyI, 30, .inl n_asking)), (k0, .inr (7, [.ref k1, .ref k2, .ref k3, .ref k4, .int n_askings, .int n_cost, .int k_laid])), (k1, .inl (cyI, 12, .inl n_shelf))]) (pc2 := 44) (lv2 := [(3, .int v_5), (2, .int x3_2), (1, .int x3_1), (0, .ref x0)]) (st2 := [.int (u_6.2.1 0)]) rfl rfl rfl rfl ?_
        obtain ⟨hw_7_0, hw_7_1, hw_7_2⟩ := hw_7
        refine j_if_ne (pc := 44) (tgt := 64) C dX10_onTop_44 (by decide) (fun c_8 => ?_) (fun c_8 => ?_)
        · skip
          have el_0 : (0 : Int32).toInt = 0 := rfl
          rw [i_eq] at c_8
          have k0c_8 : ((u_6.2.1 0)).toInt = 1 := by omega
          obtain ⟨v_9, ev_9⟩ : ∃ z : Int32, x3_2 + 1 = z := ⟨_, rfl⟩
          have el_1 : (1 : Int32).toInt = 1 := rfl
          have hv_9 : v_9.toInt = x3_2.toInt + (1 : Int32).toInt := by rw [← ev_9]; exact fb_addI (by omega) (by omega)
          refine j_iinc (pc := 64) (v := v_9) (lv' := [(2, .int v_9), (3, .int v_5), (1, .int x3_1), (0, .ref x0)]) C dX10_onTop_64 1 rfl ev_9 (by decide) rfl ?_
          refine j_goto (pc := 67) (tgt := 15) C dX10_onTop_67 (by decide) ?_
          refine j_subG (ws' := [(x0, .inr (10, [.ref r0, .ref a0, .ref n0, .ref k0, .ref x1, .ref q0, .ref o0, .ref h0, .ref s0, .ref d0])), (a0, .inr (9, [.int a_wares, .int a_shelves, .int a_nests, .ref a1, .ref a2, .ref a3, .ref a4, .ref a5, .ref a6, .int a_lids, .int a_tops, .ref a7, .ref a8, .ref a9, .ref a10])), (a1, .inl (cyI, 12, .inl a_wide)), (a2, .inl (cyI, 12, .inl a_deep)), (a3, .inl (cyI, 12, .inl a_weight)), (a4, .inl (cyI, 12, .inl a_bears)), (a7, .inl (cyI, 12, .inl a_mayOn)), (a8, .inl (cyI, 4, .inl a_height)), (a9, .inl (cyI, 4, .inl a_reach)), (q0, .inr (4, [.ref q1, .int y3_q0_1])), (q1, .inl (cyI, 12, .inl g3_q1)), (k0, .inr (7, [.ref k1, .ref k2, .ref k3, .ref k4, .int n_askings, .int n_cost, .int k_laid])), (k1, .inl (cyI, 12, .inl n_shelf)), (k2, .inl (cyI, 12, .inl n_stack)), (k3, .inl (cyI, 12, .inl g3_k3)), (k4, .inl (cyI, 30, .inl n_asking)), (n0, .inr (7, [.ref n1, .ref n2, .ref n3, .ref n4, .int n_askings, .int n_cost, .int n_laid])), (n1, .inl (cyI, 12, .inl n_shelf)), (n2, .inl (cyI, 12, .inl n_stack)), (n3, .inl (cyI, 12, .inl n_level)), (n4, .inl (cyI, 30, .inl n_asking))]) [0, 1, 2, 3, 4, 5, 6, 7, 8, 9, 10, 19, 20, 11, 12, 13, 14, 15, 16, 17, 18] (by decide) rfl ?_
          exact j_lv [0, 2, 3] rfl (ih_3 v_9 x3_1 y3_q0_1 g3_q1 g3_k3 (by omega) hi_3_2 hi_3_3 hi_3_4 (by omega))
        · skip
          have el_0 : (0 : Int32).toInt = 0 := rfl
          rw [i_eq] at c_8
          refine j_iload_n (pc := 47) C dX10_onTop_47 rfl 2 rfl ?_
          refine j_aload_n (pc := 48) C dX10_onTop_48 rfl 3 rfl ?_
          refine j_aload_n (pc := 49) C dX10_onTop_49 rfl 3 rfl ?_
          refine j_get (pc := 50) (ci := 10) (v := .ref k0) C inw_10 0 rfl rfl 3 (by decide) wd_544 rfl rfl dX10_onTop_50 ?_
          refine j_iload_n (pc := 53) C dX10_onTop_53 rfl 0 rfl ?_
          refine j_callV (pc := 54) (As := [.ref k0, .int v_5]) (rest := [.int x3_1]) (wr := [(a1, .inl (cyI, 12, .inl a_wide)), (a2, .inl (cyI, 12, .inl a_deep)), (a4, .inl (cyI, 12, .inl a_bears)), (a7, .inl (cyI, 12, .inl a_mayOn)), (a8, .inl (cyI, 4, .inl a_height)), (k4, .inl (cyI, 30, .inl n_asking)), (n0, .inr (7, [.ref n1, .ref n2, .ref n3, .ref n4, .int n_askings, .int n_cost, .int n_laid])), (n1, .inl (cyI, 12, .inl n_shelf)), (n2, .inl (cyI, 12, .inl n_stack)), (n3, .inl (cyI, 12, .inl n_level)), (n4, .inl (cyI, 30, .inl n_asking))]) C (c_X10_price l D cyC cyI cyJ cyZ cyO x0 a0 a3 a9 q0 q1 k0 k1 k2 k3 r0 n0 k0 x1 o0 h0 s0 d0 a1 a2 a4 a5 a6 a7 a8 a10 k4 v_5 a_wares a_shelves a_nests a_lids a_tops y3_q0_1 n_askings n_cost k_laid a_weight a_reach g3_q1 n_shelf n_stack g3_k3 h_a_wares h_a_shelves h_a_nests hi_3_2 h_n_askings h_k_laid hv_5 hi_3_3 h_n_shelf h_n_stack hi_3_4 (by omega)) wd_515 wd_482 wd_516 wd_517 wd_518 ⟨by decide, by decide, rfl⟩ rfl ⟨rfl, rfl, by decide, by decide⟩ ⟨by decide, by decide⟩ [0, 1, 4, 8, 9, 10, 19, 20, 11, 12] [2, 3, 5, 6, 7, 13, 14, 15, 16, 17, 18] rfl rfl ⟨by decide, by decide, by decide⟩ 0 rfl rfl rfl (Nat.le_of_ble_eq_true rfl) dX10_onTop_54 (fun u_10 hw_11 => ?_)
          refine j_eq (ws2 := [(a1, .inl (cyI, 12, .inl a_wide)), (a2, .inl (cyI, 12, .inl a_deep)), (a4, .inl (cyI, 12, .inl a_bears)), (a7, .inl (cyI, 12, .inl a_mayOn)), (a8, .inl (cyI, 4, .inl a_height)), (k4, .inl (cyI, 30, .inl n_asking)), (n0, .inr (7, [.ref n1, .ref n2, .ref n3, .ref n4, .int n_askings, .int n_cost, .int n_laid])), (n1, .inl (cyI, 12, .inl n_shelf)), (n2, .inl (cyI, 12, .inl n_stack)), (n3, .inl (cyI, 12, .inl n_level)), (n4, .inl (cyI, 30, .inl n_asking)), (x0, .inr (10, [.ref r0, .ref a0, .ref n0, .ref k0, .ref x1, .ref q0, .ref o0, .ref h0, .ref s0, .ref d0])), (a0, .inr (9, [.int a_wares, .int a_shelves, .int a_nests, .ref a1, .ref a2, .ref a3, .ref a4, .ref a5, .ref a6, .int a_lids, .int a_tops, .ref a7, .ref a8, .ref a9, .ref a10])), (a3, .inl (cyI, 12, .inl a_weight)), (a9, .inl (cyI, 4, .inl a_reach)), (q0, .inr (4, [.ref q1, .int (u_10.2.1 1)])), (q1, .inl (cyI, 12, .inl (u_10.2.2.1 0))), (k0, .inr (7, [.ref k1, .ref k2, .ref k3, .ref k4, .int n_askings, .int n_cost, .int k_laid])), (k1, .inl (cyI, 12, .inl n_shelf)), (k2, .inl (cyI, 12, .inl n_stack)), (k3, .inl (cyI, 12, .inl g3_k3))]) (pc2 := 57) (lv2 := [(3, .int v_5), (2, .int x3_2), (1, .int x3_1), (0, .ref x0)]) (st2 := [.int (u_10.2.1 0), .int x3_1]) rfl rfl rfl rfl ?_
          obtain ⟨hw_11_0, hw_11_1, hw_11_2⟩ := hw_11
          obtain ⟨v_12, ev_12⟩ : ∃ z : Int32, x3_1 + (u_10.2.1 0) = z := ⟨_, rfl⟩
          refine j_iadd (pc := 57) (v := v_12) C dX10_onTop_57 ev_12 ?_
          refine j_istore_n (pc := 58) (lv' := [(1, .int v_12), (3, .int v_5), (2, .int x3_2), (0, .ref x0)]) C dX10_onTop_58 rfl (by decide) rfl ?_
          refine j_aload_n (pc := 59) C dX10_onTop_59 rfl 3 rfl ?_
          refine j_iload_n (pc := 60) C dX10_onTop_60 rfl 1 rfl ?_
          refine j_callV (pc := 61) (As := [.int v_5]) (rest := []) (wr := [(k4, .inl (cyI, 30, .inl n_asking)), (n0, .inr (7, [.ref n1, .ref n2, .ref n3, .ref n4, .int n_askings, .int n_cost, .int n_laid])), (n1, .inl (cyI, 12, .inl n_shelf)), (n2, .inl (cyI, 12, .inl n_stack)), (n3, .inl (cyI, 12, .inl n_level)), (n4, .inl (cyI, 30, .inl n_asking)), (a9, .inl (cyI, 4, .inl a_reach))]) C (c_X10_raise l D cyC cyI cyJ cyZ cyO x0 a0 a1 a2 a3 a4 a7 a8 k0 k1 k2 k3 q0 q1 r0 n0 x1 o0 h0 s0 d0 a5 a6 a9 a10 k4 v_5 a_wares a_shelves a_nests a_lids a_tops n_askings n_cost k_laid (u_10.2.1 1) a_wide a_deep a_weight a_bears a_mayOn a_height n_shelf n_stack g3_k3 (u_10.2.2.1 0) h_a_wares h_a_shelves h_a_nests h_n_askings h_k_laid hw_11_0 hv_5 h_n_shelf h_n_stack hi_3_4 hw_11_1 (by omega)) wd_553 wd_482 wd_554 wd_555 wd_556 ⟨by decide, by decide, rfl⟩ rfl ⟨rfl, rfl, by decide, by decide⟩ ⟨by decide, by decide⟩ [11, 12, 0, 1, 13, 2, 3, 4, 17, 18, 19, 20, 15, 16] [5, 6, 7, 8, 9, 10, 14] rfl rfl ⟨by decide, by decide, by decide⟩ 11 rfl rfl rfl (Nat.le_of_ble_eq_true rfl) dX10_onTop_61 (fun u_13 hw_14 => ?_)
          refine j_eq (ws2 := [(k4, .inl (cyI, 30, .inl n_asking)), (n0, .inr (7, [.ref n1, .ref n2, .ref n3, .ref n4, .int n_askings, .int n_cost, .int n_laid])), (n1, .inl (cyI, 12, .inl n_shelf)), (n2, .inl (cyI, 12, .inl n_stack)), (n3, .inl (cyI, 12, .inl n_level)), (n4, .inl (cyI, 30, .inl n_asking)), (a9, .inl (cyI, 4, .inl a_reach)), (x0, .inr (10, [.ref r0, .ref a0, .ref n0, .ref k0, .ref x1, .ref q0, .ref o0, .ref h0, .ref s0, .ref d0])), (a0, .inr (9, [.int a_wares, .int a_shelves, .int a_nests, .ref a1, .ref a2, .ref a3, .ref a4, .ref a5, .ref a6, .int a_lids, .int a_tops, .ref a7, .ref a8, .ref a9, .ref a10])), (a1, .inl (cyI, 12, .inl a_wide)), (a2, .inl (cyI, 12, .inl a_deep)), (a3, .inl (cyI, 12, .inl a_weight)), (a4, .inl (cyI, 12, .inl a_bears)), (a7, .inl (cyI, 12, .inl a_mayOn)), (a8, .inl (cyI, 4, .inl a_height)), (k0, .inr (7, [.ref k1, .ref k2, .ref k3, .ref k4, .int n_askings, .int n_cost, .int k_laid])), (k1, .inl (cyI, 12, .inl n_shelf)), (k2, .inl (cyI, 12, .inl n_stack)), (k3, .inl (cyI, 12, .inl (u_13.2.2.1 0))), (q0, .inr (4, [.ref q1, .int (u_13.2.1 0)])), (q1, .inl (cyI, 12, .inl (u_13.2.2.1 1)))]) (pc2 := 64) (lv2 := [(1, .int v_12), (3, .int v_5), (2, .int x3_2), (0, .ref x0)]) (st2 := []) rfl rfl rfl rfl ?_
          obtain ⟨hw_14_0, hw_14_1, hw_14_2⟩ := hw_14
          obtain ⟨v_15, ev_15⟩ : ∃ z : Int32, x3_2 + 1 = z := ⟨_, rfl⟩
          have el_1 : (1 : Int32).toInt = 1 := rfl
          have hv_15 : v_15.toInt = x3_2.toInt + (1 : Int32).toInt := by rw [← ev_15]; exact fb_addI (by omega) (by omega)
          refine j_iinc (pc := 64) (v := v_15) (lv' := [(2, .int v_15), (1, .int v_12), (3, .int v_5), (0, .ref x0)]) C dX10_onTop_64 2 rfl ev_15 (by decide) rfl ?_
          refine j_goto (pc := 67) (tgt := 15) C dX10_onTop_67 (by decide) ?_
          refine j_subG (ws' := [(x0, .inr (10, [.ref r0, .ref a0, .ref n0, .ref k0, .ref x1, .ref q0, .ref o0, .ref h0, .ref s0, .ref d0])), (a0, .inr (9, [.int a_wares, .int a_shelves, .int a_nests, .ref a1, .ref a2, .ref a3, .ref a4, .ref a5, .ref a6, .int a_lids, .int a_tops, .ref a7, .ref a8, .ref a9, .ref a10])), (a1, .inl (cyI, 12, .inl a_wide)), (a2, .inl (cyI, 12, .inl a_deep)), (a3, .inl (cyI, 12, .inl a_weight)), (a4, .inl (cyI, 12, .inl a_bears)), (a7, .inl (cyI, 12, .inl a_mayOn)), (a8, .inl (cyI, 4, .inl a_height)), (a9, .inl (cyI, 4, .inl a_reach)), (q0, .inr (4, [.ref q1, .int (u_13.2.1 0)])), (q1, .inl (cyI, 12, .inl (u_13.2.2.1 1))), (k0, .inr (7, [.ref k1, .ref k2, .ref k3, .ref k4, .int n_askings, .int n_cost, .int k_laid])), (k1, .inl (cyI, 12, .inl n_shelf)), (k2, .inl (cyI, 12, .inl n_stack)), (k3, .inl (cyI, 12, .inl (u_13.2.2.1 0))), (k4, .inl (cyI, 30, .inl n_asking)), (n0, .inr (7, [.ref n1, .ref n2, .ref n3, .ref n4, .int n_askings, .int n_cost, .int n_laid])), (n1, .inl (cyI, 12, .inl n_shelf)), (n2, .inl (cyI, 12, .inl n_stack)), (n3, .inl (cyI, 12, .inl n_level)), (n4, .inl (cyI, 30, .inl n_asking))]) [7, 8, 9, 10, 11, 12, 13, 14, 6, 19, 20, 15, 16, 17, 18, 0, 1, 2, 3, 4, 5] (by decide) rfl ?_
          exact j_lv [0, 1, 3] rfl (ih_3 v_15 v_12 (u_13.2.1 0) (u_13.2.2.1 1) (u_13.2.2.1 0) (by omega) hw_14_1 hw_14_2 hw_14_0 (by omega))
  have el_0 : (0 : Int32).toInt = 0 := rfl
  have el_0 : (0 : Int32).toInt = 0 := rfl
  exact j_lv [0, 1, 2] rfl (loop_3 4096 0 0 q_size q_ware n_level (by decide) h_q_size h_q_ware h_n_level (by omega))
set_option maxHeartbeats 4000000 in
set_option maxRecDepth 100000 in
theorem c_X10_divisor (l : Launch) (D : DG) (cyC cyI cyJ cyZ cyO : ClassId) (p0 : Int32) (p1 : Int32) : KK l D (TY cyC cyI cyJ cyZ cyO) yX10_divisor cX10_divisor 4 (some .int) ({ frames := 0, cells := 0, slots := 0, locals := 0 } : Room) 0 0 [.int p0, .int p1] [] (fun u => some (.int (u.2.1 0))) (fun u => ((u.2.1 0) = eu 64 p0 p1)) (fun u => []) := by
  refine KK.of (lv0 := [(0, .int p0), (1, .int p1)]) (by decide) rfl (Nat.le_of_ble_eq_true rfl) ?_
  intro p e s m args below meth c A C hr hk hin
  refine j_iconst (pc := 0) (v := 0) C dX10_divisor_0 (by decide) ?_
  refine j_istore_n (pc := 1) (lv' := [(2, .int 0), (0, .int p0), (1, .int p1)]) C dX10_divisor_1 rfl (by decide) rfl ?_
  have loop_1 : ∀ (k_1 : Nat) (x1_2 : Int32) (x1_0 : Int32) (x1_1 : Int32), (0 ≤ (x1_2).toInt ∧ (x1_2).toInt ≤ 64) → (eu (64 - x1_2.toInt).toNat x1_0 x1_1 = eu 64 p0 p1) → (64 - x1_2.toInt).toNat < k_1 → J p l e ({ frames := 0, cells := 0, slots := 0, locals := 0 } : Room) s m args below meth c D A 4 0 0 (QX below D (TY cyC cyI cyJ cyZ cyO) A (fun u => some (.int (u.2.1 0))) (fun u => ((u.2.1 0) = eu 64 p0 p1)) (fun u => []) args s 0 0) [] 2 [(2, .int x1_2), (0, .int x1_0), (1, .int x1_1)] [] := by
    intro k_1
    induction k_1 with
    | zero =>
      intro x1_2 x1_0 x1_1 hi_1_0 hq_1_0 hm_1
      exact absurd hm_1 (Nat.not_lt_zero _)
    | succ k_1 ih_1 =>
      intro x1_2 x1_0 x1_1 hi_1_0 hq_1_0 hm_1
      refine j_iload_n (pc := 2) C dX10_divisor_2 rfl 0 rfl ?_
      refine j_bipush (pc := 3) (v := 64) C dX10_divisor_3 (by decide) ?_
      refine j_icmp_ge (pc := 5) (tgt := 26) C dX10_divisor_5 (by decide) (fun c_2 => ?_) (fun c_2 => ?_)
      · skip
        have el_64 : (64 : Int32).toInt = 64 := rfl
        rw [i_le] at c_2
        have k0c_2 : x1_2.toInt = 64 := by omega
        refine j_iload_n (pc := 26) C dX10_divisor_26 rfl 1 rfl ?_
        exact j_iret (pc := 27) C hr hk (fun i => [].getD i 0, fun i => [x1_0].getD i 0, fun i => [].getD i (fun _ => 0), fun i => [].getD i (fun _ => 0)) rfl (show (x1_0 = eu 64 p0 p1) from ((by rw [← hq_1_0, show (64 - (x1_2).toInt).toNat = 0 from (by omega)]; rfl))) [] (by decide) rfl (by decide) (by decide) dX10_divisor_27
      · skip
        have el_64 : (64 : Int32).toInt = 64 := rfl
        rw [i_le] at c_2
        refine j_iload_n (pc := 8) C dX10_divisor_8 rfl 2 rfl ?_
        refine j_if_eq (pc := 9) (tgt := 26) C dX10_divisor_9 (by decide) (fun c_3 => ?_) (fun c_3 => ?_)
        · skip
          have el_0 : (0 : Int32).toInt = 0 := rfl
          rw [i_eq] at c_3
          refine j_iload_n (pc := 26) C dX10_divisor_26 rfl 1 rfl ?_
          have el_0 : (0 : Int32).toInt = 0 := rfl
          exact j_iret (pc := 27) C hr hk (fun i => [].getD i 0, fun i => [x1_0].getD i 0, fun i => [].getD i (fun _ => 0), fun i => [].getD i (fun _ => 0)) rfl (show (x1_0 = eu 64 p0 p1) from ((by rw [← hq_1_0, show x1_1 = 0 from (i_eq _ _).mpr (by omega), eu_z]))) [] (by decide) rfl (by decide) (by decide) dX10_divisor_27
        · skip
          have el_0 : (0 : Int32).toInt = 0 := rfl
          rw [i_eq] at c_3
          refine j_iload_n (pc := 12) C dX10_divisor_12 rfl 1 rfl ?_
          refine j_iload_n (pc := 13) C dX10_divisor_13 rfl 2 rfl ?_
          obtain ⟨v_4, ev_4⟩ : ∃ z : Int32, x1_0 - x1_0 / x1_1 * x1_1 = z := ⟨_, rfl⟩
          have el_0 : (0 : Int32).toInt = 0 := rfl
          refine j_irem (pc := 14) (v := v_4) C dX10_divisor_14 (by rw [i_eq]; omega) ev_4 ?_
          refine j_istore_n (pc := 15) (lv' := [(3, .int v_4), (2, .int x1_2), (0, .int x1_0), (1, .int x1_1)]) C dX10_divisor_15 rfl (by decide) rfl ?_
          refine j_iload_n (pc := 16) C dX10_divisor_16 rfl 3 rfl ?_
          refine j_istore_n (pc := 17) (lv' := [(0, .int x1_1), (3, .int v_4), (2, .int x1_2), (1, .int x1_1)]) C dX10_divisor_17 rfl (by decide) rfl ?_
          refine j_iload_n (pc := 18) C dX10_divisor_18 rfl 1 rfl ?_
          refine j_istore_n (pc := 19) (lv' := [(1, .int v_4), (0, .int x1_1), (3, .int v_4), (2, .int x1_2)]) C dX10_divisor_19 rfl (by decide) rfl ?_
          obtain ⟨v_5, ev_5⟩ : ∃ z : Int32, x1_2 + 1 = z := ⟨_, rfl⟩
          have el_1 : (1 : Int32).toInt = 1 := rfl
          have hv_5 : v_5.toInt = x1_2.toInt + (1 : Int32).toInt := by rw [← ev_5]; exact fb_addI (by omega) (by omega)
          refine j_iinc (pc := 20) (v := v_5) (lv' := [(2, .int v_5), (1, .int v_4), (0, .int x1_1), (3, .int v_4)]) C dX10_divisor_20 3 rfl ev_5 (by decide) rfl ?_
          refine j_goto (pc := 23) (tgt := 2) C dX10_divisor_23 (by decide) ?_
          have el_0 : (0 : Int32).toInt = 0 := rfl
          exact j_lv [0, 2, 1] rfl (ih_1 v_5 x1_1 v_4 (by omega) (by rw [← hq_1_0, show (64 - (x1_2).toInt).toNat = (64 - (v_5).toInt).toNat + 1 from (by omega), eu_s (show ¬ x1_1 = 0 from (by rw [i_eq]; omega)), ev_4]) (by omega))
  have el_0 : (0 : Int32).toInt = 0 := rfl
  exact j_lv [0, 1, 2] rfl (loop_1 4096 0 p0 p1 (by decide) (by rw [show (64 - (0 : Int32).toInt).toNat = 64 from by decide]) (by omega))
def HBC (w : Nat) (hb wt rc sh st lv : Nat → Int32) (p : Int32) (x : Int) : Prop := ∃ ab : Int32, SR (pHC hb wt rc sh st lv) w ab ∧ haC p ab (sumF hb w) x
set_option maxHeartbeats 4000000 in
set_option maxRecDepth 100000 in
theorem c_X10_habit (l : Launch) (D : DG) (cyC cyI cyJ cyZ cyO : ClassId) (x0 : Nat) (a0 : Nat) (a3 : Nat) (a6 : Nat) (a9 : Nat) (n0 : Nat) (n1 : Nat) (n2 : Nat) (n3 : Nat) (q0 : Nat) (q1 : Nat) (r0 : Nat) (k0 : Nat) (x1 : Nat) (o0 : Nat) (h0 : Nat) (s0 : Nat) (d0 : Nat) (a1 : Nat) (a2 : Nat) (a4 : Nat) (a5 : Nat) (a7 : Nat) (a8 : Nat) (a10 : Nat) (n4 : Nat) (p0 : Int32) (a_wares : Int32) (a_shelves : Int32) (a_nests : Int32) (a_lids : Int32) (a_tops : Int32) (n_askings : Int32) (n_cost : Int32) (n_laid : Int32) (q_size : Int32) (a_weight : Nat → Int32) (a_habit : Nat → Int32) (a_reach : Nat → Int32) (n_shelf : Nat → Int32) (n_stack : Nat → Int32) (n_level : Nat → Int32) (q_ware : Nat → Int32) (h_a_wares : 0 ≤ (a_wares).toInt ∧ (a_wares).toInt ≤ 12) (h_a_shelves : 0 ≤ (a_shelves).toInt ∧ (a_shelves).toInt ≤ 4) (h_a_nests : 0 ≤ (a_nests).toInt ∧ (a_nests).toInt ≤ 4) (h_n_askings : 0 ≤ (n_askings).toInt ∧ (n_askings).toInt ≤ 30) (h_n_laid : 0 ≤ (n_laid).toInt ∧ (n_laid).toInt ≤ 1) (h_q_size : 0 ≤ (q_size).toInt ∧ (q_size).toInt ≤ 12) (h_n_shelf : Iv 12 (-1) (3) n_shelf) (h_n_stack : Iv 12 (0) (7) n_stack) (h_n_level : Iv 12 (0) (11) n_level) (h_q_ware : Iv 12 (0) (11) q_ware) : KK l D (TY cyC cyI cyJ cyZ cyO) yX10_habit cX10_habit 5 (some .int) ({ frames := 3, cells := 0, slots := 0, locals := 71 } : Room) 0 0 [.ref x0, .int p0] [(x0, .inr (10, [.ref r0, .ref a0, .ref n0, .ref k0, .ref x1, .ref q0, .ref o0, .ref h0, .ref s0, .ref d0])), (a0, .inr (9, [.int a_wares, .int a_shelves, .int a_nests, .ref a1, .ref a2, .ref a3, .ref a4, .ref a5, .ref a6, .int a_lids, .int a_tops, .ref a7, .ref a8, .ref a9, .ref a10])), (a3, .inl (cyI, 12, .inl a_weight)), (a6, .inl (cyI, 12, .inl a_habit)), (a9, .inl (cyI, 4, .inl a_reach)), (n0, .inr (7, [.ref n1, .ref n2, .ref n3, .ref n4, .int n_askings, .int n_cost, .int n_laid])), (n1, .inl (cyI, 12, .inl n_shelf)), (n2, .inl (cyI, 12, .inl n_stack)), (n3, .inl (cyI, 12, .inl n_level)), (q0, .inr (4, [.ref q1, .int q_size])), (q1, .inl (cyI, 12, .inl q_ware))] (fun u => some (.int (u.2.1 0))) (fun u => (0 ≤ (u.2.1 1).toInt ∧ (u.2.1 1).toInt ≤ 12) ∧ (Iv 12 (0) (11) (u.2.2.1 0)) ∧ (HBC (a_wares).toInt.toNat a_habit a_weight a_reach n_shelf n_stack n_level p0 (u.2.1 0).toInt)) (fun u => [(x0, .inr (10, [.ref r0, .ref a0, .ref n0, .ref k0, .ref x1, .ref q0, .ref o0, .ref h0, .ref s0, .ref d0])), (a0, .inr (9, [.int a_wares, .int a_shelves, .int a_nests, .ref a1, .ref a2, .ref a3, .ref a4, .ref a5, .ref a6, .int a_lids, .int a_tops, .ref a7, .ref a8, .ref a9, .ref a10])), (a3, .inl (cyI, 12, .inl a_weight)), (a6, .inl (cyI, 12, .inl a_habit)), (a9, .inl (cyI, 4, .inl a_reach)), (n0, .inr (7, [.ref n1, .ref n2, .ref n3, .ref n4, .int n_askings, .int n_cost, .int n_laid])), (n1, .inl (cyI, 12, .inl n_shelf)), (n2, .inl (cyI, 12, .inl n_stack)), (n3, .inl (cyI, 12, .inl n_level)), (q0, .inr (4, [.ref q1, .int (u.2.1 1)])), (q1, .inl (cyI, 12, .inl (u.2.2.1 0)))]) := by
  refine KK.of (lv0 := [(0, .ref x0), (1, .int p0)]) (by decide) rfl (Nat.le_of_ble_eq_true rfl) ?_
  intro p e s m args below meth c A C hr hk hin
  refine j_iconst (pc := 0) (v := 0) C dX10_habit_0 (by decide) ?_
  refine j_istore_n (pc := 1) (lv' := [(2, .int 0), (0, .ref x0), (1, .int p0)]) C dX10_habit_1 rfl (by decide) rfl ?_
  refine j_iconst (pc := 2) (v := 0) C dX10_habit_2 (by decide) ?_
  refine j_istore_n (pc := 3) (lv' := [(3, .int 0), (2, .int 0), (0, .ref x0), (1, .int p0)]) C dX10_habit_3 rfl (by decide) rfl ?_
  refine j_iconst (pc := 4) (v := 0) C dX10_habit_4 (by decide) ?_
  refine j_istore (pc := 5) (lv' := [(4, .int 0), (3, .int 0), (2, .int 0), (0, .ref x0), (1, .int p0)]) C dX10_habit_5 (by decide) rfl ?_
  have loop_1 : ∀ (k_1 : Nat) (x1_4 : Int32) (x1_3 : Int32) (x1_2 : Int32) (y1_q0_1 : Int32) (g1_q1 : Nat → Int32), (0 ≤ (x1_4).toInt ∧ (x1_4).toInt ≤ 12) → (0 ≤ (y1_q0_1).toInt ∧ (y1_q0_1).toInt ≤ 12) → (Iv 12 (0) (11) g1_q1) → (x1_4.toInt ≤ (a_wares).toInt) → (x1_3 = sumF a_habit (x1_4.toInt).toNat) → (SR (pHC a_habit a_weight a_reach n_shelf n_stack n_level) (x1_4.toInt).toNat x1_2) → (12 - x1_4.toInt).toNat < k_1 → J p l e ({ frames := 3, cells := 0, slots := 0, locals := 71 } : Room) s m args below meth c D A 5 0 0 (QX below D (TY cyC cyI cyJ cyZ cyO) A (fun u => some (.int (u.2.1 0))) (fun u => (0 ≤ (u.2.1 1).toInt ∧ (u.2.1 1).toInt ≤ 12) ∧ (Iv 12 (0) (11) (u.2.2.1 0)) ∧ (HBC (a_wares).toInt.toNat a_habit a_weight a_reach n_shelf n_stack n_level p0 (u.2.1 0).toInt)) (fun u => [(x0, .inr (10, [.ref r0, .ref a0, .ref n0, .ref k0, .ref x1, .ref q0, .ref o0, .ref h0, .ref s0, .ref d0])), (a0, .inr (9, [.int a_wares, .int a_shelves, .int a_nests, .ref a1, .ref a2, .ref a3, .ref a4, .ref a5, .ref a6, .int a_lids, .int a_tops, .ref a7, .ref a8, .ref a9, .ref a10])), (a3, .inl (cyI, 12, .inl a_weight)), (a6, .inl (cyI, 12, .inl a_habit)), (a9, .inl (cyI, 4, .inl a_reach)), (n0, .inr (7, [.ref n1, .ref n2, .ref n3, .ref n4, .int n_askings, .int n_cost, .int n_laid])), (n1, .inl (cyI, 12, .inl n_shelf)), (n2, .inl (cyI, 12, .inl n_stack)), (n3, .inl (cyI, 12, .inl n_level)), (q0, .inr (4, [.ref q1, .int (u.2.1 1)])), (q1, .inl (cyI, 12, .inl (u.2.2.1 0)))]) args s 0 0) [(x0, .inr (10, [.ref r0, .ref a0, .ref n0, .ref k0, .ref x1, .ref q0, .ref o0, .ref h0, .ref s0, .ref d0])), (a0, .inr (9, [.int a_wares, .int a_shelves, .int a_nests, .ref a1, .ref a2, .ref a3, .ref a4, .ref a5, .ref a6, .int a_lids, .int a_tops, .ref a7, .ref a8, .ref a9, .ref a10])), (a3, .inl (cyI, 12, .inl a_weight)), (a6, .inl (cyI, 12, .inl a_habit)), (a9, .inl (cyI, 4, .inl a_reach)), (n0, .inr (7, [.ref n1, .ref n2, .ref n3, .ref n4, .int n_askings, .int n_cost, .int n_laid])), (n1, .inl (cyI, 12, .inl n_shelf)), (n2, .inl (cyI, 12, .inl n_stack)), (n3, .inl (cyI, 12, .inl n_level)), (q0, .inr (4, [.ref q1, .int y1_q0_1])), (q1, .inl (cyI, 12, .inl g1_q1))] 7 [(4, .int x1_4), (3, .int x1_3), (2, .int x1_2), (0, .ref x0), (1, .int p0)] [] := by
    intro k_1
    induction k_1 with
    | zero =>
      intro x1_4 x1_3 x1_2 y1_q0_1 g1_q1 hi_1_0 hi_1_3 hi_1_4 hr_1 hq_1_0 hq_1_1 hm_1
      exact absurd hm_1 (Nat.not_lt_zero _)
    | succ k_1 ih_1 =>
      intro x1_4 x1_3 x1_2 y1_q0_1 g1_q1 hi_1_0 hi_1_3 hi_1_4 hr_1 hq_1_0 hq_1_1 hm_1
      refine j_iload (pc := 7) C dX10_habit_7 0 rfl ?_
      refine j_aload_n (pc := 9) C dX10_habit_9 rfl 3 rfl ?_
      refine j_get (pc := 10) (ci := 10) (v := .ref a0) C inw_10 0 rfl rfl 1 (by decide) wd_447 rfl rfl dX10_habit_10 ?_
      refine j_get (pc := 13) (ci := 9) (v := .int a_wares) C inw_9 1 rfl rfl 0 (by decide) wd_534 rfl rfl dX10_habit_13 ?_
      refine j_icmp_ge (pc := 16) (tgt := 74) C dX10_habit_16 (by decide) (fun c_2 => ?_) (fun c_2 => ?_)
      · skip
        rw [i_le] at c_2
        refine j_iload_n (pc := 74) C dX10_habit_74 rfl 1 rfl ?_
        refine j_if_eq (pc := 75) (tgt := 87) C dX10_habit_75 (by decide) (fun c_3 => ?_) (fun c_3 => ?_)
        · skip
          have el_0 : (0 : Int32).toInt = 0 := rfl
          rw [i_eq] at c_3
          refine j_iconst (pc := 87) (v := (-1)) C dX10_habit_87 (by decide) ?_
          have el_m1 : ((-1) : Int32).toInt = (-1) := rfl
          have el_0 : (0 : Int32).toInt = 0 := rfl
          have el_m1 : ((-1) : Int32).toInt = (-1) := rfl
          exact j_iret (pc := 88) C hr hk (fun i => [].getD i 0, fun i => [(-1), y1_q0_1].getD i 0, fun i => [g1_q1].getD i (fun _ => 0), fun i => [].getD i (fun _ => 0)) rfl (show (0 ≤ (y1_q0_1).toInt ∧ (y1_q0_1).toInt ≤ 12) ∧ (Iv 12 (0) (11) g1_q1) ∧ (HBC (a_wares).toInt.toNat a_habit a_weight a_reach n_shelf n_stack n_level p0 ((-1) : Int32).toInt) from ⟨hi_1_3, hi_1_4, ⟨x1_2, (by rw [show (a_wares).toInt.toNat = (x1_4).toInt.toNat from (by omega)]; exact hq_1_1), (by have e9 : sumF a_habit (a_wares).toInt.toNat = x1_3 := (by rw [show (a_wares).toInt.toNat = (x1_4).toInt.toNat from (by omega)]; exact hq_1_0.symm); rw [e9]; exact Or.inl ⟨rfl, fun z => by have z1 := z.1; rw [i_eq] at z1; have z2 := z.2; omega⟩)⟩⟩) [0, 1, 2, 3, 4, 5, 6, 7, 8, 9, 10] (by decide) rfl (by decide) (by decide) dX10_habit_88
        · skip
          have el_0 : (0 : Int32).toInt = 0 := rfl
          rw [i_eq] at c_3
          refine j_iload_n (pc := 78) C dX10_habit_78 rfl 4 rfl ?_
          refine j_if_lt (pc := 79) (tgt := 87) C dX10_habit_79 (by decide) (fun c_4 => ?_) (fun c_4 => ?_)
          · skip
            have el_0 : (0 : Int32).toInt = 0 := rfl
            rw [i_lt] at c_4
            refine j_iconst (pc := 87) (v := (-1)) C dX10_habit_87 (by decide) ?_
            have el_m1 : ((-1) : Int32).toInt = (-1) := rfl
            have el_0 : (0 : Int32).toInt = 0 := rfl
            have el_m1 : ((-1) : Int32).toInt = (-1) := rfl
            exact j_iret (pc := 88) C hr hk (fun i => [].getD i 0, fun i => [(-1), y1_q0_1].getD i 0, fun i => [g1_q1].getD i (fun _ => 0), fun i => [].getD i (fun _ => 0)) rfl (show (0 ≤ (y1_q0_1).toInt ∧ (y1_q0_1).toInt ≤ 12) ∧ (Iv 12 (0) (11) g1_q1) ∧ (HBC (a_wares).toInt.toNat a_habit a_weight a_reach n_shelf n_stack n_level p0 ((-1) : Int32).toInt) from ⟨hi_1_3, hi_1_4, ⟨x1_2, (by rw [show (a_wares).toInt.toNat = (x1_4).toInt.toNat from (by omega)]; exact hq_1_1), (by have e9 : sumF a_habit (a_wares).toInt.toNat = x1_3 := (by rw [show (a_wares).toInt.toNat = (x1_4).toInt.toNat from (by omega)]; exact hq_1_0.symm); rw [e9]; exact Or.inl ⟨rfl, fun z => by have z1 := z.1; rw [i_eq] at z1; have z2 := z.2; omega⟩)⟩⟩) [0, 1, 2, 3, 4, 5, 6, 7, 8, 9, 10] (by decide) rfl (by decide) (by decide) dX10_habit_88
          · skip
            have el_0 : (0 : Int32).toInt = 0 := rfl
            rw [i_lt] at c_4
            refine j_iload_n (pc := 82) C dX10_habit_82 rfl 4 rfl ?_
            refine j_iconst (pc := 83) (v := 1) C dX10_habit_83 (by decide) ?_
            refine j_icmp_le (pc := 84) (tgt := 89) C dX10_habit_84 (by decide) (fun c_5 => ?_) (fun c_5 => ?_)
            · skip
              have el_1 : (1 : Int32).toInt = 1 := rfl
              rw [i_le] at c_5
              refine j_iload_n (pc := 89) C dX10_habit_89 rfl 2 rfl ?_
              refine j_iload_n (pc := 90) C dX10_habit_90 rfl 1 rfl ?_
              refine j_callS (pc := 91) (As := [.int x1_2, .int x1_3]) (rest := []) (wr := [(x0, .inr (10, [.ref r0, .ref a0, .ref n0, .ref k0, .ref x1, .ref q0, .ref o0, .ref h0, .ref s0, .ref d0])), (a0, .inr (9, [.int a_wares, .int a_shelves, .int a_nests, .ref a1, .ref a2, .ref a3, .ref a4, .ref a5, .ref a6, .int a_lids, .int a_tops, .ref a7, .ref a8, .ref a9, .ref a10])), (a3, .inl (cyI, 12, .inl a_weight)), (a6, .inl (cyI, 12, .inl a_habit)), (a9, .inl (cyI, 4, .inl a_reach)), (n0, .inr (7, [.ref n1, .ref n2, .ref n3, .ref n4, .int n_askings, .int n_cost, .int n_laid])), (n1, .inl (cyI, 12, .inl n_shelf)), (n2, .inl (cyI, 12, .inl n_stack)), (n3, .inl (cyI, 12, .inl n_level)), (q0, .inr (4, [.ref q1, .int y1_q0_1])), (q1, .inl (cyI, 12, .inl g1_q1))]) C (c_X10_divisor l D cyC cyI cyJ cyZ cyO x1_2 x1_3) wd_557 wd_482 wd_558 wd_559 ⟨by decide, by decide, rfl⟩ rfl ⟨rfl, rfl, by decide, by decide⟩ ⟨by decide, by decide⟩ [] [0, 1, 2, 3, 4, 5, 6, 7, 8, 9, 10] rfl rfl ⟨by decide, by decide, by decide⟩ rfl (Nat.le_of_ble_eq_true rfl) dX10_habit_91 (fun u_6 hw_7 => ?_)
              refine j_eq (ws2 := [(x0, .inr (10, [.ref r0, .ref a0, .ref n0, .ref k0, .ref x1, .ref q0, .ref o0, .ref h0, .ref s0, .ref d0])), (a0, .inr (9, [.int a_wares, .int a_shelves, .int a_nests, .ref a1, .ref a2, .ref a3, .ref a4, .ref a5, .ref a6, .int a_lids, .int a_tops, .ref a7, .ref a8, .ref a9, .ref a10])), (a3, .inl (cyI, 12, .inl a_weight)), (a6, .inl (cyI, 12, .inl a_habit)), (a9, .inl (cyI, 4, .inl a_reach)), (n0, .inr (7, [.ref n1, .ref n2, .ref n3, .ref n4, .int n_askings, .int n_cost, .int n_laid])), (n1, .inl (cyI, 12, .inl n_shelf)), (n2, .inl (cyI, 12, .inl n_stack)), (n3, .inl (cyI, 12, .inl n_level)), (q0, .inr (4, [.ref q1, .int y1_q0_1])), (q1, .inl (cyI, 12, .inl g1_q1))]) (pc2 := 94) (lv2 := [(4, .int x1_4), (3, .int x1_3), (2, .int x1_2), (0, .ref x0), (1, .int p0)]) (st2 := [.int (u_6.2.1 0)]) rfl rfl rfl rfl ?_
              have hw_7_0 : (u_6.2.1 0) = eu 64 x1_2 x1_3 := hw_7
              refine j_istore (pc := 94) (lv' := [(4, .int (u_6.2.1 0)), (3, .int x1_3), (2, .int x1_2), (0, .ref x0), (1, .int p0)]) C dX10_habit_94 (by decide) rfl ?_
              refine j_iload (pc := 96) C dX10_habit_96 0 rfl ?_
              refine j_if_ne (pc := 98) (tgt := 103) C dX10_habit_98 (by decide) (fun c_8 => ?_) (fun c_8 => ?_)
              · skip
                have el_0 : (0 : Int32).toInt = 0 := rfl
                rw [i_eq] at c_8
                refine j_iload_n (pc := 103) C dX10_habit_103 rfl 4 rfl ?_
                refine j_if_ne (pc := 104) (tgt := 111) C dX10_habit_104 (by decide) (fun c_9 => ?_) (fun c_9 => ?_)
                · skip
                  have el_0 : (0 : Int32).toInt = 0 := rfl
                  rw [i_eq] at c_9
                  have k0c_9 : p0.toInt = 1 := by omega
                  refine j_iload_n (pc := 111) C dX10_habit_111 rfl 1 rfl ?_
                  refine j_iload (pc := 112) C dX10_habit_112 0 rfl ?_
                  obtain ⟨v_10, ev_10⟩ : ∃ z : Int32, x1_3 / (u_6.2.1 0) = z := ⟨_, rfl⟩
                  have el_0 : (0 : Int32).toInt = 0 := rfl
                  refine j_idiv (pc := 114) (v := v_10) C dX10_habit_114 (by rw [i_eq]; omega) ev_10 ?_
                  have el_0 : (0 : Int32).toInt = 0 := rfl
                  have el_m1 : ((-1) : Int32).toInt = (-1) := rfl
                  exact j_iret (pc := 115) C hr hk (fun i => [].getD i 0, fun i => [v_10, y1_q0_1].getD i 0, fun i => [g1_q1].getD i (fun _ => 0), fun i => [].getD i (fun _ => 0)) rfl (show (0 ≤ (y1_q0_1).toInt ∧ (y1_q0_1).toInt ≤ 12) ∧ (Iv 12 (0) (11) g1_q1) ∧ (HBC (a_wares).toInt.toNat a_habit a_weight a_reach n_shelf n_stack n_level p0 v_10.toInt) from ⟨hi_1_3, hi_1_4, ⟨x1_2, (by rw [show (a_wares).toInt.toNat = (x1_4).toInt.toNat from (by omega)]; exact hq_1_1), (by have e9 : sumF a_habit (a_wares).toInt.toNat = x1_3 := (by rw [show (a_wares).toInt.toNat = (x1_4).toInt.toNat from (by omega)]; exact hq_1_0.symm); rw [e9]; exact Or.inr ⟨⟨(by rw [i_eq]; omega), by omega, by omega⟩, Or.inr ⟨(by rw [← hw_7_0, i_eq]; omega), (by rw [← hw_7_0, if_neg (by rw [i_eq]; omega), ev_10])⟩⟩)⟩⟩) [0, 1, 2, 3, 4, 5, 6, 7, 8, 9, 10] (by decide) rfl (by decide) (by decide) dX10_habit_115
                · skip
                  have el_0 : (0 : Int32).toInt = 0 := rfl
                  rw [i_eq] at c_9
                  refine j_iload_n (pc := 107) C dX10_habit_107 rfl 2 rfl ?_
                  refine j_goto (pc := 108) (tgt := 112) C dX10_habit_108 (by decide) ?_
                  refine j_iload (pc := 112) C dX10_habit_112 0 rfl ?_
                  obtain ⟨v_11, ev_11⟩ : ∃ z : Int32, x1_2 / (u_6.2.1 0) = z := ⟨_, rfl⟩
                  have el_0 : (0 : Int32).toInt = 0 := rfl
                  refine j_idiv (pc := 114) (v := v_11) C dX10_habit_114 (by rw [i_eq]; omega) ev_11 ?_
                  have el_0 : (0 : Int32).toInt = 0 := rfl
                  have el_m1 : ((-1) : Int32).toInt = (-1) := rfl
                  exact j_iret (pc := 115) C hr hk (fun i => [].getD i 0, fun i => [v_11, y1_q0_1].getD i 0, fun i => [g1_q1].getD i (fun _ => 0), fun i => [].getD i (fun _ => 0)) rfl (show (0 ≤ (y1_q0_1).toInt ∧ (y1_q0_1).toInt ≤ 12) ∧ (Iv 12 (0) (11) g1_q1) ∧ (HBC (a_wares).toInt.toNat a_habit a_weight a_reach n_shelf n_stack n_level p0 v_11.toInt) from ⟨hi_1_3, hi_1_4, ⟨x1_2, (by rw [show (a_wares).toInt.toNat = (x1_4).toInt.toNat from (by omega)]; exact hq_1_1), (by have e9 : sumF a_habit (a_wares).toInt.toNat = x1_3 := (by rw [show (a_wares).toInt.toNat = (x1_4).toInt.toNat from (by omega)]; exact hq_1_0.symm); rw [e9]; exact Or.inr ⟨⟨(by rw [i_eq]; omega), by omega, by omega⟩, Or.inr ⟨(by rw [← hw_7_0, i_eq]; omega), (by rw [← hw_7_0, if_pos (by rw [i_eq]; omega), ev_11])⟩⟩)⟩⟩) [0, 1, 2, 3, 4, 5, 6, 7, 8, 9, 10] (by decide) rfl (by decide) (by decide) dX10_habit_115
              · skip
                have el_0 : (0 : Int32).toInt = 0 := rfl
                rw [i_eq] at c_8
                refine j_iconst (pc := 101) (v := (-1)) C dX10_habit_101 (by decide) ?_
                have el_m1 : ((-1) : Int32).toInt = (-1) := rfl
                have el_0 : (0 : Int32).toInt = 0 := rfl
                have el_m1 : ((-1) : Int32).toInt = (-1) := rfl
                exact j_iret (pc := 102) C hr hk (fun i => [].getD i 0, fun i => [(-1), y1_q0_1].getD i 0, fun i => [g1_q1].getD i (fun _ => 0), fun i => [].getD i (fun _ => 0)) rfl (show (0 ≤ (y1_q0_1).toInt ∧ (y1_q0_1).toInt ≤ 12) ∧ (Iv 12 (0) (11) g1_q1) ∧ (HBC (a_wares).toInt.toNat a_habit a_weight a_reach n_shelf n_stack n_level p0 ((-1) : Int32).toInt) from ⟨hi_1_3, hi_1_4, ⟨x1_2, (by rw [show (a_wares).toInt.toNat = (x1_4).toInt.toNat from (by omega)]; exact hq_1_1), (by have e9 : sumF a_habit (a_wares).toInt.toNat = x1_3 := (by rw [show (a_wares).toInt.toNat = (x1_4).toInt.toNat from (by omega)]; exact hq_1_0.symm); rw [e9]; exact Or.inr ⟨⟨(by rw [i_eq]; omega), by omega, by omega⟩, Or.inl ⟨hw_7_0.symm.trans ((i_eq _ _).mpr (by omega)), rfl⟩⟩)⟩⟩) [0, 1, 2, 3, 4, 5, 6, 7, 8, 9, 10] (by decide) rfl (by decide) (by decide) dX10_habit_102
            · skip
              have el_1 : (1 : Int32).toInt = 1 := rfl
              rw [i_le] at c_5
              refine j_iconst (pc := 87) (v := (-1)) C dX10_habit_87 (by decide) ?_
              have el_m1 : ((-1) : Int32).toInt = (-1) := rfl
              have el_0 : (0 : Int32).toInt = 0 := rfl
              have el_m1 : ((-1) : Int32).toInt = (-1) := rfl
              exact j_iret (pc := 88) C hr hk (fun i => [].getD i 0, fun i => [(-1), y1_q0_1].getD i 0, fun i => [g1_q1].getD i (fun _ => 0), fun i => [].getD i (fun _ => 0)) rfl (show (0 ≤ (y1_q0_1).toInt ∧ (y1_q0_1).toInt ≤ 12) ∧ (Iv 12 (0) (11) g1_q1) ∧ (HBC (a_wares).toInt.toNat a_habit a_weight a_reach n_shelf n_stack n_level p0 ((-1) : Int32).toInt) from ⟨hi_1_3, hi_1_4, ⟨x1_2, (by rw [show (a_wares).toInt.toNat = (x1_4).toInt.toNat from (by omega)]; exact hq_1_1), (by have e9 : sumF a_habit (a_wares).toInt.toNat = x1_3 := (by rw [show (a_wares).toInt.toNat = (x1_4).toInt.toNat from (by omega)]; exact hq_1_0.symm); rw [e9]; exact Or.inl ⟨rfl, fun z => by have z1 := z.1; rw [i_eq] at z1; have z2 := z.2; omega⟩)⟩⟩) [0, 1, 2, 3, 4, 5, 6, 7, 8, 9, 10] (by decide) rfl (by decide) (by decide) dX10_habit_88
      · skip
        rw [i_le] at c_2
        refine j_iload_n (pc := 19) C dX10_habit_19 rfl 1 rfl ?_
        refine j_aload_n (pc := 20) C dX10_habit_20 rfl 3 rfl ?_
        refine j_get (pc := 21) (ci := 10) (v := .ref a0) C inw_10 0 rfl rfl 1 (by decide) wd_447 rfl rfl dX10_habit_21 ?_
        refine j_get (pc := 24) (ci := 9) (v := .ref a6) C inw_9 1 rfl rfl 8 (by decide) wd_476 rfl rfl dX10_habit_24 ?_
        refine j_iload (pc := 27) C dX10_habit_27 0 rfl ?_
        obtain ⟨v_12, ev_12⟩ : ∃ z, a_habit (x1_4).toInt.toNat = z := ⟨_, rfl⟩
        have env_12 : (a_habit (x1_4).toInt.toNat).toInt = v_12.toInt := by rw [ev_12]
        refine j_iald (pc := 29) (v := v_12) (k := (x1_4).toInt.toNat) C 3 1 rfl rfl (i_nn hi_1_0.1) rfl (i_lt_n hi_1_0.1 (by omega)) ev_12 dX10_habit_29 ?_
        obtain ⟨v_13, ev_13⟩ : ∃ z : Int32, x1_3 + v_12 = z := ⟨_, rfl⟩
        refine j_iadd (pc := 30) (v := v_13) C dX10_habit_30 ev_13 ?_
        refine j_istore_n (pc := 31) (lv' := [(3, .int v_13), (4, .int x1_4), (2, .int x1_2), (0, .ref x0), (1, .int p0)]) C dX10_habit_31 rfl (by decide) rfl ?_
        refine j_aload_n (pc := 32) C dX10_habit_32 rfl 3 rfl ?_
        refine j_get (pc := 33) (ci := 10) (v := .ref n0) C inw_10 0 rfl rfl 2 (by decide) wd_466 rfl rfl dX10_habit_33 ?_
        refine j_iload (pc := 36) C dX10_habit_36 1 rfl ?_
        refine j_callV (pc := 38) (As := [.int x1_4]) (rest := []) (wr := [(x0, .inr (10, [.ref r0, .ref a0, .ref n0, .ref k0, .ref x1, .ref q0, .ref o0, .ref h0, .ref s0, .ref d0])), (a0, .inr (9, [.int a_wares, .int a_shelves, .int a_nests, .ref a1, .ref a2, .ref a3, .ref a4, .ref a5, .ref a6, .int a_lids, .int a_tops, .ref a7, .ref a8, .ref a9, .ref a10])), (a3, .inl (cyI, 12, .inl a_weight)), (a6, .inl (cyI, 12, .inl a_habit)), (a9, .inl (cyI, 4, .inl a_reach)), (n2, .inl (cyI, 12, .inl n_stack)), (n3, .inl (cyI, 12, .inl n_level)), (q0, .inr (4, [.ref q1, .int y1_q0_1])), (q1, .inl (cyI, 12, .inl g1_q1))]) C (c_X7_isOut l D cyC cyI cyJ cyZ cyO n0 n1 n2 n3 n4 x1_4 n_askings n_cost n_laid n_shelf h_n_askings h_n_laid (by omega) h_n_shelf) wd_13 wd_9 wd_480 wd_15 wd_16 ⟨by decide, by decide, rfl⟩ rfl ⟨rfl, rfl, by decide, by decide⟩ ⟨by decide, by decide⟩ [5, 6] [0, 1, 2, 3, 4, 7, 8, 9, 10] rfl rfl ⟨by decide, by decide, by decide⟩ 5 rfl rfl rfl (Nat.le_of_ble_eq_true rfl) dX10_habit_38 (fun u_14 hw_15 => ?_)
        refine j_eq (ws2 := [(x0, .inr (10, [.ref r0, .ref a0, .ref n0, .ref k0, .ref x1, .ref q0, .ref o0, .ref h0, .ref s0, .ref d0])), (a0, .inr (9, [.int a_wares, .int a_shelves, .int a_nests, .ref a1, .ref a2, .ref a3, .ref a4, .ref a5, .ref a6, .int a_lids, .int a_tops, .ref a7, .ref a8, .ref a9, .ref a10])), (a3, .inl (cyI, 12, .inl a_weight)), (a6, .inl (cyI, 12, .inl a_habit)), (a9, .inl (cyI, 4, .inl a_reach)), (n2, .inl (cyI, 12, .inl n_stack)), (n3, .inl (cyI, 12, .inl n_level)), (q0, .inr (4, [.ref q1, .int y1_q0_1])), (q1, .inl (cyI, 12, .inl g1_q1)), (n0, .inr (7, [.ref n1, .ref n2, .ref n3, .ref n4, .int n_askings, .int n_cost, .int n_laid])), (n1, .inl (cyI, 12, .inl n_shelf))]) (pc2 := 41) (lv2 := [(3, .int v_13), (4, .int x1_4), (2, .int x1_2), (0, .ref x0), (1, .int p0)]) (st2 := [.int (u_14.2.1 0)]) rfl rfl rfl rfl ?_
        obtain ⟨hw_15_0, hw_15_1, hw_15_2⟩ := hw_15
        refine j_if_ne (pc := 41) (tgt := 68) C dX10_habit_41 (by decide) (fun c_16 => ?_) (fun c_16 => ?_)
        · skip
          have el_0 : (0 : Int32).toInt = 0 := rfl
          rw [i_eq] at c_16
          have k0c_16 : ((u_14.2.1 0)).toInt = 1 := by omega
          obtain ⟨v_17, ev_17⟩ : ∃ z : Int32, x1_4 + 1 = z := ⟨_, rfl⟩
          have el_1 : (1 : Int32).toInt = 1 := rfl
          have hv_17 : v_17.toInt = x1_4.toInt + (1 : Int32).toInt := by rw [← ev_17]; exact fb_addI (by omega) (by omega)
          refine j_iinc (pc := 68) (v := v_17) (lv' := [(4, .int v_17), (3, .int v_13), (2, .int x1_2), (0, .ref x0), (1, .int p0)]) C dX10_habit_68 1 rfl ev_17 (by decide) rfl ?_
          refine j_goto (pc := 71) (tgt := 7) C dX10_habit_71 (by decide) ?_
          refine j_subG (ws' := [(x0, .inr (10, [.ref r0, .ref a0, .ref n0, .ref k0, .ref x1, .ref q0, .ref o0, .ref h0, .ref s0, .ref d0])), (a0, .inr (9, [.int a_wares, .int a_shelves, .int a_nests, .ref a1, .ref a2, .ref a3, .ref a4, .ref a5, .ref a6, .int a_lids, .int a_tops, .ref a7, .ref a8, .ref a9, .ref a10])), (a3, .inl (cyI, 12, .inl a_weight)), (a6, .inl (cyI, 12, .inl a_habit)), (a9, .inl (cyI, 4, .inl a_reach)), (n0, .inr (7, [.ref n1, .ref n2, .ref n3, .ref n4, .int n_askings, .int n_cost, .int n_laid])), (n1, .inl (cyI, 12, .inl n_shelf)), (n2, .inl (cyI, 12, .inl n_stack)), (n3, .inl (cyI, 12, .inl n_level)), (q0, .inr (4, [.ref q1, .int y1_q0_1])), (q1, .inl (cyI, 12, .inl g1_q1))]) [0, 1, 2, 3, 4, 9, 10, 5, 6, 7, 8] (by decide) rfl ?_
          exact j_lv [0, 1, 2, 3, 4] rfl (ih_1 v_17 v_13 x1_2 y1_q0_1 g1_q1 (by omega) hi_1_3 hi_1_4 (by omega) (by rw [show (v_17.toInt).toNat = (x1_4).toInt.toNat + 1 from (by omega), sumF_s, ← hq_1_0, ev_12]; exact ev_13.symm) (SR.skip hq_1_1 (by omega) (pHC.out (by rcases hw_15_1 with h | h; (exfalso; omega); (rw [h]; rfl)))) (by omega))
        · skip
          have el_0 : (0 : Int32).toInt = 0 := rfl
          rw [i_eq] at c_16
          refine j_iload_n (pc := 44) C dX10_habit_44 rfl 2 rfl ?_
          refine j_aload_n (pc := 45) C dX10_habit_45 rfl 3 rfl ?_
          refine j_get (pc := 46) (ci := 10) (v := .ref a0) C inw_10 0 rfl rfl 1 (by decide) wd_447 rfl rfl dX10_habit_46 ?_
          refine j_get (pc := 49) (ci := 9) (v := .ref a6) C inw_9 1 rfl rfl 8 (by decide) wd_476 rfl rfl dX10_habit_49 ?_
          refine j_iload (pc := 52) C dX10_habit_52 1 rfl ?_
          refine j_iald (pc := 54) (v := v_12) (k := (x1_4).toInt.toNat) C 3 1 rfl rfl (i_nn hi_1_0.1) rfl (i_lt_n hi_1_0.1 (by omega)) ev_12 dX10_habit_54 ?_
          refine j_aload_n (pc := 55) C dX10_habit_55 rfl 3 rfl ?_
          refine j_aload_n (pc := 56) C dX10_habit_56 rfl 3 rfl ?_
          refine j_get (pc := 57) (ci := 10) (v := .ref n0) C inw_10 0 rfl rfl 2 (by decide) wd_466 rfl rfl dX10_habit_57 ?_
          refine j_iload (pc := 60) C dX10_habit_60 1 rfl ?_
          refine j_callV (pc := 62) (As := [.ref n0, .int x1_4]) (rest := [.int v_12, .int x1_2]) (wr := [(a6, .inl (cyI, 12, .inl a_habit))]) C (c_X10_price l D cyC cyI cyJ cyZ cyO x0 a0 a3 a9 q0 q1 n0 n1 n2 n3 r0 n0 k0 x1 o0 h0 s0 d0 a1 a2 a4 a5 a6 a7 a8 a10 n4 x1_4 a_wares a_shelves a_nests a_lids a_tops y1_q0_1 n_askings n_cost n_laid a_weight a_reach g1_q1 n_shelf n_stack n_level h_a_wares h_a_shelves h_a_nests hi_1_3 h_n_askings h_n_laid (by omega) hi_1_4 h_n_shelf h_n_stack h_n_level (by omega)) wd_515 wd_482 wd_516 wd_517 wd_518 ⟨by decide, by decide, rfl⟩ rfl ⟨rfl, rfl, by decide, by decide⟩ ⟨by decide, by decide⟩ [0, 1, 2, 4, 7, 8, 9, 10, 5, 6] [3] rfl rfl ⟨by decide, by decide, by decide⟩ 0 rfl rfl rfl (Nat.le_of_ble_eq_true rfl) dX10_habit_62 (fun u_18 hw_19 => ?_)
          refine j_eq (ws2 := [(a6, .inl (cyI, 12, .inl a_habit)), (x0, .inr (10, [.ref r0, .ref a0, .ref n0, .ref k0, .ref x1, .ref q0, .ref o0, .ref h0, .ref s0, .ref d0])), (a0, .inr (9, [.int a_wares, .int a_shelves, .int a_nests, .ref a1, .ref a2, .ref a3, .ref a4, .ref a5, .ref a6, .int a_lids, .int a_tops, .ref a7, .ref a8, .ref a9, .ref a10])), (a3, .inl (cyI, 12, .inl a_weight)), (a9, .inl (cyI, 4, .inl a_reach)), (q0, .inr (4, [.ref q1, .int (u_18.2.1 1)])), (q1, .inl (cyI, 12, .inl (u_18.2.2.1 0))), (n0, .inr (7, [.ref n1, .ref n2, .ref n3, .ref n4, .int n_askings, .int n_cost, .int n_laid])), (n1, .inl (cyI, 12, .inl n_shelf)), (n2, .inl (cyI, 12, .inl n_stack)), (n3, .inl (cyI, 12, .inl n_level))]) (pc2 := 65) (lv2 := [(3, .int v_13), (4, .int x1_4), (2, .int x1_2), (0, .ref x0), (1, .int p0)]) (st2 := [.int (u_18.2.1 0), .int v_12, .int x1_2]) rfl rfl rfl rfl ?_
          obtain ⟨hw_19_0, hw_19_1, hw_19_2⟩ := hw_19
          obtain ⟨v_20, ev_20⟩ : ∃ z : Int32, v_12 * (u_18.2.1 0) = z := ⟨_, rfl⟩
          refine j_imul (pc := 65) (v := v_20) C dX10_habit_65 ev_20 ?_
          obtain ⟨v_21, ev_21⟩ : ∃ z : Int32, x1_2 + v_20 = z := ⟨_, rfl⟩
          refine j_iadd (pc := 66) (v := v_21) C dX10_habit_66 ev_21 ?_
          refine j_istore_n (pc := 67) (lv' := [(2, .int v_21), (3, .int v_13), (4, .int x1_4), (0, .ref x0), (1, .int p0)]) C dX10_habit_67 rfl (by decide) rfl ?_
          obtain ⟨v_22, ev_22⟩ : ∃ z : Int32, x1_4 + 1 = z := ⟨_, rfl⟩
          have el_1 : (1 : Int32).toInt = 1 := rfl
          have hv_22 : v_22.toInt = x1_4.toInt + (1 : Int32).toInt := by rw [← ev_22]; exact fb_addI (by omega) (by omega)
          refine j_iinc (pc := 68) (v := v_22) (lv' := [(4, .int v_22), (2, .int v_21), (3, .int v_13), (0, .ref x0), (1, .int p0)]) C dX10_habit_68 2 rfl ev_22 (by decide) rfl ?_
          refine j_goto (pc := 71) (tgt := 7) C dX10_habit_71 (by decide) ?_
          refine j_subG (ws' := [(x0, .inr (10, [.ref r0, .ref a0, .ref n0, .ref k0, .ref x1, .ref q0, .ref o0, .ref h0, .ref s0, .ref d0])), (a0, .inr (9, [.int a_wares, .int a_shelves, .int a_nests, .ref a1, .ref a2, .ref a3, .ref a4, .ref a5, .ref a6, .int a_lids, .int a_tops, .ref a7, .ref a8, .ref a9, .ref a10])), (a3, .inl (cyI, 12, .inl a_weight)), (a6, .inl (cyI, 12, .inl a_habit)), (a9, .inl (cyI, 4, .inl a_reach)), (n0, .inr (7, [.ref n1, .ref n2, .ref n3, .ref n4, .int n_askings, .int n_cost, .int n_laid])), (n1, .inl (cyI, 12, .inl n_shelf)), (n2, .inl (cyI, 12, .inl n_stack)), (n3, .inl (cyI, 12, .inl n_level)), (q0, .inr (4, [.ref q1, .int (u_18.2.1 1)])), (q1, .inl (cyI, 12, .inl (u_18.2.2.1 0)))]) [1, 2, 3, 0, 4, 7, 8, 9, 10, 5, 6] (by decide) rfl ?_
          exact j_lv [0, 2, 1, 3, 4] rfl (ih_1 v_22 v_13 v_21 (u_18.2.1 1) (u_18.2.2.1 0) (by omega) hw_19_0 hw_19_1 (by omega) (by rw [show (v_22.toInt).toNat = (x1_4).toInt.toNat + 1 from (by omega), sumF_s, ← hq_1_0, ev_12]; exact ev_13.symm) (SR.step hq_1_1 (by omega) ⟨(u_18.2.1 0), Or.inr ⟨by omega, hw_19_2⟩, (by rw [ev_12]; exact ev_20.symm)⟩ ev_21.symm) (by omega))
  have el_0 : (0 : Int32).toInt = 0 := rfl
  have el_0 : (0 : Int32).toInt = 0 := rfl
  have el_0 : (0 : Int32).toInt = 0 := rfl
  exact j_lv [0, 1, 2, 3, 4] rfl (loop_1 4096 0 0 0 q_size q_ware (by decide) h_q_size h_q_ware (by omega) rfl (SR.zero rfl rfl) (by omega))
set_option maxHeartbeats 4000000 in
set_option maxRecDepth 100000 in
theorem c_X10_best (l : Launch) (D : DG) (cyC cyI cyJ cyZ cyO : ClassId) (x0 : Nat) (a0 : Nat) (a1 : Nat) (a2 : Nat) (a3 : Nat) (a4 : Nat) (a7 : Nat) (a8 : Nat) (a9 : Nat) (n0 : Nat) (n1 : Nat) (n2 : Nat) (n3 : Nat) (n4 : Nat) (q0 : Nat) (q1 : Nat) (s0 : Nat) (s1 : Nat) (s2 : Nat) (s3 : Nat) (r0 : Nat) (k0 : Nat) (x1 : Nat) (o0 : Nat) (h0 : Nat) (d0 : Nat) (a5 : Nat) (a6 : Nat) (a10 : Nat) (p0 : Int32) (p1 : Int32) (p2 : Int32) (a_wares : Int32) (a_shelves : Int32) (a_nests : Int32) (a_lids : Int32) (a_tops : Int32) (n_askings : Int32) (n_cost : Int32) (n_laid : Int32) (q_size : Int32) (s_cost : Int32) (s_found : Int32) (s_size : Int32) (s_height : Int32) (s_reach : Int32) (a_wide : Nat → Int32) (a_deep : Nat → Int32) (a_weight : Nat → Int32) (a_bears : Nat → Int32) (a_mayOn : Nat → Int32) (a_height : Nat → Int32) (a_reach : Nat → Int32) (n_shelf : Nat → Int32) (n_stack : Nat → Int32) (n_level : Nat → Int32) (n_asking : Nat → Int32) (q_ware : Nat → Int32) (s_order : Nat → Int32) (s_trial : Nat → Int32) (s_times : Nat → Int32) (h_a_wares : 0 ≤ (a_wares).toInt ∧ (a_wares).toInt ≤ 12) (h_a_shelves : 0 ≤ (a_shelves).toInt ∧ (a_shelves).toInt ≤ 4) (h_a_nests : 0 ≤ (a_nests).toInt ∧ (a_nests).toInt ≤ 4) (h_n_askings : 0 ≤ (n_askings).toInt ∧ (n_askings).toInt ≤ 30) (h_n_laid : 0 ≤ (n_laid).toInt ∧ (n_laid).toInt ≤ 1) (h_q_size : 0 ≤ (q_size).toInt ∧ (q_size).toInt ≤ 12) (h_s_found : 0 ≤ (s_found).toInt ∧ (s_found).toInt ≤ 1) (h_s_size : 0 ≤ (s_size).toInt ∧ (s_size).toInt ≤ 7) (h_n_shelf : Iv 12 (-1) (3) n_shelf) (h_n_stack : Iv 12 (0) (7) n_stack) (h_n_level : Iv 12 (0) (11) n_level) (h_n_asking : Iv 30 (0) (11) n_asking) (h_q_ware : Iv 12 (0) (11) q_ware) (h_s_trial : Iv 7 (0) (11) s_trial) : KK l D (TY cyC cyI cyJ cyZ cyO) yX10_best cX10_best 4 (some .int) ({ frames := 17, cells := 0, slots := 0, locals := 483 } : Room) 0 0 [.ref x0, .int p0, .int p1, .int p2] [(x0, .inr (10, [.ref r0, .ref a0, .ref n0, .ref k0, .ref x1, .ref q0, .ref o0, .ref h0, .ref s0, .ref d0])), (a0, .inr (9, [.int a_wares, .int a_shelves, .int a_nests, .ref a1, .ref a2, .ref a3, .ref a4, .ref a5, .ref a6, .int a_lids, .int a_tops, .ref a7, .ref a8, .ref a9, .ref a10])), (a1, .inl (cyI, 12, .inl a_wide)), (a2, .inl (cyI, 12, .inl a_deep)), (a3, .inl (cyI, 12, .inl a_weight)), (a4, .inl (cyI, 12, .inl a_bears)), (a7, .inl (cyI, 12, .inl a_mayOn)), (a8, .inl (cyI, 4, .inl a_height)), (a9, .inl (cyI, 4, .inl a_reach)), (n0, .inr (7, [.ref n1, .ref n2, .ref n3, .ref n4, .int n_askings, .int n_cost, .int n_laid])), (n1, .inl (cyI, 12, .inl n_shelf)), (n2, .inl (cyI, 12, .inl n_stack)), (n3, .inl (cyI, 12, .inl n_level)), (n4, .inl (cyI, 30, .inl n_asking)), (q0, .inr (4, [.ref q1, .int q_size])), (q1, .inl (cyI, 12, .inl q_ware)), (s0, .inr (6, [.ref s1, .int s_cost, .int s_found, .int s_size, .int s_height, .int s_reach, .ref s2, .ref s3])), (s1, .inl (cyI, 7, .inl s_order)), (s2, .inl (cyI, 7, .inl s_trial)), (s3, .inl (cyI, 12, .inl s_times))] (fun u => some (.int (u.2.1 0))) (fun u => (0 ≤ (u.2.1 1).toInt ∧ (u.2.1 1).toInt ≤ 12) ∧ (Iv 12 (0) (11) (u.2.2.1 0)) ∧ (0 ≤ (u.2.1 3).toInt ∧ (u.2.1 3).toInt ≤ 1) ∧ (0 ≤ (u.2.1 4).toInt ∧ (u.2.1 4).toInt ≤ 7) ∧ (Iv 7 (0) (11) (u.2.2.1 2))) (fun u => [(x0, .inr (10, [.ref r0, .ref a0, .ref n0, .ref k0, .ref x1, .ref q0, .ref o0, .ref h0, .ref s0, .ref d0])), (a0, .inr (9, [.int a_wares, .int a_shelves, .int a_nests, .ref a1, .ref a2, .ref a3, .ref a4, .ref a5, .ref a6, .int a_lids, .int a_tops, .ref a7, .ref a8, .ref a9, .ref a10])), (a1, .inl (cyI, 12, .inl a_wide)), (a2, .inl (cyI, 12, .inl a_deep)), (a3, .inl (cyI, 12, .inl a_weight)), (a4, .inl (cyI, 12, .inl a_bears)), (a7, .inl (cyI, 12, .inl a_mayOn)), (a8, .inl (cyI, 4, .inl a_height)), (a9, .inl (cyI, 4, .inl a_reach)), (n0, .inr (7, [.ref n1, .ref n2, .ref n3, .ref n4, .int n_askings, .int n_cost, .int n_laid])), (n1, .inl (cyI, 12, .inl n_shelf)), (n2, .inl (cyI, 12, .inl n_stack)), (n3, .inl (cyI, 12, .inl n_level)), (n4, .inl (cyI, 30, .inl n_asking)), (q0, .inr (4, [.ref q1, .int (u.2.1 1)])), (q1, .inl (cyI, 12, .inl (u.2.2.1 0))), (s0, .inr (6, [.ref s1, .int (u.2.1 2), .int (u.2.1 3), .int (u.2.1 4), .int (u.2.1 5), .int (u.2.1 6), .ref s2, .ref s3])), (s1, .inl (cyI, 7, .inl (u.2.2.1 1))), (s2, .inl (cyI, 7, .inl (u.2.2.1 2))), (s3, .inl (cyI, 12, .inl (u.2.2.1 3)))]) := by
  refine KK.of (lv0 := [(0, .ref x0), (1, .int p0), (2, .int p1), (3, .int p2)]) (by decide) rfl (Nat.le_of_ble_eq_true rfl) ?_
  intro p e s m args below meth c A C hr hk hin
  refine j_aload_n (pc := 0) C dX10_best_0 rfl 0 rfl ?_
  refine j_iload_n (pc := 1) C dX10_best_1 rfl 1 rfl ?_
  refine j_iload_n (pc := 2) C dX10_best_2 rfl 2 rfl ?_
  refine j_callV (pc := 3) (As := [.int p0, .int p1]) (rest := []) (wr := [(a1, .inl (cyI, 12, .inl a_wide)), (a2, .inl (cyI, 12, .inl a_deep)), (a3, .inl (cyI, 12, .inl a_weight)), (a4, .inl (cyI, 12, .inl a_bears)), (a7, .inl (cyI, 12, .inl a_mayOn)), (a8, .inl (cyI, 4, .inl a_height)), (a9, .inl (cyI, 4, .inl a_reach)), (n3, .inl (cyI, 12, .inl n_level)), (n4, .inl (cyI, 30, .inl n_asking)), (q0, .inr (4, [.ref q1, .int q_size])), (q1, .inl (cyI, 12, .inl q_ware)), (s0, .inr (6, [.ref s1, .int s_cost, .int s_found, .int s_size, .int s_height, .int s_reach, .ref s2, .ref s3])), (s1, .inl (cyI, 7, .inl s_order)), (s2, .inl (cyI, 7, .inl s_trial)), (s3, .inl (cyI, 12, .inl s_times))]) C (c_X10_isStack l D cyC cyI cyJ cyZ cyO x0 a0 n0 n1 n2 r0 k0 x1 q0 o0 h0 s0 d0 a1 a2 a3 a4 a5 a6 a7 a8 a9 a10 n3 n4 p0 p1 a_wares a_shelves a_nests a_lids a_tops n_askings n_cost n_laid n_shelf n_stack h_a_wares h_a_shelves h_a_nests h_n_askings h_n_laid h_n_shelf h_n_stack) wd_499 wd_482 wd_500 wd_501 wd_502 ⟨by decide, by decide, rfl⟩ rfl ⟨rfl, rfl, by decide, by decide⟩ ⟨by decide, by decide⟩ [0, 1, 9, 10, 11] [2, 3, 4, 5, 6, 7, 8, 12, 13, 14, 15, 16, 17, 18, 19] rfl rfl ⟨by decide, by decide, by decide⟩ 0 rfl rfl rfl (Nat.le_of_ble_eq_true rfl) dX10_best_3 (fun u_1 hw_2 => ?_)
  refine j_eq (ws2 := [(a1, .inl (cyI, 12, .inl a_wide)), (a2, .inl (cyI, 12, .inl a_deep)), (a3, .inl (cyI, 12, .inl a_weight)), (a4, .inl (cyI, 12, .inl a_bears)), (a7, .inl (cyI, 12, .inl a_mayOn)), (a8, .inl (cyI, 4, .inl a_height)), (a9, .inl (cyI, 4, .inl a_reach)), (n3, .inl (cyI, 12, .inl n_level)), (n4, .inl (cyI, 30, .inl n_asking)), (q0, .inr (4, [.ref q1, .int q_size])), (q1, .inl (cyI, 12, .inl q_ware)), (s0, .inr (6, [.ref s1, .int s_cost, .int s_found, .int s_size, .int s_height, .int s_reach, .ref s2, .ref s3])), (s1, .inl (cyI, 7, .inl s_order)), (s2, .inl (cyI, 7, .inl s_trial)), (s3, .inl (cyI, 12, .inl s_times)), (x0, .inr (10, [.ref r0, .ref a0, .ref n0, .ref k0, .ref x1, .ref q0, .ref o0, .ref h0, .ref s0, .ref d0])), (a0, .inr (9, [.int a_wares, .int a_shelves, .int a_nests, .ref a1, .ref a2, .ref a3, .ref a4, .ref a5, .ref a6, .int a_lids, .int a_tops, .ref a7, .ref a8, .ref a9, .ref a10])), (n0, .inr (7, [.ref n1, .ref n2, .ref n3, .ref n4, .int n_askings, .int n_cost, .int n_laid])), (n1, .inl (cyI, 12, .inl n_shelf)), (n2, .inl (cyI, 12, .inl n_stack))]) (pc2 := 6) (lv2 := [(0, .ref x0), (1, .int p0), (2, .int p1), (3, .int p2)]) (st2 := [.int (u_1.2.1 0)]) rfl rfl rfl rfl ?_
  obtain ⟨hw_2_0, hw_2_1, hw_2_2, hw_2_3⟩ := hw_2
  refine j_if_ne (pc := 6) (tgt := 11) C dX10_best_6 (by decide) (fun c_3 => ?_) (fun c_3 => ?_)
  · skip
    have el_0 : (0 : Int32).toInt = 0 := rfl
    rw [i_eq] at c_3
    have k0c_3 : ((u_1.2.1 0)).toInt = 1 := by omega
    refine j_aload_n (pc := 11) C dX10_best_11 rfl 0 rfl ?_
    refine j_get (pc := 12) (ci := 10) (v := .ref q0) C inw_10 15 rfl rfl 5 (by decide) wd_438 rfl rfl dX10_best_12 ?_
    refine j_aload_n (pc := 15) C dX10_best_15 rfl 0 rfl ?_
    refine j_get (pc := 16) (ci := 10) (v := .ref n0) C inw_10 15 rfl rfl 2 (by decide) wd_466 rfl rfl dX10_best_16 ?_
    refine j_iload_n (pc := 19) C dX10_best_19 rfl 1 rfl ?_
    refine j_iload_n (pc := 20) C dX10_best_20 rfl 2 rfl ?_
    refine j_callV (pc := 21) (As := [.ref n0, .int p0, .int p1]) (rest := []) (wr := [(a1, .inl (cyI, 12, .inl a_wide)), (a2, .inl (cyI, 12, .inl a_deep)), (a3, .inl (cyI, 12, .inl a_weight)), (a4, .inl (cyI, 12, .inl a_bears)), (a7, .inl (cyI, 12, .inl a_mayOn)), (a8, .inl (cyI, 4, .inl a_height)), (a9, .inl (cyI, 4, .inl a_reach)), (n4, .inl (cyI, 30, .inl n_asking)), (s0, .inr (6, [.ref s1, .int s_cost, .int s_found, .int s_size, .int s_height, .int s_reach, .ref s2, .ref s3])), (s1, .inl (cyI, 7, .inl s_order)), (s2, .inl (cyI, 7, .inl s_trial)), (s3, .inl (cyI, 12, .inl s_times)), (x0, .inr (10, [.ref r0, .ref a0, .ref n0, .ref k0, .ref x1, .ref q0, .ref o0, .ref h0, .ref s0, .ref d0])), (a0, .inr (9, [.int a_wares, .int a_shelves, .int a_nests, .ref a1, .ref a2, .ref a3, .ref a4, .ref a5, .ref a6, .int a_lids, .int a_tops, .ref a7, .ref a8, .ref a9, .ref a10]))]) C (c_X4_take l D cyC cyI cyJ cyZ cyO q0 q1 n0 n1 n2 n3 n4 p0 p1 q_size n_askings n_cost n_laid q_ware n_shelf n_stack n_level h_q_size h_n_askings h_n_laid h_q_ware h_n_shelf h_n_stack h_n_level) wd_439 wd_40 wd_440 wd_441 wd_442 ⟨by decide, by decide, rfl⟩ rfl ⟨rfl, rfl, by decide, by decide⟩ ⟨by decide, by decide⟩ [9, 10, 17, 18, 19, 7] [0, 1, 2, 3, 4, 5, 6, 8, 11, 12, 13, 14, 15, 16] rfl rfl ⟨by decide, by decide, by decide⟩ 9 rfl rfl rfl (Nat.le_of_ble_eq_true rfl) dX10_best_21 (fun u_4 hw_5 => ?_)
    refine j_eq (ws2 := [(a1, .inl (cyI, 12, .inl a_wide)), (a2, .inl (cyI, 12, .inl a_deep)), (a3, .inl (cyI, 12, .inl a_weight)), (a4, .inl (cyI, 12, .inl a_bears)), (a7, .inl (cyI, 12, .inl a_mayOn)), (a8, .inl (cyI, 4, .inl a_height)), (a9, .inl (cyI, 4, .inl a_reach)), (n4, .inl (cyI, 30, .inl n_asking)), (s0, .inr (6, [.ref s1, .int s_cost, .int s_found, .int s_size, .int s_height, .int s_reach, .ref s2, .ref s3])), (s1, .inl (cyI, 7, .inl s_order)), (s2, .inl (cyI, 7, .inl s_trial)), (s3, .inl (cyI, 12, .inl s_times)), (x0, .inr (10, [.ref r0, .ref a0, .ref n0, .ref k0, .ref x1, .ref q0, .ref o0, .ref h0, .ref s0, .ref d0])), (a0, .inr (9, [.int a_wares, .int a_shelves, .int a_nests, .ref a1, .ref a2, .ref a3, .ref a4, .ref a5, .ref a6, .int a_lids, .int a_tops, .ref a7, .ref a8, .ref a9, .ref a10])), (q0, .inr (4, [.ref q1, .int (u_4.2.1 0)])), (q1, .inl (cyI, 12, .inl (u_4.2.2.1 0))), (n0, .inr (7, [.ref n1, .ref n2, .ref n3, .ref n4, .int n_askings, .int n_cost, .int n_laid])), (n1, .inl (cyI, 12, .inl n_shelf)), (n2, .inl (cyI, 12, .inl n_stack)), (n3, .inl (cyI, 12, .inl n_level))]) (pc2 := 24) (lv2 := [(0, .ref x0), (1, .int p0), (2, .int p1), (3, .int p2)]) (st2 := []) rfl rfl rfl rfl ?_
    obtain ⟨hw_5_0, hw_5_1, hw_5_2, hw_5_3⟩ := hw_5
    refine j_iload_n (pc := 24) C dX10_best_24 rfl 3 rfl ?_
    refine j_if_lt (pc := 25) (tgt := 51) C dX10_best_25 (by decide) (fun c_6 => ?_) (fun c_6 => ?_)
    · skip
      have el_0 : (0 : Int32).toInt = 0 := rfl
      rw [i_lt] at c_6
      refine j_iconst (pc := 51) (v := (-1)) C dX10_best_51 (by decide) ?_
      exact j_iret (pc := 52) C hr hk (fun i => [].getD i 0, fun i => [(-1), (u_4.2.1 0), s_cost, s_found, s_size, s_height, s_reach].getD i 0, fun i => [(u_4.2.2.1 0), s_order, s_trial, s_times].getD i (fun _ => 0), fun i => [].getD i (fun _ => 0)) rfl (show (0 ≤ ((u_4.2.1 0)).toInt ∧ ((u_4.2.1 0)).toInt ≤ 12) ∧ (Iv 12 (0) (11) (u_4.2.2.1 0)) ∧ (0 ≤ (s_found).toInt ∧ (s_found).toInt ≤ 1) ∧ (0 ≤ (s_size).toInt ∧ (s_size).toInt ≤ 7) ∧ (Iv 7 (0) (11) s_trial) from ⟨hw_5_0, hw_5_1, h_s_found, h_s_size, h_s_trial⟩) [12, 13, 0, 1, 2, 3, 4, 5, 6, 16, 17, 18, 19, 7, 14, 15, 8, 9, 10, 11] (by decide) rfl (by decide) (by decide) dX10_best_52
    · skip
      have el_0 : (0 : Int32).toInt = 0 := rfl
      rw [i_lt] at c_6
      refine j_iload_n (pc := 28) C dX10_best_28 rfl 3 rfl ?_
      refine j_aload_n (pc := 29) C dX10_best_29 rfl 0 rfl ?_
      refine j_get (pc := 30) (ci := 10) (v := .ref q0) C inw_10 12 rfl rfl 5 (by decide) wd_438 rfl rfl dX10_best_30 ?_
      refine j_get (pc := 33) (ci := 4) (v := .int (u_4.2.1 0)) C inw_4 14 rfl rfl 1 (by decide) wd_505 rfl rfl dX10_best_33 ?_
      refine j_icmp_gt (pc := 36) (tgt := 51) C dX10_best_36 (by decide) (fun c_7 => ?_) (fun c_7 => ?_)
      · skip
        rw [i_lt] at c_7
        refine j_iconst (pc := 51) (v := (-1)) C dX10_best_51 (by decide) ?_
        exact j_iret (pc := 52) C hr hk (fun i => [].getD i 0, fun i => [(-1), (u_4.2.1 0), s_cost, s_found, s_size, s_height, s_reach].getD i 0, fun i => [(u_4.2.2.1 0), s_order, s_trial, s_times].getD i (fun _ => 0), fun i => [].getD i (fun _ => 0)) rfl (show (0 ≤ ((u_4.2.1 0)).toInt ∧ ((u_4.2.1 0)).toInt ≤ 12) ∧ (Iv 12 (0) (11) (u_4.2.2.1 0)) ∧ (0 ≤ (s_found).toInt ∧ (s_found).toInt ≤ 1) ∧ (0 ≤ (s_size).toInt ∧ (s_size).toInt ≤ 7) ∧ (Iv 7 (0) (11) s_trial) from ⟨hw_5_0, hw_5_1, h_s_found, h_s_size, h_s_trial⟩) [12, 13, 0, 1, 2, 3, 4, 5, 6, 16, 17, 18, 19, 7, 14, 15, 8, 9, 10, 11] (by decide) rfl (by decide) (by decide) dX10_best_52
      · skip
        rw [i_lt] at c_7
        refine j_aload_n (pc := 39) C dX10_best_39 rfl 0 rfl ?_
        refine j_get (pc := 40) (ci := 10) (v := .ref q0) C inw_10 12 rfl rfl 5 (by decide) wd_438 rfl rfl dX10_best_40 ?_
        refine j_get (pc := 43) (ci := 4) (v := .int (u_4.2.1 0)) C inw_4 14 rfl rfl 1 (by decide) wd_505 rfl rfl dX10_best_43 ?_
        refine j_bipush (pc := 46) (v := 7) C dX10_best_46 (by decide) ?_
        refine j_icmp_le (pc := 48) (tgt := 53) C dX10_best_48 (by decide) (fun c_8 => ?_) (fun c_8 => ?_)
        · skip
          have el_7 : (7 : Int32).toInt = 7 := rfl
          rw [i_le] at c_8
          refine j_aload_n (pc := 53) C dX10_best_53 rfl 0 rfl ?_
          refine j_get (pc := 54) (ci := 10) (v := .ref s0) C inw_10 12 rfl rfl 8 (by decide) wd_560 rfl rfl dX10_best_54 ?_
          refine j_aload_n (pc := 57) C dX10_best_57 rfl 0 rfl ?_
          refine j_get (pc := 58) (ci := 10) (v := .ref a0) C inw_10 12 rfl rfl 1 (by decide) wd_447 rfl rfl dX10_best_58 ?_
          refine j_aload_n (pc := 61) C dX10_best_61 rfl 0 rfl ?_
          refine j_get (pc := 62) (ci := 10) (v := .ref n0) C inw_10 12 rfl rfl 2 (by decide) wd_466 rfl rfl dX10_best_62 ?_
          refine j_aload_n (pc := 65) C dX10_best_65 rfl 0 rfl ?_
          refine j_get (pc := 66) (ci := 10) (v := .ref q0) C inw_10 12 rfl rfl 5 (by decide) wd_438 rfl rfl dX10_best_66 ?_
          refine j_iload_n (pc := 69) C dX10_best_69 rfl 1 rfl ?_
          refine j_callV (pc := 70) (As := [.ref a0, .ref n0, .ref q0, .int p0]) (rest := []) (wr := [(x0, .inr (10, [.ref r0, .ref a0, .ref n0, .ref k0, .ref x1, .ref q0, .ref o0, .ref h0, .ref s0, .ref d0])), (n1, .inl (cyI, 12, .inl n_shelf)), (n2, .inl (cyI, 12, .inl n_stack)), (n3, .inl (cyI, 12, .inl n_level))]) C (c_X6_find l D cyC cyI cyJ cyZ cyO s0 s1 s2 s3 a0 a1 a2 a3 a4 a7 a8 a9 n0 n4 q0 q1 a5 a6 a10 n1 n2 n3 p0 s_cost s_found s_size s_height s_reach a_wares a_shelves a_nests a_lids a_tops n_askings n_cost n_laid (u_4.2.1 0) s_order s_trial s_times a_wide a_deep a_weight a_bears a_mayOn a_height a_reach n_asking (u_4.2.2.1 0) h_s_found h_s_size h_a_wares h_a_shelves h_a_nests h_n_askings h_n_laid hw_5_0 (by omega) h_s_trial h_n_asking hw_5_1) wd_561 wd_123 wd_562 wd_563 wd_564 ⟨by decide, by decide, rfl⟩ rfl ⟨rfl, rfl, by decide, by decide⟩ ⟨by decide, by decide⟩ [8, 9, 10, 11, 13, 0, 1, 2, 3, 4, 5, 6, 16, 7, 14, 15] [12, 17, 18, 19] rfl rfl ⟨by decide, by decide, by decide⟩ 8 rfl rfl rfl (Nat.le_of_ble_eq_true rfl) dX10_best_70 (fun u_9 hw_10 => ?_)
          refine j_eq (ws2 := [(x0, .inr (10, [.ref r0, .ref a0, .ref n0, .ref k0, .ref x1, .ref q0, .ref o0, .ref h0, .ref s0, .ref d0])), (n1, .inl (cyI, 12, .inl n_shelf)), (n2, .inl (cyI, 12, .inl n_stack)), (n3, .inl (cyI, 12, .inl n_level)), (s0, .inr (6, [.ref s1, .int (u_9.2.1 1), .int (u_9.2.1 2), .int (u_9.2.1 3), .int (u_9.2.1 4), .int (u_9.2.1 5), .ref s2, .ref s3])), (s1, .inl (cyI, 7, .inl (u_9.2.2.1 0))), (s2, .inl (cyI, 7, .inl (u_9.2.2.1 1))), (s3, .inl (cyI, 12, .inl (u_9.2.2.1 2))), (a0, .inr (9, [.int a_wares, .int a_shelves, .int a_nests, .ref a1, .ref a2, .ref a3, .ref a4, .ref a5, .ref a6, .int a_lids, .int a_tops, .ref a7, .ref a8, .ref a9, .ref a10])), (a1, .inl (cyI, 12, .inl a_wide)), (a2, .inl (cyI, 12, .inl a_deep)), (a3, .inl (cyI, 12, .inl a_weight)), (a4, .inl (cyI, 12, .inl a_bears)), (a7, .inl (cyI, 12, .inl a_mayOn)), (a8, .inl (cyI, 4, .inl a_height)), (a9, .inl (cyI, 4, .inl a_reach)), (n0, .inr (7, [.ref n1, .ref n2, .ref n3, .ref n4, .int n_askings, .int n_cost, .int n_laid])), (n4, .inl (cyI, 30, .inl n_asking)), (q0, .inr (4, [.ref q1, .int (u_4.2.1 0)])), (q1, .inl (cyI, 12, .inl (u_4.2.2.1 0)))]) (pc2 := 73) (lv2 := [(0, .ref x0), (1, .int p0), (2, .int p1), (3, .int p2)]) (st2 := [.int (u_9.2.1 0)]) rfl rfl rfl rfl ?_
          obtain ⟨hw_10_0, hw_10_1, hw_10_2, hw_10_3⟩ := hw_10
          refine j_if_ne (pc := 73) (tgt := 78) C dX10_best_73 (by decide) (fun c_11 => ?_) (fun c_11 => ?_)
          · skip
            have el_0 : (0 : Int32).toInt = 0 := rfl
            rw [i_eq] at c_11
            have k0c_11 : ((u_9.2.1 0)).toInt = 1 := by omega
            refine j_iload_n (pc := 78) C dX10_best_78 rfl 3 rfl ?_
            refine j_if_ne (pc := 79) (tgt := 92) C dX10_best_79 (by decide) (fun c_12 => ?_) (fun c_12 => ?_)
            · skip
              have el_0 : (0 : Int32).toInt = 0 := rfl
              rw [i_eq] at c_12
              refine j_aload_n (pc := 92) C dX10_best_92 rfl 0 rfl ?_
              refine j_get (pc := 93) (ci := 10) (v := .ref s0) C inw_10 0 rfl rfl 8 (by decide) wd_560 rfl rfl dX10_best_93 ?_
              refine j_get (pc := 96) (ci := 6) (v := .ref s1) C inw_6 4 rfl rfl 0 (by decide) wd_565 rfl rfl dX10_best_96 ?_
              refine j_iload_n (pc := 99) C dX10_best_99 rfl 3 rfl ?_
              refine j_iconst (pc := 100) (v := 1) C dX10_best_100 (by decide) ?_
              obtain ⟨v_13, ev_13⟩ : ∃ z : Int32, p2 - 1 = z := ⟨_, rfl⟩
              have el_1 : (1 : Int32).toInt = 1 := rfl
              have hv_13 : v_13.toInt = p2.toInt - (1 : Int32).toInt := by rw [← ev_13]; exact fb_subI (by omega) (by omega)
              refine j_isub (pc := 101) (v := v_13) C dX10_best_101 ev_13 ?_
              obtain ⟨v_14, ev_14⟩ : ∃ z, (u_9.2.2.1 0) (v_13).toInt.toNat = z := ⟨_, rfl⟩
              have env_14 : ((u_9.2.2.1 0) (v_13).toInt.toNat).toInt = v_14.toInt := by rw [ev_14]
              refine j_iald (pc := 102) (v := v_14) (k := (v_13).toInt.toNat) C 5 1 rfl rfl (i_nn (by omega)) rfl (i_lt_n (by omega) (by omega)) ev_14 dX10_best_102 ?_
              exact j_iret (pc := 103) C hr hk (fun i => [].getD i 0, fun i => [v_14, (u_4.2.1 0), (u_9.2.1 1), (u_9.2.1 2), (u_9.2.1 3), (u_9.2.1 4), (u_9.2.1 5)].getD i 0, fun i => [(u_4.2.2.1 0), (u_9.2.2.1 0), (u_9.2.2.1 1), (u_9.2.2.1 2)].getD i (fun _ => 0), fun i => [].getD i (fun _ => 0)) rfl (show (0 ≤ ((u_4.2.1 0)).toInt ∧ ((u_4.2.1 0)).toInt ≤ 12) ∧ (Iv 12 (0) (11) (u_4.2.2.1 0)) ∧ (0 ≤ ((u_9.2.1 2)).toInt ∧ ((u_9.2.1 2)).toInt ≤ 1) ∧ (0 ≤ ((u_9.2.1 3)).toInt ∧ ((u_9.2.1 3)).toInt ≤ 7) ∧ (Iv 7 (0) (11) (u_9.2.2.1 1)) from ⟨hw_5_0, hw_5_1, hw_10_1, hw_10_2, hw_10_3⟩) [0, 8, 9, 10, 11, 12, 13, 14, 15, 16, 1, 2, 3, 17, 18, 19, 4, 5, 6, 7] (by decide) rfl (by decide) (by decide) dX10_best_103
            · skip
              have el_0 : (0 : Int32).toInt = 0 := rfl
              rw [i_eq] at c_12
              refine j_aload_n (pc := 82) C dX10_best_82 rfl 0 rfl ?_
              refine j_get (pc := 83) (ci := 10) (v := .ref s0) C inw_10 0 rfl rfl 8 (by decide) wd_560 rfl rfl dX10_best_83 ?_
              refine j_get (pc := 86) (ci := 6) (v := .int (u_9.2.1 1)) C inw_6 4 rfl rfl 1 (by decide) wd_566 rfl rfl dX10_best_86 ?_
              refine j_goto (pc := 89) (tgt := 103) C dX10_best_89 (by decide) ?_
              exact j_iret (pc := 103) C hr hk (fun i => [].getD i 0, fun i => [(u_9.2.1 1), (u_4.2.1 0), (u_9.2.1 1), (u_9.2.1 2), (u_9.2.1 3), (u_9.2.1 4), (u_9.2.1 5)].getD i 0, fun i => [(u_4.2.2.1 0), (u_9.2.2.1 0), (u_9.2.2.1 1), (u_9.2.2.1 2)].getD i (fun _ => 0), fun i => [].getD i (fun _ => 0)) rfl (show (0 ≤ ((u_4.2.1 0)).toInt ∧ ((u_4.2.1 0)).toInt ≤ 12) ∧ (Iv 12 (0) (11) (u_4.2.2.1 0)) ∧ (0 ≤ ((u_9.2.1 2)).toInt ∧ ((u_9.2.1 2)).toInt ≤ 1) ∧ (0 ≤ ((u_9.2.1 3)).toInt ∧ ((u_9.2.1 3)).toInt ≤ 7) ∧ (Iv 7 (0) (11) (u_9.2.2.1 1)) from ⟨hw_5_0, hw_5_1, hw_10_1, hw_10_2, hw_10_3⟩) [0, 8, 9, 10, 11, 12, 13, 14, 15, 16, 1, 2, 3, 17, 18, 19, 4, 5, 6, 7] (by decide) rfl (by decide) (by decide) dX10_best_103
          · skip
            have el_0 : (0 : Int32).toInt = 0 := rfl
            rw [i_eq] at c_11
            refine j_iconst (pc := 76) (v := (-1)) C dX10_best_76 (by decide) ?_
            exact j_iret (pc := 77) C hr hk (fun i => [].getD i 0, fun i => [(-1), (u_4.2.1 0), (u_9.2.1 1), (u_9.2.1 2), (u_9.2.1 3), (u_9.2.1 4), (u_9.2.1 5)].getD i 0, fun i => [(u_4.2.2.1 0), (u_9.2.2.1 0), (u_9.2.2.1 1), (u_9.2.2.1 2)].getD i (fun _ => 0), fun i => [].getD i (fun _ => 0)) rfl (show (0 ≤ ((u_4.2.1 0)).toInt ∧ ((u_4.2.1 0)).toInt ≤ 12) ∧ (Iv 12 (0) (11) (u_4.2.2.1 0)) ∧ (0 ≤ ((u_9.2.1 2)).toInt ∧ ((u_9.2.1 2)).toInt ≤ 1) ∧ (0 ≤ ((u_9.2.1 3)).toInt ∧ ((u_9.2.1 3)).toInt ≤ 7) ∧ (Iv 7 (0) (11) (u_9.2.2.1 1)) from ⟨hw_5_0, hw_5_1, hw_10_1, hw_10_2, hw_10_3⟩) [0, 8, 9, 10, 11, 12, 13, 14, 15, 16, 1, 2, 3, 17, 18, 19, 4, 5, 6, 7] (by decide) rfl (by decide) (by decide) dX10_best_77
        · skip
          have el_7 : (7 : Int32).toInt = 7 := rfl
          rw [i_le] at c_8
          refine j_iconst (pc := 51) (v := (-1)) C dX10_best_51 (by decide) ?_
          exact j_iret (pc := 52) C hr hk (fun i => [].getD i 0, fun i => [(-1), (u_4.2.1 0), s_cost, s_found, s_size, s_height, s_reach].getD i 0, fun i => [(u_4.2.2.1 0), s_order, s_trial, s_times].getD i (fun _ => 0), fun i => [].getD i (fun _ => 0)) rfl (show (0 ≤ ((u_4.2.1 0)).toInt ∧ ((u_4.2.1 0)).toInt ≤ 12) ∧ (Iv 12 (0) (11) (u_4.2.2.1 0)) ∧ (0 ≤ (s_found).toInt ∧ (s_found).toInt ≤ 1) ∧ (0 ≤ (s_size).toInt ∧ (s_size).toInt ≤ 7) ∧ (Iv 7 (0) (11) s_trial) from ⟨hw_5_0, hw_5_1, h_s_found, h_s_size, h_s_trial⟩) [12, 13, 0, 1, 2, 3, 4, 5, 6, 16, 17, 18, 19, 7, 14, 15, 8, 9, 10, 11] (by decide) rfl (by decide) (by decide) dX10_best_52
  · skip
    have el_0 : (0 : Int32).toInt = 0 := rfl
    rw [i_eq] at c_3
    refine j_iconst (pc := 9) (v := (-1)) C dX10_best_9 (by decide) ?_
    exact j_iret (pc := 10) C hr hk (fun i => [].getD i 0, fun i => [(-1), q_size, s_cost, s_found, s_size, s_height, s_reach].getD i 0, fun i => [q_ware, s_order, s_trial, s_times].getD i (fun _ => 0), fun i => [].getD i (fun _ => 0)) rfl (show (0 ≤ (q_size).toInt ∧ (q_size).toInt ≤ 12) ∧ (Iv 12 (0) (11) q_ware) ∧ (0 ≤ (s_found).toInt ∧ (s_found).toInt ≤ 1) ∧ (0 ≤ (s_size).toInt ∧ (s_size).toInt ≤ 7) ∧ (Iv 7 (0) (11) s_trial) from ⟨h_q_size, h_q_ware, h_s_found, h_s_size, h_s_trial⟩) [15, 16, 0, 1, 2, 3, 4, 5, 6, 17, 18, 19, 7, 8, 9, 10, 11, 12, 13, 14] (by decide) rfl (by decide) (by decide) dX10_best_10
set_option maxHeartbeats 4000000 in
set_option maxRecDepth 100000 in
theorem c_X10_hasPlace (l : Launch) (D : DG) (cyC cyI cyJ cyZ cyO : ClassId) (x0 : Nat) (a0 : Nat) (a1 : Nat) (a2 : Nat) (a3 : Nat) (a4 : Nat) (a7 : Nat) (a8 : Nat) (a10 : Nat) (q0 : Nat) (q1 : Nat) (g0 : Nat) (g1 : Nat) (g2 : Nat) (g3 : Nat) (r0 : Nat) (n0 : Nat) (k0 : Nat) (x1 : Nat) (o0 : Nat) (h0 : Nat) (s0 : Nat) (d0 : Nat) (a5 : Nat) (a6 : Nat) (a9 : Nat) (g4 : Nat) (p1 : Int32) (a_wares : Int32) (a_shelves : Int32) (a_nests : Int32) (a_lids : Int32) (a_tops : Int32) (q_size : Int32) (g_askings : Int32) (g_cost : Int32) (g_laid : Int32) (a_wide : Nat → Int32) (a_deep : Nat → Int32) (a_weight : Nat → Int32) (a_bears : Nat → Int32) (a_mayOn : Nat → Int32) (a_height : Nat → Int32) (a_room : Nat → Int32) (q_ware : Nat → Int32) (g_shelf : Nat → Int32) (g_stack : Nat → Int32) (g_level : Nat → Int32) (h_a_wares : 0 ≤ (a_wares).toInt ∧ (a_wares).toInt ≤ 12) (h_a_shelves : 0 ≤ (a_shelves).toInt ∧ (a_shelves).toInt ≤ 4) (h_a_nests : 0 ≤ (a_nests).toInt ∧ (a_nests).toInt ≤ 4) (h_q_size : 0 ≤ (q_size).toInt ∧ (q_size).toInt ≤ 12) (h_g_askings : 0 ≤ (g_askings).toInt ∧ (g_askings).toInt ≤ 30) (h_g_laid : 0 ≤ (g_laid).toInt ∧ (g_laid).toInt ≤ 1) (h_p1 : 0 ≤ (p1).toInt ∧ (p1).toInt ≤ 11) (h_a_room : Iv 4 (0) (8) a_room) (h_q_ware : Iv 12 (0) (11) q_ware) (h_g_shelf : Iv 12 (-1) (3) g_shelf) (h_g_stack : Iv 12 (0) (7) g_stack) (h_g_level : Iv 12 (0) (11) g_level) : KK l D (TY cyC cyI cyJ cyZ cyO) yX10_hasPlace cX10_hasPlace 6 (some .boolean) ({ frames := 4, cells := 0, slots := 0, locals := 94 } : Room) 0 0 [.ref x0, .ref g0, .int p1] [(x0, .inr (10, [.ref r0, .ref a0, .ref n0, .ref k0, .ref x1, .ref q0, .ref o0, .ref h0, .ref s0, .ref d0])), (a0, .inr (9, [.int a_wares, .int a_shelves, .int a_nests, .ref a1, .ref a2, .ref a3, .ref a4, .ref a5, .ref a6, .int a_lids, .int a_tops, .ref a7, .ref a8, .ref a9, .ref a10])), (a1, .inl (cyI, 12, .inl a_wide)), (a2, .inl (cyI, 12, .inl a_deep)), (a3, .inl (cyI, 12, .inl a_weight)), (a4, .inl (cyI, 12, .inl a_bears)), (a7, .inl (cyI, 12, .inl a_mayOn)), (a8, .inl (cyI, 4, .inl a_height)), (a10, .inl (cyI, 4, .inl a_room)), (q0, .inr (4, [.ref q1, .int q_size])), (q1, .inl (cyI, 12, .inl q_ware)), (g0, .inr (7, [.ref g1, .ref g2, .ref g3, .ref g4, .int g_askings, .int g_cost, .int g_laid])), (g1, .inl (cyI, 12, .inl g_shelf)), (g2, .inl (cyI, 12, .inl g_stack)), (g3, .inl (cyI, 12, .inl g_level))] (fun u => some (.int (u.2.1 0))) (fun u => (0 ≤ (u.2.1 0).toInt ∧ (u.2.1 0).toInt ≤ 1) ∧ (0 ≤ (u.2.1 1).toInt ∧ (u.2.1 1).toInt ≤ 12) ∧ (Iv 12 (0) (11) (u.2.2.1 0))) (fun u => [(x0, .inr (10, [.ref r0, .ref a0, .ref n0, .ref k0, .ref x1, .ref q0, .ref o0, .ref h0, .ref s0, .ref d0])), (a0, .inr (9, [.int a_wares, .int a_shelves, .int a_nests, .ref a1, .ref a2, .ref a3, .ref a4, .ref a5, .ref a6, .int a_lids, .int a_tops, .ref a7, .ref a8, .ref a9, .ref a10])), (a1, .inl (cyI, 12, .inl a_wide)), (a2, .inl (cyI, 12, .inl a_deep)), (a3, .inl (cyI, 12, .inl a_weight)), (a4, .inl (cyI, 12, .inl a_bears)), (a7, .inl (cyI, 12, .inl a_mayOn)), (a8, .inl (cyI, 4, .inl a_height)), (a10, .inl (cyI, 4, .inl a_room)), (q0, .inr (4, [.ref q1, .int (u.2.1 1)])), (q1, .inl (cyI, 12, .inl (u.2.2.1 0))), (g0, .inr (7, [.ref g1, .ref g2, .ref g3, .ref g4, .int g_askings, .int g_cost, .int g_laid])), (g1, .inl (cyI, 12, .inl g_shelf)), (g2, .inl (cyI, 12, .inl g_stack)), (g3, .inl (cyI, 12, .inl g_level))]) := by
  refine KK.of (lv0 := [(0, .ref x0), (1, .ref g0), (2, .int p1)]) (by decide) rfl (Nat.le_of_ble_eq_true rfl) ?_
  intro p e s m args below meth c A C hr hk hin
  refine j_iconst (pc := 0) (v := 0) C dX10_hasPlace_0 (by decide) ?_
  refine j_istore_n (pc := 1) (lv' := [(3, .int 0), (0, .ref x0), (1, .ref g0), (2, .int p1)]) C dX10_hasPlace_1 rfl (by decide) rfl ?_
  have loop_1 : ∀ (k_1 : Nat) (x1_3 : Int32) (y1_q0_1 : Int32) (g1_q1 : Nat → Int32), (0 ≤ (x1_3).toInt ∧ (x1_3).toInt ≤ 4) → (0 ≤ (y1_q0_1).toInt ∧ (y1_q0_1).toInt ≤ 12) → (Iv 12 (0) (11) g1_q1) → (4 - x1_3.toInt).toNat < k_1 → J p l e ({ frames := 4, cells := 0, slots := 0, locals := 94 } : Room) s m args below meth c D A 6 0 0 (QX below D (TY cyC cyI cyJ cyZ cyO) A (fun u => some (.int (u.2.1 0))) (fun u => (0 ≤ (u.2.1 0).toInt ∧ (u.2.1 0).toInt ≤ 1) ∧ (0 ≤ (u.2.1 1).toInt ∧ (u.2.1 1).toInt ≤ 12) ∧ (Iv 12 (0) (11) (u.2.2.1 0))) (fun u => [(x0, .inr (10, [.ref r0, .ref a0, .ref n0, .ref k0, .ref x1, .ref q0, .ref o0, .ref h0, .ref s0, .ref d0])), (a0, .inr (9, [.int a_wares, .int a_shelves, .int a_nests, .ref a1, .ref a2, .ref a3, .ref a4, .ref a5, .ref a6, .int a_lids, .int a_tops, .ref a7, .ref a8, .ref a9, .ref a10])), (a1, .inl (cyI, 12, .inl a_wide)), (a2, .inl (cyI, 12, .inl a_deep)), (a3, .inl (cyI, 12, .inl a_weight)), (a4, .inl (cyI, 12, .inl a_bears)), (a7, .inl (cyI, 12, .inl a_mayOn)), (a8, .inl (cyI, 4, .inl a_height)), (a10, .inl (cyI, 4, .inl a_room)), (q0, .inr (4, [.ref q1, .int (u.2.1 1)])), (q1, .inl (cyI, 12, .inl (u.2.2.1 0))), (g0, .inr (7, [.ref g1, .ref g2, .ref g3, .ref g4, .int g_askings, .int g_cost, .int g_laid])), (g1, .inl (cyI, 12, .inl g_shelf)), (g2, .inl (cyI, 12, .inl g_stack)), (g3, .inl (cyI, 12, .inl g_level))]) args s 0 0) [(x0, .inr (10, [.ref r0, .ref a0, .ref n0, .ref k0, .ref x1, .ref q0, .ref o0, .ref h0, .ref s0, .ref d0])), (a0, .inr (9, [.int a_wares, .int a_shelves, .int a_nests, .ref a1, .ref a2, .ref a3, .ref a4, .ref a5, .ref a6, .int a_lids, .int a_tops, .ref a7, .ref a8, .ref a9, .ref a10])), (a1, .inl (cyI, 12, .inl a_wide)), (a2, .inl (cyI, 12, .inl a_deep)), (a3, .inl (cyI, 12, .inl a_weight)), (a4, .inl (cyI, 12, .inl a_bears)), (a7, .inl (cyI, 12, .inl a_mayOn)), (a8, .inl (cyI, 4, .inl a_height)), (a10, .inl (cyI, 4, .inl a_room)), (q0, .inr (4, [.ref q1, .int y1_q0_1])), (q1, .inl (cyI, 12, .inl g1_q1)), (g0, .inr (7, [.ref g1, .ref g2, .ref g3, .ref g4, .int g_askings, .int g_cost, .int g_laid])), (g1, .inl (cyI, 12, .inl g_shelf)), (g2, .inl (cyI, 12, .inl g_stack)), (g3, .inl (cyI, 12, .inl g_level))] 2 [(3, .int x1_3), (0, .ref x0), (1, .ref g0), (2, .int p1)] [] := by
    intro k_1
    induction k_1 with
    | zero =>
      intro x1_3 y1_q0_1 g1_q1 hi_1_0 hi_1_1 hi_1_2 hm_1
      exact absurd hm_1 (Nat.not_lt_zero _)
    | succ k_1 ih_1 =>
      intro x1_3 y1_q0_1 g1_q1 hi_1_0 hi_1_1 hi_1_2 hm_1
      refine j_iload_n (pc := 2) C dX10_hasPlace_2 rfl 0 rfl ?_
      refine j_aload_n (pc := 3) C dX10_hasPlace_3 rfl 1 rfl ?_
      refine j_get (pc := 4) (ci := 10) (v := .ref a0) C inw_10 0 rfl rfl 1 (by decide) wd_447 rfl rfl dX10_hasPlace_4 ?_
      refine j_get (pc := 7) (ci := 9) (v := .int a_shelves) C inw_9 1 rfl rfl 1 (by decide) wd_535 rfl rfl dX10_hasPlace_7 ?_
      refine j_icmp_ge (pc := 10) (tgt := 56) C dX10_hasPlace_10 (by decide) (fun c_2 => ?_) (fun c_2 => ?_)
      · skip
        rw [i_le] at c_2
        refine j_iconst (pc := 56) (v := 0) C dX10_hasPlace_56 (by decide) ?_
        have el_0 : (0 : Int32).toInt = 0 := rfl
        exact j_zret (pc := 57) C hr rfl hk (fun i => [].getD i 0, fun i => [0, y1_q0_1].getD i 0, fun i => [g1_q1].getD i (fun _ => 0), fun i => [].getD i (fun _ => 0)) rfl (show (0 ≤ ((0 : Int32)).toInt ∧ ((0 : Int32)).toInt ≤ 1) ∧ (0 ≤ (y1_q0_1).toInt ∧ (y1_q0_1).toInt ≤ 12) ∧ (Iv 12 (0) (11) g1_q1) from ⟨by omega, hi_1_1, hi_1_2⟩) [0, 1, 2, 3, 4, 5, 6, 7, 8, 9, 10, 11, 12, 13, 14] (by decide) rfl (by decide) (by decide) dX10_hasPlace_57
      · skip
        rw [i_le] at c_2
        refine j_aload_n (pc := 13) C dX10_hasPlace_13 rfl 2 rfl ?_
        refine j_iload_n (pc := 14) C dX10_hasPlace_14 rfl 0 rfl ?_
        refine j_callV (pc := 15) (As := [.int x1_3]) (rest := []) (wr := [(x0, .inr (10, [.ref r0, .ref a0, .ref n0, .ref k0, .ref x1, .ref q0, .ref o0, .ref h0, .ref s0, .ref d0])), (a0, .inr (9, [.int a_wares, .int a_shelves, .int a_nests, .ref a1, .ref a2, .ref a3, .ref a4, .ref a5, .ref a6, .int a_lids, .int a_tops, .ref a7, .ref a8, .ref a9, .ref a10])), (a1, .inl (cyI, 12, .inl a_wide)), (a2, .inl (cyI, 12, .inl a_deep)), (a3, .inl (cyI, 12, .inl a_weight)), (a4, .inl (cyI, 12, .inl a_bears)), (a7, .inl (cyI, 12, .inl a_mayOn)), (a8, .inl (cyI, 4, .inl a_height)), (a10, .inl (cyI, 4, .inl a_room)), (q0, .inr (4, [.ref q1, .int y1_q0_1])), (q1, .inl (cyI, 12, .inl g1_q1)), (g3, .inl (cyI, 12, .inl g_level))]) C (c_X7_stacks l D cyC cyI cyJ cyZ cyO g0 g1 g2 g3 g4 x1_3 g_askings g_cost g_laid g_shelf g_stack h_g_askings h_g_laid h_g_shelf h_g_stack) wd_66 wd_9 wd_437 wd_68 wd_69 ⟨by decide, by decide, rfl⟩ rfl ⟨rfl, rfl, by decide, by decide⟩ ⟨by decide, by decide⟩ [11, 12, 13] [0, 1, 2, 3, 4, 5, 6, 7, 8, 9, 10, 14] rfl rfl ⟨by decide, by decide, by decide⟩ 11 rfl rfl rfl (Nat.le_of_ble_eq_true rfl) dX10_hasPlace_15 (fun u_3 hw_4 => ?_)
        refine j_eq (ws2 := [(x0, .inr (10, [.ref r0, .ref a0, .ref n0, .ref k0, .ref x1, .ref q0, .ref o0, .ref h0, .ref s0, .ref d0])), (a0, .inr (9, [.int a_wares, .int a_shelves, .int a_nests, .ref a1, .ref a2, .ref a3, .ref a4, .ref a5, .ref a6, .int a_lids, .int a_tops, .ref a7, .ref a8, .ref a9, .ref a10])), (a1, .inl (cyI, 12, .inl a_wide)), (a2, .inl (cyI, 12, .inl a_deep)), (a3, .inl (cyI, 12, .inl a_weight)), (a4, .inl (cyI, 12, .inl a_bears)), (a7, .inl (cyI, 12, .inl a_mayOn)), (a8, .inl (cyI, 4, .inl a_height)), (a10, .inl (cyI, 4, .inl a_room)), (q0, .inr (4, [.ref q1, .int y1_q0_1])), (q1, .inl (cyI, 12, .inl g1_q1)), (g3, .inl (cyI, 12, .inl g_level)), (g0, .inr (7, [.ref g1, .ref g2, .ref g3, .ref g4, .int g_askings, .int g_cost, .int g_laid])), (g1, .inl (cyI, 12, .inl g_shelf)), (g2, .inl (cyI, 12, .inl g_stack))]) (pc2 := 18) (lv2 := [(3, .int x1_3), (0, .ref x0), (1, .ref g0), (2, .int p1)]) (st2 := [.int (u_3.2.1 0)]) rfl rfl rfl rfl ?_
        obtain ⟨hw_4_0, hw_4_1⟩ := hw_4
        refine j_istore (pc := 18) (lv' := [(4, .int (u_3.2.1 0)), (3, .int x1_3), (0, .ref x0), (1, .ref g0), (2, .int p1)]) C dX10_hasPlace_18 (by decide) rfl ?_
        refine j_iconst (pc := 20) (v := 0) C dX10_hasPlace_20 (by decide) ?_
        refine j_istore (pc := 21) (lv' := [(5, .int 0), (4, .int (u_3.2.1 0)), (3, .int x1_3), (0, .ref x0), (1, .ref g0), (2, .int p1)]) C dX10_hasPlace_21 (by decide) rfl ?_
        have loop_5 : ∀ (k_5 : Nat) (x5_5 : Int32) (y5_q0_1 : Int32) (g5_q1 : Nat → Int32), (0 ≤ (x5_5).toInt ∧ (x5_5).toInt ≤ 9) → (0 ≤ (y5_q0_1).toInt ∧ (y5_q0_1).toInt ≤ 12) → (Iv 12 (0) (11) g5_q1) → (9 - x5_5.toInt).toNat < k_5 → J p l e ({ frames := 4, cells := 0, slots := 0, locals := 94 } : Room) s m args below meth c D A 6 0 0 (QX below D (TY cyC cyI cyJ cyZ cyO) A (fun u => some (.int (u.2.1 0))) (fun u => (0 ≤ (u.2.1 0).toInt ∧ (u.2.1 0).toInt ≤ 1) ∧ (0 ≤ (u.2.1 1).toInt ∧ (u.2.1 1).toInt ≤ 12) ∧ (Iv 12 (0) (11) (u.2.2.1 0))) (fun u => [(x0, .inr (10, [.ref r0, .ref a0, .ref n0, .ref k0, .ref x1, .ref q0, .ref o0, .ref h0, .ref s0, .ref d0])), (a0, .inr (9, [.int a_wares, .int a_shelves, .int a_nests, .ref a1, .ref a2, .ref a3, .ref a4, .ref a5, .ref a6, .int a_lids, .int a_tops, .ref a7, .ref a8, .ref a9, .ref a10])), (a1, .inl (cyI, 12, .inl a_wide)), (a2, .inl (cyI, 12, .inl a_deep)), (a3, .inl (cyI, 12, .inl a_weight)), (a4, .inl (cyI, 12, .inl a_bears)), (a7, .inl (cyI, 12, .inl a_mayOn)), (a8, .inl (cyI, 4, .inl a_height)), (a10, .inl (cyI, 4, .inl a_room)), (q0, .inr (4, [.ref q1, .int (u.2.1 1)])), (q1, .inl (cyI, 12, .inl (u.2.2.1 0))), (g0, .inr (7, [.ref g1, .ref g2, .ref g3, .ref g4, .int g_askings, .int g_cost, .int g_laid])), (g1, .inl (cyI, 12, .inl g_shelf)), (g2, .inl (cyI, 12, .inl g_stack)), (g3, .inl (cyI, 12, .inl g_level))]) args s 0 0) [(x0, .inr (10, [.ref r0, .ref a0, .ref n0, .ref k0, .ref x1, .ref q0, .ref o0, .ref h0, .ref s0, .ref d0])), (a0, .inr (9, [.int a_wares, .int a_shelves, .int a_nests, .ref a1, .ref a2, .ref a3, .ref a4, .ref a5, .ref a6, .int a_lids, .int a_tops, .ref a7, .ref a8, .ref a9, .ref a10])), (a1, .inl (cyI, 12, .inl a_wide)), (a2, .inl (cyI, 12, .inl a_deep)), (a3, .inl (cyI, 12, .inl a_weight)), (a4, .inl (cyI, 12, .inl a_bears)), (a7, .inl (cyI, 12, .inl a_mayOn)), (a8, .inl (cyI, 4, .inl a_height)), (a10, .inl (cyI, 4, .inl a_room)), (q0, .inr (4, [.ref q1, .int y5_q0_1])), (q1, .inl (cyI, 12, .inl g5_q1)), (g3, .inl (cyI, 12, .inl g_level)), (g0, .inr (7, [.ref g1, .ref g2, .ref g3, .ref g4, .int g_askings, .int g_cost, .int g_laid])), (g1, .inl (cyI, 12, .inl g_shelf)), (g2, .inl (cyI, 12, .inl g_stack))] 23 [(5, .int x5_5), (4, .int (u_3.2.1 0)), (3, .int x1_3), (0, .ref x0), (1, .ref g0), (2, .int p1)] [] := by
          intro k_5
          induction k_5 with
          | zero =>
            intro x5_5 y5_q0_1 g5_q1 hi_5_0 hi_5_1 hi_5_2 hm_5
            exact absurd hm_5 (Nat.not_lt_zero _)
          | succ k_5 ih_5 =>
            intro x5_5 y5_q0_1 g5_q1 hi_5_0 hi_5_1 hi_5_2 hm_5
            refine j_iload (pc := 23) C dX10_hasPlace_23 0 rfl ?_
            refine j_iload (pc := 25) C dX10_hasPlace_25 1 rfl ?_
            refine j_icmp_gt (pc := 27) (tgt := 50) C dX10_hasPlace_27 (by decide) (fun c_6 => ?_) (fun c_6 => ?_)
            · skip
              rw [i_lt] at c_6
              obtain ⟨v_7, ev_7⟩ : ∃ z : Int32, x1_3 + 1 = z := ⟨_, rfl⟩
              have el_1 : (1 : Int32).toInt = 1 := rfl
              have hv_7 : v_7.toInt = x1_3.toInt + (1 : Int32).toInt := by rw [← ev_7]; exact fb_addI (by omega) (by omega)
              refine j_iinc (pc := 50) (v := v_7) (lv' := [(3, .int v_7), (5, .int x5_5), (4, .int (u_3.2.1 0)), (0, .ref x0), (1, .ref g0), (2, .int p1)]) C dX10_hasPlace_50 2 rfl ev_7 (by decide) rfl ?_
              refine j_goto (pc := 53) (tgt := 2) C dX10_hasPlace_53 (by decide) ?_
              refine j_subG (ws' := [(x0, .inr (10, [.ref r0, .ref a0, .ref n0, .ref k0, .ref x1, .ref q0, .ref o0, .ref h0, .ref s0, .ref d0])), (a0, .inr (9, [.int a_wares, .int a_shelves, .int a_nests, .ref a1, .ref a2, .ref a3, .ref a4, .ref a5, .ref a6, .int a_lids, .int a_tops, .ref a7, .ref a8, .ref a9, .ref a10])), (a1, .inl (cyI, 12, .inl a_wide)), (a2, .inl (cyI, 12, .inl a_deep)), (a3, .inl (cyI, 12, .inl a_weight)), (a4, .inl (cyI, 12, .inl a_bears)), (a7, .inl (cyI, 12, .inl a_mayOn)), (a8, .inl (cyI, 4, .inl a_height)), (a10, .inl (cyI, 4, .inl a_room)), (q0, .inr (4, [.ref q1, .int y5_q0_1])), (q1, .inl (cyI, 12, .inl g5_q1)), (g0, .inr (7, [.ref g1, .ref g2, .ref g3, .ref g4, .int g_askings, .int g_cost, .int g_laid])), (g1, .inl (cyI, 12, .inl g_shelf)), (g2, .inl (cyI, 12, .inl g_stack)), (g3, .inl (cyI, 12, .inl g_level))]) [0, 1, 2, 3, 4, 5, 6, 7, 8, 9, 10, 12, 13, 14, 11] (by decide) rfl ?_
              exact j_lv [0, 3, 4, 5] rfl (ih_1 v_7 y5_q0_1 g5_q1 (by omega) hi_5_1 hi_5_2 (by omega))
            · skip
              rw [i_lt] at c_6
              refine j_aload_n (pc := 30) C dX10_hasPlace_30 rfl 3 rfl ?_
              refine j_aload_n (pc := 31) C dX10_hasPlace_31 rfl 4 rfl ?_
              refine j_iload_n (pc := 32) C dX10_hasPlace_32 rfl 5 rfl ?_
              refine j_iload_n (pc := 33) C dX10_hasPlace_33 rfl 2 rfl ?_
              refine j_iload (pc := 34) C dX10_hasPlace_34 0 rfl ?_
              refine j_callV (pc := 36) (As := [.ref g0, .int p1, .int x1_3, .int x5_5]) (rest := []) (wr := []) C (c_X10_refusal l D cyC cyI cyJ cyZ cyO x0 a0 a1 a2 a3 a4 a7 a8 a10 q0 q1 g0 g1 g2 g3 r0 n0 k0 x1 o0 h0 s0 d0 a5 a6 a9 g4 p1 x1_3 x5_5 a_wares a_shelves a_nests a_lids a_tops y5_q0_1 g_askings g_cost g_laid a_wide a_deep a_weight a_bears a_mayOn a_height a_room g5_q1 g_shelf g_stack g_level h_a_wares h_a_shelves h_a_nests hi_5_1 h_g_askings h_g_laid h_p1 (by omega) (by omega) h_a_room hi_5_2 h_g_shelf h_g_stack h_g_level (by have h9 := congrArg Int32.toInt hw_4_1; omega)) wd_481 wd_482 wd_483 wd_484 wd_485 ⟨by decide, by decide, rfl⟩ rfl ⟨rfl, rfl, by decide, by decide⟩ ⟨by decide, by decide⟩ [0, 1, 2, 3, 4, 5, 6, 7, 8, 9, 10, 12, 13, 14, 11] [] rfl rfl ⟨by decide, by decide, by decide⟩ 0 rfl rfl rfl (Nat.le_of_ble_eq_true rfl) dX10_hasPlace_36 (fun u_8 hw_9 => ?_)
              refine j_eq (ws2 := [(x0, .inr (10, [.ref r0, .ref a0, .ref n0, .ref k0, .ref x1, .ref q0, .ref o0, .ref h0, .ref s0, .ref d0])), (a0, .inr (9, [.int a_wares, .int a_shelves, .int a_nests, .ref a1, .ref a2, .ref a3, .ref a4, .ref a5, .ref a6, .int a_lids, .int a_tops, .ref a7, .ref a8, .ref a9, .ref a10])), (a1, .inl (cyI, 12, .inl a_wide)), (a2, .inl (cyI, 12, .inl a_deep)), (a3, .inl (cyI, 12, .inl a_weight)), (a4, .inl (cyI, 12, .inl a_bears)), (a7, .inl (cyI, 12, .inl a_mayOn)), (a8, .inl (cyI, 4, .inl a_height)), (a10, .inl (cyI, 4, .inl a_room)), (q0, .inr (4, [.ref q1, .int (u_8.2.1 1)])), (q1, .inl (cyI, 12, .inl (u_8.2.2.1 0))), (g0, .inr (7, [.ref g1, .ref g2, .ref g3, .ref g4, .int g_askings, .int g_cost, .int g_laid])), (g1, .inl (cyI, 12, .inl g_shelf)), (g2, .inl (cyI, 12, .inl g_stack)), (g3, .inl (cyI, 12, .inl g_level))]) (pc2 := 39) (lv2 := [(5, .int x5_5), (4, .int (u_3.2.1 0)), (3, .int x1_3), (0, .ref x0), (1, .ref g0), (2, .int p1)]) (st2 := [.int (u_8.2.1 0)]) rfl rfl rfl rfl ?_
              obtain ⟨hw_9_0, hw_9_1, hw_9_2, hw_9_3, hw_9_4⟩ := hw_9
              refine j_if_ne (pc := 39) (tgt := 44) C dX10_hasPlace_39 (by decide) (fun c_10 => ?_) (fun c_10 => ?_)
              · skip
                have el_0 : (0 : Int32).toInt = 0 := rfl
                rw [i_eq] at c_10
                obtain ⟨v_11, ev_11⟩ : ∃ z : Int32, x5_5 + 1 = z := ⟨_, rfl⟩
                have el_1 : (1 : Int32).toInt = 1 := rfl
                have hv_11 : v_11.toInt = x5_5.toInt + (1 : Int32).toInt := by rw [← ev_11]; exact fb_addI (by omega) (by omega)
                refine j_iinc (pc := 44) (v := v_11) (lv' := [(5, .int v_11), (4, .int (u_3.2.1 0)), (3, .int x1_3), (0, .ref x0), (1, .ref g0), (2, .int p1)]) C dX10_hasPlace_44 0 rfl ev_11 (by decide) rfl ?_
                refine j_goto (pc := 47) (tgt := 23) C dX10_hasPlace_47 (by decide) ?_
                refine j_subG (ws' := [(x0, .inr (10, [.ref r0, .ref a0, .ref n0, .ref k0, .ref x1, .ref q0, .ref o0, .ref h0, .ref s0, .ref d0])), (a0, .inr (9, [.int a_wares, .int a_shelves, .int a_nests, .ref a1, .ref a2, .ref a3, .ref a4, .ref a5, .ref a6, .int a_lids, .int a_tops, .ref a7, .ref a8, .ref a9, .ref a10])), (a1, .inl (cyI, 12, .inl a_wide)), (a2, .inl (cyI, 12, .inl a_deep)), (a3, .inl (cyI, 12, .inl a_weight)), (a4, .inl (cyI, 12, .inl a_bears)), (a7, .inl (cyI, 12, .inl a_mayOn)), (a8, .inl (cyI, 4, .inl a_height)), (a10, .inl (cyI, 4, .inl a_room)), (q0, .inr (4, [.ref q1, .int (u_8.2.1 1)])), (q1, .inl (cyI, 12, .inl (u_8.2.2.1 0))), (g3, .inl (cyI, 12, .inl g_level)), (g0, .inr (7, [.ref g1, .ref g2, .ref g3, .ref g4, .int g_askings, .int g_cost, .int g_laid])), (g1, .inl (cyI, 12, .inl g_shelf)), (g2, .inl (cyI, 12, .inl g_stack))]) [0, 1, 2, 3, 4, 5, 6, 7, 8, 9, 10, 14, 11, 12, 13] (by decide) rfl ?_
                exact j_lv [0, 1, 2, 3, 4, 5] rfl (ih_5 v_11 (u_8.2.1 1) (u_8.2.2.1 0) (by omega) hw_9_1 hw_9_2 (by omega))
              · skip
                have el_0 : (0 : Int32).toInt = 0 := rfl
                rw [i_eq] at c_10
                refine j_iconst (pc := 42) (v := 1) C dX10_hasPlace_42 (by decide) ?_
                have el_1 : (1 : Int32).toInt = 1 := rfl
                exact j_zret (pc := 43) C hr rfl hk (fun i => [].getD i 0, fun i => [1, (u_8.2.1 1)].getD i 0, fun i => [(u_8.2.2.1 0)].getD i (fun _ => 0), fun i => [].getD i (fun _ => 0)) rfl (show (0 ≤ ((1 : Int32)).toInt ∧ ((1 : Int32)).toInt ≤ 1) ∧ (0 ≤ ((u_8.2.1 1)).toInt ∧ ((u_8.2.1 1)).toInt ≤ 12) ∧ (Iv 12 (0) (11) (u_8.2.2.1 0)) from ⟨by omega, hw_9_1, hw_9_2⟩) [0, 1, 2, 3, 4, 5, 6, 7, 8, 9, 10, 11, 12, 13, 14] (by decide) rfl (by decide) (by decide) dX10_hasPlace_43
        have el_0 : (0 : Int32).toInt = 0 := rfl
        exact j_lv [0, 1, 2, 3, 4, 5] rfl (loop_5 4096 0 y1_q0_1 g1_q1 (by decide) hi_1_1 hi_1_2 (by omega))
  have el_0 : (0 : Int32).toInt = 0 := rfl
  exact j_lv [0, 1, 2, 3] rfl (loop_1 4096 0 q_size q_ware (by decide) h_q_size h_q_ware (by omega))
set_option maxHeartbeats 4000000 in
set_option maxRecDepth 100000 in
theorem c_X10_stranded (l : Launch) (D : DG) (cyC cyI cyJ cyZ cyO : ClassId) (x0 : Nat) (a0 : Nat) (a1 : Nat) (a2 : Nat) (a3 : Nat) (a4 : Nat) (a7 : Nat) (a8 : Nat) (a10 : Nat) (q0 : Nat) (q1 : Nat) (g0 : Nat) (g1 : Nat) (g2 : Nat) (g3 : Nat) (r0 : Nat) (n0 : Nat) (k0 : Nat) (x1 : Nat) (o0 : Nat) (h0 : Nat) (s0 : Nat) (d0 : Nat) (a5 : Nat) (a6 : Nat) (a9 : Nat) (g4 : Nat) (a_wares : Int32) (a_shelves : Int32) (a_nests : Int32) (a_lids : Int32) (a_tops : Int32) (q_size : Int32) (g_askings : Int32) (g_cost : Int32) (g_laid : Int32) (a_wide : Nat → Int32) (a_deep : Nat → Int32) (a_weight : Nat → Int32) (a_bears : Nat → Int32) (a_mayOn : Nat → Int32) (a_height : Nat → Int32) (a_room : Nat → Int32) (q_ware : Nat → Int32) (g_shelf : Nat → Int32) (g_stack : Nat → Int32) (g_level : Nat → Int32) (h_a_wares : 0 ≤ (a_wares).toInt ∧ (a_wares).toInt ≤ 12) (h_a_shelves : 0 ≤ (a_shelves).toInt ∧ (a_shelves).toInt ≤ 4) (h_a_nests : 0 ≤ (a_nests).toInt ∧ (a_nests).toInt ≤ 4) (h_q_size : 0 ≤ (q_size).toInt ∧ (q_size).toInt ≤ 12) (h_g_askings : 0 ≤ (g_askings).toInt ∧ (g_askings).toInt ≤ 30) (h_g_laid : 0 ≤ (g_laid).toInt ∧ (g_laid).toInt ≤ 1) (h_a_room : Iv 4 (0) (8) a_room) (h_q_ware : Iv 12 (0) (11) q_ware) (h_g_shelf : Iv 12 (-1) (3) g_shelf) (h_g_stack : Iv 12 (0) (7) g_stack) (h_g_level : Iv 12 (0) (11) g_level) : KK l D (TY cyC cyI cyJ cyZ cyO) yX10_stranded cX10_stranded 4 (some .int) ({ frames := 5, cells := 0, slots := 0, locals := 119 } : Room) 0 0 [.ref x0, .ref g0] [(x0, .inr (10, [.ref r0, .ref a0, .ref n0, .ref k0, .ref x1, .ref q0, .ref o0, .ref h0, .ref s0, .ref d0])), (a0, .inr (9, [.int a_wares, .int a_shelves, .int a_nests, .ref a1, .ref a2, .ref a3, .ref a4, .ref a5, .ref a6, .int a_lids, .int a_tops, .ref a7, .ref a8, .ref a9, .ref a10])), (a1, .inl (cyI, 12, .inl a_wide)), (a2, .inl (cyI, 12, .inl a_deep)), (a3, .inl (cyI, 12, .inl a_weight)), (a4, .inl (cyI, 12, .inl a_bears)), (a7, .inl (cyI, 12, .inl a_mayOn)), (a8, .inl (cyI, 4, .inl a_height)), (a10, .inl (cyI, 4, .inl a_room)), (q0, .inr (4, [.ref q1, .int q_size])), (q1, .inl (cyI, 12, .inl q_ware)), (g0, .inr (7, [.ref g1, .ref g2, .ref g3, .ref g4, .int g_askings, .int g_cost, .int g_laid])), (g1, .inl (cyI, 12, .inl g_shelf)), (g2, .inl (cyI, 12, .inl g_stack)), (g3, .inl (cyI, 12, .inl g_level))] (fun u => some (.int (u.2.1 0))) (fun u => (0 ≤ (u.2.1 1).toInt ∧ (u.2.1 1).toInt ≤ 12) ∧ (Iv 12 (0) (11) (u.2.2.1 0))) (fun u => [(x0, .inr (10, [.ref r0, .ref a0, .ref n0, .ref k0, .ref x1, .ref q0, .ref o0, .ref h0, .ref s0, .ref d0])), (a0, .inr (9, [.int a_wares, .int a_shelves, .int a_nests, .ref a1, .ref a2, .ref a3, .ref a4, .ref a5, .ref a6, .int a_lids, .int a_tops, .ref a7, .ref a8, .ref a9, .ref a10])), (a1, .inl (cyI, 12, .inl a_wide)), (a2, .inl (cyI, 12, .inl a_deep)), (a3, .inl (cyI, 12, .inl a_weight)), (a4, .inl (cyI, 12, .inl a_bears)), (a7, .inl (cyI, 12, .inl a_mayOn)), (a8, .inl (cyI, 4, .inl a_height)), (a10, .inl (cyI, 4, .inl a_room)), (q0, .inr (4, [.ref q1, .int (u.2.1 1)])), (q1, .inl (cyI, 12, .inl (u.2.2.1 0))), (g0, .inr (7, [.ref g1, .ref g2, .ref g3, .ref g4, .int g_askings, .int g_cost, .int g_laid])), (g1, .inl (cyI, 12, .inl g_shelf)), (g2, .inl (cyI, 12, .inl g_stack)), (g3, .inl (cyI, 12, .inl g_level))]) := by
  refine KK.of (lv0 := [(0, .ref x0), (1, .ref g0)]) (by decide) rfl (Nat.le_of_ble_eq_true rfl) ?_
  intro p e s m args below meth c A C hr hk hin
  refine j_iconst (pc := 0) (v := 0) C dX10_stranded_0 (by decide) ?_
  refine j_istore_n (pc := 1) (lv' := [(2, .int 0), (0, .ref x0), (1, .ref g0)]) C dX10_stranded_1 rfl (by decide) rfl ?_
  refine j_iconst (pc := 2) (v := 0) C dX10_stranded_2 (by decide) ?_
  refine j_istore_n (pc := 3) (lv' := [(3, .int 0), (2, .int 0), (0, .ref x0), (1, .ref g0)]) C dX10_stranded_3 rfl (by decide) rfl ?_
  have loop_1 : ∀ (k_1 : Nat) (x1_3 : Int32) (x1_2 : Int32) (y1_q0_1 : Int32) (g1_q1 : Nat → Int32), (0 ≤ (x1_3).toInt ∧ (x1_3).toInt ≤ 12) → (0 ≤ (y1_q0_1).toInt ∧ (y1_q0_1).toInt ≤ 12) → (Iv 12 (0) (11) g1_q1) → (12 - x1_3.toInt).toNat < k_1 → J p l e ({ frames := 5, cells := 0, slots := 0, locals := 119 } : Room) s m args below meth c D A 4 0 0 (QX below D (TY cyC cyI cyJ cyZ cyO) A (fun u => some (.int (u.2.1 0))) (fun u => (0 ≤ (u.2.1 1).toInt ∧ (u.2.1 1).toInt ≤ 12) ∧ (Iv 12 (0) (11) (u.2.2.1 0))) (fun u => [(x0, .inr (10, [.ref r0, .ref a0, .ref n0, .ref k0, .ref x1, .ref q0, .ref o0, .ref h0, .ref s0, .ref d0])), (a0, .inr (9, [.int a_wares, .int a_shelves, .int a_nests, .ref a1, .ref a2, .ref a3, .ref a4, .ref a5, .ref a6, .int a_lids, .int a_tops, .ref a7, .ref a8, .ref a9, .ref a10])), (a1, .inl (cyI, 12, .inl a_wide)), (a2, .inl (cyI, 12, .inl a_deep)), (a3, .inl (cyI, 12, .inl a_weight)), (a4, .inl (cyI, 12, .inl a_bears)), (a7, .inl (cyI, 12, .inl a_mayOn)), (a8, .inl (cyI, 4, .inl a_height)), (a10, .inl (cyI, 4, .inl a_room)), (q0, .inr (4, [.ref q1, .int (u.2.1 1)])), (q1, .inl (cyI, 12, .inl (u.2.2.1 0))), (g0, .inr (7, [.ref g1, .ref g2, .ref g3, .ref g4, .int g_askings, .int g_cost, .int g_laid])), (g1, .inl (cyI, 12, .inl g_shelf)), (g2, .inl (cyI, 12, .inl g_stack)), (g3, .inl (cyI, 12, .inl g_level))]) args s 0 0) [(x0, .inr (10, [.ref r0, .ref a0, .ref n0, .ref k0, .ref x1, .ref q0, .ref o0, .ref h0, .ref s0, .ref d0])), (a0, .inr (9, [.int a_wares, .int a_shelves, .int a_nests, .ref a1, .ref a2, .ref a3, .ref a4, .ref a5, .ref a6, .int a_lids, .int a_tops, .ref a7, .ref a8, .ref a9, .ref a10])), (a1, .inl (cyI, 12, .inl a_wide)), (a2, .inl (cyI, 12, .inl a_deep)), (a3, .inl (cyI, 12, .inl a_weight)), (a4, .inl (cyI, 12, .inl a_bears)), (a7, .inl (cyI, 12, .inl a_mayOn)), (a8, .inl (cyI, 4, .inl a_height)), (a10, .inl (cyI, 4, .inl a_room)), (q0, .inr (4, [.ref q1, .int y1_q0_1])), (q1, .inl (cyI, 12, .inl g1_q1)), (g0, .inr (7, [.ref g1, .ref g2, .ref g3, .ref g4, .int g_askings, .int g_cost, .int g_laid])), (g1, .inl (cyI, 12, .inl g_shelf)), (g2, .inl (cyI, 12, .inl g_stack)), (g3, .inl (cyI, 12, .inl g_level))] 4 [(3, .int x1_3), (2, .int x1_2), (0, .ref x0), (1, .ref g0)] [] := by
    intro k_1
    induction k_1 with
    | zero =>
      intro x1_3 x1_2 y1_q0_1 g1_q1 hi_1_0 hi_1_2 hi_1_3 hm_1
      exact absurd hm_1 (Nat.not_lt_zero _)
    | succ k_1 ih_1 =>
      intro x1_3 x1_2 y1_q0_1 g1_q1 hi_1_0 hi_1_2 hi_1_3 hm_1
      refine j_iload_n (pc := 4) C dX10_stranded_4 rfl 0 rfl ?_
      refine j_aload_n (pc := 5) C dX10_stranded_5 rfl 2 rfl ?_
      refine j_get (pc := 6) (ci := 10) (v := .ref a0) C inw_10 0 rfl rfl 1 (by decide) wd_447 rfl rfl dX10_stranded_6 ?_
      refine j_get (pc := 9) (ci := 9) (v := .int a_wares) C inw_9 1 rfl rfl 0 (by decide) wd_534 rfl rfl dX10_stranded_9 ?_
      refine j_icmp_ge (pc := 12) (tgt := 41) C dX10_stranded_12 (by decide) (fun c_2 => ?_) (fun c_2 => ?_)
      · skip
        rw [i_le] at c_2
        refine j_iload_n (pc := 41) C dX10_stranded_41 rfl 1 rfl ?_
        exact j_iret (pc := 42) C hr hk (fun i => [].getD i 0, fun i => [x1_2, y1_q0_1].getD i 0, fun i => [g1_q1].getD i (fun _ => 0), fun i => [].getD i (fun _ => 0)) rfl (show (0 ≤ (y1_q0_1).toInt ∧ (y1_q0_1).toInt ≤ 12) ∧ (Iv 12 (0) (11) g1_q1) from ⟨hi_1_2, hi_1_3⟩) [0, 1, 2, 3, 4, 5, 6, 7, 8, 9, 10, 11, 12, 13, 14] (by decide) rfl (by decide) (by decide) dX10_stranded_42
      · skip
        rw [i_le] at c_2
        refine j_aload_n (pc := 15) C dX10_stranded_15 rfl 3 rfl ?_
        refine j_iload_n (pc := 16) C dX10_stranded_16 rfl 0 rfl ?_
        refine j_callV (pc := 17) (As := [.int x1_3]) (rest := []) (wr := [(x0, .inr (10, [.ref r0, .ref a0, .ref n0, .ref k0, .ref x1, .ref q0, .ref o0, .ref h0, .ref s0, .ref d0])), (a0, .inr (9, [.int a_wares, .int a_shelves, .int a_nests, .ref a1, .ref a2, .ref a3, .ref a4, .ref a5, .ref a6, .int a_lids, .int a_tops, .ref a7, .ref a8, .ref a9, .ref a10])), (a1, .inl (cyI, 12, .inl a_wide)), (a2, .inl (cyI, 12, .inl a_deep)), (a3, .inl (cyI, 12, .inl a_weight)), (a4, .inl (cyI, 12, .inl a_bears)), (a7, .inl (cyI, 12, .inl a_mayOn)), (a8, .inl (cyI, 4, .inl a_height)), (a10, .inl (cyI, 4, .inl a_room)), (q0, .inr (4, [.ref q1, .int y1_q0_1])), (q1, .inl (cyI, 12, .inl g1_q1)), (g2, .inl (cyI, 12, .inl g_stack)), (g3, .inl (cyI, 12, .inl g_level))]) C (c_X7_isOut l D cyC cyI cyJ cyZ cyO g0 g1 g2 g3 g4 x1_3 g_askings g_cost g_laid g_shelf h_g_askings h_g_laid (by omega) h_g_shelf) wd_13 wd_9 wd_480 wd_15 wd_16 ⟨by decide, by decide, rfl⟩ rfl ⟨rfl, rfl, by decide, by decide⟩ ⟨by decide, by decide⟩ [11, 12] [0, 1, 2, 3, 4, 5, 6, 7, 8, 9, 10, 13, 14] rfl rfl ⟨by decide, by decide, by decide⟩ 11 rfl rfl rfl (Nat.le_of_ble_eq_true rfl) dX10_stranded_17 (fun u_3 hw_4 => ?_)
        refine j_eq (ws2 := [(x0, .inr (10, [.ref r0, .ref a0, .ref n0, .ref k0, .ref x1, .ref q0, .ref o0, .ref h0, .ref s0, .ref d0])), (a0, .inr (9, [.int a_wares, .int a_shelves, .int a_nests, .ref a1, .ref a2, .ref a3, .ref a4, .ref a5, .ref a6, .int a_lids, .int a_tops, .ref a7, .ref a8, .ref a9, .ref a10])), (a1, .inl (cyI, 12, .inl a_wide)), (a2, .inl (cyI, 12, .inl a_deep)), (a3, .inl (cyI, 12, .inl a_weight)), (a4, .inl (cyI, 12, .inl a_bears)), (a7, .inl (cyI, 12, .inl a_mayOn)), (a8, .inl (cyI, 4, .inl a_height)), (a10, .inl (cyI, 4, .inl a_room)), (q0, .inr (4, [.ref q1, .int y1_q0_1])), (q1, .inl (cyI, 12, .inl g1_q1)), (g2, .inl (cyI, 12, .inl g_stack)), (g3, .inl (cyI, 12, .inl g_level)), (g0, .inr (7, [.ref g1, .ref g2, .ref g3, .ref g4, .int g_askings, .int g_cost, .int g_laid])), (g1, .inl (cyI, 12, .inl g_shelf))]) (pc2 := 20) (lv2 := [(3, .int x1_3), (2, .int x1_2), (0, .ref x0), (1, .ref g0)]) (st2 := [.int (u_3.2.1 0)]) rfl rfl rfl rfl ?_
        obtain ⟨hw_4_0, hw_4_1, hw_4_2⟩ := hw_4
        refine j_if_eq (pc := 20) (tgt := 35) C dX10_stranded_20 (by decide) (fun c_5 => ?_) (fun c_5 => ?_)
        · skip
          have el_0 : (0 : Int32).toInt = 0 := rfl
          rw [i_eq] at c_5
          obtain ⟨v_6, ev_6⟩ : ∃ z : Int32, x1_3 + 1 = z := ⟨_, rfl⟩
          have el_1 : (1 : Int32).toInt = 1 := rfl
          have hv_6 : v_6.toInt = x1_3.toInt + (1 : Int32).toInt := by rw [← ev_6]; exact fb_addI (by omega) (by omega)
          refine j_iinc (pc := 35) (v := v_6) (lv' := [(3, .int v_6), (2, .int x1_2), (0, .ref x0), (1, .ref g0)]) C dX10_stranded_35 0 rfl ev_6 (by decide) rfl ?_
          refine j_goto (pc := 38) (tgt := 4) C dX10_stranded_38 (by decide) ?_
          refine j_subG (ws' := [(x0, .inr (10, [.ref r0, .ref a0, .ref n0, .ref k0, .ref x1, .ref q0, .ref o0, .ref h0, .ref s0, .ref d0])), (a0, .inr (9, [.int a_wares, .int a_shelves, .int a_nests, .ref a1, .ref a2, .ref a3, .ref a4, .ref a5, .ref a6, .int a_lids, .int a_tops, .ref a7, .ref a8, .ref a9, .ref a10])), (a1, .inl (cyI, 12, .inl a_wide)), (a2, .inl (cyI, 12, .inl a_deep)), (a3, .inl (cyI, 12, .inl a_weight)), (a4, .inl (cyI, 12, .inl a_bears)), (a7, .inl (cyI, 12, .inl a_mayOn)), (a8, .inl (cyI, 4, .inl a_height)), (a10, .inl (cyI, 4, .inl a_room)), (q0, .inr (4, [.ref q1, .int y1_q0_1])), (q1, .inl (cyI, 12, .inl g1_q1)), (g0, .inr (7, [.ref g1, .ref g2, .ref g3, .ref g4, .int g_askings, .int g_cost, .int g_laid])), (g1, .inl (cyI, 12, .inl g_shelf)), (g2, .inl (cyI, 12, .inl g_stack)), (g3, .inl (cyI, 12, .inl g_level))]) [0, 1, 2, 3, 4, 5, 6, 7, 8, 9, 10, 13, 14, 11, 12] (by decide) rfl ?_
          exact j_lv [0, 1, 2, 3] rfl (ih_1 v_6 x1_2 y1_q0_1 g1_q1 (by omega) hi_1_2 hi_1_3 (by omega))
        · skip
          have el_0 : (0 : Int32).toInt = 0 := rfl
          rw [i_eq] at c_5
          have k0c_5 : ((u_3.2.1 0)).toInt = 1 := by omega
          refine j_aload_n (pc := 23) C dX10_stranded_23 rfl 2 rfl ?_
          refine j_aload_n (pc := 24) C dX10_stranded_24 rfl 3 rfl ?_
          refine j_iload_n (pc := 25) C dX10_stranded_25 rfl 0 rfl ?_
          refine j_callV (pc := 26) (As := [.ref g0, .int x1_3]) (rest := []) (wr := []) C (c_X10_hasPlace l D cyC cyI cyJ cyZ cyO x0 a0 a1 a2 a3 a4 a7 a8 a10 q0 q1 g0 g1 g2 g3 r0 n0 k0 x1 o0 h0 s0 d0 a5 a6 a9 g4 x1_3 a_wares a_shelves a_nests a_lids a_tops y1_q0_1 g_askings g_cost g_laid a_wide a_deep a_weight a_bears a_mayOn a_height a_room g1_q1 g_shelf g_stack g_level h_a_wares h_a_shelves h_a_nests hi_1_2 h_g_askings h_g_laid (by omega) h_a_room hi_1_3 h_g_shelf h_g_stack h_g_level) wd_567 wd_482 wd_568 wd_569 wd_570 ⟨by decide, by decide, rfl⟩ rfl ⟨rfl, rfl, by decide, by decide⟩ ⟨by decide, by decide⟩ [0, 1, 2, 3, 4, 5, 6, 7, 8, 9, 10, 13, 14, 11, 12] [] rfl rfl ⟨by decide, by decide, by decide⟩ 0 rfl rfl rfl (Nat.le_of_ble_eq_true rfl) dX10_stranded_26 (fun u_7 hw_8 => ?_)
          refine j_eq (ws2 := [(x0, .inr (10, [.ref r0, .ref a0, .ref n0, .ref k0, .ref x1, .ref q0, .ref o0, .ref h0, .ref s0, .ref d0])), (a0, .inr (9, [.int a_wares, .int a_shelves, .int a_nests, .ref a1, .ref a2, .ref a3, .ref a4, .ref a5, .ref a6, .int a_lids, .int a_tops, .ref a7, .ref a8, .ref a9, .ref a10])), (a1, .inl (cyI, 12, .inl a_wide)), (a2, .inl (cyI, 12, .inl a_deep)), (a3, .inl (cyI, 12, .inl a_weight)), (a4, .inl (cyI, 12, .inl a_bears)), (a7, .inl (cyI, 12, .inl a_mayOn)), (a8, .inl (cyI, 4, .inl a_height)), (a10, .inl (cyI, 4, .inl a_room)), (q0, .inr (4, [.ref q1, .int (u_7.2.1 1)])), (q1, .inl (cyI, 12, .inl (u_7.2.2.1 0))), (g0, .inr (7, [.ref g1, .ref g2, .ref g3, .ref g4, .int g_askings, .int g_cost, .int g_laid])), (g1, .inl (cyI, 12, .inl g_shelf)), (g2, .inl (cyI, 12, .inl g_stack)), (g3, .inl (cyI, 12, .inl g_level))]) (pc2 := 29) (lv2 := [(3, .int x1_3), (2, .int x1_2), (0, .ref x0), (1, .ref g0)]) (st2 := [.int (u_7.2.1 0)]) rfl rfl rfl rfl ?_
          obtain ⟨hw_8_0, hw_8_1, hw_8_2⟩ := hw_8
          refine j_if_ne (pc := 29) (tgt := 35) C dX10_stranded_29 (by decide) (fun c_9 => ?_) (fun c_9 => ?_)
          · skip
            have el_0 : (0 : Int32).toInt = 0 := rfl
            rw [i_eq] at c_9
            have k0c_9 : ((u_7.2.1 0)).toInt = 1 := by omega
            obtain ⟨v_10, ev_10⟩ : ∃ z : Int32, x1_3 + 1 = z := ⟨_, rfl⟩
            have el_1 : (1 : Int32).toInt = 1 := rfl
            have hv_10 : v_10.toInt = x1_3.toInt + (1 : Int32).toInt := by rw [← ev_10]; exact fb_addI (by omega) (by omega)
            refine j_iinc (pc := 35) (v := v_10) (lv' := [(3, .int v_10), (2, .int x1_2), (0, .ref x0), (1, .ref g0)]) C dX10_stranded_35 0 rfl ev_10 (by decide) rfl ?_
            refine j_goto (pc := 38) (tgt := 4) C dX10_stranded_38 (by decide) ?_
            exact j_lv [0, 1, 2, 3] rfl (ih_1 v_10 x1_2 (u_7.2.1 1) (u_7.2.2.1 0) (by omega) hw_8_1 hw_8_2 (by omega))
          · skip
            have el_0 : (0 : Int32).toInt = 0 := rfl
            rw [i_eq] at c_9
            obtain ⟨v_11, ev_11⟩ : ∃ z : Int32, x1_2 + 1 = z := ⟨_, rfl⟩
            have el_1 : (1 : Int32).toInt = 1 := rfl
            refine j_iinc (pc := 32) (v := v_11) (lv' := [(2, .int v_11), (3, .int x1_3), (0, .ref x0), (1, .ref g0)]) C dX10_stranded_32 1 rfl ev_11 (by decide) rfl ?_
            obtain ⟨v_12, ev_12⟩ : ∃ z : Int32, x1_3 + 1 = z := ⟨_, rfl⟩
            have el_1 : (1 : Int32).toInt = 1 := rfl
            have hv_12 : v_12.toInt = x1_3.toInt + (1 : Int32).toInt := by rw [← ev_12]; exact fb_addI (by omega) (by omega)
            refine j_iinc (pc := 35) (v := v_12) (lv' := [(3, .int v_12), (2, .int v_11), (0, .ref x0), (1, .ref g0)]) C dX10_stranded_35 1 rfl ev_12 (by decide) rfl ?_
            refine j_goto (pc := 38) (tgt := 4) C dX10_stranded_38 (by decide) ?_
            exact j_lv [0, 1, 2, 3] rfl (ih_1 v_12 v_11 (u_7.2.1 1) (u_7.2.2.1 0) (by omega) hw_8_1 hw_8_2 (by omega))
  have el_0 : (0 : Int32).toInt = 0 := rfl
  have el_0 : (0 : Int32).toInt = 0 := rfl
  exact j_lv [0, 1, 2, 3] rfl (loop_1 4096 0 0 q_size q_ware (by decide) h_q_size h_q_ware (by omega))
set_option maxHeartbeats 4000000 in
set_option maxRecDepth 100000 in
theorem c_X10_bestPlace (l : Launch) (D : DG) (cyC cyI cyJ cyZ cyO : ClassId) (x0 : Nat) (a0 : Nat) (a1 : Nat) (a2 : Nat) (a3 : Nat) (a4 : Nat) (a7 : Nat) (a8 : Nat) (a9 : Nat) (a10 : Nat) (n0 : Nat) (n1 : Nat) (n2 : Nat) (n3 : Nat) (n4 : Nat) (k0 : Nat) (k1 : Nat) (k2 : Nat) (k3 : Nat) (k4 : Nat) (q0 : Nat) (q1 : Nat) (r0 : Nat) (x1 : Nat) (o0 : Nat) (h0 : Nat) (s0 : Nat) (d0 : Nat) (a5 : Nat) (a6 : Nat) (p0 : Int32) (a_wares : Int32) (a_shelves : Int32) (a_nests : Int32) (a_lids : Int32) (a_tops : Int32) (n_askings : Int32) (n_cost : Int32) (n_laid : Int32) (k_askings : Int32) (k_cost : Int32) (k_laid : Int32) (q_size : Int32) (a_wide : Nat → Int32) (a_deep : Nat → Int32) (a_weight : Nat → Int32) (a_bears : Nat → Int32) (a_mayOn : Nat → Int32) (a_height : Nat → Int32) (a_reach : Nat → Int32) (a_room : Nat → Int32) (n_shelf : Nat → Int32) (n_stack : Nat → Int32) (n_level : Nat → Int32) (n_asking : Nat → Int32) (k_shelf : Nat → Int32) (k_stack : Nat → Int32) (k_level : Nat → Int32) (k_asking : Nat → Int32) (q_ware : Nat → Int32) (h_a_wares : 0 ≤ (a_wares).toInt ∧ (a_wares).toInt ≤ 12) (h_a_shelves : 0 ≤ (a_shelves).toInt ∧ (a_shelves).toInt ≤ 4) (h_a_nests : 0 ≤ (a_nests).toInt ∧ (a_nests).toInt ≤ 4) (h_n_askings : 0 ≤ (n_askings).toInt ∧ (n_askings).toInt ≤ 30) (h_n_laid : 0 ≤ (n_laid).toInt ∧ (n_laid).toInt ≤ 1) (h_k_askings : 0 ≤ (k_askings).toInt ∧ (k_askings).toInt ≤ 30) (h_k_laid : 0 ≤ (k_laid).toInt ∧ (k_laid).toInt ≤ 1) (h_q_size : 0 ≤ (q_size).toInt ∧ (q_size).toInt ≤ 12) (h_p0 : 0 ≤ (p0).toInt ∧ (p0).toInt ≤ 11) (h_a_room : Iv 4 (0) (8) a_room) (h_n_shelf : Iv 12 (-1) (3) n_shelf) (h_n_stack : Iv 12 (0) (7) n_stack) (h_n_level : Iv 12 (0) (11) n_level) (h_n_asking : Iv 30 (0) (11) n_asking) (h_k_shelf : Iv 12 (-1) (3) k_shelf) (h_k_stack : Iv 12 (0) (7) k_stack) (h_k_level : Iv 12 (0) (11) k_level) (h_k_asking : Iv 30 (0) (11) k_asking) (h_q_ware : Iv 12 (0) (11) q_ware) (hout : n_shelf (p0).toInt.toNat = -1) : KK l D (TY cyC cyI cyJ cyZ cyO) yX10_bestPlace cX10_bestPlace 8 (some .int) ({ frames := 6, cells := 0, slots := 0, locals := 142 } : Room) 0 0 [.ref x0, .int p0] [(x0, .inr (10, [.ref r0, .ref a0, .ref n0, .ref k0, .ref x1, .ref q0, .ref o0, .ref h0, .ref s0, .ref d0])), (a0, .inr (9, [.int a_wares, .int a_shelves, .int a_nests, .ref a1, .ref a2, .ref a3, .ref a4, .ref a5, .ref a6, .int a_lids, .int a_tops, .ref a7, .ref a8, .ref a9, .ref a10])), (a1, .inl (cyI, 12, .inl a_wide)), (a2, .inl (cyI, 12, .inl a_deep)), (a3, .inl (cyI, 12, .inl a_weight)), (a4, .inl (cyI, 12, .inl a_bears)), (a7, .inl (cyI, 12, .inl a_mayOn)), (a8, .inl (cyI, 4, .inl a_height)), (a9, .inl (cyI, 4, .inl a_reach)), (a10, .inl (cyI, 4, .inl a_room)), (n0, .inr (7, [.ref n1, .ref n2, .ref n3, .ref n4, .int n_askings, .int n_cost, .int n_laid])), (n1, .inl (cyI, 12, .inl n_shelf)), (n2, .inl (cyI, 12, .inl n_stack)), (n3, .inl (cyI, 12, .inl n_level)), (n4, .inl (cyI, 30, .inl n_asking)), (k0, .inr (7, [.ref k1, .ref k2, .ref k3, .ref k4, .int k_askings, .int k_cost, .int k_laid])), (k1, .inl (cyI, 12, .inl k_shelf)), (k2, .inl (cyI, 12, .inl k_stack)), (k3, .inl (cyI, 12, .inl k_level)), (k4, .inl (cyI, 30, .inl k_asking)), (q0, .inr (4, [.ref q1, .int q_size])), (q1, .inl (cyI, 12, .inl q_ware))] (fun u => some (.int (u.2.1 0))) (fun u => (0 ≤ (u.2.1 1).toInt ∧ (u.2.1 1).toInt ≤ 30) ∧ (Iv 12 (-1) (3) (u.2.2.1 0)) ∧ (Iv 12 (0) (7) (u.2.2.1 1)) ∧ (Iv 12 (0) (11) (u.2.2.1 2)) ∧ (Iv 30 (0) (11) (u.2.2.1 3)) ∧ (0 ≤ (u.2.1 3).toInt ∧ (u.2.1 3).toInt ≤ 12) ∧ (Iv 12 (0) (11) (u.2.2.1 4))) (fun u => [(x0, .inr (10, [.ref r0, .ref a0, .ref n0, .ref k0, .ref x1, .ref q0, .ref o0, .ref h0, .ref s0, .ref d0])), (a0, .inr (9, [.int a_wares, .int a_shelves, .int a_nests, .ref a1, .ref a2, .ref a3, .ref a4, .ref a5, .ref a6, .int a_lids, .int a_tops, .ref a7, .ref a8, .ref a9, .ref a10])), (a1, .inl (cyI, 12, .inl a_wide)), (a2, .inl (cyI, 12, .inl a_deep)), (a3, .inl (cyI, 12, .inl a_weight)), (a4, .inl (cyI, 12, .inl a_bears)), (a7, .inl (cyI, 12, .inl a_mayOn)), (a8, .inl (cyI, 4, .inl a_height)), (a9, .inl (cyI, 4, .inl a_reach)), (a10, .inl (cyI, 4, .inl a_room)), (n0, .inr (7, [.ref n1, .ref n2, .ref n3, .ref n4, .int n_askings, .int n_cost, .int n_laid])), (n1, .inl (cyI, 12, .inl n_shelf)), (n2, .inl (cyI, 12, .inl n_stack)), (n3, .inl (cyI, 12, .inl n_level)), (n4, .inl (cyI, 30, .inl n_asking)), (k0, .inr (7, [.ref k1, .ref k2, .ref k3, .ref k4, .int (u.2.1 1), .int (u.2.1 2), .int k_laid])), (k1, .inl (cyI, 12, .inl (u.2.2.1 0))), (k2, .inl (cyI, 12, .inl (u.2.2.1 1))), (k3, .inl (cyI, 12, .inl (u.2.2.1 2))), (k4, .inl (cyI, 30, .inl (u.2.2.1 3))), (q0, .inr (4, [.ref q1, .int (u.2.1 3)])), (q1, .inl (cyI, 12, .inl (u.2.2.1 4)))]) := by
  refine KK.of (lv0 := [(0, .ref x0), (1, .int p0)]) (by decide) rfl (Nat.le_of_ble_eq_true rfl) ?_
  intro p e s m args below meth c A C hr hk hin
  refine j_iconst (pc := 0) (v := (-1)) C dX10_bestPlace_0 (by decide) ?_
  refine j_istore_n (pc := 1) (lv' := [(2, .int (-1)), (0, .ref x0), (1, .int p0)]) C dX10_bestPlace_1 rfl (by decide) rfl ?_
  refine j_iconst (pc := 2) (v := 0) C dX10_bestPlace_2 (by decide) ?_
  refine j_istore_n (pc := 3) (lv' := [(3, .int 0), (2, .int (-1)), (0, .ref x0), (1, .int p0)]) C dX10_bestPlace_3 rfl (by decide) rfl ?_
  have loop_1 : ∀ (k_1 : Nat) (x1_3 : Int32) (x1_2 : Int32) (y1_k0_4 : Int32) (y1_k0_5 : Int32) (g1_k1 : Nat → Int32) (g1_k2 : Nat → Int32) (g1_k3 : Nat → Int32) (g1_k4 : Nat → Int32) (y1_q0_1 : Int32) (g1_q1 : Nat → Int32), (0 ≤ (x1_3).toInt ∧ (x1_3).toInt ≤ 4) → (0 ≤ (y1_k0_4).toInt ∧ (y1_k0_4).toInt ≤ 30) → (Iv 12 (-1) (3) g1_k1) → (Iv 12 (0) (7) g1_k2) → (Iv 12 (0) (11) g1_k3) → (Iv 30 (0) (11) g1_k4) → (0 ≤ (y1_q0_1).toInt ∧ (y1_q0_1).toInt ≤ 12) → (Iv 12 (0) (11) g1_q1) → (4 - x1_3.toInt).toNat < k_1 → J p l e ({ frames := 6, cells := 0, slots := 0, locals := 142 } : Room) s m args below meth c D A 8 0 0 (QX below D (TY cyC cyI cyJ cyZ cyO) A (fun u => some (.int (u.2.1 0))) (fun u => (0 ≤ (u.2.1 1).toInt ∧ (u.2.1 1).toInt ≤ 30) ∧ (Iv 12 (-1) (3) (u.2.2.1 0)) ∧ (Iv 12 (0) (7) (u.2.2.1 1)) ∧ (Iv 12 (0) (11) (u.2.2.1 2)) ∧ (Iv 30 (0) (11) (u.2.2.1 3)) ∧ (0 ≤ (u.2.1 3).toInt ∧ (u.2.1 3).toInt ≤ 12) ∧ (Iv 12 (0) (11) (u.2.2.1 4))) (fun u => [(x0, .inr (10, [.ref r0, .ref a0, .ref n0, .ref k0, .ref x1, .ref q0, .ref o0, .ref h0, .ref s0, .ref d0])), (a0, .inr (9, [.int a_wares, .int a_shelves, .int a_nests, .ref a1, .ref a2, .ref a3, .ref a4, .ref a5, .ref a6, .int a_lids, .int a_tops, .ref a7, .ref a8, .ref a9, .ref a10])), (a1, .inl (cyI, 12, .inl a_wide)), (a2, .inl (cyI, 12, .inl a_deep)), (a3, .inl (cyI, 12, .inl a_weight)), (a4, .inl (cyI, 12, .inl a_bears)), (a7, .inl (cyI, 12, .inl a_mayOn)), (a8, .inl (cyI, 4, .inl a_height)), (a9, .inl (cyI, 4, .inl a_reach)), (a10, .inl (cyI, 4, .inl a_room)), (n0, .inr (7, [.ref n1, .ref n2, .ref n3, .ref n4, .int n_askings, .int n_cost, .int n_laid])), (n1, .inl (cyI, 12, .inl n_shelf)), (n2, .inl (cyI, 12, .inl n_stack)), (n3, .inl (cyI, 12, .inl n_level)), (n4, .inl (cyI, 30, .inl n_asking)), (k0, .inr (7, [.ref k1, .ref k2, .ref k3, .ref k4, .int (u.2.1 1), .int (u.2.1 2), .int k_laid])), (k1, .inl (cyI, 12, .inl (u.2.2.1 0))), (k2, .inl (cyI, 12, .inl (u.2.2.1 1))), (k3, .inl (cyI, 12, .inl (u.2.2.1 2))), (k4, .inl (cyI, 30, .inl (u.2.2.1 3))), (q0, .inr (4, [.ref q1, .int (u.2.1 3)])), (q1, .inl (cyI, 12, .inl (u.2.2.1 4)))]) args s 0 0) [(x0, .inr (10, [.ref r0, .ref a0, .ref n0, .ref k0, .ref x1, .ref q0, .ref o0, .ref h0, .ref s0, .ref d0])), (a0, .inr (9, [.int a_wares, .int a_shelves, .int a_nests, .ref a1, .ref a2, .ref a3, .ref a4, .ref a5, .ref a6, .int a_lids, .int a_tops, .ref a7, .ref a8, .ref a9, .ref a10])), (a1, .inl (cyI, 12, .inl a_wide)), (a2, .inl (cyI, 12, .inl a_deep)), (a3, .inl (cyI, 12, .inl a_weight)), (a4, .inl (cyI, 12, .inl a_bears)), (a7, .inl (cyI, 12, .inl a_mayOn)), (a8, .inl (cyI, 4, .inl a_height)), (a9, .inl (cyI, 4, .inl a_reach)), (a10, .inl (cyI, 4, .inl a_room)), (n0, .inr (7, [.ref n1, .ref n2, .ref n3, .ref n4, .int n_askings, .int n_cost, .int n_laid])), (n1, .inl (cyI, 12, .inl n_shelf)), (n2, .inl (cyI, 12, .inl n_stack)), (n3, .inl (cyI, 12, .inl n_level)), (n4, .inl (cyI, 30, .inl n_asking)), (k0, .inr (7, [.ref k1, .ref k2, .ref k3, .ref k4, .int y1_k0_4, .int y1_k0_5, .int k_laid])), (k1, .inl (cyI, 12, .inl g1_k1)), (k2, .inl (cyI, 12, .inl g1_k2)), (k3, .inl (cyI, 12, .inl g1_k3)), (k4, .inl (cyI, 30, .inl g1_k4)), (q0, .inr (4, [.ref q1, .int y1_q0_1])), (q1, .inl (cyI, 12, .inl g1_q1))] 4 [(3, .int x1_3), (2, .int x1_2), (0, .ref x0), (1, .int p0)] [] := by
    intro k_1
    induction k_1 with
    | zero =>
      intro x1_3 x1_2 y1_k0_4 y1_k0_5 g1_k1 g1_k2 g1_k3 g1_k4 y1_q0_1 g1_q1 hi_1_0 hi_1_2 hi_1_4 hi_1_5 hi_1_6 hi_1_7 hi_1_8 hi_1_9 hm_1
      exact absurd hm_1 (Nat.not_lt_zero _)
    | succ k_1 ih_1 =>
      intro x1_3 x1_2 y1_k0_4 y1_k0_5 g1_k1 g1_k2 g1_k3 g1_k4 y1_q0_1 g1_q1 hi_1_0 hi_1_2 hi_1_4 hi_1_5 hi_1_6 hi_1_7 hi_1_8 hi_1_9 hm_1
      refine j_iload_n (pc := 4) C dX10_bestPlace_4 rfl 0 rfl ?_
      refine j_aload_n (pc := 5) C dX10_bestPlace_5 rfl 2 rfl ?_
      refine j_get (pc := 6) (ci := 10) (v := .ref a0) C inw_10 0 rfl rfl 1 (by decide) wd_447 rfl rfl dX10_bestPlace_6 ?_
      refine j_get (pc := 9) (ci := 9) (v := .int a_shelves) C inw_9 1 rfl rfl 1 (by decide) wd_535 rfl rfl dX10_bestPlace_9 ?_
      refine j_icmp_ge (pc := 12) (tgt := 149) C dX10_bestPlace_12 (by decide) (fun c_2 => ?_) (fun c_2 => ?_)
      · skip
        rw [i_le] at c_2
        refine j_iload_n (pc := 149) C dX10_bestPlace_149 rfl 1 rfl ?_
        exact j_iret (pc := 150) C hr hk (fun i => [].getD i 0, fun i => [x1_2, y1_k0_4, y1_k0_5, y1_q0_1].getD i 0, fun i => [g1_k1, g1_k2, g1_k3, g1_k4, g1_q1].getD i (fun _ => 0), fun i => [].getD i (fun _ => 0)) rfl (show (0 ≤ (y1_k0_4).toInt ∧ (y1_k0_4).toInt ≤ 30) ∧ (Iv 12 (-1) (3) g1_k1) ∧ (Iv 12 (0) (7) g1_k2) ∧ (Iv 12 (0) (11) g1_k3) ∧ (Iv 30 (0) (11) g1_k4) ∧ (0 ≤ (y1_q0_1).toInt ∧ (y1_q0_1).toInt ≤ 12) ∧ (Iv 12 (0) (11) g1_q1) from ⟨hi_1_2, hi_1_4, hi_1_5, hi_1_6, hi_1_7, hi_1_8, hi_1_9⟩) [0, 1, 2, 3, 4, 5, 6, 7, 8, 9, 10, 11, 12, 13, 14, 15, 16, 17, 18, 19, 20, 21] (by decide) rfl (by decide) (by decide) dX10_bestPlace_150
      · skip
        rw [i_le] at c_2
        refine j_aload_n (pc := 15) C dX10_bestPlace_15 rfl 2 rfl ?_
        refine j_get (pc := 16) (ci := 10) (v := .ref a0) C inw_10 0 rfl rfl 1 (by decide) wd_447 rfl rfl dX10_bestPlace_16 ?_
        refine j_get (pc := 19) (ci := 9) (v := .ref a3) C inw_9 1 rfl rfl 5 (by decide) wd_473 rfl rfl dX10_bestPlace_19 ?_
        refine j_iload_n (pc := 22) C dX10_bestPlace_22 rfl 3 rfl ?_
        obtain ⟨v_3, ev_3⟩ : ∃ z, a_weight (p0).toInt.toNat = z := ⟨_, rfl⟩
        have env_3 : (a_weight (p0).toInt.toNat).toInt = v_3.toInt := by rw [ev_3]
        refine j_iald (pc := 23) (v := v_3) (k := (p0).toInt.toNat) C 4 1 rfl rfl (i_nn h_p0.1) rfl (i_lt_n h_p0.1 (Int.lt_of_le_of_lt h_p0.2 (by decide))) ev_3 dX10_bestPlace_23 ?_
        refine j_aload_n (pc := 24) C dX10_bestPlace_24 rfl 2 rfl ?_
        refine j_get (pc := 25) (ci := 10) (v := .ref a0) C inw_10 0 rfl rfl 1 (by decide) wd_447 rfl rfl dX10_bestPlace_25 ?_
        refine j_get (pc := 28) (ci := 9) (v := .ref a9) C inw_9 1 rfl rfl 13 (by decide) wd_457 rfl rfl dX10_bestPlace_28 ?_
        refine j_iload_n (pc := 31) C dX10_bestPlace_31 rfl 0 rfl ?_
        obtain ⟨v_4, ev_4⟩ : ∃ z, a_reach (x1_3).toInt.toNat = z := ⟨_, rfl⟩
        have env_4 : (a_reach (x1_3).toInt.toNat).toInt = v_4.toInt := by rw [ev_4]
        refine j_iald (pc := 32) (v := v_4) (k := (x1_3).toInt.toNat) C 8 1 rfl rfl (i_nn hi_1_0.1) rfl (i_lt_n hi_1_0.1 (by omega)) ev_4 dX10_bestPlace_32 ?_
        obtain ⟨v_5, ev_5⟩ : ∃ z : Int32, v_3 + v_4 = z := ⟨_, rfl⟩
        refine j_iadd (pc := 33) (v := v_5) C dX10_bestPlace_33 ev_5 ?_
        refine j_istore (pc := 34) (lv' := [(4, .int v_5), (3, .int x1_3), (2, .int x1_2), (0, .ref x0), (1, .int p0)]) C dX10_bestPlace_34 (by decide) rfl ?_
        refine j_aload_n (pc := 36) C dX10_bestPlace_36 rfl 3 rfl ?_
        refine j_get (pc := 37) (ci := 10) (v := .ref n0) C inw_10 0 rfl rfl 2 (by decide) wd_466 rfl rfl dX10_bestPlace_37 ?_
        refine j_iload_n (pc := 40) C dX10_bestPlace_40 rfl 1 rfl ?_
        refine j_callV (pc := 41) (As := [.int x1_3]) (rest := []) (wr := [(x0, .inr (10, [.ref r0, .ref a0, .ref n0, .ref k0, .ref x1, .ref q0, .ref o0, .ref h0, .ref s0, .ref d0])), (a0, .inr (9, [.int a_wares, .int a_shelves, .int a_nests, .ref a1, .ref a2, .ref a3, .ref a4, .ref a5, .ref a6, .int a_lids, .int a_tops, .ref a7, .ref a8, .ref a9, .ref a10])), (a1, .inl (cyI, 12, .inl a_wide)), (a2, .inl (cyI, 12, .inl a_deep)), (a3, .inl (cyI, 12, .inl a_weight)), (a4, .inl (cyI, 12, .inl a_bears)), (a7, .inl (cyI, 12, .inl a_mayOn)), (a8, .inl (cyI, 4, .inl a_height)), (a9, .inl (cyI, 4, .inl a_reach)), (a10, .inl (cyI, 4, .inl a_room)), (n3, .inl (cyI, 12, .inl n_level)), (n4, .inl (cyI, 30, .inl n_asking)), (k0, .inr (7, [.ref k1, .ref k2, .ref k3, .ref k4, .int y1_k0_4, .int y1_k0_5, .int k_laid])), (k1, .inl (cyI, 12, .inl g1_k1)), (k2, .inl (cyI, 12, .inl g1_k2)), (k3, .inl (cyI, 12, .inl g1_k3)), (k4, .inl (cyI, 30, .inl g1_k4)), (q0, .inr (4, [.ref q1, .int y1_q0_1])), (q1, .inl (cyI, 12, .inl g1_q1))]) C (c_X7_stacks l D cyC cyI cyJ cyZ cyO n0 n1 n2 n3 n4 x1_3 n_askings n_cost n_laid n_shelf n_stack h_n_askings h_n_laid h_n_shelf h_n_stack) wd_66 wd_9 wd_437 wd_68 wd_69 ⟨by decide, by decide, rfl⟩ rfl ⟨rfl, rfl, by decide, by decide⟩ ⟨by decide, by decide⟩ [10, 11, 12] [0, 1, 2, 3, 4, 5, 6, 7, 8, 9, 13, 14, 15, 16, 17, 18, 19, 20, 21] rfl rfl ⟨by decide, by decide, by decide⟩ 10 rfl rfl rfl (Nat.le_of_ble_eq_true rfl) dX10_bestPlace_41 (fun u_6 hw_7 => ?_)
        refine j_eq (ws2 := [(x0, .inr (10, [.ref r0, .ref a0, .ref n0, .ref k0, .ref x1, .ref q0, .ref o0, .ref h0, .ref s0, .ref d0])), (a0, .inr (9, [.int a_wares, .int a_shelves, .int a_nests, .ref a1, .ref a2, .ref a3, .ref a4, .ref a5, .ref a6, .int a_lids, .int a_tops, .ref a7, .ref a8, .ref a9, .ref a10])), (a1, .inl (cyI, 12, .inl a_wide)), (a2, .inl (cyI, 12, .inl a_deep)), (a3, .inl (cyI, 12, .inl a_weight)), (a4, .inl (cyI, 12, .inl a_bears)), (a7, .inl (cyI, 12, .inl a_mayOn)), (a8, .inl (cyI, 4, .inl a_height)), (a9, .inl (cyI, 4, .inl a_reach)), (a10, .inl (cyI, 4, .inl a_room)), (n3, .inl (cyI, 12, .inl n_level)), (n4, .inl (cyI, 30, .inl n_asking)), (k0, .inr (7, [.ref k1, .ref k2, .ref k3, .ref k4, .int y1_k0_4, .int y1_k0_5, .int k_laid])), (k1, .inl (cyI, 12, .inl g1_k1)), (k2, .inl (cyI, 12, .inl g1_k2)), (k3, .inl (cyI, 12, .inl g1_k3)), (k4, .inl (cyI, 30, .inl g1_k4)), (q0, .inr (4, [.ref q1, .int y1_q0_1])), (q1, .inl (cyI, 12, .inl g1_q1)), (n0, .inr (7, [.ref n1, .ref n2, .ref n3, .ref n4, .int n_askings, .int n_cost, .int n_laid])), (n1, .inl (cyI, 12, .inl n_shelf)), (n2, .inl (cyI, 12, .inl n_stack))]) (pc2 := 44) (lv2 := [(4, .int v_5), (3, .int x1_3), (2, .int x1_2), (0, .ref x0), (1, .int p0)]) (st2 := [.int (u_6.2.1 0)]) rfl rfl rfl rfl ?_
        obtain ⟨hw_7_0, hw_7_1⟩ := hw_7
        refine j_istore (pc := 44) (lv' := [(5, .int (u_6.2.1 0)), (4, .int v_5), (3, .int x1_3), (2, .int x1_2), (0, .ref x0), (1, .int p0)]) C dX10_bestPlace_44 (by decide) rfl ?_
        refine j_iconst (pc := 46) (v := 0) C dX10_bestPlace_46 (by decide) ?_
        refine j_istore (pc := 47) (lv' := [(6, .int 0), (5, .int (u_6.2.1 0)), (4, .int v_5), (3, .int x1_3), (2, .int x1_2), (0, .ref x0), (1, .int p0)]) C dX10_bestPlace_47 (by decide) rfl ?_
        have loop_8 : ∀ (k_8 : Nat) (x8_6 : Int32) (x8_2 : Int32) (y8_k0_4 : Int32) (y8_k0_5 : Int32) (g8_k1 : Nat → Int32) (g8_k2 : Nat → Int32) (g8_k3 : Nat → Int32) (g8_k4 : Nat → Int32) (y8_q0_1 : Int32) (g8_q1 : Nat → Int32), (0 ≤ (x8_6).toInt ∧ (x8_6).toInt ≤ 9) → (0 ≤ (y8_k0_4).toInt ∧ (y8_k0_4).toInt ≤ 30) → (Iv 12 (-1) (3) g8_k1) → (Iv 12 (0) (7) g8_k2) → (Iv 12 (0) (11) g8_k3) → (Iv 30 (0) (11) g8_k4) → (0 ≤ (y8_q0_1).toInt ∧ (y8_q0_1).toInt ≤ 12) → (Iv 12 (0) (11) g8_q1) → (9 - x8_6.toInt).toNat < k_8 → J p l e ({ frames := 6, cells := 0, slots := 0, locals := 142 } : Room) s m args below meth c D A 8 0 0 (QX below D (TY cyC cyI cyJ cyZ cyO) A (fun u => some (.int (u.2.1 0))) (fun u => (0 ≤ (u.2.1 1).toInt ∧ (u.2.1 1).toInt ≤ 30) ∧ (Iv 12 (-1) (3) (u.2.2.1 0)) ∧ (Iv 12 (0) (7) (u.2.2.1 1)) ∧ (Iv 12 (0) (11) (u.2.2.1 2)) ∧ (Iv 30 (0) (11) (u.2.2.1 3)) ∧ (0 ≤ (u.2.1 3).toInt ∧ (u.2.1 3).toInt ≤ 12) ∧ (Iv 12 (0) (11) (u.2.2.1 4))) (fun u => [(x0, .inr (10, [.ref r0, .ref a0, .ref n0, .ref k0, .ref x1, .ref q0, .ref o0, .ref h0, .ref s0, .ref d0])), (a0, .inr (9, [.int a_wares, .int a_shelves, .int a_nests, .ref a1, .ref a2, .ref a3, .ref a4, .ref a5, .ref a6, .int a_lids, .int a_tops, .ref a7, .ref a8, .ref a9, .ref a10])), (a1, .inl (cyI, 12, .inl a_wide)), (a2, .inl (cyI, 12, .inl a_deep)), (a3, .inl (cyI, 12, .inl a_weight)), (a4, .inl (cyI, 12, .inl a_bears)), (a7, .inl (cyI, 12, .inl a_mayOn)), (a8, .inl (cyI, 4, .inl a_height)), (a9, .inl (cyI, 4, .inl a_reach)), (a10, .inl (cyI, 4, .inl a_room)), (n0, .inr (7, [.ref n1, .ref n2, .ref n3, .ref n4, .int n_askings, .int n_cost, .int n_laid])), (n1, .inl (cyI, 12, .inl n_shelf)), (n2, .inl (cyI, 12, .inl n_stack)), (n3, .inl (cyI, 12, .inl n_level)), (n4, .inl (cyI, 30, .inl n_asking)), (k0, .inr (7, [.ref k1, .ref k2, .ref k3, .ref k4, .int (u.2.1 1), .int (u.2.1 2), .int k_laid])), (k1, .inl (cyI, 12, .inl (u.2.2.1 0))), (k2, .inl (cyI, 12, .inl (u.2.2.1 1))), (k3, .inl (cyI, 12, .inl (u.2.2.1 2))), (k4, .inl (cyI, 30, .inl (u.2.2.1 3))), (q0, .inr (4, [.ref q1, .int (u.2.1 3)])), (q1, .inl (cyI, 12, .inl (u.2.2.1 4)))]) args s 0 0) [(x0, .inr (10, [.ref r0, .ref a0, .ref n0, .ref k0, .ref x1, .ref q0, .ref o0, .ref h0, .ref s0, .ref d0])), (a0, .inr (9, [.int a_wares, .int a_shelves, .int a_nests, .ref a1, .ref a2, .ref a3, .ref a4, .ref a5, .ref a6, .int a_lids, .int a_tops, .ref a7, .ref a8, .ref a9, .ref a10])), (a1, .inl (cyI, 12, .inl a_wide)), (a2, .inl (cyI, 12, .inl a_deep)), (a3, .inl (cyI, 12, .inl a_weight)), (a4, .inl (cyI, 12, .inl a_bears)), (a7, .inl (cyI, 12, .inl a_mayOn)), (a8, .inl (cyI, 4, .inl a_height)), (a9, .inl (cyI, 4, .inl a_reach)), (a10, .inl (cyI, 4, .inl a_room)), (n3, .inl (cyI, 12, .inl n_level)), (n4, .inl (cyI, 30, .inl n_asking)), (k0, .inr (7, [.ref k1, .ref k2, .ref k3, .ref k4, .int y8_k0_4, .int y8_k0_5, .int k_laid])), (k1, .inl (cyI, 12, .inl g8_k1)), (k2, .inl (cyI, 12, .inl g8_k2)), (k3, .inl (cyI, 12, .inl g8_k3)), (k4, .inl (cyI, 30, .inl g8_k4)), (q0, .inr (4, [.ref q1, .int y8_q0_1])), (q1, .inl (cyI, 12, .inl g8_q1)), (n0, .inr (7, [.ref n1, .ref n2, .ref n3, .ref n4, .int n_askings, .int n_cost, .int n_laid])), (n1, .inl (cyI, 12, .inl n_shelf)), (n2, .inl (cyI, 12, .inl n_stack))] 49 [(6, .int x8_6), (5, .int (u_6.2.1 0)), (4, .int v_5), (3, .int x1_3), (2, .int x8_2), (0, .ref x0), (1, .int p0)] [] := by
          intro k_8
          induction k_8 with
          | zero =>
            intro x8_6 x8_2 y8_k0_4 y8_k0_5 g8_k1 g8_k2 g8_k3 g8_k4 y8_q0_1 g8_q1 hi_8_0 hi_8_2 hi_8_4 hi_8_5 hi_8_6 hi_8_7 hi_8_8 hi_8_9 hm_8
            exact absurd hm_8 (Nat.not_lt_zero _)
          | succ k_8 ih_8 =>
            intro x8_6 x8_2 y8_k0_4 y8_k0_5 g8_k1 g8_k2 g8_k3 g8_k4 y8_q0_1 g8_q1 hi_8_0 hi_8_2 hi_8_4 hi_8_5 hi_8_6 hi_8_7 hi_8_8 hi_8_9 hm_8
            refine j_iload (pc := 49) C dX10_bestPlace_49 0 rfl ?_
            refine j_iload (pc := 51) C dX10_bestPlace_51 1 rfl ?_
            refine j_icmp_gt (pc := 53) (tgt := 143) C dX10_bestPlace_53 (by decide) (fun c_9 => ?_) (fun c_9 => ?_)
            · skip
              rw [i_lt] at c_9
              obtain ⟨v_10, ev_10⟩ : ∃ z : Int32, x1_3 + 1 = z := ⟨_, rfl⟩
              have el_1 : (1 : Int32).toInt = 1 := rfl
              have hv_10 : v_10.toInt = x1_3.toInt + (1 : Int32).toInt := by rw [← ev_10]; exact fb_addI (by omega) (by omega)
              refine j_iinc (pc := 143) (v := v_10) (lv' := [(3, .int v_10), (6, .int x8_6), (5, .int (u_6.2.1 0)), (4, .int v_5), (2, .int x8_2), (0, .ref x0), (1, .int p0)]) C dX10_bestPlace_143 3 rfl ev_10 (by decide) rfl ?_
              refine j_goto (pc := 146) (tgt := 4) C dX10_bestPlace_146 (by decide) ?_
              refine j_subG (ws' := [(x0, .inr (10, [.ref r0, .ref a0, .ref n0, .ref k0, .ref x1, .ref q0, .ref o0, .ref h0, .ref s0, .ref d0])), (a0, .inr (9, [.int a_wares, .int a_shelves, .int a_nests, .ref a1, .ref a2, .ref a3, .ref a4, .ref a5, .ref a6, .int a_lids, .int a_tops, .ref a7, .ref a8, .ref a9, .ref a10])), (a1, .inl (cyI, 12, .inl a_wide)), (a2, .inl (cyI, 12, .inl a_deep)), (a3, .inl (cyI, 12, .inl a_weight)), (a4, .inl (cyI, 12, .inl a_bears)), (a7, .inl (cyI, 12, .inl a_mayOn)), (a8, .inl (cyI, 4, .inl a_height)), (a9, .inl (cyI, 4, .inl a_reach)), (a10, .inl (cyI, 4, .inl a_room)), (n0, .inr (7, [.ref n1, .ref n2, .ref n3, .ref n4, .int n_askings, .int n_cost, .int n_laid])), (n1, .inl (cyI, 12, .inl n_shelf)), (n2, .inl (cyI, 12, .inl n_stack)), (n3, .inl (cyI, 12, .inl n_level)), (n4, .inl (cyI, 30, .inl n_asking)), (k0, .inr (7, [.ref k1, .ref k2, .ref k3, .ref k4, .int y8_k0_4, .int y8_k0_5, .int k_laid])), (k1, .inl (cyI, 12, .inl g8_k1)), (k2, .inl (cyI, 12, .inl g8_k2)), (k3, .inl (cyI, 12, .inl g8_k3)), (k4, .inl (cyI, 30, .inl g8_k4)), (q0, .inr (4, [.ref q1, .int y8_q0_1])), (q1, .inl (cyI, 12, .inl g8_q1))]) [0, 1, 2, 3, 4, 5, 6, 7, 8, 9, 19, 20, 21, 10, 11, 12, 13, 14, 15, 16, 17, 18] (by decide) rfl ?_
              exact j_lv [0, 4, 5, 6] rfl (ih_1 v_10 x8_2 y8_k0_4 y8_k0_5 g8_k1 g8_k2 g8_k3 g8_k4 y8_q0_1 g8_q1 (by omega) hi_8_2 hi_8_4 hi_8_5 hi_8_6 hi_8_7 hi_8_8 hi_8_9 (by omega))
            · skip
              rw [i_lt] at c_9
              refine j_aload_n (pc := 56) C dX10_bestPlace_56 rfl 5 rfl ?_
              refine j_aload_n (pc := 57) C dX10_bestPlace_57 rfl 5 rfl ?_
              refine j_get (pc := 58) (ci := 10) (v := .ref n0) C inw_10 0 rfl rfl 2 (by decide) wd_466 rfl rfl dX10_bestPlace_58 ?_
              refine j_iload_n (pc := 61) C dX10_bestPlace_61 rfl 6 rfl ?_
              refine j_iload_n (pc := 62) C dX10_bestPlace_62 rfl 3 rfl ?_
              refine j_iload (pc := 63) C dX10_bestPlace_63 0 rfl ?_
              refine j_callV (pc := 65) (As := [.ref n0, .int p0, .int x1_3, .int x8_6]) (rest := []) (wr := [(a9, .inl (cyI, 4, .inl a_reach)), (n4, .inl (cyI, 30, .inl n_asking)), (k0, .inr (7, [.ref k1, .ref k2, .ref k3, .ref k4, .int y8_k0_4, .int y8_k0_5, .int k_laid])), (k1, .inl (cyI, 12, .inl g8_k1)), (k2, .inl (cyI, 12, .inl g8_k2)), (k3, .inl (cyI, 12, .inl g8_k3)), (k4, .inl (cyI, 30, .inl g8_k4))]) C (c_X10_refusal l D cyC cyI cyJ cyZ cyO x0 a0 a1 a2 a3 a4 a7 a8 a10 q0 q1 n0 n1 n2 n3 r0 n0 k0 x1 o0 h0 s0 d0 a5 a6 a9 n4 p0 x1_3 x8_6 a_wares a_shelves a_nests a_lids a_tops y8_q0_1 n_askings n_cost n_laid a_wide a_deep a_weight a_bears a_mayOn a_height a_room g8_q1 n_shelf n_stack n_level h_a_wares h_a_shelves h_a_nests hi_8_8 h_n_askings h_n_laid h_p0 (by omega) (by omega) h_a_room hi_8_9 h_n_shelf h_n_stack h_n_level (by have h9 := congrArg Int32.toInt hw_7_1; omega)) wd_481 wd_482 wd_483 wd_484 wd_485 ⟨by decide, by decide, rfl⟩ rfl ⟨rfl, rfl, by decide, by decide⟩ ⟨by decide, by decide⟩ [0, 1, 2, 3, 4, 5, 6, 7, 9, 17, 18, 19, 20, 21, 10] [8, 11, 12, 13, 14, 15, 16] rfl rfl ⟨by decide, by decide, by decide⟩ 0 rfl rfl rfl (Nat.le_of_ble_eq_true rfl) dX10_bestPlace_65 (fun u_11 hw_12 => ?_)
              refine j_eq (ws2 := [(a9, .inl (cyI, 4, .inl a_reach)), (n4, .inl (cyI, 30, .inl n_asking)), (k0, .inr (7, [.ref k1, .ref k2, .ref k3, .ref k4, .int y8_k0_4, .int y8_k0_5, .int k_laid])), (k1, .inl (cyI, 12, .inl g8_k1)), (k2, .inl (cyI, 12, .inl g8_k2)), (k3, .inl (cyI, 12, .inl g8_k3)), (k4, .inl (cyI, 30, .inl g8_k4)), (x0, .inr (10, [.ref r0, .ref a0, .ref n0, .ref k0, .ref x1, .ref q0, .ref o0, .ref h0, .ref s0, .ref d0])), (a0, .inr (9, [.int a_wares, .int a_shelves, .int a_nests, .ref a1, .ref a2, .ref a3, .ref a4, .ref a5, .ref a6, .int a_lids, .int a_tops, .ref a7, .ref a8, .ref a9, .ref a10])), (a1, .inl (cyI, 12, .inl a_wide)), (a2, .inl (cyI, 12, .inl a_deep)), (a3, .inl (cyI, 12, .inl a_weight)), (a4, .inl (cyI, 12, .inl a_bears)), (a7, .inl (cyI, 12, .inl a_mayOn)), (a8, .inl (cyI, 4, .inl a_height)), (a10, .inl (cyI, 4, .inl a_room)), (q0, .inr (4, [.ref q1, .int (u_11.2.1 1)])), (q1, .inl (cyI, 12, .inl (u_11.2.2.1 0))), (n0, .inr (7, [.ref n1, .ref n2, .ref n3, .ref n4, .int n_askings, .int n_cost, .int n_laid])), (n1, .inl (cyI, 12, .inl n_shelf)), (n2, .inl (cyI, 12, .inl n_stack)), (n3, .inl (cyI, 12, .inl n_level))]) (pc2 := 68) (lv2 := [(6, .int x8_6), (5, .int (u_6.2.1 0)), (4, .int v_5), (3, .int x1_3), (2, .int x8_2), (0, .ref x0), (1, .int p0)]) (st2 := [.int (u_11.2.1 0)]) rfl rfl rfl rfl ?_
              obtain ⟨hw_12_0, hw_12_1, hw_12_2, hw_12_3, hw_12_4⟩ := hw_12
              refine j_if_ne (pc := 68) (tgt := 137) C dX10_bestPlace_68 (by decide) (fun c_13 => ?_) (fun c_13 => ?_)
              · skip
                have el_0 : (0 : Int32).toInt = 0 := rfl
                rw [i_eq] at c_13
                obtain ⟨v_14, ev_14⟩ : ∃ z : Int32, x8_6 + 1 = z := ⟨_, rfl⟩
                have el_1 : (1 : Int32).toInt = 1 := rfl
                have hv_14 : v_14.toInt = x8_6.toInt + (1 : Int32).toInt := by rw [← ev_14]; exact fb_addI (by omega) (by omega)
                refine j_iinc (pc := 137) (v := v_14) (lv' := [(6, .int v_14), (5, .int (u_6.2.1 0)), (4, .int v_5), (3, .int x1_3), (2, .int x8_2), (0, .ref x0), (1, .int p0)]) C dX10_bestPlace_137 0 rfl ev_14 (by decide) rfl ?_
                refine j_goto (pc := 140) (tgt := 49) C dX10_bestPlace_140 (by decide) ?_
                refine j_subG (ws' := [(x0, .inr (10, [.ref r0, .ref a0, .ref n0, .ref k0, .ref x1, .ref q0, .ref o0, .ref h0, .ref s0, .ref d0])), (a0, .inr (9, [.int a_wares, .int a_shelves, .int a_nests, .ref a1, .ref a2, .ref a3, .ref a4, .ref a5, .ref a6, .int a_lids, .int a_tops, .ref a7, .ref a8, .ref a9, .ref a10])), (a1, .inl (cyI, 12, .inl a_wide)), (a2, .inl (cyI, 12, .inl a_deep)), (a3, .inl (cyI, 12, .inl a_weight)), (a4, .inl (cyI, 12, .inl a_bears)), (a7, .inl (cyI, 12, .inl a_mayOn)), (a8, .inl (cyI, 4, .inl a_height)), (a9, .inl (cyI, 4, .inl a_reach)), (a10, .inl (cyI, 4, .inl a_room)), (n3, .inl (cyI, 12, .inl n_level)), (n4, .inl (cyI, 30, .inl n_asking)), (k0, .inr (7, [.ref k1, .ref k2, .ref k3, .ref k4, .int y8_k0_4, .int y8_k0_5, .int k_laid])), (k1, .inl (cyI, 12, .inl g8_k1)), (k2, .inl (cyI, 12, .inl g8_k2)), (k3, .inl (cyI, 12, .inl g8_k3)), (k4, .inl (cyI, 30, .inl g8_k4)), (q0, .inr (4, [.ref q1, .int (u_11.2.1 1)])), (q1, .inl (cyI, 12, .inl (u_11.2.2.1 0))), (n0, .inr (7, [.ref n1, .ref n2, .ref n3, .ref n4, .int n_askings, .int n_cost, .int n_laid])), (n1, .inl (cyI, 12, .inl n_shelf)), (n2, .inl (cyI, 12, .inl n_stack))]) [7, 8, 9, 10, 11, 12, 13, 14, 0, 15, 21, 1, 2, 3, 4, 5, 6, 16, 17, 18, 19, 20] (by decide) rfl ?_
                exact j_lv [0, 1, 2, 3, 4, 5, 6] rfl (ih_8 v_14 x8_2 y8_k0_4 y8_k0_5 g8_k1 g8_k2 g8_k3 g8_k4 (u_11.2.1 1) (u_11.2.2.1 0) (by omega) hi_8_2 hi_8_4 hi_8_5 hi_8_6 hi_8_7 hw_12_1 hw_12_2 (by omega))
              · skip
                have el_0 : (0 : Int32).toInt = 0 := rfl
                rw [i_eq] at c_13
                refine j_aload_n (pc := 71) C dX10_bestPlace_71 rfl 5 rfl ?_
                refine j_get (pc := 72) (ci := 10) (v := .ref k0) C inw_10 7 rfl rfl 3 (by decide) wd_544 rfl rfl dX10_bestPlace_72 ?_
                refine j_aload_n (pc := 75) C dX10_bestPlace_75 rfl 5 rfl ?_
                refine j_get (pc := 76) (ci := 10) (v := .ref n0) C inw_10 7 rfl rfl 2 (by decide) wd_466 rfl rfl dX10_bestPlace_76 ?_
                refine j_callV (pc := 79) (As := [.ref n0]) (rest := []) (wr := [(a9, .inl (cyI, 4, .inl a_reach)), (x0, .inr (10, [.ref r0, .ref a0, .ref n0, .ref k0, .ref x1, .ref q0, .ref o0, .ref h0, .ref s0, .ref d0])), (a0, .inr (9, [.int a_wares, .int a_shelves, .int a_nests, .ref a1, .ref a2, .ref a3, .ref a4, .ref a5, .ref a6, .int a_lids, .int a_tops, .ref a7, .ref a8, .ref a9, .ref a10])), (a1, .inl (cyI, 12, .inl a_wide)), (a2, .inl (cyI, 12, .inl a_deep)), (a3, .inl (cyI, 12, .inl a_weight)), (a4, .inl (cyI, 12, .inl a_bears)), (a7, .inl (cyI, 12, .inl a_mayOn)), (a8, .inl (cyI, 4, .inl a_height)), (a10, .inl (cyI, 4, .inl a_room)), (q0, .inr (4, [.ref q1, .int (u_11.2.1 1)])), (q1, .inl (cyI, 12, .inl (u_11.2.2.1 0)))]) C (c_X7_copy l D cyC cyI cyJ cyZ cyO k0 k1 k2 k3 k4 n0 n1 n2 n3 n4 y8_k0_4 y8_k0_5 k_laid n_askings n_cost n_laid g8_k1 g8_k2 g8_k3 g8_k4 n_shelf n_stack n_level n_asking hi_8_2 h_k_laid h_n_askings h_n_laid hi_8_4 hi_8_5 hi_8_6 hi_8_7 h_n_shelf h_n_stack h_n_level h_n_asking) wd_549 wd_9 wd_550 wd_551 wd_552 ⟨by decide, by decide, rfl⟩ rfl ⟨rfl, rfl, by decide, by decide⟩ ⟨by decide, by decide⟩ [2, 3, 4, 5, 6, 18, 19, 20, 21, 1] [0, 7, 8, 9, 10, 11, 12, 13, 14, 15, 16, 17] rfl rfl ⟨by decide, by decide, by decide⟩ 2 rfl rfl rfl (Nat.le_of_ble_eq_true rfl) dX10_bestPlace_79 (fun u_15 hw_16 => ?_)
                refine j_eq (ws2 := [(a9, .inl (cyI, 4, .inl a_reach)), (x0, .inr (10, [.ref r0, .ref a0, .ref n0, .ref k0, .ref x1, .ref q0, .ref o0, .ref h0, .ref s0, .ref d0])), (a0, .inr (9, [.int a_wares, .int a_shelves, .int a_nests, .ref a1, .ref a2, .ref a3, .ref a4, .ref a5, .ref a6, .int a_lids, .int a_tops, .ref a7, .ref a8, .ref a9, .ref a10])), (a1, .inl (cyI, 12, .inl a_wide)), (a2, .inl (cyI, 12, .inl a_deep)), (a3, .inl (cyI, 12, .inl a_weight)), (a4, .inl (cyI, 12, .inl a_bears)), (a7, .inl (cyI, 12, .inl a_mayOn)), (a8, .inl (cyI, 4, .inl a_height)), (a10, .inl (cyI, 4, .inl a_room)), (q0, .inr (4, [.ref q1, .int (u_11.2.1 1)])), (q1, .inl (cyI, 12, .inl (u_11.2.2.1 0))), (k0, .inr (7, [.ref k1, .ref k2, .ref k3, .ref k4, .int n_askings, .int n_cost, .int k_laid])), (k1, .inl (cyI, 12, .inl n_shelf)), (k2, .inl (cyI, 12, .inl n_stack)), (k3, .inl (cyI, 12, .inl n_level)), (k4, .inl (cyI, 30, .inl n_asking)), (n0, .inr (7, [.ref n1, .ref n2, .ref n3, .ref n4, .int n_askings, .int n_cost, .int n_laid])), (n1, .inl (cyI, 12, .inl n_shelf)), (n2, .inl (cyI, 12, .inl n_stack)), (n3, .inl (cyI, 12, .inl n_level)), (n4, .inl (cyI, 30, .inl n_asking))]) (pc2 := 82) (lv2 := [(6, .int x8_6), (5, .int (u_6.2.1 0)), (4, .int v_5), (3, .int x1_3), (2, .int x8_2), (0, .ref x0), (1, .int p0)]) (st2 := []) rfl rfl rfl rfl ?_
                refine j_aload_n (pc := 82) C dX10_bestPlace_82 rfl 5 rfl ?_
                refine j_get (pc := 83) (ci := 10) (v := .ref k0) C inw_10 1 rfl rfl 3 (by decide) wd_544 rfl rfl dX10_bestPlace_83 ?_
                refine j_iload_n (pc := 86) C dX10_bestPlace_86 rfl 6 rfl ?_
                refine j_iload_n (pc := 87) C dX10_bestPlace_87 rfl 3 rfl ?_
                refine j_iload (pc := 88) C dX10_bestPlace_88 0 rfl ?_
                refine j_callV (pc := 90) (As := [.int p0, .int x1_3, .int x8_6]) (rest := []) (wr := [(a9, .inl (cyI, 4, .inl a_reach)), (x0, .inr (10, [.ref r0, .ref a0, .ref n0, .ref k0, .ref x1, .ref q0, .ref o0, .ref h0, .ref s0, .ref d0])), (a0, .inr (9, [.int a_wares, .int a_shelves, .int a_nests, .ref a1, .ref a2, .ref a3, .ref a4, .ref a5, .ref a6, .int a_lids, .int a_tops, .ref a7, .ref a8, .ref a9, .ref a10])), (a1, .inl (cyI, 12, .inl a_wide)), (a2, .inl (cyI, 12, .inl a_deep)), (a3, .inl (cyI, 12, .inl a_weight)), (a4, .inl (cyI, 12, .inl a_bears)), (a7, .inl (cyI, 12, .inl a_mayOn)), (a8, .inl (cyI, 4, .inl a_height)), (a10, .inl (cyI, 4, .inl a_room)), (q0, .inr (4, [.ref q1, .int (u_11.2.1 1)])), (q1, .inl (cyI, 12, .inl (u_11.2.2.1 0))), (k4, .inl (cyI, 30, .inl n_asking)), (n0, .inr (7, [.ref n1, .ref n2, .ref n3, .ref n4, .int n_askings, .int n_cost, .int n_laid])), (n1, .inl (cyI, 12, .inl n_shelf)), (n2, .inl (cyI, 12, .inl n_stack)), (n3, .inl (cyI, 12, .inl n_level)), (n4, .inl (cyI, 30, .inl n_asking))]) C (c_X7_add l D cyC cyI cyJ cyZ cyO k0 k1 k2 k3 k4 p0 x1_3 x8_6 n_askings n_cost k_laid n_shelf n_stack n_level h_n_askings h_k_laid h_p0 (by omega) (by omega) h_n_shelf h_n_stack h_n_level hout) wd_487 wd_9 wd_488 wd_489 wd_490 ⟨by decide, by decide, rfl⟩ rfl ⟨rfl, rfl, by decide, by decide⟩ ⟨by decide, by decide⟩ [12, 13, 14, 15] [0, 1, 2, 3, 4, 5, 6, 7, 8, 9, 10, 11, 16, 17, 18, 19, 20, 21] rfl rfl ⟨by decide, by decide, by decide⟩ 12 rfl rfl rfl (Nat.le_of_ble_eq_true rfl) dX10_bestPlace_90 (fun u_17 hw_18 => ?_)
                refine j_eq (ws2 := [(a9, .inl (cyI, 4, .inl a_reach)), (x0, .inr (10, [.ref r0, .ref a0, .ref n0, .ref k0, .ref x1, .ref q0, .ref o0, .ref h0, .ref s0, .ref d0])), (a0, .inr (9, [.int a_wares, .int a_shelves, .int a_nests, .ref a1, .ref a2, .ref a3, .ref a4, .ref a5, .ref a6, .int a_lids, .int a_tops, .ref a7, .ref a8, .ref a9, .ref a10])), (a1, .inl (cyI, 12, .inl a_wide)), (a2, .inl (cyI, 12, .inl a_deep)), (a3, .inl (cyI, 12, .inl a_weight)), (a4, .inl (cyI, 12, .inl a_bears)), (a7, .inl (cyI, 12, .inl a_mayOn)), (a8, .inl (cyI, 4, .inl a_height)), (a10, .inl (cyI, 4, .inl a_room)), (q0, .inr (4, [.ref q1, .int (u_11.2.1 1)])), (q1, .inl (cyI, 12, .inl (u_11.2.2.1 0))), (k4, .inl (cyI, 30, .inl n_asking)), (n0, .inr (7, [.ref n1, .ref n2, .ref n3, .ref n4, .int n_askings, .int n_cost, .int n_laid])), (n1, .inl (cyI, 12, .inl n_shelf)), (n2, .inl (cyI, 12, .inl n_stack)), (n3, .inl (cyI, 12, .inl n_level)), (n4, .inl (cyI, 30, .inl n_asking)), (k0, .inr (7, [.ref k1, .ref k2, .ref k3, .ref k4, .int n_askings, .int n_cost, .int k_laid])), (k1, .inl (cyI, 12, .inl (u_17.2.2.1 0))), (k2, .inl (cyI, 12, .inl (u_17.2.2.1 1))), (k3, .inl (cyI, 12, .inl (u_17.2.2.1 2)))]) (pc2 := 93) (lv2 := [(6, .int x8_6), (5, .int (u_6.2.1 0)), (4, .int v_5), (3, .int x1_3), (2, .int x8_2), (0, .ref x0), (1, .int p0)]) (st2 := []) rfl rfl rfl rfl ?_
                obtain ⟨hw_18_0, hw_18_1, hw_18_2, hw_18_3, hw_18_4, hw_18_5, hw_18_6⟩ := hw_18
                refine j_aload_n (pc := 93) C dX10_bestPlace_93 rfl 5 rfl ?_
                refine j_aload_n (pc := 94) C dX10_bestPlace_94 rfl 5 rfl ?_
                refine j_get (pc := 95) (ci := 10) (v := .ref k0) C inw_10 1 rfl rfl 3 (by decide) wd_544 rfl rfl dX10_bestPlace_95 ?_
                refine j_callV (pc := 98) (As := [.ref k0]) (rest := []) (wr := [(a9, .inl (cyI, 4, .inl a_reach)), (k4, .inl (cyI, 30, .inl n_asking)), (n0, .inr (7, [.ref n1, .ref n2, .ref n3, .ref n4, .int n_askings, .int n_cost, .int n_laid])), (n1, .inl (cyI, 12, .inl n_shelf)), (n2, .inl (cyI, 12, .inl n_stack)), (n3, .inl (cyI, 12, .inl n_level)), (n4, .inl (cyI, 30, .inl n_asking))]) C (c_X10_stranded l D cyC cyI cyJ cyZ cyO x0 a0 a1 a2 a3 a4 a7 a8 a10 q0 q1 k0 k1 k2 k3 r0 n0 k0 x1 o0 h0 s0 d0 a5 a6 a9 k4 a_wares a_shelves a_nests a_lids a_tops (u_11.2.1 1) n_askings n_cost k_laid a_wide a_deep a_weight a_bears a_mayOn a_height a_room (u_11.2.2.1 0) (u_17.2.2.1 0) (u_17.2.2.1 1) (u_17.2.2.1 2) h_a_wares h_a_shelves h_a_nests hw_12_1 h_n_askings h_k_laid h_a_room hw_12_2 hw_18_0 hw_18_1 hw_18_2) wd_571 wd_482 wd_572 wd_573 wd_574 ⟨by decide, by decide, rfl⟩ rfl ⟨rfl, rfl, by decide, by decide⟩ ⟨by decide, by decide⟩ [1, 2, 3, 4, 5, 6, 7, 8, 9, 10, 11, 18, 19, 20, 21] [0, 12, 13, 14, 15, 16, 17] rfl rfl ⟨by decide, by decide, by decide⟩ 1 rfl rfl rfl (Nat.le_of_ble_eq_true rfl) dX10_bestPlace_98 (fun u_19 hw_20 => ?_)
                refine j_eq (ws2 := [(a9, .inl (cyI, 4, .inl a_reach)), (k4, .inl (cyI, 30, .inl n_asking)), (n0, .inr (7, [.ref n1, .ref n2, .ref n3, .ref n4, .int n_askings, .int n_cost, .int n_laid])), (n1, .inl (cyI, 12, .inl n_shelf)), (n2, .inl (cyI, 12, .inl n_stack)), (n3, .inl (cyI, 12, .inl n_level)), (n4, .inl (cyI, 30, .inl n_asking)), (x0, .inr (10, [.ref r0, .ref a0, .ref n0, .ref k0, .ref x1, .ref q0, .ref o0, .ref h0, .ref s0, .ref d0])), (a0, .inr (9, [.int a_wares, .int a_shelves, .int a_nests, .ref a1, .ref a2, .ref a3, .ref a4, .ref a5, .ref a6, .int a_lids, .int a_tops, .ref a7, .ref a8, .ref a9, .ref a10])), (a1, .inl (cyI, 12, .inl a_wide)), (a2, .inl (cyI, 12, .inl a_deep)), (a3, .inl (cyI, 12, .inl a_weight)), (a4, .inl (cyI, 12, .inl a_bears)), (a7, .inl (cyI, 12, .inl a_mayOn)), (a8, .inl (cyI, 4, .inl a_height)), (a10, .inl (cyI, 4, .inl a_room)), (q0, .inr (4, [.ref q1, .int (u_19.2.1 1)])), (q1, .inl (cyI, 12, .inl (u_19.2.2.1 0))), (k0, .inr (7, [.ref k1, .ref k2, .ref k3, .ref k4, .int n_askings, .int n_cost, .int k_laid])), (k1, .inl (cyI, 12, .inl (u_17.2.2.1 0))), (k2, .inl (cyI, 12, .inl (u_17.2.2.1 1))), (k3, .inl (cyI, 12, .inl (u_17.2.2.1 2)))]) (pc2 := 101) (lv2 := [(6, .int x8_6), (5, .int (u_6.2.1 0)), (4, .int v_5), (3, .int x1_3), (2, .int x8_2), (0, .ref x0), (1, .int p0)]) (st2 := [.int (u_19.2.1 0)]) rfl rfl rfl rfl ?_
                obtain ⟨hw_20_0, hw_20_1⟩ := hw_20
                refine j_bipush (pc := 101) (v := 16) C dX10_bestPlace_101 (by decide) ?_
                obtain ⟨v_21, ev_21⟩ : ∃ z : Int32, (u_19.2.1 0) <<< (16 &&& 31) = z := ⟨_, rfl⟩
                have el_16 : (16 : Int32).toInt = 16 := rfl
                have hv_21 := i_bd v_21
                refine j_ishl (pc := 103) (v := v_21) C dX10_bestPlace_103 ev_21 ?_
                refine j_iload (pc := 104) C dX10_bestPlace_104 2 rfl ?_
                refine j_bipush (pc := 106) (v := 8) C dX10_bestPlace_106 (by decide) ?_
                obtain ⟨v_22, ev_22⟩ : ∃ z : Int32, v_5 <<< (8 &&& 31) = z := ⟨_, rfl⟩
                have el_8 : (8 : Int32).toInt = 8 := rfl
                have hv_22 := i_bd v_22
                refine j_ishl (pc := 108) (v := v_22) C dX10_bestPlace_108 ev_22 ?_
                obtain ⟨v_23, ev_23⟩ : ∃ z : Int32, v_21 ||| v_22 = z := ⟨_, rfl⟩
                refine j_ior (pc := 109) (v := v_23) C dX10_bestPlace_109 ev_23 ?_
                refine j_iload_n (pc := 110) C dX10_bestPlace_110 rfl 3 rfl ?_
                refine j_iconst (pc := 111) (v := 4) C dX10_bestPlace_111 (by decide) ?_
                obtain ⟨v_24, ev_24⟩ : ∃ z : Int32, x1_3 <<< (4 &&& 31) = z := ⟨_, rfl⟩
                have el_4 : (4 : Int32).toInt = 4 := rfl
                have hv_24 := i_bd v_24
                refine j_ishl (pc := 112) (v := v_24) C dX10_bestPlace_112 ev_24 ?_
                obtain ⟨v_25, ev_25⟩ : ∃ z : Int32, v_23 ||| v_24 = z := ⟨_, rfl⟩
                refine j_ior (pc := 113) (v := v_25) C dX10_bestPlace_113 ev_25 ?_
                refine j_iload (pc := 114) C dX10_bestPlace_114 0 rfl ?_
                obtain ⟨v_26, ev_26⟩ : ∃ z : Int32, v_25 ||| x8_6 = z := ⟨_, rfl⟩
                refine j_ior (pc := 116) (v := v_26) C dX10_bestPlace_116 ev_26 ?_
                refine j_istore (pc := 117) (lv' := [(7, .int v_26), (6, .int x8_6), (5, .int (u_6.2.1 0)), (4, .int v_5), (3, .int x1_3), (2, .int x8_2), (0, .ref x0), (1, .int p0)]) C dX10_bestPlace_117 (by decide) rfl ?_
                refine j_iload_n (pc := 119) C dX10_bestPlace_119 rfl 5 rfl ?_
                refine j_iconst (pc := 120) (v := (-1)) C dX10_bestPlace_120 (by decide) ?_
                refine j_icmp_eq (pc := 121) (tgt := 130) C dX10_bestPlace_121 (by decide) (fun c_27 => ?_) (fun c_27 => ?_)
                · skip
                  have el_m1 : ((-1) : Int32).toInt = (-1) := rfl
                  rw [i_eq] at c_27
                  refine j_iload (pc := 130) C dX10_bestPlace_130 0 rfl ?_
                  refine j_goto (pc := 132) (tgt := 136) C dX10_bestPlace_132 (by decide) ?_
                  refine j_istore_n (pc := 136) (lv' := [(2, .int v_26), (7, .int v_26), (6, .int x8_6), (5, .int (u_6.2.1 0)), (4, .int v_5), (3, .int x1_3), (0, .ref x0), (1, .int p0)]) C dX10_bestPlace_136 rfl (by decide) rfl ?_
                  obtain ⟨v_28, ev_28⟩ : ∃ z : Int32, x8_6 + 1 = z := ⟨_, rfl⟩
                  have el_1 : (1 : Int32).toInt = 1 := rfl
                  have hv_28 : v_28.toInt = x8_6.toInt + (1 : Int32).toInt := by rw [← ev_28]; exact fb_addI (by omega) (by omega)
                  refine j_iinc (pc := 137) (v := v_28) (lv' := [(6, .int v_28), (2, .int v_26), (7, .int v_26), (5, .int (u_6.2.1 0)), (4, .int v_5), (3, .int x1_3), (0, .ref x0), (1, .int p0)]) C dX10_bestPlace_137 2 rfl ev_28 (by decide) rfl ?_
                  refine j_goto (pc := 140) (tgt := 49) C dX10_bestPlace_140 (by decide) ?_
                  refine j_subG (ws' := [(x0, .inr (10, [.ref r0, .ref a0, .ref n0, .ref k0, .ref x1, .ref q0, .ref o0, .ref h0, .ref s0, .ref d0])), (a0, .inr (9, [.int a_wares, .int a_shelves, .int a_nests, .ref a1, .ref a2, .ref a3, .ref a4, .ref a5, .ref a6, .int a_lids, .int a_tops, .ref a7, .ref a8, .ref a9, .ref a10])), (a1, .inl (cyI, 12, .inl a_wide)), (a2, .inl (cyI, 12, .inl a_deep)), (a3, .inl (cyI, 12, .inl a_weight)), (a4, .inl (cyI, 12, .inl a_bears)), (a7, .inl (cyI, 12, .inl a_mayOn)), (a8, .inl (cyI, 4, .inl a_height)), (a9, .inl (cyI, 4, .inl a_reach)), (a10, .inl (cyI, 4, .inl a_room)), (n3, .inl (cyI, 12, .inl n_level)), (n4, .inl (cyI, 30, .inl n_asking)), (k0, .inr (7, [.ref k1, .ref k2, .ref k3, .ref k4, .int n_askings, .int n_cost, .int k_laid])), (k1, .inl (cyI, 12, .inl (u_17.2.2.1 0))), (k2, .inl (cyI, 12, .inl (u_17.2.2.1 1))), (k3, .inl (cyI, 12, .inl (u_17.2.2.1 2))), (k4, .inl (cyI, 30, .inl n_asking)), (q0, .inr (4, [.ref q1, .int (u_19.2.1 1)])), (q1, .inl (cyI, 12, .inl (u_19.2.2.1 0))), (n0, .inr (7, [.ref n1, .ref n2, .ref n3, .ref n4, .int n_askings, .int n_cost, .int n_laid])), (n1, .inl (cyI, 12, .inl n_shelf)), (n2, .inl (cyI, 12, .inl n_stack))]) [7, 8, 9, 10, 11, 12, 13, 14, 0, 15, 5, 6, 18, 19, 20, 21, 1, 16, 17, 2, 3, 4] (by decide) rfl ?_
                  exact j_lv [0, 3, 4, 5, 1, 6, 7] rfl (ih_8 v_28 v_26 n_askings n_cost (u_17.2.2.1 0) (u_17.2.2.1 1) (u_17.2.2.1 2) n_asking (u_19.2.1 1) (u_19.2.2.1 0) (by omega) h_n_askings hw_18_0 hw_18_1 hw_18_2 h_n_asking hw_20_0 hw_20_1 (by omega))
                · skip
                  have el_m1 : ((-1) : Int32).toInt = (-1) := rfl
                  rw [i_eq] at c_27
                  refine j_iload (pc := 124) C dX10_bestPlace_124 0 rfl ?_
                  refine j_iload_n (pc := 126) C dX10_bestPlace_126 rfl 5 rfl ?_
                  refine j_icmp_ge (pc := 127) (tgt := 135) C dX10_bestPlace_127 (by decide) (fun c_29 => ?_) (fun c_29 => ?_)
                  · skip
                    rw [i_le] at c_29
                    refine j_iload_n (pc := 135) C dX10_bestPlace_135 rfl 5 rfl ?_
                    refine j_istore_n (pc := 136) (lv' := [(2, .int x8_2), (7, .int v_26), (6, .int x8_6), (5, .int (u_6.2.1 0)), (4, .int v_5), (3, .int x1_3), (0, .ref x0), (1, .int p0)]) C dX10_bestPlace_136 rfl (by decide) rfl ?_
                    obtain ⟨v_30, ev_30⟩ : ∃ z : Int32, x8_6 + 1 = z := ⟨_, rfl⟩
                    have el_1 : (1 : Int32).toInt = 1 := rfl
                    have hv_30 : v_30.toInt = x8_6.toInt + (1 : Int32).toInt := by rw [← ev_30]; exact fb_addI (by omega) (by omega)
                    refine j_iinc (pc := 137) (v := v_30) (lv' := [(6, .int v_30), (2, .int x8_2), (7, .int v_26), (5, .int (u_6.2.1 0)), (4, .int v_5), (3, .int x1_3), (0, .ref x0), (1, .int p0)]) C dX10_bestPlace_137 2 rfl ev_30 (by decide) rfl ?_
                    refine j_goto (pc := 140) (tgt := 49) C dX10_bestPlace_140 (by decide) ?_
                    refine j_subG (ws' := [(x0, .inr (10, [.ref r0, .ref a0, .ref n0, .ref k0, .ref x1, .ref q0, .ref o0, .ref h0, .ref s0, .ref d0])), (a0, .inr (9, [.int a_wares, .int a_shelves, .int a_nests, .ref a1, .ref a2, .ref a3, .ref a4, .ref a5, .ref a6, .int a_lids, .int a_tops, .ref a7, .ref a8, .ref a9, .ref a10])), (a1, .inl (cyI, 12, .inl a_wide)), (a2, .inl (cyI, 12, .inl a_deep)), (a3, .inl (cyI, 12, .inl a_weight)), (a4, .inl (cyI, 12, .inl a_bears)), (a7, .inl (cyI, 12, .inl a_mayOn)), (a8, .inl (cyI, 4, .inl a_height)), (a9, .inl (cyI, 4, .inl a_reach)), (a10, .inl (cyI, 4, .inl a_room)), (n3, .inl (cyI, 12, .inl n_level)), (n4, .inl (cyI, 30, .inl n_asking)), (k0, .inr (7, [.ref k1, .ref k2, .ref k3, .ref k4, .int n_askings, .int n_cost, .int k_laid])), (k1, .inl (cyI, 12, .inl (u_17.2.2.1 0))), (k2, .inl (cyI, 12, .inl (u_17.2.2.1 1))), (k3, .inl (cyI, 12, .inl (u_17.2.2.1 2))), (k4, .inl (cyI, 30, .inl n_asking)), (q0, .inr (4, [.ref q1, .int (u_19.2.1 1)])), (q1, .inl (cyI, 12, .inl (u_19.2.2.1 0))), (n0, .inr (7, [.ref n1, .ref n2, .ref n3, .ref n4, .int n_askings, .int n_cost, .int n_laid])), (n1, .inl (cyI, 12, .inl n_shelf)), (n2, .inl (cyI, 12, .inl n_stack))]) [7, 8, 9, 10, 11, 12, 13, 14, 0, 15, 5, 6, 18, 19, 20, 21, 1, 16, 17, 2, 3, 4] (by decide) rfl ?_
                    exact j_lv [0, 3, 4, 5, 1, 6, 7] rfl (ih_8 v_30 x8_2 n_askings n_cost (u_17.2.2.1 0) (u_17.2.2.1 1) (u_17.2.2.1 2) n_asking (u_19.2.1 1) (u_19.2.2.1 0) (by omega) h_n_askings hw_18_0 hw_18_1 hw_18_2 h_n_asking hw_20_0 hw_20_1 (by omega))
                  · skip
                    rw [i_le] at c_29
                    refine j_iload (pc := 130) C dX10_bestPlace_130 0 rfl ?_
                    refine j_goto (pc := 132) (tgt := 136) C dX10_bestPlace_132 (by decide) ?_
                    refine j_istore_n (pc := 136) (lv' := [(2, .int v_26), (7, .int v_26), (6, .int x8_6), (5, .int (u_6.2.1 0)), (4, .int v_5), (3, .int x1_3), (0, .ref x0), (1, .int p0)]) C dX10_bestPlace_136 rfl (by decide) rfl ?_
                    obtain ⟨v_31, ev_31⟩ : ∃ z : Int32, x8_6 + 1 = z := ⟨_, rfl⟩
                    have el_1 : (1 : Int32).toInt = 1 := rfl
                    have hv_31 : v_31.toInt = x8_6.toInt + (1 : Int32).toInt := by rw [← ev_31]; exact fb_addI (by omega) (by omega)
                    refine j_iinc (pc := 137) (v := v_31) (lv' := [(6, .int v_31), (2, .int v_26), (7, .int v_26), (5, .int (u_6.2.1 0)), (4, .int v_5), (3, .int x1_3), (0, .ref x0), (1, .int p0)]) C dX10_bestPlace_137 2 rfl ev_31 (by decide) rfl ?_
                    refine j_goto (pc := 140) (tgt := 49) C dX10_bestPlace_140 (by decide) ?_
                    refine j_subG (ws' := [(x0, .inr (10, [.ref r0, .ref a0, .ref n0, .ref k0, .ref x1, .ref q0, .ref o0, .ref h0, .ref s0, .ref d0])), (a0, .inr (9, [.int a_wares, .int a_shelves, .int a_nests, .ref a1, .ref a2, .ref a3, .ref a4, .ref a5, .ref a6, .int a_lids, .int a_tops, .ref a7, .ref a8, .ref a9, .ref a10])), (a1, .inl (cyI, 12, .inl a_wide)), (a2, .inl (cyI, 12, .inl a_deep)), (a3, .inl (cyI, 12, .inl a_weight)), (a4, .inl (cyI, 12, .inl a_bears)), (a7, .inl (cyI, 12, .inl a_mayOn)), (a8, .inl (cyI, 4, .inl a_height)), (a9, .inl (cyI, 4, .inl a_reach)), (a10, .inl (cyI, 4, .inl a_room)), (n3, .inl (cyI, 12, .inl n_level)), (n4, .inl (cyI, 30, .inl n_asking)), (k0, .inr (7, [.ref k1, .ref k2, .ref k3, .ref k4, .int n_askings, .int n_cost, .int k_laid])), (k1, .inl (cyI, 12, .inl (u_17.2.2.1 0))), (k2, .inl (cyI, 12, .inl (u_17.2.2.1 1))), (k3, .inl (cyI, 12, .inl (u_17.2.2.1 2))), (k4, .inl (cyI, 30, .inl n_asking)), (q0, .inr (4, [.ref q1, .int (u_19.2.1 1)])), (q1, .inl (cyI, 12, .inl (u_19.2.2.1 0))), (n0, .inr (7, [.ref n1, .ref n2, .ref n3, .ref n4, .int n_askings, .int n_cost, .int n_laid])), (n1, .inl (cyI, 12, .inl n_shelf)), (n2, .inl (cyI, 12, .inl n_stack))]) [7, 8, 9, 10, 11, 12, 13, 14, 0, 15, 5, 6, 18, 19, 20, 21, 1, 16, 17, 2, 3, 4] (by decide) rfl ?_
                    exact j_lv [0, 3, 4, 5, 1, 6, 7] rfl (ih_8 v_31 v_26 n_askings n_cost (u_17.2.2.1 0) (u_17.2.2.1 1) (u_17.2.2.1 2) n_asking (u_19.2.1 1) (u_19.2.2.1 0) (by omega) h_n_askings hw_18_0 hw_18_1 hw_18_2 h_n_asking hw_20_0 hw_20_1 (by omega))
        have el_0 : (0 : Int32).toInt = 0 := rfl
        exact j_lv [0, 1, 2, 3, 4, 5, 6] rfl (loop_8 4096 0 x1_2 y1_k0_4 y1_k0_5 g1_k1 g1_k2 g1_k3 g1_k4 y1_q0_1 g1_q1 (by decide) hi_1_2 hi_1_4 hi_1_5 hi_1_6 hi_1_7 hi_1_8 hi_1_9 (by omega))
  have el_0 : (0 : Int32).toInt = 0 := rfl
  have el_m1 : ((-1) : Int32).toInt = (-1) := rfl
  exact j_lv [0, 1, 2, 3] rfl (loop_1 4096 0 (-1) k_askings k_cost k_shelf k_stack k_level k_asking q_size q_ware (by decide) h_k_askings h_k_shelf h_k_stack h_k_level h_k_asking h_q_size h_q_ware (by omega))
set_option maxHeartbeats 4000000 in
set_option maxRecDepth 100000 in
theorem c_X10_goes (l : Launch) (D : DG) (cyC cyI cyJ cyZ cyO : ClassId) (x0 : Nat) (a0 : Nat) (a1 : Nat) (a2 : Nat) (a3 : Nat) (a4 : Nat) (a7 : Nat) (a8 : Nat) (a9 : Nat) (a10 : Nat) (n0 : Nat) (n1 : Nat) (n2 : Nat) (n3 : Nat) (n4 : Nat) (k0 : Nat) (k1 : Nat) (k2 : Nat) (k3 : Nat) (k4 : Nat) (q0 : Nat) (q1 : Nat) (r0 : Nat) (x1 : Nat) (o0 : Nat) (h0 : Nat) (s0 : Nat) (d0 : Nat) (a5 : Nat) (a6 : Nat) (p0 : Int32) (p1 : Int32) (a_wares : Int32) (a_shelves : Int32) (a_nests : Int32) (a_lids : Int32) (a_tops : Int32) (n_askings : Int32) (n_cost : Int32) (n_laid : Int32) (k_askings : Int32) (k_cost : Int32) (k_laid : Int32) (q_size : Int32) (a_wide : Nat → Int32) (a_deep : Nat → Int32) (a_weight : Nat → Int32) (a_bears : Nat → Int32) (a_mayOn : Nat → Int32) (a_height : Nat → Int32) (a_reach : Nat → Int32) (a_room : Nat → Int32) (n_shelf : Nat → Int32) (n_stack : Nat → Int32) (n_level : Nat → Int32) (n_asking : Nat → Int32) (k_shelf : Nat → Int32) (k_stack : Nat → Int32) (k_level : Nat → Int32) (k_asking : Nat → Int32) (q_ware : Nat → Int32) (h_a_wares : 0 ≤ (a_wares).toInt ∧ (a_wares).toInt ≤ 12) (h_a_shelves : 0 ≤ (a_shelves).toInt ∧ (a_shelves).toInt ≤ 4) (h_a_nests : 0 ≤ (a_nests).toInt ∧ (a_nests).toInt ≤ 4) (h_n_askings : 0 ≤ (n_askings).toInt ∧ (n_askings).toInt ≤ 30) (h_n_laid : 0 ≤ (n_laid).toInt ∧ (n_laid).toInt ≤ 1) (h_k_askings : 0 ≤ (k_askings).toInt ∧ (k_askings).toInt ≤ 30) (h_k_laid : 0 ≤ (k_laid).toInt ∧ (k_laid).toInt ≤ 1) (h_q_size : 0 ≤ (q_size).toInt ∧ (q_size).toInt ≤ 12) (h_a_room : Iv 4 (0) (8) a_room) (h_n_shelf : Iv 12 (-1) (3) n_shelf) (h_n_stack : Iv 12 (0) (7) n_stack) (h_n_level : Iv 12 (0) (11) n_level) (h_n_asking : Iv 30 (0) (11) n_asking) (h_k_shelf : Iv 12 (-1) (3) k_shelf) (h_k_stack : Iv 12 (0) (7) k_stack) (h_k_level : Iv 12 (0) (11) k_level) (h_k_asking : Iv 30 (0) (11) k_asking) (h_q_ware : Iv 12 (0) (11) q_ware) : KK l D (TY cyC cyI cyJ cyZ cyO) yX10_goes cX10_goes 4 (some .int) ({ frames := 7, cells := 0, slots := 0, locals := 169 } : Room) 0 0 [.ref x0, .int p0, .int p1] [(x0, .inr (10, [.ref r0, .ref a0, .ref n0, .ref k0, .ref x1, .ref q0, .ref o0, .ref h0, .ref s0, .ref d0])), (a0, .inr (9, [.int a_wares, .int a_shelves, .int a_nests, .ref a1, .ref a2, .ref a3, .ref a4, .ref a5, .ref a6, .int a_lids, .int a_tops, .ref a7, .ref a8, .ref a9, .ref a10])), (a1, .inl (cyI, 12, .inl a_wide)), (a2, .inl (cyI, 12, .inl a_deep)), (a3, .inl (cyI, 12, .inl a_weight)), (a4, .inl (cyI, 12, .inl a_bears)), (a7, .inl (cyI, 12, .inl a_mayOn)), (a8, .inl (cyI, 4, .inl a_height)), (a9, .inl (cyI, 4, .inl a_reach)), (a10, .inl (cyI, 4, .inl a_room)), (n0, .inr (7, [.ref n1, .ref n2, .ref n3, .ref n4, .int n_askings, .int n_cost, .int n_laid])), (n1, .inl (cyI, 12, .inl n_shelf)), (n2, .inl (cyI, 12, .inl n_stack)), (n3, .inl (cyI, 12, .inl n_level)), (n4, .inl (cyI, 30, .inl n_asking)), (k0, .inr (7, [.ref k1, .ref k2, .ref k3, .ref k4, .int k_askings, .int k_cost, .int k_laid])), (k1, .inl (cyI, 12, .inl k_shelf)), (k2, .inl (cyI, 12, .inl k_stack)), (k3, .inl (cyI, 12, .inl k_level)), (k4, .inl (cyI, 30, .inl k_asking)), (q0, .inr (4, [.ref q1, .int q_size])), (q1, .inl (cyI, 12, .inl q_ware))] (fun u => some (.int (u.2.1 0))) (fun u => (0 ≤ (u.2.1 1).toInt ∧ (u.2.1 1).toInt ≤ 30) ∧ (Iv 12 (-1) (3) (u.2.2.1 0)) ∧ (Iv 12 (0) (7) (u.2.2.1 1)) ∧ (Iv 12 (0) (11) (u.2.2.1 2)) ∧ (Iv 30 (0) (11) (u.2.2.1 3)) ∧ (0 ≤ (u.2.1 3).toInt ∧ (u.2.1 3).toInt ≤ 12) ∧ (Iv 12 (0) (11) (u.2.2.1 4))) (fun u => [(x0, .inr (10, [.ref r0, .ref a0, .ref n0, .ref k0, .ref x1, .ref q0, .ref o0, .ref h0, .ref s0, .ref d0])), (a0, .inr (9, [.int a_wares, .int a_shelves, .int a_nests, .ref a1, .ref a2, .ref a3, .ref a4, .ref a5, .ref a6, .int a_lids, .int a_tops, .ref a7, .ref a8, .ref a9, .ref a10])), (a1, .inl (cyI, 12, .inl a_wide)), (a2, .inl (cyI, 12, .inl a_deep)), (a3, .inl (cyI, 12, .inl a_weight)), (a4, .inl (cyI, 12, .inl a_bears)), (a7, .inl (cyI, 12, .inl a_mayOn)), (a8, .inl (cyI, 4, .inl a_height)), (a9, .inl (cyI, 4, .inl a_reach)), (a10, .inl (cyI, 4, .inl a_room)), (n0, .inr (7, [.ref n1, .ref n2, .ref n3, .ref n4, .int n_askings, .int n_cost, .int n_laid])), (n1, .inl (cyI, 12, .inl n_shelf)), (n2, .inl (cyI, 12, .inl n_stack)), (n3, .inl (cyI, 12, .inl n_level)), (n4, .inl (cyI, 30, .inl n_asking)), (k0, .inr (7, [.ref k1, .ref k2, .ref k3, .ref k4, .int (u.2.1 1), .int (u.2.1 2), .int k_laid])), (k1, .inl (cyI, 12, .inl (u.2.2.1 0))), (k2, .inl (cyI, 12, .inl (u.2.2.1 1))), (k3, .inl (cyI, 12, .inl (u.2.2.1 2))), (k4, .inl (cyI, 30, .inl (u.2.2.1 3))), (q0, .inr (4, [.ref q1, .int (u.2.1 3)])), (q1, .inl (cyI, 12, .inl (u.2.2.1 4)))]) := by
  refine KK.of (lv0 := [(0, .ref x0), (1, .int p0), (2, .int p1)]) (by decide) rfl (Nat.le_of_ble_eq_true rfl) ?_
  intro p e s m args below meth c A C hr hk hin
  refine j_aload_n (pc := 0) C dX10_goes_0 rfl 0 rfl ?_
  refine j_get (pc := 1) (ci := 10) (v := .ref a0) C inw_10 0 rfl rfl 1 (by decide) wd_447 rfl rfl dX10_goes_1 ?_
  refine j_iload_n (pc := 4) C dX10_goes_4 rfl 1 rfl ?_
  refine j_callV (pc := 5) (As := [.int p0]) (rest := []) (wr := [(x0, .inr (10, [.ref r0, .ref a0, .ref n0, .ref k0, .ref x1, .ref q0, .ref o0, .ref h0, .ref s0, .ref d0])), (a1, .inl (cyI, 12, .inl a_wide)), (a2, .inl (cyI, 12, .inl a_deep)), (a3, .inl (cyI, 12, .inl a_weight)), (a4, .inl (cyI, 12, .inl a_bears)), (a7, .inl (cyI, 12, .inl a_mayOn)), (a8, .inl (cyI, 4, .inl a_height)), (a9, .inl (cyI, 4, .inl a_reach)), (a10, .inl (cyI, 4, .inl a_room)), (n0, .inr (7, [.ref n1, .ref n2, .ref n3, .ref n4, .int n_askings, .int n_cost, .int n_laid])), (n1, .inl (cyI, 12, .inl n_shelf)), (n2, .inl (cyI, 12, .inl n_stack)), (n3, .inl (cyI, 12, .inl n_level)), (n4, .inl (cyI, 30, .inl n_asking)), (k0, .inr (7, [.ref k1, .ref k2, .ref k3, .ref k4, .int k_askings, .int k_cost, .int k_laid])), (k1, .inl (cyI, 12, .inl k_shelf)), (k2, .inl (cyI, 12, .inl k_stack)), (k3, .inl (cyI, 12, .inl k_level)), (k4, .inl (cyI, 30, .inl k_asking)), (q0, .inr (4, [.ref q1, .int q_size])), (q1, .inl (cyI, 12, .inl q_ware))]) C (c_X9_isWare l D cyC cyI cyJ cyZ cyO a0 a1 a2 a3 a4 a5 a6 a7 a8 a9 a10 p0 a_wares a_shelves a_nests a_lids a_tops h_a_wares h_a_shelves h_a_nests) wd_467 wd_33 wd_468 wd_469 wd_470 ⟨by decide, by decide, rfl⟩ rfl ⟨rfl, rfl, by decide, by decide⟩ ⟨by decide, by decide⟩ [1] [0, 2, 3, 4, 5, 6, 7, 8, 9, 10, 11, 12, 13, 14, 15, 16, 17, 18, 19, 20, 21] rfl rfl ⟨by decide, by decide, by decide⟩ 1 rfl rfl rfl (Nat.le_of_ble_eq_true rfl) dX10_goes_5 (fun u_1 hw_2 => ?_)
  refine j_eq (ws2 := [(x0, .inr (10, [.ref r0, .ref a0, .ref n0, .ref k0, .ref x1, .ref q0, .ref o0, .ref h0, .ref s0, .ref d0])), (a1, .inl (cyI, 12, .inl a_wide)), (a2, .inl (cyI, 12, .inl a_deep)), (a3, .inl (cyI, 12, .inl a_weight)), (a4, .inl (cyI, 12, .inl a_bears)), (a7, .inl (cyI, 12, .inl a_mayOn)), (a8, .inl (cyI, 4, .inl a_height)), (a9, .inl (cyI, 4, .inl a_reach)), (a10, .inl (cyI, 4, .inl a_room)), (n0, .inr (7, [.ref n1, .ref n2, .ref n3, .ref n4, .int n_askings, .int n_cost, .int n_laid])), (n1, .inl (cyI, 12, .inl n_shelf)), (n2, .inl (cyI, 12, .inl n_stack)), (n3, .inl (cyI, 12, .inl n_level)), (n4, .inl (cyI, 30, .inl n_asking)), (k0, .inr (7, [.ref k1, .ref k2, .ref k3, .ref k4, .int k_askings, .int k_cost, .int k_laid])), (k1, .inl (cyI, 12, .inl k_shelf)), (k2, .inl (cyI, 12, .inl k_stack)), (k3, .inl (cyI, 12, .inl k_level)), (k4, .inl (cyI, 30, .inl k_asking)), (q0, .inr (4, [.ref q1, .int q_size])), (q1, .inl (cyI, 12, .inl q_ware)), (a0, .inr (9, [.int a_wares, .int a_shelves, .int a_nests, .ref a1, .ref a2, .ref a3, .ref a4, .ref a5, .ref a6, .int a_lids, .int a_tops, .ref a7, .ref a8, .ref a9, .ref a10]))]) (pc2 := 8) (lv2 := [(0, .ref x0), (1, .int p0), (2, .int p1)]) (st2 := [.int (u_1.2.1 0)]) rfl rfl rfl rfl ?_
  obtain ⟨hw_2_0, hw_2_1, hw_2_2⟩ := hw_2
  refine j_if_eq (pc := 8) (tgt := 22) C dX10_goes_8 (by decide) (fun c_3 => ?_) (fun c_3 => ?_)
  · skip
    have el_0 : (0 : Int32).toInt = 0 := rfl
    rw [i_eq] at c_3
    refine j_iconst (pc := 22) (v := (-1)) C dX10_goes_22 (by decide) ?_
    exact j_iret (pc := 23) C hr hk (fun i => [].getD i 0, fun i => [(-1), k_askings, k_cost, q_size].getD i 0, fun i => [k_shelf, k_stack, k_level, k_asking, q_ware].getD i (fun _ => 0), fun i => [].getD i (fun _ => 0)) rfl (show (0 ≤ (k_askings).toInt ∧ (k_askings).toInt ≤ 30) ∧ (Iv 12 (-1) (3) k_shelf) ∧ (Iv 12 (0) (7) k_stack) ∧ (Iv 12 (0) (11) k_level) ∧ (Iv 30 (0) (11) k_asking) ∧ (0 ≤ (q_size).toInt ∧ (q_size).toInt ≤ 12) ∧ (Iv 12 (0) (11) q_ware) from ⟨h_k_askings, h_k_shelf, h_k_stack, h_k_level, h_k_asking, h_q_size, h_q_ware⟩) [0, 21, 1, 2, 3, 4, 5, 6, 7, 8, 9, 10, 11, 12, 13, 14, 15, 16, 17, 18, 19, 20] (by decide) rfl (by decide) (by decide) dX10_goes_23
  · skip
    have el_0 : (0 : Int32).toInt = 0 := rfl
    rw [i_eq] at c_3
    have k0c_3 : ((u_1.2.1 0)).toInt = 1 := by omega
    refine j_aload_n (pc := 11) C dX10_goes_11 rfl 0 rfl ?_
    refine j_get (pc := 12) (ci := 10) (v := .ref n0) C inw_10 0 rfl rfl 2 (by decide) wd_466 rfl rfl dX10_goes_12 ?_
    refine j_iload_n (pc := 15) C dX10_goes_15 rfl 1 rfl ?_
    refine j_callV (pc := 16) (As := [.int p0]) (rest := []) (wr := [(x0, .inr (10, [.ref r0, .ref a0, .ref n0, .ref k0, .ref x1, .ref q0, .ref o0, .ref h0, .ref s0, .ref d0])), (a1, .inl (cyI, 12, .inl a_wide)), (a2, .inl (cyI, 12, .inl a_deep)), (a3, .inl (cyI, 12, .inl a_weight)), (a4, .inl (cyI, 12, .inl a_bears)), (a7, .inl (cyI, 12, .inl a_mayOn)), (a8, .inl (cyI, 4, .inl a_height)), (a9, .inl (cyI, 4, .inl a_reach)), (a10, .inl (cyI, 4, .inl a_room)), (n2, .inl (cyI, 12, .inl n_stack)), (n3, .inl (cyI, 12, .inl n_level)), (n4, .inl (cyI, 30, .inl n_asking)), (k0, .inr (7, [.ref k1, .ref k2, .ref k3, .ref k4, .int k_askings, .int k_cost, .int k_laid])), (k1, .inl (cyI, 12, .inl k_shelf)), (k2, .inl (cyI, 12, .inl k_stack)), (k3, .inl (cyI, 12, .inl k_level)), (k4, .inl (cyI, 30, .inl k_asking)), (q0, .inr (4, [.ref q1, .int q_size])), (q1, .inl (cyI, 12, .inl q_ware)), (a0, .inr (9, [.int a_wares, .int a_shelves, .int a_nests, .ref a1, .ref a2, .ref a3, .ref a4, .ref a5, .ref a6, .int a_lids, .int a_tops, .ref a7, .ref a8, .ref a9, .ref a10]))]) C (c_X7_isOut l D cyC cyI cyJ cyZ cyO n0 n1 n2 n3 n4 p0 n_askings n_cost n_laid n_shelf h_n_askings h_n_laid (by omega) h_n_shelf) wd_13 wd_9 wd_480 wd_15 wd_16 ⟨by decide, by decide, rfl⟩ rfl ⟨rfl, rfl, by decide, by decide⟩ ⟨by decide, by decide⟩ [9, 10] [0, 1, 2, 3, 4, 5, 6, 7, 8, 11, 12, 13, 14, 15, 16, 17, 18, 19, 20, 21] rfl rfl ⟨by decide, by decide, by decide⟩ 9 rfl rfl rfl (Nat.le_of_ble_eq_true rfl) dX10_goes_16 (fun u_4 hw_5 => ?_)
    refine j_eq (ws2 := [(x0, .inr (10, [.ref r0, .ref a0, .ref n0, .ref k0, .ref x1, .ref q0, .ref o0, .ref h0, .ref s0, .ref d0])), (a1, .inl (cyI, 12, .inl a_wide)), (a2, .inl (cyI, 12, .inl a_deep)), (a3, .inl (cyI, 12, .inl a_weight)), (a4, .inl (cyI, 12, .inl a_bears)), (a7, .inl (cyI, 12, .inl a_mayOn)), (a8, .inl (cyI, 4, .inl a_height)), (a9, .inl (cyI, 4, .inl a_reach)), (a10, .inl (cyI, 4, .inl a_room)), (n2, .inl (cyI, 12, .inl n_stack)), (n3, .inl (cyI, 12, .inl n_level)), (n4, .inl (cyI, 30, .inl n_asking)), (k0, .inr (7, [.ref k1, .ref k2, .ref k3, .ref k4, .int k_askings, .int k_cost, .int k_laid])), (k1, .inl (cyI, 12, .inl k_shelf)), (k2, .inl (cyI, 12, .inl k_stack)), (k3, .inl (cyI, 12, .inl k_level)), (k4, .inl (cyI, 30, .inl k_asking)), (q0, .inr (4, [.ref q1, .int q_size])), (q1, .inl (cyI, 12, .inl q_ware)), (a0, .inr (9, [.int a_wares, .int a_shelves, .int a_nests, .ref a1, .ref a2, .ref a3, .ref a4, .ref a5, .ref a6, .int a_lids, .int a_tops, .ref a7, .ref a8, .ref a9, .ref a10])), (n0, .inr (7, [.ref n1, .ref n2, .ref n3, .ref n4, .int n_askings, .int n_cost, .int n_laid])), (n1, .inl (cyI, 12, .inl n_shelf))]) (pc2 := 19) (lv2 := [(0, .ref x0), (1, .int p0), (2, .int p1)]) (st2 := [.int (u_4.2.1 0)]) rfl rfl rfl rfl ?_
    obtain ⟨hw_5_0, hw_5_1, hw_5_2⟩ := hw_5
    refine j_if_ne (pc := 19) (tgt := 24) C dX10_goes_19 (by decide) (fun c_6 => ?_) (fun c_6 => ?_)
    · skip
      have el_0 : (0 : Int32).toInt = 0 := rfl
      rw [i_eq] at c_6
      have k0c_6 : ((u_4.2.1 0)).toInt = 1 := by omega
      refine j_aload_n (pc := 24) C dX10_goes_24 rfl 0 rfl ?_
      refine j_iload_n (pc := 25) C dX10_goes_25 rfl 1 rfl ?_
      refine j_callV (pc := 26) (As := [.int p0]) (rest := []) (wr := []) C (c_X10_bestPlace l D cyC cyI cyJ cyZ cyO x0 a0 a1 a2 a3 a4 a7 a8 a9 a10 n0 n1 n2 n3 n4 k0 k1 k2 k3 k4 q0 q1 r0 x1 o0 h0 s0 d0 a5 a6 p0 a_wares a_shelves a_nests a_lids a_tops n_askings n_cost n_laid k_askings k_cost k_laid q_size a_wide a_deep a_weight a_bears a_mayOn a_height a_reach a_room n_shelf n_stack n_level n_asking k_shelf k_stack k_level k_asking q_ware h_a_wares h_a_shelves h_a_nests h_n_askings h_n_laid h_k_askings h_k_laid h_q_size (by omega) h_a_room h_n_shelf h_n_stack h_n_level h_n_asking h_k_shelf h_k_stack h_k_level h_k_asking h_q_ware (by rcases hw_5_1 with h | h; (exfalso; omega); exact h)) wd_575 wd_482 wd_576 wd_577 wd_578 ⟨by decide, by decide, rfl⟩ rfl ⟨rfl, rfl, by decide, by decide⟩ ⟨by decide, by decide⟩ [0, 19, 1, 2, 3, 4, 5, 6, 7, 8, 20, 21, 9, 10, 11, 12, 13, 14, 15, 16, 17, 18] [] rfl rfl ⟨by decide, by decide, by decide⟩ 0 rfl rfl rfl (Nat.le_of_ble_eq_true rfl) dX10_goes_26 (fun u_7 hw_8 => ?_)
      refine j_eq (ws2 := [(x0, .inr (10, [.ref r0, .ref a0, .ref n0, .ref k0, .ref x1, .ref q0, .ref o0, .ref h0, .ref s0, .ref d0])), (a0, .inr (9, [.int a_wares, .int a_shelves, .int a_nests, .ref a1, .ref a2, .ref a3, .ref a4, .ref a5, .ref a6, .int a_lids, .int a_tops, .ref a7, .ref a8, .ref a9, .ref a10])), (a1, .inl (cyI, 12, .inl a_wide)), (a2, .inl (cyI, 12, .inl a_deep)), (a3, .inl (cyI, 12, .inl a_weight)), (a4, .inl (cyI, 12, .inl a_bears)), (a7, .inl (cyI, 12, .inl a_mayOn)), (a8, .inl (cyI, 4, .inl a_height)), (a9, .inl (cyI, 4, .inl a_reach)), (a10, .inl (cyI, 4, .inl a_room)), (n0, .inr (7, [.ref n1, .ref n2, .ref n3, .ref n4, .int n_askings, .int n_cost, .int n_laid])), (n1, .inl (cyI, 12, .inl n_shelf)), (n2, .inl (cyI, 12, .inl n_stack)), (n3, .inl (cyI, 12, .inl n_level)), (n4, .inl (cyI, 30, .inl n_asking)), (k0, .inr (7, [.ref k1, .ref k2, .ref k3, .ref k4, .int (u_7.2.1 1), .int (u_7.2.1 2), .int k_laid])), (k1, .inl (cyI, 12, .inl (u_7.2.2.1 0))), (k2, .inl (cyI, 12, .inl (u_7.2.2.1 1))), (k3, .inl (cyI, 12, .inl (u_7.2.2.1 2))), (k4, .inl (cyI, 30, .inl (u_7.2.2.1 3))), (q0, .inr (4, [.ref q1, .int (u_7.2.1 3)])), (q1, .inl (cyI, 12, .inl (u_7.2.2.1 4)))]) (pc2 := 29) (lv2 := [(0, .ref x0), (1, .int p0), (2, .int p1)]) (st2 := [.int (u_7.2.1 0)]) rfl rfl rfl rfl ?_
      obtain ⟨hw_8_0, hw_8_1, hw_8_2, hw_8_3, hw_8_4, hw_8_5, hw_8_6⟩ := hw_8
      refine j_istore_n (pc := 29) (lv' := [(3, .int (u_7.2.1 0)), (0, .ref x0), (1, .int p0), (2, .int p1)]) C dX10_goes_29 rfl (by decide) rfl ?_
      refine j_iload_n (pc := 30) C dX10_goes_30 rfl 0 rfl ?_
      refine j_iconst (pc := 31) (v := (-1)) C dX10_goes_31 (by decide) ?_
      refine j_icmp_ne (pc := 32) (tgt := 37) C dX10_goes_32 (by decide) (fun c_9 => ?_) (fun c_9 => ?_)
      · skip
        have el_m1 : ((-1) : Int32).toInt = (-1) := rfl
        rw [i_eq] at c_9
        refine j_iload_n (pc := 37) C dX10_goes_37 rfl 3 rfl ?_
        rcases (by omega : p1.toInt = 0 ∨ p1.toInt = 1 ∨ p1.toInt = 2 ∨ (¬ p1.toInt = 0 ∧ ¬ p1.toInt = 1 ∧ ¬ p1.toInt = 2)) with sw_10 | sw_10 | sw_10 | sw_10
        · skip
          refine j_tin (pc := 38) (off := 26) (tgt := 64) C dX10_goes_38 (by omega) (by omega) (by rw [sw_10]; decide) (by decide) ?_
          refine j_iload_n (pc := 64) C dX10_goes_64 rfl 0 rfl ?_
          refine j_iconst (pc := 65) (v := 4) C dX10_goes_65 (by decide) ?_
          obtain ⟨v_11, ev_11⟩ : ∃ z : Int32, (((u_7.2.1 0) : Int32).toUInt32 >>> ((4 : Int32).toUInt32 &&& Int32.toUInt32 31)).toInt32 = z := ⟨_, rfl⟩
          have el_4 : (4 : Int32).toInt = 4 := rfl
          refine j_iushr (pc := 66) (v := v_11) C dX10_goes_66 ev_11 ?_
          refine j_bipush (pc := 67) (v := 15) C dX10_goes_67 (by decide) ?_
          obtain ⟨v_12, ev_12⟩ : ∃ z : Int32, v_11 &&& 15 = z := ⟨_, rfl⟩
          have el_15 : (15 : Int32).toInt = 15 := rfl
          have hv_12 : 0 ≤ v_12.toInt ∧ v_12.toInt ≤ 15 := by rw [← ev_12]; exact andm_r _ 4 (by decide) (by decide)
          refine j_iand (pc := 69) (v := v_12) C dX10_goes_69 ev_12 ?_
          exact j_iret (pc := 70) C hr hk (fun i => [].getD i 0, fun i => [v_12, (u_7.2.1 1), (u_7.2.1 2), (u_7.2.1 3)].getD i 0, fun i => [(u_7.2.2.1 0), (u_7.2.2.1 1), (u_7.2.2.1 2), (u_7.2.2.1 3), (u_7.2.2.1 4)].getD i (fun _ => 0), fun i => [].getD i (fun _ => 0)) rfl (show (0 ≤ ((u_7.2.1 1)).toInt ∧ ((u_7.2.1 1)).toInt ≤ 30) ∧ (Iv 12 (-1) (3) (u_7.2.2.1 0)) ∧ (Iv 12 (0) (7) (u_7.2.2.1 1)) ∧ (Iv 12 (0) (11) (u_7.2.2.1 2)) ∧ (Iv 30 (0) (11) (u_7.2.2.1 3)) ∧ (0 ≤ ((u_7.2.1 3)).toInt ∧ ((u_7.2.1 3)).toInt ≤ 12) ∧ (Iv 12 (0) (11) (u_7.2.2.1 4)) from ⟨hw_8_0, hw_8_1, hw_8_2, hw_8_3, hw_8_4, hw_8_5, hw_8_6⟩) [0, 1, 2, 3, 4, 5, 6, 7, 8, 9, 10, 11, 12, 13, 14, 15, 16, 17, 18, 19, 20, 21] (by decide) rfl (by decide) (by decide) dX10_goes_70
        · skip
          refine j_tin (pc := 38) (off := 33) (tgt := 71) C dX10_goes_38 (by omega) (by omega) (by rw [sw_10]; decide) (by decide) ?_
          refine j_iload_n (pc := 71) C dX10_goes_71 rfl 0 rfl ?_
          refine j_bipush (pc := 72) (v := 15) C dX10_goes_72 (by decide) ?_
          obtain ⟨v_13, ev_13⟩ : ∃ z : Int32, (u_7.2.1 0) &&& 15 = z := ⟨_, rfl⟩
          have el_15 : (15 : Int32).toInt = 15 := rfl
          have hv_13 : 0 ≤ v_13.toInt ∧ v_13.toInt ≤ 15 := by rw [← ev_13]; exact andm_r _ 4 (by decide) (by decide)
          refine j_iand (pc := 74) (v := v_13) C dX10_goes_74 ev_13 ?_
          exact j_iret (pc := 75) C hr hk (fun i => [].getD i 0, fun i => [v_13, (u_7.2.1 1), (u_7.2.1 2), (u_7.2.1 3)].getD i 0, fun i => [(u_7.2.2.1 0), (u_7.2.2.1 1), (u_7.2.2.1 2), (u_7.2.2.1 3), (u_7.2.2.1 4)].getD i (fun _ => 0), fun i => [].getD i (fun _ => 0)) rfl (show (0 ≤ ((u_7.2.1 1)).toInt ∧ ((u_7.2.1 1)).toInt ≤ 30) ∧ (Iv 12 (-1) (3) (u_7.2.2.1 0)) ∧ (Iv 12 (0) (7) (u_7.2.2.1 1)) ∧ (Iv 12 (0) (11) (u_7.2.2.1 2)) ∧ (Iv 30 (0) (11) (u_7.2.2.1 3)) ∧ (0 ≤ ((u_7.2.1 3)).toInt ∧ ((u_7.2.1 3)).toInt ≤ 12) ∧ (Iv 12 (0) (11) (u_7.2.2.1 4)) from ⟨hw_8_0, hw_8_1, hw_8_2, hw_8_3, hw_8_4, hw_8_5, hw_8_6⟩) [0, 1, 2, 3, 4, 5, 6, 7, 8, 9, 10, 11, 12, 13, 14, 15, 16, 17, 18, 19, 20, 21] (by decide) rfl (by decide) (by decide) dX10_goes_75
        · skip
          refine j_tin (pc := 38) (off := 38) (tgt := 76) C dX10_goes_38 (by omega) (by omega) (by rw [sw_10]; decide) (by decide) ?_
          refine j_iload_n (pc := 76) C dX10_goes_76 rfl 0 rfl ?_
          refine j_bipush (pc := 77) (v := 16) C dX10_goes_77 (by decide) ?_
          obtain ⟨v_14, ev_14⟩ : ∃ z : Int32, (((u_7.2.1 0) : Int32).toUInt32 >>> ((16 : Int32).toUInt32 &&& Int32.toUInt32 31)).toInt32 = z := ⟨_, rfl⟩
          have el_16 : (16 : Int32).toInt = 16 := rfl
          refine j_iushr (pc := 79) (v := v_14) C dX10_goes_79 ev_14 ?_
          exact j_iret (pc := 80) C hr hk (fun i => [].getD i 0, fun i => [v_14, (u_7.2.1 1), (u_7.2.1 2), (u_7.2.1 3)].getD i 0, fun i => [(u_7.2.2.1 0), (u_7.2.2.1 1), (u_7.2.2.1 2), (u_7.2.2.1 3), (u_7.2.2.1 4)].getD i (fun _ => 0), fun i => [].getD i (fun _ => 0)) rfl (show (0 ≤ ((u_7.2.1 1)).toInt ∧ ((u_7.2.1 1)).toInt ≤ 30) ∧ (Iv 12 (-1) (3) (u_7.2.2.1 0)) ∧ (Iv 12 (0) (7) (u_7.2.2.1 1)) ∧ (Iv 12 (0) (11) (u_7.2.2.1 2)) ∧ (Iv 30 (0) (11) (u_7.2.2.1 3)) ∧ (0 ≤ ((u_7.2.1 3)).toInt ∧ ((u_7.2.1 3)).toInt ≤ 12) ∧ (Iv 12 (0) (11) (u_7.2.2.1 4)) from ⟨hw_8_0, hw_8_1, hw_8_2, hw_8_3, hw_8_4, hw_8_5, hw_8_6⟩) [0, 1, 2, 3, 4, 5, 6, 7, 8, 9, 10, 11, 12, 13, 14, 15, 16, 17, 18, 19, 20, 21] (by decide) rfl (by decide) (by decide) dX10_goes_80
        · skip
          refine j_tout (pc := 38) (tgt := 81) C dX10_goes_38 (by omega) (by decide) ?_
          refine j_iconst (pc := 81) (v := (-1)) C dX10_goes_81 (by decide) ?_
          exact j_iret (pc := 82) C hr hk (fun i => [].getD i 0, fun i => [(-1), (u_7.2.1 1), (u_7.2.1 2), (u_7.2.1 3)].getD i 0, fun i => [(u_7.2.2.1 0), (u_7.2.2.1 1), (u_7.2.2.1 2), (u_7.2.2.1 3), (u_7.2.2.1 4)].getD i (fun _ => 0), fun i => [].getD i (fun _ => 0)) rfl (show (0 ≤ ((u_7.2.1 1)).toInt ∧ ((u_7.2.1 1)).toInt ≤ 30) ∧ (Iv 12 (-1) (3) (u_7.2.2.1 0)) ∧ (Iv 12 (0) (7) (u_7.2.2.1 1)) ∧ (Iv 12 (0) (11) (u_7.2.2.1 2)) ∧ (Iv 30 (0) (11) (u_7.2.2.1 3)) ∧ (0 ≤ ((u_7.2.1 3)).toInt ∧ ((u_7.2.1 3)).toInt ≤ 12) ∧ (Iv 12 (0) (11) (u_7.2.2.1 4)) from ⟨hw_8_0, hw_8_1, hw_8_2, hw_8_3, hw_8_4, hw_8_5, hw_8_6⟩) [0, 1, 2, 3, 4, 5, 6, 7, 8, 9, 10, 11, 12, 13, 14, 15, 16, 17, 18, 19, 20, 21] (by decide) rfl (by decide) (by decide) dX10_goes_82
      · skip
        have el_m1 : ((-1) : Int32).toInt = (-1) := rfl
        rw [i_eq] at c_9
        refine j_iconst (pc := 35) (v := (-1)) C dX10_goes_35 (by decide) ?_
        exact j_iret (pc := 36) C hr hk (fun i => [].getD i 0, fun i => [(-1), (u_7.2.1 1), (u_7.2.1 2), (u_7.2.1 3)].getD i 0, fun i => [(u_7.2.2.1 0), (u_7.2.2.1 1), (u_7.2.2.1 2), (u_7.2.2.1 3), (u_7.2.2.1 4)].getD i (fun _ => 0), fun i => [].getD i (fun _ => 0)) rfl (show (0 ≤ ((u_7.2.1 1)).toInt ∧ ((u_7.2.1 1)).toInt ≤ 30) ∧ (Iv 12 (-1) (3) (u_7.2.2.1 0)) ∧ (Iv 12 (0) (7) (u_7.2.2.1 1)) ∧ (Iv 12 (0) (11) (u_7.2.2.1 2)) ∧ (Iv 30 (0) (11) (u_7.2.2.1 3)) ∧ (0 ≤ ((u_7.2.1 3)).toInt ∧ ((u_7.2.1 3)).toInt ≤ 12) ∧ (Iv 12 (0) (11) (u_7.2.2.1 4)) from ⟨hw_8_0, hw_8_1, hw_8_2, hw_8_3, hw_8_4, hw_8_5, hw_8_6⟩) [0, 1, 2, 3, 4, 5, 6, 7, 8, 9, 10, 11, 12, 13, 14, 15, 16, 17, 18, 19, 20, 21] (by decide) rfl (by decide) (by decide) dX10_goes_36
    · skip
      have el_0 : (0 : Int32).toInt = 0 := rfl
      rw [i_eq] at c_6
      refine j_iconst (pc := 22) (v := (-1)) C dX10_goes_22 (by decide) ?_
      exact j_iret (pc := 23) C hr hk (fun i => [].getD i 0, fun i => [(-1), k_askings, k_cost, q_size].getD i 0, fun i => [k_shelf, k_stack, k_level, k_asking, q_ware].getD i (fun _ => 0), fun i => [].getD i (fun _ => 0)) rfl (show (0 ≤ (k_askings).toInt ∧ (k_askings).toInt ≤ 30) ∧ (Iv 12 (-1) (3) k_shelf) ∧ (Iv 12 (0) (7) k_stack) ∧ (Iv 12 (0) (11) k_level) ∧ (Iv 30 (0) (11) k_asking) ∧ (0 ≤ (q_size).toInt ∧ (q_size).toInt ≤ 12) ∧ (Iv 12 (0) (11) q_ware) from ⟨h_k_askings, h_k_shelf, h_k_stack, h_k_level, h_k_asking, h_q_size, h_q_ware⟩) [0, 19, 1, 2, 3, 4, 5, 6, 7, 8, 20, 21, 9, 10, 11, 12, 13, 14, 15, 16, 17, 18] (by decide) rfl (by decide) (by decide) dX10_goes_23
